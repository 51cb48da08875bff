/-! PURE: the class itself -/
/-- the class's samples -/
def CS (Sb : Nat → Nat → Int32) (Sl : Nat → Int32) (ss : List (List Nat)) : Prop := ss.length ≤ 8 ∧ ∀ s, s < ss.length → RR 40 (Sb s) (Sl s) (ss.getD s [])
theorem CS.sok {Sb : Nat → Nat → Int32} {Sl : Nat → Int32} {ss : List (List Nat)} (h : CS Sb Sl ss) {n : Nat} (h2 : 2 ≤ n) (h8 : n ≤ 8) : SOK ss n := by
  refine ⟨h.1, fun s => ?_, fun s => ?_, h2, h8⟩
  · by_cases hs : s < ss.length
    · exact (h.2 s hs).2.1
    · rw [List.getD_eq_getElem?_getD, List.getElem?_eq_none (by omega)]; simp
  · by_cases hs : s < ss.length
    · exact (h.2 s hs).2.2.2.1
    · rw [List.getD_eq_getElem?_getD, List.getElem?_eq_none (by omega)]; simp
theorem CS.len {Sb : Nat → Nat → Int32} {Sl : Nat → Int32} {ss : List (List Nat)} (h : CS Sb Sl ss) {s : Nat} (hs : s < ss.length) : (ss.getD s []).length ≤ 200 := by
  have := (h.2 s hs).2.1
  omega
theorem sX5_load {Sb : Nat → Nat → Int32} {Sl : Nat → Int32} {pf cov kind : Nat → Int32} {ss : List (List Nat)} (h : CS Sb Sl ss) {n : Nat} (h2 : 2 ≤ n) (h8 : n ≤ 8) {post : Int32 → Int32 → Int32 → (Nat → Int32) → (Nat → Int32) → (Nat → Int32) → Prop}
    (hp : ∀ pl' pf' cov' kind', RR 320 pf' pl' ((List.range (40 * ss.length)).map (Bp ss)) → CV cov' (fun _ => false) → KDx kind' ss n 320 → post 0 (nI n) pl' pf' cov' kind') : wX5_load 320 pf cov kind Sl Sb (nI ss.length) (nI n) post := by
  have hS := h.sok h2 h8
  obtain ⟨s1, s2, s3, s4, s5⟩ := id hS
  refine sX4_clear (sX5_coverFrom (a := 0) (b := 320) (Nat.le_refl _) (by omega) fun cov' g1 _ => sJ7_fill (by decide) fun kind' g2 => ?_)
  have hC : CV cov' (fun _ => false) := fun j hj => by rw [g1 j ⟨Nat.zero_le j, hj⟩, nar_z0]; rfl
  have key : ∀ d i pl1 pf1 kind1, i + d = ss.length → RR 320 pf1 pl1 ((List.range (40 * i)).map (Bp ss)) → KDx kind1 ss n (40 * i) → wX5_load_37 320 (nI n) Sl Sb (nI ss.length) (fun s4 s5 s6 _ => post 0 (nI n) s4 s5 cov' s6) (d + 1) pl1 pf1 kind1 (nI i) := by
    intro d
    induction d with
    | zero =>
      intro i pl1 pf1 kind1 hi hr hk
      have : i = ss.length := by omega
      subst this
      refine ⟨fun _ => hp pl1 pf1 cov' kind1 hr hC fun j hj => ?_, fun c => absurd (nI_le (Nat.le_refl _) (by omega)) c⟩
      rcases hk j hj with ⟨a, b⟩ | ⟨a, b⟩
      · exact Or.inl ⟨fun z => a ⟨by have := z.2.1; omega, z.2⟩, b⟩
      · exact Or.inr ⟨hj, b⟩
    | succ d ih =>
      intro i pl1 pf1 kind1 hi hr hk
      refine ⟨fun c => absurd c (nI_ge (by omega) (by omega)), fun _ => ⟨fun c => absurd (by rw [show (8 : Int32) = nI 8 from rfl, nI_leI (by decide) (by omega)] at c; exact c) (by omega), fun _ => ⟨vp_in_nI (by omega) (by omega), ?_⟩⟩⟩
      rw [nI_clamp (show i < 2 ^ 31 by omega)]
      have hri := h.2 i (by omega)
      refine sX4_addFrom (fr := 0) (n := 40) hr hri (by omega) fun f' len' hr' => ⟨vp_in_nI (by omega) (by omega), sX4_length ?_⟩
      have hl := hri.1
      rw [hl, show nI i * 40 = nI (40 * i) by rw [show (40 : Int32) = nI 40 from rfl, pk_mul, Nat.mul_comm]]
      have hrg : appC 320 ((List.range (40 * i)).map (Bp ss)) ((List.range 40).map fun j => (ss.getD i []).getD (0 + j) 0) = (List.range (40 * (i + 1))).map (Bp ss) := by
        rw [appC_fit (by simp; omega), show 40 * (i + 1) = 40 * i + 40 by omega, List.range_add, List.map_append, List.map_map]
        congr 1
        refine List.map_congr_left fun j hj => ?_
        rw [List.mem_range] at hj
        show _ = Bp ss (40 * i + j)
        unfold Bp
        rw [show (40 * i + j) / 40 = i by omega, show (40 * i + j) % 40 = j by omega, Nat.zero_add]
      rw [hrg] at hr'
      refine sX5_markKinds hS (by omega) hr' hk fun kind2 hk2 y hy => ?_
      rw [hy, nI_1]
      exact ih (i + 1) len' f' kind2 (by omega) hr' hk2
  refine ⟨_, key ss.length 0 0 pf kind' (by omega) (RR.nil pf (by decide)) fun j hj => Or.inl ⟨fun z => by omega, g2 j hj⟩⟩
theorem c_lt {x : Int32} {a : Int32} {a' : Nat} (h : a.toInt = a') : x < a ↔ x.toInt < (a' : Int) := by rw [lt_toInt, h]
theorem c_gt {x : Int32} {a : Int32} {a' : Nat} (h : a.toInt = a') : a < x ↔ (a' : Int) < x.toInt := by rw [lt_toInt, h]
theorem c_le {x : Int32} {a : Int32} {a' : Nat} (h : a.toInt = a') : x ≤ a ↔ x.toInt ≤ (a' : Int) := by rw [le_toInt, h]
theorem c_ge {x : Int32} {a : Int32} {a' : Nat} (h : a.toInt = a') : a ≤ x ↔ (a' : Int) ≤ x.toInt := by rw [le_toInt, h]
theorem sX6_isNumber {x : Int32} {post : Int32 → Prop} (h1 : Rg x 0 5 → post 1) (h0 : ¬ Rg x 0 5 → post 0) : wX6_isNumber x post := by
  unfold wX6_isNumber
  rw [c_lt (a' := 0) rfl, c_ge (a' := 6) rfl]
  unfold Rg at h1 h0
  exact ⟨fun c => h0 (by omega), fun c => ⟨fun c2 => h0 (by omega), fun c2 => h1 (by omega)⟩⟩
theorem sX6_isId {x : Int32} {post : Int32 → Prop} (h1 : Rg x 1 255 → post 1) (h0 : ¬ Rg x 1 255 → post 0) : wX6_isId x post := by
  unfold wX6_isId
  rw [c_lt (a' := 1) rfl, c_gt (a' := 255) rfl]
  unfold Rg at h1 h0
  exact ⟨fun c => h0 (by omega), fun c => ⟨fun c2 => h0 (by omega), fun c2 => h1 (by omega)⟩⟩
theorem sX6_isSample {x : Int32} {m : Nat} (hm : m < 1000) {post : Int32 → Prop} (h1 : ∀ k, k < m → x = nI k → post 1) (h0 : (∀ k, k < m → ¬ x = nI k) → post 0) : wX6_isSample (nI m) x post := by
  refine ⟨fun c => h0 fun k hk z => ?_, fun c => ⟨fun c2 => h0 fun k hk z => ?_, fun c2 => ?_⟩⟩
  · subst z; exact absurd c (nI_pos (by omega))
  · subst z; exact absurd c2 (nI_ge hk (by omega))
  · obtain ⟨k, hk, e⟩ := nI_of c
    subst e
    rw [nI_leI (by omega) hk] at c2
    exact h1 k (by omega) rfl
/-- the class's dictionaries -/
def CD (Di Dp Dc Dl : Nat → Int32) (Db : Nat → Nat → Int32) (ids ns cs : Nat → Nat) (bss : Nat → List Nat) : Prop := ∀ d, d < 6 → Di d = nI (ids d) ∧ ids d < 256 ∧ (ids d ≠ 0 → Dp d = nI (ns d) ∧ Dc d = nI (cs d) ∧ RR 80 (Db d) (Dl d) (bss d))
theorem CD.id {Di Dp Dc Dl : Nat → Int32} {Db : Nat → Nat → Int32} {ids ns cs : Nat → Nat} {bss : Nat → List Nat} (h : CD Di Dp Dc Dl Db ids ns cs bss) : MId Di ids := fun d hd => ⟨(h d hd).1, (h d hd).2.1⟩
theorem sX0_isThere {i : Nat} (hi : i < 256) {post : Int32 → Prop} (h1 : i ≠ 0 → post 1) (h0 : i = 0 → post 0) : wX0_isThere (nI i) post := by
  refine ⟨fun c => h0 ?_, fun c => h1 fun z => c ?_⟩
  · rw [show (0 : Int32) = nI 0 from rfl, nI_eq (by omega) (by decide)] at c; exact c
  · rw [z]; rfl
theorem sX6_thereAt {Di : Nat → Int32} {ids : Nat → Nat} (h : MId Di ids) {x : Int32} {post : Option Nat → Prop} (h1 : ∀ d, Thr ids x d → post (some d)) (h0 : (∀ d, ¬ Thr ids x d) → post none) : wX6_thereAt Di x post := by
  refine sX6_isNumber (fun c => ⟨fun q => absurd q (by decide), fun _ => ?_⟩) (fun c => ⟨fun _ => h0 fun d z => c ?_, fun q => absurd rfl q⟩)
  · obtain ⟨d, -, b, e⟩ := c.nI (by decide)
    subst e
    have hv := vp_in_nI (show d < 6 by omega) (show (6 : Nat) < 2 ^ 31 by decide)
    obtain ⟨e1, e2⟩ := h d (by omega)
    rw [nI_clamp (by omega), e1]
    refine ⟨hv, sX0_isThere e2 (fun q => ⟨fun z => absurd z (by decide), fun _ => ⟨hv, h1 d ⟨by omega, rfl, q⟩⟩⟩) (fun q => ⟨fun _ => h0 fun d' z => ?_, fun z => absurd rfl z⟩)⟩
    obtain ⟨z1, z2, z3⟩ := z
    rw [nI_eq (by omega) (by omega)] at z2
    subst z2
    exact z3 q
  · obtain ⟨z1, z2, z3⟩ := z
    rw [z2, Rg_nI (by omega)]
    omega
theorem sX6_noneOrThereAt {Di : Nat → Int32} {ids : Nat → Nat} (h : MId Di ids) {x : Int32} {post : Option Nat → Prop} (h6 : x = -1 → post (some 6)) (h1 : ∀ d, Thr ids x d → post (some d)) (h0 : ¬ x = -1 → (∀ d, ¬ Thr ids x d) → post none) : wX6_noneOrThereAt Di x post :=
  ⟨fun q => sX6_thereAt h (fun d z => ⟨fun e => (nomatch e), fun k _ e => by cases e; exact h1 d z⟩) (fun z => ⟨fun _ => h0 q z, fun k _ e => (nomatch e)⟩), h6⟩
theorem sX6_firstWithId {Di : Nat → Int32} {ids : Nat → Nat} (h : MId Di ids) {i : Nat} (hi : i < 256) {post : Option Nat → Prop} (h6 : i = 0 → post (some 6)) (h1 : i ≠ 0 → post (fst6 ids i 6 0)) : wX6_firstWithId Di (nI i) post := by
  refine ⟨fun q => ?_, fun q => h6 ?_⟩
  · have h1 := h1 fun z => q (by rw [z]; rfl)
    have key : ∀ f d, d + f = 6 → post (fst6 ids i f d) → wX6_firstWithId_11 Di (nI i) post (fun _ => post none) (f + 1) (nI d) := by
      intro f
      induction f with
      | zero =>
        intro d hd hq
        have : d = 6 := by omega
        subst this
        exact ⟨fun _ => hq, fun c => absurd (by decide) c⟩
      | succ f ih =>
        intro d hd hq
        obtain ⟨e1, e2⟩ := h d (by omega)
        have hv := vp_in_nI (show d < 6 by omega) (show (6 : Nat) < 2 ^ 31 by decide)
        refine ⟨fun c => absurd (by rw [show (6 : Int32) = nI 6 from rfl, nI_leI (by decide) (by omega)] at c; exact c) (by omega), fun _ => ⟨hv, ?_⟩⟩
        show (¬ Di (nI d).toNatClampNeg = nI i → _) ∧ _
        rw [nI_clamp (by omega), e1, nI_eq (by omega) (by omega)]
        have hf : fst6 ids i (f + 1) d = if ids d = i then some d else fst6 ids i f (d + 1) := rfl
        rw [hf] at hq
        refine ⟨fun q y hy => ?_, fun q => ⟨hv, ?_⟩⟩
        · rw [if_neg q] at hq
          rw [hy, nI_1]
          exact ih (d + 1) (by omega) hq
        · rw [if_pos q] at hq
          exact hq
    exact ⟨_, key 6 0 rfl h1⟩
  · rw [show (0 : Int32) = nI 0 from rfl, nI_eq (by omega) (by decide)] at q
    exact q
theorem sX6_countThere {Di : Nat → Int32} {ids : Nat → Nat} (h : MId Di ids) {post : Int32 → Prop} (hp : post (nI (cnt6 ids 6))) : wX6_countThere Di post := by
  have key : ∀ e d, d + e = 6 → wX6_countThere_4 Di (fun y1 _ => post y1) (e + 1) (nI (cnt6 ids d)) (nI d) := by
    intro e
    induction e with
    | zero =>
      intro d hd
      have : d = 6 := by omega
      subst this
      exact ⟨fun _ => hp, fun c => absurd (by decide) c⟩
    | succ e ih =>
      intro d hd
      obtain ⟨e1, e2⟩ := h d (by omega)
      refine ⟨fun c => absurd (by rw [show (6 : Int32) = nI 6 from rfl, nI_leI (by decide) (by omega)] at c; exact c) (by omega), fun _ => ⟨vp_in_nI (by omega) (by omega), ?_⟩⟩
      rw [nI_clamp (by omega), e1]
      have hn := ih (d + 1) (by omega)
      have hc : cnt6 ids (d + 1) = cnt6 ids d + (if ids d = 0 then 0 else 1) := rfl
      rw [hc] at hn
      refine sX0_isThere e2 (fun q => ⟨fun z => absurd z (by decide), fun _ y8 h8 y9 h9 => ?_⟩) (fun q => ⟨fun _ y7 h7 => ?_, fun z => absurd rfl z⟩)
      · rw [if_neg q] at hn
        rw [h8, h9, nI_1, nI_1]; exact hn
      · rw [if_pos q] at hn
        rw [h7, nI_1]; exact hn
  exact ⟨_, key 6 0 rfl⟩
theorem CS.short {Sb : Nat → Nat → Int32} {Sl : Nat → Int32} {ss : List (List Nat)} (h : CS Sb Sl ss) : ∀ x ∈ ss, x.length ≤ 200 := by
  intro x hx
  obtain ⟨i, hi, rfl⟩ := List.mem_iff_getElem.mp hx
  have := h.len hi
  rw [List.getD_eq_getElem?_getD, List.getElem?_eq_getElem hi] at this
  exact this
theorem sX6_bytesOfSamples {Sb : Nat → Nat → Int32} {Sl : Nat → Int32} {ss : List (List Nat)} (h : CS Sb Sl ss) {capw : Nat} {wf : Nat → Int32} {wl : Int32} {ws : List Nat} (hw : RR capw wf wl ws) (hA : ws.length ≤ 80) {s0 l0 : Int32} {j0 e0 a0 c0 h0 : Nat → Int32} {post : Int32 → Int32 → Int32 → (Nat → Int32) → (Nat → Int32) → (Nat → Int32) → (Nat → Int32) → (Nat → Int32) → Prop}
    (hp : ∀ s l j e a c h, post (nI (sumPack ws ss)) s l j e a c h) : wX6_bytesOfSamples capw (nI ss.length) s0 l0 j0 e0 a0 c0 h0 wl wf Sl Sb post := by
  have h8 := h.1
  have key : ∀ d i s l j e a c h', i + d = ss.length → wX6_bytesOfSamples_4 capw (nI ss.length) wl wf Sl Sb (fun s1 s2 s3 s4 s5 s6 s7 y8 _ => post y8 s1 s2 s3 s4 s5 s6 s7) (d + 1) s l j e a c h' (nI (sumPack ws (ss.take i))) (nI i) := by
    intro d
    induction d with
    | zero =>
      intro i s l j e a c h' hi
      have : i = ss.length := by omega
      subst this
      rw [List.take_length]
      exact ⟨fun _ => hp _ _ _ _ _ _ _, fun c => absurd (nI_le (Nat.le_refl _) (by omega)) c⟩
    | succ d ih =>
      intro i s l j e a c h' hi
      refine ⟨fun c => absurd c (nI_ge (by omega) (by omega)), fun _ => ⟨vp_in_nI (by omega) (by omega), ?_⟩⟩
      rw [nI_clamp (show i < 2 ^ 31 by omega)]
      refine sX3_measure (h.2 i (by omega)) hw hA (h.len (by omega)) fun j1 e1 a1 c1 h1 _ y20 h20 y21 h21 => ?_
      rw [h20, h21, nI_1, nI_add]
      have := ih (i + 1) (nI ws.length) (nI (ss.getD i []).length) j1 e1 a1 c1 h1 (by omega)
      rw [take_snocL (by omega), sumPack_snoc] at this
      exact this
  exact ⟨_, key ss.length 0 s0 l0 j0 e0 a0 c0 h0 (by omega)⟩
theorem sX6_leaveOut {Sb : Nat → Nat → Int32} {Sl : Nat → Int32} {ss : List (List Nat)} (h : CS Sb Sl ss) {wf tf : Nat → Int32} {wl tl : Int32} {aw n c : Nat} {bs : List Nat} (hw : RR 80 wf wl bs) (hbs : bs.length = n * c) (hc80 : c ≤ 80) (hn80 : n ≤ 80) {s0 l0 : Int32} {j0 e0 a0 c0 h0 : Nat → Int32} {post : Int32 → Int32 → (Nat → Int32) → Int32 → Int32 → (Nat → Int32) → (Nat → Int32) → (Nat → Int32) → (Nat → Int32) → (Nat → Int32) → Int32 → Int32 → (Nat → Int32) → Prop}
    (hp : ∀ t1 t2 s l j e a cc h wl' wf', RR 80 wf' wl' (trm ss n c 0 c bs).2 → post (nI (c - (trm ss n c 0 c bs).1)) t1 t2 s l j e a cc h (nI (trm ss n c 0 c bs).1) wl' wf') : wX6_leaveOutIdlePieces 80 80 aw (nI ss.length) tl tf s0 l0 j0 e0 a0 c0 h0 (nI n) (nI c) wl wf Sl Sb post := by
  refine ⟨rfl, sX6_bytesOfSamples h hw hw.2.1 fun s1 l1 j1 e1 a1 c1 h1 => ?_⟩
  have key : ∀ f k i c1 bs1 tl tf s l j e a cc h' wl wf, k + f = c1 → i + f = c → RR 80 wf wl bs1 → bs1.length = n * c1 → c1 ≤ c → trm ss n f k c1 bs1 = trm ss n c 0 c bs →
      wX6_leaveOutIdlePieces_20 80 80 (nI ss.length) (nI n) Sl Sb (nI c) (fun s11 s12 s13 s14 s15 s16 s17 s18 s19 s20 s21 s22 _ _ _ => wX0_pieces s20 (fun r44 => post (nI c - r44) s11 s12 s13 s14 s15 s16 s17 s18 s19 s20 s21 s22)) (f + 1) tl tf s l j e a cc h' (nI c1) wl wf (nI (sumPack bs1 ss)) (nI k) (nI i) := by
    intro f
    induction f with
    | zero =>
      intro k i c1 bs1 tl tf s l j e a cc h' wl wf hk hi hr hl hcc hT
      have : i = c := by omega
      subst this
      refine ⟨fun _ => ?_, fun q => absurd (nI_le (Nat.le_refl _) (by omega)) q⟩
      have hT : (c1, bs1) = trm ss n i 0 i bs := hT
      rw [← hT] at hp
      show post (nI i - nI c1) _ _ _ _ _ _ _ _ _ (nI c1) wl wf
      rw [pk_sub hcc]
      exact hp _ _ _ _ _ _ _ _ _ wl wf hr
    | succ f ih =>
      intro k i c1 bs1 tl tf s l j e a cc h' wl wf hk hi hr hl hcc hT
      obtain ⟨w1, w2⟩ := wo_len hl (show k < c1 by omega)
      have b1 := sumPack_le (wo n k bs1) ss h.short
      have b2 := sumPack_le bs1 ss h.short
      have h8 := h.1
      have e' : trm ss n (f + 1) k c1 bs1 = if sumPack (wo n k bs1) ss ≤ sumPack bs1 ss then trm ss n f k (c1 - 1) (wo n k bs1) else trm ss n f (k + 1) c1 bs1 := rfl
      rw [e'] at hT
      refine ⟨fun q => absurd q (nI_ge (by omega) (by omega)), fun _ => sX0_copyWithout hr (by decide) hr.2.1 w2 fun tf' tl' hr' => ?_⟩
      have hr' : RR 80 tf' tl' (wo n k bs1) := hr'
      refine sX6_bytesOfSamples h hr' hr'.2.1 fun s2 l2 j2 e2 a2 c2 h2 => ?_
      rw [nI_ltI (by omega) (by omega)]
      refine ⟨fun q y38 h38 y39 h39 => ?_, fun q => ?_⟩
      · rw [if_neg (by omega)] at hT
        rw [h38, h39, nI_1, nI_1]
        exact ih (k + 1) (i + 1) c1 bs1 tl' tf' s2 l2 j2 e2 a2 c2 h2 wl wf (by omega) (by omega) hr hl hcc hT
      · rw [if_pos (by omega)] at hT
        refine sX0_removePiece hr (by omega) (by omega) w2 fun wf' wl' hr2 y43 h43 => ?_
        rw [h43, nI_1]
        exact ih k (i + 1) (c1 - 1) (wo n k bs1) tl' tf' s2 l2 j2 e2 a2 c2 h2 wl' wf' (by omega) (by omega) hr2 w1 (by omega) hT
  exact ⟨_, key c 0 0 c bs tl tf s1 l1 j1 e1 a1 c1 h1 wl wf (by omega) (by omega) hw hbs (Nat.le_refl _) rfl⟩
theorem sX6_feed {f : Nat → Int32} {len p1 : Int32} {w : Int64} {xs : List Nat} (h : RR 200 f len xs) {post : Int32 → Int32 → (Nat → Int32) → Prop}
    (h1 : ¬ Rg p1 1 8 → post (-102) len f) (h2 : ∀ n, 1 ≤ n → n ≤ 8 → p1 = nI n → ¬ xs.length + n ≤ 200 → post (-103) len f)
    (h3 : ∀ n, 1 ≤ n → n ≤ 8 → p1 = nI n → xs.length + n ≤ 200 → ∀ f' len', RR 200 f' len' (xs ++ fdL w n) → post (nI (xs.length + n)) len' f') : wX6_feed 200 len f p1 w post := by
  unfold wX6_feed
  rw [c_lt (a' := 1) rfl, c_le (a' := 8) rfl]
  refine ⟨fun c => h1 (by unfold Rg; omega), fun c => ⟨fun c2 => ?_, fun c2 => h1 (by unfold Rg; omega)⟩⟩
  obtain ⟨n, a, b, e⟩ := Rg.nI (x := p1) (a := 1) (b := 8) (by decide) ⟨by omega, by omega⟩
  rw [e]
  refine sX4_hasRoom h (by omega) (fun q => ⟨fun _ y hy => ?_, fun z => absurd z (by decide)⟩) (fun q => ⟨fun z => absurd rfl z, fun _ => h2 n a b e q⟩)
  have key : ∀ k v zs f' len', k ≤ 8 → v = nI k - 1 → zs ++ fdL w k = xs ++ fdL w n → RR 200 f' len' zs → wX6_feed_33 200 w (fun s6 s7 _ => wX4_length s6 (fun r13 => post r13 s6 s7)) (k + 1) len' f' v := by
    intro k
    induction k with
    | zero =>
      intro v zs f' len' hk hv hz hM
      subst hv
      refine ⟨fun _ => ?_, fun c => absurd (by decide) c⟩
      have hz : zs ++ [] = xs ++ fdL w n := hz
      rw [List.append_nil] at hz
      subst hz
      have := h3 n a b e q f' len' hM
      show post len' len' f'
      have hl := hM.1
      rw [List.length_append, fdL_len] at hl
      rw [← hl] at this
      exact this
    | succ k ih =>
      intro v zs f' len' hk hv hz hM
      rw [nI_pred] at hv
      subst hv
      have hlen : zs.length + (k + 1) = xs.length + n := by
        have := congrArg List.length hz
        rw [List.length_append, List.length_append, fdL_len, fdL_len] at this
        exact this
      refine ⟨fun c => absurd c (nI_pos (by omega)), fun _ => ?_⟩
      refine RR.add (b := bw w k) hM (by omega) (feed_cls w (by omega)) fun f2 l2 hr y11 h11 => ?_
      refine ih y11 (zs ++ [bw w k]) f2 l2 (by omega) (by rw [h11, sub1_eq]) ?_ hr
      rw [List.append_assoc]
      exact hz
  exact ⟨_, key n y xs f len (by omega) hy rfl h⟩
theorem CS.snoc {Sb : Nat → Nat → Int32} {Sl : Nat → Int32} {ss : List (List Nat)} {xs : List Nat} {f : Nat → Int32} {len : Int32} (h : CS Sb Sl ss) (h8 : ss.length < 8) (hr : RR 40 f len xs) : CS (va_up Sb ss.length f) (va_up Sl ss.length len) (ss ++ [xs]) := by
  refine ⟨by rw [List.length_append, List.length_singleton]; omega, fun s hs => ?_⟩
  rw [List.length_append, List.length_singleton] at hs
  by_cases hsl : s < ss.length
  · have e : (ss ++ [xs]).getD s [] = ss.getD s [] := by
      rw [List.getD_eq_getElem?_getD, List.getD_eq_getElem?_getD, List.getElem?_append_left hsl]
    rw [e, va_up_ne _ _ (by omega), va_up_ne _ _ (by omega)]
    exact h.2 s hsl
  · have : s = ss.length := by omega
    subst this
    have e : (ss ++ [xs]).getD ss.length [] = xs := by
      rw [List.getD_eq_getElem?_getD, List.getElem?_append_right (Nat.le_refl _), Nat.sub_self]; rfl
    rw [e, va_up_self, va_up_self]
    exact hr
theorem sX6_sample {tf Sl : Nat → Int32} {Sb : Nat → Nat → Int32} {tl : Int32} {xs : List Nat} {ss : List (List Nat)} (hT : RR 200 tf tl xs) (hS : CS Sb Sl ss) {post : Int32 → Int32 → Int32 → (Nat → Int32) → (Nat → Nat → Int32) → Prop}
    (h1 : ¬ (1 ≤ xs.length ∧ xs.length ≤ 40) → post (-102) (nI ss.length) tl Sl Sb) (h2 : 1 ≤ xs.length → xs.length ≤ 40 → ss.length = 8 → post (-103) (nI ss.length) tl Sl Sb)
    (h3 : 1 ≤ xs.length → xs.length ≤ 40 → ss.length < 8 → ∀ Sl' Sb', CS Sb' Sl' (ss ++ [xs]) → post (nI ss.length) (nI (ss.length + 1)) 0 Sl' Sb') : wX6_sample 200 (nI ss.length) tl tf Sl Sb post := by
  have hl := hT.1
  have hl2 := hT.2.1
  have h8 := hS.1
  show (tl < 1 → _) ∧ (¬ tl < 1 → ((tl ≤ 40 → _) ∧ (¬ tl ≤ 40 → _)))
  refine ⟨fun c => h1 ?_, fun c => ⟨fun c2 => ?_, fun c2 => h1 ?_⟩⟩
  · rw [hl, show (1 : Int32) = nI 1 from rfl, nI_ltI (by omega) (by decide)] at c; omega
  · rw [hl, show (1 : Int32) = nI 1 from rfl, nI_ltI (by omega) (by decide)] at c
    rw [hl, show (40 : Int32) = nI 40 from rfl, nI_leI (by omega) (by decide)] at c2
    rw [show (8 : Int32) = nI 8 from rfl, nI_ltI (by omega) (by decide)]
    refine ⟨fun q => ⟨vp_in_nI q (by decide), sX4_become (by decide) hT c2 fun f' len' hr y10 h10 => ?_⟩, fun q => h2 (by omega) c2 (by omega)⟩
    rw [h10, nI_1, nI_clamp (by omega)]
    exact h3 (by omega) c2 q _ _ (hS.snoc q hr)
  · rw [hl, show (40 : Int32) = nI 40 from rfl, nI_leI (by omega) (by decide)] at c2; omega
