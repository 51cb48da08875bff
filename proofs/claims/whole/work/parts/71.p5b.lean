/-! PURE: the class's trainer, continued -/
theorem kind_of {kind : Nat → Int32} {ss : List (List Nat)} {n i : Nat} (hK : KDx kind ss n 320) (hi : i < 320) (hv : Vp ss n i) : ∃ k, k ≤ i ∧ kind i = nI k ∧ isF ss n k ∧ rEq ss n k i := by
  rcases hK i hi with ⟨a, -⟩ | ⟨-, -, h⟩
  · exact absurd ⟨hi, hv⟩ a
  · exact h
/-- all counts at once -/
theorem sX5_countRows {cov kind c0 f0 : Nat → Int32} {ss : List (List Nat)} {n : Nat} (hS : SOK ss n) {C : Nat → Bool} (hC : CV cov C) (hK : KDx kind ss n 320) {post : (Nat → Int32) → (Nat → Int32) → Prop} (hp : ∀ count ff, (∀ k, k < 320 → isF ss n k → count k = nI (cnt ss n C k)) → post count ff) : wX5_countRows (nI n) cov kind c0 f0 post := by
  obtain ⟨s1, s2, s3, s4, s5⟩ := id hS
  refine sJ7_fill (by decide) fun c1 hc1 => sJ7_fill (by decide) fun f1 hf1 => ?_
  have key : ∀ d i (cN fN : Nat → Nat) count ff, i + d = 320 → (∀ k, k < 320 → count k = nI (cN k) ∧ ff k = nI (fN k) ∧ cN k ≤ i ∧ fN k ≤ i + 8) → (∀ k, k < 320 → isF ss n k → cN k + (gr (fun j => Fr ss n C j ∧ rEq ss n k j) n d i (fN k)).length = cnt ss n C k) → wX5_countRows_18 (nI n) cov kind (fun s3 s4 _ => post s3 s4) (d + 1) count ff (nI i) := by
    intro d
    induction d with
    | zero =>
      intro i cN fN count ff hi h1 h2
      have : i = 320 := by omega
      subst this
      refine ⟨fun _ => hp count ff fun k hk hF => ?_, fun c => absurd (by decide) c⟩
      rw [(h1 k hk).1, ← h2 k hk hF]
      rfl
    | succ d ih =>
      intro i cN fN count ff hi h1 h2
      have next : ∀ (cN' fN' : Nat → Nat) count' ff', (∀ k, k < 320 → count' k = nI (cN' k) ∧ ff' k = nI (fN' k) ∧ cN' k ≤ i + 1 ∧ fN' k ≤ i + 1 + 8) → (∀ k, k < 320 → isF ss n k → cN' k + (gr (fun j => Fr ss n C j ∧ rEq ss n k j) n d (i + 1) (fN' k)).length = cnt ss n C k) → ∀ y : Int32, y = nI i + 1 → wX5_countRows_18 (nI n) cov kind (fun s3 s4 _ => post s3 s4) (d + 1) count' ff' y := fun cN' fN' count' ff' g1 g2 y hy => by
        rw [hy, nI_1]
        exact ih (i + 1) cN' fN' count' ff' (by omega) g1 g2
      have keep : (∀ k, k < 320 → isF ss n k → ¬ ((Fr ss n C i ∧ rEq ss n k i) ∧ fN k ≤ i)) → ∀ y : Int32, y = nI i + 1 → wX5_countRows_18 (nI n) cov kind (fun s3 s4 _ => post s3 s4) (d + 1) count ff y := fun hno => next cN fN count ff (fun k hk => by obtain ⟨a, b, c, e⟩ := h1 k hk; exact ⟨a, b, by omega, by omega⟩) (fun k hk hF => by
        have := h2 k hk hF
        rw [gr_n (hno k hk hF)] at this
        exact this)
      refine ⟨fun c => absurd (by rw [show (320 : Int32) = nI 320 from rfl, nI_leI (by decide) (by omega)] at c; exact c) (by omega), fun _ => ?_⟩
      refine sX5_isFreeRow hS hC hK (by omega) (fun hf => ⟨fun c => absurd c (by decide), fun _ => ?_⟩) (fun hf => ⟨fun _ => keep fun k _ _ z => hf z.1.1, fun c => absurd rfl c⟩)
      obtain ⟨k, hk, e, hF, hE⟩ := kind_of hK (by omega) hf.1
      obtain ⟨a, b, c, g⟩ := h1 k (by omega)
      rw [nI_clamp (show i < 2 ^ 31 by omega), e, nI_clamp (show k < 2 ^ 31 by omega), b, nI_ltI (by omega) (by omega)]
      refine ⟨vp_in_nI (by omega) (by omega), vp_in_nI (by omega) (by omega), fun q => keep fun k' _ hF' z => ?_, fun q => ⟨vp_in_nI (by omega) (by omega), vp_in_nI (by omega) (by omega), vp_in_nI (by omega) (by omega), vp_in_nI (by omega) (by omega), vp_in_nI (by omega) (by omega), ?_⟩⟩
      · have := first_un hF hF' hE z.1.2
        subst this
        omega
      · rw [a, nI_add]
        refine next (fun j => if j = k then cN k + 1 else cN j) (fun j => if j = k then i + n else fN j) _ _ (fun j hj => ?_) (fun j hj hF' => ?_)
        · by_cases ej : j = k
          · subst ej; rw [pk_us, pk_us, if_pos rfl, if_pos rfl]; exact ⟨nI_1 _, rfl, by omega, by omega⟩
          · rw [pk_un ej, pk_un ej, if_neg ej, if_neg ej]; obtain ⟨a', b', c', e'⟩ := h1 j hj; exact ⟨a', b', by omega, by omega⟩
        · have := h2 j hj hF'
          by_cases ej : j = k
          · subst ej
            rw [gr_y ⟨hf, hE⟩ (by omega), List.length_cons] at this
            rw [if_pos rfl, if_pos rfl]; omega
          · rw [gr_n (fun z => ej (first_un hF' hF z.1.2 hE))] at this
            rw [if_neg ej, if_neg ej]; exact this
  refine ⟨_, key 320 0 (fun _ => 0) (fun _ => 0) c1 f1 (by omega) (fun k hk => ⟨hc1 k hk, hf1 k hk, by omega, by omega⟩) (fun k hk hF => ?_)⟩
  rw [Nat.zero_add]; rfl
def optI (o : Option Nat) : Int32 := match o with
  | none => -1
  | some b => nI b
theorem cnt_le {ss : List (List Nat)} {n : Nat} {C : Nat → Bool} {r : Nat} : cnt ss n C r ≤ 320 := by
  have : ∀ (P : Nat → Prop) f i ff, (gr P n f i ff).length ≤ f := by
    intro P f
    induction f with
    | zero => intro i ff; exact Nat.le_refl 0
    | succ f ih =>
      intro i ff
      by_cases hp : P i ∧ ff ≤ i
      · rw [gr_y hp.1 hp.2, List.length_cons]; have := ih (i + 1) (i + n); omega
      · rw [gr_n hp]; have := ih (i + 1) ff; omega
  exact this _ 320 0 0
theorem bstN_le {ss : List (List Nat)} {n : Nat} {C : Nat → Bool} (N : Nat) : (bstN ss n C N).2 ≤ 320 := by
  cases h : (bstN ss n C N).1 with
  | none => rw [bstN_none N h]; omega
  | some b => rw [(bstN_some N h).2.2]; exact cnt_le
theorem sX5_placeOfMost {cov kind count : Nat → Int32} {ss : List (List Nat)} {n : Nat} (hS : SOK ss n) {C : Nat → Bool} (hC : CV cov C) (hK : KDx kind ss n 320) (hc : ∀ k, k < 320 → isF ss n k → count k = nI (cnt ss n C k)) {post : Int32 → Prop} (hp : post (optI (bst ss n C).1)) : wX5_placeOfMost (nI n) cov kind count post := by
  have key : ∀ d i, i + d = 320 → wX5_placeOfMost_6 (nI n) cov kind count (fun y1 _ _ => post y1) (d + 1) (optI (bstN ss n C i).1) (nI (bstN ss n C i).2) (nI i) := by
    intro d
    induction d with
    | zero =>
      intro i hi
      have : i = 320 := by omega
      subst this
      exact ⟨fun _ => hp, fun c => absurd (by decide) c⟩
    | succ d ih =>
      intro i hi
      have hle := bstN_le (ss := ss) (n := n) (C := C) i
      have keep : ¬ (Fr ss n C i ∧ (bstN ss n C i).2 < cnt ss n C i) → ∀ y : Int32, y = nI i + 1 → wX5_placeOfMost_6 (nI n) cov kind count (fun y1 _ _ => post y1) (d + 1) (optI (bstN ss n C i).1) (nI (bstN ss n C i).2) y := fun hno y hy => by
        have := ih (i + 1) (by omega)
        rw [bstN_n hno] at this
        rw [hy, nI_1]; exact this
      refine ⟨fun c => absurd (by rw [show (320 : Int32) = nI 320 from rfl, nI_leI (by decide) (by omega)] at c; exact c) (by omega), fun _ => ⟨vp_in_nI (by omega) (by omega), ?_⟩⟩
      rw [nI_clamp (show i < 2 ^ 31 by omega)]
      rcases hK i (by omega) with ⟨a, b⟩ | ⟨-, hv, k, hk, e, hF, hE⟩
      · exact ⟨fun _ => keep fun z => a ⟨by omega, z.1.1⟩, fun c => absurd b c⟩
      · have hcc : cnt ss n C k = cnt ss n C i := by unfold cnt; rw [cL_congr hE]
        have hcl := cnt_le (ss := ss) (n := n) (C := C) (r := i)
        refine ⟨fun c => absurd (e.symm.trans c) (nI_ne_m1 (by omega)), fun _ => ?_⟩
        rw [e, nI_clamp (show k < 2 ^ 31 by omega), hc k (by omega) hF, hcc, nI_leI (by omega) (by omega)]
        refine ⟨vp_in_nI (by omega) (by omega), vp_in_nI (by omega) (by omega), fun q => keep fun z => by omega, fun q => ?_⟩
        refine sX5_isFreeRow hS hC hK (by omega) (fun hf => ⟨fun c => absurd c (by decide), fun _ => ⟨vp_in_nI (by omega) (by omega), vp_in_nI (by omega) (by omega), fun y17 h17 y18 h18 => ?_⟩⟩) (fun hf => ⟨fun _ => keep fun z => hf z.1, fun c => absurd rfl c⟩)
        have := ih (i + 1) (by omega)
        rw [bstN_y hf (by omega)] at this
        rw [h17, h18, nI_1]
        exact this
  exact ⟨_, key 320 0 (by omega)⟩
theorem nar_z0 : vp_nar .boolean 0 = 0 := by decide
theorem nar_z1 : vp_nar .boolean 1 = 1 := by decide
theorem cvr_app {C : Nat → Bool} {n : Nat} {l : List Nat} {i j : Nat} : cvr C n (l ++ [i]) j = (cvr C n l j || (decide (i ≤ j) && decide (j < i + n))) := by
  unfold cvr
  rw [List.any_append]
  simp [Bool.or_assoc]
/-- a row is free behind the picks just where it was and lies behind the last one -/
theorem Fr_cvr {ss : List (List Nat)} {n : Nat} {C : Nat → Bool} {l : List Nat} {i ff : Nat} (hn : 1 ≤ n) (h1 : ∀ x ∈ l, x < i ∧ x + n ≤ ff) (h2 : ff = 0 ∨ ∃ x ∈ l, x + n = ff) : Fr ss n (cvr C n l) i ↔ Fr ss n C i ∧ ff ≤ i := by
  constructor
  · rintro ⟨hv, hc⟩
    refine ⟨⟨hv, fun t ht => (cvr_f.mp (hc t ht)).1⟩, ?_⟩
    rcases h2 with h | ⟨x, hx, he⟩
    · omega
    · refine Nat.le_of_not_lt fun z => ?_
      have := (cvr_f.mp (hc 0 (by omega))).2 x hx
      have := (h1 x hx).1
      omega
  · rintro ⟨⟨hv, hc⟩, hle⟩
    refine ⟨hv, fun t ht => cvr_f.mpr ⟨hc t ht, fun x hx z => ?_⟩⟩
    have := (h1 x hx).2
    omega
theorem sX5_cover {cov kind : Nat → Int32} {ss : List (List Nat)} {n : Nat} (hS : SOK ss n) {C : Nat → Bool} (hC : CV cov C) (hK : KDx kind ss n 320) {b k : Nat} (hk : k < 320) (hF : isF ss n k) (hE : rEq ss n k b) {post : (Nat → Int32) → Prop} (hp : ∀ cov', CV cov' (cvr C n (cL ss n C b)) → post cov') : wX5_cover (nI n) cov kind (nI k) post := by
  obtain ⟨s1, s2, s3, s4, s5⟩ := id hS
  have hcl : cL ss n C b = cL ss n C k := cL_congr hE.symm
  rw [hcl] at hp
  have key : ∀ d i l ff cov', i + d = 320 → (∀ x ∈ l, x < i ∧ x + n ≤ ff) → (ff = 0 ∨ ∃ x ∈ l, x + n = ff) → l ++ gr (fun j => Fr ss n C j ∧ rEq ss n k j) n d i ff = cL ss n C k → CV cov' (cvr C n l) → wX5_cover_2 (nI n) kind (nI k) (fun s1 _ => post s1) (d + 1) cov' (nI i) := by
    intro d
    induction d with
    | zero =>
      intro i l ff cov' hi h1 h2 h3 h4
      have : i = 320 := by omega
      subst this
      refine ⟨fun _ => hp cov' ?_, fun c => absurd (by decide) c⟩
      have h3 : l ++ [] = cL ss n C k := h3
      rw [List.append_nil] at h3
      rw [← h3]; exact h4
    | succ d ih =>
      intro i l ff cov' hi h1 h2 h3 h4
      have keep : ¬ ((Fr ss n C i ∧ rEq ss n k i) ∧ ff ≤ i) → ∀ y : Int32, y = nI i + 1 → wX5_cover_2 (nI n) kind (nI k) (fun s1 _ => post s1) (d + 1) cov' y := fun hno y hy => by
        rw [hy, nI_1]
        rw [gr_n hno] at h3
        exact ih (i + 1) l ff cov' (by omega) (fun x hx => by have := h1 x hx; omega) h2 h3 h4
      refine ⟨fun c => absurd (by rw [show (320 : Int32) = nI 320 from rfl, nI_leI (by decide) (by omega)] at c; exact c) (by omega), fun _ => ⟨vp_in_nI (by omega) (by omega), ?_⟩⟩
      rw [nI_clamp (show i < 2 ^ 31 by omega)]
      rcases hK i (by omega) with ⟨a, e⟩ | ⟨-, hv, k', hk', e, hF', hE'⟩
      · rw [e]
        exact ⟨fun _ => keep fun z => a ⟨by omega, z.1.1.1⟩, fun c => absurd c.symm (nI_ne_m1 (by omega))⟩
      · rw [e, nI_eq (by omega) (by omega)]
        refine ⟨fun c => keep fun z => c (first_un hF' hF hE' z.1.2), fun c => ?_⟩
        subst c
        have hiff := Fr_cvr (ss := ss) (C := C) (by omega) h1 h2
        refine sX5_isFreeRow hS h4 hK (by omega) (fun hf => ⟨fun c => absurd c (by decide), fun _ => ?_⟩) (fun hf => ⟨fun _ => keep fun z => hf (hiff.mpr ⟨z.1.1, z.2⟩), fun c => absurd rfl c⟩)
        obtain ⟨hf1, hf2⟩ := hiff.mp hf
        have hbd := (hv.bd s2 s1).1
        rw [nI_add]
        refine sX5_coverFrom hbd (by omega) fun cov2 g1 g2 y hy => ?_
        rw [hy, nI_1]
        rw [gr_y ⟨hf1, hE'⟩ hf2] at h3
        refine ih (i + 1) (l ++ [i]) (i + n) cov2 (by omega) (fun x hx => ?_) (Or.inr ⟨i, by simp, rfl⟩) (by rw [List.append_assoc]; exact h3) (fun j hj => ?_)
        · rcases List.mem_append.mp hx with q | q
          · have := h1 x q; omega
          · rw [List.mem_singleton.mp q]; omega
        · rw [cvr_app]
          by_cases hin : i ≤ j ∧ j < i + n
          · rw [g1 j hin, nar_z1]; simp [hin.1, hin.2, b01]
          · rw [g2 j hin, h4 j hj]
            congr 1
            rcases Nat.lt_or_ge j i with q | q
            · simp [show ¬ i ≤ j by omega]
            · simp [show ¬ j < i + n by omega]
  exact ⟨_, key 320 0 [] 0 cov (by omega) (fun x hx => (List.not_mem_nil hx).elim) (Or.inl rfl) rfl (by rw [cvr_nil]; exact hC)⟩
/-- what is taken lies in the array -/
def TK (taken : Nat → Int32) (tk : List Nat) : Prop := ∀ j, j < tk.length → taken j = nI (tk.getD j 0)
theorem sX5_takeRows {cov kind c0 f0 t0 : Nat → Int32} {ss : List (List Nat)} {n bound : Nat} (hS : SOK ss n) (hb : bound ≤ 80) (hC : CV cov (fun _ => false)) (hK : KDx kind ss n 320) {post : Int32 → (Nat → Int32) → (Nat → Int32) → (Nat → Int32) → (Nat → Int32) → Prop}
    (hp : ∀ cov' c f taken, TK taken (trn ss n bound 27 (fun _ => false) []) → (trn ss n bound 27 (fun _ => false) []).length ≤ 26 → n * (trn ss n bound 27 (fun _ => false) []).length ≤ 80 → (∀ x ∈ trn ss n bound 27 (fun _ => false) [], Vp ss n x) → post (nI (trn ss n bound 27 (fun _ => false) []).length) cov' c f taken) : wX5_takeRows 0 (nI n) cov kind c0 f0 t0 (nI bound) post := by
  obtain ⟨s1, s2, s3, s4, s5⟩ := id hS
  have key : ∀ f C tk cov c ff taken, tk.length + f = 27 → CV cov C → TK taken tk → n * tk.length ≤ 80 → (n = 2 → tk = []) → (∀ x ∈ tk, Vp ss n x) →
      (∀ cov' c' f' taken', TK taken' (trn ss n bound f C tk) → (trn ss n bound f C tk).length ≤ 26 → n * (trn ss n bound f C tk).length ≤ 80 → (∀ x ∈ trn ss n bound f C tk, Vp ss n x) → post (nI (trn ss n bound f C tk).length) cov' c' f' taken') →
      wX5_takeRows_0 (nI n) kind (nI bound) post (fun s1 s2 s3 s4 s5 => post s1 s2 s3 s4 s5) (f + 1) (nI tk.length) cov c ff taken := by
    intro f
    induction f with
    | zero =>
      intro C tk cov c ff taken hf hC hT hl h2 hv hp
      exfalso
      by_cases hn2 : n = 2
      · rw [h2 hn2] at hf; simp at hf
      · have : 3 * tk.length ≤ n * tk.length := Nat.mul_le_mul_right _ (by omega)
        omega
    | succ f ih =>
      intro C tk cov c ff taken hf hC hT hl h2 hv hp
      have htr : trn ss n bound (f + 1) C tk = match (bst ss n C).1 with
        | none => tk
        | some b => if n + 1 < (n - 2) * cnt ss n C b ∧ n * (tk.length + 1) ≤ bound then trn ss n bound f (cvr C n (cL ss n C b)) (tk ++ [b]) else tk := rfl
      have stop : trn ss n bound (f + 1) C tk = tk → ∀ cov' c' f', post (nI tk.length) cov' c' f' taken := fun e cov' c' f' => by
        rw [e] at hp
        refine hp cov' c' f' taken hT ?_ hl hv
        by_cases hn2 : n = 2
        · rw [h2 hn2]; simp
        · have : 3 * tk.length ≤ n * tk.length := Nat.mul_le_mul_right _ (by omega)
          omega
      have hbig : ∀ b, (bst ss n C).1 = some b → ¬ (n + 1 < (n - 2) * cnt ss n C b ∧ n * (tk.length + 1) ≤ bound) → trn ss n bound (f + 1) C tk = tk := fun b hb1 hno => by
        rw [htr, hb1]; exact if_neg hno
      have hnone : (bst ss n C).1 = none → trn ss n bound (f + 1) C tk = tk := fun h => by rw [htr, h]
      have hbnd : ¬ n * (tk.length + 1) ≤ bound → trn ss n bound (f + 1) C tk = tk := fun h => by
        cases hb1 : (bst ss n C).1 with
        | none => exact hnone hb1
        | some b => exact hbig b hb1 fun z => h z.2
      have hmul : (nI tk.length + 1) * nI n = nI (n * (tk.length + 1)) := by rw [nI_1, pk_mul, Nat.mul_comm]
      have hml : n * (tk.length + 1) ≤ 1000 := by rw [Nat.mul_add, Nat.mul_one]; omega
      refine ⟨fun q => ?_, fun q => ⟨fun q2 => ?_, fun q2 => ?_⟩⟩
      · rw [show (26 : Int32) = nI 26 from rfl, nI_leI (by decide) (by omega)] at q
        refine stop (hbnd fun z => ?_) _ _ _
        by_cases hn2 : n = 2
        · rw [h2 hn2] at q; simp at q
        · have : 3 * (tk.length + 1) ≤ n * (tk.length + 1) := Nat.mul_le_mul_right _ (by omega)
          omega
      · rw [hmul, nI_ltI (by omega) (by omega)] at q2
        exact stop (hbnd (by omega)) _ _ _
      · rw [hmul, nI_ltI (by omega) (by omega)] at q2
        refine sX5_countRows hS hC hK fun count ff2 hcnt => sX5_placeOfMost hS hC hK hcnt ?_
        cases hb1 : (bst ss n C).1 with
        | none => exact ⟨fun _ => stop (hnone hb1) _ _ _, fun c => absurd rfl c⟩
        | some b =>
          obtain ⟨b1, b2, b3⟩ := bstN_some 320 hb1
          obtain ⟨k, hk, e, hF, hE⟩ := kind_of hK b1 b2.1
          have hcc : cnt ss n C k = cnt ss n C b := by unfold cnt; rw [cL_congr hE]
          have hcl := cnt_le (ss := ss) (n := n) (C := C) (r := b)
          rw [show optI (some b) = nI b from rfl]
          refine ⟨fun c => absurd c (nI_ne_m1 (by omega)), fun _ => ?_⟩
          have hprod : (n - 2) * cnt ss n C b ≤ 6 * 320 := Nat.mul_le_mul (by omega) hcl
          rw [nI_clamp (show b < 2 ^ 31 by omega), e, nI_clamp (show k < 2 ^ 31 by omega), hcnt k (by omega) hF, hcc, show (2 : Int32) = nI 2 from rfl, pk_sub s4, pk_mul, nI_1, pos_sub (by omega) (by omega)]
          refine ⟨vp_in_nI (by omega) (by omega), vp_in_nI (by omega) (by omega), fun g => ?_, fun g => stop (hbig b hb1 fun z => g z.1) _ _ _⟩
          rw [show (26 : Int32) = nI 26 from rfl, nI_leI (by decide) (by omega)] at q
          refine ⟨vp_in_nI (by omega) (by omega), fun y16 h16 => ⟨vp_in_nI (by omega) (by omega), ?_⟩⟩
          refine sX5_cover hS hC hK (by omega) hF hE fun cov2 hC2 => ?_
          have hstep : trn ss n bound (f + 1) C tk = trn ss n bound f (cvr C n (cL ss n C b)) (tk ++ [b]) := by
            rw [htr, hb1]; exact if_pos ⟨g, by omega⟩
          rw [hstep] at hp
          have hlen : (tk ++ [b]).length = tk.length + 1 := by rw [List.length_append]; rfl
          have := ih (cvr C n (cL ss n C b)) (tk ++ [b]) cov2 count ff2 (upd taken tk.length (nI b)) (by omega) hC2 (fun j hj => ?_) (by rw [hlen]; omega) (fun hn2 => ?_) (fun x hx => ?_) hp
          · rw [h16, nI_clamp (by omega)]
            rw [hlen, ← nI_1] at this
            exact this
          · rw [hlen] at hj
            by_cases hjl : j < tk.length
            · rw [pk_un (by omega), getD_app_lt hjl]; exact hT j hjl
            · have : j = tk.length := by omega
              subst this
              rw [pk_us, getD_app_ge (Nat.le_refl _), Nat.sub_self]; rfl
          · subst hn2; omega
          · rcases List.mem_append.mp hx with q3 | q3
            · exact hv x q3
            · rw [List.mem_singleton.mp q3]; exact b2.1
  exact ⟨_, key 27 (fun _ => false) [] cov c0 f0 t0 rfl hC (fun j hj => absurd hj (Nat.not_lt_zero j)) (by simp) (fun _ => rfl) (fun x hx => (List.not_mem_nil hx).elim) hp⟩
theorem flatMap_snoc {α β : Type} (l : List α) (a : α) (g : α → List β) : (l ++ [a]).flatMap g = l.flatMap g ++ g a := by
  rw [List.flatMap_append]; simp
theorem sX5_handOver {cap : Nat} {pf taken wf : Nat → Int32} {pl wl : Int32} {ss : List (List Nat)} {n : Nat} (hS : SOK ss n) (hr : RR cap pf pl ((List.range (40 * ss.length)).map (Bp ss))) {tk : List Nat} (hT : TK taken tk) (h26 : tk.length ≤ 26) (h80 : n * tk.length ≤ 80) (hv : ∀ x ∈ tk, Vp ss n x) (hw : RR 80 wf wl []) {post : Int32 → Int32 → (Nat → Int32) → Prop}
    (hp : ∀ wf' wl', RR 80 wf' wl' (pcs ss n tk) → post (nI tk.length) wl' wf') : wX5_handOver cap 80 (nI tk.length) pl pf taken (nI n) (nI 0) wl wf post := by
  obtain ⟨s1, s2, s3, s4, s5⟩ := id hS
  intro y1 h1
  have hg : ∀ k, k < 40 * ss.length → ((List.range (40 * ss.length)).map (Bp ss)).getD k 0 = Bp ss k := fun k hk => by
    rw [gD_lt (by simpa using hk)]; simp
  have hrl : ((List.range (40 * ss.length)).map (Bp ss)).length = 40 * ss.length := by simp
  have key : ∀ k v wf' wl', v = nI k - 1 → k ≤ tk.length → RR 80 wf' wl' (((tk.drop k).reverse).flatMap fun b => (List.range n).map fun t => Bp ss (b + t)) → wX5_handOver_7 cap 80 pl pf taken (nI n) (fun s2 s3 s4 _ => post s2 s3 s4) (k + 1) (nI (tk.length - k)) wl' wf' v := by
    intro k
    induction k with
    | zero =>
      intro v wf' wl' hv0 hk hr'
      subst hv0
      refine ⟨fun _ => ?_, fun q => absurd (by decide) q⟩
      rw [Nat.sub_zero]
      rw [List.drop_zero] at hr'
      exact hp wf' wl' hr'
    | succ k ih =>
      intro v wf' wl' hv0 hk hr'
      rw [nI_pred] at hv0
      subst hv0
      have hb := hT k (by omega)
      have hmem : tk.getD k 0 ∈ tk := by rw [gD_lt (by omega)]; exact List.getElem_mem _
      have hvb := hv _ hmem
      have hbd : tk.getD k 0 + n ≤ 40 * ss.length := by
        obtain ⟨a, b⟩ := hvb
        have := s2 (tk.getD k 0 / 40)
        omega
      refine ⟨fun q => absurd q (nI_pos (by omega)), fun _ => ⟨vp_in_nI (by omega) (by omega), ?_⟩⟩
      rw [nI_clamp (by omega), hb]
      have hlen : (((tk.drop (k + 1)).reverse).flatMap fun b => (List.range n).map fun t => Bp ss (b + t)).length = n * (tk.length - (k + 1)) := by
        have := pcs_len ss n (tk.drop (k + 1))
        unfold pcs at this
        rw [this, List.length_drop]
      have hnm : n * (tk.length - (k + 1)) + n ≤ n * tk.length := by
        have : n * (tk.length - (k + 1)) + n = n * (tk.length - (k + 1) + 1) := by rw [Nat.mul_add, Nat.mul_one]
        rw [this]; exact Nat.mul_le_mul_left n (by omega)
      refine sX0_addPiece hr' hr (by omega) (by omega) (by omega) (by rw [hrl]; omega) fun f2 l2 hr2 y hy => ?_
      rw [show tk.length - (k + 1) + 1 = tk.length - k by omega]
      refine ih y f2 l2 (by rw [hy, sub1_eq]) (by omega) ?_
      have e1 : tk.drop k = tk.getD k 0 :: tk.drop (k + 1) := by rw [gD_lt (by omega)]; exact List.drop_eq_getElem_cons (by omega)
      have e2 : (((List.range (40 * ss.length)).map (Bp ss)).drop (tk.getD k 0)).take n = (List.range n).map fun t => Bp ss (tk.getD k 0 + t) := by
        rw [← range_getD_drop (by rw [hrl]; omega)]
        refine List.map_congr_left fun t ht => ?_
        rw [List.mem_range] at ht
        exact hg _ (by omega)
      rw [e1, List.reverse_cons, flatMap_snoc, ← e2]
      exact hr2
  have := key tk.length y1 wf wl h1 (Nat.le_refl _) (by rw [List.drop_length]; exact hw)
  rw [Nat.sub_self] at this
  exact ⟨_, this⟩
