/-! PURE: the reference's dictionaries, changed and asked -/
theorem MD.frame {pieces pieceLong bytesOf dict pieces' pieceLong' bytesOf' dict' : Nat → Int32} {d n c : Nat} {bs : List Nat} (h : MD pieces pieceLong bytesOf dict d n c bs) (h1 : pieces' d = pieces d) (h2 : bytesOf' d = bytesOf d) (h3 : ∀ j, 80 * d ≤ j → j < 80 * d + 80 → pieceLong' j = pieceLong j ∧ dict' j = dict j) : MD pieces' pieceLong' bytesOf' dict' d n c bs := by
  obtain ⟨g1, g2, g3, g4, g5, g6, g7, g8, g9⟩ := h
  exact ⟨h1.trans g1, h2.trans g2, g3, g4, g5, g6, g7, fun k hk => by rw [(h3 _ (by omega) (by omega)).2]; exact g8 k hk, fun k hk => by rw [(h3 _ (by omega) (by omega)).1]; exact g9 k hk⟩
/-- all six -/
def MDs (pieces pieceLong bytesOf dict : Nat → Int32) (ns cs : Nat → Nat) (bss : Nat → List Nat) : Prop := ∀ d, d < 6 → MD pieces pieceLong bytesOf dict d (ns d) (cs d) (bss d)
theorem MDs.set {pieces pieceLong bytesOf dict pieceLong' dict' : Nat → Int32} {x y : Int32} {ns cs : Nat → Nat} {bss : Nat → List Nat} (h : MDs pieces pieceLong bytesOf dict ns cs bss) {d n c : Nat} {bs : List Nat} (hn : MD (upd pieces d x) pieceLong' (upd bytesOf d y) dict' d n c bs) (hf : ∀ j, ¬ (80 * d ≤ j ∧ j < 80 * d + 80) → pieceLong' j = pieceLong j ∧ dict' j = dict j) : MDs (upd pieces d x) pieceLong' (upd bytesOf d y) dict' (updN ns d n) (updN cs d c) (updN bss d bs) := by
  intro e he
  by_cases hed : e = d
  · subst hed
    rw [updN_s, updN_s, updN_s]
    exact hn
  · rw [updN_n hed, updN_n hed, updN_n hed]
    exact (h e he).frame (pk_un hed) (pk_un hed) (fun j a b => hf j (by omega))
theorem MId.set {idOf : Nat → Int32} {ids : Nat → Nat} (h : MId idOf ids) {d i : Nat} (hi : i < 256) : MId (upd idOf d (nI i)) (updN ids d i) := by
  intro e he
  by_cases hed : e = d
  · subst hed; rw [updN_s, pk_us]; exact ⟨rfl, hi⟩
  · rw [updN_n hed, pk_un hed]; exact h e he
theorem sX7_give {tape idOf pieces pieceLong bytesOf dict : Nat → Int32} {taped : Int32} {xs : List Nat} (hT : MT 200 tape taped xs) {d i : Nat} (hd : d < 6) (hi1 : 1 ≤ i) (hi2 : i ≤ 255) (h80 : xs.length ≤ 80) {post : Int32 → Int32 → Int32 → (Nat → Int32) → (Nat → Int32) → (Nat → Int32) → (Nat → Int32) → (Nat → Int32) → Prop}
    (hp : ∀ x pl' dc', MD (upd pieces d x) pl' (upd bytesOf d (nI xs.length)) dc' d xs.length (if xs.length = 0 then 0 else 1) xs → (∀ j, ¬ (80 * d ≤ j ∧ j < 80 * d + 80) → pl' j = pieceLong j ∧ dc' j = dict j) → post (nI xs.length) 0 0 (upd idOf d (nI i)) (upd pieces d x) pl' (upd bytesOf d (nI xs.length)) dc') : wX7_give taped tape idOf pieces pieceLong bytesOf dict (nI d) (nI i) post := by
  have hl := hT.1
  have inn : ∀ {x : Nat} {a b : Int64} {a' b' : Nat} {p : Int32 → Prop}, x < 2 ^ 31 → a.toInt = a' → b.toInt = b' → a' ≤ x → x ≤ b' → p 1 → wX7_in (nI x).toInt64 a b p := fun {x a b a' b' p} h0 ha hb h1 h2 hp => sX7_in (fun _ => hp) (fun c => absurd (by rw [ha, hb, nI_toInt h0]; omega) c)
  refine inn (a' := 0) (b' := 5) (by omega) rfl rfl (by omega) (by omega) ⟨fun _ => ?_, fun c => absurd c (by decide)⟩
  refine inn (a' := 1) (b' := 255) (by omega) rfl rfl (by omega) (by omega) ⟨fun c => absurd c (by decide), fun _ => ⟨fun _ => ?_, fun c => absurd (by rw [hl]; exact nI_le h80 (by decide)) c⟩⟩
  have e80 : (80 : Int32) * nI d = nI (80 * d) := by rw [show (80 : Int32) = nI 80 from rfl, pk_mul]
  have hv := vp_in_nI hd (show (6 : Nat) < 2 ^ 31 by decide)
  have key : ∀ (K : (Nat → Int32) → Int32 → Prop), (∀ dc v, (∀ j, j < xs.length → dc (80 * d + j) = nI (xs.getD j 0)) → (∀ j, ¬ (80 * d ≤ j ∧ j < 80 * d + 80) → dc j = dict j) → K dc v) → ∀ e k dc, k + e = xs.length → (∀ j, j < k → dc (80 * d + j) = nI (xs.getD j 0)) → (∀ j, ¬ (80 * d ≤ j ∧ j < 80 * d + 80) → dc j = dict j) → wX7_give_94 taped tape (nI d) K (e + 1) dc (nI k) := by
    intro K hK e
    induction e with
    | zero =>
      intro k dc hk g1 g2
      have : k = xs.length := by omega
      subst this
      exact ⟨fun _ => hK dc _ g1 g2, fun c => absurd (by rw [hl]; exact nI_le (Nat.le_refl _) (by omega)) c⟩
    | succ e ih =>
      intro k dc hk g1 g2
      refine ⟨fun c => absurd (by rw [hl] at c; exact c) (nI_ge (by omega) (by omega)), fun _ => ?_⟩
      rw [i80, nI_clamp (by omega), nI_clamp (by omega), hT.2.2.2 k (by omega)]
      refine ⟨vp_in_nI (by omega) (by omega), vp_in_nI (by omega) (by omega), fun y hy => ?_⟩
      rw [hy, nI_1]
      refine ih (k + 1) _ (by omega) (fun j hj => ?_) (fun j hj => ?_)
      · by_cases e2 : j = k
        · subst e2; exact pk_us
        · rw [pk_un (by omega)]; exact g1 j (by omega)
      · rw [pk_un (by omega)]; exact g2 j hj
  have fin : ∀ (c : Nat), c = (if xs.length = 0 then 0 else 1) → ∀ dc v, (∀ j, j < xs.length → dc (80 * d + j) = nI (xs.getD j 0)) → (∀ j, ¬ (80 * d ≤ j ∧ j < 80 * d + 80) → dc j = dict j) → (fun (s11 : Nat → Int32) (_ : Int32) => post taped 0 0 (upd idOf d (nI i)) (upd pieces d (nI c)) (upd pieceLong (80 * d) taped) (upd bytesOf d taped) s11) dc v := by
    intro c hc dc v g1 g2
    show post taped 0 0 (upd idOf d (nI i)) (upd pieces d (nI c)) (upd pieceLong (80 * d) taped) (upd bytesOf d taped) dc
    rw [hl]
    refine hp (nI c) _ dc ⟨by rw [pk_us, hc], pk_us, ?_, h80, by split <;> omega, h80, hT.2.2.1, g1, fun k hk => ?_⟩ (fun j hj => ⟨pk_un (by omega), g2 j hj⟩)
    · split
      · rename_i q; rw [q]
      · rw [Nat.mul_one]
    · have : k = 0 := by
        split at hk <;> omega
      subst this
      exact pk_us
  rw [nI_clamp (by omega), e80, nI_clamp (by omega)]
  refine ⟨hv, hv, fun q => ⟨hv, vp_in_nI (by omega) (by decide), ?_⟩, fun q => ⟨hv, vp_in_nI (by omega) (by decide), ?_⟩⟩
  · rw [hl, show (0 : Int32) = nI 0 from rfl, nI_leI (by omega) (by decide)] at q
    exact ⟨_, key _ (fin 0 (by rw [if_pos (by omega)])) xs.length 0 dict (by omega) (fun j hj => absurd hj (Nat.not_lt_zero j)) (fun _ _ => rfl)⟩
  · rw [hl, show (0 : Int32) = nI 0 from rfl, nI_leI (by omega) (by decide)] at q
    exact ⟨_, key _ (fin 1 (by rw [if_neg (by omega)])) xs.length 0 dict (by omega) (fun j hj => absurd hj (Nat.not_lt_zero j)) (fun _ _ => rfl)⟩
theorem sX7_give0 {tape idOf pieces pieceLong bytesOf dict : Nat → Int32} {taped p1 p2 : Int32} {xs : List Nat} (hT : MT 200 tape taped xs) {post : Int32 → Int32 → Int32 → (Nat → Int32) → (Nat → Int32) → (Nat → Int32) → (Nat → Int32) → (Nat → Int32) → Prop}
    (h1 : ¬ Rg p1 0 5 → post (-101) 0 taped idOf pieces pieceLong bytesOf dict) (h2 : Rg p1 0 5 → ¬ Rg p2 1 255 ∨ ¬ xs.length ≤ 80 → post (-102) 0 taped idOf pieces pieceLong bytesOf dict) (hno : ¬ (Rg p1 0 5 ∧ Rg p2 1 255 ∧ xs.length ≤ 80)) : wX7_give taped tape idOf pieces pieceLong bytesOf dict p1 p2 post := by
  refine sX7_inR (a' := 0) (b' := 5) rfl rfl (fun c => ⟨fun _ => ?_, fun q => absurd q (by decide)⟩) (fun c => ⟨fun q => absurd rfl q, fun _ => h1 c⟩)
  refine sX7_inR (a' := 1) (b' := 255) rfl rfl (fun c2 => ⟨fun q => absurd q (by decide), fun _ => ⟨fun q => absurd ⟨c, c2, ?_⟩ hno, fun q => h2 c (Or.inr fun z => q ?_)⟩⟩) (fun c2 => ⟨fun _ => h2 c (Or.inl c2), fun q => absurd rfl q⟩)
  · rw [hT.1]; exact nI_le z (by decide)
  · rw [hT.1, show (80 : Int32) = nI 80 from rfl, nI_leI (by have := hT.2.1; omega) (by decide)] at q
    exact q
theorem sX7_train0 {sl sb idOf pieces pieceLong bytesOf dict cov0 t0 : Nat → Int32} {sm tm0 p1 p2 p3 p4 : Int32} {N : Nat} (hN : N < 100000) (hsm : sm = nI N) {post : Int32 → Int32 → Int32 → (Nat → Int32) → (Nat → Int32) → (Nat → Int32) → (Nat → Int32) → (Nat → Int32) → (Nat → Int32) → (Nat → Int32) → Prop}
    (h1 : ¬ Rg p1 0 5 → post (-101) 0 tm0 idOf pieces pieceLong bytesOf dict cov0 t0) (h2 : Rg p1 0 5 → ¬ (Rg p2 1 255 ∧ Rg p3 2 8 ∧ Rg p4 0 80) → post (-102) 0 tm0 idOf pieces pieceLong bytesOf dict cov0 t0) (h3 : Rg p1 0 5 → Rg p2 1 255 ∧ Rg p3 2 8 ∧ Rg p4 0 80 → N = 0 → post (-104) 0 tm0 idOf pieces pieceLong bytesOf dict cov0 t0) (hno : ¬ (Rg p1 0 5 ∧ (Rg p2 1 255 ∧ Rg p3 2 8 ∧ Rg p4 0 80) ∧ N ≠ 0)) : wX7_train sm tm0 sl sb idOf pieces pieceLong bytesOf dict cov0 t0 p1 p2 p3 p4 post := by
  refine sX7_inR (a' := 0) (b' := 5) rfl rfl (fun c => ⟨fun _ => ?_, fun q => absurd q (by decide)⟩) (fun c => ⟨fun q => absurd rfl q, fun _ => h1 c⟩)
  refine sX7_inR (a' := 1) (b' := 255) rfl rfl (fun c2 => ⟨fun q => absurd q (by decide), fun _ => ?_⟩) (fun c2 => ⟨fun _ => h2 c fun z => c2 z.1, fun q => absurd rfl q⟩)
  refine sX7_inR (a' := 2) (b' := 8) rfl rfl (fun c3 => ⟨fun q => absurd q (by decide), fun _ => ?_⟩) (fun c3 => ⟨fun _ => h2 c fun z => c3 z.2.1, fun q => absurd rfl q⟩)
  refine sX7_inR (a' := 0) (b' := 80) rfl rfl (fun c4 => ⟨fun _ => ⟨fun q => ?_, fun q => ?_⟩, fun q => absurd q (by decide)⟩) (fun c4 => ⟨fun q => absurd rfl q, fun _ => h2 c fun z => c4 z.2.2⟩)
  · refine absurd ⟨c, ⟨c2, c3, c4⟩, fun z => q ?_⟩ hno
    rw [hsm, z]; rfl
  · refine h3 c ⟨c2, c3, c4⟩ ?_
    rw [hsm, show (0 : Int32) = nI 0 from rfl, nI_eq (by omega) (by decide)] at q
    exact q
/-- without piece k -/
def wo (n k : Nat) (bs : List Nat) : List Nat := bs.take (k * n) ++ bs.drop (k * n + n)
theorem wo_len {n k c : Nat} {bs : List Nat} (h : bs.length = n * c) (hk : k < c) : (wo n k bs).length = n * (c - 1) ∧ k * n + n ≤ bs.length := by
  have h1 : k * n + n = (k + 1) * n := by rw [Nat.add_mul, Nat.one_mul]
  have h2 : (k + 1) * n ≤ c * n := Nat.mul_le_mul_right n (by omega)
  have h3 : n * c = n * (c - 1) + n := by
    conv => lhs; rw [show c = (c - 1) + 1 by omega]
    rw [Nat.mul_add, Nat.mul_one]
  rw [Nat.mul_comm c n] at h2
  refine ⟨?_, by omega⟩
  unfold wo
  rw [List.length_append, List.length_take, List.length_drop]
  omega
theorem wo_getD {n k : Nat} {bs : List Nat} (h : k * n + n ≤ bs.length) (j : Nat) : (wo n k bs).getD j 0 = if j < k * n then bs.getD j 0 else bs.getD (j + n) 0 := by
  unfold wo
  by_cases hj : j < k * n
  · rw [if_pos hj, getD_app_lt (by rw [List.length_take]; omega), List.getD_eq_getElem?_getD, List.getD_eq_getElem?_getD, List.getElem?_take_of_lt hj]
  · rw [if_neg hj, getD_app_ge (by rw [List.length_take]; omega), List.getD_eq_getElem?_getD, List.getD_eq_getElem?_getD, List.getElem?_drop, List.length_take]
    congr 2
    omega
theorem wo_lt {n k : Nat} {bs : List Nat} (h : ∀ x ∈ bs, x < 256) : ∀ x ∈ wo n k bs, x < 256 := by
  intro x hx
  rcases List.mem_append.mp hx with q | q
  · exact h x (List.mem_of_mem_take q)
  · exact h x (List.mem_of_mem_drop q)
theorem sX7_goes {pieces pieceLong bytesOf dict : Nat → Int32} {d n c k : Nat} {bs : List Nat} (hd : d < 6) (h : MD pieces pieceLong bytesOf dict d n c bs) (hk : k < c) {post : (Nat → Int32) → (Nat → Int32) → (Nat → Int32) → (Nat → Int32) → Prop}
    (hp : ∀ x y pl' dc', MD (upd pieces d x) pl' (upd bytesOf d y) dc' d n (c - 1) (wo n k bs) → (∀ j, ¬ (80 * d ≤ j ∧ j < 80 * d + 80) → pl' j = pieceLong j ∧ dc' j = dict j) → post (upd pieces d x) pl' (upd bytesOf d y) dc') : wX7_goes pieces pieceLong bytesOf dict (nI d) (nI k) post := by
  obtain ⟨g1, g2, g3, g4, g5, g6, g7, g8, g9⟩ := h
  obtain ⟨w1, w2⟩ := wo_len g3 hk
  have hv := vp_in_nI hd (show (6 : Nat) < 2 ^ 31 by decide)
  refine sX7_pieceAt hd g5 g6 g9 (by omega) ?_
  rw [i80, nI_clamp (show 80 * d + k < 2 ^ 31 by omega), g9 k hk]
  refine ⟨vp_in_nI (by omega) (by decide), fun y3 h3 => ?_⟩
  subst h3
  have l23 : ∀ (K : (Nat → Int32) → Int32 → Prop), (∀ dc v, (∀ j, j < (wo n k bs).length → dc (80 * d + j) = nI ((wo n k bs).getD j 0)) → (∀ j, ¬ (80 * d ≤ j ∧ j < 80 * d + 80) → dc j = dict j) → K dc v) →
      ∀ e t dc, t + e = bs.length → k * n + n ≤ t → (∀ j, j < t - n → dc (80 * d + j) = nI ((wo n k bs).getD j 0)) → (∀ j, t - n ≤ j → j < bs.length → dc (80 * d + j) = nI (bs.getD j 0)) → (∀ j, ¬ (80 * d ≤ j ∧ j < 80 * d + 80) → dc j = dict j) → wX7_goes_23 bytesOf (nI d) (nI n) K (e + 1) dc (nI (t - n)) := by
    intro K hK e
    induction e with
    | zero =>
      intro t dc ht hge q1 q2 q3
      have : t = bs.length := by omega
      subst this
      refine ⟨hv, fun _ => hK dc _ (fun j hj => q1 j (by rw [w1] at hj; have : n * c = n * (c - 1) + n := (by conv => lhs; rw [show c = (c - 1) + 1 by omega]
                                                                                                              rw [Nat.mul_add, Nat.mul_one]); omega)) q3, fun cc => absurd ?_ cc⟩
      rw [nI_clamp (by omega), g2, nI_add]
      exact nI_le (by omega) (by omega)
    | succ e ih =>
      intro t dc ht hge q1 q2 q3
      refine ⟨hv, fun cc => ?_, fun _ => ?_⟩
      · rw [nI_clamp (by omega), g2, nI_add, nI_leI (by omega) (by omega)] at cc
        omega
      · rw [i80, nI_add, nI_clamp (by omega), nI_clamp (by omega)]
        refine ⟨vp_in_nI (by omega) (by omega), vp_in_nI (by omega) (by omega), fun y hy => ?_⟩
        rw [hy, nI_1]
        have e1 : dc (80 * d + (t - n) + n) = nI ((wo n k bs).getD (t - n) 0) := by
          rw [wo_getD w2, if_neg (by omega), show 80 * d + (t - n) + n = 80 * d + t by omega, show t - n + n = t by omega]
          exact q2 t (by omega) (by omega)
        rw [e1, show t - n + 1 = (t + 1) - n by omega]
        refine ih (t + 1) _ (by omega) (by omega) (fun j hj => ?_) (fun j a b => ?_) (fun j hj => ?_)
        · by_cases e2 : j = t - n
          · subst e2; exact pk_us
          · rw [pk_un (by omega)]; exact q1 j (by omega)
        · rw [pk_un (by omega)]; exact q2 j (by omega) b
        · rw [pk_un (by omega)]; exact q3 j hj
  have hstart : nI (k * n) = nI (k * n + n - n) := by rw [Nat.add_sub_cancel]
  rw [hstart]
  refine ⟨_, l23 _ (fun dc v q1 q2 => ?_) (bs.length - (k * n + n)) (k * n + n) dict (by omega) (Nat.le_refl _) (fun j hj => ?_) (fun j _ hj => g8 j hj) (fun _ _ => rfl)⟩
  · rw [nI_clamp (show d < 2 ^ 31 by omega), g1, g2, show (1 : Int32) = nI 1 from rfl, pk_sub (by omega), pk_sub (by omega)]
    refine ⟨hv, hv, hv, hv, ?_⟩
    have l94 : ∀ e t pl, t + e = c - 1 → (∀ j, j < c → pl (80 * d + j) = nI n) → (∀ j, ¬ (80 * d ≤ j ∧ j < 80 * d + 80) → pl j = pieceLong j) → wX7_goes_94 (upd pieces d (nI (c - 1))) (nI d) (fun s15 _ => post (upd pieces d (nI (c - 1))) s15 (upd bytesOf d (nI (bs.length - n))) dc) (e + 1) pl (nI t) := by
      intro e
      induction e with
      | zero =>
        intro t pl ht r1 r2
        have : t = c - 1 := by omega
        subst this
        refine ⟨hv, fun _ => hp _ _ pl dc ⟨pk_us, ?_, w1, by rw [w1]; have : n * (c - 1) ≤ n * c := Nat.mul_le_mul_left n (by omega); omega, by omega, g6, wo_lt g7, q1, fun j hj => r1 j (by omega)⟩ (fun j hj => ⟨r2 j hj, q2 j hj⟩), fun cc => absurd ?_ cc⟩
        · rw [pk_us, w1]
          congr 1
          have : n * c = n * (c - 1) + n := by
            conv => lhs; rw [show c = (c - 1) + 1 by omega]
            rw [Nat.mul_add, Nat.mul_one]
          omega
        · rw [nI_clamp (by omega), pk_us]
          exact nI_le (Nat.le_refl _) (by omega)
      | succ e ih =>
        intro t pl ht r1 r2
        refine ⟨hv, fun cc => ?_, fun _ => ?_⟩
        · rw [nI_clamp (by omega), pk_us] at cc
          exact absurd cc (nI_ge (by omega) (by omega))
        · rw [i80, nI_1, nI_clamp (by omega), nI_clamp (by omega), show 80 * d + t + 1 = 80 * d + (t + 1) by omega, r1 (t + 1) (by omega)]
          refine ⟨vp_in_nI (by omega) (by omega), vp_in_nI (by omega) (by omega), fun y hy => ?_⟩
          rw [hy, nI_1]
          refine ih (t + 1) _ (by omega) (fun j hj => ?_) (fun j hj => ?_)
          · by_cases e2 : j = t
            · subst e2; exact pk_us
            · rw [pk_un (by omega)]; exact r1 j hj
          · rw [pk_un (by omega)]; exact r2 j hj
    exact ⟨_, l94 (c - 1 - k) k pieceLong (by omega) g9 (fun _ _ => rfl)⟩
  · rw [Nat.add_sub_cancel] at hj
    rw [wo_getD w2, if_pos hj]
    exact g8 j (by omega)
/-- TRIM: going through the pieces, those that help nothing left out -/
def trm (ss : List (List Nat)) (n : Nat) : Nat → Nat → Nat → List Nat → Nat × List Nat
  | 0, _, c, bs => (c, bs)
  | f + 1, k, c, bs => if sumPack (wo n k bs) ss ≤ sumPack bs ss then trm ss n f k (c - 1) (wo n k bs) else trm ss n f (k + 1) c bs
theorem trm_len {ss : List (List Nat)} {n : Nat} : ∀ (f k c : Nat) (bs : List Nat), k + f = c → bs.length = n * c → (∀ x ∈ bs, x < 256) → (trm ss n f k c bs).2.length = n * (trm ss n f k c bs).1 ∧ (trm ss n f k c bs).1 ≤ c ∧ ∀ x ∈ (trm ss n f k c bs).2, x < 256 := by
  intro f
  induction f with
  | zero => intro k c bs _ h1 h2; exact ⟨h1, Nat.le_refl _, h2⟩
  | succ f ih =>
    intro k c bs hk h1 h2
    have e : trm ss n (f + 1) k c bs = if sumPack (wo n k bs) ss ≤ sumPack bs ss then trm ss n f k (c - 1) (wo n k bs) else trm ss n f (k + 1) c bs := rfl
    rw [e]
    split
    · obtain ⟨a, b, c'⟩ := ih k (c - 1) (wo n k bs) (by omega) (wo_len h1 (by omega)).1 (wo_lt h2)
      exact ⟨a, by omega, c'⟩
    · exact ih (k + 1) c bs (by omega) h1 h2
theorem sX7_trim {sl sb idOf pieces pieceLong bytesOf dict row cost leastD : Nat → Int32} {sm a0 t0 : Int32} {ids : Nat → Nat} {ss : List (List Nat)} (hI : MId idOf ids) (hS : MS sl sb ss) (hsm : sm = nI ss.length) (hne : ss.length ≠ 0) {d n c : Nat} {bs : List Nat} (hd : d < 6) (hid : ids d ≠ 0) (h : MD pieces pieceLong bytesOf dict d n c bs) {post : Int32 → Int32 → Int32 → Int32 → (Nat → Int32) → (Nat → Int32) → (Nat → Int32) → (Nat → Int32) → (Nat → Int32) → (Nat → Int32) → (Nat → Int32) → Prop}
    (hp : ∀ x y pl' dc' a t r cc l, MD (upd pieces d x) pl' (upd bytesOf d y) dc' d n (trm ss n c 0 c bs).1 (trm ss n c 0 c bs).2 → (∀ j, ¬ (80 * d ≤ j ∧ j < 80 * d + 80) → pl' j = pieceLong j ∧ dc' j = dict j) → post (nI (c - (trm ss n c 0 c bs).1)) 0 a t (upd pieces d x) pl' (upd bytesOf d y) dc' r cc l) :
    wX7_trim sm a0 t0 sl sb idOf pieces pieceLong bytesOf dict row cost leastD (nI d) post := by
  have hv := vp_in_nI hd (show (6 : Nat) < 2 ^ 31 by decide)
  have h8 := hS.1
  refine sX7_isThere hI (fun d' z => ⟨fun _ => ⟨fun _ => ?_, fun q => ?_⟩, fun q => absurd q (by decide)⟩) (fun z => absurd ⟨hd, rfl, hid⟩ (z d))
  · have key : ∀ f k c1 bs1 w (pc pl bo dc : Nat → Int32) a t r cc l x y, k + f = c1 → w + c1 = c → pc = upd pieces d x → bo = upd bytesOf d y → MD pc pl bo dc d n c1 bs1 → (∀ j, ¬ (80 * d ≤ j ∧ j < 80 * d + 80) → pl j = pieceLong j ∧ dc j = dict j) → trm ss n f k c1 bs1 = trm ss n c 0 c bs →
        wX7_trim_30 sm sl sb (nI d) (fun s4 s5 s6 s7 s8 s9 s10 s11 s12 y13 _ => post y13 0 s4 s5 s6 s7 s8 s9 s10 s11 s12) (f + 1) a t pc pl bo dc r cc l (nI w) (nI k) := by
      intro f
      induction f with
      | zero =>
        intro k c1 bs1 w pc pl bo dc a t r cc l x y hk hw e1 e2 hM hF hT
        have hc := hM.2.2.2.2.1
        refine ⟨hv, fun _ => ?_, fun q => absurd ?_ q⟩
        · have hT : (c1, bs1) = trm ss n c 0 c bs := hT
          rw [← hT] at hp
          subst e1; subst e2
          have := hp x y pl dc a t r cc l hM hF
          rw [show c - c1 = w by omega] at this
          exact this
        · rw [nI_clamp (by omega), hM.1]
          exact nI_le (by omega) (by omega)
      | succ f ih =>
        intro k c1 bs1 w pc pl bo dc a t r cc l x y hk hw e1 e2 hM hF hT
        have hc := hM.2.2.2.2.1
        refine ⟨hv, fun q => ?_, fun _ => ?_⟩
        · rw [nI_clamp (by omega), hM.1] at q
          exact absurd q (nI_ge (by omega) (by omega))
        · refine sX7_sizeOfAll hS hsm (lay_wo hd hM (show k < c1 by omega)) fun a1 t1 r1 cc1 l1 => ?_
          refine sX7_sizeOfAll hS hsm (lay_all hd hM) fun a2 t2 r2 cc2 l2 => ?_
          have b1 := sumPack_le (wo n k bs1) ss hS.short
          have b2 := sumPack_le bs1 ss hS.short
          have e : trm ss n (f + 1) k c1 bs1 = if sumPack (wo n k bs1) ss ≤ sumPack bs1 ss then trm ss n f k (c1 - 1) (wo n k bs1) else trm ss n f (k + 1) c1 bs1 := rfl
          rw [e] at hT
          show (nI (sumPack bs1 ss) < nI (sumPack (wo n k bs1) ss) → _) ∧ (¬ nI (sumPack bs1 ss) < nI (sumPack (wo n k bs1) ss) → _)
          rw [nI_ltI (by omega) (by omega)]
          refine ⟨fun q y30 h30 => ?_, fun q => ?_⟩
          · rw [if_neg (by omega)] at hT
            rw [h30, nI_1]
            exact ih (k + 1) c1 bs1 w pc pl bo dc a2 t2 r2 cc2 l2 x y (by omega) hw e1 e2 hM hF hT
          · rw [if_pos (by omega)] at hT
            refine sX7_goes hd hM (by omega) fun x' y' pl' dc' hM' hF' y35 h35 => ?_
            rw [h35, nI_1]
            refine ih k (c1 - 1) (wo n k bs1) (w + 1) _ pl' _ dc' a2 t2 r2 cc2 l2 x' y' (by omega) (by omega) ?_ ?_ hM' (fun j hj => ?_) hT
            · rw [e1]; funext j; by_cases hj : j = d
              · subst hj; rw [pk_us, pk_us]
              · rw [pk_un hj, pk_un hj, pk_un hj]
            · rw [e2]; funext j; by_cases hj : j = d
              · subst hj; rw [pk_us, pk_us]
              · rw [pk_un hj, pk_un hj, pk_un hj]
            · exact ⟨(hF' j hj).1.trans (hF j hj).1, (hF' j hj).2.trans (hF j hj).2⟩
    have idu : ∀ (g : Nat → Int32), g = upd g d (g d) := fun g => by
      funext j; by_cases hj : j = d
      · subst hj; rw [pk_us]
      · rw [pk_un hj]
    exact ⟨_, key c 0 c bs 0 pieces pieceLong bytesOf dict a0 t0 row cost leastD _ _ (by omega) (by omega) (idu pieces) (idu bytesOf) h (fun _ _ => ⟨rfl, rfl⟩) rfl⟩
  · rw [hsm, show (0 : Int32) = nI 0 from rfl, nI_eq (by omega) (by decide)] at q
    exact absurd q hne
theorem sX7_trim0 {sl sb idOf pieces pieceLong bytesOf dict row cost leastD : Nat → Int32} {sm a0 t0 p1 : Int32} {ids : Nat → Nat} {ss : List (List Nat)} (hI : MId idOf ids) (hS : MS sl sb ss) (hsm : sm = nI ss.length) {post : Int32 → Int32 → Int32 → Int32 → (Nat → Int32) → (Nat → Int32) → (Nat → Int32) → (Nat → Int32) → (Nat → Int32) → (Nat → Int32) → (Nat → Int32) → Prop}
    (h1 : (∀ d, ¬ Thr ids p1 d) → post (-101) 0 a0 t0 pieces pieceLong bytesOf dict row cost leastD) (h2 : ∀ d, Thr ids p1 d → ss.length = 0 → post (-104) 0 a0 t0 pieces pieceLong bytesOf dict row cost leastD) (hno : ∀ d, Thr ids p1 d → ss.length = 0) : wX7_trim sm a0 t0 sl sb idOf pieces pieceLong bytesOf dict row cost leastD p1 post := by
  refine sX7_isThere hI (fun d z => ⟨fun _ => ⟨fun q => absurd ?_ q, fun q => h2 d z (hno d z)⟩, fun q => absurd q (by decide)⟩) (fun z => ⟨fun q => absurd rfl q, fun _ => h1 z⟩)
  rw [hsm, hno d z]; rfl
theorem sX7_about {idOf : Nat → Int32} {tp sm om it mt tm p1 : Int32} {ids : Nat → Nat} (hI : MId idOf ids) {post : Int32 → Int32 → Prop} (h0 : p1 = 0 → post tp 0) (h1 : p1 = 1 → post sm 0) (h2 : p1 = 2 → post (nI (cnt6 ids 6)) 0) (h3 : p1 = 3 → post om 0) (h4 : p1 = 4 → post tm 0) (h5 : p1 = 5 → post it 0) (h6 : p1 = 6 → post mt 0) (h7 : ¬ p1 = 0 → ¬ p1 = 1 → ¬ p1 = 2 → ¬ p1 = 3 → ¬ p1 = 4 → ¬ p1 = 5 → ¬ p1 = 6 → post (-102) 0) : wX7_about tp sm om it mt tm idOf p1 post := by
  have key : ∀ (K : Int32 → Int32 → Prop), (∀ v, K (nI (cnt6 ids 6)) v) → ∀ e d, d + e = 6 → wX7_about_9 idOf K (e + 1) (nI (cnt6 ids d)) (nI d) := by
    intro K hK e
    induction e with
    | zero =>
      intro d hd
      have : d = 6 := by omega
      subst this
      exact ⟨fun _ => hK _, fun c => absurd (by decide) c⟩
    | succ e ih =>
      intro d hd
      obtain ⟨e1, e2⟩ := hI d (by omega)
      refine ⟨fun c => absurd (by rw [show (6 : Int32) = nI 6 from rfl, nI_leI (by decide) (by omega)] at c; exact c) (by omega), fun _ => ⟨vp_in_nI (by omega) (by omega), ?_⟩⟩
      rw [nI_clamp (by omega), e1]
      have hn := ih (d + 1) (by omega)
      have hc : cnt6 ids (d + 1) = cnt6 ids d + (if ids d = 0 then 0 else 1) := rfl
      rw [hc] at hn
      refine ⟨fun q y6 h6 y7 h7 => ?_, fun q y6 h6 y7 h7 => ?_⟩
      · rw [show (0 : Int32) = nI 0 from rfl, nI_leI (by omega) (by decide)] at q
        rw [if_pos (by omega)] at hn
        rw [h7, h6, nI_1, show (0 : Int32) = nI 0 from rfl, nI_add]
        exact hn
      · rw [show (0 : Int32) = nI 0 from rfl, nI_leI (by omega) (by decide)] at q
        rw [if_neg (by omega)] at hn
        rw [h7, h6, nI_1, nI_1]
        exact hn
  exact ⟨_, key _ (fun v => ⟨h0, fun q0 => ⟨h1, fun q1 => ⟨h2, fun q2 => ⟨h3, fun q3 => ⟨h4, fun q4 => ⟨h5, fun q5 => ⟨h6, fun q6 => h7 q0 q1 q2 q3 q4 q5 q6⟩⟩⟩⟩⟩⟩⟩) 6 0 rfl⟩
theorem sX7_size {sl sb idOf pieces pieceLong bytesOf dict row cost leastD : Nat → Int32} {sm a0 t0 p1 p2 : Int32} {ids ns cs : Nat → Nat} {bss : Nat → List Nat} {ss : List (List Nat)} (hI : MId idOf ids) (hM : MDs pieces pieceLong bytesOf dict ns cs bss) (hS : MS sl sb ss) (hsm : sm = nI ss.length) {post : Int32 → Int32 → Int32 → Int32 → (Nat → Int32) → (Nat → Int32) → (Nat → Int32) → Prop}
    (h1 : (∀ s, s < ss.length → ¬ p1 = nI s) ∨ (¬ p2 = -1 ∧ ∀ d, ¬ Thr ids p2 d) → ∀ a t r c l, post (-101) 0 a t r c l) (h2 : ∀ s, s < ss.length → p1 = nI s → p2 = -1 → ∀ a t r c l, post (nI (packN [] (ss.getD s []))) 0 a t r c l) (h3 : ∀ s, s < ss.length → p1 = nI s → ∀ d, Thr ids p2 d → ∀ a t r c l, post (nI (packN (bss d) (ss.getD s []))) 0 a t r c l) : wX7_size sm a0 t0 sl sb idOf pieceLong bytesOf dict row cost leastD p1 p2 post := by
  subst hsm
  refine sX7_inM (by have := hS.1; omega) (fun s hs es => ⟨fun z => absurd z (by decide), fun _ => ⟨fun q => ?_, fun q => ?_⟩⟩) (fun z => ⟨fun _ => h1 (Or.inl z) _ _ _ _ _, fun z => absurd rfl z⟩)
  · subst es; subst q
    exact sX7_sizeOf hS hs lay_none fun a t r c l => h2 s hs rfl rfl a t r c l
  · refine sX7_isThere hI (fun d z => ⟨fun _ => ?_, fun q => absurd q (by decide)⟩) (fun z => ⟨fun q => absurd rfl q, fun _ => h1 (Or.inr ⟨q, z⟩) _ _ _ _ _⟩)
    have h3' := h3 s hs es d z
    obtain ⟨z1, z2, z3⟩ := z
    subst es; subst z2
    exact sX7_sizeOf hS hs (lay_all z1 (hM d z1)) fun a t r c l => h3' a t r c l
/-- BEST: the first of the dictionaries with the fewest bytes, if it saves any -/
def bsf (ids : Nat → Nat) (bss : Nat → List Nat) (ts : List Nat) : Nat → Option Nat × Nat
  | 0 => (none, packN [] ts)
  | d + 1 => if ids d ≠ 0 ∧ packN (bss d) ts < (bsf ids bss ts d).2 then (some d, packN (bss d) ts) else bsf ids bss ts d
theorem bsf_le {ids : Nat → Nat} {bss : Nat → List Nat} {ts : List Nat} (h : ts.length ≤ 200) : ∀ d, (bsf ids bss ts d).2 ≤ 211 := by
  intro d
  induction d with
  | zero => exact packN_le [] ts h
  | succ d ih =>
    have e : bsf ids bss ts (d + 1) = if ids d ≠ 0 ∧ packN (bss d) ts < (bsf ids bss ts d).2 then (some d, packN (bss d) ts) else bsf ids bss ts d := rfl
    rw [e]
    split
    · exact packN_le _ _ h
    · exact ih
theorem sX7_best {sl sb idOf pieces pieceLong bytesOf dict row cost leastD : Nat → Int32} {sm a0 t0 p1 : Int32} {ids ns cs : Nat → Nat} {bss : Nat → List Nat} {ss : List (List Nat)} (hI : MId idOf ids) (hM : MDs pieces pieceLong bytesOf dict ns cs bss) (hS : MS sl sb ss) (hsm : sm = nI ss.length) {post : Int32 → Int32 → Int32 → Int32 → (Nat → Int32) → (Nat → Int32) → (Nat → Int32) → Prop}
    (h1 : (∀ s, s < ss.length → ¬ p1 = nI s) → ∀ a t r c l, post (-101) 0 a t r c l) (h2 : ∀ s, s < ss.length → p1 = nI s → ∀ a t r c l, post (optI (bsf ids bss (ss.getD s []) 6).1) 0 a t r c l) : wX7_best sm a0 t0 sl sb idOf pieceLong bytesOf dict row cost leastD p1 post := by
  subst hsm
  refine sX7_inM (by have := hS.1; omega) (fun s hs es => ⟨fun _ => ?_, fun z => absurd z (by decide)⟩) (fun z => ⟨fun z => absurd rfl z, fun _ => h1 z _ _ _ _ _⟩)
  have h2' := h2 s hs es
  subst es
  have hts : (ss.getD s []).length ≤ 200 := by have := (hS.2 s hs).2.2.1; omega
  refine sX7_sizeOf hS hs lay_none fun a t r c l => ?_
  have key : ∀ e d a t r c l, d + e = 6 → wX7_best_37 sl sb idOf pieceLong bytesOf dict (nI s) (fun s9 s10 s11 s12 s13 y14 _ _ => post y14 0 s9 s10 s11 s12 s13) (e + 1) a t r c l (optI (bsf ids bss (ss.getD s []) d).1) (nI (bsf ids bss (ss.getD s []) d).2) (nI d) := by
    intro e
    induction e with
    | zero =>
      intro d a t r c l hd
      have : d = 6 := by omega
      subst this
      exact ⟨fun _ => h2' _ _ _ _ _, fun c => absurd (by decide) c⟩
    | succ e ih =>
      intro d a t r c l hd
      have hb := bsf_le (ids := ids) (bss := bss) hts d
      have hpk := packN_le (bss d) (ss.getD s []) hts
      have ebs : bsf ids bss (ss.getD s []) (d + 1) = if ids d ≠ 0 ∧ packN (bss d) (ss.getD s []) < (bsf ids bss (ss.getD s []) d).2 then (some d, packN (bss d) (ss.getD s [])) else bsf ids bss (ss.getD s []) d := rfl
      refine ⟨fun c => absurd (by rw [show (6 : Int32) = nI 6 from rfl, nI_leI (by decide) (by omega)] at c; exact c) (by omega), fun _ => ?_⟩
      refine sX7_isThere hI (fun d' z => ⟨fun q => absurd q (by decide), fun _ => ?_⟩) (fun z => ⟨fun _ => ⟨fun _ y21 h21 => ?_, fun q => absurd (Int32.le_refl _) q⟩, fun q => absurd rfl q⟩)
      · have hdd : d' = d := by
          obtain ⟨z1, z2, z3⟩ := z
          rw [nI_eq (by omega) (by omega)] at z2
          exact z2.symm
        subst hdd
        refine sX7_sizeOf hS hs (lay_all z.1 (hM d' z.1)) fun a2 t2 r2 c2 l2 => ?_
        rw [nI_leI (by omega) (by omega)]
        have hn := ih (d' + 1)
        refine ⟨fun q y30 h30 => ?_, fun q y31 h31 => ?_⟩
        · have := hn a2 t2 r2 c2 l2 (by omega)
          rw [ebs, if_neg (by omega)] at this
          rw [h30, nI_1]; exact this
        · have := hn a2 t2 r2 c2 l2 (by omega)
          rw [ebs, if_pos ⟨z.2.2, by omega⟩] at this
          rw [h31, nI_1]; exact this
      · have := ih (d + 1) a t r c l (by omega)
        rw [ebs, if_neg (fun q => z d ⟨by omega, rfl, q.1⟩)] at this
        rw [h21, nI_1]; exact this
  exact ⟨_, key 6 0 a t r c l rfl⟩
theorem packN_ge (ws ts : List Nat) : 4 ≤ packN ws ts := by unfold packN; omega
theorem sumPack_pos {ws : List Nat} {ss : List (List Nat)} : sumPack ws ss = 0 ↔ ss.length = 0 := by
  cases ss with
  | nil => exact ⟨fun _ => rfl, fun _ => rfl⟩
  | cons x ss =>
    have h3 : sumPack ws (x :: ss) = packN ws x + sumPack ws ss := by unfold sumPack; rw [List.map_cons, List.sum_cons]
    rw [h3, List.length_cons]
    have := packN_ge ws x
    omega
/-- SHARE -/
def shr (ws : List Nat) (ss : List (List Nat)) : Int32 := ((nI (sumPack [] ss) - nI (sumPack ws ss)) * 1000) / nI (sumPack [] ss)
theorem sX7_share {sl sb idOf pieces pieceLong bytesOf dict row cost leastD : Nat → Int32} {sm a0 t0 p1 : Int32} {ids ns cs : Nat → Nat} {bss : Nat → List Nat} {ss : List (List Nat)} (hI : MId idOf ids) (hM : MDs pieces pieceLong bytesOf dict ns cs bss) (hS : MS sl sb ss) (hsm : sm = nI ss.length) {post : Int32 → Int32 → Int32 → Int32 → (Nat → Int32) → (Nat → Int32) → (Nat → Int32) → Prop}
    (h1 : (∀ d, ¬ Thr ids p1 d) → ∀ a t r c l, post (-101) 0 a t r c l) (h2 : ∀ d, Thr ids p1 d → ss.length = 0 → ∀ a t r c l, post 0 1 a t r c l) (h3 : ∀ d, Thr ids p1 d → ss.length ≠ 0 → ∀ a t r c l, post (shr (bss d) ss) 0 a t r c l) : wX7_share sm a0 t0 sl sb idOf pieceLong bytesOf dict row cost leastD p1 post := by
  have h8 := hS.1
  refine sX7_isThere hI (fun d z => ⟨fun _ => ⟨fun q => ?_, fun q => ?_⟩, fun q => absurd q (by decide)⟩) (fun z => ⟨fun q => absurd rfl q, fun _ => h1 z _ _ _ _ _⟩)
  · rw [hsm, show (0 : Int32) = nI 0 from rfl, nI_eq (by omega) (by decide)] at q
    have h3' := h3 d z q
    obtain ⟨z1, z2, z3⟩ := z
    subst z2
    refine sX7_sizeOfAll hS hsm lay_none fun a1 t1 r1 c1 l1 => sX7_sizeOfAll hS hsm (lay_all z1 (hM d z1)) fun a2 t2 r2 c2 l2 => ⟨?_, h3' _ _ _ _ _⟩
    have := sumPack_le [] ss hS.short
    rw [show (0 : Int32) = nI 0 from rfl, nI_eq (by omega) (by decide), sumPack_pos]
    exact q
  · rw [hsm, show (0 : Int32) = nI 0 from rfl, nI_eq (by omega) (by decide)] at q
    exact h2 d z q _ _ _ _ _
