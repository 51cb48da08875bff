/-! PURE: the reference's train -/
theorem bstN_skip {ss : List (List Nat)} {n : Nat} {C : Nat → Bool} {i : Nat} : ∀ k, (∀ j, i ≤ j → j < i + k → ¬ Fr ss n C j) → bstN ss n C (i + k) = bstN ss n C i := by
  intro k
  induction k with
  | zero => intro _; rfl
  | succ k ih =>
    intro h
    rw [show i + (k + 1) = (i + k) + 1 by omega, bstN_n (fun z => h (i + k) (by omega) (by omega) z.1)]
    exact ih fun j a b => h j a (by omega)
/-- the gain of a row that is counted c times -/
def gnI (n c : Nat) : Int32 := nI ((n - 2) * c) - nI (n + 1)
theorem gnI_eq {n c : Nat} (h2 : 2 ≤ n) : (((nI n - 2) * nI c) - nI n) - 1 = gnI n c := by
  unfold gnI
  rw [show (2 : Int32) = nI 2 from rfl, pk_sub h2, pk_mul, ← nI_1]
  rw [Int32.sub_eq_add_neg, Int32.sub_eq_add_neg, Int32.sub_eq_add_neg (nI ((n - 2) * c)) (nI n + 1), Int32.neg_add, Int32.sub_eq_add_neg, Int32.add_assoc]
theorem gnI_le {n c c' : Nat} (hn : n ≤ 8) (hc : c ≤ 320) (hc' : c' ≤ 320) (h3 : 3 ≤ n) : gnI n c ≤ gnI n c' ↔ c ≤ c' := by
  have h1 : (n - 2) * c ≤ 6 * 320 := Nat.mul_le_mul (by omega) hc
  have h2 : (n - 2) * c' ≤ 6 * 320 := Nat.mul_le_mul (by omega) hc'
  unfold gnI
  rw [Int32.le_iff_toInt_le, pk_sub_toInt (by omega) (by omega), pk_sub_toInt (by omega) (by omega)]
  constructor
  · intro h
    have : (n - 2) * c ≤ (n - 2) * c' := by omega
    exact Nat.le_of_mul_le_mul_left this (by omega)
  · intro h
    have : (n - 2) * c ≤ (n - 2) * c' := Nat.mul_le_mul_left _ h
    omega
theorem gnI_0 {n c : Nat} (hn : n ≤ 8) (hc : c ≤ 320) : gnI n c ≤ 0 ↔ ¬ n + 1 < (n - 2) * c := by
  have h1 : (n - 2) * c ≤ 6 * 320 := Nat.mul_le_mul (by omega) hc
  unfold gnI
  rw [← pos_sub (by omega) (by omega)]
  exact Int32.not_lt.symm
/-- the best row so far, as the reference keeps it -/
def BG (n : Nat) (o : Option Nat × Nat) (v6 v7 : Int32) : Prop :=
  (n = 2 → v6 = -1 ∨ v7 = gnI 2 0) ∧ (3 ≤ n → (o.1 = none ∧ v6 = -1) ∨ ∃ b, o.1 = some b ∧ b < 320 ∧ v6 = nI b ∧ v7 = gnI n o.2)
theorem gnI_2 (c : Nat) : gnI 2 c = gnI 2 0 := by unfold gnI; rw [show (2 - 2) * c = (2 - 2) * 0 by simp]
theorem sX7_train_131 {sl sb : Nat → Int32} {sm : Int32} {ss : List (List Nat)} (h : MS sl sb ss) (hsm : sm = nI ss.length) {n s : Nat} (hS : SOK ss n) (hs : s < ss.length) {C : Nat → Bool} {K : (Nat → Int32) → Int32 → Int32 → Int32 → Prop} (hK : ∀ cov v6 v7 v9, CV cov C → BG n (bstN ss n C (40 * (s + 1))) v6 v7 → K cov v6 v7 v9) :
    ∀ d p cov v6 v7, p + d = 40 → CV cov C → BG n (bstN ss n C (40 * s + p)) v6 v7 → wX7_train_131 sm sl sb (nI n) (nI s) K (d + 1) cov v6 v7 (nI p) := by
  obtain ⟨s1, s2, s3, s4, s5⟩ := id hS
  have hlen := s2 s
  intro d
  induction d with
  | zero =>
    intro p cov v6 v7 hp hC hB
    refine ⟨vp_in_nI (by omega) (by omega), ?_⟩
    rw [nI_clamp (show s < 2 ^ 31 by omega), (h.2 s hs).1, nI_add, nI_ltI (by omega) (by omega)]
    refine ⟨fun _ => hK cov _ _ _ hC ?_, fun c => absurd (by omega) c⟩
    have h41 : p = 40 := by omega
    subst h41
    rw [show 40 * (s + 1) = 40 * s + 40 by omega]
    exact hB
  | succ d ih =>
    intro p cov v6 v7 hp hC hB
    refine ⟨vp_in_nI (by omega) (by omega), ?_⟩
    rw [nI_clamp (show s < 2 ^ 31 by omega), (h.2 s hs).1, nI_add, nI_ltI (by omega) (by omega)]
    refine ⟨fun c => hK cov _ _ _ hC ?_, fun c => ?_⟩
    · have := bstN_skip (ss := ss) (n := n) (C := C) (i := 40 * s + p) (40 - p) (fun j a b z => by
        have h1 := z.1.2
        rw [show j / 40 = s by omega] at h1
        omega)
      rw [show 40 * s + p + (40 - p) = 40 * (s + 1) by omega] at this
      rw [this]; exact hB
    · have hv : Vp ss n (40 * s + p) := ⟨by omega, by rw [show (40 * s + p) / 40 = s by omega]; omega⟩
      refine sX7_isOpen h hS hs (by omega) hC (fun hF => ⟨fun c2 => absurd c2 (by decide), fun _ => ?_⟩) (fun hF => ⟨fun _ y hy => ?_, fun c2 => absurd rfl c2⟩)
      · rw [i40]
        refine sX7_counted h hsm hS hv hC false fun cov2 hC2 y36 h36 => ?_
        have hC2 : CV cov2 C := hC2
        rw [gnI_eq s4] at h36
        have hcl := cnt_le (ss := ss) (n := n) (C := C) (r := 40 * s + p)
        have hpos := cnt_pos hF (by omega)
        have hble := bstN_le (ss := ss) (n := n) (C := C) (40 * s + p)
        have next : ∀ v6' v7', BG n (bstN ss n C (40 * s + p + 1)) v6' v7' → ∀ y : Int32, y = nI p + 1 → wX7_train_131 sm sl sb (nI n) (nI s) K (d + 1) cov2 v6' v7' y := fun v6' v7' hb y hy => by
          rw [hy, nI_1]
          exact ih (p + 1) cov2 v6' v7' (by omega) hC2 hb
        refine ⟨fun c2 y38 h38 => ?_, fun c2 => ⟨fun c3 => ?_, fun c3 y42 h42 => ?_⟩⟩
        · refine next _ _ ⟨fun h2 => Or.inr ?_, fun h3 => Or.inr ⟨40 * s + p, ?_⟩⟩
          · subst h2; rw [h36, gnI_2]
          · rcases hB.2 h3 with ⟨a, b⟩ | ⟨b, a1, a2, a3, a4⟩
            · rw [bstN_y hF (by rw [bstN_none _ a]; exact hpos)]
              exact ⟨rfl, by omega, h38, h36⟩
            · exact absurd (a3.symm.trans c2) (nI_ne_m1 (by omega))
        · refine next _ _ ⟨hB.1, fun h3 => ?_⟩
          rcases hB.2 h3 with ⟨a, b⟩ | ⟨b, a1, a2, a3, a4⟩
          · exact absurd b c2
          · rw [h36, a4, gnI_le s5 hcl hble h3] at c3
            rw [bstN_n (fun z => by have := z.2; omega)]
            exact Or.inr ⟨b, a1, a2, a3, a4⟩
        · refine next _ _ ⟨fun h2 => Or.inr (by subst h2; rw [h36, gnI_2]), fun h3 => ?_⟩
          rcases hB.2 h3 with ⟨a, b⟩ | ⟨b, a1, a2, a3, a4⟩
          · exact absurd b c2
          · rw [h36, a4, gnI_le s5 hcl hble h3] at c3
            rw [bstN_y hF (by omega)]
            exact Or.inr ⟨40 * s + p, rfl, by omega, h42, h36⟩
      · rw [hy, nI_1]
        refine ih (p + 1) cov v6 v7 (by omega) hC ?_
        rw [show 40 * s + (p + 1) = (40 * s + p) + 1 by omega, bstN_n (fun z => hF z.1)]
        exact hB
theorem sX7_train_119 {sl sb : Nat → Int32} {sm : Int32} {ss : List (List Nat)} (h : MS sl sb ss) (hsm : sm = nI ss.length) {n : Nat} (hS : SOK ss n) {C : Nat → Bool} {K : (Nat → Int32) → Int32 → Int32 → Int32 → Prop} (hK : ∀ cov v6 v7 v8, CV cov C → BG n (bst ss n C) v6 v7 → K cov v6 v7 v8) {cov0 : Nat → Int32} (hC0 : CV cov0 C) : ∃ N, wX7_train_119 sm sl sb (nI n) K N cov0 (-1) 0 (0 : Int32) := by
  obtain ⟨s1, s2, s3, s4, s5⟩ := id hS
  have key : ∀ d s cov v6 v7, s + d = ss.length → CV cov C → BG n (bstN ss n C (40 * s)) v6 v7 → wX7_train_119 sm sl sb (nI n) K (d + 1) cov v6 v7 (nI s) := by
    intro d
    induction d with
    | zero =>
      intro s cov v6 v7 hs hC hB
      have : s = ss.length := by omega
      subst this
      refine ⟨fun _ => hK cov _ _ _ hC ?_, fun c => absurd (by rw [hsm]; exact nI_le (Nat.le_refl _) (by omega)) c⟩
      have := bstN_skip (ss := ss) (n := n) (C := C) (i := 40 * ss.length) (320 - 40 * ss.length) (fun j a b z => by have := z.1.1; omega)
      rw [show 40 * ss.length + (320 - 40 * ss.length) = 320 by omega] at this
      show BG n (bstN ss n C 320) v6 v7
      rw [this]; exact hB
    | succ d ih =>
      intro s cov v6 v7 hs hC hB
      refine ⟨fun c => absurd (by rw [hsm] at c; exact c) (nI_ge (by omega) (by omega)), fun _ => ⟨41, ?_⟩⟩
      refine sX7_train_131 h hsm hS (by omega) (fun cov' v6' v7' v9 hC' hB' y hy => ?_) 40 0 cov v6 v7 (by omega) hC hB
      rw [hy, nI_1]
      exact ih (s + 1) cov' v6' v7' (by omega) hC' hB'
  refine ⟨_, key ss.length 0 cov0 (-1) 0 (by omega) hC0 ⟨fun _ => Or.inl rfl, fun _ => Or.inl ⟨rfl, rfl⟩⟩⟩
/-- what the reference has taken -/
def TKm (ss : List (List Nat)) (n : Nat) (taken : Nat → Int32) (tk : List Nat) : Prop := ∀ j, j < tk.length → ∀ t, t < n → taken (n * j + t) = nI (Bp ss (tk.getD j 0 + t))
theorem sX7_train_105 {sl sb cov0 t0 : Nat → Int32} {sm : Int32} {ss : List (List Nat)} (h : MS sl sb ss) (hsm : sm = nI ss.length) {n bound : Nat} (hS : SOK ss n) (hb : bound ≤ 80) {K : Int32 → (Nat → Int32) → (Nat → Int32) → Int32 → Prop} (hC0 : CV cov0 (fun _ => false))
    (hK : ∀ cov taken v, TKm ss n taken (trn ss n bound 27 (fun _ => false) []) → (trn ss n bound 27 (fun _ => false) []).length ≤ 26 → n * (trn ss n bound 27 (fun _ => false) []).length ≤ 80 → K (nI (trn ss n bound 27 (fun _ => false) []).length) cov taken v) : ∃ N, wX7_train_105 sm sl sb (nI n) (nI bound) K N 0 cov0 t0 (1 : Int32) := by
  obtain ⟨s1, s2, s3, s4, s5⟩ := id hS
  have key : ∀ f C tk cov taken, tk.length + f = 27 → CV cov C → TKm ss n taken tk → n * tk.length ≤ 80 → (n = 2 → tk = []) →
      (∀ cov' taken' v, TKm ss n taken' (trn ss n bound f C tk) → (trn ss n bound f C tk).length ≤ 26 → n * (trn ss n bound f C tk).length ≤ 80 → K (nI (trn ss n bound f C tk).length) cov' taken' v) →
      wX7_train_105 sm sl sb (nI n) (nI bound) K (f + 2) (nI tk.length) cov taken 1 := by
    intro f
    induction f with
    | zero =>
      intro C tk cov taken hf hC hT hl h2 hp
      exfalso
      by_cases hn2 : n = 2
      · rw [h2 hn2] at hf; simp at hf
      · have : 3 * tk.length ≤ n * tk.length := Nat.mul_le_mul_right _ (by omega)
        omega
    | succ f ih =>
      intro C tk cov taken hf hC hT hl h2 hp
      have htr : trn ss n bound (f + 1) C tk = match (bst ss n C).1 with
        | none => tk
        | some b => if n + 1 < (n - 2) * cnt ss n C b ∧ n * (tk.length + 1) ≤ bound then trn ss n bound f (cvr C n (cL ss n C b)) (tk ++ [b]) else tk := rfl
      have stop : trn ss n bound (f + 1) C tk = tk → ∀ cov', wX7_train_105 sm sl sb (nI n) (nI bound) K (f + 2) (nI tk.length) cov' taken 0 := fun e cov' => by
        rw [e] at hp
        refine ⟨fun _ => hp cov' taken _ hT ?_ hl, fun c => absurd rfl c⟩
        by_cases hn2 : n = 2
        · rw [h2 hn2]; simp
        · have : 3 * tk.length ≤ n * tk.length := Nat.mul_le_mul_right _ (by omega)
          omega
      have hbig : ∀ b, (bst ss n C).1 = some b → ¬ (n + 1 < (n - 2) * cnt ss n C b ∧ n * (tk.length + 1) ≤ bound) → trn ss n bound (f + 1) C tk = tk := fun b hb1 hno => by
        rw [htr, hb1]; exact if_neg hno
      have hnone : (bst ss n C).1 = none → trn ss n bound (f + 1) C tk = tk := fun h => by rw [htr, h]
      have h2stop : n = 2 → trn ss n bound (f + 1) C tk = tk := fun hn2 => by
        cases hb1 : (bst ss n C).1 with
        | none => exact hnone hb1
        | some b => exact hbig b hb1 fun z => by subst hn2; simp at z
      have hmul : nI n * (nI tk.length + 1) = nI (n * (tk.length + 1)) := by rw [nI_1, pk_mul]
      have hml : n * (tk.length + 1) ≤ 1000 := by rw [Nat.mul_add, Nat.mul_one]; omega
      refine ⟨fun c => absurd c (by decide), fun _ => sX7_train_119 h hsm hS (fun cov1 v6 v7 v8 hC1 hB => ?_) hC⟩
      by_cases hn2 : n = 2
      · refine ⟨fun _ => stop (h2stop hn2) _, fun c => ⟨fun _ => stop (h2stop hn2) _, fun c2 => absurd ?_ c2⟩⟩
        rcases hB.1 hn2 with q | q
        · exact absurd q c
        · rw [q]; decide
      · rcases hB.2 (by omega) with ⟨a, b⟩ | ⟨b, a1, a2, a3, a4⟩
        · exact ⟨fun _ => stop (hnone a) _, fun c => absurd b c⟩
        · obtain ⟨b1, b2, b3⟩ := bstN_some 320 a1
          have hcl := cnt_le (ss := ss) (n := n) (C := C) (r := b)
          have b3 : (bst ss n C).2 = cnt ss n C b := b3
          rw [b3] at a4
          refine ⟨fun c => absurd (a3.symm.trans c) (nI_ne_m1 (by omega)), fun _ => ⟨fun c => ?_, fun c => ⟨fun c2 => ?_, fun c2 => ?_⟩⟩⟩
          · rw [a4, gnI_0 s5 hcl] at c
            exact stop (hbig b a1 fun z => c z.1) _
          · rw [hmul, nI_ltI (by omega) (by omega)] at c2
            exact stop (hbig b a1 fun z => by omega) _
          · rw [a4, gnI_0 s5 hcl] at c
            have c := Classical.not_not.mp c
            rw [hmul, nI_ltI (by omega) (by omega)] at c2
            have hbd := (b2.1.bd s2 s1).1
            have hmul1 : n * (tk.length + 1) = n * tk.length + n := by rw [Nat.mul_add, Nat.mul_one]
            subst a3
            have hstep : trn ss n bound (f + 1) C tk = trn ss n bound f (cvr C n (cL ss n C b)) (tk ++ [b]) := by
              rw [htr, a1]; exact if_pos ⟨c, by omega⟩
            rw [hstep] at hp
            have hlen : (tk ++ [b]).length = tk.length + 1 := by rw [List.length_append]; rfl
            -- copying the row
            have cp : ∀ e t taken', t + e = n → (∀ j, j < n * tk.length → taken' j = taken j) → (∀ t', t' < t → taken' (n * tk.length + t') = nI (Bp ss (b + t'))) → wX7_train_259 (nI tk.length) sb (nI n) (nI b) (fun s49 _ => ∀ y55 : Int32, y55 = nI tk.length + 1 → wX7_counted sm sl sb cov1 (nI b) (nI n) (1 : Int32) (fun _ s57 => wX7_train_105 sm sl sb (nI n) (nI bound) K (f + 2) y55 s57 s49 1)) (e + 1) taken' (nI t) := by
              intro e
              induction e with
              | zero =>
                intro t taken' ht g1 g2
                have : t = n := by omega
                subst this
                refine ⟨fun _ y55 h55 => ?_, fun c => absurd (nI_le (Nat.le_refl _) (by omega)) c⟩
                refine sX7_counted h hsm hS b2.1 hC1 true fun cov2 hC2 => ?_
                rw [h55, nI_1, ← hlen]
                refine ih (cvr C t (cL ss t C b)) (tk ++ [b]) cov2 taken' (by omega) hC2 (fun j hj t' ht' => ?_) (by rw [hlen]; omega) (fun z => absurd z hn2) hp
                rw [hlen] at hj
                by_cases hjl : j < tk.length
                · have hb2 : t * j + t ≤ t * tk.length := by
                    have : t * j + t = t * (j + 1) := by rw [Nat.mul_add, Nat.mul_one]
                    rw [this]; exact Nat.mul_le_mul_left t (by omega)
                  rw [getD_app_lt hjl, g1 _ (by omega)]; exact hT j hjl t' ht'
                · have : j = tk.length := by omega
                  subst this
                  rw [getD_app_ge (Nat.le_refl _), Nat.sub_self]
                  exact g2 t' ht'
              | succ e ihe =>
                intro t taken' ht g1 g2
                refine ⟨fun c => absurd c (nI_ge (by omega) (by omega)), fun _ => ?_⟩
                rw [nI_add, pk_mul, nI_add, nI_clamp (by omega), nI_clamp (by omega), h.byte b2.1 (by omega)]
                refine ⟨vp_in_nI (by omega) (by omega), vp_in_nI (by omega) (by omega), fun y hy => ?_⟩
                subst hy
                rw [show nI t + 1 = nI (t + 1) from nI_1 t]
                refine ihe (t + 1) _ (by omega) (fun j hj => ?_) (fun t' ht' => ?_)
                · rw [pk_un (by omega)]; exact g1 j hj
                · by_cases et : t' = t
                  · subst et; exact pk_us
                  · rw [pk_un (by omega)]; exact g2 t' (by omega)
            exact ⟨_, cp n 0 taken (by omega) (fun _ _ => rfl) (fun t' ht' => absurd ht' (Nat.not_lt_zero t'))⟩
  exact ⟨_, key 27 (fun _ => false) [] cov0 t0 rfl hC0 (fun j hj => absurd hj (Nat.not_lt_zero j)) (by simp) (fun _ => rfl) hK⟩
theorem flatMap_getD {f : Nat → List Nat} {n : Nat} (hf : ∀ b, (f b).length = n) : ∀ (l : List Nat) (k t : Nat), k < l.length → t < n → (l.flatMap f).getD (n * k + t) 0 = (f (l.getD k 0)).getD t 0 := by
  intro l
  induction l with
  | nil => intro k t hk; exact absurd hk (Nat.not_lt_zero k)
  | cons a l ih =>
    intro k t hk ht
    rw [List.flatMap_cons]
    cases k with
    | zero =>
      rw [Nat.mul_zero, Nat.zero_add, getD_app_lt (by rw [hf]; exact ht)]
      rfl
    | succ k =>
      rw [List.length_cons] at hk
      rw [getD_app_ge (by rw [hf, Nat.mul_add, Nat.mul_one]; omega), hf, show n * (k + 1) + t - n = n * k + t by rw [Nat.mul_add, Nat.mul_one]; omega, ih k t (by omega) ht]
      rfl
theorem rev_getD {l : List Nat} {k : Nat} (h : k < l.length) : l.reverse.getD k 0 = l.getD (l.length - 1 - k) 0 := by
  rw [gD_lt (by rw [List.length_reverse]; exact h), gD_lt (by omega), List.getElem_reverse]
theorem pcs_getD {ss : List (List Nat)} {n : Nat} {tk : List Nat} {k t : Nat} (hk : k < tk.length) (ht : t < n) : (pcs ss n tk).getD (n * k + t) 0 = Bp ss (tk.getD (tk.length - 1 - k) 0 + t) := by
  unfold pcs
  rw [flatMap_getD (n := n) (fun b => by simp) _ k t (by rw [List.length_reverse]; exact hk) ht, rev_getD hk, gD_lt (by simpa using ht)]
  simp
theorem pcs_lt {ss : List (List Nat)} {n : Nat} (hS : SOK ss n) (tk : List Nat) : ∀ x ∈ pcs ss n tk, x < 256 := by
  intro x hx
  unfold pcs at hx
  obtain ⟨b, -, hb⟩ := List.mem_flatMap.mp hx
  obtain ⟨t, -, rfl⟩ := List.mem_map.mp hb
  exact hS.B _
theorem sX7_train {sl sb idOf pieces pieceLong bytesOf dict cov0 t0 : Nat → Int32} {sm tm0 : Int32} {ss : List (List Nat)} (h : MS sl sb ss) (hsm : sm = nI ss.length) (hne : ss.length ≠ 0) {d iD n bound : Nat} (hd : d < 6) (hi1 : 1 ≤ iD) (hi2 : iD ≤ 255) (hn2 : 2 ≤ n) (hn8 : n ≤ 8) (hb : bound ≤ 80)
    {post : Int32 → Int32 → Int32 → (Nat → Int32) → (Nat → Int32) → (Nat → Int32) → (Nat → Int32) → (Nat → Int32) → (Nat → Int32) → (Nat → Int32) → Prop}
    (hp : ∀ tk, tk = trn ss n bound 27 (fun _ => false) [] → ∀ tm pieceLong' dict' cov taken, MD (upd pieces d (nI tk.length)) pieceLong' (upd bytesOf d (nI (n * tk.length))) dict' d n tk.length (pcs ss n tk) → (∀ j, ¬ (80 * d ≤ j ∧ j < 80 * d + 80) → pieceLong' j = pieceLong j ∧ dict' j = dict j) → post (nI tk.length) 0 tm (upd idOf d (nI iD)) (upd pieces d (nI tk.length)) pieceLong' (upd bytesOf d (nI (n * tk.length))) dict' cov taken) :
    wX7_train sm tm0 sl sb idOf pieces pieceLong bytesOf dict cov0 t0 (nI d) (nI iD) (nI n) (nI bound) post := by
  have hS := h.sok hn2 hn8
  obtain ⟨s1, s2, s3, s4, s5⟩ := id hS
  have inn : ∀ {x : Nat} {a b : Int64} {a' b' : Nat} {p : Int32 → Prop}, x < 2 ^ 31 → a.toInt = a' → b.toInt = b' → a' ≤ x → x ≤ b' → p 1 → wX7_in (nI x).toInt64 a b p := fun {x a b a' b' p} h0 ha hb h1 h2 hp => sX7_in (fun _ => hp) (fun c => absurd (by rw [ha, hb, nI_toInt h0]; omega) c)
  refine inn (a' := 0) (b' := 5) (by omega) rfl rfl (by omega) (by omega) ⟨fun _ => ?_, fun c => absurd c (by decide)⟩
  refine inn (a' := 1) (b' := 255) (by omega) rfl rfl (by omega) (by omega) ⟨fun c => absurd c (by decide), fun _ => ?_⟩
  refine inn (a' := 2) (b' := 8) (by omega) rfl rfl (by omega) (by omega) ⟨fun c => absurd c (by decide), fun _ => ?_⟩
  refine inn (a' := 0) (b' := 80) (by omega) rfl rfl (by omega) (by omega) ⟨fun _ => ⟨fun _ => ?_, fun c => absurd c ?_⟩, fun c => absurd c (by decide)⟩
  · have l75 : ∀ (K : (Nat → Int32) → Int32 → Prop), (∀ cov v, CV cov (fun _ => false) → K cov v) → ∀ e k cov, k + e = 320 → (∀ j, j < k → cov j = 0) → wX7_train_75 K (e + 1) cov (nI k) := by
      intro K hK e
      induction e with
      | zero =>
        intro k cov hk hc
        have : k = 320 := by omega
        subst this
        exact ⟨fun _ => hK cov _ (fun j hj => by rw [hc j hj]; rfl), fun c => absurd (by decide) c⟩
      | succ e ih =>
        intro k cov hk hc
        refine ⟨fun c => absurd (by rw [show (320 : Int32) = nI 320 from rfl, nI_leI (by decide) (by omega)] at c; exact c) (by omega), fun _ => ⟨vp_in_nI (by omega) (by omega), fun y hy => ?_⟩⟩
        rw [hy, nI_1, nI_clamp (by omega), nar_z0]
        refine ih (k + 1) _ (by omega) (fun j hj => ?_)
        by_cases e2 : j = k
        · subst e2; exact pk_us
        · rw [pk_un e2]; exact hc j (by omega)
    refine ⟨_, l75 _ (fun cov v hC => ?_) 320 0 cov0 (by omega) (fun j hj => absurd hj (Nat.not_lt_zero j))⟩
    refine sX7_train_105 h hsm hS hb hC fun cov2 taken v2 hT h26 h80 => ?_
    have hp := hp _ rfl
    generalize trn ss n bound 27 (fun _ => false) [] = tk at *
    rw [nI_clamp (by omega), pk_mul]
    refine ⟨vp_in_nI (by omega) (by omega), vp_in_nI (by omega) (by omega), vp_in_nI (by omega) (by omega), ?_⟩
    have nk : ∀ k, k < tk.length → n * k + n ≤ n * tk.length := fun k hk => by
      have : n * k + n = n * (k + 1) := by rw [Nat.mul_add, Nat.mul_one]
      rw [this]; exact Nat.mul_le_mul_left n (by omega)
    have hlen : tk.length ≤ 80 := by omega
    -- one piece
    have l375 : ∀ (k : Nat), k < tk.length → ∀ (K : (Nat → Int32) → Int32 → Prop) (dc : Nat → Int32), (∀ dc' v, (∀ t, t < n → dc' (80 * d + n * k + t) = nI ((pcs ss n tk).getD (n * k + t) 0)) → (∀ j, ¬ (80 * d + n * k ≤ j ∧ j < 80 * d + n * k + n) → dc' j = dc j) → K dc' v) →
        ∀ e t dc', t + e = n → (∀ t', t' < t → dc' (80 * d + n * k + t') = nI ((pcs ss n tk).getD (n * k + t') 0)) → (∀ j, ¬ (80 * d + n * k ≤ j ∧ j < 80 * d + n * k + n) → dc' j = dc j) → wX7_train_375 (nI tk.length) taken (nI d) (nI n) (nI k) K (e + 1) dc' (nI t) := by
      intro k hk K dc hK e
      have hnk := nk k hk
      have hnk2 := nk (tk.length - 1 - k) (by omega)
      induction e with
      | zero =>
        intro t dc' ht g1 g2
        have : t = n := by omega
        subst this
        exact ⟨fun _ => hK dc' _ g1 g2, fun c => absurd (nI_le (Nat.le_refl _) (by omega)) c⟩
      | succ e ih =>
        intro t dc' ht g1 g2
        refine ⟨fun c => absurd c (nI_ge (by omega) (by omega)), fun _ => ?_⟩
        rw [show (1 : Int32) = nI 1 from rfl, pk_sub (by omega), pk_sub (by omega), pk_mul, pk_mul, show (80 : Int32) = nI 80 from rfl, pk_mul, nI_add, nI_add, nI_add, nI_clamp (by omega), nI_clamp (by omega), hT (tk.length - 1 - k) (by omega) t (by omega)]
        refine ⟨vp_in_nI (by omega) (by omega), vp_in_nI (by omega) (by omega), fun y hy => ?_⟩
        rw [hy, nI_add]
        refine ih (t + 1) _ (by omega) (fun t' ht' => ?_) (fun j hj => ?_)
        · by_cases et : t' = t
          · subst et; rw [pk_us, pcs_getD hk (by omega)]
          · rw [pk_un (by omega)]; exact g1 t' (by omega)
        · rw [pk_un (by omega)]; exact g2 j hj
    have l350 : ∀ e k pl dc, k + e = tk.length → (∀ k', k' < k → pl (80 * d + k') = nI n) → (∀ j, ¬ (80 * d ≤ j ∧ j < 80 * d + 80) → pl j = pieceLong j ∧ dc j = dict j) → (∀ j, j < n * k → dc (80 * d + j) = nI ((pcs ss n tk).getD j 0)) → wX7_train_350 (nI tk.length) taken (nI d) (nI n) (fun s63 s64 _ => post (nI tk.length) 0 (nI tk.length) (upd idOf d (nI iD)) (upd pieces d (nI tk.length)) s63 (upd bytesOf d (nI (n * tk.length))) s64 cov2 taken) (e + 1) pl dc (nI k) := by
      intro e
      induction e with
      | zero =>
        intro k pl dc hk g1 g2 g3
        have : k = tk.length := by omega
        subst this
        refine ⟨fun _ => hp _ pl dc cov2 taken ⟨pk_us, by rw [pk_us, pcs_len], pcs_len ss n tk, by rw [pcs_len]; exact h80, hlen, by omega, pcs_lt hS tk, fun k' hk' => g3 k' (by rw [pcs_len] at hk'; exact hk'), g1⟩ g2, fun c => absurd (nI_le (Nat.le_refl _) (by omega)) c⟩
      | succ e ih =>
        intro k pl dc hk g1 g2 g3
        have hnk := nk k (by omega)
        refine ⟨fun c => absurd c (nI_ge (by omega) (by omega)), fun _ => ?_⟩
        rw [i80, nI_clamp (by omega)]
        refine ⟨vp_in_nI (by omega) (by omega), _, l375 k (by omega) _ dc (fun dc' v q1 q2 y hy => ?_) n 0 dc (by omega) (fun t' ht' => absurd ht' (Nat.not_lt_zero t')) (fun _ _ => rfl)⟩
        rw [hy, nI_1]
        refine ih (k + 1) _ dc' (by omega) (fun k' hk' => ?_) (fun j hj => ?_) (fun j hj => ?_)
        · by_cases e2 : k' = k
          · subst e2; exact pk_us
          · rw [pk_un (by omega)]; exact g1 k' (by omega)
        · rw [pk_un (by omega), q2 j (by omega)]; exact g2 j hj
        · rw [Nat.mul_add, Nat.mul_one] at hj
          by_cases hjk : j < n * k
          · rw [q2 _ (by omega)]; exact g3 j hjk
          · have := q1 (j - n * k) (by omega)
            rw [show 80 * d + n * k + (j - n * k) = 80 * d + j by omega, show n * k + (j - n * k) = j by omega] at this
            exact this
    exact ⟨_, l350 tk.length 0 pieceLong dict (by omega) (fun k' hk' => absurd hk' (Nat.not_lt_zero k')) (fun _ _ => ⟨rfl, rfl⟩) (fun j hj => by simp at hj)⟩
  · rw [hsm, show (0 : Int32) = nI 0 from rfl, nI_eq (by have := h.1; omega) (by decide)]
    exact hne
