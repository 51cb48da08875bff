/-! PURE: the reference's packer -/
/-- the int array holds the bytes of the list -/
def MI (g : Nat → Int32) (row : List Nat) : Prop := (∀ x ∈ row, x < 256) ∧ ∀ j, j < row.length → g j = nI (row.getD j 0)
theorem MI.lt {g : Nat → Int32} {row : List Nat} (h : MI g row) (j : Nat) : rowF row j < 256 := getD_lt256 h.1 j
/-- at q a match of m bytes at the distance d -/
def Pm (R : Nat → Nat) (q lim m d : Nat) : Prop := m ≤ lim ∧ ∀ t, t < m → R (q - d + t) = R (q + t)
def InvD (R : Nat → Nat) (q lim d m : Nat) (v : Int32) : Prop := (v = 0 ∧ ∀ d', 1 ≤ d' → d' < d → ¬ Pm R q lim m d') ∨ ∃ d0, 1 ≤ d0 ∧ d0 < d ∧ v = nI d0 ∧ Pm R q lim m d0 ∧ ∀ d', 1 ≤ d' → d' < d0 → ¬ Pm R q lim m d'
theorem InvD.no {R : Nat → Nat} {q lim d m : Nat} {v : Int32} (h : InvD R q lim d m v) (hn : ¬ Pm R q lim m d) : InvD R q lim (d + 1) m v := by
  rcases h with ⟨h1, h2⟩ | ⟨d0, a, b, c, e, f⟩
  · refine Or.inl ⟨h1, fun d' x y => ?_⟩
    by_cases hd : d' = d
    · subst hd; exact hn
    · exact h2 d' x (by omega)
  · exact Or.inr ⟨d0, a, by omega, c, e, f⟩
theorem InvD.set {R : Nat → Nat} {q lim d m : Nat} {v : Int32} (h : InvD R q lim d m v) (h1 : 1 ≤ d) (hq : d < 100000) (hn : Pm R q lim m d) : (v = 0 → InvD R q lim (d + 1) m (nI d)) ∧ (¬ v = 0 → InvD R q lim (d + 1) m v) := by
  rcases h with ⟨e1, e2⟩ | ⟨d0, a, b, c, e, f⟩
  · exact ⟨fun _ => Or.inr ⟨d, h1, by omega, rfl, hn, e2⟩, fun z => absurd e1 z⟩
  · exact ⟨fun z => absurd (c.symm.trans z) (nI_ne0 (by omega) (by omega)), fun _ => Or.inr ⟨d0, a, by omega, c, e, f⟩⟩
theorem InvD.fin {R : Nat → Nat} {q lim m : Nat} {v : Int32} (hm : 1 ≤ m) (h : InvD R q lim (q + 1) m v) : v = nI (if m ≤ LM R q lim then LD R q m else 0) := by
  rcases h with ⟨h1, h2⟩ | ⟨d0, a, b, c, e, f⟩
  · have : ¬ m ≤ LM R q lim := fun z => by
      obtain ⟨a, p, hp, hm2⟩ := (LM_iff (by omega)).mp z
      exact h2 (q - p) (by omega) (by omega) ⟨a, by rw [show q - (q - p) = p by omega]; exact hm2⟩
    rw [if_neg this, h1]; rfl
  · have h1 : m ≤ LM R q lim := (LM_iff (by omega)).mpr ⟨e.1, q - d0, by omega, e.2⟩
    rw [if_pos h1, c, LD_eq ⟨a, by omega, e.2, fun d' x y z => f d' x y ⟨e.1, z⟩⟩]
theorem i10 {i m : Nat} : (10 : Int32) * nI i + nI m = nI (10 * i + m) := by rw [show (10 : Int32) = nI 10 from rfl, pk_mul, nI_add]
theorem sX7_findMatches {g D0 : Nat → Int32} {row : List Nat} (hM : MI g row) (hr : row.length ≤ 280) {A n i : Nat} (hT : A + n = row.length) (hn : n ≤ 200) (hi : i < n) {post : (Nat → Int32) → Prop}
    (hp : ∀ D, (∀ m, 1 ≤ m → m ≤ 9 → D (10 * i + m) = nI (if m ≤ LM (rowF row) (A + i) (min 9 (n - i)) then LD (rowF row) (A + i) m else 0)) → (∀ j, (j < 10 * i ∨ 10 * i + 10 ≤ j) → D j = D0 j) → post D) : wX7_findMatches (nI A) (nI n) g D0 (nI i) post := by
  -- the first loop: ten noughts
  have l1 : ∀ (K : (Nat → Int32) → Int32 → Prop), (∀ D v, (∀ m, m < 10 → D (10 * i + m) = 0) → (∀ j, (j < 10 * i ∨ 10 * i + 10 ≤ j) → D j = D0 j) → K D v) → ∀ d k D, k + d = 10 → (∀ m, m < k → D (10 * i + m) = 0) → (∀ j, (j < 10 * i ∨ 10 * i + 10 ≤ j) → D j = D0 j) → wX7_findMatches_2 (nI i) K (d + 1) D (nI k) := by
    intro K hK d
    induction d with
    | zero =>
      intro k D hk h1 h2
      have : k = 10 := by omega
      subst this
      exact ⟨fun _ => hK D _ h1 h2, fun c => absurd (by decide) c⟩
    | succ d ih =>
      intro k D hk h1 h2
      refine ⟨fun c => absurd (by rw [show (10 : Int32) = nI 10 from rfl] at c; exact c) (nI_ge (by omega) (by omega)), fun _ => ?_⟩
      rw [i10]
      refine ⟨vp_in_nI (by omega) (by omega), fun y hy => ?_⟩
      rw [hy, nI_1, nI_clamp (by omega)]
      refine ih (k + 1) _ (by omega) (fun m hm => ?_) (fun j hj => ?_)
      · by_cases e : m = k
        · subst e; exact pk_us
        · rw [pk_un (by omega)]; exact h1 m (by omega)
      · rw [pk_un (by omega)]; exact h2 j hj
  -- one distance
  have l2 : ∀ (d : Nat), 1 ≤ d → d ≤ A + i → ∀ (D1 : Nat → Int32) (K : (Nat → Int32) → Int32 → Prop), (∀ D v, (∀ m, 1 ≤ m → m ≤ 9 → InvD (rowF row) (A + i) (min 9 (n - i)) (d + 1) m (D (10 * i + m))) → (∀ j, (j < 10 * i ∨ 10 * i + 10 ≤ j) → D j = D0 j) → K D v) →
      ∀ e k D, e + k = 9 → k ≤ min 9 (n - i) → (∀ t, t < k → rowF row (A + i - d + t) = rowF row (A + i + t)) → (∀ m, 1 ≤ m → m ≤ k → InvD (rowF row) (A + i) (min 9 (n - i)) (d + 1) m (D (10 * i + m))) → (∀ m, k < m → m ≤ 9 → InvD (rowF row) (A + i) (min 9 (n - i)) d m (D (10 * i + m))) → (∀ j, (j < 10 * i ∨ 10 * i + 10 ≤ j) → D j = D0 j) →
      wX7_findMatches_43 (nI n) g (nI i) (nI (A + i)) (nI d) K (e + 1) D (nI k) := by
    intro d hd1 hd2 D1 K hK e
    induction e with
    | zero =>
      intro k D hk hk2 he h1 h2 h3
      have : k = 9 := by omega
      subst this
      exact ⟨fun _ => hK D _ h1 h3, fun c => absurd (by decide) c⟩
    | succ e ih =>
      intro k D hk hk2 he h1 h2 h3
      have stop : (∀ m, k < m → m ≤ 9 → ¬ Pm (rowF row) (A + i) (min 9 (n - i)) m d) → ∀ v, K D v := fun hno v => hK D v (fun m a b => by
        by_cases hmk : m ≤ k
        · exact h1 m a hmk
        · exact (h2 m (by omega) b).no (hno m (by omega) b)) h3
      refine ⟨fun c => absurd (by rw [show (9 : Int32) = nI 9 from rfl] at c; exact c) (nI_ge (by omega) (by omega)), fun _ => ⟨fun c => ?_, fun c => ?_⟩⟩
      · rw [nI_add, nI_leI (by omega) (by omega)] at c
        exact stop (fun m a b z => by have := z.1; omega) _
      · rw [nI_add, nI_leI (by omega) (by omega)] at c
        rw [nI_add, pk_sub (by omega)]
        refine ⟨vp_in_nI (by omega) (by omega), vp_in_nI (by omega) (by omega), ?_⟩
        rw [nI_clamp (by omega), nI_clamp (by omega), hM.2 _ (by omega), hM.2 _ (by omega), nI_eq (by have := hM.lt (A + i + k); have : row.getD (A + i + k) 0 < 256 := this; omega) (by have := hM.lt (A + i + k - d); have : row.getD (A + i + k - d) 0 < 256 := this; omega)]
        refine ⟨fun c2 => stop (fun m a b z => c2 ?_) _, fun c2 y hy => ?_⟩
        · have := z.2 k a
          rw [show A + i - d + k = A + i + k - d by omega] at this
          exact this.symm
        · rw [hy, nI_1, i10, nI_clamp (by omega)]
          have hP : Pm (rowF row) (A + i) (min 9 (n - i)) (k + 1) d := ⟨by omega, fun t ht => by
            by_cases ht2 : t = k
            · subst ht2; rw [show A + i - d + t = A + i + t - d by omega]; exact c2.symm
            · exact he t (by omega)⟩
          obtain ⟨s1, s2⟩ := (h2 (k + 1) (by omega) (by omega)).set hd1 (by omega) hP
          refine ⟨vp_in_nI (by omega) (by omega), fun c3 => ?_, fun c3 => ⟨vp_in_nI (by omega) (by omega), ?_⟩⟩
          · refine ih (k + 1) D (by omega) (by omega) hP.2 (fun m a b => ?_) (fun m a b => h2 m (by omega) b) h3
            by_cases hm : m = k + 1
            · subst hm; exact s2 c3
            · exact h1 m a (by omega)
          · refine ih (k + 1) _ (by omega) (by omega) hP.2 (fun m a b => ?_) (fun m a b => ?_) (fun j hj => ?_)
            · by_cases hm : m = k + 1
              · subst hm; rw [pk_us]; exact s1 c3
              · rw [pk_un (by omega)]; exact h1 m a (by omega)
            · rw [pk_un (by omega)]; exact h2 m (by omega) b
            · rw [pk_un (by omega)]; exact h3 j hj
  -- all distances
  have l3 : ∀ e d D, d + e = A + i + 1 → 1 ≤ d → (∀ m, 1 ≤ m → m ≤ 9 → InvD (rowF row) (A + i) (min 9 (n - i)) d m (D (10 * i + m))) → (∀ j, (j < 10 * i ∨ 10 * i + 10 ≤ j) → D j = D0 j) → wX7_findMatches_35 (nI n) g (nI i) (nI (A + i)) (fun s _ => post s) (e + 1) D (nI d) := by
    intro e
    induction e with
    | zero =>
      intro d D hd hd1 h1 h2
      have : d = A + i + 1 := by omega
      subst this
      exact ⟨fun _ => hp D (fun m a b => (h1 m a b).fin a) h2, fun c => absurd (nI_lt (by omega) (by omega)) c⟩
    | succ e ih =>
      intro d D hd hd1 h1 h2
      refine ⟨fun c => absurd c (nI_nlt (by omega) (by omega)), fun _ => ⟨10, ?_⟩⟩
      refine l2 d hd1 (by omega) D _ (fun D2 v a b y hy => ?_) 9 0 D (by omega) (by omega) (fun t ht => absurd ht (Nat.not_lt_zero t)) (fun m a b => by omega) (fun m a b => h1 m (by omega) b) h2
      rw [hy, nI_1]
      exact ih (d + 1) D2 (by omega) (by omega) a b
  refine ⟨11, l1 _ (fun D v a b y6 h6 => ?_) 10 0 D0 (by omega) (fun m hm => absurd hm (Nat.not_lt_zero m)) (fun _ _ => rfl)⟩
  rw [h6, nI_add]
  exact ⟨A + i + 1, l3 (A + i) 1 D (by omega) (Nat.le_refl 1) (fun m x y => Or.inl ⟨a m (by omega), fun d' p q => by omega⟩) b⟩
/-- behind packedLong: costs, and the least distances of all matches -/
def MpOK (cost D : Nat → Int32) (R : Nat → Nat) (A n : Nat) : Prop :=
  (∀ j, j ≤ n → cost j = nI (cF R A n j)) ∧ ∀ j, j < n → ∀ m, 1 ≤ m → m ≤ 9 → D (10 * j + m) = nI (if m ≤ LM R (A + j) (min 9 (n - j)) then LD R (A + j) m else 0)
theorem sX7_packedLong {g cost0 D0 : Nat → Int32} {row : List Nat} (hM : MI g row) (hr : row.length ≤ 280) {A n : Nat} (hT : A + n = row.length) (hn : n ≤ 200) {post : Int32 → (Nat → Int32) → (Nat → Int32) → Prop}
    (hp : ∀ cost D, MpOK cost D (rowF row) A n → post (nI (4 + cF (rowF row) A n 0)) cost D) : wX7_packedLong (nI A) (nI n) g cost0 D0 post := by
  refine ⟨vp_in_nI (by omega) (by omega), fun y2 h2 => ?_⟩
  rw [nI_clamp (by omega)]
  -- the plain ways at i
  have l1 : ∀ (i : Nat) (c : Nat → Nat) (cost : Nat → Int32), i < n → (∀ j, i < j → j ≤ n → cost j = nI (c j) ∧ c j < 1000) → ∀ (K : Int32 → Int32 → Prop), (∀ L v, L ≤ 1000 → (∀ k, 1 ≤ k → k ≤ min 32 (n - i) → L ≤ 1 + k + c (i + k)) → (L = 1000 ∨ ∃ k, 1 ≤ k ∧ k ≤ min 32 (n - i) ∧ L = 1 + k + c (i + k)) → K (nI L) v) →
      ∀ e k L, k + e = min 32 (n - i) + 1 → 1 ≤ k → L ≤ 1000 → (∀ k', 1 ≤ k' → k' < k → L ≤ 1 + k' + c (i + k')) → (L = 1000 ∨ ∃ k', 1 ≤ k' ∧ k' < k ∧ L = 1 + k' + c (i + k')) → wX7_packedLong_32 (nI n) cost (nI i) K (e + 1) (nI L) (nI k) := by
    intro i c cost hi hc K hK e
    induction e with
    | zero =>
      intro k L hk hk1 hL h1 h2
      have hq : ∀ v, K (nI L) v := fun v => hK L v hL (fun k' a b => h1 k' a (by omega)) (h2.imp id fun ⟨k', a, b, c⟩ => ⟨k', a, by omega, c⟩)
      refine ⟨fun _ => hq _, fun c1 => ⟨fun _ => hq _, fun c2 => ?_⟩⟩
      rw [show (32 : Int32) = nI 32 from rfl, nI_ltI (by omega) (by omega)] at c1
      rw [nI_add, nI_ltI (by omega) (by omega)] at c2
      omega
    | succ e ih =>
      intro k L hk hk1 hL h1 h2
      have hcx := hc (i + k) (by omega) (by omega)
      refine ⟨fun c1 => ?_, fun _ => ⟨fun c2 => ?_, fun _ => ?_⟩⟩
      · rw [show (32 : Int32) = nI 32 from rfl, nI_ltI (by omega) (by omega)] at c1
        omega
      · rw [nI_add, nI_ltI (by omega) (by omega)] at c2
        omega
      · rw [nI_add]
        refine ⟨vp_in_nI (by omega) (by omega), fun y hy => ?_⟩
        rw [nI_clamp (by omega), hcx.1, show (1 : Int32) = nI 1 from rfl, nI_add, nI_add] at hy
        subst hy
        rw [nI_leI (by omega) (by omega)]
        refine ⟨fun q y hy => ?_, fun q y hy => ?_⟩
        · rw [hy, nI_1]
          refine ih (k + 1) L (by omega) (by omega) hL (fun k' a b => ?_) (h2.imp id fun ⟨k', a, b, c⟩ => ⟨k', a, by omega, c⟩)
          by_cases hkk : k' = k
          · subst hkk; exact q
          · exact h1 k' a (by omega)
        · rw [hy, nI_1]
          refine ih (k + 1) (1 + k + c (i + k)) (by omega) (by omega) (by omega) (fun k' a b => ?_) (Or.inr ⟨k, hk1, by omega, rfl⟩)
          by_cases hkk : k' = k
          · subst hkk; exact Nat.le_refl _
          · have := h1 k' a (by omega); omega
  -- the matches at i
  have l2 : ∀ (i LL : Nat) (c : Nat → Nat) (cost D : Nat → Int32), i < n → LL ≤ min 9 (n - i) → (∀ j, i < j → j ≤ n → cost j = nI (c j) ∧ c j < 1000) → (∀ m, 1 ≤ m → m ≤ 9 → ∃ x, x < 100000 ∧ D (10 * i + m) = nI x ∧ (0 < x ↔ m ≤ LL)) → ∀ (L0 : Nat) (K : Int32 → Int32 → Prop), (∀ L v, L ≤ L0 → (∀ m, 3 ≤ m → m ≤ LL → L ≤ 2 + c (i + m)) → (L = L0 ∨ ∃ m, 3 ≤ m ∧ m ≤ LL ∧ L = 2 + c (i + m)) → K (nI L) v) → L0 ≤ 1000 →
      ∀ e k L, k + e = 10 → 3 ≤ k → L ≤ L0 → (∀ k', 3 ≤ k' → k' < k → k' ≤ LL → L ≤ 2 + c (i + k')) → (L = L0 ∨ ∃ k', 3 ≤ k' ∧ k' ≤ LL ∧ L = 2 + c (i + k')) → wX7_packedLong_83 cost D (nI i) K (e + 1) (nI L) (nI k) := by
    intro i LL c cost D hi hLL hc hD L0 K hK hL0 e
    induction e with
    | zero =>
      intro k L hk hk1 hL h1 h2
      have : k = 10 := by omega
      subst this
      exact ⟨fun _ => hK L _ hL (fun m a b => h1 m a (by omega) b) h2, fun c1 => absurd (by decide) c1⟩
    | succ e ih =>
      intro k L hk hk1 hL h1 h2
      obtain ⟨x, hx1, hx2, hx3⟩ := hD k (by omega) (by omega)
      refine ⟨fun c1 => absurd (by rw [show (9 : Int32) = nI 9 from rfl, nI_ltI (by omega) (by omega)] at c1; exact c1) (by omega), fun _ => ?_⟩
      rw [i10, nI_clamp (by omega), hx2]
      refine ⟨vp_in_nI (by omega) (by omega), fun q y hy => ?_, fun q => ?_⟩
      · rw [show (0 : Int32) = nI 0 from rfl, nI_leI (by omega) (by decide)] at q
        rw [hy, nI_1]
        refine ih (k + 1) L (by omega) (by omega) hL (fun k' a b c => ?_) h2
        by_cases hkk : k' = k
        · subst hkk; have := hx3.mpr c; omega
        · exact h1 k' a (by omega) c
      · rw [show (0 : Int32) = nI 0 from rfl, nI_leI (by omega) (by decide)] at q
        have hkL : k ≤ LL := hx3.mp (by omega)
        have hcx := hc (i + k) (by omega) (by omega)
        rw [nI_add, nI_clamp (by omega), hcx.1, show (2 : Int32) = nI 2 from rfl, nI_add, nI_leI (by omega) (by omega)]
        refine ⟨vp_in_nI (by omega) (by omega), fun q2 y hy => ?_, fun q2 => ⟨vp_in_nI (by omega) (by omega), fun y hy y2 hy2 => ?_⟩⟩
        · rw [hy, nI_1]
          refine ih (k + 1) L (by omega) (by omega) hL (fun k' a b c => ?_) h2
          by_cases hkk : k' = k
          · subst hkk; exact q2
          · exact h1 k' a (by omega) c
        · rw [hy2, nI_1, hy]
          refine ih (k + 1) (2 + c (i + k)) (by omega) (by omega) (by omega) (fun k' a b c => ?_) (Or.inr ⟨k, hk1, hkL, rfl⟩)
          by_cases hkk : k' = k
          · subst hkk; exact Nat.le_refl _
          · have := h1 k' a (by omega) c; omega
  have key : ∀ k v c ch cost D, v = nI k - 1 → k ≤ n → Cst (rowF row) A n k c ch → (∀ j, k ≤ j → j ≤ n → cost j = nI (c j)) → (∀ j, k ≤ j → j < n → ∀ m, 1 ≤ m → m ≤ 9 → D (10 * j + m) = nI (if m ≤ LM (rowF row) (A + j) (min 9 (n - j)) then LD (rowF row) (A + j) m else 0)) →
      wX7_packedLong_17 (nI A) (nI n) g (fun s3 s4 _ => vp_in (0 : Int32) 201 ∧ post (4 + s3 (0 : Int32).toNatClampNeg) s3 s4) (k + 1) cost D v := by
    intro k
    induction k with
    | zero =>
      intro v c ch cost D hv hk hC h1 h2
      subst hv
      refine ⟨fun _ => ⟨by rw [show (0 : Int32) = nI 0 from rfl]; exact vp_in_nI (by decide) (by decide), ?_⟩, fun q => absurd (by decide) q⟩
      have e : ∀ j, j ≤ n → c j = cF (rowF row) A n j := fun j hj => cst_unique (k := 0) ⟨hC.1, fun i a b => by rw [hC.2 i a b]⟩ ⟨(cF_cst _ _ _).1, fun i a b => by rw [(cF_cst _ _ _).2 i a b]⟩ n 0 (by omega) (Nat.le_refl 0) j (Nat.zero_le j) hj
      have h00 : (0 : Int32).toNatClampNeg = 0 := by decide
      rw [h00, h1 0 (Nat.le_refl 0) (Nat.zero_le _), e 0 (Nat.zero_le _), show (4 : Int32) = nI 4 from rfl, nI_add]
      exact hp cost D ⟨fun j hj => by rw [h1 j (Nat.zero_le j) hj, e j hj], fun j hj => h2 j (Nat.zero_le j) hj⟩
    | succ k ih =>
      intro v c ch cost D hv hk hC h1 h2
      rw [nI_pred] at hv
      subst hv
      have hcb : ∀ j, k < j → j ≤ n → cost j = nI (c j) ∧ c j < 1000 := fun j a b => by
        have := hC.bound hn (n - j) j (by omega) (by omega)
        exact ⟨h1 j (by omega) b, by omega⟩
      refine ⟨fun q => absurd q (nI_pos (by omega)), fun _ => ?_⟩
      refine sX7_findMatches hM hr hT hn (by omega) fun D1 d1 d2 => ?_
      have hLM := LM_le (rowF row) (A + k) (min 9 (n - k))
      refine ⟨_, l1 k c cost (by omega) hcb _ (fun L v a1 a2 a3 => ?_) (min 32 (n - k)) 1 1000 (by omega) (Nat.le_refl 1) (Nat.le_refl _) (fun k' x y => by omega) (Or.inl rfl)⟩
      refine ⟨_, l2 k (LM (rowF row) (A + k) (min 9 (n - k))) c cost D1 (by omega) hLM hcb (fun m x y => ?_) L _ (fun L2 v2 b1 b2 b3 => ?_) a1 7 3 L (by omega) (Nat.le_refl 3) (Nat.le_refl _) (fun k' x y => by omega) (Or.inl rfl)⟩
      · refine ⟨_, ?_, d1 m x y, ?_⟩
        · by_cases hm : m ≤ LM (rowF row) (A + k) (min 9 (n - k))
          · rw [if_pos hm]
            obtain ⟨-, p, hp1, hp2⟩ := (LM_iff (by omega)).mp hm
            have := (LD_is ⟨p, hp1, hp2⟩).2.1
            omega
          · rw [if_neg hm]; omega
        · by_cases hm : m ≤ LM (rowF row) (A + k) (min 9 (n - k))
          · rw [if_pos hm]
            obtain ⟨-, p, hp1, hp2⟩ := (LM_iff (by omega)).mp hm
            have := (LD_is ⟨p, hp1, hp2⟩).1
            exact ⟨fun _ => hm, fun _ => by omega⟩
          · rw [if_neg hm]
            exact ⟨fun z => absurd z (Nat.lt_irrefl 0), fun z => absurd z hm⟩
      · refine ⟨vp_in_nI (by omega) (by omega), fun y30 h30 => ?_⟩
        have hc1 := (hcb (k + 1) (by omega) (by omega)).2
        have hs := best_spec (c := c) (i := k) (L := LM (rowF row) (A + k) (min 9 (n - k))) (P := min 32 (n - k)) (by omega) hc1
        have hL2 : L2 = (bestAt (rowF row) A n c k).1 := by
          have u1 := a2 1 (Nat.le_refl 1) (by omega)
          have u2 := hC.bound hn (n - (k + 1)) (k + 1) (by omega) (by omega)
          show L2 = (best c k _ _).1
          apply Nat.le_antisymm
          · rcases hs.2.2 with ⟨m, x, y, z, -⟩ | ⟨q, x, y, z, -⟩
            · rw [z]; exact b2 m x y
            · rw [z]; have := a2 q x y; show L2 ≤ 1 + q + c (k + q); omega
          · obtain ⟨s1, s2, -⟩ := hs
            rcases b3 with b3 | ⟨m, x, y, z⟩
            · rcases a3 with a3 | ⟨q, x, y, z⟩
              · omega
              · rw [b3, z]; exact s2 q x y
            · rw [z]; exact s1 m x y
        rw [nI_clamp (by omega)]
        refine ih y30 _ _ _ D1 (by rw [h30, sub1_eq]) (by omega) (hC.step (by omega)) (fun j a b => ?_) (fun j a b m x y => ?_)
        · by_cases e : j = k
          · subst e; rw [pk_us, updN_s, hL2]
          · rw [pk_un e, updN_n e]; exact h1 j (by omega) b
        · by_cases e : j = k
          · subst e; exact d1 m x y
          · rw [d2 _ (by omega)]; exact h2 j (by omega) b m x y
  refine ⟨n + 1, key n y2 (fun _ => 0) (fun _ => (false, 0)) _ _ h2 (Nat.le_refl _) ⟨rfl, fun i a b => by omega⟩ (fun j a b => ?_) (fun j a b => by omega)⟩
  have : j = n := by omega
  subst this
  rw [pk_us]; rfl
