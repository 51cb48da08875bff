/-! PURE: the class's packer -/
abbrev rowF (row : List Nat) : Nat → Nat := fun j => row.getD j 0
theorem sb_inj {a b : Nat} (ha : a < 256) (hb : b < 256) : sb_b a = sb_b b ↔ a = b := by
  constructor
  · intro h
    have := congrArg bN h
    rw [bN_sb ha, bN_sb hb] at this
    exact this
  · intro h; rw [h]
theorem JJ.lt {f : Nat → Int32} {row : List Nat} (h : JJ f row) (j : Nat) : rowF row j < 256 := getD_lt256 h.1 j
theorem sJ7_fill {n : Nat} (hn : n < 2 ^ 30) {f : Nat → Int32} {v : Int32} {post : (Nat → Int32) → Prop} (hp : ∀ g, (∀ j, j < n → g j = v) → post g) : wJ7_fill_53178 n f v post := by
  intro y hy
  subst hy
  have key : ∀ d i g, i + d = n → (∀ j, j < i → g j = v) → wJ7_fill_53178_5 n v (nI n) (fun s _ => post s) (d + 1) g (nI i) := by
    intro d
    induction d with
    | zero =>
      intro i g hi hg
      have : i = n := by omega
      subst this
      exact ⟨fun _ => hp g hg, fun c => absurd (nI_le (Nat.le_refl _) (by omega)) c⟩
    | succ d ih =>
      intro i g hi hg
      refine ⟨fun c => absurd c (nI_ge (by omega) (by omega)), fun _ => ⟨vp_in_nI (by omega) (by omega), fun y hy => ?_⟩⟩
      rw [hy, nI_1, nI_clamp (by omega)]
      refine ih (i + 1) _ (by omega) (fun j hj => ?_)
      by_cases h : j = i
      · subst h; exact pk_us
      · rw [pk_un h]; exact hg j (by omega)
  exact ⟨n + 1, key n 0 f (by omega) (fun j hj => absurd hj (Nat.not_lt_zero j))⟩
theorem sX3_sameBytes {f : Nat → Int32} {row : List Nat} (hJ : JJ f row) (hr : row.length ≤ 280) {p q lim : Nat} (hpq : p ≤ q) (hq : q + lim ≤ row.length) {post : Int32 → Prop} (hp : post (nI (lcp (rowF row) p q lim))) : wX3_sameBytes f (nI p) (nI q) (nI lim) post := by
  have key : ∀ d i, i + d = lim → (∀ t, t < i → rowF row (p + t) = rowF row (q + t)) → wX3_sameBytes_3 f (nI p) (nI q) (nI lim) (fun y => post y) (d + 1) (nI i) := by
    intro d
    induction d with
    | zero =>
      intro i hi he
      have : i = lim := by omega
      subst this
      rw [lcp_eq (Nat.le_refl _) he (Or.inl rfl)] at hp
      exact ⟨fun _ => hp, fun c => absurd (nI_le (Nat.le_refl _) (by omega)) c⟩
    | succ d ih =>
      intro i hi he
      refine ⟨fun c => absurd c (nI_ge (by omega) (by omega)), fun _ => ?_⟩
      rw [nI_add, nI_add]
      refine ⟨vp_in_nI (by omega) (by omega), vp_in_nI (by omega) (by omega), ?_⟩
      rw [nI_clamp (by omega), nI_clamp (by omega), hJ.2 _ (by omega), hJ.2 _ (by omega), sb_inj (hJ.lt _) (hJ.lt _)]
      refine ⟨fun c => ?_, fun c y hy => ?_⟩
      · rw [lcp_eq (by omega) he (Or.inr c)] at hp
        exact hp
      · rw [hy, nI_1]
        refine ih (i + 1) (by omega) (fun t ht => ?_)
        by_cases h : t = i
        · subst h; exact c
        · exact he t (by omega)
  exact ⟨lim + 1, key lim 0 (by omega) (fun t ht => absurd ht (Nat.not_lt_zero t))⟩
/-- earlier: the nearest place ahead with the same byte -/
def EarOK (E : Nat → Int32) (R : Nat → Nat) (T : Nat) : Prop := ∀ j, j < T → (E j = -1 ∧ ∀ p, p < j → ¬ R p = R j) ∨ ∃ p, p < j ∧ E j = nI p ∧ R p = R j ∧ ∀ q, p < q → q < j → ¬ R q = R j
def LatOK (L : Nat → Int32) (R : Nat → Nat) (i : Nat) : Prop := ∀ v, v < 256 → (L v = -1 ∧ ∀ p, p < i → ¬ R p = v) ∨ ∃ p, p < i ∧ L v = nI p ∧ R p = v ∧ ∀ q, p < q → q < i → ¬ R q = v
theorem sX3_link {f E0 L0 : Nat → Int32} {row : List Nat} (hJ : JJ f row) (hr : row.length ≤ 280) {A n : Nat} (hT : A + n = row.length) {post : (Nat → Int32) → (Nat → Int32) → Prop} (hp : ∀ E L, EarOK E (rowF row) row.length → post E L) : wX3_linkSameBytes (nI A) (nI n) f E0 L0 post := by
  refine sJ7_fill (by decide) fun L1 hL1 => ?_
  have key : ∀ d i E L, i + d = row.length → EarOK E (rowF row) i → LatOK L (rowF row) i → wX3_linkSameBytes_10 (nI A) (nI n) f (fun s2 s3 _ => post s2 s3) (d + 1) E L (nI i) := by
    intro d
    induction d with
    | zero =>
      intro i E L hi hE hL
      have : i = row.length := by omega
      subst this
      exact ⟨fun _ => hp E L hE, fun c => absurd (by rw [nI_add]; exact nI_le (by omega) (by omega)) c⟩
    | succ d ih =>
      intro i E L hi hE hL
      have hb := hJ.lt i
      refine ⟨fun c => absurd (by rw [nI_add] at c; exact c) (nI_ge (by omega) (by omega)), fun _ => ⟨vp_in_nI (by omega) (by omega), fun y hy => ?_⟩⟩
      rw [nI_clamp (by omega), hJ.2 i (by omega), (sb_byte _ hb).1] at hy
      subst hy
      refine ⟨vp_in_nI hb (by omega), vp_in_nI (by omega) (by omega), vp_in_nI hb (by omega), fun y hy => ?_⟩
      have hc : (nI (row.getD i 0)).toNatClampNeg = rowF row i := nI_clamp (by have : row.getD i 0 < 256 := hb; omega)
      rw [hy, nI_1, hc, nI_clamp (by omega)]
      refine ih (i + 1) _ _ (by omega) (fun j hj => ?_) (fun v hv => ?_)
      · by_cases h : j = i
        · subst h
          rw [pk_us]
          exact hL (rowF row j) hb
        · rw [pk_un h]
          exact hE j (by omega)
      · by_cases h : v = rowF row i
        · subst h
          rw [pk_us]
          exact Or.inr ⟨i, by omega, rfl, rfl, fun q h1 h2 => by omega⟩
        · rw [pk_un h]
          rcases hL v hv with ⟨h1, h2⟩ | ⟨p, h1, h2, h3, h4⟩
          · refine Or.inl ⟨h1, fun p hp => ?_⟩
            by_cases hpi : p = i
            · subst hpi; exact fun z => h z.symm
            · exact h2 p (by omega)
          · refine Or.inr ⟨p, by omega, h2, h3, fun q a b => ?_⟩
            by_cases hqi : q = i
            · subst hqi; exact fun z => h z.symm
            · exact h4 q a (by omega)
  exact ⟨row.length + 1, key row.length 0 E0 L1 (by omega) (fun j hj => absurd hj (Nat.not_lt_zero j)) (fun v hv => Or.inl ⟨hL1 v hv, fun p hp => absurd hp (Nat.not_lt_zero p)⟩)⟩
theorem lcp_ne {R : Nat → Nat} {p q lim : Nat} (h : ¬ R p = R q) : lcp R p q lim = 0 := by
  cases lim with
  | zero => rfl
  | succ lim => exact if_neg h
theorem min_nI {a b : Nat} (ha : a < 2 ^ 31) (hb : b < 2 ^ 31) : (if nI b < nI a then nI b else nI a) = nI (min a b) := by
  by_cases h : b < a
  · rw [if_pos (nI_lt h ha), Nat.min_eq_right (by omega)]
  · rw [if_neg (nI_nlt (by omega) hb), Nat.min_eq_left (by omega)]
theorem max_nI {a b : Nat} (ha : a < 2 ^ 31) (hb : b < 2 ^ 31) : (if nI a < nI b then nI b else nI a) = nI (max a b) := by
  by_cases h : a < b
  · rw [if_pos (nI_lt h hb), Nat.max_eq_right (by omega)]
  · rw [if_neg (nI_nlt (by omega) ha), Nat.max_eq_left (by omega)]
theorem nI_ne_m1 {p : Nat} (h : p < 2 ^ 31) : ¬ nI p = -1 := fun e => by
  have := congrArg Int32.toInt e
  rw [nI_toInt h] at this
  have h2 : (-1 : Int32).toInt = -1 := by decide
  rw [h2] at this
  omega
theorem sX3_longestMatch {f E : Nat → Int32} {row : List Nat} (hJ : JJ f row) (hr : row.length ≤ 280) (hE : EarOK E (rowF row) row.length) {A n i : Nat} (hT : A + n = row.length) (hi : i < n) {post : Int32 → Prop} (hp : post (nI (LM (rowF row) (A + i) (min 9 (n - i))))) : wX3_longestMatch (nI A) (nI n) f E (nI i) post := by
  intro y1 h1
  rw [pk_sub (by omega), show (9 : Int32) = nI 9 from rfl, min_nI (by omega) (by omega)] at h1
  subst h1
  rw [nI_add]
  refine ⟨vp_in_nI (by omega) (by omega), fun y3 h3 => ?_⟩
  rw [nI_clamp (by omega)] at h3
  subst h3
  have hlim : A + i + min 9 (n - i) ≤ row.length := by omega
  have key : ∀ d (from_ : Int32) (L k : Nat), k < 100000 → (L = 0 ∨ ∃ p, p < A + i ∧ lcp (rowF row) p (A + i) (min 9 (n - i)) = L) → ((from_ = -1 ∧ ∀ p, p < A + i → lcp (rowF row) p (A + i) (min 9 (n - i)) ≤ L) ∨ ∃ p0, p0 < d ∧ p0 < A + i ∧ k + p0 + 1 ≤ 280 ∧ from_ = nI p0 ∧ rowF row p0 = rowF row (A + i) ∧ ∀ p, p0 < p → p < A + i → lcp (rowF row) p (A + i) (min 9 (n - i)) ≤ L) → wX3_longestMatch_30 (nI A) f E (nI i) (nI (min 9 (n - i))) (fun y4 _ _ => post y4) (d + 1) (nI L) from_ (nI k) := by
    intro d
    induction d with
    | zero =>
      intro from_ L k hk hL hc
      rcases hc with ⟨h1, h2⟩ | ⟨p0, h1, -⟩
      · rw [LM_eq h2 hL] at hp
        exact ⟨fun _ => hp, fun _ => ⟨fun _ => hp, fun c => absurd h1 c⟩⟩
      · omega
    | succ d ih =>
      intro from_ L k hk hL hc
      rcases hc with ⟨h1, h2⟩ | ⟨p0, h1, h2, h3, h4, h5, h6⟩
      · rw [LM_eq h2 hL] at hp
        exact ⟨fun _ => hp, fun _ => ⟨fun _ => hp, fun c => absurd h1 c⟩⟩
      · subst h4
        have hLle : L ≤ min 9 (n - i) := by
          rcases hL with h | ⟨p, -, h⟩
          · omega
          · rw [← h]; exact lcp_le _ _ _ _
        refine ⟨fun c => ?_, fun _ => ⟨fun c => absurd c (nI_ne_m1 (by omega)), fun _ => ⟨fun c => ?_, fun c => ?_⟩⟩⟩
        · rw [show (280 : Int32) = nI 280 from rfl, nI_leI (by omega) (by omega)] at c
          omega
        · rw [nI_leI (by omega) (by omega)] at c
          have e : LM (rowF row) (A + i) (min 9 (n - i)) = L := by
            apply Nat.le_antisymm
            · exact Nat.le_trans (LM_le _ _ _) c
            · rcases hL with h | ⟨p, hp1, h⟩
              · omega
              · rw [← h]; exact LMa_ge hp1
          rw [e] at hp
          exact hp
        · rw [nI_add]
          refine sX3_sameBytes hJ hr (by omega) hlim fun y11 h11 => ⟨vp_in_nI (by omega) (by omega), fun y13 h13 y14 h14 => ?_⟩
          have hl2 := lcp_le (rowF row) p0 (A + i) (min 9 (n - i))
          rw [max_nI (by omega) (by omega)] at h11
          rw [nI_clamp (by omega)] at h13
          subst h11; subst h13; subst h14
          rw [nI_1]
          have hnew : max L (lcp (rowF row) p0 (A + i) (min 9 (n - i))) = 0 ∨ ∃ p, p < A + i ∧ lcp (rowF row) p (A + i) (min 9 (n - i)) = max L (lcp (rowF row) p0 (A + i) (min 9 (n - i))) := by
            by_cases hm : L ≤ lcp (rowF row) p0 (A + i) (min 9 (n - i))
            · exact Or.inr ⟨p0, h2, by omega⟩
            · rcases hL with h | ⟨p, hp1, h⟩
              · omega
              · exact Or.inr ⟨p, hp1, by omega⟩
          refine ih _ _ (k + 1) (by omega) hnew ?_
          rcases hE p0 (by omega) with ⟨e1, e2⟩ | ⟨p1, e1, e2, e3, e4⟩
          · refine Or.inl ⟨e1, fun p hp1 => ?_⟩
            by_cases ha : p0 < p
            · have := h6 p ha hp1; omega
            · by_cases hb : p = p0
              · subst hb; omega
              · rw [lcp_ne (fun z => e2 p (by omega) (z.trans h5.symm))]; omega
          · refine Or.inr ⟨p1, by omega, by omega, by omega, e2, e3.trans h5, fun p ha hp1 => ?_⟩
            by_cases hb : p0 < p
            · have := h6 p hb hp1; omega
            · by_cases hc2 : p = p0
              · subst hc2; omega
              · rw [lcp_ne (fun z => e4 p ha (by omega) (z.trans h5.symm))]; omega
  refine ⟨A + i + 1, key (A + i) _ 0 0 (by omega) (Or.inl rfl) ?_⟩
  rcases hE (A + i) (by omega) with ⟨e1, e2⟩ | ⟨p1, e1, e2, e3, e4⟩
  · exact Or.inl ⟨e1, fun p hp1 => by rw [lcp_ne (e2 p hp1)]; omega⟩
  · exact Or.inr ⟨p1, e1, e1, by omega, e2, e3, fun p ha hb => by rw [lcp_ne (e4 p ha hb)]; omega⟩
theorem sX3_leastDistance {f E : Nat → Int32} {row : List Nat} (hJ : JJ f row) (hr : row.length ≤ 280) (hE : EarOK E (rowF row) row.length) {q m : Nat} (hq : q + m ≤ row.length) (hm : 1 ≤ m) (hex : ∃ p, p < q ∧ ∀ t, t < m → rowF row (p + t) = rowF row (q + t)) {post : Int32 → Prop} (hp : post (nI (LD (rowF row) q m))) : wX3_leastDistance f E (nI q) (nI m) post := by
  refine ⟨vp_in_nI (by omega) (by omega), fun y2 h2 => ?_⟩
  rw [nI_clamp (by omega)] at h2
  subst h2
  -- from p0 on: the places between have no match
  have key : ∀ d p0 k, p0 < d → p0 < q → k + p0 + 1 ≤ 280 → rowF row p0 = rowF row q → (∀ p, p0 < p → p < q → ¬ ∀ t, t < m → rowF row (p + t) = rowF row (q + t)) → wX3_leastDistance_10 f E (nI q) (nI m) post (fun _ _ => post 0) (d + 1) (nI p0) (nI k) := by
    intro d
    induction d with
    | zero => intro p0 k h; omega
    | succ d ih =>
      intro p0 k h1 h2 h3 h5 h6
      refine ⟨fun c => ?_, fun _ => ⟨fun c => absurd c (nI_ne_m1 (by omega)), fun _ => sX3_sameBytes hJ hr (by omega) hq ⟨fun c => ?_, fun c => ?_⟩⟩⟩
      · rw [show (280 : Int32) = nI 280 from rfl, nI_leI (by omega) (by omega)] at c
        omega
      · have hne : ¬ ∀ t, t < m → rowF row (p0 + t) = rowF row (q + t) := fun z => c (by rw [lcp_full.mpr z])
        refine ⟨vp_in_nI (by omega) (by omega), fun y10 h10 y11 h11 => ?_⟩
        rw [nI_clamp (by omega)] at h10
        subst h10; subst h11
        rw [nI_1]
        rcases hE p0 (by omega) with ⟨e1, e2⟩ | ⟨p1, e1, e2, e3, e4⟩
        · obtain ⟨p, hp1, hp2⟩ := hex
          refine absurd hp2 ?_
          by_cases ha : p0 < p
          · exact h6 p ha hp1
          · by_cases hb : p = p0
            · subst hb; exact hne
            · exact fun z => e2 p (by omega) ((z 0 hm).trans h5.symm)
        · rw [e2]
          refine ih p1 (k + 1) (by omega) (by omega) (by omega) (e3.trans h5) (fun p ha hp1 => ?_)
          by_cases hb : p0 < p
          · exact h6 p hb hp1
          · by_cases hc2 : p = p0
            · subst hc2; exact hne
            · exact fun z => e4 p ha (by omega) ((z 0 hm).trans h5.symm)
      · have hl := lcp_le (rowF row) p0 q m
        rw [nI_eq (by omega) (by omega)] at c
        rw [pk_sub (by omega)]
        have hL : LD (rowF row) q m = q - p0 := LD_eq ⟨by omega, by omega, by rw [show q - (q - p0) = p0 by omega]; exact lcp_full.mp c, fun d' a b => h6 (q - d') (by omega) (by omega)⟩
        rw [hL] at hp
        exact hp
  rcases hE q (by omega) with ⟨e1, e2⟩ | ⟨p1, e1, e2, e3, e4⟩
  · obtain ⟨p, hp1, hp2⟩ := hex
    exact absurd (hp2 0 hm) (e2 p hp1)
  · refine ⟨p1 + 2, ?_⟩
    rw [e2]
    exact key (p1 + 1) p1 0 (by omega) e1 (by omega) e3 (fun p ha hb z => e4 p ha hb (z 0 hm))
