/-! PURE: the class's trainer -/
theorem lt_toInt {a b : Int32} : a < b ↔ a.toInt < b.toInt := Int32.lt_iff_toInt_lt
theorem sub_lt_nI {a b p : Nat} (ha : a < 2 ^ 29) (hb : b < 2 ^ 29) (hp : p < 2 ^ 29) : nI a - nI b < nI p ↔ a < b + p := by
  rw [lt_toInt, pk_sub_toInt (by omega) (by omega), nI_toInt (by omega)]
  omega
theorem pos_sub {a b : Nat} (ha : a < 2 ^ 29) (hb : b < 2 ^ 29) : 0 < nI a - nI b ↔ b < a := by
  rw [lt_toInt, pk_sub_toInt (by omega) (by omega)]
  have : (0 : Int32).toInt = 0 := by decide
  rw [this]
  omega
def b01 (b : Bool) : Int32 := if b = true then 1 else 0
def CV (cov : Nat → Int32) (C : Nat → Bool) : Prop := ∀ j, j < 320 → cov j = b01 (C j)
theorem b01_0 {b : Bool} : b01 b = 0 ↔ b = false := by cases b <;> simp [b01]
/-- short samples, few of them; rows of 2 .. 8 bytes -/
def SOK (ss : List (List Nat)) (n : Nat) : Prop := ss.length ≤ 8 ∧ (∀ s, (ss.getD s []).length ≤ 40) ∧ (∀ s, ∀ x ∈ ss.getD s [], x < 256) ∧ 2 ≤ n ∧ n ≤ 8
theorem SOK.B {ss : List (List Nat)} {n : Nat} (h : SOK ss n) (i : Nat) : Bp ss i < 256 := getD_lt256 (h.2.2.1 _) _
/-- the first place with the same row -/
def isF (ss : List (List Nat)) (n k : Nat) : Prop := Vp ss n k ∧ ∀ j, j < k → Vp ss n j → ¬ rEq ss n j k
theorem first_ex {ss : List (List Nat)} {n i : Nat} (h : Vp ss n i) : ∃ k, k ≤ i ∧ isF ss n k ∧ rEq ss n k i := by
  obtain ⟨k, ⟨h1, h2⟩, h3⟩ := pk_least (fun k => Vp ss n k ∧ rEq ss n k i) ⟨i, h, rEq.refl ss n i⟩
  refine ⟨k, ?_, ⟨h1, fun j hj hv he => h3 j hj ⟨hv, he.trans h2⟩⟩, h2⟩
  exact Nat.le_of_not_lt fun z => h3 i z ⟨h, rEq.refl ss n i⟩
theorem first_un {ss : List (List Nat)} {n k k' i : Nat} (h : isF ss n k) (h' : isF ss n k') (e : rEq ss n k i) (e' : rEq ss n k' i) : k = k' := by
  rcases Nat.lt_trichotomy k k' with q | q | q
  · exact absurd (e.trans e'.symm) (h'.2 k q h.1)
  · exact q
  · exact absurd (e'.trans e.symm) (h.2 k' q h'.1)
/-- kinds as far as x -/
def KDx (kind : Nat → Int32) (ss : List (List Nat)) (n x : Nat) : Prop := ∀ i, i < 320 → (¬ (i < x ∧ Vp ss n i) ∧ kind i = -1) ∨ (i < x ∧ Vp ss n i ∧ ∃ k, k ≤ i ∧ kind i = nI k ∧ isF ss n k ∧ rEq ss n k i)
theorem sX5_coverFrom {cov : Nat → Int32} {a b : Nat} (hb : b ≤ 320) (hab : a ≤ b) {v : Int32} {post : (Nat → Int32) → Prop} (hp : ∀ cov', (∀ j, (a ≤ j ∧ j < b) → cov' j = vp_nar .boolean v) → (∀ j, ¬ (a ≤ j ∧ j < b) → cov' j = cov j) → post cov') : wX5_coverFrom cov (nI a) (nI b) v post := by
  have key : ∀ d i cov', i + d = b → a ≤ i → (∀ j, (a ≤ j ∧ j < i) → cov' j = vp_nar .boolean v) → (∀ j, ¬ (a ≤ j ∧ j < i) → cov' j = cov j) → wX5_coverFrom_3 (nI b) v (fun s _ => post s) (d + 1) cov' (nI i) := by
    intro d
    induction d with
    | zero =>
      intro i cov' hi ha h1 h2
      have : i = b := by omega
      subst this
      exact ⟨fun _ => hp cov' h1 h2, fun c => absurd (nI_le (Nat.le_refl _) (by omega)) c⟩
    | succ d ih =>
      intro i cov' hi ha h1 h2
      refine ⟨fun c => absurd c (nI_ge (by omega) (by omega)), fun _ => ⟨fun c => absurd (by rw [show (320 : Int32) = nI 320 from rfl, nI_leI (by decide) (by omega)] at c; exact c) (by omega), fun _ => ⟨vp_in_nI (by omega) (by omega), fun y hy => ?_⟩⟩⟩
      rw [hy, nI_1, nI_clamp (by omega)]
      refine ih (i + 1) _ (by omega) (by omega) (fun j hj => ?_) (fun j hj => ?_)
      · by_cases e : j = i
        · subst e; exact pk_us
        · rw [pk_un e]; exact h1 j (by omega)
      · rw [pk_un (by omega)]; exact h2 j (by omega)
  exact ⟨_, key (b - a) a cov (by omega) (Nat.le_refl a) (fun j hj => by omega) (fun _ _ => rfl)⟩
theorem sX5_isFreeRow {cov kind : Nat → Int32} {ss : List (List Nat)} {n : Nat} (hS : SOK ss n) {C : Nat → Bool} (hC : CV cov C) (hK : KDx kind ss n 320) {i : Nat} (hi : i < 320) {post : Int32 → Prop} (h1 : Fr ss n C i → post 1) (h0 : ¬ Fr ss n C i → post 0) : wX5_isFreeRow (nI n) cov kind (nI i) post := by
  obtain ⟨s1, s2, s3, s4, s5⟩ := id hS
  refine ⟨vp_in_nI hi (by omega), ?_⟩
  rw [nI_clamp (by omega)]
  rcases hK i hi with ⟨a, b⟩ | ⟨-, hv, k, hk, e, -⟩
  · exact ⟨fun c => absurd b c, fun _ => h0 fun z => a ⟨hi, z.1⟩⟩
  · have hbd := (hv.bd s2 s1).1
    refine ⟨fun _ => ?_, fun c => absurd (e.symm.trans c) (nI_ne_m1 (by omega))⟩
    have key : ∀ d t, t + d = n → (∀ t', t' < t → C (i + t') = false) → wX5_isFreeRow_14 (nI n) cov (nI i) post (fun _ => post 1) (d + 1) (nI (i + t)) := by
      intro d
      induction d with
      | zero =>
        intro t ht hc
        have : t = n := by omega
        subst this
        exact ⟨fun _ => h1 ⟨hv, hc⟩, fun c => absurd (by rw [nI_add]; exact nI_le (Nat.le_refl _) (by omega)) c⟩
      | succ d ih =>
        intro t ht hc
        refine ⟨fun c => absurd (by rw [nI_add] at c; exact c) (nI_ge (by omega) (by omega)), fun _ => ⟨fun c => absurd (by rw [show (320 : Int32) = nI 320 from rfl, nI_leI (by decide) (by omega)] at c; exact c) (by omega), fun _ => ⟨vp_in_nI (by omega) (by omega), ?_⟩⟩⟩
        rw [nI_clamp (by omega), hC (i + t) (by omega), b01_0]
        refine ⟨fun c y hy => ?_, fun c => h0 fun z => c (z.2 t (by omega))⟩
        rw [hy, nI_1]
        refine ih (t + 1) (by omega) (fun t' h => ?_)
        by_cases e2 : t' = t
        · subst e2; exact c
        · exact hc t' (by omega)
    exact ⟨_, key n 0 (by omega) (fun t' h => absurd h (Nat.not_lt_zero t'))⟩
theorem sX5_isSameRow {cap : Nat} {pf : Nat → Int32} {pl : Int32} {ss : List (List Nat)} {n m : Nat} (hS : SOK ss n) (hr : RR cap pf pl ((List.range m).map (Bp ss))) {i j : Nat} (hi : i + n ≤ m) (hj : j + n ≤ m) (hm : m ≤ 320) {post : Int32 → Prop} (h1 : rEq ss n i j → post 1) (h0 : ¬ rEq ss n i j → post 0) : wX5_isSameRow cap (nI n) pl pf (nI i) (nI j) post := by
  have hg : ∀ k, k < m → ((List.range m).map (Bp ss)).getD k 0 = Bp ss k := fun k hk => by
    rw [gD_lt (by simpa using hk)]; simp
  have key : ∀ d t, t + d = n → (∀ t', t' < t → Bp ss (i + t') = Bp ss (j + t')) → wX5_isSameRow_2 cap (nI n) pl pf (nI i) (nI j) post (fun _ => post 1) (d + 1) (nI t) := by
    intro d
    have h8 := hS.2.2.2.2
    induction d with
    | zero =>
      intro t ht he
      have : t = n := by omega
      subst this
      exact ⟨fun _ => h1 he, fun c => absurd (nI_le (Nat.le_refl _) (by omega)) c⟩
    | succ d ih =>
      intro t ht he
      refine ⟨fun c => absurd c (nI_ge (by omega) (by omega)), fun _ => ?_⟩
      rw [nI_add, nI_add]
      refine sX4_signedAtN hr (by omega) (sX4_signedAtN hr (by omega) ?_)
      rw [hg _ (by omega), hg _ (by omega), sb_inj (hS.B _) (hS.B _)]
      refine ⟨fun c y hy => ?_, fun c => h0 fun z => c (z t (by omega))⟩
      rw [hy, nI_1]
      refine ih (t + 1) (by omega) (fun t' h => ?_)
      by_cases e2 : t' = t
      · subst e2; exact c
      · exact he t' (by omega)
  exact ⟨_, key n 0 (by omega) (fun t' h => absurd h (Nat.not_lt_zero t'))⟩
theorem Vp.in {ss : List (List Nat)} {n i s : Nat} (h : Vp ss n i) (hs : ∀ s, (ss.getD s []).length ≤ 40) (hi : i < 40 * (s + 1)) : i + n ≤ 40 * (s + 1) := by
  obtain ⟨h1, h2⟩ := h
  have := hs (i / 40)
  omega
theorem sX5_firstSameRow {cap : Nat} {pf kind : Nat → Int32} {pl : Int32} {ss : List (List Nat)} {n s : Nat} (hS : SOK ss n) (hs : s < ss.length) (hr : RR cap pf pl ((List.range (40 * (s + 1))).map (Bp ss))) {x : Nat} (hx : x < 40 * (s + 1)) (hv : Vp ss n x) (hK : KDx kind ss n x) {post : Int32 → Prop} (hp : ∀ k, k ≤ x → isF ss n k → rEq ss n k x → post (nI k)) : wX5_firstSameRow cap (nI n) pl pf kind (nI x) post := by
  obtain ⟨s1, s2, s3, s4, s5⟩ := id hS
  have key : ∀ d j, j + d = x → (∀ j', j' < j → Vp ss n j' → ¬ rEq ss n j' x) → wX5_firstSameRow_2 cap (nI n) pl pf kind (nI x) post (fun _ => post (nI x)) (d + 1) (nI j) := by
    intro d
    induction d with
    | zero =>
      intro j hj hno
      have : j = x := by omega
      subst this
      exact ⟨fun _ => hp j (Nat.le_refl _) ⟨hv, hno⟩ (rEq.refl ss n j), fun c => absurd (nI_le (Nat.le_refl _) (by omega)) c⟩
    | succ d ih =>
      intro j hj hno
      have next : ¬ (Vp ss n j ∧ rEq ss n j x) → ∀ y : Int32, y = nI j + 1 → wX5_firstSameRow_2 cap (nI n) pl pf kind (nI x) post (fun _ => post (nI x)) (d + 1) y := fun hn y hy => by
        rw [hy, nI_1]
        refine ih (j + 1) (by omega) (fun j' h hv' he => ?_)
        by_cases e : j' = j
        · subst e; exact hn ⟨hv', he⟩
        · exact hno j' (by omega) hv' he
      refine ⟨fun c => absurd c (nI_ge (by omega) (by omega)), fun _ => ⟨vp_in_nI (by omega) (by omega), ?_⟩⟩
      rw [nI_clamp (by omega)]
      rcases hK j (by omega) with ⟨a, b⟩ | ⟨-, hvj, k, hk, e, hF, hE⟩
      · rw [b]
        refine ⟨fun _ => next fun z => a ⟨by omega, z.1⟩, fun c => absurd c.symm (nI_ne_m1 (by omega))⟩
      · rw [e, nI_eq (by omega) (by omega)]
        refine ⟨fun c => next fun z => ?_, fun c => ?_⟩
        · exact hno k (by omega) hF.1 (hE.trans z.2)
        · subst c
          refine sX5_isSameRow hS hr (hvj.in s2 (by omega)) (hv.in s2 hx) (by omega) (fun z => ⟨fun c => absurd c (by decide), fun _ => hp k (by omega) hF z⟩) (fun z => ⟨fun _ => next fun q => z q.2, fun c => absurd rfl c⟩)
  exact ⟨_, key x 0 (by omega) (fun j' h => absurd h (Nat.not_lt_zero j'))⟩
theorem sX5_markKinds {cap : Nat} {pf kind : Nat → Int32} {pl : Int32} {ss : List (List Nat)} {n s : Nat} (hS : SOK ss n) (hs : s < ss.length) (hr : RR cap pf pl ((List.range (40 * (s + 1))).map (Bp ss))) (hK : KDx kind ss n (40 * s)) {post : (Nat → Int32) → Prop} (hp : ∀ kind', KDx kind' ss n (40 * (s + 1)) → post kind') : wX5_markKinds cap (nI n) pl pf kind (nI (40 * s)) (nI (ss.getD s []).length - nI n) post := by
  obtain ⟨s1, s2, s3, s4, s5⟩ := id hS
  have hlen := s2 s
  have key : ∀ d p kind', p + d = 41 → KDx kind' ss n (40 * s + p) → p + n ≤ (ss.getD s []).length + 1 ∨ p = 0 → wX5_markKinds_2 cap (nI n) pl pf (nI (40 * s)) (nI (ss.getD s []).length - nI n) (fun s1 _ => post s1) (d + 1) kind' (nI p) := by
    intro d
    induction d with
    | zero => intro p kind' hp0 hk hb; omega
    | succ d ih =>
      intro p kind' hp0 hk hb
      by_cases hpn : p + n ≤ (ss.getD s []).length
      · have hv : Vp ss n (40 * s + p) := ⟨by omega, by rw [show (40 * s + p) / 40 = s by omega]; omega⟩
        refine ⟨fun c => absurd ((sub_lt_nI (by omega) (by omega) (by omega)).mp c) (by omega), fun _ => ?_⟩
        rw [nI_add]
        refine sX5_firstSameRow hS hs hr (by omega) hv hk fun k hk1 hF hE => ⟨vp_in_nI (by omega) (by omega), fun y hy => ?_⟩
        rw [hy, nI_1, nI_clamp (by omega)]
        refine ih (p + 1) _ (by omega) (fun i hi => ?_) (Or.inl (by omega))
        by_cases e : i = 40 * s + p
        · subst e
          exact Or.inr ⟨by omega, hv, k, hk1, pk_us, hF, hE⟩
        · rw [pk_un e]
          rcases hk i hi with ⟨a, b⟩ | ⟨a, b⟩
          · exact Or.inl ⟨fun z => a ⟨by omega, z.2⟩, b⟩
          · exact Or.inr ⟨by omega, b⟩
      · refine ⟨fun _ => hp kind' fun i hi => ?_, fun c => absurd ((sub_lt_nI (by omega) (by omega) (by omega)).mpr (by omega)) c⟩
        rcases hk i hi with ⟨a, b⟩ | ⟨a, b⟩
        · refine Or.inl ⟨fun z => ?_, b⟩
          by_cases hip : i < 40 * s + p
          · exact a ⟨hip, z.2⟩
          · have h1 : i / 40 = s := by omega
            have h2 := z.2.2
            rw [h1] at h2
            omega
        · exact Or.inr ⟨by omega, b⟩
  exact ⟨_, key 41 0 kind (by omega) hK (Or.inr rfl)⟩
