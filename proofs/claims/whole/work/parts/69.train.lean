/-! PURE: training -/
/-- byte i of the line of places, 40 for each sample -/
def Bp (ss : List (List Nat)) (i : Nat) : Nat := (ss.getD (i / 40) []).getD (i % 40) 0
/-- a row of n bytes can stand at i -/
def Vp (ss : List (List Nat)) (n i : Nat) : Prop := i / 40 < ss.length ∧ i % 40 + n ≤ (ss.getD (i / 40) []).length
def rEq (ss : List (List Nat)) (n i j : Nat) : Prop := ∀ t, t < n → Bp ss (i + t) = Bp ss (j + t)
/-- .. and none of its places is covered -/
def Fr (ss : List (List Nat)) (n : Nat) (C : Nat → Bool) (i : Nat) : Prop := Vp ss n i ∧ ∀ t, t < n → C (i + t) = false
theorem rEq.refl (ss : List (List Nat)) (n i : Nat) : rEq ss n i i := fun _ _ => rfl
theorem rEq.symm {ss : List (List Nat)} {n i j : Nat} (h : rEq ss n i j) : rEq ss n j i := fun t ht => (h t ht).symm
theorem rEq.trans {ss : List (List Nat)} {n i j k : Nat} (h : rEq ss n i j) (h2 : rEq ss n j k) : rEq ss n i k := fun t ht => (h t ht).trans (h2 t ht)
/-- going through the places from i on: those with P, none nearer than n to the one before -/
def grd (P : Nat → Prop) [DecidablePred P] (n : Nat) : Nat → Nat → Nat → List Nat
  | 0, _, _ => []
  | f + 1, i, ff => if P i ∧ ff ≤ i then i :: grd P n f (i + 1) (i + n) else grd P n f (i + 1) ff
noncomputable def decP (P : Nat → Prop) : DecidablePred P := fun _ => Classical.propDecidable _
noncomputable def gr (P : Nat → Prop) (n f i ff : Nat) : List Nat := @grd P (decP P) n f i ff
theorem gr_y {P : Nat → Prop} {n f i ff : Nat} (h : P i) (h2 : ff ≤ i) : gr P n (f + 1) i ff = i :: gr P n f (i + 1) (i + n) := by
  exact @if_pos _ (@instDecidableAnd _ _ (decP P i) _) ⟨h, h2⟩ _ _ _
theorem gr_n {P : Nat → Prop} {n f i ff : Nat} (h : ¬ (P i ∧ ff ≤ i)) : gr P n (f + 1) i ff = gr P n f (i + 1) ff := by
  exact @if_neg _ (@instDecidableAnd _ _ (decP P i) _) h _ _ _
theorem gr_skip {P : Nat → Prop} {n : Nat} : ∀ (k f i ff : Nat), k ≤ f → (∀ j, i ≤ j → j < i + k → ¬ (P j ∧ ff ≤ j)) → gr P n f i ff = gr P n (f - k) (i + k) ff := by
  intro k
  induction k with
  | zero => intro f i ff _ _; rfl
  | succ k ih =>
    intro f i ff hf h
    cases f with
    | zero => omega
    | succ f =>
      rw [gr_n (h i (by omega) (by omega)), ih f (i + 1) ff (by omega) (fun j a b => h j (by omega) (by omega))]
      rw [show f + 1 - (k + 1) = f - k by omega, show i + 1 + k = i + (k + 1) by omega]
theorem gr_ff {P : Nat → Prop} {n : Nat} : ∀ (f i ff : Nat), ff ≤ i → gr P n f i ff = gr P n f i 0 := by
  intro f
  induction f with
  | zero => intro i ff _; rfl
  | succ f ih =>
    intro i ff h
    by_cases hp : P i
    · rw [gr_y hp h, gr_y hp (Nat.zero_le i)]
    · rw [gr_n (fun z => hp z.1), gr_n (fun z => hp z.1)]; exact ih (i + 1) ff (by omega)
theorem gr_mem {P : Nat → Prop} {n : Nat} : ∀ {f i ff x : Nat}, x ∈ gr P n f i ff → P x ∧ i ≤ x ∧ x < i + f ∧ ff ≤ x := by
  intro f
  induction f with
  | zero => intro i ff x h; cases h
  | succ f ih =>
    intro i ff x h
    by_cases hp : P i ∧ ff ≤ i
    · rw [gr_y hp.1 hp.2] at h
      rcases List.mem_cons.mp h with rfl | h
      · exact ⟨hp.1, by omega, by omega, hp.2⟩
      · obtain ⟨a, b, c, d⟩ := ih h; exact ⟨a, by omega, by omega, by omega⟩
    · rw [gr_n hp] at h
      obtain ⟨a, b, c, d⟩ := ih h; exact ⟨a, by omega, by omega, by omega⟩
/-- where the row that stands at r is counted -/
noncomputable def cL (ss : List (List Nat)) (n : Nat) (C : Nat → Bool) (r : Nat) : List Nat := gr (fun i => Fr ss n C i ∧ rEq ss n r i) n 320 0 0
noncomputable def cnt (ss : List (List Nat)) (n : Nat) (C : Nat → Bool) (r : Nat) : Nat := (cL ss n C r).length
theorem gr_congr {P Q : Nat → Prop} {n : Nat} (h : ∀ i, P i ↔ Q i) : ∀ f i ff, gr P n f i ff = gr Q n f i ff := by
  have : P = Q := funext fun i => propext (h i)
  subst this
  exact fun _ _ _ => rfl
theorem cL_congr {ss : List (List Nat)} {n : Nat} {C : Nat → Bool} {r r' : Nat} (h : rEq ss n r r') : cL ss n C r = cL ss n C r' :=
  gr_congr (fun i => ⟨fun z => ⟨z.1, h.symm.trans z.2⟩, fun z => ⟨z.1, h.trans z.2⟩⟩) _ _ _
/-- the places of the rows in l are covered too -/
def cvr (C : Nat → Bool) (n : Nat) (l : List Nat) : Nat → Bool := fun j => C j || l.any fun i => decide (i ≤ j) && decide (j < i + n)
theorem cvr_nil (C : Nat → Bool) (n : Nat) : cvr C n [] = C := by funext j; simp [cvr]
theorem cvr_f {C : Nat → Bool} {n : Nat} {l : List Nat} {j : Nat} : cvr C n l j = false ↔ C j = false ∧ ∀ i ∈ l, ¬ (i ≤ j ∧ j < i + n) := by
  unfold cvr
  rw [Bool.or_eq_false_iff, List.any_eq_false]
  constructor
  · rintro ⟨a, b⟩
    refine ⟨a, fun i hi z => b i hi ?_⟩
    simp [z.1, z.2]
  · rintro ⟨a, b⟩
    refine ⟨a, fun i hi z => b i hi ?_⟩
    simpa using z
/-- among the places below N the first free one with the greatest count, and that count -/
noncomputable def bstN (ss : List (List Nat)) (n : Nat) (C : Nat → Bool) : Nat → Option Nat × Nat
  | 0 => (none, 0)
  | N + 1 => @ite _ (Fr ss n C N ∧ (bstN ss n C N).2 < cnt ss n C N) (Classical.propDecidable _) (some N, cnt ss n C N) (bstN ss n C N)
noncomputable def bst (ss : List (List Nat)) (n : Nat) (C : Nat → Bool) : Option Nat × Nat := bstN ss n C 320
theorem bstN_y {ss : List (List Nat)} {n : Nat} {C : Nat → Bool} {N : Nat} (h : Fr ss n C N) (h2 : (bstN ss n C N).2 < cnt ss n C N) : bstN ss n C (N + 1) = (some N, cnt ss n C N) := by
  exact @if_pos _ (Classical.propDecidable _) ⟨h, h2⟩ _ _ _
theorem bstN_n {ss : List (List Nat)} {n : Nat} {C : Nat → Bool} {N : Nat} (h : ¬ (Fr ss n C N ∧ (bstN ss n C N).2 < cnt ss n C N)) : bstN ss n C (N + 1) = bstN ss n C N := by
  exact @if_neg _ (Classical.propDecidable _) h _ _ _
theorem bstN_some {ss : List (List Nat)} {n : Nat} {C : Nat → Bool} : ∀ (N : Nat) {b : Nat}, (bstN ss n C N).1 = some b → b < N ∧ Fr ss n C b ∧ (bstN ss n C N).2 = cnt ss n C b := by
  intro N
  induction N with
  | zero => intro b h; cases h
  | succ N ih =>
    intro b h
    by_cases hc : Fr ss n C N ∧ (bstN ss n C N).2 < cnt ss n C N
    · rw [bstN_y hc.1 hc.2] at h ⊢
      cases h
      exact ⟨by omega, hc.1, rfl⟩
    · rw [bstN_n hc] at h ⊢
      obtain ⟨a, b, c⟩ := ih h
      exact ⟨by omega, b, c⟩
theorem bstN_none {ss : List (List Nat)} {n : Nat} {C : Nat → Bool} : ∀ (N : Nat), (bstN ss n C N).1 = none → (bstN ss n C N).2 = 0 := by
  intro N
  induction N with
  | zero => intro _; rfl
  | succ N ih =>
    intro h
    by_cases hc : Fr ss n C N ∧ (bstN ss n C N).2 < cnt ss n C N
    · rw [bstN_y hc.1 hc.2] at h; cases h
    · rw [bstN_n hc] at h ⊢; exact ih h
/-- a free row is counted -/
theorem cnt_pos {ss : List (List Nat)} {n : Nat} {C : Nat → Bool} {i : Nat} (h : Fr ss n C i) (hi : i < 320) : 0 < cnt ss n C i := by
  refine Nat.pos_of_ne_zero fun z => ?_
  have hnil : cL ss n C i = [] := List.length_eq_zero_iff.mp z
  -- the first place with the row would be counted
  have : ∀ f k, k + f = 320 → (∀ j, j < k → ¬ (Fr ss n C j ∧ rEq ss n i j)) → gr (fun j => Fr ss n C j ∧ rEq ss n i j) n f k 0 = [] → ∀ j, j < 320 → ¬ (Fr ss n C j ∧ rEq ss n i j) := by
    intro f
    induction f with
    | zero => intro k hk h1 _ j hj; exact h1 j (by omega)
    | succ f ih =>
      intro k hk h1 h2
      by_cases hp : Fr ss n C k ∧ rEq ss n i k
      · rw [gr_y hp (Nat.zero_le k)] at h2; cases h2
      · rw [gr_n (fun z => hp z.1)] at h2
        refine ih (k + 1) (by omega) (fun j hj => ?_) h2
        by_cases hjk : j = k
        · subst hjk; exact hp
        · exact h1 j (by omega)
  exact this 320 0 rfl (fun j hj => absurd hj (Nat.not_lt_zero j)) hnil i hi ⟨h, rEq.refl ss n i⟩
/-- what TRAINING takes: the places of the rows, the first one first -/
noncomputable def trn (ss : List (List Nat)) (n bound : Nat) : Nat → (Nat → Bool) → List Nat → List Nat
  | 0, _, tk => tk
  | f + 1, C, tk => match (bst ss n C).1 with
      | none => tk
      | some b => if n + 1 < (n - 2) * cnt ss n C b ∧ n * (tk.length + 1) ≤ bound then trn ss n bound f (cvr C n (cL ss n C b)) (tk ++ [b]) else tk
/-- the pieces, the latest first -/
def pcs (ss : List (List Nat)) (n : Nat) (tk : List Nat) : List Nat := tk.reverse.flatMap fun b => (List.range n).map fun t => Bp ss (b + t)
theorem pcs_len (ss : List (List Nat)) (n : Nat) (tk : List Nat) : (pcs ss n tk).length = n * tk.length := by
  unfold pcs
  rw [List.length_flatMap]
  simp only [List.length_map, List.length_range]
  rw [← List.length_reverse (as := tk)]
  generalize tk.reverse = l
  induction l with
  | nil => simp
  | cons a l ih => rw [List.map_cons, List.sum_cons, ih, List.length_cons, Nat.mul_add, Nat.mul_one, Nat.add_comm]
theorem Vp.bd {ss : List (List Nat)} {n i : Nat} (h : Vp ss n i) (hs : ∀ s, (ss.getD s []).length ≤ 40) (h8 : ss.length ≤ 8) : i + n ≤ 320 ∧ ∀ t, t < n → (i + t) / 40 = i / 40 ∧ (i + t) % 40 = i % 40 + t := by
  obtain ⟨h1, h2⟩ := h
  have := hs (i / 40)
  refine ⟨by omega, fun t ht => by omega⟩
