/-! POOLS: the rows of the samples, the dictionaries; worlds with pools behind the fixed cells -/
def elS (cy : Nat → ClassId) (q qb : Nat → Nat) (f : Nat → Nat → Int32) (len : Nat → Int32) (i : Nat) : va_W := [(q i, .inr (7, [.ref (qb i), .int (len i)])), (qb i, .inl (cy 0, 40, .inl (f i)))]
def elD (cy : Nat → ClassId) (q qw qb : Nat → Nat) (pl pc id len : Nat → Int32) (f : Nat → Nat → Int32) (i : Nat) : va_W := [(q i, .inr (3, [.ref (qw i), .int (pl i), .int (pc i), .int (id i)])), (qw i, .inr (7, [.ref (qb i), .int (len i)])), (qb i, .inl (cy 0, 80, .inl (f i)))]
def plW (el : Nat → va_W) (n : Nat) : va_W := (List.range n).flatMap el
def plO (el : Nat → va_W) (n k : Nat) : va_W := (List.range n).flatMap (fun i => if i = k then [] else el i)
theorem plO_ge {el : Nat → va_W} {k : Nat} : ∀ {n : Nat}, n ≤ k → plO el n k = plW el n := by
  intro n
  induction n with
  | zero => intro _; rfl
  | succ n ih =>
    intro h
    unfold plO plW at *
    rw [List.range_succ, List.flatMap_append, List.flatMap_append, ih (by omega)]
    simp [show ¬ n = k by omega]
theorem pl_open {el : Nat → va_W} {k : Nat} : ∀ {n : Nat}, k < n → List.Perm (plW el n) (el k ++ plO el n k) := by
  intro n
  induction n with
  | zero => intro h; omega
  | succ n ih =>
    intro h
    have e1 : plW el (n + 1) = plW el n ++ el n := by unfold plW; rw [List.range_succ, List.flatMap_append]; simp
    by_cases hk : k = n
    · subst hk
      have e2 : plO el (k + 1) k = plW el k := by
        rw [← plO_ge (Nat.le_refl k)]
        unfold plO
        rw [List.range_succ, List.flatMap_append]; simp
      rw [e1, e2]
      exact List.perm_append_comm
    · have e2 : plO el (n + 1) k = plO el n k ++ el n := by
        unfold plO
        rw [List.range_succ, List.flatMap_append]; simp [show ¬ n = k by omega]
      rw [e1, e2, ← List.append_assoc]
      exact (ih (by omega)).append_right _
theorem plO_congr {el el' : Nat → va_W} {n k : Nat} (h : ∀ i, i ≠ k → el' i = el i) : plO el' n k = plO el n k := by
  unfold plO
  congr 1
  funext i
  by_cases hi : i = k
  · rw [if_pos hi, if_pos hi]
  · rw [if_neg hi, if_neg hi, h i hi]
theorem pl_close {el el' : Nat → va_W} {n k : Nat} (hk : k < n) (h : ∀ i, i ≠ k → el' i = el i) : List.Perm (el' k ++ plO el n k) (plW el' n) := by
  rw [← plO_congr h]
  exact (pl_open hk).symm
theorem clS {cy : Nat → ClassId} {q qb : Nat → Nat} {n k : Nat} {f F : Nat → Nat → Int32} {len L : Nat → Int32} {f' : Nat → Int32} {l' : Int32} (hk : k < n) (hl : L k = l' ∧ ∀ i, i ≠ k → L i = len i) (hf : F k = f' ∧ ∀ i, i ≠ k → F i = f i) : List.Perm ([(q k, .inr (7, [.ref (qb k), .int l'])), (qb k, .inl (cy 0, 40, .inl f'))] ++ plO (elS cy q qb f len) n k) (plW (elS cy q qb F L) n) := by
  have := pl_close (el := elS cy q qb f len) (el' := elS cy q qb F L) hk (fun i hi => by unfold elS; rw [hl.2 i hi, hf.2 i hi])
  unfold elS at this ⊢
  rw [hl.1, hf.1] at this
  exact this
theorem clD {cy : Nat → ClassId} {q qw qb : Nat → Nat} {n k : Nat} {f F : Nat → Nat → Int32} {pl PL pc PC id ID len L : Nat → Int32} {f' : Nat → Int32} {pl' pc' id' l' : Int32} (hk : k < n) (h1 : PL k = pl' ∧ ∀ i, i ≠ k → PL i = pl i) (h2 : PC k = pc' ∧ ∀ i, i ≠ k → PC i = pc i) (h3 : ID k = id' ∧ ∀ i, i ≠ k → ID i = id i) (hl : L k = l' ∧ ∀ i, i ≠ k → L i = len i) (hf : F k = f' ∧ ∀ i, i ≠ k → F i = f i) :
    List.Perm ([(q k, .inr (3, [.ref (qw k), .int pl', .int pc', .int id'])), (qw k, .inr (7, [.ref (qb k), .int l'])), (qb k, .inl (cy 0, 80, .inl f'))] ++ plO (elD cy q qw qb pl pc id len f) n k) (plW (elD cy q qw qb PL PC ID L F) n) := by
  have := pl_close (el := elD cy q qw qb pl pc id len f) (el' := elD cy q qw qb PL PC ID L F) hk (fun i hi => by unfold elD; rw [h1.2 i hi, h2.2 i hi, h3.2 i hi, hl.2 i hi, hf.2 i hi])
  unfold elD at this ⊢
  rw [h1.1, h2.1, h3.1, hl.1, hf.1] at this
  exact this
theorem up_ok {α : Type} (f : Nat → α) (k : Nat) (v : α) : va_up f k v k = v ∧ ∀ i, i ≠ k → va_up f k v i = f i := ⟨va_up_self f k v, fun _ h => va_up_ne f v h⟩
theorem eq_ok {α : Type} (f : Nat → α) (k : Nat) : f k = f k ∧ ∀ i, i ≠ k → f i = f i := ⟨rfl, fun _ _ => rfl⟩
section PM
variable {C C0 Cr C1 C' P D S E Do : va_W}
theorem pm_n (h : List.Perm C (C0 ++ Cr)) : List.Perm (C ++ P) (C0 ++ (Cr ++ P)) := by rw [← List.append_assoc]; exact h.append_right P
theorem pm_n' (h : List.Perm (C1 ++ Cr) C') : List.Perm (C1 ++ (Cr ++ P)) (C' ++ P) := by rw [← List.append_assoc]; exact h.append_right P
theorem pm_a (h : List.Perm C (C0 ++ Cr)) : List.Perm (C ++ P) ((C0 ++ P) ++ Cr) :=
  (h.append_right P).trans (by rw [List.append_assoc, List.append_assoc]; exact List.perm_append_comm.append_left C0)
theorem pm_a' (h : List.Perm (C1 ++ Cr) C') : List.Perm ((C1 ++ P) ++ Cr) (C' ++ P) :=
  have e : List.Perm ((C1 ++ P) ++ Cr) ((C1 ++ Cr) ++ P) := by rw [List.append_assoc, List.append_assoc]; exact List.perm_append_comm.append_left C1
  e.trans (h.append_right P)
theorem pm_2 (h : List.Perm C (C0 ++ Cr)) : List.Perm (C ++ (D ++ S)) ((C0 ++ S) ++ (Cr ++ D)) :=
  ((List.perm_append_comm (l₁ := D) (l₂ := S)).append_left C).trans (by rw [← List.append_assoc, ← List.append_assoc]; exact (pm_a h).append_right D)
theorem pm_2' (h : List.Perm (C1 ++ Cr) C') : List.Perm ((C1 ++ S) ++ (Cr ++ D)) (C' ++ (D ++ S)) :=
  have e1 : List.Perm ((C1 ++ S) ++ (Cr ++ D)) ((C' ++ S) ++ D) := by rw [← List.append_assoc]; exact (pm_a' h).append_right D
  have e2 : List.Perm ((C' ++ S) ++ D) (C' ++ (D ++ S)) := by rw [List.append_assoc]; exact List.perm_append_comm.append_left C'
  e1.trans e2
theorem pm_1 (h : List.Perm C (C0 ++ Cr)) : List.Perm (C ++ (D ++ S)) ((C0 ++ D) ++ (Cr ++ S)) := by
  rw [← List.append_assoc, ← List.append_assoc]; exact (pm_a h).append_right S
theorem pm_1' (h : List.Perm (C1 ++ Cr) C') : List.Perm ((C1 ++ D) ++ (Cr ++ S)) (C' ++ (D ++ S)) := by
  rw [← List.append_assoc, ← List.append_assoc]; exact (pm_a' h).append_right S
/-- the first (or only) pool is opened, closed -/
theorem pm_o (h : List.Perm D (E ++ Do)) : List.Perm (C ++ D) ((C ++ E) ++ Do) := by rw [List.append_assoc]; exact h.append_left C
theorem pm_c (h : List.Perm (E ++ Do) D) : List.Perm ((C ++ E) ++ Do) (C ++ D) := by rw [List.append_assoc]; exact h.append_left C
theorem pm_o1 (h : List.Perm D (E ++ Do)) : List.Perm (C ++ (D ++ S)) ((C ++ E) ++ (Do ++ S)) := by
  rw [← List.append_assoc, ← List.append_assoc]; exact (pm_o h).append_right S
theorem pm_c1 (h : List.Perm (E ++ Do) D) : List.Perm ((C ++ E) ++ (Do ++ S)) (C ++ (D ++ S)) := by
  rw [← List.append_assoc, ← List.append_assoc]; exact (pm_c h).append_right S
theorem pm_o2 (h : List.Perm S (E ++ Do)) : List.Perm (C ++ (D ++ S)) ((C ++ E) ++ (D ++ Do)) := by
  refine ((List.perm_append_comm (l₁ := D) (l₂ := S)).append_left C).trans ((pm_o1 (S := D) h).trans ?_)
  exact (List.perm_append_comm (l₁ := Do) (l₂ := D)).append_left (C ++ E)
theorem pm_c2 (h : List.Perm (E ++ Do) S) : List.Perm ((C ++ E) ++ (D ++ Do)) (C ++ (D ++ S)) := by
  refine ((List.perm_append_comm (l₁ := D) (l₂ := Do)).append_left (C ++ E)).trans ((pm_c1 (S := D) h).trans ?_)
  exact (List.perm_append_comm (l₁ := S) (l₂ := D)).append_left C
theorem pm_i (h : List.Perm C C') : List.Perm (C ++ P) (C' ++ P) := h.append_right P
end PM
theorem vp_lt {i : Int32} {n : Nat} (h : vp_in i n) : i.toNatClampNeg < n := Nat.not_le.mp fun q => h (Or.inr q)
