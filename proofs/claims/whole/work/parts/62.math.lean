/-! PURE: matches, costs, choices of a packed text -/
/-- how many bytes from p on are those from q on, at most lim -/
def lcp (R : Nat → Nat) : Nat → Nat → Nat → Nat
  | _, _, 0 => 0
  | p, q, lim + 1 => if R p = R q then lcp R (p + 1) (q + 1) lim + 1 else 0
theorem lcp_iff (R : Nat → Nat) : ∀ (lim p q m : Nat), m ≤ lcp R p q lim ↔ m ≤ lim ∧ ∀ t, t < m → R (p + t) = R (q + t) := by
  intro lim
  induction lim with
  | zero =>
    intro p q m
    constructor
    · intro h
      have : m = 0 := Nat.le_zero.mp h
      subst this
      exact ⟨Nat.le_refl 0, fun t ht => absurd ht (Nat.not_lt_zero t)⟩
    · intro h; exact h.1
  | succ lim ih =>
    intro p q m
    show m ≤ (if R p = R q then lcp R (p + 1) (q + 1) lim + 1 else 0) ↔ _
    by_cases e : R p = R q
    · rw [if_pos e]
      cases m with
      | zero => exact ⟨fun _ => ⟨Nat.zero_le _, fun t ht => absurd ht (Nat.not_lt_zero t)⟩, fun _ => Nat.zero_le _⟩
      | succ m =>
        rw [Nat.succ_le_succ_iff, ih]
        constructor
        · rintro ⟨h1, h2⟩
          refine ⟨by omega, fun t ht => ?_⟩
          cases t with
          | zero => exact e
          | succ t =>
            have := h2 t (by omega)
            rw [show p + (t + 1) = p + 1 + t by omega, show q + (t + 1) = q + 1 + t by omega]
            exact this
        · rintro ⟨h1, h2⟩
          refine ⟨by omega, fun t ht => ?_⟩
          have := h2 (t + 1) (by omega)
          rw [show p + (t + 1) = p + 1 + t by omega, show q + (t + 1) = q + 1 + t by omega] at this
          exact this
    · rw [if_neg e]
      constructor
      · intro h
        have : m = 0 := Nat.le_zero.mp h
        subst this
        exact ⟨Nat.zero_le _, fun t ht => absurd ht (Nat.not_lt_zero t)⟩
      · rintro ⟨h1, h2⟩
        rcases Nat.eq_zero_or_pos m with h | h
        · omega
        · exact absurd (h2 0 h) e
theorem lcp_le (R : Nat → Nat) (p q lim : Nat) : lcp R p q lim ≤ lim := ((lcp_iff R lim p q _).mp (Nat.le_refl _)).1
theorem lcp_eq {R : Nat → Nat} {p q lim n : Nat} (h1 : n ≤ lim) (h2 : ∀ t, t < n → R (p + t) = R (q + t)) (h3 : n = lim ∨ ¬ R (p + n) = R (q + n)) : lcp R p q lim = n := by
  apply Nat.le_antisymm
  · refine Nat.le_of_not_lt fun h => ?_
    obtain ⟨a, b⟩ := (lcp_iff R lim p q (n + 1)).mp h
    rcases h3 with h3 | h3
    · omega
    · exact h3 (b n (by omega))
  · exact (lcp_iff R lim p q n).mpr ⟨h1, h2⟩
/-- the longest match at q -/
def LMa (R : Nat → Nat) (q lim : Nat) : Nat → Nat
  | 0 => 0
  | k + 1 => max (LMa R q lim k) (lcp R k q lim)
def LM (R : Nat → Nat) (q lim : Nat) : Nat := LMa R q lim q
theorem LMa_ge {R : Nat → Nat} {q lim : Nat} : ∀ {k p : Nat}, p < k → lcp R p q lim ≤ LMa R q lim k := by
  intro k
  induction k with
  | zero => intro p h; exact absurd h (Nat.not_lt_zero p)
  | succ k ih =>
    intro p h
    show _ ≤ max (LMa R q lim k) (lcp R k q lim)
    by_cases hp : p = k
    · subst hp; omega
    · have := ih (p := p) (by omega); omega
theorem LMa_at {R : Nat → Nat} {q lim : Nat} : ∀ (k : Nat), LMa R q lim k = 0 ∨ ∃ p, p < k ∧ lcp R p q lim = LMa R q lim k := by
  intro k
  induction k with
  | zero => exact Or.inl rfl
  | succ k ih =>
    show max (LMa R q lim k) (lcp R k q lim) = 0 ∨ ∃ p, p < k + 1 ∧ lcp R p q lim = max (LMa R q lim k) (lcp R k q lim)
    by_cases h : LMa R q lim k ≤ lcp R k q lim
    · exact Or.inr ⟨k, by omega, by omega⟩
    · rcases ih with ih | ⟨p, h1, h2⟩
      · omega
      · exact Or.inr ⟨p, by omega, by omega⟩
theorem LM_eq {R : Nat → Nat} {q lim r : Nat} (h1 : ∀ p, p < q → lcp R p q lim ≤ r) (h2 : r = 0 ∨ ∃ p, p < q ∧ lcp R p q lim = r) : LM R q lim = r := by
  apply Nat.le_antisymm
  · rcases LMa_at (R := R) (q := q) (lim := lim) q with h | ⟨p, h, e⟩
    · show LMa R q lim q ≤ r; omega
    · show LMa R q lim q ≤ r
      rw [← e]; exact h1 p h
  · rcases h2 with h | ⟨p, h, e⟩
    · omega
    · rw [← e]; exact LMa_ge h
theorem LM_le (R : Nat → Nat) (q lim : Nat) : LM R q lim ≤ lim := by
  rcases LMa_at (R := R) (q := q) (lim := lim) q with h | ⟨p, h, e⟩
  · show LMa R q lim q ≤ lim; omega
  · show LMa R q lim q ≤ lim
    rw [← e]; exact lcp_le R p q lim
theorem LM_iff {R : Nat → Nat} {q lim m : Nat} (hm : 0 < m) : m ≤ LM R q lim ↔ m ≤ lim ∧ ∃ p, p < q ∧ ∀ t, t < m → R (p + t) = R (q + t) := by
  constructor
  · intro h
    rcases LMa_at (R := R) (q := q) (lim := lim) q with h0 | ⟨p, hp, e⟩
    · have : LM R q lim = 0 := h0
      omega
    · have h' : m ≤ lcp R p q lim := by rw [e]; exact h
      obtain ⟨a, b⟩ := (lcp_iff R lim p q m).mp h'
      exact ⟨a, p, hp, b⟩
  · rintro ⟨h, p, hp, b⟩
    exact Nat.le_trans ((lcp_iff R lim p q m).mpr ⟨h, b⟩) (LMa_ge hp)
/-- d is the least distance of a match of m bytes at q -/
def isLD (R : Nat → Nat) (q m d : Nat) : Prop := 1 ≤ d ∧ d ≤ q ∧ (∀ t, t < m → R (q - d + t) = R (q + t)) ∧ ∀ d', 1 ≤ d' → d' < d → ¬ ∀ t, t < m → R (q - d' + t) = R (q + t)
def LDs (R : Nat → Nat) (q m : Nat) : Nat → Nat → Nat
  | 0, _ => 0
  | f + 1, d => if lcp R (q - d) q m = m then d else LDs R q m f (d + 1)
def LD (R : Nat → Nat) (q m : Nat) : Nat := LDs R q m q 1
theorem lcp_full {R : Nat → Nat} {p q m : Nat} : lcp R p q m = m ↔ ∀ t, t < m → R (p + t) = R (q + t) := by
  constructor
  · intro h; exact ((lcp_iff R m p q m).mp (Nat.le_of_eq h.symm)).2
  · intro h; exact Nat.le_antisymm (lcp_le R p q m) ((lcp_iff R m p q m).mpr ⟨Nat.le_refl m, h⟩)
theorem LDs_eq {R : Nat → Nat} {q m d : Nat} (h : isLD R q m d) : ∀ (f e : Nat), e ≤ d → d < e + f → 1 ≤ e → LDs R q m f e = d := by
  intro f
  induction f with
  | zero => intro e h1 h2; omega
  | succ f ih =>
    intro e h1 h2 h3
    show (if lcp R (q - e) q m = m then e else LDs R q m f (e + 1)) = d
    by_cases he : e = d
    · subst he; rw [if_pos (lcp_full.mpr h.2.2.1)]
    · rw [if_neg (fun z => h.2.2.2 e h3 (by omega) (lcp_full.mp z))]
      exact ih (e + 1) (by omega) (by omega) (by omega)
theorem LD_eq {R : Nat → Nat} {q m d : Nat} (h : isLD R q m d) : LD R q m = d := LDs_eq h q 1 h.1 (by have := h.2.1; omega) (Nat.le_refl 1)
theorem LDs_is {R : Nat → Nat} {q m : Nat} : ∀ (f e : Nat), 1 ≤ e → e + f = q + 1 → (∀ d', 1 ≤ d' → d' < e → ¬ ∀ t, t < m → R (q - d' + t) = R (q + t)) → (∃ p, p < q ∧ ∀ t, t < m → R (p + t) = R (q + t)) → isLD R q m (LDs R q m f e) := by
  intro f
  induction f with
  | zero =>
    intro e h1 h2 h3 ⟨p, hp, hm⟩
    exact absurd (by rw [show q - (q - p) = p by omega]; exact hm) (h3 (q - p) (by omega) (by omega))
  | succ f ih =>
    intro e h1 h2 h3 h4
    show isLD R q m (if lcp R (q - e) q m = m then e else LDs R q m f (e + 1))
    by_cases hc : lcp R (q - e) q m = m
    · rw [if_pos hc]; exact ⟨h1, by omega, lcp_full.mp hc, h3⟩
    · rw [if_neg hc]
      refine ih (e + 1) (by omega) (by omega) (fun d' a b => ?_) h4
      by_cases hd : d' = e
      · subst hd; exact fun z => hc (lcp_full.mpr z)
      · exact h3 d' a (by omega)
theorem LD_is {R : Nat → Nat} {q m : Nat} (h : ∃ p, p < q ∧ ∀ t, t < m → R (p + t) = R (q + t)) : isLD R q m (LD R q m) := LDs_is q 1 (Nat.le_refl 1) (by omega) (fun d' a b => by omega) h
/-- n, n - 1, .. lo -/
def dnl (lo : Nat) : Nat → List Nat
  | 0 => []
  | n + 1 => if n + 1 < lo then [] else (n + 1) :: dnl lo n
theorem dnl_lt {lo n : Nat} (h : n < lo) : dnl lo n = [] := by
  cases n with
  | zero => rfl
  | succ n => show (if n + 1 < lo then [] else _) = []; rw [if_pos h]
theorem dnl_ge {lo n : Nat} (h : lo ≤ n) (h0 : 1 ≤ lo) : dnl lo n = n :: dnl lo (n - 1) := by
  cases n with
  | zero => omega
  | succ n => show (if n + 1 < lo then [] else _) = _; rw [if_neg (by omega)]; rfl
theorem mem_dnl {lo : Nat} (h0 : 1 ≤ lo) : ∀ {n x : Nat}, x ∈ dnl lo n ↔ lo ≤ x ∧ x ≤ n := by
  intro n
  induction n with
  | zero => intro x; constructor
            · intro h; cases h
            · intro h; omega
  | succ n ih =>
    intro x
    by_cases h : n + 1 < lo
    · rw [dnl_lt h]
      constructor
      · intro h; cases h
      · intro h; omega
    · rw [dnl_ge (by omega) h0, List.mem_cons, Nat.add_sub_cancel, ih]
      omega
abbrev It : Type := Nat × Bool × Nat
/-- of two the first that is least -/
def fmn (b x : It) : It := if x.1 < b.1 then x else b
/-- all ways at i: matches, the longest first; bytes as they are, the most first -/
def mats (c : Nat → Nat) (i n : Nat) : List It := (dnl 3 n).map fun m => (2 + c (i + m), true, m)
def plns (c : Nat → Nat) (i n : Nat) : List It := (dnl 1 n).map fun k => (1 + k + c (i + k), false, k)
def cands (c : Nat → Nat) (i L P : Nat) : List It := mats c i L ++ plns c i P
def big : Nat := 2147483647
def best (c : Nat → Nat) (i L P : Nat) : It := (cands c i L P).foldl fmn (big, false, 0)
theorem fmn_first : ∀ (l : List It) (b : It), (∀ x ∈ l, ¬ x.1 < b.1) ∧ l.foldl fmn b = b ∨ ∃ l1 r l2, l = l1 ++ r :: l2 ∧ l.foldl fmn b = r ∧ r.1 < b.1 ∧ (∀ x ∈ l1, r.1 < x.1) ∧ ∀ x ∈ l2, r.1 ≤ x.1 := by
  intro l
  induction l with
  | nil => intro b; exact Or.inl ⟨fun x h => (List.not_mem_nil h).elim, rfl⟩
  | cons a l ih =>
    intro b
    show _ ∨ ∃ l1 r l2, a :: l = l1 ++ r :: l2 ∧ l.foldl fmn (fmn b a) = r ∧ _
    by_cases h : a.1 < b.1
    · have e : fmn b a = a := if_pos h
      rw [e]
      rcases ih a with ⟨h1, h2⟩ | ⟨l1, r, l2, h1, h2, h3, h4, h5⟩
      · exact Or.inr ⟨[], a, l, rfl, h2, h, fun x hx => (List.not_mem_nil hx).elim, fun x hx => Nat.le_of_not_lt (h1 x hx)⟩
      · refine Or.inr ⟨a :: l1, r, l2, by rw [h1]; rfl, h2, by omega, fun x hx => ?_, h5⟩
        rcases List.mem_cons.mp hx with rfl | hx
        · exact h3
        · exact h4 x hx
    · have e : fmn b a = b := if_neg h
      rw [e]
      rcases ih b with ⟨h1, h2⟩ | ⟨l1, r, l2, h1, h2, h3, h4, h5⟩
      · refine Or.inl ⟨fun x hx => ?_, ?_⟩
        · rcases List.mem_cons.mp hx with rfl | hx
          · exact h
          · exact h1 x hx
        · show l.foldl fmn (fmn b a) = b
          rw [e]; exact h2
      · refine Or.inr ⟨a :: l1, r, l2, by rw [h1]; rfl, h2, h3, fun x hx => ?_, h5⟩
        rcases List.mem_cons.mp hx with rfl | hx
        · omega
        · exact h4 x hx
theorem mem_mats {c : Nat → Nat} {i n : Nat} {x : It} : x ∈ mats c i n ↔ ∃ m, 3 ≤ m ∧ m ≤ n ∧ x = (2 + c (i + m), true, m) := by
  unfold mats
  rw [List.mem_map]
  constructor
  · rintro ⟨m, h, rfl⟩
    have := (mem_dnl (by decide)).mp h
    exact ⟨m, this.1, this.2, rfl⟩
  · rintro ⟨m, h1, h2, rfl⟩
    exact ⟨m, (mem_dnl (by decide)).mpr ⟨h1, h2⟩, rfl⟩
theorem mem_plns {c : Nat → Nat} {i n : Nat} {x : It} : x ∈ plns c i n ↔ ∃ k, 1 ≤ k ∧ k ≤ n ∧ x = (1 + k + c (i + k), false, k) := by
  unfold plns
  rw [List.mem_map]
  constructor
  · rintro ⟨m, h, rfl⟩
    have := (mem_dnl (by decide)).mp h
    exact ⟨m, this.1, this.2, rfl⟩
  · rintro ⟨m, h1, h2, rfl⟩
    exact ⟨m, (mem_dnl (by decide)).mpr ⟨h1, h2⟩, rfl⟩
/-- in a falling list what is greater stands ahead -/
theorem dnl_before {f : Nat → It} (hf : ∀ x y, f x = f y → x = y) {lo : Nat} (h0 : 1 ≤ lo) : ∀ {n : Nat} {l1 l2 : List It} {k k' : Nat}, (dnl lo n).map f = l1 ++ f k :: l2 → k < k' → k' ≤ n → f k' ∈ l1 := by
  intro n
  induction n with
  | zero =>
    intro l1 l2 k k' h h1 h2
    have : ([] : List It) = l1 ++ f k :: l2 := h
    simp at this
  | succ n ih =>
    intro l1 l2 k k' h h1 h2
    by_cases hlo : n + 1 < lo
    · rw [dnl_lt hlo] at h
      simp at h
    · rw [dnl_ge (by omega) h0, Nat.add_sub_cancel, List.map_cons] at h
      cases l1 with
      | nil =>
        have e := hf _ _ (List.cons.inj h).1
        omega
      | cons a l1 =>
        obtain ⟨e1, e2⟩ := List.cons.inj h
        by_cases hk : k' = n + 1
        · subst hk; rw [e1]; exact List.mem_cons_self
        · exact List.mem_cons_of_mem _ (ih e2 h1 (by omega))
/-- what the best way is: one of them, no other has fewer, those ahead of it have more -/
theorem best_spec {c : Nat → Nat} {i L P : Nat} (hP : 1 ≤ P) (hc : c (i + 1) < 1000) :
    (∀ m, 3 ≤ m → m ≤ L → (best c i L P).1 ≤ 2 + c (i + m)) ∧ (∀ k, 1 ≤ k → k ≤ P → (best c i L P).1 ≤ 1 + k + c (i + k)) ∧
    ((∃ m, 3 ≤ m ∧ m ≤ L ∧ best c i L P = (2 + c (i + m), true, m) ∧ ∀ m', m < m' → m' ≤ L → 2 + c (i + m) < 2 + c (i + m')) ∨
     (∃ k, 1 ≤ k ∧ k ≤ P ∧ best c i L P = (1 + k + c (i + k), false, k) ∧ (∀ m, 3 ≤ m → m ≤ L → 1 + k + c (i + k) < 2 + c (i + m)) ∧ ∀ k', k < k' → k' ≤ P → 1 + k + c (i + k) < 1 + k' + c (i + k'))) := by
  have hone : ((1 + 1 + c (i + 1), false, 1) : It) ∈ cands c i L P := List.mem_append.mpr (Or.inr (mem_plns.mpr ⟨1, Nat.le_refl 1, hP, rfl⟩))
  rcases fmn_first (cands c i L P) (big, false, 0) with ⟨h1, -⟩ | ⟨l1, r, l2, h1, h2, h3, h4, h5⟩
  · have := h1 _ hone
    simp only [big] at this
    omega
  · have hb : best c i L P = r := h2
    have hmin : ∀ x ∈ cands c i L P, r.1 ≤ x.1 := by
      intro x hx
      rw [h1] at hx
      rcases List.mem_append.mp hx with q | q
      · exact Nat.le_of_lt (h4 x q)
      · rcases List.mem_cons.mp q with rfl | q
        · exact Nat.le_refl _
        · exact h5 x q
    have hr : r ∈ cands c i L P := by rw [h1]; exact List.mem_append.mpr (Or.inr List.mem_cons_self)
    refine ⟨fun m a b => ?_, fun k a b => ?_, ?_⟩
    · rw [hb]; exact hmin _ (List.mem_append.mpr (Or.inl (mem_mats.mpr ⟨m, a, b, rfl⟩)))
    · rw [hb]; exact hmin _ (List.mem_append.mpr (Or.inr (mem_plns.mpr ⟨k, a, b, rfl⟩)))
    · rw [hb]
      -- whether r lies among the matches or the plain ones
      unfold cands at h1
      rcases List.append_eq_append_iff.mp h1 with ⟨z, e1, e2⟩ | ⟨z, e1, e2⟩
      · -- l1 = mats ++ z, plns = z ++ r :: l2
        right
        have hrp : r ∈ plns c i P := by rw [e2]; exact List.mem_append.mpr (Or.inr List.mem_cons_self)
        obtain ⟨k, a, b, rfl⟩ := mem_plns.mp hrp
        refine ⟨k, a, b, rfl, fun m a1 b1 => ?_, fun k' hk hk' => ?_⟩
        · exact h4 _ (by rw [e1]; exact List.mem_append.mpr (Or.inl (mem_mats.mpr ⟨m, a1, b1, rfl⟩)))
        · refine h4 (1 + k' + c (i + k'), false, k') (by rw [e1]; refine List.mem_append.mpr (Or.inr ?_); exact dnl_before (f := fun k => (1 + k + c (i + k), false, k)) (fun x y h => by simpa using congrArg (fun z : It => z.2.2) h) (by decide) e2 hk hk')
      · -- mats = l1 ++ z, z ++ plns = r :: l2
        cases z with
        | nil =>
          right
          have e3 : plns c i P = r :: l2 := by simpa using e2.symm
          have hrp : r ∈ plns c i P := by rw [e3]; exact List.mem_cons_self
          obtain ⟨k, a, b, rfl⟩ := mem_plns.mp hrp
          refine ⟨k, a, b, rfl, fun m a1 b1 => ?_, fun k' hk hk' => ?_⟩
          · refine h4 (2 + c (i + m), true, m) ?_
            have : (2 + c (i + m), true, m) ∈ mats c i L := mem_mats.mpr ⟨m, a1, b1, rfl⟩
            rw [e1, List.append_nil] at this
            exact this
          · have := dnl_before (f := fun k => (1 + k + c (i + k), false, k)) (l1 := []) (fun x y h => by simpa using congrArg (fun z : It => z.2.2) h) (by decide) e3 hk hk'
            exact (List.not_mem_nil this).elim
        | cons w z =>
          left
          have e3 : r = w := by simpa using (List.cons.inj e2).1
          subst e3
          have hrm : r ∈ mats c i L := by rw [e1]; exact List.mem_append.mpr (Or.inr List.mem_cons_self)
          obtain ⟨m, a, b, rfl⟩ := mem_mats.mp hrm
          refine ⟨m, a, b, rfl, fun m' hm hm' => ?_⟩
          exact h4 (2 + c (i + m'), true, m') (dnl_before (f := fun m => (2 + c (i + m), true, m)) (fun x y h => by simpa using congrArg (fun z : It => z.2.2) h) (by decide) e1 hm hm')
