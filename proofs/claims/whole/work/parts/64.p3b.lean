/-! PURE: costs and choices; the class's measure -/
theorem map_congr_dnl {lo n : Nat} {f g : Nat → It} (h0 : 1 ≤ lo) (h : ∀ x, lo ≤ x → x ≤ n → f x = g x) : (dnl lo n).map f = (dnl lo n).map g :=
  List.map_congr_left fun x hx => by have := (mem_dnl h0).mp hx; exact h x this.1 this.2
theorem mats_congr {c c' : Nat → Nat} {i n : Nat} (h : ∀ m, 3 ≤ m → m ≤ n → c (i + m) = c' (i + m)) : mats c i n = mats c' i n :=
  map_congr_dnl (by decide) fun x h1 h2 => by rw [h x h1 h2]
theorem plns_congr {c c' : Nat → Nat} {i n : Nat} (h : ∀ m, 1 ≤ m → m ≤ n → c (i + m) = c' (i + m)) : plns c i n = plns c' i n :=
  map_congr_dnl (by decide) fun x h1 h2 => by rw [h x h1 h2]
theorem best_congr2 {c c' : Nat → Nat} {i L P : Nat} (h1 : ∀ m, 3 ≤ m → m ≤ L → c (i + m) = c' (i + m)) (h2 : ∀ m, 1 ≤ m → m ≤ P → c (i + m) = c' (i + m)) : best c i L P = best c' i L P := by
  unfold best cands
  rw [mats_congr h1, plns_congr h2]
theorem best_congr {c c' : Nat → Nat} {i L P : Nat} (h : ∀ j, i < j → c j = c' j) : best c i L P = best c' i L P :=
  best_congr2 (fun m h1 _ => h (i + m) (by omega)) (fun m h1 _ => h (i + m) (by omega))
/-- the best way at place i of the text, the costs behind it being c -/
def bestAt (R : Nat → Nat) (A n : Nat) (c : Nat → Nat) (i : Nat) : It := best c i (LM R (A + i) (min 9 (n - i))) (min 32 (n - i))
/-- from k on: costs and choices are those of the best ways -/
def Cst (R : Nat → Nat) (A n k : Nat) (c : Nat → Nat) (ch : Nat → Bool × Nat) : Prop := c n = 0 ∧ ∀ i, k ≤ i → i < n → bestAt R A n c i = (c i, ch i)
def updN {α : Type} (f : Nat → α) (k : Nat) (x : α) : Nat → α := fun j => if j = k then x else f j
theorem updN_s {α : Type} {f : Nat → α} {k : Nat} {x : α} : updN f k x k = x := if_pos rfl
theorem updN_n {α : Type} {f : Nat → α} {k j : Nat} {x : α} (h : j ≠ k) : updN f k x j = f j := if_neg h
theorem Cst.step {R : Nat → Nat} {A n k : Nat} {c : Nat → Nat} {ch : Nat → Bool × Nat} (h : Cst R A n (k + 1) c ch) (hk : k < n) : Cst R A n k (updN c k (bestAt R A n c k).1) (updN ch k (bestAt R A n c k).2) := by
  refine ⟨?_, fun i h1 h2 => ?_⟩
  · rw [updN_n (by omega)]; exact h.1
  · have hcg : bestAt R A n (updN c k (bestAt R A n c k).1) i = bestAt R A n c i := best_congr fun j hj => updN_n (by omega)
    rw [hcg]
    by_cases e : i = k
    · subst e; rw [updN_s, updN_s]
    · rw [updN_n e, updN_n e]; exact h.2 i (by omega) h2
def runC (R : Nat → Nat) (A n : Nat) : Nat → (Nat → Nat) × (Nat → Bool × Nat)
  | 0 => (fun _ => 0, fun _ => (false, 0))
  | k + 1 => (updN (runC R A n k).1 (n - 1 - k) (bestAt R A n (runC R A n k).1 (n - 1 - k)).1, updN (runC R A n k).2 (n - 1 - k) (bestAt R A n (runC R A n k).1 (n - 1 - k)).2)
theorem runC_cst (R : Nat → Nat) (A n : Nat) : ∀ k, k ≤ n → Cst R A n (n - k) (runC R A n k).1 (runC R A n k).2 := by
  intro k
  induction k with
  | zero => intro _; exact ⟨rfl, fun i h1 h2 => by omega⟩
  | succ k ih =>
    intro hk
    have h := ih (by omega)
    rw [show n - k = (n - (k + 1)) + 1 by omega] at h
    have := h.step (k := n - (k + 1)) (by omega)
    rw [show n - (k + 1) = n - 1 - k by omega] at this ⊢
    exact this
/-- costs and choices of the whole text -/
def cF (R : Nat → Nat) (A n : Nat) : Nat → Nat := (runC R A n n).1
def chF (R : Nat → Nat) (A n : Nat) : Nat → Bool × Nat := (runC R A n n).2
theorem cF_cst (R : Nat → Nat) (A n : Nat) : Cst R A n 0 (cF R A n) (chF R A n) := by
  have := runC_cst R A n n (Nat.le_refl n)
  rw [Nat.sub_self] at this
  exact this
theorem Cst.bound {R : Nat → Nat} {A n k : Nat} {c : Nat → Nat} {ch : Nat → Bool × Nat} (h : Cst R A n k c ch) (hn : n ≤ 200) : ∀ d i, i + d = n → k ≤ i → c i ≤ 2 * (n - i) := by
  intro d
  induction d with
  | zero =>
    intro i hi _
    have : i = n := by omega
    subst this
    rw [h.1]; omega
  | succ d ih =>
    intro i hi hk
    have h1 := ih (i + 1) (by omega) (by omega)
    have hs := best_spec (c := c) (i := i) (L := LM R (A + i) (min 9 (n - i))) (P := min 32 (n - i)) (by omega) (by omega)
    have h2 := hs.2.1 1 (Nat.le_refl 1) (by omega)
    clear hs
    have h3 : best c i (LM R (A + i) (min 9 (n - i))) (min 32 (n - i)) = (c i, ch i) := h.2 i hk (by omega)
    rw [h3] at h2
    show c i ≤ _
    have h4 : c i ≤ 1 + 1 + c (i + 1) := h2
    omega
/-- fewer bytes than one ahead of each 32 -/
theorem Cst.bound32 {R : Nat → Nat} {A n k : Nat} {c : Nat → Nat} {ch : Nat → Bool × Nat} (h : Cst R A n k c ch) (hn : n ≤ 200) : ∀ d i, n - i ≤ d → i ≤ n → k ≤ i → c i ≤ (n - i) + (n - i + 31) / 32 := by
  intro d
  induction d with
  | zero =>
    intro i hi h2 _
    have : i = n := by omega
    subst this
    rw [h.1]; omega
  | succ d ih =>
    intro i hi hin hk
    by_cases he : i = n
    · subst he; rw [h.1]; omega
    · have h1 := ih (i + min 32 (n - i)) (by omega) (by omega) (by omega)
      have hb := h.bound hn (n - (i + 1)) (i + 1) (by omega) (by omega)
      have hs := best_spec (c := c) (i := i) (L := LM R (A + i) (min 9 (n - i))) (P := min 32 (n - i)) (by omega) (by omega)
      have h2 := hs.2.1 (min 32 (n - i)) (by omega) (Nat.le_refl _)
      clear hs
      have h3 : best c i (LM R (A + i) (min 9 (n - i))) (min 32 (n - i)) = (c i, ch i) := h.2 i hk (by omega)
      rw [h3] at h2
      have h4 : c i ≤ 1 + min 32 (n - i) + c (i + min 32 (n - i)) := h2
      omega
/-- the costs are determined -/
theorem cst_unique {R : Nat → Nat} {A n k : Nat} {c c' : Nat → Nat} (h : c n = 0 ∧ ∀ i, k ≤ i → i < n → (bestAt R A n c i).1 = c i) (h' : c' n = 0 ∧ ∀ i, k ≤ i → i < n → (bestAt R A n c' i).1 = c' i) : ∀ d i, i + d = n → k ≤ i → ∀ j, i ≤ j → j ≤ n → c j = c' j := by
  intro d
  induction d with
  | zero =>
    intro i hi _ j h1 h2
    have : j = n := by omega
    subst this
    rw [h.1, h'.1]
  | succ d ih =>
    intro i hi hk j h1 h2
    have h3 := ih (i + 1) (by omega) (by omega)
    by_cases e : j = i
    · subst e
      rw [← h.2 j hk (by omega), ← h'.2 j hk (by omega)]
      have hL := LM_le R (A + j) (min 9 (n - j))
      have : bestAt R A n c j = bestAt R A n c' j := best_congr2 (fun x a b => h3 (j + x) (by omega) (by omega)) (fun x a b => h3 (j + x) (by omega) (by omega))
      rw [this]
    · exact h3 j (by omega) h2
def enc (x : Bool × Nat) : Int32 := if x.1 = true then nI x.2 else 0 - nI x.2
theorem upd_upd_ne {f : Nat → Int32} {k j : Nat} {x y : Int32} : upd f k x j = (if j = k then x else f j) := rfl
/-- one loop of tries, from n down to lo: what stands at i is the best so far -/
def Tr (i : Nat) (b : It) (cost choice : Nat → Int32) : Prop := cost i = nI b.1 ∧ b.1 ≤ big ∧ (b.1 < big → choice i = enc b.2)
theorem sX3_tryMatches_loop {n i : Nat} {c : Nat → Nat} (hn : n ≤ 200) (hc : ∀ j, i < j → j ≤ n → c j < 1000) {K : (Nat → Int32) → (Nat → Int32) → Int32 → Prop} : ∀ (m : Nat) (b : It) (cost choice : Nat → Int32), i + m ≤ n → i < n → Tr i b cost choice → (∀ j, i < j → j ≤ n → cost j = nI (c j)) →
    (∀ cost' choice' v, Tr i ((mats c i m).foldl fmn b) cost' choice' → (∀ j, j ≠ i → cost' j = cost j) → (∀ j, j ≠ i → choice' j = choice j) → K cost' choice' v) → wX3_tryMatches_6 (nI i) K (m + 1) cost choice (nI m) := by
  intro m
  induction m with
  | zero =>
    intro b cost choice h1 hi hT hcs hK
    exact ⟨fun _ => hK _ _ _ hT (fun _ _ => rfl) (fun _ _ => rfl), fun q => absurd (by decide) q⟩
  | succ m ih =>
    intro b cost choice h1 hi hT hcs hK
    by_cases h3 : m + 1 < 3
    · refine ⟨fun _ => hK _ _ _ ?_ (fun _ _ => rfl) (fun _ _ => rfl), fun q => absurd (by rw [show (3 : Int32) = nI 3 from rfl]; exact nI_lt h3 (by decide)) q⟩
      unfold mats; rw [dnl_lt h3]; exact hT
    · have hx := hcs (i + (m + 1)) (by omega) (by omega)
      have hcx := hc (i + (m + 1)) (by omega) (by omega)
      have hb : big = 2147483647 := rfl
      obtain ⟨t1, t2, t3⟩ := hT
      have hfold : (mats c i (m + 1)).foldl fmn b = (mats c i m).foldl fmn (fmn b (2 + c (i + (m + 1)), true, m + 1)) := by
        unfold mats
        rw [dnl_ge (n := m + 1) (by omega) (by decide), Nat.add_sub_cancel]
        rfl
      refine ⟨fun q => absurd (by rw [show (3 : Int32) = nI 3 from rfl, nI_ltI (by omega) (by decide)] at q; exact q) h3, fun _ => ?_⟩
      rw [nI_add, nI_clamp (by omega), nI_clamp (by omega), t1, hx, show (2 : Int32) = nI 2 from rfl, nI_add, nI_leI (by omega) (by omega)]
      refine ⟨vp_in_nI (by omega) (by omega), vp_in_nI (by omega) (by omega), fun q y hy => ?_, fun q => ⟨vp_in_nI (by omega) (by omega), vp_in_nI (by omega) (by omega), vp_in_nI (by omega) (by omega), fun y hy => ?_⟩⟩
      · rw [hy, pk_m1]
        have e : fmn b (2 + c (i + (m + 1)), true, m + 1) = b := if_neg (by show ¬ 2 + c (i + (m + 1)) < b.1; omega)
        rw [hfold, e] at hK
        exact ih b cost choice (by omega) hi ⟨t1, t2, t3⟩ hcs hK
      · rw [hy, pk_m1]
        have e : fmn b (2 + c (i + (m + 1)), true, m + 1) = (2 + c (i + (m + 1)), true, m + 1) := if_pos (by show 2 + c (i + (m + 1)) < b.1; omega)
        rw [hfold, e] at hK
        refine ih (2 + c (i + (m + 1)), true, m + 1) _ _ (by omega) hi ⟨pk_us, by show 2 + c (i + (m + 1)) ≤ big; omega, fun _ => ?_⟩ (fun j a b => ?_) (fun cost' choice' v a1 a2 a3 => hK cost' choice' v a1 (fun j hj => ?_) (fun j hj => ?_))
        · rw [pk_us]; rfl
        · rw [pk_un (by omega)]; exact hcs j a b
        · rw [a2 j hj, pk_un hj]
        · rw [a3 j hj, pk_un hj]
theorem sX3_tryPlain_loop {n i : Nat} {c : Nat → Nat} (hn : n ≤ 200) (hc : ∀ j, i < j → j ≤ n → c j < 1000) {K : (Nat → Int32) → (Nat → Int32) → Int32 → Prop} : ∀ (m : Nat) (b : It) (cost choice : Nat → Int32), i + m ≤ n → i < n → Tr i b cost choice → (∀ j, i < j → j ≤ n → cost j = nI (c j)) →
    (∀ cost' choice' v, Tr i ((plns c i m).foldl fmn b) cost' choice' → (∀ j, j ≠ i → cost' j = cost j) → (∀ j, j ≠ i → choice' j = choice j) → K cost' choice' v) → wX3_tryPlain_12 (nI i) K (m + 1) cost choice (nI m) := by
  intro m
  induction m with
  | zero =>
    intro b cost choice h1 hi hT hcs hK
    exact ⟨fun _ => hK _ _ _ hT (fun _ _ => rfl) (fun _ _ => rfl), fun q => absurd (by decide) q⟩
  | succ m ih =>
    intro b cost choice h1 hi hT hcs hK
    have hx := hcs (i + (m + 1)) (by omega) (by omega)
    have hcx := hc (i + (m + 1)) (by omega) (by omega)
    have hb : big = 2147483647 := rfl
    obtain ⟨t1, t2, t3⟩ := hT
    have hfold : (plns c i (m + 1)).foldl fmn b = (plns c i m).foldl fmn (fmn b (1 + (m + 1) + c (i + (m + 1)), false, m + 1)) := by
      unfold plns
      rw [dnl_ge (n := m + 1) (by omega) (by decide), Nat.add_sub_cancel]
      rfl
    refine ⟨fun q => absurd (by rw [show (1 : Int32) = nI 1 from rfl, nI_ltI (by omega) (by decide)] at q; exact q) (by omega), fun _ => ?_⟩
    rw [nI_add, nI_clamp (by omega), nI_clamp (by omega), t1, hx, show (1 : Int32) = nI 1 from rfl, nI_add, nI_add, nI_leI (by omega) (by omega)]
    refine ⟨vp_in_nI (by omega) (by omega), vp_in_nI (by omega) (by omega), fun q y hy => ?_, fun q => ⟨vp_in_nI (by omega) (by omega), vp_in_nI (by omega) (by omega), vp_in_nI (by omega) (by omega), fun y hy => ?_⟩⟩
    · rw [hy, show -nI 1 = (-1 : Int32) from rfl, pk_m1]
      have e : fmn b (1 + (m + 1) + c (i + (m + 1)), false, m + 1) = b := if_neg (by show ¬ 1 + (m + 1) + c (i + (m + 1)) < b.1; omega)
      rw [hfold, e] at hK
      exact ih b cost choice (by omega) hi ⟨t1, t2, t3⟩ hcs hK
    · rw [hy, show -nI 1 = (-1 : Int32) from rfl, pk_m1]
      have e : fmn b (1 + (m + 1) + c (i + (m + 1)), false, m + 1) = (1 + (m + 1) + c (i + (m + 1)), false, m + 1) := if_pos (by show 1 + (m + 1) + c (i + (m + 1)) < b.1; omega)
      rw [hfold, e] at hK
      refine ih (1 + (m + 1) + c (i + (m + 1)), false, m + 1) _ _ (by omega) hi ⟨pk_us, by show 1 + (m + 1) + c (i + (m + 1)) ≤ big; omega, fun _ => ?_⟩ (fun j a b => ?_) (fun cost' choice' v a1 a2 a3 => hK cost' choice' v a1 (fun j hj => ?_) (fun j hj => ?_))
      · rw [pk_us]; rfl
      · rw [pk_un (by omega)]; exact hcs j a b
      · rw [a2 j hj, pk_un hj]
      · rw [a3 j hj, pk_un hj]
/-- one place of the text: matches, then plain bytes -/
theorem sX3_place {f E : Nat → Int32} {row : List Nat} (hJ : JJ f row) (hr : row.length ≤ 280) (hE : EarOK E (rowF row) row.length) {A n i : Nat} (hT : A + n = row.length) (hn : n ≤ 200) (hi : i < n) {c : Nat → Nat} (hc : ∀ j, i < j → j ≤ n → c j < 1000) {cost choice : Nat → Int32} (hcs : ∀ j, i < j → j ≤ n → cost j = nI (c j)) {post : (Nat → Int32) → (Nat → Int32) → Prop}
    (hp : ∀ cost' choice', cost' i = nI (bestAt (rowF row) A n c i).1 → choice' i = enc (bestAt (rowF row) A n c i).2 → (∀ j, j ≠ i → cost' j = cost j) → (∀ j, j ≠ i → choice' j = choice j) → post cost' choice') :
    wX3_tryMatches (nI A) (nI n) f E (upd cost (nI i).toNatClampNeg 2147483647) choice (nI i) (fun s15 s16 => wX3_tryPlain (nI n) s15 s16 (nI i) post) := by
  rw [nI_clamp (by omega)]
  refine sX3_longestMatch hJ hr hE hT hi ?_
  have hL := LM_le (rowF row) (A + i) (min 9 (n - i))
  refine ⟨_, sX3_tryMatches_loop hn hc _ (big, false, 0) _ _ (by omega) hi ⟨pk_us, Nat.le_refl _, fun h => absurd h (Nat.lt_irrefl _)⟩ (fun j a b => by rw [pk_un (by omega)]; exact hcs j a b) fun cost1 choice1 v1 t1 a1 a2 => ?_⟩
  intro y1 hy1
  rw [pk_sub (by omega), show (32 : Int32) = nI 32 from rfl, min_nI (by omega) (by omega)] at hy1
  subst hy1
  refine ⟨_, sX3_tryPlain_loop hn hc _ _ _ _ (by omega) hi t1 (fun j a b => by rw [a1 j (by omega), pk_un (by omega)]; exact hcs j a b) fun cost2 choice2 v2 t2 b1 b2 => ?_⟩
  have e : (plns c i (min 32 (n - i))).foldl fmn ((mats c i (LM (rowF row) (A + i) (min 9 (n - i)))).foldl fmn (big, false, 0)) = bestAt (rowF row) A n c i := by
    unfold bestAt best cands
    rw [List.foldl_append]
  rw [e] at t2
  have hs := best_spec (c := c) (i := i) (L := LM (rowF row) (A + i) (min 9 (n - i))) (P := min 32 (n - i)) (by omega) (hc (i + 1) (by omega) (by omega))
  have hlt : (bestAt (rowF row) A n c i).1 < big := by
    have h2 := hs.2.1 1 (Nat.le_refl 1) (by omega)
    have h3 := hc (i + 1) (by omega) (by omega)
    have hb : big = 2147483647 := rfl
    show (best c i _ _).1 < big
    omega
  exact hp cost2 choice2 t2.1 (t2.2.2 hlt) (fun j hj => by rw [b1 j hj, a1 j hj, pk_un hj]) (fun j hj => by rw [b2 j hj, a2 j hj])
theorem sub1_eq (x : Int32) : x + (-1) = x - 1 := by
  apply Int32.toBitVec_inj.mp
  show x.toBitVec + (-1 : Int32).toBitVec = x.toBitVec - (1 : Int32).toBitVec
  rw [BitVec.sub_eq_add_neg]
  rfl
theorem JJ_app {f : Nat → Int32} {ws ts : List Nat} (hw : ∀ x ∈ ws, x < 256) (ht : ∀ x ∈ ts, x < 256) (h1 : ∀ j, j < ws.length → f j = sb_b (ws.getD j 0)) (h2 : ∀ j, j < ts.length → f (ws.length + j) = sb_b (ts.getD j 0)) : JJ f (ws ++ ts) := by
  refine ⟨fun x hx => (List.mem_append.mp hx).elim (hw x) (ht x), fun j hj => ?_⟩
  rw [List.length_append] at hj
  by_cases h : j < ws.length
  · rw [getD_app_lt h]; exact h1 j h
  · rw [getD_app_ge (by omega)]
    have := h2 (j - ws.length) (by omega)
    rw [show ws.length + (j - ws.length) = j by omega] at this
    exact this
/-- how many bytes ts has, packed by ws -/
def packN (ws ts : List Nat) : Nat := 4 + cF (rowF (ws ++ ts)) ws.length ts.length 0
/-- what the packer's arrays hold behind a measure -/
def PkOK (joined E cost choice : Nat → Int32) (ws ts : List Nat) : Prop :=
  JJ joined (ws ++ ts) ∧ EarOK E (rowF (ws ++ ts)) (ws ++ ts).length ∧ (∀ j, j ≤ ts.length → cost j = nI (cF (rowF (ws ++ ts)) ws.length ts.length j)) ∧ ∀ j, j < ts.length → choice j = enc (chF (rowF (ws ++ ts)) ws.length ts.length j)
theorem sX3_measure {capt capw : Nat} {j0 E0 L0 c0 h0 tf wf : Nat → Int32} {tl wl : Int32} {ts ws : List Nat} (ht : RR capt tf tl ts) (hw : RR capw wf wl ws) (hA : ws.length ≤ 80) (hn : ts.length ≤ 200) {post : Int32 → Int32 → Int32 → (Nat → Int32) → (Nat → Int32) → (Nat → Int32) → (Nat → Int32) → (Nat → Int32) → Prop}
    (hp : ∀ joined E L cost choice, PkOK joined E cost choice ws ts → post (nI (packN ws ts)) (nI ws.length) (nI ts.length) joined E L cost choice) : wX3_measure capt capw j0 E0 L0 c0 h0 tl tf wl wf post := by
  refine sX4_copyTo (pl := 0) hw (by omega) (by omega) fun j1 a1 a2 => ?_
  rw [Nat.zero_add]
  refine sX4_copyTo ht (by omega) (by omega) fun j2 b1 b2 => ?_
  intro y5 h5
  rw [pk_sub (by omega), Nat.add_sub_cancel_left, show (200 : Int32) = nI 200 from rfl, if_neg (nI_nlt hn (by omega))] at h5
  subst h5
  have hJ : JJ j2 (ws ++ ts) := JJ_app hw.2.2.2.1 ht.2.2.2.1 (fun j hj => by rw [b1 j hj]; have := a2 j hj; rw [Nat.zero_add] at this; exact this) b2
  have hlen : ws.length + ts.length = (ws ++ ts).length := by rw [List.length_append]
  have hr : (ws ++ ts).length ≤ 280 := by omega
  refine sX3_link hJ hr hlen fun E L hE => ⟨vp_in_nI (by omega) (by omega), fun y9 h9 => ?_⟩
  rw [nI_clamp (by omega)]
  have key : ∀ k v c ch cost choice, v = nI k - 1 → k ≤ ts.length → Cst (rowF (ws ++ ts)) ws.length ts.length k c ch → (∀ j, k ≤ j → j ≤ ts.length → cost j = nI (c j)) → (∀ j, k ≤ j → j < ts.length → choice j = enc (ch j)) →
      wX3_measure_61 (nI ws.length) (nI ts.length) j2 E (fun s10 s11 _ => vp_in (0 : Int32) 201 ∧ post (4 + s10 (0 : Int32).toNatClampNeg) (nI ws.length) (nI ts.length) j2 E L s10 s11) (k + 1) cost choice v := by
    intro k
    induction k with
    | zero =>
      intro v c ch cost choice hv hk hC h1 h2
      subst hv
      refine ⟨fun _ => ⟨by rw [show (0 : Int32) = nI 0 from rfl]; exact vp_in_nI (by decide) (by decide), ?_⟩, fun q => absurd (by decide) q⟩
      have e : ∀ j, j ≤ ts.length → c j = cF (rowF (ws ++ ts)) ws.length ts.length j := fun j hj => cst_unique (k := 0) ⟨hC.1, fun i a b => by rw [hC.2 i a b]⟩ ⟨(cF_cst _ _ _).1, fun i a b => by rw [(cF_cst _ _ _).2 i a b]⟩ ts.length 0 (by omega) (Nat.le_refl 0) j (Nat.zero_le j) hj
      have e2 : ∀ j, j < ts.length → ch j = chF (rowF (ws ++ ts)) ws.length ts.length j := fun j hj => by
        have h3 := hC.2 j (Nat.zero_le j) hj
        have h4 := (cF_cst (rowF (ws ++ ts)) ws.length ts.length).2 j (Nat.zero_le j) hj
        have hL := LM_le (rowF (ws ++ ts)) (ws.length + j) (min 9 (ts.length - j))
        have h5 : bestAt (rowF (ws ++ ts)) ws.length ts.length c j = bestAt (rowF (ws ++ ts)) ws.length ts.length (cF (rowF (ws ++ ts)) ws.length ts.length) j := best_congr2 (fun x a b => e (j + x) (by omega)) (fun x a b => e (j + x) (by omega))
        rw [h3, h4] at h5
        exact (Prod.mk.inj h5).2
      have h00 : (0 : Int32).toNatClampNeg = 0 := by decide
      rw [h00, h1 0 (Nat.le_refl 0) (Nat.zero_le _), e 0 (Nat.zero_le _), show (4 : Int32) = nI 4 from rfl, nI_add]
      exact hp j2 E L cost choice ⟨hJ, hE, fun j hj => by rw [h1 j (Nat.zero_le j) hj, e j hj], fun j hj => by rw [h2 j (Nat.zero_le j) hj, e2 j hj]⟩
    | succ k ih =>
      intro v c ch cost choice hv hk hC h1 h2
      rw [nI_pred] at hv
      subst hv
      have hcb : ∀ j, k < j → j ≤ ts.length → c j < 1000 := fun j a b => by
        have := hC.bound hn (ts.length - j) j (by omega) (by omega)
        omega
      refine ⟨fun q => absurd q (nI_pos (by omega)), fun _ => ⟨vp_in_nI (by omega) (by omega), ?_⟩⟩
      refine sX3_place hJ hr hE hlen hn (by omega) hcb (fun j a b => h1 j (by omega) b) fun cost' choice' d1 d2 d3 d4 y19 h19 => ?_
      refine ih y19 _ _ cost' choice' (by rw [h19, sub1_eq]) (by omega) (hC.step (by omega)) (fun j a b => ?_) (fun j a b => ?_)
      · by_cases e : j = k
        · subst e; rw [d1, updN_s]
        · rw [d3 j e, updN_n e]; exact h1 j (by omega) b
      · by_cases e : j = k
        · subst e; rw [d2, updN_s]
        · rw [d4 j e, updN_n e]; exact h2 j (by omega) b
  refine ⟨ts.length + 1, key ts.length y9 (fun _ => 0) (fun _ => (false, 0)) _ _ h9 (Nat.le_refl _) ⟨rfl, fun i a b => by omega⟩ (fun j a b => ?_) (fun j a b => by omega)⟩
  have : j = ts.length := by omega
  subst this
  rw [pk_us]; rfl
