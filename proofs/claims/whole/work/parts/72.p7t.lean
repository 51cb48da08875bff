/-! PURE: the reference's training -/
/-- is the number within bounds, as an int compared as a long -/
theorem sX7_in {x : Int32} {a b : Int64} {post : Int32 → Prop} (h1 : (a.toInt ≤ x.toInt ∧ x.toInt ≤ b.toInt) → post 1) (h0 : ¬ (a.toInt ≤ x.toInt ∧ x.toInt ≤ b.toInt) → post 0) : wX7_in x.toInt64 a b post := by
  unfold wX7_in
  rw [lg_cmp_lt, lg_cmp_gt, Int64.lt_iff_toInt_lt, Int64.lt_iff_toInt_lt, Int32.toInt_toInt64]
  exact ⟨fun c => h0 (by omega), fun c => ⟨fun c2 => h0 (by omega), fun c2 => h1 (by omega)⟩⟩
theorem nar_b1 : narrow .boolean (.int 1) = .int 1 := rfl
theorem nar_b0 : narrow .boolean (.int 0) = .int 0 := rfl
theorem MS.byte {sl sb : Nat → Int32} {ss : List (List Nat)} (h : MS sl sb ss) {n i t : Nat} (hv : Vp ss n i) (ht : t < n) : sb (i + t) = nI (Bp ss (i + t)) := by
  obtain ⟨h1, h2⟩ := hv
  obtain ⟨-, -, h3, -, h4⟩ := h.2 (i / 40) h1
  have := h4 (i % 40 + t) (by omega)
  rw [show 40 * (i / 40) + (i % 40 + t) = i + t by omega] at this
  rw [this]
  unfold Bp
  rw [show (i + t) / 40 = i / 40 by omega, show (i + t) % 40 = i % 40 + t by omega]
theorem MS.sok {sl sb : Nat → Int32} {ss : List (List Nat)} (h : MS sl sb ss) {n : Nat} (h2 : 2 ≤ n) (h8 : n ≤ 8) : SOK ss n := by
  refine ⟨h.1, fun s => ?_, fun s => ?_, h2, h8⟩
  · by_cases hs : s < ss.length
    · exact (h.2 s hs).2.2.1
    · rw [List.getD_eq_getElem?_getD, List.getElem?_eq_none (by omega)]; simp
  · by_cases hs : s < ss.length
    · exact (h.2 s hs).2.2.2.1
    · rw [List.getD_eq_getElem?_getD, List.getElem?_eq_none (by omega)]; simp
theorem sX7_areAlike {sl sb : Nat → Int32} {ss : List (List Nat)} (h : MS sl sb ss) {n i j : Nat} (hS : SOK ss n) (hi : Vp ss n i) (hj : Vp ss n j) {post : Int32 → Prop} (h1 : rEq ss n i j → post 1) (h0 : ¬ rEq ss n i j → post 0) : wX7_areAlike sb (nI i) (nI j) (nI n) post := by
  obtain ⟨s1, s2, s3, s4, s5⟩ := id hS
  have bi := (hi.bd s2 s1).1
  have bj := (hj.bd s2 s1).1
  have key : ∀ d t, t + d = n → (∀ t', t' < t → Bp ss (i + t') = Bp ss (j + t')) → wX7_areAlike_6 sb (nI i) (nI j) (nI n) (fun y _ => narrow .boolean (.int y) = .int y ∧ post y) (d + 1) 1 (nI t) := by
    intro d
    induction d with
    | zero =>
      intro t ht he
      have : t = n := by omega
      subst this
      exact ⟨fun _ => ⟨rfl, h1 he⟩, fun c => absurd (nI_le (Nat.le_refl _) (by omega)) c⟩
    | succ d ih =>
      intro t ht he
      refine ⟨fun c => absurd c (nI_ge (by omega) (by omega)), fun _ => ⟨fun c => absurd c (by decide), fun _ => ?_⟩⟩
      have b1 := hS.B (i + t)
      have b2 := hS.B (j + t)
      rw [nI_add, nI_add, nI_clamp (by omega), nI_clamp (by omega), h.byte hi (by omega), h.byte hj (by omega), nI_eq (by omega) (by omega)]
      refine ⟨vp_in_nI (by omega) (by omega), vp_in_nI (by omega) (by omega), fun c y hy => ?_, fun c y hy => ?_⟩
      · have hno : ¬ rEq ss n i j := fun z => c (z t (by omega))
        cases d with
        | zero =>
          rw [hy, nI_1]
          exact ⟨fun _ => ⟨rfl, h0 hno⟩, fun c2 => absurd (nI_le (by omega) (by omega)) c2⟩
        | succ d => exact ⟨fun _ => ⟨rfl, h0 hno⟩, fun _ => ⟨fun _ => ⟨rfl, h0 hno⟩, fun c2 => absurd rfl c2⟩⟩
      · rw [hy, nI_1]
        refine ih (t + 1) (by omega) (fun t' h' => ?_)
        by_cases e : t' = t
        · subst e; exact c
        · exact he t' (by omega)
  exact ⟨_, key n 0 (by omega) (fun t' h' => absurd h' (Nat.not_lt_zero t'))⟩
theorem i40i {s p t : Nat} : ((40 : Int32) * nI s + nI p) + nI t = nI (40 * s + p + t) := by rw [i40, nI_add]
theorem sX7_isOpen {sl sb cov : Nat → Int32} {ss : List (List Nat)} (h : MS sl sb ss) {n s p : Nat} (hS : SOK ss n) (hs : s < ss.length) (hp : p + n ≤ (ss.getD s []).length) {C : Nat → Bool} (hC : CV cov C) {post : Int32 → Prop} (h1 : Fr ss n C (40 * s + p) → post 1) (h0 : ¬ Fr ss n C (40 * s + p) → post 0) : wX7_isOpen sl cov (nI s) (nI p) (nI n) post := by
  obtain ⟨s1, s2, s3, s4, s5⟩ := id hS
  have hlen := s2 s
  have hv : Vp ss n (40 * s + p) := ⟨by omega, by rw [show (40 * s + p) / 40 = s by omega]; omega⟩
  refine ⟨vp_in_nI (by omega) (by omega), ?_⟩
  rw [nI_clamp (by omega), (h.2 s hs).1, nI_add, nI_ltI (by omega) (by omega)]
  refine ⟨fun c => absurd c (by omega), fun _ => ?_⟩
  have key : ∀ d t, t + d = n → (∀ t', t' < t → C (40 * s + p + t') = false) → wX7_isOpen_22 cov (nI s) (nI p) (nI n) (fun y _ => narrow .boolean (.int y) = .int y ∧ post y) (d + 1) 1 (nI t) := by
    intro d
    induction d with
    | zero =>
      intro t ht he
      have : t = n := by omega
      subst this
      exact ⟨fun _ => ⟨rfl, h1 ⟨hv, he⟩⟩, fun c => absurd (nI_le (Nat.le_refl _) (by omega)) c⟩
    | succ d ih =>
      intro t ht he
      refine ⟨fun c => absurd c (nI_ge (by omega) (by omega)), fun _ => ⟨fun c => absurd c (by decide), fun _ => ?_⟩⟩
      rw [i40i, nI_clamp (by omega), hC _ (by omega), b01_0]
      refine ⟨vp_in_nI (by omega) (by omega), fun c y hy => ?_, fun c y hy => ?_⟩
      · have hno : ¬ Fr ss n C (40 * s + p) := fun z => c (z.2 t (by omega))
        cases d with
        | zero =>
          rw [hy, nI_1]
          exact ⟨fun _ => ⟨rfl, h0 hno⟩, fun c2 => absurd (nI_le (by omega) (by omega)) c2⟩
        | succ d => exact ⟨fun _ => ⟨rfl, h0 hno⟩, fun _ => ⟨fun _ => ⟨rfl, h0 hno⟩, fun c2 => absurd rfl c2⟩⟩
      · rw [hy, nI_1]
        refine ih (t + 1) (by omega) (fun t' h' => ?_)
        by_cases e : t' = t
        · subst e; exact c
        · exact he t' (by omega)
  exact ⟨_, key n 0 (by omega) (fun t' h' => absurd h' (Nat.not_lt_zero t'))⟩
/-- the counted places from i on -/
noncomputable def Gr (ss : List (List Nat)) (n : Nat) (C : Nat → Bool) (r i : Nat) : List Nat := gr (fun j => Fr ss n C j ∧ rEq ss n r j) n (320 - i) i 0
theorem Gr_0 (ss : List (List Nat)) (n : Nat) (C : Nat → Bool) (r : Nat) : Gr ss n C r 0 = cL ss n C r := rfl
theorem Gr_y {ss : List (List Nat)} {n : Nat} {C : Nat → Bool} {r i : Nat} (hn : 1 ≤ n) (hi : i + n ≤ 320) (h : Fr ss n C i ∧ rEq ss n r i) : Gr ss n C r i = i :: Gr ss n C r (i + n) := by
  unfold Gr
  rw [show 320 - i = (320 - i - 1) + 1 by omega, gr_y h (Nat.zero_le i), gr_skip (n - 1) (320 - i - 1) (i + 1) (i + n) (by omega) (fun j a b z => by omega), gr_ff _ _ _ (by omega), show 320 - i - 1 - (n - 1) = 320 - (i + n) by omega, show i + 1 + (n - 1) = i + n by omega]
theorem Gr_n {ss : List (List Nat)} {n : Nat} {C : Nat → Bool} {r i k : Nat} (hk : i + k ≤ 320) (h : ∀ j, i ≤ j → j < i + k → ¬ (Fr ss n C j ∧ rEq ss n r j)) : Gr ss n C r i = Gr ss n C r (i + k) := by
  unfold Gr
  rw [gr_skip k (320 - i) i 0 (by omega) (fun j a b z => h j a b z.1), show 320 - i - k = 320 - (i + k) by omega]
theorem Fr_cvr2 {ss : List (List Nat)} {n : Nat} {C : Nat → Bool} {l : List Nat} {i : Nat} (h1 : ∀ x ∈ l, x + n ≤ i) : Fr ss n (cvr C n l) i ↔ Fr ss n C i := by
  constructor
  · rintro ⟨hv, hc⟩
    exact ⟨hv, fun t ht => (cvr_f.mp (hc t ht)).1⟩
  · rintro ⟨hv, hc⟩
    refine ⟨hv, fun t ht => cvr_f.mpr ⟨hc t ht, fun x hx z => ?_⟩⟩
    have := h1 x hx
    omega
/-- what is covered when l was counted -/
def cvI (cv : Bool) (C : Nat → Bool) (n : Nat) (l : List Nat) : Nat → Bool := if cv = true then cvr C n l else C
theorem sX7_counted {sl sb cov0 : Nat → Int32} {sm : Int32} {ss : List (List Nat)} (h : MS sl sb ss) (hsm : sm = nI ss.length) {n r : Nat} (hS : SOK ss n) (hr : Vp ss n r) {C : Nat → Bool} (hC : CV cov0 C) (cv : Bool) {post : Int32 → (Nat → Int32) → Prop} (hp : ∀ cov', CV cov' (cvI cv C n (cL ss n C r)) → post (nI (cnt ss n C r)) cov') : wX7_counted sm sl sb cov0 (nI r) (nI n) (b01 cv) post := by
  subst hsm
  obtain ⟨s1, s2, s3, s4, s5⟩ := id hS
  have br := (hr.bd s2 s1).1
  -- covering n places
  have l67 : ∀ (s p : Nat) (cov : Nat → Int32) (K : (Nat → Int32) → Int32 → Prop), 40 * s + p + n ≤ 320 → (∀ cov' v, (∀ j, cov' j = if cv = true ∧ 40 * s + p ≤ j ∧ j < 40 * s + p + n then 1 else cov j) → K cov' v) → ∃ N, wX7_counted_67 (nI n) (b01 cv) (nI s) (nI p) K N cov (0 : Int32) := by
    intro s p cov K hb hK
    cases cv with
    | false => exact ⟨1, fun c => absurd c (nI_nle (by omega) (by omega)), fun _ => ⟨fun _ => hK cov _ (fun j => by simp), fun c => absurd rfl c⟩⟩
    | true =>
      have key : ∀ d t cov', t + d = n → (∀ j, cov' j = if 40 * s + p ≤ j ∧ j < 40 * s + p + t then 1 else cov j) → wX7_counted_67 (nI n) (b01 true) (nI s) (nI p) K (d + 1) cov' (nI t) := by
        intro d
        induction d with
        | zero =>
          intro t cov' ht hc
          have : t = n := by omega
          subst this
          exact ⟨fun _ => hK cov' _ (fun j => by rw [hc j]; simp), fun c => absurd (nI_le (Nat.le_refl _) (by omega)) c⟩
        | succ d ih =>
          intro t cov' ht hc
          refine ⟨fun c => absurd c (nI_ge (by omega) (by omega)), fun _ => ⟨fun c => absurd c (by decide), fun _ => ?_⟩⟩
          rw [i40i, nI_clamp (by omega), nar_z1]
          refine ⟨vp_in_nI (by omega) (by omega), fun y hy => ?_⟩
          rw [hy, nI_1]
          refine ih (t + 1) _ (by omega) (fun j => ?_)
          by_cases e : j = 40 * s + p + t
          · subst e; rw [pk_us, if_pos (by omega)]
          · rw [pk_un e, hc j]
            by_cases h1 : 40 * s + p ≤ j ∧ j < 40 * s + p + t
            · rw [if_pos h1, if_pos (by omega)]
            · rw [if_neg h1, if_neg (by omega)]
      exact ⟨_, key n 0 cov (by omega) (fun j => by rw [if_neg (by omega)])⟩
  -- one sample
  have l18 : ∀ (s : Nat), s < ss.length → ∀ (K : (Nat → Int32) → Int32 → Int32 → Prop), (∀ cov' l v, CV cov' (cvI cv C n l) → (∀ x ∈ l, x + n ≤ 40 * (s + 1)) → l ++ Gr ss n C r (40 * (s + 1)) = cL ss n C r → K cov' (nI l.length) v) →
      ∀ f p cov l, 40 - p < f → p ≤ 40 → CV cov (cvI cv C n l) → (∀ x ∈ l, x + n ≤ 40 * s + p) → l ++ Gr ss n C r (40 * s + p) = cL ss n C r → wX7_counted_18 sl sb (nI r) (nI n) (b01 cv) (nI s) K f cov (nI l.length) (nI p) := by
    intro s hs K hK f
    induction f with
    | zero => intro p cov l hf; omega
    | succ f ih =>
      intro p cov l hf hp40 hcov hl hL
      have hlen := s2 s
      have hll : l.length ≤ 320 := by
        have := cnt_le (ss := ss) (n := n) (C := C) (r := r)
        have e : (cL ss n C r).length = l.length + (Gr ss n C r (40 * s + p)).length := by rw [← hL, List.length_append]
        unfold cnt at this
        omega
      refine ⟨vp_in_nI (by omega) (by omega), ?_⟩
      rw [nI_clamp (show s < 2 ^ 31 by omega), (h.2 s hs).1, nI_add, nI_ltI (by omega) (by omega)]
      refine ⟨fun c => ?_, fun c => ?_⟩
      · -- no further row in this sample
        refine hK cov l _ hcov (fun x hx => by have := hl x hx; omega) ?_
        rw [← hL]
        congr 1
        have := Gr_n (ss := ss) (n := n) (C := C) (r := r) (i := 40 * s + p) (k := 40 - p) (by omega) (fun j a b z => by
          have h1 := z.1.1.2
          rw [show j / 40 = s by omega] at h1
          omega)
        rw [this, show 40 * s + p + (40 - p) = 40 * (s + 1) by omega]
      · have hv : Vp ss n (40 * s + p) := ⟨by omega, by rw [show (40 * s + p) / 40 = s by omega]; omega⟩
        have hiff : Fr ss n (cvI cv C n l) (40 * s + p) ↔ Fr ss n C (40 * s + p) := by
          cases cv with
          | false => exact Iff.rfl
          | true => exact Fr_cvr2 hl
        have next : ¬ (Fr ss n C (40 * s + p) ∧ rEq ss n r (40 * s + p)) → ∀ y : Int32, y = nI p + 1 → wX7_counted_18 sl sb (nI r) (nI n) (b01 cv) (nI s) K f cov (nI l.length) y := fun hno y hy => by
          rw [hy, nI_1]
          refine ih (p + 1) cov l (by omega) (by omega) hcov (fun x hx => by have := hl x hx; omega) ?_
          rw [← hL, Gr_n (i := 40 * s + p) (k := 1) (by omega) (fun j a b => by rw [show j = 40 * s + p by omega]; exact hno)]
          rfl
        rw [i40]
        refine sX7_areAlike h hS hr hv (fun he => ⟨fun c2 => absurd c2 (by decide), fun _ => ?_⟩) (fun he => ⟨fun _ => next fun z => he z.2, fun c2 => absurd rfl c2⟩)
        refine sX7_isOpen h hS hs (by omega) hcov (fun hf2 => ⟨fun c2 => absurd c2 (by decide), fun _ y16 h16 => ?_⟩) (fun hf2 => ⟨fun _ => next fun z => hf2 (hiff.mpr z.1), fun c2 => absurd rfl c2⟩)
        have hF := hiff.mp hf2
        refine l67 s p cov _ (by omega) fun cov2 v hc2 y23 h23 => ?_
        rw [h23, h16, nI_1]
        have hlen2 : l.length + 1 = (l ++ [40 * s + p]).length := by rw [List.length_append]; rfl
        rw [hlen2]
        refine ih (p + n) cov2 (l ++ [40 * s + p]) (by omega) (by omega) (fun j hj => ?_) (fun x hx => ?_) ?_
        · rw [hc2 j]
          cases cv with
          | false => simp; exact hcov j hj
          | true =>
            show _ = b01 (cvr C n (l ++ [40 * s + p]) j)
            rw [cvr_app]
            by_cases hin : 40 * s + p ≤ j ∧ j < 40 * s + p + n
            · rw [if_pos ⟨rfl, hin⟩]; simp [hin.1, hin.2, b01]
            · rw [if_neg (fun z => hin z.2), hcov j hj]
              show b01 (cvr C n l j) = _
              congr 1
              rcases Nat.lt_or_ge j (40 * s + p) with q | q
              · simp [show ¬ 40 * s + p ≤ j by omega]
              · simp [show ¬ j < 40 * s + p + n by omega]
        · rcases List.mem_append.mp hx with q | q
          · have := hl x q; omega
          · rw [List.mem_singleton.mp q]; omega
        · rw [← hL, Gr_y (by omega) (by omega) ⟨hF, he⟩, List.append_assoc, show 40 * s + (p + n) = 40 * s + p + n by omega]
          rfl
  have l6 : ∀ d s cov l, s + d = ss.length → CV cov (cvI cv C n l) → (∀ x ∈ l, x + n ≤ 40 * s) → l ++ Gr ss n C r (40 * s) = cL ss n C r → wX7_counted_6 (nI ss.length) sl sb (nI r) (nI n) (b01 cv) (fun s1 y2 _ => post y2 s1) (d + 1) cov (nI l.length) (nI s) := by
    intro d
    induction d with
    | zero =>
      intro s cov l hs hcov hl hL
      have : s = ss.length := by omega
      subst this
      refine ⟨fun _ => ?_, fun c => absurd (nI_le (Nat.le_refl _) (by omega)) c⟩
      have hend : Gr ss n C r (40 * ss.length) = [] := by
        have := Gr_n (ss := ss) (n := n) (C := C) (r := r) (i := 40 * ss.length) (k := 320 - 40 * ss.length) (by omega) (fun j a b z => by have := z.1.1.1; omega)
        rw [this, show 40 * ss.length + (320 - 40 * ss.length) = 320 by omega]
        rfl
      rw [hend, List.append_nil] at hL
      have := hp cov (by rw [← hL]; exact hcov)
      unfold cnt at this
      rw [← hL] at this
      exact this
    | succ d ih =>
      intro s cov l hs hcov hl hL
      refine ⟨fun c => absurd c (nI_ge (by omega) (by omega)), fun _ => ⟨41, ?_⟩⟩
      refine l18 s (by omega) _ (fun cov' l' v a b c y hy => ?_) 41 0 cov l (by omega) (by omega) hcov hl hL
      rw [hy, nI_1]
      exact ih (s + 1) cov' l' (by omega) a b c
  have h0 : cvI cv C n [] = C := by
    cases cv with
    | false => rfl
    | true => exact cvr_nil C n
  exact ⟨_, l6 ss.length 0 cov0 [] (by omega) (by rw [h0]; exact hC) (fun x hx => (List.not_mem_nil hx).elim) rfl⟩
