/-! PURE: the reference's open -/
theorem drop_getD {l : List Nat} {A j : Nat} : (l.drop A).getD j 0 = l.getD (A + j) 0 := by
  rw [List.getD_eq_getElem?_getD, List.getD_eq_getElem?_getD, List.getElem?_drop]
theorem wr_core {tape pl bo dc row : Nat → Int32} {taped x s a0 t0 : Int32} {pk ws : List Nat} (hT : MT 200 tape taped pk) (h3 : 3 ≤ pk.length) (hL : Lay pl bo dc x (-1) ws) {sm : Nat} (hsm : sm < 65536) (hs : s = nI sm) {post : Int32 → Int32 → Int32 → (Nat → Int32) → Prop}
    (h1 : ∀ w, (opn pk ws sm).1 = some w → w ≤ 200 → ∀ a t r, post (nI w) a t r)
    (h2 : (opn pk ws sm).1 = none → ∀ row', (opn pk ws sm).2.length ≤ 200 → (∀ x ∈ (opn pk ws sm).2, x < 256) → (∀ j, j < (opn pk ws sm).2.length → row' (ws.length + j) = nI ((opn pk ws sm).2.getD j 0)) → post (-1) (nI ws.length) (nI (opn pk ws sm).2.length) row') :
    ((((256 * (tape (1 : Int32).toNatClampNeg)) + (tape (2 : Int32).toNatClampNeg)) = s → ((taped = 3 → post 3 a0 t0 row) ∧ (¬ taped = 3 → (vp_in (3 : Int32) 200 ∧ (((tape (3 : Int32).toNatClampNeg) ≤ 200 → (wX7_layAhead pl bo dc row x ((-1) : Int32) (fun (s10 : Int32) => fun (s11 : Nat → Int32) => (vp_in (3 : Int32) 200 ∧ (∀ y13 : Int32, y13 = tape (3 : Int32).toNatClampNeg → (∃ n53 : Nat, wX7_wrong_142 taped s10 y13 tape post (fun (s14 : Nat → Int32) => fun (y15 : Int32) => fun (y16 : Int32) => ((y16 < y13 → post y15 s10 y13 s14) ∧ (¬ y16 < y13 → ((taped ≤ y15 → post (-1) s10 y13 s14) ∧ (¬ taped ≤ y15 → post y15 s10 y13 s14))))) n53 s11 (4 : Int32) (0 : Int32))))))) ∧ (¬ (tape (3 : Int32).toNatClampNeg) ≤ 200 → post 3 a0 t0 row)))))) ∧ (¬ ((256 * (tape (1 : Int32).toNatClampNeg)) + (tape (2 : Int32).toNatClampNeg)) = s → post 1 a0 t0 row)) := by
  obtain ⟨hl, hl2, hl3, hl4⟩ := id hT
  have c1 : (1 : Int32).toNatClampNeg = 1 := by decide
  have c2 : (2 : Int32).toNatClampNeg = 2 := by decide
  have c3 : (3 : Int32).toNatClampNeg = 3 := by decide
  have b1 := getD_lt256 hl3 1
  have b2 := getD_lt256 hl3 2
  have b3 := getD_lt256 hl3 3
  have v3 : vp_in (3 : Int32) 200 := vp_in_nI (n := 3) (by decide) (by decide)
  rw [c1, c2, c3, hl4 1 (by omega), hl4 2 (by omega), hs, show (256 : Int32) = nI 256 from rfl, pk_mul, nI_add, nI_eq (by omega) (by omega)]
  refine ⟨fun q => ⟨fun q2 => ?_, fun q2 => ⟨v3, ?_⟩⟩, fun q => ?_⟩
  · rw [hl, show (3 : Int32) = nI 3 from rfl, nI_eq (by omega) (by decide)] at q2
    exact h1 3 (by unfold opn; rw [if_neg (by omega), if_neg (by omega), if_neg (not_not_intro q), if_pos (Or.inl q2)]) (by omega) _ _ _
  · rw [hl, show (3 : Int32) = nI 3 from rfl, nI_eq (by omega) (by decide)] at q2
    rw [hl4 3 (by omega), show (200 : Int32) = nI 200 from rfl, nI_leI (by omega) (by decide)]
    refine ⟨fun q3 => ?_, fun q3 => ?_⟩
    · have e : opn pk ws sm = ((decL pk ws.length (pk.getD 3 0) 201 4 ws).1, (decL pk ws.length (pk.getD 3 0) 201 4 ws).2.drop ws.length) := by
        unfold opn
        rw [if_neg (by omega), if_neg (by omega), if_neg (not_not_intro q), if_neg (by omega)]
      rw [e] at h1 h2
      refine hL.2.2 row _ fun row1 g1 => ⟨v3, fun y13 h13 => ?_⟩
      subst h13
      have hMI : MI row1 ws := ⟨hL.2.1, g1⟩
      have := sX7_wrong_142 hT (A := ws.length) (tl := pk.getD 3 0) hL.1 q3 (post := post) (K := fun (s14 : Nat → Int32) => fun (y15 : Int32) => fun (y16 : Int32) => ((y16 < nI (pk.getD 3 0) → post y15 (nI ws.length) (nI (pk.getD 3 0)) s14) ∧ (¬ y16 < nI (pk.getD 3 0) → ((taped ≤ y15 → post (-1) (nI ws.length) (nI (pk.getD 3 0)) s14) ∧ (¬ taped ≤ y15 → post y15 (nI ws.length) (nI (pk.getD 3 0)) s14))))) 201 4 ws row1 (by omega) (Nat.le_refl _) (by omega) (by omega) hMI (fun i' J' row' hd hi' htl hA' hM' => ?_) (fun row' g hd hg => ?_) (fun w J' hd hw a b c => ?_)
      · rw [Nat.sub_self] at this
        exact ⟨_, this⟩
      · refine ⟨fun c => absurd c (nI_nlt (Nat.le_refl _) (by omega)), fun _ => ?_⟩
        rw [hl, nI_leI (by omega) (by omega)]
        refine ⟨fun q4 => ?_, fun q4 => ?_⟩
        · rw [if_neg (by omega)] at hd
          rw [hd] at h2
          have := h2 rfl row'
          simp only [] at this
          have hdl : (J'.drop ws.length).length = pk.getD 3 0 := by rw [List.length_drop]; omega
          rw [hdl] at this
          refine this (by omega) (fun x hx => hM'.1 x (List.mem_of_mem_drop hx)) (fun j hj => ?_)
          rw [drop_getD]
          exact hM'.2 _ (by omega)
        · rw [if_pos (by omega)] at hd
          exact h1 i' (by rw [hd]) (by omega) _ _ _
      · refine ⟨fun _ => ?_, fun c => absurd (nI_lt hg (by omega)) c⟩
        rcases hd with hd | ⟨J', hd⟩
        · exact h1 pk.length (by rw [hd]) (by omega) _ _ _
        · exact h1 pk.length (by rw [hd]) (by omega) _ _ _
      · exact h1 w (by rw [hd]) (by omega) _ _ _
    · exact h1 3 (by unfold opn; rw [if_neg (by omega), if_neg (by omega), if_neg (not_not_intro q), if_pos (Or.inr (by omega))]) (by omega) _ _ _
  · exact h1 1 (by unfold opn; rw [if_neg (by omega), if_neg (by omega), if_pos q]) (by omega) _ _ _
/-- OPEN by the dictionaries that are there -/
def opA (ids : Nat → Nat) (bss : Nat → List Nat) (pk : List Nat) : Option Nat × List Nat :=
  if pk.getD 0 0 = 0 then opn pk [] 0 else match fst6 ids (pk.getD 0 0) 6 0 with
    | none => (some 0, [])
    | some d => opn pk (bss d) (sumN (bss d))
theorem sX7_wrong {tape idOf pieces pieceLong bytesOf dict row : Nat → Int32} {taped a0 t0 : Int32} {ids ns cs : Nat → Nat} {bss : Nat → List Nat} {pk : List Nat} (hT : MT 200 tape taped pk) (hI : MId idOf ids) (hM : MDs pieces pieceLong bytesOf dict ns cs bss) {post : Int32 → Int32 → Int32 → (Nat → Int32) → Prop}
    (h1 : ∀ w, (opA ids bss pk).1 = some w → w ≤ 200 → ∀ a t r, post (nI w) a t r)
    (h2 : (opA ids bss pk).1 = none → ∀ A row', A ≤ 80 → (opA ids bss pk).2.length ≤ 200 → (∀ x ∈ (opA ids bss pk).2, x < 256) → (∀ j, j < (opA ids bss pk).2.length → row' (A + j) = nI ((opA ids bss pk).2.getD j 0)) → post (-1) (nI A) (nI (opA ids bss pk).2.length) row') :
    wX7_wrong taped a0 t0 tape idOf pieceLong bytesOf dict row post := by
  obtain ⟨hl, hl2, hl3, hl4⟩ := id hT
  have c0 : (0 : Int32).toNatClampNeg = 0 := by decide
  have v1 : vp_in (1 : Int32) 200 := vp_in_nI (n := 1) (by decide) (by decide)
  have v2 : vp_in (2 : Int32) 200 := vp_in_nI (n := 2) (by decide) (by decide)
  have b0 := getD_lt256 hl3 0
  refine ⟨fun q => ?_, fun q => ?_⟩
  · rw [hl, show (0 : Int32) = nI 0 from rfl, nI_leI (by omega) (by decide)] at q
    have hz : pk.length = 0 := by omega
    refine ⟨fun _ => h1 0 ?_ (by omega) _ _ _, fun c => absurd (by rw [hl, hz]; rfl) c⟩
    unfold opA
    rw [gD_ge (by omega), if_pos rfl]
    unfold opn
    rw [if_pos hz]
  · rw [hl, show (0 : Int32) = nI 0 from rfl, nI_leI (by omega) (by decide)] at q
    have ht0 : ¬ taped = 0 := by rw [hl]; exact nI_ne0 (by omega) (by omega)
    refine ⟨vp_in_nI (n := 0) (by decide) (by decide), fun y55 h55 => ?_⟩
    rw [c0, hl4 0 (by omega)] at h55
    subst h55
    have short : ∀ (ws : List Nat) (sm : Nat), (opA ids bss pk = opn pk ws sm) → ¬ 3 ≤ taped → post taped a0 t0 row := fun ws sm e c => by
      rw [hl, show (3 : Int32) = nI 3 from rfl, nI_leI (by decide) (by omega)] at c
      have := h1 pk.length (by rw [e]; unfold opn; rw [if_neg (by omega), if_pos (by omega)]) (by omega) a0 t0 row
      rw [hl]; exact this
    have long : 3 ≤ taped → 3 ≤ pk.length := fun c => by
      rw [hl, show (3 : Int32) = nI 3 from rfl, nI_leI (by decide) (by omega)] at c
      exact c
    refine ⟨fun q2 => ?_, fun q2 => ?_⟩
    · have hne : ¬ pk.getD 0 0 = 0 := fun z => q2 (by rw [z]; rfl)
      refine sX7_firstWith hI b0 ⟨fun c => absurd c ht0, fun _ => ⟨fun c => absurd c (nI_nle (by omega) (by omega)), fun _ => ?_⟩⟩
      cases hf : fst6 ids (pk.getD 0 0) 6 0 with
      | none =>
        refine ⟨fun c => absurd rfl c, fun _ => h1 0 ?_ (by omega) _ _ _⟩
        unfold opA
        rw [if_neg hne, hf]
      | some d =>
        obtain ⟨-, hd, hid⟩ := fst6_lt 6 0 d hf
        have hd6 : d < 6 := by omega
        have e : opA ids bss pk = opn pk (bss d) (sumN (bss d)) := by
          unfold opA
          rw [if_neg hne, hf]
        refine ⟨fun _ => ⟨fun q3 => ⟨v1, v2, ?_⟩, fun q3 => short _ _ e q3⟩, fun c => absurd c (nI_ne_m1 (by omega))⟩
        refine (hM d hd6).sum hd6 ?_
        exact wr_core hT (long q3) (lay_all hd6 (hM d hd6)) (sumN_lt _) rfl (fun w hw hw2 a t r => h1 w (by rw [e]; exact hw) hw2 a t r) (fun hn row' g1 g2 g3 => by
          rw [e] at h2
          exact h2 hn (bss d).length row' (hM d hd6).2.2.2.1 g1 g2 g3)
    · have hz : pk.getD 0 0 = 0 := by
        rw [show (0 : Int32) = nI 0 from rfl, nI_eq (by omega) (by decide)] at q2
        exact q2
      have e : opA ids bss pk = opn pk [] 0 := by unfold opA; rw [if_pos hz]
      refine ⟨fun c => absurd c ht0, fun _ => ⟨fun _ => ⟨fun q3 => ⟨v1, v2, ?_⟩, fun q3 => short _ _ e q3⟩, fun c => absurd (by rw [hz]; decide) c⟩⟩
      exact wr_core hT (long q3) lay_none (by decide) rfl (fun w hw hw2 a t r => h1 w (by rw [e]; exact hw) hw2 a t r) (fun hn row' g1 g2 g3 => by
        rw [e] at h2
        exact h2 hn 0 row' (by omega) g1 g2 g3)
theorem sX7_open {tape idOf pieces pieceLong bytesOf dict row text : Nat → Int32} {taped a0 t0 tm : Int32} {ids ns cs : Nat → Nat} {bss : Nat → List Nat} {pk : List Nat} (hT : MT 200 tape taped pk) (hI : MId idOf ids) (hM : MDs pieces pieceLong bytesOf dict ns cs bss) {post : Int32 → Int32 → Int32 → Int32 → Int32 → Int32 → (Nat → Int32) → (Nat → Int32) → Prop}
    (h1 : ∀ w, (opA ids bss pk).1 = some w → w ≤ 200 → ∀ a t r, post ((-200) - nI w) 0 0 a t tm r text)
    (h2 : (opA ids bss pk).1 = none → ∀ a t r text', MT 200 text' (nI (opA ids bss pk).2.length) (opA ids bss pk).2 → post (nI (opA ids bss pk).2.length) 0 0 a t (nI (opA ids bss pk).2.length) r text') :
    wX7_open taped a0 t0 tm tape idOf pieceLong bytesOf dict row text post := by
  refine sX7_wrong hT hI hM (fun w hw hw2 a t r => ⟨fun c => absurd c (nI_ne_m1 (by omega)), fun _ => h1 w hw hw2 a t r⟩) (fun hn A row' hA hlen h256 hrow => ⟨fun _ => ?_, fun c => absurd rfl c⟩)
  have h2 := h2 hn
  generalize (opA ids bss pk).2 = ts at *
  have key : ∀ e k text', k + e = ts.length → (∀ j, j < k → text' j = nI (ts.getD j 0)) → wX7_open_36 (nI A) (nI ts.length) row' (fun s6 _ => post (nI ts.length) 0 0 (nI A) (nI ts.length) (nI ts.length) row' s6) (e + 1) text' (nI k) := by
    intro e
    induction e with
    | zero =>
      intro k text' hk g1
      have : k = ts.length := by omega
      subst this
      exact ⟨fun _ => h2 _ _ _ text' ⟨rfl, hlen, h256, g1⟩, fun c => absurd (nI_le (Nat.le_refl _) (by omega)) c⟩
    | succ e ih =>
      intro k text' hk g1
      refine ⟨fun c => absurd c (nI_ge (by omega) (by omega)), fun _ => ?_⟩
      rw [nI_add, nI_clamp (by omega), nI_clamp (by omega), hrow k (by omega)]
      refine ⟨vp_in_nI (by omega) (by omega), vp_in_nI (by omega) (by omega), fun y hy => ?_⟩
      rw [hy, nI_1]
      refine ih (k + 1) _ (by omega) (fun j hj => ?_)
      by_cases e2 : j = k
      · subst e2; exact pk_us
      · rw [pk_un e2]; exact g1 j (by omega)
  exact ⟨_, key ts.length 0 text (by omega) (fun j hj => absurd hj (Nat.not_lt_zero j))⟩
