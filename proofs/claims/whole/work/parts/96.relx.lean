/-! PURE: the four methods that throw, class and reference side by side -/
theorem sX4_hasN {cap : Nat} {f : Nat → Int32} {len : Int32} {xs : List Nat} (h : RR cap f len xs) {i : Int32} {post : Int32 → Prop} (h1 : ∀ k, k < xs.length → i = nI k → post 1) (h0 : (∀ k, k < xs.length → ¬ i = nI k) → post 0) : wX4_has len i post := by
  obtain ⟨hl, hc, hcap, hb, hf⟩ := h
  refine sX4_has (fun q => ?_) (fun q => h0 fun k hk e => ?_)
  · obtain ⟨k, hk, rfl⟩ := nI_of (x := i) (Int32.not_lt.mpr q.1)
    have hkl : k < xs.length := by
      have := q.2
      rw [hl, nI_ltI hk (by omega)] at this
      exact this
    exact h1 k hkl rfl
  · subst e
    exact q ⟨nI_pos' (by omega), by rw [hl]; exact nI_lt hk (by omega)⟩
theorem sX6_content {Di Dp Dc Dl : Nat → Int32} {Db : Nat → Nat → Int32} {qw : Nat → Nat} {p1 p2 : Int32} {ids ns cs : Nat → Nat} {bss : Nat → List Nat} (hD : CD Di Dp Dc Dl Db ids ns cs bss) {post : Int32 → Prop} {px : String → Prop}
    (h2 : ¬ Rg p1 0 5 → px eA) (h1 : Rg p1 0 5 → (∀ d, ¬ Thr ids p1 d) → px eN) (h3 : ∀ d, Thr ids p1 d → (∀ k, k < (bss d).length → ¬ p2 = nI k) → px eA) (h0 : ∀ d, Thr ids p1 d → ∀ k, k < (bss d).length → p2 = nI k → post (sb_b ((bss d).getD k 0))) : wX6_content qw Di Dl Db p1 p2 post px := by
  refine sX6_isNumber (fun c => ⟨fun _ => ?_, fun q => absurd q (by decide)⟩) (fun c => ⟨fun q => absurd rfl q, fun _ => h2 c⟩)
  refine sX6_thereAt hD.id (fun d z => ⟨fun e => (nomatch e), fun k hk e => ?_⟩) (fun z => ⟨fun _ => h1 c z, fun k hk e => (nomatch e)⟩)
  cases e
  obtain ⟨a, b, c'⟩ := hD d hk
  obtain ⟨e1, e2, e3⟩ := c' z.2.2
  refine ⟨rfl, sX4_hasN e3 (fun k hk ek => ⟨fun _ => ⟨rfl, ?_⟩, fun q => absurd q (by decide)⟩) (fun q => ⟨fun q => absurd rfl q, fun _ => h3 d z q⟩)⟩
  subst ek
  have := h0 d z k hk rfl
  have hc := e3.2.1
  exact sX4_signedAtN e3 (by omega) ⟨pk_nb _, this⟩
theorem sX6_outX {cap an : Nat} {f : Nat → Int32} {len : Int32} {xs : List Nat} (h : RR cap f len xs) {p1 : Int32} {post : Int32 → Prop} {px : String → Prop}
    (h1 : (∀ k, k < xs.length → ¬ p1 = nI k) → px eA) (h0 : ∀ k, k < xs.length → p1 = nI k → post (nI (xs.getD k 0))) : wX6_out cap an len f p1 post px := by
  refine ⟨rfl, sX4_hasN h (fun k hk ek => ⟨fun _ => ⟨rfl, ?_⟩, fun q => absurd q (by decide)⟩) (fun q => ⟨fun q => absurd rfl q, fun _ => h1 q⟩)⟩
  subst ek
  have hc := h.2.1
  have hd := h.2.2.1
  exact sX4_atN h (by omega) (h0 k hk rfl)
theorem sX6_textX {cap : Nat} {f : Nat → Int32} {len : Int32} {xs : List Nat} (h : RR cap f len xs) {p1 : Int32} {post : Int32 → Prop} {px : String → Prop}
    (h1 : (∀ k, k < xs.length → ¬ p1 = nI k) → px eA) (h0 : ∀ k, k < xs.length → p1 = nI k → post (nI (xs.getD k 0))) : wX6_text cap len f p1 post px := by
  refine sX4_hasN h (fun k hk ek => ⟨fun _ => ?_, fun q => absurd q (by decide)⟩) (fun q => ⟨fun q => absurd rfl q, fun _ => h1 q⟩)
  subst ek
  have hc := h.2.1
  have hd := h.2.2.1
  exact sX4_atN h (by omega) (h0 k hk rfl)
theorem sX6_shareX {Sb Db : Nat → Nat → Int32} {Sl nf Di Dp Dc Dl : Nat → Int32} {qw : Nat → Nat} {an : Nat} {nl s0 l0 p1 : Int32} {j0 e0 a0 c0 h0 : Nat → Int32} {ss : List (List Nat)} {ids ns cs : Nat → Nat} {bss : Nat → List Nat} (h : CS Sb Sl ss) (hN : RR 80 nf nl []) (hD : CD Di Dp Dc Dl Db ids ns cs bss) {post : Int32 → Int32 → Int32 → (Nat → Int32) → (Nat → Int32) → (Nat → Int32) → (Nat → Int32) → (Nat → Int32) → Prop} {px : String → Int32 → Int32 → (Nat → Int32) → (Nat → Int32) → (Nat → Int32) → (Nat → Int32) → (Nat → Int32) → Prop}
    (h1 : (∀ d, ¬ Thr ids p1 d) → ∀ s l j e a c h, post (-101) s l j e a c h) (h2 : ∀ d, Thr ids p1 d → ss.length = 0 → ∀ s l j e a c h, px eR s l j e a c h) (h3 : ∀ d, Thr ids p1 d → ss.length ≠ 0 → ∀ s l j e a c h, post (shr (bss d) ss) s l j e a c h) :
    wX6_share 80 an qw (nI ss.length) nl nf s0 l0 j0 e0 a0 c0 h0 Di Dl Db Sl Sb p1 post px := by
  refine sX6_thereAt hD.id (fun d z => ⟨fun e => (nomatch e), fun k hk e => ?_⟩) (fun z => ⟨fun _ => h1 z _ _ _ _ _ _ _, fun k hk e => (nomatch e)⟩)
  cases e
  obtain ⟨a, b, c'⟩ := hD d hk
  obtain ⟨e1, e2, e3⟩ := c' z.2.2
  have h8 := h.1
  have hs := sumPack_le [] ss h.short
  refine ⟨rfl, sX6_bytesOfSamples h hN (by simp) (fun s l j e a c hh => ?_)⟩
  have e0 : nI (sumPack [] ss) = 0 ↔ ss.length = 0 := by
    rw [show (0 : Int32) = nI 0 from rfl, nI_eq (by omega) (by decide), sumPack_pos]
  refine ⟨fun q => ⟨rfl, sX6_bytesOfSamples h e3 e3.2.1 (fun s' l' j' e' a' c' hh' => ⟨q, h3 d z (fun y => q (e0.mpr y)) _ _ _ _ _ _ _⟩)⟩, fun q => h2 d z (e0.mp q) _ _ _ _ _ _ _⟩
section BOTHX
variable {sc tl nid nl ol it mt bl : Int32} {tf nf of bf Dp Dc Di Dl Sl : Nat → Int32} {Db Sb : Nat → Nat → Int32}
variable {taped samples om im mm tm : Int32} {tape sl sb idOf pieces pieceLong bytesOf dict out text : Nat → Int32}
theorem b_content {a : AbS} (hC : RC a sc tl tf nid nl nf ol of it mt bl bf Dp Dc Di Dl Db Sl Sb) (hM : RM a taped samples om im mm tm tape sl sb idOf pieces pieceLong bytesOf dict out text) (p1 p2 : Int32) (qw : Nat → Nat) :
    ∃ (k v : Int32), wX6_content qw Di Dl Db p1 p2 (fun r => k = 0 ∧ r = v) (fun E => (E = eN ∧ k = 1) ∨ (E = eA ∧ k = 2)) ∧ wX7_content idOf bytesOf dict p1 p2 (fun r th => th = k ∧ (k = 0 → r = v)) := by
  obtain ⟨xs, ss, ids, ns, cs, bss, ou, i0, m0, ts⟩ := a
  obtain ⟨c1, c2, c3, c4, c5, c6, c7, c8, c9, c10⟩ := id hC
  obtain ⟨m1, m2, m3, m4, m5, m6, m7, m8, m9⟩ := id hM
  by_cases hR : Rg p1 0 5
  · obtain ⟨d, -, hd, ed⟩ := hR.nI (by decide)
    by_cases hi : ids d = 0
    · have no : ∀ d', ¬ Thr ids p1 d' := fun d' z => by
        have := z.1
        have e := z.2.1
        rw [ed, nI_eq (by omega) (by omega)] at e
        exact z.2.2 (e ▸ hi)
      exact ⟨1, 0, sX6_content c9 (fun q => absurd hR q) (fun _ _ => Or.inl ⟨rfl, rfl⟩) (fun d' z => absurd z (no d')) (fun d' z => absurd z (no d')), sX7_content m4 m5 (fun q => absurd hR q) (fun _ _ _ _ => ⟨rfl, fun q => absurd q (by decide)⟩) (fun d' z => absurd z (no d')) (fun d' z => absurd z (no d'))⟩
    · have hT : Thr ids p1 d := ⟨by omega, ed, hi⟩
      have noz : ∀ {P : Prop} d', d' < 6 → p1 = nI d' → ids d' = 0 → P := fun d' q1 q2 q3 => by
        rw [ed, nI_eq (by omega) (by omega)] at q2
        exact absurd (q2 ▸ q3) hi
      by_cases hk : ∃ k, k < (bss d).length ∧ p2 = nI k
      · obtain ⟨k, hk, ek⟩ := hk
        have g := (c9 d (by omega)).2.2 hi
        have hl : (bss d).length ≤ 80 := g.2.2.2.1
        have un : ∀ k', k' < (bss d).length → p2 = nI k' → k' = k := fun k' h' e' => by
          rw [ek, nI_eq (by omega) (by omega)] at e'; exact e'.symm
        exact ⟨0, sb_b ((bss d).getD k 0), sX6_content c9 (fun q => absurd hR q) (fun _ q => absurd hT (q d)) (fun d' z q => absurd ek (by rw [← z.un hT] at hk; exact q k hk)) (fun d' z k' h' e' => by
          have := z.un hT
          subst this
          exact ⟨rfl, by rw [un k' h' e']⟩), sX7_content m4 m5 (fun q => absurd hR q) (fun d' q1 q2 q3 => noz d' q1 q2 q3) (fun d' z q => absurd ek (by rw [← z.un hT] at hk; exact q k hk)) (fun d' z k' h' e' => by
          have := z.un hT
          subst this
          exact ⟨rfl, fun _ => by rw [un k' h' e']⟩)⟩
      · exact ⟨2, 0, sX6_content c9 (fun q => absurd hR q) (fun _ q => absurd hT (q d)) (fun _ _ _ => Or.inr ⟨rfl, rfl⟩) (fun d' z k' h' e' => absurd ⟨k', by rw [← z.un hT]; exact h', e'⟩ hk), sX7_content m4 m5 (fun q => absurd hR q) (fun d' q1 q2 q3 => noz d' q1 q2 q3) (fun _ _ _ => ⟨rfl, fun q => absurd q (by decide)⟩) (fun d' z k' h' e' => absurd ⟨k', by rw [← z.un hT]; exact h', e'⟩ hk)⟩
  · have no : ∀ d', ¬ Thr ids p1 d' := fun d' z => by
      have := z.1
      refine hR ?_
      rw [z.2.1, Rg_nI (by omega)]
      omega
    exact ⟨2, 0, sX6_content c9 (fun _ => Or.inr ⟨rfl, rfl⟩) (fun q => absurd q hR) (fun d' z => absurd z (no d')) (fun d' z => absurd z (no d')), sX7_content m4 m5 (fun _ => ⟨rfl, fun q => absurd q (by decide)⟩) (fun d' q1 q2 q3 => absurd (show Rg p1 0 5 by rw [q2, Rg_nI (by omega)]; omega) hR) (fun d' z => absurd z (no d')) (fun d' z => absurd z (no d'))⟩
theorem b_out {a : AbS} (hC : RC a sc tl tf nid nl nf ol of it mt bl bf Dp Dc Di Dl Db Sl Sb) (hM : RM a taped samples om im mm tm tape sl sb idOf pieces pieceLong bytesOf dict out text) (p1 : Int32) (an : Nat) :
    ∃ (k v : Int32), wX6_out 211 an bl bf p1 (fun r => k = 0 ∧ r = v) (fun E => E = eA ∧ k = 1) ∧ wX7_out om out p1 (fun r th => th = k ∧ (k = 0 → r = v)) := by
  obtain ⟨xs, ss, ids, ns, cs, bss, ou, i0, m0, ts⟩ := a
  obtain ⟨c1, c2, c3, c4, c5, c6, c7, c8, c9, c10⟩ := id hC
  obtain ⟨m1, m2, m3, m4, m5, m6, m7, m8, m9⟩ := id hM
  have hl : ou.length ≤ 211 := c8.2.1
  by_cases hk : ∃ k, k < ou.length ∧ p1 = nI k
  · obtain ⟨k, hk, ek⟩ := hk
    have un : ∀ k', k' < ou.length → p1 = nI k' → k' = k := fun k' h' e' => by
      rw [ek, nI_eq (by omega) (by omega)] at e'; exact e'.symm
    exact ⟨0, nI (ou.getD k 0), sX6_outX c8 (fun q => absurd ek (q k hk)) (fun k' h' e' => ⟨rfl, by rw [un k' h' e']⟩), sX7_out m6 (fun q => absurd ek (q k hk)) (fun k' h' e' => ⟨rfl, fun _ => by rw [un k' h' e']⟩)⟩
  · exact ⟨1, 0, sX6_outX c8 (fun _ => ⟨rfl, rfl⟩) (fun k' h' e' => absurd ⟨k', h', e'⟩ hk), sX7_out m6 (fun _ => ⟨rfl, fun q => absurd q (by decide)⟩) (fun k' h' e' => absurd ⟨k', h', e'⟩ hk)⟩
theorem b_text {a : AbS} (hC : RC a sc tl tf nid nl nf ol of it mt bl bf Dp Dc Di Dl Db Sl Sb) (hM : RM a taped samples om im mm tm tape sl sb idOf pieces pieceLong bytesOf dict out text) (p1 : Int32) :
    ∃ (k v : Int32), wX6_text 200 ol of p1 (fun r => k = 0 ∧ r = v) (fun E => E = eA ∧ k = 1) ∧ wX7_text tm text p1 (fun r th => th = k ∧ (k = 0 → r = v)) := by
  obtain ⟨xs, ss, ids, ns, cs, bss, ou, i0, m0, ts⟩ := a
  obtain ⟨c1, c2, c3, c4, c5, c6, c7, c8, c9, c10⟩ := id hC
  obtain ⟨m1, m2, m3, m4, m5, m6, m7, m8, m9⟩ := id hM
  have hl : ts.length ≤ 200 := c5.2.1
  by_cases hk : ∃ k, k < ts.length ∧ p1 = nI k
  · obtain ⟨k, hk, ek⟩ := hk
    have un : ∀ k', k' < ts.length → p1 = nI k' → k' = k := fun k' h' e' => by
      rw [ek, nI_eq (by omega) (by omega)] at e'; exact e'.symm
    exact ⟨0, nI (ts.getD k 0), sX6_textX c5 (fun q => absurd ek (q k hk)) (fun k' h' e' => ⟨rfl, by rw [un k' h' e']⟩), sX7_text m9 (fun q => absurd ek (q k hk)) (fun k' h' e' => ⟨rfl, fun _ => by rw [un k' h' e']⟩)⟩
  · exact ⟨1, 0, sX6_textX c5 (fun _ => ⟨rfl, rfl⟩) (fun k' h' e' => absurd ⟨k', h', e'⟩ hk), sX7_text m9 (fun _ => ⟨rfl, fun q => absurd q (by decide)⟩) (fun k' h' e' => absurd ⟨k', h', e'⟩ hk)⟩
theorem b_share {a : AbS} (hC : RC a sc tl tf nid nl nf ol of it mt bl bf Dp Dc Di Dl Db Sl Sb) (hM : RM a taped samples om im mm tm tape sl sb idOf pieces pieceLong bytesOf dict out text) (p1 : Int32) (qw : Nat → Nat) (an : Nat) (s0 l0 : Int32) (j0 e0 a0 c0 h0 : Nat → Int32) (ah0 tx0 : Int32) (row cost leastD : Nat → Int32) :
    ∃ (k v : Int32), wX6_share 80 an qw sc nl nf s0 l0 j0 e0 a0 c0 h0 Di Dl Db Sl Sb p1 (fun r _ _ _ _ _ _ _ => k = 0 ∧ r = v) (fun E _ _ _ _ _ _ _ => E = eR ∧ k = 1) ∧ wX7_share samples ah0 tx0 sl sb idOf pieceLong bytesOf dict row cost leastD p1 (fun r th _ _ _ _ _ => th = k ∧ (k = 0 → r = v)) := by
  obtain ⟨xs, ss, ids, ns, cs, bss, ou, i0, m0, ts⟩ := a
  obtain ⟨c1, c2, c3, c4, c5, c6, c7, c8, c9, c10⟩ := id hC
  obtain ⟨m1, m2, m3, m4, m5, m6, m7, m8, m9⟩ := id hM
  have hsc : sc = nI ss.length := c1
  subst hsc
  by_cases h : ∃ d, Thr ids p1 d
  · obtain ⟨d, hd⟩ := h
    by_cases hs : ss.length = 0
    · exact ⟨1, 0, sX6_shareX c10 c4 c9 (fun q => absurd hd (q d)) (fun _ _ _ _ _ _ _ _ _ _ => ⟨rfl, rfl⟩) (fun _ _ q => absurd hs q), sX7_share m4 m5 m3 m2 (fun q => absurd hd (q d)) (fun _ _ _ _ _ _ _ _ => ⟨rfl, fun q => absurd q (by decide)⟩) (fun _ _ q => absurd hs q)⟩
    · exact ⟨0, shr (bss d) ss, sX6_shareX c10 c4 c9 (fun q => absurd hd (q d)) (fun _ _ q => absurd q hs) (fun d' z _ _ _ _ _ _ _ _ => ⟨rfl, by rw [z.un hd]⟩), sX7_share m4 m5 m3 m2 (fun q => absurd hd (q d)) (fun _ _ q => absurd q hs) (fun d' z _ _ _ _ _ _ => ⟨rfl, fun _ => by rw [z.un hd]⟩)⟩
  · have hn : ∀ d, ¬ Thr ids p1 d := fun d hd => h ⟨d, hd⟩
    exact ⟨0, -101, sX6_shareX c10 c4 c9 (fun _ _ _ _ _ _ _ _ => ⟨rfl, rfl⟩) (fun d z => absurd z (hn d)) (fun d z => absurd z (hn d)), sX7_share m4 m5 m3 m2 (fun _ _ _ _ _ _ => ⟨rfl, fun _ => rfl⟩) (fun d z => absurd z (hn d)) (fun d z => absurd z (hn d))⟩
end BOTHX
