/-! PURE: class and reference, side by side -/
/-- what both hold: tape, samples, IDs, piece lengths, pieces, dictionaries, OUT, items, matches, TEXT -/
abbrev AbS : Type := List Nat × List (List Nat) × (Nat → Nat) × (Nat → Nat) × (Nat → Nat) × (Nat → List Nat) × List Nat × Nat × Nat × List Nat
def RC (a : AbS) (sc tl : Int32) (tf : Nat → Int32) (nid nl : Int32) (nf : Nat → Int32) (ol : Int32) (of : Nat → Int32) (it mt bl : Int32) (bf : Nat → Int32) (Dp Dc Di Dl : Nat → Int32) (Db : Nat → Nat → Int32) (Sl : Nat → Int32) (Sb : Nat → Nat → Int32) : Prop :=
  sc = nI a.2.1.length ∧ RR 200 tf tl a.1 ∧ nid = 0 ∧ RR 80 nf nl [] ∧ RR 200 of ol a.2.2.2.2.2.2.2.2.2 ∧ it = nI a.2.2.2.2.2.2.2.1 ∧ mt = nI a.2.2.2.2.2.2.2.2.1 ∧ RR 211 bf bl a.2.2.2.2.2.2.1 ∧ CD Di Dp Dc Dl Db a.2.2.1 a.2.2.2.1 a.2.2.2.2.1 a.2.2.2.2.2.1 ∧ CS Sb Sl a.2.1
def RM (a : AbS) (taped samples om it mt tm : Int32) (tape sl sb idOf pieces pieceLong bytesOf dict out text : Nat → Int32) : Prop :=
  MT 200 tape taped a.1 ∧ samples = nI a.2.1.length ∧ MS sl sb a.2.1 ∧ MId idOf a.2.2.1 ∧ MDs pieces pieceLong bytesOf dict a.2.2.2.1 a.2.2.2.2.1 a.2.2.2.2.2.1 ∧ MO out om a.2.2.2.2.2.2.1 ∧ it = nI a.2.2.2.2.2.2.2.1 ∧ mt = nI a.2.2.2.2.2.2.2.2.1 ∧ MT 200 text tm a.2.2.2.2.2.2.2.2.2
section BOTH
variable {sc tl nid nl ol it mt bl : Int32} {tf nf of bf Dp Dc Di Dl Sl : Nat → Int32} {Db Sb : Nat → Nat → Int32}
variable {taped samples om im mm tm : Int32} {tape sl sb idOf pieces pieceLong bytesOf dict out text : Nat → Int32}
theorem b_feed {a : AbS} (hC : RC a sc tl tf nid nl nf ol of it mt bl bf Dp Dc Di Dl Db Sl Sb) (hM : RM a taped samples om im mm tm tape sl sb idOf pieces pieceLong bytesOf dict out text) (p1 : Int32) (w : Int64) :
    ∃ (ans : Int32) (a' : AbS), wX6_feed 200 tl tf p1 w (fun r tl' tf' => r = ans ∧ RC a' sc tl' tf' nid nl nf ol of it mt bl bf Dp Dc Di Dl Db Sl Sb) ∧ wX7_feed taped tape p1 w (fun r _ taped' tape' => r = ans ∧ RM a' taped' samples om im mm tm tape' sl sb idOf pieces pieceLong bytesOf dict out text) := by
  obtain ⟨xs, ss, ids, ns, cs, bss, ou, i0, m0, ts⟩ := a
  obtain ⟨c1, c2, c3⟩ := id hC
  obtain ⟨m1, m2⟩ := id hM
  by_cases h1 : Rg p1 1 8
  · obtain ⟨n, n1, n8, e⟩ := h1.nI (by decide)
    subst e
    by_cases h2 : xs.length + n ≤ 200
    · refine ⟨nI (xs.length + n), (xs ++ fdL w n, ss, ids, ns, cs, bss, ou, i0, m0, ts), ?_, ?_⟩
      · refine sX6_feed c2 (fun q => absurd h1 q) (fun k k1 k8 ek q => ?_) (fun k k1 k8 ek q f' len' hr => ?_)
        · rw [nI_eq (by omega) (by omega)] at ek; subst ek; exact absurd h2 q
        · rw [nI_eq (by omega) (by omega)] at ek; subst ek; exact ⟨rfl, c1, hr, c3⟩
      · refine sX7_feed m1 (fun q => absurd h1 q) (fun k k1 k8 ek q => ?_) (fun k k1 k8 ek q f' len' hr => ?_)
        · rw [nI_eq (by omega) (by omega)] at ek; subst ek; exact absurd h2 q
        · rw [nI_eq (by omega) (by omega)] at ek; subst ek; exact ⟨rfl, hr, m2⟩
    · refine ⟨-103, _, sX6_feed c2 (fun q => absurd h1 q) (fun k k1 k8 ek q => ⟨rfl, hC⟩) (fun k k1 k8 ek q f' len' hr => ?_), sX7_feed m1 (fun q => absurd h1 q) (fun k k1 k8 ek q => ⟨rfl, hM⟩) (fun k k1 k8 ek q f' len' hr => ?_)⟩
      · rw [nI_eq (by omega) (by omega)] at ek; subst ek; exact absurd q h2
      · rw [nI_eq (by omega) (by omega)] at ek; subst ek; exact absurd q h2
  · exact ⟨-102, _, sX6_feed c2 (fun q => ⟨rfl, hC⟩) (fun k k1 k8 ek q => absurd (by rw [ek, Rg_nI (by omega)]; omega) h1) (fun k k1 k8 ek q f' len' hr => absurd (by rw [ek, Rg_nI (by omega)]; omega) h1), sX7_feed m1 (fun q => ⟨rfl, hM⟩) (fun k k1 k8 ek q => absurd (by rw [ek, Rg_nI (by omega)]; omega) h1) (fun k k1 k8 ek q f' len' hr => absurd (by rw [ek, Rg_nI (by omega)]; omega) h1)⟩
theorem b_sample {a : AbS} (hC : RC a sc tl tf nid nl nf ol of it mt bl bf Dp Dc Di Dl Db Sl Sb) (hM : RM a taped samples om im mm tm tape sl sb idOf pieces pieceLong bytesOf dict out text) :
    ∃ (ans : Int32) (a' : AbS), wX6_sample 200 sc tl tf Sl Sb (fun r sc' tl' Sl' Sb' => r = ans ∧ RC a' sc' tl' tf nid nl nf ol of it mt bl bf Dp Dc Di Dl Db Sl' Sb') ∧ wX7_sample taped samples tape sl sb (fun r _ taped' samples' sl' sb' => r = ans ∧ RM a' taped' samples' om im mm tm tape sl' sb' idOf pieces pieceLong bytesOf dict out text) := by
  obtain ⟨xs, ss, ids, ns, cs, bss, ou, i0, m0, ts⟩ := a
  obtain ⟨c1, c2, c3, c4, c5, c6, c7, c8, c9, c10⟩ := id hC
  obtain ⟨m1, m2, m3, m4⟩ := id hM
  subst c1
  by_cases h1 : 1 ≤ xs.length ∧ xs.length ≤ 40
  · by_cases h2 : ss.length < 8
    · refine ⟨nI ss.length, ([], ss ++ [xs], ids, ns, cs, bss, ou, i0, m0, ts), sX6_sample c2 c10 (fun q => absurd h1 q) (fun _ _ q => absurd (show ss.length = 8 from q) (by omega)) (fun _ _ _ Sl' Sb' hs => ⟨rfl, ?_, RR.nil _ (by decide), c3, c4, c5, c6, c7, c8, c9, hs⟩), sX7_sample m1 m3 m2 (fun q => absurd h1 q) (fun _ _ q => absurd (show ss.length = 8 from q) (by omega)) (fun _ _ _ sl' sb' hs => ⟨rfl, MT.nil _, ?_, hs, m4⟩)⟩
      · show _ = nI (ss ++ [xs]).length
        rw [List.length_append]; rfl
      · show _ = nI (ss ++ [xs]).length
        rw [List.length_append]; rfl
    · have h8 := c10.1
      exact ⟨-103, _, sX6_sample c2 c10 (fun q => absurd h1 q) (fun _ _ q => ⟨rfl, hC⟩) (fun _ _ q => absurd q h2), sX7_sample m1 m3 m2 (fun q => absurd h1 q) (fun _ _ q => ⟨rfl, hM⟩) (fun _ _ q => absurd q h2)⟩
  · exact ⟨-102, _, sX6_sample c2 c10 (fun q => ⟨rfl, hC⟩) (fun q1 q2 q => absurd ⟨q1, q2⟩ h1) (fun q1 q2 q => absurd ⟨q1, q2⟩ h1), sX7_sample m1 m3 m2 (fun q => ⟨rfl, hM⟩) (fun q1 q2 q => absurd ⟨q1, q2⟩ h1) (fun q1 q2 q => absurd ⟨q1, q2⟩ h1)⟩
theorem b_forget {a : AbS} (hC : RC a sc tl tf nid nl nf ol of it mt bl bf Dp Dc Di Dl Db Sl Sb) (hM : RM a taped samples om im mm tm tape sl sb idOf pieces pieceLong bytesOf dict out text) :
    ∃ (ans : Int32) (a' : AbS), wX6_forget sc (fun r sc' => r = ans ∧ RC a' sc' tl tf nid nl nf ol of it mt bl bf Dp Dc Di Dl Db Sl Sb) ∧ wX7_forget samples (fun r _ samples' => r = ans ∧ RM a' taped samples' om im mm tm tape sl sb idOf pieces pieceLong bytesOf dict out text) := by
  obtain ⟨xs, ss, ids, ns, cs, bss, ou, i0, m0, ts⟩ := a
  obtain ⟨c1, c2, c3, c4, c5, c6, c7, c8, c9, c10⟩ := id hC
  obtain ⟨m1, m2, m3, m4⟩ := id hM
  exact ⟨nI ss.length, (xs, [], ids, ns, cs, bss, ou, i0, m0, ts), ⟨c1, rfl, c2, c3, c4, c5, c6, c7, c8, c9, Nat.zero_le _, fun s hs => absurd hs (Nat.not_lt_zero s)⟩, ⟨m2, m1, rfl, ⟨Nat.zero_le _, fun s hs => absurd hs (Nat.not_lt_zero s)⟩, m4⟩⟩
theorem b_train {a : AbS} (hC : RC a sc tl tf nid nl nf ol of it mt bl bf Dp Dc Di Dl Db Sl Sb) (hM : RM a taped samples om im mm tm tape sl sb idOf pieces pieceLong bytesOf dict out text) (p1 p2 p3 p4 : Int32) (tc n0 pl : Int32) (pf cov kind cn ff tk0 : Nat → Int32) (tm0 : Int32) (cov0 t0 : Nat → Int32) :
    ∃ (ans : Int32) (a' : AbS), wX6_train 320 sc tc n0 pl pf cov kind cn ff tk0 Dp Dc Di Dl Db Sl Sb p1 p2 p3 p4 (fun r _ _ _ _ _ _ _ _ _ Dp' Dc' Di' Dl' Db' => r = ans ∧ RC a' sc tl tf nid nl nf ol of it mt bl bf Dp' Dc' Di' Dl' Db' Sl Sb) ∧ wX7_train samples tm0 sl sb idOf pieces pieceLong bytesOf dict cov0 t0 p1 p2 p3 p4 (fun r _ _ idOf' pieces' pieceLong' bytesOf' dict' _ _ => r = ans ∧ RM a' taped samples om im mm tm tape sl sb idOf' pieces' pieceLong' bytesOf' dict' out text) := by
  obtain ⟨xs, ss, ids, ns, cs, bss, ou, i0, m0, ts⟩ := a
  obtain ⟨c1, c2, c3, c4, c5, c6, c7, c8, c9, c10⟩ := id hC
  obtain ⟨m1, m2, m3, m4, m5, m6⟩ := id hM
  have h8 : ss.length ≤ 8 := c10.1
  have hsc : sc = nI ss.length := c1
  subst hsc
  by_cases h1 : Rg p1 0 5
  · by_cases h2 : Rg p2 1 255 ∧ Rg p3 2 8 ∧ Rg p4 0 80
    · by_cases h3 : ss.length = 0
      · refine ⟨-104, _, sX6_train0 (by omega) (fun q => absurd h1 q) (fun _ q => absurd h2 q) (fun _ _ _ => ⟨rfl, hC⟩) (fun z => z.2.2 h3), sX7_train0 (N := ss.length) (by omega) m2 (fun q => absurd h1 q) (fun _ q => absurd h2 q) (fun _ _ _ => ⟨rfl, hM⟩) (fun z => z.2.2 h3)⟩
      · obtain ⟨d, -, d5, ed⟩ := h1.nI (by decide)
        obtain ⟨i, i1, i255, ei⟩ := h2.1.nI (by decide)
        obtain ⟨n, n2, n8, en⟩ := h2.2.1.nI (by decide)
        obtain ⟨b, -, b80, eb⟩ := h2.2.2.nI (by decide)
        subst ed; subst ei; subst en; subst eb
        refine ⟨nI (trn ss n b 27 (fun _ => false) []).length, (xs, ss, updN ids d i, updN ns d n, updN cs d (trn ss n b 27 (fun _ => false) []).length, updN bss d (pcs ss n (trn ss n b 27 (fun _ => false) [])), ou, i0, m0, ts), ?_, ?_⟩
        · refine sX6_train c10 h3 (by omega) i1 i255 n2 n8 b80 fun tk etk a1 a2 a3 a4 a5 a6 a7 a8 a9 len f hr => ?_
          subst etk
          exact ⟨rfl, rfl, c2, c3, c4, c5, c6, c7, c8, c9.set (by omega) hr, c10⟩
        · refine sX7_train m3 m2 h3 (by omega) i1 i255 n2 n8 b80 fun tk etk tm' pl' dc' cv' tk' hMD hF => ?_
          subst etk
          exact ⟨rfl, m1, m2, m3, m4.set (by omega), m5.set hMD hF, m6⟩
    · exact ⟨-102, _, sX6_train0 (by omega) (fun q => absurd h1 q) (fun _ _ => ⟨rfl, hC⟩) (fun _ q => absurd q h2) (fun z => h2 z.2.1), sX7_train0 (N := ss.length) (by omega) m2 (fun q => absurd h1 q) (fun _ _ => ⟨rfl, hM⟩) (fun _ q => absurd q h2) (fun z => h2 z.2.1)⟩
  · exact ⟨-101, _, sX6_train0 (by omega) (fun _ => ⟨rfl, hC⟩) (fun q => absurd q h1) (fun q => absurd q h1) (fun z => h1 z.1), sX7_train0 (N := ss.length) (by omega) m2 (fun _ => ⟨rfl, hM⟩) (fun q => absurd q h1) (fun q => absurd q h1) (fun z => h1 z.1)⟩
theorem b_give {a : AbS} (hC : RC a sc tl tf nid nl nf ol of it mt bl bf Dp Dc Di Dl Db Sl Sb) (hM : RM a taped samples om im mm tm tape sl sb idOf pieces pieceLong bytesOf dict out text) (p1 p2 : Int32) (qw : Nat → Nat) :
    ∃ (ans : Int32) (a' : AbS), wX6_give 200 qw tl tf Dp Dc Di Dl Db p1 p2 (fun r tl' Dp' Dc' Di' Dl' Db' => r = ans ∧ RC a' sc tl' tf nid nl nf ol of it mt bl bf Dp' Dc' Di' Dl' Db' Sl Sb) ∧ wX7_give taped tape idOf pieces pieceLong bytesOf dict p1 p2 (fun r _ taped' idOf' pieces' pieceLong' bytesOf' dict' => r = ans ∧ RM a' taped' samples om im mm tm tape sl sb idOf' pieces' pieceLong' bytesOf' dict' out text) := by
  obtain ⟨xs, ss, ids, ns, cs, bss, ou, i0, m0, ts⟩ := a
  obtain ⟨c1, c2, c3, c4, c5, c6, c7, c8, c9, c10⟩ := id hC
  obtain ⟨m1, m2, m3, m4, m5, m6⟩ := id hM
  by_cases h : Rg p1 0 5 ∧ Rg p2 1 255 ∧ xs.length ≤ 80
  · obtain ⟨h1, h2, h3⟩ := h
    obtain ⟨d, -, d5, ed⟩ := h1.nI (by decide)
    obtain ⟨i, i1, i255, ei⟩ := h2.nI (by decide)
    subst ed; subst ei
    refine ⟨nI xs.length, ([], ss, updN ids d i, updN ns d xs.length, updN cs d (if xs.length = 0 then 0 else 1), updN bss d xs, ou, i0, m0, ts), ?_, ?_⟩
    · exact sX6_give c2 (by omega) i1 i255 h3 fun len f hr => ⟨rfl, c1, RR.nil _ (by decide), c3, c4, c5, c6, c7, c8, c9.set (by omega) hr, c10⟩
    · exact sX7_give m1 (by omega) i1 i255 h3 fun x pl' dc' hMD hF => ⟨rfl, MT.nil _, m2, m3, m4.set (by omega), m5.set hMD hF, m6⟩
  · by_cases h1 : Rg p1 0 5
    · exact ⟨-102, _, sX6_give0 c2 (fun q => absurd h1 q) (fun _ _ => ⟨rfl, hC⟩) h, sX7_give0 m1 (fun q => absurd h1 q) (fun _ _ => ⟨rfl, hM⟩) h⟩
    · exact ⟨-101, _, sX6_give0 c2 (fun _ => ⟨rfl, hC⟩) (fun q => absurd q h1) h, sX7_give0 m1 (fun _ => ⟨rfl, hM⟩) (fun q => absurd q h1) h⟩
theorem MDs.ok {pieces pieceLong bytesOf dict : Nat → Int32} {ns cs : Nat → Nat} {bss : Nat → List Nat} (h : MDs pieces pieceLong bytesOf dict ns cs bss) : ∀ d, d < 6 → (bss d).length = ns d * cs d ∧ cs d ≤ 80 ∧ ns d ≤ 80 := fun d hd => by
  obtain ⟨g1, g2, g3, g4, g5, g6, -⟩ := h d hd
  exact ⟨g3, g5, g6⟩
theorem b_trim {a : AbS} (hC : RC a sc tl tf nid nl nf ol of it mt bl bf Dp Dc Di Dl Db Sl Sb) (hM : RM a taped samples om im mm tm tape sl sb idOf pieces pieceLong bytesOf dict out text) (p1 : Int32) (qw : Nat → Nat) (trl s0 l0 : Int32) (trf j0 e0 a0 c0 h0 : Nat → Int32) (ah0 tx0 : Int32) (row cost leastD : Nat → Int32) :
    ∃ (ans : Int32) (a' : AbS), wX6_trim 80 qw sc trl trf s0 l0 j0 e0 a0 c0 h0 Dp Dc Di Dl Db Sl Sb p1 (fun r _ _ _ _ _ _ _ _ _ Dc' Dl' Db' => r = ans ∧ RC a' sc tl tf nid nl nf ol of it mt bl bf Dp Dc' Di Dl' Db' Sl Sb) ∧ wX7_trim samples ah0 tx0 sl sb idOf pieces pieceLong bytesOf dict row cost leastD p1 (fun r _ _ _ pieces' pieceLong' bytesOf' dict' _ _ _ => r = ans ∧ RM a' taped samples om im mm tm tape sl sb idOf pieces' pieceLong' bytesOf' dict' out text) := by
  obtain ⟨xs, ss, ids, ns, cs, bss, ou, i0, m0, ts⟩ := a
  obtain ⟨c1, c2, c3, c4, c5, c6, c7, c8, c9, c10⟩ := id hC
  obtain ⟨m1, m2, m3, m4, m5, m6⟩ := id hM
  have hsc : sc = nI ss.length := c1
  subst hsc
  by_cases h : ∃ d, Thr ids p1 d
  · obtain ⟨d, hd⟩ := h
    by_cases h0 : ss.length = 0
    · exact ⟨-104, _, sX6_trim c10 c9 m5.ok (fun q => absurd hd (q d)) (fun _ _ _ => ⟨rfl, hC⟩) (fun _ _ q => absurd h0 q), sX7_trim0 m4 m3 m2 (fun q => absurd hd (q d)) (fun _ _ _ => ⟨rfl, hM⟩) (fun _ _ => h0)⟩
    · refine ⟨nI (cs d - (trm ss (ns d) (cs d) 0 (cs d) (bss d)).1), (xs, ss, ids, updN ns d (ns d), updN cs d (trm ss (ns d) (cs d) 0 (cs d) (bss d)).1, updN bss d (trm ss (ns d) (cs d) 0 (cs d) (bss d)).2, ou, i0, m0, ts), ?_, ?_⟩
      · refine sX6_trim c10 c9 m5.ok (fun q => absurd hd (q d)) (fun _ _ q => absurd q h0) (fun d' hd' _ t1 t2 s l j e a c hh len f hr => ?_)
        have := hd'.un hd
        subst this
        exact ⟨rfl, rfl, c2, c3, c4, c5, c6, c7, c8, c9.set3 hd.2.2 hr, c10⟩
      · obtain ⟨d1, d2, d3⟩ := hd
        subst d2
        exact sX7_trim m4 m3 m2 h0 d1 d3 (m5 d d1) fun x y pl' dc' a t r cc l hMD hF => ⟨rfl, m1, m2, m3, m4, m5.set hMD hF, m6⟩
  · have hn : ∀ d, ¬ Thr ids p1 d := fun d hd => h ⟨d, hd⟩
    exact ⟨-101, _, sX6_trim c10 c9 m5.ok (fun _ => ⟨rfl, hC⟩) (fun d q => absurd q (hn d)) (fun d q => absurd q (hn d)), sX7_trim0 m4 m3 m2 (fun _ => ⟨rfl, hM⟩) (fun d q => absurd q (hn d)) (fun d q => absurd q (hn d))⟩
theorem b_drop {a : AbS} (hC : RC a sc tl tf nid nl nf ol of it mt bl bf Dp Dc Di Dl Db Sl Sb) (hM : RM a taped samples om im mm tm tape sl sb idOf pieces pieceLong bytesOf dict out text) (p1 : Int32) :
    ∃ (ans : Int32) (a' : AbS), wX6_drop Dp Dc Di Dl p1 (fun r Dp' Dc' Di' Dl' => r = ans ∧ RC a' sc tl tf nid nl nf ol of it mt bl bf Dp' Dc' Di' Dl' Db Sl Sb) ∧ wX7_drop idOf pieces p1 (fun r _ idOf' => r = ans ∧ RM a' taped samples om im mm tm tape sl sb idOf' pieces pieceLong bytesOf dict out text) := by
  obtain ⟨xs, ss, ids, ns, cs, bss, ou, i0, m0, ts⟩ := a
  obtain ⟨c1, c2, c3, c4, c5, c6, c7, c8, c9, c10⟩ := id hC
  obtain ⟨m1, m2, m3, m4, m5, m6⟩ := id hM
  by_cases h : ∃ d, Thr ids p1 d
  · obtain ⟨d, hd⟩ := h
    refine ⟨nI (cs d), (xs, ss, updN ids d 0, ns, cs, bss, ou, i0, m0, ts), sX6_drop c9.id (fun d' hd' => ?_) (fun q => absurd hd (q d)), sX7_drop m4 (fun d' hd' => ?_) (fun q => absurd hd (q d))⟩
    · have := hd'.un hd
      subst this
      exact ⟨((c9 d' hd.1).2.2 hd.2.2).2.1, c1, c2, c3, c4, c5, c6, c7, c8, c9.drop, c10⟩
    · have := hd'.un hd
      subst this
      exact ⟨(m5 d' hd.1).1, m1, m2, m3, m4.set (i := 0) (by decide), m5, m6⟩
  · have hn : ∀ d, ¬ Thr ids p1 d := fun d hd => h ⟨d, hd⟩
    exact ⟨-101, _, sX6_drop c9.id (fun d q => absurd q (hn d)) (fun _ => ⟨rfl, hC⟩), sX7_drop m4 (fun d q => absurd q (hn d)) (fun _ => ⟨rfl, hM⟩)⟩
theorem b_told {a : AbS} (hC : RC a sc tl tf nid nl nf ol of it mt bl bf Dp Dc Di Dl Db Sl Sb) (hM : RM a taped samples om im mm tm tape sl sb idOf pieces pieceLong bytesOf dict out text) (p1 p2 : Int32) (qw : Nat → Nat) :
    ∃ (ans : Int32), wX6_told qw Dp Dc Di Dl Db p1 p2 (fun r => r = ans) ∧ wX7_told idOf pieces pieceLong bytesOf dict p1 p2 (fun r _ => r = ans) := by
  obtain ⟨xs, ss, ids, ns, cs, bss, ou, i0, m0, ts⟩ := a
  obtain ⟨c1, c2, c3, c4, c5, c6, c7, c8, c9, c10⟩ := id hC
  obtain ⟨m1, m2, m3, m4, m5, m6⟩ := id hM
  have hok : ∀ d, d < 6 → cs d ≤ 80 := fun d hd => (m5.ok d hd).2.1
  by_cases h : ∃ d, Thr ids p1 d
  · obtain ⟨d, hd⟩ := h
    have key : ∀ (ans : Int32), (p2 = 0 → nI (ids d) = ans) → (p2 = 1 → nI (cs d) = ans) → (p2 = 2 → nI (bss d).length = ans) → (p2 = 3 → nI (sumN (bss d)) = ans) → (∀ k, k < cs d → p2 = nI (10 + k) → nI (ns d) = ans) → (¬ p2 = 0 → ¬ p2 = 1 → ¬ p2 = 2 → ¬ p2 = 3 → (∀ k, k < cs d → ¬ p2 = nI (10 + k)) → (-102 : Int32) = ans) → wX6_told qw Dp Dc Di Dl Db p1 p2 (fun r => r = ans) ∧ wX7_told idOf pieces pieceLong bytesOf dict p1 p2 (fun r _ => r = ans) := fun ans a0 a1 a2 a3 a4 a5 => by
      refine ⟨sX6_told c9 hok (fun q => absurd hd (q d)) (fun d' h' q => ?_) (fun d' h' q => ?_) (fun d' h' q => ?_) (fun d' h' q => ?_) (fun d' h' => ?_) (fun d' h' => ?_), ?_⟩
      · rw [h'.un hd]; exact a0 q
      · rw [h'.un hd]; exact a1 q
      · rw [h'.un hd]; exact a2 q
      · rw [h'.un hd]; exact a3 q
      · rw [h'.un hd]; exact a4
      · rw [h'.un hd]; exact a5
      · obtain ⟨d1, d2, d3⟩ := hd
        subst d2
        exact sX7_told d1 m4 rfl d3 (m5 d d1) a0 a1 a2 a3 a4 a5
    have lits : (¬ (0 : Int32) = 1) ∧ (¬ (0 : Int32) = 2) ∧ (¬ (0 : Int32) = 3) ∧ (¬ (1 : Int32) = 2) ∧ (¬ (1 : Int32) = 3) ∧ ¬ (2 : Int32) = 3 := by decide
    have small : ∀ x : Int32, x = 0 ∨ x = 1 ∨ x = 2 ∨ x = 3 → ∀ k, k < cs d → ¬ x = nI (10 + k) := fun x hx k hk e => by
      have h80 := hok d hd.1
      rcases hx with q | q | q | q
      · rw [q, show (0 : Int32) = nI 0 from rfl, nI_eq (by decide) (by omega)] at e; omega
      · rw [q, show (1 : Int32) = nI 1 from rfl, nI_eq (by decide) (by omega)] at e; omega
      · rw [q, show (2 : Int32) = nI 2 from rfl, nI_eq (by decide) (by omega)] at e; omega
      · rw [q, show (3 : Int32) = nI 3 from rfl, nI_eq (by decide) (by omega)] at e; omega
    by_cases q0 : p2 = 0
    · subst q0
      exact ⟨_, key _ (fun _ => rfl) (fun q => absurd q lits.1) (fun q => absurd q lits.2.1) (fun q => absurd q lits.2.2.1) (fun k hk e => absurd e (small 0 (Or.inl rfl) k hk)) (fun q => absurd rfl q)⟩
    · by_cases q1 : p2 = 1
      · subst q1
        exact ⟨_, key _ (fun q => absurd q q0) (fun _ => rfl) (fun q => absurd q lits.2.2.2.1) (fun q => absurd q lits.2.2.2.2.1) (fun k hk e => absurd e (small 1 (Or.inr (Or.inl rfl)) k hk)) (fun _ q => absurd rfl q)⟩
      · by_cases q2 : p2 = 2
        · subst q2
          exact ⟨_, key _ (fun q => absurd q q0) (fun q => absurd q q1) (fun _ => rfl) (fun q => absurd q lits.2.2.2.2.2) (fun k hk e => absurd e (small 2 (Or.inr (Or.inr (Or.inl rfl))) k hk)) (fun _ _ q => absurd rfl q)⟩
        · by_cases q3 : p2 = 3
          · subst q3
            exact ⟨_, key _ (fun q => absurd q q0) (fun q => absurd q q1) (fun q => absurd q q2) (fun _ => rfl) (fun k hk e => absurd e (small 3 (Or.inr (Or.inr (Or.inr rfl))) k hk)) (fun _ _ _ q => absurd rfl q)⟩
          · by_cases q4 : ∃ k, k < cs d ∧ p2 = nI (10 + k)
            · obtain ⟨k, hk, e⟩ := q4
              exact ⟨_, key _ (fun q => absurd q q0) (fun q => absurd q q1) (fun q => absurd q q2) (fun q => absurd q q3) (fun _ _ _ => rfl) (fun _ _ _ _ q => absurd e (q k hk))⟩
            · exact ⟨_, key _ (fun q => absurd q q0) (fun q => absurd q q1) (fun q => absurd q q2) (fun q => absurd q q3) (fun k hk e => absurd ⟨k, hk, e⟩ q4) (fun _ _ _ _ _ => rfl)⟩
  · have hn : ∀ d, ¬ Thr ids p1 d := fun d hd => h ⟨d, hd⟩
    exact ⟨-101, sX6_told c9 hok (fun _ => rfl) (fun d q => absurd q (hn d)) (fun d q => absurd q (hn d)) (fun d q => absurd q (hn d)) (fun d q => absurd q (hn d)) (fun d q => absurd q (hn d)) (fun d q => absurd q (hn d)), sX7_told0 m4 hn rfl⟩
theorem b_pack {a : AbS} (hC : RC a sc tl tf nid nl nf ol of it mt bl bf Dp Dc Di Dl Db Sl Sb) (hM : RM a taped samples om im mm tm tape sl sb idOf pieces pieceLong bytesOf dict out text) (p1 : Int32) (qw : Nat → Nat) (an ao : Nat) (s0 l0 : Int32) (j0 e0 a0 c0 h0 : Nat → Int32) (ah0 tx0 : Int32) (row cost leastD : Nat → Int32) :
    ∃ (ans : Int32) (a' : AbS), wX6_pack 200 80 211 an ao qw tl tf nid nl nf it mt bl bf s0 l0 j0 e0 a0 c0 h0 Di Dl Db p1 (fun r tl' it' mt' bl' bf' _ _ _ _ _ _ _ => r = ans ∧ RC a' sc tl' tf nid nl nf ol of it' mt' bl' bf' Dp Dc Di Dl Db Sl Sb) ∧ wX7_pack taped ah0 tx0 om im mm tape idOf pieceLong bytesOf dict row cost leastD out p1 (fun r _ taped' _ _ om' im' mm' _ _ _ out' => r = ans ∧ RM a' taped' samples om' im' mm' tm tape sl sb idOf pieces pieceLong bytesOf dict out' text) := by
  obtain ⟨xs, ss, ids, ns, cs, bss, ou, i0, m0, ts⟩ := a
  obtain ⟨c1, c2, c3, c4, c5, c6, c7, c8, c9, c10⟩ := id hC
  obtain ⟨m1, m2, m3, m4, m5, m6, m7, m8, m9⟩ := id hM
  have hn0 : nid = 0 := c3
  subst hn0
  have key : ∀ i ws, ((p1 = -1 ∧ i = 0 ∧ ws = []) ∨ ∃ d, Thr ids p1 d ∧ i = ids d ∧ ws = bss d) → ∃ (ans : Int32) (a' : AbS), wX6_pack 200 80 211 an ao qw tl tf 0 nl nf it mt bl bf s0 l0 j0 e0 a0 c0 h0 Di Dl Db p1 (fun r tl' it' mt' bl' bf' _ _ _ _ _ _ _ => r = ans ∧ RC a' sc tl' tf 0 nl nf ol of it' mt' bl' bf' Dp Dc Di Dl Db Sl Sb) ∧ wX7_pack taped ah0 tx0 om im mm tape idOf pieceLong bytesOf dict row cost leastD out p1 (fun r _ taped' _ _ om' im' mm' _ _ _ out' => r = ans ∧ RM a' taped' samples om' im' mm' tm tape sl sb idOf pieces pieceLong bytesOf dict out' text) := by
    intro i ws hiw
    have un : ∀ i' ws', ((p1 = -1 ∧ i' = 0 ∧ ws' = []) ∨ ∃ d, Thr ids p1 d ∧ i' = ids d ∧ ws' = bss d) → i' = i ∧ ws' = ws := fun i' ws' hiw' => by
      rcases hiw with ⟨q1, q2, q3⟩ | ⟨d, q1, q2, q3⟩ <;> rcases hiw' with ⟨r1, r2, r3⟩ | ⟨d', r1, r2, r3⟩
      · exact ⟨r2.trans q2.symm, r3.trans q3.symm⟩
      · obtain ⟨z1, z2, z3⟩ := r1
        exact absurd (z2.symm.trans q1) (nI_ne_m1 (by omega))
      · obtain ⟨z1, z2, z3⟩ := q1
        exact absurd (z2.symm.trans r1) (nI_ne_m1 (by omega))
      · have := q1.un r1
        subst this
        exact ⟨r2.trans q2.symm, r3.trans q3.symm⟩
    have none_no : ∀ {P : Prop}, ¬ p1 = -1 → (∀ d, ¬ Thr ids p1 d) → P := fun q z => by
      rcases hiw with ⟨q1, -⟩ | ⟨d, q1, -⟩
      · exact absurd q1 q
      · exact absurd q1 (z d)
    refine ⟨nI (packN ws xs), ([], ss, ids, ns, cs, bss, outAll i ws xs, outIt ws xs, outMt ws xs, ts), ?_, ?_⟩
    · refine sX6_pack c2 c4 c9 none_no (fun i' ws' h' ol' of' s l j e a c hh hr => ?_)
      obtain ⟨e1, e2⟩ := un i' ws' h'
      subst e1; subst e2
      exact ⟨rfl, c1, RR.nil _ (by decide), c3, c4, c5, rfl, rfl, hr, c9, c10⟩
    · refine sX7_pack m1 m4 m5 none_no (fun i' ws' h' a t om' r c l out' hO => ?_)
      obtain ⟨e1, e2⟩ := un i' ws' h'
      subst e1; subst e2
      exact ⟨rfl, MT.nil _, m2, m3, m4, m5, hO, rfl, rfl, m9⟩
  by_cases h6 : p1 = -1
  · exact key 0 [] (Or.inl ⟨h6, rfl, rfl⟩)
  · by_cases h : ∃ d, Thr ids p1 d
    · obtain ⟨d, hd⟩ := h
      exact key (ids d) (bss d) (Or.inr ⟨d, hd, rfl, rfl⟩)
    · have hn : ∀ d, ¬ Thr ids p1 d := fun d hd => h ⟨d, hd⟩
      have no : ∀ {P : Prop} i ws, ((p1 = -1 ∧ i = 0 ∧ ws = []) ∨ ∃ d, Thr ids p1 d ∧ i = ids d ∧ ws = bss d) → P := fun i ws z => by
        rcases z with ⟨q1, -⟩ | ⟨d, q1, -⟩
        · exact absurd q1 h6
        · exact absurd q1 (hn d)
      exact ⟨-101, _, sX6_pack c2 c4 c9 (fun _ _ => ⟨rfl, hC⟩) (fun i ws z => no i ws z), sX7_pack m1 m4 m5 (fun _ _ => ⟨rfl, hM⟩) (fun i ws z => no i ws z)⟩
theorem b_open {a : AbS} (hC : RC a sc tl tf nid nl nf ol of it mt bl bf Dp Dc Di Dl Db Sl Sb) (hM : RM a taped samples om im mm tm tape sl sb idOf pieces pieceLong bytesOf dict out text) (qw : Nat → Nat) (an : Nat) (st wa pc jl : Int32) (jf : Nat → Int32) (ah0 tx0 : Int32) (row : Nat → Int32) :
    ∃ (ans : Int32) (a' : AbS), wX6_open 200 80 200 280 an qw tl tf nid nl nf ol of st wa pc jl jf Di Dl Db (fun r tl' ol' of' _ _ _ _ _ => r = ans ∧ RC a' sc tl' tf nid nl nf ol' of' it mt bl bf Dp Dc Di Dl Db Sl Sb) ∧ wX7_open taped ah0 tx0 tm tape idOf pieceLong bytesOf dict row text (fun r _ taped' _ _ tm' _ text' => r = ans ∧ RM a' taped' samples om im mm tm' tape sl sb idOf pieces pieceLong bytesOf dict out text') := by
  obtain ⟨xs, ss, ids, ns, cs, bss, ou, i0, m0, ts⟩ := a
  obtain ⟨c1, c2, c3, c4, c5, c6, c7, c8, c9, c10⟩ := id hC
  obtain ⟨m1, m2, m3, m4, m5, m6, m7, m8, m9⟩ := id hM
  have hn0 : nid = 0 := c3
  subst hn0
  cases ho : (opA ids bss xs).1 with
  | some w =>
    refine ⟨(-200) - nI w, ([], ss, ids, ns, cs, bss, ou, i0, m0, ts), sX6_open c2 c4 c9 (fun w' hw' _ a b c d e => ?_) (fun h => absurd (ho.symm.trans h) (by simp)), sX7_open m1 m4 m5 (fun w' hw' _ a t r => ?_) (fun h => absurd (ho.symm.trans h) (by simp))⟩
    · rw [Option.some.inj (hw'.symm.trans ho)]
      exact ⟨rfl, c1, RR.nil _ (by decide), c3, c4, c5, c6, c7, c8, c9, c10⟩
    · rw [Option.some.inj (hw'.symm.trans ho)]
      exact ⟨rfl, MT.nil _, m2, m3, m4, m5, m6, m7, m8, m9⟩
  | none =>
    exact ⟨nI (opA ids bss xs).2.length, ([], ss, ids, ns, cs, bss, ou, i0, m0, (opA ids bss xs).2), sX6_open c2 c4 c9 (fun w' hw' => absurd (ho.symm.trans hw') (by simp)) (fun _ of' a b c d e hr => ⟨rfl, c1, RR.nil _ (by decide), c3, c4, hr, c6, c7, c8, c9, c10⟩), sX7_open m1 m4 m5 (fun w' hw' => absurd (ho.symm.trans hw') (by simp)) (fun _ a t r text' hT => ⟨rfl, MT.nil _, m2, m3, m4, m5, m6, m7, m8, hT⟩)⟩
theorem b_size {a : AbS} (hC : RC a sc tl tf nid nl nf ol of it mt bl bf Dp Dc Di Dl Db Sl Sb) (hM : RM a taped samples om im mm tm tape sl sb idOf pieces pieceLong bytesOf dict out text) (p1 p2 : Int32) (qw : Nat → Nat) (an : Nat) (s0 l0 : Int32) (j0 e0 a0 c0 h0 : Nat → Int32) (ah0 tx0 : Int32) (row cost leastD : Nat → Int32) :
    ∃ (ans : Int32), wX6_size 80 an qw sc nl nf s0 l0 j0 e0 a0 c0 h0 Di Dl Db Sl Sb p1 p2 (fun r _ _ _ _ _ _ _ => r = ans) ∧ wX7_size samples ah0 tx0 sl sb idOf pieceLong bytesOf dict row cost leastD p1 p2 (fun r _ _ _ _ _ _ => r = ans) := by
  obtain ⟨xs, ss, ids, ns, cs, bss, ou, i0, m0, ts⟩ := a
  obtain ⟨c1, c2, c3, c4, c5, c6, c7, c8, c9, c10⟩ := id hC
  obtain ⟨m1, m2, m3, m4, m5, m6, m7, m8, m9⟩ := id hM
  have hsc : sc = nI ss.length := c1
  subst hsc
  have h8 : ss.length ≤ 8 := c10.1
  by_cases hs : ∃ s, s < ss.length ∧ p1 = nI s
  · obtain ⟨s, hs, es⟩ := hs
    have un : ∀ s', s' < ss.length → p1 = nI s' → s' = s := fun s' h' e' => by
      rw [es, nI_eq (by omega) (by omega)] at e'; exact e'.symm
    by_cases h6 : p2 = -1
    · have no : ∀ d, ¬ Thr ids p2 d := fun d z => absurd (z.2.1.symm.trans h6) (nI_ne_m1 (by have := z.1; omega))
      refine ⟨nI (packN [] (ss.getD s [])), sX6_size c10 c4 c9 (fun z => ?_) (fun s' h' e' _ _ _ _ _ _ _ _ => by rw [un s' h' e']) (fun s' h' e' d z => absurd z (no d)), sX7_size m4 m5 m3 m2 (fun z => ?_) (fun s' h' e' _ _ _ _ _ _ => by rw [un s' h' e']) (fun s' h' e' d z => absurd z (no d))⟩
      · rcases z with z | z
        · exact absurd es (z s hs)
        · exact absurd h6 z.1
      · rcases z with z | z
        · exact absurd es (z s hs)
        · exact absurd h6 z.1
    · by_cases h : ∃ d, Thr ids p2 d
      · obtain ⟨d, hd⟩ := h
        refine ⟨nI (packN (bss d) (ss.getD s [])), sX6_size c10 c4 c9 (fun z => ?_) (fun s' h' e' q => absurd q h6) (fun s' h' e' d' z _ _ _ _ _ _ _ => by rw [un s' h' e', z.un hd]), sX7_size m4 m5 m3 m2 (fun z => ?_) (fun s' h' e' q => absurd q h6) (fun s' h' e' d' z _ _ _ _ _ => by rw [un s' h' e', z.un hd])⟩
        · rcases z with z | z
          · exact absurd es (z s hs)
          · exact absurd hd (z.2 d)
        · rcases z with z | z
          · exact absurd es (z s hs)
          · exact absurd hd (z.2 d)
      · have hn : ∀ d, ¬ Thr ids p2 d := fun d hd => h ⟨d, hd⟩
        exact ⟨-101, sX6_size c10 c4 c9 (fun _ _ _ _ _ _ _ _ => rfl) (fun s' h' e' q => absurd q h6) (fun s' h' e' d z => absurd z (hn d)), sX7_size m4 m5 m3 m2 (fun _ _ _ _ _ _ => rfl) (fun s' h' e' q => absurd q h6) (fun s' h' e' d z => absurd z (hn d))⟩
  · have hn : ∀ s, s < ss.length → ¬ p1 = nI s := fun s h e => hs ⟨s, h, e⟩
    exact ⟨-101, sX6_size c10 c4 c9 (fun _ _ _ _ _ _ _ _ => rfl) (fun s' h' e' => absurd e' (hn s' h')) (fun s' h' e' => absurd e' (hn s' h')), sX7_size m4 m5 m3 m2 (fun _ _ _ _ _ _ => rfl) (fun s' h' e' => absurd e' (hn s' h')) (fun s' h' e' => absurd e' (hn s' h'))⟩
theorem b_best {a : AbS} (hC : RC a sc tl tf nid nl nf ol of it mt bl bf Dp Dc Di Dl Db Sl Sb) (hM : RM a taped samples om im mm tm tape sl sb idOf pieces pieceLong bytesOf dict out text) (p1 : Int32) (qw : Nat → Nat) (an : Nat) (s0 l0 : Int32) (j0 e0 a0 c0 h0 : Nat → Int32) (ah0 tx0 : Int32) (row cost leastD : Nat → Int32) :
    ∃ (ans : Int32), wX6_best 80 an qw sc nl nf s0 l0 j0 e0 a0 c0 h0 Di Dl Db Sl Sb p1 (fun r _ _ _ _ _ _ _ => r = ans) ∧ wX7_best samples ah0 tx0 sl sb idOf pieceLong bytesOf dict row cost leastD p1 (fun r _ _ _ _ _ _ => r = ans) := by
  obtain ⟨xs, ss, ids, ns, cs, bss, ou, i0, m0, ts⟩ := a
  obtain ⟨c1, c2, c3, c4, c5, c6, c7, c8, c9, c10⟩ := id hC
  obtain ⟨m1, m2, m3, m4, m5, m6, m7, m8, m9⟩ := id hM
  have hsc : sc = nI ss.length := c1
  subst hsc
  have h8 : ss.length ≤ 8 := c10.1
  by_cases hs : ∃ s, s < ss.length ∧ p1 = nI s
  · obtain ⟨s, hs, es⟩ := hs
    have un : ∀ s', s' < ss.length → p1 = nI s' → s' = s := fun s' h' e' => by
      rw [es, nI_eq (by omega) (by omega)] at e'; exact e'.symm
    exact ⟨optI (bsf ids bss (ss.getD s []) 6).1, sX6_best c10 c4 c9 (fun z => absurd es (z s hs)) (fun s' h' e' _ _ _ _ _ _ _ => by rw [un s' h' e']), sX7_best m4 m5 m3 m2 (fun z => absurd es (z s hs)) (fun s' h' e' _ _ _ _ _ => by rw [un s' h' e'])⟩
  · have hn : ∀ s, s < ss.length → ¬ p1 = nI s := fun s h e => hs ⟨s, h, e⟩
    exact ⟨-101, sX6_best c10 c4 c9 (fun _ _ _ _ _ _ _ _ => rfl) (fun s' h' e' => absurd e' (hn s' h')), sX7_best m4 m5 m3 m2 (fun _ _ _ _ _ _ => rfl) (fun s' h' e' => absurd e' (hn s' h'))⟩
theorem b_about {a : AbS} (hC : RC a sc tl tf nid nl nf ol of it mt bl bf Dp Dc Di Dl Db Sl Sb) (hM : RM a taped samples om im mm tm tape sl sb idOf pieces pieceLong bytesOf dict out text) (p1 : Int32) (ao : Nat) :
    ∃ (ans : Int32), wX6_about ao sc tl ol it mt bl Di p1 (fun r => r = ans) ∧ wX7_about taped samples om im mm tm idOf p1 (fun r _ => r = ans) := by
  obtain ⟨xs, ss, ids, ns, cs, bss, ou, i0, m0, ts⟩ := a
  obtain ⟨c1, c2, c3, c4, c5, c6, c7, c8, c9, c10⟩ := id hC
  obtain ⟨m1, m2, m3, m4, m5, m6, m7, m8, m9⟩ := id hM
  obtain ⟨ans, ha⟩ : ∃ ans : Int32, (p1 = 0 → nI xs.length = ans) ∧ (p1 = 1 → nI ss.length = ans) ∧ (p1 = 2 → nI (cnt6 ids 6) = ans) ∧ (p1 = 3 → nI ou.length = ans) ∧ (p1 = 4 → nI ts.length = ans) ∧ (p1 = 5 → nI i0 = ans) ∧ (p1 = 6 → nI m0 = ans) ∧ (¬ p1 = 0 → ¬ p1 = 1 → ¬ p1 = 2 → ¬ p1 = 3 → ¬ p1 = 4 → ¬ p1 = 5 → ¬ p1 = 6 → (-102 : Int32) = ans) := by
    by_cases q0 : p1 = 0
    · subst q0; exact ⟨_, fun _ => rfl, fun q => absurd q (by decide), fun q => absurd q (by decide), fun q => absurd q (by decide), fun q => absurd q (by decide), fun q => absurd q (by decide), fun q => absurd q (by decide), fun q => absurd rfl q⟩
    · by_cases q1 : p1 = 1
      · subst q1; exact ⟨_, fun q => absurd q q0, fun _ => rfl, fun q => absurd q (by decide), fun q => absurd q (by decide), fun q => absurd q (by decide), fun q => absurd q (by decide), fun q => absurd q (by decide), fun _ q => absurd rfl q⟩
      · by_cases q2 : p1 = 2
        · subst q2; exact ⟨_, fun q => absurd q q0, fun q => absurd q q1, fun _ => rfl, fun q => absurd q (by decide), fun q => absurd q (by decide), fun q => absurd q (by decide), fun q => absurd q (by decide), fun _ _ q => absurd rfl q⟩
        · by_cases q3 : p1 = 3
          · subst q3; exact ⟨_, fun q => absurd q q0, fun q => absurd q q1, fun q => absurd q q2, fun _ => rfl, fun q => absurd q (by decide), fun q => absurd q (by decide), fun q => absurd q (by decide), fun _ _ _ q => absurd rfl q⟩
          · by_cases q4 : p1 = 4
            · subst q4; exact ⟨_, fun q => absurd q q0, fun q => absurd q q1, fun q => absurd q q2, fun q => absurd q q3, fun _ => rfl, fun q => absurd q (by decide), fun q => absurd q (by decide), fun _ _ _ _ q => absurd rfl q⟩
            · by_cases q5 : p1 = 5
              · subst q5; exact ⟨_, fun q => absurd q q0, fun q => absurd q q1, fun q => absurd q q2, fun q => absurd q q3, fun q => absurd q q4, fun _ => rfl, fun q => absurd q (by decide), fun _ _ _ _ _ q => absurd rfl q⟩
              · by_cases q6 : p1 = 6
                · subst q6; exact ⟨_, fun q => absurd q q0, fun q => absurd q q1, fun q => absurd q q2, fun q => absurd q q3, fun q => absurd q q4, fun q => absurd q q5, fun _ => rfl, fun _ _ _ _ _ _ q => absurd rfl q⟩
                · exact ⟨_, fun q => absurd q q0, fun q => absurd q q1, fun q => absurd q q2, fun q => absurd q q3, fun q => absurd q q4, fun q => absurd q q5, fun q => absurd q q6, fun _ _ _ _ _ _ _ => rfl⟩
  obtain ⟨a0, a1, a2, a3, a4, a5, a6, a7⟩ := ha
  have e1 : sc = nI ss.length := c1
  have e2 : tl = nI xs.length := c2.1
  have e3 : ol = nI ts.length := c5.1
  have e4 : it = nI i0 := c6
  have e5 : mt = nI m0 := c7
  have e6 : bl = nI ou.length := c8.1
  have f1 : taped = nI xs.length := m1.1
  have f2 : samples = nI ss.length := m2
  have f3 : om = nI ou.length := m6.1
  have f4 : im = nI i0 := m7
  have f5 : mm = nI m0 := m8
  have f6 : tm = nI ts.length := m9.1
  subst e1; subst e2; subst e3; subst e4; subst e5; subst e6; subst f1; subst f2; subst f3; subst f4; subst f5; subst f6
  exact ⟨ans, sX6_about c9.id a0 a1 a2 a3 a4 a5 a6 a7, sX7_about m4 a0 a1 a2 a3 a4 a5 a6 a7⟩
end BOTH
