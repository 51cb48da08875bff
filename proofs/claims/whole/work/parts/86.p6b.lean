/-! PURE: the class itself, continued -/
theorem CD.set {Di Dp Dc Dl : Nat → Int32} {Db : Nat → Nat → Int32} {ids ns cs : Nat → Nat} {bss : Nat → List Nat} (h : CD Di Dp Dc Dl Db ids ns cs bss) {d i n c : Nat} {f : Nat → Int32} {len : Int32} {bs : List Nat} (hi : i < 256) (hr : RR 80 f len bs) : CD (va_up Di d (nI i)) (va_up Dp d (nI n)) (va_up Dc d (nI c)) (va_up Dl d len) (va_up Db d f) (updN ids d i) (updN ns d n) (updN cs d c) (updN bss d bs) := by
  intro e he
  by_cases hed : e = d
  · subst hed
    rw [updN_s, updN_s, updN_s, updN_s, va_up_self, va_up_self, va_up_self, va_up_self, va_up_self]
    exact ⟨rfl, hi, fun _ => ⟨rfl, rfl, hr⟩⟩
  · rw [updN_n hed, updN_n hed, updN_n hed, updN_n hed, va_up_ne _ _ hed, va_up_ne _ _ hed, va_up_ne _ _ hed, va_up_ne _ _ hed, va_up_ne _ _ hed]
    exact h e he
theorem CD.set3 {Di Dp Dc Dl : Nat → Int32} {Db : Nat → Nat → Int32} {ids ns cs : Nat → Nat} {bss : Nat → List Nat} (h : CD Di Dp Dc Dl Db ids ns cs bss) {d c : Nat} {f : Nat → Int32} {len : Int32} {bs : List Nat} (hi : ids d ≠ 0) (hr : RR 80 f len bs) : CD Di Dp (va_up Dc d (nI c)) (va_up Dl d len) (va_up Db d f) ids (updN ns d (ns d)) (updN cs d c) (updN bss d bs) := by
  intro e he
  by_cases hed : e = d
  · subst hed
    obtain ⟨a, b, c'⟩ := h e he
    rw [updN_s, updN_s, updN_s, va_up_self, va_up_self, va_up_self]
    exact ⟨a, b, fun _ => ⟨(c' hi).1, rfl, hr⟩⟩
  · rw [updN_n hed, updN_n hed, updN_n hed, va_up_ne _ _ hed, va_up_ne _ _ hed, va_up_ne _ _ hed]
    exact h e he
theorem CD.drop {Di Dp Dc Dl : Nat → Int32} {Db : Nat → Nat → Int32} {ids ns cs : Nat → Nat} {bss : Nat → List Nat} (h : CD Di Dp Dc Dl Db ids ns cs bss) {d : Nat} {x y z : Int32} : CD (va_up Di d 0) (va_up Dp d x) (va_up Dc d y) (va_up Dl d z) Db (updN ids d 0) ns cs bss := by
  intro e he
  by_cases hed : e = d
  · subst hed
    rw [updN_s, va_up_self]
    exact ⟨rfl, by decide, fun q => absurd rfl q⟩
  · rw [updN_n hed, va_up_ne _ _ hed, va_up_ne _ _ hed, va_up_ne _ _ hed, va_up_ne _ _ hed]
    exact h e he
theorem sX6_train {Sb Db : Nat → Nat → Int32} {Sl Dp Dc Di Dl : Nat → Int32} {pf cov kind cn ff tk0 : Nat → Int32} {tc n0 pl : Int32} {ss : List (List Nat)} (h : CS Sb Sl ss) (hne : ss.length ≠ 0) {d i n bound : Nat} (hd : d < 6) (hi1 : 1 ≤ i) (hi2 : i ≤ 255) (hn2 : 2 ≤ n) (hn8 : n ≤ 8) (hb : bound ≤ 80) {post : Int32 → Int32 → Int32 → Int32 → (Nat → Int32) → (Nat → Int32) → (Nat → Int32) → (Nat → Int32) → (Nat → Int32) → (Nat → Int32) → (Nat → Int32) → (Nat → Int32) → (Nat → Int32) → (Nat → Int32) → (Nat → Nat → Int32) → Prop}
    (hp : ∀ tk, tk = trn ss n bound 27 (fun _ => false) [] → ∀ a1 a2 a3 a4 a5 a6 a7 a8 a9 len f, RR 80 f len (pcs ss n tk) → post (nI tk.length) a1 a2 a3 a4 a5 a6 a7 a8 a9 (va_up Dp d (nI n)) (va_up Dc d (nI tk.length)) (va_up Di d (nI i)) (va_up Dl d len) (va_up Db d f)) :
    wX6_train 320 (nI ss.length) tc n0 pl pf cov kind cn ff tk0 Dp Dc Di Dl Db Sl Sb (nI d) (nI i) (nI n) (nI bound) post := by
  have h8 := h.1
  refine sX6_isNumber (fun _ => ⟨fun _ => ?_, fun z => absurd z (by decide)⟩) (fun c => absurd (by rw [Rg_nI (by omega)]; omega) c)
  refine sX6_isId (fun _ => ⟨fun z => absurd z (by decide), fun _ => ?_⟩) (fun c => absurd (by rw [Rg_nI (by omega)]; omega) c)
  refine ⟨fun c => ?_, fun _ => ⟨fun c => ?_, fun _ => ⟨fun c => absurd c (nI_pos (by omega)), fun _ => ⟨fun _ => ⟨fun _ => ?_, fun c => ?_⟩, fun c => absurd (nI_le hb (by decide)) c⟩⟩⟩⟩
  · rw [show (2 : Int32) = nI 2 from rfl, nI_ltI (by omega) (by decide)] at c; omega
  · rw [show (8 : Int32) = nI 8 from rfl, nI_ltI (by decide) (by omega)] at c; omega
  · refine sX5_load h hn2 hn8 fun pl' pf' cov' kind' g1 g2 g3 => ?_
    have hS := h.sok hn2 hn8
    refine sX5_takeRows hS hb g2 g3 fun cov2 c2 f2 taken2 q1 q2 q3 q4 => ⟨vp_in_nI hd (by decide), ?_⟩
    have hp := hp _ rfl
    generalize trn ss n bound 27 (fun _ => false) [] = tk at *
    rw [nI_clamp (by omega)]
    refine sX0_begin ?_
    refine sX5_handOver hS g1 q1 q2 q3 q4 (RR.nil _ (by decide)) fun wf' wl' hr => ?_
    exact hp _ _ _ _ _ _ _ _ _ wl' wf' hr
  · rw [show (0 : Int32) = nI 0 from rfl, nI_eq (by omega) (by decide)] at c
    exact absurd c hne
theorem sX6_train0 {Sb Db : Nat → Nat → Int32} {Sl Dp Dc Di Dl : Nat → Int32} {pf cov kind cn ff tk0 : Nat → Int32} {tc n0 pl p1 p2 p3 p4 : Int32} {N : Nat} (hN : N < 100000) {post : Int32 → Int32 → Int32 → Int32 → (Nat → Int32) → (Nat → Int32) → (Nat → Int32) → (Nat → Int32) → (Nat → Int32) → (Nat → Int32) → (Nat → Int32) → (Nat → Int32) → (Nat → Int32) → (Nat → Int32) → (Nat → Nat → Int32) → Prop}
    (h1 : ¬ Rg p1 0 5 → post (-101) tc n0 pl pf cov kind cn ff tk0 Dp Dc Di Dl Db) (h2 : Rg p1 0 5 → ¬ (Rg p2 1 255 ∧ Rg p3 2 8 ∧ Rg p4 0 80) → post (-102) tc n0 pl pf cov kind cn ff tk0 Dp Dc Di Dl Db) (h3 : Rg p1 0 5 → Rg p2 1 255 ∧ Rg p3 2 8 ∧ Rg p4 0 80 → N = 0 → post (-104) tc n0 pl pf cov kind cn ff tk0 Dp Dc Di Dl Db) (hno : ¬ (Rg p1 0 5 ∧ (Rg p2 1 255 ∧ Rg p3 2 8 ∧ Rg p4 0 80) ∧ N ≠ 0)) :
    wX6_train 320 (nI N) tc n0 pl pf cov kind cn ff tk0 Dp Dc Di Dl Db Sl Sb p1 p2 p3 p4 post := by
  refine sX6_isNumber (fun c => ⟨fun _ => ?_, fun z => absurd z (by decide)⟩) (fun c => ⟨fun z => absurd rfl z, fun _ => h1 c⟩)
  refine sX6_isId (fun c2 => ⟨fun z => absurd z (by decide), fun _ => ?_⟩) (fun c2 => ⟨fun _ => h2 c fun z => c2 z.1, fun z => absurd rfl z⟩)
  rw [c_lt (x := p3) (a' := 2) rfl, c_gt (x := p3) (a' := 8) rfl, c_lt (x := p4) (a' := 0) rfl, c_le (x := p4) (a' := 80) rfl]
  refine ⟨fun q => h2 c fun z => ?_, fun q => ⟨fun q2 => h2 c fun z => ?_, fun q2 => ⟨fun q3 => h2 c fun z => ?_, fun q3 => ⟨fun q4 => ?_, fun q4 => h2 c fun z => ?_⟩⟩⟩⟩
  · have := z.2.1.1; omega
  · have := z.2.1.2; omega
  · have := z.2.2.1; omega
  · have hr : Rg p2 1 255 ∧ Rg p3 2 8 ∧ Rg p4 0 80 := ⟨c2, ⟨by omega, by omega⟩, ⟨by omega, by omega⟩⟩
    refine ⟨fun q5 => absurd ⟨c, hr, fun z => q5 (by rw [z]; rfl)⟩ hno, fun q5 => h3 c hr ?_⟩
    rw [show (0 : Int32) = nI 0 from rfl, nI_eq (by omega) (by decide)] at q5
    exact q5
  · have := z.2.2.2; omega
theorem sX6_give {Db : Nat → Nat → Int32} {tf Dp Dc Di Dl : Nat → Int32} {qw : Nat → Nat} {tl : Int32} {xs : List Nat} (hT : RR 200 tf tl xs) {d i : Nat} (hd : d < 6) (hi1 : 1 ≤ i) (hi2 : i ≤ 255) (h80 : xs.length ≤ 80) {post : Int32 → Int32 → (Nat → Int32) → (Nat → Int32) → (Nat → Int32) → (Nat → Int32) → (Nat → Nat → Int32) → Prop}
    (hp : ∀ len f, RR 80 f len xs → post (nI xs.length) 0 (va_up Dp d (nI xs.length)) (va_up Dc d (nI (if xs.length = 0 then 0 else 1))) (va_up Di d (nI i)) (va_up Dl d len) (va_up Db d f)) : wX6_give 200 qw tl tf Dp Dc Di Dl Db (nI d) (nI i) post := by
  have hl := hT.1
  refine sX6_isNumber (fun _ => ⟨fun _ => ?_, fun z => absurd z (by decide)⟩) (fun c => absurd (by rw [Rg_nI (by omega)]; omega) c)
  refine sX6_isId (fun _ => ⟨fun z => absurd z (by decide), fun _ => ?_⟩) (fun c => absurd (by rw [Rg_nI (by omega)]; omega) c)
  refine sX4_length ⟨fun _ => ⟨vp_in_nI hd (by decide), sX4_length (sX0_begin ?_)⟩, fun c => absurd (by rw [hl]; exact nI_le h80 (by decide)) c⟩
  rw [nI_clamp (by omega)]
  have fin : ∀ (pc len : Int32) (f : Nat → Int32), pc = nI (if xs.length = 0 then 0 else 1) → RR 80 f len xs → wX4_clear (fun s16 => wX0_words (qw d) (fun r17 => r17 = some (qw d) ∧ wX4_length len (fun r18 => post r18 s16 (va_up Dp d tl) (va_up Dc d pc) (va_up Di d (nI i)) (va_up Dl d len) (va_up Db d f)))) := fun pc len f e hr => by
    refine sX4_clear ⟨rfl, sX4_length ?_⟩
    have := hp len f hr
    rw [← hl, ← e] at this
    have e2 : len = tl := by rw [hr.1, hl]
    rw [e2] at this ⊢
    exact this
  by_cases h0 : xs.length = 0
  · have hx : xs = [] := List.length_eq_zero_iff.mp h0
    have ht : tl = nI 0 := by rw [hl, h0]
    conv => arg 3; rw [ht]
    refine sX0_addPiece0 ?_
    refine fin 0 0 _ (by rw [if_pos h0]; rfl) ?_
    rw [hx]
    exact RR.nil _ (by decide)
  · conv => arg 3; rw [hl]
    refine sX0_addPiece (c := 0) (fr := 0) (xs := []) (RR.nil _ (by decide)) hT (by omega) (by omega) (by simp; omega) (by omega) fun f' len' hr => ?_
    rw [List.nil_append, List.drop_zero, List.take_length] at hr
    exact fin _ len' f' (by rw [if_neg h0]) hr
theorem sX6_give0 {Db : Nat → Nat → Int32} {tf Dp Dc Di Dl : Nat → Int32} {qw : Nat → Nat} {tl p1 p2 : Int32} {xs : List Nat} (hT : RR 200 tf tl xs) {post : Int32 → Int32 → (Nat → Int32) → (Nat → Int32) → (Nat → Int32) → (Nat → Int32) → (Nat → Nat → Int32) → Prop}
    (h1 : ¬ Rg p1 0 5 → post (-101) tl Dp Dc Di Dl Db) (h2 : Rg p1 0 5 → ¬ Rg p2 1 255 ∨ ¬ xs.length ≤ 80 → post (-102) tl Dp Dc Di Dl Db) (hno : ¬ (Rg p1 0 5 ∧ Rg p2 1 255 ∧ xs.length ≤ 80)) : wX6_give 200 qw tl tf Dp Dc Di Dl Db p1 p2 post := by
  have hl := hT.1
  have hl2 := hT.2.1
  refine sX6_isNumber (fun c => ⟨fun _ => ?_, fun z => absurd z (by decide)⟩) (fun c => ⟨fun z => absurd rfl z, fun _ => h1 c⟩)
  refine sX6_isId (fun c2 => ⟨fun z => absurd z (by decide), fun _ => ?_⟩) (fun c2 => ⟨fun _ => h2 c (Or.inl c2), fun z => absurd rfl z⟩)
  refine sX4_length ⟨fun q => ?_, fun q => h2 c (Or.inr fun z => q ?_)⟩
  · rw [hl, show (80 : Int32) = nI 80 from rfl, nI_leI (by omega) (by decide)] at q
    exact absurd ⟨c, c2, q⟩ hno
  · rw [hl]; exact nI_le z (by decide)
theorem sX6_trim {Sb Db : Nat → Nat → Int32} {Sl Dp Dc Di Dl tf : Nat → Int32} {qw : Nat → Nat} {tl p1 s0 l0 : Int32} {j0 e0 a0 c0 h0 : Nat → Int32} {ss : List (List Nat)} {ids ns cs : Nat → Nat} {bss : Nat → List Nat} (h : CS Sb Sl ss) (hD : CD Di Dp Dc Dl Db ids ns cs bss) (hok : ∀ d, d < 6 → (bss d).length = ns d * cs d ∧ cs d ≤ 80 ∧ ns d ≤ 80) {post : Int32 → Int32 → (Nat → Int32) → Int32 → Int32 → (Nat → Int32) → (Nat → Int32) → (Nat → Int32) → (Nat → Int32) → (Nat → Int32) → (Nat → Int32) → (Nat → Int32) → (Nat → Nat → Int32) → Prop}
    (h1 : (∀ d, ¬ Thr ids p1 d) → post (-101) tl tf s0 l0 j0 e0 a0 c0 h0 Dc Dl Db) (h2 : ∀ d, Thr ids p1 d → ss.length = 0 → post (-104) tl tf s0 l0 j0 e0 a0 c0 h0 Dc Dl Db)
    (h3 : ∀ d, Thr ids p1 d → ss.length ≠ 0 → ∀ t1 t2 s l j e a c hh len f, RR 80 f len (trm ss (ns d) (cs d) 0 (cs d) (bss d)).2 → post (nI (cs d - (trm ss (ns d) (cs d) 0 (cs d) (bss d)).1)) t1 t2 s l j e a c hh (va_up Dc d (nI (trm ss (ns d) (cs d) 0 (cs d) (bss d)).1)) (va_up Dl d len) (va_up Db d f)) : wX6_trim 80 qw (nI ss.length) tl tf s0 l0 j0 e0 a0 c0 h0 Dp Dc Di Dl Db Sl Sb p1 post := by
  have h8 := h.1
  refine sX6_thereAt hD.id (fun d z => ⟨fun e => (nomatch e), fun k hk e => ?_⟩) (fun z => ⟨fun _ => h1 z, fun k hk e => (nomatch e)⟩)
  cases e
  obtain ⟨-, -, c'⟩ := hD d hk
  obtain ⟨e1, e2, e3⟩ := c' z.2.2
  obtain ⟨o1, o2, o3⟩ := hok d hk
  refine ⟨fun q => ?_, fun q => h2 d z ?_⟩
  · rw [show (0 : Int32) = nI 0 from rfl, nI_eq (by omega) (by decide)] at q
    rw [e1, e2]
    exact sX6_leaveOut h e3 o1 o2 o3 fun t1 t2 s l j e a cc hh wl' wf' hr => h3 d z q t1 t2 s l j e a cc hh wl' wf' hr
  · rw [show (0 : Int32) = nI 0 from rfl, nI_eq (by omega) (by decide)] at q
    exact q
theorem sX6_drop {Dp Dc Di Dl : Nat → Int32} {p1 : Int32} {ids : Nat → Nat} (hI : MId Di ids) {post : Int32 → (Nat → Int32) → (Nat → Int32) → (Nat → Int32) → (Nat → Int32) → Prop} (h1 : ∀ d, Thr ids p1 d → post (Dc d) (va_up Dp d 0) (va_up Dc d 0) (va_up Di d 0) (va_up Dl d 0)) (h0 : (∀ d, ¬ Thr ids p1 d) → post (-101) Dp Dc Di Dl) : wX6_drop Dp Dc Di Dl p1 post :=
  sX6_thereAt hI (fun d z => ⟨fun e => (nomatch e), fun k hk e => by cases e; exact h1 d z⟩) (fun z => ⟨fun _ => h0 z, fun k hk e => (nomatch e)⟩)
theorem sX6_told {Dp Dc Di Dl : Nat → Int32} {Db : Nat → Nat → Int32} {qw : Nat → Nat} {p1 p2 : Int32} {ids ns cs : Nat → Nat} {bss : Nat → List Nat} (hD : CD Di Dp Dc Dl Db ids ns cs bss) (hok : ∀ d, d < 6 → cs d ≤ 80) {post : Int32 → Prop}
    (hn : (∀ d, ¬ Thr ids p1 d) → post (-101)) (h0 : ∀ d, Thr ids p1 d → p2 = 0 → post (nI (ids d))) (h1 : ∀ d, Thr ids p1 d → p2 = 1 → post (nI (cs d))) (h2 : ∀ d, Thr ids p1 d → p2 = 2 → post (nI (bss d).length)) (h3 : ∀ d, Thr ids p1 d → p2 = 3 → post (nI (sumN (bss d)))) (h4 : ∀ d, Thr ids p1 d → ∀ k, k < cs d → p2 = nI (10 + k) → post (nI (ns d))) (h5 : ∀ d, Thr ids p1 d → ¬ p2 = 0 → ¬ p2 = 1 → ¬ p2 = 2 → ¬ p2 = 3 → (∀ k, k < cs d → ¬ p2 = nI (10 + k)) → post (-102)) : wX6_told qw Dp Dc Di Dl Db p1 p2 post := by
  refine sX6_thereAt hD.id (fun d z => ⟨fun e => (nomatch e), fun k hk e => ?_⟩) (fun z => ⟨fun _ => hn z, fun k hk e => (nomatch e)⟩)
  cases e
  obtain ⟨a, b, c'⟩ := hD d hk
  obtain ⟨e1, e2, e3⟩ := c' z.2.2
  have h80 := hok d hk
  refine ⟨fun q => ?_, fun q0 => ⟨fun q => ?_, fun q1 => ⟨fun q => ⟨rfl, ?_⟩, fun q2 => ⟨fun q => ?_, fun q3 => ⟨fun q => ?_, fun q => ?_⟩⟩⟩⟩⟩
  · show post (Di d); rw [a]; exact h0 d z q
  · show post (Dc d); rw [e2]; exact h1 d z q
  · show post (Dl d); rw [e3.1]; exact h2 d z q
  · rw [a]
    refine sX0_sum e3 (by omega) ?_
    rw [if_neg z.2.2]; exact h3 d z q
  · refine h5 d z q0 q1 q2 q3 fun k hk' e => ?_
    rw [e, show (10 : Int32) = nI 10 from rfl, nI_ltI (by omega) (by decide)] at q
    omega
  · rw [c_lt (a' := 10) rfl] at q
    show (Dc d ≤ p2 - 10 → _) ∧ (¬ Dc d ≤ p2 - 10 → post (Dp d))
    rw [e1, e2]
    obtain ⟨j, hj, ej⟩ := nI_of (x := p2) (fun c => by rw [c_lt (a' := 0) rfl] at c; omega)
    subst ej
    rw [nI_toInt hj] at q
    rw [show (10 : Int32) = nI 10 from rfl, pk_sub (by omega), nI_leI (by omega) (by omega)]
    refine ⟨fun q4 => h5 d z q0 q1 q2 q3 fun k hk' e => ?_, fun q4 => h4 d z (j - 10) (by omega) (by rw [show 10 + (j - 10) = j by omega])⟩
    rw [nI_eq (by omega) (by omega)] at e
    omega
theorem sX6_pack {Db : Nat → Nat → Int32} {tf nf of Di Dp Dc Dl : Nat → Int32} {qw : Nat → Nat} {an ao : Nat} {tl nl ol it mt s0 l0 p1 : Int32} {j0 e0 a0 c0 h0 : Nat → Int32} {xs : List Nat} {ids ns cs : Nat → Nat} {bss : Nat → List Nat} (hT : RR 200 tf tl xs) (hN : RR 80 nf nl []) (hD : CD Di Dp Dc Dl Db ids ns cs bss) {post : Int32 → Int32 → Int32 → Int32 → Int32 → (Nat → Int32) → Int32 → Int32 → (Nat → Int32) → (Nat → Int32) → (Nat → Int32) → (Nat → Int32) → (Nat → Int32) → Prop}
    (h1 : ¬ p1 = -1 → (∀ d, ¬ Thr ids p1 d) → post (-101) tl it mt ol of s0 l0 j0 e0 a0 c0 h0)
    (h2 : ∀ i ws, ((p1 = -1 ∧ i = 0 ∧ ws = []) ∨ ∃ d, Thr ids p1 d ∧ i = ids d ∧ ws = bss d) → ∀ ol' of' s l j e a c h, RR 211 of' ol' (outAll i ws xs) → post (nI (packN ws xs)) 0 (nI (outIt ws xs)) (nI (outMt ws xs)) ol' of' s l j e a c h) :
    wX6_pack 200 80 211 an ao qw tl tf 0 nl nf it mt ol of s0 l0 j0 e0 a0 c0 h0 Di Dl Db p1 post := by
  have hl := hT.1
  have hl2 := hT.2.1
  have tail : ∀ (i : Nat) (ws : List Nat) (wf : Nat → Int32) (wl iI : Int32), i < 256 → iI = nI i → RR 80 wf wl ws → ((p1 = -1 ∧ i = 0 ∧ ws = []) ∨ ∃ d, Thr ids p1 d ∧ i = ids d ∧ ws = bss d) →
      wX3_measure 200 80 j0 e0 a0 c0 h0 tl tf wl wf (fun _ s5 s6 s7 s8 s9 s10 s11 => wX4_length tl (fun r12 => wX2_begin 211 80 of iI wl wf r12 (fun s13 s14 s15 s16 => wX3_write 211 s5 s6 s7 s8 s11 s13 s14 s15 s16 (fun s17 s18 s19 s20 => wX4_clear (fun s21 => wX2_bytes ao (fun r22 => r22 = some ao ∧ wX4_length s19 (fun r23 => post r23 s21 s17 s18 s19 s20 s5 s6 s7 s8 s9 s10 s11))))))) := by
    intro i ws wf wl iI hi hiI hr hiw
    subst hiI
    have hc := cF_le (rowF (ws ++ xs)) ws.length xs.length hl2
    refine sX3_measure hT hr hr.2.1 hl2 fun joined E L cost choice hP => sX4_length ?_
    rw [hl]
    refine sX2_begin (by decide) (by decide) hr hi (by omega) fun f1 l1 g1 => ?_
    refine sX3_write (it := 0) (mt := 0) hP.1 hP.2.1 hP.2.2.2 hr.2.1 hl2 g1 (by simp; omega) fun f2 l2 g2 => sX4_clear ⟨rfl, sX4_length ?_⟩
    have := h2 i ws hiw l2 f2 (nI ws.length) (nI xs.length) joined E L cost choice g2
    have e : l2 = nI (packN ws xs) := by
      have := g2.1
      rw [this, ← outAll_len i ws xs hl2]
      rfl
    unfold outIt outMt at this
    rw [Nat.zero_add, Nat.zero_add]
    rw [← e] at this
    exact this
  refine sX6_noneOrThereAt hD.id (fun q => ⟨fun e => (nomatch e), fun _ => ⟨rfl, tail 0 [] nf nl 0 (by decide) rfl hN (Or.inl ⟨q, rfl, rfl⟩)⟩, fun k hk e => by cases e; omega⟩) (fun d z => ⟨fun e => (nomatch e), fun e => by cases e; have := z.1; omega, fun k hk e => ?_⟩) (fun q z => ⟨fun _ => h1 q z, fun e => (nomatch e), fun k hk e => (nomatch e)⟩)
  cases e
  obtain ⟨a, b, c'⟩ := hD d hk
  obtain ⟨e1, e2, e3⟩ := c' z.2.2
  exact ⟨rfl, tail (ids d) (bss d) _ _ _ b a e3 (Or.inr ⟨d, z, rfl, rfl⟩)⟩
theorem sX6_open {Db : Nat → Nat → Int32} {tf nf of jf Di Dp Dc Dl : Nat → Int32} {qw : Nat → Nat} {an : Nat} {tl nl ol st wa pc jl : Int32} {pk : List Nat} {ids ns cs : Nat → Nat} {bss : Nat → List Nat} (hT : RR 200 tf tl pk) (hN : RR 80 nf nl []) (hD : CD Di Dp Dc Dl Db ids ns cs bss) {post : Int32 → Int32 → Int32 → (Nat → Int32) → Int32 → Int32 → Int32 → Int32 → (Nat → Int32) → Prop}
    (h1 : ∀ w, (opA ids bss pk).1 = some w → w < 100000 → ∀ a b c d e, post ((-200) - nI w) 0 ol of a b c d e)
    (h2 : (opA ids bss pk).1 = none → ∀ of' a b c d e, RR 200 of' (nI (opA ids bss pk).2.length) (opA ids bss pk).2 → post (nI (opA ids bss pk).2.length) 0 (nI (opA ids bss pk).2.length) of' a b c d e) :
    wX6_open 200 80 200 280 an qw tl tf 0 nl nf ol of st wa pc jl jf Di Dl Db post := by
  have b0 := getD_lt256 hT.2.2.2.1 0
  have tail : ∀ (i : Nat) (ws : List Nat) (wf : Nat → Int32) (aw : Nat) (wl iI : Int32), i < 256 → iI = nI i → RR 80 wf wl ws → opA ids bss pk = opn pk ws (if i = 0 then 0 else sumN ws) →
      wX1_decode 280 200 80 aw st wa pc jl jf tl tf iI wl wf (fun r10 s11 s12 s13 s14 s15 => wX4_clear (fun s16 => (r10 = (-1) → wX1_handOver 280 200 s11 s14 s15 of (fun s18 s19 => wX4_length s18 (fun r20 => post r20 s16 s18 s19 s11 s12 s13 s14 s15))) ∧ (¬ r10 = (-1) → post ((-200) - r10) s16 ol of s11 s12 s13 s14 s15))) := by
    intro i ws wf aw wl iI hi hiI hr e
    subst hiI
    rw [e] at h1 h2
    refine sX1_decode hT hr hr.2.1 hi (fun w hw hw2 a b c d e => sX4_clear ⟨fun q => absurd q (nI_ne_m1 (by omega)), fun _ => h1 w hw hw2 a b c d e⟩) (fun hn a b jf' jl' hJ hlen => sX4_clear ⟨fun _ => ?_, fun q => absurd rfl q⟩)
    refine sX1_handOver hJ (by decide) hlen fun f' l' hr' => sX4_length ?_
    have hl' := hr'.1
    subst hl'
    exact h2 hn f' _ _ _ _ _ hr'
  refine sX4_atN (k := 0) hT (by decide) ?_
  refine sX6_firstWithId hD.id b0 (fun q => ⟨fun e => (nomatch e), fun _ => tail 0 [] nf an nl 0 (by decide) rfl hN ?_, fun k hk e => by cases e; omega⟩) (fun q => ⟨fun e => ?_, fun e => ?_, fun k hk e => ?_⟩)
  · unfold opA; rw [if_pos q]; rfl
  · refine ⟨fun _ => ?_, fun _ => ?_⟩
    all_goals
      refine sX4_clear ⟨fun q => absurd q (by decide), fun _ => ?_⟩
      refine h1 0 ?_ (by decide) _ _ _ _ _
      unfold opA
      rw [if_neg q, e]
  · have := fst6_lt 6 0 6 e; omega
  · obtain ⟨-, -, hid⟩ := fst6_lt 6 0 k e
    obtain ⟨a, b, c'⟩ := hD k hk
    obtain ⟨e1, e2, e3⟩ := c' (by omega)
    refine tail (ids k) (bss k) _ _ _ _ b a e3 ?_
    unfold opA
    rw [if_neg q, e, if_neg (by omega)]
theorem sX6_size {Sb Db : Nat → Nat → Int32} {Sl nf Di Dp Dc Dl : Nat → Int32} {qw : Nat → Nat} {an : Nat} {nl s0 l0 p1 p2 : Int32} {j0 e0 a0 c0 h0 : Nat → Int32} {ss : List (List Nat)} {ids ns cs : Nat → Nat} {bss : Nat → List Nat} (h : CS Sb Sl ss) (hN : RR 80 nf nl []) (hD : CD Di Dp Dc Dl Db ids ns cs bss) {post : Int32 → Int32 → Int32 → (Nat → Int32) → (Nat → Int32) → (Nat → Int32) → (Nat → Int32) → (Nat → Int32) → Prop}
    (h1 : (∀ s, s < ss.length → ¬ p1 = nI s) ∨ (¬ p2 = -1 ∧ ∀ d, ¬ Thr ids p2 d) → ∀ s l j e a c h, post (-101) s l j e a c h) (h2 : ∀ s, s < ss.length → p1 = nI s → p2 = -1 → ∀ s' l j e a c h, post (nI (packN [] (ss.getD s []))) s' l j e a c h) (h3 : ∀ s, s < ss.length → p1 = nI s → ∀ d, Thr ids p2 d → ∀ s' l j e a c h, post (nI (packN (bss d) (ss.getD s []))) s' l j e a c h) :
    wX6_size 80 an qw (nI ss.length) nl nf s0 l0 j0 e0 a0 c0 h0 Di Dl Db Sl Sb p1 p2 post := by
  have h8 := h.1
  refine sX6_noneOrThereAt hD.id (fun q => ⟨fun e => (nomatch e), fun _ => ?_, fun k hk e => by cases e; omega⟩) (fun d z => ⟨fun e => (nomatch e), fun e => by cases e; have := z.1; omega, fun k hk e => ?_⟩) (fun q z => ⟨fun _ => ?_, fun e => (nomatch e), fun k hk e => (nomatch e)⟩)
  · refine sX6_isSample (by omega) (fun s hs es => ⟨fun z => absurd z (by decide), fun _ => ?_⟩) (fun z => ⟨fun _ => h1 (Or.inl z) _ _ _ _ _ _ _, fun z => absurd rfl z⟩)
    have h2' := h2 s hs es q
    subst es
    refine ⟨vp_in_nI (by omega) (by decide), rfl, ?_⟩
    rw [nI_clamp (by omega)]
    exact sX3_measure (h.2 s hs) hN (by simp) (h.len hs) fun j e a c hh _ => h2' _ _ _ _ _ _ _
  · cases e
    obtain ⟨a, b, c'⟩ := hD d hk
    obtain ⟨e1, e2, e3⟩ := c' z.2.2
    refine sX6_isSample (by omega) (fun s hs es => ⟨fun z => absurd z (by decide), fun _ => ?_⟩) (fun z => ⟨fun _ => h1 (Or.inl z) _ _ _ _ _ _ _, fun z => absurd rfl z⟩)
    have h3' := h3 s hs es d z
    subst es
    refine ⟨vp_in_nI (by omega) (by decide), rfl, ?_⟩
    rw [nI_clamp (by omega)]
    exact sX3_measure (h.2 s hs) e3 e3.2.1 (h.len hs) fun j e a c hh _ => h3' _ _ _ _ _ _ _
  · exact sX6_isSample (by omega) (fun s hs es => ⟨fun z => absurd z (by decide), fun _ => h1 (Or.inr ⟨q, z⟩) _ _ _ _ _ _ _⟩) (fun z' => ⟨fun _ => h1 (Or.inr ⟨q, z⟩) _ _ _ _ _ _ _, fun z => absurd rfl z⟩)
theorem sX6_best {Sb Db : Nat → Nat → Int32} {Sl nf Di Dp Dc Dl : Nat → Int32} {qw : Nat → Nat} {an : Nat} {nl s0 l0 p1 : Int32} {j0 e0 a0 c0 h0 : Nat → Int32} {ss : List (List Nat)} {ids ns cs : Nat → Nat} {bss : Nat → List Nat} (h : CS Sb Sl ss) (hN : RR 80 nf nl []) (hD : CD Di Dp Dc Dl Db ids ns cs bss) {post : Int32 → Int32 → Int32 → (Nat → Int32) → (Nat → Int32) → (Nat → Int32) → (Nat → Int32) → (Nat → Int32) → Prop}
    (h1 : (∀ s, s < ss.length → ¬ p1 = nI s) → ∀ s l j e a c h, post (-101) s l j e a c h) (h2 : ∀ s, s < ss.length → p1 = nI s → ∀ s' l j e a c h, post (optI (bsf ids bss (ss.getD s []) 6).1) s' l j e a c h) :
    wX6_best 80 an qw (nI ss.length) nl nf s0 l0 j0 e0 a0 c0 h0 Di Dl Db Sl Sb p1 post := by
  have h8 := h.1
  refine sX6_isSample (by omega) (fun s hs es => ⟨fun _ => ?_, fun z => absurd z (by decide)⟩) (fun z => ⟨fun z => absurd rfl z, fun _ => h1 z _ _ _ _ _ _ _⟩)
  have h2' := h2 s hs es
  subst es
  have hv8 := vp_in_nI (show s < 8 by omega) (show (8 : Nat) < 2 ^ 31 by decide)
  refine ⟨hv8, rfl, ?_⟩
  rw [nI_clamp (by omega)]
  have hts := h.len hs
  refine sX3_measure (h.2 s hs) hN (by simp) hts fun j1 e1 a1 c1 hh1 _ => ?_
  have key : ∀ f d s' l j e a c h', d + f = 6 → wX6_best_37 qw Di Dl Db Sl Sb (nI s) (fun s13 s14 s15 s16 s17 s18 s19 y20 _ _ => post y20 s13 s14 s15 s16 s17 s18 s19) (f + 1) s' l j e a c h' (optI (bsf ids bss (ss.getD s []) d).1) (nI (bsf ids bss (ss.getD s []) d).2) (nI d) := by
    intro f
    induction f with
    | zero =>
      intro d s' l j e a c h' hd
      have : d = 6 := by omega
      subst this
      exact ⟨fun _ => h2' _ _ _ _ _ _ _, fun c => absurd (by decide) c⟩
    | succ f ih =>
      intro d s' l j e a c h' hd
      have hb := bsf_le (ids := ids) (bss := bss) hts d
      have hpk := packN_le (bss d) (ss.getD s []) hts
      have ebs : bsf ids bss (ss.getD s []) (d + 1) = if ids d ≠ 0 ∧ packN (bss d) (ss.getD s []) < (bsf ids bss (ss.getD s []) d).2 then (some d, packN (bss d) (ss.getD s [])) else bsf ids bss (ss.getD s []) d := rfl
      obtain ⟨a1, b1, c'⟩ := hD d (by omega)
      have hv6 := vp_in_nI (show d < 6 by omega) (show (6 : Nat) < 2 ^ 31 by decide)
      refine ⟨fun c => absurd (by rw [show (6 : Int32) = nI 6 from rfl, nI_leI (by decide) (by omega)] at c; exact c) (by omega), fun _ => ⟨hv6, ?_⟩⟩
      rw [nI_clamp (show d < 2 ^ 31 by omega), nI_clamp (show s < 2 ^ 31 by omega), a1]
      refine sX0_isThere b1 (fun q => ⟨fun z => absurd z (by decide), fun _ => ⟨hv8, hv6, rfl, ?_⟩⟩) (fun q => ⟨fun _ y27 h27 => ?_, fun z => absurd rfl z⟩)
      · obtain ⟨e1, e2, e3⟩ := c' q
        refine sX3_measure (h.2 s hs) e3 e3.2.1 hts fun j2 e2' a2 c2 hh2 _ => ?_
        rw [nI_leI (by omega) (by omega)]
        have hn := ih (d + 1)
        refine ⟨fun q2 y30 h30 => ?_, fun q2 y31 h31 => ?_⟩
        · have := hn (nI (bss d).length) (nI (ss.getD s []).length) j2 e2' a2 c2 hh2 (by omega)
          rw [ebs, if_neg (by omega)] at this
          rw [h30, nI_1]; exact this
        · have := hn (nI (bss d).length) (nI (ss.getD s []).length) j2 e2' a2 c2 hh2 (by omega)
          rw [ebs, if_pos ⟨q, by omega⟩] at this
          rw [h31, nI_1]; exact this
      · have := ih (d + 1) s' l j e a c h' (by omega)
        rw [ebs, if_neg (fun z => z.1 q)] at this
        rw [h27, nI_1]; exact this
  exact ⟨_, key 6 0 _ _ j1 e1 a1 c1 hh1 rfl⟩
theorem sX6_about {Di : Nat → Int32} {ao : Nat} {sm tp om it mt tm p1 : Int32} {ids : Nat → Nat} (hI : MId Di ids) {post : Int32 → Prop} (h0 : p1 = 0 → post tp) (h1 : p1 = 1 → post sm) (h2 : p1 = 2 → post (nI (cnt6 ids 6))) (h3 : p1 = 3 → post om) (h4 : p1 = 4 → post tm) (h5 : p1 = 5 → post it) (h6 : p1 = 6 → post mt) (h7 : ¬ p1 = 0 → ¬ p1 = 1 → ¬ p1 = 2 → ¬ p1 = 3 → ¬ p1 = 4 → ¬ p1 = 5 → ¬ p1 = 6 → post (-102)) : wX6_about ao sm tp tm it mt om Di p1 post :=
  ⟨h0, fun q0 => ⟨h1, fun q1 => ⟨fun q => sX6_countThere hI (h2 q), fun q2 => ⟨fun q => ⟨rfl, h3 q⟩, fun q3 => ⟨h4, fun q4 => ⟨h5, fun q5 => ⟨h6, fun q6 => h7 q0 q1 q2 q3 q4 q5 q6⟩⟩⟩⟩⟩⟩⟩
