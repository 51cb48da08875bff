/-! contracts with a further premise; the loops of X6's constructor -/
def MetVE {S : Type} (l : Launch) (y : MethodName) (ws : List Cond) (rm : Room) (D : va_G) (tys : List (ClassId × FieldType)) (E : State → Prop) (av : List Value) (w0 : va_W) (wc : S → va_W) (post : S → Prop) (mc ms : Nat) : Prop :=
  ∀ sz : Nat, Met l y ws rm (va_Pc av (fun U => PreW D tys w0 sz U ∧ E U)) (va_Qv post (AtW D tys (va_A w0 sz) wc) (va_A w0 sz)) mc ms (va_A w0 sz)
theorem metVE_of {S : Type} {l : Launch} {y : MethodName} {ws ws' : List Cond} {rm : Room} {D : va_G} {tys : List (ClassId × FieldType)} {E : State → Prop} {av : List Value} {w0 : va_W} {wc : S → va_W} {post : S → Prop} {mc ms : Nat} {cc : ByteArray} {maxL : Nat} {lv : List (Nat × Value)}
    (hy : plainName y.cls = true) (hw : ws = Cond.code y cc maxL none :: ws') (ha : (lg_sl av).length ≤ maxL) (hl : lv_args 0 av = lv)
    (body : ∀ (p : Program) (e : Env) (s : State) (m : MethodId) (below : List Frame) (meth : Method) (c : Code) (Q : State → Prop) (A : Nat → Prop), Cx p s m av.toArray c cc maxL y.cls ws D tys A → meth.locks = false → meth.name = y.name → E s → RtV p l e rm s m av.toArray below meth c cc Q maxL D A wc post mc ms → Go p l e rm s m av.toArray below meth c Q maxL D A w0 0 0 0 lv []) : MetVE l y ws rm D tys E av w0 wc post mc ms := by
  intro sz
  refine Met.ofW (cc := cc) (maxL := maxL) (ret := none) hy hw ?_
  intro p e s m args below meth c s₁ B hml hv
  obtain ⟨rfl, ⟨hsz, hP, hK, hD0⟩, hE⟩ := hv
  subst hsz
  have hD := hD0.self (sz := s.heap.size)
  obtain ⟨ls, hls, he⟩ := entry_lv (m := m) ha hl
  rw [he]
  refine body p e s m below meth c _ (va_A w0 s.heap.size) ⟨B.exec, B.bytes, hml, findClass_of_methodNamed B.named, atoms_spec (ws := ws) B.pre, hK, fun q h => Or.inr h⟩ B.notSynchronized (name_of_methodNamed B.named B.method).1 hE ?_ s.heap [] ls hP hD va_S.rf hls
  intro u pc lv2 hd hp H locs ls hP hD hS hl
  exact W.vret B.exec B.bytes B.returns (fun t ht hW => ⟨⟨u, rfl, hp, by rw [ht]; exact hP, va_K.moved hW.alike hK, hD⟩, hS.F ht⟩) hS.2.2 hd B.notSynchronized
/-- there are arrays of rows and of dictionaries -/
def ovE (U : State) : Prop := va_AO RX4 U ∧ va_AO RX0 U
theorem ovE.moved {u U : State} (h : u.vm.Alike U.vm) (hE : ovE u) : ovE U := ⟨va_AO.moved h hE.1, va_AO.moved h hE.2⟩
section GE
variable {p : Program} {l : Launch} {e : Env} {R : Room} {s : State} {m : MethodId} {args : Array Value} {below : List Frame} {meth : Method} {c : Code} {Q : State → Prop} {cc : ByteArray} {nL : Nat} {own : String} {Ts : List Cond} {D : va_G} {tys : List (ClassId × FieldType)} {A : Nat → Prop} {ws : va_W} {cells slots pc : Nat} {lv : List (Nat × Value)} {st : List Value}
theorem go_newq2 (X : Cx p s m args c cc nL own Ts D tys A) {C : String} {index : Nat} (hcl : Cond.classLink own index C ∈ Ts) (hov : va_AO C s) (t0 : Nat) {cA : ClassId} (ht : tys[t0]? = some (cA, .object C)) {n : Int32} {N' : Nat} (hn : ¬ n < 0) (hN : n.toNatClampNeg = N') (hbytes : N' * 4 ≤ 536870912) (hcells : cells + 1 ≤ R.cells) (hslots : slots + N' ≤ R.slots) (hd : decode cc pc = .ok (.anewarray index, 3))
    (kk : ∀ q : Nat, Go p l e R s m args below meth c Q nL D A (ws ++ [(q, .inl (cA, N', .inr (.inr (.inr (.inr (fun _ => none))))))]) (cells + 1) (slots + N') (pc + 3) lv (.ref q :: st)) : Go p l e R s m args below meth c Q nL D A ws cells slots pc lv (.int n :: st) := by
  intro H locs ls hP hD hS hl
  refine va_newq X.1 X.2.1 X.2.2.2.1 (X.2.2.2.2.1 _ hcl) hov X.2.2.2.2.2.1 hP hD hS X.2.2.2.2.2.2 hn hN hbytes hcells hslots hd fun q cB H1 hK1 hP1 hD1 hS1 => ?_
  have h1 := (X.2.2.2.2.2.1.2 t0 _ ht).2
  have h2 := (hK1.2 tys.length (cB, .object C) (by rw [List.getElem?_append_right (Nat.le_refl _), Nat.sub_self]; rfl)).2
  obtain ⟨-, -, -, -, -, e1⟩ := h1
  obtain ⟨-, -, -, -, -, e2⟩ := h2
  have : cB = cA := Option.some.inj (e2.symm.trans e1)
  subst this
  exact kk q H1 locs ls hP1 hD1 hS1 hl
theorem vpq_congr {cA : ClassId} {n : Nat} {f g : Nat → Option Nat} (h : ∀ j, j < n → g j = f j) : vp_cell cA (n, .inr (.inr (.inr (.inr g)))) = vp_cell cA (n, .inr (.inr (.inr (.inr f)))) := by
  rw [vp_cell_q, vp_cell_q]
  unfold arrV
  congr 2
  funext j
  show va_rf (g j.1) = va_rf (f j.1)
  rw [h j.1 j.2]
/-- what an array of references holds beyond its length is nothing -/
theorem go_arq {a : Nat} {cA : ClassId} {n : Nat} {f g : Nat → Option Nat} {r : va_W} (h : ∀ j, j < n → g j = f j) (k : Go p l e R s m args below meth c Q nL D A ((a, .inl (cA, n, .inr (.inr (.inr (.inr f))))) :: r) cells slots pc lv st) : Go p l e R s m args below meth c Q nL D A ((a, .inl (cA, n, .inr (.inr (.inr (.inr g))))) :: r) cells slots pc lv st := by
  intro H locs ls hP hD hS hl
  refine k H locs ls (wP_iff.mpr fun q hq => ?_) (wD_iff.mpr ?_) hS hl
  · rcases List.mem_cons.mp hq with rfl | hq
    · have := wP_iff.mp hP _ List.mem_cons_self
      show H[a]? = some (vp_cell cA _)
      rw [← vpq_congr h]
      exact this
    · exact wP_iff.mp hP q (List.mem_cons_of_mem _ hq)
  · obtain ⟨h1, h2⟩ := wD_iff.mp hD
    refine ⟨h1, fun q hq => ?_⟩
    rcases List.mem_cons.mp hq with rfl | hq
    · exact h2 (a, .inl (cA, n, .inr (.inr (.inr (.inr g))))) List.mem_cons_self
    · exact h2 q (List.mem_cons_of_mem _ hq)
variable {S : Type} {y : MethodName} {bytes : ByteArray} {maxL n index ci b mc ms : Nat} {wy : List Cond} {rm : Room} {As rest : List Value} {w0 wr : va_W} {wc ws2 : S → va_W} {E : State → Prop}
theorem go_callPvE {post : S → Prop} (X : Cx p s m args c cc nL own Ts D tys A) (hM : MetVE l y wy rm D tys E (.ref b :: As) w0 wc post mc ms) (hE : ∀ U : State, s.vm.Alike U.vm → E U) (hEb : ∀ u U : State, u.vm.Alike U.vm → E u → E U) (cw : CallB R s args own index y bytes maxL none wy rm mc ms n ∧ y.name = "<init>" ∧ (Cond.instanceMethod y).before args s = true) (hp : List.Perm ws (w0 ++ wr)) (hp2 : ∀ u, List.Perm (wc u ++ wr) (ws2 u)) (hst : st = As.reverse ++ .ref b :: rest) (hn : As.length = n) (hr : (rest.map fun v => v.category).sum ≤ 8) (hd : decode cc pc = .ok (.invokespecial index, 3)) (hf : cells + mc ≤ R.cells ∧ slots + ms ≤ R.slots)
    (kk : ∀ u, post u → Go p l e R s m args below meth c Q nL D A (ws2 u) (cells + mc) (slots + ms) (pc + 3) lv rest) : Go p l e R s m args below meth c Q nL D A ws cells slots pc lv st := by
  intro H locs ls hP hD hS hl
  refine va_callv (va_runI (As := As) (rest := rest) ⟨X.1, X.2.1, X.2.2.1, X.2.2.2.1, X.2.2.2.2.1⟩ (hM H.size) cw ⟨fun a U g mk h => ?_, fun U hU hW => ⟨rfl, pre_of X hp hP hD hU hW, hE U hW.alike⟩⟩ rfl hn hl.1 hst (lv_room hr) hd hf) hS (fun q _ h => free_of X hp hD hS q h) (free_of X hp hD hS) (fun u t H1 locs ht hvm hw hB hz1 hk1 hS1 => ?_)
  · obtain ⟨h0, ⟨h1, h2, h3, h4⟩, h5⟩ := h
    exact ⟨h0, ⟨h1, h2, va_K.moved (u := U) (U := U.calling g mk a) (Vm.Alike.refl U.vm) h3, h4⟩, hEb U _ (Vm.Alike.refl U.vm) h5⟩
  · obtain ⟨hP1, hK1, hD1⟩ := hB
    rw [ht] at hP1
    obtain ⟨hP2, hD2⟩ := w_join hP hD hp hk1 (free_of X hp hD hS) hP1 hD1
    exact kk u hw H1 locs ls (wP_perm (hp2 u) hP2) (wD_perm (hp2 u) hD2) hS1 hl
end GE
theorem plW_succ (el : Nat → va_W) (n : Nat) : plW el (n + 1) = plW el n ++ el n := by
  unfold plW; rw [List.range_succ, List.flatMap_append]; simp
theorem plW_congr {el el' : Nat → va_W} : ∀ {n : Nat}, (∀ i, i < n → el' i = el i) → plW el' n = plW el n := by
  intro n
  induction n with
  | zero => intro _; rfl
  | succ n ih =>
    intro h
    rw [plW_succ, plW_succ, ih (fun i hi => h i (by omega)), h n (by omega)]
theorem pm_grow {x u a o : Nat × va_E} {G P : va_W} : List.Perm ([x, u] ++ (a :: o :: (G ++ P))) (a :: o :: (G ++ (P ++ [x, u]))) := by
  have h : a :: o :: (G ++ (P ++ [x, u])) = (a :: o :: (G ++ P)) ++ [x, u] := by
    rw [← List.append_assoc]; rfl
  rw [h]
  exact List.perm_append_comm
theorem pm_grow3 {x u v a o : Nat × va_E} {G P : va_W} : List.Perm ([x, u, v] ++ (a :: o :: (G ++ P))) (a :: o :: (G ++ (P ++ [x, u, v]))) := by
  have h : a :: o :: (G ++ (P ++ [x, u, v])) = (a :: o :: (G ++ P)) ++ [x, u, v] := by
    rw [← List.append_assoc]; rfl
  rw [h]
  exact List.perm_append_comm
theorem pm_end {d o : Nat × va_E} {G C S D : va_W} (h : List.Perm (d :: o :: G) C) : List.Perm (d :: o :: ((G ++ S) ++ D)) (C ++ (D ++ S)) := by
  have e : d :: o :: ((G ++ S) ++ D) = (d :: o :: G) ++ (S ++ D) := by rw [List.append_assoc]; rfl
  rw [e]
  exact h.append List.perm_append_comm
theorem pm_cc {d o : Nat × va_E} {G C S : va_W} (h : List.Perm (d :: o :: G) C) : List.Perm (d :: o :: (G ++ S)) (C ++ S) := h.append_right S
/-- the first i places of an array of references are filled -/
def fill (i : Nat) (q : Nat → Nat) : Nat → Option Nat := fun j => if j < i then some (q j) else none
theorem fill_up {i : Nat} {q : Nat → Nat} {v : Nat} : va_up (fill i q) i (some v) = fill (i + 1) (va_up q i v) := by
  funext j
  unfold fill
  by_cases h : j = i
  · subst h; rw [va_up_self, if_pos (by omega), va_up_self]
  · rw [va_up_ne _ _ h, va_up_ne _ _ h]
    by_cases h2 : j < i
    · rw [if_pos h2, if_pos (by omega)]
    · rw [if_neg h2, if_neg (by omega)]
theorem fill_0 {q : Nat → Nat} : fill 0 q = fun _ => none := by funext j; rfl
theorem fi_lpS_X6 : ∀ w ∈ u_ws RX6 TX6 11, w ∈ wsX6_init := by decide +kernel
theorem fi_lpS_X4 : ∀ w ∈ u_ws RX4 TX4 2, w ∈ wsX6_init := by decide +kernel
theorem fi_lpS_X0 : ∀ w ∈ u_ws RX0 TX0 4, w ∈ wsX6_init := by decide +kernel
theorem fl_lpS_18 : Cond.fieldLink RX6 18 (TX6 1).1 (TX6 1).2.1 (TX6 1).2.2.1 ∈ wsX6_init := by decide +kernel
theorem fl_lpS_24 : Cond.fieldLink RX6 24 (TX6 2).1 (TX6 2).2.1 (TX6 2).2.2.1 ∈ wsX6_init := by decide +kernel
theorem fc_lp_c9 : Cond.classLink RX6 9 RX4 ∈ wsX6_init := by decide +kernel
theorem fc_lp_c22 : Cond.classLink RX6 22 RX0 ∈ wsX6_init := by decide +kernel
theorem fc_lp_tX4 : Cond.instantiable RX4 2 ∈ wsX6_init := by decide +kernel
theorem fc_lp_tX0 : Cond.instantiable RX0 4 ∈ wsX6_init := by decide +kernel
theorem fc_lp_zX4 : Cond.initialized RX4 ∈ wsX6_init := by decide +kernel
theorem fc_lp_zX0 : Cond.initialized RX0 ∈ wsX6_init := by decide +kernel
theorem fc_lp_l11 : Cond.methodLink RX6 11 yX4_init ∈ wsX6_init := by decide +kernel
theorem fc_lp_l28 : Cond.methodLink RX6 28 yX0_init ∈ wsX6_init := by decide +kernel
theorem fc_lp_nX4 : Cond.instanceMethod yX4_init ∈ wsX6_init := by decide +kernel
theorem fc_lp_nX0 : Cond.instanceMethod yX0_init ∈ wsX6_init := by decide +kernel
section LP
variable {p : Program} {l : Launch} {e : Env} {R : Room} {s : State} {m : MethodId} {args : Array Value} {below : List Frame} {meth : Method} {c : Code} {Q : State → Prop} {D : va_G} {cy : Nat → ClassId} {A : Nat → Prop}
set_option maxRecDepth 100000 in
set_option maxHeartbeats 4000000 in
theorem lpS (X : Cx p s m args c cX6_init 2 RX6 wsX6_init D (tyL cy) A) (a_o a_s : Nat) (fs : List Value) (hfs : fs[1]? = some (.ref a_s)) (G : va_W) (c0 s0 : Nat) (hf : 2 ≤ R.frames) (hlo : 41 ≤ R.locals) (hc : c0 + 16 ≤ R.cells) (hs : s0 + 336 ≤ R.slots)
    (K : ∀ q qb, Go p l e R s m args below meth c Q 2 D A ((a_s, .inl (cy 5, 8, .inr (.inr (.inr (.inr (fill 8 q)))))) :: (a_o, .inr (9, fs)) :: (G ++ plW (elS cy q qb (fun _ _ => 0) (fun _ => 0)) 8)) (c0 + 16) (s0 + 336) 147 [(1, .int 8), (0, .ref a_o)] []) :
    Go p l e R s m args below meth c Q 2 D A ((a_s, .inl (cy 5, 8, .inr (.inr (.inr (.inr (fun _ => none)))))) :: (a_o, .inr (9, fs)) :: G) c0 s0 120 [(1, .int 0), (0, .ref a_o)] [] := by
  have key : ∀ d i q qb, i + d = 8 → Go p l e R s m args below meth c Q 2 D A ((a_s, .inl (cy 5, 8, .inr (.inr (.inr (.inr (fill i q)))))) :: (a_o, .inr (9, fs)) :: (G ++ plW (elS cy q qb (fun _ _ => 0) (fun _ => 0)) i)) (c0 + 2 * i) (s0 + 42 * i) 120 [(1, .int (nI i)), (0, .ref a_o)] [] := by
    intro d
    induction d with
    | zero =>
      intro i q qb hi
      have : i = 8 := by omega
      subst this
      refine go_iload_n X dX6_init_120 0 rfl rfl ?_
      refine go_bipush X (v := 8) dX6_init_121 (by decide) ?_
      exact go_icmp_ge X 147 dX6_init_123 (by decide) (fun _ => K q qb) (fun c0 => absurd (by decide) c0)
    | succ d ih =>
      intro i q qb hi
      refine go_iload_n X dX6_init_120 0 rfl rfl ?_
      refine go_bipush X (v := 8) dX6_init_121 (by decide) ?_
      refine go_icmp_ge X 147 dX6_init_123 (by decide) (fun c1 => absurd (by rw [show (8 : Int32) = nI 8 from rfl, nI_leI (by decide) (by omega)] at c1; exact c1) (by omega)) (fun _ => ?_)
      refine go_aload_n X dX6_init_126 1 rfl rfl ?_
      refine go_get X fi_lpS_X6 1 rfl rfl 1 (by decide) fl_lpS_18 hfs dX6_init_127 ?_
      refine go_iload_n X dX6_init_130 0 rfl rfl ?_
      refine go_new X (ci := 7) (fs := [.null, .int 0]) fi_lpS_X4 tyX4 tyX4_ok fc_lp_c9 fc_lp_tX4 fc_lp_zX4 rfl (by decide) (by omega) (by omega) dX6_init_131 (fun q1 => ?_)
      refine go_dup X dX6_init_134 rfl ?_
      refine go_bipush X (v := 40) dX6_init_135 (by decide) ?_
      refine go_top (x := .int 40) (y := .int (nI 40)) rfl ?_
      refine go_callPv X (rest := [.ref q1, .int (nI i), .ref a_s]) (kX4_init l D cy q1 40 (by decide)) (cwI 1 X.2.2.2.2.1 gX6_init_X4_init rfl rfl rfl (X.2.2.2.2.1 _ fc_lp_zX4) (X.2.2.2.2.1 _ fc_lp_l11) (X.2.2.2.2.1 _ fc_lp_nX4) rfl cd_X4_init ⟨hf, hlo⟩) (wr := ((a_s, .inl (cy 5, 8, .inr (.inr (.inr (.inr (fill i q)))))) :: (a_o, .inr (9, fs)) :: (G ++ plW (elS cy q qb (fun _ _ => 0) (fun _ => 0)) i))) (ws2 := fun u => [(q1, .inr (7, [.ref u, .int 0])), (u, .inl (cy 0, 40, .inl (fun _ => 0)))] ++ ((a_s, .inl (cy 5, 8, .inr (.inr (.inr (.inr (fill i q)))))) :: (a_o, .inr (9, fs)) :: (G ++ plW (elS cy q qb (fun _ _ => 0) (fun _ => 0)) i))) List.perm_append_comm (fun u => List.Perm.refl _) rfl rfl (Nat.le_of_ble_eq_true rfl) dX6_init_137 ⟨by omega, by omega⟩ (fun u _ => ?_)
      refine go_aast X (ws' := [(q1, .inr (7, [.ref u, .int 0])), (u, .inl (cy 0, 40, .inl (fun _ => 0)))] ++ ((a_s, .inl (cy 5, 8, .inr (.inr (.inr (.inr (fill (i + 1) (va_up q i q1))))))) :: (a_o, .inr (9, fs)) :: (G ++ plW (elS cy q qb (fun _ _ => 0) (fun _ => 0)) i))) 2 5 0 7 rfl rfl rfl rfl (vp_in_nI (by omega) (by decide)) ?_ dX6_init_140 ?_
      · rw [nI_clamp (by omega), fill_up]; rfl
      obtain ⟨y, ey⟩ : ∃ z : Int32, z = nI i + 1 := ⟨_, rfl⟩
      refine go_iinc X (lv' := [(1, .int y), (0, .ref a_o)]) y dX6_init_141 0 rfl (by rw [ey]; rfl) (by decide) rfl ?_
      refine go_goto X 120 dX6_init_144 (by decide) ?_
      refine go_perm (pm_grow) ?_
      have hn := ih (i + 1) (va_up q i q1) (va_up qb i u) (by omega)
      rw [plW_succ, plW_congr (el := elS cy q qb (fun _ _ => 0) (fun _ => 0)) (fun j hj => by unfold elS; rw [va_up_ne _ _ (by omega), va_up_ne _ _ (by omega)])] at hn
      have hel : elS cy (va_up q i q1) (va_up qb i u) (fun _ _ => 0) (fun _ => 0) i = [(q1, .inr (7, [.ref u, .int 0])), (u, .inl (cy 0, 40, .inl (fun _ => 0)))] := by
        unfold elS; rw [va_up_self, va_up_self]
      rw [hel] at hn
      rw [ey, nI_1]
      refine go_widen (k := c0 + 2 * (i + 1)) (n := s0 + 42 * (i + 1)) (by omega) (by omega) ?_
      exact hn
  have := key 8 0 (fun _ => 0) (fun _ => 0) rfl
  rw [fill_0] at this
  rw [show plW (elS cy (fun _ => 0) (fun _ => 0) (fun _ _ => 0) (fun _ => 0)) 0 = [] from rfl, List.append_nil] at this
  exact this
set_option maxRecDepth 100000 in
set_option maxHeartbeats 4000000 in
theorem lpD (X : Cx p s m args c cX6_init 2 RX6 wsX6_init D (tyL cy) A) (a_o a_d : Nat) (fs : List Value) (hfs : fs[2]? = some (.ref a_d)) (G : va_W) (c0 s0 : Nat) (hf : 3 ≤ R.frames) (hlo : 62 ≤ R.locals) (hc : c0 + 18 ≤ R.cells) (hs : s0 + 516 ≤ R.slots)
    (K : ∀ q qw qb, Go p l e R s m args below meth c Q 2 D A ((a_d, .inl (cy 4, 6, .inr (.inr (.inr (.inr (fill 6 q)))))) :: (a_o, .inr (9, fs)) :: (G ++ plW (elD cy q qw qb (fun _ => 0) (fun _ => 0) (fun _ => 0) (fun _ => 0) (fun _ _ => 0)) 6)) (c0 + 18) (s0 + 516) 174 [(1, .int 6), (0, .ref a_o)] []) :
    Go p l e R s m args below meth c Q 2 D A ((a_d, .inl (cy 4, 6, .inr (.inr (.inr (.inr (fun _ => none)))))) :: (a_o, .inr (9, fs)) :: G) c0 s0 149 [(1, .int 0), (0, .ref a_o)] [] := by
  have key : ∀ d i q qw qb, i + d = 6 → Go p l e R s m args below meth c Q 2 D A ((a_d, .inl (cy 4, 6, .inr (.inr (.inr (.inr (fill i q)))))) :: (a_o, .inr (9, fs)) :: (G ++ plW (elD cy q qw qb (fun _ => 0) (fun _ => 0) (fun _ => 0) (fun _ => 0) (fun _ _ => 0)) i)) (c0 + 3 * i) (s0 + 86 * i) 149 [(1, .int (nI i)), (0, .ref a_o)] [] := by
    intro d
    induction d with
    | zero =>
      intro i q qw qb hi
      have : i = 6 := by omega
      subst this
      refine go_iload_n X dX6_init_149 0 rfl rfl ?_
      refine go_bipush X (v := 6) dX6_init_150 (by decide) ?_
      exact go_icmp_ge X 174 dX6_init_152 (by decide) (fun _ => K q qw qb) (fun c0 => absurd (by decide) c0)
    | succ d ih =>
      intro i q qw qb hi
      refine go_iload_n X dX6_init_149 0 rfl rfl ?_
      refine go_bipush X (v := 6) dX6_init_150 (by decide) ?_
      refine go_icmp_ge X 174 dX6_init_152 (by decide) (fun c1 => absurd (by rw [show (6 : Int32) = nI 6 from rfl, nI_leI (by decide) (by omega)] at c1; exact c1) (by omega)) (fun _ => ?_)
      refine go_aload_n X dX6_init_155 1 rfl rfl ?_
      refine go_get X fi_lpS_X6 1 rfl rfl 2 (by decide) fl_lpS_24 hfs dX6_init_156 ?_
      refine go_iload_n X dX6_init_159 0 rfl rfl ?_
      refine go_new X (ci := 3) (fs := [.null, .int 0, .int 0, .int 0]) fi_lpS_X0 tyX0 tyX0_ok fc_lp_c22 fc_lp_tX0 fc_lp_zX0 rfl (by decide) (by omega) (by omega) dX6_init_160 (fun q1 => ?_)
      refine go_dup X dX6_init_163 rfl ?_
      refine go_callPv X (rest := [.ref q1, .int (nI i), .ref a_d]) (kX0_init l D cy q1) (cwI 0 X.2.2.2.2.1 gX6_init_X0_init rfl rfl rfl (X.2.2.2.2.1 _ fc_lp_zX0) (X.2.2.2.2.1 _ fc_lp_l28) (X.2.2.2.2.1 _ fc_lp_nX0) rfl cd_X0_init ⟨hf, by show 8 + (1 + 11) + 41 ≤ _; omega⟩) (wr := ((a_d, .inl (cy 4, 6, .inr (.inr (.inr (.inr (fill i q)))))) :: (a_o, .inr (9, fs)) :: (G ++ plW (elD cy q qw qb (fun _ => 0) (fun _ => 0) (fun _ => 0) (fun _ => 0) (fun _ _ => 0)) i))) (ws2 := fun u => [(q1, .inr (3, [.ref (u 0), .int 0, .int 0, .int 0])), (u 0, .inr (7, [.ref (u 1), .int 0])), (u 1, .inl (cy 0, 80, .inl (fun _ => 0)))] ++ ((a_d, .inl (cy 4, 6, .inr (.inr (.inr (.inr (fill i q)))))) :: (a_o, .inr (9, fs)) :: (G ++ plW (elD cy q qw qb (fun _ => 0) (fun _ => 0) (fun _ => 0) (fun _ => 0) (fun _ _ => 0)) i))) List.perm_append_comm (fun u => List.Perm.refl _) rfl rfl (Nat.le_of_ble_eq_true rfl) dX6_init_164 ⟨by omega, by omega⟩ (fun u _ => ?_)
      refine go_aast X (ws' := [(q1, .inr (3, [.ref (u 0), .int 0, .int 0, .int 0])), (u 0, .inr (7, [.ref (u 1), .int 0])), (u 1, .inl (cy 0, 80, .inl (fun _ => 0)))] ++ ((a_d, .inl (cy 4, 6, .inr (.inr (.inr (.inr (fill (i + 1) (va_up q i q1))))))) :: (a_o, .inr (9, fs)) :: (G ++ plW (elD cy q qw qb (fun _ => 0) (fun _ => 0) (fun _ => 0) (fun _ => 0) (fun _ _ => 0)) i))) 3 4 0 3 rfl rfl rfl rfl (vp_in_nI (by omega) (by decide)) ?_ dX6_init_167 ?_
      · rw [nI_clamp (by omega), fill_up]; rfl
      obtain ⟨y, ey⟩ : ∃ z : Int32, z = nI i + 1 := ⟨_, rfl⟩
      refine go_iinc X (lv' := [(1, .int y), (0, .ref a_o)]) y dX6_init_168 0 rfl (by rw [ey]; rfl) (by decide) rfl ?_
      refine go_goto X 149 dX6_init_171 (by decide) ?_
      refine go_perm (pm_grow3) ?_
      have hn := ih (i + 1) (va_up q i q1) (va_up qw i (u 0)) (va_up qb i (u 1)) (by omega)
      rw [plW_succ, plW_congr (el := elD cy q qw qb (fun _ => 0) (fun _ => 0) (fun _ => 0) (fun _ => 0) (fun _ _ => 0)) (fun j hj => by unfold elD; rw [va_up_ne _ _ (by omega), va_up_ne _ _ (by omega), va_up_ne _ _ (by omega)])] at hn
      have hel : elD cy (va_up q i q1) (va_up qw i (u 0)) (va_up qb i (u 1)) (fun _ => 0) (fun _ => 0) (fun _ => 0) (fun _ => 0) (fun _ _ => 0) i = [(q1, .inr (3, [.ref (u 0), .int 0, .int 0, .int 0])), (u 0, .inr (7, [.ref (u 1), .int 0])), (u 1, .inl (cy 0, 80, .inl (fun _ => 0)))] := by
        unfold elD; rw [va_up_self, va_up_self, va_up_self]
      rw [hel] at hn
      rw [ey, nI_1]
      refine go_widen (k := c0 + 3 * (i + 1)) (n := s0 + 86 * (i + 1)) (by omega) (by omega) ?_
      exact hn
  have := key 6 0 (fun _ => 0) (fun _ => 0) (fun _ => 0) rfl
  rw [fill_0] at this
  rw [show plW (elD cy (fun _ => 0) (fun _ => 0) (fun _ => 0) (fun _ => 0) (fun _ => 0) (fun _ => 0) (fun _ => 0) (fun _ _ => 0)) 0 = [] from rfl, List.append_nil] at this
  exact this
end LP
