/-! HELPERS of the law: each calls a method that may throw, and catches -/
/-- a method with handlers of its own, which returns an int; its premise holds what a throw needs -/
def MetH {S : Type} (l : Launch) (y : MethodName) (ws : List Cond) (rm : Room) (D : va_G) (tys : List (ClassId × FieldType)) (av : List Value) (w0 : va_W) (wc : S → va_W) (post : Int32 → S → Prop) (mc ms : Nat) : Prop :=
  ∀ sz : Nat, Met l y ws rm (va_Pc av (PreX D tys w0 sz)) (va_Qi post (AtW D tys (va_A w0 sz) wc) (va_A w0 sz)) mc ms (va_A w0 sz)
theorem metH_of {S : Type} {l : Launch} {y : MethodName} {ws ws' : List Cond} {rm : Room} {D : va_G} {tys : List (ClassId × FieldType)} {av : List Value} {w0 : va_W} {wc : S → va_W} {post : Int32 → S → Prop} {mc ms : Nat} {cc : ByteArray} {maxL : Nat} {ty : FieldType} {hh : List (Nat × Nat × Nat × Nat)} {lv : List (Nat × Value)}
    (hy : plainName y.cls = true) (hw : ws = Cond.codeWith y cc maxL (some ty) hh :: ws') (ha : (lg_sl av).length ≤ maxL) (hl : lv_args 0 av = lv)
    (body : ∀ (p : Program) (e : Env) (s : State) (m : MethodId) (below : List Frame) (meth : Method) (c : Code) (Q : State → Prop) (A : Nat → Prop), Cx p s m av.toArray c cc maxL y.cls ws D tys A → c.exceptionTable.toList = tableOf hh → thE A s s.heap → RtI p l e rm s m av.toArray below meth c cc Q maxL D A ty wc post mc ms → Go p l e rm s m av.toArray below meth c Q maxL D A w0 0 0 0 lv []) : MetH l y ws rm D tys av w0 wc post mc ms := by
  intro sz
  refine va_MetW (cc := cc) (maxL := maxL) (ret := some ty) (hh := hh) hy hw ?_
  intro p e s m args below meth c s₁ B hml hv
  obtain ⟨rfl, ⟨hsz, hP, hK, hD0⟩, hE⟩ := hv
  subst hsz
  have hD := hD0.self (sz := s.heap.size)
  obtain ⟨ls, hls, he⟩ := entry_lv (m := m) ha hl
  rw [he]
  have hall := atoms_spec (ws := ws) B.pre
  refine body p e s m below meth c _ (va_A w0 s.heap.size) ⟨B.exec, B.bytes, hml, findClass_of_methodNamed B.named, hall, hK, fun q h => Or.inr h⟩ (vx_table (x := y) B (hall _ (by rw [hw]; exact List.mem_cons_self))) hE ?_ s.heap [] ls hP hD va_S.rf hls
  intro r u pc lv2 hd hn hp H locs ls hP hD hS hl
  exact W.zret B.exec B.bytes B.returns hn (fun t ht hW => ⟨⟨r, u, rfl, hp, by rw [ht]; exact hP, va_K.moved hW.alike hK, hD⟩, hS.F ht⟩) hS.2.2 hd B.notSynchronized
section HC
variable {p : Program} {l : Launch} {e : Env} {R : Room} {s : State} {m : MethodId} {args : Array Value} {below : List Frame} {meth : Method} {c : Code} {Q : State → Prop} {cc : ByteArray} {nL : Nat} {own : String} {Ts : List Cond} {D : va_G} {tys : List (ClassId × FieldType)} {A : Nat → Prop} {ws : va_W} {cells slots pc : Nat} {lv : List (Nat × Value)} {st : List Value}
variable {S : Type} {y : MethodName} {bytes : ByteArray} {maxL n index ci b mc ms : Nat} {ret : Option FieldType} {wy : List Cond} {rm : Room} {As rest : List Value} {w0 wr : va_W} {wc ws2 : S → va_W} {C : String} {T : u_T} {N : Nat} {fs : List Value}
theorem the_of (X : Cx p s m args c cc nL own Ts D tys A) (hE : thE A s s.heap) {H : Heap} {locs : List Loc} (hp : List.Perm ws (w0 ++ wr)) (hD : va_D A ws) (hS : va_S A s.heap H locs) {U : State} (hU : U.heap = H) (hW : s.WarmedH U.vm) : thE (va_A w0 H.size) U U.heap := by
  rw [hU]
  exact thE.moved hW ((hE.kept hS.2.1).narrow (free_of X hp hD hS))
/-- a call that comes back or throws; what it throws is caught here -/
theorem go_callVx {post : Int32 → S → Prop} {px : String → S → Prop} (X : Cx p s m args c cc nL own Ts D tys A) (hE : thE A s s.heap) (hM : MetX l y wy rm D tys (.ref b :: As) w0 wc post px mc ms) (cw : CallW R s args own C index y bytes maxL ret wy rm mc ms n) (hp : List.Perm ws (w0 ++ wr)) (hp2 : ∀ u, List.Perm (wc u ++ wr) (ws2 u)) (hc : vwCl[ci]? = some (C, T, N)) (he : w0[0]? = some (b, .inr (ci, fs))) (hst : st = As.reverse ++ .ref b :: rest) (hn : As.length = n) (hr : (rest.map fun v => v.category).sum ≤ 8) (hd : decode cc pc = .ok (.invokevirtual index, 3)) (hf : cells + mc ≤ R.cells ∧ slots + ms ≤ R.slots)
    (kx : ∀ E u, px E u → ∃ (pre : List ExceptionTableEntry) (x : ExceptionTableEntry) (suf : List ExceptionTableEntry) (name : String), c.exceptionTable.toList = pre ++ x :: suf ∧ (∀ z ∈ pre, covers z pc = false ∨ (z.catchType ≠ 0 ∧ ∃ nm : String, (Cond.classLink own z.catchType nm).before args s = true ∧ va_Nc E nm s)) ∧ covers x pc = true ∧ x.catchType ≠ 0 ∧ (Cond.classLink own x.catchType name).before args s = true ∧ (Cond.castable E name).before args s = true ∧
      ∀ q : Nat, Go p l e R s m args below meth c Q nL D A (ws2 u) (cells + mc) (slots + ms) x.handlerPc lv [.ref q])
    (kk : ∀ r u, post r u → Go p l e R s m args below meth c Q nL D A (ws2 u) (cells + mc) (slots + ms) (pc + 3) lv (.int r :: rest)) : Go p l e R s m args below meth c Q nL D A ws cells slots pc lv st := by
  intro H locs ls hP hD hS hl
  refine vx_calli (vx_runV (As := As) (rest := rest) ⟨X.1, X.2.1, X.2.2.1, X.2.2.2.1, X.2.2.2.2.1⟩ (hM H.size) cw ⟨preX_blind, rcv_of X hp hP hc he, fun U hU hW => ⟨rfl, pre_of X hp hP hD hU hW, the_of X hE hp hD hS hU hW⟩⟩ rfl hn hl.1 hst (lv_room hr) hd hf) hS (fun q _ h => free_of X hp hD hS q h) (free_of X hp hD hS) (fun q _ h => free_of X hp hD hS q h) (fun E ce q9 u t H1 locs1 ht hvm _ hB hz1 hk1 hS1 hce hcv hcl => ?_) (fun r u t H1 locs ht hvm hw hB hz1 hk1 hS1 => ?_)
  · obtain ⟨hpx, hP1, hK1, hD1⟩ := hB
    rw [ht] at hP1
    obtain ⟨hP2, hD2⟩ := w_join hP hD hp hk1 (free_of X hp hD hS) hP1 hD1
    obtain ⟨pre, x, suf, name, h1, h2, h3, h4, h5, h6, h7⟩ := kx E u hpx
    exact ct_catch X.2.2.2.1 pre x suf h1 h2 h3 h4 h5 h6 hce hcv hcl (h7 q9 H1 locs1 ls (wP_perm (hp2 u) hP2) (wD_perm (hp2 u) hD2) hS1 hl)
  · obtain ⟨hP1, hK1, hD1⟩ := hB
    rw [ht] at hP1
    obtain ⟨hP2, hD2⟩ := w_join hP hD hp hk1 (free_of X hp hD hS) hP1 hD1
    exact kk r u hw H1 locs ls (wP_perm (hp2 u) hP2) (wD_perm (hp2 u) hD2) hS1 hl
/-- a call of a helper -/
theorem go_callSH {post : Int32 → S → Prop} {hh : List (Nat × Nat × Nat × Nat)} (X : Cx p s m args c cc nL own Ts D tys A) (hE : thE A s s.heap) (hM : MetH l y wy rm D tys As w0 wc post mc ms) (cw : vx_CSW R s args own index y bytes maxL ret hh wy rm mc ms n) (hp : List.Perm ws (w0 ++ wr)) (hp2 : ∀ u, List.Perm (wc u ++ wr) (ws2 u)) (hst : st = As.reverse ++ rest) (hn : As.length = n) (hr : (rest.map fun v => v.category).sum ≤ 8) (hd : decode cc pc = .ok (.invokestatic index, 3)) (hf : cells + mc ≤ R.cells ∧ slots + ms ≤ R.slots)
    (kk : ∀ r u, post r u → Go p l e R s m args below meth c Q nL D A (ws2 u) (cells + mc) (slots + ms) (pc + 3) lv (.int r :: rest)) : Go p l e R s m args below meth c Q nL D A ws cells slots pc lv st := by
  intro H locs ls hP hD hS hl
  refine va_calli (vx_runSW (As := As) (rest := rest) ⟨X.1, X.2.1, X.2.2.1, X.2.2.2.1, X.2.2.2.2.1⟩ (hM H.size) cw ⟨preX_blind, fun U hU hW => ⟨rfl, pre_of X hp hP hD hU hW, the_of X hE hp hD hS hU hW⟩⟩ rfl hn hl.1 hst (lv_room hr) hd hf) hS (fun q _ h => free_of X hp hD hS q h) (free_of X hp hD hS) (fun r u t H1 locs ht hvm hw hB hz1 hk1 hS1 => ?_)
  obtain ⟨hP1, hK1, hD1⟩ := hB
  rw [ht] at hP1
  obtain ⟨hP2, hD2⟩ := w_join hP hD hp hk1 (free_of X hp hD hS) hP1 hD1
  exact kk r u hw H1 locs ls (wP_perm (hp2 u) hP2) (wD_perm (hp2 u) hD2) hS1 hl
end HC
theorem wh_set {C : va_W} {x y : Nat × va_E} : (C ++ [x]).set C.length y = C ++ [y] := by
  rw [List.set_append_right _ _ (Nat.le_refl _), Nat.sub_self]; rfl
theorem wh_get {C : va_W} {x : Nat × va_E} : (C ++ [x])[C.length]? = some x := by
  rw [List.getElem?_append_right (Nat.le_refl _), Nat.sub_self]; rfl
theorem th_cast {A : Nat → Prop} {s : State} {args : Array Value} (hE : thE A s s.heap) {E : String} (h : Cond.castable E E ∈ thG) : (Cond.castable E E).before args s = true := thOk_use (thG_ok _ h) (hE.2.2.1 _ h)
theorem th_castA : Cond.castable eA eA ∈ thG := by decide +kernel
theorem th_castN : Cond.castable eN eN ∈ thG := by decide +kernel
theorem th_castR : Cond.castable eR eR ∈ thG := by decide +kernel
/-- the cell of the law's long[1] -/
abbrev hO (cy : Nat → ClassId) (q : Nat) (f : Nat → Int64) : Nat × va_E := (q, .inl (cy 3, 1, .inr (.inl f)))
/-- a helper with one int: out, text, share -/
theorem h1_of {S : Type} (l : Launch) (D : va_G) (cy : Nat → ClassId) {a_o q : Nat} {x1 : Int32} {f : Nat → Int64} {y yL : MethodName} {ws wsL ws' : List Cond} {rm rmL : Room} {cb cc : ByteArray} {maxL index ct : Nat} {ret : Option FieldType} {E : String} {w0 : va_W} {wc : S → va_W} {post : Int32 → S → Prop} {px : String → S → Prop} {fs : List Value}
    (hM : MetX l y ws rm D (tyL cy) [.ref a_o, .int x1] w0 wc post px 1 8) (hpx : ∀ E' u, px E' u → E' = E) (hy : plainName yL.cls = true) (hcls : yL.cls = RL) (hw : wsL = Cond.codeWith yL cc 4 (some .int) [(0, 9, 12, ct)] :: ws') (hct : ct ≠ 0) (hlk : Cond.classLink RL ct E ∈ wsL) (hcast : Cond.castable E E ∈ thG)
    (cw : ∀ (p : Program) (s : State) (args : Array Value), (∀ w ∈ wsL, w.before args s = true) → CallW rmL s args RL RX6 index y cb maxL ret ws rm 1 8 1) (he : w0[0]? = some (a_o, .inr (9, fs))) (hroom : 1 ≤ rmL.cells ∧ 8 ≤ rmL.slots)
    (d0 : decode cc 0 = .ok (.aload_n 2, 1)) (d1 : decode cc 1 = .ok (.iconst 0, 1)) (d2 : decode cc 2 = .ok (.aload_n 0, 1)) (d3 : decode cc 3 = .ok (.iload_n 1, 1)) (d4 : decode cc 4 = .ok (.invokevirtual index, 3)) (d7 : decode cc 7 = .ok (.i2l, 1)) (d8 : decode cc 8 = .ok (.lastore, 1)) (d9 : decode cc 9 = .ok (.goto 6, 3)) (d12 : decode cc 12 = .ok (.astore_n 3, 1)) (d13 : decode cc 13 = .ok (.iconst 1, 1)) (d14 : decode cc 14 = .ok (.ireturn, 1)) (d15 : decode cc 15 = .ok (.iconst 0, 1)) (d16 : decode cc 16 = .ok (.ireturn, 1)) :
    MetH l yL wsL rmL D (tyL cy) [.ref a_o, .int x1, .ref q] (w0 ++ [hO cy q f]) (fun u : S × (Nat → Int64) => wc u.1 ++ [hO cy q u.2]) (fun r u => (r = 0 ∧ ∃ v, post v u.1 ∧ u.2 = vp_updL f 0 v.toInt64) ∨ (r = 1 ∧ px E u.1)) 1 8 := by
  refine metH_of (cc := cc) (maxL := 4) (ty := .int) (hh := [(0, 9, 12, ct)]) (lv := [(0, .ref a_o), (1, .int x1), (2, .ref q)]) hy hw (by show 3 ≤ 4; decide) rfl ?_
  intro p e s m below meth c Q A X ht hE hR
  rw [hcls] at X
  refine go_aload_n X d0 2 rfl rfl (go_iconst X d1 rfl (go_aload_n X d2 0 rfl rfl (go_iload_n X d3 1 rfl rfl ?_)))
  refine go_callVx X hE hM (cw p s _ X.2.2.2.2.1) (wr := [hO cy q f]) (ws2 := fun u => wc u ++ [hO cy q f]) (List.Perm.refl _) (fun u => List.Perm.refl _) (ci := 9) rfl he (rest := [.int 0, .ref q]) rfl rfl (by show (2 : Nat) ≤ 8; decide) d4 (by omega) (fun E' u hp => ?_) (fun r u hp => ?_)
  · have e0 := hpx E' u hp
    subst e0
    refine ⟨[], ⟨0, 9, 12, ct⟩, [], E', ht, (fun z hz => absurd hz List.not_mem_nil), rfl, hct, X.2.2.2.2.1 _ hlk, th_cast hE hcast, fun q9 => ?_⟩
    refine go_astore_n X d12 rfl (by decide) rfl (go_iconst X d13 rfl ?_)
    exact hR 1 (u, f) 14 _ d14 rfl (Or.inr ⟨rfl, hp⟩)
  · refine go_i2l X d7 (go_last X (wc u ++ [hO cy q (vp_updL f 0 r.toInt64)]) (wc u).length 3 wh_get rfl (vp_in_nI (show (0 : Nat) < 1 by decide) (by decide)) wh_set d8 (go_goto X 15 d9 rfl (go_iconst X d15 rfl ?_)))
    exact hR 0 (u, vp_updL f 0 r.toInt64) 16 _ d16 rfl (Or.inl ⟨rfl, r, hp, rfl⟩)
/-- the helper with two ints and two handlers: content -/
theorem h2_of {S : Type} (l : Launch) (D : va_G) (cy : Nat → ClassId) {a_o q : Nat} {x1 x2 : Int32} {f : Nat → Int64} {y yL : MethodName} {ws wsL ws' : List Cond} {rm rmL : Room} {cb cc : ByteArray} {maxL index : Nat} {ret : Option FieldType} {w0 : va_W} {wc : S → va_W} {post : Int32 → S → Prop} {px : String → S → Prop} {fs : List Value}
    (hM : MetX l y ws rm D (tyL cy) [.ref a_o, .int x1, .int x2] w0 wc post px 1 8) (hpx : ∀ E' u, px E' u → E' = eN ∨ E' = eA) (hy : plainName yL.cls = true) (hcls : yL.cls = RL) (hw : wsL = Cond.codeWith yL cc 5 (some .int) [(0, 10, 13, 13), (0, 10, 17, 15)] :: ws') (hlN : Cond.classLink RL 13 eN ∈ wsL) (hlA : Cond.classLink RL 15 eA ∈ wsL)
    (cw : ∀ (p : Program) (s : State) (args : Array Value), (∀ w ∈ wsL, w.before args s = true) → CallW rmL s args RL RX6 index y cb maxL ret ws rm 1 8 2) (he : w0[0]? = some (a_o, .inr (9, fs))) (hroom : 1 ≤ rmL.cells ∧ 8 ≤ rmL.slots)
    (d0 : decode cc 0 = .ok (.aload_n 3, 1)) (d1 : decode cc 1 = .ok (.iconst 0, 1)) (d2 : decode cc 2 = .ok (.aload_n 0, 1)) (d3 : decode cc 3 = .ok (.iload_n 1, 1)) (d4 : decode cc 4 = .ok (.iload_n 2, 1)) (d5 : decode cc 5 = .ok (.invokevirtual index, 3)) (d8 : decode cc 8 = .ok (.i2l, 1)) (d9 : decode cc 9 = .ok (.lastore, 1)) (d10 : decode cc 10 = .ok (.goto 11, 3)) (d13 : decode cc 13 = .ok (.astore 4, 2)) (d15 : decode cc 15 = .ok (.iconst 1, 1)) (d16 : decode cc 16 = .ok (.ireturn, 1)) (d17 : decode cc 17 = .ok (.astore 4, 2)) (d19 : decode cc 19 = .ok (.iconst 2, 1)) (d20 : decode cc 20 = .ok (.ireturn, 1)) (d21 : decode cc 21 = .ok (.iconst 0, 1)) (d22 : decode cc 22 = .ok (.ireturn, 1)) :
    MetH l yL wsL rmL D (tyL cy) [.ref a_o, .int x1, .int x2, .ref q] (w0 ++ [hO cy q f]) (fun u : S × (Nat → Int64) => wc u.1 ++ [hO cy q u.2]) (fun r u => (r = 0 ∧ ∃ v, post v u.1 ∧ u.2 = vp_updL f 0 v.toInt64) ∨ (r = 1 ∧ px eN u.1) ∨ (r = 2 ∧ px eA u.1)) 1 8 := by
  refine metH_of (cc := cc) (maxL := 5) (ty := .int) (hh := [(0, 10, 13, 13), (0, 10, 17, 15)]) (lv := [(0, .ref a_o), (1, .int x1), (2, .int x2), (3, .ref q)]) hy hw (by show 4 ≤ 5; decide) rfl ?_
  intro p e s m below meth c Q A X ht hE hR
  rw [hcls] at X
  refine go_aload_n X d0 3 rfl rfl (go_iconst X d1 rfl (go_aload_n X d2 0 rfl rfl (go_iload_n X d3 1 rfl rfl (go_iload_n X d4 2 rfl rfl ?_))))
  refine go_callVx X hE hM (cw p s _ X.2.2.2.2.1) (wr := [hO cy q f]) (ws2 := fun u => wc u ++ [hO cy q f]) (List.Perm.refl _) (fun u => List.Perm.refl _) (ci := 9) rfl he (rest := [.int 0, .ref q]) rfl rfl (by show (2 : Nat) ≤ 8; decide) d5 (by omega) (fun E' u hp => ?_) (fun r u hp => ?_)
  · rcases hpx E' u hp with e0 | e0
    · subst e0
      refine ⟨[], ⟨0, 10, 13, 13⟩, [⟨0, 10, 17, 15⟩], eN, ht, (fun z hz => absurd hz List.not_mem_nil), rfl, by decide, X.2.2.2.2.1 _ hlN, th_cast hE th_castN, fun q9 => ?_⟩
      refine go_astore X d13 (by decide) rfl (go_iconst X d15 rfl ?_)
      exact hR 1 (u, f) 16 _ d16 rfl (Or.inr (Or.inl ⟨rfl, hp⟩))
    · subst e0
      refine ⟨[⟨0, 10, 13, 13⟩], ⟨0, 10, 17, 15⟩, [], eA, ht, (fun z hz => ?_), rfl, by decide, X.2.2.2.2.1 _ hlA, th_cast hE th_castA, fun q9 => ?_⟩
      · have ez : z = ⟨0, 10, 13, 13⟩ := List.mem_singleton.mp hz
        subst ez
        exact Or.inr ⟨by decide, eN, X.2.2.2.2.1 _ hlN, hE.2.2.2.1⟩
      · refine go_astore X d17 (by decide) rfl (go_iconst X d19 rfl ?_)
        exact hR 2 (u, f) 20 _ d20 rfl (Or.inr (Or.inr ⟨rfl, hp⟩))
  · refine go_i2l X d8 (go_last X (wc u ++ [hO cy q (vp_updL f 0 r.toInt64)]) (wc u).length 3 wh_get rfl (vp_in_nI (show (0 : Nat) < 1 by decide) (by decide)) wh_set d9 (go_goto X 21 d10 rfl (go_iconst X d21 rfl ?_)))
    exact hR 0 (u, vp_updL f 0 r.toInt64) 22 _ d22 rfl (Or.inl ⟨rfl, r, hp, rfl⟩)
