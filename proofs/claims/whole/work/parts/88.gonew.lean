/-! GO: making objects and arrays; constructors; the script -/
section GN
variable {p : Program} {l : Launch} {e : Env} {R : Room} {s : State} {m : MethodId} {args : Array Value} {below : List Frame} {meth : Method} {c : Code} {Q : State → Prop} {cc : ByteArray} {nL : Nat} {own : String} {Ts : List Cond} {D : va_G} {tys : List (ClassId × FieldType)} {A : Nat → Prop} {ws : va_W} {cells slots pc : Nat} {lv : List (Nat × Value)} {st : List Value}
theorem go_objInit (X : Cx p s m args c cc nL own Ts D tys A) {idx a : Nat} (hlink : Cond.methodLink own idx Lib.objectInit ∈ Ts) (hinst : Cond.instanceMethod Lib.objectInit ∈ Ts) (hcode : Cond.code Lib.objectInit ⟨#[0xb1]⟩ 1 none ∈ Ts) (hd : decode cc pc = .ok (.invokespecial idx, 3)) (hf : 1 ≤ R.frames) (hl0 : (st.map fun v => v.category).sum + 12 ≤ R.locals)
    (k : Go p l e R s m args below meth c Q nL D A ws cells slots (pc + 3) lv st) : Go p l e R s m args below meth c Q nL D A ws cells slots pc lv (.ref a :: st) := by
  intro H locs ls hP hD hS hl
  refine W.objInit X.1 X.2.1 X.2.2.2.1 (X.2.2.2.2.1 _ hlink) (X.2.2.2.2.1 _ hinst) (X.2.2.2.2.1 _ hcode) rfl (by rw [X.2.2.1]; exact hl.1) rfl hd hf (by simpa using hl0) ?_
  exact k H locs ls hP hD hS hl
theorem go_new (X : Cx p s m args c cc nL own Ts D tys A) {C : String} {T : u_T} {N ci index : Nat} (hin : ∀ w ∈ u_ws C T N, w ∈ Ts) (ty : Nat → FieldType) (hty : ∀ k, k < N → parseFieldDescriptor (T k).2.2.1 = some (ty k)) (hcl : Cond.classLink own index C ∈ Ts) (hinst : Cond.instantiable C N ∈ Ts) (hini : Cond.initialized C ∈ Ts) (hc : vwCl[ci]? = some (C, T, N)) {fs : List Value} (hfs : ∀ j, j < N → defaultValue (ty j) = vp_V fs j) (hcells : cells + 1 ≤ R.cells) (hslots : slots + N ≤ R.slots) (hd : decode cc pc = .ok (.new index, 3))
    (kk : ∀ q : Nat, Go p l e R s m args below meth c Q nL D A (ws ++ [(q, .inr (ci, fs))]) (cells + 1) (slots + N) (pc + 3) lv (.ref q :: st)) : Go p l e R s m args below meth c Q nL D A ws cells slots pc lv st := by
  intro H locs ls hP hD hS hl
  exact va_new X.1 X.2.1 X.2.2.2.2.1 hin ty hty X.2.2.2.1 (X.2.2.2.2.1 _ hcl) (X.2.2.2.2.1 _ hinst) (X.2.2.2.2.1 _ hini) X.2.2.2.2.2.1 hP hD hS X.2.2.2.2.2.2 hc hfs hcells hslots hd fun q H1 hP1 hD1 hS1 => kk q H1 locs ls hP1 hD1 hS1 hl
theorem go_newa (X : Cx p s m args c cc nL own Ts D tys A) {atype : ArrayType} {ty : FieldType} (hty : newarray.typeOf atype = ty) (harr : Cond.arrayClass (newarray.typeOf atype) ∈ Ts) (t0 : Nat) {cA : ClassId} (ht : tys[t0]? = some (cA, ty)) (hu : ∀ (U : State) (c1 c2 : ClassId), va_RA U c1 ty → va_RA U c2 ty → c1 = c2) {n : Int32} {N' : Nat} {a0 : vp_A} (ha : ∀ cA : ClassId, vp_cell cA a0 = arrV cA N' (fun _ => defaultValue ty)) (hn : ¬ n < 0) (hN : n.toNatClampNeg = N') (hbytes : N' * componentBytes ty ≤ 536870912) (hcells : cells + 1 ≤ R.cells) (hslots : slots + N' ≤ R.slots) (hd : decode cc pc = .ok (.newarray atype, 2))
    (kk : ∀ q : Nat, Go p l e R s m args below meth c Q nL D A (ws ++ [(q, .inl (cA, a0))]) (cells + 1) (slots + N') (pc + 2) lv (.ref q :: st)) : Go p l e R s m args below meth c Q nL D A ws cells slots pc lv (.int n :: st) := by
  intro H locs ls hP hD hS hl
  refine va_newa X.1 X.2.1 (X.2.2.2.2.1 _ harr) hty X.2.2.2.2.2.1 hP hD hS X.2.2.2.2.2.2 ha hn hN hbytes hcells hslots hd fun q cB H1 hK1 hP1 hD1 hS1 => ?_
  have h1 := (X.2.2.2.2.2.1.2 t0 _ ht).2
  have h2 := (hK1.2 tys.length (cB, ty) (by rw [List.getElem?_append_right (Nat.le_refl _), Nat.sub_self]; rfl)).2
  have : cB = cA := hu s cB cA h2 h1
  subst this
  exact kk q H1 locs ls hP1 hD1 hS1 hl
theorem go_newq (X : Cx p s m args c cc nL own Ts D tys A) {C : String} {index : Nat} (hcl : Cond.classLink own index C ∈ Ts) (hov : Cond.arrayOver (.object C) ∈ Ts) (t0 : Nat) {cA : ClassId} (ht : tys[t0]? = some (cA, .object C)) {n : Int32} {N' : Nat} (hn : ¬ n < 0) (hN : n.toNatClampNeg = N') (hbytes : N' * 4 ≤ 536870912) (hcells : cells + 1 ≤ R.cells) (hslots : slots + N' ≤ R.slots) (hd : decode cc pc = .ok (.anewarray index, 3))
    (kk : ∀ q : Nat, Go p l e R s m args below meth c Q nL D A (ws ++ [(q, .inl (cA, N', .inr (.inr (.inr (.inr (fun _ => none))))))]) (cells + 1) (slots + N') (pc + 3) lv (.ref q :: st)) : Go p l e R s m args below meth c Q nL D A ws cells slots pc lv (.int n :: st) := by
  intro H locs ls hP hD hS hl
  refine va_newq X.1 X.2.1 X.2.2.2.1 (X.2.2.2.2.1 _ hcl) (va_AO.of (X.2.2.2.2.1 _ hov)) X.2.2.2.2.2.1 hP hD hS X.2.2.2.2.2.2 hn hN hbytes hcells hslots hd fun q cB H1 hK1 hP1 hD1 hS1 => ?_
  have h1 := (X.2.2.2.2.2.1.2 t0 _ ht).2
  have h2 := (hK1.2 tys.length (cB, .object C) (by rw [List.getElem?_append_right (Nat.le_refl _), Nat.sub_self]; rfl)).2
  obtain ⟨-, -, -, -, -, e1⟩ := h1
  obtain ⟨-, -, -, -, -, e2⟩ := h2
  have : cB = cA := Option.some.inj (e2.symm.trans e1)
  subst this
  exact kk q H1 locs ls hP1 hD1 hS1 hl
theorem go_aast (X : Cx p s m args c cc nL own Ts D tys A) (ws' : va_W) (q0 t0 qk ci : Nat) {a : Nat} {cA : ClassId} {r : vw_C} {n v : Nat} {vs : List Value} {f : Nat → Option Nat} (ha : ws[q0]? = some (a, .inl (cA, n, .inr (.inr (.inr (.inr f)))))) (ht : tys[t0]? = some (cA, .object r.1)) (hv : ws[qk]? = some (v, .inr (ci, vs))) (hc : vwCl[ci]? = some r) {i : Int32} (hin : vp_in i n) (hw : ws.set q0 (a, .inl (cA, n, .inr (.inr (.inr (.inr (va_up f i.toNatClampNeg (some v))))))) = ws') (hd : decode cc pc = .ok (.aastore, 1))
    (kk : Go p l e R s m args below meth c Q nL D A ws' cells slots (pc + 1) lv st) : Go p l e R s m args below meth c Q nL D A ws cells slots pc lv (.ref v :: .int i :: .ref a :: st) := by
  subst hw
  exact fun H locs ls hP hD hS hl => va_astq X.1 X.2.1 X.2.2.2.2.2.1 hP hD hS q0 t0 qk ci ha ht hv hc hin hd (fun H locs hP hD hS => kk H locs ls hP hD hS hl)
theorem go_sld (X : Cx p s m args c cc nL own Ts D tys A) {b L : Nat} {xs : Nat → Int32} (hX : va_X b L xs s s.heap) (hbl : b < s.heap.size) (hbA : ¬ A b) {i : Int32} (hin : vp_in i L) (hd : decode cc pc = .ok (.iaload, 1)) (kk : Go p l e R s m args below meth c Q nL D A ws cells slots (pc + 1) lv (.int (xs i.toNatClampNeg) :: st)) : Go p l e R s m args below meth c Q nL D A ws cells slots pc lv (.int i :: .ref b :: st) :=
  fun H locs ls hP hD hS hl => va_sld X.1 X.2.1 hX hbl hbA hS hin hd (kk H locs ls hP hD hS hl)
theorem go_slen (X : Cx p s m args c cc nL own Ts D tys A) {b L : Nat} {xs : Nat → Int32} (hX : va_X b L xs s s.heap) (hbl : b < s.heap.size) (hbA : ¬ A b) (hd : decode cc pc = .ok (.arraylength, 1)) (kk : Go p l e R s m args below meth c Q nL D A ws cells slots (pc + 1) lv (.int (nI L) :: st)) : Go p l e R s m args below meth c Q nL D A ws cells slots pc lv (.ref b :: st) :=
  fun H locs ls hP hD hS hl => va_slen X.1 X.2.1 hX hbl hbA hS hd (kk H locs ls hP hD hS hl)
variable {S : Type} {y : MethodName} {bytes : ByteArray} {maxL n index ci b mc ms : Nat} {wy : List Cond} {rm : Room} {As rest : List Value} {w0 wr : va_W} {wc ws2 : S → va_W}
theorem go_callPv {post : S → Prop} (X : Cx p s m args c cc nL own Ts D tys A) (hM : MetV l y wy rm D tys (.ref b :: As) w0 wc post mc ms) (cw : CallB R s args own index y bytes maxL none wy rm mc ms n ∧ y.name = "<init>" ∧ (Cond.instanceMethod y).before args s = true) (hp : List.Perm ws (w0 ++ wr)) (hp2 : ∀ u, List.Perm (wc u ++ wr) (ws2 u)) (hst : st = As.reverse ++ .ref b :: rest) (hn : As.length = n) (hr : (rest.map fun v => v.category).sum ≤ 8) (hd : decode cc pc = .ok (.invokespecial index, 3)) (hf : cells + mc ≤ R.cells ∧ slots + ms ≤ R.slots)
    (kk : ∀ u, post u → Go p l e R s m args below meth c Q nL D A (ws2 u) (cells + mc) (slots + ms) (pc + 3) lv rest) : Go p l e R s m args below meth c Q nL D A ws cells slots pc lv st := by
  intro H locs ls hP hD hS hl
  refine va_callv (va_runI (As := As) (rest := rest) ⟨X.1, X.2.1, X.2.2.1, X.2.2.2.1, X.2.2.2.2.1⟩ (hM H.size) cw ⟨preW_blind, fun U hU hW => ⟨rfl, pre_of X hp hP hD hU hW⟩⟩ rfl hn hl.1 hst (lv_room hr) hd hf) hS (fun q _ h => free_of X hp hD hS q h) (free_of X hp hD hS) (fun u t H1 locs ht hvm hw hB hz1 hk1 hS1 => ?_)
  obtain ⟨hP1, hK1, hD1⟩ := hB
  rw [ht] at hP1
  obtain ⟨hP2, hD2⟩ := w_join hP hD hp hk1 (free_of X hp hD hS) hP1 hD1
  exact kk u hw H1 locs ls (wP_perm (hp2 u) hP2) (wD_perm (hp2 u) hD2) hS1 hl
end GN
theorem ra_byte (U : State) (c1 c2 : ClassId) (h1 : va_RA U c1 .byte) (h2 : va_RA U c2 .byte) : c1 = c2 := Option.some.inj (h1.symm.trans h2)
theorem ra_int (U : State) (c1 c2 : ClassId) (h1 : va_RA U c1 .int) (h2 : va_RA U c2 .int) : c1 = c2 := Option.some.inj (h1.symm.trans h2)
theorem ra_bool (U : State) (c1 c2 : ClassId) (h1 : va_RA U c1 .boolean) (h2 : va_RA U c2 .boolean) : c1 = c2 := Option.some.inj (h1.symm.trans h2)
theorem ra_long (U : State) (c1 c2 : ClassId) (h1 : va_RA U c1 .long) (h2 : va_RA U c2 .long) : c1 = c2 := Option.some.inj (h1.symm.trans h2)
