/-! methods that return or throw -/
section TN
variable {p : Program} {l : Launch} {e : Env} {R : Room} {s : State} {m : MethodId} {args : Array Value} {below : List Frame} {meth : Method} {c : Code} {cc : ByteArray} {nL : Nat} {Ts : List Cond} {D : va_G} {tys : List (ClassId × FieldType)} {A : Nat → Prop} {pc : Nat} {lv : List (Nat × Value)}
variable {S : Type} {wc : S → va_W} {px : String → S → Prop} {Qc : Array Value → State → Outcome → State → Prop}
theorem go_thN (X : Cx p s m args c cc nL RX6 Ts D tys A) (hl : l.stackTraces = false) (hE : thE A s s.heap) (hlk : meth.locks = false) (hno : ∀ x ∈ c.exceptionTable.toList, False) {text : String} {is : Nat} (hx : (eN, text, 145, is, 149) ∈ thSites)
    (d0 : decode cc pc = .ok (.new 145, 3)) (d3 : decode cc (pc + 3) = .ok (.dup, 1)) (d4 : decode cc (pc + 4) = .ok (.ldc is, 2)) (d6 : decode cc (pc + 6) = .ok (.invokespecial 149, 3)) (d9 : decode cc (pc + 9) = .ok (.athrow, 1))
    (hRf : 9 ≤ R.frames) (hRl : 200 ≤ R.locals) (hRc : 1 ≤ R.cells) (hRs : 8 ≤ R.slots) (u : S) (hp : px eN u) :
    Go p l e R s m args below meth c (vx_MQ below Qc (vx_X (fun _ : S => True) (fun E u t => px E u ∧ AtW D tys A wc u t) A) args s 1 8 A) nL D A (wc u) 0 0 pc lv [] := by
  intro H locs ls hP hD hS hls
  obtain ⟨hU, hN, hG, -, hs⟩ := hE
  obtain ⟨sa, hsa⟩ := hs _ hx
  have hin : ∀ w ∈ Cond.classLink RX6 145 eN :: Cond.initialized eN :: thNs.filter vx_no, w ∈ thG := fun _ h => List.mem_append_right _ (List.mem_append_right _ h)
  have g : ∀ w ∈ Cond.classLink RX6 145 eN :: Cond.initialized eN :: thNs.filter vx_no, w.before args s = true := fun w hw => thOk_use (thG_ok w (hin w hw)) (hG w (hin w hw))
  exact vx_throwN (A := A) X.1 X.2.1 hl X.2.2.2.1 (g _ List.mem_cons_self) (g _ (List.mem_cons_of_mem _ List.mem_cons_self)) hsa (fun w hw => g w (List.mem_cons_of_mem _ (List.mem_cons_of_mem _ hw))) (fun w hw => thOk_ot (thG_ok w (hin w hw))) hU hN hS (hls.1.trans X.2.2.1.symm) d0 d3 d4 d6 d9 (fun x hx => (hno x hx).elim) (by omega) (by simp only [List.map_nil, List.sum_nil]; omega) (by omega) (by omega) hlk (fun t ht hz hk => th_end X hp hP hD hS t ht hz hk) hS.2.2 (by omega) (by omega)
theorem thA_in : ∀ w ∈ Cond.classLink RX6 138 eA :: Cond.initialized eA :: vx_atS RX6 142 eA nmA, w ∈ thG := fun _ h => List.mem_append_left _ h
theorem thR_in : ∀ w ∈ Cond.classLink RX6 204 eR :: Cond.initialized eR :: vx_atS RX6 208 eR nmR, w ∈ thG := fun _ h => List.mem_append_right _ (List.mem_append_left _ h)
theorem fitA : Bundle.fit eA = true := by decide +kernel
theorem fitR : Bundle.fit eR = true := by decide +kernel
theorem fitAs : ∀ n ∈ nmA, Bundle.fit n = true := by decide +kernel
theorem fitRs : ∀ n ∈ nmR, Bundle.fit n = true := by decide +kernel
theorem go_th (X : Cx p s m args c cc nL RX6 Ts D tys A) (hl : l.stackTraces = false) (hE : thE A s s.heap) (hlk : meth.locks = false) (hno : ∀ x ∈ c.exceptionTable.toList, False) (x : String × String × Nat × Nat × Nat) (hx : x ∈ thSites)
    (d0 : decode cc pc = .ok (.new x.2.2.1, 3)) (d3 : decode cc (pc + 3) = .ok (.dup, 1)) (d4 : decode cc (pc + 4) = .ok (.ldc x.2.2.2.1, 2)) (d6 : decode cc (pc + 6) = .ok (.invokespecial x.2.2.2.2, 3)) (d9 : decode cc (pc + 9) = .ok (.athrow, 1))
    (hRf : 9 ≤ R.frames) (hRl : 200 ≤ R.locals) (hRc : 1 ≤ R.cells) (hRs : 8 ≤ R.slots) (u : S) (hp : px x.1 u) :
    Go p l e R s m args below meth c (vx_MQ below Qc (vx_X (fun _ : S => True) (fun E u t => px E u ∧ AtW D tys A wc u t) A) args s 1 8 A) nL D A (wc u) 0 0 pc lv [] := by
  have hx' := hx
  unfold thSites at hx'
  simp only [List.mem_cons, List.not_mem_nil, or_false] at hx'
  have f1 : nmA.length + 3 < R.frames := by show 3 + 3 < R.frames; omega
  have f2 : 13 * (nmA.length + 1) + 43 ≤ R.locals := by show 13 * (3 + 1) + 43 ≤ R.locals; omega
  have f3 : nmR.length + 3 < R.frames := by show 2 + 3 < R.frames; omega
  have f4 : 13 * (nmR.length + 1) + 43 ≤ R.locals := by show 13 * (2 + 1) + 43 ≤ R.locals; omega
  rcases hx' with rfl | rfl | rfl | rfl | rfl | rfl
  · exact go_thS X hl hE hlk hno fitA fitAs hx thA_in d0 d3 d4 d6 d9 f1 f2 hRc hRs u hp
  · exact go_thN X hl hE hlk hno hx d0 d3 d4 d6 d9 hRf hRl hRc hRs u hp
  · exact go_thS X hl hE hlk hno fitA fitAs hx thA_in d0 d3 d4 d6 d9 f1 f2 hRc hRs u hp
  · exact go_thS X hl hE hlk hno fitA fitAs hx thA_in d0 d3 d4 d6 d9 f1 f2 hRc hRs u hp
  · exact go_thS X hl hE hlk hno fitA fitAs hx thA_in d0 d3 d4 d6 d9 f1 f2 hRc hRs u hp
  · exact go_thS X hl hE hlk hno fitR fitRs hx thR_in d0 d3 d4 d6 d9 f3 f4 hRc hRs u hp
end TN
/-- a method's body throws here -/
def RtT {S : Type} (p : Program) (l : Launch) (e : Env) (R : Room) (s : State) (m : MethodId) (args : Array Value) (below : List Frame) (meth : Method) (c : Code) (cc : ByteArray) (Q : State → Prop) (nL : Nat) (D : va_G) (A : Nat → Prop) (wc : S → va_W) (px : String → S → Prop) : Prop :=
  ∀ (x : String × String × Nat × Nat × Nat) (u : S) (pc : Nat) (lv : List (Nat × Value)), x ∈ thSites → decode cc pc = .ok (.new x.2.2.1, 3) → decode cc (pc + 3) = .ok (.dup, 1) → decode cc (pc + 4) = .ok (.ldc x.2.2.2.1, 2) → decode cc (pc + 6) = .ok (.invokespecial x.2.2.2.2, 3) → decode cc (pc + 9) = .ok (.athrow, 1) → px x.1 u → Go p l e R s m args below meth c Q nL D A (wc u) 0 0 pc lv []
theorem metX_of {S : Type} {l : Launch} (hl0 : l.stackTraces = false) {y : MethodName} {ws ws' : List Cond} {rm : Room} {D : va_G} {tys : List (ClassId × FieldType)} {av : List Value} {w0 : va_W} {wc : S → va_W} {post : Int32 → S → Prop} {px : String → S → Prop} {cc : ByteArray} {maxL : Nat} {ty : FieldType} {lv : List (Nat × Value)}
    (hy : plainName y.cls = true) (hyc : y.cls = RX6) (hw : ws = Cond.code y cc maxL (some ty) :: ws') (ha : (lg_sl av).length ≤ maxL) (hl : lv_args 0 av = lv) (hf : 9 ≤ rm.frames ∧ 200 ≤ rm.locals ∧ 1 ≤ rm.cells ∧ 8 ≤ rm.slots)
    (body : ∀ (p : Program) (e : Env) (s : State) (m : MethodId) (below : List Frame) (meth : Method) (c : Code) (Q : State → Prop) (A : Nat → Prop), Cx p s m av.toArray c cc maxL y.cls ws D tys A → RtI p l e rm s m av.toArray below meth c cc Q maxL D A ty wc post 0 0 → RtT p l e rm s m av.toArray below meth c cc Q maxL D A wc px → Go p l e rm s m av.toArray below meth c Q maxL D A w0 0 0 0 lv []) : MetX l y ws rm D tys av w0 wc post px 1 8 := by
  intro sz
  refine vx_ofW (cc := cc) (maxL := maxL) (ret := some ty) hy hw ?_
  intro p e s m args below meth c s₁ B hml hno hv
  obtain ⟨rfl, ⟨hsz, hP, hK, hD0⟩, hE⟩ := hv
  subst hsz
  have hD := hD0.self (sz := s.heap.size)
  obtain ⟨ls, hls, he⟩ := entry_lv (m := m) ha hl
  rw [he]
  have X : Cx p s m av.toArray c cc maxL y.cls ws D tys (va_A w0 s.heap.size) := ⟨B.exec, B.bytes, hml, findClass_of_methodNamed B.named, atoms_spec (ws := ws) B.pre, hK, fun q h => Or.inr h⟩
  refine body p e s m below meth c _ (va_A w0 s.heap.size) X ?_ ?_ s.heap [] ls hP hD va_S.rf hls
  · intro r u pc lv2 hd hn hp
    refine go_widen (k := 1) (n := 8) (by omega) (by omega) ?_
    intro H locs ls hP hD hS hl
    exact vx_ret (W.zret B.exec B.bytes B.returns hn (fun t ht hW => ⟨⟨r, u, rfl, hp, by rw [ht]; exact hP, va_K.moved hW.alike hK, hD⟩, hS.F ht⟩) hS.2.2 hd B.notSynchronized)
  · intro x u pc lv2 hx d0 d3 d4 d6 d9 hp
    have X' : Cx p s m av.toArray c cc maxL RX6 ws D tys (va_A w0 s.heap.size) := by rw [hyc] at X; exact X
    exact go_th X' hl0 hE B.notSynchronized hno x hx d0 d3 d4 d6 d9 hf.1 hf.2.1 hf.2.2.1 hf.2.2.2 u hp
