/-! THROW: what a throw needs of the state, and methods that may throw -/
abbrev eA : String := "java/lang/ArrayIndexOutOfBoundsException"
abbrev eN : String := "java/lang/NullPointerException"
abbrev eR : String := "java/lang/ArithmeticException"
abbrev nmA : List String := ["java/lang/IndexOutOfBoundsException", "java/lang/RuntimeException", "java/lang/Exception"]
abbrev nmR : List String := ["java/lang/RuntimeException", "java/lang/Exception"]
/-- the words of 'new NullPointerException(text)' -/
def thNs : List Cond := Bundle.throwableAtoms ++ Bundle.throwableSAtoms ++ Bundle.chainSAtoms eN nmR ++ Bundle.npeAtoms ++
  [.methodLink RX6 149 (Bundle.initS eN), .instantiable eN 8, .castable eN eN, .selects eN Bundle.tFill0 Bundle.tFill0, .selects eN Bundle.tFill Bundle.nFill,
   .lays eN Bundle.tN "cause" "Ljava/lang/Throwable;", .lays eN Bundle.tN "stackTrace" Bundle.steD, .lays eN Bundle.tN "suppressedExceptions" Bundle.listD, .lays eN Bundle.tN "detailMessage" "Ljava/lang/String;",
   .isRef (.static Bundle.tN "UNASSIGNED_STACK" Bundle.steD), .isRef (.static Bundle.tN "SUPPRESSED_SENTINEL" Bundle.listD),
   .fieldLink Bundle.tN 198 Bundle.tN "backtrace" "Ljava/lang/Object;", .lays Bundle.tN Bundle.tN "backtrace" "Ljava/lang/Object;", .lays eN Bundle.tN "backtrace" "Ljava/lang/Object;"]
def thA : List Cond := Cond.classLink RX6 138 eA :: Cond.initialized eA :: vx_atS RX6 142 eA nmA
def thR : List Cond := Cond.classLink RX6 204 eR :: Cond.initialized eR :: vx_atS RX6 208 eR nmR
def thN : List Cond := Cond.classLink RX6 145 eN :: Cond.initialized eN :: thNs.filter vx_no
def thG : List Cond := thA ++ (thR ++ thN)
def thSites : List (String × String × Nat × Nat × Nat) := [(eA, "no such dictionary", 138, 140, 142), (eN, "the dictionary is not there", 145, 147, 149), (eA, "no such byte of the dictionary", 138, 153, 142), (eA, "no such byte of OUT", 138, 176, 142), (eA, "no such byte of TEXT", 138, 191, 142), (eR, "there are no samples", 204, 206, 208)]
def thOk : Cond → Bool
  | .castable _ _ => true
  | .declares _ => true
  | w => goodWord w
theorem thA_ok : thA.all thOk = true := by decide +kernel
theorem thR_ok : thR.all thOk = true := by decide +kernel
theorem thN_ok : thN.all thOk = true := by decide +kernel
theorem thG_ok (w : Cond) (h : w ∈ thG) : thOk w = true := by
  rcases List.mem_append.mp h with h | h
  · exact List.all_eq_true.mp thA_ok w h
  rcases List.mem_append.mp h with h | h
  · exact List.all_eq_true.mp thR_ok w h
  · exact List.all_eq_true.mp thN_ok w h
theorem thOk_move {w : Cond} (hk : thOk w = true) {s U : State} (hW : s.WarmedH U.vm) (h : w.before #[] s = true) : w.before #[] U = true := by
  unfold thOk at hk
  split at hk
  · exact va_Nw.warmC hW h
  · exact va_Nw.warmD hW h
  · exact word_at hW (good_of_word hk) h
theorem thOk_use {w : Cond} (hk : thOk w = true) {s : State} {args : Array Value} (h : w.before #[] s = true) : w.before args s = true := by
  unfold thOk at hk
  split at hk
  · exact va_Nw.use rfl h
  · exact va_Nw.use rfl h
  · exact word_at (State.WarmedH.refl s) (good_of_word hk) h
theorem thOk_ot {w : Cond} (hk : thOk w = true) : vx_ot w = true := by
  unfold thOk at hk
  unfold vx_ot
  split at hk
  · rfl
  · rfl
  · rw [hk, Bool.or_true]
/-- what a throw needs: two static fields of Throwable, the words, the texts -/
def thE (A : Nat → Prop) (U : State) (H : Heap) : Prop :=
  vx_Zq Bundle.tN "UNASSIGNED_STACK" Bundle.steD A U H ∧ vx_Zq Bundle.tN "SUPPRESSED_SENTINEL" Bundle.listD A U H ∧ (∀ w ∈ thG, w.before #[] U = true) ∧ va_Nc eA eN U ∧ ∀ x ∈ thSites, ∃ sa, vk_R RX6 x.2.2.2.1 x.2.1 sa U
theorem thE.moved {A : Nat → Prop} {u U : State} {H : Heap} (hW : u.WarmedH U.vm) (h : thE A u H) : thE A U H := by
  obtain ⟨h1, h2, h3, h4, h5⟩ := h
  refine ⟨vx_Zq.moved hW.alike h1, vx_Zq.moved hW.alike h2, fun w hw => thOk_move (thG_ok w hw) hW (h3 w hw), va_Nc.moved hW.alike h4, fun x hx => ?_⟩
  obtain ⟨sa, h6⟩ := h5 x hx
  exact ⟨sa, vk_R.warm hW h6⟩
theorem thE.kept {A : Nat → Prop} {U : State} {H H1 : Heap} (h : thE A U H) (hq : ∀ a : Nat, a < H.size → ¬ A a → H1[a]? = H[a]?) : thE A U H1 :=
  ⟨h.1.kept hq, h.2.1.kept hq, h.2.2⟩
theorem thE.narrow {A B : Nat → Prop} {U : State} {H : Heap} (h : thE A U H) (hAB : ∀ q, B q → A q) : thE B U H :=
  ⟨h.1.narrow hAB, h.2.1.narrow hAB, h.2.2⟩
/-- the call's premise: the cells, and what a throw needs -/
def PreX (D : va_G) (tys : List (ClassId × FieldType)) (w0 : va_W) (sz : Nat) : State → Prop := fun U => PreW D tys w0 sz U ∧ thE (va_A w0 sz) U U.heap
theorem preX_blind {av : List Value} {D : va_G} {tys : List (ClassId × FieldType)} {w0 : va_W} {sz : Nat} : FrameBlind (va_Pc av (PreX D tys w0 sz)) := by
  intro a U g mk h
  obtain ⟨h0, h1, h2⟩ := h
  exact ⟨h0, (preW_blind (av := av) a U g mk ⟨h0, h1⟩).2, thE.moved (u := U) (U := U.calling g mk a) (State.WarmedH.refl U) h2⟩
def MetX {S : Type} (l : Launch) (y : MethodName) (ws : List Cond) (rm : Room) (D : va_G) (tys : List (ClassId × FieldType)) (av : List Value) (w0 : va_W) (wc : S → va_W) (post : Int32 → S → Prop) (px : String → S → Prop) (mc ms : Nat) : Prop :=
  ∀ sz : Nat, vx_Met l y ws rm (va_Pc av (PreX D tys w0 sz)) (va_Qi post (AtW D tys (va_A w0 sz) wc) (va_A w0 sz)) (vx_X (fun _ : S => True) (fun E u t => px E u ∧ AtW D tys (va_A w0 sz) wc u t) (va_A w0 sz)) mc ms (va_A w0 sz)
section TH
variable {p : Program} {l : Launch} {e : Env} {R : Room} {s : State} {m : MethodId} {args : Array Value} {below : List Frame} {meth : Method} {c : Code} {cc : ByteArray} {nL : Nat} {own : String} {Ts : List Cond} {D : va_G} {tys : List (ClassId × FieldType)} {A : Nat → Prop} {pc : Nat} {lv : List (Nat × Value)}
variable {S : Type} {wc : S → va_W} {px : String → S → Prop} {Qc : Array Value → State → Outcome → State → Prop}
/-- the state behind a throw, the cells as they were -/
theorem th_end (X : Cx p s m args c cc nL own Ts D tys A) {E : String} {u : S} {H : Heap} {locs : List Loc} (hp : px E u) (hP : va_P D vwCl (wc u) H) (hD : va_D A (wc u)) (hS : va_S A s.heap H locs) (t : State) (ht : s.vm.Alike t.vm) (hz : H.size ≤ t.heap.size) (hk : ∀ q : Nat, q < H.size → t.heap[q]? = H[q]?) :
    vx_X (fun _ : S => True) (fun E u t => px E u ∧ AtW D tys A wc u t) A E s t := by
  refine ⟨u, trivial, ⟨hp, wP_iff.mpr fun q hq => ?_, va_K.moved ht X.2.2.2.2.2.1, hD⟩, Nat.le_trans hS.1 hz, fun q h1 h2 => ?_⟩
  · have := wP_iff.mp hP q hq
    exact this.kept (hk q.1 this.lt)
  · rw [hk q (Nat.lt_of_lt_of_le h1 hS.1)]
    exact hS.2.1 q h1 h2
theorem go_thS (X : Cx p s m args c cc nL RX6 Ts D tys A) (hl : l.stackTraces = false) (hE : thE A s s.heap) (hlk : meth.locks = false) (hno : ∀ x ∈ c.exceptionTable.toList, False) {cls text : String} {names : List String} {ik is ic : Nat} (hcls : Bundle.fit cls = true) (hnames : ∀ n ∈ names, Bundle.fit n = true) (hx : (cls, text, ik, is, ic) ∈ thSites)
    (hin : ∀ w ∈ Cond.classLink RX6 ik cls :: Cond.initialized cls :: vx_atS RX6 ic cls names, w ∈ thG)
    (d0 : decode cc pc = .ok (.new ik, 3)) (d3 : decode cc (pc + 3) = .ok (.dup, 1)) (d4 : decode cc (pc + 4) = .ok (.ldc is, 2)) (d6 : decode cc (pc + 6) = .ok (.invokespecial ic, 3)) (d9 : decode cc (pc + 9) = .ok (.athrow, 1))
    (hRf : names.length + 3 < R.frames) (hRl : 13 * (names.length + 1) + 43 ≤ R.locals) (hRc : 1 ≤ R.cells) (hRs : 8 ≤ R.slots) (u : S) (hp : px cls u) :
    Go p l e R s m args below meth c (vx_MQ below Qc (vx_X (fun _ : S => True) (fun E u t => px E u ∧ AtW D tys A wc u t) A) args s 1 8 A) nL D A (wc u) 0 0 pc lv [] := by
  intro H locs ls hP hD hS hls
  obtain ⟨hU, hN, hG, -, hs⟩ := hE
  obtain ⟨sa, hsa⟩ := hs _ hx
  have g : ∀ w ∈ Cond.classLink RX6 ik cls :: Cond.initialized cls :: vx_atS RX6 ic cls names, w.before args s = true := fun w hw => thOk_use (thG_ok w (hin w hw)) (hG w (hin w hw))
  exact vx_throwS (A := A) X.1 X.2.1 hl X.2.2.2.1 hcls hnames (g _ List.mem_cons_self) (g _ (List.mem_cons_of_mem _ List.mem_cons_self)) hsa (fun w hw => g w (List.mem_cons_of_mem _ (List.mem_cons_of_mem _ hw))) (fun w hw => thOk_ot (thG_ok w (hin w hw))) hU hN hS (hls.1.trans X.2.2.1.symm) d0 d3 d4 d6 d9 (fun x hx => (hno x hx).elim) hRf (by simpa using hRl) (by omega) (by omega) hlk (fun t ht hz hk => th_end X hp hP hD hS t ht hz hk) hS.2.2 (by omega) (by omega)
end TH
