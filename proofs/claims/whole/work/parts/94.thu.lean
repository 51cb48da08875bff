/-! 'throw new NullPointerException(text)': laws of our own; their course follows the library's for a thrown message (Steps.initThrowableSColdByV, Stand.ctorThrowS) and for a null dereference (Steps.npeInit0ColdJoinV), which have no case for the two together -/
section TNPE
variable {e : Env} {below : List Frame} {self : Addr}
theorem tn_rooms {Y : State} {g : JFrame} (htop : Y.topJava?.isSome) (n t : MethodId) (x y z : Cell) {lim : Nat × Nat} (hlim : e.platform.stackLimits Y.me = lim) (hframes : Y.frames.length + 2 < lim.1) (hwords : (stackUse (.java g :: Y.frames.tail)).2 + 43 ≤ lim.2) :
    e.platform.stackFull (((Y.setTop g).threads[(Y.setTop g).cur]?).getD { frames := [] }) (Y.setTop g).frames (1 + 2) = false ∧
    e.platform.stackFull (((((fillInside Y g n self x).setCell self y).setTop (fillJ n self 37 [])).threads[(((fillInside Y g n self x).setCell self y).setTop (fillJ n self 37 [])).cur]?).getD { frames := [] }) (((fillInside Y g n self x).setCell self y).setTop (fillJ n self 37 [])).frames (1 + 2) = false ∧
    e.platform.stackFull ((((fillInside ((fillInside Y g n self x).setCell self y) (fillJ n self 37 []) t self z).setTop (fillJ t self 16 [])).threads[((fillInside ((fillInside Y g n self x).setCell self y) (fillJ n self 37 []) t self z).setTop (fillJ t self 16 [])).cur]?).getD { frames := [] }) ((fillInside ((fillInside Y g n self x).setCell self y) (fillJ n self 37 []) t self z).setTop (fillJ t self 16 [])).frames (nativeFrameWords "java/lang/Throwable" "fillInStackTrace" 2) = false := by
  obtain ⟨g₀, hg⟩ := Option.isSome_iff_exists.mp htop
  obtain ⟨tl, htl⟩ := State.topJava?_eq_some.mp hg
  have hlen : Y.frames.length = (Frame.java g :: Y.frames.tail).length := by rw [htl]; rfl
  have hfg : (Y.setTop g).frames = .java g :: Y.frames.tail := by rw [State.frames_setTop _ htl, htl]; rfl
  have hlimg : e.platform.stackLimits (Y.setTop g).me = lim := by rw [State.stackLimits_setTop _ htop]; exact hlim
  have htopE : (Y.setCell self (x.withEntry Y.cur)).topJava?.isSome := htop
  have hfN : ((fillInside Y g n self x).setCell self y).frames = .java (entryFrameSync n #[.ref self] 1 self) :: .java g :: Y.frames.tail := by
    show (fillInside Y g n self x).frames = _
    exact frames_entered (g := g) htopE _
  have htopN : ((fillInside Y g n self x).setCell self y).topJava?.isSome := by rw [State.topJava?_of_frames hfN]; rfl
  have hlimN : e.platform.stackLimits ((fillInside Y g n self x).setCell self y).me = lim := by
    show e.platform.stackLimits (fillInside Y g n self x).me = lim
    rw [State.stackLimits_pushFrame, State.stackLimits_setTop _ htopE]; exact hlim
  have hw14 : (stackUse [Frame.java (fillJ n self 37 [])]).2 = 14 := by
    rw [stackUse_java, stackUse_nil]
    simp [operandWords]
  have htopE2 : (((fillInside Y g n self x).setCell self y).setCell self (z.withEntry ((fillInside Y g n self x).setCell self y).cur)).topJava?.isSome := by rw [State.topJava?_setCell]; exact htopN
  have hfF2 : (fillInside ((fillInside Y g n self x).setCell self y) (fillJ n self 37 []) t self z).frames = .java (entryFrameSync t #[.ref self] 1 self) :: .java (fillJ n self 37 []) :: .java g :: Y.frames.tail := by
    rw [show (fillInside ((fillInside Y g n self x).setCell self y) (fillJ n self 37 []) t self z).frames = _ from frames_entered (g := fillJ n self 37 []) htopE2 _]
    show _ :: _ :: (((fillInside Y g n self x).setCell self y).frames).tail = _
    rw [hfN]; rfl
  have htopF2 : (fillInside ((fillInside Y g n self x).setCell self y) (fillJ n self 37 []) t self z).topJava?.isSome := by rw [State.topJava?_of_frames hfF2]; rfl
  have hlimF2 : e.platform.stackLimits (fillInside ((fillInside Y g n self x).setCell self y) (fillJ n self 37 []) t self z).me = lim := by
    rw [State.stackLimits_pushFrame, State.stackLimits_setTop _ htopE2]; exact hlimN
  have hw28 : (stackUse [Frame.java (fillJ t self 16 []), Frame.java (fillJ n self 37 [])]).2 = 28 := by
    rw [stackUse_java, hw14]
    simp [operandWords]
  refine ⟨?_, ?_, ?_⟩
  · exact roomAbove (pushed := []) (base := .java g :: Y.frames.tail) (free := 43) (lim := lim) hfg hlimg (by rw [← hlen]; simp only [List.length_nil]; omega) hwords (by simp only [stackUse_nil]; omega)
  · exact roomAbove (pushed := [.java (fillJ n self 37 [])]) (base := .java g :: Y.frames.tail) (free := 43) (lim := lim) (State.frames_setTop _ hfN) (by rw [State.stackLimits_setTop _ htopN]; exact hlimN) (by rw [← hlen]; simp only [List.length_cons, List.length_nil]; omega) hwords (by rw [hw14]; omega)
  · exact roomAbove (pushed := [.java (fillJ t self 16 []), .java (fillJ n self 37 [])]) (base := .java g :: Y.frames.tail) (free := 43) (lim := lim) (State.frames_setTop _ hfF2) (by rw [State.stackLimits_setTop _ htopF2]; exact hlimF2) (by rw [← hlen]; simp only [List.length_cons, List.length_nil]; omega) hwords (by rw [hw28]; decide)
/-- NullPointerException's own 'fillInStackTrace()', from any frame -/
theorem tn_fill (p : Program) {s₀ X : State} {g : JFrame} {c : Code} (hA : At X g.method c below) (hexec : p.tables.exec = Jvm.exec) (htr : e.platform.stackTraces = false)
    (T : ThrowableC) (L : T.Links e.platform s₀) (N : NpeC) (LN : N.Links T e.platform s₀) (hW : s₀.WarmedH X.vm) {u0 : RefV} {pc cellS : Cell} {kcell : Class} {ig : Instr} {len : Nat}
    (hc : X.heap[self]? = some pc) (hobj : ∀ k, pc.vm ≠ .statics k) (hknown : pc.vm ≠ .unknown) (hfree : pc.monitor.owner = none)
    (hk : s₀.vm.classes[pc.cls]? = some kcell) (hsel0 : selectMethod e.platform s₀.vm pc.cls T.fill0 = .method T.fill0)
    (hS : X.heap[T.aS]? = some cellS) (hneS : T.aS ≠ self) (hknownS : cellS.vm ≠ .unknown) (hvU : cellS.slots[T.fUnassigned.slot]? = some u0.v)
    (hv0 : pc.slots[N.fState.slot]? = some (.int 0)) (hvS : pc.slots[T.fStack.slot]? = some u0.v) (hneSt : T.fStack.slot ≠ N.fState.slot)
    (htS : Takes s₀ pc T.fStack u0.v) (ht1 : Takes s₀ pc N.fState (.int 1)) {t : ThreadId} (ht : X.cur = t)
    (hskip : SkipFacts T e.platform s₀ (fun u => u) u0 ((npeCell N.toNpeT pc t).withEntry t))
    (hdg : decode c.code g.pc = .ok (ig, len))
    {lim : Nat × Nat} (hlim : e.platform.stackLimits X.me = lim) (hframes : X.frames.length + 2 < lim.1) (hwords : (stackUse (.java g :: X.frames.tail)).2 + 43 ≤ lim.2) :
    ∃ vm', s₀.WarmedH vm' ∧ ∀ target, Steps p.tables e below (((X.setVm vm').setCell self ((((npeCell N.toNpeT pc t).withEntry t).setSlot T.fStack.slot u0.v).left).left).setTop { g with pc := g.pc + len, stack := .ref self :: g.stack }) target →
      Steps p.tables e below (doInvoke e (X.setTop g) [] N.fill #[.ref self]).1 target := by
  subst ht
  have hlt : self < X.heap.size := (Array.getElem?_eq_some_iff.mp hc).1
  have rooms := fun vm => tn_rooms (e := e) (Y := X.setVm vm) (g := g) (self := self) hA.top N.fill T.fill pc (npeCell N.toNpeT pc X.cur) (npeCell N.toNpeT pc X.cur) (lim := lim) hlim hframes hwords
  have hheld : ((npeCell N.toNpeT pc X.cur).withEntry X.cur).left = npeCell N.toNpeT pc X.cur := Cell.left_withEntry_held _ rfl (by show 0 < pc.monitor.count + 1; omega)
  have hFmon : ((((npeCell N.toNpeT pc X.cur).withEntry X.cur).setSlot T.fStack.slot u0.v).left).monitor = (npeCell N.toNpeT pc X.cur).monitor := by
    exact (Cell.left_monitor_congr (x := ((npeCell N.toNpeT pc X.cur).withEntry X.cur).setSlot T.fStack.slot u0.v) (y := (npeCell N.toNpeT pc X.cur).withEntry X.cur) rfl).trans (congrArg Cell.monitor hheld)
  have hvSN : (npeCell N.toNpeT pc X.cur).slots[T.fStack.slot]? = some u0.v := by
    simpa [npeCell, Cell.setSlot, Cell.withEntry, Array.getElem?_setIfInBounds, Ne.symm hneSt] using hvS
  have tk : Takes s₀ (npeCell N.toNpeT pc X.cur) T.fStack u0.v := ⟨by simpa [npeCell, Cell.setSlot, Cell.withEntry] using htS.1, htS.2⟩
  have hinner : ∀ vm1, s₀.WarmedH vm1 → At (npeInside (X.setVm vm1) g N.toNpeT self pc) N.fill N.codeFill below → ∃ vm2, s₀.WarmedH vm2 ∧ ∀ t' : State,
      Steps p.tables e below (((npeInside (X.setVm vm2) g N.toNpeT self pc).setCell self (((npeCell N.toNpeT pc X.cur).withEntry X.cur).setSlot T.fStack.slot u0.v).left).setTop (fillJ N.fill self 40 [.ref self])) t' →
      Steps p.tables e below (doInvoke e ((npeInside (X.setVm vm1) g N.toNpeT self pc).setTop (fillJ N.fill self 37 [])) [] T.fill #[.ref self]).1 t' := fun vm1 hW1 hB => by
    have hc1 : (npeInside (X.setVm vm1) g N.toNpeT self pc).heap[self]? = some (npeCell N.toNpeT pc X.cur) := heapAt_setCell_self _ (by show self < (X.heap.setIfInBounds self _).size; simpa using hlt)
    have hc2 : (npeInside (X.setVm vm1) g N.toNpeT self pc).heap[T.aS]? = some cellS := by
      show ((X.heap.setIfInBounds self _).setIfInBounds self _)[T.aS]? = _
      simp [Ne.symm hneS, hS]
    obtain ⟨vm2, hW2, st⟩ := Steps.fillColdAnyV p (V := npeInside (X.setVm vm1) g N.toNpeT self pc) (g := fillJ N.fill self 37 []) (c := N.codeFill) (self := self) hB hexec T L hW1 heapOnly_id (fun _ _ => rfl) (fun _ => rfl) (fun u x y => setCell_twice _ _ _ _)
      (cell := npeCell N.toNpeT pc X.cur) (cellS := cellS) (cN := (npeCell N.toNpeT pc X.cur).withEntry X.cur) (u0 := u0) (ig := .invokespecial 24) (len := 3) [] hc1 hobj hknown (Or.inr rfl) hvSN hsel0 hc2 hneS hknownS hvU (fun _ hu => hu) (fun _ hu => hu) rfl rfl rfl rfl tk
      (by rw [LN.fillBytes]; exact LibCode.NullPointerException.Fill.at_37) (fun _ vm2 hW2 hAt t' hs => L.nativeOff p htr hAt hW2 (rooms vm2).2.2 hs) (rooms vm1).2.1 hskip
    exact ⟨vm2, hW2, fun t' hs => st t' hs⟩
  obtain ⟨vm', hW', st⟩ := Steps.npeFillColdBy p (V := X) (g := g) (c := c) (self := self) hA hexec T L N LN hW (Fi := fun u => u.setCell self (((npeCell N.toNpeT pc X.cur).withEntry X.cur).setSlot T.fStack.slot u0.v).left) (heapOnly_id.thenSetCell self _)
    (fun _ => rfl) (fun u x y => by rw [setCell_twice, setCell_twice, setCell_twice]) (cell := pc) (cFi := (((npeCell N.toNpeT pc X.cur).withEntry X.cur).setSlot T.fStack.slot u0.v).left) (kcell := kcell) (ig := ig) (len := len) [] hc hobj hknown hfree hk hv0 ht1
    (fun u hu => heapAt_setCell_self _ (Array.getElem?_eq_some_iff.mp hu).1) hFmon hdg hinner (by have := (rooms X.vm).1; rwa [State.setVm_self] at this)
  refine ⟨vm', hW', fun target hrest => st target ?_⟩
  rw [setCell_twice]
  exact hrest
/-- Throwable's '<init>(String)', the receiver a NullPointerException -/
theorem tn_init (p : Program) {s₀ V : State} {g : JFrame} {c : Code} (h : At V g.method c below) (hexec : p.tables.exec = Jvm.exec) (htr : e.platform.stackTraces = false)
    (T : ThrowableC) (L : T.Links e.platform s₀) (Z : Init0T) (LZ : Z.LaidS T.toThrowableT) (M : MsgC) (LM : M.Links T e.platform s₀) (N : NpeC) (LN : N.Links T e.platform s₀) (hW : s₀.WarmedH V.vm)
    {u0 sen : RefV} {msg : Value} (hmsg : msg.isRef = true) {cell cellS : Cell} {kcell : Class} {ig : Instr} {len : Nat}
    (hcell : V.heap[self]? = some cell) (hobj : ∀ k, cell.vm ≠ .statics k) (hknown : cell.vm ≠ .unknown) (hfree : cell.monitor.owner = none) (hcount : cell.monitor.count = 0)
    (hk : s₀.vm.classes[cell.cls]? = some kcell) (hsel0 : selectMethod e.platform s₀.vm cell.cls T.fill0 = .method T.fill0) (hselF : selectMethod e.platform s₀.vm cell.cls T.fill = .method N.fill)
    (hcellS : V.heap[T.aS]? = some cellS) (hneS : T.aS ≠ self) (hknownS : cellS.vm ≠ .unknown) (hvU : cellS.slots[T.fUnassigned.slot]? = some u0.v) (hvSen : cellS.slots[T.fSentinel.slot]? = some sen.v)
    (hv0 : cell.slots[N.fState.slot]? = some (.int 0)) (hneC : T.fCause.slot ≠ N.fState.slot) (hneSt : T.fStack.slot ≠ N.fState.slot) (hneP : T.fSupp.slot ≠ N.fState.slot)
    (htC : Takes s₀ cell T.fCause (.ref self)) (htS : Takes s₀ cell T.fStack u0.v) (htP : Takes s₀ cell T.fSupp sen.v) (ht1 : Takes s₀ cell N.fState (.int 1)) (htM : Takes s₀ cell T.fMsg msg) (hobjLocals : T.codeObj.maxLocals = 1)
    {t : ThreadId} (ht : V.cur = t) (hskip : SkipFacts T e.platform s₀ (fun u => u) u0 ((npeCell N.toNpeT (preparedCellV T.toThrowableT cell self u0 sen) t).withEntry t)) (acts : List Action) (hdg : decode c.code g.pc = .ok (ig, len))
    {lim : Nat × Nat} (hlim : e.platform.stackLimits V.me = lim) (hframes : V.frames.length + 3 < lim.1) (hwords : (stackUse (.java g :: V.frames.tail)).2 + 56 ≤ lim.2) :
    ∃ vm', s₀.WarmedH vm' ∧ ∀ target, Steps p.tables e below (((V.setVm vm').setCell self ((npeBareV T.toThrowableT N.toNpeT cell self u0 sen).setSlot T.fMsg.slot msg)).setTop { g with pc := g.pc + len }) target →
      Steps p.tables e below (doInvoke e (V.setTop g) acts (Z.m T.toThrowableT) #[.ref self, msg]).1 target := by
  have hlt : self < V.heap.size := (Array.getElem?_eq_some_iff.mp hcell).1
  obtain ⟨g₀, hg⟩ := Option.isSome_iff_exists.mp h.top
  obtain ⟨tl, htl⟩ := State.topJava?_eq_some.mp hg
  have hlen : V.frames.length = (Frame.java g :: V.frames.tail).length := by rw [htl]; rfl
  have hfg : (V.setTop g).frames = .java g :: V.frames.tail := by rw [State.frames_setTop _ htl, htl]; rfl
  have hlimg : e.platform.stackLimits (V.setTop g).me = lim := by rw [State.stackLimits_setTop _ h.top]; exact hlim
  have hfU : (initSInside V g T.toThrowableT Z self msg).frames = .java (initSJ T.toThrowableT Z self msg 0 []) :: .java g :: V.frames.tail := frames_entered h.top _
  have htopU : (initSInside V g T.toThrowableT Z self msg).topJava?.isSome := by rw [State.topJava?_of_frames hfU]; rfl
  have hlimU : e.platform.stackLimits (initSInside V g T.toThrowableT Z self msg).me = lim := by rw [State.stackLimits_pushFrame]; exact hlimg
  have hw13 : ∀ pc, (stackUse [Frame.java (initSJ T.toThrowableT Z self msg pc [])]).2 = 13 := by
    intro pc
    rw [stackUse_java, stackUse_nil]
    simp [operandWords]
  have hroom : e.platform.stackFull (((V.setTop g).threads[(V.setTop g).cur]?).getD { frames := [] }) (V.setTop g).frames 2 = false :=
    roomAbove (pushed := []) (base := .java g :: V.frames.tail) (free := 56) (lim := lim) hfg hlimg (by rw [← hlen]; simp only [List.length_nil]; omega) hwords (by simp only [stackUse_nil]; omega)
  have hroomO : e.platform.stackFull ((((initSInside V g T.toThrowableT Z self msg).setTop (initSJ T.toThrowableT Z self msg 1 [])).threads[((initSInside V g T.toThrowableT Z self msg).setTop (initSJ T.toThrowableT Z self msg 1 [])).cur]?).getD { frames := [] })
      ((initSInside V g T.toThrowableT Z self msg).setTop (initSJ T.toThrowableT Z self msg 1 [])).frames T.codeObj.maxLocals = false :=
    roomAbove (pushed := [.java (initSJ T.toThrowableT Z self msg 1 [])]) (base := .java g :: V.frames.tail) (free := 56) (lim := lim) (State.frames_setTop _ hfU) (by rw [State.stackLimits_setTop _ htopU]; exact hlimU)
      (by rw [← hlen]; simp only [List.length_cons, List.length_nil]; omega) hwords (by rw [hw13, hobjLocals]; omega)
  have tk : ∀ {f : Field} {v : Value}, Takes s₀ cell f v → Takes s₀ (preparedCellV T.toThrowableT cell self u0 sen) f v := fun h' => ⟨by simpa [preparedCellV, Cell.setSlot] using h'.1, h'.2⟩
  have hv0P : (preparedCellV T.toThrowableT cell self u0 sen).slots[N.fState.slot]? = some (.int 0) := by
    simp [preparedCellV, Cell.setSlot, hneC, hneSt, hneP, hv0]
  have hvSP : (preparedCellV T.toThrowableT cell self u0 sen).slots[T.fStack.slot]? = some u0.v := by
    have h1 : T.fStack.slot < cell.slots.size := htS.1
    simp [preparedCellV, Cell.setSlot, Ne.symm L.stackApartSupp, h1]
  have hwd : (stackUse (.java (initSJ T.toThrowableT Z self msg 24 []) :: .java g :: V.frames.tail)).2 + 43 ≤ lim.2 := by
    rw [stackUse_java]
    show (stackUse (Frame.java g :: V.frames.tail)).2 + (2 + 11 + 2 * 0 + operandWords []) + 43 ≤ lim.2
    simp only [operandWords, List.foldl_nil]
    omega
  obtain ⟨vm', hW', st⟩ := Steps.throwableInitSColdByV p h hexec T L Z LZ M LM hW (F := fun u => u.setCell self (npeBareV T.toThrowableT N.toNpeT cell self u0 sen)) (heapOnly_id.thenSetCell self _) (fun _ _ => rfl) (u0 := u0) (sen := sen) (self := self) hmsg (cell := cell) (cF := npeBareV T.toThrowableT N.toNpeT cell self u0 sen) (ig := ig) (len := len)
    hcell hknown (fun u hu => heapAt_setCell_self _ (Array.getElem?_eq_some_iff.mp hu).1) rfl rfl (by simp [npeBareV, preparedCellV, Cell.setSlot]) htM hdg (mSel := N.fill) (methSel := N.methFill) (kSel := N.kN) hobj hselF LN.method LN.fillAbstract LN.cls LN.notInterface
    (fun vm1 hW1 hA => by
      have hfX : ((initSInside (V.setVm vm1) g T.toThrowableT Z self msg).setCell self (preparedCellV T.toThrowableT cell self u0 sen)).frames = .java (initSJ T.toThrowableT Z self msg 0 []) :: .java g :: V.frames.tail := hfU
      obtain ⟨vm2, hW2, st⟩ := tn_fill p (e := e) (below := below) (self := self) (X := (initSInside (V.setVm vm1) g T.toThrowableT Z self msg).setCell self (preparedCellV T.toThrowableT cell self u0 sen)) (g := initSJ T.toThrowableT Z self msg 24 []) (c := Z.code) hA hexec htr T L N LN hW1 (u0 := u0) (pc := preparedCellV T.toThrowableT cell self u0 sen) (cellS := cellS) (kcell := kcell) (ig := .invokevirtual 27) (len := 3)
        (heapAt_setCell_self (s := initSInside (V.setVm vm1) g T.toThrowableT Z self msg) _ hlt) hobj hknown hfree hk hsel0 (by show (V.heap.setIfInBounds self _)[T.aS]? = _; simp [Ne.symm hneS, hcellS]) hneS hknownS hvU hv0P hvSP hneSt (tk htS) (tk ht1) ht hskip
        (by rw [LZ.bytes]; exact LibCode.Throwable.InitS.at_24) (lim := lim) hlimU (by rw [hfX]; simp only [List.length_cons] at hlen ⊢; omega) (by rw [hfX]; exact hwd)
      refine ⟨vm2, hW2, fun t' hs => st t' ?_⟩
      rw [npeBareV_eq T.toThrowableT N.toNpeT self u0 sen t hfree hcount]
      exact hs)
    acts hcellS hneS hknownS hvU hvSen htC htS htP hroom hroomO
  refine ⟨vm', hW', fun target hrest => st target ?_⟩
  show Steps p.tables e below (((((V.setVm vm').setCell self (preparedCellV T.toThrowableT cell self u0 sen)).setCell self (npeBareV T.toThrowableT N.toNpeT cell self u0 sen)).setCell self ((npeBareV T.toThrowableT N.toNpeT cell self u0 sen).setSlot T.fMsg.slot msg)).setTop { g with pc := g.pc + len }) target
  rw [setCell_twice, setCell_twice]
  exact hrest
theorem tn_ctor {p : Program} {l : Launch} {R : Room} {s : State} {m₀ : MethodId} {args : Array Value} {meth : Method} {c : Code} {T' : State} {locs : List Loc} {cells slots : Nat} (X : Stand p l e R s m₀ args below meth c T' locs cells slots) (hexec : p.tables.exec = Jvm.exec) (htr : e.platform.stackTraces = false) {g : JFrame} (hg : g.method = m₀) (hsize : g.locals.size = c.maxLocals)
    (T : ThrowableC) (L : T.Links e.platform s) (Z : Init0T) (LZ : Z.LaidS T.toThrowableT) (M : MsgC) (LM : M.Links T e.platform s) (N : NpeC) (LN : N.Links T e.platform s)
    (Ps : List PassC) (hL : ∀ P, P ∈ Ps → P.LinksS e.platform s) (hlink : PassesOn (Z.m T.toThrowableT) (Ps.map (·.toPassT)))
    {u0 sen : RefV} {msg : Value} (hmsg : msg.isRef = true) {cell cellS : Cell} {kcell : Class} {ig : Instr} {len : Nat}
    (hcell : T'.heap[self]? = some cell) (hobj : ∀ k, cell.vm ≠ .statics k) (hknown : cell.vm ≠ .unknown) (hfree : cell.monitor.owner = none) (hcount : cell.monitor.count = 0)
    (hk : s.vm.classes[cell.cls]? = some kcell) (hsel0 : selectMethod e.platform s.vm cell.cls T.fill0 = .method T.fill0) (hselF : selectMethod e.platform s.vm cell.cls T.fill = .method N.fill)
    (hcellS : T'.heap[T.aS]? = some cellS) (hneS : T.aS ≠ self) (hknownS : cellS.vm ≠ .unknown) (hvU : cellS.slots[T.fUnassigned.slot]? = some u0.v) (hvSen : cellS.slots[T.fSentinel.slot]? = some sen.v)
    (hv0 : cell.slots[N.fState.slot]? = some (.int 0)) (hneC : T.fCause.slot ≠ N.fState.slot) (hneSt : T.fStack.slot ≠ N.fState.slot) (hneP : T.fSupp.slot ≠ N.fState.slot)
    (htC : Takes s cell T.fCause (.ref self)) (htS : Takes s cell T.fStack u0.v) (htP : Takes s cell T.fSupp sen.v) (ht1 : Takes s cell N.fState (.int 1)) (htM : Takes s cell T.fMsg msg) (hobjLocals : T.codeObj.maxLocals = 1)
    (hskip : SkipFacts T e.platform s (fun u => u) u0 ((npeCell N.toNpeT (preparedCellV T.toThrowableT cell self u0 sen) T'.cur).withEntry T'.cur)) (acts : List Action) (hdg : decode c.code g.pc = .ok (ig, len))
    (hRframes : Ps.length + 3 < R.frames) (hRlocals : 2 * g.monitorRoom + (g.stack.map fun v => v.category).sum + (13 * Ps.length + 56) ≤ R.locals) :
    ∃ vm', Stand p l e R s m₀ args below meth c ((T'.setVm vm').setCell self ((npeBareV T.toThrowableT N.toNpeT cell self u0 sen).setSlot T.fMsg.slot msg)) (locs ++ [⟨self, T.fCause.slot⟩, ⟨self, T.fStack.slot⟩, ⟨self, T.fSupp.slot⟩, ⟨self, N.fState.slot⟩, ⟨self, T.fStack.slot⟩, ⟨self, T.fMsg.slot⟩]) cells slots ∧
      ∀ target, Steps p.tables e below (((T'.setVm vm').setCell self ((npeBareV T.toThrowableT N.toNpeT cell self u0 sen).setSlot T.fMsg.slot msg)).setTop { g with pc := g.pc + len }) target →
        Steps p.tables e below (doInvoke e (T'.setTop g) acts (firstOf (Z.m T.toThrowableT) (Ps.map (·.toPassT))) #[.ref self, msg]).1 target := by
  have h : At T' g.method c below := by rw [hg]; exact X.here
  have hfr' : T'.frames.length + (Ps.length + 3) < (e.platform.stackLimits T'.me).1 := X.framesAbove hRframes
  have hwd' : (stackUse (.java g :: T'.frames.tail)).2 + (13 * Ps.length + 56) ≤ (e.platform.stackLimits T'.me).2 := X.stackAbove hsize (K := 13 * Ps.length + 56) hRlocals
  obtain ⟨f1, -, -, f4, f5, f6⟩ := chainEnd_facts e.platform self msg (Ps.map (·.toPassT)) T' g h.top
  have fc := chainEnd_cur self msg (Ps.map (·.toPassT)) T' g
  rw [List.length_map] at f5 f6
  obtain ⟨vm', hW', st⟩ := Steps.initChainSCold (e := e) (below := below) (s₀ := s) hexec (H := fun u => u.setCell self ((npeBareV T.toThrowableT N.toNpeT cell self u0 sen).setSlot T.fMsg.slot msg)) (heapOnly_id.thenSetCell self _) (Z.m T.toThrowableT) hmsg (e.platform.stackLimits T'.me) Ps T' g c ig len acts h X.warmed hL hlink hdg rfl (by omega) (by omega) (fun vm1 hW1 c' ig' len' hA' hdg' => by
    simp only [chainEnd_setVm] at hA' hdg' ⊢
    generalize chainEnd self msg T' g (Ps.map (·.toPassT)) = E at f1 f4 f5 f6 fc hA' hdg' ⊢
    obtain ⟨vm2, hW2, st⟩ := tn_init p (e := e) (below := below) (self := self) (V := E.1.setVm vm1) (g := E.2) (c := c') hA' hexec htr T L Z LZ M LM N LN hW1 (u0 := u0) (sen := sen) hmsg (cell := cell) (cellS := cellS) (kcell := kcell) (ig := ig') (len := len')
      (by show E.1.heap[self]? = _; rw [f1]; exact hcell) hobj hknown hfree hcount hk hsel0 hselF (by show E.1.heap[T.aS]? = _; rw [f1]; exact hcellS) hneS hknownS hvU hvSen hv0 hneC hneSt hneP htC htS htP ht1 htM hobjLocals (t := T'.cur) fc hskip []
      hdg' (lim := e.platform.stackLimits T'.me) (by show e.platform.stackLimits E.1.me = _; rw [f4]) (by show E.1.frames.length + 3 < _; rw [f5]; omega) (by show (stackUse (.java E.2 :: E.1.frames.tail)).2 + 56 ≤ _; rw [f6]; omega)
    exact ⟨vm2, hW2, fun t' hs => st t' (by rw [State.setVm_twice]; exact hs)⟩)
  have X2 := X.noted hW'
  have ha : self < (T'.setVm vm').heap.size := (Array.getElem?_eq_some_iff.mp hcell).1
  have X3 := (((((X2.stored (a := self) hcell T.fCause.slot (.ref self)).storedAgain ha T.fStack.slot u0.v).storedAgain ha T.fSupp.slot sen.v).storedAgain ha N.fState.slot (.int 1)).storedAgain ha T.fStack.slot u0.v).storedAgain ha T.fMsg.slot msg
  refine ⟨vm', ?_, st⟩
  simpa only [List.append_assoc, List.cons_append, List.nil_append] using X3
end TNPE
