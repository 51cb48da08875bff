/-! Worlds as heaps of cells in any order; calls with the frame rule; contracts. -/
theorem wP_iff {D : va_G} {cl : List vw_C} {ws : va_W} {H : Heap} : va_P D cl ws H ↔ ∀ q ∈ ws, va_at D cl q H := by
  constructor
  · intro h q hq
    obtain ⟨i, hi⟩ := List.getElem?_of_mem hq
    exact h i q hi
  · intro h k q hk
    exact h q (List.mem_of_getElem? hk)
theorem wD_iff {A : Nat → Prop} {ws : va_W} : va_D A ws ↔ (ws.map (fun q => q.1)).Nodup ∧ ∀ q ∈ ws, A q.1 := by
  constructor
  · intro h
    refine ⟨?_, fun q hq => ?_⟩
    · refine List.pairwise_iff_getElem.mpr fun i j hi hj hij heq => ?_
      have hi' : i < ws.length := by rw [List.length_map] at hi; exact hi
      have hj' : j < ws.length := by rw [List.length_map] at hj; exact hj
      have := h.1 i j _ _ (List.getElem?_eq_getElem hi') (List.getElem?_eq_getElem hj') (by simpa using heq)
      omega
    · obtain ⟨i, hi⟩ := List.getElem?_of_mem hq
      exact h.2 i q hi
  · intro h
    have hn := List.pairwise_iff_getElem.mp h.1
    refine ⟨fun i j x y hi hj hxy => ?_, fun k q hk => h.2 q (List.mem_of_getElem? hk)⟩
    obtain ⟨li, hi⟩ := List.getElem?_eq_some_iff.mp hi
    obtain ⟨lj, hj⟩ := List.getElem?_eq_some_iff.mp hj
    rcases Nat.lt_trichotomy i j with hlt | rfl | hlt
    · exact absurd (by rw [List.getElem_map, List.getElem_map, hi, hj]; exact hxy) (hn i j (by rw [List.length_map]; exact li) (by rw [List.length_map]; exact lj) hlt)
    · rfl
    · exact absurd (by rw [List.getElem_map, List.getElem_map, hi, hj]; exact hxy.symm) (hn j i (by rw [List.length_map]; exact lj) (by rw [List.length_map]; exact li) hlt)
theorem wP_perm {D : va_G} {cl : List vw_C} {ws ws' : va_W} {H : Heap} (hp : List.Perm ws ws') (h : va_P D cl ws H) : va_P D cl ws' H := wP_iff.mpr fun q hq => wP_iff.mp h q (hp.mem_iff.mpr hq)
theorem wD_perm {A : Nat → Prop} {ws ws' : va_W} (hp : List.Perm ws ws') (h : va_D A ws) : va_D A ws' := by
  rw [wD_iff] at h ⊢
  exact ⟨(hp.map _).nodup_iff.mp h.1, fun q hq => h.2 q (hp.mem_iff.mpr hq)⟩
theorem wP_app {D : va_G} {cl : List vw_C} {a b : va_W} {H : Heap} : va_P D cl (a ++ b) H ↔ va_P D cl a H ∧ va_P D cl b H := by
  simp only [wP_iff, List.mem_append]
  exact ⟨fun h => ⟨fun q hq => h q (Or.inl hq), fun q hq => h q (Or.inr hq)⟩, fun h q hq => hq.elim (h.1 q) (h.2 q)⟩
theorem wA_iff {ws : va_W} {sz q : Nat} : va_A ws sz q ↔ (∃ x ∈ ws, x.1 = q) ∨ sz ≤ q := by
  constructor
  · rintro (⟨k, e, h⟩ | h)
    · exact Or.inl ⟨_, List.mem_of_getElem? h, rfl⟩
    · exact Or.inr h
  · rintro (⟨x, hx, rfl⟩ | h)
    · obtain ⟨i, hi⟩ := List.getElem?_of_mem hx
      exact Or.inl ⟨i, x.2, hi⟩
    · exact Or.inr h
theorem filterMap_range_get {α : Type} : ∀ (l : List α), (List.range l.length).filterMap (fun i => l[i]?) = l
  | [] => rfl
  | a :: l => by
    rw [List.length_cons, List.range_succ_eq_map, List.filterMap_cons]
    simp only [List.getElem?_cons_zero, List.filterMap_map, Function.comp_def, List.getElem?_cons_succ]
    rw [filterMap_range_get l]
/-- a list in another order, by its places -/
theorem perm_idx {α : Type} {a b : List α} (is : List Nat) (h1 : is.isPerm (List.range a.length) = true) (h2 : is.filterMap (fun i => a[i]?) = b) : List.Perm a b := by
  have h := (List.isPerm_iff.mp h1).filterMap (fun i => a[i]?)
  rw [h2, filterMap_range_get] at h
  exact h.symm
/-- behind a call: what the callee didn't have is unchanged -/
theorem w_join {A0 : Nat → Prop} {D : va_G} {cl : List vw_C} {ws w0 wr w1 : va_W} {H H1 : Heap} (hP : va_P D cl ws H) (hD : va_D A0 ws) (hp : List.Perm ws (w0 ++ wr))
    (hk : ∀ q : Nat, q < H.size → ¬ va_A w0 H.size q → H1[q]? = H[q]?) (hF : ∀ q, va_A w0 H.size q → A0 q) (hP1 : va_P D cl w1 H1) (hD1 : va_D (va_A w0 H.size) w1) : va_P D cl (w1 ++ wr) H1 ∧ va_D A0 (w1 ++ wr) := by
  have hP' := wP_app.mp (wP_perm hp hP)
  have hD' := wD_iff.mp (wD_perm hp hD)
  rw [List.map_append, List.nodup_append] at hD'
  obtain ⟨⟨hn0, hnr, hdis⟩, hA'⟩ := hD'
  have apart : ∀ q ∈ wr, q.1 < H.size ∧ ¬ va_A w0 H.size q.1 := by
    intro q hq
    have hl := (wP_iff.mp hP'.2 q hq).lt
    refine ⟨hl, fun h => ?_⟩
    rcases wA_iff.mp h with ⟨x, hx, he⟩ | h
    · exact hdis x.1 (List.mem_map.mpr ⟨x, hx, rfl⟩) q.1 (List.mem_map.mpr ⟨q, hq, rfl⟩) he
    · omega
  refine ⟨wP_app.mpr ⟨hP1, wP_iff.mpr fun q hq => ?_⟩, wD_iff.mpr ⟨?_, fun q hq => ?_⟩⟩
  · exact (wP_iff.mp hP'.2 q hq).kept (hk q.1 (apart q hq).1 (apart q hq).2)
  · rw [List.map_append, List.nodup_append]
    refine ⟨(wD_iff.mp hD1).1, hnr, fun a ha b hb hab => ?_⟩
    obtain ⟨x, hx, rfl⟩ := List.mem_map.mp ha
    obtain ⟨y, hy, rfl⟩ := List.mem_map.mp hb
    exact (apart y hy).2 (by rw [← hab]; exact (wD_iff.mp hD1).2 x hx)
  · rcases List.mem_append.mp hq with h | h
    · exact hF _ ((wD_iff.mp hD1).2 q h)
    · exact hA' q (List.mem_append.mpr (Or.inr h))
/-- a contract's start: its cells; its end: its cells anew -/
def PreW (D : va_G) (tys : List (ClassId × FieldType)) (w0 : va_W) (sz : Nat) : State → Prop := fun U => U.heap.size = sz ∧ va_P D vwCl w0 U.heap ∧ va_K D vwCl tys U ∧ va_D (fun _ => True) w0
def AtW {S : Type} (D : va_G) (tys : List (ClassId × FieldType)) (A : Nat → Prop) (wc : S → va_W) : S → State → Prop := fun u t => va_P D vwCl (wc u) t.heap ∧ va_K D vwCl tys t ∧ va_D A (wc u)
def MetI {S : Type} (l : Launch) (y : MethodName) (ws : List Cond) (rm : Room) (D : va_G) (tys : List (ClassId × FieldType)) (av : List Value) (w0 : va_W) (wc : S → va_W) (post : Int32 → S → Prop) (mc ms : Nat) : Prop :=
  ∀ sz : Nat, Met l y ws rm (va_Pc av (PreW D tys w0 sz)) (va_Qi post (AtW D tys (va_A w0 sz) wc) (va_A w0 sz)) mc ms (va_A w0 sz)
def MetV {S : Type} (l : Launch) (y : MethodName) (ws : List Cond) (rm : Room) (D : va_G) (tys : List (ClassId × FieldType)) (av : List Value) (w0 : va_W) (wc : S → va_W) (post : S → Prop) (mc ms : Nat) : Prop :=
  ∀ sz : Nat, Met l y ws rm (va_Pc av (PreW D tys w0 sz)) (va_Qv post (AtW D tys (va_A w0 sz) wc) (va_A w0 sz)) mc ms (va_A w0 sz)
def MetQ {S : Type} (l : Launch) (y : MethodName) (ws : List Cond) (rm : Room) (D : va_G) (tys : List (ClassId × FieldType)) (av : List Value) (w0 : va_W) (wc : S → va_W) (post : Option Nat → S → Prop) (mc ms : Nat) : Prop :=
  ∀ sz : Nat, Met l y ws rm (va_Pc av (PreW D tys w0 sz)) (va_Qq post (AtW D tys (va_A w0 sz) wc) (va_A w0 sz)) mc ms (va_A w0 sz)
theorem preW_blind {av : List Value} {D : va_G} {tys : List (ClassId × FieldType)} {w0 : va_W} {sz : Nat} : FrameBlind (va_Pc av (PreW D tys w0 sz)) := by
  intro a U g mk h
  obtain ⟨h0, h1, h2, h3, h4⟩ := h
  exact ⟨h0, h1, h2, va_K.moved (u := U) (U := U.calling g mk a) (Vm.Alike.refl U.vm) h3, h4⟩
section GC
variable {p : Program} {l : Launch} {e : Env} {R : Room} {s : State} {m : MethodId} {args : Array Value} {below : List Frame} {meth : Method} {c : Code} {Q : State → Prop} {cc : ByteArray} {nL : Nat} {own : String} {Ts : List Cond} {D : va_G} {tys : List (ClassId × FieldType)} {A : Nat → Prop} {ws : va_W} {cells slots pc : Nat} {lv : List (Nat × Value)} {st : List Value}
theorem go_perm {ws' : va_W} (hp : List.Perm ws ws') (k : Go p l e R s m args below meth c Q nL D A ws' cells slots pc lv st) : Go p l e R s m args below meth c Q nL D A ws cells slots pc lv st :=
  fun H locs ls hP hD hS hl => k H locs ls (wP_perm hp hP) (wD_perm hp hD) hS hl
theorem go_widen {k n : Nat} (h1 : cells ≤ k) (h2 : slots ≤ n) (kk : Go p l e R s m args below meth c Q nL D A ws k n pc lv st) : Go p l e R s m args below meth c Q nL D A ws cells slots pc lv st :=
  fun H locs ls hP hD hS hl => W.widen h1 h2 (kk H locs ls hP hD hS hl)
theorem go_lv (is : List Nat) {lv' : List (Nat × Value)} (h : lv_pick lv is = lv') (k : Go p l e R s m args below meth c Q nL D A ws cells slots pc lv' st) : Go p l e R s m args below meth c Q nL D A ws cells slots pc lv st :=
  fun H locs ls hP hD hS hl => k H locs ls hP hD hS (lv_sub hl is h)
theorem pre_of {H : Heap} {w0 wr : va_W} (X : Cx p s m args c cc nL own Ts D tys A) (hp : List.Perm ws (w0 ++ wr)) (hP : va_P D vwCl ws H) (hD : va_D A ws) {U : State} (hU : U.heap = H) (hW : s.WarmedH U.vm) : PreW D tys w0 H.size U := by
  refine ⟨by rw [hU], by rw [hU]; exact (wP_app.mp (wP_perm hp hP)).1, va_K.moved hW.alike X.2.2.2.2.2.1, ?_⟩
  have h := wD_iff.mp (wD_perm hp hD)
  rw [List.map_append, List.nodup_append] at h
  exact wD_iff.mpr ⟨h.1.1, fun _ _ => trivial⟩
theorem free_of {H : Heap} {locs : List Loc} {w0 wr : va_W} (X : Cx p s m args c cc nL own Ts D tys A) (hp : List.Perm ws (w0 ++ wr)) (hD : va_D A ws) (hS : va_S A s.heap H locs) : ∀ q, va_A w0 H.size q → A q := by
  intro q h
  rcases wA_iff.mp h with ⟨x, hx, rfl⟩ | h
  · exact (wD_iff.mp (wD_perm hp hD)).2 x (List.mem_append.mpr (Or.inl hx))
  · exact X.2.2.2.2.2.2 q (Nat.le_trans hS.1 h)
theorem rcv_of {H : Heap} {w0 wr : va_W} (X : Cx p s m args c cc nL own Ts D tys A) (hp : List.Perm ws (w0 ++ wr)) (hP : va_P D vwCl ws H) {ci b : Nat} {q : vw_C} {fs : List Value} (hc : vwCl[ci]? = some q) (he : w0[0]? = some (b, .inr (ci, fs))) : ∃ cell : Cell, H[b]? = some cell ∧ cell.vm.isStatics = false ∧ s.vm.findClass q.1 = some cell.cls :=
  va_recv X.2.2.2.2.2.1 ((wP_app.mp (wP_perm hp hP)).1) hc he
variable {S : Type} {y : MethodName} {bytes : ByteArray} {maxL n index ci b mc ms : Nat} {ret : Option FieldType} {wy : List Cond} {rm : Room} {As rest : List Value} {w0 wr : va_W} {wc ws2 : S → va_W} {C : String} {T : u_T} {N : Nat} {fs : List Value}
theorem go_callVi {post : Int32 → S → Prop} (X : Cx p s m args c cc nL own Ts D tys A) (hM : MetI l y wy rm D tys (.ref b :: As) w0 wc post mc ms) (cw : CallW R s args own C index y bytes maxL ret wy rm mc ms n) (hp : List.Perm ws (w0 ++ wr)) (hp2 : ∀ u, List.Perm (wc u ++ wr) (ws2 u)) (hc : vwCl[ci]? = some (C, T, N)) (he : w0[0]? = some (b, .inr (ci, fs))) (hst : st = As.reverse ++ .ref b :: rest) (hn : As.length = n) (hr : (rest.map fun v => v.category).sum ≤ 8) (hd : decode cc pc = .ok (.invokevirtual index, 3)) (hf : cells + mc ≤ R.cells ∧ slots + ms ≤ R.slots)
    (kk : ∀ r u, post r u → Go p l e R s m args below meth c Q nL D A (ws2 u) (cells + mc) (slots + ms) (pc + 3) lv (.int r :: rest)) : Go p l e R s m args below meth c Q nL D A ws cells slots pc lv st := by
  intro H locs ls hP hD hS hl
  refine va_calli (va_runV (As := As) (rest := rest) ⟨X.1, X.2.1, X.2.2.1, X.2.2.2.1, X.2.2.2.2.1⟩ (hM H.size) cw ⟨preW_blind, rcv_of X hp hP hc he, fun U hU hW => ⟨rfl, pre_of X hp hP hD hU hW⟩⟩ rfl hn hl.1 hst (lv_room hr) hd hf) hS (fun q _ h => free_of X hp hD hS q h) (free_of X hp hD hS) (fun r u t H1 locs ht hvm hw hB hz1 hk1 hS1 => ?_)
  obtain ⟨hP1, hK1, hD1⟩ := hB
  rw [ht] at hP1
  obtain ⟨hP2, hD2⟩ := w_join hP hD hp hk1 (free_of X hp hD hS) hP1 hD1
  exact kk r u hw H1 locs ls (wP_perm (hp2 u) hP2) (wD_perm (hp2 u) hD2) hS1 hl
theorem go_callVv {post : S → Prop} (X : Cx p s m args c cc nL own Ts D tys A) (hM : MetV l y wy rm D tys (.ref b :: As) w0 wc post mc ms) (cw : CallW R s args own C index y bytes maxL ret wy rm mc ms n) (hp : List.Perm ws (w0 ++ wr)) (hp2 : ∀ u, List.Perm (wc u ++ wr) (ws2 u)) (hc : vwCl[ci]? = some (C, T, N)) (he : w0[0]? = some (b, .inr (ci, fs))) (hst : st = As.reverse ++ .ref b :: rest) (hn : As.length = n) (hr : (rest.map fun v => v.category).sum ≤ 8) (hd : decode cc pc = .ok (.invokevirtual index, 3)) (hf : cells + mc ≤ R.cells ∧ slots + ms ≤ R.slots)
    (kk : ∀ u, post u → Go p l e R s m args below meth c Q nL D A (ws2 u) (cells + mc) (slots + ms) (pc + 3) lv rest) : Go p l e R s m args below meth c Q nL D A ws cells slots pc lv st := by
  intro H locs ls hP hD hS hl
  refine va_callv (va_runV (As := As) (rest := rest) ⟨X.1, X.2.1, X.2.2.1, X.2.2.2.1, X.2.2.2.2.1⟩ (hM H.size) cw ⟨preW_blind, rcv_of X hp hP hc he, fun U hU hW => ⟨rfl, pre_of X hp hP hD hU hW⟩⟩ rfl hn hl.1 hst (lv_room hr) hd hf) hS (fun q _ h => free_of X hp hD hS q h) (free_of X hp hD hS) (fun u t H1 locs ht hvm hw hB hz1 hk1 hS1 => ?_)
  obtain ⟨hP1, hK1, hD1⟩ := hB
  rw [ht] at hP1
  obtain ⟨hP2, hD2⟩ := w_join hP hD hp hk1 (free_of X hp hD hS) hP1 hD1
  exact kk u hw H1 locs ls (wP_perm (hp2 u) hP2) (wD_perm (hp2 u) hD2) hS1 hl
theorem go_callVq {post : Option Nat → S → Prop} (X : Cx p s m args c cc nL own Ts D tys A) (hM : MetQ l y wy rm D tys (.ref b :: As) w0 wc post mc ms) (cw : CallW R s args own C index y bytes maxL ret wy rm mc ms n) (hp : List.Perm ws (w0 ++ wr)) (hp2 : ∀ u, List.Perm (wc u ++ wr) (ws2 u)) (hc : vwCl[ci]? = some (C, T, N)) (he : w0[0]? = some (b, .inr (ci, fs))) (hst : st = As.reverse ++ .ref b :: rest) (hn : As.length = n) (hr : (rest.map fun v => v.category).sum ≤ 8) (hd : decode cc pc = .ok (.invokevirtual index, 3)) (hf : cells + mc ≤ R.cells ∧ slots + ms ≤ R.slots)
    (kk : ∀ r u, post r u → Go p l e R s m args below meth c Q nL D A (ws2 u) (cells + mc) (slots + ms) (pc + 3) lv (va_rf r :: rest)) : Go p l e R s m args below meth c Q nL D A ws cells slots pc lv st := by
  intro H locs ls hP hD hS hl
  refine va_callq (va_runV (As := As) (rest := rest) ⟨X.1, X.2.1, X.2.2.1, X.2.2.2.1, X.2.2.2.2.1⟩ (hM H.size) cw ⟨preW_blind, rcv_of X hp hP hc he, fun U hU hW => ⟨rfl, pre_of X hp hP hD hU hW⟩⟩ rfl hn hl.1 hst (lv_room hr) hd hf) hS (fun q _ h => free_of X hp hD hS q h) (free_of X hp hD hS) (fun r u t H1 locs ht hvm hw hB hz1 hk1 hS1 => ?_)
  obtain ⟨hP1, hK1, hD1⟩ := hB
  rw [ht] at hP1
  obtain ⟨hP2, hD2⟩ := w_join hP hD hp hk1 (free_of X hp hD hS) hP1 hD1
  exact kk r u hw H1 locs ls (wP_perm (hp2 u) hP2) (wD_perm (hp2 u) hD2) hS1 hl
theorem go_callSi {post : Int32 → S → Prop} (X : Cx p s m args c cc nL own Ts D tys A) (hM : MetI l y wy rm D tys As w0 wc post mc ms) (cw : CallB R s args own index y bytes maxL ret wy rm mc ms n ∧ (Cond.static y).before args s = true) (hp : List.Perm ws (w0 ++ wr)) (hp2 : ∀ u, List.Perm (wc u ++ wr) (ws2 u)) (hst : st = As.reverse ++ rest) (hn : As.length = n) (hr : (rest.map fun v => v.category).sum ≤ 8) (hd : decode cc pc = .ok (.invokestatic index, 3)) (hf : cells + mc ≤ R.cells ∧ slots + ms ≤ R.slots)
    (kk : ∀ r u, post r u → Go p l e R s m args below meth c Q nL D A (ws2 u) (cells + mc) (slots + ms) (pc + 3) lv (.int r :: rest)) : Go p l e R s m args below meth c Q nL D A ws cells slots pc lv st := by
  intro H locs ls hP hD hS hl
  refine va_calli (va_runS (As := As) (rest := rest) ⟨X.1, X.2.1, X.2.2.1, X.2.2.2.1, X.2.2.2.2.1⟩ (hM H.size) cw ⟨preW_blind, fun U hU hW => ⟨rfl, pre_of X hp hP hD hU hW⟩⟩ rfl hn hl.1 hst (lv_room hr) hd hf) hS (fun q _ h => free_of X hp hD hS q h) (free_of X hp hD hS) (fun r u t H1 locs ht hvm hw hB hz1 hk1 hS1 => ?_)
  obtain ⟨hP1, hK1, hD1⟩ := hB
  rw [ht] at hP1
  obtain ⟨hP2, hD2⟩ := w_join hP hD hp hk1 (free_of X hp hD hS) hP1 hD1
  exact kk r u hw H1 locs ls (wP_perm (hp2 u) hP2) (wD_perm (hp2 u) hD2) hS1 hl
theorem go_callSv {post : S → Prop} (X : Cx p s m args c cc nL own Ts D tys A) (hM : MetV l y wy rm D tys As w0 wc post mc ms) (cw : CallB R s args own index y bytes maxL ret wy rm mc ms n ∧ (Cond.static y).before args s = true) (hp : List.Perm ws (w0 ++ wr)) (hp2 : ∀ u, List.Perm (wc u ++ wr) (ws2 u)) (hst : st = As.reverse ++ rest) (hn : As.length = n) (hr : (rest.map fun v => v.category).sum ≤ 8) (hd : decode cc pc = .ok (.invokestatic index, 3)) (hf : cells + mc ≤ R.cells ∧ slots + ms ≤ R.slots)
    (kk : ∀ u, post u → Go p l e R s m args below meth c Q nL D A (ws2 u) (cells + mc) (slots + ms) (pc + 3) lv rest) : Go p l e R s m args below meth c Q nL D A ws cells slots pc lv st := by
  intro H locs ls hP hD hS hl
  refine va_callv (va_runS (As := As) (rest := rest) ⟨X.1, X.2.1, X.2.2.1, X.2.2.2.1, X.2.2.2.2.1⟩ (hM H.size) cw ⟨preW_blind, fun U hU hW => ⟨rfl, pre_of X hp hP hD hU hW⟩⟩ rfl hn hl.1 hst (lv_room hr) hd hf) hS (fun q _ h => free_of X hp hD hS q h) (free_of X hp hD hS) (fun u t H1 locs ht hvm hw hB hz1 hk1 hS1 => ?_)
  obtain ⟨hP1, hK1, hD1⟩ := hB
  rw [ht] at hP1
  obtain ⟨hP2, hD2⟩ := w_join hP hD hp hk1 (free_of X hp hD hS) hP1 hD1
  exact kk u hw H1 locs ls (wP_perm (hp2 u) hP2) (wD_perm (hp2 u) hD2) hS1 hl
theorem go_mmax (X : Cx p s m args c cc nL own Ts D tys A) {x y : Int32} (h1 : Cond.methodLink own index Lib.Math.max.name ∈ Ts) (h2 : Cond.static Lib.Math.max.name ∈ Ts) (h3 : Cond.initialized "java/lang/Math" ∈ Ts) (h4 : Cond.code Lib.Math.max.name Lib.Math.max.code 2 (some .int) ∈ Ts) (hf : 1 ≤ R.frames) (hl0 : (rest.map fun v => v.category).sum + 13 ≤ R.locals) (hc : cells ≤ R.cells ∧ slots ≤ R.slots) (hd : decode cc pc = .ok (.invokestatic index, 3)) (kk : Go p l e R s m args below meth c Q nL D A ws cells slots (pc + 3) lv (.int (if x < y then y else x) :: rest)) : Go p l e R s m args below meth c Q nL D A ws cells slots pc lv (.int y :: .int x :: rest) :=
  fun H locs ls hP hD hS hl => va_mmax X.1 X.2.1 (X.2.2.1.trans hl.1.symm) X.2.2.2.1 (X.2.2.2.2.1 _ h1) (X.2.2.2.2.1 _ h2) (X.2.2.2.2.1 _ h3) (X.2.2.2.2.1 _ h4) hf hl0 hc.1 hc.2 hd (kk H locs ls hP hD hS hl)
theorem go_mmin (X : Cx p s m args c cc nL own Ts D tys A) {x y : Int32} (h1 : Cond.methodLink own index Lib.Math.min.name ∈ Ts) (h2 : Cond.static Lib.Math.min.name ∈ Ts) (h3 : Cond.initialized "java/lang/Math" ∈ Ts) (h4 : Cond.code Lib.Math.min.name Lib.Math.min.code 2 (some .int) ∈ Ts) (hf : 1 ≤ R.frames) (hl0 : (rest.map fun v => v.category).sum + 13 ≤ R.locals) (hc : cells ≤ R.cells ∧ slots ≤ R.slots) (hd : decode cc pc = .ok (.invokestatic index, 3)) (kk : Go p l e R s m args below meth c Q nL D A ws cells slots (pc + 3) lv (.int (if y < x then y else x) :: rest)) : Go p l e R s m args below meth c Q nL D A ws cells slots pc lv (.int y :: .int x :: rest) :=
  fun H locs ls hP hD hS hl => va_mmin X.1 X.2.1 (X.2.2.1.trans hl.1.symm) X.2.2.2.1 (X.2.2.2.2.1 _ h1) (X.2.2.2.2.1 _ h2) (X.2.2.2.2.1 _ h3) (X.2.2.2.2.1 _ h4) hf hl0 hc.1 hc.2 hd (kk H locs ls hP hD hS hl)
theorem go_mabs (X : Cx p s m args c cc nL own Ts D tys A) {x : Int32} (h1 : Cond.methodLink own index Lib.Math.abs.name ∈ Ts) (h2 : Cond.static Lib.Math.abs.name ∈ Ts) (h3 : Cond.initialized "java/lang/Math" ∈ Ts) (h4 : Cond.code Lib.Math.abs.name Lib.Math.abs.code 1 (some .int) ∈ Ts) (hf : 1 ≤ R.frames) (hl0 : (rest.map fun v => v.category).sum + 13 ≤ R.locals) (hc : cells ≤ R.cells ∧ slots ≤ R.slots) (hd : decode cc pc = .ok (.invokestatic index, 3)) (kk : Go p l e R s m args below meth c Q nL D A ws cells slots (pc + 3) lv (.int (if 0 ≤ x then x else 0 - x) :: rest)) : Go p l e R s m args below meth c Q nL D A ws cells slots pc lv (.int x :: rest) :=
  fun H locs ls hP hD hS hl => va_mabs X.1 X.2.1 (X.2.2.1.trans hl.1.symm) X.2.2.2.1 (X.2.2.2.2.1 _ h1) (X.2.2.2.2.1 _ h2) (X.2.2.2.2.1 _ h3) (X.2.2.2.2.1 _ h4) hf hl0 hc.1 hc.2 hd (kk H locs ls hP hD hS hl)
end GC
/-- a method's body ends here with an int -/
def RtI {S : Type} (p : Program) (l : Launch) (e : Env) (R : Room) (s : State) (m : MethodId) (args : Array Value) (below : List Frame) (meth : Method) (c : Code) (cc : ByteArray) (Q : State → Prop) (nL : Nat) (D : va_G) (A : Nat → Prop) (ty : FieldType) (wc : S → va_W) (post : Int32 → S → Prop) (cells slots : Nat) : Prop :=
  ∀ (r : Int32) (u : S) (pc : Nat) (lv : List (Nat × Value)), decode cc pc = .ok (.ireturn, 1) → narrow ty (.int r) = .int r → post r u → Go p l e R s m args below meth c Q nL D A (wc u) cells slots pc lv [.int r]
def RtV {S : Type} (p : Program) (l : Launch) (e : Env) (R : Room) (s : State) (m : MethodId) (args : Array Value) (below : List Frame) (meth : Method) (c : Code) (cc : ByteArray) (Q : State → Prop) (nL : Nat) (D : va_G) (A : Nat → Prop) (wc : S → va_W) (post : S → Prop) (cells slots : Nat) : Prop :=
  ∀ (u : S) (pc : Nat) (lv : List (Nat × Value)), decode cc pc = .ok (.return_, 1) → post u → Go p l e R s m args below meth c Q nL D A (wc u) cells slots pc lv []
def RtQ {S : Type} (p : Program) (l : Launch) (e : Env) (R : Room) (s : State) (m : MethodId) (args : Array Value) (below : List Frame) (meth : Method) (c : Code) (cc : ByteArray) (Q : State → Prop) (nL : Nat) (D : va_G) (A : Nat → Prop) (wc : S → va_W) (post : Option Nat → S → Prop) (cells slots : Nat) : Prop :=
  ∀ (r : Option Nat) (u : S) (pc : Nat) (lv : List (Nat × Value)), decode cc pc = .ok (.areturn, 1) → post r u → Go p l e R s m args below meth c Q nL D A (wc u) cells slots pc lv [va_rf r]
theorem entry_lv {m : MethodId} {av : List Value} {n : Nat} {lv : List (Nat × Value)} (h : (lg_sl av).length ≤ n) (hl : lv_args 0 av = lv) : ∃ ls : Array Slot, lv_has ls n lv ∧ entryFrame m av.toArray n = F0 m 0 ls [] := by
  subst hl
  exact ⟨_, lv_entry av h, lg_entry_eq _ _ _⟩
theorem metI_of {S : Type} {l : Launch} {y : MethodName} {ws ws' : List Cond} {rm : Room} {D : va_G} {tys : List (ClassId × FieldType)} {av : List Value} {w0 : va_W} {wc : S → va_W} {post : Int32 → S → Prop} {mc ms : Nat} {cc : ByteArray} {maxL : Nat} {ty : FieldType} {lv : List (Nat × Value)}
    (hy : plainName y.cls = true) (hw : ws = Cond.code y cc maxL (some ty) :: ws') (ha : (lg_sl av).length ≤ maxL) (hl : lv_args 0 av = lv)
    (body : ∀ (p : Program) (e : Env) (s : State) (m : MethodId) (below : List Frame) (meth : Method) (c : Code) (Q : State → Prop) (A : Nat → Prop), Cx p s m av.toArray c cc maxL y.cls ws D tys A → meth.locks = false → RtI p l e rm s m av.toArray below meth c cc Q maxL D A ty wc post mc ms → Go p l e rm s m av.toArray below meth c Q maxL D A w0 0 0 0 lv []) : MetI l y ws rm D tys av w0 wc post mc ms := by
  intro sz
  refine Met.ofW (cc := cc) (maxL := maxL) (ret := some ty) hy hw ?_
  intro p e s m args below meth c s₁ B hml hv
  obtain ⟨rfl, hsz, hP, hK, hD0⟩ := hv
  subst hsz
  have hD := hD0.self (sz := s.heap.size)
  obtain ⟨ls, hls, he⟩ := entry_lv (m := m) ha hl
  rw [he]
  refine body p e s m below meth c _ (va_A w0 s.heap.size) ⟨B.exec, B.bytes, hml, findClass_of_methodNamed B.named, atoms_spec (ws := ws) B.pre, hK, fun q h => Or.inr h⟩ B.notSynchronized ?_ s.heap [] ls hP hD va_S.rf hls
  intro r u pc lv2 hd hn hp H locs ls hP hD hS hl
  exact W.zret B.exec B.bytes B.returns hn (fun t ht hW => ⟨⟨r, u, rfl, hp, by rw [ht]; exact hP, va_K.moved hW.alike hK, hD⟩, hS.F ht⟩) hS.2.2 hd B.notSynchronized
theorem metV_of {S : Type} {l : Launch} {y : MethodName} {ws ws' : List Cond} {rm : Room} {D : va_G} {tys : List (ClassId × FieldType)} {av : List Value} {w0 : va_W} {wc : S → va_W} {post : S → Prop} {mc ms : Nat} {cc : ByteArray} {maxL : Nat} {lv : List (Nat × Value)}
    (hy : plainName y.cls = true) (hw : ws = Cond.code y cc maxL none :: ws') (ha : (lg_sl av).length ≤ maxL) (hl : lv_args 0 av = lv)
    (body : ∀ (p : Program) (e : Env) (s : State) (m : MethodId) (below : List Frame) (meth : Method) (c : Code) (Q : State → Prop) (A : Nat → Prop), Cx p s m av.toArray c cc maxL y.cls ws D tys A → meth.locks = false → meth.name = y.name → RtV p l e rm s m av.toArray below meth c cc Q maxL D A wc post mc ms → Go p l e rm s m av.toArray below meth c Q maxL D A w0 0 0 0 lv []) : MetV l y ws rm D tys av w0 wc post mc ms := by
  intro sz
  refine Met.ofW (cc := cc) (maxL := maxL) (ret := none) hy hw ?_
  intro p e s m args below meth c s₁ B hml hv
  obtain ⟨rfl, hsz, hP, hK, hD0⟩ := hv
  subst hsz
  have hD := hD0.self (sz := s.heap.size)
  obtain ⟨ls, hls, he⟩ := entry_lv (m := m) ha hl
  rw [he]
  refine body p e s m below meth c _ (va_A w0 s.heap.size) ⟨B.exec, B.bytes, hml, findClass_of_methodNamed B.named, atoms_spec (ws := ws) B.pre, hK, fun q h => Or.inr h⟩ B.notSynchronized (name_of_methodNamed B.named B.method).1 ?_ s.heap [] ls hP hD va_S.rf hls
  intro u pc lv2 hd hp H locs ls hP hD hS hl
  exact W.vret B.exec B.bytes B.returns (fun t ht hW => ⟨⟨u, rfl, hp, by rw [ht]; exact hP, va_K.moved hW.alike hK, hD⟩, hS.F ht⟩) hS.2.2 hd B.notSynchronized
theorem metQ_of {S : Type} {l : Launch} {y : MethodName} {ws ws' : List Cond} {rm : Room} {D : va_G} {tys : List (ClassId × FieldType)} {av : List Value} {w0 : va_W} {wc : S → va_W} {post : Option Nat → S → Prop} {mc ms : Nat} {cc : ByteArray} {maxL : Nat} {rc : String} {lv : List (Nat × Value)}
    (hy : plainName y.cls = true) (hw : ws = Cond.code y cc maxL (some (.object rc)) :: ws') (ha : (lg_sl av).length ≤ maxL) (hl : lv_args 0 av = lv)
    (body : ∀ (p : Program) (e : Env) (s : State) (m : MethodId) (below : List Frame) (meth : Method) (c : Code) (Q : State → Prop) (A : Nat → Prop), Cx p s m av.toArray c cc maxL y.cls ws D tys A → meth.locks = false → RtQ p l e rm s m av.toArray below meth c cc Q maxL D A wc post mc ms → Go p l e rm s m av.toArray below meth c Q maxL D A w0 0 0 0 lv []) : MetQ l y ws rm D tys av w0 wc post mc ms := by
  intro sz
  refine Met.ofW (cc := cc) (maxL := maxL) (ret := some (.object rc)) hy hw ?_
  intro p e s m args below meth c s₁ B hml hv
  obtain ⟨rfl, hsz, hP, hK, hD0⟩ := hv
  subst hsz
  have hD := hD0.self (sz := s.heap.size)
  obtain ⟨ls, hls, he⟩ := entry_lv (m := m) ha hl
  rw [he]
  refine body p e s m below meth c _ (va_A w0 s.heap.size) ⟨B.exec, B.bytes, hml, findClass_of_methodNamed B.named, atoms_spec (ws := ws) B.pre, hK, fun q h => Or.inr h⟩ B.notSynchronized ?_ s.heap [] ls hP hD va_S.rf hls
  intro r u pc lv2 hd hp H locs ls hP hD hS hl
  exact W.aret B.exec B.bytes B.returns (Or.inl ⟨_, rfl⟩) (va_rf_or r) (fun t ht hW => ⟨⟨r, u, rfl, hp, by rw [ht]; exact hP, va_K.moved hW.alike hK, hD⟩, hS.F ht⟩) hS.2.2 hd B.notSynchronized
