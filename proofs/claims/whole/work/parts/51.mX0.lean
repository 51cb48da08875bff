/-! X0_words -/
theorem fi_X0_words_X0 : ∀ w ∈ u_ws RX0 TX0 4, w ∈ wsX0_words := by decide +kernel
theorem fl_X0_words_14 : Cond.fieldLink RX0 14 (TX0 0).1 (TX0 0).2.1 (TX0 0).2.2.1 ∈ wsX0_words := by decide +kernel
def rm_X0_words : Room := { frames := 0, cells := 0, slots := 0, locals := 0 }
theorem cd_X0_words : yX0_words.cls = RX0 ∧ yX0_words.cls ≠ "java/lang/invoke/MethodHandle" ∧ yX0_words.cls ≠ "java/lang/invoke/VarHandle" ∧ (parseMethodDescriptor yX0_words.desc).map (fun d => d.parameters.length) = some 0 := by decide +kernel
set_option maxRecDepth 100000 in
set_option maxHeartbeats 4000000 in
theorem kX0_words (l : Launch) (D : va_G) (cy : Nat → ClassId) (a_o : Nat) (a_o_words : Nat) (o_pieceLength : Int32) (o_pieces : Int32) (o_id : Int32) (post : Option Nat → Prop) (h : wX0_words a_o_words post) : MetQ l yX0_words wsX0_words rm_X0_words D (tyL cy) [.ref a_o] [(a_o, .inr (3, [.ref a_o_words, .int o_pieceLength, .int o_pieces, .int o_id]))] (fun u : Unit => [(a_o, .inr (3, [.ref a_o_words, .int o_pieceLength, .int o_pieces, .int o_id]))]) (fun r => fun (u : Unit) => post r ) 0 0 := by
  refine metQ_of (cc := cX0_words) (maxL := 1) (lv := [(0, .ref a_o)]) (by decide) rfl (Nat.le_of_ble_eq_true rfl) rfl ?_
  intro p e s m below meth c Q A X hlk hR
  unfold wX0_words at h
  refine go_aload_n X dX0_words_0 0 rfl rfl ?_
  refine go_get X fi_X0_words_X0 0 rfl rfl 0 (by decide) fl_X0_words_14 rfl dX0_words_1 ?_
  exact hR (some a_o_words) () 4 _ dX0_words_4 h
/-! X0_id -/
theorem fi_X0_id_X0 : ∀ w ∈ u_ws RX0 TX0 4, w ∈ wsX0_id := by decide +kernel
theorem fl_X0_id_20 : Cond.fieldLink RX0 20 (TX0 3).1 (TX0 3).2.1 (TX0 3).2.2.1 ∈ wsX0_id := by decide +kernel
def rm_X0_id : Room := { frames := 0, cells := 0, slots := 0, locals := 0 }
theorem cd_X0_id : yX0_id.cls = RX0 ∧ yX0_id.cls ≠ "java/lang/invoke/MethodHandle" ∧ yX0_id.cls ≠ "java/lang/invoke/VarHandle" ∧ (parseMethodDescriptor yX0_id.desc).map (fun d => d.parameters.length) = some 0 := by decide +kernel
set_option maxRecDepth 100000 in
set_option maxHeartbeats 4000000 in
theorem kX0_id (l : Launch) (D : va_G) (cy : Nat → ClassId) (a_o : Nat) (a_o_words : Nat) (o_pieceLength : Int32) (o_pieces : Int32) (o_id : Int32) (post : Int32 → Prop) (h : wX0_id o_id post) : MetI l yX0_id wsX0_id rm_X0_id D (tyL cy) [.ref a_o] [(a_o, .inr (3, [.ref a_o_words, .int o_pieceLength, .int o_pieces, .int o_id]))] (fun u : Unit => [(a_o, .inr (3, [.ref a_o_words, .int o_pieceLength, .int o_pieces, .int o_id]))]) (fun r => fun (u : Unit) => post r ) 0 0 := by
  refine metI_of (cc := cX0_id) (maxL := 1) (lv := [(0, .ref a_o)]) (by decide) rfl (Nat.le_of_ble_eq_true rfl) rfl ?_
  intro p e s m below meth c Q A X hlk hR
  unfold wX0_id at h
  refine go_aload_n X dX0_id_0 0 rfl rfl ?_
  refine go_get X fi_X0_id_X0 0 rfl rfl 3 (by decide) fl_X0_id_20 rfl dX0_id_1 ?_
  exact hR o_id () 4 _ dX0_id_4 rfl h
/-! X0_isThere -/
theorem fi_X0_isThere_X0 : ∀ w ∈ u_ws RX0 TX0 4, w ∈ wsX0_isThere := by decide +kernel
theorem fl_X0_isThere_20 : Cond.fieldLink RX0 20 (TX0 3).1 (TX0 3).2.1 (TX0 3).2.2.1 ∈ wsX0_isThere := by decide +kernel
def rm_X0_isThere : Room := { frames := 0, cells := 0, slots := 0, locals := 0 }
theorem cd_X0_isThere : yX0_isThere.cls = RX0 ∧ yX0_isThere.cls ≠ "java/lang/invoke/MethodHandle" ∧ yX0_isThere.cls ≠ "java/lang/invoke/VarHandle" ∧ (parseMethodDescriptor yX0_isThere.desc).map (fun d => d.parameters.length) = some 0 := by decide +kernel
set_option maxRecDepth 100000 in
set_option maxHeartbeats 4000000 in
theorem kX0_isThere (l : Launch) (D : va_G) (cy : Nat → ClassId) (a_o : Nat) (a_o_words : Nat) (o_pieceLength : Int32) (o_pieces : Int32) (o_id : Int32) (post : Int32 → Prop) (h : wX0_isThere o_id post) : MetI l yX0_isThere wsX0_isThere rm_X0_isThere D (tyL cy) [.ref a_o] [(a_o, .inr (3, [.ref a_o_words, .int o_pieceLength, .int o_pieces, .int o_id]))] (fun u : Unit => [(a_o, .inr (3, [.ref a_o_words, .int o_pieceLength, .int o_pieces, .int o_id]))]) (fun r => fun (u : Unit) => post r ) 0 0 := by
  refine metI_of (cc := cX0_isThere) (maxL := 1) (lv := [(0, .ref a_o)]) (by decide) rfl (Nat.le_of_ble_eq_true rfl) rfl ?_
  intro p e s m below meth c Q A X hlk hR
  unfold wX0_isThere at h
  refine go_aload_n X dX0_isThere_0 0 rfl rfl ?_
  refine go_get X fi_X0_isThere_X0 0 rfl rfl 3 (by decide) fl_X0_isThere_20 rfl dX0_isThere_1 ?_
  refine go_if_eq X 11 dX0_isThere_4 (by decide) (fun c1 => ?_) (fun c1 => ?_)
  · replace h := h.1 c1
    refine go_iconst X (v := 0) dX0_isThere_11 (by decide) ?_
    exact hR 0 () 12 _ dX0_isThere_12 rfl h
  · replace h := h.2 c1
    refine go_iconst X (v := 1) dX0_isThere_7 (by decide) ?_
    refine go_goto X 12 dX0_isThere_8 (by decide) ?_
    exact hR 1 () 12 _ dX0_isThere_12 rfl h
/-! X0_pieces -/
theorem fi_X0_pieces_X0 : ∀ w ∈ u_ws RX0 TX0 4, w ∈ wsX0_pieces := by decide +kernel
theorem fl_X0_pieces_24 : Cond.fieldLink RX0 24 (TX0 2).1 (TX0 2).2.1 (TX0 2).2.2.1 ∈ wsX0_pieces := by decide +kernel
def rm_X0_pieces : Room := { frames := 0, cells := 0, slots := 0, locals := 0 }
theorem cd_X0_pieces : yX0_pieces.cls = RX0 ∧ yX0_pieces.cls ≠ "java/lang/invoke/MethodHandle" ∧ yX0_pieces.cls ≠ "java/lang/invoke/VarHandle" ∧ (parseMethodDescriptor yX0_pieces.desc).map (fun d => d.parameters.length) = some 0 := by decide +kernel
set_option maxRecDepth 100000 in
set_option maxHeartbeats 4000000 in
theorem kX0_pieces (l : Launch) (D : va_G) (cy : Nat → ClassId) (a_o : Nat) (a_o_words : Nat) (o_pieceLength : Int32) (o_pieces : Int32) (o_id : Int32) (post : Int32 → Prop) (h : wX0_pieces o_pieces post) : MetI l yX0_pieces wsX0_pieces rm_X0_pieces D (tyL cy) [.ref a_o] [(a_o, .inr (3, [.ref a_o_words, .int o_pieceLength, .int o_pieces, .int o_id]))] (fun u : Unit => [(a_o, .inr (3, [.ref a_o_words, .int o_pieceLength, .int o_pieces, .int o_id]))]) (fun r => fun (u : Unit) => post r ) 0 0 := by
  refine metI_of (cc := cX0_pieces) (maxL := 1) (lv := [(0, .ref a_o)]) (by decide) rfl (Nat.le_of_ble_eq_true rfl) rfl ?_
  intro p e s m below meth c Q A X hlk hR
  unfold wX0_pieces at h
  refine go_aload_n X dX0_pieces_0 0 rfl rfl ?_
  refine go_get X fi_X0_pieces_X0 0 rfl rfl 2 (by decide) fl_X0_pieces_24 rfl dX0_pieces_1 ?_
  exact hR o_pieces () 4 _ dX0_pieces_4 rfl h
/-! X0_pieceLength -/
theorem fi_X0_pieceLength_X0 : ∀ w ∈ u_ws RX0 TX0 4, w ∈ wsX0_pieceLength := by decide +kernel
theorem fl_X0_pieceLength_27 : Cond.fieldLink RX0 27 (TX0 1).1 (TX0 1).2.1 (TX0 1).2.2.1 ∈ wsX0_pieceLength := by decide +kernel
def rm_X0_pieceLength : Room := { frames := 0, cells := 0, slots := 0, locals := 0 }
theorem cd_X0_pieceLength : yX0_pieceLength.cls = RX0 ∧ yX0_pieceLength.cls ≠ "java/lang/invoke/MethodHandle" ∧ yX0_pieceLength.cls ≠ "java/lang/invoke/VarHandle" ∧ (parseMethodDescriptor yX0_pieceLength.desc).map (fun d => d.parameters.length) = some 0 := by decide +kernel
set_option maxRecDepth 100000 in
set_option maxHeartbeats 4000000 in
theorem kX0_pieceLength (l : Launch) (D : va_G) (cy : Nat → ClassId) (a_o : Nat) (a_o_words : Nat) (o_pieceLength : Int32) (o_pieces : Int32) (o_id : Int32) (post : Int32 → Prop) (h : wX0_pieceLength o_pieceLength post) : MetI l yX0_pieceLength wsX0_pieceLength rm_X0_pieceLength D (tyL cy) [.ref a_o] [(a_o, .inr (3, [.ref a_o_words, .int o_pieceLength, .int o_pieces, .int o_id]))] (fun u : Unit => [(a_o, .inr (3, [.ref a_o_words, .int o_pieceLength, .int o_pieces, .int o_id]))]) (fun r => fun (u : Unit) => post r ) 0 0 := by
  refine metI_of (cc := cX0_pieceLength) (maxL := 1) (lv := [(0, .ref a_o)]) (by decide) rfl (Nat.le_of_ble_eq_true rfl) rfl ?_
  intro p e s m below meth c Q A X hlk hR
  unfold wX0_pieceLength at h
  refine go_aload_n X dX0_pieceLength_0 0 rfl rfl ?_
  refine go_get X fi_X0_pieceLength_X0 0 rfl rfl 1 (by decide) fl_X0_pieceLength_27 rfl dX0_pieceLength_1 ?_
  exact hR o_pieceLength () 4 _ dX0_pieceLength_4 rfl h
/-! X0_sum -/
theorem fi_X0_sum_X0 : ∀ w ∈ u_ws RX0 TX0 4, w ∈ wsX0_sum := by decide +kernel
theorem fl_X0_sum_20 : Cond.fieldLink RX0 20 (TX0 3).1 (TX0 3).2.1 (TX0 3).2.2.1 ∈ wsX0_sum := by decide +kernel
theorem fl_X0_sum_14 : Cond.fieldLink RX0 14 (TX0 0).1 (TX0 0).2.1 (TX0 0).2.2.1 ∈ wsX0_sum := by decide +kernel
def rm_X0_sum : Room := { frames := 4, cells := 0, slots := 0, locals := 86 }
theorem cd_X0_sum : yX0_sum.cls = RX0 ∧ yX0_sum.cls ≠ "java/lang/invoke/MethodHandle" ∧ yX0_sum.cls ≠ "java/lang/invoke/VarHandle" ∧ (parseMethodDescriptor yX0_sum.desc).map (fun d => d.parameters.length) = some 0 := by decide +kernel
set_option maxRecDepth 100000 in
set_option maxHeartbeats 4000000 in
theorem kX0_sum (l : Launch) (D : va_G) (cy : Nat → ClassId) (a_o : Nat) (a_o_words : Nat) (a_o_words_bytes : Nat) (n_o_words_bytes : Nat) (o_pieceLength : Int32) (o_pieces : Int32) (o_id : Int32) (o_words_length : Int32) (o_words_bytes : Nat → Int32) (post : Int32 → Prop) (h : wX0_sum n_o_words_bytes o_id o_words_length o_words_bytes post) : MetI l yX0_sum wsX0_sum rm_X0_sum D (tyL cy) [.ref a_o] [(a_o, .inr (3, [.ref a_o_words, .int o_pieceLength, .int o_pieces, .int o_id])), (a_o_words, .inr (7, [.ref a_o_words_bytes, .int o_words_length])), (a_o_words_bytes, .inl (cy 0, n_o_words_bytes, .inl o_words_bytes))] (fun u : Unit => [(a_o, .inr (3, [.ref a_o_words, .int o_pieceLength, .int o_pieces, .int o_id])), (a_o_words, .inr (7, [.ref a_o_words_bytes, .int o_words_length])), (a_o_words_bytes, .inl (cy 0, n_o_words_bytes, .inl o_words_bytes))]) (fun r => fun (u : Unit) => post r ) 0 0 := by
  refine metI_of (cc := cX0_sum) (maxL := 1) (lv := [(0, .ref a_o)]) (by decide) rfl (Nat.le_of_ble_eq_true rfl) rfl ?_
  intro p e s m below meth c Q A X hlk hR
  unfold wX0_sum at h
  refine go_aload_n X dX0_sum_0 0 rfl rfl ?_
  refine go_get X fi_X0_sum_X0 0 rfl rfl 3 (by decide) fl_X0_sum_20 rfl dX0_sum_1 ?_
  refine go_if_ne X 11 dX0_sum_4 (by decide) (fun c1 => ?_) (fun c1 => ?_)
  · replace h := h.1 c1
    refine go_aload_n X dX0_sum_11 0 rfl rfl ?_
    refine go_get X fi_X0_sum_X0 0 rfl rfl 0 (by decide) fl_X0_sum_14 rfl dX0_sum_12 ?_
    refine go_callVi X (kX4_sum l D cy a_o_words a_o_words_bytes n_o_words_bytes o_words_length o_words_bytes _ h) (cwV 0 X.2.2.2.2.1 gX0_sum_X4_sum rfl rfl rfl cd_X4_sum ⟨by decide, by decide⟩) (wr := [(a_o, .inr (3, [.ref a_o_words, .int o_pieceLength, .int o_pieces, .int o_id]))]) (ws2 := fun u => [(a_o, .inr (3, [.ref a_o_words, .int o_pieceLength, .int o_pieces, .int o_id])), (a_o_words, .inr (7, [.ref a_o_words_bytes, .int o_words_length])), (a_o_words_bytes, .inl (cy 0, n_o_words_bytes, .inl o_words_bytes))]) (perm_idx [1, 2, 0] rfl rfl) (fun u => perm_idx [2, 0, 1] rfl rfl) rfl rfl rfl rfl (Nat.le_of_ble_eq_true rfl) dX0_sum_15 ⟨by decide, by decide⟩ (fun r2 u h => ?_)
    exact hR r2 () 18 _ dX0_sum_18 rfl h
  · replace h := h.2 c1
    refine go_iconst X (v := 0) dX0_sum_7 (by decide) ?_
    refine go_goto X 18 dX0_sum_8 (by decide) ?_
    exact hR 0 () 18 _ dX0_sum_18 rfl h
/-! X0_begin -/
theorem fi_X0_begin_X0 : ∀ w ∈ u_ws RX0 TX0 4, w ∈ wsX0_begin := by decide +kernel
theorem fl_X0_begin_20 : Cond.fieldLink RX0 20 (TX0 3).1 (TX0 3).2.1 (TX0 3).2.2.1 ∈ wsX0_begin := by decide +kernel
theorem fl_X0_begin_27 : Cond.fieldLink RX0 27 (TX0 1).1 (TX0 1).2.1 (TX0 1).2.2.1 ∈ wsX0_begin := by decide +kernel
theorem fl_X0_begin_24 : Cond.fieldLink RX0 24 (TX0 2).1 (TX0 2).2.1 (TX0 2).2.2.1 ∈ wsX0_begin := by decide +kernel
theorem fl_X0_begin_14 : Cond.fieldLink RX0 14 (TX0 0).1 (TX0 0).2.1 (TX0 0).2.2.1 ∈ wsX0_begin := by decide +kernel
def rm_X0_begin : Room := { frames := 1, cells := 0, slots := 0, locals := 20 }
theorem cd_X0_begin : yX0_begin.cls = RX0 ∧ yX0_begin.cls ≠ "java/lang/invoke/MethodHandle" ∧ yX0_begin.cls ≠ "java/lang/invoke/VarHandle" ∧ (parseMethodDescriptor yX0_begin.desc).map (fun d => d.parameters.length) = some 2 := by decide +kernel
set_option maxRecDepth 100000 in
set_option maxHeartbeats 4000000 in
theorem kX0_begin (l : Launch) (D : va_G) (cy : Nat → ClassId) (a_o : Nat) (a_o_words : Nat) (a_o_words_bytes : Nat) (o_pieceLength : Int32) (o_pieces : Int32) (o_id : Int32) (o_words_length : Int32) (p1 : Int32) (p2 : Int32) (post : Int32 → Int32 → Int32 → Int32 → Prop) (h : wX0_begin p1 p2 post) : MetV l yX0_begin wsX0_begin rm_X0_begin D (tyL cy) [.ref a_o, .int p1, .int p2] [(a_o, .inr (3, [.ref a_o_words, .int o_pieceLength, .int o_pieces, .int o_id])), (a_o_words, .inr (7, [.ref a_o_words_bytes, .int o_words_length]))] (fun u : Int32 × Int32 × Int32 × Int32 => [(a_o, .inr (3, [.ref a_o_words, .int u.1, .int u.2.1, .int u.2.2.1])), (a_o_words, .inr (7, [.ref a_o_words_bytes, .int u.2.2.2]))]) (fun (u : Int32 × Int32 × Int32 × Int32) => post u.1 u.2.1 u.2.2.1 u.2.2.2) 0 0 := by
  refine metV_of (cc := cX0_begin) (maxL := 3) (lv := [(0, .ref a_o), (1, .int p1), (2, .int p2)]) (by decide) rfl (Nat.le_of_ble_eq_true rfl) rfl ?_
  intro p e s m below meth c Q A X hlk hnm hR
  unfold wX0_begin at h
  refine go_aload_n X dX0_begin_0 0 rfl rfl ?_
  refine go_iload_n X dX0_begin_1 1 rfl rfl ?_
  refine go_put X (ws' := [(a_o, .inr (3, [.ref a_o_words, .int o_pieceLength, .int o_pieces, .int p1])), (a_o_words, .inr (7, [.ref a_o_words_bytes, .int o_words_length]))]) fi_X0_begin_X0 tyX0 tyX0_ok nmX0 0 rfl rfl 3 (by decide) fl_X0_begin_20 rfl (tyX0_ok 3 (by decide)) rfl rfl (Nat.le_of_ble_eq_true rfl) rfl dX0_begin_2 ?_
  refine go_aload_n X dX0_begin_5 0 rfl rfl ?_
  refine go_iload_n X dX0_begin_6 2 rfl rfl ?_
  refine go_put X (ws' := [(a_o, .inr (3, [.ref a_o_words, .int p2, .int o_pieces, .int p1])), (a_o_words, .inr (7, [.ref a_o_words_bytes, .int o_words_length]))]) fi_X0_begin_X0 tyX0 tyX0_ok nmX0 0 rfl rfl 1 (by decide) fl_X0_begin_27 rfl (tyX0_ok 1 (by decide)) rfl rfl (Nat.le_of_ble_eq_true rfl) rfl dX0_begin_7 ?_
  refine go_aload_n X dX0_begin_10 0 rfl rfl ?_
  refine go_iconst X (v := 0) dX0_begin_11 (by decide) ?_
  refine go_put X (ws' := [(a_o, .inr (3, [.ref a_o_words, .int p2, .int 0, .int p1])), (a_o_words, .inr (7, [.ref a_o_words_bytes, .int o_words_length]))]) fi_X0_begin_X0 tyX0 tyX0_ok nmX0 0 rfl rfl 2 (by decide) fl_X0_begin_24 rfl (tyX0_ok 2 (by decide)) rfl rfl (Nat.le_of_ble_eq_true rfl) rfl dX0_begin_12 ?_
  refine go_aload_n X dX0_begin_15 0 rfl rfl ?_
  refine go_get X fi_X0_begin_X0 0 rfl rfl 0 (by decide) fl_X0_begin_14 rfl dX0_begin_16 ?_
  refine go_callVv X (kX4_clear l D cy a_o_words a_o_words_bytes o_words_length _ h) (cwV 0 X.2.2.2.2.1 gX0_begin_X4_clear rfl rfl rfl cd_X4_clear ⟨by decide, by decide⟩) (wr := [(a_o, .inr (3, [.ref a_o_words, .int p2, .int 0, .int p1]))]) (ws2 := fun u => [(a_o, .inr (3, [.ref a_o_words, .int p2, .int 0, .int p1])), (a_o_words, .inr (7, [.ref a_o_words_bytes, .int u]))]) (perm_idx [1, 0] rfl rfl) (fun u => perm_idx [1, 0] rfl rfl) rfl rfl rfl rfl (Nat.le_of_ble_eq_true rfl) dX0_begin_19 ⟨by decide, by decide⟩ (fun u h => ?_)
  obtain ⟨s1, rfl⟩ : ∃ z, z = u := ⟨_, rfl⟩
  exact hR (p2, 0, p1, s1) 22 _ dX0_begin_22 h
/-! X0_addPiece -/
theorem fi_X0_addPiece_X0 : ∀ w ∈ u_ws RX0 TX0 4, w ∈ wsX0_addPiece := by decide +kernel
theorem fl_X0_addPiece_27 : Cond.fieldLink RX0 27 (TX0 1).1 (TX0 1).2.1 (TX0 1).2.2.1 ∈ wsX0_addPiece := by decide +kernel
theorem fl_X0_addPiece_14 : Cond.fieldLink RX0 14 (TX0 0).1 (TX0 0).2.1 (TX0 0).2.2.1 ∈ wsX0_addPiece := by decide +kernel
theorem fl_X0_addPiece_24 : Cond.fieldLink RX0 24 (TX0 2).1 (TX0 2).2.1 (TX0 2).2.2.1 ∈ wsX0_addPiece := by decide +kernel
def rm_X0_addPiece : Room := { frames := 3, cells := 0, slots := 0, locals := 66 }
theorem cd_X0_addPiece : yX0_addPiece.cls = RX0 ∧ yX0_addPiece.cls ≠ "java/lang/invoke/MethodHandle" ∧ yX0_addPiece.cls ≠ "java/lang/invoke/VarHandle" ∧ (parseMethodDescriptor yX0_addPiece.desc).map (fun d => d.parameters.length) = some 2 := by decide +kernel
set_option maxRecDepth 100000 in
set_option maxHeartbeats 4000000 in
theorem kX0_addPiece (l : Launch) (D : va_G) (cy : Nat → ClassId) (a_o : Nat) (a_o_words : Nat) (a_o_words_bytes : Nat) (n_o_words_bytes : Nat) (a_p1 : Nat) (a_p1_bytes : Nat) (n_p1_bytes : Nat) (o_pieceLength : Int32) (o_pieces : Int32) (o_id : Int32) (o_words_length : Int32) (o_words_bytes : Nat → Int32) (p1_length : Int32) (p1_bytes : Nat → Int32) (p2 : Int32) (post : Int32 → Int32 → (Nat → Int32) → Prop) (h : wX0_addPiece n_o_words_bytes n_p1_bytes o_pieceLength o_pieces o_words_length o_words_bytes p1_length p1_bytes p2 post) : MetV l yX0_addPiece wsX0_addPiece rm_X0_addPiece D (tyL cy) [.ref a_o, .ref a_p1, .int p2] [(a_o, .inr (3, [.ref a_o_words, .int o_pieceLength, .int o_pieces, .int o_id])), (a_o_words, .inr (7, [.ref a_o_words_bytes, .int o_words_length])), (a_o_words_bytes, .inl (cy 0, n_o_words_bytes, .inl o_words_bytes)), (a_p1, .inr (7, [.ref a_p1_bytes, .int p1_length])), (a_p1_bytes, .inl (cy 0, n_p1_bytes, .inl p1_bytes))] (fun u : Int32 × Int32 × (Nat → Int32) => [(a_o, .inr (3, [.ref a_o_words, .int o_pieceLength, .int u.1, .int o_id])), (a_o_words, .inr (7, [.ref a_o_words_bytes, .int u.2.1])), (a_o_words_bytes, .inl (cy 0, n_o_words_bytes, .inl u.2.2)), (a_p1, .inr (7, [.ref a_p1_bytes, .int p1_length])), (a_p1_bytes, .inl (cy 0, n_p1_bytes, .inl p1_bytes))]) (fun (u : Int32 × Int32 × (Nat → Int32)) => post u.1 u.2.1 u.2.2) 0 0 := by
  refine metV_of (cc := cX0_addPiece) (maxL := 3) (lv := [(0, .ref a_o), (1, .ref a_p1), (2, .int p2)]) (by decide) rfl (Nat.le_of_ble_eq_true rfl) rfl ?_
  intro p e s m below meth c Q A X hlk hnm hR
  unfold wX0_addPiece at h
  refine go_aload_n X dX0_addPiece_0 0 rfl rfl ?_
  refine go_get X fi_X0_addPiece_X0 0 rfl rfl 1 (by decide) fl_X0_addPiece_27 rfl dX0_addPiece_1 ?_
  refine go_if_le X 44 dX0_addPiece_4 (by decide) (fun c1 => ?_) (fun c1 => ?_)
  · replace h := h.1 c1
    exact hR (o_pieces, o_words_length, o_words_bytes) 44 _ dX0_addPiece_44 h
  · replace h := h.2 c1
    refine go_aload_n X dX0_addPiece_7 0 rfl rfl ?_
    refine go_get X fi_X0_addPiece_X0 0 rfl rfl 0 (by decide) fl_X0_addPiece_14 rfl dX0_addPiece_8 ?_
    refine go_aload_n X dX0_addPiece_11 0 rfl rfl ?_
    refine go_get X fi_X0_addPiece_X0 0 rfl rfl 1 (by decide) fl_X0_addPiece_27 rfl dX0_addPiece_12 ?_
    refine go_callVi X (kX4_hasRoom l D cy a_o_words a_o_words_bytes n_o_words_bytes o_words_length o_words_bytes o_pieceLength _ h) (cwV 1 X.2.2.2.2.1 gX0_addPiece_X4_hasRoom rfl rfl rfl cd_X4_hasRoom ⟨by decide, by decide⟩) (wr := [(a_o, .inr (3, [.ref a_o_words, .int o_pieceLength, .int o_pieces, .int o_id])), (a_p1, .inr (7, [.ref a_p1_bytes, .int p1_length])), (a_p1_bytes, .inl (cy 0, n_p1_bytes, .inl p1_bytes))]) (ws2 := fun u => [(a_o, .inr (3, [.ref a_o_words, .int o_pieceLength, .int o_pieces, .int o_id])), (a_o_words, .inr (7, [.ref a_o_words_bytes, .int o_words_length])), (a_o_words_bytes, .inl (cy 0, n_o_words_bytes, .inl o_words_bytes)), (a_p1, .inr (7, [.ref a_p1_bytes, .int p1_length])), (a_p1_bytes, .inl (cy 0, n_p1_bytes, .inl p1_bytes))]) (perm_idx [1, 2, 0, 3, 4] rfl rfl) (fun u => perm_idx [2, 0, 1, 3, 4] rfl rfl) rfl rfl rfl rfl (Nat.le_of_ble_eq_true rfl) dX0_addPiece_15 ⟨by decide, by decide⟩ (fun r2 u h => ?_)
    refine go_if_eq X 44 dX0_addPiece_18 (by decide) (fun c3 => ?_) (fun c3 => ?_)
    · replace h := h.1 c3
      exact hR (o_pieces, o_words_length, o_words_bytes) 44 _ dX0_addPiece_44 h
    · replace h := h.2 c3
      refine go_aload_n X dX0_addPiece_21 0 rfl rfl ?_
      refine go_get X fi_X0_addPiece_X0 0 rfl rfl 0 (by decide) fl_X0_addPiece_14 rfl dX0_addPiece_22 ?_
      refine go_aload_n X dX0_addPiece_25 1 rfl rfl ?_
      refine go_iload_n X dX0_addPiece_26 2 rfl rfl ?_
      refine go_aload_n X dX0_addPiece_27 0 rfl rfl ?_
      refine go_get X fi_X0_addPiece_X0 0 rfl rfl 1 (by decide) fl_X0_addPiece_27 rfl dX0_addPiece_28 ?_
      refine go_callVv X (kX4_addFrom l D cy a_o_words a_o_words_bytes n_o_words_bytes a_p1 a_p1_bytes n_p1_bytes o_words_length o_words_bytes p1_length p1_bytes p2 o_pieceLength _ h) (cwV 3 X.2.2.2.2.1 gX0_addPiece_X4_addFrom rfl rfl rfl cd_X4_addFrom ⟨by decide, by decide⟩) (wr := [(a_o, .inr (3, [.ref a_o_words, .int o_pieceLength, .int o_pieces, .int o_id]))]) (ws2 := fun u => [(a_o, .inr (3, [.ref a_o_words, .int o_pieceLength, .int o_pieces, .int o_id])), (a_o_words, .inr (7, [.ref a_o_words_bytes, .int u.1])), (a_o_words_bytes, .inl (cy 0, n_o_words_bytes, .inl u.2)), (a_p1, .inr (7, [.ref a_p1_bytes, .int p1_length])), (a_p1_bytes, .inl (cy 0, n_p1_bytes, .inl p1_bytes))]) (perm_idx [1, 2, 3, 4, 0] rfl rfl) (fun u => perm_idx [4, 0, 1, 2, 3] rfl rfl) rfl rfl rfl rfl (Nat.le_of_ble_eq_true rfl) dX0_addPiece_31 ⟨by decide, by decide⟩ (fun u h => ?_)
      obtain ⟨s4, s5⟩ := u
      refine go_aload_n X dX0_addPiece_34 0 rfl rfl ?_
      refine go_dup X dX0_addPiece_35 rfl ?_
      refine go_get X fi_X0_addPiece_X0 0 rfl rfl 2 (by decide) fl_X0_addPiece_24 rfl dX0_addPiece_36 ?_
      refine go_iconst X (v := 1) dX0_addPiece_39 (by decide) ?_
      refine go_iadd X dX0_addPiece_40 ?_
      refine go_topi (fun y6 ey6 => ?_)
      replace h := h y6 ey6
      refine go_put X (ws' := [(a_o, .inr (3, [.ref a_o_words, .int o_pieceLength, .int y6, .int o_id])), (a_o_words, .inr (7, [.ref a_o_words_bytes, .int s4])), (a_o_words_bytes, .inl (cy 0, n_o_words_bytes, .inl s5)), (a_p1, .inr (7, [.ref a_p1_bytes, .int p1_length])), (a_p1_bytes, .inl (cy 0, n_p1_bytes, .inl p1_bytes))]) fi_X0_addPiece_X0 tyX0 tyX0_ok nmX0 0 rfl rfl 2 (by decide) fl_X0_addPiece_24 rfl (tyX0_ok 2 (by decide)) rfl rfl (Nat.le_of_ble_eq_true rfl) rfl dX0_addPiece_41 ?_
      exact hR (y6, s4, s5) 44 _ dX0_addPiece_44 h
/-! X0_copyWithout -/
theorem fi_X0_copyWithout_X0 : ∀ w ∈ u_ws RX0 TX0 4, w ∈ wsX0_copyWithout := by decide +kernel
theorem fl_X0_copyWithout_14 : Cond.fieldLink RX0 14 (TX0 0).1 (TX0 0).2.1 (TX0 0).2.2.1 ∈ wsX0_copyWithout := by decide +kernel
theorem fl_X0_copyWithout_27 : Cond.fieldLink RX0 27 (TX0 1).1 (TX0 1).2.1 (TX0 1).2.2.1 ∈ wsX0_copyWithout := by decide +kernel
def rm_X0_copyWithout : Room := { frames := 4, cells := 0, slots := 0, locals := 87 }
theorem cd_X0_copyWithout : yX0_copyWithout.cls = RX0 ∧ yX0_copyWithout.cls ≠ "java/lang/invoke/MethodHandle" ∧ yX0_copyWithout.cls ≠ "java/lang/invoke/VarHandle" ∧ (parseMethodDescriptor yX0_copyWithout.desc).map (fun d => d.parameters.length) = some 2 := by decide +kernel
set_option maxRecDepth 100000 in
set_option maxHeartbeats 4000000 in
theorem kX0_copyWithout (l : Launch) (D : va_G) (cy : Nat → ClassId) (a_o : Nat) (a_o_words : Nat) (a_o_words_bytes : Nat) (n_o_words_bytes : Nat) (a_p2 : Nat) (a_p2_bytes : Nat) (n_p2_bytes : Nat) (o_pieceLength : Int32) (o_pieces : Int32) (o_id : Int32) (o_words_length : Int32) (o_words_bytes : Nat → Int32) (p2_length : Int32) (p2_bytes : Nat → Int32) (p1 : Int32) (post : Int32 → (Nat → Int32) → Prop) (h : wX0_copyWithout n_o_words_bytes n_p2_bytes o_pieceLength o_words_length o_words_bytes p2_bytes p1 post) : MetV l yX0_copyWithout wsX0_copyWithout rm_X0_copyWithout D (tyL cy) [.ref a_o, .int p1, .ref a_p2] [(a_o, .inr (3, [.ref a_o_words, .int o_pieceLength, .int o_pieces, .int o_id])), (a_o_words, .inr (7, [.ref a_o_words_bytes, .int o_words_length])), (a_o_words_bytes, .inl (cy 0, n_o_words_bytes, .inl o_words_bytes)), (a_p2, .inr (7, [.ref a_p2_bytes, .int p2_length])), (a_p2_bytes, .inl (cy 0, n_p2_bytes, .inl p2_bytes))] (fun u : Int32 × (Nat → Int32) => [(a_o, .inr (3, [.ref a_o_words, .int o_pieceLength, .int o_pieces, .int o_id])), (a_o_words, .inr (7, [.ref a_o_words_bytes, .int o_words_length])), (a_o_words_bytes, .inl (cy 0, n_o_words_bytes, .inl o_words_bytes)), (a_p2, .inr (7, [.ref a_p2_bytes, .int u.1])), (a_p2_bytes, .inl (cy 0, n_p2_bytes, .inl u.2))]) (fun (u : Int32 × (Nat → Int32)) => post u.1 u.2) 0 0 := by
  refine metV_of (cc := cX0_copyWithout) (maxL := 3) (lv := [(0, .ref a_o), (1, .int p1), (2, .ref a_p2)]) (by decide) rfl (Nat.le_of_ble_eq_true rfl) rfl ?_
  intro p e s m below meth c Q A X hlk hnm hR
  unfold wX0_copyWithout at h
  refine go_aload_n X dX0_copyWithout_0 2 rfl rfl ?_
  refine go_aload_n X dX0_copyWithout_1 0 rfl rfl ?_
  refine go_get X fi_X0_copyWithout_X0 0 rfl rfl 0 (by decide) fl_X0_copyWithout_14 rfl dX0_copyWithout_2 ?_
  refine go_callVv X (kX4_become l D cy a_p2 a_p2_bytes n_p2_bytes a_o_words a_o_words_bytes n_o_words_bytes p2_length p2_bytes o_words_length o_words_bytes _ h) (cwV 1 X.2.2.2.2.1 gX0_copyWithout_X4_become rfl rfl rfl cd_X4_become ⟨by decide, by decide⟩) (wr := [(a_o, .inr (3, [.ref a_o_words, .int o_pieceLength, .int o_pieces, .int o_id]))]) (ws2 := fun u => [(a_o, .inr (3, [.ref a_o_words, .int o_pieceLength, .int o_pieces, .int o_id])), (a_o_words, .inr (7, [.ref a_o_words_bytes, .int o_words_length])), (a_o_words_bytes, .inl (cy 0, n_o_words_bytes, .inl o_words_bytes)), (a_p2, .inr (7, [.ref a_p2_bytes, .int u.1])), (a_p2_bytes, .inl (cy 0, n_p2_bytes, .inl u.2))]) (perm_idx [3, 4, 1, 2, 0] rfl rfl) (fun u => perm_idx [4, 2, 3, 0, 1] rfl rfl) rfl rfl rfl rfl (Nat.le_of_ble_eq_true rfl) dX0_copyWithout_5 ⟨by decide, by decide⟩ (fun u h => ?_)
  obtain ⟨s1, s2⟩ := u
  refine go_aload_n X dX0_copyWithout_8 2 rfl rfl ?_
  refine go_iload_n X dX0_copyWithout_9 1 rfl rfl ?_
  refine go_aload_n X dX0_copyWithout_10 0 rfl rfl ?_
  refine go_get X fi_X0_copyWithout_X0 0 rfl rfl 1 (by decide) fl_X0_copyWithout_27 rfl dX0_copyWithout_11 ?_
  refine go_imul X dX0_copyWithout_14 ?_
  refine go_aload_n X dX0_copyWithout_15 0 rfl rfl ?_
  refine go_get X fi_X0_copyWithout_X0 0 rfl rfl 1 (by decide) fl_X0_copyWithout_27 rfl dX0_copyWithout_16 ?_
  refine go_callVv X (kX4_cutOut l D cy a_p2 a_p2_bytes n_p2_bytes s1 s2 (p1 * o_pieceLength) o_pieceLength _ h) (cwV 2 X.2.2.2.2.1 gX0_copyWithout_X4_cutOut rfl rfl rfl cd_X4_cutOut ⟨by decide, by decide⟩) (wr := [(a_o, .inr (3, [.ref a_o_words, .int o_pieceLength, .int o_pieces, .int o_id])), (a_o_words, .inr (7, [.ref a_o_words_bytes, .int o_words_length])), (a_o_words_bytes, .inl (cy 0, n_o_words_bytes, .inl o_words_bytes))]) (ws2 := fun u => [(a_o, .inr (3, [.ref a_o_words, .int o_pieceLength, .int o_pieces, .int o_id])), (a_o_words, .inr (7, [.ref a_o_words_bytes, .int o_words_length])), (a_o_words_bytes, .inl (cy 0, n_o_words_bytes, .inl o_words_bytes)), (a_p2, .inr (7, [.ref a_p2_bytes, .int u.1])), (a_p2_bytes, .inl (cy 0, n_p2_bytes, .inl u.2))]) (perm_idx [3, 4, 0, 1, 2] rfl rfl) (fun u => perm_idx [2, 3, 4, 0, 1] rfl rfl) rfl rfl rfl rfl (Nat.le_of_ble_eq_true rfl) dX0_copyWithout_19 ⟨by decide, by decide⟩ (fun u h => ?_)
  obtain ⟨s3, s4⟩ := u
  exact hR (s3, s4) 22 _ dX0_copyWithout_22 h
/-! X0_removePiece -/
theorem fi_X0_removePiece_X0 : ∀ w ∈ u_ws RX0 TX0 4, w ∈ wsX0_removePiece := by decide +kernel
theorem fl_X0_removePiece_24 : Cond.fieldLink RX0 24 (TX0 2).1 (TX0 2).2.1 (TX0 2).2.2.1 ∈ wsX0_removePiece := by decide +kernel
theorem fl_X0_removePiece_14 : Cond.fieldLink RX0 14 (TX0 0).1 (TX0 0).2.1 (TX0 0).2.2.1 ∈ wsX0_removePiece := by decide +kernel
theorem fl_X0_removePiece_27 : Cond.fieldLink RX0 27 (TX0 1).1 (TX0 1).2.1 (TX0 1).2.2.1 ∈ wsX0_removePiece := by decide +kernel
def rm_X0_removePiece : Room := { frames := 2, cells := 0, slots := 0, locals := 45 }
theorem cd_X0_removePiece : yX0_removePiece.cls = RX0 ∧ yX0_removePiece.cls ≠ "java/lang/invoke/MethodHandle" ∧ yX0_removePiece.cls ≠ "java/lang/invoke/VarHandle" ∧ (parseMethodDescriptor yX0_removePiece.desc).map (fun d => d.parameters.length) = some 1 := by decide +kernel
set_option maxRecDepth 100000 in
set_option maxHeartbeats 4000000 in
theorem kX0_removePiece (l : Launch) (D : va_G) (cy : Nat → ClassId) (a_o : Nat) (a_o_words : Nat) (a_o_words_bytes : Nat) (n_o_words_bytes : Nat) (o_pieceLength : Int32) (o_pieces : Int32) (o_id : Int32) (o_words_length : Int32) (o_words_bytes : Nat → Int32) (p1 : Int32) (post : Int32 → Int32 → (Nat → Int32) → Prop) (h : wX0_removePiece n_o_words_bytes o_pieceLength o_pieces o_words_length o_words_bytes p1 post) : MetV l yX0_removePiece wsX0_removePiece rm_X0_removePiece D (tyL cy) [.ref a_o, .int p1] [(a_o, .inr (3, [.ref a_o_words, .int o_pieceLength, .int o_pieces, .int o_id])), (a_o_words, .inr (7, [.ref a_o_words_bytes, .int o_words_length])), (a_o_words_bytes, .inl (cy 0, n_o_words_bytes, .inl o_words_bytes))] (fun u : Int32 × Int32 × (Nat → Int32) => [(a_o, .inr (3, [.ref a_o_words, .int o_pieceLength, .int u.1, .int o_id])), (a_o_words, .inr (7, [.ref a_o_words_bytes, .int u.2.1])), (a_o_words_bytes, .inl (cy 0, n_o_words_bytes, .inl u.2.2))]) (fun (u : Int32 × Int32 × (Nat → Int32)) => post u.1 u.2.1 u.2.2) 0 0 := by
  refine metV_of (cc := cX0_removePiece) (maxL := 2) (lv := [(0, .ref a_o), (1, .int p1)]) (by decide) rfl (Nat.le_of_ble_eq_true rfl) rfl ?_
  intro p e s m below meth c Q A X hlk hnm hR
  unfold wX0_removePiece at h
  refine go_iload_n X dX0_removePiece_0 1 rfl rfl ?_
  refine go_if_lt X 39 dX0_removePiece_1 (by decide) (fun c1 => ?_) (fun c1 => ?_)
  · replace h := h.1 c1
    exact hR (o_pieces, o_words_length, o_words_bytes) 39 _ dX0_removePiece_39 h
  · replace h := h.2 c1
    refine go_iload_n X dX0_removePiece_4 1 rfl rfl ?_
    refine go_aload_n X dX0_removePiece_5 0 rfl rfl ?_
    refine go_get X fi_X0_removePiece_X0 0 rfl rfl 2 (by decide) fl_X0_removePiece_24 rfl dX0_removePiece_6 ?_
    refine go_icmp_ge X 39 dX0_removePiece_9 (by decide) (fun c2 => ?_) (fun c2 => ?_)
    · replace h := h.1 c2
      exact hR (o_pieces, o_words_length, o_words_bytes) 39 _ dX0_removePiece_39 h
    · replace h := h.2 c2
      refine go_aload_n X dX0_removePiece_12 0 rfl rfl ?_
      refine go_get X fi_X0_removePiece_X0 0 rfl rfl 0 (by decide) fl_X0_removePiece_14 rfl dX0_removePiece_13 ?_
      refine go_iload_n X dX0_removePiece_16 1 rfl rfl ?_
      refine go_aload_n X dX0_removePiece_17 0 rfl rfl ?_
      refine go_get X fi_X0_removePiece_X0 0 rfl rfl 1 (by decide) fl_X0_removePiece_27 rfl dX0_removePiece_18 ?_
      refine go_imul X dX0_removePiece_21 ?_
      refine go_aload_n X dX0_removePiece_22 0 rfl rfl ?_
      refine go_get X fi_X0_removePiece_X0 0 rfl rfl 1 (by decide) fl_X0_removePiece_27 rfl dX0_removePiece_23 ?_
      refine go_callVv X (kX4_cutOut l D cy a_o_words a_o_words_bytes n_o_words_bytes o_words_length o_words_bytes (p1 * o_pieceLength) o_pieceLength _ h) (cwV 2 X.2.2.2.2.1 gX0_removePiece_X4_cutOut rfl rfl rfl cd_X4_cutOut ⟨by decide, by decide⟩) (wr := [(a_o, .inr (3, [.ref a_o_words, .int o_pieceLength, .int o_pieces, .int o_id]))]) (ws2 := fun u => [(a_o, .inr (3, [.ref a_o_words, .int o_pieceLength, .int o_pieces, .int o_id])), (a_o_words, .inr (7, [.ref a_o_words_bytes, .int u.1])), (a_o_words_bytes, .inl (cy 0, n_o_words_bytes, .inl u.2))]) (perm_idx [1, 2, 0] rfl rfl) (fun u => perm_idx [2, 0, 1] rfl rfl) rfl rfl rfl rfl (Nat.le_of_ble_eq_true rfl) dX0_removePiece_26 ⟨by decide, by decide⟩ (fun u h => ?_)
      obtain ⟨s3, s4⟩ := u
      refine go_aload_n X dX0_removePiece_29 0 rfl rfl ?_
      refine go_dup X dX0_removePiece_30 rfl ?_
      refine go_get X fi_X0_removePiece_X0 0 rfl rfl 2 (by decide) fl_X0_removePiece_24 rfl dX0_removePiece_31 ?_
      refine go_iconst X (v := 1) dX0_removePiece_34 (by decide) ?_
      refine go_isub X dX0_removePiece_35 ?_
      refine go_topi (fun y5 ey5 => ?_)
      replace h := h y5 ey5
      refine go_put X (ws' := [(a_o, .inr (3, [.ref a_o_words, .int o_pieceLength, .int y5, .int o_id])), (a_o_words, .inr (7, [.ref a_o_words_bytes, .int s3])), (a_o_words_bytes, .inl (cy 0, n_o_words_bytes, .inl s4))]) fi_X0_removePiece_X0 tyX0 tyX0_ok nmX0 0 rfl rfl 2 (by decide) fl_X0_removePiece_24 rfl (tyX0_ok 2 (by decide)) rfl rfl (Nat.le_of_ble_eq_true rfl) rfl dX0_removePiece_36 ?_
      exact hR (y5, s3, s4) 39 _ dX0_removePiece_39 h
/-! X2_bytes -/
theorem fi_X2_bytes_X2 : ∀ w ∈ u_ws RX2 TX2 3, w ∈ wsX2_bytes := by decide +kernel
theorem fl_X2_bytes_14 : Cond.fieldLink RX2 14 (TX2 0).1 (TX2 0).2.1 (TX2 0).2.2.1 ∈ wsX2_bytes := by decide +kernel
def rm_X2_bytes : Room := { frames := 0, cells := 0, slots := 0, locals := 0 }
theorem cd_X2_bytes : yX2_bytes.cls = RX2 ∧ yX2_bytes.cls ≠ "java/lang/invoke/MethodHandle" ∧ yX2_bytes.cls ≠ "java/lang/invoke/VarHandle" ∧ (parseMethodDescriptor yX2_bytes.desc).map (fun d => d.parameters.length) = some 0 := by decide +kernel
set_option maxRecDepth 100000 in
set_option maxHeartbeats 4000000 in
theorem kX2_bytes (l : Launch) (D : va_G) (cy : Nat → ClassId) (a_o : Nat) (a_o_bytes : Nat) (o_items : Int32) (o_matches : Int32) (post : Option Nat → Prop) (h : wX2_bytes a_o_bytes post) : MetQ l yX2_bytes wsX2_bytes rm_X2_bytes D (tyL cy) [.ref a_o] [(a_o, .inr (5, [.ref a_o_bytes, .int o_items, .int o_matches]))] (fun u : Unit => [(a_o, .inr (5, [.ref a_o_bytes, .int o_items, .int o_matches]))]) (fun r => fun (u : Unit) => post r ) 0 0 := by
  refine metQ_of (cc := cX2_bytes) (maxL := 1) (lv := [(0, .ref a_o)]) (by decide) rfl (Nat.le_of_ble_eq_true rfl) rfl ?_
  intro p e s m below meth c Q A X hlk hR
  unfold wX2_bytes at h
  refine go_aload_n X dX2_bytes_0 0 rfl rfl ?_
  refine go_get X fi_X2_bytes_X2 0 rfl rfl 0 (by decide) fl_X2_bytes_14 rfl dX2_bytes_1 ?_
  exact hR (some a_o_bytes) () 4 _ dX2_bytes_4 h
/-! X2_items -/
theorem fi_X2_items_X2 : ∀ w ∈ u_ws RX2 TX2 3, w ∈ wsX2_items := by decide +kernel
theorem fl_X2_items_20 : Cond.fieldLink RX2 20 (TX2 1).1 (TX2 1).2.1 (TX2 1).2.2.1 ∈ wsX2_items := by decide +kernel
def rm_X2_items : Room := { frames := 0, cells := 0, slots := 0, locals := 0 }
theorem cd_X2_items : yX2_items.cls = RX2 ∧ yX2_items.cls ≠ "java/lang/invoke/MethodHandle" ∧ yX2_items.cls ≠ "java/lang/invoke/VarHandle" ∧ (parseMethodDescriptor yX2_items.desc).map (fun d => d.parameters.length) = some 0 := by decide +kernel
set_option maxRecDepth 100000 in
set_option maxHeartbeats 4000000 in
theorem kX2_items (l : Launch) (D : va_G) (cy : Nat → ClassId) (a_o : Nat) (a_o_bytes : Nat) (o_items : Int32) (o_matches : Int32) (post : Int32 → Prop) (h : wX2_items o_items post) : MetI l yX2_items wsX2_items rm_X2_items D (tyL cy) [.ref a_o] [(a_o, .inr (5, [.ref a_o_bytes, .int o_items, .int o_matches]))] (fun u : Unit => [(a_o, .inr (5, [.ref a_o_bytes, .int o_items, .int o_matches]))]) (fun r => fun (u : Unit) => post r ) 0 0 := by
  refine metI_of (cc := cX2_items) (maxL := 1) (lv := [(0, .ref a_o)]) (by decide) rfl (Nat.le_of_ble_eq_true rfl) rfl ?_
  intro p e s m below meth c Q A X hlk hR
  unfold wX2_items at h
  refine go_aload_n X dX2_items_0 0 rfl rfl ?_
  refine go_get X fi_X2_items_X2 0 rfl rfl 1 (by decide) fl_X2_items_20 rfl dX2_items_1 ?_
  exact hR o_items () 4 _ dX2_items_4 rfl h
/-! X2_matches -/
theorem fi_X2_matches_X2 : ∀ w ∈ u_ws RX2 TX2 3, w ∈ wsX2_matches := by decide +kernel
theorem fl_X2_matches_24 : Cond.fieldLink RX2 24 (TX2 2).1 (TX2 2).2.1 (TX2 2).2.2.1 ∈ wsX2_matches := by decide +kernel
def rm_X2_matches : Room := { frames := 0, cells := 0, slots := 0, locals := 0 }
theorem cd_X2_matches : yX2_matches.cls = RX2 ∧ yX2_matches.cls ≠ "java/lang/invoke/MethodHandle" ∧ yX2_matches.cls ≠ "java/lang/invoke/VarHandle" ∧ (parseMethodDescriptor yX2_matches.desc).map (fun d => d.parameters.length) = some 0 := by decide +kernel
set_option maxRecDepth 100000 in
set_option maxHeartbeats 4000000 in
theorem kX2_matches (l : Launch) (D : va_G) (cy : Nat → ClassId) (a_o : Nat) (a_o_bytes : Nat) (o_items : Int32) (o_matches : Int32) (post : Int32 → Prop) (h : wX2_matches o_matches post) : MetI l yX2_matches wsX2_matches rm_X2_matches D (tyL cy) [.ref a_o] [(a_o, .inr (5, [.ref a_o_bytes, .int o_items, .int o_matches]))] (fun u : Unit => [(a_o, .inr (5, [.ref a_o_bytes, .int o_items, .int o_matches]))]) (fun r => fun (u : Unit) => post r ) 0 0 := by
  refine metI_of (cc := cX2_matches) (maxL := 1) (lv := [(0, .ref a_o)]) (by decide) rfl (Nat.le_of_ble_eq_true rfl) rfl ?_
  intro p e s m below meth c Q A X hlk hR
  unfold wX2_matches at h
  refine go_aload_n X dX2_matches_0 0 rfl rfl ?_
  refine go_get X fi_X2_matches_X2 0 rfl rfl 2 (by decide) fl_X2_matches_24 rfl dX2_matches_1 ?_
  exact hR o_matches () 4 _ dX2_matches_4 rfl h
/-! X2_begin -/
theorem fi_X2_begin_X2 : ∀ w ∈ u_ws RX2 TX2 3, w ∈ wsX2_begin := by decide +kernel
theorem fl_X2_begin_20 : Cond.fieldLink RX2 20 (TX2 1).1 (TX2 1).2.1 (TX2 1).2.2.1 ∈ wsX2_begin := by decide +kernel
theorem fl_X2_begin_24 : Cond.fieldLink RX2 24 (TX2 2).1 (TX2 2).2.1 (TX2 2).2.2.1 ∈ wsX2_begin := by decide +kernel
theorem fl_X2_begin_14 : Cond.fieldLink RX2 14 (TX2 0).1 (TX2 0).2.1 (TX2 0).2.2.1 ∈ wsX2_begin := by decide +kernel
def rm_X2_begin : Room := { frames := 5, cells := 0, slots := 0, locals := 106 }
theorem cd_X2_begin : yX2_begin.cls = RX2 ∧ yX2_begin.cls ≠ "java/lang/invoke/MethodHandle" ∧ yX2_begin.cls ≠ "java/lang/invoke/VarHandle" ∧ (parseMethodDescriptor yX2_begin.desc).map (fun d => d.parameters.length) = some 2 := by decide +kernel
set_option maxRecDepth 100000 in
set_option maxHeartbeats 4000000 in
theorem kX2_begin (l : Launch) (D : va_G) (cy : Nat → ClassId) (a_o : Nat) (a_o_bytes : Nat) (a_o_bytes_bytes : Nat) (n_o_bytes_bytes : Nat) (a_p1 : Nat) (a_p1_words : Nat) (a_p1_words_bytes : Nat) (n_p1_words_bytes : Nat) (o_items : Int32) (o_matches : Int32) (o_bytes_length : Int32) (o_bytes_bytes : Nat → Int32) (p1_pieceLength : Int32) (p1_pieces : Int32) (p1_id : Int32) (p1_words_length : Int32) (p1_words_bytes : Nat → Int32) (p2 : Int32) (post : Int32 → Int32 → Int32 → (Nat → Int32) → Prop) (h : wX2_begin n_o_bytes_bytes n_p1_words_bytes o_bytes_bytes p1_id p1_words_length p1_words_bytes p2 post) : MetV l yX2_begin wsX2_begin rm_X2_begin D (tyL cy) [.ref a_o, .ref a_p1, .int p2] [(a_o, .inr (5, [.ref a_o_bytes, .int o_items, .int o_matches])), (a_o_bytes, .inr (7, [.ref a_o_bytes_bytes, .int o_bytes_length])), (a_o_bytes_bytes, .inl (cy 0, n_o_bytes_bytes, .inl o_bytes_bytes)), (a_p1, .inr (3, [.ref a_p1_words, .int p1_pieceLength, .int p1_pieces, .int p1_id])), (a_p1_words, .inr (7, [.ref a_p1_words_bytes, .int p1_words_length])), (a_p1_words_bytes, .inl (cy 0, n_p1_words_bytes, .inl p1_words_bytes))] (fun u : Int32 × Int32 × Int32 × (Nat → Int32) => [(a_o, .inr (5, [.ref a_o_bytes, .int u.1, .int u.2.1])), (a_o_bytes, .inr (7, [.ref a_o_bytes_bytes, .int u.2.2.1])), (a_o_bytes_bytes, .inl (cy 0, n_o_bytes_bytes, .inl u.2.2.2)), (a_p1, .inr (3, [.ref a_p1_words, .int p1_pieceLength, .int p1_pieces, .int p1_id])), (a_p1_words, .inr (7, [.ref a_p1_words_bytes, .int p1_words_length])), (a_p1_words_bytes, .inl (cy 0, n_p1_words_bytes, .inl p1_words_bytes))]) (fun (u : Int32 × Int32 × Int32 × (Nat → Int32)) => post u.1 u.2.1 u.2.2.1 u.2.2.2) 0 0 := by
  refine metV_of (cc := cX2_begin) (maxL := 3) (lv := [(0, .ref a_o), (1, .ref a_p1), (2, .int p2)]) (by decide) rfl (Nat.le_of_ble_eq_true rfl) rfl ?_
  intro p e s m below meth c Q A X hlk hnm hR
  unfold wX2_begin at h
  refine go_aload_n X dX2_begin_0 0 rfl rfl ?_
  refine go_iconst X (v := 0) dX2_begin_1 (by decide) ?_
  refine go_put X (ws' := [(a_o, .inr (5, [.ref a_o_bytes, .int 0, .int o_matches])), (a_o_bytes, .inr (7, [.ref a_o_bytes_bytes, .int o_bytes_length])), (a_o_bytes_bytes, .inl (cy 0, n_o_bytes_bytes, .inl o_bytes_bytes)), (a_p1, .inr (3, [.ref a_p1_words, .int p1_pieceLength, .int p1_pieces, .int p1_id])), (a_p1_words, .inr (7, [.ref a_p1_words_bytes, .int p1_words_length])), (a_p1_words_bytes, .inl (cy 0, n_p1_words_bytes, .inl p1_words_bytes))]) fi_X2_begin_X2 tyX2 tyX2_ok nmX2 0 rfl rfl 1 (by decide) fl_X2_begin_20 rfl (tyX2_ok 1 (by decide)) rfl rfl (Nat.le_of_ble_eq_true rfl) rfl dX2_begin_2 ?_
  refine go_aload_n X dX2_begin_5 0 rfl rfl ?_
  refine go_iconst X (v := 0) dX2_begin_6 (by decide) ?_
  refine go_put X (ws' := [(a_o, .inr (5, [.ref a_o_bytes, .int 0, .int 0])), (a_o_bytes, .inr (7, [.ref a_o_bytes_bytes, .int o_bytes_length])), (a_o_bytes_bytes, .inl (cy 0, n_o_bytes_bytes, .inl o_bytes_bytes)), (a_p1, .inr (3, [.ref a_p1_words, .int p1_pieceLength, .int p1_pieces, .int p1_id])), (a_p1_words, .inr (7, [.ref a_p1_words_bytes, .int p1_words_length])), (a_p1_words_bytes, .inl (cy 0, n_p1_words_bytes, .inl p1_words_bytes))]) fi_X2_begin_X2 tyX2 tyX2_ok nmX2 0 rfl rfl 2 (by decide) fl_X2_begin_24 rfl (tyX2_ok 2 (by decide)) rfl rfl (Nat.le_of_ble_eq_true rfl) rfl dX2_begin_7 ?_
  refine go_aload_n X dX2_begin_10 0 rfl rfl ?_
  refine go_get X fi_X2_begin_X2 0 rfl rfl 0 (by decide) fl_X2_begin_14 rfl dX2_begin_11 ?_
  refine go_callVv X (kX4_clear l D cy a_o_bytes a_o_bytes_bytes o_bytes_length _ h) (cwV 0 X.2.2.2.2.1 gX2_begin_X4_clear rfl rfl rfl cd_X4_clear ⟨by decide, by decide⟩) (wr := [(a_o, .inr (5, [.ref a_o_bytes, .int 0, .int 0])), (a_o_bytes_bytes, .inl (cy 0, n_o_bytes_bytes, .inl o_bytes_bytes)), (a_p1, .inr (3, [.ref a_p1_words, .int p1_pieceLength, .int p1_pieces, .int p1_id])), (a_p1_words, .inr (7, [.ref a_p1_words_bytes, .int p1_words_length])), (a_p1_words_bytes, .inl (cy 0, n_p1_words_bytes, .inl p1_words_bytes))]) (ws2 := fun u => [(a_o, .inr (5, [.ref a_o_bytes, .int 0, .int 0])), (a_o_bytes, .inr (7, [.ref a_o_bytes_bytes, .int u])), (a_o_bytes_bytes, .inl (cy 0, n_o_bytes_bytes, .inl o_bytes_bytes)), (a_p1, .inr (3, [.ref a_p1_words, .int p1_pieceLength, .int p1_pieces, .int p1_id])), (a_p1_words, .inr (7, [.ref a_p1_words_bytes, .int p1_words_length])), (a_p1_words_bytes, .inl (cy 0, n_p1_words_bytes, .inl p1_words_bytes))]) (perm_idx [1, 0, 2, 3, 4, 5] rfl rfl) (fun u => perm_idx [1, 0, 2, 3, 4, 5] rfl rfl) rfl rfl rfl rfl (Nat.le_of_ble_eq_true rfl) dX2_begin_14 ⟨by decide, by decide⟩ (fun u h => ?_)
  obtain ⟨s1, rfl⟩ : ∃ z, z = u := ⟨_, rfl⟩
  refine go_aload_n X dX2_begin_17 0 rfl rfl ?_
  refine go_get X fi_X2_begin_X2 0 rfl rfl 0 (by decide) fl_X2_begin_14 rfl dX2_begin_18 ?_
  refine go_aload_n X dX2_begin_21 1 rfl rfl ?_
  refine go_callVi X (kX0_id l D cy a_p1 a_p1_words p1_pieceLength p1_pieces p1_id _ h) (cwV 0 X.2.2.2.2.1 gX2_begin_X0_id rfl rfl rfl cd_X0_id ⟨by decide, by decide⟩) (wr := [(a_o, .inr (5, [.ref a_o_bytes, .int 0, .int 0])), (a_o_bytes, .inr (7, [.ref a_o_bytes_bytes, .int s1])), (a_o_bytes_bytes, .inl (cy 0, n_o_bytes_bytes, .inl o_bytes_bytes)), (a_p1_words, .inr (7, [.ref a_p1_words_bytes, .int p1_words_length])), (a_p1_words_bytes, .inl (cy 0, n_p1_words_bytes, .inl p1_words_bytes))]) (ws2 := fun u => [(a_o, .inr (5, [.ref a_o_bytes, .int 0, .int 0])), (a_o_bytes, .inr (7, [.ref a_o_bytes_bytes, .int s1])), (a_o_bytes_bytes, .inl (cy 0, n_o_bytes_bytes, .inl o_bytes_bytes)), (a_p1, .inr (3, [.ref a_p1_words, .int p1_pieceLength, .int p1_pieces, .int p1_id])), (a_p1_words, .inr (7, [.ref a_p1_words_bytes, .int p1_words_length])), (a_p1_words_bytes, .inl (cy 0, n_p1_words_bytes, .inl p1_words_bytes))]) (perm_idx [3, 0, 1, 2, 4, 5] rfl rfl) (fun u => perm_idx [1, 2, 3, 0, 4, 5] rfl rfl) rfl rfl rfl rfl (Nat.le_of_ble_eq_true rfl) dX2_begin_22 ⟨by decide, by decide⟩ (fun r2 u h => ?_)
  refine go_callVv X (kX4_add l D cy a_o_bytes a_o_bytes_bytes n_o_bytes_bytes s1 o_bytes_bytes r2 _ h) (cwV 1 X.2.2.2.2.1 gX2_begin_X4_add rfl rfl rfl cd_X4_add ⟨by decide, by decide⟩) (wr := [(a_o, .inr (5, [.ref a_o_bytes, .int 0, .int 0])), (a_p1, .inr (3, [.ref a_p1_words, .int p1_pieceLength, .int p1_pieces, .int p1_id])), (a_p1_words, .inr (7, [.ref a_p1_words_bytes, .int p1_words_length])), (a_p1_words_bytes, .inl (cy 0, n_p1_words_bytes, .inl p1_words_bytes))]) (ws2 := fun u => [(a_o, .inr (5, [.ref a_o_bytes, .int 0, .int 0])), (a_o_bytes, .inr (7, [.ref a_o_bytes_bytes, .int u.1])), (a_o_bytes_bytes, .inl (cy 0, n_o_bytes_bytes, .inl u.2)), (a_p1, .inr (3, [.ref a_p1_words, .int p1_pieceLength, .int p1_pieces, .int p1_id])), (a_p1_words, .inr (7, [.ref a_p1_words_bytes, .int p1_words_length])), (a_p1_words_bytes, .inl (cy 0, n_p1_words_bytes, .inl p1_words_bytes))]) (perm_idx [1, 2, 0, 3, 4, 5] rfl rfl) (fun u => perm_idx [2, 0, 1, 3, 4, 5] rfl rfl) rfl rfl rfl rfl (Nat.le_of_ble_eq_true rfl) dX2_begin_25 ⟨by decide, by decide⟩ (fun u h => ?_)
  obtain ⟨s3, s4⟩ := u
  refine go_aload_n X dX2_begin_28 0 rfl rfl ?_
  refine go_get X fi_X2_begin_X2 0 rfl rfl 0 (by decide) fl_X2_begin_14 rfl dX2_begin_29 ?_
  refine go_aload_n X dX2_begin_32 1 rfl rfl ?_
  refine go_callVi X (kX0_sum l D cy a_p1 a_p1_words a_p1_words_bytes n_p1_words_bytes p1_pieceLength p1_pieces p1_id p1_words_length p1_words_bytes _ h) (cwV 0 X.2.2.2.2.1 gX2_begin_X0_sum rfl rfl rfl cd_X0_sum ⟨by decide, by decide⟩) (wr := [(a_o, .inr (5, [.ref a_o_bytes, .int 0, .int 0])), (a_o_bytes, .inr (7, [.ref a_o_bytes_bytes, .int s3])), (a_o_bytes_bytes, .inl (cy 0, n_o_bytes_bytes, .inl s4))]) (ws2 := fun u => [(a_o, .inr (5, [.ref a_o_bytes, .int 0, .int 0])), (a_o_bytes, .inr (7, [.ref a_o_bytes_bytes, .int s3])), (a_o_bytes_bytes, .inl (cy 0, n_o_bytes_bytes, .inl s4)), (a_p1, .inr (3, [.ref a_p1_words, .int p1_pieceLength, .int p1_pieces, .int p1_id])), (a_p1_words, .inr (7, [.ref a_p1_words_bytes, .int p1_words_length])), (a_p1_words_bytes, .inl (cy 0, n_p1_words_bytes, .inl p1_words_bytes))]) (perm_idx [3, 4, 5, 0, 1, 2] rfl rfl) (fun u => perm_idx [3, 4, 5, 0, 1, 2] rfl rfl) rfl rfl rfl rfl (Nat.le_of_ble_eq_true rfl) dX2_begin_33 ⟨by decide, by decide⟩ (fun r5 u h => ?_)
  refine go_bipush X (v := 8) dX2_begin_36 (by decide) ?_
  refine go_ishr X dX2_begin_38 ?_
  refine go_callVv X (kX4_add l D cy a_o_bytes a_o_bytes_bytes n_o_bytes_bytes s3 s4 (r5 >>> ((8 : Int32) &&& 31)) _ h) (cwV 1 X.2.2.2.2.1 gX2_begin_X4_add rfl rfl rfl cd_X4_add ⟨by decide, by decide⟩) (wr := [(a_o, .inr (5, [.ref a_o_bytes, .int 0, .int 0])), (a_p1, .inr (3, [.ref a_p1_words, .int p1_pieceLength, .int p1_pieces, .int p1_id])), (a_p1_words, .inr (7, [.ref a_p1_words_bytes, .int p1_words_length])), (a_p1_words_bytes, .inl (cy 0, n_p1_words_bytes, .inl p1_words_bytes))]) (ws2 := fun u => [(a_o, .inr (5, [.ref a_o_bytes, .int 0, .int 0])), (a_o_bytes, .inr (7, [.ref a_o_bytes_bytes, .int u.1])), (a_o_bytes_bytes, .inl (cy 0, n_o_bytes_bytes, .inl u.2)), (a_p1, .inr (3, [.ref a_p1_words, .int p1_pieceLength, .int p1_pieces, .int p1_id])), (a_p1_words, .inr (7, [.ref a_p1_words_bytes, .int p1_words_length])), (a_p1_words_bytes, .inl (cy 0, n_p1_words_bytes, .inl p1_words_bytes))]) (perm_idx [1, 2, 0, 3, 4, 5] rfl rfl) (fun u => perm_idx [2, 0, 1, 3, 4, 5] rfl rfl) rfl rfl rfl rfl (Nat.le_of_ble_eq_true rfl) dX2_begin_39 ⟨by decide, by decide⟩ (fun u h => ?_)
  obtain ⟨s6, s7⟩ := u
  refine go_aload_n X dX2_begin_42 0 rfl rfl ?_
  refine go_get X fi_X2_begin_X2 0 rfl rfl 0 (by decide) fl_X2_begin_14 rfl dX2_begin_43 ?_
  refine go_aload_n X dX2_begin_46 1 rfl rfl ?_
  refine go_callVi X (kX0_sum l D cy a_p1 a_p1_words a_p1_words_bytes n_p1_words_bytes p1_pieceLength p1_pieces p1_id p1_words_length p1_words_bytes _ h) (cwV 0 X.2.2.2.2.1 gX2_begin_X0_sum rfl rfl rfl cd_X0_sum ⟨by decide, by decide⟩) (wr := [(a_o, .inr (5, [.ref a_o_bytes, .int 0, .int 0])), (a_o_bytes, .inr (7, [.ref a_o_bytes_bytes, .int s6])), (a_o_bytes_bytes, .inl (cy 0, n_o_bytes_bytes, .inl s7))]) (ws2 := fun u => [(a_o, .inr (5, [.ref a_o_bytes, .int 0, .int 0])), (a_o_bytes, .inr (7, [.ref a_o_bytes_bytes, .int s6])), (a_o_bytes_bytes, .inl (cy 0, n_o_bytes_bytes, .inl s7)), (a_p1, .inr (3, [.ref a_p1_words, .int p1_pieceLength, .int p1_pieces, .int p1_id])), (a_p1_words, .inr (7, [.ref a_p1_words_bytes, .int p1_words_length])), (a_p1_words_bytes, .inl (cy 0, n_p1_words_bytes, .inl p1_words_bytes))]) (perm_idx [3, 4, 5, 0, 1, 2] rfl rfl) (fun u => perm_idx [3, 4, 5, 0, 1, 2] rfl rfl) rfl rfl rfl rfl (Nat.le_of_ble_eq_true rfl) dX2_begin_47 ⟨by decide, by decide⟩ (fun r8 u h => ?_)
  refine go_callVv X (kX4_add l D cy a_o_bytes a_o_bytes_bytes n_o_bytes_bytes s6 s7 r8 _ h) (cwV 1 X.2.2.2.2.1 gX2_begin_X4_add rfl rfl rfl cd_X4_add ⟨by decide, by decide⟩) (wr := [(a_o, .inr (5, [.ref a_o_bytes, .int 0, .int 0])), (a_p1, .inr (3, [.ref a_p1_words, .int p1_pieceLength, .int p1_pieces, .int p1_id])), (a_p1_words, .inr (7, [.ref a_p1_words_bytes, .int p1_words_length])), (a_p1_words_bytes, .inl (cy 0, n_p1_words_bytes, .inl p1_words_bytes))]) (ws2 := fun u => [(a_o, .inr (5, [.ref a_o_bytes, .int 0, .int 0])), (a_o_bytes, .inr (7, [.ref a_o_bytes_bytes, .int u.1])), (a_o_bytes_bytes, .inl (cy 0, n_o_bytes_bytes, .inl u.2)), (a_p1, .inr (3, [.ref a_p1_words, .int p1_pieceLength, .int p1_pieces, .int p1_id])), (a_p1_words, .inr (7, [.ref a_p1_words_bytes, .int p1_words_length])), (a_p1_words_bytes, .inl (cy 0, n_p1_words_bytes, .inl p1_words_bytes))]) (perm_idx [1, 2, 0, 3, 4, 5] rfl rfl) (fun u => perm_idx [2, 0, 1, 3, 4, 5] rfl rfl) rfl rfl rfl rfl (Nat.le_of_ble_eq_true rfl) dX2_begin_50 ⟨by decide, by decide⟩ (fun u h => ?_)
  obtain ⟨s9, s10⟩ := u
  refine go_aload_n X dX2_begin_53 0 rfl rfl ?_
  refine go_get X fi_X2_begin_X2 0 rfl rfl 0 (by decide) fl_X2_begin_14 rfl dX2_begin_54 ?_
  refine go_iload_n X dX2_begin_57 2 rfl rfl ?_
  refine go_callVv X (kX4_add l D cy a_o_bytes a_o_bytes_bytes n_o_bytes_bytes s9 s10 p2 _ h) (cwV 1 X.2.2.2.2.1 gX2_begin_X4_add rfl rfl rfl cd_X4_add ⟨by decide, by decide⟩) (wr := [(a_o, .inr (5, [.ref a_o_bytes, .int 0, .int 0])), (a_p1, .inr (3, [.ref a_p1_words, .int p1_pieceLength, .int p1_pieces, .int p1_id])), (a_p1_words, .inr (7, [.ref a_p1_words_bytes, .int p1_words_length])), (a_p1_words_bytes, .inl (cy 0, n_p1_words_bytes, .inl p1_words_bytes))]) (ws2 := fun u => [(a_o, .inr (5, [.ref a_o_bytes, .int 0, .int 0])), (a_o_bytes, .inr (7, [.ref a_o_bytes_bytes, .int u.1])), (a_o_bytes_bytes, .inl (cy 0, n_o_bytes_bytes, .inl u.2)), (a_p1, .inr (3, [.ref a_p1_words, .int p1_pieceLength, .int p1_pieces, .int p1_id])), (a_p1_words, .inr (7, [.ref a_p1_words_bytes, .int p1_words_length])), (a_p1_words_bytes, .inl (cy 0, n_p1_words_bytes, .inl p1_words_bytes))]) (perm_idx [1, 2, 0, 3, 4, 5] rfl rfl) (fun u => perm_idx [2, 0, 1, 3, 4, 5] rfl rfl) rfl rfl rfl rfl (Nat.le_of_ble_eq_true rfl) dX2_begin_58 ⟨by decide, by decide⟩ (fun u h => ?_)
  obtain ⟨s11, s12⟩ := u
  exact hR (0, 0, s11, s12) 61 _ dX2_begin_61 h
/-! X2_addMatch -/
theorem fi_X2_addMatch_X2 : ∀ w ∈ u_ws RX2 TX2 3, w ∈ wsX2_addMatch := by decide +kernel
theorem fl_X2_addMatch_14 : Cond.fieldLink RX2 14 (TX2 0).1 (TX2 0).2.1 (TX2 0).2.2.1 ∈ wsX2_addMatch := by decide +kernel
theorem fl_X2_addMatch_20 : Cond.fieldLink RX2 20 (TX2 1).1 (TX2 1).2.1 (TX2 1).2.2.1 ∈ wsX2_addMatch := by decide +kernel
theorem fl_X2_addMatch_24 : Cond.fieldLink RX2 24 (TX2 2).1 (TX2 2).2.1 (TX2 2).2.2.1 ∈ wsX2_addMatch := by decide +kernel
def rm_X2_addMatch : Room := { frames := 1, cells := 0, slots := 0, locals := 21 }
theorem cd_X2_addMatch : yX2_addMatch.cls = RX2 ∧ yX2_addMatch.cls ≠ "java/lang/invoke/MethodHandle" ∧ yX2_addMatch.cls ≠ "java/lang/invoke/VarHandle" ∧ (parseMethodDescriptor yX2_addMatch.desc).map (fun d => d.parameters.length) = some 2 := by decide +kernel
set_option maxRecDepth 100000 in
set_option maxHeartbeats 4000000 in
theorem kX2_addMatch (l : Launch) (D : va_G) (cy : Nat → ClassId) (a_o : Nat) (a_o_bytes : Nat) (a_o_bytes_bytes : Nat) (n_o_bytes_bytes : Nat) (o_items : Int32) (o_matches : Int32) (o_bytes_length : Int32) (o_bytes_bytes : Nat → Int32) (p1 : Int32) (p2 : Int32) (post : Int32 → Int32 → Int32 → (Nat → Int32) → Prop) (h : wX2_addMatch n_o_bytes_bytes o_items o_matches o_bytes_length o_bytes_bytes p1 p2 post) : MetV l yX2_addMatch wsX2_addMatch rm_X2_addMatch D (tyL cy) [.ref a_o, .int p1, .int p2] [(a_o, .inr (5, [.ref a_o_bytes, .int o_items, .int o_matches])), (a_o_bytes, .inr (7, [.ref a_o_bytes_bytes, .int o_bytes_length])), (a_o_bytes_bytes, .inl (cy 0, n_o_bytes_bytes, .inl o_bytes_bytes))] (fun u : Int32 × Int32 × Int32 × (Nat → Int32) => [(a_o, .inr (5, [.ref a_o_bytes, .int u.1, .int u.2.1])), (a_o_bytes, .inr (7, [.ref a_o_bytes_bytes, .int u.2.2.1])), (a_o_bytes_bytes, .inl (cy 0, n_o_bytes_bytes, .inl u.2.2.2))]) (fun (u : Int32 × Int32 × Int32 × (Nat → Int32)) => post u.1 u.2.1 u.2.2.1 u.2.2.2) 0 0 := by
  refine metV_of (cc := cX2_addMatch) (maxL := 3) (lv := [(0, .ref a_o), (1, .int p1), (2, .int p2)]) (by decide) rfl (Nat.le_of_ble_eq_true rfl) rfl ?_
  intro p e s m below meth c Q A X hlk hnm hR
  unfold wX2_addMatch at h
  refine go_aload_n X dX2_addMatch_0 0 rfl rfl ?_
  refine go_get X fi_X2_addMatch_X2 0 rfl rfl 0 (by decide) fl_X2_addMatch_14 rfl dX2_addMatch_1 ?_
  refine go_iload_n X dX2_addMatch_4 1 rfl rfl ?_
  refine go_iconst X (v := 2) dX2_addMatch_5 (by decide) ?_
  refine go_isub X dX2_addMatch_6 ?_
  refine go_bipush X (v := 32) dX2_addMatch_7 (by decide) ?_
  refine go_imul X dX2_addMatch_9 ?_
  refine go_iload_n X dX2_addMatch_10 2 rfl rfl ?_
  refine go_iconst X (v := 1) dX2_addMatch_11 (by decide) ?_
  refine go_isub X dX2_addMatch_12 ?_
  refine go_sipush X (v := 256) dX2_addMatch_13 (by decide) ?_
  refine go_idiv X dX2_addMatch_16 (by decide) ?_
  refine go_iadd X dX2_addMatch_17 ?_
  refine go_callVv X (kX4_add l D cy a_o_bytes a_o_bytes_bytes n_o_bytes_bytes o_bytes_length o_bytes_bytes (((p1 - 2) * 32) + ((p2 - 1) / 256)) _ h) (cwV 1 X.2.2.2.2.1 gX2_addMatch_X4_add rfl rfl rfl cd_X4_add ⟨by decide, by decide⟩) (wr := [(a_o, .inr (5, [.ref a_o_bytes, .int o_items, .int o_matches]))]) (ws2 := fun u => [(a_o, .inr (5, [.ref a_o_bytes, .int o_items, .int o_matches])), (a_o_bytes, .inr (7, [.ref a_o_bytes_bytes, .int u.1])), (a_o_bytes_bytes, .inl (cy 0, n_o_bytes_bytes, .inl u.2))]) (perm_idx [1, 2, 0] rfl rfl) (fun u => perm_idx [2, 0, 1] rfl rfl) rfl rfl rfl rfl (Nat.le_of_ble_eq_true rfl) dX2_addMatch_18 ⟨by decide, by decide⟩ (fun u h => ?_)
  obtain ⟨s1, s2⟩ := u
  refine go_aload_n X dX2_addMatch_21 0 rfl rfl ?_
  refine go_get X fi_X2_addMatch_X2 0 rfl rfl 0 (by decide) fl_X2_addMatch_14 rfl dX2_addMatch_22 ?_
  refine go_iload_n X dX2_addMatch_25 2 rfl rfl ?_
  refine go_iconst X (v := 1) dX2_addMatch_26 (by decide) ?_
  refine go_isub X dX2_addMatch_27 ?_
  refine go_sipush X (v := 256) dX2_addMatch_28 (by decide) ?_
  refine go_irem X dX2_addMatch_31 (by decide) ?_
  refine go_callVv X (kX4_add l D cy a_o_bytes a_o_bytes_bytes n_o_bytes_bytes s1 s2 ((p2 - 1) - (p2 - 1) / 256 * 256) _ h) (cwV 1 X.2.2.2.2.1 gX2_addMatch_X4_add rfl rfl rfl cd_X4_add ⟨by decide, by decide⟩) (wr := [(a_o, .inr (5, [.ref a_o_bytes, .int o_items, .int o_matches]))]) (ws2 := fun u => [(a_o, .inr (5, [.ref a_o_bytes, .int o_items, .int o_matches])), (a_o_bytes, .inr (7, [.ref a_o_bytes_bytes, .int u.1])), (a_o_bytes_bytes, .inl (cy 0, n_o_bytes_bytes, .inl u.2))]) (perm_idx [1, 2, 0] rfl rfl) (fun u => perm_idx [2, 0, 1] rfl rfl) rfl rfl rfl rfl (Nat.le_of_ble_eq_true rfl) dX2_addMatch_32 ⟨by decide, by decide⟩ (fun u h => ?_)
  obtain ⟨s3, s4⟩ := u
  refine go_aload_n X dX2_addMatch_35 0 rfl rfl ?_
  refine go_dup X dX2_addMatch_36 rfl ?_
  refine go_get X fi_X2_addMatch_X2 0 rfl rfl 1 (by decide) fl_X2_addMatch_20 rfl dX2_addMatch_37 ?_
  refine go_iconst X (v := 1) dX2_addMatch_40 (by decide) ?_
  refine go_iadd X dX2_addMatch_41 ?_
  refine go_topi (fun y5 ey5 => ?_)
  replace h := h y5 ey5
  refine go_put X (ws' := [(a_o, .inr (5, [.ref a_o_bytes, .int y5, .int o_matches])), (a_o_bytes, .inr (7, [.ref a_o_bytes_bytes, .int s3])), (a_o_bytes_bytes, .inl (cy 0, n_o_bytes_bytes, .inl s4))]) fi_X2_addMatch_X2 tyX2 tyX2_ok nmX2 0 rfl rfl 1 (by decide) fl_X2_addMatch_20 rfl (tyX2_ok 1 (by decide)) rfl rfl (Nat.le_of_ble_eq_true rfl) rfl dX2_addMatch_42 ?_
  refine go_aload_n X dX2_addMatch_45 0 rfl rfl ?_
  refine go_dup X dX2_addMatch_46 rfl ?_
  refine go_get X fi_X2_addMatch_X2 0 rfl rfl 2 (by decide) fl_X2_addMatch_24 rfl dX2_addMatch_47 ?_
  refine go_iconst X (v := 1) dX2_addMatch_50 (by decide) ?_
  refine go_iadd X dX2_addMatch_51 ?_
  refine go_topi (fun y6 ey6 => ?_)
  replace h := h y6 ey6
  refine go_put X (ws' := [(a_o, .inr (5, [.ref a_o_bytes, .int y5, .int y6])), (a_o_bytes, .inr (7, [.ref a_o_bytes_bytes, .int s3])), (a_o_bytes_bytes, .inl (cy 0, n_o_bytes_bytes, .inl s4))]) fi_X2_addMatch_X2 tyX2 tyX2_ok nmX2 0 rfl rfl 2 (by decide) fl_X2_addMatch_24 rfl (tyX2_ok 2 (by decide)) rfl rfl (Nat.le_of_ble_eq_true rfl) rfl dX2_addMatch_52 ?_
  exact hR (y5, y6, s3, s4) 55 _ dX2_addMatch_55 h
/-! X2_addPlain -/
theorem fi_X2_addPlain_X2 : ∀ w ∈ u_ws RX2 TX2 3, w ∈ wsX2_addPlain := by decide +kernel
theorem fl_X2_addPlain_14 : Cond.fieldLink RX2 14 (TX2 0).1 (TX2 0).2.1 (TX2 0).2.2.1 ∈ wsX2_addPlain := by decide +kernel
theorem fl_X2_addPlain_20 : Cond.fieldLink RX2 20 (TX2 1).1 (TX2 1).2.1 (TX2 1).2.2.1 ∈ wsX2_addPlain := by decide +kernel
def rm_X2_addPlain : Room := { frames := 1, cells := 0, slots := 0, locals := 21 }
theorem cd_X2_addPlain : yX2_addPlain.cls = RX2 ∧ yX2_addPlain.cls ≠ "java/lang/invoke/MethodHandle" ∧ yX2_addPlain.cls ≠ "java/lang/invoke/VarHandle" ∧ (parseMethodDescriptor yX2_addPlain.desc).map (fun d => d.parameters.length) = some 3 := by decide +kernel
set_option maxRecDepth 100000 in
set_option maxHeartbeats 4000000 in
theorem pX2_addPlain_13 {p : Program} (l : Launch) {e : Env} {s : State} {m : MethodId} {args : Array Value} {below : List Frame} {meth : Method} {c : Code} {Q : State → Prop} {D : va_G} {cy : Nat → ClassId} {A : Nat → Prop} (X : Cx p s m args c cX2_addPlain 5 RX2 wsX2_addPlain D (tyL cy) A) (a_o : Nat) (a_o_bytes : Nat) (a_o_bytes_bytes : Nat) (n_o_bytes_bytes : Nat) (a_p1 : Nat) (n_p1 : Nat) (o_items : Int32) (o_matches : Int32) (p1 : Nat → Int32) (v2 : Int32) (v3 : Int32) (K : Int32 → (Nat → Int32) → Int32 → Prop) (hK : ∀ (o_bytes_length : Int32) (o_bytes_bytes : Nat → Int32) (v4 : Int32), K o_bytes_length o_bytes_bytes v4 → Go p l e rm_X2_addPlain s m args below meth c Q 5 D A [(a_o, .inr (5, [.ref a_o_bytes, .int o_items, .int o_matches])), (a_o_bytes, .inr (7, [.ref a_o_bytes_bytes, .int o_bytes_length])), (a_o_bytes_bytes, .inl (cy 0, n_o_bytes_bytes, .inl o_bytes_bytes)), (a_p1, .inl (cy 0, n_p1, .inl p1))] 0 0 45 [(0, .ref a_o)] []) :
    ∀ (n : Nat) (o_bytes_length : Int32) (o_bytes_bytes : Nat → Int32) (v4 : Int32), wX2_addPlain_13 n_o_bytes_bytes n_p1 p1 v2 v3 K n o_bytes_length o_bytes_bytes v4 → Go p l e rm_X2_addPlain s m args below meth c Q 5 D A [(a_o, .inr (5, [.ref a_o_bytes, .int o_items, .int o_matches])), (a_o_bytes, .inr (7, [.ref a_o_bytes_bytes, .int o_bytes_length])), (a_o_bytes_bytes, .inl (cy 0, n_o_bytes_bytes, .inl o_bytes_bytes)), (a_p1, .inl (cy 0, n_p1, .inl p1))] 0 0 13 [(0, .ref a_o), (1, .ref a_p1), (2, .int v2), (3, .int v3), (4, .int v4)] [] := by
  intro n
  induction n with
  | zero => intro o_bytes_length o_bytes_bytes v4 h; exact absurd h id
  | succ n ih =>
    intro o_bytes_length o_bytes_bytes v4 h
    refine go_iload X dX2_addPlain_13 4 rfl ?_
    refine go_iload_n X dX2_addPlain_15 2 rfl rfl ?_
    refine go_iload_n X dX2_addPlain_16 3 rfl rfl ?_
    refine go_iadd X dX2_addPlain_17 ?_
    refine go_icmp_ge X 45 dX2_addPlain_18 (by decide) (fun c6 => ?_) (fun c6 => ?_)
    · replace h := h.1 c6
      refine go_lv [0] rfl ?_
      exact hK o_bytes_length o_bytes_bytes v4 h
    · replace h := h.2 c6
      refine go_iload X dX2_addPlain_21 4 rfl ?_
      refine go_aload_n X dX2_addPlain_23 1 rfl rfl ?_
      refine go_alen X 3 0 rfl rfl dX2_addPlain_24 ?_
      refine go_icmp_ge X 45 dX2_addPlain_25 (by decide) (fun c7 => ?_) (fun c7 => ?_)
      · replace h := h.1 c7
        refine go_lv [0] rfl ?_
        exact hK o_bytes_length o_bytes_bytes v4 h
      · replace h := h.2 c7
        refine go_aload_n X dX2_addPlain_28 0 rfl rfl ?_
        refine go_get X fi_X2_addPlain_X2 0 rfl rfl 0 (by decide) fl_X2_addPlain_14 rfl dX2_addPlain_29 ?_
        refine go_aload_n X dX2_addPlain_32 1 rfl rfl ?_
        refine go_iload X dX2_addPlain_33 4 rfl ?_
        obtain ⟨c8, h⟩ := h
        refine go_bald X 3 0 rfl rfl c8 dX2_addPlain_35 ?_
        refine go_callVv X (kX4_add l D cy a_o_bytes a_o_bytes_bytes n_o_bytes_bytes o_bytes_length o_bytes_bytes (p1 v4.toNatClampNeg) _ h) (cwV 1 X.2.2.2.2.1 gX2_addPlain_X4_add rfl rfl rfl cd_X4_add ⟨by decide, by decide⟩) (wr := [(a_o, .inr (5, [.ref a_o_bytes, .int o_items, .int o_matches])), (a_p1, .inl (cy 0, n_p1, .inl p1))]) (ws2 := fun u => [(a_o, .inr (5, [.ref a_o_bytes, .int o_items, .int o_matches])), (a_o_bytes, .inr (7, [.ref a_o_bytes_bytes, .int u.1])), (a_o_bytes_bytes, .inl (cy 0, n_o_bytes_bytes, .inl u.2)), (a_p1, .inl (cy 0, n_p1, .inl p1))]) (perm_idx [1, 2, 0, 3] rfl rfl) (fun u => perm_idx [2, 0, 1, 3] rfl rfl) rfl rfl rfl rfl (Nat.le_of_ble_eq_true rfl) dX2_addPlain_36 ⟨by decide, by decide⟩ (fun u h => ?_)
        obtain ⟨s9, s10⟩ := u
        obtain ⟨y11, ey11⟩ : ∃ z : Int32, z = v4 + 1 := ⟨_, rfl⟩
        replace h := h y11 ey11
        refine go_iinc X (lv' := [(4, .int y11), (0, .ref a_o), (1, .ref a_p1), (2, .int v2), (3, .int v3)]) y11 dX2_addPlain_39 4 rfl (by rw [ey11]; rfl) (by decide) rfl ?_
        refine go_goto X 13 dX2_addPlain_42 (by decide) ?_
        refine go_lv [1, 2, 3, 4, 0] rfl ?_
        exact ih s9 s10 y11 h
set_option maxRecDepth 100000 in
set_option maxHeartbeats 4000000 in
theorem kX2_addPlain (l : Launch) (D : va_G) (cy : Nat → ClassId) (a_o : Nat) (a_o_bytes : Nat) (a_o_bytes_bytes : Nat) (n_o_bytes_bytes : Nat) (a_p1 : Nat) (n_p1 : Nat) (o_items : Int32) (o_matches : Int32) (o_bytes_length : Int32) (o_bytes_bytes : Nat → Int32) (p1 : Nat → Int32) (p2 : Int32) (p3 : Int32) (post : Int32 → Int32 → (Nat → Int32) → Prop) (h : wX2_addPlain n_o_bytes_bytes n_p1 o_items o_bytes_length o_bytes_bytes p1 p2 p3 post) : MetV l yX2_addPlain wsX2_addPlain rm_X2_addPlain D (tyL cy) [.ref a_o, .ref a_p1, .int p2, .int p3] [(a_o, .inr (5, [.ref a_o_bytes, .int o_items, .int o_matches])), (a_o_bytes, .inr (7, [.ref a_o_bytes_bytes, .int o_bytes_length])), (a_o_bytes_bytes, .inl (cy 0, n_o_bytes_bytes, .inl o_bytes_bytes)), (a_p1, .inl (cy 0, n_p1, .inl p1))] (fun u : Int32 × Int32 × (Nat → Int32) => [(a_o, .inr (5, [.ref a_o_bytes, .int u.1, .int o_matches])), (a_o_bytes, .inr (7, [.ref a_o_bytes_bytes, .int u.2.1])), (a_o_bytes_bytes, .inl (cy 0, n_o_bytes_bytes, .inl u.2.2)), (a_p1, .inl (cy 0, n_p1, .inl p1))]) (fun (u : Int32 × Int32 × (Nat → Int32)) => post u.1 u.2.1 u.2.2) 0 0 := by
  refine metV_of (cc := cX2_addPlain) (maxL := 5) (lv := [(0, .ref a_o), (1, .ref a_p1), (2, .int p2), (3, .int p3)]) (by decide) rfl (Nat.le_of_ble_eq_true rfl) rfl ?_
  intro p e s m below meth c Q A X hlk hnm hR
  unfold wX2_addPlain at h
  refine go_aload_n X dX2_addPlain_0 0 rfl rfl ?_
  refine go_get X fi_X2_addPlain_X2 0 rfl rfl 0 (by decide) fl_X2_addPlain_14 rfl dX2_addPlain_1 ?_
  refine go_iload_n X dX2_addPlain_4 3 rfl rfl ?_
  refine go_iconst X (v := 1) dX2_addPlain_5 (by decide) ?_
  refine go_isub X dX2_addPlain_6 ?_
  refine go_callVv X (kX4_add l D cy a_o_bytes a_o_bytes_bytes n_o_bytes_bytes o_bytes_length o_bytes_bytes (p3 - 1) _ h) (cwV 1 X.2.2.2.2.1 gX2_addPlain_X4_add rfl rfl rfl cd_X4_add ⟨by decide, by decide⟩) (wr := [(a_o, .inr (5, [.ref a_o_bytes, .int o_items, .int o_matches])), (a_p1, .inl (cy 0, n_p1, .inl p1))]) (ws2 := fun u => [(a_o, .inr (5, [.ref a_o_bytes, .int o_items, .int o_matches])), (a_o_bytes, .inr (7, [.ref a_o_bytes_bytes, .int u.1])), (a_o_bytes_bytes, .inl (cy 0, n_o_bytes_bytes, .inl u.2)), (a_p1, .inl (cy 0, n_p1, .inl p1))]) (perm_idx [1, 2, 0, 3] rfl rfl) (fun u => perm_idx [2, 0, 1, 3] rfl rfl) rfl rfl rfl rfl (Nat.le_of_ble_eq_true rfl) dX2_addPlain_7 ⟨by decide, by decide⟩ (fun u h => ?_)
  obtain ⟨s1, s2⟩ := u
  refine go_iload_n X dX2_addPlain_10 2 rfl rfl ?_
  refine go_istore X (lv' := [(4, .int p2), (0, .ref a_o), (1, .ref a_p1), (2, .int p2), (3, .int p3)]) dX2_addPlain_11 (by decide) rfl ?_
  obtain ⟨n13, h⟩ := h
  refine go_lv [1, 2, 3, 4, 0] rfl ?_
  refine pX2_addPlain_13 l X a_o a_o_bytes a_o_bytes_bytes n_o_bytes_bytes a_p1 n_p1 o_items o_matches p1 p2 p3  _ (fun s3 s4 y5 h => ?_) n13 s1 s2 p2 h
  refine go_aload_n X dX2_addPlain_45 0 rfl rfl ?_
  refine go_dup X dX2_addPlain_46 rfl ?_
  refine go_get X fi_X2_addPlain_X2 0 rfl rfl 1 (by decide) fl_X2_addPlain_20 rfl dX2_addPlain_47 ?_
  refine go_iconst X (v := 1) dX2_addPlain_50 (by decide) ?_
  refine go_iadd X dX2_addPlain_51 ?_
  refine go_topi (fun y12 ey12 => ?_)
  replace h := h y12 ey12
  refine go_put X (ws' := [(a_o, .inr (5, [.ref a_o_bytes, .int y12, .int o_matches])), (a_o_bytes, .inr (7, [.ref a_o_bytes_bytes, .int s3])), (a_o_bytes_bytes, .inl (cy 0, n_o_bytes_bytes, .inl s4)), (a_p1, .inl (cy 0, n_p1, .inl p1))]) fi_X2_addPlain_X2 tyX2 tyX2_ok nmX2 0 rfl rfl 1 (by decide) fl_X2_addPlain_20 rfl (tyX2_ok 1 (by decide)) rfl rfl (Nat.le_of_ble_eq_true rfl) rfl dX2_addPlain_52 ?_
  exact hR (y12, s3, s4) 55 _ dX2_addPlain_55 h
