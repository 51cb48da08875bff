/-! X7_thrown -/
theorem fi_X7_thrown_X7 : ∀ w ∈ u_ws RX7 TX7 25, w ∈ wsX7_thrown := by decide +kernel
theorem fl_X7_thrown_60 : Cond.fieldLink RX7 60 (TX7 0).1 (TX7 0).2.1 (TX7 0).2.2.1 ∈ wsX7_thrown := by decide +kernel
def rm_X7_thrown : Room := { frames := 0, cells := 0, slots := 0, locals := 0 }
theorem cd_X7_thrown : yX7_thrown.cls = RX7 ∧ yX7_thrown.cls ≠ "java/lang/invoke/MethodHandle" ∧ yX7_thrown.cls ≠ "java/lang/invoke/VarHandle" ∧ (parseMethodDescriptor yX7_thrown.desc).map (fun d => d.parameters.length) = some 0 := by decide +kernel
set_option maxRecDepth 100000 in
set_option maxHeartbeats 4000000 in
theorem kX7_thrown (l : Launch) (D : va_G) (cy : Nat → ClassId) (a_o : Nat) (a_o_tape : Nat) (a_o_sampleLong : Nat) (a_o_sampleByte : Nat) (a_o_idOf : Nat) (a_o_pieces : Nat) (a_o_pieceLong : Nat) (a_o_bytesOf : Nat) (a_o_dictionary : Nat) (a_o_covered : Nat) (a_o_taken : Nat) (a_o_row : Nat) (a_o_cost : Nat) (a_o_leastD : Nat) (a_o_out : Nat) (a_o_text : Nat) (o_thrown : Int32) (o_taped : Int32) (o_samples : Int32) (o_takenMany : Int32) (o_ahead : Int32) (o_textLong : Int32) (o_outMany : Int32) (o_items : Int32) (o_matches : Int32) (o_textMany : Int32) (post : Int32 → Prop) (h : wX7_thrown o_thrown post) : MetI l yX7_thrown wsX7_thrown rm_X7_thrown D (tyL cy) [.ref a_o] [(a_o, .inr (10, [.int o_thrown, .ref a_o_tape, .int o_taped, .int o_samples, .ref a_o_sampleLong, .ref a_o_sampleByte, .ref a_o_idOf, .ref a_o_pieces, .ref a_o_pieceLong, .ref a_o_bytesOf, .ref a_o_dictionary, .ref a_o_covered, .ref a_o_taken, .int o_takenMany, .ref a_o_row, .int o_ahead, .int o_textLong, .ref a_o_cost, .ref a_o_leastD, .ref a_o_out, .int o_outMany, .int o_items, .int o_matches, .ref a_o_text, .int o_textMany]))] (fun u : Unit => [(a_o, .inr (10, [.int o_thrown, .ref a_o_tape, .int o_taped, .int o_samples, .ref a_o_sampleLong, .ref a_o_sampleByte, .ref a_o_idOf, .ref a_o_pieces, .ref a_o_pieceLong, .ref a_o_bytesOf, .ref a_o_dictionary, .ref a_o_covered, .ref a_o_taken, .int o_takenMany, .ref a_o_row, .int o_ahead, .int o_textLong, .ref a_o_cost, .ref a_o_leastD, .ref a_o_out, .int o_outMany, .int o_items, .int o_matches, .ref a_o_text, .int o_textMany]))]) (fun r => fun (u : Unit) => post r ) 0 0 := by
  refine metI_of (cc := cX7_thrown) (maxL := 1) (lv := [(0, .ref a_o)]) (by decide) rfl (Nat.le_of_ble_eq_true rfl) rfl ?_
  intro p e s m below meth c Q A X hlk hR
  unfold wX7_thrown at h
  refine go_aload_n X dX7_thrown_0 0 rfl rfl ?_
  refine go_get X fi_X7_thrown_X7 0 rfl rfl 0 (by decide) fl_X7_thrown_60 rfl dX7_thrown_1 ?_
  exact hR o_thrown () 4 _ dX7_thrown_4 rfl h
/-! X7_in -/
def rm_X7_in : Room := { frames := 0, cells := 0, slots := 0, locals := 0 }
theorem cd_X7_in : yX7_in.cls ≠ "java/lang/invoke/MethodHandle" ∧ yX7_in.cls ≠ "java/lang/invoke/VarHandle" ∧ (parseMethodDescriptor yX7_in.desc).map (fun d => d.parameters.length) = some 3 := by decide +kernel
set_option maxRecDepth 100000 in
set_option maxHeartbeats 4000000 in
theorem kX7_in (l : Launch) (D : va_G) (cy : Nat → ClassId) (p0 : Int64) (p2 : Int64) (p4 : Int64) (post : Int32 → Prop) (h : wX7_in p0 p2 p4 post) : MetI l yX7_in wsX7_in rm_X7_in D (tyL cy) [.long p0, .long p2, .long p4] [] (fun u : Unit => []) (fun r => fun (u : Unit) => post r ) 0 0 := by
  refine metI_of (cc := cX7_in) (maxL := 6) (lv := [(0, .long p0), (2, .long p2), (4, .long p4)]) (by decide) rfl (Nat.le_of_ble_eq_true rfl) rfl ?_
  intro p e s m below meth c Q A X hlk hR
  unfold wX7_in at h
  refine go_lload_n X dX7_in_0 0 rfl rfl ?_
  refine go_lload_n X dX7_in_1 1 rfl rfl ?_
  refine go_lcmp X dX7_in_2 ?_
  refine go_if_lt X 17 dX7_in_3 (by decide) (fun c1 => ?_) (fun c1 => ?_)
  · replace h := h.1 c1
    refine go_iconst X (v := 0) dX7_in_17 (by decide) ?_
    exact hR 0 () 18 _ dX7_in_18 rfl h
  · replace h := h.2 c1
    refine go_lload_n X dX7_in_6 0 rfl rfl ?_
    refine go_lload X dX7_in_7 2 rfl ?_
    refine go_lcmp X dX7_in_9 ?_
    refine go_if_gt X 17 dX7_in_10 (by decide) (fun c2 => ?_) (fun c2 => ?_)
    · replace h := h.1 c2
      refine go_iconst X (v := 0) dX7_in_17 (by decide) ?_
      exact hR 0 () 18 _ dX7_in_18 rfl h
    · replace h := h.2 c2
      refine go_iconst X (v := 1) dX7_in_13 (by decide) ?_
      refine go_goto X 18 dX7_in_14 (by decide) ?_
      exact hR 1 () 18 _ dX7_in_18 rfl h
/-! X7_feed -/
theorem fi_X7_feed_X7 : ∀ w ∈ u_ws RX7 TX7 25, w ∈ wsX7_feed := by decide +kernel
theorem fl_X7_feed_60 : Cond.fieldLink RX7 60 (TX7 0).1 (TX7 0).2.1 (TX7 0).2.2.1 ∈ wsX7_feed := by decide +kernel
theorem fw_X7_feed_c63 : Jvm.Cond.constantLong RX7 63 8 ∈ wsX7_feed := by decide +kernel
theorem fl_X7_feed_56 : Cond.fieldLink RX7 56 (TX7 2).1 (TX7 2).2.1 (TX7 2).2.2.1 ∈ wsX7_feed := by decide +kernel
theorem fl_X7_feed_7 : Cond.fieldLink RX7 7 (TX7 1).1 (TX7 1).2.1 (TX7 1).2.2.1 ∈ wsX7_feed := by decide +kernel
def rm_X7_feed : Room := { frames := 1, cells := 0, slots := 0, locals := 25 }
theorem cd_X7_feed : yX7_feed.cls = RX7 ∧ yX7_feed.cls ≠ "java/lang/invoke/MethodHandle" ∧ yX7_feed.cls ≠ "java/lang/invoke/VarHandle" ∧ (parseMethodDescriptor yX7_feed.desc).map (fun d => d.parameters.length) = some 2 := by decide +kernel
set_option maxRecDepth 100000 in
set_option maxHeartbeats 4000000 in
theorem pX7_feed_40 {p : Program} (l : Launch) {e : Env} {s : State} {m : MethodId} {args : Array Value} {below : List Frame} {meth : Method} {c : Code} {Q : State → Prop} {D : va_G} {cy : Nat → ClassId} {A : Nat → Prop} (X : Cx p s m args c cX7_feed 5 RX7 wsX7_feed D (tyL cy) A) (a_o : Nat) (a_o_tape : Nat) (a_o_sampleLong : Nat) (a_o_sampleByte : Nat) (a_o_idOf : Nat) (a_o_pieces : Nat) (a_o_pieceLong : Nat) (a_o_bytesOf : Nat) (a_o_dictionary : Nat) (a_o_covered : Nat) (a_o_taken : Nat) (a_o_row : Nat) (a_o_cost : Nat) (a_o_leastD : Nat) (a_o_out : Nat) (a_o_text : Nat) (o_thrown : Int32) (o_samples : Int32) (o_takenMany : Int32) (o_ahead : Int32) (o_textLong : Int32) (o_outMany : Int32) (o_items : Int32) (o_matches : Int32) (o_textMany : Int32) (v2 : Int64) (K : Int32 → (Nat → Int32) → Int32 → Prop) (hK : ∀ (o_taped : Int32) (o_tape : Nat → Int32) (v4 : Int32), K o_taped o_tape v4 → Go p l e rm_X7_feed s m args below meth c Q 5 D A [(a_o, .inr (10, [.int o_thrown, .ref a_o_tape, .int o_taped, .int o_samples, .ref a_o_sampleLong, .ref a_o_sampleByte, .ref a_o_idOf, .ref a_o_pieces, .ref a_o_pieceLong, .ref a_o_bytesOf, .ref a_o_dictionary, .ref a_o_covered, .ref a_o_taken, .int o_takenMany, .ref a_o_row, .int o_ahead, .int o_textLong, .ref a_o_cost, .ref a_o_leastD, .ref a_o_out, .int o_outMany, .int o_items, .int o_matches, .ref a_o_text, .int o_textMany])), (a_o_tape, .inl (cy 1, 200, .inl o_tape))] 0 0 82 [(0, .ref a_o)] []) :
    ∀ (n : Nat) (o_taped : Int32) (o_tape : Nat → Int32) (v4 : Int32), wX7_feed_40 v2 K n o_taped o_tape v4 → Go p l e rm_X7_feed s m args below meth c Q 5 D A [(a_o, .inr (10, [.int o_thrown, .ref a_o_tape, .int o_taped, .int o_samples, .ref a_o_sampleLong, .ref a_o_sampleByte, .ref a_o_idOf, .ref a_o_pieces, .ref a_o_pieceLong, .ref a_o_bytesOf, .ref a_o_dictionary, .ref a_o_covered, .ref a_o_taken, .int o_takenMany, .ref a_o_row, .int o_ahead, .int o_textLong, .ref a_o_cost, .ref a_o_leastD, .ref a_o_out, .int o_outMany, .int o_items, .int o_matches, .ref a_o_text, .int o_textMany])), (a_o_tape, .inl (cy 1, 200, .inl o_tape))] 0 0 40 [(0, .ref a_o), (2, .long v2), (4, .int v4)] [] := by
  intro n
  induction n with
  | zero => intro o_taped o_tape v4 h; exact absurd h id
  | succ n ih =>
    intro o_taped o_tape v4 h
    refine go_iload X dX7_feed_40 2 rfl ?_
    refine go_if_lt X 82 dX7_feed_42 (by decide) (fun c8 => ?_) (fun c8 => ?_)
    · replace h := h.1 c8
      refine go_lv [0] rfl ?_
      exact hK o_taped o_tape v4 h
    · replace h := h.2 c8
      refine go_aload_n X dX7_feed_45 0 rfl rfl ?_
      refine go_get X fi_X7_feed_X7 0 rfl rfl 1 (by decide) fl_X7_feed_7 rfl dX7_feed_46 ?_
      refine go_aload_n X dX7_feed_49 0 rfl rfl ?_
      refine go_get X fi_X7_feed_X7 0 rfl rfl 2 (by decide) fl_X7_feed_56 rfl dX7_feed_50 ?_
      refine go_lload_n X dX7_feed_53 1 rfl rfl ?_
      refine go_bipush X (v := 8) dX7_feed_54 (by decide) ?_
      refine go_iload X dX7_feed_56 2 rfl ?_
      refine go_imul X dX7_feed_58 ?_
      refine go_lshr X dX7_feed_59 ?_
      refine go_l2i X dX7_feed_60 ?_
      refine go_sipush X (v := 255) dX7_feed_61 (by decide) ?_
      refine go_iand X dX7_feed_64 ?_
      obtain ⟨c9, h⟩ := h
      refine go_iast X [(a_o, .inr (10, [.int o_thrown, .ref a_o_tape, .int o_taped, .int o_samples, .ref a_o_sampleLong, .ref a_o_sampleByte, .ref a_o_idOf, .ref a_o_pieces, .ref a_o_pieceLong, .ref a_o_bytesOf, .ref a_o_dictionary, .ref a_o_covered, .ref a_o_taken, .int o_takenMany, .ref a_o_row, .int o_ahead, .int o_textLong, .ref a_o_cost, .ref a_o_leastD, .ref a_o_out, .int o_outMany, .int o_items, .int o_matches, .ref a_o_text, .int o_textMany])), (a_o_tape, .inl (cy 1, 200, .inl (upd o_tape o_taped.toNatClampNeg (((v2 >>> ((8 * v4).toInt64 &&& 63)).toInt32) &&& 255))))] 1 1 rfl rfl c9 rfl dX7_feed_65 ?_
      refine go_aload_n X dX7_feed_66 0 rfl rfl ?_
      refine go_dup X dX7_feed_67 rfl ?_
      refine go_get X fi_X7_feed_X7 0 rfl rfl 2 (by decide) fl_X7_feed_56 rfl dX7_feed_68 ?_
      refine go_iconst X (v := 1) dX7_feed_71 (by decide) ?_
      refine go_iadd X dX7_feed_72 ?_
      refine go_topi (fun y10 ey10 => ?_)
      replace h := h y10 ey10
      refine go_put X (ws' := [(a_o, .inr (10, [.int o_thrown, .ref a_o_tape, .int y10, .int o_samples, .ref a_o_sampleLong, .ref a_o_sampleByte, .ref a_o_idOf, .ref a_o_pieces, .ref a_o_pieceLong, .ref a_o_bytesOf, .ref a_o_dictionary, .ref a_o_covered, .ref a_o_taken, .int o_takenMany, .ref a_o_row, .int o_ahead, .int o_textLong, .ref a_o_cost, .ref a_o_leastD, .ref a_o_out, .int o_outMany, .int o_items, .int o_matches, .ref a_o_text, .int o_textMany])), (a_o_tape, .inl (cy 1, 200, .inl (upd o_tape o_taped.toNatClampNeg (((v2 >>> ((8 * v4).toInt64 &&& 63)).toInt32) &&& 255))))]) fi_X7_feed_X7 tyX7 tyX7_ok nmX7 0 rfl rfl 2 (by decide) fl_X7_feed_56 rfl (tyX7_ok 2 (by decide)) rfl rfl (Nat.le_of_ble_eq_true rfl) rfl dX7_feed_73 ?_
      obtain ⟨y11, ey11⟩ : ∃ z : Int32, z = v4 + (-1) := ⟨_, rfl⟩
      replace h := h y11 ey11
      refine go_iinc X (lv' := [(4, .int y11), (0, .ref a_o), (2, .long v2)]) y11 dX7_feed_76 2 rfl (by rw [ey11]; rfl) (by decide) rfl ?_
      refine go_goto X 40 dX7_feed_79 (by decide) ?_
      refine go_lv [1, 2, 0] rfl ?_
      exact ih y10 (upd o_tape o_taped.toNatClampNeg (((v2 >>> ((8 * v4).toInt64 &&& 63)).toInt32) &&& 255)) y11 h
set_option maxRecDepth 100000 in
set_option maxHeartbeats 4000000 in
theorem kX7_feed (l : Launch) (D : va_G) (cy : Nat → ClassId) (a_o : Nat) (a_o_tape : Nat) (a_o_sampleLong : Nat) (a_o_sampleByte : Nat) (a_o_idOf : Nat) (a_o_pieces : Nat) (a_o_pieceLong : Nat) (a_o_bytesOf : Nat) (a_o_dictionary : Nat) (a_o_covered : Nat) (a_o_taken : Nat) (a_o_row : Nat) (a_o_cost : Nat) (a_o_leastD : Nat) (a_o_out : Nat) (a_o_text : Nat) (o_thrown : Int32) (o_taped : Int32) (o_samples : Int32) (o_takenMany : Int32) (o_ahead : Int32) (o_textLong : Int32) (o_outMany : Int32) (o_items : Int32) (o_matches : Int32) (o_textMany : Int32) (o_tape : Nat → Int32) (p1 : Int32) (p2 : Int64) (post : Int32 → Int32 → Int32 → (Nat → Int32) → Prop) (h : wX7_feed o_taped o_tape p1 p2 post) : MetI l yX7_feed wsX7_feed rm_X7_feed D (tyL cy) [.ref a_o, .int p1, .long p2] [(a_o, .inr (10, [.int o_thrown, .ref a_o_tape, .int o_taped, .int o_samples, .ref a_o_sampleLong, .ref a_o_sampleByte, .ref a_o_idOf, .ref a_o_pieces, .ref a_o_pieceLong, .ref a_o_bytesOf, .ref a_o_dictionary, .ref a_o_covered, .ref a_o_taken, .int o_takenMany, .ref a_o_row, .int o_ahead, .int o_textLong, .ref a_o_cost, .ref a_o_leastD, .ref a_o_out, .int o_outMany, .int o_items, .int o_matches, .ref a_o_text, .int o_textMany])), (a_o_tape, .inl (cy 1, 200, .inl o_tape))] (fun u : Int32 × Int32 × (Nat → Int32) => [(a_o, .inr (10, [.int u.1, .ref a_o_tape, .int u.2.1, .int o_samples, .ref a_o_sampleLong, .ref a_o_sampleByte, .ref a_o_idOf, .ref a_o_pieces, .ref a_o_pieceLong, .ref a_o_bytesOf, .ref a_o_dictionary, .ref a_o_covered, .ref a_o_taken, .int o_takenMany, .ref a_o_row, .int o_ahead, .int o_textLong, .ref a_o_cost, .ref a_o_leastD, .ref a_o_out, .int o_outMany, .int o_items, .int o_matches, .ref a_o_text, .int o_textMany])), (a_o_tape, .inl (cy 1, 200, .inl u.2.2))]) (fun r => fun (u : Int32 × Int32 × (Nat → Int32)) => post r u.1 u.2.1 u.2.2) 0 0 := by
  refine metI_of (cc := cX7_feed) (maxL := 5) (lv := [(0, .ref a_o), (1, .int p1), (2, .long p2)]) (by decide) rfl (Nat.le_of_ble_eq_true rfl) rfl ?_
  intro p e s m below meth c Q A X hlk hR
  unfold wX7_feed at h
  refine go_aload_n X dX7_feed_0 0 rfl rfl ?_
  refine go_iconst X (v := 0) dX7_feed_1 (by decide) ?_
  refine go_put X (ws' := [(a_o, .inr (10, [.int 0, .ref a_o_tape, .int o_taped, .int o_samples, .ref a_o_sampleLong, .ref a_o_sampleByte, .ref a_o_idOf, .ref a_o_pieces, .ref a_o_pieceLong, .ref a_o_bytesOf, .ref a_o_dictionary, .ref a_o_covered, .ref a_o_taken, .int o_takenMany, .ref a_o_row, .int o_ahead, .int o_textLong, .ref a_o_cost, .ref a_o_leastD, .ref a_o_out, .int o_outMany, .int o_items, .int o_matches, .ref a_o_text, .int o_textMany])), (a_o_tape, .inl (cy 1, 200, .inl o_tape))]) fi_X7_feed_X7 tyX7 tyX7_ok nmX7 0 rfl rfl 0 (by decide) fl_X7_feed_60 rfl (tyX7_ok 0 (by decide)) rfl rfl (Nat.le_of_ble_eq_true rfl) rfl dX7_feed_2 ?_
  refine go_iload_n X dX7_feed_5 1 rfl rfl ?_
  refine go_i2l X dX7_feed_6 ?_
  refine go_lconst X (v := 1) dX7_feed_7 (by decide) ?_
  refine go_ldc2 X fw_X7_feed_c63 dX7_feed_8 ?_
  refine go_callSi X (kX7_in l D cy p1.toInt64 (1 : Int64) (8 : Int64) _ h) (va_cwS 3 X.2.2.2.2.1 gX7_feed_X7_in rfl rfl rfl cd_X7_in ⟨by decide, by decide⟩) (wr := [(a_o, .inr (10, [.int 0, .ref a_o_tape, .int o_taped, .int o_samples, .ref a_o_sampleLong, .ref a_o_sampleByte, .ref a_o_idOf, .ref a_o_pieces, .ref a_o_pieceLong, .ref a_o_bytesOf, .ref a_o_dictionary, .ref a_o_covered, .ref a_o_taken, .int o_takenMany, .ref a_o_row, .int o_ahead, .int o_textLong, .ref a_o_cost, .ref a_o_leastD, .ref a_o_out, .int o_outMany, .int o_items, .int o_matches, .ref a_o_text, .int o_textMany])), (a_o_tape, .inl (cy 1, 200, .inl o_tape))]) (ws2 := fun u => [(a_o, .inr (10, [.int 0, .ref a_o_tape, .int o_taped, .int o_samples, .ref a_o_sampleLong, .ref a_o_sampleByte, .ref a_o_idOf, .ref a_o_pieces, .ref a_o_pieceLong, .ref a_o_bytesOf, .ref a_o_dictionary, .ref a_o_covered, .ref a_o_taken, .int o_takenMany, .ref a_o_row, .int o_ahead, .int o_textLong, .ref a_o_cost, .ref a_o_leastD, .ref a_o_out, .int o_outMany, .int o_items, .int o_matches, .ref a_o_text, .int o_textMany])), (a_o_tape, .inl (cy 1, 200, .inl o_tape))]) (perm_idx [0, 1] rfl rfl) (fun u => perm_idx [0, 1] rfl rfl) rfl rfl (Nat.le_of_ble_eq_true rfl) dX7_feed_11 ⟨by decide, by decide⟩ (fun r1 u h => ?_)
  refine go_if_ne X 20 dX7_feed_14 (by decide) (fun c2 => ?_) (fun c2 => ?_)
  · replace h := h.1 c2
    refine go_aload_n X dX7_feed_20 0 rfl rfl ?_
    refine go_get X fi_X7_feed_X7 0 rfl rfl 2 (by decide) fl_X7_feed_56 rfl dX7_feed_21 ?_
    refine go_iload_n X dX7_feed_24 1 rfl rfl ?_
    refine go_iadd X dX7_feed_25 ?_
    refine go_sipush X (v := 200) dX7_feed_26 (by decide) ?_
    refine go_icmp_le X 35 dX7_feed_29 (by decide) (fun c3 => ?_) (fun c3 => ?_)
    · replace h := h.1 c3
      refine go_iload_n X dX7_feed_35 1 rfl rfl ?_
      refine go_iconst X (v := 1) dX7_feed_36 (by decide) ?_
      refine go_isub X dX7_feed_37 ?_
      refine go_topi (fun y4 ey4 => ?_)
      replace h := h y4 ey4
      refine go_istore X (lv' := [(4, .int y4), (0, .ref a_o), (1, .int p1), (2, .long p2)]) dX7_feed_38 (by decide) rfl ?_
      obtain ⟨n12, h⟩ := h
      refine go_lv [1, 3, 0] rfl ?_
      refine pX7_feed_40 l X a_o a_o_tape a_o_sampleLong a_o_sampleByte a_o_idOf a_o_pieces a_o_pieceLong a_o_bytesOf a_o_dictionary a_o_covered a_o_taken a_o_row a_o_cost a_o_leastD a_o_out a_o_text 0 o_samples o_takenMany o_ahead o_textLong o_outMany o_items o_matches o_textMany p2  _ (fun s5 s6 y7 h => ?_) n12 o_taped o_tape y4 h
      refine go_aload_n X dX7_feed_82 0 rfl rfl ?_
      refine go_get X fi_X7_feed_X7 0 rfl rfl 2 (by decide) fl_X7_feed_56 rfl dX7_feed_83 ?_
      exact hR s5 (0, s5, s6) 86 _ dX7_feed_86 rfl h
    · replace h := h.2 c3
      refine go_bipush X (v := (-103)) dX7_feed_32 (by decide) ?_
      exact hR (-103) (0, o_taped, o_tape) 34 _ dX7_feed_34 rfl h
  · replace h := h.2 c2
    refine go_bipush X (v := (-102)) dX7_feed_17 (by decide) ?_
    exact hR (-102) (0, o_taped, o_tape) 19 _ dX7_feed_19 rfl h
/-! X7_sample -/
theorem fi_X7_sample_X7 : ∀ w ∈ u_ws RX7 TX7 25, w ∈ wsX7_sample := by decide +kernel
theorem fl_X7_sample_60 : Cond.fieldLink RX7 60 (TX7 0).1 (TX7 0).2.1 (TX7 0).2.2.1 ∈ wsX7_sample := by decide +kernel
theorem fl_X7_sample_56 : Cond.fieldLink RX7 56 (TX7 2).1 (TX7 2).2.1 (TX7 2).2.2.1 ∈ wsX7_sample := by decide +kernel
theorem fw_X7_sample_c69 : Jvm.Cond.constantLong RX7 69 40 ∈ wsX7_sample := by decide +kernel
theorem fl_X7_sample_71 : Cond.fieldLink RX7 71 (TX7 3).1 (TX7 3).2.1 (TX7 3).2.2.1 ∈ wsX7_sample := by decide +kernel
theorem fl_X7_sample_16 : Cond.fieldLink RX7 16 (TX7 5).1 (TX7 5).2.1 (TX7 5).2.2.1 ∈ wsX7_sample := by decide +kernel
theorem fl_X7_sample_7 : Cond.fieldLink RX7 7 (TX7 1).1 (TX7 1).2.1 (TX7 1).2.2.1 ∈ wsX7_sample := by decide +kernel
theorem fl_X7_sample_13 : Cond.fieldLink RX7 13 (TX7 4).1 (TX7 4).2.1 (TX7 4).2.2.1 ∈ wsX7_sample := by decide +kernel
def rm_X7_sample : Room := { frames := 1, cells := 0, slots := 0, locals := 25 }
theorem cd_X7_sample : yX7_sample.cls = RX7 ∧ yX7_sample.cls ≠ "java/lang/invoke/MethodHandle" ∧ yX7_sample.cls ≠ "java/lang/invoke/VarHandle" ∧ (parseMethodDescriptor yX7_sample.desc).map (fun d => d.parameters.length) = some 0 := by decide +kernel
set_option maxRecDepth 100000 in
set_option maxHeartbeats 4000000 in
theorem pX7_sample_37 {p : Program} (l : Launch) {e : Env} {s : State} {m : MethodId} {args : Array Value} {below : List Frame} {meth : Method} {c : Code} {Q : State → Prop} {D : va_G} {cy : Nat → ClassId} {A : Nat → Prop} (X : Cx p s m args c cX7_sample 2 RX7 wsX7_sample D (tyL cy) A) (a_o : Nat) (a_o_tape : Nat) (a_o_sampleLong : Nat) (a_o_sampleByte : Nat) (a_o_idOf : Nat) (a_o_pieces : Nat) (a_o_pieceLong : Nat) (a_o_bytesOf : Nat) (a_o_dictionary : Nat) (a_o_covered : Nat) (a_o_taken : Nat) (a_o_row : Nat) (a_o_cost : Nat) (a_o_leastD : Nat) (a_o_out : Nat) (a_o_text : Nat) (o_thrown : Int32) (o_taped : Int32) (o_samples : Int32) (o_takenMany : Int32) (o_ahead : Int32) (o_textLong : Int32) (o_outMany : Int32) (o_items : Int32) (o_matches : Int32) (o_textMany : Int32) (o_tape : Nat → Int32) (o_sampleLong : Nat → Int32) (K : (Nat → Int32) → Int32 → Prop) (hK : ∀ (o_sampleByte : Nat → Int32) (v1 : Int32), K o_sampleByte v1 → Go p l e rm_X7_sample s m args below meth c Q 2 D A [(a_o, .inr (10, [.int o_thrown, .ref a_o_tape, .int o_taped, .int o_samples, .ref a_o_sampleLong, .ref a_o_sampleByte, .ref a_o_idOf, .ref a_o_pieces, .ref a_o_pieceLong, .ref a_o_bytesOf, .ref a_o_dictionary, .ref a_o_covered, .ref a_o_taken, .int o_takenMany, .ref a_o_row, .int o_ahead, .int o_textLong, .ref a_o_cost, .ref a_o_leastD, .ref a_o_out, .int o_outMany, .int o_items, .int o_matches, .ref a_o_text, .int o_textMany])), (a_o_tape, .inl (cy 1, 200, .inl o_tape)), (a_o_sampleLong, .inl (cy 1, 8, .inl o_sampleLong)), (a_o_sampleByte, .inl (cy 1, 320, .inl o_sampleByte))] 0 0 71 [(0, .ref a_o)] []) :
    ∀ (n : Nat) (o_sampleByte : Nat → Int32) (v1 : Int32), wX7_sample_37 o_taped o_samples o_tape K n o_sampleByte v1 → Go p l e rm_X7_sample s m args below meth c Q 2 D A [(a_o, .inr (10, [.int o_thrown, .ref a_o_tape, .int o_taped, .int o_samples, .ref a_o_sampleLong, .ref a_o_sampleByte, .ref a_o_idOf, .ref a_o_pieces, .ref a_o_pieceLong, .ref a_o_bytesOf, .ref a_o_dictionary, .ref a_o_covered, .ref a_o_taken, .int o_takenMany, .ref a_o_row, .int o_ahead, .int o_textLong, .ref a_o_cost, .ref a_o_leastD, .ref a_o_out, .int o_outMany, .int o_items, .int o_matches, .ref a_o_text, .int o_textMany])), (a_o_tape, .inl (cy 1, 200, .inl o_tape)), (a_o_sampleLong, .inl (cy 1, 8, .inl o_sampleLong)), (a_o_sampleByte, .inl (cy 1, 320, .inl o_sampleByte))] 0 0 37 [(0, .ref a_o), (1, .int v1)] [] := by
  intro n
  induction n with
  | zero => intro o_sampleByte v1 h; exact absurd h id
  | succ n ih =>
    intro o_sampleByte v1 h
    refine go_iload_n X dX7_sample_37 1 rfl rfl ?_
    refine go_aload_n X dX7_sample_38 0 rfl rfl ?_
    refine go_get X fi_X7_sample_X7 0 rfl rfl 2 (by decide) fl_X7_sample_56 rfl dX7_sample_39 ?_
    refine go_icmp_ge X 71 dX7_sample_42 (by decide) (fun c6 => ?_) (fun c6 => ?_)
    · replace h := h.1 c6
      refine go_lv [0] rfl ?_
      exact hK o_sampleByte v1 h
    · replace h := h.2 c6
      refine go_aload_n X dX7_sample_45 0 rfl rfl ?_
      refine go_get X fi_X7_sample_X7 0 rfl rfl 5 (by decide) fl_X7_sample_16 rfl dX7_sample_46 ?_
      refine go_bipush X (v := 40) dX7_sample_49 (by decide) ?_
      refine go_aload_n X dX7_sample_51 0 rfl rfl ?_
      refine go_get X fi_X7_sample_X7 0 rfl rfl 3 (by decide) fl_X7_sample_71 rfl dX7_sample_52 ?_
      refine go_imul X dX7_sample_55 ?_
      refine go_iload_n X dX7_sample_56 1 rfl rfl ?_
      refine go_iadd X dX7_sample_57 ?_
      refine go_aload_n X dX7_sample_58 0 rfl rfl ?_
      refine go_get X fi_X7_sample_X7 0 rfl rfl 1 (by decide) fl_X7_sample_7 rfl dX7_sample_59 ?_
      refine go_iload_n X dX7_sample_62 1 rfl rfl ?_
      obtain ⟨c7, h⟩ := h
      refine go_iald X 1 1 rfl rfl c7 dX7_sample_63 ?_
      obtain ⟨c8, h⟩ := h
      refine go_iast X [(a_o, .inr (10, [.int o_thrown, .ref a_o_tape, .int o_taped, .int o_samples, .ref a_o_sampleLong, .ref a_o_sampleByte, .ref a_o_idOf, .ref a_o_pieces, .ref a_o_pieceLong, .ref a_o_bytesOf, .ref a_o_dictionary, .ref a_o_covered, .ref a_o_taken, .int o_takenMany, .ref a_o_row, .int o_ahead, .int o_textLong, .ref a_o_cost, .ref a_o_leastD, .ref a_o_out, .int o_outMany, .int o_items, .int o_matches, .ref a_o_text, .int o_textMany])), (a_o_tape, .inl (cy 1, 200, .inl o_tape)), (a_o_sampleLong, .inl (cy 1, 8, .inl o_sampleLong)), (a_o_sampleByte, .inl (cy 1, 320, .inl (upd o_sampleByte ((40 * o_samples) + v1).toNatClampNeg (o_tape v1.toNatClampNeg))))] 3 1 rfl rfl c8 rfl dX7_sample_64 ?_
      obtain ⟨y9, ey9⟩ : ∃ z : Int32, z = v1 + 1 := ⟨_, rfl⟩
      replace h := h y9 ey9
      refine go_iinc X (lv' := [(1, .int y9), (0, .ref a_o)]) y9 dX7_sample_65 1 rfl (by rw [ey9]; rfl) (by decide) rfl ?_
      refine go_goto X 37 dX7_sample_68 (by decide) ?_
      refine go_lv [1, 0] rfl ?_
      exact ih (upd o_sampleByte ((40 * o_samples) + v1).toNatClampNeg (o_tape v1.toNatClampNeg)) y9 h
set_option maxRecDepth 100000 in
set_option maxHeartbeats 4000000 in
theorem kX7_sample (l : Launch) (D : va_G) (cy : Nat → ClassId) (a_o : Nat) (a_o_tape : Nat) (a_o_sampleLong : Nat) (a_o_sampleByte : Nat) (a_o_idOf : Nat) (a_o_pieces : Nat) (a_o_pieceLong : Nat) (a_o_bytesOf : Nat) (a_o_dictionary : Nat) (a_o_covered : Nat) (a_o_taken : Nat) (a_o_row : Nat) (a_o_cost : Nat) (a_o_leastD : Nat) (a_o_out : Nat) (a_o_text : Nat) (o_thrown : Int32) (o_taped : Int32) (o_samples : Int32) (o_takenMany : Int32) (o_ahead : Int32) (o_textLong : Int32) (o_outMany : Int32) (o_items : Int32) (o_matches : Int32) (o_textMany : Int32) (o_tape : Nat → Int32) (o_sampleLong : Nat → Int32) (o_sampleByte : Nat → Int32) (post : Int32 → Int32 → Int32 → Int32 → (Nat → Int32) → (Nat → Int32) → Prop) (h : wX7_sample o_taped o_samples o_tape o_sampleLong o_sampleByte post) : MetI l yX7_sample wsX7_sample rm_X7_sample D (tyL cy) [.ref a_o] [(a_o, .inr (10, [.int o_thrown, .ref a_o_tape, .int o_taped, .int o_samples, .ref a_o_sampleLong, .ref a_o_sampleByte, .ref a_o_idOf, .ref a_o_pieces, .ref a_o_pieceLong, .ref a_o_bytesOf, .ref a_o_dictionary, .ref a_o_covered, .ref a_o_taken, .int o_takenMany, .ref a_o_row, .int o_ahead, .int o_textLong, .ref a_o_cost, .ref a_o_leastD, .ref a_o_out, .int o_outMany, .int o_items, .int o_matches, .ref a_o_text, .int o_textMany])), (a_o_tape, .inl (cy 1, 200, .inl o_tape)), (a_o_sampleLong, .inl (cy 1, 8, .inl o_sampleLong)), (a_o_sampleByte, .inl (cy 1, 320, .inl o_sampleByte))] (fun u : Int32 × Int32 × Int32 × (Nat → Int32) × (Nat → Int32) => [(a_o, .inr (10, [.int u.1, .ref a_o_tape, .int u.2.1, .int u.2.2.1, .ref a_o_sampleLong, .ref a_o_sampleByte, .ref a_o_idOf, .ref a_o_pieces, .ref a_o_pieceLong, .ref a_o_bytesOf, .ref a_o_dictionary, .ref a_o_covered, .ref a_o_taken, .int o_takenMany, .ref a_o_row, .int o_ahead, .int o_textLong, .ref a_o_cost, .ref a_o_leastD, .ref a_o_out, .int o_outMany, .int o_items, .int o_matches, .ref a_o_text, .int o_textMany])), (a_o_tape, .inl (cy 1, 200, .inl o_tape)), (a_o_sampleLong, .inl (cy 1, 8, .inl u.2.2.2.1)), (a_o_sampleByte, .inl (cy 1, 320, .inl u.2.2.2.2))]) (fun r => fun (u : Int32 × Int32 × Int32 × (Nat → Int32) × (Nat → Int32)) => post r u.1 u.2.1 u.2.2.1 u.2.2.2.1 u.2.2.2.2) 0 0 := by
  refine metI_of (cc := cX7_sample) (maxL := 2) (lv := [(0, .ref a_o)]) (by decide) rfl (Nat.le_of_ble_eq_true rfl) rfl ?_
  intro p e s m below meth c Q A X hlk hR
  unfold wX7_sample at h
  refine go_aload_n X dX7_sample_0 0 rfl rfl ?_
  refine go_iconst X (v := 0) dX7_sample_1 (by decide) ?_
  refine go_put X (ws' := [(a_o, .inr (10, [.int 0, .ref a_o_tape, .int o_taped, .int o_samples, .ref a_o_sampleLong, .ref a_o_sampleByte, .ref a_o_idOf, .ref a_o_pieces, .ref a_o_pieceLong, .ref a_o_bytesOf, .ref a_o_dictionary, .ref a_o_covered, .ref a_o_taken, .int o_takenMany, .ref a_o_row, .int o_ahead, .int o_textLong, .ref a_o_cost, .ref a_o_leastD, .ref a_o_out, .int o_outMany, .int o_items, .int o_matches, .ref a_o_text, .int o_textMany])), (a_o_tape, .inl (cy 1, 200, .inl o_tape)), (a_o_sampleLong, .inl (cy 1, 8, .inl o_sampleLong)), (a_o_sampleByte, .inl (cy 1, 320, .inl o_sampleByte))]) fi_X7_sample_X7 tyX7 tyX7_ok nmX7 0 rfl rfl 0 (by decide) fl_X7_sample_60 rfl (tyX7_ok 0 (by decide)) rfl rfl (Nat.le_of_ble_eq_true rfl) rfl dX7_sample_2 ?_
  refine go_aload_n X dX7_sample_5 0 rfl rfl ?_
  refine go_get X fi_X7_sample_X7 0 rfl rfl 2 (by decide) fl_X7_sample_56 rfl dX7_sample_6 ?_
  refine go_i2l X dX7_sample_9 ?_
  refine go_lconst X (v := 1) dX7_sample_10 (by decide) ?_
  refine go_ldc2 X fw_X7_sample_c69 dX7_sample_11 ?_
  refine go_callSi X (kX7_in l D cy o_taped.toInt64 (1 : Int64) (40 : Int64) _ h) (va_cwS 3 X.2.2.2.2.1 gX7_sample_X7_in rfl rfl rfl cd_X7_in ⟨by decide, by decide⟩) (wr := [(a_o, .inr (10, [.int 0, .ref a_o_tape, .int o_taped, .int o_samples, .ref a_o_sampleLong, .ref a_o_sampleByte, .ref a_o_idOf, .ref a_o_pieces, .ref a_o_pieceLong, .ref a_o_bytesOf, .ref a_o_dictionary, .ref a_o_covered, .ref a_o_taken, .int o_takenMany, .ref a_o_row, .int o_ahead, .int o_textLong, .ref a_o_cost, .ref a_o_leastD, .ref a_o_out, .int o_outMany, .int o_items, .int o_matches, .ref a_o_text, .int o_textMany])), (a_o_tape, .inl (cy 1, 200, .inl o_tape)), (a_o_sampleLong, .inl (cy 1, 8, .inl o_sampleLong)), (a_o_sampleByte, .inl (cy 1, 320, .inl o_sampleByte))]) (ws2 := fun u => [(a_o, .inr (10, [.int 0, .ref a_o_tape, .int o_taped, .int o_samples, .ref a_o_sampleLong, .ref a_o_sampleByte, .ref a_o_idOf, .ref a_o_pieces, .ref a_o_pieceLong, .ref a_o_bytesOf, .ref a_o_dictionary, .ref a_o_covered, .ref a_o_taken, .int o_takenMany, .ref a_o_row, .int o_ahead, .int o_textLong, .ref a_o_cost, .ref a_o_leastD, .ref a_o_out, .int o_outMany, .int o_items, .int o_matches, .ref a_o_text, .int o_textMany])), (a_o_tape, .inl (cy 1, 200, .inl o_tape)), (a_o_sampleLong, .inl (cy 1, 8, .inl o_sampleLong)), (a_o_sampleByte, .inl (cy 1, 320, .inl o_sampleByte))]) (perm_idx [0, 1, 2, 3] rfl rfl) (fun u => perm_idx [0, 1, 2, 3] rfl rfl) rfl rfl (Nat.le_of_ble_eq_true rfl) dX7_sample_14 ⟨by decide, by decide⟩ (fun r1 u h => ?_)
  refine go_if_ne X 23 dX7_sample_17 (by decide) (fun c2 => ?_) (fun c2 => ?_)
  · replace h := h.1 c2
    refine go_aload_n X dX7_sample_23 0 rfl rfl ?_
    refine go_get X fi_X7_sample_X7 0 rfl rfl 3 (by decide) fl_X7_sample_71 rfl dX7_sample_24 ?_
    refine go_bipush X (v := 8) dX7_sample_27 (by decide) ?_
    refine go_icmp_ne X 35 dX7_sample_29 (by decide) (fun c3 => ?_) (fun c3 => ?_)
    · replace h := h.1 c3
      refine go_iconst X (v := 0) dX7_sample_35 (by decide) ?_
      refine go_istore_n X (lv' := [(1, .int 0), (0, .ref a_o)]) dX7_sample_36 rfl (by decide) rfl ?_
      obtain ⟨n12, h⟩ := h
      refine go_lv [1, 0] rfl ?_
      refine pX7_sample_37 l X a_o a_o_tape a_o_sampleLong a_o_sampleByte a_o_idOf a_o_pieces a_o_pieceLong a_o_bytesOf a_o_dictionary a_o_covered a_o_taken a_o_row a_o_cost a_o_leastD a_o_out a_o_text 0 o_taped o_samples o_takenMany o_ahead o_textLong o_outMany o_items o_matches o_textMany o_tape o_sampleLong  _ (fun s4 y5 h => ?_) n12 o_sampleByte (0 : Int32) h
      refine go_aload_n X dX7_sample_71 0 rfl rfl ?_
      refine go_get X fi_X7_sample_X7 0 rfl rfl 4 (by decide) fl_X7_sample_13 rfl dX7_sample_72 ?_
      refine go_aload_n X dX7_sample_75 0 rfl rfl ?_
      refine go_get X fi_X7_sample_X7 0 rfl rfl 3 (by decide) fl_X7_sample_71 rfl dX7_sample_76 ?_
      refine go_aload_n X dX7_sample_79 0 rfl rfl ?_
      refine go_get X fi_X7_sample_X7 0 rfl rfl 2 (by decide) fl_X7_sample_56 rfl dX7_sample_80 ?_
      obtain ⟨c10, h⟩ := h
      refine go_iast X [(a_o, .inr (10, [.int 0, .ref a_o_tape, .int o_taped, .int o_samples, .ref a_o_sampleLong, .ref a_o_sampleByte, .ref a_o_idOf, .ref a_o_pieces, .ref a_o_pieceLong, .ref a_o_bytesOf, .ref a_o_dictionary, .ref a_o_covered, .ref a_o_taken, .int o_takenMany, .ref a_o_row, .int o_ahead, .int o_textLong, .ref a_o_cost, .ref a_o_leastD, .ref a_o_out, .int o_outMany, .int o_items, .int o_matches, .ref a_o_text, .int o_textMany])), (a_o_tape, .inl (cy 1, 200, .inl o_tape)), (a_o_sampleLong, .inl (cy 1, 8, .inl (upd o_sampleLong o_samples.toNatClampNeg o_taped))), (a_o_sampleByte, .inl (cy 1, 320, .inl s4))] 2 1 rfl rfl c10 rfl dX7_sample_83 ?_
      refine go_aload_n X dX7_sample_84 0 rfl rfl ?_
      refine go_iconst X (v := 0) dX7_sample_85 (by decide) ?_
      refine go_put X (ws' := [(a_o, .inr (10, [.int 0, .ref a_o_tape, .int 0, .int o_samples, .ref a_o_sampleLong, .ref a_o_sampleByte, .ref a_o_idOf, .ref a_o_pieces, .ref a_o_pieceLong, .ref a_o_bytesOf, .ref a_o_dictionary, .ref a_o_covered, .ref a_o_taken, .int o_takenMany, .ref a_o_row, .int o_ahead, .int o_textLong, .ref a_o_cost, .ref a_o_leastD, .ref a_o_out, .int o_outMany, .int o_items, .int o_matches, .ref a_o_text, .int o_textMany])), (a_o_tape, .inl (cy 1, 200, .inl o_tape)), (a_o_sampleLong, .inl (cy 1, 8, .inl (upd o_sampleLong o_samples.toNatClampNeg o_taped))), (a_o_sampleByte, .inl (cy 1, 320, .inl s4))]) fi_X7_sample_X7 tyX7 tyX7_ok nmX7 0 rfl rfl 2 (by decide) fl_X7_sample_56 rfl (tyX7_ok 2 (by decide)) rfl rfl (Nat.le_of_ble_eq_true rfl) rfl dX7_sample_86 ?_
      refine go_aload_n X dX7_sample_89 0 rfl rfl ?_
      refine go_dup X dX7_sample_90 rfl ?_
      refine go_get X fi_X7_sample_X7 0 rfl rfl 3 (by decide) fl_X7_sample_71 rfl dX7_sample_91 ?_
      refine go_iconst X (v := 1) dX7_sample_94 (by decide) ?_
      refine go_iadd X dX7_sample_95 ?_
      refine go_topi (fun y11 ey11 => ?_)
      replace h := h y11 ey11
      refine go_put X (ws' := [(a_o, .inr (10, [.int 0, .ref a_o_tape, .int 0, .int y11, .ref a_o_sampleLong, .ref a_o_sampleByte, .ref a_o_idOf, .ref a_o_pieces, .ref a_o_pieceLong, .ref a_o_bytesOf, .ref a_o_dictionary, .ref a_o_covered, .ref a_o_taken, .int o_takenMany, .ref a_o_row, .int o_ahead, .int o_textLong, .ref a_o_cost, .ref a_o_leastD, .ref a_o_out, .int o_outMany, .int o_items, .int o_matches, .ref a_o_text, .int o_textMany])), (a_o_tape, .inl (cy 1, 200, .inl o_tape)), (a_o_sampleLong, .inl (cy 1, 8, .inl (upd o_sampleLong o_samples.toNatClampNeg o_taped))), (a_o_sampleByte, .inl (cy 1, 320, .inl s4))]) fi_X7_sample_X7 tyX7 tyX7_ok nmX7 0 rfl rfl 3 (by decide) fl_X7_sample_71 rfl (tyX7_ok 3 (by decide)) rfl rfl (Nat.le_of_ble_eq_true rfl) rfl dX7_sample_96 ?_
      refine go_aload_n X dX7_sample_99 0 rfl rfl ?_
      refine go_get X fi_X7_sample_X7 0 rfl rfl 3 (by decide) fl_X7_sample_71 rfl dX7_sample_100 ?_
      refine go_iconst X (v := 1) dX7_sample_103 (by decide) ?_
      refine go_isub X dX7_sample_104 ?_
      exact hR (y11 - 1) (0, 0, y11, (upd o_sampleLong o_samples.toNatClampNeg o_taped), s4) 105 _ dX7_sample_105 rfl h
    · replace h := h.2 c3
      refine go_bipush X (v := (-103)) dX7_sample_32 (by decide) ?_
      exact hR (-103) (0, o_taped, o_samples, o_sampleLong, o_sampleByte) 34 _ dX7_sample_34 rfl h
  · replace h := h.2 c2
    refine go_bipush X (v := (-102)) dX7_sample_20 (by decide) ?_
    exact hR (-102) (0, o_taped, o_samples, o_sampleLong, o_sampleByte) 22 _ dX7_sample_22 rfl h
/-! X7_forget -/
theorem fi_X7_forget_X7 : ∀ w ∈ u_ws RX7 TX7 25, w ∈ wsX7_forget := by decide +kernel
theorem fl_X7_forget_60 : Cond.fieldLink RX7 60 (TX7 0).1 (TX7 0).2.1 (TX7 0).2.2.1 ∈ wsX7_forget := by decide +kernel
theorem fl_X7_forget_71 : Cond.fieldLink RX7 71 (TX7 3).1 (TX7 3).2.1 (TX7 3).2.2.1 ∈ wsX7_forget := by decide +kernel
def rm_X7_forget : Room := { frames := 0, cells := 0, slots := 0, locals := 0 }
theorem cd_X7_forget : yX7_forget.cls = RX7 ∧ yX7_forget.cls ≠ "java/lang/invoke/MethodHandle" ∧ yX7_forget.cls ≠ "java/lang/invoke/VarHandle" ∧ (parseMethodDescriptor yX7_forget.desc).map (fun d => d.parameters.length) = some 0 := by decide +kernel
set_option maxRecDepth 100000 in
set_option maxHeartbeats 4000000 in
theorem kX7_forget (l : Launch) (D : va_G) (cy : Nat → ClassId) (a_o : Nat) (a_o_tape : Nat) (a_o_sampleLong : Nat) (a_o_sampleByte : Nat) (a_o_idOf : Nat) (a_o_pieces : Nat) (a_o_pieceLong : Nat) (a_o_bytesOf : Nat) (a_o_dictionary : Nat) (a_o_covered : Nat) (a_o_taken : Nat) (a_o_row : Nat) (a_o_cost : Nat) (a_o_leastD : Nat) (a_o_out : Nat) (a_o_text : Nat) (o_thrown : Int32) (o_taped : Int32) (o_samples : Int32) (o_takenMany : Int32) (o_ahead : Int32) (o_textLong : Int32) (o_outMany : Int32) (o_items : Int32) (o_matches : Int32) (o_textMany : Int32) (post : Int32 → Int32 → Int32 → Prop) (h : wX7_forget o_samples post) : MetI l yX7_forget wsX7_forget rm_X7_forget D (tyL cy) [.ref a_o] [(a_o, .inr (10, [.int o_thrown, .ref a_o_tape, .int o_taped, .int o_samples, .ref a_o_sampleLong, .ref a_o_sampleByte, .ref a_o_idOf, .ref a_o_pieces, .ref a_o_pieceLong, .ref a_o_bytesOf, .ref a_o_dictionary, .ref a_o_covered, .ref a_o_taken, .int o_takenMany, .ref a_o_row, .int o_ahead, .int o_textLong, .ref a_o_cost, .ref a_o_leastD, .ref a_o_out, .int o_outMany, .int o_items, .int o_matches, .ref a_o_text, .int o_textMany]))] (fun u : Int32 × Int32 => [(a_o, .inr (10, [.int u.1, .ref a_o_tape, .int o_taped, .int u.2, .ref a_o_sampleLong, .ref a_o_sampleByte, .ref a_o_idOf, .ref a_o_pieces, .ref a_o_pieceLong, .ref a_o_bytesOf, .ref a_o_dictionary, .ref a_o_covered, .ref a_o_taken, .int o_takenMany, .ref a_o_row, .int o_ahead, .int o_textLong, .ref a_o_cost, .ref a_o_leastD, .ref a_o_out, .int o_outMany, .int o_items, .int o_matches, .ref a_o_text, .int o_textMany]))]) (fun r => fun (u : Int32 × Int32) => post r u.1 u.2) 0 0 := by
  refine metI_of (cc := cX7_forget) (maxL := 2) (lv := [(0, .ref a_o)]) (by decide) rfl (Nat.le_of_ble_eq_true rfl) rfl ?_
  intro p e s m below meth c Q A X hlk hR
  unfold wX7_forget at h
  refine go_aload_n X dX7_forget_0 0 rfl rfl ?_
  refine go_iconst X (v := 0) dX7_forget_1 (by decide) ?_
  refine go_put X (ws' := [(a_o, .inr (10, [.int 0, .ref a_o_tape, .int o_taped, .int o_samples, .ref a_o_sampleLong, .ref a_o_sampleByte, .ref a_o_idOf, .ref a_o_pieces, .ref a_o_pieceLong, .ref a_o_bytesOf, .ref a_o_dictionary, .ref a_o_covered, .ref a_o_taken, .int o_takenMany, .ref a_o_row, .int o_ahead, .int o_textLong, .ref a_o_cost, .ref a_o_leastD, .ref a_o_out, .int o_outMany, .int o_items, .int o_matches, .ref a_o_text, .int o_textMany]))]) fi_X7_forget_X7 tyX7 tyX7_ok nmX7 0 rfl rfl 0 (by decide) fl_X7_forget_60 rfl (tyX7_ok 0 (by decide)) rfl rfl (Nat.le_of_ble_eq_true rfl) rfl dX7_forget_2 ?_
  refine go_aload_n X dX7_forget_5 0 rfl rfl ?_
  refine go_get X fi_X7_forget_X7 0 rfl rfl 3 (by decide) fl_X7_forget_71 rfl dX7_forget_6 ?_
  refine go_istore_n X (lv' := [(1, .int o_samples), (0, .ref a_o)]) dX7_forget_9 rfl (by decide) rfl ?_
  refine go_aload_n X dX7_forget_10 1 rfl rfl ?_
  refine go_iconst X (v := 0) dX7_forget_11 (by decide) ?_
  refine go_put X (ws' := [(a_o, .inr (10, [.int 0, .ref a_o_tape, .int o_taped, .int 0, .ref a_o_sampleLong, .ref a_o_sampleByte, .ref a_o_idOf, .ref a_o_pieces, .ref a_o_pieceLong, .ref a_o_bytesOf, .ref a_o_dictionary, .ref a_o_covered, .ref a_o_taken, .int o_takenMany, .ref a_o_row, .int o_ahead, .int o_textLong, .ref a_o_cost, .ref a_o_leastD, .ref a_o_out, .int o_outMany, .int o_items, .int o_matches, .ref a_o_text, .int o_textMany]))]) fi_X7_forget_X7 tyX7 tyX7_ok nmX7 0 rfl rfl 3 (by decide) fl_X7_forget_71 rfl (tyX7_ok 3 (by decide)) rfl rfl (Nat.le_of_ble_eq_true rfl) rfl dX7_forget_12 ?_
  refine go_iload_n X dX7_forget_15 0 rfl rfl ?_
  exact hR o_samples (0, 0) 16 _ dX7_forget_16 rfl h
/-! X7_isOpen -/
theorem fi_X7_isOpen_X7 : ∀ w ∈ u_ws RX7 TX7 25, w ∈ wsX7_isOpen := by decide +kernel
theorem fl_X7_isOpen_13 : Cond.fieldLink RX7 13 (TX7 4).1 (TX7 4).2.1 (TX7 4).2.2.1 ∈ wsX7_isOpen := by decide +kernel
theorem fl_X7_isOpen_34 : Cond.fieldLink RX7 34 (TX7 11).1 (TX7 11).2.1 (TX7 11).2.2.1 ∈ wsX7_isOpen := by decide +kernel
def rm_X7_isOpen : Room := { frames := 0, cells := 0, slots := 0, locals := 0 }
theorem cd_X7_isOpen : yX7_isOpen.cls = RX7 ∧ yX7_isOpen.cls ≠ "java/lang/invoke/MethodHandle" ∧ yX7_isOpen.cls ≠ "java/lang/invoke/VarHandle" ∧ (parseMethodDescriptor yX7_isOpen.desc).map (fun d => d.parameters.length) = some 3 := by decide +kernel
set_option maxRecDepth 100000 in
set_option maxHeartbeats 4000000 in
theorem pX7_isOpen_22 {p : Program} (l : Launch) {e : Env} {s : State} {m : MethodId} {args : Array Value} {below : List Frame} {meth : Method} {c : Code} {Q : State → Prop} {D : va_G} {cy : Nat → ClassId} {A : Nat → Prop} (X : Cx p s m args c cX7_isOpen 6 RX7 wsX7_isOpen D (tyL cy) A) (a_o : Nat) (a_o_tape : Nat) (a_o_sampleLong : Nat) (a_o_sampleByte : Nat) (a_o_idOf : Nat) (a_o_pieces : Nat) (a_o_pieceLong : Nat) (a_o_bytesOf : Nat) (a_o_dictionary : Nat) (a_o_covered : Nat) (a_o_taken : Nat) (a_o_row : Nat) (a_o_cost : Nat) (a_o_leastD : Nat) (a_o_out : Nat) (a_o_text : Nat) (o_thrown : Int32) (o_taped : Int32) (o_samples : Int32) (o_takenMany : Int32) (o_ahead : Int32) (o_textLong : Int32) (o_outMany : Int32) (o_items : Int32) (o_matches : Int32) (o_textMany : Int32) (o_sampleLong : Nat → Int32) (o_covered : Nat → Int32) (v1 : Int32) (v2 : Int32) (v3 : Int32) (K : Int32 → Int32 → Prop) (hK : ∀ (v4 : Int32) (v5 : Int32), K v4 v5 → Go p l e rm_X7_isOpen s m args below meth c Q 6 D A [(a_o, .inr (10, [.int o_thrown, .ref a_o_tape, .int o_taped, .int o_samples, .ref a_o_sampleLong, .ref a_o_sampleByte, .ref a_o_idOf, .ref a_o_pieces, .ref a_o_pieceLong, .ref a_o_bytesOf, .ref a_o_dictionary, .ref a_o_covered, .ref a_o_taken, .int o_takenMany, .ref a_o_row, .int o_ahead, .int o_textLong, .ref a_o_cost, .ref a_o_leastD, .ref a_o_out, .int o_outMany, .int o_items, .int o_matches, .ref a_o_text, .int o_textMany])), (a_o_sampleLong, .inl (cy 1, 8, .inl o_sampleLong)), (a_o_covered, .inl (cy 2, 320, .inl o_covered))] 0 0 63 [(4, .int v4)] []) :
    ∀ (n : Nat) (v4 : Int32) (v5 : Int32), wX7_isOpen_22 o_covered v1 v2 v3 K n v4 v5 → Go p l e rm_X7_isOpen s m args below meth c Q 6 D A [(a_o, .inr (10, [.int o_thrown, .ref a_o_tape, .int o_taped, .int o_samples, .ref a_o_sampleLong, .ref a_o_sampleByte, .ref a_o_idOf, .ref a_o_pieces, .ref a_o_pieceLong, .ref a_o_bytesOf, .ref a_o_dictionary, .ref a_o_covered, .ref a_o_taken, .int o_takenMany, .ref a_o_row, .int o_ahead, .int o_textLong, .ref a_o_cost, .ref a_o_leastD, .ref a_o_out, .int o_outMany, .int o_items, .int o_matches, .ref a_o_text, .int o_textMany])), (a_o_sampleLong, .inl (cy 1, 8, .inl o_sampleLong)), (a_o_covered, .inl (cy 2, 320, .inl o_covered))] 0 0 22 [(0, .ref a_o), (1, .int v1), (2, .int v2), (3, .int v3), (4, .int v4), (5, .int v5)] [] := by
  intro n
  induction n with
  | zero => intro v4 v5 h; exact absurd h id
  | succ n ih =>
    intro v4 v5 h
    refine go_iload X dX7_isOpen_22 5 rfl ?_
    refine go_iload_n X dX7_isOpen_24 3 rfl rfl ?_
    refine go_icmp_ge X 63 dX7_isOpen_25 (by decide) (fun c5 => ?_) (fun c5 => ?_)
    · replace h := h.1 c5
      refine go_lv [4] rfl ?_
      exact hK v4 v5 h
    · replace h := h.2 c5
      refine go_iload X dX7_isOpen_28 4 rfl ?_
      refine go_if_eq X 63 dX7_isOpen_30 (by decide) (fun c6 => ?_) (fun c6 => ?_)
      · replace h := h.1 c6
        refine go_lv [4] rfl ?_
        exact hK v4 v5 h
      · replace h := h.2 c6
        refine go_aload_n X dX7_isOpen_33 0 rfl rfl ?_
        refine go_get X fi_X7_isOpen_X7 0 rfl rfl 11 (by decide) fl_X7_isOpen_34 rfl dX7_isOpen_34 ?_
        refine go_bipush X (v := 40) dX7_isOpen_37 (by decide) ?_
        refine go_iload_n X dX7_isOpen_39 1 rfl rfl ?_
        refine go_imul X dX7_isOpen_40 ?_
        refine go_iload_n X dX7_isOpen_41 2 rfl rfl ?_
        refine go_iadd X dX7_isOpen_42 ?_
        refine go_iload X dX7_isOpen_43 5 rfl ?_
        refine go_iadd X dX7_isOpen_45 ?_
        obtain ⟨c7, h⟩ := h
        refine go_zald X 2 2 rfl rfl c7 dX7_isOpen_46 ?_
        refine go_if_ne X 54 dX7_isOpen_47 (by decide) (fun c8 => ?_) (fun c8 => ?_)
        · replace h := h.1 c8
          refine go_iconst X (v := 0) dX7_isOpen_54 (by decide) ?_
          refine go_istore X (lv' := [(4, .int 0), (0, .ref a_o), (1, .int v1), (2, .int v2), (3, .int v3), (5, .int v5)]) dX7_isOpen_55 (by decide) rfl ?_
          obtain ⟨y9, ey9⟩ : ∃ z : Int32, z = v5 + 1 := ⟨_, rfl⟩
          replace h := h y9 ey9
          refine go_iinc X (lv' := [(5, .int y9), (4, .int 0), (0, .ref a_o), (1, .int v1), (2, .int v2), (3, .int v3)]) y9 dX7_isOpen_57 5 rfl (by rw [ey9]; rfl) (by decide) rfl ?_
          refine go_goto X 22 dX7_isOpen_60 (by decide) ?_
          refine go_lv [2, 3, 4, 5, 1, 0] rfl ?_
          exact ih 0 y9 h
        · replace h := h.2 c8
          refine go_iconst X (v := 1) dX7_isOpen_50 (by decide) ?_
          refine go_goto X 55 dX7_isOpen_51 (by decide) ?_
          refine go_istore X (lv' := [(4, .int 1), (0, .ref a_o), (1, .int v1), (2, .int v2), (3, .int v3), (5, .int v5)]) dX7_isOpen_55 (by decide) rfl ?_
          obtain ⟨y10, ey10⟩ : ∃ z : Int32, z = v5 + 1 := ⟨_, rfl⟩
          replace h := h y10 ey10
          refine go_iinc X (lv' := [(5, .int y10), (4, .int 1), (0, .ref a_o), (1, .int v1), (2, .int v2), (3, .int v3)]) y10 dX7_isOpen_57 5 rfl (by rw [ey10]; rfl) (by decide) rfl ?_
          refine go_goto X 22 dX7_isOpen_60 (by decide) ?_
          refine go_lv [2, 3, 4, 5, 1, 0] rfl ?_
          exact ih 1 y10 h
set_option maxRecDepth 100000 in
set_option maxHeartbeats 4000000 in
theorem kX7_isOpen (l : Launch) (D : va_G) (cy : Nat → ClassId) (a_o : Nat) (a_o_tape : Nat) (a_o_sampleLong : Nat) (a_o_sampleByte : Nat) (a_o_idOf : Nat) (a_o_pieces : Nat) (a_o_pieceLong : Nat) (a_o_bytesOf : Nat) (a_o_dictionary : Nat) (a_o_covered : Nat) (a_o_taken : Nat) (a_o_row : Nat) (a_o_cost : Nat) (a_o_leastD : Nat) (a_o_out : Nat) (a_o_text : Nat) (o_thrown : Int32) (o_taped : Int32) (o_samples : Int32) (o_takenMany : Int32) (o_ahead : Int32) (o_textLong : Int32) (o_outMany : Int32) (o_items : Int32) (o_matches : Int32) (o_textMany : Int32) (o_sampleLong : Nat → Int32) (o_covered : Nat → Int32) (p1 : Int32) (p2 : Int32) (p3 : Int32) (post : Int32 → Prop) (h : wX7_isOpen o_sampleLong o_covered p1 p2 p3 post) : MetI l yX7_isOpen wsX7_isOpen rm_X7_isOpen D (tyL cy) [.ref a_o, .int p1, .int p2, .int p3] [(a_o, .inr (10, [.int o_thrown, .ref a_o_tape, .int o_taped, .int o_samples, .ref a_o_sampleLong, .ref a_o_sampleByte, .ref a_o_idOf, .ref a_o_pieces, .ref a_o_pieceLong, .ref a_o_bytesOf, .ref a_o_dictionary, .ref a_o_covered, .ref a_o_taken, .int o_takenMany, .ref a_o_row, .int o_ahead, .int o_textLong, .ref a_o_cost, .ref a_o_leastD, .ref a_o_out, .int o_outMany, .int o_items, .int o_matches, .ref a_o_text, .int o_textMany])), (a_o_sampleLong, .inl (cy 1, 8, .inl o_sampleLong)), (a_o_covered, .inl (cy 2, 320, .inl o_covered))] (fun u : Unit => [(a_o, .inr (10, [.int o_thrown, .ref a_o_tape, .int o_taped, .int o_samples, .ref a_o_sampleLong, .ref a_o_sampleByte, .ref a_o_idOf, .ref a_o_pieces, .ref a_o_pieceLong, .ref a_o_bytesOf, .ref a_o_dictionary, .ref a_o_covered, .ref a_o_taken, .int o_takenMany, .ref a_o_row, .int o_ahead, .int o_textLong, .ref a_o_cost, .ref a_o_leastD, .ref a_o_out, .int o_outMany, .int o_items, .int o_matches, .ref a_o_text, .int o_textMany])), (a_o_sampleLong, .inl (cy 1, 8, .inl o_sampleLong)), (a_o_covered, .inl (cy 2, 320, .inl o_covered))]) (fun r => fun (u : Unit) => post r ) 0 0 := by
  refine metI_of (cc := cX7_isOpen) (maxL := 6) (lv := [(0, .ref a_o), (1, .int p1), (2, .int p2), (3, .int p3)]) (by decide) rfl (Nat.le_of_ble_eq_true rfl) rfl ?_
  intro p e s m below meth c Q A X hlk hR
  unfold wX7_isOpen at h
  refine go_iload_n X dX7_isOpen_0 2 rfl rfl ?_
  refine go_iload_n X dX7_isOpen_1 3 rfl rfl ?_
  refine go_iadd X dX7_isOpen_2 ?_
  refine go_aload_n X dX7_isOpen_3 0 rfl rfl ?_
  refine go_get X fi_X7_isOpen_X7 0 rfl rfl 4 (by decide) fl_X7_isOpen_13 rfl dX7_isOpen_4 ?_
  refine go_iload_n X dX7_isOpen_7 1 rfl rfl ?_
  obtain ⟨c1, h⟩ := h
  refine go_iald X 1 1 rfl rfl c1 dX7_isOpen_8 ?_
  refine go_icmp_gt X 16 dX7_isOpen_9 (by decide) (fun c2 => ?_) (fun c2 => ?_)
  · replace h := h.1 c2
    refine go_iconst X (v := 0) dX7_isOpen_16 (by decide) ?_
    refine go_istore X (lv' := [(4, .int 0), (0, .ref a_o), (1, .int p1), (2, .int p2), (3, .int p3)]) dX7_isOpen_17 (by decide) rfl ?_
    refine go_iconst X (v := 0) dX7_isOpen_19 (by decide) ?_
    refine go_istore X (lv' := [(5, .int 0), (4, .int 0), (0, .ref a_o), (1, .int p1), (2, .int p2), (3, .int p3)]) dX7_isOpen_20 (by decide) rfl ?_
    obtain ⟨n11, h⟩ := h
    refine go_lv [2, 3, 4, 5, 1, 0] rfl ?_
    refine pX7_isOpen_22 l X a_o a_o_tape a_o_sampleLong a_o_sampleByte a_o_idOf a_o_pieces a_o_pieceLong a_o_bytesOf a_o_dictionary a_o_covered a_o_taken a_o_row a_o_cost a_o_leastD a_o_out a_o_text o_thrown o_taped o_samples o_takenMany o_ahead o_textLong o_outMany o_items o_matches o_textMany o_sampleLong o_covered p1 p2 p3  _ (fun y3 y4 h => ?_) n11 (0 : Int32) (0 : Int32) h
    refine go_iload X dX7_isOpen_63 0 rfl ?_
    exact hR y3 () 65 _ dX7_isOpen_65 h.1 h.2
  · replace h := h.2 c2
    refine go_iconst X (v := 1) dX7_isOpen_12 (by decide) ?_
    refine go_goto X 17 dX7_isOpen_13 (by decide) ?_
    refine go_istore X (lv' := [(4, .int 1), (0, .ref a_o), (1, .int p1), (2, .int p2), (3, .int p3)]) dX7_isOpen_17 (by decide) rfl ?_
    refine go_iconst X (v := 0) dX7_isOpen_19 (by decide) ?_
    refine go_istore X (lv' := [(5, .int 0), (4, .int 1), (0, .ref a_o), (1, .int p1), (2, .int p2), (3, .int p3)]) dX7_isOpen_20 (by decide) rfl ?_
    obtain ⟨n14, h⟩ := h
    refine go_lv [2, 3, 4, 5, 1, 0] rfl ?_
    refine pX7_isOpen_22 l X a_o a_o_tape a_o_sampleLong a_o_sampleByte a_o_idOf a_o_pieces a_o_pieceLong a_o_bytesOf a_o_dictionary a_o_covered a_o_taken a_o_row a_o_cost a_o_leastD a_o_out a_o_text o_thrown o_taped o_samples o_takenMany o_ahead o_textLong o_outMany o_items o_matches o_textMany o_sampleLong o_covered p1 p2 p3  _ (fun y12 y13 h => ?_) n14 (1 : Int32) (0 : Int32) h
    refine go_iload X dX7_isOpen_63 0 rfl ?_
    exact hR y12 () 65 _ dX7_isOpen_65 h.1 h.2
/-! X7_areAlike -/
theorem fi_X7_areAlike_X7 : ∀ w ∈ u_ws RX7 TX7 25, w ∈ wsX7_areAlike := by decide +kernel
theorem fl_X7_areAlike_16 : Cond.fieldLink RX7 16 (TX7 5).1 (TX7 5).2.1 (TX7 5).2.2.1 ∈ wsX7_areAlike := by decide +kernel
def rm_X7_areAlike : Room := { frames := 0, cells := 0, slots := 0, locals := 0 }
theorem cd_X7_areAlike : yX7_areAlike.cls = RX7 ∧ yX7_areAlike.cls ≠ "java/lang/invoke/MethodHandle" ∧ yX7_areAlike.cls ≠ "java/lang/invoke/VarHandle" ∧ (parseMethodDescriptor yX7_areAlike.desc).map (fun d => d.parameters.length) = some 3 := by decide +kernel
set_option maxRecDepth 100000 in
set_option maxHeartbeats 4000000 in
theorem pX7_areAlike_6 {p : Program} (l : Launch) {e : Env} {s : State} {m : MethodId} {args : Array Value} {below : List Frame} {meth : Method} {c : Code} {Q : State → Prop} {D : va_G} {cy : Nat → ClassId} {A : Nat → Prop} (X : Cx p s m args c cX7_areAlike 6 RX7 wsX7_areAlike D (tyL cy) A) (a_o : Nat) (a_o_tape : Nat) (a_o_sampleLong : Nat) (a_o_sampleByte : Nat) (a_o_idOf : Nat) (a_o_pieces : Nat) (a_o_pieceLong : Nat) (a_o_bytesOf : Nat) (a_o_dictionary : Nat) (a_o_covered : Nat) (a_o_taken : Nat) (a_o_row : Nat) (a_o_cost : Nat) (a_o_leastD : Nat) (a_o_out : Nat) (a_o_text : Nat) (o_thrown : Int32) (o_taped : Int32) (o_samples : Int32) (o_takenMany : Int32) (o_ahead : Int32) (o_textLong : Int32) (o_outMany : Int32) (o_items : Int32) (o_matches : Int32) (o_textMany : Int32) (o_sampleByte : Nat → Int32) (v1 : Int32) (v2 : Int32) (v3 : Int32) (K : Int32 → Int32 → Prop) (hK : ∀ (v4 : Int32) (v5 : Int32), K v4 v5 → Go p l e rm_X7_areAlike s m args below meth c Q 6 D A [(a_o, .inr (10, [.int o_thrown, .ref a_o_tape, .int o_taped, .int o_samples, .ref a_o_sampleLong, .ref a_o_sampleByte, .ref a_o_idOf, .ref a_o_pieces, .ref a_o_pieceLong, .ref a_o_bytesOf, .ref a_o_dictionary, .ref a_o_covered, .ref a_o_taken, .int o_takenMany, .ref a_o_row, .int o_ahead, .int o_textLong, .ref a_o_cost, .ref a_o_leastD, .ref a_o_out, .int o_outMany, .int o_items, .int o_matches, .ref a_o_text, .int o_textMany])), (a_o_sampleByte, .inl (cy 1, 320, .inl o_sampleByte))] 0 0 51 [(4, .int v4)] []) :
    ∀ (n : Nat) (v4 : Int32) (v5 : Int32), wX7_areAlike_6 o_sampleByte v1 v2 v3 K n v4 v5 → Go p l e rm_X7_areAlike s m args below meth c Q 6 D A [(a_o, .inr (10, [.int o_thrown, .ref a_o_tape, .int o_taped, .int o_samples, .ref a_o_sampleLong, .ref a_o_sampleByte, .ref a_o_idOf, .ref a_o_pieces, .ref a_o_pieceLong, .ref a_o_bytesOf, .ref a_o_dictionary, .ref a_o_covered, .ref a_o_taken, .int o_takenMany, .ref a_o_row, .int o_ahead, .int o_textLong, .ref a_o_cost, .ref a_o_leastD, .ref a_o_out, .int o_outMany, .int o_items, .int o_matches, .ref a_o_text, .int o_textMany])), (a_o_sampleByte, .inl (cy 1, 320, .inl o_sampleByte))] 0 0 6 [(0, .ref a_o), (1, .int v1), (2, .int v2), (3, .int v3), (4, .int v4), (5, .int v5)] [] := by
  intro n
  induction n with
  | zero => intro v4 v5 h; exact absurd h id
  | succ n ih =>
    intro v4 v5 h
    refine go_iload X dX7_areAlike_6 5 rfl ?_
    refine go_iload_n X dX7_areAlike_8 3 rfl rfl ?_
    refine go_icmp_ge X 51 dX7_areAlike_9 (by decide) (fun c3 => ?_) (fun c3 => ?_)
    · replace h := h.1 c3
      refine go_lv [4] rfl ?_
      exact hK v4 v5 h
    · replace h := h.2 c3
      refine go_iload X dX7_areAlike_12 4 rfl ?_
      refine go_if_eq X 51 dX7_areAlike_14 (by decide) (fun c4 => ?_) (fun c4 => ?_)
      · replace h := h.1 c4
        refine go_lv [4] rfl ?_
        exact hK v4 v5 h
      · replace h := h.2 c4
        refine go_aload_n X dX7_areAlike_17 0 rfl rfl ?_
        refine go_get X fi_X7_areAlike_X7 0 rfl rfl 5 (by decide) fl_X7_areAlike_16 rfl dX7_areAlike_18 ?_
        refine go_iload_n X dX7_areAlike_21 1 rfl rfl ?_
        refine go_iload X dX7_areAlike_22 5 rfl ?_
        refine go_iadd X dX7_areAlike_24 ?_
        obtain ⟨c5, h⟩ := h
        refine go_iald X 1 1 rfl rfl c5 dX7_areAlike_25 ?_
        refine go_aload_n X dX7_areAlike_26 0 rfl rfl ?_
        refine go_get X fi_X7_areAlike_X7 0 rfl rfl 5 (by decide) fl_X7_areAlike_16 rfl dX7_areAlike_27 ?_
        refine go_iload_n X dX7_areAlike_30 2 rfl rfl ?_
        refine go_iload X dX7_areAlike_31 5 rfl ?_
        refine go_iadd X dX7_areAlike_33 ?_
        obtain ⟨c6, h⟩ := h
        refine go_iald X 1 1 rfl rfl c6 dX7_areAlike_34 ?_
        refine go_icmp_ne X 42 dX7_areAlike_35 (by decide) (fun c7 => ?_) (fun c7 => ?_)
        · replace h := h.1 c7
          refine go_iconst X (v := 0) dX7_areAlike_42 (by decide) ?_
          refine go_istore X (lv' := [(4, .int 0), (0, .ref a_o), (1, .int v1), (2, .int v2), (3, .int v3), (5, .int v5)]) dX7_areAlike_43 (by decide) rfl ?_
          obtain ⟨y8, ey8⟩ : ∃ z : Int32, z = v5 + 1 := ⟨_, rfl⟩
          replace h := h y8 ey8
          refine go_iinc X (lv' := [(5, .int y8), (4, .int 0), (0, .ref a_o), (1, .int v1), (2, .int v2), (3, .int v3)]) y8 dX7_areAlike_45 5 rfl (by rw [ey8]; rfl) (by decide) rfl ?_
          refine go_goto X 6 dX7_areAlike_48 (by decide) ?_
          refine go_lv [2, 3, 4, 5, 1, 0] rfl ?_
          exact ih 0 y8 h
        · replace h := h.2 c7
          refine go_iconst X (v := 1) dX7_areAlike_38 (by decide) ?_
          refine go_goto X 43 dX7_areAlike_39 (by decide) ?_
          refine go_istore X (lv' := [(4, .int 1), (0, .ref a_o), (1, .int v1), (2, .int v2), (3, .int v3), (5, .int v5)]) dX7_areAlike_43 (by decide) rfl ?_
          obtain ⟨y9, ey9⟩ : ∃ z : Int32, z = v5 + 1 := ⟨_, rfl⟩
          replace h := h y9 ey9
          refine go_iinc X (lv' := [(5, .int y9), (4, .int 1), (0, .ref a_o), (1, .int v1), (2, .int v2), (3, .int v3)]) y9 dX7_areAlike_45 5 rfl (by rw [ey9]; rfl) (by decide) rfl ?_
          refine go_goto X 6 dX7_areAlike_48 (by decide) ?_
          refine go_lv [2, 3, 4, 5, 1, 0] rfl ?_
          exact ih 1 y9 h
set_option maxRecDepth 100000 in
set_option maxHeartbeats 4000000 in
theorem kX7_areAlike (l : Launch) (D : va_G) (cy : Nat → ClassId) (a_o : Nat) (a_o_tape : Nat) (a_o_sampleLong : Nat) (a_o_sampleByte : Nat) (a_o_idOf : Nat) (a_o_pieces : Nat) (a_o_pieceLong : Nat) (a_o_bytesOf : Nat) (a_o_dictionary : Nat) (a_o_covered : Nat) (a_o_taken : Nat) (a_o_row : Nat) (a_o_cost : Nat) (a_o_leastD : Nat) (a_o_out : Nat) (a_o_text : Nat) (o_thrown : Int32) (o_taped : Int32) (o_samples : Int32) (o_takenMany : Int32) (o_ahead : Int32) (o_textLong : Int32) (o_outMany : Int32) (o_items : Int32) (o_matches : Int32) (o_textMany : Int32) (o_sampleByte : Nat → Int32) (p1 : Int32) (p2 : Int32) (p3 : Int32) (post : Int32 → Prop) (h : wX7_areAlike o_sampleByte p1 p2 p3 post) : MetI l yX7_areAlike wsX7_areAlike rm_X7_areAlike D (tyL cy) [.ref a_o, .int p1, .int p2, .int p3] [(a_o, .inr (10, [.int o_thrown, .ref a_o_tape, .int o_taped, .int o_samples, .ref a_o_sampleLong, .ref a_o_sampleByte, .ref a_o_idOf, .ref a_o_pieces, .ref a_o_pieceLong, .ref a_o_bytesOf, .ref a_o_dictionary, .ref a_o_covered, .ref a_o_taken, .int o_takenMany, .ref a_o_row, .int o_ahead, .int o_textLong, .ref a_o_cost, .ref a_o_leastD, .ref a_o_out, .int o_outMany, .int o_items, .int o_matches, .ref a_o_text, .int o_textMany])), (a_o_sampleByte, .inl (cy 1, 320, .inl o_sampleByte))] (fun u : Unit => [(a_o, .inr (10, [.int o_thrown, .ref a_o_tape, .int o_taped, .int o_samples, .ref a_o_sampleLong, .ref a_o_sampleByte, .ref a_o_idOf, .ref a_o_pieces, .ref a_o_pieceLong, .ref a_o_bytesOf, .ref a_o_dictionary, .ref a_o_covered, .ref a_o_taken, .int o_takenMany, .ref a_o_row, .int o_ahead, .int o_textLong, .ref a_o_cost, .ref a_o_leastD, .ref a_o_out, .int o_outMany, .int o_items, .int o_matches, .ref a_o_text, .int o_textMany])), (a_o_sampleByte, .inl (cy 1, 320, .inl o_sampleByte))]) (fun r => fun (u : Unit) => post r ) 0 0 := by
  refine metI_of (cc := cX7_areAlike) (maxL := 6) (lv := [(0, .ref a_o), (1, .int p1), (2, .int p2), (3, .int p3)]) (by decide) rfl (Nat.le_of_ble_eq_true rfl) rfl ?_
  intro p e s m below meth c Q A X hlk hR
  unfold wX7_areAlike at h
  refine go_iconst X (v := 1) dX7_areAlike_0 (by decide) ?_
  refine go_istore X (lv' := [(4, .int 1), (0, .ref a_o), (1, .int p1), (2, .int p2), (3, .int p3)]) dX7_areAlike_1 (by decide) rfl ?_
  refine go_iconst X (v := 0) dX7_areAlike_3 (by decide) ?_
  refine go_istore X (lv' := [(5, .int 0), (4, .int 1), (0, .ref a_o), (1, .int p1), (2, .int p2), (3, .int p3)]) dX7_areAlike_4 (by decide) rfl ?_
  obtain ⟨n10, h⟩ := h
  refine go_lv [2, 3, 4, 5, 1, 0] rfl ?_
  refine pX7_areAlike_6 l X a_o a_o_tape a_o_sampleLong a_o_sampleByte a_o_idOf a_o_pieces a_o_pieceLong a_o_bytesOf a_o_dictionary a_o_covered a_o_taken a_o_row a_o_cost a_o_leastD a_o_out a_o_text o_thrown o_taped o_samples o_takenMany o_ahead o_textLong o_outMany o_items o_matches o_textMany o_sampleByte p1 p2 p3  _ (fun y1 y2 h => ?_) n10 (1 : Int32) (0 : Int32) h
  refine go_iload X dX7_areAlike_51 0 rfl ?_
  exact hR y1 () 53 _ dX7_areAlike_53 h.1 h.2
/-! X7_counted -/
theorem fi_X7_counted_X7 : ∀ w ∈ u_ws RX7 TX7 25, w ∈ wsX7_counted := by decide +kernel
theorem fl_X7_counted_71 : Cond.fieldLink RX7 71 (TX7 3).1 (TX7 3).2.1 (TX7 3).2.2.1 ∈ wsX7_counted := by decide +kernel
theorem fl_X7_counted_13 : Cond.fieldLink RX7 13 (TX7 4).1 (TX7 4).2.1 (TX7 4).2.2.1 ∈ wsX7_counted := by decide +kernel
theorem fl_X7_counted_34 : Cond.fieldLink RX7 34 (TX7 11).1 (TX7 11).2.1 (TX7 11).2.2.1 ∈ wsX7_counted := by decide +kernel
def rm_X7_counted : Room := { frames := 1, cells := 0, slots := 0, locals := 25 }
theorem cd_X7_counted : yX7_counted.cls = RX7 ∧ yX7_counted.cls ≠ "java/lang/invoke/MethodHandle" ∧ yX7_counted.cls ≠ "java/lang/invoke/VarHandle" ∧ (parseMethodDescriptor yX7_counted.desc).map (fun d => d.parameters.length) = some 3 := by decide +kernel
set_option maxRecDepth 100000 in
set_option maxHeartbeats 4000000 in
theorem pX7_counted_67 {p : Program} (l : Launch) {e : Env} {s : State} {m : MethodId} {args : Array Value} {below : List Frame} {meth : Method} {c : Code} {Q : State → Prop} {D : va_G} {cy : Nat → ClassId} {A : Nat → Prop} (X : Cx p s m args c cX7_counted 8 RX7 wsX7_counted D (tyL cy) A) (a_o : Nat) (a_o_tape : Nat) (a_o_sampleLong : Nat) (a_o_sampleByte : Nat) (a_o_idOf : Nat) (a_o_pieces : Nat) (a_o_pieceLong : Nat) (a_o_bytesOf : Nat) (a_o_dictionary : Nat) (a_o_covered : Nat) (a_o_taken : Nat) (a_o_row : Nat) (a_o_cost : Nat) (a_o_leastD : Nat) (a_o_out : Nat) (a_o_text : Nat) (o_thrown : Int32) (o_taped : Int32) (o_samples : Int32) (o_takenMany : Int32) (o_ahead : Int32) (o_textLong : Int32) (o_outMany : Int32) (o_items : Int32) (o_matches : Int32) (o_textMany : Int32) (o_sampleLong : Nat → Int32) (o_sampleByte : Nat → Int32) (v1 : Int32) (v2 : Int32) (v3 : Int32) (v4 : Int32) (v5 : Int32) (v6 : Int32) (K : (Nat → Int32) → Int32 → Prop) (hK : ∀ (o_covered : Nat → Int32) (v7 : Int32), K o_covered v7 → Go p l e rm_X7_counted s m args below meth c Q 8 D A [(a_o, .inr (10, [.int o_thrown, .ref a_o_tape, .int o_taped, .int o_samples, .ref a_o_sampleLong, .ref a_o_sampleByte, .ref a_o_idOf, .ref a_o_pieces, .ref a_o_pieceLong, .ref a_o_bytesOf, .ref a_o_dictionary, .ref a_o_covered, .ref a_o_taken, .int o_takenMany, .ref a_o_row, .int o_ahead, .int o_textLong, .ref a_o_cost, .ref a_o_leastD, .ref a_o_out, .int o_outMany, .int o_items, .int o_matches, .ref a_o_text, .int o_textMany])), (a_o_sampleLong, .inl (cy 1, 8, .inl o_sampleLong)), (a_o_sampleByte, .inl (cy 1, 320, .inl o_sampleByte)), (a_o_covered, .inl (cy 2, 320, .inl o_covered))] 0 0 100 [(0, .ref a_o), (1, .int v1), (2, .int v2), (3, .int v3), (4, .int v4), (5, .int v5), (6, .int v6)] []) :
    ∀ (n : Nat) (o_covered : Nat → Int32) (v7 : Int32), wX7_counted_67 v2 v3 v5 v6 K n o_covered v7 → Go p l e rm_X7_counted s m args below meth c Q 8 D A [(a_o, .inr (10, [.int o_thrown, .ref a_o_tape, .int o_taped, .int o_samples, .ref a_o_sampleLong, .ref a_o_sampleByte, .ref a_o_idOf, .ref a_o_pieces, .ref a_o_pieceLong, .ref a_o_bytesOf, .ref a_o_dictionary, .ref a_o_covered, .ref a_o_taken, .int o_takenMany, .ref a_o_row, .int o_ahead, .int o_textLong, .ref a_o_cost, .ref a_o_leastD, .ref a_o_out, .int o_outMany, .int o_items, .int o_matches, .ref a_o_text, .int o_textMany])), (a_o_sampleLong, .inl (cy 1, 8, .inl o_sampleLong)), (a_o_sampleByte, .inl (cy 1, 320, .inl o_sampleByte)), (a_o_covered, .inl (cy 2, 320, .inl o_covered))] 0 0 67 [(0, .ref a_o), (1, .int v1), (2, .int v2), (3, .int v3), (4, .int v4), (5, .int v5), (6, .int v6), (7, .int v7)] [] := by
  intro n
  induction n with
  | zero => intro o_covered v7 h; exact absurd h id
  | succ n ih =>
    intro o_covered v7 h
    refine go_iload X dX7_counted_67 7 rfl ?_
    refine go_iload_n X dX7_counted_69 2 rfl rfl ?_
    refine go_icmp_ge X 100 dX7_counted_70 (by decide) (fun c19 => ?_) (fun c19 => ?_)
    · replace h := h.1 c19
      refine go_lv [0, 1, 2, 3, 4, 5, 6] rfl ?_
      exact hK o_covered v7 h
    · replace h := h.2 c19
      refine go_iload_n X dX7_counted_73 3 rfl rfl ?_
      refine go_if_eq X 100 dX7_counted_74 (by decide) (fun c20 => ?_) (fun c20 => ?_)
      · replace h := h.1 c20
        refine go_lv [0, 1, 2, 3, 4, 5, 6] rfl ?_
        exact hK o_covered v7 h
      · replace h := h.2 c20
        refine go_aload_n X dX7_counted_77 0 rfl rfl ?_
        refine go_get X fi_X7_counted_X7 0 rfl rfl 11 (by decide) fl_X7_counted_34 rfl dX7_counted_78 ?_
        refine go_bipush X (v := 40) dX7_counted_81 (by decide) ?_
        refine go_iload X dX7_counted_83 5 rfl ?_
        refine go_imul X dX7_counted_85 ?_
        refine go_iload X dX7_counted_86 6 rfl ?_
        refine go_iadd X dX7_counted_88 ?_
        refine go_iload X dX7_counted_89 7 rfl ?_
        refine go_iadd X dX7_counted_91 ?_
        refine go_iconst X (v := 1) dX7_counted_92 (by decide) ?_
        obtain ⟨c21, h⟩ := h
        refine go_zast X [(a_o, .inr (10, [.int o_thrown, .ref a_o_tape, .int o_taped, .int o_samples, .ref a_o_sampleLong, .ref a_o_sampleByte, .ref a_o_idOf, .ref a_o_pieces, .ref a_o_pieceLong, .ref a_o_bytesOf, .ref a_o_dictionary, .ref a_o_covered, .ref a_o_taken, .int o_takenMany, .ref a_o_row, .int o_ahead, .int o_textLong, .ref a_o_cost, .ref a_o_leastD, .ref a_o_out, .int o_outMany, .int o_items, .int o_matches, .ref a_o_text, .int o_textMany])), (a_o_sampleLong, .inl (cy 1, 8, .inl o_sampleLong)), (a_o_sampleByte, .inl (cy 1, 320, .inl o_sampleByte)), (a_o_covered, .inl (cy 2, 320, .inl (upd o_covered (((40 * v5) + v6) + v7).toNatClampNeg (vp_nar .boolean 1))))] 3 2 rfl rfl c21 rfl dX7_counted_93 ?_
        obtain ⟨y22, ey22⟩ : ∃ z : Int32, z = v7 + 1 := ⟨_, rfl⟩
        replace h := h y22 ey22
        refine go_iinc X (lv' := [(7, .int y22), (0, .ref a_o), (1, .int v1), (2, .int v2), (3, .int v3), (4, .int v4), (5, .int v5), (6, .int v6)]) y22 dX7_counted_94 7 rfl (by rw [ey22]; rfl) (by decide) rfl ?_
        refine go_goto X 67 dX7_counted_97 (by decide) ?_
        refine go_lv [1, 2, 3, 4, 5, 6, 7, 0] rfl ?_
        exact ih (upd o_covered (((40 * v5) + v6) + v7).toNatClampNeg (vp_nar .boolean 1)) y22 h
set_option maxRecDepth 100000 in
set_option maxHeartbeats 4000000 in
theorem pX7_counted_18 {p : Program} (l : Launch) {e : Env} {s : State} {m : MethodId} {args : Array Value} {below : List Frame} {meth : Method} {c : Code} {Q : State → Prop} {D : va_G} {cy : Nat → ClassId} {A : Nat → Prop} (X : Cx p s m args c cX7_counted 8 RX7 wsX7_counted D (tyL cy) A) (a_o : Nat) (a_o_tape : Nat) (a_o_sampleLong : Nat) (a_o_sampleByte : Nat) (a_o_idOf : Nat) (a_o_pieces : Nat) (a_o_pieceLong : Nat) (a_o_bytesOf : Nat) (a_o_dictionary : Nat) (a_o_covered : Nat) (a_o_taken : Nat) (a_o_row : Nat) (a_o_cost : Nat) (a_o_leastD : Nat) (a_o_out : Nat) (a_o_text : Nat) (o_thrown : Int32) (o_taped : Int32) (o_samples : Int32) (o_takenMany : Int32) (o_ahead : Int32) (o_textLong : Int32) (o_outMany : Int32) (o_items : Int32) (o_matches : Int32) (o_textMany : Int32) (o_sampleLong : Nat → Int32) (o_sampleByte : Nat → Int32) (v1 : Int32) (v2 : Int32) (v3 : Int32) (v5 : Int32) (K : (Nat → Int32) → Int32 → Int32 → Prop) (hK : ∀ (o_covered : Nat → Int32) (v4 : Int32) (v6 : Int32), K o_covered v4 v6 → Go p l e rm_X7_counted s m args below meth c Q 8 D A [(a_o, .inr (10, [.int o_thrown, .ref a_o_tape, .int o_taped, .int o_samples, .ref a_o_sampleLong, .ref a_o_sampleByte, .ref a_o_idOf, .ref a_o_pieces, .ref a_o_pieceLong, .ref a_o_bytesOf, .ref a_o_dictionary, .ref a_o_covered, .ref a_o_taken, .int o_takenMany, .ref a_o_row, .int o_ahead, .int o_textLong, .ref a_o_cost, .ref a_o_leastD, .ref a_o_out, .int o_outMany, .int o_items, .int o_matches, .ref a_o_text, .int o_textMany])), (a_o_sampleLong, .inl (cy 1, 8, .inl o_sampleLong)), (a_o_sampleByte, .inl (cy 1, 320, .inl o_sampleByte)), (a_o_covered, .inl (cy 2, 320, .inl o_covered))] 0 0 115 [(0, .ref a_o), (1, .int v1), (2, .int v2), (3, .int v3), (4, .int v4), (5, .int v5)] []) :
    ∀ (n : Nat) (o_covered : Nat → Int32) (v4 : Int32) (v6 : Int32), wX7_counted_18 o_sampleLong o_sampleByte v1 v2 v3 v5 K n o_covered v4 v6 → Go p l e rm_X7_counted s m args below meth c Q 8 D A [(a_o, .inr (10, [.int o_thrown, .ref a_o_tape, .int o_taped, .int o_samples, .ref a_o_sampleLong, .ref a_o_sampleByte, .ref a_o_idOf, .ref a_o_pieces, .ref a_o_pieceLong, .ref a_o_bytesOf, .ref a_o_dictionary, .ref a_o_covered, .ref a_o_taken, .int o_takenMany, .ref a_o_row, .int o_ahead, .int o_textLong, .ref a_o_cost, .ref a_o_leastD, .ref a_o_out, .int o_outMany, .int o_items, .int o_matches, .ref a_o_text, .int o_textMany])), (a_o_sampleLong, .inl (cy 1, 8, .inl o_sampleLong)), (a_o_sampleByte, .inl (cy 1, 320, .inl o_sampleByte)), (a_o_covered, .inl (cy 2, 320, .inl o_covered))] 0 0 18 [(0, .ref a_o), (1, .int v1), (2, .int v2), (3, .int v3), (4, .int v4), (5, .int v5), (6, .int v6)] [] := by
  intro n
  induction n with
  | zero => intro o_covered v4 v6 h; exact absurd h id
  | succ n ih =>
    intro o_covered v4 v6 h
    refine go_iload X dX7_counted_18 6 rfl ?_
    refine go_iload_n X dX7_counted_20 2 rfl rfl ?_
    refine go_iadd X dX7_counted_21 ?_
    refine go_aload_n X dX7_counted_22 0 rfl rfl ?_
    refine go_get X fi_X7_counted_X7 0 rfl rfl 4 (by decide) fl_X7_counted_13 rfl dX7_counted_23 ?_
    refine go_iload X dX7_counted_26 5 rfl ?_
    obtain ⟨c8, h⟩ := h
    refine go_iald X 1 1 rfl rfl c8 dX7_counted_28 ?_
    refine go_icmp_gt X 115 dX7_counted_29 (by decide) (fun c9 => ?_) (fun c9 => ?_)
    · replace h := h.1 c9
      refine go_lv [0, 1, 2, 3, 4, 5] rfl ?_
      exact hK o_covered v4 v6 h
    · replace h := h.2 c9
      refine go_aload_n X dX7_counted_32 0 rfl rfl ?_
      refine go_iload_n X dX7_counted_33 1 rfl rfl ?_
      refine go_bipush X (v := 40) dX7_counted_34 (by decide) ?_
      refine go_iload X dX7_counted_36 5 rfl ?_
      refine go_imul X dX7_counted_38 ?_
      refine go_iload X dX7_counted_39 6 rfl ?_
      refine go_iadd X dX7_counted_41 ?_
      refine go_iload_n X dX7_counted_42 2 rfl rfl ?_
      refine go_callVi X (kX7_areAlike l D cy a_o a_o_tape a_o_sampleLong a_o_sampleByte a_o_idOf a_o_pieces a_o_pieceLong a_o_bytesOf a_o_dictionary a_o_covered a_o_taken a_o_row a_o_cost a_o_leastD a_o_out a_o_text o_thrown o_taped o_samples o_takenMany o_ahead o_textLong o_outMany o_items o_matches o_textMany o_sampleByte v1 ((40 * v5) + v6) v2 _ h) (cwV 3 X.2.2.2.2.1 gX7_counted_X7_areAlike rfl rfl rfl cd_X7_areAlike ⟨by decide, by decide⟩) (wr := [(a_o_sampleLong, .inl (cy 1, 8, .inl o_sampleLong)), (a_o_covered, .inl (cy 2, 320, .inl o_covered))]) (ws2 := fun u => [(a_o, .inr (10, [.int o_thrown, .ref a_o_tape, .int o_taped, .int o_samples, .ref a_o_sampleLong, .ref a_o_sampleByte, .ref a_o_idOf, .ref a_o_pieces, .ref a_o_pieceLong, .ref a_o_bytesOf, .ref a_o_dictionary, .ref a_o_covered, .ref a_o_taken, .int o_takenMany, .ref a_o_row, .int o_ahead, .int o_textLong, .ref a_o_cost, .ref a_o_leastD, .ref a_o_out, .int o_outMany, .int o_items, .int o_matches, .ref a_o_text, .int o_textMany])), (a_o_sampleLong, .inl (cy 1, 8, .inl o_sampleLong)), (a_o_sampleByte, .inl (cy 1, 320, .inl o_sampleByte)), (a_o_covered, .inl (cy 2, 320, .inl o_covered))]) (perm_idx [0, 2, 1, 3] rfl rfl) (fun u => perm_idx [0, 2, 1, 3] rfl rfl) rfl rfl rfl rfl (Nat.le_of_ble_eq_true rfl) dX7_counted_43 ⟨by decide, by decide⟩ (fun r10 u h => ?_)
      refine go_if_eq X 109 dX7_counted_46 (by decide) (fun c11 => ?_) (fun c11 => ?_)
      · replace h := h.1 c11
        obtain ⟨y12, ey12⟩ : ∃ z : Int32, z = v6 + 1 := ⟨_, rfl⟩
        replace h := h y12 ey12
        refine go_iinc X (lv' := [(6, .int y12), (0, .ref a_o), (1, .int v1), (2, .int v2), (3, .int v3), (4, .int v4), (5, .int v5)]) y12 dX7_counted_109 6 rfl (by rw [ey12]; rfl) (by decide) rfl ?_
        refine go_goto X 18 dX7_counted_112 (by decide) ?_
        refine go_lv [1, 2, 3, 4, 5, 6, 0] rfl ?_
        exact ih o_covered v4 y12 h
      · replace h := h.2 c11
        refine go_aload_n X dX7_counted_49 0 rfl rfl ?_
        refine go_iload X dX7_counted_50 5 rfl ?_
        refine go_iload X dX7_counted_52 6 rfl ?_
        refine go_iload_n X dX7_counted_54 2 rfl rfl ?_
        refine go_callVi X (kX7_isOpen l D cy a_o a_o_tape a_o_sampleLong a_o_sampleByte a_o_idOf a_o_pieces a_o_pieceLong a_o_bytesOf a_o_dictionary a_o_covered a_o_taken a_o_row a_o_cost a_o_leastD a_o_out a_o_text o_thrown o_taped o_samples o_takenMany o_ahead o_textLong o_outMany o_items o_matches o_textMany o_sampleLong o_covered v5 v6 v2 _ h) (cwV 3 X.2.2.2.2.1 gX7_counted_X7_isOpen rfl rfl rfl cd_X7_isOpen ⟨by decide, by decide⟩) (wr := [(a_o_sampleByte, .inl (cy 1, 320, .inl o_sampleByte))]) (ws2 := fun u => [(a_o, .inr (10, [.int o_thrown, .ref a_o_tape, .int o_taped, .int o_samples, .ref a_o_sampleLong, .ref a_o_sampleByte, .ref a_o_idOf, .ref a_o_pieces, .ref a_o_pieceLong, .ref a_o_bytesOf, .ref a_o_dictionary, .ref a_o_covered, .ref a_o_taken, .int o_takenMany, .ref a_o_row, .int o_ahead, .int o_textLong, .ref a_o_cost, .ref a_o_leastD, .ref a_o_out, .int o_outMany, .int o_items, .int o_matches, .ref a_o_text, .int o_textMany])), (a_o_sampleLong, .inl (cy 1, 8, .inl o_sampleLong)), (a_o_sampleByte, .inl (cy 1, 320, .inl o_sampleByte)), (a_o_covered, .inl (cy 2, 320, .inl o_covered))]) (perm_idx [0, 1, 3, 2] rfl rfl) (fun u => perm_idx [0, 1, 3, 2] rfl rfl) rfl rfl rfl rfl (Nat.le_of_ble_eq_true rfl) dX7_counted_55 ⟨by decide, by decide⟩ (fun r13 u h => ?_)
        refine go_if_eq X 109 dX7_counted_58 (by decide) (fun c14 => ?_) (fun c14 => ?_)
        · replace h := h.1 c14
          obtain ⟨y15, ey15⟩ : ∃ z : Int32, z = v6 + 1 := ⟨_, rfl⟩
          replace h := h y15 ey15
          refine go_iinc X (lv' := [(6, .int y15), (0, .ref a_o), (1, .int v1), (2, .int v2), (3, .int v3), (4, .int v4), (5, .int v5)]) y15 dX7_counted_109 6 rfl (by rw [ey15]; rfl) (by decide) rfl ?_
          refine go_goto X 18 dX7_counted_112 (by decide) ?_
          refine go_lv [1, 2, 3, 4, 5, 6, 0] rfl ?_
          exact ih o_covered v4 y15 h
        · replace h := h.2 c14
          obtain ⟨y16, ey16⟩ : ∃ z : Int32, z = v4 + 1 := ⟨_, rfl⟩
          replace h := h y16 ey16
          refine go_iinc X (lv' := [(4, .int y16), (0, .ref a_o), (1, .int v1), (2, .int v2), (3, .int v3), (5, .int v5), (6, .int v6)]) y16 dX7_counted_61 4 rfl (by rw [ey16]; rfl) (by decide) rfl ?_
          refine go_iconst X (v := 0) dX7_counted_64 (by decide) ?_
          refine go_istore X (lv' := [(7, .int 0), (4, .int y16), (0, .ref a_o), (1, .int v1), (2, .int v2), (3, .int v3), (5, .int v5), (6, .int v6)]) dX7_counted_65 (by decide) rfl ?_
          obtain ⟨n24, h⟩ := h
          refine go_lv [2, 3, 4, 5, 1, 6, 7, 0] rfl ?_
          refine pX7_counted_67 l X a_o a_o_tape a_o_sampleLong a_o_sampleByte a_o_idOf a_o_pieces a_o_pieceLong a_o_bytesOf a_o_dictionary a_o_covered a_o_taken a_o_row a_o_cost a_o_leastD a_o_out a_o_text o_thrown o_taped o_samples o_takenMany o_ahead o_textLong o_outMany o_items o_matches o_textMany o_sampleLong o_sampleByte v1 v2 v3 y16 v5 v6  _ (fun s17 y18 h => ?_) n24 o_covered (0 : Int32) h
          refine go_iload X dX7_counted_100 6 rfl ?_
          refine go_iload_n X dX7_counted_102 2 rfl rfl ?_
          refine go_iadd X dX7_counted_103 ?_
          refine go_topi (fun y23 ey23 => ?_)
          replace h := h y23 ey23
          refine go_istore X (lv' := [(6, .int y23), (0, .ref a_o), (1, .int v1), (2, .int v2), (3, .int v3), (4, .int y16), (5, .int v5)]) dX7_counted_104 (by decide) rfl ?_
          refine go_goto X 18 dX7_counted_106 (by decide) ?_
          refine go_lv [1, 2, 3, 4, 5, 6, 0] rfl ?_
          exact ih s17 y16 y23 h
set_option maxRecDepth 100000 in
set_option maxHeartbeats 4000000 in
theorem pX7_counted_6 {p : Program} (l : Launch) {e : Env} {s : State} {m : MethodId} {args : Array Value} {below : List Frame} {meth : Method} {c : Code} {Q : State → Prop} {D : va_G} {cy : Nat → ClassId} {A : Nat → Prop} (X : Cx p s m args c cX7_counted 8 RX7 wsX7_counted D (tyL cy) A) (a_o : Nat) (a_o_tape : Nat) (a_o_sampleLong : Nat) (a_o_sampleByte : Nat) (a_o_idOf : Nat) (a_o_pieces : Nat) (a_o_pieceLong : Nat) (a_o_bytesOf : Nat) (a_o_dictionary : Nat) (a_o_covered : Nat) (a_o_taken : Nat) (a_o_row : Nat) (a_o_cost : Nat) (a_o_leastD : Nat) (a_o_out : Nat) (a_o_text : Nat) (o_thrown : Int32) (o_taped : Int32) (o_samples : Int32) (o_takenMany : Int32) (o_ahead : Int32) (o_textLong : Int32) (o_outMany : Int32) (o_items : Int32) (o_matches : Int32) (o_textMany : Int32) (o_sampleLong : Nat → Int32) (o_sampleByte : Nat → Int32) (v1 : Int32) (v2 : Int32) (v3 : Int32) (K : (Nat → Int32) → Int32 → Int32 → Prop) (hK : ∀ (o_covered : Nat → Int32) (v4 : Int32) (v5 : Int32), K o_covered v4 v5 → Go p l e rm_X7_counted s m args below meth c Q 8 D A [(a_o, .inr (10, [.int o_thrown, .ref a_o_tape, .int o_taped, .int o_samples, .ref a_o_sampleLong, .ref a_o_sampleByte, .ref a_o_idOf, .ref a_o_pieces, .ref a_o_pieceLong, .ref a_o_bytesOf, .ref a_o_dictionary, .ref a_o_covered, .ref a_o_taken, .int o_takenMany, .ref a_o_row, .int o_ahead, .int o_textLong, .ref a_o_cost, .ref a_o_leastD, .ref a_o_out, .int o_outMany, .int o_items, .int o_matches, .ref a_o_text, .int o_textMany])), (a_o_sampleLong, .inl (cy 1, 8, .inl o_sampleLong)), (a_o_sampleByte, .inl (cy 1, 320, .inl o_sampleByte)), (a_o_covered, .inl (cy 2, 320, .inl o_covered))] 0 0 121 [(4, .int v4)] []) :
    ∀ (n : Nat) (o_covered : Nat → Int32) (v4 : Int32) (v5 : Int32), wX7_counted_6 o_samples o_sampleLong o_sampleByte v1 v2 v3 K n o_covered v4 v5 → Go p l e rm_X7_counted s m args below meth c Q 8 D A [(a_o, .inr (10, [.int o_thrown, .ref a_o_tape, .int o_taped, .int o_samples, .ref a_o_sampleLong, .ref a_o_sampleByte, .ref a_o_idOf, .ref a_o_pieces, .ref a_o_pieceLong, .ref a_o_bytesOf, .ref a_o_dictionary, .ref a_o_covered, .ref a_o_taken, .int o_takenMany, .ref a_o_row, .int o_ahead, .int o_textLong, .ref a_o_cost, .ref a_o_leastD, .ref a_o_out, .int o_outMany, .int o_items, .int o_matches, .ref a_o_text, .int o_textMany])), (a_o_sampleLong, .inl (cy 1, 8, .inl o_sampleLong)), (a_o_sampleByte, .inl (cy 1, 320, .inl o_sampleByte)), (a_o_covered, .inl (cy 2, 320, .inl o_covered))] 0 0 6 [(0, .ref a_o), (1, .int v1), (2, .int v2), (3, .int v3), (4, .int v4), (5, .int v5)] [] := by
  intro n
  induction n with
  | zero => intro o_covered v4 v5 h; exact absurd h id
  | succ n ih =>
    intro o_covered v4 v5 h
    refine go_iload X dX7_counted_6 5 rfl ?_
    refine go_aload_n X dX7_counted_8 0 rfl rfl ?_
    refine go_get X fi_X7_counted_X7 0 rfl rfl 3 (by decide) fl_X7_counted_71 rfl dX7_counted_9 ?_
    refine go_icmp_ge X 121 dX7_counted_12 (by decide) (fun c4 => ?_) (fun c4 => ?_)
    · replace h := h.1 c4
      refine go_lv [4] rfl ?_
      exact hK o_covered v4 v5 h
    · replace h := h.2 c4
      refine go_iconst X (v := 0) dX7_counted_15 (by decide) ?_
      refine go_istore X (lv' := [(6, .int 0), (0, .ref a_o), (1, .int v1), (2, .int v2), (3, .int v3), (4, .int v4), (5, .int v5)]) dX7_counted_16 (by decide) rfl ?_
      obtain ⟨n26, h⟩ := h
      refine go_lv [1, 2, 3, 4, 5, 6, 0] rfl ?_
      refine pX7_counted_18 l X a_o a_o_tape a_o_sampleLong a_o_sampleByte a_o_idOf a_o_pieces a_o_pieceLong a_o_bytesOf a_o_dictionary a_o_covered a_o_taken a_o_row a_o_cost a_o_leastD a_o_out a_o_text o_thrown o_taped o_samples o_takenMany o_ahead o_textLong o_outMany o_items o_matches o_textMany o_sampleLong o_sampleByte v1 v2 v3 v5  _ (fun s5 y6 y7 h => ?_) n26 o_covered v4 (0 : Int32) h
      obtain ⟨y25, ey25⟩ : ∃ z : Int32, z = v5 + 1 := ⟨_, rfl⟩
      replace h := h y25 ey25
      refine go_iinc X (lv' := [(5, .int y25), (0, .ref a_o), (1, .int v1), (2, .int v2), (3, .int v3), (4, .int y6)]) y25 dX7_counted_115 5 rfl (by rw [ey25]; rfl) (by decide) rfl ?_
      refine go_goto X 6 dX7_counted_118 (by decide) ?_
      refine go_lv [1, 2, 3, 4, 5, 0] rfl ?_
      exact ih s5 y6 y25 h
set_option maxRecDepth 100000 in
set_option maxHeartbeats 4000000 in
theorem kX7_counted (l : Launch) (D : va_G) (cy : Nat → ClassId) (a_o : Nat) (a_o_tape : Nat) (a_o_sampleLong : Nat) (a_o_sampleByte : Nat) (a_o_idOf : Nat) (a_o_pieces : Nat) (a_o_pieceLong : Nat) (a_o_bytesOf : Nat) (a_o_dictionary : Nat) (a_o_covered : Nat) (a_o_taken : Nat) (a_o_row : Nat) (a_o_cost : Nat) (a_o_leastD : Nat) (a_o_out : Nat) (a_o_text : Nat) (o_thrown : Int32) (o_taped : Int32) (o_samples : Int32) (o_takenMany : Int32) (o_ahead : Int32) (o_textLong : Int32) (o_outMany : Int32) (o_items : Int32) (o_matches : Int32) (o_textMany : Int32) (o_sampleLong : Nat → Int32) (o_sampleByte : Nat → Int32) (o_covered : Nat → Int32) (p1 : Int32) (p2 : Int32) (p3 : Int32) (post : Int32 → (Nat → Int32) → Prop) (h : wX7_counted o_samples o_sampleLong o_sampleByte o_covered p1 p2 p3 post) : MetI l yX7_counted wsX7_counted rm_X7_counted D (tyL cy) [.ref a_o, .int p1, .int p2, .int p3] [(a_o, .inr (10, [.int o_thrown, .ref a_o_tape, .int o_taped, .int o_samples, .ref a_o_sampleLong, .ref a_o_sampleByte, .ref a_o_idOf, .ref a_o_pieces, .ref a_o_pieceLong, .ref a_o_bytesOf, .ref a_o_dictionary, .ref a_o_covered, .ref a_o_taken, .int o_takenMany, .ref a_o_row, .int o_ahead, .int o_textLong, .ref a_o_cost, .ref a_o_leastD, .ref a_o_out, .int o_outMany, .int o_items, .int o_matches, .ref a_o_text, .int o_textMany])), (a_o_sampleLong, .inl (cy 1, 8, .inl o_sampleLong)), (a_o_sampleByte, .inl (cy 1, 320, .inl o_sampleByte)), (a_o_covered, .inl (cy 2, 320, .inl o_covered))] (fun u : (Nat → Int32) => [(a_o, .inr (10, [.int o_thrown, .ref a_o_tape, .int o_taped, .int o_samples, .ref a_o_sampleLong, .ref a_o_sampleByte, .ref a_o_idOf, .ref a_o_pieces, .ref a_o_pieceLong, .ref a_o_bytesOf, .ref a_o_dictionary, .ref a_o_covered, .ref a_o_taken, .int o_takenMany, .ref a_o_row, .int o_ahead, .int o_textLong, .ref a_o_cost, .ref a_o_leastD, .ref a_o_out, .int o_outMany, .int o_items, .int o_matches, .ref a_o_text, .int o_textMany])), (a_o_sampleLong, .inl (cy 1, 8, .inl o_sampleLong)), (a_o_sampleByte, .inl (cy 1, 320, .inl o_sampleByte)), (a_o_covered, .inl (cy 2, 320, .inl u))]) (fun r => fun (u : (Nat → Int32)) => post r u) 0 0 := by
  refine metI_of (cc := cX7_counted) (maxL := 8) (lv := [(0, .ref a_o), (1, .int p1), (2, .int p2), (3, .int p3)]) (by decide) rfl (Nat.le_of_ble_eq_true rfl) rfl ?_
  intro p e s m below meth c Q A X hlk hR
  unfold wX7_counted at h
  refine go_iconst X (v := 0) dX7_counted_0 (by decide) ?_
  refine go_istore X (lv' := [(4, .int 0), (0, .ref a_o), (1, .int p1), (2, .int p2), (3, .int p3)]) dX7_counted_1 (by decide) rfl ?_
  refine go_iconst X (v := 0) dX7_counted_3 (by decide) ?_
  refine go_istore X (lv' := [(5, .int 0), (4, .int 0), (0, .ref a_o), (1, .int p1), (2, .int p2), (3, .int p3)]) dX7_counted_4 (by decide) rfl ?_
  obtain ⟨n27, h⟩ := h
  refine go_lv [2, 3, 4, 5, 1, 0] rfl ?_
  refine pX7_counted_6 l X a_o a_o_tape a_o_sampleLong a_o_sampleByte a_o_idOf a_o_pieces a_o_pieceLong a_o_bytesOf a_o_dictionary a_o_covered a_o_taken a_o_row a_o_cost a_o_leastD a_o_out a_o_text o_thrown o_taped o_samples o_takenMany o_ahead o_textLong o_outMany o_items o_matches o_textMany o_sampleLong o_sampleByte p1 p2 p3  _ (fun s1 y2 y3 h => ?_) n27 o_covered (0 : Int32) (0 : Int32) h
  refine go_iload X dX7_counted_121 0 rfl ?_
  exact hR y2 s1 123 _ dX7_counted_123 rfl h
