/-! X7_goes -/
theorem fi_X7_goes_X7 : ∀ w ∈ u_ws RX7 TX7 25, w ∈ wsX7_goes := by decide +kernel
theorem fl_X7_goes_25 : Cond.fieldLink RX7 25 (TX7 8).1 (TX7 8).2.1 (TX7 8).2.2.1 ∈ wsX7_goes := by decide +kernel
theorem fl_X7_goes_28 : Cond.fieldLink RX7 28 (TX7 9).1 (TX7 9).2.1 (TX7 9).2.2.1 ∈ wsX7_goes := by decide +kernel
theorem fl_X7_goes_31 : Cond.fieldLink RX7 31 (TX7 10).1 (TX7 10).2.1 (TX7 10).2.2.1 ∈ wsX7_goes := by decide +kernel
theorem fl_X7_goes_22 : Cond.fieldLink RX7 22 (TX7 7).1 (TX7 7).2.1 (TX7 7).2.2.1 ∈ wsX7_goes := by decide +kernel
def rm_X7_goes : Room := { frames := 1, cells := 0, slots := 0, locals := 24 }
theorem cd_X7_goes : yX7_goes.cls = RX7 ∧ yX7_goes.cls ≠ "java/lang/invoke/MethodHandle" ∧ yX7_goes.cls ≠ "java/lang/invoke/VarHandle" ∧ (parseMethodDescriptor yX7_goes.desc).map (fun d => d.parameters.length) = some 2 := by decide +kernel
set_option maxRecDepth 100000 in
set_option maxHeartbeats 4000000 in
theorem pX7_goes_23 {p : Program} (l : Launch) {e : Env} {s : State} {m : MethodId} {args : Array Value} {below : List Frame} {meth : Method} {c : Code} {Q : State → Prop} {D : va_G} {cy : Nat → ClassId} {A : Nat → Prop} (X : Cx p s m args c cX7_goes 6 RX7 wsX7_goes D (tyL cy) A) (a_o : Nat) (a_o_tape : Nat) (a_o_sampleLong : Nat) (a_o_sampleByte : Nat) (a_o_idOf : Nat) (a_o_pieces : Nat) (a_o_pieceLong : Nat) (a_o_bytesOf : Nat) (a_o_dictionary : Nat) (a_o_covered : Nat) (a_o_taken : Nat) (a_o_row : Nat) (a_o_cost : Nat) (a_o_leastD : Nat) (a_o_out : Nat) (a_o_text : Nat) (o_thrown : Int32) (o_taped : Int32) (o_samples : Int32) (o_takenMany : Int32) (o_ahead : Int32) (o_textLong : Int32) (o_outMany : Int32) (o_items : Int32) (o_matches : Int32) (o_textMany : Int32) (o_pieces : Nat → Int32) (o_pieceLong : Nat → Int32) (o_bytesOf : Nat → Int32) (v1 : Int32) (v2 : Int32) (v4 : Int32) (K : (Nat → Int32) → Int32 → Prop) (hK : ∀ (o_dictionary : Nat → Int32) (v5 : Int32), K o_dictionary v5 → Go p l e rm_X7_goes s m args below meth c Q 6 D A [(a_o, .inr (10, [.int o_thrown, .ref a_o_tape, .int o_taped, .int o_samples, .ref a_o_sampleLong, .ref a_o_sampleByte, .ref a_o_idOf, .ref a_o_pieces, .ref a_o_pieceLong, .ref a_o_bytesOf, .ref a_o_dictionary, .ref a_o_covered, .ref a_o_taken, .int o_takenMany, .ref a_o_row, .int o_ahead, .int o_textLong, .ref a_o_cost, .ref a_o_leastD, .ref a_o_out, .int o_outMany, .int o_items, .int o_matches, .ref a_o_text, .int o_textMany])), (a_o_pieces, .inl (cy 1, 6, .inl o_pieces)), (a_o_pieceLong, .inl (cy 1, 480, .inl o_pieceLong)), (a_o_bytesOf, .inl (cy 1, 6, .inl o_bytesOf)), (a_o_dictionary, .inl (cy 1, 480, .inl o_dictionary))] 0 0 70 [(0, .ref a_o), (1, .int v1), (2, .int v2), (4, .int v4)] []) :
    ∀ (n : Nat) (o_dictionary : Nat → Int32) (v5 : Int32), wX7_goes_23 o_bytesOf v1 v4 K n o_dictionary v5 → Go p l e rm_X7_goes s m args below meth c Q 6 D A [(a_o, .inr (10, [.int o_thrown, .ref a_o_tape, .int o_taped, .int o_samples, .ref a_o_sampleLong, .ref a_o_sampleByte, .ref a_o_idOf, .ref a_o_pieces, .ref a_o_pieceLong, .ref a_o_bytesOf, .ref a_o_dictionary, .ref a_o_covered, .ref a_o_taken, .int o_takenMany, .ref a_o_row, .int o_ahead, .int o_textLong, .ref a_o_cost, .ref a_o_leastD, .ref a_o_out, .int o_outMany, .int o_items, .int o_matches, .ref a_o_text, .int o_textMany])), (a_o_pieces, .inl (cy 1, 6, .inl o_pieces)), (a_o_pieceLong, .inl (cy 1, 480, .inl o_pieceLong)), (a_o_bytesOf, .inl (cy 1, 6, .inl o_bytesOf)), (a_o_dictionary, .inl (cy 1, 480, .inl o_dictionary))] 0 0 23 [(0, .ref a_o), (1, .int v1), (2, .int v2), (4, .int v4), (5, .int v5)] [] := by
  intro n
  induction n with
  | zero => intro o_dictionary v5 h; exact absurd h id
  | succ n ih =>
    intro o_dictionary v5 h
    refine go_iload X dX7_goes_23 4 rfl ?_
    refine go_iload X dX7_goes_25 3 rfl ?_
    refine go_iadd X dX7_goes_27 ?_
    refine go_aload_n X dX7_goes_28 0 rfl rfl ?_
    refine go_get X fi_X7_goes_X7 0 rfl rfl 9 (by decide) fl_X7_goes_28 rfl dX7_goes_29 ?_
    refine go_iload_n X dX7_goes_32 1 rfl rfl ?_
    obtain ⟨c6, h⟩ := h
    refine go_iald X 3 1 rfl rfl c6 dX7_goes_33 ?_
    refine go_icmp_ge X 70 dX7_goes_34 (by decide) (fun c7 => ?_) (fun c7 => ?_)
    · replace h := h.1 c7
      refine go_lv [0, 1, 2, 3] rfl ?_
      exact hK o_dictionary v5 h
    · replace h := h.2 c7
      refine go_aload_n X dX7_goes_37 0 rfl rfl ?_
      refine go_get X fi_X7_goes_X7 0 rfl rfl 10 (by decide) fl_X7_goes_31 rfl dX7_goes_38 ?_
      refine go_bipush X (v := 80) dX7_goes_41 (by decide) ?_
      refine go_iload_n X dX7_goes_43 1 rfl rfl ?_
      refine go_imul X dX7_goes_44 ?_
      refine go_iload X dX7_goes_45 4 rfl ?_
      refine go_iadd X dX7_goes_47 ?_
      refine go_aload_n X dX7_goes_48 0 rfl rfl ?_
      refine go_get X fi_X7_goes_X7 0 rfl rfl 10 (by decide) fl_X7_goes_31 rfl dX7_goes_49 ?_
      refine go_bipush X (v := 80) dX7_goes_52 (by decide) ?_
      refine go_iload_n X dX7_goes_54 1 rfl rfl ?_
      refine go_imul X dX7_goes_55 ?_
      refine go_iload X dX7_goes_56 4 rfl ?_
      refine go_iadd X dX7_goes_58 ?_
      refine go_iload X dX7_goes_59 3 rfl ?_
      refine go_iadd X dX7_goes_61 ?_
      obtain ⟨c8, h⟩ := h
      refine go_iald X 4 1 rfl rfl c8 dX7_goes_62 ?_
      obtain ⟨c9, h⟩ := h
      refine go_iast X [(a_o, .inr (10, [.int o_thrown, .ref a_o_tape, .int o_taped, .int o_samples, .ref a_o_sampleLong, .ref a_o_sampleByte, .ref a_o_idOf, .ref a_o_pieces, .ref a_o_pieceLong, .ref a_o_bytesOf, .ref a_o_dictionary, .ref a_o_covered, .ref a_o_taken, .int o_takenMany, .ref a_o_row, .int o_ahead, .int o_textLong, .ref a_o_cost, .ref a_o_leastD, .ref a_o_out, .int o_outMany, .int o_items, .int o_matches, .ref a_o_text, .int o_textMany])), (a_o_pieces, .inl (cy 1, 6, .inl o_pieces)), (a_o_pieceLong, .inl (cy 1, 480, .inl o_pieceLong)), (a_o_bytesOf, .inl (cy 1, 6, .inl o_bytesOf)), (a_o_dictionary, .inl (cy 1, 480, .inl (upd o_dictionary ((80 * v1) + v5).toNatClampNeg (o_dictionary (((80 * v1) + v5) + v4).toNatClampNeg))))] 4 1 rfl rfl c9 rfl dX7_goes_63 ?_
      obtain ⟨y10, ey10⟩ : ∃ z : Int32, z = v5 + 1 := ⟨_, rfl⟩
      replace h := h y10 ey10
      refine go_iinc X (lv' := [(5, .int y10), (0, .ref a_o), (1, .int v1), (2, .int v2), (4, .int v4)]) y10 dX7_goes_64 4 rfl (by rw [ey10]; rfl) (by decide) rfl ?_
      refine go_goto X 23 dX7_goes_67 (by decide) ?_
      refine go_lv [1, 2, 3, 4, 0] rfl ?_
      exact ih (upd o_dictionary ((80 * v1) + v5).toNatClampNeg (o_dictionary (((80 * v1) + v5) + v4).toNatClampNeg)) y10 h
set_option maxRecDepth 100000 in
set_option maxHeartbeats 4000000 in
theorem pX7_goes_94 {p : Program} (l : Launch) {e : Env} {s : State} {m : MethodId} {args : Array Value} {below : List Frame} {meth : Method} {c : Code} {Q : State → Prop} {D : va_G} {cy : Nat → ClassId} {A : Nat → Prop} (X : Cx p s m args c cX7_goes 6 RX7 wsX7_goes D (tyL cy) A) (a_o : Nat) (a_o_tape : Nat) (a_o_sampleLong : Nat) (a_o_sampleByte : Nat) (a_o_idOf : Nat) (a_o_pieces : Nat) (a_o_pieceLong : Nat) (a_o_bytesOf : Nat) (a_o_dictionary : Nat) (a_o_covered : Nat) (a_o_taken : Nat) (a_o_row : Nat) (a_o_cost : Nat) (a_o_leastD : Nat) (a_o_out : Nat) (a_o_text : Nat) (o_thrown : Int32) (o_taped : Int32) (o_samples : Int32) (o_takenMany : Int32) (o_ahead : Int32) (o_textLong : Int32) (o_outMany : Int32) (o_items : Int32) (o_matches : Int32) (o_textMany : Int32) (o_pieces : Nat → Int32) (o_bytesOf : Nat → Int32) (o_dictionary : Nat → Int32) (v1 : Int32) (K : (Nat → Int32) → Int32 → Prop) (hK : ∀ (o_pieceLong : Nat → Int32) (v5 : Int32), K o_pieceLong v5 → Go p l e rm_X7_goes s m args below meth c Q 6 D A [(a_o, .inr (10, [.int o_thrown, .ref a_o_tape, .int o_taped, .int o_samples, .ref a_o_sampleLong, .ref a_o_sampleByte, .ref a_o_idOf, .ref a_o_pieces, .ref a_o_pieceLong, .ref a_o_bytesOf, .ref a_o_dictionary, .ref a_o_covered, .ref a_o_taken, .int o_takenMany, .ref a_o_row, .int o_ahead, .int o_textLong, .ref a_o_cost, .ref a_o_leastD, .ref a_o_out, .int o_outMany, .int o_items, .int o_matches, .ref a_o_text, .int o_textMany])), (a_o_pieces, .inl (cy 1, 6, .inl o_pieces)), (a_o_pieceLong, .inl (cy 1, 480, .inl o_pieceLong)), (a_o_bytesOf, .inl (cy 1, 6, .inl o_bytesOf)), (a_o_dictionary, .inl (cy 1, 480, .inl o_dictionary))] 0 0 137 [] []) :
    ∀ (n : Nat) (o_pieceLong : Nat → Int32) (v5 : Int32), wX7_goes_94 o_pieces v1 K n o_pieceLong v5 → Go p l e rm_X7_goes s m args below meth c Q 6 D A [(a_o, .inr (10, [.int o_thrown, .ref a_o_tape, .int o_taped, .int o_samples, .ref a_o_sampleLong, .ref a_o_sampleByte, .ref a_o_idOf, .ref a_o_pieces, .ref a_o_pieceLong, .ref a_o_bytesOf, .ref a_o_dictionary, .ref a_o_covered, .ref a_o_taken, .int o_takenMany, .ref a_o_row, .int o_ahead, .int o_textLong, .ref a_o_cost, .ref a_o_leastD, .ref a_o_out, .int o_outMany, .int o_items, .int o_matches, .ref a_o_text, .int o_textMany])), (a_o_pieces, .inl (cy 1, 6, .inl o_pieces)), (a_o_pieceLong, .inl (cy 1, 480, .inl o_pieceLong)), (a_o_bytesOf, .inl (cy 1, 6, .inl o_bytesOf)), (a_o_dictionary, .inl (cy 1, 480, .inl o_dictionary))] 0 0 94 [(0, .ref a_o), (1, .int v1), (5, .int v5)] [] := by
  intro n
  induction n with
  | zero => intro o_pieceLong v5 h; exact absurd h id
  | succ n ih =>
    intro o_pieceLong v5 h
    refine go_iload X dX7_goes_94 2 rfl ?_
    refine go_aload_n X dX7_goes_96 0 rfl rfl ?_
    refine go_get X fi_X7_goes_X7 0 rfl rfl 7 (by decide) fl_X7_goes_22 rfl dX7_goes_97 ?_
    refine go_iload_n X dX7_goes_100 1 rfl rfl ?_
    obtain ⟨c17, h⟩ := h
    refine go_iald X 1 1 rfl rfl c17 dX7_goes_101 ?_
    refine go_icmp_ge X 137 dX7_goes_102 (by decide) (fun c18 => ?_) (fun c18 => ?_)
    · replace h := h.1 c18
      refine go_lv [] rfl ?_
      exact hK o_pieceLong v5 h
    · replace h := h.2 c18
      refine go_aload_n X dX7_goes_105 0 rfl rfl ?_
      refine go_get X fi_X7_goes_X7 0 rfl rfl 8 (by decide) fl_X7_goes_25 rfl dX7_goes_106 ?_
      refine go_bipush X (v := 80) dX7_goes_109 (by decide) ?_
      refine go_iload_n X dX7_goes_111 1 rfl rfl ?_
      refine go_imul X dX7_goes_112 ?_
      refine go_iload X dX7_goes_113 2 rfl ?_
      refine go_iadd X dX7_goes_115 ?_
      refine go_aload_n X dX7_goes_116 0 rfl rfl ?_
      refine go_get X fi_X7_goes_X7 0 rfl rfl 8 (by decide) fl_X7_goes_25 rfl dX7_goes_117 ?_
      refine go_bipush X (v := 80) dX7_goes_120 (by decide) ?_
      refine go_iload_n X dX7_goes_122 1 rfl rfl ?_
      refine go_imul X dX7_goes_123 ?_
      refine go_iload X dX7_goes_124 2 rfl ?_
      refine go_iadd X dX7_goes_126 ?_
      refine go_iconst X (v := 1) dX7_goes_127 (by decide) ?_
      refine go_iadd X dX7_goes_128 ?_
      obtain ⟨c19, h⟩ := h
      refine go_iald X 2 1 rfl rfl c19 dX7_goes_129 ?_
      obtain ⟨c20, h⟩ := h
      refine go_iast X [(a_o, .inr (10, [.int o_thrown, .ref a_o_tape, .int o_taped, .int o_samples, .ref a_o_sampleLong, .ref a_o_sampleByte, .ref a_o_idOf, .ref a_o_pieces, .ref a_o_pieceLong, .ref a_o_bytesOf, .ref a_o_dictionary, .ref a_o_covered, .ref a_o_taken, .int o_takenMany, .ref a_o_row, .int o_ahead, .int o_textLong, .ref a_o_cost, .ref a_o_leastD, .ref a_o_out, .int o_outMany, .int o_items, .int o_matches, .ref a_o_text, .int o_textMany])), (a_o_pieces, .inl (cy 1, 6, .inl o_pieces)), (a_o_pieceLong, .inl (cy 1, 480, .inl (upd o_pieceLong ((80 * v1) + v5).toNatClampNeg (o_pieceLong (((80 * v1) + v5) + 1).toNatClampNeg)))), (a_o_bytesOf, .inl (cy 1, 6, .inl o_bytesOf)), (a_o_dictionary, .inl (cy 1, 480, .inl o_dictionary))] 2 1 rfl rfl c20 rfl dX7_goes_130 ?_
      obtain ⟨y21, ey21⟩ : ∃ z : Int32, z = v5 + 1 := ⟨_, rfl⟩
      replace h := h y21 ey21
      refine go_iinc X (lv' := [(5, .int y21), (0, .ref a_o), (1, .int v1)]) y21 dX7_goes_131 2 rfl (by rw [ey21]; rfl) (by decide) rfl ?_
      refine go_goto X 94 dX7_goes_134 (by decide) ?_
      refine go_lv [1, 2, 0] rfl ?_
      exact ih (upd o_pieceLong ((80 * v1) + v5).toNatClampNeg (o_pieceLong (((80 * v1) + v5) + 1).toNatClampNeg)) y21 h
set_option maxRecDepth 100000 in
set_option maxHeartbeats 4000000 in
theorem kX7_goes (l : Launch) (D : va_G) (cy : Nat → ClassId) (a_o : Nat) (a_o_tape : Nat) (a_o_sampleLong : Nat) (a_o_sampleByte : Nat) (a_o_idOf : Nat) (a_o_pieces : Nat) (a_o_pieceLong : Nat) (a_o_bytesOf : Nat) (a_o_dictionary : Nat) (a_o_covered : Nat) (a_o_taken : Nat) (a_o_row : Nat) (a_o_cost : Nat) (a_o_leastD : Nat) (a_o_out : Nat) (a_o_text : Nat) (o_thrown : Int32) (o_taped : Int32) (o_samples : Int32) (o_takenMany : Int32) (o_ahead : Int32) (o_textLong : Int32) (o_outMany : Int32) (o_items : Int32) (o_matches : Int32) (o_textMany : Int32) (o_pieces : Nat → Int32) (o_pieceLong : Nat → Int32) (o_bytesOf : Nat → Int32) (o_dictionary : Nat → Int32) (p1 : Int32) (p2 : Int32) (post : (Nat → Int32) → (Nat → Int32) → (Nat → Int32) → (Nat → Int32) → Prop) (h : wX7_goes o_pieces o_pieceLong o_bytesOf o_dictionary p1 p2 post) : MetV l yX7_goes wsX7_goes rm_X7_goes D (tyL cy) [.ref a_o, .int p1, .int p2] [(a_o, .inr (10, [.int o_thrown, .ref a_o_tape, .int o_taped, .int o_samples, .ref a_o_sampleLong, .ref a_o_sampleByte, .ref a_o_idOf, .ref a_o_pieces, .ref a_o_pieceLong, .ref a_o_bytesOf, .ref a_o_dictionary, .ref a_o_covered, .ref a_o_taken, .int o_takenMany, .ref a_o_row, .int o_ahead, .int o_textLong, .ref a_o_cost, .ref a_o_leastD, .ref a_o_out, .int o_outMany, .int o_items, .int o_matches, .ref a_o_text, .int o_textMany])), (a_o_pieces, .inl (cy 1, 6, .inl o_pieces)), (a_o_pieceLong, .inl (cy 1, 480, .inl o_pieceLong)), (a_o_bytesOf, .inl (cy 1, 6, .inl o_bytesOf)), (a_o_dictionary, .inl (cy 1, 480, .inl o_dictionary))] (fun u : (Nat → Int32) × (Nat → Int32) × (Nat → Int32) × (Nat → Int32) => [(a_o, .inr (10, [.int o_thrown, .ref a_o_tape, .int o_taped, .int o_samples, .ref a_o_sampleLong, .ref a_o_sampleByte, .ref a_o_idOf, .ref a_o_pieces, .ref a_o_pieceLong, .ref a_o_bytesOf, .ref a_o_dictionary, .ref a_o_covered, .ref a_o_taken, .int o_takenMany, .ref a_o_row, .int o_ahead, .int o_textLong, .ref a_o_cost, .ref a_o_leastD, .ref a_o_out, .int o_outMany, .int o_items, .int o_matches, .ref a_o_text, .int o_textMany])), (a_o_pieces, .inl (cy 1, 6, .inl u.1)), (a_o_pieceLong, .inl (cy 1, 480, .inl u.2.1)), (a_o_bytesOf, .inl (cy 1, 6, .inl u.2.2.1)), (a_o_dictionary, .inl (cy 1, 480, .inl u.2.2.2))]) (fun (u : (Nat → Int32) × (Nat → Int32) × (Nat → Int32) × (Nat → Int32)) => post u.1 u.2.1 u.2.2.1 u.2.2.2) 0 0 := by
  refine metV_of (cc := cX7_goes) (maxL := 6) (lv := [(0, .ref a_o), (1, .int p1), (2, .int p2)]) (by decide) rfl (Nat.le_of_ble_eq_true rfl) rfl ?_
  intro p e s m below meth c Q A X hlk hnm hR
  unfold wX7_goes at h
  refine go_aload_n X dX7_goes_0 0 rfl rfl ?_
  refine go_iload_n X dX7_goes_1 1 rfl rfl ?_
  refine go_iload_n X dX7_goes_2 2 rfl rfl ?_
  refine go_callVi X (kX7_pieceAt l D cy a_o a_o_tape a_o_sampleLong a_o_sampleByte a_o_idOf a_o_pieces a_o_pieceLong a_o_bytesOf a_o_dictionary a_o_covered a_o_taken a_o_row a_o_cost a_o_leastD a_o_out a_o_text o_thrown o_taped o_samples o_takenMany o_ahead o_textLong o_outMany o_items o_matches o_textMany o_pieceLong p1 p2 _ h) (cwV 2 X.2.2.2.2.1 gX7_goes_X7_pieceAt rfl rfl rfl cd_X7_pieceAt ⟨by decide, by decide⟩) (wr := [(a_o_pieces, .inl (cy 1, 6, .inl o_pieces)), (a_o_bytesOf, .inl (cy 1, 6, .inl o_bytesOf)), (a_o_dictionary, .inl (cy 1, 480, .inl o_dictionary))]) (ws2 := fun u => [(a_o, .inr (10, [.int o_thrown, .ref a_o_tape, .int o_taped, .int o_samples, .ref a_o_sampleLong, .ref a_o_sampleByte, .ref a_o_idOf, .ref a_o_pieces, .ref a_o_pieceLong, .ref a_o_bytesOf, .ref a_o_dictionary, .ref a_o_covered, .ref a_o_taken, .int o_takenMany, .ref a_o_row, .int o_ahead, .int o_textLong, .ref a_o_cost, .ref a_o_leastD, .ref a_o_out, .int o_outMany, .int o_items, .int o_matches, .ref a_o_text, .int o_textMany])), (a_o_pieces, .inl (cy 1, 6, .inl o_pieces)), (a_o_pieceLong, .inl (cy 1, 480, .inl o_pieceLong)), (a_o_bytesOf, .inl (cy 1, 6, .inl o_bytesOf)), (a_o_dictionary, .inl (cy 1, 480, .inl o_dictionary))]) (perm_idx [0, 2, 1, 3, 4] rfl rfl) (fun u => perm_idx [0, 2, 1, 3, 4] rfl rfl) rfl rfl rfl rfl (Nat.le_of_ble_eq_true rfl) dX7_goes_3 ⟨by decide, by decide⟩ (fun r1 u h => ?_)
  refine go_istore_n X (lv' := [(3, .int r1), (0, .ref a_o), (1, .int p1), (2, .int p2)]) dX7_goes_6 rfl (by decide) rfl ?_
  refine go_aload_n X dX7_goes_7 1 rfl rfl ?_
  refine go_get X fi_X7_goes_X7 0 rfl rfl 8 (by decide) fl_X7_goes_25 rfl dX7_goes_8 ?_
  refine go_bipush X (v := 80) dX7_goes_11 (by decide) ?_
  refine go_iload_n X dX7_goes_13 2 rfl rfl ?_
  refine go_imul X dX7_goes_14 ?_
  refine go_iload_n X dX7_goes_15 3 rfl rfl ?_
  refine go_iadd X dX7_goes_16 ?_
  obtain ⟨c2, h⟩ := h
  refine go_iald X 2 1 rfl rfl c2 dX7_goes_17 ?_
  refine go_topi (fun y3 ey3 => ?_)
  replace h := h y3 ey3
  refine go_istore X (lv' := [(4, .int y3), (3, .int r1), (0, .ref a_o), (1, .int p1), (2, .int p2)]) dX7_goes_18 (by decide) rfl ?_
  refine go_iload_n X dX7_goes_20 1 rfl rfl ?_
  refine go_istore X (lv' := [(5, .int r1), (4, .int y3), (3, .int r1), (0, .ref a_o), (1, .int p1), (2, .int p2)]) dX7_goes_21 (by decide) rfl ?_
  obtain ⟨n23, h⟩ := h
  refine go_lv [3, 4, 5, 1, 0] rfl ?_
  refine pX7_goes_23 l X a_o a_o_tape a_o_sampleLong a_o_sampleByte a_o_idOf a_o_pieces a_o_pieceLong a_o_bytesOf a_o_dictionary a_o_covered a_o_taken a_o_row a_o_cost a_o_leastD a_o_out a_o_text o_thrown o_taped o_samples o_takenMany o_ahead o_textLong o_outMany o_items o_matches o_textMany o_pieces o_pieceLong o_bytesOf p1 p2 y3  _ (fun s4 y5 h => ?_) n23 o_dictionary r1 h
  refine go_aload_n X dX7_goes_70 0 rfl rfl ?_
  refine go_get X fi_X7_goes_X7 0 rfl rfl 9 (by decide) fl_X7_goes_28 rfl dX7_goes_71 ?_
  refine go_iload_n X dX7_goes_74 1 rfl rfl ?_
  refine go_dup2 X dX7_goes_75 rfl rfl ?_
  obtain ⟨c11, h⟩ := h
  refine go_iald X 3 1 rfl rfl c11 dX7_goes_76 ?_
  refine go_iload X dX7_goes_77 3 rfl ?_
  refine go_isub X dX7_goes_79 ?_
  obtain ⟨c12, h⟩ := h
  refine go_iast X [(a_o, .inr (10, [.int o_thrown, .ref a_o_tape, .int o_taped, .int o_samples, .ref a_o_sampleLong, .ref a_o_sampleByte, .ref a_o_idOf, .ref a_o_pieces, .ref a_o_pieceLong, .ref a_o_bytesOf, .ref a_o_dictionary, .ref a_o_covered, .ref a_o_taken, .int o_takenMany, .ref a_o_row, .int o_ahead, .int o_textLong, .ref a_o_cost, .ref a_o_leastD, .ref a_o_out, .int o_outMany, .int o_items, .int o_matches, .ref a_o_text, .int o_textMany])), (a_o_pieces, .inl (cy 1, 6, .inl o_pieces)), (a_o_pieceLong, .inl (cy 1, 480, .inl o_pieceLong)), (a_o_bytesOf, .inl (cy 1, 6, .inl (upd o_bytesOf p1.toNatClampNeg ((o_bytesOf p1.toNatClampNeg) - y3)))), (a_o_dictionary, .inl (cy 1, 480, .inl s4))] 3 1 rfl rfl c12 rfl dX7_goes_80 ?_
  refine go_aload_n X dX7_goes_81 0 rfl rfl ?_
  refine go_get X fi_X7_goes_X7 0 rfl rfl 7 (by decide) fl_X7_goes_22 rfl dX7_goes_82 ?_
  refine go_iload_n X dX7_goes_85 1 rfl rfl ?_
  refine go_dup2 X dX7_goes_86 rfl rfl ?_
  obtain ⟨c13, h⟩ := h
  refine go_iald X 1 1 rfl rfl c13 dX7_goes_87 ?_
  refine go_iconst X (v := 1) dX7_goes_88 (by decide) ?_
  refine go_isub X dX7_goes_89 ?_
  obtain ⟨c14, h⟩ := h
  refine go_iast X [(a_o, .inr (10, [.int o_thrown, .ref a_o_tape, .int o_taped, .int o_samples, .ref a_o_sampleLong, .ref a_o_sampleByte, .ref a_o_idOf, .ref a_o_pieces, .ref a_o_pieceLong, .ref a_o_bytesOf, .ref a_o_dictionary, .ref a_o_covered, .ref a_o_taken, .int o_takenMany, .ref a_o_row, .int o_ahead, .int o_textLong, .ref a_o_cost, .ref a_o_leastD, .ref a_o_out, .int o_outMany, .int o_items, .int o_matches, .ref a_o_text, .int o_textMany])), (a_o_pieces, .inl (cy 1, 6, .inl (upd o_pieces p1.toNatClampNeg ((o_pieces p1.toNatClampNeg) - 1)))), (a_o_pieceLong, .inl (cy 1, 480, .inl o_pieceLong)), (a_o_bytesOf, .inl (cy 1, 6, .inl (upd o_bytesOf p1.toNatClampNeg ((o_bytesOf p1.toNatClampNeg) - y3)))), (a_o_dictionary, .inl (cy 1, 480, .inl s4))] 1 1 rfl rfl c14 rfl dX7_goes_90 ?_
  refine go_iload_n X dX7_goes_91 2 rfl rfl ?_
  refine go_istore X (lv' := [(5, .int p2), (0, .ref a_o), (1, .int p1), (2, .int p2), (4, .int y3)]) dX7_goes_92 (by decide) rfl ?_
  obtain ⟨n22, h⟩ := h
  refine go_lv [1, 2, 0] rfl ?_
  refine pX7_goes_94 l X a_o a_o_tape a_o_sampleLong a_o_sampleByte a_o_idOf a_o_pieces a_o_pieceLong a_o_bytesOf a_o_dictionary a_o_covered a_o_taken a_o_row a_o_cost a_o_leastD a_o_out a_o_text o_thrown o_taped o_samples o_takenMany o_ahead o_textLong o_outMany o_items o_matches o_textMany (upd o_pieces p1.toNatClampNeg ((o_pieces p1.toNatClampNeg) - 1)) (upd o_bytesOf p1.toNatClampNeg ((o_bytesOf p1.toNatClampNeg) - y3)) s4 p1  _ (fun s15 y16 h => ?_) n22 o_pieceLong p2 h
  exact hR ((upd o_pieces p1.toNatClampNeg ((o_pieces p1.toNatClampNeg) - 1)), s15, (upd o_bytesOf p1.toNatClampNeg ((o_bytesOf p1.toNatClampNeg) - y3)), s4) 137 _ dX7_goes_137 h
/-! X7_trim -/
theorem fi_X7_trim_X7 : ∀ w ∈ u_ws RX7 TX7 25, w ∈ wsX7_trim := by decide +kernel
theorem fl_X7_trim_60 : Cond.fieldLink RX7 60 (TX7 0).1 (TX7 0).2.1 (TX7 0).2.2.1 ∈ wsX7_trim := by decide +kernel
theorem fl_X7_trim_71 : Cond.fieldLink RX7 71 (TX7 3).1 (TX7 3).2.1 (TX7 3).2.2.1 ∈ wsX7_trim := by decide +kernel
theorem fl_X7_trim_22 : Cond.fieldLink RX7 22 (TX7 7).1 (TX7 7).2.1 (TX7 7).2.2.1 ∈ wsX7_trim := by decide +kernel
def rm_X7_trim : Room := { frames := 4, cells := 0, slots := 0, locals := 96 }
theorem cd_X7_trim : yX7_trim.cls = RX7 ∧ yX7_trim.cls ≠ "java/lang/invoke/MethodHandle" ∧ yX7_trim.cls ≠ "java/lang/invoke/VarHandle" ∧ (parseMethodDescriptor yX7_trim.desc).map (fun d => d.parameters.length) = some 1 := by decide +kernel
set_option maxRecDepth 100000 in
set_option maxHeartbeats 4000000 in
theorem pX7_trim_30 {p : Program} (l : Launch) {e : Env} {s : State} {m : MethodId} {args : Array Value} {below : List Frame} {meth : Method} {c : Code} {Q : State → Prop} {D : va_G} {cy : Nat → ClassId} {A : Nat → Prop} (X : Cx p s m args c cX7_trim 4 RX7 wsX7_trim D (tyL cy) A) (a_o : Nat) (a_o_tape : Nat) (a_o_sampleLong : Nat) (a_o_sampleByte : Nat) (a_o_idOf : Nat) (a_o_pieces : Nat) (a_o_pieceLong : Nat) (a_o_bytesOf : Nat) (a_o_dictionary : Nat) (a_o_covered : Nat) (a_o_taken : Nat) (a_o_row : Nat) (a_o_cost : Nat) (a_o_leastD : Nat) (a_o_out : Nat) (a_o_text : Nat) (o_thrown : Int32) (o_taped : Int32) (o_samples : Int32) (o_takenMany : Int32) (o_outMany : Int32) (o_items : Int32) (o_matches : Int32) (o_textMany : Int32) (o_sampleLong : Nat → Int32) (o_sampleByte : Nat → Int32) (o_idOf : Nat → Int32) (v1 : Int32) (K : Int32 → Int32 → (Nat → Int32) → (Nat → Int32) → (Nat → Int32) → (Nat → Int32) → (Nat → Int32) → (Nat → Int32) → (Nat → Int32) → Int32 → Int32 → Prop) (hK : ∀ (o_ahead : Int32) (o_textLong : Int32) (o_pieces : Nat → Int32) (o_pieceLong : Nat → Int32) (o_bytesOf : Nat → Int32) (o_dictionary : Nat → Int32) (o_row : Nat → Int32) (o_cost : Nat → Int32) (o_leastD : Nat → Int32) (v2 : Int32) (v3 : Int32), K o_ahead o_textLong o_pieces o_pieceLong o_bytesOf o_dictionary o_row o_cost o_leastD v2 v3 → Go p l e rm_X7_trim s m args below meth c Q 4 D A [(a_o, .inr (10, [.int o_thrown, .ref a_o_tape, .int o_taped, .int o_samples, .ref a_o_sampleLong, .ref a_o_sampleByte, .ref a_o_idOf, .ref a_o_pieces, .ref a_o_pieceLong, .ref a_o_bytesOf, .ref a_o_dictionary, .ref a_o_covered, .ref a_o_taken, .int o_takenMany, .ref a_o_row, .int o_ahead, .int o_textLong, .ref a_o_cost, .ref a_o_leastD, .ref a_o_out, .int o_outMany, .int o_items, .int o_matches, .ref a_o_text, .int o_textMany])), (a_o_sampleLong, .inl (cy 1, 8, .inl o_sampleLong)), (a_o_sampleByte, .inl (cy 1, 320, .inl o_sampleByte)), (a_o_idOf, .inl (cy 1, 6, .inl o_idOf)), (a_o_pieces, .inl (cy 1, 6, .inl o_pieces)), (a_o_pieceLong, .inl (cy 1, 480, .inl o_pieceLong)), (a_o_bytesOf, .inl (cy 1, 6, .inl o_bytesOf)), (a_o_dictionary, .inl (cy 1, 480, .inl o_dictionary)), (a_o_row, .inl (cy 1, 280, .inl o_row)), (a_o_cost, .inl (cy 1, 201, .inl o_cost)), (a_o_leastD, .inl (cy 1, 2010, .inl o_leastD))] 0 0 73 [(2, .int v2)] []) :
    ∀ (n : Nat) (o_ahead : Int32) (o_textLong : Int32) (o_pieces : Nat → Int32) (o_pieceLong : Nat → Int32) (o_bytesOf : Nat → Int32) (o_dictionary : Nat → Int32) (o_row : Nat → Int32) (o_cost : Nat → Int32) (o_leastD : Nat → Int32) (v2 : Int32) (v3 : Int32), wX7_trim_30 o_samples o_sampleLong o_sampleByte v1 K n o_ahead o_textLong o_pieces o_pieceLong o_bytesOf o_dictionary o_row o_cost o_leastD v2 v3 → Go p l e rm_X7_trim s m args below meth c Q 4 D A [(a_o, .inr (10, [.int o_thrown, .ref a_o_tape, .int o_taped, .int o_samples, .ref a_o_sampleLong, .ref a_o_sampleByte, .ref a_o_idOf, .ref a_o_pieces, .ref a_o_pieceLong, .ref a_o_bytesOf, .ref a_o_dictionary, .ref a_o_covered, .ref a_o_taken, .int o_takenMany, .ref a_o_row, .int o_ahead, .int o_textLong, .ref a_o_cost, .ref a_o_leastD, .ref a_o_out, .int o_outMany, .int o_items, .int o_matches, .ref a_o_text, .int o_textMany])), (a_o_sampleLong, .inl (cy 1, 8, .inl o_sampleLong)), (a_o_sampleByte, .inl (cy 1, 320, .inl o_sampleByte)), (a_o_idOf, .inl (cy 1, 6, .inl o_idOf)), (a_o_pieces, .inl (cy 1, 6, .inl o_pieces)), (a_o_pieceLong, .inl (cy 1, 480, .inl o_pieceLong)), (a_o_bytesOf, .inl (cy 1, 6, .inl o_bytesOf)), (a_o_dictionary, .inl (cy 1, 480, .inl o_dictionary)), (a_o_row, .inl (cy 1, 280, .inl o_row)), (a_o_cost, .inl (cy 1, 201, .inl o_cost)), (a_o_leastD, .inl (cy 1, 2010, .inl o_leastD))] 0 0 30 [(0, .ref a_o), (1, .int v1), (2, .int v2), (3, .int v3)] [] := by
  intro n
  induction n with
  | zero => intro o_ahead o_textLong o_pieces o_pieceLong o_bytesOf o_dictionary o_row o_cost o_leastD v2 v3 h; exact absurd h id
  | succ n ih =>
    intro o_ahead o_textLong o_pieces o_pieceLong o_bytesOf o_dictionary o_row o_cost o_leastD v2 v3 h
    refine go_iload_n X dX7_trim_30 3 rfl rfl ?_
    refine go_aload_n X dX7_trim_31 0 rfl rfl ?_
    refine go_get X fi_X7_trim_X7 0 rfl rfl 7 (by decide) fl_X7_trim_22 rfl dX7_trim_32 ?_
    refine go_iload_n X dX7_trim_35 1 rfl rfl ?_
    obtain ⟨c15, h⟩ := h
    refine go_iald X 4 1 rfl rfl c15 dX7_trim_36 ?_
    refine go_icmp_ge X 73 dX7_trim_37 (by decide) (fun c16 => ?_) (fun c16 => ?_)
    · replace h := h.1 c16
      refine go_lv [2] rfl ?_
      exact hK o_ahead o_textLong o_pieces o_pieceLong o_bytesOf o_dictionary o_row o_cost o_leastD v2 v3 h
    · replace h := h.2 c16
      refine go_aload_n X dX7_trim_40 0 rfl rfl ?_
      refine go_iload_n X dX7_trim_41 1 rfl rfl ?_
      refine go_iload_n X dX7_trim_42 3 rfl rfl ?_
      refine go_callVi X (kX7_sizeOfAll l D cy a_o a_o_tape a_o_sampleLong a_o_sampleByte a_o_idOf a_o_pieces a_o_pieceLong a_o_bytesOf a_o_dictionary a_o_covered a_o_taken a_o_row a_o_cost a_o_leastD a_o_out a_o_text o_thrown o_taped o_samples o_takenMany o_ahead o_textLong o_outMany o_items o_matches o_textMany o_sampleLong o_sampleByte o_pieceLong o_bytesOf o_dictionary o_row o_cost o_leastD v1 v3 _ h) (cwV 2 X.2.2.2.2.1 gX7_trim_X7_sizeOfAll rfl rfl rfl cd_X7_sizeOfAll ⟨by decide, by decide⟩) (wr := [(a_o_idOf, .inl (cy 1, 6, .inl o_idOf)), (a_o_pieces, .inl (cy 1, 6, .inl o_pieces))]) (ws2 := fun u => [(a_o, .inr (10, [.int o_thrown, .ref a_o_tape, .int o_taped, .int o_samples, .ref a_o_sampleLong, .ref a_o_sampleByte, .ref a_o_idOf, .ref a_o_pieces, .ref a_o_pieceLong, .ref a_o_bytesOf, .ref a_o_dictionary, .ref a_o_covered, .ref a_o_taken, .int o_takenMany, .ref a_o_row, .int u.1, .int u.2.1, .ref a_o_cost, .ref a_o_leastD, .ref a_o_out, .int o_outMany, .int o_items, .int o_matches, .ref a_o_text, .int o_textMany])), (a_o_sampleLong, .inl (cy 1, 8, .inl o_sampleLong)), (a_o_sampleByte, .inl (cy 1, 320, .inl o_sampleByte)), (a_o_idOf, .inl (cy 1, 6, .inl o_idOf)), (a_o_pieces, .inl (cy 1, 6, .inl o_pieces)), (a_o_pieceLong, .inl (cy 1, 480, .inl o_pieceLong)), (a_o_bytesOf, .inl (cy 1, 6, .inl o_bytesOf)), (a_o_dictionary, .inl (cy 1, 480, .inl o_dictionary)), (a_o_row, .inl (cy 1, 280, .inl u.2.2.1)), (a_o_cost, .inl (cy 1, 201, .inl u.2.2.2.1)), (a_o_leastD, .inl (cy 1, 2010, .inl u.2.2.2.2))]) (perm_ix 11 [0, 1, 2, 5, 6, 7, 8, 9, 10, 3, 4] rfl (by decide +kernel) rfl) (fun u => perm_ix 11 [0, 1, 2, 9, 10, 3, 4, 5, 6, 7, 8] rfl (by decide +kernel) rfl) rfl rfl rfl rfl (Nat.le_of_ble_eq_true rfl) dX7_trim_43 ⟨by decide, by decide⟩ (fun r17 u h => ?_)
      obtain ⟨s18, s19, s20, s21, s22⟩ := u
      refine go_aload_n X dX7_trim_46 0 rfl rfl ?_
      refine go_iload_n X dX7_trim_47 1 rfl rfl ?_
      refine go_iconst X (v := (-1)) dX7_trim_48 (by decide) ?_
      refine go_callVi X (kX7_sizeOfAll l D cy a_o a_o_tape a_o_sampleLong a_o_sampleByte a_o_idOf a_o_pieces a_o_pieceLong a_o_bytesOf a_o_dictionary a_o_covered a_o_taken a_o_row a_o_cost a_o_leastD a_o_out a_o_text o_thrown o_taped o_samples o_takenMany s18 s19 o_outMany o_items o_matches o_textMany o_sampleLong o_sampleByte o_pieceLong o_bytesOf o_dictionary s20 s21 s22 v1 ((-1) : Int32) _ h) (cwV 2 X.2.2.2.2.1 gX7_trim_X7_sizeOfAll rfl rfl rfl cd_X7_sizeOfAll ⟨by decide, by decide⟩) (wr := [(a_o_idOf, .inl (cy 1, 6, .inl o_idOf)), (a_o_pieces, .inl (cy 1, 6, .inl o_pieces))]) (ws2 := fun u => [(a_o, .inr (10, [.int o_thrown, .ref a_o_tape, .int o_taped, .int o_samples, .ref a_o_sampleLong, .ref a_o_sampleByte, .ref a_o_idOf, .ref a_o_pieces, .ref a_o_pieceLong, .ref a_o_bytesOf, .ref a_o_dictionary, .ref a_o_covered, .ref a_o_taken, .int o_takenMany, .ref a_o_row, .int u.1, .int u.2.1, .ref a_o_cost, .ref a_o_leastD, .ref a_o_out, .int o_outMany, .int o_items, .int o_matches, .ref a_o_text, .int o_textMany])), (a_o_sampleLong, .inl (cy 1, 8, .inl o_sampleLong)), (a_o_sampleByte, .inl (cy 1, 320, .inl o_sampleByte)), (a_o_idOf, .inl (cy 1, 6, .inl o_idOf)), (a_o_pieces, .inl (cy 1, 6, .inl o_pieces)), (a_o_pieceLong, .inl (cy 1, 480, .inl o_pieceLong)), (a_o_bytesOf, .inl (cy 1, 6, .inl o_bytesOf)), (a_o_dictionary, .inl (cy 1, 480, .inl o_dictionary)), (a_o_row, .inl (cy 1, 280, .inl u.2.2.1)), (a_o_cost, .inl (cy 1, 201, .inl u.2.2.2.1)), (a_o_leastD, .inl (cy 1, 2010, .inl u.2.2.2.2))]) (perm_ix 11 [0, 1, 2, 5, 6, 7, 8, 9, 10, 3, 4] rfl (by decide +kernel) rfl) (fun u => perm_ix 11 [0, 1, 2, 9, 10, 3, 4, 5, 6, 7, 8] rfl (by decide +kernel) rfl) rfl rfl rfl rfl (Nat.le_of_ble_eq_true rfl) dX7_trim_49 ⟨by decide, by decide⟩ (fun r23 u h => ?_)
      obtain ⟨s24, s25, s26, s27, s28⟩ := u
      refine go_icmp_gt X 67 dX7_trim_52 (by decide) (fun c29 => ?_) (fun c29 => ?_)
      · replace h := h.1 c29
        obtain ⟨y30, ey30⟩ : ∃ z : Int32, z = v3 + 1 := ⟨_, rfl⟩
        replace h := h y30 ey30
        refine go_iinc X (lv' := [(3, .int y30), (0, .ref a_o), (1, .int v1), (2, .int v2)]) y30 dX7_trim_67 3 rfl (by rw [ey30]; rfl) (by decide) rfl ?_
        refine go_goto X 30 dX7_trim_70 (by decide) ?_
        refine go_lv [1, 2, 3, 0] rfl ?_
        exact ih s24 s25 o_pieces o_pieceLong o_bytesOf o_dictionary s26 s27 s28 v2 y30 h
      · replace h := h.2 c29
        refine go_aload_n X dX7_trim_55 0 rfl rfl ?_
        refine go_iload_n X dX7_trim_56 1 rfl rfl ?_
        refine go_iload_n X dX7_trim_57 3 rfl rfl ?_
        refine go_callVv X (kX7_goes l D cy a_o a_o_tape a_o_sampleLong a_o_sampleByte a_o_idOf a_o_pieces a_o_pieceLong a_o_bytesOf a_o_dictionary a_o_covered a_o_taken a_o_row a_o_cost a_o_leastD a_o_out a_o_text o_thrown o_taped o_samples o_takenMany s24 s25 o_outMany o_items o_matches o_textMany o_pieces o_pieceLong o_bytesOf o_dictionary v1 v3 _ h) (cwV 2 X.2.2.2.2.1 gX7_trim_X7_goes rfl rfl rfl cd_X7_goes ⟨by decide, by decide⟩) (wr := [(a_o_sampleLong, .inl (cy 1, 8, .inl o_sampleLong)), (a_o_sampleByte, .inl (cy 1, 320, .inl o_sampleByte)), (a_o_idOf, .inl (cy 1, 6, .inl o_idOf)), (a_o_row, .inl (cy 1, 280, .inl s26)), (a_o_cost, .inl (cy 1, 201, .inl s27)), (a_o_leastD, .inl (cy 1, 2010, .inl s28))]) (ws2 := fun u => [(a_o, .inr (10, [.int o_thrown, .ref a_o_tape, .int o_taped, .int o_samples, .ref a_o_sampleLong, .ref a_o_sampleByte, .ref a_o_idOf, .ref a_o_pieces, .ref a_o_pieceLong, .ref a_o_bytesOf, .ref a_o_dictionary, .ref a_o_covered, .ref a_o_taken, .int o_takenMany, .ref a_o_row, .int s24, .int s25, .ref a_o_cost, .ref a_o_leastD, .ref a_o_out, .int o_outMany, .int o_items, .int o_matches, .ref a_o_text, .int o_textMany])), (a_o_sampleLong, .inl (cy 1, 8, .inl o_sampleLong)), (a_o_sampleByte, .inl (cy 1, 320, .inl o_sampleByte)), (a_o_idOf, .inl (cy 1, 6, .inl o_idOf)), (a_o_pieces, .inl (cy 1, 6, .inl u.1)), (a_o_pieceLong, .inl (cy 1, 480, .inl u.2.1)), (a_o_bytesOf, .inl (cy 1, 6, .inl u.2.2.1)), (a_o_dictionary, .inl (cy 1, 480, .inl u.2.2.2)), (a_o_row, .inl (cy 1, 280, .inl s26)), (a_o_cost, .inl (cy 1, 201, .inl s27)), (a_o_leastD, .inl (cy 1, 2010, .inl s28))]) (perm_ix 11 [0, 4, 5, 6, 7, 1, 2, 3, 8, 9, 10] rfl (by decide +kernel) rfl) (fun u => perm_ix 11 [0, 5, 6, 7, 1, 2, 3, 4, 8, 9, 10] rfl (by decide +kernel) rfl) rfl rfl rfl rfl (Nat.le_of_ble_eq_true rfl) dX7_trim_58 ⟨by decide, by decide⟩ (fun u h => ?_)
        obtain ⟨s31, s32, s33, s34⟩ := u
        obtain ⟨y35, ey35⟩ : ∃ z : Int32, z = v2 + 1 := ⟨_, rfl⟩
        replace h := h y35 ey35
        refine go_iinc X (lv' := [(2, .int y35), (0, .ref a_o), (1, .int v1), (3, .int v3)]) y35 dX7_trim_61 2 rfl (by rw [ey35]; rfl) (by decide) rfl ?_
        refine go_goto X 30 dX7_trim_64 (by decide) ?_
        refine go_lv [1, 2, 0, 3] rfl ?_
        exact ih s24 s25 s31 s32 s33 s34 s26 s27 s28 y35 v3 h
set_option maxRecDepth 100000 in
set_option maxHeartbeats 4000000 in
theorem kX7_trim (l : Launch) (D : va_G) (cy : Nat → ClassId) (a_o : Nat) (a_o_tape : Nat) (a_o_sampleLong : Nat) (a_o_sampleByte : Nat) (a_o_idOf : Nat) (a_o_pieces : Nat) (a_o_pieceLong : Nat) (a_o_bytesOf : Nat) (a_o_dictionary : Nat) (a_o_covered : Nat) (a_o_taken : Nat) (a_o_row : Nat) (a_o_cost : Nat) (a_o_leastD : Nat) (a_o_out : Nat) (a_o_text : Nat) (o_thrown : Int32) (o_taped : Int32) (o_samples : Int32) (o_takenMany : Int32) (o_ahead : Int32) (o_textLong : Int32) (o_outMany : Int32) (o_items : Int32) (o_matches : Int32) (o_textMany : Int32) (o_sampleLong : Nat → Int32) (o_sampleByte : Nat → Int32) (o_idOf : Nat → Int32) (o_pieces : Nat → Int32) (o_pieceLong : Nat → Int32) (o_bytesOf : Nat → Int32) (o_dictionary : Nat → Int32) (o_row : Nat → Int32) (o_cost : Nat → Int32) (o_leastD : Nat → Int32) (p1 : Int32) (post : Int32 → Int32 → Int32 → Int32 → (Nat → Int32) → (Nat → Int32) → (Nat → Int32) → (Nat → Int32) → (Nat → Int32) → (Nat → Int32) → (Nat → Int32) → Prop) (h : wX7_trim o_samples o_ahead o_textLong o_sampleLong o_sampleByte o_idOf o_pieces o_pieceLong o_bytesOf o_dictionary o_row o_cost o_leastD p1 post) : MetI l yX7_trim wsX7_trim rm_X7_trim D (tyL cy) [.ref a_o, .int p1] [(a_o, .inr (10, [.int o_thrown, .ref a_o_tape, .int o_taped, .int o_samples, .ref a_o_sampleLong, .ref a_o_sampleByte, .ref a_o_idOf, .ref a_o_pieces, .ref a_o_pieceLong, .ref a_o_bytesOf, .ref a_o_dictionary, .ref a_o_covered, .ref a_o_taken, .int o_takenMany, .ref a_o_row, .int o_ahead, .int o_textLong, .ref a_o_cost, .ref a_o_leastD, .ref a_o_out, .int o_outMany, .int o_items, .int o_matches, .ref a_o_text, .int o_textMany])), (a_o_sampleLong, .inl (cy 1, 8, .inl o_sampleLong)), (a_o_sampleByte, .inl (cy 1, 320, .inl o_sampleByte)), (a_o_idOf, .inl (cy 1, 6, .inl o_idOf)), (a_o_pieces, .inl (cy 1, 6, .inl o_pieces)), (a_o_pieceLong, .inl (cy 1, 480, .inl o_pieceLong)), (a_o_bytesOf, .inl (cy 1, 6, .inl o_bytesOf)), (a_o_dictionary, .inl (cy 1, 480, .inl o_dictionary)), (a_o_row, .inl (cy 1, 280, .inl o_row)), (a_o_cost, .inl (cy 1, 201, .inl o_cost)), (a_o_leastD, .inl (cy 1, 2010, .inl o_leastD))] (fun u : Int32 × Int32 × Int32 × (Nat → Int32) × (Nat → Int32) × (Nat → Int32) × (Nat → Int32) × (Nat → Int32) × (Nat → Int32) × (Nat → Int32) => [(a_o, .inr (10, [.int u.1, .ref a_o_tape, .int o_taped, .int o_samples, .ref a_o_sampleLong, .ref a_o_sampleByte, .ref a_o_idOf, .ref a_o_pieces, .ref a_o_pieceLong, .ref a_o_bytesOf, .ref a_o_dictionary, .ref a_o_covered, .ref a_o_taken, .int o_takenMany, .ref a_o_row, .int u.2.1, .int u.2.2.1, .ref a_o_cost, .ref a_o_leastD, .ref a_o_out, .int o_outMany, .int o_items, .int o_matches, .ref a_o_text, .int o_textMany])), (a_o_sampleLong, .inl (cy 1, 8, .inl o_sampleLong)), (a_o_sampleByte, .inl (cy 1, 320, .inl o_sampleByte)), (a_o_idOf, .inl (cy 1, 6, .inl o_idOf)), (a_o_pieces, .inl (cy 1, 6, .inl u.2.2.2.1)), (a_o_pieceLong, .inl (cy 1, 480, .inl u.2.2.2.2.1)), (a_o_bytesOf, .inl (cy 1, 6, .inl u.2.2.2.2.2.1)), (a_o_dictionary, .inl (cy 1, 480, .inl u.2.2.2.2.2.2.1)), (a_o_row, .inl (cy 1, 280, .inl u.2.2.2.2.2.2.2.1)), (a_o_cost, .inl (cy 1, 201, .inl u.2.2.2.2.2.2.2.2.1)), (a_o_leastD, .inl (cy 1, 2010, .inl u.2.2.2.2.2.2.2.2.2))]) (fun r => fun (u : Int32 × Int32 × Int32 × (Nat → Int32) × (Nat → Int32) × (Nat → Int32) × (Nat → Int32) × (Nat → Int32) × (Nat → Int32) × (Nat → Int32)) => post r u.1 u.2.1 u.2.2.1 u.2.2.2.1 u.2.2.2.2.1 u.2.2.2.2.2.1 u.2.2.2.2.2.2.1 u.2.2.2.2.2.2.2.1 u.2.2.2.2.2.2.2.2.1 u.2.2.2.2.2.2.2.2.2) 0 0 := by
  refine metI_of (cc := cX7_trim) (maxL := 4) (lv := [(0, .ref a_o), (1, .int p1)]) (by decide) rfl (Nat.le_of_ble_eq_true rfl) rfl ?_
  intro p e s m below meth c Q A X hlk hR
  unfold wX7_trim at h
  refine go_aload_n X dX7_trim_0 0 rfl rfl ?_
  refine go_iconst X (v := 0) dX7_trim_1 (by decide) ?_
  refine go_put X (ws' := [(a_o, .inr (10, [.int 0, .ref a_o_tape, .int o_taped, .int o_samples, .ref a_o_sampleLong, .ref a_o_sampleByte, .ref a_o_idOf, .ref a_o_pieces, .ref a_o_pieceLong, .ref a_o_bytesOf, .ref a_o_dictionary, .ref a_o_covered, .ref a_o_taken, .int o_takenMany, .ref a_o_row, .int o_ahead, .int o_textLong, .ref a_o_cost, .ref a_o_leastD, .ref a_o_out, .int o_outMany, .int o_items, .int o_matches, .ref a_o_text, .int o_textMany])), (a_o_sampleLong, .inl (cy 1, 8, .inl o_sampleLong)), (a_o_sampleByte, .inl (cy 1, 320, .inl o_sampleByte)), (a_o_idOf, .inl (cy 1, 6, .inl o_idOf)), (a_o_pieces, .inl (cy 1, 6, .inl o_pieces)), (a_o_pieceLong, .inl (cy 1, 480, .inl o_pieceLong)), (a_o_bytesOf, .inl (cy 1, 6, .inl o_bytesOf)), (a_o_dictionary, .inl (cy 1, 480, .inl o_dictionary)), (a_o_row, .inl (cy 1, 280, .inl o_row)), (a_o_cost, .inl (cy 1, 201, .inl o_cost)), (a_o_leastD, .inl (cy 1, 2010, .inl o_leastD))]) fi_X7_trim_X7 tyX7 tyX7_ok nmX7 0 rfl rfl 0 (by decide) fl_X7_trim_60 rfl (tyX7_ok 0 (by decide)) rfl rfl (Nat.le_of_ble_eq_true rfl) rfl dX7_trim_2 ?_
  refine go_aload_n X dX7_trim_5 0 rfl rfl ?_
  refine go_iload_n X dX7_trim_6 1 rfl rfl ?_
  refine go_callVi X (kX7_isThere l D cy a_o a_o_tape a_o_sampleLong a_o_sampleByte a_o_idOf a_o_pieces a_o_pieceLong a_o_bytesOf a_o_dictionary a_o_covered a_o_taken a_o_row a_o_cost a_o_leastD a_o_out a_o_text 0 o_taped o_samples o_takenMany o_ahead o_textLong o_outMany o_items o_matches o_textMany o_idOf p1 _ h) (cwV 1 X.2.2.2.2.1 gX7_trim_X7_isThere rfl rfl rfl cd_X7_isThere ⟨by decide, by decide⟩) (wr := [(a_o_sampleLong, .inl (cy 1, 8, .inl o_sampleLong)), (a_o_sampleByte, .inl (cy 1, 320, .inl o_sampleByte)), (a_o_pieces, .inl (cy 1, 6, .inl o_pieces)), (a_o_pieceLong, .inl (cy 1, 480, .inl o_pieceLong)), (a_o_bytesOf, .inl (cy 1, 6, .inl o_bytesOf)), (a_o_dictionary, .inl (cy 1, 480, .inl o_dictionary)), (a_o_row, .inl (cy 1, 280, .inl o_row)), (a_o_cost, .inl (cy 1, 201, .inl o_cost)), (a_o_leastD, .inl (cy 1, 2010, .inl o_leastD))]) (ws2 := fun u => [(a_o, .inr (10, [.int 0, .ref a_o_tape, .int o_taped, .int o_samples, .ref a_o_sampleLong, .ref a_o_sampleByte, .ref a_o_idOf, .ref a_o_pieces, .ref a_o_pieceLong, .ref a_o_bytesOf, .ref a_o_dictionary, .ref a_o_covered, .ref a_o_taken, .int o_takenMany, .ref a_o_row, .int o_ahead, .int o_textLong, .ref a_o_cost, .ref a_o_leastD, .ref a_o_out, .int o_outMany, .int o_items, .int o_matches, .ref a_o_text, .int o_textMany])), (a_o_sampleLong, .inl (cy 1, 8, .inl o_sampleLong)), (a_o_sampleByte, .inl (cy 1, 320, .inl o_sampleByte)), (a_o_idOf, .inl (cy 1, 6, .inl o_idOf)), (a_o_pieces, .inl (cy 1, 6, .inl o_pieces)), (a_o_pieceLong, .inl (cy 1, 480, .inl o_pieceLong)), (a_o_bytesOf, .inl (cy 1, 6, .inl o_bytesOf)), (a_o_dictionary, .inl (cy 1, 480, .inl o_dictionary)), (a_o_row, .inl (cy 1, 280, .inl o_row)), (a_o_cost, .inl (cy 1, 201, .inl o_cost)), (a_o_leastD, .inl (cy 1, 2010, .inl o_leastD))]) (perm_ix 11 [0, 3, 1, 2, 4, 5, 6, 7, 8, 9, 10] rfl (by decide +kernel) rfl) (fun u => perm_ix 11 [0, 2, 3, 1, 4, 5, 6, 7, 8, 9, 10] rfl (by decide +kernel) rfl) rfl rfl rfl rfl (Nat.le_of_ble_eq_true rfl) dX7_trim_7 ⟨by decide, by decide⟩ (fun r1 u h => ?_)
  refine go_if_ne X 16 dX7_trim_10 (by decide) (fun c2 => ?_) (fun c2 => ?_)
  · replace h := h.1 c2
    refine go_aload_n X dX7_trim_16 0 rfl rfl ?_
    refine go_get X fi_X7_trim_X7 0 rfl rfl 3 (by decide) fl_X7_trim_71 rfl dX7_trim_17 ?_
    refine go_if_ne X 26 dX7_trim_20 (by decide) (fun c3 => ?_) (fun c3 => ?_)
    · replace h := h.1 c3
      refine go_iconst X (v := 0) dX7_trim_26 (by decide) ?_
      refine go_istore_n X (lv' := [(2, .int 0), (0, .ref a_o), (1, .int p1)]) dX7_trim_27 rfl (by decide) rfl ?_
      refine go_iconst X (v := 0) dX7_trim_28 (by decide) ?_
      refine go_istore_n X (lv' := [(3, .int 0), (2, .int 0), (0, .ref a_o), (1, .int p1)]) dX7_trim_29 rfl (by decide) rfl ?_
      obtain ⟨n36, h⟩ := h
      refine go_lv [2, 3, 1, 0] rfl ?_
      refine pX7_trim_30 l X a_o a_o_tape a_o_sampleLong a_o_sampleByte a_o_idOf a_o_pieces a_o_pieceLong a_o_bytesOf a_o_dictionary a_o_covered a_o_taken a_o_row a_o_cost a_o_leastD a_o_out a_o_text 0 o_taped o_samples o_takenMany o_outMany o_items o_matches o_textMany o_sampleLong o_sampleByte o_idOf p1  _ (fun s4 s5 s6 s7 s8 s9 s10 s11 s12 y13 y14 h => ?_) n36 o_ahead o_textLong o_pieces o_pieceLong o_bytesOf o_dictionary o_row o_cost o_leastD (0 : Int32) (0 : Int32) h
      refine go_iload_n X dX7_trim_73 0 rfl rfl ?_
      exact hR y13 (0, s4, s5, s6, s7, s8, s9, s10, s11, s12) 74 _ dX7_trim_74 rfl h
    · replace h := h.2 c3
      refine go_bipush X (v := (-104)) dX7_trim_23 (by decide) ?_
      exact hR (-104) (0, o_ahead, o_textLong, o_pieces, o_pieceLong, o_bytesOf, o_dictionary, o_row, o_cost, o_leastD) 25 _ dX7_trim_25 rfl h
  · replace h := h.2 c2
    refine go_bipush X (v := (-101)) dX7_trim_13 (by decide) ?_
    exact hR (-101) (0, o_ahead, o_textLong, o_pieces, o_pieceLong, o_bytesOf, o_dictionary, o_row, o_cost, o_leastD) 15 _ dX7_trim_15 rfl h
/-! X7_drop -/
theorem fi_X7_drop_X7 : ∀ w ∈ u_ws RX7 TX7 25, w ∈ wsX7_drop := by decide +kernel
theorem fl_X7_drop_60 : Cond.fieldLink RX7 60 (TX7 0).1 (TX7 0).2.1 (TX7 0).2.2.1 ∈ wsX7_drop := by decide +kernel
theorem fl_X7_drop_19 : Cond.fieldLink RX7 19 (TX7 6).1 (TX7 6).2.1 (TX7 6).2.2.1 ∈ wsX7_drop := by decide +kernel
theorem fl_X7_drop_22 : Cond.fieldLink RX7 22 (TX7 7).1 (TX7 7).2.1 (TX7 7).2.2.1 ∈ wsX7_drop := by decide +kernel
def rm_X7_drop : Room := { frames := 2, cells := 0, slots := 0, locals := 46 }
theorem cd_X7_drop : yX7_drop.cls = RX7 ∧ yX7_drop.cls ≠ "java/lang/invoke/MethodHandle" ∧ yX7_drop.cls ≠ "java/lang/invoke/VarHandle" ∧ (parseMethodDescriptor yX7_drop.desc).map (fun d => d.parameters.length) = some 1 := by decide +kernel
set_option maxRecDepth 100000 in
set_option maxHeartbeats 4000000 in
theorem kX7_drop (l : Launch) (D : va_G) (cy : Nat → ClassId) (a_o : Nat) (a_o_tape : Nat) (a_o_sampleLong : Nat) (a_o_sampleByte : Nat) (a_o_idOf : Nat) (a_o_pieces : Nat) (a_o_pieceLong : Nat) (a_o_bytesOf : Nat) (a_o_dictionary : Nat) (a_o_covered : Nat) (a_o_taken : Nat) (a_o_row : Nat) (a_o_cost : Nat) (a_o_leastD : Nat) (a_o_out : Nat) (a_o_text : Nat) (o_thrown : Int32) (o_taped : Int32) (o_samples : Int32) (o_takenMany : Int32) (o_ahead : Int32) (o_textLong : Int32) (o_outMany : Int32) (o_items : Int32) (o_matches : Int32) (o_textMany : Int32) (o_idOf : Nat → Int32) (o_pieces : Nat → Int32) (p1 : Int32) (post : Int32 → Int32 → (Nat → Int32) → Prop) (h : wX7_drop o_idOf o_pieces p1 post) : MetI l yX7_drop wsX7_drop rm_X7_drop D (tyL cy) [.ref a_o, .int p1] [(a_o, .inr (10, [.int o_thrown, .ref a_o_tape, .int o_taped, .int o_samples, .ref a_o_sampleLong, .ref a_o_sampleByte, .ref a_o_idOf, .ref a_o_pieces, .ref a_o_pieceLong, .ref a_o_bytesOf, .ref a_o_dictionary, .ref a_o_covered, .ref a_o_taken, .int o_takenMany, .ref a_o_row, .int o_ahead, .int o_textLong, .ref a_o_cost, .ref a_o_leastD, .ref a_o_out, .int o_outMany, .int o_items, .int o_matches, .ref a_o_text, .int o_textMany])), (a_o_idOf, .inl (cy 1, 6, .inl o_idOf)), (a_o_pieces, .inl (cy 1, 6, .inl o_pieces))] (fun u : Int32 × (Nat → Int32) => [(a_o, .inr (10, [.int u.1, .ref a_o_tape, .int o_taped, .int o_samples, .ref a_o_sampleLong, .ref a_o_sampleByte, .ref a_o_idOf, .ref a_o_pieces, .ref a_o_pieceLong, .ref a_o_bytesOf, .ref a_o_dictionary, .ref a_o_covered, .ref a_o_taken, .int o_takenMany, .ref a_o_row, .int o_ahead, .int o_textLong, .ref a_o_cost, .ref a_o_leastD, .ref a_o_out, .int o_outMany, .int o_items, .int o_matches, .ref a_o_text, .int o_textMany])), (a_o_idOf, .inl (cy 1, 6, .inl u.2)), (a_o_pieces, .inl (cy 1, 6, .inl o_pieces))]) (fun r => fun (u : Int32 × (Nat → Int32)) => post r u.1 u.2) 0 0 := by
  refine metI_of (cc := cX7_drop) (maxL := 2) (lv := [(0, .ref a_o), (1, .int p1)]) (by decide) rfl (Nat.le_of_ble_eq_true rfl) rfl ?_
  intro p e s m below meth c Q A X hlk hR
  unfold wX7_drop at h
  refine go_aload_n X dX7_drop_0 0 rfl rfl ?_
  refine go_iconst X (v := 0) dX7_drop_1 (by decide) ?_
  refine go_put X (ws' := [(a_o, .inr (10, [.int 0, .ref a_o_tape, .int o_taped, .int o_samples, .ref a_o_sampleLong, .ref a_o_sampleByte, .ref a_o_idOf, .ref a_o_pieces, .ref a_o_pieceLong, .ref a_o_bytesOf, .ref a_o_dictionary, .ref a_o_covered, .ref a_o_taken, .int o_takenMany, .ref a_o_row, .int o_ahead, .int o_textLong, .ref a_o_cost, .ref a_o_leastD, .ref a_o_out, .int o_outMany, .int o_items, .int o_matches, .ref a_o_text, .int o_textMany])), (a_o_idOf, .inl (cy 1, 6, .inl o_idOf)), (a_o_pieces, .inl (cy 1, 6, .inl o_pieces))]) fi_X7_drop_X7 tyX7 tyX7_ok nmX7 0 rfl rfl 0 (by decide) fl_X7_drop_60 rfl (tyX7_ok 0 (by decide)) rfl rfl (Nat.le_of_ble_eq_true rfl) rfl dX7_drop_2 ?_
  refine go_aload_n X dX7_drop_5 0 rfl rfl ?_
  refine go_iload_n X dX7_drop_6 1 rfl rfl ?_
  refine go_callVi X (kX7_isThere l D cy a_o a_o_tape a_o_sampleLong a_o_sampleByte a_o_idOf a_o_pieces a_o_pieceLong a_o_bytesOf a_o_dictionary a_o_covered a_o_taken a_o_row a_o_cost a_o_leastD a_o_out a_o_text 0 o_taped o_samples o_takenMany o_ahead o_textLong o_outMany o_items o_matches o_textMany o_idOf p1 _ h) (cwV 1 X.2.2.2.2.1 gX7_drop_X7_isThere rfl rfl rfl cd_X7_isThere ⟨by decide, by decide⟩) (wr := [(a_o_pieces, .inl (cy 1, 6, .inl o_pieces))]) (ws2 := fun u => [(a_o, .inr (10, [.int 0, .ref a_o_tape, .int o_taped, .int o_samples, .ref a_o_sampleLong, .ref a_o_sampleByte, .ref a_o_idOf, .ref a_o_pieces, .ref a_o_pieceLong, .ref a_o_bytesOf, .ref a_o_dictionary, .ref a_o_covered, .ref a_o_taken, .int o_takenMany, .ref a_o_row, .int o_ahead, .int o_textLong, .ref a_o_cost, .ref a_o_leastD, .ref a_o_out, .int o_outMany, .int o_items, .int o_matches, .ref a_o_text, .int o_textMany])), (a_o_idOf, .inl (cy 1, 6, .inl o_idOf)), (a_o_pieces, .inl (cy 1, 6, .inl o_pieces))]) (perm_idx [0, 1, 2] rfl rfl) (fun u => perm_idx [0, 1, 2] rfl rfl) rfl rfl rfl rfl (Nat.le_of_ble_eq_true rfl) dX7_drop_7 ⟨by decide, by decide⟩ (fun r1 u h => ?_)
  refine go_if_ne X 16 dX7_drop_10 (by decide) (fun c2 => ?_) (fun c2 => ?_)
  · replace h := h.1 c2
    refine go_aload_n X dX7_drop_16 0 rfl rfl ?_
    refine go_get X fi_X7_drop_X7 0 rfl rfl 6 (by decide) fl_X7_drop_19 rfl dX7_drop_17 ?_
    refine go_iload_n X dX7_drop_20 1 rfl rfl ?_
    refine go_iconst X (v := 0) dX7_drop_21 (by decide) ?_
    obtain ⟨c3, h⟩ := h
    refine go_iast X [(a_o, .inr (10, [.int 0, .ref a_o_tape, .int o_taped, .int o_samples, .ref a_o_sampleLong, .ref a_o_sampleByte, .ref a_o_idOf, .ref a_o_pieces, .ref a_o_pieceLong, .ref a_o_bytesOf, .ref a_o_dictionary, .ref a_o_covered, .ref a_o_taken, .int o_takenMany, .ref a_o_row, .int o_ahead, .int o_textLong, .ref a_o_cost, .ref a_o_leastD, .ref a_o_out, .int o_outMany, .int o_items, .int o_matches, .ref a_o_text, .int o_textMany])), (a_o_idOf, .inl (cy 1, 6, .inl (upd o_idOf p1.toNatClampNeg 0))), (a_o_pieces, .inl (cy 1, 6, .inl o_pieces))] 1 1 rfl rfl c3 rfl dX7_drop_22 ?_
    refine go_aload_n X dX7_drop_23 0 rfl rfl ?_
    refine go_get X fi_X7_drop_X7 0 rfl rfl 7 (by decide) fl_X7_drop_22 rfl dX7_drop_24 ?_
    refine go_iload_n X dX7_drop_27 1 rfl rfl ?_
    obtain ⟨c4, h⟩ := h
    refine go_iald X 2 1 rfl rfl c4 dX7_drop_28 ?_
    exact hR (o_pieces p1.toNatClampNeg) (0, (upd o_idOf p1.toNatClampNeg 0)) 29 _ dX7_drop_29 rfl h
  · replace h := h.2 c2
    refine go_bipush X (v := (-101)) dX7_drop_13 (by decide) ?_
    exact hR (-101) (0, o_idOf) 15 _ dX7_drop_15 rfl h
/-! X7_sumOf -/
theorem fi_X7_sumOf_X7 : ∀ w ∈ u_ws RX7 TX7 25, w ∈ wsX7_sumOf := by decide +kernel
theorem fl_X7_sumOf_28 : Cond.fieldLink RX7 28 (TX7 9).1 (TX7 9).2.1 (TX7 9).2.2.1 ∈ wsX7_sumOf := by decide +kernel
theorem fl_X7_sumOf_31 : Cond.fieldLink RX7 31 (TX7 10).1 (TX7 10).2.1 (TX7 10).2.2.1 ∈ wsX7_sumOf := by decide +kernel
def rm_X7_sumOf : Room := { frames := 0, cells := 0, slots := 0, locals := 0 }
theorem cd_X7_sumOf : yX7_sumOf.cls = RX7 ∧ yX7_sumOf.cls ≠ "java/lang/invoke/MethodHandle" ∧ yX7_sumOf.cls ≠ "java/lang/invoke/VarHandle" ∧ (parseMethodDescriptor yX7_sumOf.desc).map (fun d => d.parameters.length) = some 1 := by decide +kernel
set_option maxRecDepth 100000 in
set_option maxHeartbeats 4000000 in
theorem pX7_sumOf_7 {p : Program} (l : Launch) {e : Env} {s : State} {m : MethodId} {args : Array Value} {below : List Frame} {meth : Method} {c : Code} {Q : State → Prop} {D : va_G} {cy : Nat → ClassId} {A : Nat → Prop} (X : Cx p s m args c cX7_sumOf 5 RX7 wsX7_sumOf D (tyL cy) A) (a_o : Nat) (a_o_tape : Nat) (a_o_sampleLong : Nat) (a_o_sampleByte : Nat) (a_o_idOf : Nat) (a_o_pieces : Nat) (a_o_pieceLong : Nat) (a_o_bytesOf : Nat) (a_o_dictionary : Nat) (a_o_covered : Nat) (a_o_taken : Nat) (a_o_row : Nat) (a_o_cost : Nat) (a_o_leastD : Nat) (a_o_out : Nat) (a_o_text : Nat) (o_thrown : Int32) (o_taped : Int32) (o_samples : Int32) (o_takenMany : Int32) (o_ahead : Int32) (o_textLong : Int32) (o_outMany : Int32) (o_items : Int32) (o_matches : Int32) (o_textMany : Int32) (o_bytesOf : Nat → Int32) (o_dictionary : Nat → Int32) (v1 : Int32) (K : Int32 → Int32 → Int32 → Prop) (hK : ∀ (v2 : Int32) (v3 : Int32) (v4 : Int32), K v2 v3 v4 → Go p l e rm_X7_sumOf s m args below meth c Q 5 D A [(a_o, .inr (10, [.int o_thrown, .ref a_o_tape, .int o_taped, .int o_samples, .ref a_o_sampleLong, .ref a_o_sampleByte, .ref a_o_idOf, .ref a_o_pieces, .ref a_o_pieceLong, .ref a_o_bytesOf, .ref a_o_dictionary, .ref a_o_covered, .ref a_o_taken, .int o_takenMany, .ref a_o_row, .int o_ahead, .int o_textLong, .ref a_o_cost, .ref a_o_leastD, .ref a_o_out, .int o_outMany, .int o_items, .int o_matches, .ref a_o_text, .int o_textMany])), (a_o_bytesOf, .inl (cy 1, 6, .inl o_bytesOf)), (a_o_dictionary, .inl (cy 1, 480, .inl o_dictionary))] 0 0 51 [(2, .int v2), (3, .int v3)] []) :
    ∀ (n : Nat) (v2 : Int32) (v3 : Int32) (v4 : Int32), wX7_sumOf_7 o_bytesOf o_dictionary v1 K n v2 v3 v4 → Go p l e rm_X7_sumOf s m args below meth c Q 5 D A [(a_o, .inr (10, [.int o_thrown, .ref a_o_tape, .int o_taped, .int o_samples, .ref a_o_sampleLong, .ref a_o_sampleByte, .ref a_o_idOf, .ref a_o_pieces, .ref a_o_pieceLong, .ref a_o_bytesOf, .ref a_o_dictionary, .ref a_o_covered, .ref a_o_taken, .int o_takenMany, .ref a_o_row, .int o_ahead, .int o_textLong, .ref a_o_cost, .ref a_o_leastD, .ref a_o_out, .int o_outMany, .int o_items, .int o_matches, .ref a_o_text, .int o_textMany])), (a_o_bytesOf, .inl (cy 1, 6, .inl o_bytesOf)), (a_o_dictionary, .inl (cy 1, 480, .inl o_dictionary))] 0 0 7 [(0, .ref a_o), (1, .int v1), (2, .int v2), (3, .int v3), (4, .int v4)] [] := by
  intro n
  induction n with
  | zero => intro v2 v3 v4 h; exact absurd h id
  | succ n ih =>
    intro v2 v3 v4 h
    refine go_iload X dX7_sumOf_7 4 rfl ?_
    refine go_aload_n X dX7_sumOf_9 0 rfl rfl ?_
    refine go_get X fi_X7_sumOf_X7 0 rfl rfl 9 (by decide) fl_X7_sumOf_28 rfl dX7_sumOf_10 ?_
    refine go_iload_n X dX7_sumOf_13 1 rfl rfl ?_
    obtain ⟨c4, h⟩ := h
    refine go_iald X 1 1 rfl rfl c4 dX7_sumOf_14 ?_
    refine go_icmp_ge X 51 dX7_sumOf_15 (by decide) (fun c5 => ?_) (fun c5 => ?_)
    · replace h := h.1 c5
      refine go_lv [2, 3] rfl ?_
      exact hK v2 v3 v4 h
    · replace h := h.2 c5
      refine go_iload_n X dX7_sumOf_18 2 rfl rfl ?_
      refine go_aload_n X dX7_sumOf_19 0 rfl rfl ?_
      refine go_get X fi_X7_sumOf_X7 0 rfl rfl 10 (by decide) fl_X7_sumOf_31 rfl dX7_sumOf_20 ?_
      refine go_bipush X (v := 80) dX7_sumOf_23 (by decide) ?_
      refine go_iload_n X dX7_sumOf_25 1 rfl rfl ?_
      refine go_imul X dX7_sumOf_26 ?_
      refine go_iload X dX7_sumOf_27 4 rfl ?_
      refine go_iadd X dX7_sumOf_29 ?_
      obtain ⟨c6, h⟩ := h
      refine go_iald X 2 1 rfl rfl c6 dX7_sumOf_30 ?_
      refine go_iadd X dX7_sumOf_31 ?_
      refine go_sipush X (v := 251) dX7_sumOf_32 (by decide) ?_
      refine go_irem X dX7_sumOf_35 (by decide) ?_
      refine go_topi (fun y7 ey7 => ?_)
      replace h := h y7 ey7
      refine go_istore_n X (lv' := [(2, .int y7), (0, .ref a_o), (1, .int v1), (3, .int v3), (4, .int v4)]) dX7_sumOf_36 rfl (by decide) rfl ?_
      refine go_iload_n X dX7_sumOf_37 3 rfl rfl ?_
      refine go_iload_n X dX7_sumOf_38 0 rfl rfl ?_
      refine go_iadd X dX7_sumOf_39 ?_
      refine go_sipush X (v := 251) dX7_sumOf_40 (by decide) ?_
      refine go_irem X dX7_sumOf_43 (by decide) ?_
      refine go_topi (fun y8 ey8 => ?_)
      replace h := h y8 ey8
      refine go_istore_n X (lv' := [(3, .int y8), (2, .int y7), (0, .ref a_o), (1, .int v1), (4, .int v4)]) dX7_sumOf_44 rfl (by decide) rfl ?_
      obtain ⟨y9, ey9⟩ : ∃ z : Int32, z = v4 + 1 := ⟨_, rfl⟩
      replace h := h y9 ey9
      refine go_iinc X (lv' := [(4, .int y9), (3, .int y8), (2, .int y7), (0, .ref a_o), (1, .int v1)]) y9 dX7_sumOf_45 4 rfl (by rw [ey9]; rfl) (by decide) rfl ?_
      refine go_goto X 7 dX7_sumOf_48 (by decide) ?_
      refine go_lv [3, 4, 2, 1, 0] rfl ?_
      exact ih y7 y8 y9 h
set_option maxRecDepth 100000 in
set_option maxHeartbeats 4000000 in
theorem kX7_sumOf (l : Launch) (D : va_G) (cy : Nat → ClassId) (a_o : Nat) (a_o_tape : Nat) (a_o_sampleLong : Nat) (a_o_sampleByte : Nat) (a_o_idOf : Nat) (a_o_pieces : Nat) (a_o_pieceLong : Nat) (a_o_bytesOf : Nat) (a_o_dictionary : Nat) (a_o_covered : Nat) (a_o_taken : Nat) (a_o_row : Nat) (a_o_cost : Nat) (a_o_leastD : Nat) (a_o_out : Nat) (a_o_text : Nat) (o_thrown : Int32) (o_taped : Int32) (o_samples : Int32) (o_takenMany : Int32) (o_ahead : Int32) (o_textLong : Int32) (o_outMany : Int32) (o_items : Int32) (o_matches : Int32) (o_textMany : Int32) (o_bytesOf : Nat → Int32) (o_dictionary : Nat → Int32) (p1 : Int32) (post : Int32 → Prop) (h : wX7_sumOf o_bytesOf o_dictionary p1 post) : MetI l yX7_sumOf wsX7_sumOf rm_X7_sumOf D (tyL cy) [.ref a_o, .int p1] [(a_o, .inr (10, [.int o_thrown, .ref a_o_tape, .int o_taped, .int o_samples, .ref a_o_sampleLong, .ref a_o_sampleByte, .ref a_o_idOf, .ref a_o_pieces, .ref a_o_pieceLong, .ref a_o_bytesOf, .ref a_o_dictionary, .ref a_o_covered, .ref a_o_taken, .int o_takenMany, .ref a_o_row, .int o_ahead, .int o_textLong, .ref a_o_cost, .ref a_o_leastD, .ref a_o_out, .int o_outMany, .int o_items, .int o_matches, .ref a_o_text, .int o_textMany])), (a_o_bytesOf, .inl (cy 1, 6, .inl o_bytesOf)), (a_o_dictionary, .inl (cy 1, 480, .inl o_dictionary))] (fun u : Unit => [(a_o, .inr (10, [.int o_thrown, .ref a_o_tape, .int o_taped, .int o_samples, .ref a_o_sampleLong, .ref a_o_sampleByte, .ref a_o_idOf, .ref a_o_pieces, .ref a_o_pieceLong, .ref a_o_bytesOf, .ref a_o_dictionary, .ref a_o_covered, .ref a_o_taken, .int o_takenMany, .ref a_o_row, .int o_ahead, .int o_textLong, .ref a_o_cost, .ref a_o_leastD, .ref a_o_out, .int o_outMany, .int o_items, .int o_matches, .ref a_o_text, .int o_textMany])), (a_o_bytesOf, .inl (cy 1, 6, .inl o_bytesOf)), (a_o_dictionary, .inl (cy 1, 480, .inl o_dictionary))]) (fun r => fun (u : Unit) => post r ) 0 0 := by
  refine metI_of (cc := cX7_sumOf) (maxL := 5) (lv := [(0, .ref a_o), (1, .int p1)]) (by decide) rfl (Nat.le_of_ble_eq_true rfl) rfl ?_
  intro p e s m below meth c Q A X hlk hR
  unfold wX7_sumOf at h
  refine go_iconst X (v := 1) dX7_sumOf_0 (by decide) ?_
  refine go_istore_n X (lv' := [(2, .int 1), (0, .ref a_o), (1, .int p1)]) dX7_sumOf_1 rfl (by decide) rfl ?_
  refine go_iconst X (v := 0) dX7_sumOf_2 (by decide) ?_
  refine go_istore_n X (lv' := [(3, .int 0), (2, .int 1), (0, .ref a_o), (1, .int p1)]) dX7_sumOf_3 rfl (by decide) rfl ?_
  refine go_iconst X (v := 0) dX7_sumOf_4 (by decide) ?_
  refine go_istore X (lv' := [(4, .int 0), (3, .int 0), (2, .int 1), (0, .ref a_o), (1, .int p1)]) dX7_sumOf_5 (by decide) rfl ?_
  obtain ⟨n10, h⟩ := h
  refine go_lv [3, 4, 2, 1, 0] rfl ?_
  refine pX7_sumOf_7 l X a_o a_o_tape a_o_sampleLong a_o_sampleByte a_o_idOf a_o_pieces a_o_pieceLong a_o_bytesOf a_o_dictionary a_o_covered a_o_taken a_o_row a_o_cost a_o_leastD a_o_out a_o_text o_thrown o_taped o_samples o_takenMany o_ahead o_textLong o_outMany o_items o_matches o_textMany o_bytesOf o_dictionary p1  _ (fun y1 y2 y3 h => ?_) n10 (1 : Int32) (0 : Int32) (0 : Int32) h
  refine go_sipush X (v := 256) dX7_sumOf_51 (by decide) ?_
  refine go_iload_n X dX7_sumOf_54 1 rfl rfl ?_
  refine go_imul X dX7_sumOf_55 ?_
  refine go_iload_n X dX7_sumOf_56 0 rfl rfl ?_
  refine go_iadd X dX7_sumOf_57 ?_
  exact hR ((256 * y2) + y1) () 58 _ dX7_sumOf_58 rfl h
/-! X7_told -/
theorem fi_X7_told_X7 : ∀ w ∈ u_ws RX7 TX7 25, w ∈ wsX7_told := by decide +kernel
theorem fl_X7_told_60 : Cond.fieldLink RX7 60 (TX7 0).1 (TX7 0).2.1 (TX7 0).2.2.1 ∈ wsX7_told := by decide +kernel
theorem fl_X7_told_19 : Cond.fieldLink RX7 19 (TX7 6).1 (TX7 6).2.1 (TX7 6).2.2.1 ∈ wsX7_told := by decide +kernel
theorem fl_X7_told_22 : Cond.fieldLink RX7 22 (TX7 7).1 (TX7 7).2.1 (TX7 7).2.2.1 ∈ wsX7_told := by decide +kernel
theorem fl_X7_told_28 : Cond.fieldLink RX7 28 (TX7 9).1 (TX7 9).2.1 (TX7 9).2.2.1 ∈ wsX7_told := by decide +kernel
theorem fw_X7_told_c139 : Jvm.Cond.constantLong RX7 139 10 ∈ wsX7_told := by decide +kernel
theorem fl_X7_told_25 : Cond.fieldLink RX7 25 (TX7 8).1 (TX7 8).2.1 (TX7 8).2.2.1 ∈ wsX7_told := by decide +kernel
def rm_X7_told : Room := { frames := 2, cells := 0, slots := 0, locals := 46 }
theorem cd_X7_told : yX7_told.cls = RX7 ∧ yX7_told.cls ≠ "java/lang/invoke/MethodHandle" ∧ yX7_told.cls ≠ "java/lang/invoke/VarHandle" ∧ (parseMethodDescriptor yX7_told.desc).map (fun d => d.parameters.length) = some 2 := by decide +kernel
set_option maxRecDepth 100000 in
set_option maxHeartbeats 4000000 in
theorem kX7_told (l : Launch) (D : va_G) (cy : Nat → ClassId) (a_o : Nat) (a_o_tape : Nat) (a_o_sampleLong : Nat) (a_o_sampleByte : Nat) (a_o_idOf : Nat) (a_o_pieces : Nat) (a_o_pieceLong : Nat) (a_o_bytesOf : Nat) (a_o_dictionary : Nat) (a_o_covered : Nat) (a_o_taken : Nat) (a_o_row : Nat) (a_o_cost : Nat) (a_o_leastD : Nat) (a_o_out : Nat) (a_o_text : Nat) (o_thrown : Int32) (o_taped : Int32) (o_samples : Int32) (o_takenMany : Int32) (o_ahead : Int32) (o_textLong : Int32) (o_outMany : Int32) (o_items : Int32) (o_matches : Int32) (o_textMany : Int32) (o_idOf : Nat → Int32) (o_pieces : Nat → Int32) (o_pieceLong : Nat → Int32) (o_bytesOf : Nat → Int32) (o_dictionary : Nat → Int32) (p1 : Int32) (p2 : Int32) (post : Int32 → Int32 → Prop) (h : wX7_told o_idOf o_pieces o_pieceLong o_bytesOf o_dictionary p1 p2 post) : MetI l yX7_told wsX7_told rm_X7_told D (tyL cy) [.ref a_o, .int p1, .int p2] [(a_o, .inr (10, [.int o_thrown, .ref a_o_tape, .int o_taped, .int o_samples, .ref a_o_sampleLong, .ref a_o_sampleByte, .ref a_o_idOf, .ref a_o_pieces, .ref a_o_pieceLong, .ref a_o_bytesOf, .ref a_o_dictionary, .ref a_o_covered, .ref a_o_taken, .int o_takenMany, .ref a_o_row, .int o_ahead, .int o_textLong, .ref a_o_cost, .ref a_o_leastD, .ref a_o_out, .int o_outMany, .int o_items, .int o_matches, .ref a_o_text, .int o_textMany])), (a_o_idOf, .inl (cy 1, 6, .inl o_idOf)), (a_o_pieces, .inl (cy 1, 6, .inl o_pieces)), (a_o_pieceLong, .inl (cy 1, 480, .inl o_pieceLong)), (a_o_bytesOf, .inl (cy 1, 6, .inl o_bytesOf)), (a_o_dictionary, .inl (cy 1, 480, .inl o_dictionary))] (fun u : Int32 => [(a_o, .inr (10, [.int u, .ref a_o_tape, .int o_taped, .int o_samples, .ref a_o_sampleLong, .ref a_o_sampleByte, .ref a_o_idOf, .ref a_o_pieces, .ref a_o_pieceLong, .ref a_o_bytesOf, .ref a_o_dictionary, .ref a_o_covered, .ref a_o_taken, .int o_takenMany, .ref a_o_row, .int o_ahead, .int o_textLong, .ref a_o_cost, .ref a_o_leastD, .ref a_o_out, .int o_outMany, .int o_items, .int o_matches, .ref a_o_text, .int o_textMany])), (a_o_idOf, .inl (cy 1, 6, .inl o_idOf)), (a_o_pieces, .inl (cy 1, 6, .inl o_pieces)), (a_o_pieceLong, .inl (cy 1, 480, .inl o_pieceLong)), (a_o_bytesOf, .inl (cy 1, 6, .inl o_bytesOf)), (a_o_dictionary, .inl (cy 1, 480, .inl o_dictionary))]) (fun r => fun (u : Int32) => post r u) 0 0 := by
  refine metI_of (cc := cX7_told) (maxL := 3) (lv := [(0, .ref a_o), (1, .int p1), (2, .int p2)]) (by decide) rfl (Nat.le_of_ble_eq_true rfl) rfl ?_
  intro p e s m below meth c Q A X hlk hR
  unfold wX7_told at h
  refine go_aload_n X dX7_told_0 0 rfl rfl ?_
  refine go_iconst X (v := 0) dX7_told_1 (by decide) ?_
  refine go_put X (ws' := [(a_o, .inr (10, [.int 0, .ref a_o_tape, .int o_taped, .int o_samples, .ref a_o_sampleLong, .ref a_o_sampleByte, .ref a_o_idOf, .ref a_o_pieces, .ref a_o_pieceLong, .ref a_o_bytesOf, .ref a_o_dictionary, .ref a_o_covered, .ref a_o_taken, .int o_takenMany, .ref a_o_row, .int o_ahead, .int o_textLong, .ref a_o_cost, .ref a_o_leastD, .ref a_o_out, .int o_outMany, .int o_items, .int o_matches, .ref a_o_text, .int o_textMany])), (a_o_idOf, .inl (cy 1, 6, .inl o_idOf)), (a_o_pieces, .inl (cy 1, 6, .inl o_pieces)), (a_o_pieceLong, .inl (cy 1, 480, .inl o_pieceLong)), (a_o_bytesOf, .inl (cy 1, 6, .inl o_bytesOf)), (a_o_dictionary, .inl (cy 1, 480, .inl o_dictionary))]) fi_X7_told_X7 tyX7 tyX7_ok nmX7 0 rfl rfl 0 (by decide) fl_X7_told_60 rfl (tyX7_ok 0 (by decide)) rfl rfl (Nat.le_of_ble_eq_true rfl) rfl dX7_told_2 ?_
  refine go_aload_n X dX7_told_5 0 rfl rfl ?_
  refine go_iload_n X dX7_told_6 1 rfl rfl ?_
  refine go_callVi X (kX7_isThere l D cy a_o a_o_tape a_o_sampleLong a_o_sampleByte a_o_idOf a_o_pieces a_o_pieceLong a_o_bytesOf a_o_dictionary a_o_covered a_o_taken a_o_row a_o_cost a_o_leastD a_o_out a_o_text 0 o_taped o_samples o_takenMany o_ahead o_textLong o_outMany o_items o_matches o_textMany o_idOf p1 _ h) (cwV 1 X.2.2.2.2.1 gX7_told_X7_isThere rfl rfl rfl cd_X7_isThere ⟨by decide, by decide⟩) (wr := [(a_o_pieces, .inl (cy 1, 6, .inl o_pieces)), (a_o_pieceLong, .inl (cy 1, 480, .inl o_pieceLong)), (a_o_bytesOf, .inl (cy 1, 6, .inl o_bytesOf)), (a_o_dictionary, .inl (cy 1, 480, .inl o_dictionary))]) (ws2 := fun u => [(a_o, .inr (10, [.int 0, .ref a_o_tape, .int o_taped, .int o_samples, .ref a_o_sampleLong, .ref a_o_sampleByte, .ref a_o_idOf, .ref a_o_pieces, .ref a_o_pieceLong, .ref a_o_bytesOf, .ref a_o_dictionary, .ref a_o_covered, .ref a_o_taken, .int o_takenMany, .ref a_o_row, .int o_ahead, .int o_textLong, .ref a_o_cost, .ref a_o_leastD, .ref a_o_out, .int o_outMany, .int o_items, .int o_matches, .ref a_o_text, .int o_textMany])), (a_o_idOf, .inl (cy 1, 6, .inl o_idOf)), (a_o_pieces, .inl (cy 1, 6, .inl o_pieces)), (a_o_pieceLong, .inl (cy 1, 480, .inl o_pieceLong)), (a_o_bytesOf, .inl (cy 1, 6, .inl o_bytesOf)), (a_o_dictionary, .inl (cy 1, 480, .inl o_dictionary))]) (perm_ix 6 [0, 1, 2, 3, 4, 5] rfl (by decide +kernel) rfl) (fun u => perm_ix 6 [0, 1, 2, 3, 4, 5] rfl (by decide +kernel) rfl) rfl rfl rfl rfl (Nat.le_of_ble_eq_true rfl) dX7_told_7 ⟨by decide, by decide⟩ (fun r1 u h => ?_)
  refine go_if_ne X 16 dX7_told_10 (by decide) (fun c2 => ?_) (fun c2 => ?_)
  · replace h := h.1 c2
    refine go_iload_n X dX7_told_16 2 rfl rfl ?_
    by_cases s17_0 : p2 = 0
    · replace h := h.1 s17_0
      refine go_top (x := .int p2) (y := .int 0) (congrArg Value.int s17_0) ?_
      refine go_tableIn (x := 0) (off := 31) X 48 dX7_told_17 (by decide) (by decide) (by decide) (by decide) ?_
      refine go_aload_n X dX7_told_48 0 rfl rfl ?_
      refine go_get X fi_X7_told_X7 0 rfl rfl 6 (by decide) fl_X7_told_19 rfl dX7_told_49 ?_
      refine go_iload_n X dX7_told_52 1 rfl rfl ?_
      obtain ⟨c3, h⟩ := h
      refine go_iald X 1 1 rfl rfl c3 dX7_told_53 ?_
      exact hR (o_idOf p1.toNatClampNeg) 0 54 _ dX7_told_54 rfl h
    · replace h := h.2 s17_0
      by_cases s17_1 : p2 = 1
      · replace h := h.1 s17_1
        refine go_top (x := .int p2) (y := .int 1) (congrArg Value.int s17_1) ?_
        refine go_tableIn (x := 1) (off := 38) X 55 dX7_told_17 (by decide) (by decide) (by decide) (by decide) ?_
        refine go_aload_n X dX7_told_55 0 rfl rfl ?_
        refine go_get X fi_X7_told_X7 0 rfl rfl 7 (by decide) fl_X7_told_22 rfl dX7_told_56 ?_
        refine go_iload_n X dX7_told_59 1 rfl rfl ?_
        obtain ⟨c4, h⟩ := h
        refine go_iald X 2 1 rfl rfl c4 dX7_told_60 ?_
        exact hR (o_pieces p1.toNatClampNeg) 0 61 _ dX7_told_61 rfl h
      · replace h := h.2 s17_1
        by_cases s17_2 : p2 = 2
        · replace h := h.1 s17_2
          refine go_top (x := .int p2) (y := .int 2) (congrArg Value.int s17_2) ?_
          refine go_tableIn (x := 2) (off := 45) X 62 dX7_told_17 (by decide) (by decide) (by decide) (by decide) ?_
          refine go_aload_n X dX7_told_62 0 rfl rfl ?_
          refine go_get X fi_X7_told_X7 0 rfl rfl 9 (by decide) fl_X7_told_28 rfl dX7_told_63 ?_
          refine go_iload_n X dX7_told_66 1 rfl rfl ?_
          obtain ⟨c5, h⟩ := h
          refine go_iald X 4 1 rfl rfl c5 dX7_told_67 ?_
          exact hR (o_bytesOf p1.toNatClampNeg) 0 68 _ dX7_told_68 rfl h
        · replace h := h.2 s17_2
          by_cases s17_3 : p2 = 3
          · replace h := h.1 s17_3
            refine go_top (x := .int p2) (y := .int 3) (congrArg Value.int s17_3) ?_
            refine go_tableIn (x := 3) (off := 52) X 69 dX7_told_17 (by decide) (by decide) (by decide) (by decide) ?_
            refine go_aload_n X dX7_told_69 0 rfl rfl ?_
            refine go_iload_n X dX7_told_70 1 rfl rfl ?_
            refine go_callVi X (kX7_sumOf l D cy a_o a_o_tape a_o_sampleLong a_o_sampleByte a_o_idOf a_o_pieces a_o_pieceLong a_o_bytesOf a_o_dictionary a_o_covered a_o_taken a_o_row a_o_cost a_o_leastD a_o_out a_o_text 0 o_taped o_samples o_takenMany o_ahead o_textLong o_outMany o_items o_matches o_textMany o_bytesOf o_dictionary p1 _ h) (cwV 1 X.2.2.2.2.1 gX7_told_X7_sumOf rfl rfl rfl cd_X7_sumOf ⟨by decide, by decide⟩) (wr := [(a_o_idOf, .inl (cy 1, 6, .inl o_idOf)), (a_o_pieces, .inl (cy 1, 6, .inl o_pieces)), (a_o_pieceLong, .inl (cy 1, 480, .inl o_pieceLong))]) (ws2 := fun u => [(a_o, .inr (10, [.int 0, .ref a_o_tape, .int o_taped, .int o_samples, .ref a_o_sampleLong, .ref a_o_sampleByte, .ref a_o_idOf, .ref a_o_pieces, .ref a_o_pieceLong, .ref a_o_bytesOf, .ref a_o_dictionary, .ref a_o_covered, .ref a_o_taken, .int o_takenMany, .ref a_o_row, .int o_ahead, .int o_textLong, .ref a_o_cost, .ref a_o_leastD, .ref a_o_out, .int o_outMany, .int o_items, .int o_matches, .ref a_o_text, .int o_textMany])), (a_o_idOf, .inl (cy 1, 6, .inl o_idOf)), (a_o_pieces, .inl (cy 1, 6, .inl o_pieces)), (a_o_pieceLong, .inl (cy 1, 480, .inl o_pieceLong)), (a_o_bytesOf, .inl (cy 1, 6, .inl o_bytesOf)), (a_o_dictionary, .inl (cy 1, 480, .inl o_dictionary))]) (perm_ix 6 [0, 4, 5, 1, 2, 3] rfl (by decide +kernel) rfl) (fun u => perm_ix 6 [0, 3, 4, 5, 1, 2] rfl (by decide +kernel) rfl) rfl rfl rfl rfl (Nat.le_of_ble_eq_true rfl) dX7_told_71 ⟨by decide, by decide⟩ (fun r6 u h => ?_)
            exact hR r6 0 74 _ dX7_told_74 rfl h
          · replace h := h.2 s17_3
            have t17 : p2.toInt < 0 ∨ 3 < p2.toInt := by
              have g0 := lv_neT s17_0 (a := 0) (by decide)
              have g1 := lv_neT s17_1 (a := 1) (by decide)
              have g2 := lv_neT s17_2 (a := 2) (by decide)
              have g3 := lv_neT s17_3 (a := 3) (by decide)
              omega
            refine go_tableOut X 75 dX7_told_17 t17 (by decide) ?_
            refine go_iload_n X dX7_told_75 2 rfl rfl ?_
            refine go_i2l X dX7_told_76 ?_
            refine go_ldc2 X fw_X7_told_c139 dX7_told_77 ?_
            refine go_bipush X (v := 9) dX7_told_80 (by decide) ?_
            refine go_aload_n X dX7_told_82 0 rfl rfl ?_
            refine go_get X fi_X7_told_X7 0 rfl rfl 7 (by decide) fl_X7_told_22 rfl dX7_told_83 ?_
            refine go_iload_n X dX7_told_86 1 rfl rfl ?_
            obtain ⟨c7, h⟩ := h
            refine go_iald X 2 1 rfl rfl c7 dX7_told_87 ?_
            refine go_iadd X dX7_told_88 ?_
            refine go_i2l X dX7_told_89 ?_
            refine go_callSi X (kX7_in l D cy p2.toInt64 (10 : Int64) ((9 + (o_pieces p1.toNatClampNeg)).toInt64) _ h) (va_cwS 3 X.2.2.2.2.1 gX7_told_X7_in rfl rfl rfl cd_X7_in ⟨by decide, by decide⟩) (wr := [(a_o, .inr (10, [.int 0, .ref a_o_tape, .int o_taped, .int o_samples, .ref a_o_sampleLong, .ref a_o_sampleByte, .ref a_o_idOf, .ref a_o_pieces, .ref a_o_pieceLong, .ref a_o_bytesOf, .ref a_o_dictionary, .ref a_o_covered, .ref a_o_taken, .int o_takenMany, .ref a_o_row, .int o_ahead, .int o_textLong, .ref a_o_cost, .ref a_o_leastD, .ref a_o_out, .int o_outMany, .int o_items, .int o_matches, .ref a_o_text, .int o_textMany])), (a_o_idOf, .inl (cy 1, 6, .inl o_idOf)), (a_o_pieces, .inl (cy 1, 6, .inl o_pieces)), (a_o_pieceLong, .inl (cy 1, 480, .inl o_pieceLong)), (a_o_bytesOf, .inl (cy 1, 6, .inl o_bytesOf)), (a_o_dictionary, .inl (cy 1, 480, .inl o_dictionary))]) (ws2 := fun u => [(a_o, .inr (10, [.int 0, .ref a_o_tape, .int o_taped, .int o_samples, .ref a_o_sampleLong, .ref a_o_sampleByte, .ref a_o_idOf, .ref a_o_pieces, .ref a_o_pieceLong, .ref a_o_bytesOf, .ref a_o_dictionary, .ref a_o_covered, .ref a_o_taken, .int o_takenMany, .ref a_o_row, .int o_ahead, .int o_textLong, .ref a_o_cost, .ref a_o_leastD, .ref a_o_out, .int o_outMany, .int o_items, .int o_matches, .ref a_o_text, .int o_textMany])), (a_o_idOf, .inl (cy 1, 6, .inl o_idOf)), (a_o_pieces, .inl (cy 1, 6, .inl o_pieces)), (a_o_pieceLong, .inl (cy 1, 480, .inl o_pieceLong)), (a_o_bytesOf, .inl (cy 1, 6, .inl o_bytesOf)), (a_o_dictionary, .inl (cy 1, 480, .inl o_dictionary))]) (perm_ix 6 [0, 1, 2, 3, 4, 5] rfl (by decide +kernel) rfl) (fun u => perm_ix 6 [0, 1, 2, 3, 4, 5] rfl (by decide +kernel) rfl) rfl rfl (Nat.le_of_ble_eq_true rfl) dX7_told_90 ⟨by decide, by decide⟩ (fun r8 u h => ?_)
            refine go_if_eq X 113 dX7_told_93 (by decide) (fun c9 => ?_) (fun c9 => ?_)
            · replace h := h.1 c9
              refine go_bipush X (v := (-102)) dX7_told_113 (by decide) ?_
              exact hR (-102) 0 115 _ dX7_told_115 rfl h
            · replace h := h.2 c9
              refine go_aload_n X dX7_told_96 0 rfl rfl ?_
              refine go_get X fi_X7_told_X7 0 rfl rfl 8 (by decide) fl_X7_told_25 rfl dX7_told_97 ?_
              refine go_bipush X (v := 80) dX7_told_100 (by decide) ?_
              refine go_iload_n X dX7_told_102 1 rfl rfl ?_
              refine go_imul X dX7_told_103 ?_
              refine go_iload_n X dX7_told_104 2 rfl rfl ?_
              refine go_iadd X dX7_told_105 ?_
              refine go_bipush X (v := 10) dX7_told_106 (by decide) ?_
              refine go_isub X dX7_told_108 ?_
              obtain ⟨c10, h⟩ := h
              refine go_iald X 3 1 rfl rfl c10 dX7_told_109 ?_
              refine go_goto X 115 dX7_told_110 (by decide) ?_
              exact hR (o_pieceLong (((80 * p1) + p2) - 10).toNatClampNeg) 0 115 _ dX7_told_115 rfl h
  · replace h := h.2 c2
    refine go_bipush X (v := (-101)) dX7_told_13 (by decide) ?_
    exact hR (-101) 0 15 _ dX7_told_15 rfl h
/-! X7_content -/
theorem fw_X7_content_c81 : Jvm.Cond.constantLong RX7 81 5 ∈ wsX7_content := by decide +kernel
theorem fi_X7_content_X7 : ∀ w ∈ u_ws RX7 TX7 25, w ∈ wsX7_content := by decide +kernel
theorem fl_X7_content_19 : Cond.fieldLink RX7 19 (TX7 6).1 (TX7 6).2.1 (TX7 6).2.2.1 ∈ wsX7_content := by decide +kernel
theorem fl_X7_content_28 : Cond.fieldLink RX7 28 (TX7 9).1 (TX7 9).2.1 (TX7 9).2.2.1 ∈ wsX7_content := by decide +kernel
theorem fl_X7_content_60 : Cond.fieldLink RX7 60 (TX7 0).1 (TX7 0).2.1 (TX7 0).2.2.1 ∈ wsX7_content := by decide +kernel
theorem fl_X7_content_31 : Cond.fieldLink RX7 31 (TX7 10).1 (TX7 10).2.1 (TX7 10).2.2.1 ∈ wsX7_content := by decide +kernel
def rm_X7_content : Room := { frames := 1, cells := 0, slots := 0, locals := 25 }
theorem cd_X7_content : yX7_content.cls = RX7 ∧ yX7_content.cls ≠ "java/lang/invoke/MethodHandle" ∧ yX7_content.cls ≠ "java/lang/invoke/VarHandle" ∧ (parseMethodDescriptor yX7_content.desc).map (fun d => d.parameters.length) = some 2 := by decide +kernel
set_option maxRecDepth 100000 in
set_option maxHeartbeats 4000000 in
theorem kX7_content (l : Launch) (D : va_G) (cy : Nat → ClassId) (a_o : Nat) (a_o_tape : Nat) (a_o_sampleLong : Nat) (a_o_sampleByte : Nat) (a_o_idOf : Nat) (a_o_pieces : Nat) (a_o_pieceLong : Nat) (a_o_bytesOf : Nat) (a_o_dictionary : Nat) (a_o_covered : Nat) (a_o_taken : Nat) (a_o_row : Nat) (a_o_cost : Nat) (a_o_leastD : Nat) (a_o_out : Nat) (a_o_text : Nat) (o_thrown : Int32) (o_taped : Int32) (o_samples : Int32) (o_takenMany : Int32) (o_ahead : Int32) (o_textLong : Int32) (o_outMany : Int32) (o_items : Int32) (o_matches : Int32) (o_textMany : Int32) (o_idOf : Nat → Int32) (o_bytesOf : Nat → Int32) (o_dictionary : Nat → Int32) (p1 : Int32) (p2 : Int32) (post : Int32 → Int32 → Prop) (h : wX7_content o_idOf o_bytesOf o_dictionary p1 p2 post) : MetI l yX7_content wsX7_content rm_X7_content D (tyL cy) [.ref a_o, .int p1, .int p2] [(a_o, .inr (10, [.int o_thrown, .ref a_o_tape, .int o_taped, .int o_samples, .ref a_o_sampleLong, .ref a_o_sampleByte, .ref a_o_idOf, .ref a_o_pieces, .ref a_o_pieceLong, .ref a_o_bytesOf, .ref a_o_dictionary, .ref a_o_covered, .ref a_o_taken, .int o_takenMany, .ref a_o_row, .int o_ahead, .int o_textLong, .ref a_o_cost, .ref a_o_leastD, .ref a_o_out, .int o_outMany, .int o_items, .int o_matches, .ref a_o_text, .int o_textMany])), (a_o_idOf, .inl (cy 1, 6, .inl o_idOf)), (a_o_bytesOf, .inl (cy 1, 6, .inl o_bytesOf)), (a_o_dictionary, .inl (cy 1, 480, .inl o_dictionary))] (fun u : Int32 => [(a_o, .inr (10, [.int u, .ref a_o_tape, .int o_taped, .int o_samples, .ref a_o_sampleLong, .ref a_o_sampleByte, .ref a_o_idOf, .ref a_o_pieces, .ref a_o_pieceLong, .ref a_o_bytesOf, .ref a_o_dictionary, .ref a_o_covered, .ref a_o_taken, .int o_takenMany, .ref a_o_row, .int o_ahead, .int o_textLong, .ref a_o_cost, .ref a_o_leastD, .ref a_o_out, .int o_outMany, .int o_items, .int o_matches, .ref a_o_text, .int o_textMany])), (a_o_idOf, .inl (cy 1, 6, .inl o_idOf)), (a_o_bytesOf, .inl (cy 1, 6, .inl o_bytesOf)), (a_o_dictionary, .inl (cy 1, 480, .inl o_dictionary))]) (fun r => fun (u : Int32) => post r u) 0 0 := by
  refine metI_of (cc := cX7_content) (maxL := 3) (lv := [(0, .ref a_o), (1, .int p1), (2, .int p2)]) (by decide) rfl (Nat.le_of_ble_eq_true rfl) rfl ?_
  intro p e s m below meth c Q A X hlk hR
  unfold wX7_content at h
  refine go_aload_n X dX7_content_0 0 rfl rfl ?_
  refine go_iload_n X dX7_content_1 1 rfl rfl ?_
  refine go_i2l X dX7_content_2 ?_
  refine go_lconst X (v := 0) dX7_content_3 (by decide) ?_
  refine go_ldc2 X fw_X7_content_c81 dX7_content_4 ?_
  refine go_callSi X (kX7_in l D cy p1.toInt64 (0 : Int64) (5 : Int64) _ h) (va_cwS 3 X.2.2.2.2.1 gX7_content_X7_in rfl rfl rfl cd_X7_in ⟨by decide, by decide⟩) (wr := [(a_o, .inr (10, [.int o_thrown, .ref a_o_tape, .int o_taped, .int o_samples, .ref a_o_sampleLong, .ref a_o_sampleByte, .ref a_o_idOf, .ref a_o_pieces, .ref a_o_pieceLong, .ref a_o_bytesOf, .ref a_o_dictionary, .ref a_o_covered, .ref a_o_taken, .int o_takenMany, .ref a_o_row, .int o_ahead, .int o_textLong, .ref a_o_cost, .ref a_o_leastD, .ref a_o_out, .int o_outMany, .int o_items, .int o_matches, .ref a_o_text, .int o_textMany])), (a_o_idOf, .inl (cy 1, 6, .inl o_idOf)), (a_o_bytesOf, .inl (cy 1, 6, .inl o_bytesOf)), (a_o_dictionary, .inl (cy 1, 480, .inl o_dictionary))]) (ws2 := fun u => [(a_o, .inr (10, [.int o_thrown, .ref a_o_tape, .int o_taped, .int o_samples, .ref a_o_sampleLong, .ref a_o_sampleByte, .ref a_o_idOf, .ref a_o_pieces, .ref a_o_pieceLong, .ref a_o_bytesOf, .ref a_o_dictionary, .ref a_o_covered, .ref a_o_taken, .int o_takenMany, .ref a_o_row, .int o_ahead, .int o_textLong, .ref a_o_cost, .ref a_o_leastD, .ref a_o_out, .int o_outMany, .int o_items, .int o_matches, .ref a_o_text, .int o_textMany])), (a_o_idOf, .inl (cy 1, 6, .inl o_idOf)), (a_o_bytesOf, .inl (cy 1, 6, .inl o_bytesOf)), (a_o_dictionary, .inl (cy 1, 480, .inl o_dictionary))]) (perm_idx [0, 1, 2, 3] rfl rfl) (fun u => perm_idx [0, 1, 2, 3] rfl rfl) rfl rfl (Nat.le_of_ble_eq_true rfl) dX7_content_7 ⟨by decide, by decide⟩ (fun r1 u h => ?_)
  refine go_if_ne X 17 dX7_content_10 (by decide) (fun c2 => ?_) (fun c2 => ?_)
  · replace h := h.1 c2
    refine go_aload_n X dX7_content_17 0 rfl rfl ?_
    refine go_get X fi_X7_content_X7 0 rfl rfl 6 (by decide) fl_X7_content_19 rfl dX7_content_18 ?_
    refine go_iload_n X dX7_content_21 1 rfl rfl ?_
    obtain ⟨c3, h⟩ := h
    refine go_iald X 1 1 rfl rfl c3 dX7_content_22 ?_
    refine go_if_ne X 30 dX7_content_23 (by decide) (fun c4 => ?_) (fun c4 => ?_)
    · replace h := h.1 c4
      refine go_iload_n X dX7_content_30 2 rfl rfl ?_
      refine go_i2l X dX7_content_31 ?_
      refine go_lconst X (v := 0) dX7_content_32 (by decide) ?_
      refine go_aload_n X dX7_content_33 0 rfl rfl ?_
      refine go_get X fi_X7_content_X7 0 rfl rfl 9 (by decide) fl_X7_content_28 rfl dX7_content_34 ?_
      refine go_iload_n X dX7_content_37 1 rfl rfl ?_
      obtain ⟨c5, h⟩ := h
      refine go_iald X 2 1 rfl rfl c5 dX7_content_38 ?_
      refine go_iconst X (v := 1) dX7_content_39 (by decide) ?_
      refine go_isub X dX7_content_40 ?_
      refine go_i2l X dX7_content_41 ?_
      refine go_callSi X (kX7_in l D cy p2.toInt64 (0 : Int64) (((o_bytesOf p1.toNatClampNeg) - 1).toInt64) _ h) (va_cwS 3 X.2.2.2.2.1 gX7_content_X7_in rfl rfl rfl cd_X7_in ⟨by decide, by decide⟩) (wr := [(a_o, .inr (10, [.int o_thrown, .ref a_o_tape, .int o_taped, .int o_samples, .ref a_o_sampleLong, .ref a_o_sampleByte, .ref a_o_idOf, .ref a_o_pieces, .ref a_o_pieceLong, .ref a_o_bytesOf, .ref a_o_dictionary, .ref a_o_covered, .ref a_o_taken, .int o_takenMany, .ref a_o_row, .int o_ahead, .int o_textLong, .ref a_o_cost, .ref a_o_leastD, .ref a_o_out, .int o_outMany, .int o_items, .int o_matches, .ref a_o_text, .int o_textMany])), (a_o_idOf, .inl (cy 1, 6, .inl o_idOf)), (a_o_bytesOf, .inl (cy 1, 6, .inl o_bytesOf)), (a_o_dictionary, .inl (cy 1, 480, .inl o_dictionary))]) (ws2 := fun u => [(a_o, .inr (10, [.int o_thrown, .ref a_o_tape, .int o_taped, .int o_samples, .ref a_o_sampleLong, .ref a_o_sampleByte, .ref a_o_idOf, .ref a_o_pieces, .ref a_o_pieceLong, .ref a_o_bytesOf, .ref a_o_dictionary, .ref a_o_covered, .ref a_o_taken, .int o_takenMany, .ref a_o_row, .int o_ahead, .int o_textLong, .ref a_o_cost, .ref a_o_leastD, .ref a_o_out, .int o_outMany, .int o_items, .int o_matches, .ref a_o_text, .int o_textMany])), (a_o_idOf, .inl (cy 1, 6, .inl o_idOf)), (a_o_bytesOf, .inl (cy 1, 6, .inl o_bytesOf)), (a_o_dictionary, .inl (cy 1, 480, .inl o_dictionary))]) (perm_idx [0, 1, 2, 3] rfl rfl) (fun u => perm_idx [0, 1, 2, 3] rfl rfl) rfl rfl (Nat.le_of_ble_eq_true rfl) dX7_content_42 ⟨by decide, by decide⟩ (fun r6 u h => ?_)
      refine go_if_eq X 52 dX7_content_45 (by decide) (fun c7 => ?_) (fun c7 => ?_)
      · replace h := h.1 c7
        refine go_iconst X (v := 2) dX7_content_52 (by decide) ?_
        refine go_put X (ws' := [(a_o, .inr (10, [.int 2, .ref a_o_tape, .int o_taped, .int o_samples, .ref a_o_sampleLong, .ref a_o_sampleByte, .ref a_o_idOf, .ref a_o_pieces, .ref a_o_pieceLong, .ref a_o_bytesOf, .ref a_o_dictionary, .ref a_o_covered, .ref a_o_taken, .int o_takenMany, .ref a_o_row, .int o_ahead, .int o_textLong, .ref a_o_cost, .ref a_o_leastD, .ref a_o_out, .int o_outMany, .int o_items, .int o_matches, .ref a_o_text, .int o_textMany])), (a_o_idOf, .inl (cy 1, 6, .inl o_idOf)), (a_o_bytesOf, .inl (cy 1, 6, .inl o_bytesOf)), (a_o_dictionary, .inl (cy 1, 480, .inl o_dictionary))]) fi_X7_content_X7 tyX7 tyX7_ok nmX7 0 rfl rfl 0 (by decide) fl_X7_content_60 rfl (tyX7_ok 0 (by decide)) rfl rfl (Nat.le_of_ble_eq_true rfl) rfl dX7_content_53 ?_
        refine go_aload_n X dX7_content_56 0 rfl rfl ?_
        refine go_get X fi_X7_content_X7 0 rfl rfl 0 (by decide) fl_X7_content_60 rfl dX7_content_57 ?_
        refine go_if_le X 67 dX7_content_60 (by decide) (fun c0 => absurd c0 (by decide)) (fun _ => ?_)
        refine go_iconst X (v := 0) dX7_content_63 (by decide) ?_
        refine go_goto X 79 dX7_content_64 (by decide) ?_
        exact hR 0 2 79 _ dX7_content_79 rfl h
      · replace h := h.2 c7
        refine go_iconst X (v := 0) dX7_content_48 (by decide) ?_
        refine go_goto X 53 dX7_content_49 (by decide) ?_
        refine go_put X (ws' := [(a_o, .inr (10, [.int 0, .ref a_o_tape, .int o_taped, .int o_samples, .ref a_o_sampleLong, .ref a_o_sampleByte, .ref a_o_idOf, .ref a_o_pieces, .ref a_o_pieceLong, .ref a_o_bytesOf, .ref a_o_dictionary, .ref a_o_covered, .ref a_o_taken, .int o_takenMany, .ref a_o_row, .int o_ahead, .int o_textLong, .ref a_o_cost, .ref a_o_leastD, .ref a_o_out, .int o_outMany, .int o_items, .int o_matches, .ref a_o_text, .int o_textMany])), (a_o_idOf, .inl (cy 1, 6, .inl o_idOf)), (a_o_bytesOf, .inl (cy 1, 6, .inl o_bytesOf)), (a_o_dictionary, .inl (cy 1, 480, .inl o_dictionary))]) fi_X7_content_X7 tyX7 tyX7_ok nmX7 0 rfl rfl 0 (by decide) fl_X7_content_60 rfl (tyX7_ok 0 (by decide)) rfl rfl (Nat.le_of_ble_eq_true rfl) rfl dX7_content_53 ?_
        refine go_aload_n X dX7_content_56 0 rfl rfl ?_
        refine go_get X fi_X7_content_X7 0 rfl rfl 0 (by decide) fl_X7_content_60 rfl dX7_content_57 ?_
        refine go_if_le X 67 dX7_content_60 (by decide) (fun _ => ?_) (fun c0 => absurd c0 (by decide))
        refine go_aload_n X dX7_content_67 0 rfl rfl ?_
        refine go_get X fi_X7_content_X7 0 rfl rfl 10 (by decide) fl_X7_content_31 rfl dX7_content_68 ?_
        refine go_bipush X (v := 80) dX7_content_71 (by decide) ?_
        refine go_iload_n X dX7_content_73 1 rfl rfl ?_
        refine go_imul X dX7_content_74 ?_
        refine go_iload_n X dX7_content_75 2 rfl rfl ?_
        refine go_iadd X dX7_content_76 ?_
        obtain ⟨c8, h⟩ := h
        refine go_iald X 3 1 rfl rfl c8 dX7_content_77 ?_
        refine go_i2b X dX7_content_78 ?_
        exact hR ((o_dictionary ((80 * p1) + p2).toNatClampNeg).toInt8.toInt32) 0 79 _ dX7_content_79 h.1 h.2
    · replace h := h.2 c4
      refine go_iconst X (v := 1) dX7_content_26 (by decide) ?_
      refine go_goto X 53 dX7_content_27 (by decide) ?_
      refine go_put X (ws' := [(a_o, .inr (10, [.int 1, .ref a_o_tape, .int o_taped, .int o_samples, .ref a_o_sampleLong, .ref a_o_sampleByte, .ref a_o_idOf, .ref a_o_pieces, .ref a_o_pieceLong, .ref a_o_bytesOf, .ref a_o_dictionary, .ref a_o_covered, .ref a_o_taken, .int o_takenMany, .ref a_o_row, .int o_ahead, .int o_textLong, .ref a_o_cost, .ref a_o_leastD, .ref a_o_out, .int o_outMany, .int o_items, .int o_matches, .ref a_o_text, .int o_textMany])), (a_o_idOf, .inl (cy 1, 6, .inl o_idOf)), (a_o_bytesOf, .inl (cy 1, 6, .inl o_bytesOf)), (a_o_dictionary, .inl (cy 1, 480, .inl o_dictionary))]) fi_X7_content_X7 tyX7 tyX7_ok nmX7 0 rfl rfl 0 (by decide) fl_X7_content_60 rfl (tyX7_ok 0 (by decide)) rfl rfl (Nat.le_of_ble_eq_true rfl) rfl dX7_content_53 ?_
      refine go_aload_n X dX7_content_56 0 rfl rfl ?_
      refine go_get X fi_X7_content_X7 0 rfl rfl 0 (by decide) fl_X7_content_60 rfl dX7_content_57 ?_
      refine go_if_le X 67 dX7_content_60 (by decide) (fun c0 => absurd c0 (by decide)) (fun _ => ?_)
      refine go_iconst X (v := 0) dX7_content_63 (by decide) ?_
      refine go_goto X 79 dX7_content_64 (by decide) ?_
      exact hR 0 1 79 _ dX7_content_79 rfl h
  · replace h := h.2 c2
    refine go_iconst X (v := 2) dX7_content_13 (by decide) ?_
    refine go_goto X 53 dX7_content_14 (by decide) ?_
    refine go_put X (ws' := [(a_o, .inr (10, [.int 2, .ref a_o_tape, .int o_taped, .int o_samples, .ref a_o_sampleLong, .ref a_o_sampleByte, .ref a_o_idOf, .ref a_o_pieces, .ref a_o_pieceLong, .ref a_o_bytesOf, .ref a_o_dictionary, .ref a_o_covered, .ref a_o_taken, .int o_takenMany, .ref a_o_row, .int o_ahead, .int o_textLong, .ref a_o_cost, .ref a_o_leastD, .ref a_o_out, .int o_outMany, .int o_items, .int o_matches, .ref a_o_text, .int o_textMany])), (a_o_idOf, .inl (cy 1, 6, .inl o_idOf)), (a_o_bytesOf, .inl (cy 1, 6, .inl o_bytesOf)), (a_o_dictionary, .inl (cy 1, 480, .inl o_dictionary))]) fi_X7_content_X7 tyX7 tyX7_ok nmX7 0 rfl rfl 0 (by decide) fl_X7_content_60 rfl (tyX7_ok 0 (by decide)) rfl rfl (Nat.le_of_ble_eq_true rfl) rfl dX7_content_53 ?_
    refine go_aload_n X dX7_content_56 0 rfl rfl ?_
    refine go_get X fi_X7_content_X7 0 rfl rfl 0 (by decide) fl_X7_content_60 rfl dX7_content_57 ?_
    refine go_if_le X 67 dX7_content_60 (by decide) (fun c0 => absurd c0 (by decide)) (fun _ => ?_)
    refine go_iconst X (v := 0) dX7_content_63 (by decide) ?_
    refine go_goto X 79 dX7_content_64 (by decide) ?_
    exact hR 0 2 79 _ dX7_content_79 rfl h
/-! X7_put -/
theorem fi_X7_put_X7 : ∀ w ∈ u_ws RX7 TX7 25, w ∈ wsX7_put := by decide +kernel
theorem fl_X7_put_50 : Cond.fieldLink RX7 50 (TX7 19).1 (TX7 19).2.1 (TX7 19).2.2.1 ∈ wsX7_put := by decide +kernel
theorem fl_X7_put_141 : Cond.fieldLink RX7 141 (TX7 20).1 (TX7 20).2.1 (TX7 20).2.2.1 ∈ wsX7_put := by decide +kernel
def rm_X7_put : Room := { frames := 0, cells := 0, slots := 0, locals := 0 }
theorem cd_X7_put : yX7_put.cls = RX7 ∧ yX7_put.cls ≠ "java/lang/invoke/MethodHandle" ∧ yX7_put.cls ≠ "java/lang/invoke/VarHandle" ∧ (parseMethodDescriptor yX7_put.desc).map (fun d => d.parameters.length) = some 1 := by decide +kernel
set_option maxRecDepth 100000 in
set_option maxHeartbeats 4000000 in
theorem kX7_put (l : Launch) (D : va_G) (cy : Nat → ClassId) (a_o : Nat) (a_o_tape : Nat) (a_o_sampleLong : Nat) (a_o_sampleByte : Nat) (a_o_idOf : Nat) (a_o_pieces : Nat) (a_o_pieceLong : Nat) (a_o_bytesOf : Nat) (a_o_dictionary : Nat) (a_o_covered : Nat) (a_o_taken : Nat) (a_o_row : Nat) (a_o_cost : Nat) (a_o_leastD : Nat) (a_o_out : Nat) (a_o_text : Nat) (o_thrown : Int32) (o_taped : Int32) (o_samples : Int32) (o_takenMany : Int32) (o_ahead : Int32) (o_textLong : Int32) (o_outMany : Int32) (o_items : Int32) (o_matches : Int32) (o_textMany : Int32) (o_out : Nat → Int32) (p1 : Int32) (post : Int32 → (Nat → Int32) → Prop) (h : wX7_put o_outMany o_out p1 post) : MetV l yX7_put wsX7_put rm_X7_put D (tyL cy) [.ref a_o, .int p1] [(a_o, .inr (10, [.int o_thrown, .ref a_o_tape, .int o_taped, .int o_samples, .ref a_o_sampleLong, .ref a_o_sampleByte, .ref a_o_idOf, .ref a_o_pieces, .ref a_o_pieceLong, .ref a_o_bytesOf, .ref a_o_dictionary, .ref a_o_covered, .ref a_o_taken, .int o_takenMany, .ref a_o_row, .int o_ahead, .int o_textLong, .ref a_o_cost, .ref a_o_leastD, .ref a_o_out, .int o_outMany, .int o_items, .int o_matches, .ref a_o_text, .int o_textMany])), (a_o_out, .inl (cy 1, 400, .inl o_out))] (fun u : Int32 × (Nat → Int32) => [(a_o, .inr (10, [.int o_thrown, .ref a_o_tape, .int o_taped, .int o_samples, .ref a_o_sampleLong, .ref a_o_sampleByte, .ref a_o_idOf, .ref a_o_pieces, .ref a_o_pieceLong, .ref a_o_bytesOf, .ref a_o_dictionary, .ref a_o_covered, .ref a_o_taken, .int o_takenMany, .ref a_o_row, .int o_ahead, .int o_textLong, .ref a_o_cost, .ref a_o_leastD, .ref a_o_out, .int u.1, .int o_items, .int o_matches, .ref a_o_text, .int o_textMany])), (a_o_out, .inl (cy 1, 400, .inl u.2))]) (fun (u : Int32 × (Nat → Int32)) => post u.1 u.2) 0 0 := by
  refine metV_of (cc := cX7_put) (maxL := 2) (lv := [(0, .ref a_o), (1, .int p1)]) (by decide) rfl (Nat.le_of_ble_eq_true rfl) rfl ?_
  intro p e s m below meth c Q A X hlk hnm hR
  unfold wX7_put at h
  refine go_aload_n X dX7_put_0 0 rfl rfl ?_
  refine go_get X fi_X7_put_X7 0 rfl rfl 19 (by decide) fl_X7_put_50 rfl dX7_put_1 ?_
  refine go_aload_n X dX7_put_4 0 rfl rfl ?_
  refine go_get X fi_X7_put_X7 0 rfl rfl 20 (by decide) fl_X7_put_141 rfl dX7_put_5 ?_
  refine go_iload_n X dX7_put_8 1 rfl rfl ?_
  obtain ⟨c1, h⟩ := h
  refine go_iast X [(a_o, .inr (10, [.int o_thrown, .ref a_o_tape, .int o_taped, .int o_samples, .ref a_o_sampleLong, .ref a_o_sampleByte, .ref a_o_idOf, .ref a_o_pieces, .ref a_o_pieceLong, .ref a_o_bytesOf, .ref a_o_dictionary, .ref a_o_covered, .ref a_o_taken, .int o_takenMany, .ref a_o_row, .int o_ahead, .int o_textLong, .ref a_o_cost, .ref a_o_leastD, .ref a_o_out, .int o_outMany, .int o_items, .int o_matches, .ref a_o_text, .int o_textMany])), (a_o_out, .inl (cy 1, 400, .inl (upd o_out o_outMany.toNatClampNeg p1)))] 1 1 rfl rfl c1 rfl dX7_put_9 ?_
  refine go_aload_n X dX7_put_10 0 rfl rfl ?_
  refine go_dup X dX7_put_11 rfl ?_
  refine go_get X fi_X7_put_X7 0 rfl rfl 20 (by decide) fl_X7_put_141 rfl dX7_put_12 ?_
  refine go_iconst X (v := 1) dX7_put_15 (by decide) ?_
  refine go_iadd X dX7_put_16 ?_
  refine go_topi (fun y2 ey2 => ?_)
  replace h := h y2 ey2
  refine go_put X (ws' := [(a_o, .inr (10, [.int o_thrown, .ref a_o_tape, .int o_taped, .int o_samples, .ref a_o_sampleLong, .ref a_o_sampleByte, .ref a_o_idOf, .ref a_o_pieces, .ref a_o_pieceLong, .ref a_o_bytesOf, .ref a_o_dictionary, .ref a_o_covered, .ref a_o_taken, .int o_takenMany, .ref a_o_row, .int o_ahead, .int o_textLong, .ref a_o_cost, .ref a_o_leastD, .ref a_o_out, .int y2, .int o_items, .int o_matches, .ref a_o_text, .int o_textMany])), (a_o_out, .inl (cy 1, 400, .inl (upd o_out o_outMany.toNatClampNeg p1)))]) fi_X7_put_X7 tyX7 tyX7_ok nmX7 0 rfl rfl 20 (by decide) fl_X7_put_141 rfl (tyX7_ok 20 (by decide)) rfl rfl (Nat.le_of_ble_eq_true rfl) rfl dX7_put_17 ?_
  exact hR (y2, (upd o_out o_outMany.toNatClampNeg p1)) 20 _ dX7_put_20 h
