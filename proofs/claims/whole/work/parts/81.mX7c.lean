/-! X7_pieceAt -/
theorem fi_X7_pieceAt_X7 : ∀ w ∈ u_ws RX7 TX7 25, w ∈ wsX7_pieceAt := by decide +kernel
theorem fl_X7_pieceAt_25 : Cond.fieldLink RX7 25 (TX7 8).1 (TX7 8).2.1 (TX7 8).2.2.1 ∈ wsX7_pieceAt := by decide +kernel
def rm_X7_pieceAt : Room := { frames := 0, cells := 0, slots := 0, locals := 0 }
theorem cd_X7_pieceAt : yX7_pieceAt.cls = RX7 ∧ yX7_pieceAt.cls ≠ "java/lang/invoke/MethodHandle" ∧ yX7_pieceAt.cls ≠ "java/lang/invoke/VarHandle" ∧ (parseMethodDescriptor yX7_pieceAt.desc).map (fun d => d.parameters.length) = some 2 := by decide +kernel
set_option maxRecDepth 100000 in
set_option maxHeartbeats 4000000 in
theorem pX7_pieceAt_5 {p : Program} (l : Launch) {e : Env} {s : State} {m : MethodId} {args : Array Value} {below : List Frame} {meth : Method} {c : Code} {Q : State → Prop} {D : va_G} {cy : Nat → ClassId} {A : Nat → Prop} (X : Cx p s m args c cX7_pieceAt 5 RX7 wsX7_pieceAt D (tyL cy) A) (a_o : Nat) (a_o_tape : Nat) (a_o_sampleLong : Nat) (a_o_sampleByte : Nat) (a_o_idOf : Nat) (a_o_pieces : Nat) (a_o_pieceLong : Nat) (a_o_bytesOf : Nat) (a_o_dictionary : Nat) (a_o_covered : Nat) (a_o_taken : Nat) (a_o_row : Nat) (a_o_cost : Nat) (a_o_leastD : Nat) (a_o_out : Nat) (a_o_text : Nat) (o_thrown : Int32) (o_taped : Int32) (o_samples : Int32) (o_takenMany : Int32) (o_ahead : Int32) (o_textLong : Int32) (o_outMany : Int32) (o_items : Int32) (o_matches : Int32) (o_textMany : Int32) (o_pieceLong : Nat → Int32) (v1 : Int32) (v2 : Int32) (K : Int32 → Int32 → Prop) (hK : ∀ (v3 : Int32) (v4 : Int32), K v3 v4 → Go p l e rm_X7_pieceAt s m args below meth c Q 5 D A [(a_o, .inr (10, [.int o_thrown, .ref a_o_tape, .int o_taped, .int o_samples, .ref a_o_sampleLong, .ref a_o_sampleByte, .ref a_o_idOf, .ref a_o_pieces, .ref a_o_pieceLong, .ref a_o_bytesOf, .ref a_o_dictionary, .ref a_o_covered, .ref a_o_taken, .int o_takenMany, .ref a_o_row, .int o_ahead, .int o_textLong, .ref a_o_cost, .ref a_o_leastD, .ref a_o_out, .int o_outMany, .int o_items, .int o_matches, .ref a_o_text, .int o_textMany])), (a_o_pieceLong, .inl (cy 1, 480, .inl o_pieceLong))] 0 0 32 [(3, .int v3)] []) :
    ∀ (n : Nat) (v3 : Int32) (v4 : Int32), wX7_pieceAt_5 o_pieceLong v1 v2 K n v3 v4 → Go p l e rm_X7_pieceAt s m args below meth c Q 5 D A [(a_o, .inr (10, [.int o_thrown, .ref a_o_tape, .int o_taped, .int o_samples, .ref a_o_sampleLong, .ref a_o_sampleByte, .ref a_o_idOf, .ref a_o_pieces, .ref a_o_pieceLong, .ref a_o_bytesOf, .ref a_o_dictionary, .ref a_o_covered, .ref a_o_taken, .int o_takenMany, .ref a_o_row, .int o_ahead, .int o_textLong, .ref a_o_cost, .ref a_o_leastD, .ref a_o_out, .int o_outMany, .int o_items, .int o_matches, .ref a_o_text, .int o_textMany])), (a_o_pieceLong, .inl (cy 1, 480, .inl o_pieceLong))] 0 0 5 [(0, .ref a_o), (1, .int v1), (2, .int v2), (3, .int v3), (4, .int v4)] [] := by
  intro n
  induction n with
  | zero => intro v3 v4 h; exact absurd h id
  | succ n ih =>
    intro v3 v4 h
    refine go_iload X dX7_pieceAt_5 4 rfl ?_
    refine go_iload_n X dX7_pieceAt_7 2 rfl rfl ?_
    refine go_icmp_ge X 32 dX7_pieceAt_8 (by decide) (fun c3 => ?_) (fun c3 => ?_)
    · replace h := h.1 c3
      refine go_lv [3] rfl ?_
      exact hK v3 v4 h
    · replace h := h.2 c3
      refine go_iload_n X dX7_pieceAt_11 3 rfl rfl ?_
      refine go_aload_n X dX7_pieceAt_12 0 rfl rfl ?_
      refine go_get X fi_X7_pieceAt_X7 0 rfl rfl 8 (by decide) fl_X7_pieceAt_25 rfl dX7_pieceAt_13 ?_
      refine go_bipush X (v := 80) dX7_pieceAt_16 (by decide) ?_
      refine go_iload_n X dX7_pieceAt_18 1 rfl rfl ?_
      refine go_imul X dX7_pieceAt_19 ?_
      refine go_iload X dX7_pieceAt_20 4 rfl ?_
      refine go_iadd X dX7_pieceAt_22 ?_
      obtain ⟨c4, h⟩ := h
      refine go_iald X 1 1 rfl rfl c4 dX7_pieceAt_23 ?_
      refine go_iadd X dX7_pieceAt_24 ?_
      refine go_topi (fun y5 ey5 => ?_)
      replace h := h y5 ey5
      refine go_istore_n X (lv' := [(3, .int y5), (0, .ref a_o), (1, .int v1), (2, .int v2), (4, .int v4)]) dX7_pieceAt_25 rfl (by decide) rfl ?_
      obtain ⟨y6, ey6⟩ : ∃ z : Int32, z = v4 + 1 := ⟨_, rfl⟩
      replace h := h y6 ey6
      refine go_iinc X (lv' := [(4, .int y6), (3, .int y5), (0, .ref a_o), (1, .int v1), (2, .int v2)]) y6 dX7_pieceAt_26 4 rfl (by rw [ey6]; rfl) (by decide) rfl ?_
      refine go_goto X 5 dX7_pieceAt_29 (by decide) ?_
      refine go_lv [2, 3, 4, 1, 0] rfl ?_
      exact ih y5 y6 h
set_option maxRecDepth 100000 in
set_option maxHeartbeats 4000000 in
theorem kX7_pieceAt (l : Launch) (D : va_G) (cy : Nat → ClassId) (a_o : Nat) (a_o_tape : Nat) (a_o_sampleLong : Nat) (a_o_sampleByte : Nat) (a_o_idOf : Nat) (a_o_pieces : Nat) (a_o_pieceLong : Nat) (a_o_bytesOf : Nat) (a_o_dictionary : Nat) (a_o_covered : Nat) (a_o_taken : Nat) (a_o_row : Nat) (a_o_cost : Nat) (a_o_leastD : Nat) (a_o_out : Nat) (a_o_text : Nat) (o_thrown : Int32) (o_taped : Int32) (o_samples : Int32) (o_takenMany : Int32) (o_ahead : Int32) (o_textLong : Int32) (o_outMany : Int32) (o_items : Int32) (o_matches : Int32) (o_textMany : Int32) (o_pieceLong : Nat → Int32) (p1 : Int32) (p2 : Int32) (post : Int32 → Prop) (h : wX7_pieceAt o_pieceLong p1 p2 post) : MetI l yX7_pieceAt wsX7_pieceAt rm_X7_pieceAt D (tyL cy) [.ref a_o, .int p1, .int p2] [(a_o, .inr (10, [.int o_thrown, .ref a_o_tape, .int o_taped, .int o_samples, .ref a_o_sampleLong, .ref a_o_sampleByte, .ref a_o_idOf, .ref a_o_pieces, .ref a_o_pieceLong, .ref a_o_bytesOf, .ref a_o_dictionary, .ref a_o_covered, .ref a_o_taken, .int o_takenMany, .ref a_o_row, .int o_ahead, .int o_textLong, .ref a_o_cost, .ref a_o_leastD, .ref a_o_out, .int o_outMany, .int o_items, .int o_matches, .ref a_o_text, .int o_textMany])), (a_o_pieceLong, .inl (cy 1, 480, .inl o_pieceLong))] (fun u : Unit => [(a_o, .inr (10, [.int o_thrown, .ref a_o_tape, .int o_taped, .int o_samples, .ref a_o_sampleLong, .ref a_o_sampleByte, .ref a_o_idOf, .ref a_o_pieces, .ref a_o_pieceLong, .ref a_o_bytesOf, .ref a_o_dictionary, .ref a_o_covered, .ref a_o_taken, .int o_takenMany, .ref a_o_row, .int o_ahead, .int o_textLong, .ref a_o_cost, .ref a_o_leastD, .ref a_o_out, .int o_outMany, .int o_items, .int o_matches, .ref a_o_text, .int o_textMany])), (a_o_pieceLong, .inl (cy 1, 480, .inl o_pieceLong))]) (fun r => fun (u : Unit) => post r ) 0 0 := by
  refine metI_of (cc := cX7_pieceAt) (maxL := 5) (lv := [(0, .ref a_o), (1, .int p1), (2, .int p2)]) (by decide) rfl (Nat.le_of_ble_eq_true rfl) rfl ?_
  intro p e s m below meth c Q A X hlk hR
  unfold wX7_pieceAt at h
  refine go_iconst X (v := 0) dX7_pieceAt_0 (by decide) ?_
  refine go_istore_n X (lv' := [(3, .int 0), (0, .ref a_o), (1, .int p1), (2, .int p2)]) dX7_pieceAt_1 rfl (by decide) rfl ?_
  refine go_iconst X (v := 0) dX7_pieceAt_2 (by decide) ?_
  refine go_istore X (lv' := [(4, .int 0), (3, .int 0), (0, .ref a_o), (1, .int p1), (2, .int p2)]) dX7_pieceAt_3 (by decide) rfl ?_
  obtain ⟨n7, h⟩ := h
  refine go_lv [2, 3, 4, 1, 0] rfl ?_
  refine pX7_pieceAt_5 l X a_o a_o_tape a_o_sampleLong a_o_sampleByte a_o_idOf a_o_pieces a_o_pieceLong a_o_bytesOf a_o_dictionary a_o_covered a_o_taken a_o_row a_o_cost a_o_leastD a_o_out a_o_text o_thrown o_taped o_samples o_takenMany o_ahead o_textLong o_outMany o_items o_matches o_textMany o_pieceLong p1 p2  _ (fun y1 y2 h => ?_) n7 (0 : Int32) (0 : Int32) h
  refine go_iload_n X dX7_pieceAt_32 0 rfl rfl ?_
  exact hR y1 () 33 _ dX7_pieceAt_33 rfl h
/-! X7_layAhead -/
theorem fi_X7_layAhead_X7 : ∀ w ∈ u_ws RX7 TX7 25, w ∈ wsX7_layAhead := by decide +kernel
theorem fl_X7_layAhead_96 : Cond.fieldLink RX7 96 (TX7 15).1 (TX7 15).2.1 (TX7 15).2.2.1 ∈ wsX7_layAhead := by decide +kernel
theorem fl_X7_layAhead_25 : Cond.fieldLink RX7 25 (TX7 8).1 (TX7 8).2.1 (TX7 8).2.2.1 ∈ wsX7_layAhead := by decide +kernel
theorem fl_X7_layAhead_28 : Cond.fieldLink RX7 28 (TX7 9).1 (TX7 9).2.1 (TX7 9).2.2.1 ∈ wsX7_layAhead := by decide +kernel
theorem fl_X7_layAhead_41 : Cond.fieldLink RX7 41 (TX7 14).1 (TX7 14).2.1 (TX7 14).2.2.1 ∈ wsX7_layAhead := by decide +kernel
theorem fl_X7_layAhead_31 : Cond.fieldLink RX7 31 (TX7 10).1 (TX7 10).2.1 (TX7 10).2.2.1 ∈ wsX7_layAhead := by decide +kernel
def rm_X7_layAhead : Room := { frames := 1, cells := 0, slots := 0, locals := 24 }
theorem cd_X7_layAhead : yX7_layAhead.cls = RX7 ∧ yX7_layAhead.cls ≠ "java/lang/invoke/MethodHandle" ∧ yX7_layAhead.cls ≠ "java/lang/invoke/VarHandle" ∧ (parseMethodDescriptor yX7_layAhead.desc).map (fun d => d.parameters.length) = some 2 := by decide +kernel
set_option maxRecDepth 100000 in
set_option maxHeartbeats 4000000 in
theorem pX7_layAhead_51 {p : Program} (l : Launch) {e : Env} {s : State} {m : MethodId} {args : Array Value} {below : List Frame} {meth : Method} {c : Code} {Q : State → Prop} {D : va_G} {cy : Nat → ClassId} {A : Nat → Prop} (X : Cx p s m args c cX7_layAhead 6 RX7 wsX7_layAhead D (tyL cy) A) (a_o : Nat) (a_o_tape : Nat) (a_o_sampleLong : Nat) (a_o_sampleByte : Nat) (a_o_idOf : Nat) (a_o_pieces : Nat) (a_o_pieceLong : Nat) (a_o_bytesOf : Nat) (a_o_dictionary : Nat) (a_o_covered : Nat) (a_o_taken : Nat) (a_o_row : Nat) (a_o_cost : Nat) (a_o_leastD : Nat) (a_o_out : Nat) (a_o_text : Nat) (o_thrown : Int32) (o_taped : Int32) (o_samples : Int32) (o_takenMany : Int32) (o_textLong : Int32) (o_outMany : Int32) (o_items : Int32) (o_matches : Int32) (o_textMany : Int32) (o_pieceLong : Nat → Int32) (o_bytesOf : Nat → Int32) (o_dictionary : Nat → Int32) (v1 : Int32) (v3 : Int32) (v4 : Int32) (K : Int32 → (Nat → Int32) → Int32 → Prop) (hK : ∀ (o_ahead : Int32) (o_row : Nat → Int32) (v5 : Int32), K o_ahead o_row v5 → Go p l e rm_X7_layAhead s m args below meth c Q 6 D A [(a_o, .inr (10, [.int o_thrown, .ref a_o_tape, .int o_taped, .int o_samples, .ref a_o_sampleLong, .ref a_o_sampleByte, .ref a_o_idOf, .ref a_o_pieces, .ref a_o_pieceLong, .ref a_o_bytesOf, .ref a_o_dictionary, .ref a_o_covered, .ref a_o_taken, .int o_takenMany, .ref a_o_row, .int o_ahead, .int o_textLong, .ref a_o_cost, .ref a_o_leastD, .ref a_o_out, .int o_outMany, .int o_items, .int o_matches, .ref a_o_text, .int o_textMany])), (a_o_pieceLong, .inl (cy 1, 480, .inl o_pieceLong)), (a_o_bytesOf, .inl (cy 1, 6, .inl o_bytesOf)), (a_o_dictionary, .inl (cy 1, 480, .inl o_dictionary)), (a_o_row, .inl (cy 1, 280, .inl o_row))] 0 0 114 [] []) :
    ∀ (n : Nat) (o_ahead : Int32) (o_row : Nat → Int32) (v5 : Int32), wX7_layAhead_51 o_bytesOf o_dictionary v1 v3 v4 K n o_ahead o_row v5 → Go p l e rm_X7_layAhead s m args below meth c Q 6 D A [(a_o, .inr (10, [.int o_thrown, .ref a_o_tape, .int o_taped, .int o_samples, .ref a_o_sampleLong, .ref a_o_sampleByte, .ref a_o_idOf, .ref a_o_pieces, .ref a_o_pieceLong, .ref a_o_bytesOf, .ref a_o_dictionary, .ref a_o_covered, .ref a_o_taken, .int o_takenMany, .ref a_o_row, .int o_ahead, .int o_textLong, .ref a_o_cost, .ref a_o_leastD, .ref a_o_out, .int o_outMany, .int o_items, .int o_matches, .ref a_o_text, .int o_textMany])), (a_o_pieceLong, .inl (cy 1, 480, .inl o_pieceLong)), (a_o_bytesOf, .inl (cy 1, 6, .inl o_bytesOf)), (a_o_dictionary, .inl (cy 1, 480, .inl o_dictionary)), (a_o_row, .inl (cy 1, 280, .inl o_row))] 0 0 51 [(0, .ref a_o), (1, .int v1), (3, .int v3), (4, .int v4), (5, .int v5)] [] := by
  intro n
  induction n with
  | zero => intro o_ahead o_row v5 h; exact absurd h id
  | succ n ih =>
    intro o_ahead o_row v5 h
    refine go_iload X dX7_layAhead_51 4 rfl ?_
    refine go_aload_n X dX7_layAhead_53 0 rfl rfl ?_
    refine go_get X fi_X7_layAhead_X7 0 rfl rfl 9 (by decide) fl_X7_layAhead_28 rfl dX7_layAhead_54 ?_
    refine go_iload_n X dX7_layAhead_57 1 rfl rfl ?_
    obtain ⟨c9, h⟩ := h
    refine go_iald X 2 1 rfl rfl c9 dX7_layAhead_58 ?_
    refine go_icmp_ge X 114 dX7_layAhead_59 (by decide) (fun c10 => ?_) (fun c10 => ?_)
    · replace h := h.1 c10
      refine go_lv [] rfl ?_
      exact hK o_ahead o_row v5 h
    · replace h := h.2 c10
      refine go_iload X dX7_layAhead_62 4 rfl ?_
      refine go_iload_n X dX7_layAhead_64 2 rfl rfl ?_
      refine go_icmp_lt X 77 dX7_layAhead_65 (by decide) (fun c11 => ?_) (fun c11 => ?_)
      · replace h := h.1 c11
        refine go_aload_n X dX7_layAhead_77 0 rfl rfl ?_
        refine go_get X fi_X7_layAhead_X7 0 rfl rfl 14 (by decide) fl_X7_layAhead_41 rfl dX7_layAhead_78 ?_
        refine go_aload_n X dX7_layAhead_81 0 rfl rfl ?_
        refine go_get X fi_X7_layAhead_X7 0 rfl rfl 15 (by decide) fl_X7_layAhead_96 rfl dX7_layAhead_82 ?_
        refine go_aload_n X dX7_layAhead_85 0 rfl rfl ?_
        refine go_get X fi_X7_layAhead_X7 0 rfl rfl 10 (by decide) fl_X7_layAhead_31 rfl dX7_layAhead_86 ?_
        refine go_bipush X (v := 80) dX7_layAhead_89 (by decide) ?_
        refine go_iload_n X dX7_layAhead_91 1 rfl rfl ?_
        refine go_imul X dX7_layAhead_92 ?_
        refine go_iload X dX7_layAhead_93 4 rfl ?_
        refine go_iadd X dX7_layAhead_95 ?_
        obtain ⟨c12, h⟩ := h
        refine go_iald X 3 1 rfl rfl c12 dX7_layAhead_96 ?_
        obtain ⟨c13, h⟩ := h
        refine go_iast X [(a_o, .inr (10, [.int o_thrown, .ref a_o_tape, .int o_taped, .int o_samples, .ref a_o_sampleLong, .ref a_o_sampleByte, .ref a_o_idOf, .ref a_o_pieces, .ref a_o_pieceLong, .ref a_o_bytesOf, .ref a_o_dictionary, .ref a_o_covered, .ref a_o_taken, .int o_takenMany, .ref a_o_row, .int o_ahead, .int o_textLong, .ref a_o_cost, .ref a_o_leastD, .ref a_o_out, .int o_outMany, .int o_items, .int o_matches, .ref a_o_text, .int o_textMany])), (a_o_pieceLong, .inl (cy 1, 480, .inl o_pieceLong)), (a_o_bytesOf, .inl (cy 1, 6, .inl o_bytesOf)), (a_o_dictionary, .inl (cy 1, 480, .inl o_dictionary)), (a_o_row, .inl (cy 1, 280, .inl (upd o_row o_ahead.toNatClampNeg (o_dictionary ((80 * v1) + v5).toNatClampNeg))))] 4 1 rfl rfl c13 rfl dX7_layAhead_97 ?_
        refine go_aload_n X dX7_layAhead_98 0 rfl rfl ?_
        refine go_dup X dX7_layAhead_99 rfl ?_
        refine go_get X fi_X7_layAhead_X7 0 rfl rfl 15 (by decide) fl_X7_layAhead_96 rfl dX7_layAhead_100 ?_
        refine go_iconst X (v := 1) dX7_layAhead_103 (by decide) ?_
        refine go_iadd X dX7_layAhead_104 ?_
        refine go_topi (fun y14 ey14 => ?_)
        replace h := h y14 ey14
        refine go_put X (ws' := [(a_o, .inr (10, [.int o_thrown, .ref a_o_tape, .int o_taped, .int o_samples, .ref a_o_sampleLong, .ref a_o_sampleByte, .ref a_o_idOf, .ref a_o_pieces, .ref a_o_pieceLong, .ref a_o_bytesOf, .ref a_o_dictionary, .ref a_o_covered, .ref a_o_taken, .int o_takenMany, .ref a_o_row, .int y14, .int o_textLong, .ref a_o_cost, .ref a_o_leastD, .ref a_o_out, .int o_outMany, .int o_items, .int o_matches, .ref a_o_text, .int o_textMany])), (a_o_pieceLong, .inl (cy 1, 480, .inl o_pieceLong)), (a_o_bytesOf, .inl (cy 1, 6, .inl o_bytesOf)), (a_o_dictionary, .inl (cy 1, 480, .inl o_dictionary)), (a_o_row, .inl (cy 1, 280, .inl (upd o_row o_ahead.toNatClampNeg (o_dictionary ((80 * v1) + v5).toNatClampNeg))))]) fi_X7_layAhead_X7 tyX7 tyX7_ok nmX7 0 rfl rfl 15 (by decide) fl_X7_layAhead_96 rfl (tyX7_ok 15 (by decide)) rfl rfl (Nat.le_of_ble_eq_true rfl) rfl dX7_layAhead_105 ?_
        obtain ⟨y15, ey15⟩ : ∃ z : Int32, z = v5 + 1 := ⟨_, rfl⟩
        replace h := h y15 ey15
        refine go_iinc X (lv' := [(5, .int y15), (0, .ref a_o), (1, .int v1), (3, .int v3), (4, .int v4)]) y15 dX7_layAhead_108 4 rfl (by rw [ey15]; rfl) (by decide) rfl ?_
        refine go_goto X 51 dX7_layAhead_111 (by decide) ?_
        refine go_lv [1, 2, 3, 4, 0] rfl ?_
        exact ih y14 (upd o_row o_ahead.toNatClampNeg (o_dictionary ((80 * v1) + v5).toNatClampNeg)) y15 h
      · replace h := h.2 c11
        refine go_iload X dX7_layAhead_68 4 rfl ?_
        refine go_iload_n X dX7_layAhead_70 2 rfl rfl ?_
        refine go_iload X dX7_layAhead_71 3 rfl ?_
        refine go_iadd X dX7_layAhead_73 ?_
        refine go_icmp_lt X 108 dX7_layAhead_74 (by decide) (fun c16 => ?_) (fun c16 => ?_)
        · replace h := h.1 c16
          obtain ⟨y17, ey17⟩ : ∃ z : Int32, z = v5 + 1 := ⟨_, rfl⟩
          replace h := h y17 ey17
          refine go_iinc X (lv' := [(5, .int y17), (0, .ref a_o), (1, .int v1), (3, .int v3), (4, .int v4)]) y17 dX7_layAhead_108 4 rfl (by rw [ey17]; rfl) (by decide) rfl ?_
          refine go_goto X 51 dX7_layAhead_111 (by decide) ?_
          refine go_lv [1, 2, 3, 4, 0] rfl ?_
          exact ih o_ahead o_row y17 h
        · replace h := h.2 c16
          refine go_aload_n X dX7_layAhead_77 0 rfl rfl ?_
          refine go_get X fi_X7_layAhead_X7 0 rfl rfl 14 (by decide) fl_X7_layAhead_41 rfl dX7_layAhead_78 ?_
          refine go_aload_n X dX7_layAhead_81 0 rfl rfl ?_
          refine go_get X fi_X7_layAhead_X7 0 rfl rfl 15 (by decide) fl_X7_layAhead_96 rfl dX7_layAhead_82 ?_
          refine go_aload_n X dX7_layAhead_85 0 rfl rfl ?_
          refine go_get X fi_X7_layAhead_X7 0 rfl rfl 10 (by decide) fl_X7_layAhead_31 rfl dX7_layAhead_86 ?_
          refine go_bipush X (v := 80) dX7_layAhead_89 (by decide) ?_
          refine go_iload_n X dX7_layAhead_91 1 rfl rfl ?_
          refine go_imul X dX7_layAhead_92 ?_
          refine go_iload X dX7_layAhead_93 4 rfl ?_
          refine go_iadd X dX7_layAhead_95 ?_
          obtain ⟨c18, h⟩ := h
          refine go_iald X 3 1 rfl rfl c18 dX7_layAhead_96 ?_
          obtain ⟨c19, h⟩ := h
          refine go_iast X [(a_o, .inr (10, [.int o_thrown, .ref a_o_tape, .int o_taped, .int o_samples, .ref a_o_sampleLong, .ref a_o_sampleByte, .ref a_o_idOf, .ref a_o_pieces, .ref a_o_pieceLong, .ref a_o_bytesOf, .ref a_o_dictionary, .ref a_o_covered, .ref a_o_taken, .int o_takenMany, .ref a_o_row, .int o_ahead, .int o_textLong, .ref a_o_cost, .ref a_o_leastD, .ref a_o_out, .int o_outMany, .int o_items, .int o_matches, .ref a_o_text, .int o_textMany])), (a_o_pieceLong, .inl (cy 1, 480, .inl o_pieceLong)), (a_o_bytesOf, .inl (cy 1, 6, .inl o_bytesOf)), (a_o_dictionary, .inl (cy 1, 480, .inl o_dictionary)), (a_o_row, .inl (cy 1, 280, .inl (upd o_row o_ahead.toNatClampNeg (o_dictionary ((80 * v1) + v5).toNatClampNeg))))] 4 1 rfl rfl c19 rfl dX7_layAhead_97 ?_
          refine go_aload_n X dX7_layAhead_98 0 rfl rfl ?_
          refine go_dup X dX7_layAhead_99 rfl ?_
          refine go_get X fi_X7_layAhead_X7 0 rfl rfl 15 (by decide) fl_X7_layAhead_96 rfl dX7_layAhead_100 ?_
          refine go_iconst X (v := 1) dX7_layAhead_103 (by decide) ?_
          refine go_iadd X dX7_layAhead_104 ?_
          refine go_topi (fun y20 ey20 => ?_)
          replace h := h y20 ey20
          refine go_put X (ws' := [(a_o, .inr (10, [.int o_thrown, .ref a_o_tape, .int o_taped, .int o_samples, .ref a_o_sampleLong, .ref a_o_sampleByte, .ref a_o_idOf, .ref a_o_pieces, .ref a_o_pieceLong, .ref a_o_bytesOf, .ref a_o_dictionary, .ref a_o_covered, .ref a_o_taken, .int o_takenMany, .ref a_o_row, .int y20, .int o_textLong, .ref a_o_cost, .ref a_o_leastD, .ref a_o_out, .int o_outMany, .int o_items, .int o_matches, .ref a_o_text, .int o_textMany])), (a_o_pieceLong, .inl (cy 1, 480, .inl o_pieceLong)), (a_o_bytesOf, .inl (cy 1, 6, .inl o_bytesOf)), (a_o_dictionary, .inl (cy 1, 480, .inl o_dictionary)), (a_o_row, .inl (cy 1, 280, .inl (upd o_row o_ahead.toNatClampNeg (o_dictionary ((80 * v1) + v5).toNatClampNeg))))]) fi_X7_layAhead_X7 tyX7 tyX7_ok nmX7 0 rfl rfl 15 (by decide) fl_X7_layAhead_96 rfl (tyX7_ok 15 (by decide)) rfl rfl (Nat.le_of_ble_eq_true rfl) rfl dX7_layAhead_105 ?_
          obtain ⟨y21, ey21⟩ : ∃ z : Int32, z = v5 + 1 := ⟨_, rfl⟩
          replace h := h y21 ey21
          refine go_iinc X (lv' := [(5, .int y21), (0, .ref a_o), (1, .int v1), (3, .int v3), (4, .int v4)]) y21 dX7_layAhead_108 4 rfl (by rw [ey21]; rfl) (by decide) rfl ?_
          refine go_goto X 51 dX7_layAhead_111 (by decide) ?_
          refine go_lv [1, 2, 3, 4, 0] rfl ?_
          exact ih y20 (upd o_row o_ahead.toNatClampNeg (o_dictionary ((80 * v1) + v5).toNatClampNeg)) y21 h
set_option maxRecDepth 100000 in
set_option maxHeartbeats 4000000 in
theorem kX7_layAhead (l : Launch) (D : va_G) (cy : Nat → ClassId) (a_o : Nat) (a_o_tape : Nat) (a_o_sampleLong : Nat) (a_o_sampleByte : Nat) (a_o_idOf : Nat) (a_o_pieces : Nat) (a_o_pieceLong : Nat) (a_o_bytesOf : Nat) (a_o_dictionary : Nat) (a_o_covered : Nat) (a_o_taken : Nat) (a_o_row : Nat) (a_o_cost : Nat) (a_o_leastD : Nat) (a_o_out : Nat) (a_o_text : Nat) (o_thrown : Int32) (o_taped : Int32) (o_samples : Int32) (o_takenMany : Int32) (o_ahead : Int32) (o_textLong : Int32) (o_outMany : Int32) (o_items : Int32) (o_matches : Int32) (o_textMany : Int32) (o_pieceLong : Nat → Int32) (o_bytesOf : Nat → Int32) (o_dictionary : Nat → Int32) (o_row : Nat → Int32) (p1 : Int32) (p2 : Int32) (post : Int32 → (Nat → Int32) → Prop) (h : wX7_layAhead o_pieceLong o_bytesOf o_dictionary o_row p1 p2 post) : MetV l yX7_layAhead wsX7_layAhead rm_X7_layAhead D (tyL cy) [.ref a_o, .int p1, .int p2] [(a_o, .inr (10, [.int o_thrown, .ref a_o_tape, .int o_taped, .int o_samples, .ref a_o_sampleLong, .ref a_o_sampleByte, .ref a_o_idOf, .ref a_o_pieces, .ref a_o_pieceLong, .ref a_o_bytesOf, .ref a_o_dictionary, .ref a_o_covered, .ref a_o_taken, .int o_takenMany, .ref a_o_row, .int o_ahead, .int o_textLong, .ref a_o_cost, .ref a_o_leastD, .ref a_o_out, .int o_outMany, .int o_items, .int o_matches, .ref a_o_text, .int o_textMany])), (a_o_pieceLong, .inl (cy 1, 480, .inl o_pieceLong)), (a_o_bytesOf, .inl (cy 1, 6, .inl o_bytesOf)), (a_o_dictionary, .inl (cy 1, 480, .inl o_dictionary)), (a_o_row, .inl (cy 1, 280, .inl o_row))] (fun u : Int32 × (Nat → Int32) => [(a_o, .inr (10, [.int o_thrown, .ref a_o_tape, .int o_taped, .int o_samples, .ref a_o_sampleLong, .ref a_o_sampleByte, .ref a_o_idOf, .ref a_o_pieces, .ref a_o_pieceLong, .ref a_o_bytesOf, .ref a_o_dictionary, .ref a_o_covered, .ref a_o_taken, .int o_takenMany, .ref a_o_row, .int u.1, .int o_textLong, .ref a_o_cost, .ref a_o_leastD, .ref a_o_out, .int o_outMany, .int o_items, .int o_matches, .ref a_o_text, .int o_textMany])), (a_o_pieceLong, .inl (cy 1, 480, .inl o_pieceLong)), (a_o_bytesOf, .inl (cy 1, 6, .inl o_bytesOf)), (a_o_dictionary, .inl (cy 1, 480, .inl o_dictionary)), (a_o_row, .inl (cy 1, 280, .inl u.2))]) (fun (u : Int32 × (Nat → Int32)) => post u.1 u.2) 0 0 := by
  refine metV_of (cc := cX7_layAhead) (maxL := 6) (lv := [(0, .ref a_o), (1, .int p1), (2, .int p2)]) (by decide) rfl (Nat.le_of_ble_eq_true rfl) rfl ?_
  intro p e s m below meth c Q A X hlk hnm hR
  unfold wX7_layAhead at h
  refine go_aload_n X dX7_layAhead_0 0 rfl rfl ?_
  refine go_iconst X (v := 0) dX7_layAhead_1 (by decide) ?_
  refine go_put X (ws' := [(a_o, .inr (10, [.int o_thrown, .ref a_o_tape, .int o_taped, .int o_samples, .ref a_o_sampleLong, .ref a_o_sampleByte, .ref a_o_idOf, .ref a_o_pieces, .ref a_o_pieceLong, .ref a_o_bytesOf, .ref a_o_dictionary, .ref a_o_covered, .ref a_o_taken, .int o_takenMany, .ref a_o_row, .int 0, .int o_textLong, .ref a_o_cost, .ref a_o_leastD, .ref a_o_out, .int o_outMany, .int o_items, .int o_matches, .ref a_o_text, .int o_textMany])), (a_o_pieceLong, .inl (cy 1, 480, .inl o_pieceLong)), (a_o_bytesOf, .inl (cy 1, 6, .inl o_bytesOf)), (a_o_dictionary, .inl (cy 1, 480, .inl o_dictionary)), (a_o_row, .inl (cy 1, 280, .inl o_row))]) fi_X7_layAhead_X7 tyX7 tyX7_ok nmX7 0 rfl rfl 15 (by decide) fl_X7_layAhead_96 rfl (tyX7_ok 15 (by decide)) rfl rfl (Nat.le_of_ble_eq_true rfl) rfl dX7_layAhead_2 ?_
  refine go_iload_n X dX7_layAhead_5 1 rfl rfl ?_
  refine go_iconst X (v := (-1)) dX7_layAhead_6 (by decide) ?_
  refine go_icmp_eq X 114 dX7_layAhead_7 (by decide) (fun c1 => ?_) (fun c1 => ?_)
  · replace h := h.1 c1
    exact hR (0, o_row) 114 _ dX7_layAhead_114 h
  · replace h := h.2 c1
    refine go_iload_n X dX7_layAhead_10 2 rfl rfl ?_
    refine go_iconst X (v := (-1)) dX7_layAhead_11 (by decide) ?_
    refine go_icmp_ne X 19 dX7_layAhead_12 (by decide) (fun c2 => ?_) (fun c2 => ?_)
    · replace h := h.1 c2
      refine go_aload_n X dX7_layAhead_19 0 rfl rfl ?_
      refine go_iload_n X dX7_layAhead_20 1 rfl rfl ?_
      refine go_iload_n X dX7_layAhead_21 2 rfl rfl ?_
      refine go_callVi X (kX7_pieceAt l D cy a_o a_o_tape a_o_sampleLong a_o_sampleByte a_o_idOf a_o_pieces a_o_pieceLong a_o_bytesOf a_o_dictionary a_o_covered a_o_taken a_o_row a_o_cost a_o_leastD a_o_out a_o_text o_thrown o_taped o_samples o_takenMany 0 o_textLong o_outMany o_items o_matches o_textMany o_pieceLong p1 p2 _ h) (cwV 2 X.2.2.2.2.1 gX7_layAhead_X7_pieceAt rfl rfl rfl cd_X7_pieceAt ⟨by decide, by decide⟩) (wr := [(a_o_bytesOf, .inl (cy 1, 6, .inl o_bytesOf)), (a_o_dictionary, .inl (cy 1, 480, .inl o_dictionary)), (a_o_row, .inl (cy 1, 280, .inl o_row))]) (ws2 := fun u => [(a_o, .inr (10, [.int o_thrown, .ref a_o_tape, .int o_taped, .int o_samples, .ref a_o_sampleLong, .ref a_o_sampleByte, .ref a_o_idOf, .ref a_o_pieces, .ref a_o_pieceLong, .ref a_o_bytesOf, .ref a_o_dictionary, .ref a_o_covered, .ref a_o_taken, .int o_takenMany, .ref a_o_row, .int 0, .int o_textLong, .ref a_o_cost, .ref a_o_leastD, .ref a_o_out, .int o_outMany, .int o_items, .int o_matches, .ref a_o_text, .int o_textMany])), (a_o_pieceLong, .inl (cy 1, 480, .inl o_pieceLong)), (a_o_bytesOf, .inl (cy 1, 6, .inl o_bytesOf)), (a_o_dictionary, .inl (cy 1, 480, .inl o_dictionary)), (a_o_row, .inl (cy 1, 280, .inl o_row))]) (perm_idx [0, 1, 2, 3, 4] rfl rfl) (fun u => perm_idx [0, 1, 2, 3, 4] rfl rfl) rfl rfl rfl rfl (Nat.le_of_ble_eq_true rfl) dX7_layAhead_22 ⟨by decide, by decide⟩ (fun r3 u h => ?_)
      refine go_istore_n X (lv' := [(3, .int r3), (0, .ref a_o), (1, .int p1), (2, .int p2)]) dX7_layAhead_25 rfl (by decide) rfl ?_
      refine go_iload_n X dX7_layAhead_26 3 rfl rfl ?_
      refine go_iconst X (v := (-1)) dX7_layAhead_27 (by decide) ?_
      refine go_icmp_ne X 35 dX7_layAhead_28 (by decide) (fun _ => ?_) (fun c0 => absurd c0 c2)
      refine go_aload_n X dX7_layAhead_35 1 rfl rfl ?_
      refine go_get X fi_X7_layAhead_X7 0 rfl rfl 8 (by decide) fl_X7_layAhead_25 rfl dX7_layAhead_36 ?_
      refine go_bipush X (v := 80) dX7_layAhead_39 (by decide) ?_
      refine go_iload_n X dX7_layAhead_41 2 rfl rfl ?_
      refine go_imul X dX7_layAhead_42 ?_
      refine go_iload_n X dX7_layAhead_43 3 rfl rfl ?_
      refine go_iadd X dX7_layAhead_44 ?_
      obtain ⟨c4, h⟩ := h
      refine go_iald X 1 1 rfl rfl c4 dX7_layAhead_45 ?_
      refine go_topi (fun y5 ey5 => ?_)
      replace h := h y5 ey5
      refine go_istore X (lv' := [(4, .int y5), (3, .int r3), (0, .ref a_o), (1, .int p1), (2, .int p2)]) dX7_layAhead_46 (by decide) rfl ?_
      refine go_iconst X (v := 0) dX7_layAhead_48 (by decide) ?_
      refine go_istore X (lv' := [(5, .int 0), (4, .int y5), (3, .int r3), (0, .ref a_o), (1, .int p1), (2, .int p2)]) dX7_layAhead_49 (by decide) rfl ?_
      obtain ⟨n22, h⟩ := h
      refine go_lv [3, 4, 2, 1, 0] rfl ?_
      refine pX7_layAhead_51 l X a_o a_o_tape a_o_sampleLong a_o_sampleByte a_o_idOf a_o_pieces a_o_pieceLong a_o_bytesOf a_o_dictionary a_o_covered a_o_taken a_o_row a_o_cost a_o_leastD a_o_out a_o_text o_thrown o_taped o_samples o_takenMany o_textLong o_outMany o_items o_matches o_textMany o_pieceLong o_bytesOf o_dictionary p1 r3 y5  _ (fun s6 s7 y8 h => ?_) n22 0 o_row (0 : Int32) h
      exact hR (s6, s7) 114 _ dX7_layAhead_114 h
    · replace h := h.2 c2
      refine go_iconst X (v := 0) dX7_layAhead_15 (by decide) ?_
      refine go_goto X 25 dX7_layAhead_16 (by decide) ?_
      refine go_istore_n X (lv' := [(3, .int 0), (0, .ref a_o), (1, .int p1), (2, .int p2)]) dX7_layAhead_25 rfl (by decide) rfl ?_
      refine go_iload_n X dX7_layAhead_26 3 rfl rfl ?_
      refine go_iconst X (v := (-1)) dX7_layAhead_27 (by decide) ?_
      refine go_icmp_ne X 35 dX7_layAhead_28 (by decide) (fun c0 => absurd c2 c0) (fun _ => ?_)
      refine go_iconst X (v := 0) dX7_layAhead_31 (by decide) ?_
      refine go_goto X 46 dX7_layAhead_32 (by decide) ?_
      refine go_istore X (lv' := [(4, .int 0), (3, .int 0), (0, .ref a_o), (1, .int p1), (2, .int p2)]) dX7_layAhead_46 (by decide) rfl ?_
      refine go_iconst X (v := 0) dX7_layAhead_48 (by decide) ?_
      refine go_istore X (lv' := [(5, .int 0), (4, .int 0), (3, .int 0), (0, .ref a_o), (1, .int p1), (2, .int p2)]) dX7_layAhead_49 (by decide) rfl ?_
      obtain ⟨n26, h⟩ := h
      refine go_lv [3, 4, 2, 1, 0] rfl ?_
      refine pX7_layAhead_51 l X a_o a_o_tape a_o_sampleLong a_o_sampleByte a_o_idOf a_o_pieces a_o_pieceLong a_o_bytesOf a_o_dictionary a_o_covered a_o_taken a_o_row a_o_cost a_o_leastD a_o_out a_o_text o_thrown o_taped o_samples o_takenMany o_textLong o_outMany o_items o_matches o_textMany o_pieceLong o_bytesOf o_dictionary p1 (0 : Int32) (0 : Int32)  _ (fun s23 s24 y25 h => ?_) n26 0 o_row (0 : Int32) h
      exact hR (s23, s24) 114 _ dX7_layAhead_114 h
/-! X7_laySample -/
theorem fi_X7_laySample_X7 : ∀ w ∈ u_ws RX7 TX7 25, w ∈ wsX7_laySample := by decide +kernel
theorem fl_X7_laySample_13 : Cond.fieldLink RX7 13 (TX7 4).1 (TX7 4).2.1 (TX7 4).2.2.1 ∈ wsX7_laySample := by decide +kernel
theorem fl_X7_laySample_103 : Cond.fieldLink RX7 103 (TX7 16).1 (TX7 16).2.1 (TX7 16).2.2.1 ∈ wsX7_laySample := by decide +kernel
theorem fl_X7_laySample_41 : Cond.fieldLink RX7 41 (TX7 14).1 (TX7 14).2.1 (TX7 14).2.2.1 ∈ wsX7_laySample := by decide +kernel
theorem fl_X7_laySample_96 : Cond.fieldLink RX7 96 (TX7 15).1 (TX7 15).2.1 (TX7 15).2.2.1 ∈ wsX7_laySample := by decide +kernel
theorem fl_X7_laySample_16 : Cond.fieldLink RX7 16 (TX7 5).1 (TX7 5).2.1 (TX7 5).2.2.1 ∈ wsX7_laySample := by decide +kernel
def rm_X7_laySample : Room := { frames := 0, cells := 0, slots := 0, locals := 0 }
theorem cd_X7_laySample : yX7_laySample.cls = RX7 ∧ yX7_laySample.cls ≠ "java/lang/invoke/MethodHandle" ∧ yX7_laySample.cls ≠ "java/lang/invoke/VarHandle" ∧ (parseMethodDescriptor yX7_laySample.desc).map (fun d => d.parameters.length) = some 1 := by decide +kernel
set_option maxRecDepth 100000 in
set_option maxHeartbeats 4000000 in
theorem pX7_laySample_12 {p : Program} (l : Launch) {e : Env} {s : State} {m : MethodId} {args : Array Value} {below : List Frame} {meth : Method} {c : Code} {Q : State → Prop} {D : va_G} {cy : Nat → ClassId} {A : Nat → Prop} (X : Cx p s m args c cX7_laySample 3 RX7 wsX7_laySample D (tyL cy) A) (a_o : Nat) (a_o_tape : Nat) (a_o_sampleLong : Nat) (a_o_sampleByte : Nat) (a_o_idOf : Nat) (a_o_pieces : Nat) (a_o_pieceLong : Nat) (a_o_bytesOf : Nat) (a_o_dictionary : Nat) (a_o_covered : Nat) (a_o_taken : Nat) (a_o_row : Nat) (a_o_cost : Nat) (a_o_leastD : Nat) (a_o_out : Nat) (a_o_text : Nat) (o_thrown : Int32) (o_taped : Int32) (o_samples : Int32) (o_takenMany : Int32) (o_ahead : Int32) (o_textLong : Int32) (o_outMany : Int32) (o_items : Int32) (o_matches : Int32) (o_textMany : Int32) (o_sampleLong : Nat → Int32) (o_sampleByte : Nat → Int32) (v1 : Int32) (K : (Nat → Int32) → Int32 → Prop) (hK : ∀ (o_row : Nat → Int32) (v2 : Int32), K o_row v2 → Go p l e rm_X7_laySample s m args below meth c Q 3 D A [(a_o, .inr (10, [.int o_thrown, .ref a_o_tape, .int o_taped, .int o_samples, .ref a_o_sampleLong, .ref a_o_sampleByte, .ref a_o_idOf, .ref a_o_pieces, .ref a_o_pieceLong, .ref a_o_bytesOf, .ref a_o_dictionary, .ref a_o_covered, .ref a_o_taken, .int o_takenMany, .ref a_o_row, .int o_ahead, .int o_textLong, .ref a_o_cost, .ref a_o_leastD, .ref a_o_out, .int o_outMany, .int o_items, .int o_matches, .ref a_o_text, .int o_textMany])), (a_o_sampleLong, .inl (cy 1, 8, .inl o_sampleLong)), (a_o_sampleByte, .inl (cy 1, 320, .inl o_sampleByte)), (a_o_row, .inl (cy 1, 280, .inl o_row))] 0 0 48 [] []) :
    ∀ (n : Nat) (o_row : Nat → Int32) (v2 : Int32), wX7_laySample_12 o_ahead o_textLong o_sampleByte v1 K n o_row v2 → Go p l e rm_X7_laySample s m args below meth c Q 3 D A [(a_o, .inr (10, [.int o_thrown, .ref a_o_tape, .int o_taped, .int o_samples, .ref a_o_sampleLong, .ref a_o_sampleByte, .ref a_o_idOf, .ref a_o_pieces, .ref a_o_pieceLong, .ref a_o_bytesOf, .ref a_o_dictionary, .ref a_o_covered, .ref a_o_taken, .int o_takenMany, .ref a_o_row, .int o_ahead, .int o_textLong, .ref a_o_cost, .ref a_o_leastD, .ref a_o_out, .int o_outMany, .int o_items, .int o_matches, .ref a_o_text, .int o_textMany])), (a_o_sampleLong, .inl (cy 1, 8, .inl o_sampleLong)), (a_o_sampleByte, .inl (cy 1, 320, .inl o_sampleByte)), (a_o_row, .inl (cy 1, 280, .inl o_row))] 0 0 12 [(0, .ref a_o), (1, .int v1), (2, .int v2)] [] := by
  intro n
  induction n with
  | zero => intro o_row v2 h; exact absurd h id
  | succ n ih =>
    intro o_row v2 h
    refine go_iload_n X dX7_laySample_12 2 rfl rfl ?_
    refine go_aload_n X dX7_laySample_13 0 rfl rfl ?_
    refine go_get X fi_X7_laySample_X7 0 rfl rfl 16 (by decide) fl_X7_laySample_103 rfl dX7_laySample_14 ?_
    refine go_icmp_ge X 48 dX7_laySample_17 (by decide) (fun c5 => ?_) (fun c5 => ?_)
    · replace h := h.1 c5
      refine go_lv [] rfl ?_
      exact hK o_row v2 h
    · replace h := h.2 c5
      refine go_aload_n X dX7_laySample_20 0 rfl rfl ?_
      refine go_get X fi_X7_laySample_X7 0 rfl rfl 14 (by decide) fl_X7_laySample_41 rfl dX7_laySample_21 ?_
      refine go_aload_n X dX7_laySample_24 0 rfl rfl ?_
      refine go_get X fi_X7_laySample_X7 0 rfl rfl 15 (by decide) fl_X7_laySample_96 rfl dX7_laySample_25 ?_
      refine go_iload_n X dX7_laySample_28 2 rfl rfl ?_
      refine go_iadd X dX7_laySample_29 ?_
      refine go_aload_n X dX7_laySample_30 0 rfl rfl ?_
      refine go_get X fi_X7_laySample_X7 0 rfl rfl 5 (by decide) fl_X7_laySample_16 rfl dX7_laySample_31 ?_
      refine go_bipush X (v := 40) dX7_laySample_34 (by decide) ?_
      refine go_iload_n X dX7_laySample_36 1 rfl rfl ?_
      refine go_imul X dX7_laySample_37 ?_
      refine go_iload_n X dX7_laySample_38 2 rfl rfl ?_
      refine go_iadd X dX7_laySample_39 ?_
      obtain ⟨c6, h⟩ := h
      refine go_iald X 2 1 rfl rfl c6 dX7_laySample_40 ?_
      obtain ⟨c7, h⟩ := h
      refine go_iast X [(a_o, .inr (10, [.int o_thrown, .ref a_o_tape, .int o_taped, .int o_samples, .ref a_o_sampleLong, .ref a_o_sampleByte, .ref a_o_idOf, .ref a_o_pieces, .ref a_o_pieceLong, .ref a_o_bytesOf, .ref a_o_dictionary, .ref a_o_covered, .ref a_o_taken, .int o_takenMany, .ref a_o_row, .int o_ahead, .int o_textLong, .ref a_o_cost, .ref a_o_leastD, .ref a_o_out, .int o_outMany, .int o_items, .int o_matches, .ref a_o_text, .int o_textMany])), (a_o_sampleLong, .inl (cy 1, 8, .inl o_sampleLong)), (a_o_sampleByte, .inl (cy 1, 320, .inl o_sampleByte)), (a_o_row, .inl (cy 1, 280, .inl (upd o_row (o_ahead + v2).toNatClampNeg (o_sampleByte ((40 * v1) + v2).toNatClampNeg))))] 3 1 rfl rfl c7 rfl dX7_laySample_41 ?_
      obtain ⟨y8, ey8⟩ : ∃ z : Int32, z = v2 + 1 := ⟨_, rfl⟩
      replace h := h y8 ey8
      refine go_iinc X (lv' := [(2, .int y8), (0, .ref a_o), (1, .int v1)]) y8 dX7_laySample_42 2 rfl (by rw [ey8]; rfl) (by decide) rfl ?_
      refine go_goto X 12 dX7_laySample_45 (by decide) ?_
      refine go_lv [1, 2, 0] rfl ?_
      exact ih (upd o_row (o_ahead + v2).toNatClampNeg (o_sampleByte ((40 * v1) + v2).toNatClampNeg)) y8 h
set_option maxRecDepth 100000 in
set_option maxHeartbeats 4000000 in
theorem kX7_laySample (l : Launch) (D : va_G) (cy : Nat → ClassId) (a_o : Nat) (a_o_tape : Nat) (a_o_sampleLong : Nat) (a_o_sampleByte : Nat) (a_o_idOf : Nat) (a_o_pieces : Nat) (a_o_pieceLong : Nat) (a_o_bytesOf : Nat) (a_o_dictionary : Nat) (a_o_covered : Nat) (a_o_taken : Nat) (a_o_row : Nat) (a_o_cost : Nat) (a_o_leastD : Nat) (a_o_out : Nat) (a_o_text : Nat) (o_thrown : Int32) (o_taped : Int32) (o_samples : Int32) (o_takenMany : Int32) (o_ahead : Int32) (o_textLong : Int32) (o_outMany : Int32) (o_items : Int32) (o_matches : Int32) (o_textMany : Int32) (o_sampleLong : Nat → Int32) (o_sampleByte : Nat → Int32) (o_row : Nat → Int32) (p1 : Int32) (post : Int32 → (Nat → Int32) → Prop) (h : wX7_laySample o_ahead o_sampleLong o_sampleByte o_row p1 post) : MetV l yX7_laySample wsX7_laySample rm_X7_laySample D (tyL cy) [.ref a_o, .int p1] [(a_o, .inr (10, [.int o_thrown, .ref a_o_tape, .int o_taped, .int o_samples, .ref a_o_sampleLong, .ref a_o_sampleByte, .ref a_o_idOf, .ref a_o_pieces, .ref a_o_pieceLong, .ref a_o_bytesOf, .ref a_o_dictionary, .ref a_o_covered, .ref a_o_taken, .int o_takenMany, .ref a_o_row, .int o_ahead, .int o_textLong, .ref a_o_cost, .ref a_o_leastD, .ref a_o_out, .int o_outMany, .int o_items, .int o_matches, .ref a_o_text, .int o_textMany])), (a_o_sampleLong, .inl (cy 1, 8, .inl o_sampleLong)), (a_o_sampleByte, .inl (cy 1, 320, .inl o_sampleByte)), (a_o_row, .inl (cy 1, 280, .inl o_row))] (fun u : Int32 × (Nat → Int32) => [(a_o, .inr (10, [.int o_thrown, .ref a_o_tape, .int o_taped, .int o_samples, .ref a_o_sampleLong, .ref a_o_sampleByte, .ref a_o_idOf, .ref a_o_pieces, .ref a_o_pieceLong, .ref a_o_bytesOf, .ref a_o_dictionary, .ref a_o_covered, .ref a_o_taken, .int o_takenMany, .ref a_o_row, .int o_ahead, .int u.1, .ref a_o_cost, .ref a_o_leastD, .ref a_o_out, .int o_outMany, .int o_items, .int o_matches, .ref a_o_text, .int o_textMany])), (a_o_sampleLong, .inl (cy 1, 8, .inl o_sampleLong)), (a_o_sampleByte, .inl (cy 1, 320, .inl o_sampleByte)), (a_o_row, .inl (cy 1, 280, .inl u.2))]) (fun (u : Int32 × (Nat → Int32)) => post u.1 u.2) 0 0 := by
  refine metV_of (cc := cX7_laySample) (maxL := 3) (lv := [(0, .ref a_o), (1, .int p1)]) (by decide) rfl (Nat.le_of_ble_eq_true rfl) rfl ?_
  intro p e s m below meth c Q A X hlk hnm hR
  unfold wX7_laySample at h
  refine go_aload_n X dX7_laySample_0 0 rfl rfl ?_
  refine go_aload_n X dX7_laySample_1 0 rfl rfl ?_
  refine go_get X fi_X7_laySample_X7 0 rfl rfl 4 (by decide) fl_X7_laySample_13 rfl dX7_laySample_2 ?_
  refine go_iload_n X dX7_laySample_5 1 rfl rfl ?_
  obtain ⟨c1, h⟩ := h
  refine go_iald X 1 1 rfl rfl c1 dX7_laySample_6 ?_
  refine go_topi (fun y2 ey2 => ?_)
  replace h := h y2 ey2
  refine go_put X (ws' := [(a_o, .inr (10, [.int o_thrown, .ref a_o_tape, .int o_taped, .int o_samples, .ref a_o_sampleLong, .ref a_o_sampleByte, .ref a_o_idOf, .ref a_o_pieces, .ref a_o_pieceLong, .ref a_o_bytesOf, .ref a_o_dictionary, .ref a_o_covered, .ref a_o_taken, .int o_takenMany, .ref a_o_row, .int o_ahead, .int y2, .ref a_o_cost, .ref a_o_leastD, .ref a_o_out, .int o_outMany, .int o_items, .int o_matches, .ref a_o_text, .int o_textMany])), (a_o_sampleLong, .inl (cy 1, 8, .inl o_sampleLong)), (a_o_sampleByte, .inl (cy 1, 320, .inl o_sampleByte)), (a_o_row, .inl (cy 1, 280, .inl o_row))]) fi_X7_laySample_X7 tyX7 tyX7_ok nmX7 0 rfl rfl 16 (by decide) fl_X7_laySample_103 rfl (tyX7_ok 16 (by decide)) rfl rfl (Nat.le_of_ble_eq_true rfl) rfl dX7_laySample_7 ?_
  refine go_iconst X (v := 0) dX7_laySample_10 (by decide) ?_
  refine go_istore_n X (lv' := [(2, .int 0), (0, .ref a_o), (1, .int p1)]) dX7_laySample_11 rfl (by decide) rfl ?_
  obtain ⟨n9, h⟩ := h
  refine go_lv [1, 2, 0] rfl ?_
  refine pX7_laySample_12 l X a_o a_o_tape a_o_sampleLong a_o_sampleByte a_o_idOf a_o_pieces a_o_pieceLong a_o_bytesOf a_o_dictionary a_o_covered a_o_taken a_o_row a_o_cost a_o_leastD a_o_out a_o_text o_thrown o_taped o_samples o_takenMany o_ahead y2 o_outMany o_items o_matches o_textMany o_sampleLong o_sampleByte p1  _ (fun s3 y4 h => ?_) n9 o_row (0 : Int32) h
  exact hR (y2, s3) 48 _ dX7_laySample_48 h
/-! X7_findMatches -/
theorem fi_X7_findMatches_X7 : ∀ w ∈ u_ws RX7 TX7 25, w ∈ wsX7_findMatches := by decide +kernel
theorem fl_X7_findMatches_47 : Cond.fieldLink RX7 47 (TX7 18).1 (TX7 18).2.1 (TX7 18).2.2.1 ∈ wsX7_findMatches := by decide +kernel
theorem fl_X7_findMatches_96 : Cond.fieldLink RX7 96 (TX7 15).1 (TX7 15).2.1 (TX7 15).2.2.1 ∈ wsX7_findMatches := by decide +kernel
theorem fl_X7_findMatches_103 : Cond.fieldLink RX7 103 (TX7 16).1 (TX7 16).2.1 (TX7 16).2.2.1 ∈ wsX7_findMatches := by decide +kernel
theorem fl_X7_findMatches_41 : Cond.fieldLink RX7 41 (TX7 14).1 (TX7 14).2.1 (TX7 14).2.2.1 ∈ wsX7_findMatches := by decide +kernel
def rm_X7_findMatches : Room := { frames := 0, cells := 0, slots := 0, locals := 0 }
theorem cd_X7_findMatches : yX7_findMatches.cls = RX7 ∧ yX7_findMatches.cls ≠ "java/lang/invoke/MethodHandle" ∧ yX7_findMatches.cls ≠ "java/lang/invoke/VarHandle" ∧ (parseMethodDescriptor yX7_findMatches.desc).map (fun d => d.parameters.length) = some 1 := by decide +kernel
set_option maxRecDepth 100000 in
set_option maxHeartbeats 4000000 in
theorem pX7_findMatches_2 {p : Program} (l : Launch) {e : Env} {s : State} {m : MethodId} {args : Array Value} {below : List Frame} {meth : Method} {c : Code} {Q : State → Prop} {D : va_G} {cy : Nat → ClassId} {A : Nat → Prop} (X : Cx p s m args c cX7_findMatches 5 RX7 wsX7_findMatches D (tyL cy) A) (a_o : Nat) (a_o_tape : Nat) (a_o_sampleLong : Nat) (a_o_sampleByte : Nat) (a_o_idOf : Nat) (a_o_pieces : Nat) (a_o_pieceLong : Nat) (a_o_bytesOf : Nat) (a_o_dictionary : Nat) (a_o_covered : Nat) (a_o_taken : Nat) (a_o_row : Nat) (a_o_cost : Nat) (a_o_leastD : Nat) (a_o_out : Nat) (a_o_text : Nat) (o_thrown : Int32) (o_taped : Int32) (o_samples : Int32) (o_takenMany : Int32) (o_ahead : Int32) (o_textLong : Int32) (o_outMany : Int32) (o_items : Int32) (o_matches : Int32) (o_textMany : Int32) (o_row : Nat → Int32) (v1 : Int32) (K : (Nat → Int32) → Int32 → Prop) (hK : ∀ (o_leastD : Nat → Int32) (v2 : Int32), K o_leastD v2 → Go p l e rm_X7_findMatches s m args below meth c Q 5 D A [(a_o, .inr (10, [.int o_thrown, .ref a_o_tape, .int o_taped, .int o_samples, .ref a_o_sampleLong, .ref a_o_sampleByte, .ref a_o_idOf, .ref a_o_pieces, .ref a_o_pieceLong, .ref a_o_bytesOf, .ref a_o_dictionary, .ref a_o_covered, .ref a_o_taken, .int o_takenMany, .ref a_o_row, .int o_ahead, .int o_textLong, .ref a_o_cost, .ref a_o_leastD, .ref a_o_out, .int o_outMany, .int o_items, .int o_matches, .ref a_o_text, .int o_textMany])), (a_o_row, .inl (cy 1, 280, .inl o_row)), (a_o_leastD, .inl (cy 1, 2010, .inl o_leastD))] 0 0 26 [(0, .ref a_o), (1, .int v1)] []) :
    ∀ (n : Nat) (o_leastD : Nat → Int32) (v2 : Int32), wX7_findMatches_2 v1 K n o_leastD v2 → Go p l e rm_X7_findMatches s m args below meth c Q 5 D A [(a_o, .inr (10, [.int o_thrown, .ref a_o_tape, .int o_taped, .int o_samples, .ref a_o_sampleLong, .ref a_o_sampleByte, .ref a_o_idOf, .ref a_o_pieces, .ref a_o_pieceLong, .ref a_o_bytesOf, .ref a_o_dictionary, .ref a_o_covered, .ref a_o_taken, .int o_takenMany, .ref a_o_row, .int o_ahead, .int o_textLong, .ref a_o_cost, .ref a_o_leastD, .ref a_o_out, .int o_outMany, .int o_items, .int o_matches, .ref a_o_text, .int o_textMany])), (a_o_row, .inl (cy 1, 280, .inl o_row)), (a_o_leastD, .inl (cy 1, 2010, .inl o_leastD))] 0 0 2 [(0, .ref a_o), (1, .int v1), (2, .int v2)] [] := by
  intro n
  induction n with
  | zero => intro o_leastD v2 h; exact absurd h id
  | succ n ih =>
    intro o_leastD v2 h
    refine go_iload_n X dX7_findMatches_2 2 rfl rfl ?_
    refine go_bipush X (v := 10) dX7_findMatches_3 (by decide) ?_
    refine go_icmp_ge X 26 dX7_findMatches_5 (by decide) (fun c3 => ?_) (fun c3 => ?_)
    · replace h := h.1 c3
      refine go_lv [0, 1] rfl ?_
      exact hK o_leastD v2 h
    · replace h := h.2 c3
      refine go_aload_n X dX7_findMatches_8 0 rfl rfl ?_
      refine go_get X fi_X7_findMatches_X7 0 rfl rfl 18 (by decide) fl_X7_findMatches_47 rfl dX7_findMatches_9 ?_
      refine go_bipush X (v := 10) dX7_findMatches_12 (by decide) ?_
      refine go_iload_n X dX7_findMatches_14 1 rfl rfl ?_
      refine go_imul X dX7_findMatches_15 ?_
      refine go_iload_n X dX7_findMatches_16 2 rfl rfl ?_
      refine go_iadd X dX7_findMatches_17 ?_
      refine go_iconst X (v := 0) dX7_findMatches_18 (by decide) ?_
      obtain ⟨c4, h⟩ := h
      refine go_iast X [(a_o, .inr (10, [.int o_thrown, .ref a_o_tape, .int o_taped, .int o_samples, .ref a_o_sampleLong, .ref a_o_sampleByte, .ref a_o_idOf, .ref a_o_pieces, .ref a_o_pieceLong, .ref a_o_bytesOf, .ref a_o_dictionary, .ref a_o_covered, .ref a_o_taken, .int o_takenMany, .ref a_o_row, .int o_ahead, .int o_textLong, .ref a_o_cost, .ref a_o_leastD, .ref a_o_out, .int o_outMany, .int o_items, .int o_matches, .ref a_o_text, .int o_textMany])), (a_o_row, .inl (cy 1, 280, .inl o_row)), (a_o_leastD, .inl (cy 1, 2010, .inl (upd o_leastD ((10 * v1) + v2).toNatClampNeg 0)))] 2 1 rfl rfl c4 rfl dX7_findMatches_19 ?_
      obtain ⟨y5, ey5⟩ : ∃ z : Int32, z = v2 + 1 := ⟨_, rfl⟩
      replace h := h y5 ey5
      refine go_iinc X (lv' := [(2, .int y5), (0, .ref a_o), (1, .int v1)]) y5 dX7_findMatches_20 2 rfl (by rw [ey5]; rfl) (by decide) rfl ?_
      refine go_goto X 2 dX7_findMatches_23 (by decide) ?_
      refine go_lv [1, 2, 0] rfl ?_
      exact ih (upd o_leastD ((10 * v1) + v2).toNatClampNeg 0) y5 h
set_option maxRecDepth 100000 in
set_option maxHeartbeats 4000000 in
theorem pX7_findMatches_43 {p : Program} (l : Launch) {e : Env} {s : State} {m : MethodId} {args : Array Value} {below : List Frame} {meth : Method} {c : Code} {Q : State → Prop} {D : va_G} {cy : Nat → ClassId} {A : Nat → Prop} (X : Cx p s m args c cX7_findMatches 5 RX7 wsX7_findMatches D (tyL cy) A) (a_o : Nat) (a_o_tape : Nat) (a_o_sampleLong : Nat) (a_o_sampleByte : Nat) (a_o_idOf : Nat) (a_o_pieces : Nat) (a_o_pieceLong : Nat) (a_o_bytesOf : Nat) (a_o_dictionary : Nat) (a_o_covered : Nat) (a_o_taken : Nat) (a_o_row : Nat) (a_o_cost : Nat) (a_o_leastD : Nat) (a_o_out : Nat) (a_o_text : Nat) (o_thrown : Int32) (o_taped : Int32) (o_samples : Int32) (o_takenMany : Int32) (o_ahead : Int32) (o_textLong : Int32) (o_outMany : Int32) (o_items : Int32) (o_matches : Int32) (o_textMany : Int32) (o_row : Nat → Int32) (v1 : Int32) (v2 : Int32) (v3 : Int32) (K : (Nat → Int32) → Int32 → Prop) (hK : ∀ (o_leastD : Nat → Int32) (v4 : Int32), K o_leastD v4 → Go p l e rm_X7_findMatches s m args below meth c Q 5 D A [(a_o, .inr (10, [.int o_thrown, .ref a_o_tape, .int o_taped, .int o_samples, .ref a_o_sampleLong, .ref a_o_sampleByte, .ref a_o_idOf, .ref a_o_pieces, .ref a_o_pieceLong, .ref a_o_bytesOf, .ref a_o_dictionary, .ref a_o_covered, .ref a_o_taken, .int o_takenMany, .ref a_o_row, .int o_ahead, .int o_textLong, .ref a_o_cost, .ref a_o_leastD, .ref a_o_out, .int o_outMany, .int o_items, .int o_matches, .ref a_o_text, .int o_textMany])), (a_o_row, .inl (cy 1, 280, .inl o_row)), (a_o_leastD, .inl (cy 1, 2010, .inl o_leastD))] 0 0 118 [(0, .ref a_o), (1, .int v1), (2, .int v2), (3, .int v3)] []) :
    ∀ (n : Nat) (o_leastD : Nat → Int32) (v4 : Int32), wX7_findMatches_43 o_textLong o_row v1 v2 v3 K n o_leastD v4 → Go p l e rm_X7_findMatches s m args below meth c Q 5 D A [(a_o, .inr (10, [.int o_thrown, .ref a_o_tape, .int o_taped, .int o_samples, .ref a_o_sampleLong, .ref a_o_sampleByte, .ref a_o_idOf, .ref a_o_pieces, .ref a_o_pieceLong, .ref a_o_bytesOf, .ref a_o_dictionary, .ref a_o_covered, .ref a_o_taken, .int o_takenMany, .ref a_o_row, .int o_ahead, .int o_textLong, .ref a_o_cost, .ref a_o_leastD, .ref a_o_out, .int o_outMany, .int o_items, .int o_matches, .ref a_o_text, .int o_textMany])), (a_o_row, .inl (cy 1, 280, .inl o_row)), (a_o_leastD, .inl (cy 1, 2010, .inl o_leastD))] 0 0 43 [(0, .ref a_o), (1, .int v1), (2, .int v2), (3, .int v3), (4, .int v4)] [] := by
  intro n
  induction n with
  | zero => intro o_leastD v4 h; exact absurd h id
  | succ n ih =>
    intro o_leastD v4 h
    refine go_iload X dX7_findMatches_43 4 rfl ?_
    refine go_bipush X (v := 9) dX7_findMatches_45 (by decide) ?_
    refine go_icmp_ge X 118 dX7_findMatches_47 (by decide) (fun c12 => ?_) (fun c12 => ?_)
    · replace h := h.1 c12
      refine go_lv [0, 1, 2, 3] rfl ?_
      exact hK o_leastD v4 h
    · replace h := h.2 c12
      refine go_iload_n X dX7_findMatches_50 1 rfl rfl ?_
      refine go_iload X dX7_findMatches_51 4 rfl ?_
      refine go_iadd X dX7_findMatches_53 ?_
      refine go_aload_n X dX7_findMatches_54 0 rfl rfl ?_
      refine go_get X fi_X7_findMatches_X7 0 rfl rfl 16 (by decide) fl_X7_findMatches_103 rfl dX7_findMatches_55 ?_
      refine go_icmp_ge X 118 dX7_findMatches_58 (by decide) (fun c13 => ?_) (fun c13 => ?_)
      · replace h := h.1 c13
        refine go_lv [0, 1, 2, 3] rfl ?_
        exact hK o_leastD v4 h
      · replace h := h.2 c13
        refine go_aload_n X dX7_findMatches_61 0 rfl rfl ?_
        refine go_get X fi_X7_findMatches_X7 0 rfl rfl 14 (by decide) fl_X7_findMatches_41 rfl dX7_findMatches_62 ?_
        refine go_iload_n X dX7_findMatches_65 2 rfl rfl ?_
        refine go_iload X dX7_findMatches_66 4 rfl ?_
        refine go_iadd X dX7_findMatches_68 ?_
        obtain ⟨c14, h⟩ := h
        refine go_iald X 1 1 rfl rfl c14 dX7_findMatches_69 ?_
        refine go_aload_n X dX7_findMatches_70 0 rfl rfl ?_
        refine go_get X fi_X7_findMatches_X7 0 rfl rfl 14 (by decide) fl_X7_findMatches_41 rfl dX7_findMatches_71 ?_
        refine go_iload_n X dX7_findMatches_74 2 rfl rfl ?_
        refine go_iload X dX7_findMatches_75 4 rfl ?_
        refine go_iadd X dX7_findMatches_77 ?_
        refine go_iload_n X dX7_findMatches_78 3 rfl rfl ?_
        refine go_isub X dX7_findMatches_79 ?_
        obtain ⟨c15, h⟩ := h
        refine go_iald X 1 1 rfl rfl c15 dX7_findMatches_80 ?_
        refine go_icmp_ne X 118 dX7_findMatches_81 (by decide) (fun c16 => ?_) (fun c16 => ?_)
        · replace h := h.1 c16
          refine go_lv [0, 1, 2, 3] rfl ?_
          exact hK o_leastD v4 h
        · replace h := h.2 c16
          obtain ⟨y17, ey17⟩ : ∃ z : Int32, z = v4 + 1 := ⟨_, rfl⟩
          replace h := h y17 ey17
          refine go_iinc X (lv' := [(4, .int y17), (0, .ref a_o), (1, .int v1), (2, .int v2), (3, .int v3)]) y17 dX7_findMatches_84 4 rfl (by rw [ey17]; rfl) (by decide) rfl ?_
          refine go_aload_n X dX7_findMatches_87 1 rfl rfl ?_
          refine go_get X fi_X7_findMatches_X7 0 rfl rfl 18 (by decide) fl_X7_findMatches_47 rfl dX7_findMatches_88 ?_
          refine go_bipush X (v := 10) dX7_findMatches_91 (by decide) ?_
          refine go_iload_n X dX7_findMatches_93 2 rfl rfl ?_
          refine go_imul X dX7_findMatches_94 ?_
          refine go_iload X dX7_findMatches_95 0 rfl ?_
          refine go_iadd X dX7_findMatches_97 ?_
          obtain ⟨c18, h⟩ := h
          refine go_iald X 2 1 rfl rfl c18 dX7_findMatches_98 ?_
          refine go_if_ne X 43 dX7_findMatches_99 (by decide) (fun c19 => ?_) (fun c19 => ?_)
          · replace h := h.1 c19
            refine go_lv [1, 2, 3, 4, 0] rfl ?_
            exact ih o_leastD y17 h
          · replace h := h.2 c19
            refine go_aload_n X dX7_findMatches_102 1 rfl rfl ?_
            refine go_get X fi_X7_findMatches_X7 0 rfl rfl 18 (by decide) fl_X7_findMatches_47 rfl dX7_findMatches_103 ?_
            refine go_bipush X (v := 10) dX7_findMatches_106 (by decide) ?_
            refine go_iload_n X dX7_findMatches_108 2 rfl rfl ?_
            refine go_imul X dX7_findMatches_109 ?_
            refine go_iload X dX7_findMatches_110 0 rfl ?_
            refine go_iadd X dX7_findMatches_112 ?_
            refine go_iload_n X dX7_findMatches_113 4 rfl rfl ?_
            obtain ⟨c20, h⟩ := h
            refine go_iast X [(a_o, .inr (10, [.int o_thrown, .ref a_o_tape, .int o_taped, .int o_samples, .ref a_o_sampleLong, .ref a_o_sampleByte, .ref a_o_idOf, .ref a_o_pieces, .ref a_o_pieceLong, .ref a_o_bytesOf, .ref a_o_dictionary, .ref a_o_covered, .ref a_o_taken, .int o_takenMany, .ref a_o_row, .int o_ahead, .int o_textLong, .ref a_o_cost, .ref a_o_leastD, .ref a_o_out, .int o_outMany, .int o_items, .int o_matches, .ref a_o_text, .int o_textMany])), (a_o_row, .inl (cy 1, 280, .inl o_row)), (a_o_leastD, .inl (cy 1, 2010, .inl (upd o_leastD ((10 * v1) + y17).toNatClampNeg v3)))] 2 1 rfl rfl c20 rfl dX7_findMatches_114 ?_
            refine go_goto X 43 dX7_findMatches_115 (by decide) ?_
            refine go_lv [1, 2, 3, 4, 0] rfl ?_
            exact ih (upd o_leastD ((10 * v1) + y17).toNatClampNeg v3) y17 h
set_option maxRecDepth 100000 in
set_option maxHeartbeats 4000000 in
theorem pX7_findMatches_35 {p : Program} (l : Launch) {e : Env} {s : State} {m : MethodId} {args : Array Value} {below : List Frame} {meth : Method} {c : Code} {Q : State → Prop} {D : va_G} {cy : Nat → ClassId} {A : Nat → Prop} (X : Cx p s m args c cX7_findMatches 5 RX7 wsX7_findMatches D (tyL cy) A) (a_o : Nat) (a_o_tape : Nat) (a_o_sampleLong : Nat) (a_o_sampleByte : Nat) (a_o_idOf : Nat) (a_o_pieces : Nat) (a_o_pieceLong : Nat) (a_o_bytesOf : Nat) (a_o_dictionary : Nat) (a_o_covered : Nat) (a_o_taken : Nat) (a_o_row : Nat) (a_o_cost : Nat) (a_o_leastD : Nat) (a_o_out : Nat) (a_o_text : Nat) (o_thrown : Int32) (o_taped : Int32) (o_samples : Int32) (o_takenMany : Int32) (o_ahead : Int32) (o_textLong : Int32) (o_outMany : Int32) (o_items : Int32) (o_matches : Int32) (o_textMany : Int32) (o_row : Nat → Int32) (v1 : Int32) (v2 : Int32) (K : (Nat → Int32) → Int32 → Prop) (hK : ∀ (o_leastD : Nat → Int32) (v3 : Int32), K o_leastD v3 → Go p l e rm_X7_findMatches s m args below meth c Q 5 D A [(a_o, .inr (10, [.int o_thrown, .ref a_o_tape, .int o_taped, .int o_samples, .ref a_o_sampleLong, .ref a_o_sampleByte, .ref a_o_idOf, .ref a_o_pieces, .ref a_o_pieceLong, .ref a_o_bytesOf, .ref a_o_dictionary, .ref a_o_covered, .ref a_o_taken, .int o_takenMany, .ref a_o_row, .int o_ahead, .int o_textLong, .ref a_o_cost, .ref a_o_leastD, .ref a_o_out, .int o_outMany, .int o_items, .int o_matches, .ref a_o_text, .int o_textMany])), (a_o_row, .inl (cy 1, 280, .inl o_row)), (a_o_leastD, .inl (cy 1, 2010, .inl o_leastD))] 0 0 124 [] []) :
    ∀ (n : Nat) (o_leastD : Nat → Int32) (v3 : Int32), wX7_findMatches_35 o_textLong o_row v1 v2 K n o_leastD v3 → Go p l e rm_X7_findMatches s m args below meth c Q 5 D A [(a_o, .inr (10, [.int o_thrown, .ref a_o_tape, .int o_taped, .int o_samples, .ref a_o_sampleLong, .ref a_o_sampleByte, .ref a_o_idOf, .ref a_o_pieces, .ref a_o_pieceLong, .ref a_o_bytesOf, .ref a_o_dictionary, .ref a_o_covered, .ref a_o_taken, .int o_takenMany, .ref a_o_row, .int o_ahead, .int o_textLong, .ref a_o_cost, .ref a_o_leastD, .ref a_o_out, .int o_outMany, .int o_items, .int o_matches, .ref a_o_text, .int o_textMany])), (a_o_row, .inl (cy 1, 280, .inl o_row)), (a_o_leastD, .inl (cy 1, 2010, .inl o_leastD))] 0 0 35 [(0, .ref a_o), (1, .int v1), (2, .int v2), (3, .int v3)] [] := by
  intro n
  induction n with
  | zero => intro o_leastD v3 h; exact absurd h id
  | succ n ih =>
    intro o_leastD v3 h
    refine go_iload_n X dX7_findMatches_35 3 rfl rfl ?_
    refine go_iload_n X dX7_findMatches_36 2 rfl rfl ?_
    refine go_icmp_gt X 124 dX7_findMatches_37 (by decide) (fun c9 => ?_) (fun c9 => ?_)
    · replace h := h.1 c9
      refine go_lv [] rfl ?_
      exact hK o_leastD v3 h
    · replace h := h.2 c9
      refine go_iconst X (v := 0) dX7_findMatches_40 (by decide) ?_
      refine go_istore X (lv' := [(4, .int 0), (0, .ref a_o), (1, .int v1), (2, .int v2), (3, .int v3)]) dX7_findMatches_41 (by decide) rfl ?_
      obtain ⟨n22, h⟩ := h
      refine go_lv [1, 2, 3, 4, 0] rfl ?_
      refine pX7_findMatches_43 l X a_o a_o_tape a_o_sampleLong a_o_sampleByte a_o_idOf a_o_pieces a_o_pieceLong a_o_bytesOf a_o_dictionary a_o_covered a_o_taken a_o_row a_o_cost a_o_leastD a_o_out a_o_text o_thrown o_taped o_samples o_takenMany o_ahead o_textLong o_outMany o_items o_matches o_textMany o_row v1 v2 v3  _ (fun s10 y11 h => ?_) n22 o_leastD (0 : Int32) h
      obtain ⟨y21, ey21⟩ : ∃ z : Int32, z = v3 + 1 := ⟨_, rfl⟩
      replace h := h y21 ey21
      refine go_iinc X (lv' := [(3, .int y21), (0, .ref a_o), (1, .int v1), (2, .int v2)]) y21 dX7_findMatches_118 3 rfl (by rw [ey21]; rfl) (by decide) rfl ?_
      refine go_goto X 35 dX7_findMatches_121 (by decide) ?_
      refine go_lv [1, 2, 3, 0] rfl ?_
      exact ih s10 y21 h
set_option maxRecDepth 100000 in
set_option maxHeartbeats 4000000 in
theorem kX7_findMatches (l : Launch) (D : va_G) (cy : Nat → ClassId) (a_o : Nat) (a_o_tape : Nat) (a_o_sampleLong : Nat) (a_o_sampleByte : Nat) (a_o_idOf : Nat) (a_o_pieces : Nat) (a_o_pieceLong : Nat) (a_o_bytesOf : Nat) (a_o_dictionary : Nat) (a_o_covered : Nat) (a_o_taken : Nat) (a_o_row : Nat) (a_o_cost : Nat) (a_o_leastD : Nat) (a_o_out : Nat) (a_o_text : Nat) (o_thrown : Int32) (o_taped : Int32) (o_samples : Int32) (o_takenMany : Int32) (o_ahead : Int32) (o_textLong : Int32) (o_outMany : Int32) (o_items : Int32) (o_matches : Int32) (o_textMany : Int32) (o_row : Nat → Int32) (o_leastD : Nat → Int32) (p1 : Int32) (post : (Nat → Int32) → Prop) (h : wX7_findMatches o_ahead o_textLong o_row o_leastD p1 post) : MetV l yX7_findMatches wsX7_findMatches rm_X7_findMatches D (tyL cy) [.ref a_o, .int p1] [(a_o, .inr (10, [.int o_thrown, .ref a_o_tape, .int o_taped, .int o_samples, .ref a_o_sampleLong, .ref a_o_sampleByte, .ref a_o_idOf, .ref a_o_pieces, .ref a_o_pieceLong, .ref a_o_bytesOf, .ref a_o_dictionary, .ref a_o_covered, .ref a_o_taken, .int o_takenMany, .ref a_o_row, .int o_ahead, .int o_textLong, .ref a_o_cost, .ref a_o_leastD, .ref a_o_out, .int o_outMany, .int o_items, .int o_matches, .ref a_o_text, .int o_textMany])), (a_o_row, .inl (cy 1, 280, .inl o_row)), (a_o_leastD, .inl (cy 1, 2010, .inl o_leastD))] (fun u : (Nat → Int32) => [(a_o, .inr (10, [.int o_thrown, .ref a_o_tape, .int o_taped, .int o_samples, .ref a_o_sampleLong, .ref a_o_sampleByte, .ref a_o_idOf, .ref a_o_pieces, .ref a_o_pieceLong, .ref a_o_bytesOf, .ref a_o_dictionary, .ref a_o_covered, .ref a_o_taken, .int o_takenMany, .ref a_o_row, .int o_ahead, .int o_textLong, .ref a_o_cost, .ref a_o_leastD, .ref a_o_out, .int o_outMany, .int o_items, .int o_matches, .ref a_o_text, .int o_textMany])), (a_o_row, .inl (cy 1, 280, .inl o_row)), (a_o_leastD, .inl (cy 1, 2010, .inl u))]) (fun (u : (Nat → Int32)) => post u) 0 0 := by
  refine metV_of (cc := cX7_findMatches) (maxL := 5) (lv := [(0, .ref a_o), (1, .int p1)]) (by decide) rfl (Nat.le_of_ble_eq_true rfl) rfl ?_
  intro p e s m below meth c Q A X hlk hnm hR
  unfold wX7_findMatches at h
  refine go_iconst X (v := 0) dX7_findMatches_0 (by decide) ?_
  refine go_istore_n X (lv' := [(2, .int 0), (0, .ref a_o), (1, .int p1)]) dX7_findMatches_1 rfl (by decide) rfl ?_
  obtain ⟨n24, h⟩ := h
  refine go_lv [1, 2, 0] rfl ?_
  refine pX7_findMatches_2 l X a_o a_o_tape a_o_sampleLong a_o_sampleByte a_o_idOf a_o_pieces a_o_pieceLong a_o_bytesOf a_o_dictionary a_o_covered a_o_taken a_o_row a_o_cost a_o_leastD a_o_out a_o_text o_thrown o_taped o_samples o_takenMany o_ahead o_textLong o_outMany o_items o_matches o_textMany o_row p1  _ (fun s1 y2 h => ?_) n24 o_leastD (0 : Int32) h
  refine go_aload_n X dX7_findMatches_26 0 rfl rfl ?_
  refine go_get X fi_X7_findMatches_X7 0 rfl rfl 15 (by decide) fl_X7_findMatches_96 rfl dX7_findMatches_27 ?_
  refine go_iload_n X dX7_findMatches_30 1 rfl rfl ?_
  refine go_iadd X dX7_findMatches_31 ?_
  refine go_topi (fun y6 ey6 => ?_)
  replace h := h y6 ey6
  refine go_istore_n X (lv' := [(2, .int y6), (0, .ref a_o), (1, .int p1)]) dX7_findMatches_32 rfl (by decide) rfl ?_
  refine go_iconst X (v := 1) dX7_findMatches_33 (by decide) ?_
  refine go_istore_n X (lv' := [(3, .int 1), (2, .int y6), (0, .ref a_o), (1, .int p1)]) dX7_findMatches_34 rfl (by decide) rfl ?_
  obtain ⟨n23, h⟩ := h
  refine go_lv [2, 3, 1, 0] rfl ?_
  refine pX7_findMatches_35 l X a_o a_o_tape a_o_sampleLong a_o_sampleByte a_o_idOf a_o_pieces a_o_pieceLong a_o_bytesOf a_o_dictionary a_o_covered a_o_taken a_o_row a_o_cost a_o_leastD a_o_out a_o_text o_thrown o_taped o_samples o_takenMany o_ahead o_textLong o_outMany o_items o_matches o_textMany o_row p1 y6  _ (fun s7 y8 h => ?_) n23 s1 (1 : Int32) h
  exact hR s7 124 _ dX7_findMatches_124 h
/-! X7_packedLong -/
theorem fi_X7_packedLong_X7 : ∀ w ∈ u_ws RX7 TX7 25, w ∈ wsX7_packedLong := by decide +kernel
theorem fl_X7_packedLong_44 : Cond.fieldLink RX7 44 (TX7 17).1 (TX7 17).2.1 (TX7 17).2.2.1 ∈ wsX7_packedLong := by decide +kernel
theorem fl_X7_packedLong_103 : Cond.fieldLink RX7 103 (TX7 16).1 (TX7 16).2.1 (TX7 16).2.2.1 ∈ wsX7_packedLong := by decide +kernel
theorem fl_X7_packedLong_47 : Cond.fieldLink RX7 47 (TX7 18).1 (TX7 18).2.1 (TX7 18).2.2.1 ∈ wsX7_packedLong := by decide +kernel
def rm_X7_packedLong : Room := { frames := 1, cells := 0, slots := 0, locals := 24 }
theorem cd_X7_packedLong : yX7_packedLong.cls = RX7 ∧ yX7_packedLong.cls ≠ "java/lang/invoke/MethodHandle" ∧ yX7_packedLong.cls ≠ "java/lang/invoke/VarHandle" ∧ (parseMethodDescriptor yX7_packedLong.desc).map (fun d => d.parameters.length) = some 0 := by decide +kernel
set_option maxRecDepth 100000 in
set_option maxHeartbeats 4000000 in
theorem pX7_packedLong_32 {p : Program} (l : Launch) {e : Env} {s : State} {m : MethodId} {args : Array Value} {below : List Frame} {meth : Method} {c : Code} {Q : State → Prop} {D : va_G} {cy : Nat → ClassId} {A : Nat → Prop} (X : Cx p s m args c cX7_packedLong 5 RX7 wsX7_packedLong D (tyL cy) A) (a_o : Nat) (a_o_tape : Nat) (a_o_sampleLong : Nat) (a_o_sampleByte : Nat) (a_o_idOf : Nat) (a_o_pieces : Nat) (a_o_pieceLong : Nat) (a_o_bytesOf : Nat) (a_o_dictionary : Nat) (a_o_covered : Nat) (a_o_taken : Nat) (a_o_row : Nat) (a_o_cost : Nat) (a_o_leastD : Nat) (a_o_out : Nat) (a_o_text : Nat) (o_thrown : Int32) (o_taped : Int32) (o_samples : Int32) (o_takenMany : Int32) (o_ahead : Int32) (o_textLong : Int32) (o_outMany : Int32) (o_items : Int32) (o_matches : Int32) (o_textMany : Int32) (o_row : Nat → Int32) (o_cost : Nat → Int32) (o_leastD : Nat → Int32) (v1 : Int32) (K : Int32 → Int32 → Prop) (hK : ∀ (v2 : Int32) (v3 : Int32), K v2 v3 → Go p l e rm_X7_packedLong s m args below meth c Q 5 D A [(a_o, .inr (10, [.int o_thrown, .ref a_o_tape, .int o_taped, .int o_samples, .ref a_o_sampleLong, .ref a_o_sampleByte, .ref a_o_idOf, .ref a_o_pieces, .ref a_o_pieceLong, .ref a_o_bytesOf, .ref a_o_dictionary, .ref a_o_covered, .ref a_o_taken, .int o_takenMany, .ref a_o_row, .int o_ahead, .int o_textLong, .ref a_o_cost, .ref a_o_leastD, .ref a_o_out, .int o_outMany, .int o_items, .int o_matches, .ref a_o_text, .int o_textMany])), (a_o_row, .inl (cy 1, 280, .inl o_row)), (a_o_cost, .inl (cy 1, 201, .inl o_cost)), (a_o_leastD, .inl (cy 1, 2010, .inl o_leastD))] 0 0 81 [(0, .ref a_o), (1, .int v1), (2, .int v2)] []) :
    ∀ (n : Nat) (v2 : Int32) (v3 : Int32), wX7_packedLong_32 o_textLong o_cost v1 K n v2 v3 → Go p l e rm_X7_packedLong s m args below meth c Q 5 D A [(a_o, .inr (10, [.int o_thrown, .ref a_o_tape, .int o_taped, .int o_samples, .ref a_o_sampleLong, .ref a_o_sampleByte, .ref a_o_idOf, .ref a_o_pieces, .ref a_o_pieceLong, .ref a_o_bytesOf, .ref a_o_dictionary, .ref a_o_covered, .ref a_o_taken, .int o_takenMany, .ref a_o_row, .int o_ahead, .int o_textLong, .ref a_o_cost, .ref a_o_leastD, .ref a_o_out, .int o_outMany, .int o_items, .int o_matches, .ref a_o_text, .int o_textMany])), (a_o_row, .inl (cy 1, 280, .inl o_row)), (a_o_cost, .inl (cy 1, 201, .inl o_cost)), (a_o_leastD, .inl (cy 1, 2010, .inl o_leastD))] 0 0 32 [(0, .ref a_o), (1, .int v1), (2, .int v2), (3, .int v3)] [] := by
  intro n
  induction n with
  | zero => intro v2 v3 h; exact absurd h id
  | succ n ih =>
    intro v2 v3 h
    refine go_iload_n X dX7_packedLong_32 3 rfl rfl ?_
    refine go_bipush X (v := 32) dX7_packedLong_33 (by decide) ?_
    refine go_icmp_gt X 81 dX7_packedLong_35 (by decide) (fun c10 => ?_) (fun c10 => ?_)
    · replace h := h.1 c10
      refine go_lv [0, 1, 2] rfl ?_
      exact hK v2 v3 h
    · replace h := h.2 c10
      refine go_iload_n X dX7_packedLong_38 1 rfl rfl ?_
      refine go_iload_n X dX7_packedLong_39 3 rfl rfl ?_
      refine go_iadd X dX7_packedLong_40 ?_
      refine go_aload_n X dX7_packedLong_41 0 rfl rfl ?_
      refine go_get X fi_X7_packedLong_X7 0 rfl rfl 16 (by decide) fl_X7_packedLong_103 rfl dX7_packedLong_42 ?_
      refine go_icmp_gt X 81 dX7_packedLong_45 (by decide) (fun c11 => ?_) (fun c11 => ?_)
      · replace h := h.1 c11
        refine go_lv [0, 1, 2] rfl ?_
        exact hK v2 v3 h
      · replace h := h.2 c11
        refine go_iconst X (v := 1) dX7_packedLong_48 (by decide) ?_
        refine go_iload_n X dX7_packedLong_49 3 rfl rfl ?_
        refine go_iadd X dX7_packedLong_50 ?_
        refine go_aload_n X dX7_packedLong_51 0 rfl rfl ?_
        refine go_get X fi_X7_packedLong_X7 0 rfl rfl 17 (by decide) fl_X7_packedLong_44 rfl dX7_packedLong_52 ?_
        refine go_iload_n X dX7_packedLong_55 1 rfl rfl ?_
        refine go_iload_n X dX7_packedLong_56 3 rfl rfl ?_
        refine go_iadd X dX7_packedLong_57 ?_
        obtain ⟨c12, h⟩ := h
        refine go_iald X 2 1 rfl rfl c12 dX7_packedLong_58 ?_
        refine go_iadd X dX7_packedLong_59 ?_
        refine go_topi (fun y13 ey13 => ?_)
        replace h := h y13 ey13
        refine go_istore X (lv' := [(4, .int y13), (0, .ref a_o), (1, .int v1), (2, .int v2), (3, .int v3)]) dX7_packedLong_60 (by decide) rfl ?_
        refine go_iload X dX7_packedLong_62 0 rfl ?_
        refine go_iload_n X dX7_packedLong_64 3 rfl rfl ?_
        refine go_icmp_ge X 73 dX7_packedLong_65 (by decide) (fun c14 => ?_) (fun c14 => ?_)
        · replace h := h.1 c14
          refine go_iload_n X dX7_packedLong_73 3 rfl rfl ?_
          refine go_istore_n X (lv' := [(2, .int v2), (4, .int y13), (0, .ref a_o), (1, .int v1), (3, .int v3)]) dX7_packedLong_74 rfl (by decide) rfl ?_
          obtain ⟨y15, ey15⟩ : ∃ z : Int32, z = v3 + 1 := ⟨_, rfl⟩
          replace h := h y15 ey15
          refine go_iinc X (lv' := [(3, .int y15), (2, .int v2), (4, .int y13), (0, .ref a_o), (1, .int v1)]) y15 dX7_packedLong_75 4 rfl (by rw [ey15]; rfl) (by decide) rfl ?_
          refine go_goto X 32 dX7_packedLong_78 (by decide) ?_
          refine go_lv [3, 4, 1, 0] rfl ?_
          exact ih v2 y15 h
        · replace h := h.2 c14
          refine go_iload X dX7_packedLong_68 0 rfl ?_
          refine go_goto X 74 dX7_packedLong_70 (by decide) ?_
          refine go_istore_n X (lv' := [(2, .int y13), (4, .int y13), (0, .ref a_o), (1, .int v1), (3, .int v3)]) dX7_packedLong_74 rfl (by decide) rfl ?_
          obtain ⟨y16, ey16⟩ : ∃ z : Int32, z = v3 + 1 := ⟨_, rfl⟩
          replace h := h y16 ey16
          refine go_iinc X (lv' := [(3, .int y16), (2, .int y13), (4, .int y13), (0, .ref a_o), (1, .int v1)]) y16 dX7_packedLong_75 4 rfl (by rw [ey16]; rfl) (by decide) rfl ?_
          refine go_goto X 32 dX7_packedLong_78 (by decide) ?_
          refine go_lv [3, 4, 1, 0] rfl ?_
          exact ih y13 y16 h
set_option maxRecDepth 100000 in
set_option maxHeartbeats 4000000 in
theorem pX7_packedLong_83 {p : Program} (l : Launch) {e : Env} {s : State} {m : MethodId} {args : Array Value} {below : List Frame} {meth : Method} {c : Code} {Q : State → Prop} {D : va_G} {cy : Nat → ClassId} {A : Nat → Prop} (X : Cx p s m args c cX7_packedLong 5 RX7 wsX7_packedLong D (tyL cy) A) (a_o : Nat) (a_o_tape : Nat) (a_o_sampleLong : Nat) (a_o_sampleByte : Nat) (a_o_idOf : Nat) (a_o_pieces : Nat) (a_o_pieceLong : Nat) (a_o_bytesOf : Nat) (a_o_dictionary : Nat) (a_o_covered : Nat) (a_o_taken : Nat) (a_o_row : Nat) (a_o_cost : Nat) (a_o_leastD : Nat) (a_o_out : Nat) (a_o_text : Nat) (o_thrown : Int32) (o_taped : Int32) (o_samples : Int32) (o_takenMany : Int32) (o_ahead : Int32) (o_textLong : Int32) (o_outMany : Int32) (o_items : Int32) (o_matches : Int32) (o_textMany : Int32) (o_row : Nat → Int32) (o_cost : Nat → Int32) (o_leastD : Nat → Int32) (v1 : Int32) (K : Int32 → Int32 → Prop) (hK : ∀ (v2 : Int32) (v3 : Int32), K v2 v3 → Go p l e rm_X7_packedLong s m args below meth c Q 5 D A [(a_o, .inr (10, [.int o_thrown, .ref a_o_tape, .int o_taped, .int o_samples, .ref a_o_sampleLong, .ref a_o_sampleByte, .ref a_o_idOf, .ref a_o_pieces, .ref a_o_pieceLong, .ref a_o_bytesOf, .ref a_o_dictionary, .ref a_o_covered, .ref a_o_taken, .int o_takenMany, .ref a_o_row, .int o_ahead, .int o_textLong, .ref a_o_cost, .ref a_o_leastD, .ref a_o_out, .int o_outMany, .int o_items, .int o_matches, .ref a_o_text, .int o_textMany])), (a_o_row, .inl (cy 1, 280, .inl o_row)), (a_o_cost, .inl (cy 1, 201, .inl o_cost)), (a_o_leastD, .inl (cy 1, 2010, .inl o_leastD))] 0 0 134 [(0, .ref a_o), (1, .int v1), (2, .int v2)] []) :
    ∀ (n : Nat) (v2 : Int32) (v3 : Int32), wX7_packedLong_83 o_cost o_leastD v1 K n v2 v3 → Go p l e rm_X7_packedLong s m args below meth c Q 5 D A [(a_o, .inr (10, [.int o_thrown, .ref a_o_tape, .int o_taped, .int o_samples, .ref a_o_sampleLong, .ref a_o_sampleByte, .ref a_o_idOf, .ref a_o_pieces, .ref a_o_pieceLong, .ref a_o_bytesOf, .ref a_o_dictionary, .ref a_o_covered, .ref a_o_taken, .int o_takenMany, .ref a_o_row, .int o_ahead, .int o_textLong, .ref a_o_cost, .ref a_o_leastD, .ref a_o_out, .int o_outMany, .int o_items, .int o_matches, .ref a_o_text, .int o_textMany])), (a_o_row, .inl (cy 1, 280, .inl o_row)), (a_o_cost, .inl (cy 1, 201, .inl o_cost)), (a_o_leastD, .inl (cy 1, 2010, .inl o_leastD))] 0 0 83 [(0, .ref a_o), (1, .int v1), (2, .int v2), (3, .int v3)] [] := by
  intro n
  induction n with
  | zero => intro v2 v3 h; exact absurd h id
  | succ n ih =>
    intro v2 v3 h
    refine go_iload_n X dX7_packedLong_83 3 rfl rfl ?_
    refine go_bipush X (v := 9) dX7_packedLong_84 (by decide) ?_
    refine go_icmp_gt X 134 dX7_packedLong_86 (by decide) (fun c19 => ?_) (fun c19 => ?_)
    · replace h := h.1 c19
      refine go_lv [0, 1, 2] rfl ?_
      exact hK v2 v3 h
    · replace h := h.2 c19
      refine go_aload_n X dX7_packedLong_89 0 rfl rfl ?_
      refine go_get X fi_X7_packedLong_X7 0 rfl rfl 18 (by decide) fl_X7_packedLong_47 rfl dX7_packedLong_90 ?_
      refine go_bipush X (v := 10) dX7_packedLong_93 (by decide) ?_
      refine go_iload_n X dX7_packedLong_95 1 rfl rfl ?_
      refine go_imul X dX7_packedLong_96 ?_
      refine go_iload_n X dX7_packedLong_97 3 rfl rfl ?_
      refine go_iadd X dX7_packedLong_98 ?_
      obtain ⟨c20, h⟩ := h
      refine go_iald X 3 1 rfl rfl c20 dX7_packedLong_99 ?_
      refine go_if_le X 128 dX7_packedLong_100 (by decide) (fun c21 => ?_) (fun c21 => ?_)
      · replace h := h.1 c21
        obtain ⟨y22, ey22⟩ : ∃ z : Int32, z = v3 + 1 := ⟨_, rfl⟩
        replace h := h y22 ey22
        refine go_iinc X (lv' := [(3, .int y22), (0, .ref a_o), (1, .int v1), (2, .int v2)]) y22 dX7_packedLong_128 3 rfl (by rw [ey22]; rfl) (by decide) rfl ?_
        refine go_goto X 83 dX7_packedLong_131 (by decide) ?_
        refine go_lv [1, 2, 3, 0] rfl ?_
        exact ih v2 y22 h
      · replace h := h.2 c21
        refine go_iconst X (v := 2) dX7_packedLong_103 (by decide) ?_
        refine go_aload_n X dX7_packedLong_104 0 rfl rfl ?_
        refine go_get X fi_X7_packedLong_X7 0 rfl rfl 17 (by decide) fl_X7_packedLong_44 rfl dX7_packedLong_105 ?_
        refine go_iload_n X dX7_packedLong_108 1 rfl rfl ?_
        refine go_iload_n X dX7_packedLong_109 3 rfl rfl ?_
        refine go_iadd X dX7_packedLong_110 ?_
        obtain ⟨c23, h⟩ := h
        refine go_iald X 2 1 rfl rfl c23 dX7_packedLong_111 ?_
        refine go_iadd X dX7_packedLong_112 ?_
        refine go_iload_n X dX7_packedLong_113 2 rfl rfl ?_
        refine go_icmp_ge X 128 dX7_packedLong_114 (by decide) (fun c24 => ?_) (fun c24 => ?_)
        · replace h := h.1 c24
          obtain ⟨y25, ey25⟩ : ∃ z : Int32, z = v3 + 1 := ⟨_, rfl⟩
          replace h := h y25 ey25
          refine go_iinc X (lv' := [(3, .int y25), (0, .ref a_o), (1, .int v1), (2, .int v2)]) y25 dX7_packedLong_128 3 rfl (by rw [ey25]; rfl) (by decide) rfl ?_
          refine go_goto X 83 dX7_packedLong_131 (by decide) ?_
          refine go_lv [1, 2, 3, 0] rfl ?_
          exact ih v2 y25 h
        · replace h := h.2 c24
          refine go_iconst X (v := 2) dX7_packedLong_117 (by decide) ?_
          refine go_aload_n X dX7_packedLong_118 0 rfl rfl ?_
          refine go_get X fi_X7_packedLong_X7 0 rfl rfl 17 (by decide) fl_X7_packedLong_44 rfl dX7_packedLong_119 ?_
          refine go_iload_n X dX7_packedLong_122 1 rfl rfl ?_
          refine go_iload_n X dX7_packedLong_123 3 rfl rfl ?_
          refine go_iadd X dX7_packedLong_124 ?_
          obtain ⟨c26, h⟩ := h
          refine go_iald X 2 1 rfl rfl c26 dX7_packedLong_125 ?_
          refine go_iadd X dX7_packedLong_126 ?_
          refine go_topi (fun y27 ey27 => ?_)
          replace h := h y27 ey27
          refine go_istore_n X (lv' := [(2, .int y27), (0, .ref a_o), (1, .int v1), (3, .int v3)]) dX7_packedLong_127 rfl (by decide) rfl ?_
          obtain ⟨y28, ey28⟩ : ∃ z : Int32, z = v3 + 1 := ⟨_, rfl⟩
          replace h := h y28 ey28
          refine go_iinc X (lv' := [(3, .int y28), (2, .int y27), (0, .ref a_o), (1, .int v1)]) y28 dX7_packedLong_128 3 rfl (by rw [ey28]; rfl) (by decide) rfl ?_
          refine go_goto X 83 dX7_packedLong_131 (by decide) ?_
          refine go_lv [2, 3, 1, 0] rfl ?_
          exact ih y27 y28 h
set_option maxRecDepth 100000 in
set_option maxHeartbeats 4000000 in
theorem pX7_packedLong_17 {p : Program} (l : Launch) {e : Env} {s : State} {m : MethodId} {args : Array Value} {below : List Frame} {meth : Method} {c : Code} {Q : State → Prop} {D : va_G} {cy : Nat → ClassId} {A : Nat → Prop} (X : Cx p s m args c cX7_packedLong 5 RX7 wsX7_packedLong D (tyL cy) A) (a_o : Nat) (a_o_tape : Nat) (a_o_sampleLong : Nat) (a_o_sampleByte : Nat) (a_o_idOf : Nat) (a_o_pieces : Nat) (a_o_pieceLong : Nat) (a_o_bytesOf : Nat) (a_o_dictionary : Nat) (a_o_covered : Nat) (a_o_taken : Nat) (a_o_row : Nat) (a_o_cost : Nat) (a_o_leastD : Nat) (a_o_out : Nat) (a_o_text : Nat) (o_thrown : Int32) (o_taped : Int32) (o_samples : Int32) (o_takenMany : Int32) (o_ahead : Int32) (o_textLong : Int32) (o_outMany : Int32) (o_items : Int32) (o_matches : Int32) (o_textMany : Int32) (o_row : Nat → Int32) (K : (Nat → Int32) → (Nat → Int32) → Int32 → Prop) (hK : ∀ (o_cost : Nat → Int32) (o_leastD : Nat → Int32) (v1 : Int32), K o_cost o_leastD v1 → Go p l e rm_X7_packedLong s m args below meth c Q 5 D A [(a_o, .inr (10, [.int o_thrown, .ref a_o_tape, .int o_taped, .int o_samples, .ref a_o_sampleLong, .ref a_o_sampleByte, .ref a_o_idOf, .ref a_o_pieces, .ref a_o_pieceLong, .ref a_o_bytesOf, .ref a_o_dictionary, .ref a_o_covered, .ref a_o_taken, .int o_takenMany, .ref a_o_row, .int o_ahead, .int o_textLong, .ref a_o_cost, .ref a_o_leastD, .ref a_o_out, .int o_outMany, .int o_items, .int o_matches, .ref a_o_text, .int o_textMany])), (a_o_row, .inl (cy 1, 280, .inl o_row)), (a_o_cost, .inl (cy 1, 201, .inl o_cost)), (a_o_leastD, .inl (cy 1, 2010, .inl o_leastD))] 0 0 147 [(0, .ref a_o)] []) :
    ∀ (n : Nat) (o_cost : Nat → Int32) (o_leastD : Nat → Int32) (v1 : Int32), wX7_packedLong_17 o_ahead o_textLong o_row K n o_cost o_leastD v1 → Go p l e rm_X7_packedLong s m args below meth c Q 5 D A [(a_o, .inr (10, [.int o_thrown, .ref a_o_tape, .int o_taped, .int o_samples, .ref a_o_sampleLong, .ref a_o_sampleByte, .ref a_o_idOf, .ref a_o_pieces, .ref a_o_pieceLong, .ref a_o_bytesOf, .ref a_o_dictionary, .ref a_o_covered, .ref a_o_taken, .int o_takenMany, .ref a_o_row, .int o_ahead, .int o_textLong, .ref a_o_cost, .ref a_o_leastD, .ref a_o_out, .int o_outMany, .int o_items, .int o_matches, .ref a_o_text, .int o_textMany])), (a_o_row, .inl (cy 1, 280, .inl o_row)), (a_o_cost, .inl (cy 1, 201, .inl o_cost)), (a_o_leastD, .inl (cy 1, 2010, .inl o_leastD))] 0 0 17 [(0, .ref a_o), (1, .int v1)] [] := by
  intro n
  induction n with
  | zero => intro o_cost o_leastD v1 h; exact absurd h id
  | succ n ih =>
    intro o_cost o_leastD v1 h
    refine go_iload_n X dX7_packedLong_17 1 rfl rfl ?_
    refine go_if_lt X 147 dX7_packedLong_18 (by decide) (fun c6 => ?_) (fun c6 => ?_)
    · replace h := h.1 c6
      refine go_lv [0] rfl ?_
      exact hK o_cost o_leastD v1 h
    · replace h := h.2 c6
      refine go_aload_n X dX7_packedLong_21 0 rfl rfl ?_
      refine go_iload_n X dX7_packedLong_22 1 rfl rfl ?_
      refine go_callVv X (kX7_findMatches l D cy a_o a_o_tape a_o_sampleLong a_o_sampleByte a_o_idOf a_o_pieces a_o_pieceLong a_o_bytesOf a_o_dictionary a_o_covered a_o_taken a_o_row a_o_cost a_o_leastD a_o_out a_o_text o_thrown o_taped o_samples o_takenMany o_ahead o_textLong o_outMany o_items o_matches o_textMany o_row o_leastD v1 _ h) (cwV 1 X.2.2.2.2.1 gX7_packedLong_X7_findMatches rfl rfl rfl cd_X7_findMatches ⟨by decide, by decide⟩) (wr := [(a_o_cost, .inl (cy 1, 201, .inl o_cost))]) (ws2 := fun u => [(a_o, .inr (10, [.int o_thrown, .ref a_o_tape, .int o_taped, .int o_samples, .ref a_o_sampleLong, .ref a_o_sampleByte, .ref a_o_idOf, .ref a_o_pieces, .ref a_o_pieceLong, .ref a_o_bytesOf, .ref a_o_dictionary, .ref a_o_covered, .ref a_o_taken, .int o_takenMany, .ref a_o_row, .int o_ahead, .int o_textLong, .ref a_o_cost, .ref a_o_leastD, .ref a_o_out, .int o_outMany, .int o_items, .int o_matches, .ref a_o_text, .int o_textMany])), (a_o_row, .inl (cy 1, 280, .inl o_row)), (a_o_cost, .inl (cy 1, 201, .inl o_cost)), (a_o_leastD, .inl (cy 1, 2010, .inl u))]) (perm_idx [0, 1, 3, 2] rfl rfl) (fun u => perm_idx [0, 1, 3, 2] rfl rfl) rfl rfl rfl rfl (Nat.le_of_ble_eq_true rfl) dX7_packedLong_23 ⟨by decide, by decide⟩ (fun u h => ?_)
      obtain ⟨s7, rfl⟩ : ∃ z, z = u := ⟨_, rfl⟩
      refine go_sipush X (v := 1000) dX7_packedLong_26 (by decide) ?_
      refine go_istore_n X (lv' := [(2, .int 1000), (0, .ref a_o), (1, .int v1)]) dX7_packedLong_29 rfl (by decide) rfl ?_
      refine go_iconst X (v := 1) dX7_packedLong_30 (by decide) ?_
      refine go_istore_n X (lv' := [(3, .int 1), (2, .int 1000), (0, .ref a_o), (1, .int v1)]) dX7_packedLong_31 rfl (by decide) rfl ?_
      obtain ⟨n32, h⟩ := h
      refine go_lv [2, 3, 1, 0] rfl ?_
      refine pX7_packedLong_32 l X a_o a_o_tape a_o_sampleLong a_o_sampleByte a_o_idOf a_o_pieces a_o_pieceLong a_o_bytesOf a_o_dictionary a_o_covered a_o_taken a_o_row a_o_cost a_o_leastD a_o_out a_o_text o_thrown o_taped o_samples o_takenMany o_ahead o_textLong o_outMany o_items o_matches o_textMany o_row o_cost s7 v1  _ (fun y8 y9 h => ?_) n32 (1000 : Int32) (1 : Int32) h
      refine go_iconst X (v := 3) dX7_packedLong_81 (by decide) ?_
      refine go_istore_n X (lv' := [(3, .int 3), (0, .ref a_o), (1, .int v1), (2, .int y8)]) dX7_packedLong_82 rfl (by decide) rfl ?_
      obtain ⟨n31, h⟩ := h
      refine go_lv [1, 2, 3, 0] rfl ?_
      refine pX7_packedLong_83 l X a_o a_o_tape a_o_sampleLong a_o_sampleByte a_o_idOf a_o_pieces a_o_pieceLong a_o_bytesOf a_o_dictionary a_o_covered a_o_taken a_o_row a_o_cost a_o_leastD a_o_out a_o_text o_thrown o_taped o_samples o_takenMany o_ahead o_textLong o_outMany o_items o_matches o_textMany o_row o_cost s7 v1  _ (fun y17 y18 h => ?_) n31 y8 (3 : Int32) h
      refine go_aload_n X dX7_packedLong_134 0 rfl rfl ?_
      refine go_get X fi_X7_packedLong_X7 0 rfl rfl 17 (by decide) fl_X7_packedLong_44 rfl dX7_packedLong_135 ?_
      refine go_iload_n X dX7_packedLong_138 1 rfl rfl ?_
      refine go_iload_n X dX7_packedLong_139 2 rfl rfl ?_
      obtain ⟨c29, h⟩ := h
      refine go_iast X [(a_o, .inr (10, [.int o_thrown, .ref a_o_tape, .int o_taped, .int o_samples, .ref a_o_sampleLong, .ref a_o_sampleByte, .ref a_o_idOf, .ref a_o_pieces, .ref a_o_pieceLong, .ref a_o_bytesOf, .ref a_o_dictionary, .ref a_o_covered, .ref a_o_taken, .int o_takenMany, .ref a_o_row, .int o_ahead, .int o_textLong, .ref a_o_cost, .ref a_o_leastD, .ref a_o_out, .int o_outMany, .int o_items, .int o_matches, .ref a_o_text, .int o_textMany])), (a_o_row, .inl (cy 1, 280, .inl o_row)), (a_o_cost, .inl (cy 1, 201, .inl (upd o_cost v1.toNatClampNeg y17))), (a_o_leastD, .inl (cy 1, 2010, .inl s7))] 2 1 rfl rfl c29 rfl dX7_packedLong_140 ?_
      obtain ⟨y30, ey30⟩ : ∃ z : Int32, z = v1 + (-1) := ⟨_, rfl⟩
      replace h := h y30 ey30
      refine go_iinc X (lv' := [(1, .int y30), (0, .ref a_o), (2, .int y17)]) y30 dX7_packedLong_141 1 rfl (by rw [ey30]; rfl) (by decide) rfl ?_
      refine go_goto X 17 dX7_packedLong_144 (by decide) ?_
      refine go_lv [1, 0] rfl ?_
      exact ih (upd o_cost v1.toNatClampNeg y17) s7 y30 h
set_option maxRecDepth 100000 in
set_option maxHeartbeats 4000000 in
theorem kX7_packedLong (l : Launch) (D : va_G) (cy : Nat → ClassId) (a_o : Nat) (a_o_tape : Nat) (a_o_sampleLong : Nat) (a_o_sampleByte : Nat) (a_o_idOf : Nat) (a_o_pieces : Nat) (a_o_pieceLong : Nat) (a_o_bytesOf : Nat) (a_o_dictionary : Nat) (a_o_covered : Nat) (a_o_taken : Nat) (a_o_row : Nat) (a_o_cost : Nat) (a_o_leastD : Nat) (a_o_out : Nat) (a_o_text : Nat) (o_thrown : Int32) (o_taped : Int32) (o_samples : Int32) (o_takenMany : Int32) (o_ahead : Int32) (o_textLong : Int32) (o_outMany : Int32) (o_items : Int32) (o_matches : Int32) (o_textMany : Int32) (o_row : Nat → Int32) (o_cost : Nat → Int32) (o_leastD : Nat → Int32) (post : Int32 → (Nat → Int32) → (Nat → Int32) → Prop) (h : wX7_packedLong o_ahead o_textLong o_row o_cost o_leastD post) : MetI l yX7_packedLong wsX7_packedLong rm_X7_packedLong D (tyL cy) [.ref a_o] [(a_o, .inr (10, [.int o_thrown, .ref a_o_tape, .int o_taped, .int o_samples, .ref a_o_sampleLong, .ref a_o_sampleByte, .ref a_o_idOf, .ref a_o_pieces, .ref a_o_pieceLong, .ref a_o_bytesOf, .ref a_o_dictionary, .ref a_o_covered, .ref a_o_taken, .int o_takenMany, .ref a_o_row, .int o_ahead, .int o_textLong, .ref a_o_cost, .ref a_o_leastD, .ref a_o_out, .int o_outMany, .int o_items, .int o_matches, .ref a_o_text, .int o_textMany])), (a_o_row, .inl (cy 1, 280, .inl o_row)), (a_o_cost, .inl (cy 1, 201, .inl o_cost)), (a_o_leastD, .inl (cy 1, 2010, .inl o_leastD))] (fun u : (Nat → Int32) × (Nat → Int32) => [(a_o, .inr (10, [.int o_thrown, .ref a_o_tape, .int o_taped, .int o_samples, .ref a_o_sampleLong, .ref a_o_sampleByte, .ref a_o_idOf, .ref a_o_pieces, .ref a_o_pieceLong, .ref a_o_bytesOf, .ref a_o_dictionary, .ref a_o_covered, .ref a_o_taken, .int o_takenMany, .ref a_o_row, .int o_ahead, .int o_textLong, .ref a_o_cost, .ref a_o_leastD, .ref a_o_out, .int o_outMany, .int o_items, .int o_matches, .ref a_o_text, .int o_textMany])), (a_o_row, .inl (cy 1, 280, .inl o_row)), (a_o_cost, .inl (cy 1, 201, .inl u.1)), (a_o_leastD, .inl (cy 1, 2010, .inl u.2))]) (fun r => fun (u : (Nat → Int32) × (Nat → Int32)) => post r u.1 u.2) 0 0 := by
  refine metI_of (cc := cX7_packedLong) (maxL := 5) (lv := [(0, .ref a_o)]) (by decide) rfl (Nat.le_of_ble_eq_true rfl) rfl ?_
  intro p e s m below meth c Q A X hlk hR
  unfold wX7_packedLong at h
  refine go_aload_n X dX7_packedLong_0 0 rfl rfl ?_
  refine go_get X fi_X7_packedLong_X7 0 rfl rfl 17 (by decide) fl_X7_packedLong_44 rfl dX7_packedLong_1 ?_
  refine go_aload_n X dX7_packedLong_4 0 rfl rfl ?_
  refine go_get X fi_X7_packedLong_X7 0 rfl rfl 16 (by decide) fl_X7_packedLong_103 rfl dX7_packedLong_5 ?_
  refine go_iconst X (v := 0) dX7_packedLong_8 (by decide) ?_
  obtain ⟨c1, h⟩ := h
  refine go_iast X [(a_o, .inr (10, [.int o_thrown, .ref a_o_tape, .int o_taped, .int o_samples, .ref a_o_sampleLong, .ref a_o_sampleByte, .ref a_o_idOf, .ref a_o_pieces, .ref a_o_pieceLong, .ref a_o_bytesOf, .ref a_o_dictionary, .ref a_o_covered, .ref a_o_taken, .int o_takenMany, .ref a_o_row, .int o_ahead, .int o_textLong, .ref a_o_cost, .ref a_o_leastD, .ref a_o_out, .int o_outMany, .int o_items, .int o_matches, .ref a_o_text, .int o_textMany])), (a_o_row, .inl (cy 1, 280, .inl o_row)), (a_o_cost, .inl (cy 1, 201, .inl (upd o_cost o_textLong.toNatClampNeg 0))), (a_o_leastD, .inl (cy 1, 2010, .inl o_leastD))] 2 1 rfl rfl c1 rfl dX7_packedLong_9 ?_
  refine go_aload_n X dX7_packedLong_10 0 rfl rfl ?_
  refine go_get X fi_X7_packedLong_X7 0 rfl rfl 16 (by decide) fl_X7_packedLong_103 rfl dX7_packedLong_11 ?_
  refine go_iconst X (v := 1) dX7_packedLong_14 (by decide) ?_
  refine go_isub X dX7_packedLong_15 ?_
  refine go_topi (fun y2 ey2 => ?_)
  replace h := h y2 ey2
  refine go_istore_n X (lv' := [(1, .int y2), (0, .ref a_o)]) dX7_packedLong_16 rfl (by decide) rfl ?_
  obtain ⟨n34, h⟩ := h
  refine go_lv [1, 0] rfl ?_
  refine pX7_packedLong_17 l X a_o a_o_tape a_o_sampleLong a_o_sampleByte a_o_idOf a_o_pieces a_o_pieceLong a_o_bytesOf a_o_dictionary a_o_covered a_o_taken a_o_row a_o_cost a_o_leastD a_o_out a_o_text o_thrown o_taped o_samples o_takenMany o_ahead o_textLong o_outMany o_items o_matches o_textMany o_row  _ (fun s3 s4 y5 h => ?_) n34 (upd o_cost o_textLong.toNatClampNeg 0) o_leastD y2 h
  refine go_iconst X (v := 4) dX7_packedLong_147 (by decide) ?_
  refine go_aload_n X dX7_packedLong_148 0 rfl rfl ?_
  refine go_get X fi_X7_packedLong_X7 0 rfl rfl 17 (by decide) fl_X7_packedLong_44 rfl dX7_packedLong_149 ?_
  refine go_iconst X (v := 0) dX7_packedLong_152 (by decide) ?_
  obtain ⟨c33, h⟩ := h
  refine go_iald X 2 1 rfl rfl c33 dX7_packedLong_153 ?_
  refine go_iadd X dX7_packedLong_154 ?_
  exact hR (4 + (s3 (0 : Int32).toNatClampNeg)) (s3, s4) 155 _ dX7_packedLong_155 rfl h
/-! X7_sizeOf -/
def rm_X7_sizeOf : Room := { frames := 2, cells := 0, slots := 0, locals := 49 }
theorem cd_X7_sizeOf : yX7_sizeOf.cls = RX7 ∧ yX7_sizeOf.cls ≠ "java/lang/invoke/MethodHandle" ∧ yX7_sizeOf.cls ≠ "java/lang/invoke/VarHandle" ∧ (parseMethodDescriptor yX7_sizeOf.desc).map (fun d => d.parameters.length) = some 3 := by decide +kernel
set_option maxRecDepth 100000 in
set_option maxHeartbeats 4000000 in
theorem kX7_sizeOf (l : Launch) (D : va_G) (cy : Nat → ClassId) (a_o : Nat) (a_o_tape : Nat) (a_o_sampleLong : Nat) (a_o_sampleByte : Nat) (a_o_idOf : Nat) (a_o_pieces : Nat) (a_o_pieceLong : Nat) (a_o_bytesOf : Nat) (a_o_dictionary : Nat) (a_o_covered : Nat) (a_o_taken : Nat) (a_o_row : Nat) (a_o_cost : Nat) (a_o_leastD : Nat) (a_o_out : Nat) (a_o_text : Nat) (o_thrown : Int32) (o_taped : Int32) (o_samples : Int32) (o_takenMany : Int32) (o_ahead : Int32) (o_textLong : Int32) (o_outMany : Int32) (o_items : Int32) (o_matches : Int32) (o_textMany : Int32) (o_sampleLong : Nat → Int32) (o_sampleByte : Nat → Int32) (o_pieceLong : Nat → Int32) (o_bytesOf : Nat → Int32) (o_dictionary : Nat → Int32) (o_row : Nat → Int32) (o_cost : Nat → Int32) (o_leastD : Nat → Int32) (p1 : Int32) (p2 : Int32) (p3 : Int32) (post : Int32 → Int32 → Int32 → (Nat → Int32) → (Nat → Int32) → (Nat → Int32) → Prop) (h : wX7_sizeOf o_sampleLong o_sampleByte o_pieceLong o_bytesOf o_dictionary o_row o_cost o_leastD p1 p2 p3 post) : MetI l yX7_sizeOf wsX7_sizeOf rm_X7_sizeOf D (tyL cy) [.ref a_o, .int p1, .int p2, .int p3] [(a_o, .inr (10, [.int o_thrown, .ref a_o_tape, .int o_taped, .int o_samples, .ref a_o_sampleLong, .ref a_o_sampleByte, .ref a_o_idOf, .ref a_o_pieces, .ref a_o_pieceLong, .ref a_o_bytesOf, .ref a_o_dictionary, .ref a_o_covered, .ref a_o_taken, .int o_takenMany, .ref a_o_row, .int o_ahead, .int o_textLong, .ref a_o_cost, .ref a_o_leastD, .ref a_o_out, .int o_outMany, .int o_items, .int o_matches, .ref a_o_text, .int o_textMany])), (a_o_sampleLong, .inl (cy 1, 8, .inl o_sampleLong)), (a_o_sampleByte, .inl (cy 1, 320, .inl o_sampleByte)), (a_o_pieceLong, .inl (cy 1, 480, .inl o_pieceLong)), (a_o_bytesOf, .inl (cy 1, 6, .inl o_bytesOf)), (a_o_dictionary, .inl (cy 1, 480, .inl o_dictionary)), (a_o_row, .inl (cy 1, 280, .inl o_row)), (a_o_cost, .inl (cy 1, 201, .inl o_cost)), (a_o_leastD, .inl (cy 1, 2010, .inl o_leastD))] (fun u : Int32 × Int32 × (Nat → Int32) × (Nat → Int32) × (Nat → Int32) => [(a_o, .inr (10, [.int o_thrown, .ref a_o_tape, .int o_taped, .int o_samples, .ref a_o_sampleLong, .ref a_o_sampleByte, .ref a_o_idOf, .ref a_o_pieces, .ref a_o_pieceLong, .ref a_o_bytesOf, .ref a_o_dictionary, .ref a_o_covered, .ref a_o_taken, .int o_takenMany, .ref a_o_row, .int u.1, .int u.2.1, .ref a_o_cost, .ref a_o_leastD, .ref a_o_out, .int o_outMany, .int o_items, .int o_matches, .ref a_o_text, .int o_textMany])), (a_o_sampleLong, .inl (cy 1, 8, .inl o_sampleLong)), (a_o_sampleByte, .inl (cy 1, 320, .inl o_sampleByte)), (a_o_pieceLong, .inl (cy 1, 480, .inl o_pieceLong)), (a_o_bytesOf, .inl (cy 1, 6, .inl o_bytesOf)), (a_o_dictionary, .inl (cy 1, 480, .inl o_dictionary)), (a_o_row, .inl (cy 1, 280, .inl u.2.2.1)), (a_o_cost, .inl (cy 1, 201, .inl u.2.2.2.1)), (a_o_leastD, .inl (cy 1, 2010, .inl u.2.2.2.2))]) (fun r => fun (u : Int32 × Int32 × (Nat → Int32) × (Nat → Int32) × (Nat → Int32)) => post r u.1 u.2.1 u.2.2.1 u.2.2.2.1 u.2.2.2.2) 0 0 := by
  refine metI_of (cc := cX7_sizeOf) (maxL := 4) (lv := [(0, .ref a_o), (1, .int p1), (2, .int p2), (3, .int p3)]) (by decide) rfl (Nat.le_of_ble_eq_true rfl) rfl ?_
  intro p e s m below meth c Q A X hlk hR
  unfold wX7_sizeOf at h
  refine go_aload_n X dX7_sizeOf_0 0 rfl rfl ?_
  refine go_iload_n X dX7_sizeOf_1 2 rfl rfl ?_
  refine go_iload_n X dX7_sizeOf_2 3 rfl rfl ?_
  refine go_callVv X (kX7_layAhead l D cy a_o a_o_tape a_o_sampleLong a_o_sampleByte a_o_idOf a_o_pieces a_o_pieceLong a_o_bytesOf a_o_dictionary a_o_covered a_o_taken a_o_row a_o_cost a_o_leastD a_o_out a_o_text o_thrown o_taped o_samples o_takenMany o_ahead o_textLong o_outMany o_items o_matches o_textMany o_pieceLong o_bytesOf o_dictionary o_row p2 p3 _ h) (cwV 2 X.2.2.2.2.1 gX7_sizeOf_X7_layAhead rfl rfl rfl cd_X7_layAhead ⟨by decide, by decide⟩) (wr := [(a_o_sampleLong, .inl (cy 1, 8, .inl o_sampleLong)), (a_o_sampleByte, .inl (cy 1, 320, .inl o_sampleByte)), (a_o_cost, .inl (cy 1, 201, .inl o_cost)), (a_o_leastD, .inl (cy 1, 2010, .inl o_leastD))]) (ws2 := fun u => [(a_o, .inr (10, [.int o_thrown, .ref a_o_tape, .int o_taped, .int o_samples, .ref a_o_sampleLong, .ref a_o_sampleByte, .ref a_o_idOf, .ref a_o_pieces, .ref a_o_pieceLong, .ref a_o_bytesOf, .ref a_o_dictionary, .ref a_o_covered, .ref a_o_taken, .int o_takenMany, .ref a_o_row, .int u.1, .int o_textLong, .ref a_o_cost, .ref a_o_leastD, .ref a_o_out, .int o_outMany, .int o_items, .int o_matches, .ref a_o_text, .int o_textMany])), (a_o_sampleLong, .inl (cy 1, 8, .inl o_sampleLong)), (a_o_sampleByte, .inl (cy 1, 320, .inl o_sampleByte)), (a_o_pieceLong, .inl (cy 1, 480, .inl o_pieceLong)), (a_o_bytesOf, .inl (cy 1, 6, .inl o_bytesOf)), (a_o_dictionary, .inl (cy 1, 480, .inl o_dictionary)), (a_o_row, .inl (cy 1, 280, .inl u.2)), (a_o_cost, .inl (cy 1, 201, .inl o_cost)), (a_o_leastD, .inl (cy 1, 2010, .inl o_leastD))]) (perm_ix 9 [0, 3, 4, 5, 6, 1, 2, 7, 8] rfl (by decide +kernel) rfl) (fun u => perm_ix 9 [0, 5, 6, 1, 2, 3, 4, 7, 8] rfl (by decide +kernel) rfl) rfl rfl rfl rfl (Nat.le_of_ble_eq_true rfl) dX7_sizeOf_3 ⟨by decide, by decide⟩ (fun u h => ?_)
  obtain ⟨s1, s2⟩ := u
  refine go_aload_n X dX7_sizeOf_6 0 rfl rfl ?_
  refine go_iload_n X dX7_sizeOf_7 1 rfl rfl ?_
  refine go_callVv X (kX7_laySample l D cy a_o a_o_tape a_o_sampleLong a_o_sampleByte a_o_idOf a_o_pieces a_o_pieceLong a_o_bytesOf a_o_dictionary a_o_covered a_o_taken a_o_row a_o_cost a_o_leastD a_o_out a_o_text o_thrown o_taped o_samples o_takenMany s1 o_textLong o_outMany o_items o_matches o_textMany o_sampleLong o_sampleByte s2 p1 _ h) (cwV 1 X.2.2.2.2.1 gX7_sizeOf_X7_laySample rfl rfl rfl cd_X7_laySample ⟨by decide, by decide⟩) (wr := [(a_o_pieceLong, .inl (cy 1, 480, .inl o_pieceLong)), (a_o_bytesOf, .inl (cy 1, 6, .inl o_bytesOf)), (a_o_dictionary, .inl (cy 1, 480, .inl o_dictionary)), (a_o_cost, .inl (cy 1, 201, .inl o_cost)), (a_o_leastD, .inl (cy 1, 2010, .inl o_leastD))]) (ws2 := fun u => [(a_o, .inr (10, [.int o_thrown, .ref a_o_tape, .int o_taped, .int o_samples, .ref a_o_sampleLong, .ref a_o_sampleByte, .ref a_o_idOf, .ref a_o_pieces, .ref a_o_pieceLong, .ref a_o_bytesOf, .ref a_o_dictionary, .ref a_o_covered, .ref a_o_taken, .int o_takenMany, .ref a_o_row, .int s1, .int u.1, .ref a_o_cost, .ref a_o_leastD, .ref a_o_out, .int o_outMany, .int o_items, .int o_matches, .ref a_o_text, .int o_textMany])), (a_o_sampleLong, .inl (cy 1, 8, .inl o_sampleLong)), (a_o_sampleByte, .inl (cy 1, 320, .inl o_sampleByte)), (a_o_pieceLong, .inl (cy 1, 480, .inl o_pieceLong)), (a_o_bytesOf, .inl (cy 1, 6, .inl o_bytesOf)), (a_o_dictionary, .inl (cy 1, 480, .inl o_dictionary)), (a_o_row, .inl (cy 1, 280, .inl u.2)), (a_o_cost, .inl (cy 1, 201, .inl o_cost)), (a_o_leastD, .inl (cy 1, 2010, .inl o_leastD))]) (perm_ix 9 [0, 1, 2, 6, 3, 4, 5, 7, 8] rfl (by decide +kernel) rfl) (fun u => perm_ix 9 [0, 1, 2, 4, 5, 6, 3, 7, 8] rfl (by decide +kernel) rfl) rfl rfl rfl rfl (Nat.le_of_ble_eq_true rfl) dX7_sizeOf_8 ⟨by decide, by decide⟩ (fun u h => ?_)
  obtain ⟨s3, s4⟩ := u
  refine go_aload_n X dX7_sizeOf_11 0 rfl rfl ?_
  refine go_callVi X (kX7_packedLong l D cy a_o a_o_tape a_o_sampleLong a_o_sampleByte a_o_idOf a_o_pieces a_o_pieceLong a_o_bytesOf a_o_dictionary a_o_covered a_o_taken a_o_row a_o_cost a_o_leastD a_o_out a_o_text o_thrown o_taped o_samples o_takenMany s1 s3 o_outMany o_items o_matches o_textMany s4 o_cost o_leastD _ h) (cwV 0 X.2.2.2.2.1 gX7_sizeOf_X7_packedLong rfl rfl rfl cd_X7_packedLong ⟨by decide, by decide⟩) (wr := [(a_o_sampleLong, .inl (cy 1, 8, .inl o_sampleLong)), (a_o_sampleByte, .inl (cy 1, 320, .inl o_sampleByte)), (a_o_pieceLong, .inl (cy 1, 480, .inl o_pieceLong)), (a_o_bytesOf, .inl (cy 1, 6, .inl o_bytesOf)), (a_o_dictionary, .inl (cy 1, 480, .inl o_dictionary))]) (ws2 := fun u => [(a_o, .inr (10, [.int o_thrown, .ref a_o_tape, .int o_taped, .int o_samples, .ref a_o_sampleLong, .ref a_o_sampleByte, .ref a_o_idOf, .ref a_o_pieces, .ref a_o_pieceLong, .ref a_o_bytesOf, .ref a_o_dictionary, .ref a_o_covered, .ref a_o_taken, .int o_takenMany, .ref a_o_row, .int s1, .int s3, .ref a_o_cost, .ref a_o_leastD, .ref a_o_out, .int o_outMany, .int o_items, .int o_matches, .ref a_o_text, .int o_textMany])), (a_o_sampleLong, .inl (cy 1, 8, .inl o_sampleLong)), (a_o_sampleByte, .inl (cy 1, 320, .inl o_sampleByte)), (a_o_pieceLong, .inl (cy 1, 480, .inl o_pieceLong)), (a_o_bytesOf, .inl (cy 1, 6, .inl o_bytesOf)), (a_o_dictionary, .inl (cy 1, 480, .inl o_dictionary)), (a_o_row, .inl (cy 1, 280, .inl s4)), (a_o_cost, .inl (cy 1, 201, .inl u.1)), (a_o_leastD, .inl (cy 1, 2010, .inl u.2))]) (perm_ix 9 [0, 6, 7, 8, 1, 2, 3, 4, 5] rfl (by decide +kernel) rfl) (fun u => perm_ix 9 [0, 4, 5, 6, 7, 8, 1, 2, 3] rfl (by decide +kernel) rfl) rfl rfl rfl rfl (Nat.le_of_ble_eq_true rfl) dX7_sizeOf_12 ⟨by decide, by decide⟩ (fun r5 u h => ?_)
  obtain ⟨s6, s7⟩ := u
  exact hR r5 (s1, s3, s4, s6, s7) 15 _ dX7_sizeOf_15 rfl h
/-! X7_sizeOfAll -/
theorem fi_X7_sizeOfAll_X7 : ∀ w ∈ u_ws RX7 TX7 25, w ∈ wsX7_sizeOfAll := by decide +kernel
theorem fl_X7_sizeOfAll_71 : Cond.fieldLink RX7 71 (TX7 3).1 (TX7 3).2.1 (TX7 3).2.2.1 ∈ wsX7_sizeOfAll := by decide +kernel
def rm_X7_sizeOfAll : Room := { frames := 3, cells := 0, slots := 0, locals := 72 }
theorem cd_X7_sizeOfAll : yX7_sizeOfAll.cls = RX7 ∧ yX7_sizeOfAll.cls ≠ "java/lang/invoke/MethodHandle" ∧ yX7_sizeOfAll.cls ≠ "java/lang/invoke/VarHandle" ∧ (parseMethodDescriptor yX7_sizeOfAll.desc).map (fun d => d.parameters.length) = some 2 := by decide +kernel
set_option maxRecDepth 100000 in
set_option maxHeartbeats 4000000 in
theorem pX7_sizeOfAll_5 {p : Program} (l : Launch) {e : Env} {s : State} {m : MethodId} {args : Array Value} {below : List Frame} {meth : Method} {c : Code} {Q : State → Prop} {D : va_G} {cy : Nat → ClassId} {A : Nat → Prop} (X : Cx p s m args c cX7_sizeOfAll 5 RX7 wsX7_sizeOfAll D (tyL cy) A) (a_o : Nat) (a_o_tape : Nat) (a_o_sampleLong : Nat) (a_o_sampleByte : Nat) (a_o_idOf : Nat) (a_o_pieces : Nat) (a_o_pieceLong : Nat) (a_o_bytesOf : Nat) (a_o_dictionary : Nat) (a_o_covered : Nat) (a_o_taken : Nat) (a_o_row : Nat) (a_o_cost : Nat) (a_o_leastD : Nat) (a_o_out : Nat) (a_o_text : Nat) (o_thrown : Int32) (o_taped : Int32) (o_samples : Int32) (o_takenMany : Int32) (o_outMany : Int32) (o_items : Int32) (o_matches : Int32) (o_textMany : Int32) (o_sampleLong : Nat → Int32) (o_sampleByte : Nat → Int32) (o_pieceLong : Nat → Int32) (o_bytesOf : Nat → Int32) (o_dictionary : Nat → Int32) (v1 : Int32) (v2 : Int32) (K : Int32 → Int32 → (Nat → Int32) → (Nat → Int32) → (Nat → Int32) → Int32 → Int32 → Prop) (hK : ∀ (o_ahead : Int32) (o_textLong : Int32) (o_row : Nat → Int32) (o_cost : Nat → Int32) (o_leastD : Nat → Int32) (v3 : Int32) (v4 : Int32), K o_ahead o_textLong o_row o_cost o_leastD v3 v4 → Go p l e rm_X7_sizeOfAll s m args below meth c Q 5 D A [(a_o, .inr (10, [.int o_thrown, .ref a_o_tape, .int o_taped, .int o_samples, .ref a_o_sampleLong, .ref a_o_sampleByte, .ref a_o_idOf, .ref a_o_pieces, .ref a_o_pieceLong, .ref a_o_bytesOf, .ref a_o_dictionary, .ref a_o_covered, .ref a_o_taken, .int o_takenMany, .ref a_o_row, .int o_ahead, .int o_textLong, .ref a_o_cost, .ref a_o_leastD, .ref a_o_out, .int o_outMany, .int o_items, .int o_matches, .ref a_o_text, .int o_textMany])), (a_o_sampleLong, .inl (cy 1, 8, .inl o_sampleLong)), (a_o_sampleByte, .inl (cy 1, 320, .inl o_sampleByte)), (a_o_pieceLong, .inl (cy 1, 480, .inl o_pieceLong)), (a_o_bytesOf, .inl (cy 1, 6, .inl o_bytesOf)), (a_o_dictionary, .inl (cy 1, 480, .inl o_dictionary)), (a_o_row, .inl (cy 1, 280, .inl o_row)), (a_o_cost, .inl (cy 1, 201, .inl o_cost)), (a_o_leastD, .inl (cy 1, 2010, .inl o_leastD))] 0 0 31 [(3, .int v3)] []) :
    ∀ (n : Nat) (o_ahead : Int32) (o_textLong : Int32) (o_row : Nat → Int32) (o_cost : Nat → Int32) (o_leastD : Nat → Int32) (v3 : Int32) (v4 : Int32), wX7_sizeOfAll_5 o_samples o_sampleLong o_sampleByte o_pieceLong o_bytesOf o_dictionary v1 v2 K n o_ahead o_textLong o_row o_cost o_leastD v3 v4 → Go p l e rm_X7_sizeOfAll s m args below meth c Q 5 D A [(a_o, .inr (10, [.int o_thrown, .ref a_o_tape, .int o_taped, .int o_samples, .ref a_o_sampleLong, .ref a_o_sampleByte, .ref a_o_idOf, .ref a_o_pieces, .ref a_o_pieceLong, .ref a_o_bytesOf, .ref a_o_dictionary, .ref a_o_covered, .ref a_o_taken, .int o_takenMany, .ref a_o_row, .int o_ahead, .int o_textLong, .ref a_o_cost, .ref a_o_leastD, .ref a_o_out, .int o_outMany, .int o_items, .int o_matches, .ref a_o_text, .int o_textMany])), (a_o_sampleLong, .inl (cy 1, 8, .inl o_sampleLong)), (a_o_sampleByte, .inl (cy 1, 320, .inl o_sampleByte)), (a_o_pieceLong, .inl (cy 1, 480, .inl o_pieceLong)), (a_o_bytesOf, .inl (cy 1, 6, .inl o_bytesOf)), (a_o_dictionary, .inl (cy 1, 480, .inl o_dictionary)), (a_o_row, .inl (cy 1, 280, .inl o_row)), (a_o_cost, .inl (cy 1, 201, .inl o_cost)), (a_o_leastD, .inl (cy 1, 2010, .inl o_leastD))] 0 0 5 [(0, .ref a_o), (1, .int v1), (2, .int v2), (3, .int v3), (4, .int v4)] [] := by
  intro n
  induction n with
  | zero => intro o_ahead o_textLong o_row o_cost o_leastD v3 v4 h; exact absurd h id
  | succ n ih =>
    intro o_ahead o_textLong o_row o_cost o_leastD v3 v4 h
    refine go_iload X dX7_sizeOfAll_5 4 rfl ?_
    refine go_aload_n X dX7_sizeOfAll_7 0 rfl rfl ?_
    refine go_get X fi_X7_sizeOfAll_X7 0 rfl rfl 3 (by decide) fl_X7_sizeOfAll_71 rfl dX7_sizeOfAll_8 ?_
    refine go_icmp_ge X 31 dX7_sizeOfAll_11 (by decide) (fun c8 => ?_) (fun c8 => ?_)
    · replace h := h.1 c8
      refine go_lv [3] rfl ?_
      exact hK o_ahead o_textLong o_row o_cost o_leastD v3 v4 h
    · replace h := h.2 c8
      refine go_iload_n X dX7_sizeOfAll_14 3 rfl rfl ?_
      refine go_aload_n X dX7_sizeOfAll_15 0 rfl rfl ?_
      refine go_iload X dX7_sizeOfAll_16 4 rfl ?_
      refine go_iload_n X dX7_sizeOfAll_18 1 rfl rfl ?_
      refine go_iload_n X dX7_sizeOfAll_19 2 rfl rfl ?_
      refine go_callVi X (kX7_sizeOf l D cy a_o a_o_tape a_o_sampleLong a_o_sampleByte a_o_idOf a_o_pieces a_o_pieceLong a_o_bytesOf a_o_dictionary a_o_covered a_o_taken a_o_row a_o_cost a_o_leastD a_o_out a_o_text o_thrown o_taped o_samples o_takenMany o_ahead o_textLong o_outMany o_items o_matches o_textMany o_sampleLong o_sampleByte o_pieceLong o_bytesOf o_dictionary o_row o_cost o_leastD v4 v1 v2 _ h) (cwV 3 X.2.2.2.2.1 gX7_sizeOfAll_X7_sizeOf rfl rfl rfl cd_X7_sizeOf ⟨by decide, by decide⟩) (wr := []) (ws2 := fun u => [(a_o, .inr (10, [.int o_thrown, .ref a_o_tape, .int o_taped, .int o_samples, .ref a_o_sampleLong, .ref a_o_sampleByte, .ref a_o_idOf, .ref a_o_pieces, .ref a_o_pieceLong, .ref a_o_bytesOf, .ref a_o_dictionary, .ref a_o_covered, .ref a_o_taken, .int o_takenMany, .ref a_o_row, .int u.1, .int u.2.1, .ref a_o_cost, .ref a_o_leastD, .ref a_o_out, .int o_outMany, .int o_items, .int o_matches, .ref a_o_text, .int o_textMany])), (a_o_sampleLong, .inl (cy 1, 8, .inl o_sampleLong)), (a_o_sampleByte, .inl (cy 1, 320, .inl o_sampleByte)), (a_o_pieceLong, .inl (cy 1, 480, .inl o_pieceLong)), (a_o_bytesOf, .inl (cy 1, 6, .inl o_bytesOf)), (a_o_dictionary, .inl (cy 1, 480, .inl o_dictionary)), (a_o_row, .inl (cy 1, 280, .inl u.2.2.1)), (a_o_cost, .inl (cy 1, 201, .inl u.2.2.2.1)), (a_o_leastD, .inl (cy 1, 2010, .inl u.2.2.2.2))]) (perm_ix 9 [0, 1, 2, 3, 4, 5, 6, 7, 8] rfl (by decide +kernel) rfl) (fun u => perm_ix 9 [0, 1, 2, 3, 4, 5, 6, 7, 8] rfl (by decide +kernel) rfl) rfl rfl rfl rfl (Nat.le_of_ble_eq_true rfl) dX7_sizeOfAll_20 ⟨by decide, by decide⟩ (fun r9 u h => ?_)
      obtain ⟨s10, s11, s12, s13, s14⟩ := u
      refine go_iadd X dX7_sizeOfAll_23 ?_
      refine go_topi (fun y15 ey15 => ?_)
      replace h := h y15 ey15
      refine go_istore_n X (lv' := [(3, .int y15), (0, .ref a_o), (1, .int v1), (2, .int v2), (4, .int v4)]) dX7_sizeOfAll_24 rfl (by decide) rfl ?_
      obtain ⟨y16, ey16⟩ : ∃ z : Int32, z = v4 + 1 := ⟨_, rfl⟩
      replace h := h y16 ey16
      refine go_iinc X (lv' := [(4, .int y16), (3, .int y15), (0, .ref a_o), (1, .int v1), (2, .int v2)]) y16 dX7_sizeOfAll_25 4 rfl (by rw [ey16]; rfl) (by decide) rfl ?_
      refine go_goto X 5 dX7_sizeOfAll_28 (by decide) ?_
      refine go_lv [2, 3, 4, 1, 0] rfl ?_
      exact ih s10 s11 s12 s13 s14 y15 y16 h
set_option maxRecDepth 100000 in
set_option maxHeartbeats 4000000 in
theorem kX7_sizeOfAll (l : Launch) (D : va_G) (cy : Nat → ClassId) (a_o : Nat) (a_o_tape : Nat) (a_o_sampleLong : Nat) (a_o_sampleByte : Nat) (a_o_idOf : Nat) (a_o_pieces : Nat) (a_o_pieceLong : Nat) (a_o_bytesOf : Nat) (a_o_dictionary : Nat) (a_o_covered : Nat) (a_o_taken : Nat) (a_o_row : Nat) (a_o_cost : Nat) (a_o_leastD : Nat) (a_o_out : Nat) (a_o_text : Nat) (o_thrown : Int32) (o_taped : Int32) (o_samples : Int32) (o_takenMany : Int32) (o_ahead : Int32) (o_textLong : Int32) (o_outMany : Int32) (o_items : Int32) (o_matches : Int32) (o_textMany : Int32) (o_sampleLong : Nat → Int32) (o_sampleByte : Nat → Int32) (o_pieceLong : Nat → Int32) (o_bytesOf : Nat → Int32) (o_dictionary : Nat → Int32) (o_row : Nat → Int32) (o_cost : Nat → Int32) (o_leastD : Nat → Int32) (p1 : Int32) (p2 : Int32) (post : Int32 → Int32 → Int32 → (Nat → Int32) → (Nat → Int32) → (Nat → Int32) → Prop) (h : wX7_sizeOfAll o_samples o_ahead o_textLong o_sampleLong o_sampleByte o_pieceLong o_bytesOf o_dictionary o_row o_cost o_leastD p1 p2 post) : MetI l yX7_sizeOfAll wsX7_sizeOfAll rm_X7_sizeOfAll D (tyL cy) [.ref a_o, .int p1, .int p2] [(a_o, .inr (10, [.int o_thrown, .ref a_o_tape, .int o_taped, .int o_samples, .ref a_o_sampleLong, .ref a_o_sampleByte, .ref a_o_idOf, .ref a_o_pieces, .ref a_o_pieceLong, .ref a_o_bytesOf, .ref a_o_dictionary, .ref a_o_covered, .ref a_o_taken, .int o_takenMany, .ref a_o_row, .int o_ahead, .int o_textLong, .ref a_o_cost, .ref a_o_leastD, .ref a_o_out, .int o_outMany, .int o_items, .int o_matches, .ref a_o_text, .int o_textMany])), (a_o_sampleLong, .inl (cy 1, 8, .inl o_sampleLong)), (a_o_sampleByte, .inl (cy 1, 320, .inl o_sampleByte)), (a_o_pieceLong, .inl (cy 1, 480, .inl o_pieceLong)), (a_o_bytesOf, .inl (cy 1, 6, .inl o_bytesOf)), (a_o_dictionary, .inl (cy 1, 480, .inl o_dictionary)), (a_o_row, .inl (cy 1, 280, .inl o_row)), (a_o_cost, .inl (cy 1, 201, .inl o_cost)), (a_o_leastD, .inl (cy 1, 2010, .inl o_leastD))] (fun u : Int32 × Int32 × (Nat → Int32) × (Nat → Int32) × (Nat → Int32) => [(a_o, .inr (10, [.int o_thrown, .ref a_o_tape, .int o_taped, .int o_samples, .ref a_o_sampleLong, .ref a_o_sampleByte, .ref a_o_idOf, .ref a_o_pieces, .ref a_o_pieceLong, .ref a_o_bytesOf, .ref a_o_dictionary, .ref a_o_covered, .ref a_o_taken, .int o_takenMany, .ref a_o_row, .int u.1, .int u.2.1, .ref a_o_cost, .ref a_o_leastD, .ref a_o_out, .int o_outMany, .int o_items, .int o_matches, .ref a_o_text, .int o_textMany])), (a_o_sampleLong, .inl (cy 1, 8, .inl o_sampleLong)), (a_o_sampleByte, .inl (cy 1, 320, .inl o_sampleByte)), (a_o_pieceLong, .inl (cy 1, 480, .inl o_pieceLong)), (a_o_bytesOf, .inl (cy 1, 6, .inl o_bytesOf)), (a_o_dictionary, .inl (cy 1, 480, .inl o_dictionary)), (a_o_row, .inl (cy 1, 280, .inl u.2.2.1)), (a_o_cost, .inl (cy 1, 201, .inl u.2.2.2.1)), (a_o_leastD, .inl (cy 1, 2010, .inl u.2.2.2.2))]) (fun r => fun (u : Int32 × Int32 × (Nat → Int32) × (Nat → Int32) × (Nat → Int32)) => post r u.1 u.2.1 u.2.2.1 u.2.2.2.1 u.2.2.2.2) 0 0 := by
  refine metI_of (cc := cX7_sizeOfAll) (maxL := 5) (lv := [(0, .ref a_o), (1, .int p1), (2, .int p2)]) (by decide) rfl (Nat.le_of_ble_eq_true rfl) rfl ?_
  intro p e s m below meth c Q A X hlk hR
  unfold wX7_sizeOfAll at h
  refine go_iconst X (v := 0) dX7_sizeOfAll_0 (by decide) ?_
  refine go_istore_n X (lv' := [(3, .int 0), (0, .ref a_o), (1, .int p1), (2, .int p2)]) dX7_sizeOfAll_1 rfl (by decide) rfl ?_
  refine go_iconst X (v := 0) dX7_sizeOfAll_2 (by decide) ?_
  refine go_istore X (lv' := [(4, .int 0), (3, .int 0), (0, .ref a_o), (1, .int p1), (2, .int p2)]) dX7_sizeOfAll_3 (by decide) rfl ?_
  obtain ⟨n17, h⟩ := h
  refine go_lv [2, 3, 4, 1, 0] rfl ?_
  refine pX7_sizeOfAll_5 l X a_o a_o_tape a_o_sampleLong a_o_sampleByte a_o_idOf a_o_pieces a_o_pieceLong a_o_bytesOf a_o_dictionary a_o_covered a_o_taken a_o_row a_o_cost a_o_leastD a_o_out a_o_text o_thrown o_taped o_samples o_takenMany o_outMany o_items o_matches o_textMany o_sampleLong o_sampleByte o_pieceLong o_bytesOf o_dictionary p1 p2  _ (fun s1 s2 s3 s4 s5 y6 y7 h => ?_) n17 o_ahead o_textLong o_row o_cost o_leastD (0 : Int32) (0 : Int32) h
  refine go_iload_n X dX7_sizeOfAll_31 0 rfl rfl ?_
  exact hR y6 (s1, s2, s3, s4, s5) 32 _ dX7_sizeOfAll_32 rfl h
