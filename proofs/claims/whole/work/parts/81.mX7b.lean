/-! X7_train -/
theorem fi_X7_train_X7 : ∀ w ∈ u_ws RX7 TX7 25, w ∈ wsX7_train := by decide +kernel
theorem fl_X7_train_60 : Cond.fieldLink RX7 60 (TX7 0).1 (TX7 0).2.1 (TX7 0).2.2.1 ∈ wsX7_train := by decide +kernel
theorem fw_X7_train_c81 : Jvm.Cond.constantLong RX7 81 5 ∈ wsX7_train := by decide +kernel
theorem fw_X7_train_c83 : Jvm.Cond.constantLong RX7 83 255 ∈ wsX7_train := by decide +kernel
theorem fw_X7_train_c85 : Jvm.Cond.constantLong RX7 85 2 ∈ wsX7_train := by decide +kernel
theorem fw_X7_train_c63 : Jvm.Cond.constantLong RX7 63 8 ∈ wsX7_train := by decide +kernel
theorem fw_X7_train_c87 : Jvm.Cond.constantLong RX7 87 80 ∈ wsX7_train := by decide +kernel
theorem fl_X7_train_71 : Cond.fieldLink RX7 71 (TX7 3).1 (TX7 3).2.1 (TX7 3).2.2.1 ∈ wsX7_train := by decide +kernel
theorem fl_X7_train_34 : Cond.fieldLink RX7 34 (TX7 11).1 (TX7 11).2.1 (TX7 11).2.2.1 ∈ wsX7_train := by decide +kernel
theorem fl_X7_train_89 : Cond.fieldLink RX7 89 (TX7 13).1 (TX7 13).2.1 (TX7 13).2.2.1 ∈ wsX7_train := by decide +kernel
theorem fl_X7_train_13 : Cond.fieldLink RX7 13 (TX7 4).1 (TX7 4).2.1 (TX7 4).2.2.1 ∈ wsX7_train := by decide +kernel
theorem fl_X7_train_38 : Cond.fieldLink RX7 38 (TX7 12).1 (TX7 12).2.1 (TX7 12).2.2.1 ∈ wsX7_train := by decide +kernel
theorem fl_X7_train_16 : Cond.fieldLink RX7 16 (TX7 5).1 (TX7 5).2.1 (TX7 5).2.2.1 ∈ wsX7_train := by decide +kernel
theorem fl_X7_train_19 : Cond.fieldLink RX7 19 (TX7 6).1 (TX7 6).2.1 (TX7 6).2.2.1 ∈ wsX7_train := by decide +kernel
theorem fl_X7_train_22 : Cond.fieldLink RX7 22 (TX7 7).1 (TX7 7).2.1 (TX7 7).2.2.1 ∈ wsX7_train := by decide +kernel
theorem fl_X7_train_28 : Cond.fieldLink RX7 28 (TX7 9).1 (TX7 9).2.1 (TX7 9).2.2.1 ∈ wsX7_train := by decide +kernel
theorem fl_X7_train_25 : Cond.fieldLink RX7 25 (TX7 8).1 (TX7 8).2.1 (TX7 8).2.2.1 ∈ wsX7_train := by decide +kernel
theorem fl_X7_train_31 : Cond.fieldLink RX7 31 (TX7 10).1 (TX7 10).2.1 (TX7 10).2.2.1 ∈ wsX7_train := by decide +kernel
def rm_X7_train : Room := { frames := 2, cells := 0, slots := 0, locals := 52 }
theorem cd_X7_train : yX7_train.cls = RX7 ∧ yX7_train.cls ≠ "java/lang/invoke/MethodHandle" ∧ yX7_train.cls ≠ "java/lang/invoke/VarHandle" ∧ (parseMethodDescriptor yX7_train.desc).map (fun d => d.parameters.length) = some 4 := by decide +kernel
set_option maxRecDepth 100000 in
set_option maxHeartbeats 4000000 in
theorem pX7_train_75 {p : Program} (l : Launch) {e : Env} {s : State} {m : MethodId} {args : Array Value} {below : List Frame} {meth : Method} {c : Code} {Q : State → Prop} {D : va_G} {cy : Nat → ClassId} {A : Nat → Prop} (X : Cx p s m args c cX7_train 11 RX7 wsX7_train D (tyL cy) A) (a_o : Nat) (a_o_tape : Nat) (a_o_sampleLong : Nat) (a_o_sampleByte : Nat) (a_o_idOf : Nat) (a_o_pieces : Nat) (a_o_pieceLong : Nat) (a_o_bytesOf : Nat) (a_o_dictionary : Nat) (a_o_covered : Nat) (a_o_taken : Nat) (a_o_row : Nat) (a_o_cost : Nat) (a_o_leastD : Nat) (a_o_out : Nat) (a_o_text : Nat) (o_thrown : Int32) (o_taped : Int32) (o_samples : Int32) (o_takenMany : Int32) (o_ahead : Int32) (o_textLong : Int32) (o_outMany : Int32) (o_items : Int32) (o_matches : Int32) (o_textMany : Int32) (o_sampleLong : Nat → Int32) (o_sampleByte : Nat → Int32) (o_idOf : Nat → Int32) (o_pieces : Nat → Int32) (o_pieceLong : Nat → Int32) (o_bytesOf : Nat → Int32) (o_dictionary : Nat → Int32) (o_taken : Nat → Int32) (v1 : Int32) (v2 : Int32) (v3 : Int32) (v4 : Int32) (K : (Nat → Int32) → Int32 → Prop) (hK : ∀ (o_covered : Nat → Int32) (v5 : Int32), K o_covered v5 → Go p l e rm_X7_train s m args below meth c Q 11 D A [(a_o, .inr (10, [.int o_thrown, .ref a_o_tape, .int o_taped, .int o_samples, .ref a_o_sampleLong, .ref a_o_sampleByte, .ref a_o_idOf, .ref a_o_pieces, .ref a_o_pieceLong, .ref a_o_bytesOf, .ref a_o_dictionary, .ref a_o_covered, .ref a_o_taken, .int o_takenMany, .ref a_o_row, .int o_ahead, .int o_textLong, .ref a_o_cost, .ref a_o_leastD, .ref a_o_out, .int o_outMany, .int o_items, .int o_matches, .ref a_o_text, .int o_textMany])), (a_o_sampleLong, .inl (cy 1, 8, .inl o_sampleLong)), (a_o_sampleByte, .inl (cy 1, 320, .inl o_sampleByte)), (a_o_idOf, .inl (cy 1, 6, .inl o_idOf)), (a_o_pieces, .inl (cy 1, 6, .inl o_pieces)), (a_o_pieceLong, .inl (cy 1, 480, .inl o_pieceLong)), (a_o_bytesOf, .inl (cy 1, 6, .inl o_bytesOf)), (a_o_dictionary, .inl (cy 1, 480, .inl o_dictionary)), (a_o_covered, .inl (cy 2, 320, .inl o_covered)), (a_o_taken, .inl (cy 1, 80, .inl o_taken))] 0 0 97 [(0, .ref a_o), (1, .int v1), (2, .int v2), (3, .int v3), (4, .int v4)] []) :
    ∀ (n : Nat) (o_covered : Nat → Int32) (v5 : Int32), wX7_train_75 K n o_covered v5 → Go p l e rm_X7_train s m args below meth c Q 11 D A [(a_o, .inr (10, [.int o_thrown, .ref a_o_tape, .int o_taped, .int o_samples, .ref a_o_sampleLong, .ref a_o_sampleByte, .ref a_o_idOf, .ref a_o_pieces, .ref a_o_pieceLong, .ref a_o_bytesOf, .ref a_o_dictionary, .ref a_o_covered, .ref a_o_taken, .int o_takenMany, .ref a_o_row, .int o_ahead, .int o_textLong, .ref a_o_cost, .ref a_o_leastD, .ref a_o_out, .int o_outMany, .int o_items, .int o_matches, .ref a_o_text, .int o_textMany])), (a_o_sampleLong, .inl (cy 1, 8, .inl o_sampleLong)), (a_o_sampleByte, .inl (cy 1, 320, .inl o_sampleByte)), (a_o_idOf, .inl (cy 1, 6, .inl o_idOf)), (a_o_pieces, .inl (cy 1, 6, .inl o_pieces)), (a_o_pieceLong, .inl (cy 1, 480, .inl o_pieceLong)), (a_o_bytesOf, .inl (cy 1, 6, .inl o_bytesOf)), (a_o_dictionary, .inl (cy 1, 480, .inl o_dictionary)), (a_o_covered, .inl (cy 2, 320, .inl o_covered)), (a_o_taken, .inl (cy 1, 80, .inl o_taken))] 0 0 75 [(0, .ref a_o), (1, .int v1), (2, .int v2), (3, .int v3), (4, .int v4), (5, .int v5)] [] := by
  intro n
  induction n with
  | zero => intro o_covered v5 h; exact absurd h id
  | succ n ih =>
    intro o_covered v5 h
    refine go_iload X dX7_train_75 5 rfl ?_
    refine go_sipush X (v := 320) dX7_train_77 (by decide) ?_
    refine go_icmp_ge X 97 dX7_train_80 (by decide) (fun c12 => ?_) (fun c12 => ?_)
    · replace h := h.1 c12
      refine go_lv [0, 1, 2, 3, 4] rfl ?_
      exact hK o_covered v5 h
    · replace h := h.2 c12
      refine go_aload_n X dX7_train_83 0 rfl rfl ?_
      refine go_get X fi_X7_train_X7 0 rfl rfl 11 (by decide) fl_X7_train_34 rfl dX7_train_84 ?_
      refine go_iload X dX7_train_87 5 rfl ?_
      refine go_iconst X (v := 0) dX7_train_89 (by decide) ?_
      obtain ⟨c13, h⟩ := h
      refine go_zast X [(a_o, .inr (10, [.int o_thrown, .ref a_o_tape, .int o_taped, .int o_samples, .ref a_o_sampleLong, .ref a_o_sampleByte, .ref a_o_idOf, .ref a_o_pieces, .ref a_o_pieceLong, .ref a_o_bytesOf, .ref a_o_dictionary, .ref a_o_covered, .ref a_o_taken, .int o_takenMany, .ref a_o_row, .int o_ahead, .int o_textLong, .ref a_o_cost, .ref a_o_leastD, .ref a_o_out, .int o_outMany, .int o_items, .int o_matches, .ref a_o_text, .int o_textMany])), (a_o_sampleLong, .inl (cy 1, 8, .inl o_sampleLong)), (a_o_sampleByte, .inl (cy 1, 320, .inl o_sampleByte)), (a_o_idOf, .inl (cy 1, 6, .inl o_idOf)), (a_o_pieces, .inl (cy 1, 6, .inl o_pieces)), (a_o_pieceLong, .inl (cy 1, 480, .inl o_pieceLong)), (a_o_bytesOf, .inl (cy 1, 6, .inl o_bytesOf)), (a_o_dictionary, .inl (cy 1, 480, .inl o_dictionary)), (a_o_covered, .inl (cy 2, 320, .inl (upd o_covered v5.toNatClampNeg (vp_nar .boolean 0)))), (a_o_taken, .inl (cy 1, 80, .inl o_taken))] 8 2 rfl rfl c13 rfl dX7_train_90 ?_
      obtain ⟨y14, ey14⟩ : ∃ z : Int32, z = v5 + 1 := ⟨_, rfl⟩
      replace h := h y14 ey14
      refine go_iinc X (lv' := [(5, .int y14), (0, .ref a_o), (1, .int v1), (2, .int v2), (3, .int v3), (4, .int v4)]) y14 dX7_train_91 5 rfl (by rw [ey14]; rfl) (by decide) rfl ?_
      refine go_goto X 75 dX7_train_94 (by decide) ?_
      refine go_lv [1, 2, 3, 4, 5, 0] rfl ?_
      exact ih (upd o_covered v5.toNatClampNeg (vp_nar .boolean 0)) y14 h
set_option maxRecDepth 100000 in
set_option maxHeartbeats 4000000 in
theorem pX7_train_131 {p : Program} (l : Launch) {e : Env} {s : State} {m : MethodId} {args : Array Value} {below : List Frame} {meth : Method} {c : Code} {Q : State → Prop} {D : va_G} {cy : Nat → ClassId} {A : Nat → Prop} (X : Cx p s m args c cX7_train 11 RX7 wsX7_train D (tyL cy) A) (a_o : Nat) (a_o_tape : Nat) (a_o_sampleLong : Nat) (a_o_sampleByte : Nat) (a_o_idOf : Nat) (a_o_pieces : Nat) (a_o_pieceLong : Nat) (a_o_bytesOf : Nat) (a_o_dictionary : Nat) (a_o_covered : Nat) (a_o_taken : Nat) (a_o_row : Nat) (a_o_cost : Nat) (a_o_leastD : Nat) (a_o_out : Nat) (a_o_text : Nat) (o_thrown : Int32) (o_taped : Int32) (o_samples : Int32) (o_takenMany : Int32) (o_ahead : Int32) (o_textLong : Int32) (o_outMany : Int32) (o_items : Int32) (o_matches : Int32) (o_textMany : Int32) (o_sampleLong : Nat → Int32) (o_sampleByte : Nat → Int32) (o_idOf : Nat → Int32) (o_pieces : Nat → Int32) (o_pieceLong : Nat → Int32) (o_bytesOf : Nat → Int32) (o_dictionary : Nat → Int32) (o_taken : Nat → Int32) (v1 : Int32) (v2 : Int32) (v3 : Int32) (v4 : Int32) (v8 : Int32) (K : (Nat → Int32) → Int32 → Int32 → Int32 → Prop) (hK : ∀ (o_covered : Nat → Int32) (v6 : Int32) (v7 : Int32) (v9 : Int32), K o_covered v6 v7 v9 → Go p l e rm_X7_train s m args below meth c Q 11 D A [(a_o, .inr (10, [.int o_thrown, .ref a_o_tape, .int o_taped, .int o_samples, .ref a_o_sampleLong, .ref a_o_sampleByte, .ref a_o_idOf, .ref a_o_pieces, .ref a_o_pieceLong, .ref a_o_bytesOf, .ref a_o_dictionary, .ref a_o_covered, .ref a_o_taken, .int o_takenMany, .ref a_o_row, .int o_ahead, .int o_textLong, .ref a_o_cost, .ref a_o_leastD, .ref a_o_out, .int o_outMany, .int o_items, .int o_matches, .ref a_o_text, .int o_textMany])), (a_o_sampleLong, .inl (cy 1, 8, .inl o_sampleLong)), (a_o_sampleByte, .inl (cy 1, 320, .inl o_sampleByte)), (a_o_idOf, .inl (cy 1, 6, .inl o_idOf)), (a_o_pieces, .inl (cy 1, 6, .inl o_pieces)), (a_o_pieceLong, .inl (cy 1, 480, .inl o_pieceLong)), (a_o_bytesOf, .inl (cy 1, 6, .inl o_bytesOf)), (a_o_dictionary, .inl (cy 1, 480, .inl o_dictionary)), (a_o_covered, .inl (cy 2, 320, .inl o_covered)), (a_o_taken, .inl (cy 1, 80, .inl o_taken))] 0 0 214 [(0, .ref a_o), (1, .int v1), (2, .int v2), (3, .int v3), (4, .int v4), (6, .int v6), (7, .int v7), (8, .int v8)] []) :
    ∀ (n : Nat) (o_covered : Nat → Int32) (v6 : Int32) (v7 : Int32) (v9 : Int32), wX7_train_131 o_samples o_sampleLong o_sampleByte v3 v8 K n o_covered v6 v7 v9 → Go p l e rm_X7_train s m args below meth c Q 11 D A [(a_o, .inr (10, [.int o_thrown, .ref a_o_tape, .int o_taped, .int o_samples, .ref a_o_sampleLong, .ref a_o_sampleByte, .ref a_o_idOf, .ref a_o_pieces, .ref a_o_pieceLong, .ref a_o_bytesOf, .ref a_o_dictionary, .ref a_o_covered, .ref a_o_taken, .int o_takenMany, .ref a_o_row, .int o_ahead, .int o_textLong, .ref a_o_cost, .ref a_o_leastD, .ref a_o_out, .int o_outMany, .int o_items, .int o_matches, .ref a_o_text, .int o_textMany])), (a_o_sampleLong, .inl (cy 1, 8, .inl o_sampleLong)), (a_o_sampleByte, .inl (cy 1, 320, .inl o_sampleByte)), (a_o_idOf, .inl (cy 1, 6, .inl o_idOf)), (a_o_pieces, .inl (cy 1, 6, .inl o_pieces)), (a_o_pieceLong, .inl (cy 1, 480, .inl o_pieceLong)), (a_o_bytesOf, .inl (cy 1, 6, .inl o_bytesOf)), (a_o_dictionary, .inl (cy 1, 480, .inl o_dictionary)), (a_o_covered, .inl (cy 2, 320, .inl o_covered)), (a_o_taken, .inl (cy 1, 80, .inl o_taken))] 0 0 131 [(0, .ref a_o), (1, .int v1), (2, .int v2), (3, .int v3), (4, .int v4), (6, .int v6), (7, .int v7), (8, .int v8), (9, .int v9)] [] := by
  intro n
  induction n with
  | zero => intro o_covered v6 v7 v9 h; exact absurd h id
  | succ n ih =>
    intro o_covered v6 v7 v9 h
    refine go_iload X dX7_train_131 8 rfl ?_
    refine go_iload_n X dX7_train_133 3 rfl rfl ?_
    refine go_iadd X dX7_train_134 ?_
    refine go_aload_n X dX7_train_135 0 rfl rfl ?_
    refine go_get X fi_X7_train_X7 0 rfl rfl 4 (by decide) fl_X7_train_13 rfl dX7_train_136 ?_
    refine go_iload X dX7_train_139 7 rfl ?_
    obtain ⟨c29, h⟩ := h
    refine go_iald X 1 1 rfl rfl c29 dX7_train_141 ?_
    refine go_icmp_gt X 214 dX7_train_142 (by decide) (fun c30 => ?_) (fun c30 => ?_)
    · replace h := h.1 c30
      refine go_lv [0, 1, 2, 3, 4, 5, 6, 7] rfl ?_
      exact hK o_covered v6 v7 v9 h
    · replace h := h.2 c30
      refine go_aload_n X dX7_train_145 0 rfl rfl ?_
      refine go_iload X dX7_train_146 7 rfl ?_
      refine go_iload X dX7_train_148 8 rfl ?_
      refine go_iload_n X dX7_train_150 3 rfl rfl ?_
      refine go_callVi X (kX7_isOpen l D cy a_o a_o_tape a_o_sampleLong a_o_sampleByte a_o_idOf a_o_pieces a_o_pieceLong a_o_bytesOf a_o_dictionary a_o_covered a_o_taken a_o_row a_o_cost a_o_leastD a_o_out a_o_text o_thrown o_taped o_samples o_takenMany o_ahead o_textLong o_outMany o_items o_matches o_textMany o_sampleLong o_covered v8 v9 v3 _ h) (cwV 3 X.2.2.2.2.1 gX7_train_X7_isOpen rfl rfl rfl cd_X7_isOpen ⟨by decide, by decide⟩) (wr := [(a_o_sampleByte, .inl (cy 1, 320, .inl o_sampleByte)), (a_o_idOf, .inl (cy 1, 6, .inl o_idOf)), (a_o_pieces, .inl (cy 1, 6, .inl o_pieces)), (a_o_pieceLong, .inl (cy 1, 480, .inl o_pieceLong)), (a_o_bytesOf, .inl (cy 1, 6, .inl o_bytesOf)), (a_o_dictionary, .inl (cy 1, 480, .inl o_dictionary)), (a_o_taken, .inl (cy 1, 80, .inl o_taken))]) (ws2 := fun u => [(a_o, .inr (10, [.int o_thrown, .ref a_o_tape, .int o_taped, .int o_samples, .ref a_o_sampleLong, .ref a_o_sampleByte, .ref a_o_idOf, .ref a_o_pieces, .ref a_o_pieceLong, .ref a_o_bytesOf, .ref a_o_dictionary, .ref a_o_covered, .ref a_o_taken, .int o_takenMany, .ref a_o_row, .int o_ahead, .int o_textLong, .ref a_o_cost, .ref a_o_leastD, .ref a_o_out, .int o_outMany, .int o_items, .int o_matches, .ref a_o_text, .int o_textMany])), (a_o_sampleLong, .inl (cy 1, 8, .inl o_sampleLong)), (a_o_sampleByte, .inl (cy 1, 320, .inl o_sampleByte)), (a_o_idOf, .inl (cy 1, 6, .inl o_idOf)), (a_o_pieces, .inl (cy 1, 6, .inl o_pieces)), (a_o_pieceLong, .inl (cy 1, 480, .inl o_pieceLong)), (a_o_bytesOf, .inl (cy 1, 6, .inl o_bytesOf)), (a_o_dictionary, .inl (cy 1, 480, .inl o_dictionary)), (a_o_covered, .inl (cy 2, 320, .inl o_covered)), (a_o_taken, .inl (cy 1, 80, .inl o_taken))]) (perm_ix 10 [0, 1, 8, 2, 3, 4, 5, 6, 7, 9] rfl (by decide +kernel) rfl) (fun u => perm_ix 10 [0, 1, 3, 4, 5, 6, 7, 8, 2, 9] rfl (by decide +kernel) rfl) rfl rfl rfl rfl (Nat.le_of_ble_eq_true rfl) dX7_train_151 ⟨by decide, by decide⟩ (fun r31 u h => ?_)
      refine go_if_eq X 208 dX7_train_154 (by decide) (fun c32 => ?_) (fun c32 => ?_)
      · replace h := h.1 c32
        obtain ⟨y33, ey33⟩ : ∃ z : Int32, z = v9 + 1 := ⟨_, rfl⟩
        replace h := h y33 ey33
        refine go_iinc X (lv' := [(9, .int y33), (0, .ref a_o), (1, .int v1), (2, .int v2), (3, .int v3), (4, .int v4), (6, .int v6), (7, .int v7), (8, .int v8)]) y33 dX7_train_208 8 rfl (by rw [ey33]; rfl) (by decide) rfl ?_
        refine go_goto X 131 dX7_train_211 (by decide) ?_
        refine go_lv [1, 2, 3, 4, 5, 6, 7, 8, 0] rfl ?_
        exact ih o_covered v6 v7 y33 h
      · replace h := h.2 c32
        refine go_iload_n X dX7_train_157 3 rfl rfl ?_
        refine go_iconst X (v := 2) dX7_train_158 (by decide) ?_
        refine go_isub X dX7_train_159 ?_
        refine go_aload_n X dX7_train_160 0 rfl rfl ?_
        refine go_bipush X (v := 40) dX7_train_161 (by decide) ?_
        refine go_iload X dX7_train_163 7 rfl ?_
        refine go_imul X dX7_train_165 ?_
        refine go_iload X dX7_train_166 8 rfl ?_
        refine go_iadd X dX7_train_168 ?_
        refine go_iload_n X dX7_train_169 3 rfl rfl ?_
        refine go_iconst X (v := 0) dX7_train_170 (by decide) ?_
        refine go_callVi X (kX7_counted l D cy a_o a_o_tape a_o_sampleLong a_o_sampleByte a_o_idOf a_o_pieces a_o_pieceLong a_o_bytesOf a_o_dictionary a_o_covered a_o_taken a_o_row a_o_cost a_o_leastD a_o_out a_o_text o_thrown o_taped o_samples o_takenMany o_ahead o_textLong o_outMany o_items o_matches o_textMany o_sampleLong o_sampleByte o_covered ((40 * v8) + v9) v3 (0 : Int32) _ h) (cwV 3 X.2.2.2.2.1 gX7_train_X7_counted rfl rfl rfl cd_X7_counted ⟨by decide, by decide⟩) (wr := [(a_o_idOf, .inl (cy 1, 6, .inl o_idOf)), (a_o_pieces, .inl (cy 1, 6, .inl o_pieces)), (a_o_pieceLong, .inl (cy 1, 480, .inl o_pieceLong)), (a_o_bytesOf, .inl (cy 1, 6, .inl o_bytesOf)), (a_o_dictionary, .inl (cy 1, 480, .inl o_dictionary)), (a_o_taken, .inl (cy 1, 80, .inl o_taken))]) (ws2 := fun u => [(a_o, .inr (10, [.int o_thrown, .ref a_o_tape, .int o_taped, .int o_samples, .ref a_o_sampleLong, .ref a_o_sampleByte, .ref a_o_idOf, .ref a_o_pieces, .ref a_o_pieceLong, .ref a_o_bytesOf, .ref a_o_dictionary, .ref a_o_covered, .ref a_o_taken, .int o_takenMany, .ref a_o_row, .int o_ahead, .int o_textLong, .ref a_o_cost, .ref a_o_leastD, .ref a_o_out, .int o_outMany, .int o_items, .int o_matches, .ref a_o_text, .int o_textMany])), (a_o_sampleLong, .inl (cy 1, 8, .inl o_sampleLong)), (a_o_sampleByte, .inl (cy 1, 320, .inl o_sampleByte)), (a_o_idOf, .inl (cy 1, 6, .inl o_idOf)), (a_o_pieces, .inl (cy 1, 6, .inl o_pieces)), (a_o_pieceLong, .inl (cy 1, 480, .inl o_pieceLong)), (a_o_bytesOf, .inl (cy 1, 6, .inl o_bytesOf)), (a_o_dictionary, .inl (cy 1, 480, .inl o_dictionary)), (a_o_covered, .inl (cy 2, 320, .inl u)), (a_o_taken, .inl (cy 1, 80, .inl o_taken))]) (perm_ix 10 [0, 1, 2, 8, 3, 4, 5, 6, 7, 9] rfl (by decide +kernel) rfl) (fun u => perm_ix 10 [0, 1, 2, 4, 5, 6, 7, 8, 3, 9] rfl (by decide +kernel) rfl) rfl rfl rfl rfl (Nat.le_of_ble_eq_true rfl) dX7_train_171 ⟨by decide, by decide⟩ (fun r34 u h => ?_)
        obtain ⟨s35, rfl⟩ : ∃ z, z = u := ⟨_, rfl⟩
        refine go_imul X dX7_train_174 ?_
        refine go_iload_n X dX7_train_175 3 rfl rfl ?_
        refine go_isub X dX7_train_176 ?_
        refine go_iconst X (v := 1) dX7_train_177 (by decide) ?_
        refine go_isub X dX7_train_178 ?_
        refine go_topi (fun y36 ey36 => ?_)
        replace h := h y36 ey36
        refine go_istore X (lv' := [(10, .int y36), (0, .ref a_o), (1, .int v1), (2, .int v2), (3, .int v3), (4, .int v4), (6, .int v6), (7, .int v7), (8, .int v8), (9, .int v9)]) dX7_train_179 (by decide) rfl ?_
        refine go_iload X dX7_train_181 6 rfl ?_
        refine go_iconst X (v := (-1)) dX7_train_183 (by decide) ?_
        refine go_icmp_eq X 194 dX7_train_184 (by decide) (fun c37 => ?_) (fun c37 => ?_)
        · replace h := h.1 c37
          refine go_bipush X (v := 40) dX7_train_194 (by decide) ?_
          refine go_iload X dX7_train_196 8 rfl ?_
          refine go_imul X dX7_train_198 ?_
          refine go_iload X dX7_train_199 9 rfl ?_
          refine go_iadd X dX7_train_201 ?_
          refine go_topi (fun y38 ey38 => ?_)
          replace h := h y38 ey38
          refine go_istore X (lv' := [(6, .int y38), (10, .int y36), (0, .ref a_o), (1, .int v1), (2, .int v2), (3, .int v3), (4, .int v4), (7, .int v7), (8, .int v8), (9, .int v9)]) dX7_train_202 (by decide) rfl ?_
          refine go_iload X dX7_train_204 1 rfl ?_
          refine go_istore X (lv' := [(7, .int y36), (6, .int y38), (10, .int y36), (0, .ref a_o), (1, .int v1), (2, .int v2), (3, .int v3), (4, .int v4), (8, .int v8), (9, .int v9)]) dX7_train_206 (by decide) rfl ?_
          obtain ⟨y39, ey39⟩ : ∃ z : Int32, z = v9 + 1 := ⟨_, rfl⟩
          replace h := h y39 ey39
          refine go_iinc X (lv' := [(9, .int y39), (7, .int y36), (6, .int y38), (10, .int y36), (0, .ref a_o), (1, .int v1), (2, .int v2), (3, .int v3), (4, .int v4), (8, .int v8)]) y39 dX7_train_208 9 rfl (by rw [ey39]; rfl) (by decide) rfl ?_
          refine go_goto X 131 dX7_train_211 (by decide) ?_
          refine go_lv [4, 5, 6, 7, 8, 2, 1, 9, 0] rfl ?_
          exact ih s35 y38 y36 y39 h
        · replace h := h.2 c37
          refine go_iload X dX7_train_187 0 rfl ?_
          refine go_iload X dX7_train_189 7 rfl ?_
          refine go_icmp_le X 208 dX7_train_191 (by decide) (fun c40 => ?_) (fun c40 => ?_)
          · replace h := h.1 c40
            obtain ⟨y41, ey41⟩ : ∃ z : Int32, z = v9 + 1 := ⟨_, rfl⟩
            replace h := h y41 ey41
            refine go_iinc X (lv' := [(9, .int y41), (10, .int y36), (0, .ref a_o), (1, .int v1), (2, .int v2), (3, .int v3), (4, .int v4), (6, .int v6), (7, .int v7), (8, .int v8)]) y41 dX7_train_208 9 rfl (by rw [ey41]; rfl) (by decide) rfl ?_
            refine go_goto X 131 dX7_train_211 (by decide) ?_
            refine go_lv [2, 3, 4, 5, 6, 7, 8, 9, 0] rfl ?_
            exact ih s35 v6 v7 y41 h
          · replace h := h.2 c40
            refine go_bipush X (v := 40) dX7_train_194 (by decide) ?_
            refine go_iload X dX7_train_196 8 rfl ?_
            refine go_imul X dX7_train_198 ?_
            refine go_iload X dX7_train_199 9 rfl ?_
            refine go_iadd X dX7_train_201 ?_
            refine go_topi (fun y42 ey42 => ?_)
            replace h := h y42 ey42
            refine go_istore X (lv' := [(6, .int y42), (10, .int y36), (0, .ref a_o), (1, .int v1), (2, .int v2), (3, .int v3), (4, .int v4), (7, .int v7), (8, .int v8), (9, .int v9)]) dX7_train_202 (by decide) rfl ?_
            refine go_iload X dX7_train_204 1 rfl ?_
            refine go_istore X (lv' := [(7, .int y36), (6, .int y42), (10, .int y36), (0, .ref a_o), (1, .int v1), (2, .int v2), (3, .int v3), (4, .int v4), (8, .int v8), (9, .int v9)]) dX7_train_206 (by decide) rfl ?_
            obtain ⟨y43, ey43⟩ : ∃ z : Int32, z = v9 + 1 := ⟨_, rfl⟩
            replace h := h y43 ey43
            refine go_iinc X (lv' := [(9, .int y43), (7, .int y36), (6, .int y42), (10, .int y36), (0, .ref a_o), (1, .int v1), (2, .int v2), (3, .int v3), (4, .int v4), (8, .int v8)]) y43 dX7_train_208 9 rfl (by rw [ey43]; rfl) (by decide) rfl ?_
            refine go_goto X 131 dX7_train_211 (by decide) ?_
            refine go_lv [4, 5, 6, 7, 8, 2, 1, 9, 0] rfl ?_
            exact ih s35 y42 y36 y43 h
set_option maxRecDepth 100000 in
set_option maxHeartbeats 4000000 in
theorem pX7_train_119 {p : Program} (l : Launch) {e : Env} {s : State} {m : MethodId} {args : Array Value} {below : List Frame} {meth : Method} {c : Code} {Q : State → Prop} {D : va_G} {cy : Nat → ClassId} {A : Nat → Prop} (X : Cx p s m args c cX7_train 11 RX7 wsX7_train D (tyL cy) A) (a_o : Nat) (a_o_tape : Nat) (a_o_sampleLong : Nat) (a_o_sampleByte : Nat) (a_o_idOf : Nat) (a_o_pieces : Nat) (a_o_pieceLong : Nat) (a_o_bytesOf : Nat) (a_o_dictionary : Nat) (a_o_covered : Nat) (a_o_taken : Nat) (a_o_row : Nat) (a_o_cost : Nat) (a_o_leastD : Nat) (a_o_out : Nat) (a_o_text : Nat) (o_thrown : Int32) (o_taped : Int32) (o_samples : Int32) (o_takenMany : Int32) (o_ahead : Int32) (o_textLong : Int32) (o_outMany : Int32) (o_items : Int32) (o_matches : Int32) (o_textMany : Int32) (o_sampleLong : Nat → Int32) (o_sampleByte : Nat → Int32) (o_idOf : Nat → Int32) (o_pieces : Nat → Int32) (o_pieceLong : Nat → Int32) (o_bytesOf : Nat → Int32) (o_dictionary : Nat → Int32) (o_taken : Nat → Int32) (v1 : Int32) (v2 : Int32) (v3 : Int32) (v4 : Int32) (K : (Nat → Int32) → Int32 → Int32 → Int32 → Prop) (hK : ∀ (o_covered : Nat → Int32) (v6 : Int32) (v7 : Int32) (v8 : Int32), K o_covered v6 v7 v8 → Go p l e rm_X7_train s m args below meth c Q 11 D A [(a_o, .inr (10, [.int o_thrown, .ref a_o_tape, .int o_taped, .int o_samples, .ref a_o_sampleLong, .ref a_o_sampleByte, .ref a_o_idOf, .ref a_o_pieces, .ref a_o_pieceLong, .ref a_o_bytesOf, .ref a_o_dictionary, .ref a_o_covered, .ref a_o_taken, .int o_takenMany, .ref a_o_row, .int o_ahead, .int o_textLong, .ref a_o_cost, .ref a_o_leastD, .ref a_o_out, .int o_outMany, .int o_items, .int o_matches, .ref a_o_text, .int o_textMany])), (a_o_sampleLong, .inl (cy 1, 8, .inl o_sampleLong)), (a_o_sampleByte, .inl (cy 1, 320, .inl o_sampleByte)), (a_o_idOf, .inl (cy 1, 6, .inl o_idOf)), (a_o_pieces, .inl (cy 1, 6, .inl o_pieces)), (a_o_pieceLong, .inl (cy 1, 480, .inl o_pieceLong)), (a_o_bytesOf, .inl (cy 1, 6, .inl o_bytesOf)), (a_o_dictionary, .inl (cy 1, 480, .inl o_dictionary)), (a_o_covered, .inl (cy 2, 320, .inl o_covered)), (a_o_taken, .inl (cy 1, 80, .inl o_taken))] 0 0 220 [(0, .ref a_o), (1, .int v1), (2, .int v2), (3, .int v3), (4, .int v4), (6, .int v6), (7, .int v7)] []) :
    ∀ (n : Nat) (o_covered : Nat → Int32) (v6 : Int32) (v7 : Int32) (v8 : Int32), wX7_train_119 o_samples o_sampleLong o_sampleByte v3 K n o_covered v6 v7 v8 → Go p l e rm_X7_train s m args below meth c Q 11 D A [(a_o, .inr (10, [.int o_thrown, .ref a_o_tape, .int o_taped, .int o_samples, .ref a_o_sampleLong, .ref a_o_sampleByte, .ref a_o_idOf, .ref a_o_pieces, .ref a_o_pieceLong, .ref a_o_bytesOf, .ref a_o_dictionary, .ref a_o_covered, .ref a_o_taken, .int o_takenMany, .ref a_o_row, .int o_ahead, .int o_textLong, .ref a_o_cost, .ref a_o_leastD, .ref a_o_out, .int o_outMany, .int o_items, .int o_matches, .ref a_o_text, .int o_textMany])), (a_o_sampleLong, .inl (cy 1, 8, .inl o_sampleLong)), (a_o_sampleByte, .inl (cy 1, 320, .inl o_sampleByte)), (a_o_idOf, .inl (cy 1, 6, .inl o_idOf)), (a_o_pieces, .inl (cy 1, 6, .inl o_pieces)), (a_o_pieceLong, .inl (cy 1, 480, .inl o_pieceLong)), (a_o_bytesOf, .inl (cy 1, 6, .inl o_bytesOf)), (a_o_dictionary, .inl (cy 1, 480, .inl o_dictionary)), (a_o_covered, .inl (cy 2, 320, .inl o_covered)), (a_o_taken, .inl (cy 1, 80, .inl o_taken))] 0 0 119 [(0, .ref a_o), (1, .int v1), (2, .int v2), (3, .int v3), (4, .int v4), (6, .int v6), (7, .int v7), (8, .int v8)] [] := by
  intro n
  induction n with
  | zero => intro o_covered v6 v7 v8 h; exact absurd h id
  | succ n ih =>
    intro o_covered v6 v7 v8 h
    refine go_iload X dX7_train_119 7 rfl ?_
    refine go_aload_n X dX7_train_121 0 rfl rfl ?_
    refine go_get X fi_X7_train_X7 0 rfl rfl 3 (by decide) fl_X7_train_71 rfl dX7_train_122 ?_
    refine go_icmp_ge X 220 dX7_train_125 (by decide) (fun c24 => ?_) (fun c24 => ?_)
    · replace h := h.1 c24
      refine go_lv [0, 1, 2, 3, 4, 5, 6] rfl ?_
      exact hK o_covered v6 v7 v8 h
    · replace h := h.2 c24
      refine go_iconst X (v := 0) dX7_train_128 (by decide) ?_
      refine go_istore X (lv' := [(9, .int 0), (0, .ref a_o), (1, .int v1), (2, .int v2), (3, .int v3), (4, .int v4), (6, .int v6), (7, .int v7), (8, .int v8)]) dX7_train_129 (by decide) rfl ?_
      obtain ⟨n45, h⟩ := h
      refine go_lv [1, 2, 3, 4, 5, 6, 7, 8, 0] rfl ?_
      refine pX7_train_131 l X a_o a_o_tape a_o_sampleLong a_o_sampleByte a_o_idOf a_o_pieces a_o_pieceLong a_o_bytesOf a_o_dictionary a_o_covered a_o_taken a_o_row a_o_cost a_o_leastD a_o_out a_o_text o_thrown o_taped o_samples o_takenMany o_ahead o_textLong o_outMany o_items o_matches o_textMany o_sampleLong o_sampleByte o_idOf o_pieces o_pieceLong o_bytesOf o_dictionary o_taken v1 v2 v3 v4 v8  _ (fun s25 y26 y27 y28 h => ?_) n45 o_covered v6 v7 (0 : Int32) h
      obtain ⟨y44, ey44⟩ : ∃ z : Int32, z = v8 + 1 := ⟨_, rfl⟩
      replace h := h y44 ey44
      refine go_iinc X (lv' := [(8, .int y44), (0, .ref a_o), (1, .int v1), (2, .int v2), (3, .int v3), (4, .int v4), (6, .int y26), (7, .int y27)]) y44 dX7_train_214 7 rfl (by rw [ey44]; rfl) (by decide) rfl ?_
      refine go_goto X 119 dX7_train_217 (by decide) ?_
      refine go_lv [1, 2, 3, 4, 5, 6, 7, 0] rfl ?_
      exact ih s25 y26 y27 y44 h
set_option maxRecDepth 100000 in
set_option maxHeartbeats 4000000 in
theorem pX7_train_259 {p : Program} (l : Launch) {e : Env} {s : State} {m : MethodId} {args : Array Value} {below : List Frame} {meth : Method} {c : Code} {Q : State → Prop} {D : va_G} {cy : Nat → ClassId} {A : Nat → Prop} (X : Cx p s m args c cX7_train 11 RX7 wsX7_train D (tyL cy) A) (a_o : Nat) (a_o_tape : Nat) (a_o_sampleLong : Nat) (a_o_sampleByte : Nat) (a_o_idOf : Nat) (a_o_pieces : Nat) (a_o_pieceLong : Nat) (a_o_bytesOf : Nat) (a_o_dictionary : Nat) (a_o_covered : Nat) (a_o_taken : Nat) (a_o_row : Nat) (a_o_cost : Nat) (a_o_leastD : Nat) (a_o_out : Nat) (a_o_text : Nat) (o_thrown : Int32) (o_taped : Int32) (o_samples : Int32) (o_takenMany : Int32) (o_ahead : Int32) (o_textLong : Int32) (o_outMany : Int32) (o_items : Int32) (o_matches : Int32) (o_textMany : Int32) (o_sampleLong : Nat → Int32) (o_sampleByte : Nat → Int32) (o_idOf : Nat → Int32) (o_pieces : Nat → Int32) (o_pieceLong : Nat → Int32) (o_bytesOf : Nat → Int32) (o_dictionary : Nat → Int32) (o_covered : Nat → Int32) (v1 : Int32) (v2 : Int32) (v3 : Int32) (v4 : Int32) (v5 : Int32) (v6 : Int32) (K : (Nat → Int32) → Int32 → Prop) (hK : ∀ (o_taken : Nat → Int32) (v8 : Int32), K o_taken v8 → Go p l e rm_X7_train s m args below meth c Q 11 D A [(a_o, .inr (10, [.int o_thrown, .ref a_o_tape, .int o_taped, .int o_samples, .ref a_o_sampleLong, .ref a_o_sampleByte, .ref a_o_idOf, .ref a_o_pieces, .ref a_o_pieceLong, .ref a_o_bytesOf, .ref a_o_dictionary, .ref a_o_covered, .ref a_o_taken, .int o_takenMany, .ref a_o_row, .int o_ahead, .int o_textLong, .ref a_o_cost, .ref a_o_leastD, .ref a_o_out, .int o_outMany, .int o_items, .int o_matches, .ref a_o_text, .int o_textMany])), (a_o_sampleLong, .inl (cy 1, 8, .inl o_sampleLong)), (a_o_sampleByte, .inl (cy 1, 320, .inl o_sampleByte)), (a_o_idOf, .inl (cy 1, 6, .inl o_idOf)), (a_o_pieces, .inl (cy 1, 6, .inl o_pieces)), (a_o_pieceLong, .inl (cy 1, 480, .inl o_pieceLong)), (a_o_bytesOf, .inl (cy 1, 6, .inl o_bytesOf)), (a_o_dictionary, .inl (cy 1, 480, .inl o_dictionary)), (a_o_covered, .inl (cy 2, 320, .inl o_covered)), (a_o_taken, .inl (cy 1, 80, .inl o_taken))] 0 0 295 [(0, .ref a_o), (1, .int v1), (2, .int v2), (3, .int v3), (4, .int v4), (5, .int v5), (6, .int v6)] []) :
    ∀ (n : Nat) (o_taken : Nat → Int32) (v8 : Int32), wX7_train_259 o_takenMany o_sampleByte v3 v6 K n o_taken v8 → Go p l e rm_X7_train s m args below meth c Q 11 D A [(a_o, .inr (10, [.int o_thrown, .ref a_o_tape, .int o_taped, .int o_samples, .ref a_o_sampleLong, .ref a_o_sampleByte, .ref a_o_idOf, .ref a_o_pieces, .ref a_o_pieceLong, .ref a_o_bytesOf, .ref a_o_dictionary, .ref a_o_covered, .ref a_o_taken, .int o_takenMany, .ref a_o_row, .int o_ahead, .int o_textLong, .ref a_o_cost, .ref a_o_leastD, .ref a_o_out, .int o_outMany, .int o_items, .int o_matches, .ref a_o_text, .int o_textMany])), (a_o_sampleLong, .inl (cy 1, 8, .inl o_sampleLong)), (a_o_sampleByte, .inl (cy 1, 320, .inl o_sampleByte)), (a_o_idOf, .inl (cy 1, 6, .inl o_idOf)), (a_o_pieces, .inl (cy 1, 6, .inl o_pieces)), (a_o_pieceLong, .inl (cy 1, 480, .inl o_pieceLong)), (a_o_bytesOf, .inl (cy 1, 6, .inl o_bytesOf)), (a_o_dictionary, .inl (cy 1, 480, .inl o_dictionary)), (a_o_covered, .inl (cy 2, 320, .inl o_covered)), (a_o_taken, .inl (cy 1, 80, .inl o_taken))] 0 0 259 [(0, .ref a_o), (1, .int v1), (2, .int v2), (3, .int v3), (4, .int v4), (5, .int v5), (6, .int v6), (8, .int v8)] [] := by
  intro n
  induction n with
  | zero => intro o_taken v8 h; exact absurd h id
  | succ n ih =>
    intro o_taken v8 h
    refine go_iload X dX7_train_259 7 rfl ?_
    refine go_iload_n X dX7_train_261 3 rfl rfl ?_
    refine go_icmp_ge X 295 dX7_train_262 (by decide) (fun c51 => ?_) (fun c51 => ?_)
    · replace h := h.1 c51
      refine go_lv [0, 1, 2, 3, 4, 5, 6] rfl ?_
      exact hK o_taken v8 h
    · replace h := h.2 c51
      refine go_aload_n X dX7_train_265 0 rfl rfl ?_
      refine go_get X fi_X7_train_X7 0 rfl rfl 12 (by decide) fl_X7_train_38 rfl dX7_train_266 ?_
      refine go_iload_n X dX7_train_269 3 rfl rfl ?_
      refine go_aload_n X dX7_train_270 0 rfl rfl ?_
      refine go_get X fi_X7_train_X7 0 rfl rfl 13 (by decide) fl_X7_train_89 rfl dX7_train_271 ?_
      refine go_imul X dX7_train_274 ?_
      refine go_iload X dX7_train_275 7 rfl ?_
      refine go_iadd X dX7_train_277 ?_
      refine go_aload_n X dX7_train_278 0 rfl rfl ?_
      refine go_get X fi_X7_train_X7 0 rfl rfl 5 (by decide) fl_X7_train_16 rfl dX7_train_279 ?_
      refine go_iload X dX7_train_282 6 rfl ?_
      refine go_iload X dX7_train_284 7 rfl ?_
      refine go_iadd X dX7_train_286 ?_
      obtain ⟨c52, h⟩ := h
      refine go_iald X 2 1 rfl rfl c52 dX7_train_287 ?_
      obtain ⟨c53, h⟩ := h
      refine go_iast X [(a_o, .inr (10, [.int o_thrown, .ref a_o_tape, .int o_taped, .int o_samples, .ref a_o_sampleLong, .ref a_o_sampleByte, .ref a_o_idOf, .ref a_o_pieces, .ref a_o_pieceLong, .ref a_o_bytesOf, .ref a_o_dictionary, .ref a_o_covered, .ref a_o_taken, .int o_takenMany, .ref a_o_row, .int o_ahead, .int o_textLong, .ref a_o_cost, .ref a_o_leastD, .ref a_o_out, .int o_outMany, .int o_items, .int o_matches, .ref a_o_text, .int o_textMany])), (a_o_sampleLong, .inl (cy 1, 8, .inl o_sampleLong)), (a_o_sampleByte, .inl (cy 1, 320, .inl o_sampleByte)), (a_o_idOf, .inl (cy 1, 6, .inl o_idOf)), (a_o_pieces, .inl (cy 1, 6, .inl o_pieces)), (a_o_pieceLong, .inl (cy 1, 480, .inl o_pieceLong)), (a_o_bytesOf, .inl (cy 1, 6, .inl o_bytesOf)), (a_o_dictionary, .inl (cy 1, 480, .inl o_dictionary)), (a_o_covered, .inl (cy 2, 320, .inl o_covered)), (a_o_taken, .inl (cy 1, 80, .inl (upd o_taken ((v3 * o_takenMany) + v8).toNatClampNeg (o_sampleByte (v6 + v8).toNatClampNeg))))] 9 1 rfl rfl c53 rfl dX7_train_288 ?_
      obtain ⟨y54, ey54⟩ : ∃ z : Int32, z = v8 + 1 := ⟨_, rfl⟩
      replace h := h y54 ey54
      refine go_iinc X (lv' := [(8, .int y54), (0, .ref a_o), (1, .int v1), (2, .int v2), (3, .int v3), (4, .int v4), (5, .int v5), (6, .int v6)]) y54 dX7_train_289 7 rfl (by rw [ey54]; rfl) (by decide) rfl ?_
      refine go_goto X 259 dX7_train_292 (by decide) ?_
      refine go_lv [1, 2, 3, 4, 5, 6, 7, 0] rfl ?_
      exact ih (upd o_taken ((v3 * o_takenMany) + v8).toNatClampNeg (o_sampleByte (v6 + v8).toNatClampNeg)) y54 h
set_option maxRecDepth 100000 in
set_option maxHeartbeats 4000000 in
theorem pX7_train_105 {p : Program} (l : Launch) {e : Env} {s : State} {m : MethodId} {args : Array Value} {below : List Frame} {meth : Method} {c : Code} {Q : State → Prop} {D : va_G} {cy : Nat → ClassId} {A : Nat → Prop} (X : Cx p s m args c cX7_train 11 RX7 wsX7_train D (tyL cy) A) (a_o : Nat) (a_o_tape : Nat) (a_o_sampleLong : Nat) (a_o_sampleByte : Nat) (a_o_idOf : Nat) (a_o_pieces : Nat) (a_o_pieceLong : Nat) (a_o_bytesOf : Nat) (a_o_dictionary : Nat) (a_o_covered : Nat) (a_o_taken : Nat) (a_o_row : Nat) (a_o_cost : Nat) (a_o_leastD : Nat) (a_o_out : Nat) (a_o_text : Nat) (o_thrown : Int32) (o_taped : Int32) (o_samples : Int32) (o_ahead : Int32) (o_textLong : Int32) (o_outMany : Int32) (o_items : Int32) (o_matches : Int32) (o_textMany : Int32) (o_sampleLong : Nat → Int32) (o_sampleByte : Nat → Int32) (o_idOf : Nat → Int32) (o_pieces : Nat → Int32) (o_pieceLong : Nat → Int32) (o_bytesOf : Nat → Int32) (o_dictionary : Nat → Int32) (v1 : Int32) (v2 : Int32) (v3 : Int32) (v4 : Int32) (K : Int32 → (Nat → Int32) → (Nat → Int32) → Int32 → Prop) (hK : ∀ (o_takenMany : Int32) (o_covered : Nat → Int32) (o_taken : Nat → Int32) (v5 : Int32), K o_takenMany o_covered o_taken v5 → Go p l e rm_X7_train s m args below meth c Q 11 D A [(a_o, .inr (10, [.int o_thrown, .ref a_o_tape, .int o_taped, .int o_samples, .ref a_o_sampleLong, .ref a_o_sampleByte, .ref a_o_idOf, .ref a_o_pieces, .ref a_o_pieceLong, .ref a_o_bytesOf, .ref a_o_dictionary, .ref a_o_covered, .ref a_o_taken, .int o_takenMany, .ref a_o_row, .int o_ahead, .int o_textLong, .ref a_o_cost, .ref a_o_leastD, .ref a_o_out, .int o_outMany, .int o_items, .int o_matches, .ref a_o_text, .int o_textMany])), (a_o_sampleLong, .inl (cy 1, 8, .inl o_sampleLong)), (a_o_sampleByte, .inl (cy 1, 320, .inl o_sampleByte)), (a_o_idOf, .inl (cy 1, 6, .inl o_idOf)), (a_o_pieces, .inl (cy 1, 6, .inl o_pieces)), (a_o_pieceLong, .inl (cy 1, 480, .inl o_pieceLong)), (a_o_bytesOf, .inl (cy 1, 6, .inl o_bytesOf)), (a_o_dictionary, .inl (cy 1, 480, .inl o_dictionary)), (a_o_covered, .inl (cy 2, 320, .inl o_covered)), (a_o_taken, .inl (cy 1, 80, .inl o_taken))] 0 0 318 [(0, .ref a_o), (1, .int v1), (2, .int v2), (3, .int v3)] []) :
    ∀ (n : Nat) (o_takenMany : Int32) (o_covered : Nat → Int32) (o_taken : Nat → Int32) (v5 : Int32), wX7_train_105 o_samples o_sampleLong o_sampleByte v3 v4 K n o_takenMany o_covered o_taken v5 → Go p l e rm_X7_train s m args below meth c Q 11 D A [(a_o, .inr (10, [.int o_thrown, .ref a_o_tape, .int o_taped, .int o_samples, .ref a_o_sampleLong, .ref a_o_sampleByte, .ref a_o_idOf, .ref a_o_pieces, .ref a_o_pieceLong, .ref a_o_bytesOf, .ref a_o_dictionary, .ref a_o_covered, .ref a_o_taken, .int o_takenMany, .ref a_o_row, .int o_ahead, .int o_textLong, .ref a_o_cost, .ref a_o_leastD, .ref a_o_out, .int o_outMany, .int o_items, .int o_matches, .ref a_o_text, .int o_textMany])), (a_o_sampleLong, .inl (cy 1, 8, .inl o_sampleLong)), (a_o_sampleByte, .inl (cy 1, 320, .inl o_sampleByte)), (a_o_idOf, .inl (cy 1, 6, .inl o_idOf)), (a_o_pieces, .inl (cy 1, 6, .inl o_pieces)), (a_o_pieceLong, .inl (cy 1, 480, .inl o_pieceLong)), (a_o_bytesOf, .inl (cy 1, 6, .inl o_bytesOf)), (a_o_dictionary, .inl (cy 1, 480, .inl o_dictionary)), (a_o_covered, .inl (cy 2, 320, .inl o_covered)), (a_o_taken, .inl (cy 1, 80, .inl o_taken))] 0 0 105 [(0, .ref a_o), (1, .int v1), (2, .int v2), (3, .int v3), (4, .int v4), (5, .int v5)] [] := by
  intro n
  induction n with
  | zero => intro o_takenMany o_covered o_taken v5 h; exact absurd h id
  | succ n ih =>
    intro o_takenMany o_covered o_taken v5 h
    refine go_iload X dX7_train_105 5 rfl ?_
    refine go_if_eq X 318 dX7_train_107 (by decide) (fun c19 => ?_) (fun c19 => ?_)
    · replace h := h.1 c19
      refine go_lv [0, 1, 2, 3] rfl ?_
      exact hK o_takenMany o_covered o_taken v5 h
    · replace h := h.2 c19
      refine go_iconst X (v := (-1)) dX7_train_110 (by decide) ?_
      refine go_istore X (lv' := [(6, .int (-1)), (0, .ref a_o), (1, .int v1), (2, .int v2), (3, .int v3), (4, .int v4), (5, .int v5)]) dX7_train_111 (by decide) rfl ?_
      refine go_iconst X (v := 0) dX7_train_113 (by decide) ?_
      refine go_istore X (lv' := [(7, .int 0), (6, .int (-1)), (0, .ref a_o), (1, .int v1), (2, .int v2), (3, .int v3), (4, .int v4), (5, .int v5)]) dX7_train_114 (by decide) rfl ?_
      refine go_iconst X (v := 0) dX7_train_116 (by decide) ?_
      refine go_istore X (lv' := [(8, .int 0), (7, .int 0), (6, .int (-1)), (0, .ref a_o), (1, .int v1), (2, .int v2), (3, .int v3), (4, .int v4), (5, .int v5)]) dX7_train_117 (by decide) rfl ?_
      obtain ⟨n59, h⟩ := h
      refine go_lv [3, 4, 5, 6, 7, 2, 1, 0] rfl ?_
      refine pX7_train_119 l X a_o a_o_tape a_o_sampleLong a_o_sampleByte a_o_idOf a_o_pieces a_o_pieceLong a_o_bytesOf a_o_dictionary a_o_covered a_o_taken a_o_row a_o_cost a_o_leastD a_o_out a_o_text o_thrown o_taped o_samples o_takenMany o_ahead o_textLong o_outMany o_items o_matches o_textMany o_sampleLong o_sampleByte o_idOf o_pieces o_pieceLong o_bytesOf o_dictionary o_taken v1 v2 v3 v4  _ (fun s20 y21 y22 y23 h => ?_) n59 o_covered ((-1) : Int32) (0 : Int32) (0 : Int32) h
      refine go_iload X dX7_train_220 5 rfl ?_
      refine go_iconst X (v := (-1)) dX7_train_222 (by decide) ?_
      refine go_icmp_eq X 248 dX7_train_223 (by decide) (fun c46 => ?_) (fun c46 => ?_)
      · replace h := h.1 c46
        refine go_iconst X (v := 0) dX7_train_248 (by decide) ?_
        refine go_istore X (lv' := [(5, .int 0), (0, .ref a_o), (1, .int v1), (2, .int v2), (3, .int v3), (4, .int v4), (6, .int y21), (7, .int y22)]) dX7_train_249 (by decide) rfl ?_
        refine go_iload X dX7_train_251 0 rfl ?_
        refine go_if_eq X 315 dX7_train_253 (by decide) (fun _ => ?_) (fun c0 => absurd c0 (by decide))
        refine go_goto X 105 dX7_train_315 (by decide) ?_
        refine go_lv [1, 2, 3, 4, 5, 0] rfl ?_
        exact ih o_takenMany s20 o_taken 0 h
      · replace h := h.2 c46
        refine go_iload X dX7_train_226 6 rfl ?_
        refine go_if_le X 248 dX7_train_228 (by decide) (fun c47 => ?_) (fun c47 => ?_)
        · replace h := h.1 c47
          refine go_iconst X (v := 0) dX7_train_248 (by decide) ?_
          refine go_istore X (lv' := [(5, .int 0), (0, .ref a_o), (1, .int v1), (2, .int v2), (3, .int v3), (4, .int v4), (6, .int y21), (7, .int y22)]) dX7_train_249 (by decide) rfl ?_
          refine go_iload X dX7_train_251 0 rfl ?_
          refine go_if_eq X 315 dX7_train_253 (by decide) (fun _ => ?_) (fun c0 => absurd c0 (by decide))
          refine go_goto X 105 dX7_train_315 (by decide) ?_
          refine go_lv [1, 2, 3, 4, 5, 0] rfl ?_
          exact ih o_takenMany s20 o_taken 0 h
        · replace h := h.2 c47
          refine go_iload_n X dX7_train_231 3 rfl rfl ?_
          refine go_aload_n X dX7_train_232 0 rfl rfl ?_
          refine go_get X fi_X7_train_X7 0 rfl rfl 13 (by decide) fl_X7_train_89 rfl dX7_train_233 ?_
          refine go_iconst X (v := 1) dX7_train_236 (by decide) ?_
          refine go_iadd X dX7_train_237 ?_
          refine go_imul X dX7_train_238 ?_
          refine go_iload X dX7_train_239 4 rfl ?_
          refine go_icmp_gt X 248 dX7_train_241 (by decide) (fun c48 => ?_) (fun c48 => ?_)
          · replace h := h.1 c48
            refine go_iconst X (v := 0) dX7_train_248 (by decide) ?_
            refine go_istore X (lv' := [(5, .int 0), (0, .ref a_o), (1, .int v1), (2, .int v2), (3, .int v3), (4, .int v4), (6, .int y21), (7, .int y22)]) dX7_train_249 (by decide) rfl ?_
            refine go_iload X dX7_train_251 0 rfl ?_
            refine go_if_eq X 315 dX7_train_253 (by decide) (fun _ => ?_) (fun c0 => absurd c0 (by decide))
            refine go_goto X 105 dX7_train_315 (by decide) ?_
            refine go_lv [1, 2, 3, 4, 5, 0] rfl ?_
            exact ih o_takenMany s20 o_taken 0 h
          · replace h := h.2 c48
            refine go_iconst X (v := 1) dX7_train_244 (by decide) ?_
            refine go_goto X 249 dX7_train_245 (by decide) ?_
            refine go_istore X (lv' := [(5, .int 1), (0, .ref a_o), (1, .int v1), (2, .int v2), (3, .int v3), (4, .int v4), (6, .int y21), (7, .int y22)]) dX7_train_249 (by decide) rfl ?_
            refine go_iload X dX7_train_251 0 rfl ?_
            refine go_if_eq X 315 dX7_train_253 (by decide) (fun c0 => absurd c0 (by decide)) (fun _ => ?_)
            refine go_iconst X (v := 0) dX7_train_256 (by decide) ?_
            refine go_istore X (lv' := [(8, .int 0), (5, .int 1), (0, .ref a_o), (1, .int v1), (2, .int v2), (3, .int v3), (4, .int v4), (6, .int y21), (7, .int y22)]) dX7_train_257 (by decide) rfl ?_
            obtain ⟨n58, h⟩ := h
            refine go_lv [2, 3, 4, 5, 6, 1, 7, 0] rfl ?_
            refine pX7_train_259 l X a_o a_o_tape a_o_sampleLong a_o_sampleByte a_o_idOf a_o_pieces a_o_pieceLong a_o_bytesOf a_o_dictionary a_o_covered a_o_taken a_o_row a_o_cost a_o_leastD a_o_out a_o_text o_thrown o_taped o_samples o_takenMany o_ahead o_textLong o_outMany o_items o_matches o_textMany o_sampleLong o_sampleByte o_idOf o_pieces o_pieceLong o_bytesOf o_dictionary s20 v1 v2 v3 v4 (1 : Int32) y21  _ (fun s49 y50 h => ?_) n58 o_taken (0 : Int32) h
            refine go_aload_n X dX7_train_295 0 rfl rfl ?_
            refine go_dup X dX7_train_296 rfl ?_
            refine go_get X fi_X7_train_X7 0 rfl rfl 13 (by decide) fl_X7_train_89 rfl dX7_train_297 ?_
            refine go_iconst X (v := 1) dX7_train_300 (by decide) ?_
            refine go_iadd X dX7_train_301 ?_
            refine go_topi (fun y55 ey55 => ?_)
            replace h := h y55 ey55
            refine go_put X (ws' := [(a_o, .inr (10, [.int o_thrown, .ref a_o_tape, .int o_taped, .int o_samples, .ref a_o_sampleLong, .ref a_o_sampleByte, .ref a_o_idOf, .ref a_o_pieces, .ref a_o_pieceLong, .ref a_o_bytesOf, .ref a_o_dictionary, .ref a_o_covered, .ref a_o_taken, .int y55, .ref a_o_row, .int o_ahead, .int o_textLong, .ref a_o_cost, .ref a_o_leastD, .ref a_o_out, .int o_outMany, .int o_items, .int o_matches, .ref a_o_text, .int o_textMany])), (a_o_sampleLong, .inl (cy 1, 8, .inl o_sampleLong)), (a_o_sampleByte, .inl (cy 1, 320, .inl o_sampleByte)), (a_o_idOf, .inl (cy 1, 6, .inl o_idOf)), (a_o_pieces, .inl (cy 1, 6, .inl o_pieces)), (a_o_pieceLong, .inl (cy 1, 480, .inl o_pieceLong)), (a_o_bytesOf, .inl (cy 1, 6, .inl o_bytesOf)), (a_o_dictionary, .inl (cy 1, 480, .inl o_dictionary)), (a_o_covered, .inl (cy 2, 320, .inl s20)), (a_o_taken, .inl (cy 1, 80, .inl s49))]) fi_X7_train_X7 tyX7 tyX7_ok nmX7 0 rfl rfl 13 (by decide) fl_X7_train_89 rfl (tyX7_ok 13 (by decide)) rfl rfl (Nat.le_of_ble_eq_true rfl) rfl dX7_train_302 ?_
            refine go_aload_n X dX7_train_305 0 rfl rfl ?_
            refine go_iload X dX7_train_306 6 rfl ?_
            refine go_iload_n X dX7_train_308 3 rfl rfl ?_
            refine go_iconst X (v := 1) dX7_train_309 (by decide) ?_
            refine go_callVi X (kX7_counted l D cy a_o a_o_tape a_o_sampleLong a_o_sampleByte a_o_idOf a_o_pieces a_o_pieceLong a_o_bytesOf a_o_dictionary a_o_covered a_o_taken a_o_row a_o_cost a_o_leastD a_o_out a_o_text o_thrown o_taped o_samples y55 o_ahead o_textLong o_outMany o_items o_matches o_textMany o_sampleLong o_sampleByte s20 y21 v3 (1 : Int32) _ h) (cwV 3 X.2.2.2.2.1 gX7_train_X7_counted rfl rfl rfl cd_X7_counted ⟨by decide, by decide⟩) (wr := [(a_o_idOf, .inl (cy 1, 6, .inl o_idOf)), (a_o_pieces, .inl (cy 1, 6, .inl o_pieces)), (a_o_pieceLong, .inl (cy 1, 480, .inl o_pieceLong)), (a_o_bytesOf, .inl (cy 1, 6, .inl o_bytesOf)), (a_o_dictionary, .inl (cy 1, 480, .inl o_dictionary)), (a_o_taken, .inl (cy 1, 80, .inl s49))]) (ws2 := fun u => [(a_o, .inr (10, [.int o_thrown, .ref a_o_tape, .int o_taped, .int o_samples, .ref a_o_sampleLong, .ref a_o_sampleByte, .ref a_o_idOf, .ref a_o_pieces, .ref a_o_pieceLong, .ref a_o_bytesOf, .ref a_o_dictionary, .ref a_o_covered, .ref a_o_taken, .int y55, .ref a_o_row, .int o_ahead, .int o_textLong, .ref a_o_cost, .ref a_o_leastD, .ref a_o_out, .int o_outMany, .int o_items, .int o_matches, .ref a_o_text, .int o_textMany])), (a_o_sampleLong, .inl (cy 1, 8, .inl o_sampleLong)), (a_o_sampleByte, .inl (cy 1, 320, .inl o_sampleByte)), (a_o_idOf, .inl (cy 1, 6, .inl o_idOf)), (a_o_pieces, .inl (cy 1, 6, .inl o_pieces)), (a_o_pieceLong, .inl (cy 1, 480, .inl o_pieceLong)), (a_o_bytesOf, .inl (cy 1, 6, .inl o_bytesOf)), (a_o_dictionary, .inl (cy 1, 480, .inl o_dictionary)), (a_o_covered, .inl (cy 2, 320, .inl u)), (a_o_taken, .inl (cy 1, 80, .inl s49))]) (perm_ix 10 [0, 1, 2, 8, 3, 4, 5, 6, 7, 9] rfl (by decide +kernel) rfl) (fun u => perm_ix 10 [0, 1, 2, 4, 5, 6, 7, 8, 3, 9] rfl (by decide +kernel) rfl) rfl rfl rfl rfl (Nat.le_of_ble_eq_true rfl) dX7_train_310 ⟨by decide, by decide⟩ (fun r56 u h => ?_)
            obtain ⟨s57, rfl⟩ : ∃ z, z = u := ⟨_, rfl⟩
            refine go_istore X (lv' := [(8, .int r56), (0, .ref a_o), (1, .int v1), (2, .int v2), (3, .int v3), (4, .int v4), (5, .int 1), (6, .int y21)]) dX7_train_313 (by decide) rfl ?_
            refine go_goto X 105 dX7_train_315 (by decide) ?_
            refine go_lv [1, 2, 3, 4, 5, 6] rfl ?_
            exact ih y55 s57 s49 1 h
set_option maxRecDepth 100000 in
set_option maxHeartbeats 4000000 in
theorem pX7_train_375 {p : Program} (l : Launch) {e : Env} {s : State} {m : MethodId} {args : Array Value} {below : List Frame} {meth : Method} {c : Code} {Q : State → Prop} {D : va_G} {cy : Nat → ClassId} {A : Nat → Prop} (X : Cx p s m args c cX7_train 11 RX7 wsX7_train D (tyL cy) A) (a_o : Nat) (a_o_tape : Nat) (a_o_sampleLong : Nat) (a_o_sampleByte : Nat) (a_o_idOf : Nat) (a_o_pieces : Nat) (a_o_pieceLong : Nat) (a_o_bytesOf : Nat) (a_o_dictionary : Nat) (a_o_covered : Nat) (a_o_taken : Nat) (a_o_row : Nat) (a_o_cost : Nat) (a_o_leastD : Nat) (a_o_out : Nat) (a_o_text : Nat) (o_thrown : Int32) (o_taped : Int32) (o_samples : Int32) (o_takenMany : Int32) (o_ahead : Int32) (o_textLong : Int32) (o_outMany : Int32) (o_items : Int32) (o_matches : Int32) (o_textMany : Int32) (o_sampleLong : Nat → Int32) (o_sampleByte : Nat → Int32) (o_idOf : Nat → Int32) (o_pieces : Nat → Int32) (o_pieceLong : Nat → Int32) (o_bytesOf : Nat → Int32) (o_covered : Nat → Int32) (o_taken : Nat → Int32) (v1 : Int32) (v3 : Int32) (v6 : Int32) (K : (Nat → Int32) → Int32 → Prop) (hK : ∀ (o_dictionary : Nat → Int32) (v7 : Int32), K o_dictionary v7 → Go p l e rm_X7_train s m args below meth c Q 11 D A [(a_o, .inr (10, [.int o_thrown, .ref a_o_tape, .int o_taped, .int o_samples, .ref a_o_sampleLong, .ref a_o_sampleByte, .ref a_o_idOf, .ref a_o_pieces, .ref a_o_pieceLong, .ref a_o_bytesOf, .ref a_o_dictionary, .ref a_o_covered, .ref a_o_taken, .int o_takenMany, .ref a_o_row, .int o_ahead, .int o_textLong, .ref a_o_cost, .ref a_o_leastD, .ref a_o_out, .int o_outMany, .int o_items, .int o_matches, .ref a_o_text, .int o_textMany])), (a_o_sampleLong, .inl (cy 1, 8, .inl o_sampleLong)), (a_o_sampleByte, .inl (cy 1, 320, .inl o_sampleByte)), (a_o_idOf, .inl (cy 1, 6, .inl o_idOf)), (a_o_pieces, .inl (cy 1, 6, .inl o_pieces)), (a_o_pieceLong, .inl (cy 1, 480, .inl o_pieceLong)), (a_o_bytesOf, .inl (cy 1, 6, .inl o_bytesOf)), (a_o_dictionary, .inl (cy 1, 480, .inl o_dictionary)), (a_o_covered, .inl (cy 2, 320, .inl o_covered)), (a_o_taken, .inl (cy 1, 80, .inl o_taken))] 0 0 423 [(0, .ref a_o), (1, .int v1), (3, .int v3), (6, .int v6)] []) :
    ∀ (n : Nat) (o_dictionary : Nat → Int32) (v7 : Int32), wX7_train_375 o_takenMany o_taken v1 v3 v6 K n o_dictionary v7 → Go p l e rm_X7_train s m args below meth c Q 11 D A [(a_o, .inr (10, [.int o_thrown, .ref a_o_tape, .int o_taped, .int o_samples, .ref a_o_sampleLong, .ref a_o_sampleByte, .ref a_o_idOf, .ref a_o_pieces, .ref a_o_pieceLong, .ref a_o_bytesOf, .ref a_o_dictionary, .ref a_o_covered, .ref a_o_taken, .int o_takenMany, .ref a_o_row, .int o_ahead, .int o_textLong, .ref a_o_cost, .ref a_o_leastD, .ref a_o_out, .int o_outMany, .int o_items, .int o_matches, .ref a_o_text, .int o_textMany])), (a_o_sampleLong, .inl (cy 1, 8, .inl o_sampleLong)), (a_o_sampleByte, .inl (cy 1, 320, .inl o_sampleByte)), (a_o_idOf, .inl (cy 1, 6, .inl o_idOf)), (a_o_pieces, .inl (cy 1, 6, .inl o_pieces)), (a_o_pieceLong, .inl (cy 1, 480, .inl o_pieceLong)), (a_o_bytesOf, .inl (cy 1, 6, .inl o_bytesOf)), (a_o_dictionary, .inl (cy 1, 480, .inl o_dictionary)), (a_o_covered, .inl (cy 2, 320, .inl o_covered)), (a_o_taken, .inl (cy 1, 80, .inl o_taken))] 0 0 375 [(0, .ref a_o), (1, .int v1), (3, .int v3), (6, .int v6), (7, .int v7)] [] := by
  intro n
  induction n with
  | zero => intro o_dictionary v7 h; exact absurd h id
  | succ n ih =>
    intro o_dictionary v7 h
    refine go_iload X dX7_train_375 4 rfl ?_
    refine go_iload_n X dX7_train_377 2 rfl rfl ?_
    refine go_icmp_ge X 423 dX7_train_378 (by decide) (fun c70 => ?_) (fun c70 => ?_)
    · replace h := h.1 c70
      refine go_lv [0, 1, 2, 3] rfl ?_
      exact hK o_dictionary v7 h
    · replace h := h.2 c70
      refine go_aload_n X dX7_train_381 0 rfl rfl ?_
      refine go_get X fi_X7_train_X7 0 rfl rfl 10 (by decide) fl_X7_train_31 rfl dX7_train_382 ?_
      refine go_bipush X (v := 80) dX7_train_385 (by decide) ?_
      refine go_iload_n X dX7_train_387 1 rfl rfl ?_
      refine go_imul X dX7_train_388 ?_
      refine go_iload_n X dX7_train_389 2 rfl rfl ?_
      refine go_iload X dX7_train_390 3 rfl ?_
      refine go_imul X dX7_train_392 ?_
      refine go_iadd X dX7_train_393 ?_
      refine go_iload X dX7_train_394 4 rfl ?_
      refine go_iadd X dX7_train_396 ?_
      refine go_aload_n X dX7_train_397 0 rfl rfl ?_
      refine go_get X fi_X7_train_X7 0 rfl rfl 12 (by decide) fl_X7_train_38 rfl dX7_train_398 ?_
      refine go_iload_n X dX7_train_401 2 rfl rfl ?_
      refine go_aload_n X dX7_train_402 0 rfl rfl ?_
      refine go_get X fi_X7_train_X7 0 rfl rfl 13 (by decide) fl_X7_train_89 rfl dX7_train_403 ?_
      refine go_iconst X (v := 1) dX7_train_406 (by decide) ?_
      refine go_isub X dX7_train_407 ?_
      refine go_iload X dX7_train_408 3 rfl ?_
      refine go_isub X dX7_train_410 ?_
      refine go_imul X dX7_train_411 ?_
      refine go_iload X dX7_train_412 4 rfl ?_
      refine go_iadd X dX7_train_414 ?_
      obtain ⟨c71, h⟩ := h
      refine go_iald X 9 1 rfl rfl c71 dX7_train_415 ?_
      obtain ⟨c72, h⟩ := h
      refine go_iast X [(a_o, .inr (10, [.int o_thrown, .ref a_o_tape, .int o_taped, .int o_samples, .ref a_o_sampleLong, .ref a_o_sampleByte, .ref a_o_idOf, .ref a_o_pieces, .ref a_o_pieceLong, .ref a_o_bytesOf, .ref a_o_dictionary, .ref a_o_covered, .ref a_o_taken, .int o_takenMany, .ref a_o_row, .int o_ahead, .int o_textLong, .ref a_o_cost, .ref a_o_leastD, .ref a_o_out, .int o_outMany, .int o_items, .int o_matches, .ref a_o_text, .int o_textMany])), (a_o_sampleLong, .inl (cy 1, 8, .inl o_sampleLong)), (a_o_sampleByte, .inl (cy 1, 320, .inl o_sampleByte)), (a_o_idOf, .inl (cy 1, 6, .inl o_idOf)), (a_o_pieces, .inl (cy 1, 6, .inl o_pieces)), (a_o_pieceLong, .inl (cy 1, 480, .inl o_pieceLong)), (a_o_bytesOf, .inl (cy 1, 6, .inl o_bytesOf)), (a_o_dictionary, .inl (cy 1, 480, .inl (upd o_dictionary (((80 * v1) + (v3 * v6)) + v7).toNatClampNeg (o_taken ((v3 * ((o_takenMany - 1) - v6)) + v7).toNatClampNeg)))), (a_o_covered, .inl (cy 2, 320, .inl o_covered)), (a_o_taken, .inl (cy 1, 80, .inl o_taken))] 7 1 rfl rfl c72 rfl dX7_train_416 ?_
      obtain ⟨y73, ey73⟩ : ∃ z : Int32, z = v7 + 1 := ⟨_, rfl⟩
      replace h := h y73 ey73
      refine go_iinc X (lv' := [(7, .int y73), (0, .ref a_o), (1, .int v1), (3, .int v3), (6, .int v6)]) y73 dX7_train_417 4 rfl (by rw [ey73]; rfl) (by decide) rfl ?_
      refine go_goto X 375 dX7_train_420 (by decide) ?_
      refine go_lv [1, 2, 3, 4, 0] rfl ?_
      exact ih (upd o_dictionary (((80 * v1) + (v3 * v6)) + v7).toNatClampNeg (o_taken ((v3 * ((o_takenMany - 1) - v6)) + v7).toNatClampNeg)) y73 h
set_option maxRecDepth 100000 in
set_option maxHeartbeats 4000000 in
theorem pX7_train_350 {p : Program} (l : Launch) {e : Env} {s : State} {m : MethodId} {args : Array Value} {below : List Frame} {meth : Method} {c : Code} {Q : State → Prop} {D : va_G} {cy : Nat → ClassId} {A : Nat → Prop} (X : Cx p s m args c cX7_train 11 RX7 wsX7_train D (tyL cy) A) (a_o : Nat) (a_o_tape : Nat) (a_o_sampleLong : Nat) (a_o_sampleByte : Nat) (a_o_idOf : Nat) (a_o_pieces : Nat) (a_o_pieceLong : Nat) (a_o_bytesOf : Nat) (a_o_dictionary : Nat) (a_o_covered : Nat) (a_o_taken : Nat) (a_o_row : Nat) (a_o_cost : Nat) (a_o_leastD : Nat) (a_o_out : Nat) (a_o_text : Nat) (o_thrown : Int32) (o_taped : Int32) (o_samples : Int32) (o_takenMany : Int32) (o_ahead : Int32) (o_textLong : Int32) (o_outMany : Int32) (o_items : Int32) (o_matches : Int32) (o_textMany : Int32) (o_sampleLong : Nat → Int32) (o_sampleByte : Nat → Int32) (o_idOf : Nat → Int32) (o_pieces : Nat → Int32) (o_bytesOf : Nat → Int32) (o_covered : Nat → Int32) (o_taken : Nat → Int32) (v1 : Int32) (v3 : Int32) (K : (Nat → Int32) → (Nat → Int32) → Int32 → Prop) (hK : ∀ (o_pieceLong : Nat → Int32) (o_dictionary : Nat → Int32) (v6 : Int32), K o_pieceLong o_dictionary v6 → Go p l e rm_X7_train s m args below meth c Q 11 D A [(a_o, .inr (10, [.int o_thrown, .ref a_o_tape, .int o_taped, .int o_samples, .ref a_o_sampleLong, .ref a_o_sampleByte, .ref a_o_idOf, .ref a_o_pieces, .ref a_o_pieceLong, .ref a_o_bytesOf, .ref a_o_dictionary, .ref a_o_covered, .ref a_o_taken, .int o_takenMany, .ref a_o_row, .int o_ahead, .int o_textLong, .ref a_o_cost, .ref a_o_leastD, .ref a_o_out, .int o_outMany, .int o_items, .int o_matches, .ref a_o_text, .int o_textMany])), (a_o_sampleLong, .inl (cy 1, 8, .inl o_sampleLong)), (a_o_sampleByte, .inl (cy 1, 320, .inl o_sampleByte)), (a_o_idOf, .inl (cy 1, 6, .inl o_idOf)), (a_o_pieces, .inl (cy 1, 6, .inl o_pieces)), (a_o_pieceLong, .inl (cy 1, 480, .inl o_pieceLong)), (a_o_bytesOf, .inl (cy 1, 6, .inl o_bytesOf)), (a_o_dictionary, .inl (cy 1, 480, .inl o_dictionary)), (a_o_covered, .inl (cy 2, 320, .inl o_covered)), (a_o_taken, .inl (cy 1, 80, .inl o_taken))] 0 0 429 [(0, .ref a_o)] []) :
    ∀ (n : Nat) (o_pieceLong : Nat → Int32) (o_dictionary : Nat → Int32) (v6 : Int32), wX7_train_350 o_takenMany o_taken v1 v3 K n o_pieceLong o_dictionary v6 → Go p l e rm_X7_train s m args below meth c Q 11 D A [(a_o, .inr (10, [.int o_thrown, .ref a_o_tape, .int o_taped, .int o_samples, .ref a_o_sampleLong, .ref a_o_sampleByte, .ref a_o_idOf, .ref a_o_pieces, .ref a_o_pieceLong, .ref a_o_bytesOf, .ref a_o_dictionary, .ref a_o_covered, .ref a_o_taken, .int o_takenMany, .ref a_o_row, .int o_ahead, .int o_textLong, .ref a_o_cost, .ref a_o_leastD, .ref a_o_out, .int o_outMany, .int o_items, .int o_matches, .ref a_o_text, .int o_textMany])), (a_o_sampleLong, .inl (cy 1, 8, .inl o_sampleLong)), (a_o_sampleByte, .inl (cy 1, 320, .inl o_sampleByte)), (a_o_idOf, .inl (cy 1, 6, .inl o_idOf)), (a_o_pieces, .inl (cy 1, 6, .inl o_pieces)), (a_o_pieceLong, .inl (cy 1, 480, .inl o_pieceLong)), (a_o_bytesOf, .inl (cy 1, 6, .inl o_bytesOf)), (a_o_dictionary, .inl (cy 1, 480, .inl o_dictionary)), (a_o_covered, .inl (cy 2, 320, .inl o_covered)), (a_o_taken, .inl (cy 1, 80, .inl o_taken))] 0 0 350 [(0, .ref a_o), (1, .int v1), (3, .int v3), (6, .int v6)] [] := by
  intro n
  induction n with
  | zero => intro o_pieceLong o_dictionary v6 h; exact absurd h id
  | succ n ih =>
    intro o_pieceLong o_dictionary v6 h
    refine go_iload X dX7_train_350 3 rfl ?_
    refine go_aload_n X dX7_train_352 0 rfl rfl ?_
    refine go_get X fi_X7_train_X7 0 rfl rfl 13 (by decide) fl_X7_train_89 rfl dX7_train_353 ?_
    refine go_icmp_ge X 429 dX7_train_356 (by decide) (fun c66 => ?_) (fun c66 => ?_)
    · replace h := h.1 c66
      refine go_lv [0] rfl ?_
      exact hK o_pieceLong o_dictionary v6 h
    · replace h := h.2 c66
      refine go_aload_n X dX7_train_359 0 rfl rfl ?_
      refine go_get X fi_X7_train_X7 0 rfl rfl 8 (by decide) fl_X7_train_25 rfl dX7_train_360 ?_
      refine go_bipush X (v := 80) dX7_train_363 (by decide) ?_
      refine go_iload_n X dX7_train_365 1 rfl rfl ?_
      refine go_imul X dX7_train_366 ?_
      refine go_iload X dX7_train_367 3 rfl ?_
      refine go_iadd X dX7_train_369 ?_
      refine go_iload_n X dX7_train_370 2 rfl rfl ?_
      obtain ⟨c67, h⟩ := h
      refine go_iast X [(a_o, .inr (10, [.int o_thrown, .ref a_o_tape, .int o_taped, .int o_samples, .ref a_o_sampleLong, .ref a_o_sampleByte, .ref a_o_idOf, .ref a_o_pieces, .ref a_o_pieceLong, .ref a_o_bytesOf, .ref a_o_dictionary, .ref a_o_covered, .ref a_o_taken, .int o_takenMany, .ref a_o_row, .int o_ahead, .int o_textLong, .ref a_o_cost, .ref a_o_leastD, .ref a_o_out, .int o_outMany, .int o_items, .int o_matches, .ref a_o_text, .int o_textMany])), (a_o_sampleLong, .inl (cy 1, 8, .inl o_sampleLong)), (a_o_sampleByte, .inl (cy 1, 320, .inl o_sampleByte)), (a_o_idOf, .inl (cy 1, 6, .inl o_idOf)), (a_o_pieces, .inl (cy 1, 6, .inl o_pieces)), (a_o_pieceLong, .inl (cy 1, 480, .inl (upd o_pieceLong ((80 * v1) + v6).toNatClampNeg v3))), (a_o_bytesOf, .inl (cy 1, 6, .inl o_bytesOf)), (a_o_dictionary, .inl (cy 1, 480, .inl o_dictionary)), (a_o_covered, .inl (cy 2, 320, .inl o_covered)), (a_o_taken, .inl (cy 1, 80, .inl o_taken))] 5 1 rfl rfl c67 rfl dX7_train_371 ?_
      refine go_iconst X (v := 0) dX7_train_372 (by decide) ?_
      refine go_istore X (lv' := [(7, .int 0), (0, .ref a_o), (1, .int v1), (3, .int v3), (6, .int v6)]) dX7_train_373 (by decide) rfl ?_
      obtain ⟨n75, h⟩ := h
      refine go_lv [1, 2, 3, 4, 0] rfl ?_
      refine pX7_train_375 l X a_o a_o_tape a_o_sampleLong a_o_sampleByte a_o_idOf a_o_pieces a_o_pieceLong a_o_bytesOf a_o_dictionary a_o_covered a_o_taken a_o_row a_o_cost a_o_leastD a_o_out a_o_text o_thrown o_taped o_samples o_takenMany o_ahead o_textLong o_outMany o_items o_matches o_textMany o_sampleLong o_sampleByte o_idOf o_pieces (upd o_pieceLong ((80 * v1) + v6).toNatClampNeg v3) o_bytesOf o_covered o_taken v1 v3 v6  _ (fun s68 y69 h => ?_) n75 o_dictionary (0 : Int32) h
      obtain ⟨y74, ey74⟩ : ∃ z : Int32, z = v6 + 1 := ⟨_, rfl⟩
      replace h := h y74 ey74
      refine go_iinc X (lv' := [(6, .int y74), (0, .ref a_o), (1, .int v1), (3, .int v3)]) y74 dX7_train_423 3 rfl (by rw [ey74]; rfl) (by decide) rfl ?_
      refine go_goto X 350 dX7_train_426 (by decide) ?_
      refine go_lv [1, 2, 3, 0] rfl ?_
      exact ih (upd o_pieceLong ((80 * v1) + v6).toNatClampNeg v3) s68 y74 h
set_option maxRecDepth 100000 in
set_option maxHeartbeats 4000000 in
theorem kX7_train (l : Launch) (D : va_G) (cy : Nat → ClassId) (a_o : Nat) (a_o_tape : Nat) (a_o_sampleLong : Nat) (a_o_sampleByte : Nat) (a_o_idOf : Nat) (a_o_pieces : Nat) (a_o_pieceLong : Nat) (a_o_bytesOf : Nat) (a_o_dictionary : Nat) (a_o_covered : Nat) (a_o_taken : Nat) (a_o_row : Nat) (a_o_cost : Nat) (a_o_leastD : Nat) (a_o_out : Nat) (a_o_text : Nat) (o_thrown : Int32) (o_taped : Int32) (o_samples : Int32) (o_takenMany : Int32) (o_ahead : Int32) (o_textLong : Int32) (o_outMany : Int32) (o_items : Int32) (o_matches : Int32) (o_textMany : Int32) (o_sampleLong : Nat → Int32) (o_sampleByte : Nat → Int32) (o_idOf : Nat → Int32) (o_pieces : Nat → Int32) (o_pieceLong : Nat → Int32) (o_bytesOf : Nat → Int32) (o_dictionary : Nat → Int32) (o_covered : Nat → Int32) (o_taken : Nat → Int32) (p1 : Int32) (p2 : Int32) (p3 : Int32) (p4 : Int32) (post : Int32 → Int32 → Int32 → (Nat → Int32) → (Nat → Int32) → (Nat → Int32) → (Nat → Int32) → (Nat → Int32) → (Nat → Int32) → (Nat → Int32) → Prop) (h : wX7_train o_samples o_takenMany o_sampleLong o_sampleByte o_idOf o_pieces o_pieceLong o_bytesOf o_dictionary o_covered o_taken p1 p2 p3 p4 post) : MetI l yX7_train wsX7_train rm_X7_train D (tyL cy) [.ref a_o, .int p1, .int p2, .int p3, .int p4] [(a_o, .inr (10, [.int o_thrown, .ref a_o_tape, .int o_taped, .int o_samples, .ref a_o_sampleLong, .ref a_o_sampleByte, .ref a_o_idOf, .ref a_o_pieces, .ref a_o_pieceLong, .ref a_o_bytesOf, .ref a_o_dictionary, .ref a_o_covered, .ref a_o_taken, .int o_takenMany, .ref a_o_row, .int o_ahead, .int o_textLong, .ref a_o_cost, .ref a_o_leastD, .ref a_o_out, .int o_outMany, .int o_items, .int o_matches, .ref a_o_text, .int o_textMany])), (a_o_sampleLong, .inl (cy 1, 8, .inl o_sampleLong)), (a_o_sampleByte, .inl (cy 1, 320, .inl o_sampleByte)), (a_o_idOf, .inl (cy 1, 6, .inl o_idOf)), (a_o_pieces, .inl (cy 1, 6, .inl o_pieces)), (a_o_pieceLong, .inl (cy 1, 480, .inl o_pieceLong)), (a_o_bytesOf, .inl (cy 1, 6, .inl o_bytesOf)), (a_o_dictionary, .inl (cy 1, 480, .inl o_dictionary)), (a_o_covered, .inl (cy 2, 320, .inl o_covered)), (a_o_taken, .inl (cy 1, 80, .inl o_taken))] (fun u : Int32 × Int32 × (Nat → Int32) × (Nat → Int32) × (Nat → Int32) × (Nat → Int32) × (Nat → Int32) × (Nat → Int32) × (Nat → Int32) => [(a_o, .inr (10, [.int u.1, .ref a_o_tape, .int o_taped, .int o_samples, .ref a_o_sampleLong, .ref a_o_sampleByte, .ref a_o_idOf, .ref a_o_pieces, .ref a_o_pieceLong, .ref a_o_bytesOf, .ref a_o_dictionary, .ref a_o_covered, .ref a_o_taken, .int u.2.1, .ref a_o_row, .int o_ahead, .int o_textLong, .ref a_o_cost, .ref a_o_leastD, .ref a_o_out, .int o_outMany, .int o_items, .int o_matches, .ref a_o_text, .int o_textMany])), (a_o_sampleLong, .inl (cy 1, 8, .inl o_sampleLong)), (a_o_sampleByte, .inl (cy 1, 320, .inl o_sampleByte)), (a_o_idOf, .inl (cy 1, 6, .inl u.2.2.1)), (a_o_pieces, .inl (cy 1, 6, .inl u.2.2.2.1)), (a_o_pieceLong, .inl (cy 1, 480, .inl u.2.2.2.2.1)), (a_o_bytesOf, .inl (cy 1, 6, .inl u.2.2.2.2.2.1)), (a_o_dictionary, .inl (cy 1, 480, .inl u.2.2.2.2.2.2.1)), (a_o_covered, .inl (cy 2, 320, .inl u.2.2.2.2.2.2.2.1)), (a_o_taken, .inl (cy 1, 80, .inl u.2.2.2.2.2.2.2.2))]) (fun r => fun (u : Int32 × Int32 × (Nat → Int32) × (Nat → Int32) × (Nat → Int32) × (Nat → Int32) × (Nat → Int32) × (Nat → Int32) × (Nat → Int32)) => post r u.1 u.2.1 u.2.2.1 u.2.2.2.1 u.2.2.2.2.1 u.2.2.2.2.2.1 u.2.2.2.2.2.2.1 u.2.2.2.2.2.2.2.1 u.2.2.2.2.2.2.2.2) 0 0 := by
  refine metI_of (cc := cX7_train) (maxL := 11) (lv := [(0, .ref a_o), (1, .int p1), (2, .int p2), (3, .int p3), (4, .int p4)]) (by decide) rfl (Nat.le_of_ble_eq_true rfl) rfl ?_
  intro p e s m below meth c Q A X hlk hR
  unfold wX7_train at h
  refine go_aload_n X dX7_train_0 0 rfl rfl ?_
  refine go_iconst X (v := 0) dX7_train_1 (by decide) ?_
  refine go_put X (ws' := [(a_o, .inr (10, [.int 0, .ref a_o_tape, .int o_taped, .int o_samples, .ref a_o_sampleLong, .ref a_o_sampleByte, .ref a_o_idOf, .ref a_o_pieces, .ref a_o_pieceLong, .ref a_o_bytesOf, .ref a_o_dictionary, .ref a_o_covered, .ref a_o_taken, .int o_takenMany, .ref a_o_row, .int o_ahead, .int o_textLong, .ref a_o_cost, .ref a_o_leastD, .ref a_o_out, .int o_outMany, .int o_items, .int o_matches, .ref a_o_text, .int o_textMany])), (a_o_sampleLong, .inl (cy 1, 8, .inl o_sampleLong)), (a_o_sampleByte, .inl (cy 1, 320, .inl o_sampleByte)), (a_o_idOf, .inl (cy 1, 6, .inl o_idOf)), (a_o_pieces, .inl (cy 1, 6, .inl o_pieces)), (a_o_pieceLong, .inl (cy 1, 480, .inl o_pieceLong)), (a_o_bytesOf, .inl (cy 1, 6, .inl o_bytesOf)), (a_o_dictionary, .inl (cy 1, 480, .inl o_dictionary)), (a_o_covered, .inl (cy 2, 320, .inl o_covered)), (a_o_taken, .inl (cy 1, 80, .inl o_taken))]) fi_X7_train_X7 tyX7 tyX7_ok nmX7 0 rfl rfl 0 (by decide) fl_X7_train_60 rfl (tyX7_ok 0 (by decide)) rfl rfl (Nat.le_of_ble_eq_true rfl) rfl dX7_train_2 ?_
  refine go_iload_n X dX7_train_5 1 rfl rfl ?_
  refine go_i2l X dX7_train_6 ?_
  refine go_lconst X (v := 0) dX7_train_7 (by decide) ?_
  refine go_ldc2 X fw_X7_train_c81 dX7_train_8 ?_
  refine go_callSi X (kX7_in l D cy p1.toInt64 (0 : Int64) (5 : Int64) _ h) (va_cwS 3 X.2.2.2.2.1 gX7_train_X7_in rfl rfl rfl cd_X7_in ⟨by decide, by decide⟩) (wr := [(a_o, .inr (10, [.int 0, .ref a_o_tape, .int o_taped, .int o_samples, .ref a_o_sampleLong, .ref a_o_sampleByte, .ref a_o_idOf, .ref a_o_pieces, .ref a_o_pieceLong, .ref a_o_bytesOf, .ref a_o_dictionary, .ref a_o_covered, .ref a_o_taken, .int o_takenMany, .ref a_o_row, .int o_ahead, .int o_textLong, .ref a_o_cost, .ref a_o_leastD, .ref a_o_out, .int o_outMany, .int o_items, .int o_matches, .ref a_o_text, .int o_textMany])), (a_o_sampleLong, .inl (cy 1, 8, .inl o_sampleLong)), (a_o_sampleByte, .inl (cy 1, 320, .inl o_sampleByte)), (a_o_idOf, .inl (cy 1, 6, .inl o_idOf)), (a_o_pieces, .inl (cy 1, 6, .inl o_pieces)), (a_o_pieceLong, .inl (cy 1, 480, .inl o_pieceLong)), (a_o_bytesOf, .inl (cy 1, 6, .inl o_bytesOf)), (a_o_dictionary, .inl (cy 1, 480, .inl o_dictionary)), (a_o_covered, .inl (cy 2, 320, .inl o_covered)), (a_o_taken, .inl (cy 1, 80, .inl o_taken))]) (ws2 := fun u => [(a_o, .inr (10, [.int 0, .ref a_o_tape, .int o_taped, .int o_samples, .ref a_o_sampleLong, .ref a_o_sampleByte, .ref a_o_idOf, .ref a_o_pieces, .ref a_o_pieceLong, .ref a_o_bytesOf, .ref a_o_dictionary, .ref a_o_covered, .ref a_o_taken, .int o_takenMany, .ref a_o_row, .int o_ahead, .int o_textLong, .ref a_o_cost, .ref a_o_leastD, .ref a_o_out, .int o_outMany, .int o_items, .int o_matches, .ref a_o_text, .int o_textMany])), (a_o_sampleLong, .inl (cy 1, 8, .inl o_sampleLong)), (a_o_sampleByte, .inl (cy 1, 320, .inl o_sampleByte)), (a_o_idOf, .inl (cy 1, 6, .inl o_idOf)), (a_o_pieces, .inl (cy 1, 6, .inl o_pieces)), (a_o_pieceLong, .inl (cy 1, 480, .inl o_pieceLong)), (a_o_bytesOf, .inl (cy 1, 6, .inl o_bytesOf)), (a_o_dictionary, .inl (cy 1, 480, .inl o_dictionary)), (a_o_covered, .inl (cy 2, 320, .inl o_covered)), (a_o_taken, .inl (cy 1, 80, .inl o_taken))]) (perm_ix 10 [0, 1, 2, 3, 4, 5, 6, 7, 8, 9] rfl (by decide +kernel) rfl) (fun u => perm_ix 10 [0, 1, 2, 3, 4, 5, 6, 7, 8, 9] rfl (by decide +kernel) rfl) rfl rfl (Nat.le_of_ble_eq_true rfl) dX7_train_11 ⟨by decide, by decide⟩ (fun r1 u h => ?_)
  refine go_if_ne X 20 dX7_train_14 (by decide) (fun c2 => ?_) (fun c2 => ?_)
  · replace h := h.1 c2
    refine go_iload_n X dX7_train_20 2 rfl rfl ?_
    refine go_i2l X dX7_train_21 ?_
    refine go_lconst X (v := 1) dX7_train_22 (by decide) ?_
    refine go_ldc2 X fw_X7_train_c83 dX7_train_23 ?_
    refine go_callSi X (kX7_in l D cy p2.toInt64 (1 : Int64) (255 : Int64) _ h) (va_cwS 3 X.2.2.2.2.1 gX7_train_X7_in rfl rfl rfl cd_X7_in ⟨by decide, by decide⟩) (wr := [(a_o, .inr (10, [.int 0, .ref a_o_tape, .int o_taped, .int o_samples, .ref a_o_sampleLong, .ref a_o_sampleByte, .ref a_o_idOf, .ref a_o_pieces, .ref a_o_pieceLong, .ref a_o_bytesOf, .ref a_o_dictionary, .ref a_o_covered, .ref a_o_taken, .int o_takenMany, .ref a_o_row, .int o_ahead, .int o_textLong, .ref a_o_cost, .ref a_o_leastD, .ref a_o_out, .int o_outMany, .int o_items, .int o_matches, .ref a_o_text, .int o_textMany])), (a_o_sampleLong, .inl (cy 1, 8, .inl o_sampleLong)), (a_o_sampleByte, .inl (cy 1, 320, .inl o_sampleByte)), (a_o_idOf, .inl (cy 1, 6, .inl o_idOf)), (a_o_pieces, .inl (cy 1, 6, .inl o_pieces)), (a_o_pieceLong, .inl (cy 1, 480, .inl o_pieceLong)), (a_o_bytesOf, .inl (cy 1, 6, .inl o_bytesOf)), (a_o_dictionary, .inl (cy 1, 480, .inl o_dictionary)), (a_o_covered, .inl (cy 2, 320, .inl o_covered)), (a_o_taken, .inl (cy 1, 80, .inl o_taken))]) (ws2 := fun u => [(a_o, .inr (10, [.int 0, .ref a_o_tape, .int o_taped, .int o_samples, .ref a_o_sampleLong, .ref a_o_sampleByte, .ref a_o_idOf, .ref a_o_pieces, .ref a_o_pieceLong, .ref a_o_bytesOf, .ref a_o_dictionary, .ref a_o_covered, .ref a_o_taken, .int o_takenMany, .ref a_o_row, .int o_ahead, .int o_textLong, .ref a_o_cost, .ref a_o_leastD, .ref a_o_out, .int o_outMany, .int o_items, .int o_matches, .ref a_o_text, .int o_textMany])), (a_o_sampleLong, .inl (cy 1, 8, .inl o_sampleLong)), (a_o_sampleByte, .inl (cy 1, 320, .inl o_sampleByte)), (a_o_idOf, .inl (cy 1, 6, .inl o_idOf)), (a_o_pieces, .inl (cy 1, 6, .inl o_pieces)), (a_o_pieceLong, .inl (cy 1, 480, .inl o_pieceLong)), (a_o_bytesOf, .inl (cy 1, 6, .inl o_bytesOf)), (a_o_dictionary, .inl (cy 1, 480, .inl o_dictionary)), (a_o_covered, .inl (cy 2, 320, .inl o_covered)), (a_o_taken, .inl (cy 1, 80, .inl o_taken))]) (perm_ix 10 [0, 1, 2, 3, 4, 5, 6, 7, 8, 9] rfl (by decide +kernel) rfl) (fun u => perm_ix 10 [0, 1, 2, 3, 4, 5, 6, 7, 8, 9] rfl (by decide +kernel) rfl) rfl rfl (Nat.le_of_ble_eq_true rfl) dX7_train_26 ⟨by decide, by decide⟩ (fun r3 u h => ?_)
    refine go_if_eq X 59 dX7_train_29 (by decide) (fun c4 => ?_) (fun c4 => ?_)
    · replace h := h.1 c4
      refine go_bipush X (v := (-102)) dX7_train_59 (by decide) ?_
      exact hR (-102) (0, o_takenMany, o_idOf, o_pieces, o_pieceLong, o_bytesOf, o_dictionary, o_covered, o_taken) 61 _ dX7_train_61 rfl h
    · replace h := h.2 c4
      refine go_iload_n X dX7_train_32 3 rfl rfl ?_
      refine go_i2l X dX7_train_33 ?_
      refine go_ldc2 X fw_X7_train_c85 dX7_train_34 ?_
      refine go_ldc2 X fw_X7_train_c63 dX7_train_37 ?_
      refine go_callSi X (kX7_in l D cy p3.toInt64 (2 : Int64) (8 : Int64) _ h) (va_cwS 3 X.2.2.2.2.1 gX7_train_X7_in rfl rfl rfl cd_X7_in ⟨by decide, by decide⟩) (wr := [(a_o, .inr (10, [.int 0, .ref a_o_tape, .int o_taped, .int o_samples, .ref a_o_sampleLong, .ref a_o_sampleByte, .ref a_o_idOf, .ref a_o_pieces, .ref a_o_pieceLong, .ref a_o_bytesOf, .ref a_o_dictionary, .ref a_o_covered, .ref a_o_taken, .int o_takenMany, .ref a_o_row, .int o_ahead, .int o_textLong, .ref a_o_cost, .ref a_o_leastD, .ref a_o_out, .int o_outMany, .int o_items, .int o_matches, .ref a_o_text, .int o_textMany])), (a_o_sampleLong, .inl (cy 1, 8, .inl o_sampleLong)), (a_o_sampleByte, .inl (cy 1, 320, .inl o_sampleByte)), (a_o_idOf, .inl (cy 1, 6, .inl o_idOf)), (a_o_pieces, .inl (cy 1, 6, .inl o_pieces)), (a_o_pieceLong, .inl (cy 1, 480, .inl o_pieceLong)), (a_o_bytesOf, .inl (cy 1, 6, .inl o_bytesOf)), (a_o_dictionary, .inl (cy 1, 480, .inl o_dictionary)), (a_o_covered, .inl (cy 2, 320, .inl o_covered)), (a_o_taken, .inl (cy 1, 80, .inl o_taken))]) (ws2 := fun u => [(a_o, .inr (10, [.int 0, .ref a_o_tape, .int o_taped, .int o_samples, .ref a_o_sampleLong, .ref a_o_sampleByte, .ref a_o_idOf, .ref a_o_pieces, .ref a_o_pieceLong, .ref a_o_bytesOf, .ref a_o_dictionary, .ref a_o_covered, .ref a_o_taken, .int o_takenMany, .ref a_o_row, .int o_ahead, .int o_textLong, .ref a_o_cost, .ref a_o_leastD, .ref a_o_out, .int o_outMany, .int o_items, .int o_matches, .ref a_o_text, .int o_textMany])), (a_o_sampleLong, .inl (cy 1, 8, .inl o_sampleLong)), (a_o_sampleByte, .inl (cy 1, 320, .inl o_sampleByte)), (a_o_idOf, .inl (cy 1, 6, .inl o_idOf)), (a_o_pieces, .inl (cy 1, 6, .inl o_pieces)), (a_o_pieceLong, .inl (cy 1, 480, .inl o_pieceLong)), (a_o_bytesOf, .inl (cy 1, 6, .inl o_bytesOf)), (a_o_dictionary, .inl (cy 1, 480, .inl o_dictionary)), (a_o_covered, .inl (cy 2, 320, .inl o_covered)), (a_o_taken, .inl (cy 1, 80, .inl o_taken))]) (perm_ix 10 [0, 1, 2, 3, 4, 5, 6, 7, 8, 9] rfl (by decide +kernel) rfl) (fun u => perm_ix 10 [0, 1, 2, 3, 4, 5, 6, 7, 8, 9] rfl (by decide +kernel) rfl) rfl rfl (Nat.le_of_ble_eq_true rfl) dX7_train_40 ⟨by decide, by decide⟩ (fun r5 u h => ?_)
      refine go_if_eq X 59 dX7_train_43 (by decide) (fun c6 => ?_) (fun c6 => ?_)
      · replace h := h.1 c6
        refine go_bipush X (v := (-102)) dX7_train_59 (by decide) ?_
        exact hR (-102) (0, o_takenMany, o_idOf, o_pieces, o_pieceLong, o_bytesOf, o_dictionary, o_covered, o_taken) 61 _ dX7_train_61 rfl h
      · replace h := h.2 c6
        refine go_iload X dX7_train_46 4 rfl ?_
        refine go_i2l X dX7_train_48 ?_
        refine go_lconst X (v := 0) dX7_train_49 (by decide) ?_
        refine go_ldc2 X fw_X7_train_c87 dX7_train_50 ?_
        refine go_callSi X (kX7_in l D cy p4.toInt64 (0 : Int64) (80 : Int64) _ h) (va_cwS 3 X.2.2.2.2.1 gX7_train_X7_in rfl rfl rfl cd_X7_in ⟨by decide, by decide⟩) (wr := [(a_o, .inr (10, [.int 0, .ref a_o_tape, .int o_taped, .int o_samples, .ref a_o_sampleLong, .ref a_o_sampleByte, .ref a_o_idOf, .ref a_o_pieces, .ref a_o_pieceLong, .ref a_o_bytesOf, .ref a_o_dictionary, .ref a_o_covered, .ref a_o_taken, .int o_takenMany, .ref a_o_row, .int o_ahead, .int o_textLong, .ref a_o_cost, .ref a_o_leastD, .ref a_o_out, .int o_outMany, .int o_items, .int o_matches, .ref a_o_text, .int o_textMany])), (a_o_sampleLong, .inl (cy 1, 8, .inl o_sampleLong)), (a_o_sampleByte, .inl (cy 1, 320, .inl o_sampleByte)), (a_o_idOf, .inl (cy 1, 6, .inl o_idOf)), (a_o_pieces, .inl (cy 1, 6, .inl o_pieces)), (a_o_pieceLong, .inl (cy 1, 480, .inl o_pieceLong)), (a_o_bytesOf, .inl (cy 1, 6, .inl o_bytesOf)), (a_o_dictionary, .inl (cy 1, 480, .inl o_dictionary)), (a_o_covered, .inl (cy 2, 320, .inl o_covered)), (a_o_taken, .inl (cy 1, 80, .inl o_taken))]) (ws2 := fun u => [(a_o, .inr (10, [.int 0, .ref a_o_tape, .int o_taped, .int o_samples, .ref a_o_sampleLong, .ref a_o_sampleByte, .ref a_o_idOf, .ref a_o_pieces, .ref a_o_pieceLong, .ref a_o_bytesOf, .ref a_o_dictionary, .ref a_o_covered, .ref a_o_taken, .int o_takenMany, .ref a_o_row, .int o_ahead, .int o_textLong, .ref a_o_cost, .ref a_o_leastD, .ref a_o_out, .int o_outMany, .int o_items, .int o_matches, .ref a_o_text, .int o_textMany])), (a_o_sampleLong, .inl (cy 1, 8, .inl o_sampleLong)), (a_o_sampleByte, .inl (cy 1, 320, .inl o_sampleByte)), (a_o_idOf, .inl (cy 1, 6, .inl o_idOf)), (a_o_pieces, .inl (cy 1, 6, .inl o_pieces)), (a_o_pieceLong, .inl (cy 1, 480, .inl o_pieceLong)), (a_o_bytesOf, .inl (cy 1, 6, .inl o_bytesOf)), (a_o_dictionary, .inl (cy 1, 480, .inl o_dictionary)), (a_o_covered, .inl (cy 2, 320, .inl o_covered)), (a_o_taken, .inl (cy 1, 80, .inl o_taken))]) (perm_ix 10 [0, 1, 2, 3, 4, 5, 6, 7, 8, 9] rfl (by decide +kernel) rfl) (fun u => perm_ix 10 [0, 1, 2, 3, 4, 5, 6, 7, 8, 9] rfl (by decide +kernel) rfl) rfl rfl (Nat.le_of_ble_eq_true rfl) dX7_train_53 ⟨by decide, by decide⟩ (fun r7 u h => ?_)
        refine go_if_ne X 62 dX7_train_56 (by decide) (fun c8 => ?_) (fun c8 => ?_)
        · replace h := h.1 c8
          refine go_aload_n X dX7_train_62 0 rfl rfl ?_
          refine go_get X fi_X7_train_X7 0 rfl rfl 3 (by decide) fl_X7_train_71 rfl dX7_train_63 ?_
          refine go_if_ne X 72 dX7_train_66 (by decide) (fun c9 => ?_) (fun c9 => ?_)
          · replace h := h.1 c9
            refine go_iconst X (v := 0) dX7_train_72 (by decide) ?_
            refine go_istore X (lv' := [(5, .int 0), (0, .ref a_o), (1, .int p1), (2, .int p2), (3, .int p3), (4, .int p4)]) dX7_train_73 (by decide) rfl ?_
            obtain ⟨n78, h⟩ := h
            refine go_lv [1, 2, 3, 4, 5, 0] rfl ?_
            refine pX7_train_75 l X a_o a_o_tape a_o_sampleLong a_o_sampleByte a_o_idOf a_o_pieces a_o_pieceLong a_o_bytesOf a_o_dictionary a_o_covered a_o_taken a_o_row a_o_cost a_o_leastD a_o_out a_o_text 0 o_taped o_samples o_takenMany o_ahead o_textLong o_outMany o_items o_matches o_textMany o_sampleLong o_sampleByte o_idOf o_pieces o_pieceLong o_bytesOf o_dictionary o_taken p1 p2 p3 p4  _ (fun s10 y11 h => ?_) n78 o_covered (0 : Int32) h
            refine go_aload_n X dX7_train_97 0 rfl rfl ?_
            refine go_iconst X (v := 0) dX7_train_98 (by decide) ?_
            refine go_put X (ws' := [(a_o, .inr (10, [.int 0, .ref a_o_tape, .int o_taped, .int o_samples, .ref a_o_sampleLong, .ref a_o_sampleByte, .ref a_o_idOf, .ref a_o_pieces, .ref a_o_pieceLong, .ref a_o_bytesOf, .ref a_o_dictionary, .ref a_o_covered, .ref a_o_taken, .int 0, .ref a_o_row, .int o_ahead, .int o_textLong, .ref a_o_cost, .ref a_o_leastD, .ref a_o_out, .int o_outMany, .int o_items, .int o_matches, .ref a_o_text, .int o_textMany])), (a_o_sampleLong, .inl (cy 1, 8, .inl o_sampleLong)), (a_o_sampleByte, .inl (cy 1, 320, .inl o_sampleByte)), (a_o_idOf, .inl (cy 1, 6, .inl o_idOf)), (a_o_pieces, .inl (cy 1, 6, .inl o_pieces)), (a_o_pieceLong, .inl (cy 1, 480, .inl o_pieceLong)), (a_o_bytesOf, .inl (cy 1, 6, .inl o_bytesOf)), (a_o_dictionary, .inl (cy 1, 480, .inl o_dictionary)), (a_o_covered, .inl (cy 2, 320, .inl s10)), (a_o_taken, .inl (cy 1, 80, .inl o_taken))]) fi_X7_train_X7 tyX7 tyX7_ok nmX7 0 rfl rfl 13 (by decide) fl_X7_train_89 rfl (tyX7_ok 13 (by decide)) rfl rfl (Nat.le_of_ble_eq_true rfl) rfl dX7_train_99 ?_
            refine go_iconst X (v := 1) dX7_train_102 (by decide) ?_
            refine go_istore X (lv' := [(5, .int 1), (0, .ref a_o), (1, .int p1), (2, .int p2), (3, .int p3), (4, .int p4)]) dX7_train_103 (by decide) rfl ?_
            obtain ⟨n77, h⟩ := h
            refine go_lv [1, 2, 3, 4, 5, 0] rfl ?_
            refine pX7_train_105 l X a_o a_o_tape a_o_sampleLong a_o_sampleByte a_o_idOf a_o_pieces a_o_pieceLong a_o_bytesOf a_o_dictionary a_o_covered a_o_taken a_o_row a_o_cost a_o_leastD a_o_out a_o_text 0 o_taped o_samples o_ahead o_textLong o_outMany o_items o_matches o_textMany o_sampleLong o_sampleByte o_idOf o_pieces o_pieceLong o_bytesOf o_dictionary p1 p2 p3 p4  _ (fun s15 s16 s17 y18 h => ?_) n77 0 s10 o_taken (1 : Int32) h
            refine go_aload_n X dX7_train_318 0 rfl rfl ?_
            refine go_get X fi_X7_train_X7 0 rfl rfl 6 (by decide) fl_X7_train_19 rfl dX7_train_319 ?_
            refine go_iload_n X dX7_train_322 1 rfl rfl ?_
            refine go_iload_n X dX7_train_323 2 rfl rfl ?_
            obtain ⟨c60, h⟩ := h
            refine go_iast X [(a_o, .inr (10, [.int 0, .ref a_o_tape, .int o_taped, .int o_samples, .ref a_o_sampleLong, .ref a_o_sampleByte, .ref a_o_idOf, .ref a_o_pieces, .ref a_o_pieceLong, .ref a_o_bytesOf, .ref a_o_dictionary, .ref a_o_covered, .ref a_o_taken, .int s15, .ref a_o_row, .int o_ahead, .int o_textLong, .ref a_o_cost, .ref a_o_leastD, .ref a_o_out, .int o_outMany, .int o_items, .int o_matches, .ref a_o_text, .int o_textMany])), (a_o_sampleLong, .inl (cy 1, 8, .inl o_sampleLong)), (a_o_sampleByte, .inl (cy 1, 320, .inl o_sampleByte)), (a_o_idOf, .inl (cy 1, 6, .inl (upd o_idOf p1.toNatClampNeg p2))), (a_o_pieces, .inl (cy 1, 6, .inl o_pieces)), (a_o_pieceLong, .inl (cy 1, 480, .inl o_pieceLong)), (a_o_bytesOf, .inl (cy 1, 6, .inl o_bytesOf)), (a_o_dictionary, .inl (cy 1, 480, .inl o_dictionary)), (a_o_covered, .inl (cy 2, 320, .inl s16)), (a_o_taken, .inl (cy 1, 80, .inl s17))] 3 1 rfl rfl c60 rfl dX7_train_324 ?_
            refine go_aload_n X dX7_train_325 0 rfl rfl ?_
            refine go_get X fi_X7_train_X7 0 rfl rfl 7 (by decide) fl_X7_train_22 rfl dX7_train_326 ?_
            refine go_iload_n X dX7_train_329 1 rfl rfl ?_
            refine go_aload_n X dX7_train_330 0 rfl rfl ?_
            refine go_get X fi_X7_train_X7 0 rfl rfl 13 (by decide) fl_X7_train_89 rfl dX7_train_331 ?_
            obtain ⟨c61, h⟩ := h
            refine go_iast X [(a_o, .inr (10, [.int 0, .ref a_o_tape, .int o_taped, .int o_samples, .ref a_o_sampleLong, .ref a_o_sampleByte, .ref a_o_idOf, .ref a_o_pieces, .ref a_o_pieceLong, .ref a_o_bytesOf, .ref a_o_dictionary, .ref a_o_covered, .ref a_o_taken, .int s15, .ref a_o_row, .int o_ahead, .int o_textLong, .ref a_o_cost, .ref a_o_leastD, .ref a_o_out, .int o_outMany, .int o_items, .int o_matches, .ref a_o_text, .int o_textMany])), (a_o_sampleLong, .inl (cy 1, 8, .inl o_sampleLong)), (a_o_sampleByte, .inl (cy 1, 320, .inl o_sampleByte)), (a_o_idOf, .inl (cy 1, 6, .inl (upd o_idOf p1.toNatClampNeg p2))), (a_o_pieces, .inl (cy 1, 6, .inl (upd o_pieces p1.toNatClampNeg s15))), (a_o_pieceLong, .inl (cy 1, 480, .inl o_pieceLong)), (a_o_bytesOf, .inl (cy 1, 6, .inl o_bytesOf)), (a_o_dictionary, .inl (cy 1, 480, .inl o_dictionary)), (a_o_covered, .inl (cy 2, 320, .inl s16)), (a_o_taken, .inl (cy 1, 80, .inl s17))] 4 1 rfl rfl c61 rfl dX7_train_334 ?_
            refine go_aload_n X dX7_train_335 0 rfl rfl ?_
            refine go_get X fi_X7_train_X7 0 rfl rfl 9 (by decide) fl_X7_train_28 rfl dX7_train_336 ?_
            refine go_iload_n X dX7_train_339 1 rfl rfl ?_
            refine go_iload_n X dX7_train_340 3 rfl rfl ?_
            refine go_aload_n X dX7_train_341 0 rfl rfl ?_
            refine go_get X fi_X7_train_X7 0 rfl rfl 13 (by decide) fl_X7_train_89 rfl dX7_train_342 ?_
            refine go_imul X dX7_train_345 ?_
            obtain ⟨c62, h⟩ := h
            refine go_iast X [(a_o, .inr (10, [.int 0, .ref a_o_tape, .int o_taped, .int o_samples, .ref a_o_sampleLong, .ref a_o_sampleByte, .ref a_o_idOf, .ref a_o_pieces, .ref a_o_pieceLong, .ref a_o_bytesOf, .ref a_o_dictionary, .ref a_o_covered, .ref a_o_taken, .int s15, .ref a_o_row, .int o_ahead, .int o_textLong, .ref a_o_cost, .ref a_o_leastD, .ref a_o_out, .int o_outMany, .int o_items, .int o_matches, .ref a_o_text, .int o_textMany])), (a_o_sampleLong, .inl (cy 1, 8, .inl o_sampleLong)), (a_o_sampleByte, .inl (cy 1, 320, .inl o_sampleByte)), (a_o_idOf, .inl (cy 1, 6, .inl (upd o_idOf p1.toNatClampNeg p2))), (a_o_pieces, .inl (cy 1, 6, .inl (upd o_pieces p1.toNatClampNeg s15))), (a_o_pieceLong, .inl (cy 1, 480, .inl o_pieceLong)), (a_o_bytesOf, .inl (cy 1, 6, .inl (upd o_bytesOf p1.toNatClampNeg (p3 * s15)))), (a_o_dictionary, .inl (cy 1, 480, .inl o_dictionary)), (a_o_covered, .inl (cy 2, 320, .inl s16)), (a_o_taken, .inl (cy 1, 80, .inl s17))] 6 1 rfl rfl c62 rfl dX7_train_346 ?_
            refine go_iconst X (v := 0) dX7_train_347 (by decide) ?_
            refine go_istore X (lv' := [(6, .int 0), (0, .ref a_o), (1, .int p1), (2, .int p2), (3, .int p3)]) dX7_train_348 (by decide) rfl ?_
            obtain ⟨n76, h⟩ := h
            refine go_lv [1, 2, 4, 0] rfl ?_
            refine pX7_train_350 l X a_o a_o_tape a_o_sampleLong a_o_sampleByte a_o_idOf a_o_pieces a_o_pieceLong a_o_bytesOf a_o_dictionary a_o_covered a_o_taken a_o_row a_o_cost a_o_leastD a_o_out a_o_text 0 o_taped o_samples s15 o_ahead o_textLong o_outMany o_items o_matches o_textMany o_sampleLong o_sampleByte (upd o_idOf p1.toNatClampNeg p2) (upd o_pieces p1.toNatClampNeg s15) (upd o_bytesOf p1.toNatClampNeg (p3 * s15)) s16 s17 p1 p3  _ (fun s63 s64 y65 h => ?_) n76 o_pieceLong o_dictionary (0 : Int32) h
            refine go_aload_n X dX7_train_429 0 rfl rfl ?_
            refine go_get X fi_X7_train_X7 0 rfl rfl 13 (by decide) fl_X7_train_89 rfl dX7_train_430 ?_
            exact hR s15 (0, s15, (upd o_idOf p1.toNatClampNeg p2), (upd o_pieces p1.toNatClampNeg s15), s63, (upd o_bytesOf p1.toNatClampNeg (p3 * s15)), s64, s16, s17) 433 _ dX7_train_433 rfl h
          · replace h := h.2 c9
            refine go_bipush X (v := (-104)) dX7_train_69 (by decide) ?_
            exact hR (-104) (0, o_takenMany, o_idOf, o_pieces, o_pieceLong, o_bytesOf, o_dictionary, o_covered, o_taken) 71 _ dX7_train_71 rfl h
        · replace h := h.2 c8
          refine go_bipush X (v := (-102)) dX7_train_59 (by decide) ?_
          exact hR (-102) (0, o_takenMany, o_idOf, o_pieces, o_pieceLong, o_bytesOf, o_dictionary, o_covered, o_taken) 61 _ dX7_train_61 rfl h
  · replace h := h.2 c2
    refine go_bipush X (v := (-101)) dX7_train_17 (by decide) ?_
    exact hR (-101) (0, o_takenMany, o_idOf, o_pieces, o_pieceLong, o_bytesOf, o_dictionary, o_covered, o_taken) 19 _ dX7_train_19 rfl h
/-! X7_give -/
theorem fi_X7_give_X7 : ∀ w ∈ u_ws RX7 TX7 25, w ∈ wsX7_give := by decide +kernel
theorem fl_X7_give_60 : Cond.fieldLink RX7 60 (TX7 0).1 (TX7 0).2.1 (TX7 0).2.2.1 ∈ wsX7_give := by decide +kernel
theorem fw_X7_give_c81 : Jvm.Cond.constantLong RX7 81 5 ∈ wsX7_give := by decide +kernel
theorem fw_X7_give_c83 : Jvm.Cond.constantLong RX7 83 255 ∈ wsX7_give := by decide +kernel
theorem fl_X7_give_56 : Cond.fieldLink RX7 56 (TX7 2).1 (TX7 2).2.1 (TX7 2).2.2.1 ∈ wsX7_give := by decide +kernel
theorem fl_X7_give_19 : Cond.fieldLink RX7 19 (TX7 6).1 (TX7 6).2.1 (TX7 6).2.2.1 ∈ wsX7_give := by decide +kernel
theorem fl_X7_give_28 : Cond.fieldLink RX7 28 (TX7 9).1 (TX7 9).2.1 (TX7 9).2.2.1 ∈ wsX7_give := by decide +kernel
theorem fl_X7_give_22 : Cond.fieldLink RX7 22 (TX7 7).1 (TX7 7).2.1 (TX7 7).2.2.1 ∈ wsX7_give := by decide +kernel
theorem fl_X7_give_25 : Cond.fieldLink RX7 25 (TX7 8).1 (TX7 8).2.1 (TX7 8).2.2.1 ∈ wsX7_give := by decide +kernel
theorem fl_X7_give_31 : Cond.fieldLink RX7 31 (TX7 10).1 (TX7 10).2.1 (TX7 10).2.2.1 ∈ wsX7_give := by decide +kernel
theorem fl_X7_give_7 : Cond.fieldLink RX7 7 (TX7 1).1 (TX7 1).2.1 (TX7 1).2.2.1 ∈ wsX7_give := by decide +kernel
def rm_X7_give : Room := { frames := 1, cells := 0, slots := 0, locals := 25 }
theorem cd_X7_give : yX7_give.cls = RX7 ∧ yX7_give.cls ≠ "java/lang/invoke/MethodHandle" ∧ yX7_give.cls ≠ "java/lang/invoke/VarHandle" ∧ (parseMethodDescriptor yX7_give.desc).map (fun d => d.parameters.length) = some 2 := by decide +kernel
set_option maxRecDepth 100000 in
set_option maxHeartbeats 4000000 in
theorem pX7_give_94 {p : Program} (l : Launch) {e : Env} {s : State} {m : MethodId} {args : Array Value} {below : List Frame} {meth : Method} {c : Code} {Q : State → Prop} {D : va_G} {cy : Nat → ClassId} {A : Nat → Prop} (X : Cx p s m args c cX7_give 4 RX7 wsX7_give D (tyL cy) A) (a_o : Nat) (a_o_tape : Nat) (a_o_sampleLong : Nat) (a_o_sampleByte : Nat) (a_o_idOf : Nat) (a_o_pieces : Nat) (a_o_pieceLong : Nat) (a_o_bytesOf : Nat) (a_o_dictionary : Nat) (a_o_covered : Nat) (a_o_taken : Nat) (a_o_row : Nat) (a_o_cost : Nat) (a_o_leastD : Nat) (a_o_out : Nat) (a_o_text : Nat) (o_thrown : Int32) (o_taped : Int32) (o_samples : Int32) (o_takenMany : Int32) (o_ahead : Int32) (o_textLong : Int32) (o_outMany : Int32) (o_items : Int32) (o_matches : Int32) (o_textMany : Int32) (o_tape : Nat → Int32) (o_idOf : Nat → Int32) (o_pieces : Nat → Int32) (o_pieceLong : Nat → Int32) (o_bytesOf : Nat → Int32) (v1 : Int32) (K : (Nat → Int32) → Int32 → Prop) (hK : ∀ (o_dictionary : Nat → Int32) (v3 : Int32), K o_dictionary v3 → Go p l e rm_X7_give s m args below meth c Q 4 D A [(a_o, .inr (10, [.int o_thrown, .ref a_o_tape, .int o_taped, .int o_samples, .ref a_o_sampleLong, .ref a_o_sampleByte, .ref a_o_idOf, .ref a_o_pieces, .ref a_o_pieceLong, .ref a_o_bytesOf, .ref a_o_dictionary, .ref a_o_covered, .ref a_o_taken, .int o_takenMany, .ref a_o_row, .int o_ahead, .int o_textLong, .ref a_o_cost, .ref a_o_leastD, .ref a_o_out, .int o_outMany, .int o_items, .int o_matches, .ref a_o_text, .int o_textMany])), (a_o_tape, .inl (cy 1, 200, .inl o_tape)), (a_o_idOf, .inl (cy 1, 6, .inl o_idOf)), (a_o_pieces, .inl (cy 1, 6, .inl o_pieces)), (a_o_pieceLong, .inl (cy 1, 480, .inl o_pieceLong)), (a_o_bytesOf, .inl (cy 1, 6, .inl o_bytesOf)), (a_o_dictionary, .inl (cy 1, 480, .inl o_dictionary))] 0 0 125 [(0, .ref a_o)] []) :
    ∀ (n : Nat) (o_dictionary : Nat → Int32) (v3 : Int32), wX7_give_94 o_taped o_tape v1 K n o_dictionary v3 → Go p l e rm_X7_give s m args below meth c Q 4 D A [(a_o, .inr (10, [.int o_thrown, .ref a_o_tape, .int o_taped, .int o_samples, .ref a_o_sampleLong, .ref a_o_sampleByte, .ref a_o_idOf, .ref a_o_pieces, .ref a_o_pieceLong, .ref a_o_bytesOf, .ref a_o_dictionary, .ref a_o_covered, .ref a_o_taken, .int o_takenMany, .ref a_o_row, .int o_ahead, .int o_textLong, .ref a_o_cost, .ref a_o_leastD, .ref a_o_out, .int o_outMany, .int o_items, .int o_matches, .ref a_o_text, .int o_textMany])), (a_o_tape, .inl (cy 1, 200, .inl o_tape)), (a_o_idOf, .inl (cy 1, 6, .inl o_idOf)), (a_o_pieces, .inl (cy 1, 6, .inl o_pieces)), (a_o_pieceLong, .inl (cy 1, 480, .inl o_pieceLong)), (a_o_bytesOf, .inl (cy 1, 6, .inl o_bytesOf)), (a_o_dictionary, .inl (cy 1, 480, .inl o_dictionary))] 0 0 94 [(0, .ref a_o), (1, .int v1), (3, .int v3)] [] := by
  intro n
  induction n with
  | zero => intro o_dictionary v3 h; exact absurd h id
  | succ n ih =>
    intro o_dictionary v3 h
    refine go_iload_n X dX7_give_94 2 rfl rfl ?_
    refine go_aload_n X dX7_give_95 0 rfl rfl ?_
    refine go_get X fi_X7_give_X7 0 rfl rfl 2 (by decide) fl_X7_give_56 rfl dX7_give_96 ?_
    refine go_icmp_ge X 125 dX7_give_99 (by decide) (fun c13 => ?_) (fun c13 => ?_)
    · replace h := h.1 c13
      refine go_lv [0] rfl ?_
      exact hK o_dictionary v3 h
    · replace h := h.2 c13
      refine go_aload_n X dX7_give_102 0 rfl rfl ?_
      refine go_get X fi_X7_give_X7 0 rfl rfl 10 (by decide) fl_X7_give_31 rfl dX7_give_103 ?_
      refine go_bipush X (v := 80) dX7_give_106 (by decide) ?_
      refine go_iload_n X dX7_give_108 1 rfl rfl ?_
      refine go_imul X dX7_give_109 ?_
      refine go_iload_n X dX7_give_110 2 rfl rfl ?_
      refine go_iadd X dX7_give_111 ?_
      refine go_aload_n X dX7_give_112 0 rfl rfl ?_
      refine go_get X fi_X7_give_X7 0 rfl rfl 1 (by decide) fl_X7_give_7 rfl dX7_give_113 ?_
      refine go_iload_n X dX7_give_116 2 rfl rfl ?_
      obtain ⟨c14, h⟩ := h
      refine go_iald X 1 1 rfl rfl c14 dX7_give_117 ?_
      obtain ⟨c15, h⟩ := h
      refine go_iast X [(a_o, .inr (10, [.int o_thrown, .ref a_o_tape, .int o_taped, .int o_samples, .ref a_o_sampleLong, .ref a_o_sampleByte, .ref a_o_idOf, .ref a_o_pieces, .ref a_o_pieceLong, .ref a_o_bytesOf, .ref a_o_dictionary, .ref a_o_covered, .ref a_o_taken, .int o_takenMany, .ref a_o_row, .int o_ahead, .int o_textLong, .ref a_o_cost, .ref a_o_leastD, .ref a_o_out, .int o_outMany, .int o_items, .int o_matches, .ref a_o_text, .int o_textMany])), (a_o_tape, .inl (cy 1, 200, .inl o_tape)), (a_o_idOf, .inl (cy 1, 6, .inl o_idOf)), (a_o_pieces, .inl (cy 1, 6, .inl o_pieces)), (a_o_pieceLong, .inl (cy 1, 480, .inl o_pieceLong)), (a_o_bytesOf, .inl (cy 1, 6, .inl o_bytesOf)), (a_o_dictionary, .inl (cy 1, 480, .inl (upd o_dictionary ((80 * v1) + v3).toNatClampNeg (o_tape v3.toNatClampNeg))))] 6 1 rfl rfl c15 rfl dX7_give_118 ?_
      obtain ⟨y16, ey16⟩ : ∃ z : Int32, z = v3 + 1 := ⟨_, rfl⟩
      replace h := h y16 ey16
      refine go_iinc X (lv' := [(3, .int y16), (0, .ref a_o), (1, .int v1)]) y16 dX7_give_119 2 rfl (by rw [ey16]; rfl) (by decide) rfl ?_
      refine go_goto X 94 dX7_give_122 (by decide) ?_
      refine go_lv [1, 2, 0] rfl ?_
      exact ih (upd o_dictionary ((80 * v1) + v3).toNatClampNeg (o_tape v3.toNatClampNeg)) y16 h
set_option maxRecDepth 100000 in
set_option maxHeartbeats 4000000 in
theorem kX7_give (l : Launch) (D : va_G) (cy : Nat → ClassId) (a_o : Nat) (a_o_tape : Nat) (a_o_sampleLong : Nat) (a_o_sampleByte : Nat) (a_o_idOf : Nat) (a_o_pieces : Nat) (a_o_pieceLong : Nat) (a_o_bytesOf : Nat) (a_o_dictionary : Nat) (a_o_covered : Nat) (a_o_taken : Nat) (a_o_row : Nat) (a_o_cost : Nat) (a_o_leastD : Nat) (a_o_out : Nat) (a_o_text : Nat) (o_thrown : Int32) (o_taped : Int32) (o_samples : Int32) (o_takenMany : Int32) (o_ahead : Int32) (o_textLong : Int32) (o_outMany : Int32) (o_items : Int32) (o_matches : Int32) (o_textMany : Int32) (o_tape : Nat → Int32) (o_idOf : Nat → Int32) (o_pieces : Nat → Int32) (o_pieceLong : Nat → Int32) (o_bytesOf : Nat → Int32) (o_dictionary : Nat → Int32) (p1 : Int32) (p2 : Int32) (post : Int32 → Int32 → Int32 → (Nat → Int32) → (Nat → Int32) → (Nat → Int32) → (Nat → Int32) → (Nat → Int32) → Prop) (h : wX7_give o_taped o_tape o_idOf o_pieces o_pieceLong o_bytesOf o_dictionary p1 p2 post) : MetI l yX7_give wsX7_give rm_X7_give D (tyL cy) [.ref a_o, .int p1, .int p2] [(a_o, .inr (10, [.int o_thrown, .ref a_o_tape, .int o_taped, .int o_samples, .ref a_o_sampleLong, .ref a_o_sampleByte, .ref a_o_idOf, .ref a_o_pieces, .ref a_o_pieceLong, .ref a_o_bytesOf, .ref a_o_dictionary, .ref a_o_covered, .ref a_o_taken, .int o_takenMany, .ref a_o_row, .int o_ahead, .int o_textLong, .ref a_o_cost, .ref a_o_leastD, .ref a_o_out, .int o_outMany, .int o_items, .int o_matches, .ref a_o_text, .int o_textMany])), (a_o_tape, .inl (cy 1, 200, .inl o_tape)), (a_o_idOf, .inl (cy 1, 6, .inl o_idOf)), (a_o_pieces, .inl (cy 1, 6, .inl o_pieces)), (a_o_pieceLong, .inl (cy 1, 480, .inl o_pieceLong)), (a_o_bytesOf, .inl (cy 1, 6, .inl o_bytesOf)), (a_o_dictionary, .inl (cy 1, 480, .inl o_dictionary))] (fun u : Int32 × Int32 × (Nat → Int32) × (Nat → Int32) × (Nat → Int32) × (Nat → Int32) × (Nat → Int32) => [(a_o, .inr (10, [.int u.1, .ref a_o_tape, .int u.2.1, .int o_samples, .ref a_o_sampleLong, .ref a_o_sampleByte, .ref a_o_idOf, .ref a_o_pieces, .ref a_o_pieceLong, .ref a_o_bytesOf, .ref a_o_dictionary, .ref a_o_covered, .ref a_o_taken, .int o_takenMany, .ref a_o_row, .int o_ahead, .int o_textLong, .ref a_o_cost, .ref a_o_leastD, .ref a_o_out, .int o_outMany, .int o_items, .int o_matches, .ref a_o_text, .int o_textMany])), (a_o_tape, .inl (cy 1, 200, .inl o_tape)), (a_o_idOf, .inl (cy 1, 6, .inl u.2.2.1)), (a_o_pieces, .inl (cy 1, 6, .inl u.2.2.2.1)), (a_o_pieceLong, .inl (cy 1, 480, .inl u.2.2.2.2.1)), (a_o_bytesOf, .inl (cy 1, 6, .inl u.2.2.2.2.2.1)), (a_o_dictionary, .inl (cy 1, 480, .inl u.2.2.2.2.2.2))]) (fun r => fun (u : Int32 × Int32 × (Nat → Int32) × (Nat → Int32) × (Nat → Int32) × (Nat → Int32) × (Nat → Int32)) => post r u.1 u.2.1 u.2.2.1 u.2.2.2.1 u.2.2.2.2.1 u.2.2.2.2.2.1 u.2.2.2.2.2.2) 0 0 := by
  refine metI_of (cc := cX7_give) (maxL := 4) (lv := [(0, .ref a_o), (1, .int p1), (2, .int p2)]) (by decide) rfl (Nat.le_of_ble_eq_true rfl) rfl ?_
  intro p e s m below meth c Q A X hlk hR
  unfold wX7_give at h
  refine go_aload_n X dX7_give_0 0 rfl rfl ?_
  refine go_iconst X (v := 0) dX7_give_1 (by decide) ?_
  refine go_put X (ws' := [(a_o, .inr (10, [.int 0, .ref a_o_tape, .int o_taped, .int o_samples, .ref a_o_sampleLong, .ref a_o_sampleByte, .ref a_o_idOf, .ref a_o_pieces, .ref a_o_pieceLong, .ref a_o_bytesOf, .ref a_o_dictionary, .ref a_o_covered, .ref a_o_taken, .int o_takenMany, .ref a_o_row, .int o_ahead, .int o_textLong, .ref a_o_cost, .ref a_o_leastD, .ref a_o_out, .int o_outMany, .int o_items, .int o_matches, .ref a_o_text, .int o_textMany])), (a_o_tape, .inl (cy 1, 200, .inl o_tape)), (a_o_idOf, .inl (cy 1, 6, .inl o_idOf)), (a_o_pieces, .inl (cy 1, 6, .inl o_pieces)), (a_o_pieceLong, .inl (cy 1, 480, .inl o_pieceLong)), (a_o_bytesOf, .inl (cy 1, 6, .inl o_bytesOf)), (a_o_dictionary, .inl (cy 1, 480, .inl o_dictionary))]) fi_X7_give_X7 tyX7 tyX7_ok nmX7 0 rfl rfl 0 (by decide) fl_X7_give_60 rfl (tyX7_ok 0 (by decide)) rfl rfl (Nat.le_of_ble_eq_true rfl) rfl dX7_give_2 ?_
  refine go_iload_n X dX7_give_5 1 rfl rfl ?_
  refine go_i2l X dX7_give_6 ?_
  refine go_lconst X (v := 0) dX7_give_7 (by decide) ?_
  refine go_ldc2 X fw_X7_give_c81 dX7_give_8 ?_
  refine go_callSi X (kX7_in l D cy p1.toInt64 (0 : Int64) (5 : Int64) _ h) (va_cwS 3 X.2.2.2.2.1 gX7_give_X7_in rfl rfl rfl cd_X7_in ⟨by decide, by decide⟩) (wr := [(a_o, .inr (10, [.int 0, .ref a_o_tape, .int o_taped, .int o_samples, .ref a_o_sampleLong, .ref a_o_sampleByte, .ref a_o_idOf, .ref a_o_pieces, .ref a_o_pieceLong, .ref a_o_bytesOf, .ref a_o_dictionary, .ref a_o_covered, .ref a_o_taken, .int o_takenMany, .ref a_o_row, .int o_ahead, .int o_textLong, .ref a_o_cost, .ref a_o_leastD, .ref a_o_out, .int o_outMany, .int o_items, .int o_matches, .ref a_o_text, .int o_textMany])), (a_o_tape, .inl (cy 1, 200, .inl o_tape)), (a_o_idOf, .inl (cy 1, 6, .inl o_idOf)), (a_o_pieces, .inl (cy 1, 6, .inl o_pieces)), (a_o_pieceLong, .inl (cy 1, 480, .inl o_pieceLong)), (a_o_bytesOf, .inl (cy 1, 6, .inl o_bytesOf)), (a_o_dictionary, .inl (cy 1, 480, .inl o_dictionary))]) (ws2 := fun u => [(a_o, .inr (10, [.int 0, .ref a_o_tape, .int o_taped, .int o_samples, .ref a_o_sampleLong, .ref a_o_sampleByte, .ref a_o_idOf, .ref a_o_pieces, .ref a_o_pieceLong, .ref a_o_bytesOf, .ref a_o_dictionary, .ref a_o_covered, .ref a_o_taken, .int o_takenMany, .ref a_o_row, .int o_ahead, .int o_textLong, .ref a_o_cost, .ref a_o_leastD, .ref a_o_out, .int o_outMany, .int o_items, .int o_matches, .ref a_o_text, .int o_textMany])), (a_o_tape, .inl (cy 1, 200, .inl o_tape)), (a_o_idOf, .inl (cy 1, 6, .inl o_idOf)), (a_o_pieces, .inl (cy 1, 6, .inl o_pieces)), (a_o_pieceLong, .inl (cy 1, 480, .inl o_pieceLong)), (a_o_bytesOf, .inl (cy 1, 6, .inl o_bytesOf)), (a_o_dictionary, .inl (cy 1, 480, .inl o_dictionary))]) (perm_ix 7 [0, 1, 2, 3, 4, 5, 6] rfl (by decide +kernel) rfl) (fun u => perm_ix 7 [0, 1, 2, 3, 4, 5, 6] rfl (by decide +kernel) rfl) rfl rfl (Nat.le_of_ble_eq_true rfl) dX7_give_11 ⟨by decide, by decide⟩ (fun r1 u h => ?_)
  refine go_if_ne X 20 dX7_give_14 (by decide) (fun c2 => ?_) (fun c2 => ?_)
  · replace h := h.1 c2
    refine go_iload_n X dX7_give_20 2 rfl rfl ?_
    refine go_i2l X dX7_give_21 ?_
    refine go_lconst X (v := 1) dX7_give_22 (by decide) ?_
    refine go_ldc2 X fw_X7_give_c83 dX7_give_23 ?_
    refine go_callSi X (kX7_in l D cy p2.toInt64 (1 : Int64) (255 : Int64) _ h) (va_cwS 3 X.2.2.2.2.1 gX7_give_X7_in rfl rfl rfl cd_X7_in ⟨by decide, by decide⟩) (wr := [(a_o, .inr (10, [.int 0, .ref a_o_tape, .int o_taped, .int o_samples, .ref a_o_sampleLong, .ref a_o_sampleByte, .ref a_o_idOf, .ref a_o_pieces, .ref a_o_pieceLong, .ref a_o_bytesOf, .ref a_o_dictionary, .ref a_o_covered, .ref a_o_taken, .int o_takenMany, .ref a_o_row, .int o_ahead, .int o_textLong, .ref a_o_cost, .ref a_o_leastD, .ref a_o_out, .int o_outMany, .int o_items, .int o_matches, .ref a_o_text, .int o_textMany])), (a_o_tape, .inl (cy 1, 200, .inl o_tape)), (a_o_idOf, .inl (cy 1, 6, .inl o_idOf)), (a_o_pieces, .inl (cy 1, 6, .inl o_pieces)), (a_o_pieceLong, .inl (cy 1, 480, .inl o_pieceLong)), (a_o_bytesOf, .inl (cy 1, 6, .inl o_bytesOf)), (a_o_dictionary, .inl (cy 1, 480, .inl o_dictionary))]) (ws2 := fun u => [(a_o, .inr (10, [.int 0, .ref a_o_tape, .int o_taped, .int o_samples, .ref a_o_sampleLong, .ref a_o_sampleByte, .ref a_o_idOf, .ref a_o_pieces, .ref a_o_pieceLong, .ref a_o_bytesOf, .ref a_o_dictionary, .ref a_o_covered, .ref a_o_taken, .int o_takenMany, .ref a_o_row, .int o_ahead, .int o_textLong, .ref a_o_cost, .ref a_o_leastD, .ref a_o_out, .int o_outMany, .int o_items, .int o_matches, .ref a_o_text, .int o_textMany])), (a_o_tape, .inl (cy 1, 200, .inl o_tape)), (a_o_idOf, .inl (cy 1, 6, .inl o_idOf)), (a_o_pieces, .inl (cy 1, 6, .inl o_pieces)), (a_o_pieceLong, .inl (cy 1, 480, .inl o_pieceLong)), (a_o_bytesOf, .inl (cy 1, 6, .inl o_bytesOf)), (a_o_dictionary, .inl (cy 1, 480, .inl o_dictionary))]) (perm_ix 7 [0, 1, 2, 3, 4, 5, 6] rfl (by decide +kernel) rfl) (fun u => perm_ix 7 [0, 1, 2, 3, 4, 5, 6] rfl (by decide +kernel) rfl) rfl rfl (Nat.le_of_ble_eq_true rfl) dX7_give_26 ⟨by decide, by decide⟩ (fun r3 u h => ?_)
    refine go_if_eq X 41 dX7_give_29 (by decide) (fun c4 => ?_) (fun c4 => ?_)
    · replace h := h.1 c4
      refine go_bipush X (v := (-102)) dX7_give_41 (by decide) ?_
      exact hR (-102) (0, o_taped, o_idOf, o_pieces, o_pieceLong, o_bytesOf, o_dictionary) 43 _ dX7_give_43 rfl h
    · replace h := h.2 c4
      refine go_aload_n X dX7_give_32 0 rfl rfl ?_
      refine go_get X fi_X7_give_X7 0 rfl rfl 2 (by decide) fl_X7_give_56 rfl dX7_give_33 ?_
      refine go_bipush X (v := 80) dX7_give_36 (by decide) ?_
      refine go_icmp_le X 44 dX7_give_38 (by decide) (fun c5 => ?_) (fun c5 => ?_)
      · replace h := h.1 c5
        refine go_aload_n X dX7_give_44 0 rfl rfl ?_
        refine go_get X fi_X7_give_X7 0 rfl rfl 6 (by decide) fl_X7_give_19 rfl dX7_give_45 ?_
        refine go_iload_n X dX7_give_48 1 rfl rfl ?_
        refine go_iload_n X dX7_give_49 2 rfl rfl ?_
        obtain ⟨c6, h⟩ := h
        refine go_iast X [(a_o, .inr (10, [.int 0, .ref a_o_tape, .int o_taped, .int o_samples, .ref a_o_sampleLong, .ref a_o_sampleByte, .ref a_o_idOf, .ref a_o_pieces, .ref a_o_pieceLong, .ref a_o_bytesOf, .ref a_o_dictionary, .ref a_o_covered, .ref a_o_taken, .int o_takenMany, .ref a_o_row, .int o_ahead, .int o_textLong, .ref a_o_cost, .ref a_o_leastD, .ref a_o_out, .int o_outMany, .int o_items, .int o_matches, .ref a_o_text, .int o_textMany])), (a_o_tape, .inl (cy 1, 200, .inl o_tape)), (a_o_idOf, .inl (cy 1, 6, .inl (upd o_idOf p1.toNatClampNeg p2))), (a_o_pieces, .inl (cy 1, 6, .inl o_pieces)), (a_o_pieceLong, .inl (cy 1, 480, .inl o_pieceLong)), (a_o_bytesOf, .inl (cy 1, 6, .inl o_bytesOf)), (a_o_dictionary, .inl (cy 1, 480, .inl o_dictionary))] 2 1 rfl rfl c6 rfl dX7_give_50 ?_
        refine go_aload_n X dX7_give_51 0 rfl rfl ?_
        refine go_get X fi_X7_give_X7 0 rfl rfl 9 (by decide) fl_X7_give_28 rfl dX7_give_52 ?_
        refine go_iload_n X dX7_give_55 1 rfl rfl ?_
        refine go_aload_n X dX7_give_56 0 rfl rfl ?_
        refine go_get X fi_X7_give_X7 0 rfl rfl 2 (by decide) fl_X7_give_56 rfl dX7_give_57 ?_
        obtain ⟨c7, h⟩ := h
        refine go_iast X [(a_o, .inr (10, [.int 0, .ref a_o_tape, .int o_taped, .int o_samples, .ref a_o_sampleLong, .ref a_o_sampleByte, .ref a_o_idOf, .ref a_o_pieces, .ref a_o_pieceLong, .ref a_o_bytesOf, .ref a_o_dictionary, .ref a_o_covered, .ref a_o_taken, .int o_takenMany, .ref a_o_row, .int o_ahead, .int o_textLong, .ref a_o_cost, .ref a_o_leastD, .ref a_o_out, .int o_outMany, .int o_items, .int o_matches, .ref a_o_text, .int o_textMany])), (a_o_tape, .inl (cy 1, 200, .inl o_tape)), (a_o_idOf, .inl (cy 1, 6, .inl (upd o_idOf p1.toNatClampNeg p2))), (a_o_pieces, .inl (cy 1, 6, .inl o_pieces)), (a_o_pieceLong, .inl (cy 1, 480, .inl o_pieceLong)), (a_o_bytesOf, .inl (cy 1, 6, .inl (upd o_bytesOf p1.toNatClampNeg o_taped))), (a_o_dictionary, .inl (cy 1, 480, .inl o_dictionary))] 5 1 rfl rfl c7 rfl dX7_give_60 ?_
        refine go_aload_n X dX7_give_61 0 rfl rfl ?_
        refine go_get X fi_X7_give_X7 0 rfl rfl 7 (by decide) fl_X7_give_22 rfl dX7_give_62 ?_
        refine go_iload_n X dX7_give_65 1 rfl rfl ?_
        refine go_aload_n X dX7_give_66 0 rfl rfl ?_
        refine go_get X fi_X7_give_X7 0 rfl rfl 2 (by decide) fl_X7_give_56 rfl dX7_give_67 ?_
        refine go_if_le X 77 dX7_give_70 (by decide) (fun c8 => ?_) (fun c8 => ?_)
        · replace h := h.1 c8
          refine go_iconst X (v := 0) dX7_give_77 (by decide) ?_
          obtain ⟨c9, h⟩ := h
          refine go_iast X [(a_o, .inr (10, [.int 0, .ref a_o_tape, .int o_taped, .int o_samples, .ref a_o_sampleLong, .ref a_o_sampleByte, .ref a_o_idOf, .ref a_o_pieces, .ref a_o_pieceLong, .ref a_o_bytesOf, .ref a_o_dictionary, .ref a_o_covered, .ref a_o_taken, .int o_takenMany, .ref a_o_row, .int o_ahead, .int o_textLong, .ref a_o_cost, .ref a_o_leastD, .ref a_o_out, .int o_outMany, .int o_items, .int o_matches, .ref a_o_text, .int o_textMany])), (a_o_tape, .inl (cy 1, 200, .inl o_tape)), (a_o_idOf, .inl (cy 1, 6, .inl (upd o_idOf p1.toNatClampNeg p2))), (a_o_pieces, .inl (cy 1, 6, .inl (upd o_pieces p1.toNatClampNeg 0))), (a_o_pieceLong, .inl (cy 1, 480, .inl o_pieceLong)), (a_o_bytesOf, .inl (cy 1, 6, .inl (upd o_bytesOf p1.toNatClampNeg o_taped))), (a_o_dictionary, .inl (cy 1, 480, .inl o_dictionary))] 3 1 rfl rfl c9 rfl dX7_give_78 ?_
          refine go_aload_n X dX7_give_79 0 rfl rfl ?_
          refine go_get X fi_X7_give_X7 0 rfl rfl 8 (by decide) fl_X7_give_25 rfl dX7_give_80 ?_
          refine go_bipush X (v := 80) dX7_give_83 (by decide) ?_
          refine go_iload_n X dX7_give_85 1 rfl rfl ?_
          refine go_imul X dX7_give_86 ?_
          refine go_aload_n X dX7_give_87 0 rfl rfl ?_
          refine go_get X fi_X7_give_X7 0 rfl rfl 2 (by decide) fl_X7_give_56 rfl dX7_give_88 ?_
          obtain ⟨c10, h⟩ := h
          refine go_iast X [(a_o, .inr (10, [.int 0, .ref a_o_tape, .int o_taped, .int o_samples, .ref a_o_sampleLong, .ref a_o_sampleByte, .ref a_o_idOf, .ref a_o_pieces, .ref a_o_pieceLong, .ref a_o_bytesOf, .ref a_o_dictionary, .ref a_o_covered, .ref a_o_taken, .int o_takenMany, .ref a_o_row, .int o_ahead, .int o_textLong, .ref a_o_cost, .ref a_o_leastD, .ref a_o_out, .int o_outMany, .int o_items, .int o_matches, .ref a_o_text, .int o_textMany])), (a_o_tape, .inl (cy 1, 200, .inl o_tape)), (a_o_idOf, .inl (cy 1, 6, .inl (upd o_idOf p1.toNatClampNeg p2))), (a_o_pieces, .inl (cy 1, 6, .inl (upd o_pieces p1.toNatClampNeg 0))), (a_o_pieceLong, .inl (cy 1, 480, .inl (upd o_pieceLong (80 * p1).toNatClampNeg o_taped))), (a_o_bytesOf, .inl (cy 1, 6, .inl (upd o_bytesOf p1.toNatClampNeg o_taped))), (a_o_dictionary, .inl (cy 1, 480, .inl o_dictionary))] 4 1 rfl rfl c10 rfl dX7_give_91 ?_
          refine go_iconst X (v := 0) dX7_give_92 (by decide) ?_
          refine go_istore_n X (lv' := [(3, .int 0), (0, .ref a_o), (1, .int p1), (2, .int p2)]) dX7_give_93 rfl (by decide) rfl ?_
          obtain ⟨n17, h⟩ := h
          refine go_lv [1, 2, 0] rfl ?_
          refine pX7_give_94 l X a_o a_o_tape a_o_sampleLong a_o_sampleByte a_o_idOf a_o_pieces a_o_pieceLong a_o_bytesOf a_o_dictionary a_o_covered a_o_taken a_o_row a_o_cost a_o_leastD a_o_out a_o_text 0 o_taped o_samples o_takenMany o_ahead o_textLong o_outMany o_items o_matches o_textMany o_tape (upd o_idOf p1.toNatClampNeg p2) (upd o_pieces p1.toNatClampNeg 0) (upd o_pieceLong (80 * p1).toNatClampNeg o_taped) (upd o_bytesOf p1.toNatClampNeg o_taped) p1  _ (fun s11 y12 h => ?_) n17 o_dictionary (0 : Int32) h
          refine go_aload_n X dX7_give_125 0 rfl rfl ?_
          refine go_get X fi_X7_give_X7 0 rfl rfl 2 (by decide) fl_X7_give_56 rfl dX7_give_126 ?_
          refine go_istore_n X (lv' := [(3, .int o_taped), (0, .ref a_o)]) dX7_give_129 rfl (by decide) rfl ?_
          refine go_aload_n X dX7_give_130 1 rfl rfl ?_
          refine go_iconst X (v := 0) dX7_give_131 (by decide) ?_
          refine go_put X (ws' := [(a_o, .inr (10, [.int 0, .ref a_o_tape, .int 0, .int o_samples, .ref a_o_sampleLong, .ref a_o_sampleByte, .ref a_o_idOf, .ref a_o_pieces, .ref a_o_pieceLong, .ref a_o_bytesOf, .ref a_o_dictionary, .ref a_o_covered, .ref a_o_taken, .int o_takenMany, .ref a_o_row, .int o_ahead, .int o_textLong, .ref a_o_cost, .ref a_o_leastD, .ref a_o_out, .int o_outMany, .int o_items, .int o_matches, .ref a_o_text, .int o_textMany])), (a_o_tape, .inl (cy 1, 200, .inl o_tape)), (a_o_idOf, .inl (cy 1, 6, .inl (upd o_idOf p1.toNatClampNeg p2))), (a_o_pieces, .inl (cy 1, 6, .inl (upd o_pieces p1.toNatClampNeg 0))), (a_o_pieceLong, .inl (cy 1, 480, .inl (upd o_pieceLong (80 * p1).toNatClampNeg o_taped))), (a_o_bytesOf, .inl (cy 1, 6, .inl (upd o_bytesOf p1.toNatClampNeg o_taped))), (a_o_dictionary, .inl (cy 1, 480, .inl s11))]) fi_X7_give_X7 tyX7 tyX7_ok nmX7 0 rfl rfl 2 (by decide) fl_X7_give_56 rfl (tyX7_ok 2 (by decide)) rfl rfl (Nat.le_of_ble_eq_true rfl) rfl dX7_give_132 ?_
          refine go_iload_n X dX7_give_135 0 rfl rfl ?_
          exact hR o_taped (0, 0, (upd o_idOf p1.toNatClampNeg p2), (upd o_pieces p1.toNatClampNeg 0), (upd o_pieceLong (80 * p1).toNatClampNeg o_taped), (upd o_bytesOf p1.toNatClampNeg o_taped), s11) 136 _ dX7_give_136 rfl h
        · replace h := h.2 c8
          refine go_iconst X (v := 1) dX7_give_73 (by decide) ?_
          refine go_goto X 78 dX7_give_74 (by decide) ?_
          obtain ⟨c18, h⟩ := h
          refine go_iast X [(a_o, .inr (10, [.int 0, .ref a_o_tape, .int o_taped, .int o_samples, .ref a_o_sampleLong, .ref a_o_sampleByte, .ref a_o_idOf, .ref a_o_pieces, .ref a_o_pieceLong, .ref a_o_bytesOf, .ref a_o_dictionary, .ref a_o_covered, .ref a_o_taken, .int o_takenMany, .ref a_o_row, .int o_ahead, .int o_textLong, .ref a_o_cost, .ref a_o_leastD, .ref a_o_out, .int o_outMany, .int o_items, .int o_matches, .ref a_o_text, .int o_textMany])), (a_o_tape, .inl (cy 1, 200, .inl o_tape)), (a_o_idOf, .inl (cy 1, 6, .inl (upd o_idOf p1.toNatClampNeg p2))), (a_o_pieces, .inl (cy 1, 6, .inl (upd o_pieces p1.toNatClampNeg 1))), (a_o_pieceLong, .inl (cy 1, 480, .inl o_pieceLong)), (a_o_bytesOf, .inl (cy 1, 6, .inl (upd o_bytesOf p1.toNatClampNeg o_taped))), (a_o_dictionary, .inl (cy 1, 480, .inl o_dictionary))] 3 1 rfl rfl c18 rfl dX7_give_78 ?_
          refine go_aload_n X dX7_give_79 0 rfl rfl ?_
          refine go_get X fi_X7_give_X7 0 rfl rfl 8 (by decide) fl_X7_give_25 rfl dX7_give_80 ?_
          refine go_bipush X (v := 80) dX7_give_83 (by decide) ?_
          refine go_iload_n X dX7_give_85 1 rfl rfl ?_
          refine go_imul X dX7_give_86 ?_
          refine go_aload_n X dX7_give_87 0 rfl rfl ?_
          refine go_get X fi_X7_give_X7 0 rfl rfl 2 (by decide) fl_X7_give_56 rfl dX7_give_88 ?_
          obtain ⟨c19, h⟩ := h
          refine go_iast X [(a_o, .inr (10, [.int 0, .ref a_o_tape, .int o_taped, .int o_samples, .ref a_o_sampleLong, .ref a_o_sampleByte, .ref a_o_idOf, .ref a_o_pieces, .ref a_o_pieceLong, .ref a_o_bytesOf, .ref a_o_dictionary, .ref a_o_covered, .ref a_o_taken, .int o_takenMany, .ref a_o_row, .int o_ahead, .int o_textLong, .ref a_o_cost, .ref a_o_leastD, .ref a_o_out, .int o_outMany, .int o_items, .int o_matches, .ref a_o_text, .int o_textMany])), (a_o_tape, .inl (cy 1, 200, .inl o_tape)), (a_o_idOf, .inl (cy 1, 6, .inl (upd o_idOf p1.toNatClampNeg p2))), (a_o_pieces, .inl (cy 1, 6, .inl (upd o_pieces p1.toNatClampNeg 1))), (a_o_pieceLong, .inl (cy 1, 480, .inl (upd o_pieceLong (80 * p1).toNatClampNeg o_taped))), (a_o_bytesOf, .inl (cy 1, 6, .inl (upd o_bytesOf p1.toNatClampNeg o_taped))), (a_o_dictionary, .inl (cy 1, 480, .inl o_dictionary))] 4 1 rfl rfl c19 rfl dX7_give_91 ?_
          refine go_iconst X (v := 0) dX7_give_92 (by decide) ?_
          refine go_istore_n X (lv' := [(3, .int 0), (0, .ref a_o), (1, .int p1), (2, .int p2)]) dX7_give_93 rfl (by decide) rfl ?_
          obtain ⟨n22, h⟩ := h
          refine go_lv [1, 2, 0] rfl ?_
          refine pX7_give_94 l X a_o a_o_tape a_o_sampleLong a_o_sampleByte a_o_idOf a_o_pieces a_o_pieceLong a_o_bytesOf a_o_dictionary a_o_covered a_o_taken a_o_row a_o_cost a_o_leastD a_o_out a_o_text 0 o_taped o_samples o_takenMany o_ahead o_textLong o_outMany o_items o_matches o_textMany o_tape (upd o_idOf p1.toNatClampNeg p2) (upd o_pieces p1.toNatClampNeg 1) (upd o_pieceLong (80 * p1).toNatClampNeg o_taped) (upd o_bytesOf p1.toNatClampNeg o_taped) p1  _ (fun s20 y21 h => ?_) n22 o_dictionary (0 : Int32) h
          refine go_aload_n X dX7_give_125 0 rfl rfl ?_
          refine go_get X fi_X7_give_X7 0 rfl rfl 2 (by decide) fl_X7_give_56 rfl dX7_give_126 ?_
          refine go_istore_n X (lv' := [(3, .int o_taped), (0, .ref a_o)]) dX7_give_129 rfl (by decide) rfl ?_
          refine go_aload_n X dX7_give_130 1 rfl rfl ?_
          refine go_iconst X (v := 0) dX7_give_131 (by decide) ?_
          refine go_put X (ws' := [(a_o, .inr (10, [.int 0, .ref a_o_tape, .int 0, .int o_samples, .ref a_o_sampleLong, .ref a_o_sampleByte, .ref a_o_idOf, .ref a_o_pieces, .ref a_o_pieceLong, .ref a_o_bytesOf, .ref a_o_dictionary, .ref a_o_covered, .ref a_o_taken, .int o_takenMany, .ref a_o_row, .int o_ahead, .int o_textLong, .ref a_o_cost, .ref a_o_leastD, .ref a_o_out, .int o_outMany, .int o_items, .int o_matches, .ref a_o_text, .int o_textMany])), (a_o_tape, .inl (cy 1, 200, .inl o_tape)), (a_o_idOf, .inl (cy 1, 6, .inl (upd o_idOf p1.toNatClampNeg p2))), (a_o_pieces, .inl (cy 1, 6, .inl (upd o_pieces p1.toNatClampNeg 1))), (a_o_pieceLong, .inl (cy 1, 480, .inl (upd o_pieceLong (80 * p1).toNatClampNeg o_taped))), (a_o_bytesOf, .inl (cy 1, 6, .inl (upd o_bytesOf p1.toNatClampNeg o_taped))), (a_o_dictionary, .inl (cy 1, 480, .inl s20))]) fi_X7_give_X7 tyX7 tyX7_ok nmX7 0 rfl rfl 2 (by decide) fl_X7_give_56 rfl (tyX7_ok 2 (by decide)) rfl rfl (Nat.le_of_ble_eq_true rfl) rfl dX7_give_132 ?_
          refine go_iload_n X dX7_give_135 0 rfl rfl ?_
          exact hR o_taped (0, 0, (upd o_idOf p1.toNatClampNeg p2), (upd o_pieces p1.toNatClampNeg 1), (upd o_pieceLong (80 * p1).toNatClampNeg o_taped), (upd o_bytesOf p1.toNatClampNeg o_taped), s20) 136 _ dX7_give_136 rfl h
      · replace h := h.2 c5
        refine go_bipush X (v := (-102)) dX7_give_41 (by decide) ?_
        exact hR (-102) (0, o_taped, o_idOf, o_pieces, o_pieceLong, o_bytesOf, o_dictionary) 43 _ dX7_give_43 rfl h
  · replace h := h.2 c2
    refine go_bipush X (v := (-101)) dX7_give_17 (by decide) ?_
    exact hR (-101) (0, o_taped, o_idOf, o_pieces, o_pieceLong, o_bytesOf, o_dictionary) 19 _ dX7_give_19 rfl h
/-! X7_isThere -/
theorem fw_X7_isThere_c81 : Jvm.Cond.constantLong RX7 81 5 ∈ wsX7_isThere := by decide +kernel
theorem fi_X7_isThere_X7 : ∀ w ∈ u_ws RX7 TX7 25, w ∈ wsX7_isThere := by decide +kernel
theorem fl_X7_isThere_19 : Cond.fieldLink RX7 19 (TX7 6).1 (TX7 6).2.1 (TX7 6).2.2.1 ∈ wsX7_isThere := by decide +kernel
def rm_X7_isThere : Room := { frames := 1, cells := 0, slots := 0, locals := 25 }
theorem cd_X7_isThere : yX7_isThere.cls = RX7 ∧ yX7_isThere.cls ≠ "java/lang/invoke/MethodHandle" ∧ yX7_isThere.cls ≠ "java/lang/invoke/VarHandle" ∧ (parseMethodDescriptor yX7_isThere.desc).map (fun d => d.parameters.length) = some 1 := by decide +kernel
set_option maxRecDepth 100000 in
set_option maxHeartbeats 4000000 in
theorem kX7_isThere (l : Launch) (D : va_G) (cy : Nat → ClassId) (a_o : Nat) (a_o_tape : Nat) (a_o_sampleLong : Nat) (a_o_sampleByte : Nat) (a_o_idOf : Nat) (a_o_pieces : Nat) (a_o_pieceLong : Nat) (a_o_bytesOf : Nat) (a_o_dictionary : Nat) (a_o_covered : Nat) (a_o_taken : Nat) (a_o_row : Nat) (a_o_cost : Nat) (a_o_leastD : Nat) (a_o_out : Nat) (a_o_text : Nat) (o_thrown : Int32) (o_taped : Int32) (o_samples : Int32) (o_takenMany : Int32) (o_ahead : Int32) (o_textLong : Int32) (o_outMany : Int32) (o_items : Int32) (o_matches : Int32) (o_textMany : Int32) (o_idOf : Nat → Int32) (p1 : Int32) (post : Int32 → Prop) (h : wX7_isThere o_idOf p1 post) : MetI l yX7_isThere wsX7_isThere rm_X7_isThere D (tyL cy) [.ref a_o, .int p1] [(a_o, .inr (10, [.int o_thrown, .ref a_o_tape, .int o_taped, .int o_samples, .ref a_o_sampleLong, .ref a_o_sampleByte, .ref a_o_idOf, .ref a_o_pieces, .ref a_o_pieceLong, .ref a_o_bytesOf, .ref a_o_dictionary, .ref a_o_covered, .ref a_o_taken, .int o_takenMany, .ref a_o_row, .int o_ahead, .int o_textLong, .ref a_o_cost, .ref a_o_leastD, .ref a_o_out, .int o_outMany, .int o_items, .int o_matches, .ref a_o_text, .int o_textMany])), (a_o_idOf, .inl (cy 1, 6, .inl o_idOf))] (fun u : Unit => [(a_o, .inr (10, [.int o_thrown, .ref a_o_tape, .int o_taped, .int o_samples, .ref a_o_sampleLong, .ref a_o_sampleByte, .ref a_o_idOf, .ref a_o_pieces, .ref a_o_pieceLong, .ref a_o_bytesOf, .ref a_o_dictionary, .ref a_o_covered, .ref a_o_taken, .int o_takenMany, .ref a_o_row, .int o_ahead, .int o_textLong, .ref a_o_cost, .ref a_o_leastD, .ref a_o_out, .int o_outMany, .int o_items, .int o_matches, .ref a_o_text, .int o_textMany])), (a_o_idOf, .inl (cy 1, 6, .inl o_idOf))]) (fun r => fun (u : Unit) => post r ) 0 0 := by
  refine metI_of (cc := cX7_isThere) (maxL := 2) (lv := [(0, .ref a_o), (1, .int p1)]) (by decide) rfl (Nat.le_of_ble_eq_true rfl) rfl ?_
  intro p e s m below meth c Q A X hlk hR
  unfold wX7_isThere at h
  refine go_iload_n X dX7_isThere_0 1 rfl rfl ?_
  refine go_i2l X dX7_isThere_1 ?_
  refine go_lconst X (v := 0) dX7_isThere_2 (by decide) ?_
  refine go_ldc2 X fw_X7_isThere_c81 dX7_isThere_3 ?_
  refine go_callSi X (kX7_in l D cy p1.toInt64 (0 : Int64) (5 : Int64) _ h) (va_cwS 3 X.2.2.2.2.1 gX7_isThere_X7_in rfl rfl rfl cd_X7_in ⟨by decide, by decide⟩) (wr := [(a_o, .inr (10, [.int o_thrown, .ref a_o_tape, .int o_taped, .int o_samples, .ref a_o_sampleLong, .ref a_o_sampleByte, .ref a_o_idOf, .ref a_o_pieces, .ref a_o_pieceLong, .ref a_o_bytesOf, .ref a_o_dictionary, .ref a_o_covered, .ref a_o_taken, .int o_takenMany, .ref a_o_row, .int o_ahead, .int o_textLong, .ref a_o_cost, .ref a_o_leastD, .ref a_o_out, .int o_outMany, .int o_items, .int o_matches, .ref a_o_text, .int o_textMany])), (a_o_idOf, .inl (cy 1, 6, .inl o_idOf))]) (ws2 := fun u => [(a_o, .inr (10, [.int o_thrown, .ref a_o_tape, .int o_taped, .int o_samples, .ref a_o_sampleLong, .ref a_o_sampleByte, .ref a_o_idOf, .ref a_o_pieces, .ref a_o_pieceLong, .ref a_o_bytesOf, .ref a_o_dictionary, .ref a_o_covered, .ref a_o_taken, .int o_takenMany, .ref a_o_row, .int o_ahead, .int o_textLong, .ref a_o_cost, .ref a_o_leastD, .ref a_o_out, .int o_outMany, .int o_items, .int o_matches, .ref a_o_text, .int o_textMany])), (a_o_idOf, .inl (cy 1, 6, .inl o_idOf))]) (perm_idx [0, 1] rfl rfl) (fun u => perm_idx [0, 1] rfl rfl) rfl rfl (Nat.le_of_ble_eq_true rfl) dX7_isThere_6 ⟨by decide, by decide⟩ (fun r1 u h => ?_)
  refine go_if_eq X 25 dX7_isThere_9 (by decide) (fun c2 => ?_) (fun c2 => ?_)
  · replace h := h.1 c2
    refine go_iconst X (v := 0) dX7_isThere_25 (by decide) ?_
    exact hR 0 () 26 _ dX7_isThere_26 rfl h
  · replace h := h.2 c2
    refine go_aload_n X dX7_isThere_12 0 rfl rfl ?_
    refine go_get X fi_X7_isThere_X7 0 rfl rfl 6 (by decide) fl_X7_isThere_19 rfl dX7_isThere_13 ?_
    refine go_iload_n X dX7_isThere_16 1 rfl rfl ?_
    obtain ⟨c3, h⟩ := h
    refine go_iald X 1 1 rfl rfl c3 dX7_isThere_17 ?_
    refine go_if_le X 25 dX7_isThere_18 (by decide) (fun c4 => ?_) (fun c4 => ?_)
    · replace h := h.1 c4
      refine go_iconst X (v := 0) dX7_isThere_25 (by decide) ?_
      exact hR 0 () 26 _ dX7_isThere_26 rfl h
    · replace h := h.2 c4
      refine go_iconst X (v := 1) dX7_isThere_21 (by decide) ?_
      refine go_goto X 26 dX7_isThere_22 (by decide) ?_
      exact hR 1 () 26 _ dX7_isThere_26 rfl h
