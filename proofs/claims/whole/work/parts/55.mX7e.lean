/-! X7_putItem -/
theorem fi_X7_putItem_X7 : ∀ w ∈ u_ws RX7 TX7 25, w ∈ wsX7_putItem := by decide +kernel
theorem fl_X7_putItem_47 : Cond.fieldLink RX7 47 (TX7 18).1 (TX7 18).2.1 (TX7 18).2.2.1 ∈ wsX7_putItem := by decide +kernel
theorem fl_X7_putItem_44 : Cond.fieldLink RX7 44 (TX7 17).1 (TX7 17).2.1 (TX7 17).2.2.1 ∈ wsX7_putItem := by decide +kernel
theorem fl_X7_putItem_147 : Cond.fieldLink RX7 147 (TX7 22).1 (TX7 22).2.1 (TX7 22).2.2.1 ∈ wsX7_putItem := by decide +kernel
theorem fl_X7_putItem_103 : Cond.fieldLink RX7 103 (TX7 16).1 (TX7 16).2.1 (TX7 16).2.2.1 ∈ wsX7_putItem := by decide +kernel
theorem fl_X7_putItem_41 : Cond.fieldLink RX7 41 (TX7 14).1 (TX7 14).2.1 (TX7 14).2.2.1 ∈ wsX7_putItem := by decide +kernel
theorem fl_X7_putItem_96 : Cond.fieldLink RX7 96 (TX7 15).1 (TX7 15).2.1 (TX7 15).2.2.1 ∈ wsX7_putItem := by decide +kernel
def rm_X7_putItem : Room := { frames := 1, cells := 0, slots := 0, locals := 21 }
theorem cd_X7_putItem : yX7_putItem.cls = RX7 ∧ yX7_putItem.cls ≠ "java/lang/invoke/MethodHandle" ∧ yX7_putItem.cls ≠ "java/lang/invoke/VarHandle" ∧ (parseMethodDescriptor yX7_putItem.desc).map (fun d => d.parameters.length) = some 1 := by decide +kernel
set_option maxRecDepth 100000 in
set_option maxHeartbeats 4000000 in
theorem pX7_putItem_3 {p : Program} (l : Launch) {e : Env} {s : State} {m : MethodId} {args : Array Value} {below : List Frame} {meth : Method} {c : Code} {Q : State → Prop} {D : va_G} {cy : Nat → ClassId} {A : Nat → Prop} (X : Cx p s m args c cX7_putItem 4 RX7 wsX7_putItem D (tyL cy) A) (a_o : Nat) (a_o_tape : Nat) (a_o_sampleLong : Nat) (a_o_sampleByte : Nat) (a_o_idOf : Nat) (a_o_pieces : Nat) (a_o_pieceLong : Nat) (a_o_bytesOf : Nat) (a_o_dictionary : Nat) (a_o_covered : Nat) (a_o_taken : Nat) (a_o_row : Nat) (a_o_cost : Nat) (a_o_leastD : Nat) (a_o_out : Nat) (a_o_text : Nat) (o_thrown : Int32) (o_taped : Int32) (o_samples : Int32) (o_takenMany : Int32) (o_ahead : Int32) (o_textLong : Int32) (o_outMany : Int32) (o_items : Int32) (o_matches : Int32) (o_textMany : Int32) (o_row : Nat → Int32) (o_cost : Nat → Int32) (o_leastD : Nat → Int32) (o_out : Nat → Int32) (v1 : Int32) (post : Int32 → Int32 → Int32 → (Nat → Int32) → Prop) (hR : RtI p l e rm_X7_putItem s m args below meth c cX7_putItem Q 4 D A .int (fun u : Int32 × Int32 × (Nat → Int32) => [(a_o, .inr (10, [.int o_thrown, .ref a_o_tape, .int o_taped, .int o_samples, .ref a_o_sampleLong, .ref a_o_sampleByte, .ref a_o_idOf, .ref a_o_pieces, .ref a_o_pieceLong, .ref a_o_bytesOf, .ref a_o_dictionary, .ref a_o_covered, .ref a_o_taken, .int o_takenMany, .ref a_o_row, .int o_ahead, .int o_textLong, .ref a_o_cost, .ref a_o_leastD, .ref a_o_out, .int u.1, .int o_items, .int u.2.1, .ref a_o_text, .int o_textMany])), (a_o_row, .inl (cy 1, 280, .inl o_row)), (a_o_cost, .inl (cy 1, 201, .inl o_cost)), (a_o_leastD, .inl (cy 1, 2010, .inl o_leastD)), (a_o_out, .inl (cy 1, 400, .inl u.2.2))]) (fun r => fun (u : Int32 × Int32 × (Nat → Int32)) => post r u.1 u.2.1 u.2.2) 0 0) (K : Int32 → Prop) (hK : ∀ (v2 : Int32), K v2 → Go p l e rm_X7_putItem s m args below meth c Q 4 D A [(a_o, .inr (10, [.int o_thrown, .ref a_o_tape, .int o_taped, .int o_samples, .ref a_o_sampleLong, .ref a_o_sampleByte, .ref a_o_idOf, .ref a_o_pieces, .ref a_o_pieceLong, .ref a_o_bytesOf, .ref a_o_dictionary, .ref a_o_covered, .ref a_o_taken, .int o_takenMany, .ref a_o_row, .int o_ahead, .int o_textLong, .ref a_o_cost, .ref a_o_leastD, .ref a_o_out, .int o_outMany, .int o_items, .int o_matches, .ref a_o_text, .int o_textMany])), (a_o_row, .inl (cy 1, 280, .inl o_row)), (a_o_cost, .inl (cy 1, 201, .inl o_cost)), (a_o_leastD, .inl (cy 1, 2010, .inl o_leastD)), (a_o_out, .inl (cy 1, 400, .inl o_out))] 0 0 88 [(0, .ref a_o), (1, .int v1)] []) :
    ∀ (n : Nat) (v2 : Int32), wX7_putItem_3 o_outMany o_matches o_cost o_leastD o_out v1 post K n v2 → Go p l e rm_X7_putItem s m args below meth c Q 4 D A [(a_o, .inr (10, [.int o_thrown, .ref a_o_tape, .int o_taped, .int o_samples, .ref a_o_sampleLong, .ref a_o_sampleByte, .ref a_o_idOf, .ref a_o_pieces, .ref a_o_pieceLong, .ref a_o_bytesOf, .ref a_o_dictionary, .ref a_o_covered, .ref a_o_taken, .int o_takenMany, .ref a_o_row, .int o_ahead, .int o_textLong, .ref a_o_cost, .ref a_o_leastD, .ref a_o_out, .int o_outMany, .int o_items, .int o_matches, .ref a_o_text, .int o_textMany])), (a_o_row, .inl (cy 1, 280, .inl o_row)), (a_o_cost, .inl (cy 1, 201, .inl o_cost)), (a_o_leastD, .inl (cy 1, 2010, .inl o_leastD)), (a_o_out, .inl (cy 1, 400, .inl o_out))] 0 0 3 [(0, .ref a_o), (1, .int v1), (2, .int v2)] [] := by
  intro n
  induction n with
  | zero => intro v2 h; exact absurd h id
  | succ n ih =>
    intro v2 h
    refine go_iload_n X dX7_putItem_3 2 rfl rfl ?_
    refine go_iconst X (v := 3) dX7_putItem_4 (by decide) ?_
    refine go_icmp_lt X 88 dX7_putItem_5 (by decide) (fun c2 => ?_) (fun c2 => ?_)
    · replace h := h.1 c2
      refine go_lv [0, 1] rfl ?_
      exact hK v2 h
    · replace h := h.2 c2
      refine go_aload_n X dX7_putItem_8 0 rfl rfl ?_
      refine go_get X fi_X7_putItem_X7 0 rfl rfl 18 (by decide) fl_X7_putItem_47 rfl dX7_putItem_9 ?_
      refine go_bipush X (v := 10) dX7_putItem_12 (by decide) ?_
      refine go_iload_n X dX7_putItem_14 1 rfl rfl ?_
      refine go_imul X dX7_putItem_15 ?_
      refine go_iload_n X dX7_putItem_16 2 rfl rfl ?_
      refine go_iadd X dX7_putItem_17 ?_
      obtain ⟨c3, h⟩ := h
      refine go_iald X 3 1 rfl rfl c3 dX7_putItem_18 ?_
      refine go_iconst X (v := 1) dX7_putItem_19 (by decide) ?_
      refine go_isub X dX7_putItem_20 ?_
      refine go_topi (fun y4 ey4 => ?_)
      replace h := h y4 ey4
      refine go_istore_n X (lv' := [(3, .int y4), (0, .ref a_o), (1, .int v1), (2, .int v2)]) dX7_putItem_21 rfl (by decide) rfl ?_
      refine go_iload_n X dX7_putItem_22 0 rfl rfl ?_
      refine go_if_lt X 82 dX7_putItem_23 (by decide) (fun c5 => ?_) (fun c5 => ?_)
      · replace h := h.1 c5
        obtain ⟨y6, ey6⟩ : ∃ z : Int32, z = v2 + (-1) := ⟨_, rfl⟩
        replace h := h y6 ey6
        refine go_iinc X (lv' := [(2, .int y6), (3, .int y4), (0, .ref a_o), (1, .int v1)]) y6 dX7_putItem_82 3 rfl (by rw [ey6]; rfl) (by decide) rfl ?_
        refine go_goto X 3 dX7_putItem_85 (by decide) ?_
        refine go_lv [2, 3, 0] rfl ?_
        exact ih y6 h
      · replace h := h.2 c5
        refine go_iconst X (v := 2) dX7_putItem_26 (by decide) ?_
        refine go_aload_n X dX7_putItem_27 1 rfl rfl ?_
        refine go_get X fi_X7_putItem_X7 0 rfl rfl 17 (by decide) fl_X7_putItem_44 rfl dX7_putItem_28 ?_
        refine go_iload_n X dX7_putItem_31 2 rfl rfl ?_
        refine go_iload_n X dX7_putItem_32 3 rfl rfl ?_
        refine go_iadd X dX7_putItem_33 ?_
        obtain ⟨c7, h⟩ := h
        refine go_iald X 2 1 rfl rfl c7 dX7_putItem_34 ?_
        refine go_iadd X dX7_putItem_35 ?_
        refine go_aload_n X dX7_putItem_36 1 rfl rfl ?_
        refine go_get X fi_X7_putItem_X7 0 rfl rfl 17 (by decide) fl_X7_putItem_44 rfl dX7_putItem_37 ?_
        refine go_iload_n X dX7_putItem_40 2 rfl rfl ?_
        obtain ⟨c8, h⟩ := h
        refine go_iald X 2 1 rfl rfl c8 dX7_putItem_41 ?_
        refine go_icmp_ne X 82 dX7_putItem_42 (by decide) (fun c9 => ?_) (fun c9 => ?_)
        · replace h := h.1 c9
          obtain ⟨y10, ey10⟩ : ∃ z : Int32, z = v2 + (-1) := ⟨_, rfl⟩
          replace h := h y10 ey10
          refine go_iinc X (lv' := [(2, .int y10), (3, .int y4), (0, .ref a_o), (1, .int v1)]) y10 dX7_putItem_82 3 rfl (by rw [ey10]; rfl) (by decide) rfl ?_
          refine go_goto X 3 dX7_putItem_85 (by decide) ?_
          refine go_lv [2, 3, 0] rfl ?_
          exact ih y10 h
        · replace h := h.2 c9
          refine go_aload_n X dX7_putItem_45 1 rfl rfl ?_
          refine go_bipush X (v := 32) dX7_putItem_46 (by decide) ?_
          refine go_iload_n X dX7_putItem_48 3 rfl rfl ?_
          refine go_iconst X (v := 2) dX7_putItem_49 (by decide) ?_
          refine go_isub X dX7_putItem_50 ?_
          refine go_imul X dX7_putItem_51 ?_
          refine go_iload_n X dX7_putItem_52 0 rfl rfl ?_
          refine go_sipush X (v := 256) dX7_putItem_53 (by decide) ?_
          refine go_idiv X dX7_putItem_56 (by decide) ?_
          refine go_iadd X dX7_putItem_57 ?_
          refine go_callVv X (kX7_put l D cy a_o a_o_tape a_o_sampleLong a_o_sampleByte a_o_idOf a_o_pieces a_o_pieceLong a_o_bytesOf a_o_dictionary a_o_covered a_o_taken a_o_row a_o_cost a_o_leastD a_o_out a_o_text o_thrown o_taped o_samples o_takenMany o_ahead o_textLong o_outMany o_items o_matches o_textMany o_out ((32 * (v2 - 2)) + (y4 / 256)) _ h) (cwV 1 X.2.2.2.2.1 gX7_putItem_X7_put rfl rfl rfl cd_X7_put ⟨by decide, by decide⟩) (wr := [(a_o_row, .inl (cy 1, 280, .inl o_row)), (a_o_cost, .inl (cy 1, 201, .inl o_cost)), (a_o_leastD, .inl (cy 1, 2010, .inl o_leastD))]) (ws2 := fun u => [(a_o, .inr (10, [.int o_thrown, .ref a_o_tape, .int o_taped, .int o_samples, .ref a_o_sampleLong, .ref a_o_sampleByte, .ref a_o_idOf, .ref a_o_pieces, .ref a_o_pieceLong, .ref a_o_bytesOf, .ref a_o_dictionary, .ref a_o_covered, .ref a_o_taken, .int o_takenMany, .ref a_o_row, .int o_ahead, .int o_textLong, .ref a_o_cost, .ref a_o_leastD, .ref a_o_out, .int u.1, .int o_items, .int o_matches, .ref a_o_text, .int o_textMany])), (a_o_row, .inl (cy 1, 280, .inl o_row)), (a_o_cost, .inl (cy 1, 201, .inl o_cost)), (a_o_leastD, .inl (cy 1, 2010, .inl o_leastD)), (a_o_out, .inl (cy 1, 400, .inl u.2))]) (perm_idx [0, 4, 1, 2, 3] rfl rfl) (fun u => perm_idx [0, 2, 3, 4, 1] rfl rfl) rfl rfl rfl rfl (Nat.le_of_ble_eq_true rfl) dX7_putItem_58 ⟨by decide, by decide⟩ (fun u h => ?_)
          obtain ⟨s11, s12⟩ := u
          refine go_aload_n X dX7_putItem_61 1 rfl rfl ?_
          refine go_iload_n X dX7_putItem_62 0 rfl rfl ?_
          refine go_sipush X (v := 256) dX7_putItem_63 (by decide) ?_
          refine go_irem X dX7_putItem_66 (by decide) ?_
          refine go_callVv X (kX7_put l D cy a_o a_o_tape a_o_sampleLong a_o_sampleByte a_o_idOf a_o_pieces a_o_pieceLong a_o_bytesOf a_o_dictionary a_o_covered a_o_taken a_o_row a_o_cost a_o_leastD a_o_out a_o_text o_thrown o_taped o_samples o_takenMany o_ahead o_textLong s11 o_items o_matches o_textMany s12 (y4 - y4 / 256 * 256) _ h) (cwV 1 X.2.2.2.2.1 gX7_putItem_X7_put rfl rfl rfl cd_X7_put ⟨by decide, by decide⟩) (wr := [(a_o_row, .inl (cy 1, 280, .inl o_row)), (a_o_cost, .inl (cy 1, 201, .inl o_cost)), (a_o_leastD, .inl (cy 1, 2010, .inl o_leastD))]) (ws2 := fun u => [(a_o, .inr (10, [.int o_thrown, .ref a_o_tape, .int o_taped, .int o_samples, .ref a_o_sampleLong, .ref a_o_sampleByte, .ref a_o_idOf, .ref a_o_pieces, .ref a_o_pieceLong, .ref a_o_bytesOf, .ref a_o_dictionary, .ref a_o_covered, .ref a_o_taken, .int o_takenMany, .ref a_o_row, .int o_ahead, .int o_textLong, .ref a_o_cost, .ref a_o_leastD, .ref a_o_out, .int u.1, .int o_items, .int o_matches, .ref a_o_text, .int o_textMany])), (a_o_row, .inl (cy 1, 280, .inl o_row)), (a_o_cost, .inl (cy 1, 201, .inl o_cost)), (a_o_leastD, .inl (cy 1, 2010, .inl o_leastD)), (a_o_out, .inl (cy 1, 400, .inl u.2))]) (perm_idx [0, 4, 1, 2, 3] rfl rfl) (fun u => perm_idx [0, 2, 3, 4, 1] rfl rfl) rfl rfl rfl rfl (Nat.le_of_ble_eq_true rfl) dX7_putItem_67 ⟨by decide, by decide⟩ (fun u h => ?_)
          obtain ⟨s13, s14⟩ := u
          refine go_aload_n X dX7_putItem_70 1 rfl rfl ?_
          refine go_dup X dX7_putItem_71 rfl ?_
          refine go_get X fi_X7_putItem_X7 0 rfl rfl 22 (by decide) fl_X7_putItem_147 rfl dX7_putItem_72 ?_
          refine go_iconst X (v := 1) dX7_putItem_75 (by decide) ?_
          refine go_iadd X dX7_putItem_76 ?_
          refine go_topi (fun y15 ey15 => ?_)
          replace h := h y15 ey15
          refine go_put X (ws' := [(a_o, .inr (10, [.int o_thrown, .ref a_o_tape, .int o_taped, .int o_samples, .ref a_o_sampleLong, .ref a_o_sampleByte, .ref a_o_idOf, .ref a_o_pieces, .ref a_o_pieceLong, .ref a_o_bytesOf, .ref a_o_dictionary, .ref a_o_covered, .ref a_o_taken, .int o_takenMany, .ref a_o_row, .int o_ahead, .int o_textLong, .ref a_o_cost, .ref a_o_leastD, .ref a_o_out, .int s13, .int o_items, .int y15, .ref a_o_text, .int o_textMany])), (a_o_row, .inl (cy 1, 280, .inl o_row)), (a_o_cost, .inl (cy 1, 201, .inl o_cost)), (a_o_leastD, .inl (cy 1, 2010, .inl o_leastD)), (a_o_out, .inl (cy 1, 400, .inl s14))]) fi_X7_putItem_X7 tyX7 tyX7_ok nmX7 0 rfl rfl 22 (by decide) fl_X7_putItem_147 rfl (tyX7_ok 22 (by decide)) rfl rfl (Nat.le_of_ble_eq_true rfl) rfl dX7_putItem_77 ?_
          refine go_iload_n X dX7_putItem_80 3 rfl rfl ?_
          exact hR v2 (s13, y15, s14) 81 _ dX7_putItem_81 rfl h
set_option maxRecDepth 100000 in
set_option maxHeartbeats 4000000 in
theorem pX7_putItem_111 {p : Program} (l : Launch) {e : Env} {s : State} {m : MethodId} {args : Array Value} {below : List Frame} {meth : Method} {c : Code} {Q : State → Prop} {D : va_G} {cy : Nat → ClassId} {A : Nat → Prop} (X : Cx p s m args c cX7_putItem 4 RX7 wsX7_putItem D (tyL cy) A) (a_o : Nat) (a_o_tape : Nat) (a_o_sampleLong : Nat) (a_o_sampleByte : Nat) (a_o_idOf : Nat) (a_o_pieces : Nat) (a_o_pieceLong : Nat) (a_o_bytesOf : Nat) (a_o_dictionary : Nat) (a_o_covered : Nat) (a_o_taken : Nat) (a_o_row : Nat) (a_o_cost : Nat) (a_o_leastD : Nat) (a_o_out : Nat) (a_o_text : Nat) (o_thrown : Int32) (o_taped : Int32) (o_samples : Int32) (o_takenMany : Int32) (o_ahead : Int32) (o_textLong : Int32) (o_outMany : Int32) (o_items : Int32) (o_matches : Int32) (o_textMany : Int32) (o_row : Nat → Int32) (o_cost : Nat → Int32) (o_leastD : Nat → Int32) (o_out : Nat → Int32) (v1 : Int32) (K : Int32 → Prop) (hK : ∀ (v2 : Int32), K v2 → Go p l e rm_X7_putItem s m args below meth c Q 4 D A [(a_o, .inr (10, [.int o_thrown, .ref a_o_tape, .int o_taped, .int o_samples, .ref a_o_sampleLong, .ref a_o_sampleByte, .ref a_o_idOf, .ref a_o_pieces, .ref a_o_pieceLong, .ref a_o_bytesOf, .ref a_o_dictionary, .ref a_o_covered, .ref a_o_taken, .int o_takenMany, .ref a_o_row, .int o_ahead, .int o_textLong, .ref a_o_cost, .ref a_o_leastD, .ref a_o_out, .int o_outMany, .int o_items, .int o_matches, .ref a_o_text, .int o_textMany])), (a_o_row, .inl (cy 1, 280, .inl o_row)), (a_o_cost, .inl (cy 1, 201, .inl o_cost)), (a_o_leastD, .inl (cy 1, 2010, .inl o_leastD)), (a_o_out, .inl (cy 1, 400, .inl o_out))] 0 0 138 [(0, .ref a_o), (1, .int v1), (2, .int v2)] []) :
    ∀ (n : Nat) (v2 : Int32), wX7_putItem_111 o_cost v1 K n v2 → Go p l e rm_X7_putItem s m args below meth c Q 4 D A [(a_o, .inr (10, [.int o_thrown, .ref a_o_tape, .int o_taped, .int o_samples, .ref a_o_sampleLong, .ref a_o_sampleByte, .ref a_o_idOf, .ref a_o_pieces, .ref a_o_pieceLong, .ref a_o_bytesOf, .ref a_o_dictionary, .ref a_o_covered, .ref a_o_taken, .int o_takenMany, .ref a_o_row, .int o_ahead, .int o_textLong, .ref a_o_cost, .ref a_o_leastD, .ref a_o_out, .int o_outMany, .int o_items, .int o_matches, .ref a_o_text, .int o_textMany])), (a_o_row, .inl (cy 1, 280, .inl o_row)), (a_o_cost, .inl (cy 1, 201, .inl o_cost)), (a_o_leastD, .inl (cy 1, 2010, .inl o_leastD)), (a_o_out, .inl (cy 1, 400, .inl o_out))] 0 0 111 [(0, .ref a_o), (1, .int v1), (2, .int v2)] [] := by
  intro n
  induction n with
  | zero => intro v2 h; exact absurd h id
  | succ n ih =>
    intro v2 h
    refine go_iconst X (v := 1) dX7_putItem_111 (by decide) ?_
    refine go_iload_n X dX7_putItem_112 2 rfl rfl ?_
    refine go_iadd X dX7_putItem_113 ?_
    refine go_aload_n X dX7_putItem_114 0 rfl rfl ?_
    refine go_get X fi_X7_putItem_X7 0 rfl rfl 17 (by decide) fl_X7_putItem_44 rfl dX7_putItem_115 ?_
    refine go_iload_n X dX7_putItem_118 1 rfl rfl ?_
    refine go_iload_n X dX7_putItem_119 2 rfl rfl ?_
    refine go_iadd X dX7_putItem_120 ?_
    obtain ⟨c18, h⟩ := h
    refine go_iald X 2 1 rfl rfl c18 dX7_putItem_121 ?_
    refine go_iadd X dX7_putItem_122 ?_
    refine go_aload_n X dX7_putItem_123 0 rfl rfl ?_
    refine go_get X fi_X7_putItem_X7 0 rfl rfl 17 (by decide) fl_X7_putItem_44 rfl dX7_putItem_124 ?_
    refine go_iload_n X dX7_putItem_127 1 rfl rfl ?_
    obtain ⟨c19, h⟩ := h
    refine go_iald X 2 1 rfl rfl c19 dX7_putItem_128 ?_
    refine go_icmp_eq X 138 dX7_putItem_129 (by decide) (fun c20 => ?_) (fun c20 => ?_)
    · replace h := h.1 c20
      exact hK v2 h
    · replace h := h.2 c20
      obtain ⟨y21, ey21⟩ : ∃ z : Int32, z = v2 + (-1) := ⟨_, rfl⟩
      replace h := h y21 ey21
      refine go_iinc X (lv' := [(2, .int y21), (0, .ref a_o), (1, .int v1)]) y21 dX7_putItem_132 2 rfl (by rw [ey21]; rfl) (by decide) rfl ?_
      refine go_goto X 111 dX7_putItem_135 (by decide) ?_
      refine go_lv [1, 2, 0] rfl ?_
      exact ih y21 h
set_option maxRecDepth 100000 in
set_option maxHeartbeats 4000000 in
theorem pX7_putItem_147 {p : Program} (l : Launch) {e : Env} {s : State} {m : MethodId} {args : Array Value} {below : List Frame} {meth : Method} {c : Code} {Q : State → Prop} {D : va_G} {cy : Nat → ClassId} {A : Nat → Prop} (X : Cx p s m args c cX7_putItem 4 RX7 wsX7_putItem D (tyL cy) A) (a_o : Nat) (a_o_tape : Nat) (a_o_sampleLong : Nat) (a_o_sampleByte : Nat) (a_o_idOf : Nat) (a_o_pieces : Nat) (a_o_pieceLong : Nat) (a_o_bytesOf : Nat) (a_o_dictionary : Nat) (a_o_covered : Nat) (a_o_taken : Nat) (a_o_row : Nat) (a_o_cost : Nat) (a_o_leastD : Nat) (a_o_out : Nat) (a_o_text : Nat) (o_thrown : Int32) (o_taped : Int32) (o_samples : Int32) (o_takenMany : Int32) (o_ahead : Int32) (o_textLong : Int32) (o_items : Int32) (o_matches : Int32) (o_textMany : Int32) (o_row : Nat → Int32) (o_cost : Nat → Int32) (o_leastD : Nat → Int32) (v1 : Int32) (v2 : Int32) (K : Int32 → (Nat → Int32) → Int32 → Prop) (hK : ∀ (o_outMany : Int32) (o_out : Nat → Int32) (v3 : Int32), K o_outMany o_out v3 → Go p l e rm_X7_putItem s m args below meth c Q 4 D A [(a_o, .inr (10, [.int o_thrown, .ref a_o_tape, .int o_taped, .int o_samples, .ref a_o_sampleLong, .ref a_o_sampleByte, .ref a_o_idOf, .ref a_o_pieces, .ref a_o_pieceLong, .ref a_o_bytesOf, .ref a_o_dictionary, .ref a_o_covered, .ref a_o_taken, .int o_takenMany, .ref a_o_row, .int o_ahead, .int o_textLong, .ref a_o_cost, .ref a_o_leastD, .ref a_o_out, .int o_outMany, .int o_items, .int o_matches, .ref a_o_text, .int o_textMany])), (a_o_row, .inl (cy 1, 280, .inl o_row)), (a_o_cost, .inl (cy 1, 201, .inl o_cost)), (a_o_leastD, .inl (cy 1, 2010, .inl o_leastD)), (a_o_out, .inl (cy 1, 400, .inl o_out))] 0 0 175 [(2, .int v2)] []) :
    ∀ (n : Nat) (o_outMany : Int32) (o_out : Nat → Int32) (v3 : Int32), wX7_putItem_147 o_ahead o_row v1 v2 K n o_outMany o_out v3 → Go p l e rm_X7_putItem s m args below meth c Q 4 D A [(a_o, .inr (10, [.int o_thrown, .ref a_o_tape, .int o_taped, .int o_samples, .ref a_o_sampleLong, .ref a_o_sampleByte, .ref a_o_idOf, .ref a_o_pieces, .ref a_o_pieceLong, .ref a_o_bytesOf, .ref a_o_dictionary, .ref a_o_covered, .ref a_o_taken, .int o_takenMany, .ref a_o_row, .int o_ahead, .int o_textLong, .ref a_o_cost, .ref a_o_leastD, .ref a_o_out, .int o_outMany, .int o_items, .int o_matches, .ref a_o_text, .int o_textMany])), (a_o_row, .inl (cy 1, 280, .inl o_row)), (a_o_cost, .inl (cy 1, 201, .inl o_cost)), (a_o_leastD, .inl (cy 1, 2010, .inl o_leastD)), (a_o_out, .inl (cy 1, 400, .inl o_out))] 0 0 147 [(0, .ref a_o), (1, .int v1), (2, .int v2), (3, .int v3)] [] := by
  intro n
  induction n with
  | zero => intro o_outMany o_out v3 h; exact absurd h id
  | succ n ih =>
    intro o_outMany o_out v3 h
    refine go_iload_n X dX7_putItem_147 3 rfl rfl ?_
    refine go_iload_n X dX7_putItem_148 2 rfl rfl ?_
    refine go_icmp_ge X 175 dX7_putItem_149 (by decide) (fun c27 => ?_) (fun c27 => ?_)
    · replace h := h.1 c27
      refine go_lv [2] rfl ?_
      exact hK o_outMany o_out v3 h
    · replace h := h.2 c27
      refine go_aload_n X dX7_putItem_152 0 rfl rfl ?_
      refine go_aload_n X dX7_putItem_153 0 rfl rfl ?_
      refine go_get X fi_X7_putItem_X7 0 rfl rfl 14 (by decide) fl_X7_putItem_41 rfl dX7_putItem_154 ?_
      refine go_aload_n X dX7_putItem_157 0 rfl rfl ?_
      refine go_get X fi_X7_putItem_X7 0 rfl rfl 15 (by decide) fl_X7_putItem_96 rfl dX7_putItem_158 ?_
      refine go_iload_n X dX7_putItem_161 1 rfl rfl ?_
      refine go_iadd X dX7_putItem_162 ?_
      refine go_iload_n X dX7_putItem_163 3 rfl rfl ?_
      refine go_iadd X dX7_putItem_164 ?_
      obtain ⟨c28, h⟩ := h
      refine go_iald X 1 1 rfl rfl c28 dX7_putItem_165 ?_
      refine go_callVv X (kX7_put l D cy a_o a_o_tape a_o_sampleLong a_o_sampleByte a_o_idOf a_o_pieces a_o_pieceLong a_o_bytesOf a_o_dictionary a_o_covered a_o_taken a_o_row a_o_cost a_o_leastD a_o_out a_o_text o_thrown o_taped o_samples o_takenMany o_ahead o_textLong o_outMany o_items o_matches o_textMany o_out (o_row ((o_ahead + v1) + v3).toNatClampNeg) _ h) (cwV 1 X.2.2.2.2.1 gX7_putItem_X7_put rfl rfl rfl cd_X7_put ⟨by decide, by decide⟩) (wr := [(a_o_row, .inl (cy 1, 280, .inl o_row)), (a_o_cost, .inl (cy 1, 201, .inl o_cost)), (a_o_leastD, .inl (cy 1, 2010, .inl o_leastD))]) (ws2 := fun u => [(a_o, .inr (10, [.int o_thrown, .ref a_o_tape, .int o_taped, .int o_samples, .ref a_o_sampleLong, .ref a_o_sampleByte, .ref a_o_idOf, .ref a_o_pieces, .ref a_o_pieceLong, .ref a_o_bytesOf, .ref a_o_dictionary, .ref a_o_covered, .ref a_o_taken, .int o_takenMany, .ref a_o_row, .int o_ahead, .int o_textLong, .ref a_o_cost, .ref a_o_leastD, .ref a_o_out, .int u.1, .int o_items, .int o_matches, .ref a_o_text, .int o_textMany])), (a_o_row, .inl (cy 1, 280, .inl o_row)), (a_o_cost, .inl (cy 1, 201, .inl o_cost)), (a_o_leastD, .inl (cy 1, 2010, .inl o_leastD)), (a_o_out, .inl (cy 1, 400, .inl u.2))]) (perm_idx [0, 4, 1, 2, 3] rfl rfl) (fun u => perm_idx [0, 2, 3, 4, 1] rfl rfl) rfl rfl rfl rfl (Nat.le_of_ble_eq_true rfl) dX7_putItem_166 ⟨by decide, by decide⟩ (fun u h => ?_)
      obtain ⟨s29, s30⟩ := u
      obtain ⟨y31, ey31⟩ : ∃ z : Int32, z = v3 + 1 := ⟨_, rfl⟩
      replace h := h y31 ey31
      refine go_iinc X (lv' := [(3, .int y31), (0, .ref a_o), (1, .int v1), (2, .int v2)]) y31 dX7_putItem_169 3 rfl (by rw [ey31]; rfl) (by decide) rfl ?_
      refine go_goto X 147 dX7_putItem_172 (by decide) ?_
      refine go_lv [1, 2, 3, 0] rfl ?_
      exact ih s29 s30 y31 h
set_option maxRecDepth 100000 in
set_option maxHeartbeats 4000000 in
theorem kX7_putItem (l : Launch) (D : va_G) (cy : Nat → ClassId) (a_o : Nat) (a_o_tape : Nat) (a_o_sampleLong : Nat) (a_o_sampleByte : Nat) (a_o_idOf : Nat) (a_o_pieces : Nat) (a_o_pieceLong : Nat) (a_o_bytesOf : Nat) (a_o_dictionary : Nat) (a_o_covered : Nat) (a_o_taken : Nat) (a_o_row : Nat) (a_o_cost : Nat) (a_o_leastD : Nat) (a_o_out : Nat) (a_o_text : Nat) (o_thrown : Int32) (o_taped : Int32) (o_samples : Int32) (o_takenMany : Int32) (o_ahead : Int32) (o_textLong : Int32) (o_outMany : Int32) (o_items : Int32) (o_matches : Int32) (o_textMany : Int32) (o_row : Nat → Int32) (o_cost : Nat → Int32) (o_leastD : Nat → Int32) (o_out : Nat → Int32) (p1 : Int32) (post : Int32 → Int32 → Int32 → (Nat → Int32) → Prop) (h : wX7_putItem o_ahead o_textLong o_outMany o_matches o_row o_cost o_leastD o_out p1 post) : MetI l yX7_putItem wsX7_putItem rm_X7_putItem D (tyL cy) [.ref a_o, .int p1] [(a_o, .inr (10, [.int o_thrown, .ref a_o_tape, .int o_taped, .int o_samples, .ref a_o_sampleLong, .ref a_o_sampleByte, .ref a_o_idOf, .ref a_o_pieces, .ref a_o_pieceLong, .ref a_o_bytesOf, .ref a_o_dictionary, .ref a_o_covered, .ref a_o_taken, .int o_takenMany, .ref a_o_row, .int o_ahead, .int o_textLong, .ref a_o_cost, .ref a_o_leastD, .ref a_o_out, .int o_outMany, .int o_items, .int o_matches, .ref a_o_text, .int o_textMany])), (a_o_row, .inl (cy 1, 280, .inl o_row)), (a_o_cost, .inl (cy 1, 201, .inl o_cost)), (a_o_leastD, .inl (cy 1, 2010, .inl o_leastD)), (a_o_out, .inl (cy 1, 400, .inl o_out))] (fun u : Int32 × Int32 × (Nat → Int32) => [(a_o, .inr (10, [.int o_thrown, .ref a_o_tape, .int o_taped, .int o_samples, .ref a_o_sampleLong, .ref a_o_sampleByte, .ref a_o_idOf, .ref a_o_pieces, .ref a_o_pieceLong, .ref a_o_bytesOf, .ref a_o_dictionary, .ref a_o_covered, .ref a_o_taken, .int o_takenMany, .ref a_o_row, .int o_ahead, .int o_textLong, .ref a_o_cost, .ref a_o_leastD, .ref a_o_out, .int u.1, .int o_items, .int u.2.1, .ref a_o_text, .int o_textMany])), (a_o_row, .inl (cy 1, 280, .inl o_row)), (a_o_cost, .inl (cy 1, 201, .inl o_cost)), (a_o_leastD, .inl (cy 1, 2010, .inl o_leastD)), (a_o_out, .inl (cy 1, 400, .inl u.2.2))]) (fun r => fun (u : Int32 × Int32 × (Nat → Int32)) => post r u.1 u.2.1 u.2.2) 0 0 := by
  refine metI_of (cc := cX7_putItem) (maxL := 4) (lv := [(0, .ref a_o), (1, .int p1)]) (by decide) rfl (Nat.le_of_ble_eq_true rfl) rfl ?_
  intro p e s m below meth c Q A X hlk hR
  unfold wX7_putItem at h
  refine go_bipush X (v := 9) dX7_putItem_0 (by decide) ?_
  refine go_istore_n X (lv' := [(2, .int 9), (0, .ref a_o), (1, .int p1)]) dX7_putItem_2 rfl (by decide) rfl ?_
  obtain ⟨n43, h⟩ := h
  refine go_lv [1, 2, 0] rfl ?_
  refine pX7_putItem_3 l X a_o a_o_tape a_o_sampleLong a_o_sampleByte a_o_idOf a_o_pieces a_o_pieceLong a_o_bytesOf a_o_dictionary a_o_covered a_o_taken a_o_row a_o_cost a_o_leastD a_o_out a_o_text o_thrown o_taped o_samples o_takenMany o_ahead o_textLong o_outMany o_items o_matches o_textMany o_row o_cost o_leastD o_out p1 post hR _ (fun y1 h => ?_) n43 (9 : Int32) h
  refine go_aload_n X dX7_putItem_88 0 rfl rfl ?_
  refine go_get X fi_X7_putItem_X7 0 rfl rfl 16 (by decide) fl_X7_putItem_103 rfl dX7_putItem_89 ?_
  refine go_iload_n X dX7_putItem_92 1 rfl rfl ?_
  refine go_isub X dX7_putItem_93 ?_
  refine go_bipush X (v := 32) dX7_putItem_94 (by decide) ?_
  refine go_icmp_ge X 108 dX7_putItem_96 (by decide) (fun c16 => ?_) (fun c16 => ?_)
  · replace h := h.1 c16
    refine go_bipush X (v := 32) dX7_putItem_108 (by decide) ?_
    refine go_istore_n X (lv' := [(2, .int 32), (0, .ref a_o), (1, .int p1)]) dX7_putItem_110 rfl (by decide) rfl ?_
    obtain ⟨n33, h⟩ := h
    refine go_lv [1, 2, 0] rfl ?_
    refine pX7_putItem_111 l X a_o a_o_tape a_o_sampleLong a_o_sampleByte a_o_idOf a_o_pieces a_o_pieceLong a_o_bytesOf a_o_dictionary a_o_covered a_o_taken a_o_row a_o_cost a_o_leastD a_o_out a_o_text o_thrown o_taped o_samples o_takenMany o_ahead o_textLong o_outMany o_items o_matches o_textMany o_row o_cost o_leastD o_out p1  _ (fun y17 h => ?_) n33 (32 : Int32) h
    refine go_aload_n X dX7_putItem_138 0 rfl rfl ?_
    refine go_iload_n X dX7_putItem_139 2 rfl rfl ?_
    refine go_iconst X (v := 1) dX7_putItem_140 (by decide) ?_
    refine go_isub X dX7_putItem_141 ?_
    refine go_callVv X (kX7_put l D cy a_o a_o_tape a_o_sampleLong a_o_sampleByte a_o_idOf a_o_pieces a_o_pieceLong a_o_bytesOf a_o_dictionary a_o_covered a_o_taken a_o_row a_o_cost a_o_leastD a_o_out a_o_text o_thrown o_taped o_samples o_takenMany o_ahead o_textLong o_outMany o_items o_matches o_textMany o_out (y17 - 1) _ h) (cwV 1 X.2.2.2.2.1 gX7_putItem_X7_put rfl rfl rfl cd_X7_put ⟨by decide, by decide⟩) (wr := [(a_o_row, .inl (cy 1, 280, .inl o_row)), (a_o_cost, .inl (cy 1, 201, .inl o_cost)), (a_o_leastD, .inl (cy 1, 2010, .inl o_leastD))]) (ws2 := fun u => [(a_o, .inr (10, [.int o_thrown, .ref a_o_tape, .int o_taped, .int o_samples, .ref a_o_sampleLong, .ref a_o_sampleByte, .ref a_o_idOf, .ref a_o_pieces, .ref a_o_pieceLong, .ref a_o_bytesOf, .ref a_o_dictionary, .ref a_o_covered, .ref a_o_taken, .int o_takenMany, .ref a_o_row, .int o_ahead, .int o_textLong, .ref a_o_cost, .ref a_o_leastD, .ref a_o_out, .int u.1, .int o_items, .int o_matches, .ref a_o_text, .int o_textMany])), (a_o_row, .inl (cy 1, 280, .inl o_row)), (a_o_cost, .inl (cy 1, 201, .inl o_cost)), (a_o_leastD, .inl (cy 1, 2010, .inl o_leastD)), (a_o_out, .inl (cy 1, 400, .inl u.2))]) (perm_idx [0, 4, 1, 2, 3] rfl rfl) (fun u => perm_idx [0, 2, 3, 4, 1] rfl rfl) rfl rfl rfl rfl (Nat.le_of_ble_eq_true rfl) dX7_putItem_142 ⟨by decide, by decide⟩ (fun u h => ?_)
    obtain ⟨s22, s23⟩ := u
    refine go_iconst X (v := 0) dX7_putItem_145 (by decide) ?_
    refine go_istore_n X (lv' := [(3, .int 0), (0, .ref a_o), (1, .int p1), (2, .int y17)]) dX7_putItem_146 rfl (by decide) rfl ?_
    obtain ⟨n32, h⟩ := h
    refine go_lv [1, 2, 3, 0] rfl ?_
    refine pX7_putItem_147 l X a_o a_o_tape a_o_sampleLong a_o_sampleByte a_o_idOf a_o_pieces a_o_pieceLong a_o_bytesOf a_o_dictionary a_o_covered a_o_taken a_o_row a_o_cost a_o_leastD a_o_out a_o_text o_thrown o_taped o_samples o_takenMany o_ahead o_textLong o_items o_matches o_textMany o_row o_cost o_leastD p1 y17  _ (fun s24 s25 y26 h => ?_) n32 s22 s23 (0 : Int32) h
    refine go_iload_n X dX7_putItem_175 0 rfl rfl ?_
    exact hR y17 (s24, o_matches, s25) 176 _ dX7_putItem_176 rfl h
  · replace h := h.2 c16
    refine go_aload_n X dX7_putItem_99 0 rfl rfl ?_
    refine go_get X fi_X7_putItem_X7 0 rfl rfl 16 (by decide) fl_X7_putItem_103 rfl dX7_putItem_100 ?_
    refine go_iload_n X dX7_putItem_103 1 rfl rfl ?_
    refine go_isub X dX7_putItem_104 ?_
    refine go_goto X 110 dX7_putItem_105 (by decide) ?_
    refine go_topi (fun y34 ey34 => ?_)
    replace h := h y34 ey34
    refine go_istore_n X (lv' := [(2, .int y34), (0, .ref a_o), (1, .int p1)]) dX7_putItem_110 rfl (by decide) rfl ?_
    obtain ⟨n42, h⟩ := h
    refine go_lv [1, 2, 0] rfl ?_
    refine pX7_putItem_111 l X a_o a_o_tape a_o_sampleLong a_o_sampleByte a_o_idOf a_o_pieces a_o_pieceLong a_o_bytesOf a_o_dictionary a_o_covered a_o_taken a_o_row a_o_cost a_o_leastD a_o_out a_o_text o_thrown o_taped o_samples o_takenMany o_ahead o_textLong o_outMany o_items o_matches o_textMany o_row o_cost o_leastD o_out p1  _ (fun y35 h => ?_) n42 y34 h
    refine go_aload_n X dX7_putItem_138 0 rfl rfl ?_
    refine go_iload_n X dX7_putItem_139 2 rfl rfl ?_
    refine go_iconst X (v := 1) dX7_putItem_140 (by decide) ?_
    refine go_isub X dX7_putItem_141 ?_
    refine go_callVv X (kX7_put l D cy a_o a_o_tape a_o_sampleLong a_o_sampleByte a_o_idOf a_o_pieces a_o_pieceLong a_o_bytesOf a_o_dictionary a_o_covered a_o_taken a_o_row a_o_cost a_o_leastD a_o_out a_o_text o_thrown o_taped o_samples o_takenMany o_ahead o_textLong o_outMany o_items o_matches o_textMany o_out (y35 - 1) _ h) (cwV 1 X.2.2.2.2.1 gX7_putItem_X7_put rfl rfl rfl cd_X7_put ⟨by decide, by decide⟩) (wr := [(a_o_row, .inl (cy 1, 280, .inl o_row)), (a_o_cost, .inl (cy 1, 201, .inl o_cost)), (a_o_leastD, .inl (cy 1, 2010, .inl o_leastD))]) (ws2 := fun u => [(a_o, .inr (10, [.int o_thrown, .ref a_o_tape, .int o_taped, .int o_samples, .ref a_o_sampleLong, .ref a_o_sampleByte, .ref a_o_idOf, .ref a_o_pieces, .ref a_o_pieceLong, .ref a_o_bytesOf, .ref a_o_dictionary, .ref a_o_covered, .ref a_o_taken, .int o_takenMany, .ref a_o_row, .int o_ahead, .int o_textLong, .ref a_o_cost, .ref a_o_leastD, .ref a_o_out, .int u.1, .int o_items, .int o_matches, .ref a_o_text, .int o_textMany])), (a_o_row, .inl (cy 1, 280, .inl o_row)), (a_o_cost, .inl (cy 1, 201, .inl o_cost)), (a_o_leastD, .inl (cy 1, 2010, .inl o_leastD)), (a_o_out, .inl (cy 1, 400, .inl u.2))]) (perm_idx [0, 4, 1, 2, 3] rfl rfl) (fun u => perm_idx [0, 2, 3, 4, 1] rfl rfl) rfl rfl rfl rfl (Nat.le_of_ble_eq_true rfl) dX7_putItem_142 ⟨by decide, by decide⟩ (fun u h => ?_)
    obtain ⟨s36, s37⟩ := u
    refine go_iconst X (v := 0) dX7_putItem_145 (by decide) ?_
    refine go_istore_n X (lv' := [(3, .int 0), (0, .ref a_o), (1, .int p1), (2, .int y35)]) dX7_putItem_146 rfl (by decide) rfl ?_
    obtain ⟨n41, h⟩ := h
    refine go_lv [1, 2, 3, 0] rfl ?_
    refine pX7_putItem_147 l X a_o a_o_tape a_o_sampleLong a_o_sampleByte a_o_idOf a_o_pieces a_o_pieceLong a_o_bytesOf a_o_dictionary a_o_covered a_o_taken a_o_row a_o_cost a_o_leastD a_o_out a_o_text o_thrown o_taped o_samples o_takenMany o_ahead o_textLong o_items o_matches o_textMany o_row o_cost o_leastD p1 y35  _ (fun s38 s39 y40 h => ?_) n41 s36 s37 (0 : Int32) h
    refine go_iload_n X dX7_putItem_175 0 rfl rfl ?_
    exact hR y35 (s38, o_matches, s39) 176 _ dX7_putItem_176 rfl h
