/-! X7_putItem -/
theorem fi_X7_putItem_X7 : ∀ w ∈ u_ws RX7 TX7 25, w ∈ wsX7_putItem := by decide +kernel
theorem fl_X7_putItem_47 : Cond.fieldLink RX7 47 (TX7 18).1 (TX7 18).2.1 (TX7 18).2.2.1 ∈ wsX7_putItem := by decide +kernel
theorem fl_X7_putItem_44 : Cond.fieldLink RX7 44 (TX7 17).1 (TX7 17).2.1 (TX7 17).2.2.1 ∈ wsX7_putItem := by decide +kernel
theorem fl_X7_putItem_147 : Cond.fieldLink RX7 147 (TX7 22).1 (TX7 22).2.1 (TX7 22).2.2.1 ∈ wsX7_putItem := by decide +kernel
theorem fl_X7_putItem_103 : Cond.fieldLink RX7 103 (TX7 16).1 (TX7 16).2.1 (TX7 16).2.2.1 ∈ wsX7_putItem := by decide +kernel
theorem fl_X7_putItem_41 : Cond.fieldLink RX7 41 (TX7 14).1 (TX7 14).2.1 (TX7 14).2.2.1 ∈ wsX7_putItem := by decide +kernel
theorem fl_X7_putItem_96 : Cond.fieldLink RX7 96 (TX7 15).1 (TX7 15).2.1 (TX7 15).2.2.1 ∈ wsX7_putItem := by decide +kernel
def rm_X7_putItem : Room := { frames := 1, cells := 0, slots := 0, locals := 21 }
theorem cd_X7_putItem : yX7_putItem.cls = RX7 ∧ yX7_putItem.cls ≠ "java/lang/invoke/MethodHandle" ∧ yX7_putItem.cls ≠ "java/lang/invoke/VarHandle" ∧ (parseMethodDescriptor yX7_putItem.desc).map (fun d => d.parameters.length) = some 1 := by decide +kernel
set_option maxRecDepth 100000 in
set_option maxHeartbeats 4000000 in
theorem pX7_putItem_3 {p : Program} (l : Launch) {e : Env} {s : State} {m : MethodId} {args : Array Value} {below : List Frame} {meth : Method} {c : Code} {Q : State → Prop} {D : va_G} {cy : Nat → ClassId} {A : Nat → Prop} (X : Cx p s m args c cX7_putItem 4 RX7 wsX7_putItem D (tyL cy) A) (a_o : Nat) (a_o_tape : Nat) (a_o_sampleLong : Nat) (a_o_sampleByte : Nat) (a_o_idOf : Nat) (a_o_pieces : Nat) (a_o_pieceLong : Nat) (a_o_bytesOf : Nat) (a_o_dictionary : Nat) (a_o_covered : Nat) (a_o_taken : Nat) (a_o_row : Nat) (a_o_cost : Nat) (a_o_leastD : Nat) (a_o_out : Nat) (a_o_text : Nat) (o_thrown : Int32) (o_taped : Int32) (o_samples : Int32) (o_takenMany : Int32) (o_ahead : Int32) (o_textLong : Int32) (o_outMany : Int32) (o_items : Int32) (o_matches : Int32) (o_textMany : Int32) (o_row : Nat → Int32) (o_cost : Nat → Int32) (o_leastD : Nat → Int32) (o_out : Nat → Int32) (v1 : Int32) (post : Int32 → Int32 → Int32 → (Nat → Int32) → Prop) (hR : RtI p l e rm_X7_putItem s m args below meth c cX7_putItem Q 4 D A .int (fun u : Int32 × Int32 × (Nat → Int32) => [(a_o, .inr (10, [.int o_thrown, .ref a_o_tape, .int o_taped, .int o_samples, .ref a_o_sampleLong, .ref a_o_sampleByte, .ref a_o_idOf, .ref a_o_pieces, .ref a_o_pieceLong, .ref a_o_bytesOf, .ref a_o_dictionary, .ref a_o_covered, .ref a_o_taken, .int o_takenMany, .ref a_o_row, .int o_ahead, .int o_textLong, .ref a_o_cost, .ref a_o_leastD, .ref a_o_out, .int u.1, .int o_items, .int u.2.1, .ref a_o_text, .int o_textMany])), (a_o_row, .inl (cy 1, 280, .inl o_row)), (a_o_cost, .inl (cy 1, 201, .inl o_cost)), (a_o_leastD, .inl (cy 1, 2010, .inl o_leastD)), (a_o_out, .inl (cy 1, 400, .inl u.2.2))]) (fun r => fun (u : Int32 × Int32 × (Nat → Int32)) => post r u.1 u.2.1 u.2.2) 0 0) (K : Int32 → Prop) (hK : ∀ (v2 : Int32), K v2 → Go p l e rm_X7_putItem s m args below meth c Q 4 D A [(a_o, .inr (10, [.int o_thrown, .ref a_o_tape, .int o_taped, .int o_samples, .ref a_o_sampleLong, .ref a_o_sampleByte, .ref a_o_idOf, .ref a_o_pieces, .ref a_o_pieceLong, .ref a_o_bytesOf, .ref a_o_dictionary, .ref a_o_covered, .ref a_o_taken, .int o_takenMany, .ref a_o_row, .int o_ahead, .int o_textLong, .ref a_o_cost, .ref a_o_leastD, .ref a_o_out, .int o_outMany, .int o_items, .int o_matches, .ref a_o_text, .int o_textMany])), (a_o_row, .inl (cy 1, 280, .inl o_row)), (a_o_cost, .inl (cy 1, 201, .inl o_cost)), (a_o_leastD, .inl (cy 1, 2010, .inl o_leastD)), (a_o_out, .inl (cy 1, 400, .inl o_out))] 0 0 88 [(0, .ref a_o), (1, .int v1)] []) :
    ∀ (n : Nat) (v2 : Int32), wX7_putItem_3 o_outMany o_matches o_cost o_leastD o_out v1 post K n v2 → Go p l e rm_X7_putItem s m args below meth c Q 4 D A [(a_o, .inr (10, [.int o_thrown, .ref a_o_tape, .int o_taped, .int o_samples, .ref a_o_sampleLong, .ref a_o_sampleByte, .ref a_o_idOf, .ref a_o_pieces, .ref a_o_pieceLong, .ref a_o_bytesOf, .ref a_o_dictionary, .ref a_o_covered, .ref a_o_taken, .int o_takenMany, .ref a_o_row, .int o_ahead, .int o_textLong, .ref a_o_cost, .ref a_o_leastD, .ref a_o_out, .int o_outMany, .int o_items, .int o_matches, .ref a_o_text, .int o_textMany])), (a_o_row, .inl (cy 1, 280, .inl o_row)), (a_o_cost, .inl (cy 1, 201, .inl o_cost)), (a_o_leastD, .inl (cy 1, 2010, .inl o_leastD)), (a_o_out, .inl (cy 1, 400, .inl o_out))] 0 0 3 [(0, .ref a_o), (1, .int v1), (2, .int v2)] [] := by
  intro n
  induction n with
  | zero => intro v2 h; exact absurd h id
  | succ n ih =>
    intro v2 h
    refine go_iload_n X dX7_putItem_3 2 rfl rfl ?_
    refine go_iconst X (v := 3) dX7_putItem_4 (by decide) ?_
    refine go_icmp_lt X 88 dX7_putItem_5 (by decide) (fun c2 => ?_) (fun c2 => ?_)
    · replace h := h.1 c2
      refine go_lv [0, 1] rfl ?_
      exact hK v2 h
    · replace h := h.2 c2
      refine go_aload_n X dX7_putItem_8 0 rfl rfl ?_
      refine go_get X fi_X7_putItem_X7 0 rfl rfl 18 (by decide) fl_X7_putItem_47 rfl dX7_putItem_9 ?_
      refine go_bipush X (v := 10) dX7_putItem_12 (by decide) ?_
      refine go_iload_n X dX7_putItem_14 1 rfl rfl ?_
      refine go_imul X dX7_putItem_15 ?_
      refine go_iload_n X dX7_putItem_16 2 rfl rfl ?_
      refine go_iadd X dX7_putItem_17 ?_
      obtain ⟨c3, h⟩ := h
      refine go_iald X 3 1 rfl rfl c3 dX7_putItem_18 ?_
      refine go_iconst X (v := 1) dX7_putItem_19 (by decide) ?_
      refine go_isub X dX7_putItem_20 ?_
      refine go_topi (fun y4 ey4 => ?_)
      replace h := h y4 ey4
      refine go_istore_n X (lv' := [(3, .int y4), (0, .ref a_o), (1, .int v1), (2, .int v2)]) dX7_putItem_21 rfl (by decide) rfl ?_
      refine go_iload_n X dX7_putItem_22 0 rfl rfl ?_
      refine go_if_lt X 82 dX7_putItem_23 (by decide) (fun c5 => ?_) (fun c5 => ?_)
      · replace h := h.1 c5
        obtain ⟨y6, ey6⟩ : ∃ z : Int32, z = v2 + (-1) := ⟨_, rfl⟩
        replace h := h y6 ey6
        refine go_iinc X (lv' := [(2, .int y6), (3, .int y4), (0, .ref a_o), (1, .int v1)]) y6 dX7_putItem_82 3 rfl (by rw [ey6]; rfl) (by decide) rfl ?_
        refine go_goto X 3 dX7_putItem_85 (by decide) ?_
        refine go_lv [2, 3, 0] rfl ?_
        exact ih y6 h
      · replace h := h.2 c5
        refine go_iconst X (v := 2) dX7_putItem_26 (by decide) ?_
        refine go_aload_n X dX7_putItem_27 1 rfl rfl ?_
        refine go_get X fi_X7_putItem_X7 0 rfl rfl 17 (by decide) fl_X7_putItem_44 rfl dX7_putItem_28 ?_
        refine go_iload_n X dX7_putItem_31 2 rfl rfl ?_
        refine go_iload_n X dX7_putItem_32 3 rfl rfl ?_
        refine go_iadd X dX7_putItem_33 ?_
        obtain ⟨c7, h⟩ := h
        refine go_iald X 2 1 rfl rfl c7 dX7_putItem_34 ?_
        refine go_iadd X dX7_putItem_35 ?_
        refine go_aload_n X dX7_putItem_36 1 rfl rfl ?_
        refine go_get X fi_X7_putItem_X7 0 rfl rfl 17 (by decide) fl_X7_putItem_44 rfl dX7_putItem_37 ?_
        refine go_iload_n X dX7_putItem_40 2 rfl rfl ?_
        obtain ⟨c8, h⟩ := h
        refine go_iald X 2 1 rfl rfl c8 dX7_putItem_41 ?_
        refine go_icmp_ne X 82 dX7_putItem_42 (by decide) (fun c9 => ?_) (fun c9 => ?_)
        · replace h := h.1 c9
          obtain ⟨y10, ey10⟩ : ∃ z : Int32, z = v2 + (-1) := ⟨_, rfl⟩
          replace h := h y10 ey10
          refine go_iinc X (lv' := [(2, .int y10), (3, .int y4), (0, .ref a_o), (1, .int v1)]) y10 dX7_putItem_82 3 rfl (by rw [ey10]; rfl) (by decide) rfl ?_
          refine go_goto X 3 dX7_putItem_85 (by decide) ?_
          refine go_lv [2, 3, 0] rfl ?_
          exact ih y10 h
        · replace h := h.2 c9
          refine go_aload_n X dX7_putItem_45 1 rfl rfl ?_
          refine go_bipush X (v := 32) dX7_putItem_46 (by decide) ?_
          refine go_iload_n X dX7_putItem_48 3 rfl rfl ?_
          refine go_iconst X (v := 2) dX7_putItem_49 (by decide) ?_
          refine go_isub X dX7_putItem_50 ?_
          refine go_imul X dX7_putItem_51 ?_
          refine go_iload_n X dX7_putItem_52 0 rfl rfl ?_
          refine go_sipush X (v := 256) dX7_putItem_53 (by decide) ?_
          refine go_idiv X dX7_putItem_56 (by decide) ?_
          refine go_iadd X dX7_putItem_57 ?_
          refine go_callVv X (kX7_put l D cy a_o a_o_tape a_o_sampleLong a_o_sampleByte a_o_idOf a_o_pieces a_o_pieceLong a_o_bytesOf a_o_dictionary a_o_covered a_o_taken a_o_row a_o_cost a_o_leastD a_o_out a_o_text o_thrown o_taped o_samples o_takenMany o_ahead o_textLong o_outMany o_items o_matches o_textMany o_out ((32 * (v2 - 2)) + (y4 / 256)) _ h) (cwV 1 X.2.2.2.2.1 gX7_putItem_X7_put rfl rfl rfl cd_X7_put ⟨by decide, by decide⟩) (wr := [(a_o_row, .inl (cy 1, 280, .inl o_row)), (a_o_cost, .inl (cy 1, 201, .inl o_cost)), (a_o_leastD, .inl (cy 1, 2010, .inl o_leastD))]) (ws2 := fun u => [(a_o, .inr (10, [.int o_thrown, .ref a_o_tape, .int o_taped, .int o_samples, .ref a_o_sampleLong, .ref a_o_sampleByte, .ref a_o_idOf, .ref a_o_pieces, .ref a_o_pieceLong, .ref a_o_bytesOf, .ref a_o_dictionary, .ref a_o_covered, .ref a_o_taken, .int o_takenMany, .ref a_o_row, .int o_ahead, .int o_textLong, .ref a_o_cost, .ref a_o_leastD, .ref a_o_out, .int u.1, .int o_items, .int o_matches, .ref a_o_text, .int o_textMany])), (a_o_row, .inl (cy 1, 280, .inl o_row)), (a_o_cost, .inl (cy 1, 201, .inl o_cost)), (a_o_leastD, .inl (cy 1, 2010, .inl o_leastD)), (a_o_out, .inl (cy 1, 400, .inl u.2))]) (perm_idx [0, 4, 1, 2, 3] rfl rfl) (fun u => perm_idx [0, 2, 3, 4, 1] rfl rfl) rfl rfl rfl rfl (Nat.le_of_ble_eq_true rfl) dX7_putItem_58 ⟨by decide, by decide⟩ (fun u h => ?_)
          obtain ⟨s11, s12⟩ := u
          refine go_aload_n X dX7_putItem_61 1 rfl rfl ?_
          refine go_iload_n X dX7_putItem_62 0 rfl rfl ?_
          refine go_sipush X (v := 256) dX7_putItem_63 (by decide) ?_
          refine go_irem X dX7_putItem_66 (by decide) ?_
          refine go_callVv X (kX7_put l D cy a_o a_o_tape a_o_sampleLong a_o_sampleByte a_o_idOf a_o_pieces a_o_pieceLong a_o_bytesOf a_o_dictionary a_o_covered a_o_taken a_o_row a_o_cost a_o_leastD a_o_out a_o_text o_thrown o_taped o_samples o_takenMany o_ahead o_textLong s11 o_items o_matches o_textMany s12 (y4 - y4 / 256 * 256) _ h) (cwV 1 X.2.2.2.2.1 gX7_putItem_X7_put rfl rfl rfl cd_X7_put ⟨by decide, by decide⟩) (wr := [(a_o_row, .inl (cy 1, 280, .inl o_row)), (a_o_cost, .inl (cy 1, 201, .inl o_cost)), (a_o_leastD, .inl (cy 1, 2010, .inl o_leastD))]) (ws2 := fun u => [(a_o, .inr (10, [.int o_thrown, .ref a_o_tape, .int o_taped, .int o_samples, .ref a_o_sampleLong, .ref a_o_sampleByte, .ref a_o_idOf, .ref a_o_pieces, .ref a_o_pieceLong, .ref a_o_bytesOf, .ref a_o_dictionary, .ref a_o_covered, .ref a_o_taken, .int o_takenMany, .ref a_o_row, .int o_ahead, .int o_textLong, .ref a_o_cost, .ref a_o_leastD, .ref a_o_out, .int u.1, .int o_items, .int o_matches, .ref a_o_text, .int o_textMany])), (a_o_row, .inl (cy 1, 280, .inl o_row)), (a_o_cost, .inl (cy 1, 201, .inl o_cost)), (a_o_leastD, .inl (cy 1, 2010, .inl o_leastD)), (a_o_out, .inl (cy 1, 400, .inl u.2))]) (perm_idx [0, 4, 1, 2, 3] rfl rfl) (fun u => perm_idx [0, 2, 3, 4, 1] rfl rfl) rfl rfl rfl rfl (Nat.le_of_ble_eq_true rfl) dX7_putItem_67 ⟨by decide, by decide⟩ (fun u h => ?_)
          obtain ⟨s13, s14⟩ := u
          refine go_aload_n X dX7_putItem_70 1 rfl rfl ?_
          refine go_dup X dX7_putItem_71 rfl ?_
          refine go_get X fi_X7_putItem_X7 0 rfl rfl 22 (by decide) fl_X7_putItem_147 rfl dX7_putItem_72 ?_
          refine go_iconst X (v := 1) dX7_putItem_75 (by decide) ?_
          refine go_iadd X dX7_putItem_76 ?_
          refine go_topi (fun y15 ey15 => ?_)
          replace h := h y15 ey15
          refine go_put X (ws' := [(a_o, .inr (10, [.int o_thrown, .ref a_o_tape, .int o_taped, .int o_samples, .ref a_o_sampleLong, .ref a_o_sampleByte, .ref a_o_idOf, .ref a_o_pieces, .ref a_o_pieceLong, .ref a_o_bytesOf, .ref a_o_dictionary, .ref a_o_covered, .ref a_o_taken, .int o_takenMany, .ref a_o_row, .int o_ahead, .int o_textLong, .ref a_o_cost, .ref a_o_leastD, .ref a_o_out, .int s13, .int o_items, .int y15, .ref a_o_text, .int o_textMany])), (a_o_row, .inl (cy 1, 280, .inl o_row)), (a_o_cost, .inl (cy 1, 201, .inl o_cost)), (a_o_leastD, .inl (cy 1, 2010, .inl o_leastD)), (a_o_out, .inl (cy 1, 400, .inl s14))]) fi_X7_putItem_X7 tyX7 tyX7_ok nmX7 0 rfl rfl 22 (by decide) fl_X7_putItem_147 rfl (tyX7_ok 22 (by decide)) rfl rfl (Nat.le_of_ble_eq_true rfl) rfl dX7_putItem_77 ?_
          refine go_iload_n X dX7_putItem_80 3 rfl rfl ?_
          exact hR v2 (s13, y15, s14) 81 _ dX7_putItem_81 rfl h
set_option maxRecDepth 100000 in
set_option maxHeartbeats 4000000 in
theorem pX7_putItem_111 {p : Program} (l : Launch) {e : Env} {s : State} {m : MethodId} {args : Array Value} {below : List Frame} {meth : Method} {c : Code} {Q : State → Prop} {D : va_G} {cy : Nat → ClassId} {A : Nat → Prop} (X : Cx p s m args c cX7_putItem 4 RX7 wsX7_putItem D (tyL cy) A) (a_o : Nat) (a_o_tape : Nat) (a_o_sampleLong : Nat) (a_o_sampleByte : Nat) (a_o_idOf : Nat) (a_o_pieces : Nat) (a_o_pieceLong : Nat) (a_o_bytesOf : Nat) (a_o_dictionary : Nat) (a_o_covered : Nat) (a_o_taken : Nat) (a_o_row : Nat) (a_o_cost : Nat) (a_o_leastD : Nat) (a_o_out : Nat) (a_o_text : Nat) (o_thrown : Int32) (o_taped : Int32) (o_samples : Int32) (o_takenMany : Int32) (o_ahead : Int32) (o_textLong : Int32) (o_outMany : Int32) (o_items : Int32) (o_matches : Int32) (o_textMany : Int32) (o_row : Nat → Int32) (o_cost : Nat → Int32) (o_leastD : Nat → Int32) (o_out : Nat → Int32) (v1 : Int32) (K : Int32 → Prop) (hK : ∀ (v2 : Int32), K v2 → Go p l e rm_X7_putItem s m args below meth c Q 4 D A [(a_o, .inr (10, [.int o_thrown, .ref a_o_tape, .int o_taped, .int o_samples, .ref a_o_sampleLong, .ref a_o_sampleByte, .ref a_o_idOf, .ref a_o_pieces, .ref a_o_pieceLong, .ref a_o_bytesOf, .ref a_o_dictionary, .ref a_o_covered, .ref a_o_taken, .int o_takenMany, .ref a_o_row, .int o_ahead, .int o_textLong, .ref a_o_cost, .ref a_o_leastD, .ref a_o_out, .int o_outMany, .int o_items, .int o_matches, .ref a_o_text, .int o_textMany])), (a_o_row, .inl (cy 1, 280, .inl o_row)), (a_o_cost, .inl (cy 1, 201, .inl o_cost)), (a_o_leastD, .inl (cy 1, 2010, .inl o_leastD)), (a_o_out, .inl (cy 1, 400, .inl o_out))] 0 0 138 [(0, .ref a_o), (1, .int v1), (2, .int v2)] []) :
    ∀ (n : Nat) (v2 : Int32), wX7_putItem_111 o_cost v1 K n v2 → Go p l e rm_X7_putItem s m args below meth c Q 4 D A [(a_o, .inr (10, [.int o_thrown, .ref a_o_tape, .int o_taped, .int o_samples, .ref a_o_sampleLong, .ref a_o_sampleByte, .ref a_o_idOf, .ref a_o_pieces, .ref a_o_pieceLong, .ref a_o_bytesOf, .ref a_o_dictionary, .ref a_o_covered, .ref a_o_taken, .int o_takenMany, .ref a_o_row, .int o_ahead, .int o_textLong, .ref a_o_cost, .ref a_o_leastD, .ref a_o_out, .int o_outMany, .int o_items, .int o_matches, .ref a_o_text, .int o_textMany])), (a_o_row, .inl (cy 1, 280, .inl o_row)), (a_o_cost, .inl (cy 1, 201, .inl o_cost)), (a_o_leastD, .inl (cy 1, 2010, .inl o_leastD)), (a_o_out, .inl (cy 1, 400, .inl o_out))] 0 0 111 [(0, .ref a_o), (1, .int v1), (2, .int v2)] [] := by
  intro n
  induction n with
  | zero => intro v2 h; exact absurd h id
  | succ n ih =>
    intro v2 h
    refine go_iconst X (v := 1) dX7_putItem_111 (by decide) ?_
    refine go_iload_n X dX7_putItem_112 2 rfl rfl ?_
    refine go_iadd X dX7_putItem_113 ?_
    refine go_aload_n X dX7_putItem_114 0 rfl rfl ?_
    refine go_get X fi_X7_putItem_X7 0 rfl rfl 17 (by decide) fl_X7_putItem_44 rfl dX7_putItem_115 ?_
    refine go_iload_n X dX7_putItem_118 1 rfl rfl ?_
    refine go_iload_n X dX7_putItem_119 2 rfl rfl ?_
    refine go_iadd X dX7_putItem_120 ?_
    obtain ⟨c18, h⟩ := h
    refine go_iald X 2 1 rfl rfl c18 dX7_putItem_121 ?_
    refine go_iadd X dX7_putItem_122 ?_
    refine go_aload_n X dX7_putItem_123 0 rfl rfl ?_
    refine go_get X fi_X7_putItem_X7 0 rfl rfl 17 (by decide) fl_X7_putItem_44 rfl dX7_putItem_124 ?_
    refine go_iload_n X dX7_putItem_127 1 rfl rfl ?_
    obtain ⟨c19, h⟩ := h
    refine go_iald X 2 1 rfl rfl c19 dX7_putItem_128 ?_
    refine go_icmp_eq X 138 dX7_putItem_129 (by decide) (fun c20 => ?_) (fun c20 => ?_)
    · replace h := h.1 c20
      exact hK v2 h
    · replace h := h.2 c20
      obtain ⟨y21, ey21⟩ : ∃ z : Int32, z = v2 + (-1) := ⟨_, rfl⟩
      replace h := h y21 ey21
      refine go_iinc X (lv' := [(2, .int y21), (0, .ref a_o), (1, .int v1)]) y21 dX7_putItem_132 2 rfl (by rw [ey21]; rfl) (by decide) rfl ?_
      refine go_goto X 111 dX7_putItem_135 (by decide) ?_
      refine go_lv [1, 2, 0] rfl ?_
      exact ih y21 h
set_option maxRecDepth 100000 in
set_option maxHeartbeats 4000000 in
theorem pX7_putItem_147 {p : Program} (l : Launch) {e : Env} {s : State} {m : MethodId} {args : Array Value} {below : List Frame} {meth : Method} {c : Code} {Q : State → Prop} {D : va_G} {cy : Nat → ClassId} {A : Nat → Prop} (X : Cx p s m args c cX7_putItem 4 RX7 wsX7_putItem D (tyL cy) A) (a_o : Nat) (a_o_tape : Nat) (a_o_sampleLong : Nat) (a_o_sampleByte : Nat) (a_o_idOf : Nat) (a_o_pieces : Nat) (a_o_pieceLong : Nat) (a_o_bytesOf : Nat) (a_o_dictionary : Nat) (a_o_covered : Nat) (a_o_taken : Nat) (a_o_row : Nat) (a_o_cost : Nat) (a_o_leastD : Nat) (a_o_out : Nat) (a_o_text : Nat) (o_thrown : Int32) (o_taped : Int32) (o_samples : Int32) (o_takenMany : Int32) (o_ahead : Int32) (o_textLong : Int32) (o_items : Int32) (o_matches : Int32) (o_textMany : Int32) (o_row : Nat → Int32) (o_cost : Nat → Int32) (o_leastD : Nat → Int32) (v1 : Int32) (v2 : Int32) (K : Int32 → (Nat → Int32) → Int32 → Prop) (hK : ∀ (o_outMany : Int32) (o_out : Nat → Int32) (v3 : Int32), K o_outMany o_out v3 → Go p l e rm_X7_putItem s m args below meth c Q 4 D A [(a_o, .inr (10, [.int o_thrown, .ref a_o_tape, .int o_taped, .int o_samples, .ref a_o_sampleLong, .ref a_o_sampleByte, .ref a_o_idOf, .ref a_o_pieces, .ref a_o_pieceLong, .ref a_o_bytesOf, .ref a_o_dictionary, .ref a_o_covered, .ref a_o_taken, .int o_takenMany, .ref a_o_row, .int o_ahead, .int o_textLong, .ref a_o_cost, .ref a_o_leastD, .ref a_o_out, .int o_outMany, .int o_items, .int o_matches, .ref a_o_text, .int o_textMany])), (a_o_row, .inl (cy 1, 280, .inl o_row)), (a_o_cost, .inl (cy 1, 201, .inl o_cost)), (a_o_leastD, .inl (cy 1, 2010, .inl o_leastD)), (a_o_out, .inl (cy 1, 400, .inl o_out))] 0 0 175 [(2, .int v2)] []) :
    ∀ (n : Nat) (o_outMany : Int32) (o_out : Nat → Int32) (v3 : Int32), wX7_putItem_147 o_ahead o_row v1 v2 K n o_outMany o_out v3 → Go p l e rm_X7_putItem s m args below meth c Q 4 D A [(a_o, .inr (10, [.int o_thrown, .ref a_o_tape, .int o_taped, .int o_samples, .ref a_o_sampleLong, .ref a_o_sampleByte, .ref a_o_idOf, .ref a_o_pieces, .ref a_o_pieceLong, .ref a_o_bytesOf, .ref a_o_dictionary, .ref a_o_covered, .ref a_o_taken, .int o_takenMany, .ref a_o_row, .int o_ahead, .int o_textLong, .ref a_o_cost, .ref a_o_leastD, .ref a_o_out, .int o_outMany, .int o_items, .int o_matches, .ref a_o_text, .int o_textMany])), (a_o_row, .inl (cy 1, 280, .inl o_row)), (a_o_cost, .inl (cy 1, 201, .inl o_cost)), (a_o_leastD, .inl (cy 1, 2010, .inl o_leastD)), (a_o_out, .inl (cy 1, 400, .inl o_out))] 0 0 147 [(0, .ref a_o), (1, .int v1), (2, .int v2), (3, .int v3)] [] := by
  intro n
  induction n with
  | zero => intro o_outMany o_out v3 h; exact absurd h id
  | succ n ih =>
    intro o_outMany o_out v3 h
    refine go_iload_n X dX7_putItem_147 3 rfl rfl ?_
    refine go_iload_n X dX7_putItem_148 2 rfl rfl ?_
    refine go_icmp_ge X 175 dX7_putItem_149 (by decide) (fun c27 => ?_) (fun c27 => ?_)
    · replace h := h.1 c27
      refine go_lv [2] rfl ?_
      exact hK o_outMany o_out v3 h
    · replace h := h.2 c27
      refine go_aload_n X dX7_putItem_152 0 rfl rfl ?_
      refine go_aload_n X dX7_putItem_153 0 rfl rfl ?_
      refine go_get X fi_X7_putItem_X7 0 rfl rfl 14 (by decide) fl_X7_putItem_41 rfl dX7_putItem_154 ?_
      refine go_aload_n X dX7_putItem_157 0 rfl rfl ?_
      refine go_get X fi_X7_putItem_X7 0 rfl rfl 15 (by decide) fl_X7_putItem_96 rfl dX7_putItem_158 ?_
      refine go_iload_n X dX7_putItem_161 1 rfl rfl ?_
      refine go_iadd X dX7_putItem_162 ?_
      refine go_iload_n X dX7_putItem_163 3 rfl rfl ?_
      refine go_iadd X dX7_putItem_164 ?_
      obtain ⟨c28, h⟩ := h
      refine go_iald X 1 1 rfl rfl c28 dX7_putItem_165 ?_
      refine go_callVv X (kX7_put l D cy a_o a_o_tape a_o_sampleLong a_o_sampleByte a_o_idOf a_o_pieces a_o_pieceLong a_o_bytesOf a_o_dictionary a_o_covered a_o_taken a_o_row a_o_cost a_o_leastD a_o_out a_o_text o_thrown o_taped o_samples o_takenMany o_ahead o_textLong o_outMany o_items o_matches o_textMany o_out (o_row ((o_ahead + v1) + v3).toNatClampNeg) _ h) (cwV 1 X.2.2.2.2.1 gX7_putItem_X7_put rfl rfl rfl cd_X7_put ⟨by decide, by decide⟩) (wr := [(a_o_row, .inl (cy 1, 280, .inl o_row)), (a_o_cost, .inl (cy 1, 201, .inl o_cost)), (a_o_leastD, .inl (cy 1, 2010, .inl o_leastD))]) (ws2 := fun u => [(a_o, .inr (10, [.int o_thrown, .ref a_o_tape, .int o_taped, .int o_samples, .ref a_o_sampleLong, .ref a_o_sampleByte, .ref a_o_idOf, .ref a_o_pieces, .ref a_o_pieceLong, .ref a_o_bytesOf, .ref a_o_dictionary, .ref a_o_covered, .ref a_o_taken, .int o_takenMany, .ref a_o_row, .int o_ahead, .int o_textLong, .ref a_o_cost, .ref a_o_leastD, .ref a_o_out, .int u.1, .int o_items, .int o_matches, .ref a_o_text, .int o_textMany])), (a_o_row, .inl (cy 1, 280, .inl o_row)), (a_o_cost, .inl (cy 1, 201, .inl o_cost)), (a_o_leastD, .inl (cy 1, 2010, .inl o_leastD)), (a_o_out, .inl (cy 1, 400, .inl u.2))]) (perm_idx [0, 4, 1, 2, 3] rfl rfl) (fun u => perm_idx [0, 2, 3, 4, 1] rfl rfl) rfl rfl rfl rfl (Nat.le_of_ble_eq_true rfl) dX7_putItem_166 ⟨by decide, by decide⟩ (fun u h => ?_)
      obtain ⟨s29, s30⟩ := u
      obtain ⟨y31, ey31⟩ : ∃ z : Int32, z = v3 + 1 := ⟨_, rfl⟩
      replace h := h y31 ey31
      refine go_iinc X (lv' := [(3, .int y31), (0, .ref a_o), (1, .int v1), (2, .int v2)]) y31 dX7_putItem_169 3 rfl (by rw [ey31]; rfl) (by decide) rfl ?_
      refine go_goto X 147 dX7_putItem_172 (by decide) ?_
      refine go_lv [1, 2, 3, 0] rfl ?_
      exact ih s29 s30 y31 h
set_option maxRecDepth 100000 in
set_option maxHeartbeats 4000000 in
theorem kX7_putItem (l : Launch) (D : va_G) (cy : Nat → ClassId) (a_o : Nat) (a_o_tape : Nat) (a_o_sampleLong : Nat) (a_o_sampleByte : Nat) (a_o_idOf : Nat) (a_o_pieces : Nat) (a_o_pieceLong : Nat) (a_o_bytesOf : Nat) (a_o_dictionary : Nat) (a_o_covered : Nat) (a_o_taken : Nat) (a_o_row : Nat) (a_o_cost : Nat) (a_o_leastD : Nat) (a_o_out : Nat) (a_o_text : Nat) (o_thrown : Int32) (o_taped : Int32) (o_samples : Int32) (o_takenMany : Int32) (o_ahead : Int32) (o_textLong : Int32) (o_outMany : Int32) (o_items : Int32) (o_matches : Int32) (o_textMany : Int32) (o_row : Nat → Int32) (o_cost : Nat → Int32) (o_leastD : Nat → Int32) (o_out : Nat → Int32) (p1 : Int32) (post : Int32 → Int32 → Int32 → (Nat → Int32) → Prop) (h : wX7_putItem o_ahead o_textLong o_outMany o_matches o_row o_cost o_leastD o_out p1 post) : MetI l yX7_putItem wsX7_putItem rm_X7_putItem D (tyL cy) [.ref a_o, .int p1] [(a_o, .inr (10, [.int o_thrown, .ref a_o_tape, .int o_taped, .int o_samples, .ref a_o_sampleLong, .ref a_o_sampleByte, .ref a_o_idOf, .ref a_o_pieces, .ref a_o_pieceLong, .ref a_o_bytesOf, .ref a_o_dictionary, .ref a_o_covered, .ref a_o_taken, .int o_takenMany, .ref a_o_row, .int o_ahead, .int o_textLong, .ref a_o_cost, .ref a_o_leastD, .ref a_o_out, .int o_outMany, .int o_items, .int o_matches, .ref a_o_text, .int o_textMany])), (a_o_row, .inl (cy 1, 280, .inl o_row)), (a_o_cost, .inl (cy 1, 201, .inl o_cost)), (a_o_leastD, .inl (cy 1, 2010, .inl o_leastD)), (a_o_out, .inl (cy 1, 400, .inl o_out))] (fun u : Int32 × Int32 × (Nat → Int32) => [(a_o, .inr (10, [.int o_thrown, .ref a_o_tape, .int o_taped, .int o_samples, .ref a_o_sampleLong, .ref a_o_sampleByte, .ref a_o_idOf, .ref a_o_pieces, .ref a_o_pieceLong, .ref a_o_bytesOf, .ref a_o_dictionary, .ref a_o_covered, .ref a_o_taken, .int o_takenMany, .ref a_o_row, .int o_ahead, .int o_textLong, .ref a_o_cost, .ref a_o_leastD, .ref a_o_out, .int u.1, .int o_items, .int u.2.1, .ref a_o_text, .int o_textMany])), (a_o_row, .inl (cy 1, 280, .inl o_row)), (a_o_cost, .inl (cy 1, 201, .inl o_cost)), (a_o_leastD, .inl (cy 1, 2010, .inl o_leastD)), (a_o_out, .inl (cy 1, 400, .inl u.2.2))]) (fun r => fun (u : Int32 × Int32 × (Nat → Int32)) => post r u.1 u.2.1 u.2.2) 0 0 := by
  refine metI_of (cc := cX7_putItem) (maxL := 4) (lv := [(0, .ref a_o), (1, .int p1)]) (by decide) rfl (Nat.le_of_ble_eq_true rfl) rfl ?_
  intro p e s m below meth c Q A X hlk hR
  unfold wX7_putItem at h
  refine go_bipush X (v := 9) dX7_putItem_0 (by decide) ?_
  refine go_istore_n X (lv' := [(2, .int 9), (0, .ref a_o), (1, .int p1)]) dX7_putItem_2 rfl (by decide) rfl ?_
  obtain ⟨n43, h⟩ := h
  refine go_lv [1, 2, 0] rfl ?_
  refine pX7_putItem_3 l X a_o a_o_tape a_o_sampleLong a_o_sampleByte a_o_idOf a_o_pieces a_o_pieceLong a_o_bytesOf a_o_dictionary a_o_covered a_o_taken a_o_row a_o_cost a_o_leastD a_o_out a_o_text o_thrown o_taped o_samples o_takenMany o_ahead o_textLong o_outMany o_items o_matches o_textMany o_row o_cost o_leastD o_out p1 post hR _ (fun y1 h => ?_) n43 (9 : Int32) h
  refine go_aload_n X dX7_putItem_88 0 rfl rfl ?_
  refine go_get X fi_X7_putItem_X7 0 rfl rfl 16 (by decide) fl_X7_putItem_103 rfl dX7_putItem_89 ?_
  refine go_iload_n X dX7_putItem_92 1 rfl rfl ?_
  refine go_isub X dX7_putItem_93 ?_
  refine go_bipush X (v := 32) dX7_putItem_94 (by decide) ?_
  refine go_icmp_ge X 108 dX7_putItem_96 (by decide) (fun c16 => ?_) (fun c16 => ?_)
  · replace h := h.1 c16
    refine go_bipush X (v := 32) dX7_putItem_108 (by decide) ?_
    refine go_istore_n X (lv' := [(2, .int 32), (0, .ref a_o), (1, .int p1)]) dX7_putItem_110 rfl (by decide) rfl ?_
    obtain ⟨n33, h⟩ := h
    refine go_lv [1, 2, 0] rfl ?_
    refine pX7_putItem_111 l X a_o a_o_tape a_o_sampleLong a_o_sampleByte a_o_idOf a_o_pieces a_o_pieceLong a_o_bytesOf a_o_dictionary a_o_covered a_o_taken a_o_row a_o_cost a_o_leastD a_o_out a_o_text o_thrown o_taped o_samples o_takenMany o_ahead o_textLong o_outMany o_items o_matches o_textMany o_row o_cost o_leastD o_out p1  _ (fun y17 h => ?_) n33 (32 : Int32) h
    refine go_aload_n X dX7_putItem_138 0 rfl rfl ?_
    refine go_iload_n X dX7_putItem_139 2 rfl rfl ?_
    refine go_iconst X (v := 1) dX7_putItem_140 (by decide) ?_
    refine go_isub X dX7_putItem_141 ?_
    refine go_callVv X (kX7_put l D cy a_o a_o_tape a_o_sampleLong a_o_sampleByte a_o_idOf a_o_pieces a_o_pieceLong a_o_bytesOf a_o_dictionary a_o_covered a_o_taken a_o_row a_o_cost a_o_leastD a_o_out a_o_text o_thrown o_taped o_samples o_takenMany o_ahead o_textLong o_outMany o_items o_matches o_textMany o_out (y17 - 1) _ h) (cwV 1 X.2.2.2.2.1 gX7_putItem_X7_put rfl rfl rfl cd_X7_put ⟨by decide, by decide⟩) (wr := [(a_o_row, .inl (cy 1, 280, .inl o_row)), (a_o_cost, .inl (cy 1, 201, .inl o_cost)), (a_o_leastD, .inl (cy 1, 2010, .inl o_leastD))]) (ws2 := fun u => [(a_o, .inr (10, [.int o_thrown, .ref a_o_tape, .int o_taped, .int o_samples, .ref a_o_sampleLong, .ref a_o_sampleByte, .ref a_o_idOf, .ref a_o_pieces, .ref a_o_pieceLong, .ref a_o_bytesOf, .ref a_o_dictionary, .ref a_o_covered, .ref a_o_taken, .int o_takenMany, .ref a_o_row, .int o_ahead, .int o_textLong, .ref a_o_cost, .ref a_o_leastD, .ref a_o_out, .int u.1, .int o_items, .int o_matches, .ref a_o_text, .int o_textMany])), (a_o_row, .inl (cy 1, 280, .inl o_row)), (a_o_cost, .inl (cy 1, 201, .inl o_cost)), (a_o_leastD, .inl (cy 1, 2010, .inl o_leastD)), (a_o_out, .inl (cy 1, 400, .inl u.2))]) (perm_idx [0, 4, 1, 2, 3] rfl rfl) (fun u => perm_idx [0, 2, 3, 4, 1] rfl rfl) rfl rfl rfl rfl (Nat.le_of_ble_eq_true rfl) dX7_putItem_142 ⟨by decide, by decide⟩ (fun u h => ?_)
    obtain ⟨s22, s23⟩ := u
    refine go_iconst X (v := 0) dX7_putItem_145 (by decide) ?_
    refine go_istore_n X (lv' := [(3, .int 0), (0, .ref a_o), (1, .int p1), (2, .int y17)]) dX7_putItem_146 rfl (by decide) rfl ?_
    obtain ⟨n32, h⟩ := h
    refine go_lv [1, 2, 3, 0] rfl ?_
    refine pX7_putItem_147 l X a_o a_o_tape a_o_sampleLong a_o_sampleByte a_o_idOf a_o_pieces a_o_pieceLong a_o_bytesOf a_o_dictionary a_o_covered a_o_taken a_o_row a_o_cost a_o_leastD a_o_out a_o_text o_thrown o_taped o_samples o_takenMany o_ahead o_textLong o_items o_matches o_textMany o_row o_cost o_leastD p1 y17  _ (fun s24 s25 y26 h => ?_) n32 s22 s23 (0 : Int32) h
    refine go_iload_n X dX7_putItem_175 0 rfl rfl ?_
    exact hR y17 (s24, o_matches, s25) 176 _ dX7_putItem_176 rfl h
  · replace h := h.2 c16
    refine go_aload_n X dX7_putItem_99 0 rfl rfl ?_
    refine go_get X fi_X7_putItem_X7 0 rfl rfl 16 (by decide) fl_X7_putItem_103 rfl dX7_putItem_100 ?_
    refine go_iload_n X dX7_putItem_103 1 rfl rfl ?_
    refine go_isub X dX7_putItem_104 ?_
    refine go_goto X 110 dX7_putItem_105 (by decide) ?_
    refine go_topi (fun y34 ey34 => ?_)
    replace h := h y34 ey34
    refine go_istore_n X (lv' := [(2, .int y34), (0, .ref a_o), (1, .int p1)]) dX7_putItem_110 rfl (by decide) rfl ?_
    obtain ⟨n42, h⟩ := h
    refine go_lv [1, 2, 0] rfl ?_
    refine pX7_putItem_111 l X a_o a_o_tape a_o_sampleLong a_o_sampleByte a_o_idOf a_o_pieces a_o_pieceLong a_o_bytesOf a_o_dictionary a_o_covered a_o_taken a_o_row a_o_cost a_o_leastD a_o_out a_o_text o_thrown o_taped o_samples o_takenMany o_ahead o_textLong o_outMany o_items o_matches o_textMany o_row o_cost o_leastD o_out p1  _ (fun y35 h => ?_) n42 y34 h
    refine go_aload_n X dX7_putItem_138 0 rfl rfl ?_
    refine go_iload_n X dX7_putItem_139 2 rfl rfl ?_
    refine go_iconst X (v := 1) dX7_putItem_140 (by decide) ?_
    refine go_isub X dX7_putItem_141 ?_
    refine go_callVv X (kX7_put l D cy a_o a_o_tape a_o_sampleLong a_o_sampleByte a_o_idOf a_o_pieces a_o_pieceLong a_o_bytesOf a_o_dictionary a_o_covered a_o_taken a_o_row a_o_cost a_o_leastD a_o_out a_o_text o_thrown o_taped o_samples o_takenMany o_ahead o_textLong o_outMany o_items o_matches o_textMany o_out (y35 - 1) _ h) (cwV 1 X.2.2.2.2.1 gX7_putItem_X7_put rfl rfl rfl cd_X7_put ⟨by decide, by decide⟩) (wr := [(a_o_row, .inl (cy 1, 280, .inl o_row)), (a_o_cost, .inl (cy 1, 201, .inl o_cost)), (a_o_leastD, .inl (cy 1, 2010, .inl o_leastD))]) (ws2 := fun u => [(a_o, .inr (10, [.int o_thrown, .ref a_o_tape, .int o_taped, .int o_samples, .ref a_o_sampleLong, .ref a_o_sampleByte, .ref a_o_idOf, .ref a_o_pieces, .ref a_o_pieceLong, .ref a_o_bytesOf, .ref a_o_dictionary, .ref a_o_covered, .ref a_o_taken, .int o_takenMany, .ref a_o_row, .int o_ahead, .int o_textLong, .ref a_o_cost, .ref a_o_leastD, .ref a_o_out, .int u.1, .int o_items, .int o_matches, .ref a_o_text, .int o_textMany])), (a_o_row, .inl (cy 1, 280, .inl o_row)), (a_o_cost, .inl (cy 1, 201, .inl o_cost)), (a_o_leastD, .inl (cy 1, 2010, .inl o_leastD)), (a_o_out, .inl (cy 1, 400, .inl u.2))]) (perm_idx [0, 4, 1, 2, 3] rfl rfl) (fun u => perm_idx [0, 2, 3, 4, 1] rfl rfl) rfl rfl rfl rfl (Nat.le_of_ble_eq_true rfl) dX7_putItem_142 ⟨by decide, by decide⟩ (fun u h => ?_)
    obtain ⟨s36, s37⟩ := u
    refine go_iconst X (v := 0) dX7_putItem_145 (by decide) ?_
    refine go_istore_n X (lv' := [(3, .int 0), (0, .ref a_o), (1, .int p1), (2, .int y35)]) dX7_putItem_146 rfl (by decide) rfl ?_
    obtain ⟨n41, h⟩ := h
    refine go_lv [1, 2, 3, 0] rfl ?_
    refine pX7_putItem_147 l X a_o a_o_tape a_o_sampleLong a_o_sampleByte a_o_idOf a_o_pieces a_o_pieceLong a_o_bytesOf a_o_dictionary a_o_covered a_o_taken a_o_row a_o_cost a_o_leastD a_o_out a_o_text o_thrown o_taped o_samples o_takenMany o_ahead o_textLong o_items o_matches o_textMany o_row o_cost o_leastD p1 y35  _ (fun s38 s39 y40 h => ?_) n41 s36 s37 (0 : Int32) h
    refine go_iload_n X dX7_putItem_175 0 rfl rfl ?_
    exact hR y35 (s38, o_matches, s39) 176 _ dX7_putItem_176 rfl h
/-! X7_pack -/
theorem fi_X7_pack_X7 : ∀ w ∈ u_ws RX7 TX7 25, w ∈ wsX7_pack := by decide +kernel
theorem fl_X7_pack_60 : Cond.fieldLink RX7 60 (TX7 0).1 (TX7 0).2.1 (TX7 0).2.2.1 ∈ wsX7_pack := by decide +kernel
theorem fl_X7_pack_56 : Cond.fieldLink RX7 56 (TX7 2).1 (TX7 2).2.1 (TX7 2).2.2.1 ∈ wsX7_pack := by decide +kernel
theorem fl_X7_pack_103 : Cond.fieldLink RX7 103 (TX7 16).1 (TX7 16).2.1 (TX7 16).2.2.1 ∈ wsX7_pack := by decide +kernel
theorem fl_X7_pack_41 : Cond.fieldLink RX7 41 (TX7 14).1 (TX7 14).2.1 (TX7 14).2.2.1 ∈ wsX7_pack := by decide +kernel
theorem fl_X7_pack_96 : Cond.fieldLink RX7 96 (TX7 15).1 (TX7 15).2.1 (TX7 15).2.2.1 ∈ wsX7_pack := by decide +kernel
theorem fl_X7_pack_7 : Cond.fieldLink RX7 7 (TX7 1).1 (TX7 1).2.1 (TX7 1).2.2.1 ∈ wsX7_pack := by decide +kernel
theorem fl_X7_pack_141 : Cond.fieldLink RX7 141 (TX7 20).1 (TX7 20).2.1 (TX7 20).2.2.1 ∈ wsX7_pack := by decide +kernel
theorem fl_X7_pack_150 : Cond.fieldLink RX7 150 (TX7 21).1 (TX7 21).2.1 (TX7 21).2.2.1 ∈ wsX7_pack := by decide +kernel
theorem fl_X7_pack_147 : Cond.fieldLink RX7 147 (TX7 22).1 (TX7 22).2.1 (TX7 22).2.2.1 ∈ wsX7_pack := by decide +kernel
theorem fl_X7_pack_19 : Cond.fieldLink RX7 19 (TX7 6).1 (TX7 6).2.1 (TX7 6).2.2.1 ∈ wsX7_pack := by decide +kernel
def rm_X7_pack : Room := { frames := 2, cells := 0, slots := 0, locals := 49 }
theorem cd_X7_pack : yX7_pack.cls = RX7 ∧ yX7_pack.cls ≠ "java/lang/invoke/MethodHandle" ∧ yX7_pack.cls ≠ "java/lang/invoke/VarHandle" ∧ (parseMethodDescriptor yX7_pack.desc).map (fun d => d.parameters.length) = some 1 := by decide +kernel
set_option maxRecDepth 100000 in
set_option maxHeartbeats 4000000 in
theorem pX7_pack_37 {p : Program} (l : Launch) {e : Env} {s : State} {m : MethodId} {args : Array Value} {below : List Frame} {meth : Method} {c : Code} {Q : State → Prop} {D : va_G} {cy : Nat → ClassId} {A : Nat → Prop} (X : Cx p s m args c cX7_pack 5 RX7 wsX7_pack D (tyL cy) A) (a_o : Nat) (a_o_tape : Nat) (a_o_sampleLong : Nat) (a_o_sampleByte : Nat) (a_o_idOf : Nat) (a_o_pieces : Nat) (a_o_pieceLong : Nat) (a_o_bytesOf : Nat) (a_o_dictionary : Nat) (a_o_covered : Nat) (a_o_taken : Nat) (a_o_row : Nat) (a_o_cost : Nat) (a_o_leastD : Nat) (a_o_out : Nat) (a_o_text : Nat) (o_thrown : Int32) (o_taped : Int32) (o_samples : Int32) (o_takenMany : Int32) (o_ahead : Int32) (o_textLong : Int32) (o_outMany : Int32) (o_items : Int32) (o_matches : Int32) (o_textMany : Int32) (o_tape : Nat → Int32) (o_idOf : Nat → Int32) (o_pieceLong : Nat → Int32) (o_bytesOf : Nat → Int32) (o_dictionary : Nat → Int32) (o_cost : Nat → Int32) (o_leastD : Nat → Int32) (o_out : Nat → Int32) (v1 : Int32) (K : (Nat → Int32) → Int32 → Prop) (hK : ∀ (o_row : Nat → Int32) (v2 : Int32), K o_row v2 → Go p l e rm_X7_pack s m args below meth c Q 5 D A [(a_o, .inr (10, [.int o_thrown, .ref a_o_tape, .int o_taped, .int o_samples, .ref a_o_sampleLong, .ref a_o_sampleByte, .ref a_o_idOf, .ref a_o_pieces, .ref a_o_pieceLong, .ref a_o_bytesOf, .ref a_o_dictionary, .ref a_o_covered, .ref a_o_taken, .int o_takenMany, .ref a_o_row, .int o_ahead, .int o_textLong, .ref a_o_cost, .ref a_o_leastD, .ref a_o_out, .int o_outMany, .int o_items, .int o_matches, .ref a_o_text, .int o_textMany])), (a_o_tape, .inl (cy 1, 200, .inl o_tape)), (a_o_idOf, .inl (cy 1, 6, .inl o_idOf)), (a_o_pieceLong, .inl (cy 1, 480, .inl o_pieceLong)), (a_o_bytesOf, .inl (cy 1, 6, .inl o_bytesOf)), (a_o_dictionary, .inl (cy 1, 480, .inl o_dictionary)), (a_o_row, .inl (cy 1, 280, .inl o_row)), (a_o_cost, .inl (cy 1, 201, .inl o_cost)), (a_o_leastD, .inl (cy 1, 2010, .inl o_leastD)), (a_o_out, .inl (cy 1, 400, .inl o_out))] 0 0 68 [(0, .ref a_o), (1, .int v1)] []) :
    ∀ (n : Nat) (o_row : Nat → Int32) (v2 : Int32), wX7_pack_37 o_taped o_ahead o_tape K n o_row v2 → Go p l e rm_X7_pack s m args below meth c Q 5 D A [(a_o, .inr (10, [.int o_thrown, .ref a_o_tape, .int o_taped, .int o_samples, .ref a_o_sampleLong, .ref a_o_sampleByte, .ref a_o_idOf, .ref a_o_pieces, .ref a_o_pieceLong, .ref a_o_bytesOf, .ref a_o_dictionary, .ref a_o_covered, .ref a_o_taken, .int o_takenMany, .ref a_o_row, .int o_ahead, .int o_textLong, .ref a_o_cost, .ref a_o_leastD, .ref a_o_out, .int o_outMany, .int o_items, .int o_matches, .ref a_o_text, .int o_textMany])), (a_o_tape, .inl (cy 1, 200, .inl o_tape)), (a_o_idOf, .inl (cy 1, 6, .inl o_idOf)), (a_o_pieceLong, .inl (cy 1, 480, .inl o_pieceLong)), (a_o_bytesOf, .inl (cy 1, 6, .inl o_bytesOf)), (a_o_dictionary, .inl (cy 1, 480, .inl o_dictionary)), (a_o_row, .inl (cy 1, 280, .inl o_row)), (a_o_cost, .inl (cy 1, 201, .inl o_cost)), (a_o_leastD, .inl (cy 1, 2010, .inl o_leastD)), (a_o_out, .inl (cy 1, 400, .inl o_out))] 0 0 37 [(0, .ref a_o), (1, .int v1), (2, .int v2)] [] := by
  intro n
  induction n with
  | zero => intro o_row v2 h; exact absurd h id
  | succ n ih =>
    intro o_row v2 h
    refine go_iload_n X dX7_pack_37 2 rfl rfl ?_
    refine go_aload_n X dX7_pack_38 0 rfl rfl ?_
    refine go_get X fi_X7_pack_X7 0 rfl rfl 2 (by decide) fl_X7_pack_56 rfl dX7_pack_39 ?_
    refine go_icmp_ge X 68 dX7_pack_42 (by decide) (fun c6 => ?_) (fun c6 => ?_)
    · replace h := h.1 c6
      refine go_lv [0, 1] rfl ?_
      exact hK o_row v2 h
    · replace h := h.2 c6
      refine go_aload_n X dX7_pack_45 0 rfl rfl ?_
      refine go_get X fi_X7_pack_X7 0 rfl rfl 14 (by decide) fl_X7_pack_41 rfl dX7_pack_46 ?_
      refine go_aload_n X dX7_pack_49 0 rfl rfl ?_
      refine go_get X fi_X7_pack_X7 0 rfl rfl 15 (by decide) fl_X7_pack_96 rfl dX7_pack_50 ?_
      refine go_iload_n X dX7_pack_53 2 rfl rfl ?_
      refine go_iadd X dX7_pack_54 ?_
      refine go_aload_n X dX7_pack_55 0 rfl rfl ?_
      refine go_get X fi_X7_pack_X7 0 rfl rfl 1 (by decide) fl_X7_pack_7 rfl dX7_pack_56 ?_
      refine go_iload_n X dX7_pack_59 2 rfl rfl ?_
      obtain ⟨c7, h⟩ := h
      refine go_iald X 1 1 rfl rfl c7 dX7_pack_60 ?_
      obtain ⟨c8, h⟩ := h
      refine go_iast X [(a_o, .inr (10, [.int o_thrown, .ref a_o_tape, .int o_taped, .int o_samples, .ref a_o_sampleLong, .ref a_o_sampleByte, .ref a_o_idOf, .ref a_o_pieces, .ref a_o_pieceLong, .ref a_o_bytesOf, .ref a_o_dictionary, .ref a_o_covered, .ref a_o_taken, .int o_takenMany, .ref a_o_row, .int o_ahead, .int o_textLong, .ref a_o_cost, .ref a_o_leastD, .ref a_o_out, .int o_outMany, .int o_items, .int o_matches, .ref a_o_text, .int o_textMany])), (a_o_tape, .inl (cy 1, 200, .inl o_tape)), (a_o_idOf, .inl (cy 1, 6, .inl o_idOf)), (a_o_pieceLong, .inl (cy 1, 480, .inl o_pieceLong)), (a_o_bytesOf, .inl (cy 1, 6, .inl o_bytesOf)), (a_o_dictionary, .inl (cy 1, 480, .inl o_dictionary)), (a_o_row, .inl (cy 1, 280, .inl (upd o_row (o_ahead + v2).toNatClampNeg (o_tape v2.toNatClampNeg)))), (a_o_cost, .inl (cy 1, 201, .inl o_cost)), (a_o_leastD, .inl (cy 1, 2010, .inl o_leastD)), (a_o_out, .inl (cy 1, 400, .inl o_out))] 6 1 rfl rfl c8 rfl dX7_pack_61 ?_
      obtain ⟨y9, ey9⟩ : ∃ z : Int32, z = v2 + 1 := ⟨_, rfl⟩
      replace h := h y9 ey9
      refine go_iinc X (lv' := [(2, .int y9), (0, .ref a_o), (1, .int v1)]) y9 dX7_pack_62 2 rfl (by rw [ey9]; rfl) (by decide) rfl ?_
      refine go_goto X 37 dX7_pack_65 (by decide) ?_
      refine go_lv [1, 2, 0] rfl ?_
      exact ih (upd o_row (o_ahead + v2).toNatClampNeg (o_tape v2.toNatClampNeg)) y9 h
set_option maxRecDepth 100000 in
set_option maxHeartbeats 4000000 in
theorem pX7_pack_151 {p : Program} (l : Launch) {e : Env} {s : State} {m : MethodId} {args : Array Value} {below : List Frame} {meth : Method} {c : Code} {Q : State → Prop} {D : va_G} {cy : Nat → ClassId} {A : Nat → Prop} (X : Cx p s m args c cX7_pack 5 RX7 wsX7_pack D (tyL cy) A) (a_o : Nat) (a_o_tape : Nat) (a_o_sampleLong : Nat) (a_o_sampleByte : Nat) (a_o_idOf : Nat) (a_o_pieces : Nat) (a_o_pieceLong : Nat) (a_o_bytesOf : Nat) (a_o_dictionary : Nat) (a_o_covered : Nat) (a_o_taken : Nat) (a_o_row : Nat) (a_o_cost : Nat) (a_o_leastD : Nat) (a_o_out : Nat) (a_o_text : Nat) (o_thrown : Int32) (o_taped : Int32) (o_samples : Int32) (o_takenMany : Int32) (o_ahead : Int32) (o_textLong : Int32) (o_textMany : Int32) (o_tape : Nat → Int32) (o_idOf : Nat → Int32) (o_pieceLong : Nat → Int32) (o_bytesOf : Nat → Int32) (o_dictionary : Nat → Int32) (o_row : Nat → Int32) (o_cost : Nat → Int32) (o_leastD : Nat → Int32) (v2 : Int32) (K : Int32 → Int32 → Int32 → (Nat → Int32) → Int32 → Prop) (hK : ∀ (o_outMany : Int32) (o_items : Int32) (o_matches : Int32) (o_out : Nat → Int32) (v4 : Int32), K o_outMany o_items o_matches o_out v4 → Go p l e rm_X7_pack s m args below meth c Q 5 D A [(a_o, .inr (10, [.int o_thrown, .ref a_o_tape, .int o_taped, .int o_samples, .ref a_o_sampleLong, .ref a_o_sampleByte, .ref a_o_idOf, .ref a_o_pieces, .ref a_o_pieceLong, .ref a_o_bytesOf, .ref a_o_dictionary, .ref a_o_covered, .ref a_o_taken, .int o_takenMany, .ref a_o_row, .int o_ahead, .int o_textLong, .ref a_o_cost, .ref a_o_leastD, .ref a_o_out, .int o_outMany, .int o_items, .int o_matches, .ref a_o_text, .int o_textMany])), (a_o_tape, .inl (cy 1, 200, .inl o_tape)), (a_o_idOf, .inl (cy 1, 6, .inl o_idOf)), (a_o_pieceLong, .inl (cy 1, 480, .inl o_pieceLong)), (a_o_bytesOf, .inl (cy 1, 6, .inl o_bytesOf)), (a_o_dictionary, .inl (cy 1, 480, .inl o_dictionary)), (a_o_row, .inl (cy 1, 280, .inl o_row)), (a_o_cost, .inl (cy 1, 201, .inl o_cost)), (a_o_leastD, .inl (cy 1, 2010, .inl o_leastD)), (a_o_out, .inl (cy 1, 400, .inl o_out))] 0 0 184 [(0, .ref a_o), (2, .int v2)] []) :
    ∀ (n : Nat) (o_outMany : Int32) (o_items : Int32) (o_matches : Int32) (o_out : Nat → Int32) (v4 : Int32), wX7_pack_151 o_ahead o_textLong o_row o_cost o_leastD K n o_outMany o_items o_matches o_out v4 → Go p l e rm_X7_pack s m args below meth c Q 5 D A [(a_o, .inr (10, [.int o_thrown, .ref a_o_tape, .int o_taped, .int o_samples, .ref a_o_sampleLong, .ref a_o_sampleByte, .ref a_o_idOf, .ref a_o_pieces, .ref a_o_pieceLong, .ref a_o_bytesOf, .ref a_o_dictionary, .ref a_o_covered, .ref a_o_taken, .int o_takenMany, .ref a_o_row, .int o_ahead, .int o_textLong, .ref a_o_cost, .ref a_o_leastD, .ref a_o_out, .int o_outMany, .int o_items, .int o_matches, .ref a_o_text, .int o_textMany])), (a_o_tape, .inl (cy 1, 200, .inl o_tape)), (a_o_idOf, .inl (cy 1, 6, .inl o_idOf)), (a_o_pieceLong, .inl (cy 1, 480, .inl o_pieceLong)), (a_o_bytesOf, .inl (cy 1, 6, .inl o_bytesOf)), (a_o_dictionary, .inl (cy 1, 480, .inl o_dictionary)), (a_o_row, .inl (cy 1, 280, .inl o_row)), (a_o_cost, .inl (cy 1, 201, .inl o_cost)), (a_o_leastD, .inl (cy 1, 2010, .inl o_leastD)), (a_o_out, .inl (cy 1, 400, .inl o_out))] 0 0 151 [(0, .ref a_o), (2, .int v2), (4, .int v4)] [] := by
  intro n
  induction n with
  | zero => intro o_outMany o_items o_matches o_out v4 h; exact absurd h id
  | succ n ih =>
    intro o_outMany o_items o_matches o_out v4 h
    refine go_iload X dX7_pack_151 2 rfl ?_
    refine go_aload_n X dX7_pack_153 0 rfl rfl ?_
    refine go_get X fi_X7_pack_X7 0 rfl rfl 16 (by decide) fl_X7_pack_103 rfl dX7_pack_154 ?_
    refine go_icmp_ge X 184 dX7_pack_157 (by decide) (fun c26 => ?_) (fun c26 => ?_)
    · replace h := h.1 c26
      refine go_lv [0, 1] rfl ?_
      exact hK o_outMany o_items o_matches o_out v4 h
    · replace h := h.2 c26
      refine go_aload_n X dX7_pack_160 0 rfl rfl ?_
      refine go_dup X dX7_pack_161 rfl ?_
      refine go_get X fi_X7_pack_X7 0 rfl rfl 21 (by decide) fl_X7_pack_150 rfl dX7_pack_162 ?_
      refine go_iconst X (v := 1) dX7_pack_165 (by decide) ?_
      refine go_iadd X dX7_pack_166 ?_
      refine go_topi (fun y27 ey27 => ?_)
      replace h := h y27 ey27
      refine go_put X (ws' := [(a_o, .inr (10, [.int o_thrown, .ref a_o_tape, .int o_taped, .int o_samples, .ref a_o_sampleLong, .ref a_o_sampleByte, .ref a_o_idOf, .ref a_o_pieces, .ref a_o_pieceLong, .ref a_o_bytesOf, .ref a_o_dictionary, .ref a_o_covered, .ref a_o_taken, .int o_takenMany, .ref a_o_row, .int o_ahead, .int o_textLong, .ref a_o_cost, .ref a_o_leastD, .ref a_o_out, .int o_outMany, .int y27, .int o_matches, .ref a_o_text, .int o_textMany])), (a_o_tape, .inl (cy 1, 200, .inl o_tape)), (a_o_idOf, .inl (cy 1, 6, .inl o_idOf)), (a_o_pieceLong, .inl (cy 1, 480, .inl o_pieceLong)), (a_o_bytesOf, .inl (cy 1, 6, .inl o_bytesOf)), (a_o_dictionary, .inl (cy 1, 480, .inl o_dictionary)), (a_o_row, .inl (cy 1, 280, .inl o_row)), (a_o_cost, .inl (cy 1, 201, .inl o_cost)), (a_o_leastD, .inl (cy 1, 2010, .inl o_leastD)), (a_o_out, .inl (cy 1, 400, .inl o_out))]) fi_X7_pack_X7 tyX7 tyX7_ok nmX7 0 rfl rfl 21 (by decide) fl_X7_pack_150 rfl (tyX7_ok 21 (by decide)) rfl rfl (Nat.le_of_ble_eq_true rfl) rfl dX7_pack_167 ?_
      refine go_iload X dX7_pack_170 2 rfl ?_
      refine go_aload_n X dX7_pack_172 0 rfl rfl ?_
      refine go_iload X dX7_pack_173 2 rfl ?_
      refine go_callVi X (kX7_putItem l D cy a_o a_o_tape a_o_sampleLong a_o_sampleByte a_o_idOf a_o_pieces a_o_pieceLong a_o_bytesOf a_o_dictionary a_o_covered a_o_taken a_o_row a_o_cost a_o_leastD a_o_out a_o_text o_thrown o_taped o_samples o_takenMany o_ahead o_textLong o_outMany y27 o_matches o_textMany o_row o_cost o_leastD o_out v4 _ h) (cwV 1 X.2.2.2.2.1 gX7_pack_X7_putItem rfl rfl rfl cd_X7_putItem ⟨by decide, by decide⟩) (wr := [(a_o_tape, .inl (cy 1, 200, .inl o_tape)), (a_o_idOf, .inl (cy 1, 6, .inl o_idOf)), (a_o_pieceLong, .inl (cy 1, 480, .inl o_pieceLong)), (a_o_bytesOf, .inl (cy 1, 6, .inl o_bytesOf)), (a_o_dictionary, .inl (cy 1, 480, .inl o_dictionary))]) (ws2 := fun u => [(a_o, .inr (10, [.int o_thrown, .ref a_o_tape, .int o_taped, .int o_samples, .ref a_o_sampleLong, .ref a_o_sampleByte, .ref a_o_idOf, .ref a_o_pieces, .ref a_o_pieceLong, .ref a_o_bytesOf, .ref a_o_dictionary, .ref a_o_covered, .ref a_o_taken, .int o_takenMany, .ref a_o_row, .int o_ahead, .int o_textLong, .ref a_o_cost, .ref a_o_leastD, .ref a_o_out, .int u.1, .int y27, .int u.2.1, .ref a_o_text, .int o_textMany])), (a_o_tape, .inl (cy 1, 200, .inl o_tape)), (a_o_idOf, .inl (cy 1, 6, .inl o_idOf)), (a_o_pieceLong, .inl (cy 1, 480, .inl o_pieceLong)), (a_o_bytesOf, .inl (cy 1, 6, .inl o_bytesOf)), (a_o_dictionary, .inl (cy 1, 480, .inl o_dictionary)), (a_o_row, .inl (cy 1, 280, .inl o_row)), (a_o_cost, .inl (cy 1, 201, .inl o_cost)), (a_o_leastD, .inl (cy 1, 2010, .inl o_leastD)), (a_o_out, .inl (cy 1, 400, .inl u.2.2))]) (perm_ix 10 [0, 6, 7, 8, 9, 1, 2, 3, 4, 5] rfl (by decide +kernel) rfl) (fun u => perm_ix 10 [0, 5, 6, 7, 8, 9, 1, 2, 3, 4] rfl (by decide +kernel) rfl) rfl rfl rfl rfl (Nat.le_of_ble_eq_true rfl) dX7_pack_175 ⟨by decide, by decide⟩ (fun r28 u h => ?_)
      obtain ⟨s29, s30, s31⟩ := u
      refine go_iadd X dX7_pack_178 ?_
      refine go_topi (fun y32 ey32 => ?_)
      replace h := h y32 ey32
      refine go_istore X (lv' := [(4, .int y32), (0, .ref a_o), (2, .int v2)]) dX7_pack_179 (by decide) rfl ?_
      refine go_goto X 151 dX7_pack_181 (by decide) ?_
      refine go_lv [1, 2, 0] rfl ?_
      exact ih s29 y27 s30 s31 y32 h
set_option maxRecDepth 100000 in
set_option maxHeartbeats 4000000 in
theorem kX7_pack (l : Launch) (D : va_G) (cy : Nat → ClassId) (a_o : Nat) (a_o_tape : Nat) (a_o_sampleLong : Nat) (a_o_sampleByte : Nat) (a_o_idOf : Nat) (a_o_pieces : Nat) (a_o_pieceLong : Nat) (a_o_bytesOf : Nat) (a_o_dictionary : Nat) (a_o_covered : Nat) (a_o_taken : Nat) (a_o_row : Nat) (a_o_cost : Nat) (a_o_leastD : Nat) (a_o_out : Nat) (a_o_text : Nat) (o_thrown : Int32) (o_taped : Int32) (o_samples : Int32) (o_takenMany : Int32) (o_ahead : Int32) (o_textLong : Int32) (o_outMany : Int32) (o_items : Int32) (o_matches : Int32) (o_textMany : Int32) (o_tape : Nat → Int32) (o_idOf : Nat → Int32) (o_pieceLong : Nat → Int32) (o_bytesOf : Nat → Int32) (o_dictionary : Nat → Int32) (o_row : Nat → Int32) (o_cost : Nat → Int32) (o_leastD : Nat → Int32) (o_out : Nat → Int32) (p1 : Int32) (post : Int32 → Int32 → Int32 → Int32 → Int32 → Int32 → Int32 → Int32 → (Nat → Int32) → (Nat → Int32) → (Nat → Int32) → (Nat → Int32) → Prop) (h : wX7_pack o_taped o_ahead o_textLong o_outMany o_items o_matches o_tape o_idOf o_pieceLong o_bytesOf o_dictionary o_row o_cost o_leastD o_out p1 post) : MetI l yX7_pack wsX7_pack rm_X7_pack D (tyL cy) [.ref a_o, .int p1] [(a_o, .inr (10, [.int o_thrown, .ref a_o_tape, .int o_taped, .int o_samples, .ref a_o_sampleLong, .ref a_o_sampleByte, .ref a_o_idOf, .ref a_o_pieces, .ref a_o_pieceLong, .ref a_o_bytesOf, .ref a_o_dictionary, .ref a_o_covered, .ref a_o_taken, .int o_takenMany, .ref a_o_row, .int o_ahead, .int o_textLong, .ref a_o_cost, .ref a_o_leastD, .ref a_o_out, .int o_outMany, .int o_items, .int o_matches, .ref a_o_text, .int o_textMany])), (a_o_tape, .inl (cy 1, 200, .inl o_tape)), (a_o_idOf, .inl (cy 1, 6, .inl o_idOf)), (a_o_pieceLong, .inl (cy 1, 480, .inl o_pieceLong)), (a_o_bytesOf, .inl (cy 1, 6, .inl o_bytesOf)), (a_o_dictionary, .inl (cy 1, 480, .inl o_dictionary)), (a_o_row, .inl (cy 1, 280, .inl o_row)), (a_o_cost, .inl (cy 1, 201, .inl o_cost)), (a_o_leastD, .inl (cy 1, 2010, .inl o_leastD)), (a_o_out, .inl (cy 1, 400, .inl o_out))] (fun u : Int32 × Int32 × Int32 × Int32 × Int32 × Int32 × Int32 × (Nat → Int32) × (Nat → Int32) × (Nat → Int32) × (Nat → Int32) => [(a_o, .inr (10, [.int u.1, .ref a_o_tape, .int u.2.1, .int o_samples, .ref a_o_sampleLong, .ref a_o_sampleByte, .ref a_o_idOf, .ref a_o_pieces, .ref a_o_pieceLong, .ref a_o_bytesOf, .ref a_o_dictionary, .ref a_o_covered, .ref a_o_taken, .int o_takenMany, .ref a_o_row, .int u.2.2.1, .int u.2.2.2.1, .ref a_o_cost, .ref a_o_leastD, .ref a_o_out, .int u.2.2.2.2.1, .int u.2.2.2.2.2.1, .int u.2.2.2.2.2.2.1, .ref a_o_text, .int o_textMany])), (a_o_tape, .inl (cy 1, 200, .inl o_tape)), (a_o_idOf, .inl (cy 1, 6, .inl o_idOf)), (a_o_pieceLong, .inl (cy 1, 480, .inl o_pieceLong)), (a_o_bytesOf, .inl (cy 1, 6, .inl o_bytesOf)), (a_o_dictionary, .inl (cy 1, 480, .inl o_dictionary)), (a_o_row, .inl (cy 1, 280, .inl u.2.2.2.2.2.2.2.1)), (a_o_cost, .inl (cy 1, 201, .inl u.2.2.2.2.2.2.2.2.1)), (a_o_leastD, .inl (cy 1, 2010, .inl u.2.2.2.2.2.2.2.2.2.1)), (a_o_out, .inl (cy 1, 400, .inl u.2.2.2.2.2.2.2.2.2.2))]) (fun r => fun (u : Int32 × Int32 × Int32 × Int32 × Int32 × Int32 × Int32 × (Nat → Int32) × (Nat → Int32) × (Nat → Int32) × (Nat → Int32)) => post r u.1 u.2.1 u.2.2.1 u.2.2.2.1 u.2.2.2.2.1 u.2.2.2.2.2.1 u.2.2.2.2.2.2.1 u.2.2.2.2.2.2.2.1 u.2.2.2.2.2.2.2.2.1 u.2.2.2.2.2.2.2.2.2.1 u.2.2.2.2.2.2.2.2.2.2) 0 0 := by
  refine metI_of (cc := cX7_pack) (maxL := 5) (lv := [(0, .ref a_o), (1, .int p1)]) (by decide) rfl (Nat.le_of_ble_eq_true rfl) rfl ?_
  intro p e s m below meth c Q A X hlk hR
  unfold wX7_pack at h
  refine go_aload_n X dX7_pack_0 0 rfl rfl ?_
  refine go_iconst X (v := 0) dX7_pack_1 (by decide) ?_
  refine go_put X (ws' := [(a_o, .inr (10, [.int 0, .ref a_o_tape, .int o_taped, .int o_samples, .ref a_o_sampleLong, .ref a_o_sampleByte, .ref a_o_idOf, .ref a_o_pieces, .ref a_o_pieceLong, .ref a_o_bytesOf, .ref a_o_dictionary, .ref a_o_covered, .ref a_o_taken, .int o_takenMany, .ref a_o_row, .int o_ahead, .int o_textLong, .ref a_o_cost, .ref a_o_leastD, .ref a_o_out, .int o_outMany, .int o_items, .int o_matches, .ref a_o_text, .int o_textMany])), (a_o_tape, .inl (cy 1, 200, .inl o_tape)), (a_o_idOf, .inl (cy 1, 6, .inl o_idOf)), (a_o_pieceLong, .inl (cy 1, 480, .inl o_pieceLong)), (a_o_bytesOf, .inl (cy 1, 6, .inl o_bytesOf)), (a_o_dictionary, .inl (cy 1, 480, .inl o_dictionary)), (a_o_row, .inl (cy 1, 280, .inl o_row)), (a_o_cost, .inl (cy 1, 201, .inl o_cost)), (a_o_leastD, .inl (cy 1, 2010, .inl o_leastD)), (a_o_out, .inl (cy 1, 400, .inl o_out))]) fi_X7_pack_X7 tyX7 tyX7_ok nmX7 0 rfl rfl 0 (by decide) fl_X7_pack_60 rfl (tyX7_ok 0 (by decide)) rfl rfl (Nat.le_of_ble_eq_true rfl) rfl dX7_pack_2 ?_
  refine go_iload_n X dX7_pack_5 1 rfl rfl ?_
  refine go_iconst X (v := (-1)) dX7_pack_6 (by decide) ?_
  refine go_icmp_eq X 21 dX7_pack_7 (by decide) (fun c1 => ?_) (fun c1 => ?_)
  · replace h := h.1 c1
    refine go_aload_n X dX7_pack_21 0 rfl rfl ?_
    refine go_iload_n X dX7_pack_22 1 rfl rfl ?_
    refine go_iconst X (v := (-1)) dX7_pack_23 (by decide) ?_
    refine go_callVv X (kX7_layAhead l D cy a_o a_o_tape a_o_sampleLong a_o_sampleByte a_o_idOf a_o_pieces a_o_pieceLong a_o_bytesOf a_o_dictionary a_o_covered a_o_taken a_o_row a_o_cost a_o_leastD a_o_out a_o_text 0 o_taped o_samples o_takenMany o_ahead o_textLong o_outMany o_items o_matches o_textMany o_pieceLong o_bytesOf o_dictionary o_row p1 ((-1) : Int32) _ h) (cwV 2 X.2.2.2.2.1 gX7_pack_X7_layAhead rfl rfl rfl cd_X7_layAhead ⟨by decide, by decide⟩) (wr := [(a_o_tape, .inl (cy 1, 200, .inl o_tape)), (a_o_idOf, .inl (cy 1, 6, .inl o_idOf)), (a_o_cost, .inl (cy 1, 201, .inl o_cost)), (a_o_leastD, .inl (cy 1, 2010, .inl o_leastD)), (a_o_out, .inl (cy 1, 400, .inl o_out))]) (ws2 := fun u => [(a_o, .inr (10, [.int 0, .ref a_o_tape, .int o_taped, .int o_samples, .ref a_o_sampleLong, .ref a_o_sampleByte, .ref a_o_idOf, .ref a_o_pieces, .ref a_o_pieceLong, .ref a_o_bytesOf, .ref a_o_dictionary, .ref a_o_covered, .ref a_o_taken, .int o_takenMany, .ref a_o_row, .int u.1, .int o_textLong, .ref a_o_cost, .ref a_o_leastD, .ref a_o_out, .int o_outMany, .int o_items, .int o_matches, .ref a_o_text, .int o_textMany])), (a_o_tape, .inl (cy 1, 200, .inl o_tape)), (a_o_idOf, .inl (cy 1, 6, .inl o_idOf)), (a_o_pieceLong, .inl (cy 1, 480, .inl o_pieceLong)), (a_o_bytesOf, .inl (cy 1, 6, .inl o_bytesOf)), (a_o_dictionary, .inl (cy 1, 480, .inl o_dictionary)), (a_o_row, .inl (cy 1, 280, .inl u.2)), (a_o_cost, .inl (cy 1, 201, .inl o_cost)), (a_o_leastD, .inl (cy 1, 2010, .inl o_leastD)), (a_o_out, .inl (cy 1, 400, .inl o_out))]) (perm_ix 10 [0, 3, 4, 5, 6, 1, 2, 7, 8, 9] rfl (by decide +kernel) rfl) (fun u => perm_ix 10 [0, 5, 6, 1, 2, 3, 4, 7, 8, 9] rfl (by decide +kernel) rfl) rfl rfl rfl rfl (Nat.le_of_ble_eq_true rfl) dX7_pack_24 ⟨by decide, by decide⟩ (fun u h => ?_)
    obtain ⟨s2, s3⟩ := u
    refine go_aload_n X dX7_pack_27 0 rfl rfl ?_
    refine go_aload_n X dX7_pack_28 0 rfl rfl ?_
    refine go_get X fi_X7_pack_X7 0 rfl rfl 2 (by decide) fl_X7_pack_56 rfl dX7_pack_29 ?_
    refine go_put X (ws' := [(a_o, .inr (10, [.int 0, .ref a_o_tape, .int o_taped, .int o_samples, .ref a_o_sampleLong, .ref a_o_sampleByte, .ref a_o_idOf, .ref a_o_pieces, .ref a_o_pieceLong, .ref a_o_bytesOf, .ref a_o_dictionary, .ref a_o_covered, .ref a_o_taken, .int o_takenMany, .ref a_o_row, .int s2, .int o_taped, .ref a_o_cost, .ref a_o_leastD, .ref a_o_out, .int o_outMany, .int o_items, .int o_matches, .ref a_o_text, .int o_textMany])), (a_o_tape, .inl (cy 1, 200, .inl o_tape)), (a_o_idOf, .inl (cy 1, 6, .inl o_idOf)), (a_o_pieceLong, .inl (cy 1, 480, .inl o_pieceLong)), (a_o_bytesOf, .inl (cy 1, 6, .inl o_bytesOf)), (a_o_dictionary, .inl (cy 1, 480, .inl o_dictionary)), (a_o_row, .inl (cy 1, 280, .inl s3)), (a_o_cost, .inl (cy 1, 201, .inl o_cost)), (a_o_leastD, .inl (cy 1, 2010, .inl o_leastD)), (a_o_out, .inl (cy 1, 400, .inl o_out))]) fi_X7_pack_X7 tyX7 tyX7_ok nmX7 0 rfl rfl 16 (by decide) fl_X7_pack_103 rfl (tyX7_ok 16 (by decide)) rfl rfl (Nat.le_of_ble_eq_true rfl) rfl dX7_pack_32 ?_
    refine go_iconst X (v := 0) dX7_pack_35 (by decide) ?_
    refine go_istore_n X (lv' := [(2, .int 0), (0, .ref a_o), (1, .int p1)]) dX7_pack_36 rfl (by decide) rfl ?_
    obtain ⟨n34, h⟩ := h
    refine go_lv [1, 2, 0] rfl ?_
    refine pX7_pack_37 l X a_o a_o_tape a_o_sampleLong a_o_sampleByte a_o_idOf a_o_pieces a_o_pieceLong a_o_bytesOf a_o_dictionary a_o_covered a_o_taken a_o_row a_o_cost a_o_leastD a_o_out a_o_text 0 o_taped o_samples o_takenMany s2 o_taped o_outMany o_items o_matches o_textMany o_tape o_idOf o_pieceLong o_bytesOf o_dictionary o_cost o_leastD o_out p1  _ (fun s4 y5 h => ?_) n34 s3 (0 : Int32) h
    refine go_aload_n X dX7_pack_68 0 rfl rfl ?_
    refine go_callVi X (kX7_packedLong l D cy a_o a_o_tape a_o_sampleLong a_o_sampleByte a_o_idOf a_o_pieces a_o_pieceLong a_o_bytesOf a_o_dictionary a_o_covered a_o_taken a_o_row a_o_cost a_o_leastD a_o_out a_o_text 0 o_taped o_samples o_takenMany s2 o_taped o_outMany o_items o_matches o_textMany s4 o_cost o_leastD _ h) (cwV 0 X.2.2.2.2.1 gX7_pack_X7_packedLong rfl rfl rfl cd_X7_packedLong ⟨by decide, by decide⟩) (wr := [(a_o_tape, .inl (cy 1, 200, .inl o_tape)), (a_o_idOf, .inl (cy 1, 6, .inl o_idOf)), (a_o_pieceLong, .inl (cy 1, 480, .inl o_pieceLong)), (a_o_bytesOf, .inl (cy 1, 6, .inl o_bytesOf)), (a_o_dictionary, .inl (cy 1, 480, .inl o_dictionary)), (a_o_out, .inl (cy 1, 400, .inl o_out))]) (ws2 := fun u => [(a_o, .inr (10, [.int 0, .ref a_o_tape, .int o_taped, .int o_samples, .ref a_o_sampleLong, .ref a_o_sampleByte, .ref a_o_idOf, .ref a_o_pieces, .ref a_o_pieceLong, .ref a_o_bytesOf, .ref a_o_dictionary, .ref a_o_covered, .ref a_o_taken, .int o_takenMany, .ref a_o_row, .int s2, .int o_taped, .ref a_o_cost, .ref a_o_leastD, .ref a_o_out, .int o_outMany, .int o_items, .int o_matches, .ref a_o_text, .int o_textMany])), (a_o_tape, .inl (cy 1, 200, .inl o_tape)), (a_o_idOf, .inl (cy 1, 6, .inl o_idOf)), (a_o_pieceLong, .inl (cy 1, 480, .inl o_pieceLong)), (a_o_bytesOf, .inl (cy 1, 6, .inl o_bytesOf)), (a_o_dictionary, .inl (cy 1, 480, .inl o_dictionary)), (a_o_row, .inl (cy 1, 280, .inl s4)), (a_o_cost, .inl (cy 1, 201, .inl u.1)), (a_o_leastD, .inl (cy 1, 2010, .inl u.2)), (a_o_out, .inl (cy 1, 400, .inl o_out))]) (perm_ix 10 [0, 6, 7, 8, 1, 2, 3, 4, 5, 9] rfl (by decide +kernel) rfl) (fun u => perm_ix 10 [0, 4, 5, 6, 7, 8, 1, 2, 3, 9] rfl (by decide +kernel) rfl) rfl rfl rfl rfl (Nat.le_of_ble_eq_true rfl) dX7_pack_69 ⟨by decide, by decide⟩ (fun r10 u h => ?_)
    obtain ⟨s11, s12⟩ := u
    refine go_istore_n X (lv' := [(2, .int r10), (0, .ref a_o), (1, .int p1)]) dX7_pack_72 rfl (by decide) rfl ?_
    refine go_aload_n X dX7_pack_73 1 rfl rfl ?_
    refine go_iconst X (v := 0) dX7_pack_74 (by decide) ?_
    refine go_put X (ws' := [(a_o, .inr (10, [.int 0, .ref a_o_tape, .int o_taped, .int o_samples, .ref a_o_sampleLong, .ref a_o_sampleByte, .ref a_o_idOf, .ref a_o_pieces, .ref a_o_pieceLong, .ref a_o_bytesOf, .ref a_o_dictionary, .ref a_o_covered, .ref a_o_taken, .int o_takenMany, .ref a_o_row, .int s2, .int o_taped, .ref a_o_cost, .ref a_o_leastD, .ref a_o_out, .int 0, .int o_items, .int o_matches, .ref a_o_text, .int o_textMany])), (a_o_tape, .inl (cy 1, 200, .inl o_tape)), (a_o_idOf, .inl (cy 1, 6, .inl o_idOf)), (a_o_pieceLong, .inl (cy 1, 480, .inl o_pieceLong)), (a_o_bytesOf, .inl (cy 1, 6, .inl o_bytesOf)), (a_o_dictionary, .inl (cy 1, 480, .inl o_dictionary)), (a_o_row, .inl (cy 1, 280, .inl s4)), (a_o_cost, .inl (cy 1, 201, .inl s11)), (a_o_leastD, .inl (cy 1, 2010, .inl s12)), (a_o_out, .inl (cy 1, 400, .inl o_out))]) fi_X7_pack_X7 tyX7 tyX7_ok nmX7 0 rfl rfl 20 (by decide) fl_X7_pack_141 rfl (tyX7_ok 20 (by decide)) rfl rfl (Nat.le_of_ble_eq_true rfl) rfl dX7_pack_75 ?_
    refine go_aload_n X dX7_pack_78 1 rfl rfl ?_
    refine go_iconst X (v := 0) dX7_pack_79 (by decide) ?_
    refine go_put X (ws' := [(a_o, .inr (10, [.int 0, .ref a_o_tape, .int o_taped, .int o_samples, .ref a_o_sampleLong, .ref a_o_sampleByte, .ref a_o_idOf, .ref a_o_pieces, .ref a_o_pieceLong, .ref a_o_bytesOf, .ref a_o_dictionary, .ref a_o_covered, .ref a_o_taken, .int o_takenMany, .ref a_o_row, .int s2, .int o_taped, .ref a_o_cost, .ref a_o_leastD, .ref a_o_out, .int 0, .int 0, .int o_matches, .ref a_o_text, .int o_textMany])), (a_o_tape, .inl (cy 1, 200, .inl o_tape)), (a_o_idOf, .inl (cy 1, 6, .inl o_idOf)), (a_o_pieceLong, .inl (cy 1, 480, .inl o_pieceLong)), (a_o_bytesOf, .inl (cy 1, 6, .inl o_bytesOf)), (a_o_dictionary, .inl (cy 1, 480, .inl o_dictionary)), (a_o_row, .inl (cy 1, 280, .inl s4)), (a_o_cost, .inl (cy 1, 201, .inl s11)), (a_o_leastD, .inl (cy 1, 2010, .inl s12)), (a_o_out, .inl (cy 1, 400, .inl o_out))]) fi_X7_pack_X7 tyX7 tyX7_ok nmX7 0 rfl rfl 21 (by decide) fl_X7_pack_150 rfl (tyX7_ok 21 (by decide)) rfl rfl (Nat.le_of_ble_eq_true rfl) rfl dX7_pack_80 ?_
    refine go_aload_n X dX7_pack_83 1 rfl rfl ?_
    refine go_iconst X (v := 0) dX7_pack_84 (by decide) ?_
    refine go_put X (ws' := [(a_o, .inr (10, [.int 0, .ref a_o_tape, .int o_taped, .int o_samples, .ref a_o_sampleLong, .ref a_o_sampleByte, .ref a_o_idOf, .ref a_o_pieces, .ref a_o_pieceLong, .ref a_o_bytesOf, .ref a_o_dictionary, .ref a_o_covered, .ref a_o_taken, .int o_takenMany, .ref a_o_row, .int s2, .int o_taped, .ref a_o_cost, .ref a_o_leastD, .ref a_o_out, .int 0, .int 0, .int 0, .ref a_o_text, .int o_textMany])), (a_o_tape, .inl (cy 1, 200, .inl o_tape)), (a_o_idOf, .inl (cy 1, 6, .inl o_idOf)), (a_o_pieceLong, .inl (cy 1, 480, .inl o_pieceLong)), (a_o_bytesOf, .inl (cy 1, 6, .inl o_bytesOf)), (a_o_dictionary, .inl (cy 1, 480, .inl o_dictionary)), (a_o_row, .inl (cy 1, 280, .inl s4)), (a_o_cost, .inl (cy 1, 201, .inl s11)), (a_o_leastD, .inl (cy 1, 2010, .inl s12)), (a_o_out, .inl (cy 1, 400, .inl o_out))]) fi_X7_pack_X7 tyX7 tyX7_ok nmX7 0 rfl rfl 22 (by decide) fl_X7_pack_147 rfl (tyX7_ok 22 (by decide)) rfl rfl (Nat.le_of_ble_eq_true rfl) rfl dX7_pack_85 ?_
    refine go_iload_n X dX7_pack_88 2 rfl rfl ?_
    refine go_iconst X (v := (-1)) dX7_pack_89 (by decide) ?_
    refine go_icmp_ne X 97 dX7_pack_90 (by decide) (fun c0 => absurd c1 c0) (fun _ => ?_)
    refine go_iconst X (v := 0) dX7_pack_93 (by decide) ?_
    refine go_goto X 102 dX7_pack_94 (by decide) ?_
    refine go_istore_n X (lv' := [(3, .int 0), (2, .int r10), (0, .ref a_o), (1, .int p1)]) dX7_pack_102 rfl (by decide) rfl ?_
    refine go_aload_n X dX7_pack_103 2 rfl rfl ?_
    refine go_iload_n X dX7_pack_104 3 rfl rfl ?_
    refine go_iconst X (v := (-1)) dX7_pack_105 (by decide) ?_
    refine go_icmp_ne X 113 dX7_pack_106 (by decide) (fun c0 => absurd c1 c0) (fun _ => ?_)
    refine go_iconst X (v := 0) dX7_pack_109 (by decide) ?_
    refine go_goto X 119 dX7_pack_110 (by decide) ?_
    refine go_callVv X (kX7_put l D cy a_o a_o_tape a_o_sampleLong a_o_sampleByte a_o_idOf a_o_pieces a_o_pieceLong a_o_bytesOf a_o_dictionary a_o_covered a_o_taken a_o_row a_o_cost a_o_leastD a_o_out a_o_text 0 o_taped o_samples o_takenMany s2 o_taped 0 0 0 o_textMany o_out (0 : Int32) _ h) (cwV 1 X.2.2.2.2.1 gX7_pack_X7_put rfl rfl rfl cd_X7_put ⟨by decide, by decide⟩) (wr := [(a_o_tape, .inl (cy 1, 200, .inl o_tape)), (a_o_idOf, .inl (cy 1, 6, .inl o_idOf)), (a_o_pieceLong, .inl (cy 1, 480, .inl o_pieceLong)), (a_o_bytesOf, .inl (cy 1, 6, .inl o_bytesOf)), (a_o_dictionary, .inl (cy 1, 480, .inl o_dictionary)), (a_o_row, .inl (cy 1, 280, .inl s4)), (a_o_cost, .inl (cy 1, 201, .inl s11)), (a_o_leastD, .inl (cy 1, 2010, .inl s12))]) (ws2 := fun u => [(a_o, .inr (10, [.int 0, .ref a_o_tape, .int o_taped, .int o_samples, .ref a_o_sampleLong, .ref a_o_sampleByte, .ref a_o_idOf, .ref a_o_pieces, .ref a_o_pieceLong, .ref a_o_bytesOf, .ref a_o_dictionary, .ref a_o_covered, .ref a_o_taken, .int o_takenMany, .ref a_o_row, .int s2, .int o_taped, .ref a_o_cost, .ref a_o_leastD, .ref a_o_out, .int u.1, .int 0, .int 0, .ref a_o_text, .int o_textMany])), (a_o_tape, .inl (cy 1, 200, .inl o_tape)), (a_o_idOf, .inl (cy 1, 6, .inl o_idOf)), (a_o_pieceLong, .inl (cy 1, 480, .inl o_pieceLong)), (a_o_bytesOf, .inl (cy 1, 6, .inl o_bytesOf)), (a_o_dictionary, .inl (cy 1, 480, .inl o_dictionary)), (a_o_row, .inl (cy 1, 280, .inl s4)), (a_o_cost, .inl (cy 1, 201, .inl s11)), (a_o_leastD, .inl (cy 1, 2010, .inl s12)), (a_o_out, .inl (cy 1, 400, .inl u.2))]) (perm_ix 10 [0, 9, 1, 2, 3, 4, 5, 6, 7, 8] rfl (by decide +kernel) rfl) (fun u => perm_ix 10 [0, 2, 3, 4, 5, 6, 7, 8, 9, 1] rfl (by decide +kernel) rfl) rfl rfl rfl rfl (Nat.le_of_ble_eq_true rfl) dX7_pack_119 ⟨by decide, by decide⟩ (fun u h => ?_)
    obtain ⟨s13, s14⟩ := u
    refine go_aload_n X dX7_pack_122 2 rfl rfl ?_
    refine go_iload_n X dX7_pack_123 0 rfl rfl ?_
    refine go_sipush X (v := 256) dX7_pack_124 (by decide) ?_
    refine go_idiv X dX7_pack_127 (by decide) ?_
    refine go_callVv X (kX7_put l D cy a_o a_o_tape a_o_sampleLong a_o_sampleByte a_o_idOf a_o_pieces a_o_pieceLong a_o_bytesOf a_o_dictionary a_o_covered a_o_taken a_o_row a_o_cost a_o_leastD a_o_out a_o_text 0 o_taped o_samples o_takenMany s2 o_taped s13 0 0 o_textMany s14 ((0 : Int32) / 256) _ h) (cwV 1 X.2.2.2.2.1 gX7_pack_X7_put rfl rfl rfl cd_X7_put ⟨by decide, by decide⟩) (wr := [(a_o_tape, .inl (cy 1, 200, .inl o_tape)), (a_o_idOf, .inl (cy 1, 6, .inl o_idOf)), (a_o_pieceLong, .inl (cy 1, 480, .inl o_pieceLong)), (a_o_bytesOf, .inl (cy 1, 6, .inl o_bytesOf)), (a_o_dictionary, .inl (cy 1, 480, .inl o_dictionary)), (a_o_row, .inl (cy 1, 280, .inl s4)), (a_o_cost, .inl (cy 1, 201, .inl s11)), (a_o_leastD, .inl (cy 1, 2010, .inl s12))]) (ws2 := fun u => [(a_o, .inr (10, [.int 0, .ref a_o_tape, .int o_taped, .int o_samples, .ref a_o_sampleLong, .ref a_o_sampleByte, .ref a_o_idOf, .ref a_o_pieces, .ref a_o_pieceLong, .ref a_o_bytesOf, .ref a_o_dictionary, .ref a_o_covered, .ref a_o_taken, .int o_takenMany, .ref a_o_row, .int s2, .int o_taped, .ref a_o_cost, .ref a_o_leastD, .ref a_o_out, .int u.1, .int 0, .int 0, .ref a_o_text, .int o_textMany])), (a_o_tape, .inl (cy 1, 200, .inl o_tape)), (a_o_idOf, .inl (cy 1, 6, .inl o_idOf)), (a_o_pieceLong, .inl (cy 1, 480, .inl o_pieceLong)), (a_o_bytesOf, .inl (cy 1, 6, .inl o_bytesOf)), (a_o_dictionary, .inl (cy 1, 480, .inl o_dictionary)), (a_o_row, .inl (cy 1, 280, .inl s4)), (a_o_cost, .inl (cy 1, 201, .inl s11)), (a_o_leastD, .inl (cy 1, 2010, .inl s12)), (a_o_out, .inl (cy 1, 400, .inl u.2))]) (perm_ix 10 [0, 9, 1, 2, 3, 4, 5, 6, 7, 8] rfl (by decide +kernel) rfl) (fun u => perm_ix 10 [0, 2, 3, 4, 5, 6, 7, 8, 9, 1] rfl (by decide +kernel) rfl) rfl rfl rfl rfl (Nat.le_of_ble_eq_true rfl) dX7_pack_128 ⟨by decide, by decide⟩ (fun u h => ?_)
    obtain ⟨s15, s16⟩ := u
    refine go_aload_n X dX7_pack_131 2 rfl rfl ?_
    refine go_iload_n X dX7_pack_132 0 rfl rfl ?_
    refine go_sipush X (v := 256) dX7_pack_133 (by decide) ?_
    refine go_irem X dX7_pack_136 (by decide) ?_
    refine go_callVv X (kX7_put l D cy a_o a_o_tape a_o_sampleLong a_o_sampleByte a_o_idOf a_o_pieces a_o_pieceLong a_o_bytesOf a_o_dictionary a_o_covered a_o_taken a_o_row a_o_cost a_o_leastD a_o_out a_o_text 0 o_taped o_samples o_takenMany s2 o_taped s15 0 0 o_textMany s16 ((0 : Int32) - (0 : Int32) / 256 * 256) _ h) (cwV 1 X.2.2.2.2.1 gX7_pack_X7_put rfl rfl rfl cd_X7_put ⟨by decide, by decide⟩) (wr := [(a_o_tape, .inl (cy 1, 200, .inl o_tape)), (a_o_idOf, .inl (cy 1, 6, .inl o_idOf)), (a_o_pieceLong, .inl (cy 1, 480, .inl o_pieceLong)), (a_o_bytesOf, .inl (cy 1, 6, .inl o_bytesOf)), (a_o_dictionary, .inl (cy 1, 480, .inl o_dictionary)), (a_o_row, .inl (cy 1, 280, .inl s4)), (a_o_cost, .inl (cy 1, 201, .inl s11)), (a_o_leastD, .inl (cy 1, 2010, .inl s12))]) (ws2 := fun u => [(a_o, .inr (10, [.int 0, .ref a_o_tape, .int o_taped, .int o_samples, .ref a_o_sampleLong, .ref a_o_sampleByte, .ref a_o_idOf, .ref a_o_pieces, .ref a_o_pieceLong, .ref a_o_bytesOf, .ref a_o_dictionary, .ref a_o_covered, .ref a_o_taken, .int o_takenMany, .ref a_o_row, .int s2, .int o_taped, .ref a_o_cost, .ref a_o_leastD, .ref a_o_out, .int u.1, .int 0, .int 0, .ref a_o_text, .int o_textMany])), (a_o_tape, .inl (cy 1, 200, .inl o_tape)), (a_o_idOf, .inl (cy 1, 6, .inl o_idOf)), (a_o_pieceLong, .inl (cy 1, 480, .inl o_pieceLong)), (a_o_bytesOf, .inl (cy 1, 6, .inl o_bytesOf)), (a_o_dictionary, .inl (cy 1, 480, .inl o_dictionary)), (a_o_row, .inl (cy 1, 280, .inl s4)), (a_o_cost, .inl (cy 1, 201, .inl s11)), (a_o_leastD, .inl (cy 1, 2010, .inl s12)), (a_o_out, .inl (cy 1, 400, .inl u.2))]) (perm_ix 10 [0, 9, 1, 2, 3, 4, 5, 6, 7, 8] rfl (by decide +kernel) rfl) (fun u => perm_ix 10 [0, 2, 3, 4, 5, 6, 7, 8, 9, 1] rfl (by decide +kernel) rfl) rfl rfl rfl rfl (Nat.le_of_ble_eq_true rfl) dX7_pack_137 ⟨by decide, by decide⟩ (fun u h => ?_)
    obtain ⟨s17, s18⟩ := u
    refine go_aload_n X dX7_pack_140 2 rfl rfl ?_
    refine go_aload_n X dX7_pack_141 2 rfl rfl ?_
    refine go_get X fi_X7_pack_X7 0 rfl rfl 2 (by decide) fl_X7_pack_56 rfl dX7_pack_142 ?_
    refine go_callVv X (kX7_put l D cy a_o a_o_tape a_o_sampleLong a_o_sampleByte a_o_idOf a_o_pieces a_o_pieceLong a_o_bytesOf a_o_dictionary a_o_covered a_o_taken a_o_row a_o_cost a_o_leastD a_o_out a_o_text 0 o_taped o_samples o_takenMany s2 o_taped s17 0 0 o_textMany s18 o_taped _ h) (cwV 1 X.2.2.2.2.1 gX7_pack_X7_put rfl rfl rfl cd_X7_put ⟨by decide, by decide⟩) (wr := [(a_o_tape, .inl (cy 1, 200, .inl o_tape)), (a_o_idOf, .inl (cy 1, 6, .inl o_idOf)), (a_o_pieceLong, .inl (cy 1, 480, .inl o_pieceLong)), (a_o_bytesOf, .inl (cy 1, 6, .inl o_bytesOf)), (a_o_dictionary, .inl (cy 1, 480, .inl o_dictionary)), (a_o_row, .inl (cy 1, 280, .inl s4)), (a_o_cost, .inl (cy 1, 201, .inl s11)), (a_o_leastD, .inl (cy 1, 2010, .inl s12))]) (ws2 := fun u => [(a_o, .inr (10, [.int 0, .ref a_o_tape, .int o_taped, .int o_samples, .ref a_o_sampleLong, .ref a_o_sampleByte, .ref a_o_idOf, .ref a_o_pieces, .ref a_o_pieceLong, .ref a_o_bytesOf, .ref a_o_dictionary, .ref a_o_covered, .ref a_o_taken, .int o_takenMany, .ref a_o_row, .int s2, .int o_taped, .ref a_o_cost, .ref a_o_leastD, .ref a_o_out, .int u.1, .int 0, .int 0, .ref a_o_text, .int o_textMany])), (a_o_tape, .inl (cy 1, 200, .inl o_tape)), (a_o_idOf, .inl (cy 1, 6, .inl o_idOf)), (a_o_pieceLong, .inl (cy 1, 480, .inl o_pieceLong)), (a_o_bytesOf, .inl (cy 1, 6, .inl o_bytesOf)), (a_o_dictionary, .inl (cy 1, 480, .inl o_dictionary)), (a_o_row, .inl (cy 1, 280, .inl s4)), (a_o_cost, .inl (cy 1, 201, .inl s11)), (a_o_leastD, .inl (cy 1, 2010, .inl s12)), (a_o_out, .inl (cy 1, 400, .inl u.2))]) (perm_ix 10 [0, 9, 1, 2, 3, 4, 5, 6, 7, 8] rfl (by decide +kernel) rfl) (fun u => perm_ix 10 [0, 2, 3, 4, 5, 6, 7, 8, 9, 1] rfl (by decide +kernel) rfl) rfl rfl rfl rfl (Nat.le_of_ble_eq_true rfl) dX7_pack_145 ⟨by decide, by decide⟩ (fun u h => ?_)
    obtain ⟨s19, s20⟩ := u
    refine go_iconst X (v := 0) dX7_pack_148 (by decide) ?_
    refine go_istore X (lv' := [(4, .int 0), (3, .int 0), (2, .int r10), (0, .ref a_o), (1, .int p1)]) dX7_pack_149 (by decide) rfl ?_
    obtain ⟨n33, h⟩ := h
    refine go_lv [3, 2, 0] rfl ?_
    refine pX7_pack_151 l X a_o a_o_tape a_o_sampleLong a_o_sampleByte a_o_idOf a_o_pieces a_o_pieceLong a_o_bytesOf a_o_dictionary a_o_covered a_o_taken a_o_row a_o_cost a_o_leastD a_o_out a_o_text 0 o_taped o_samples o_takenMany s2 o_taped o_textMany o_tape o_idOf o_pieceLong o_bytesOf o_dictionary s4 s11 s12 r10  _ (fun s21 s22 s23 s24 y25 h => ?_) n33 s19 0 0 s20 (0 : Int32) h
    refine go_aload_n X dX7_pack_184 0 rfl rfl ?_
    refine go_iconst X (v := 0) dX7_pack_185 (by decide) ?_
    refine go_put X (ws' := [(a_o, .inr (10, [.int 0, .ref a_o_tape, .int 0, .int o_samples, .ref a_o_sampleLong, .ref a_o_sampleByte, .ref a_o_idOf, .ref a_o_pieces, .ref a_o_pieceLong, .ref a_o_bytesOf, .ref a_o_dictionary, .ref a_o_covered, .ref a_o_taken, .int o_takenMany, .ref a_o_row, .int s2, .int o_taped, .ref a_o_cost, .ref a_o_leastD, .ref a_o_out, .int s21, .int s22, .int s23, .ref a_o_text, .int o_textMany])), (a_o_tape, .inl (cy 1, 200, .inl o_tape)), (a_o_idOf, .inl (cy 1, 6, .inl o_idOf)), (a_o_pieceLong, .inl (cy 1, 480, .inl o_pieceLong)), (a_o_bytesOf, .inl (cy 1, 6, .inl o_bytesOf)), (a_o_dictionary, .inl (cy 1, 480, .inl o_dictionary)), (a_o_row, .inl (cy 1, 280, .inl s4)), (a_o_cost, .inl (cy 1, 201, .inl s11)), (a_o_leastD, .inl (cy 1, 2010, .inl s12)), (a_o_out, .inl (cy 1, 400, .inl s24))]) fi_X7_pack_X7 tyX7 tyX7_ok nmX7 0 rfl rfl 2 (by decide) fl_X7_pack_56 rfl (tyX7_ok 2 (by decide)) rfl rfl (Nat.le_of_ble_eq_true rfl) rfl dX7_pack_186 ?_
    refine go_iload_n X dX7_pack_189 1 rfl rfl ?_
    exact hR r10 (0, 0, s2, o_taped, s21, s22, s23, s4, s11, s12, s24) 190 _ dX7_pack_190 rfl h
  · replace h := h.2 c1
    refine go_aload_n X dX7_pack_10 0 rfl rfl ?_
    refine go_iload_n X dX7_pack_11 1 rfl rfl ?_
    refine go_callVi X (kX7_isThere l D cy a_o a_o_tape a_o_sampleLong a_o_sampleByte a_o_idOf a_o_pieces a_o_pieceLong a_o_bytesOf a_o_dictionary a_o_covered a_o_taken a_o_row a_o_cost a_o_leastD a_o_out a_o_text 0 o_taped o_samples o_takenMany o_ahead o_textLong o_outMany o_items o_matches o_textMany o_idOf p1 _ h) (cwV 1 X.2.2.2.2.1 gX7_pack_X7_isThere rfl rfl rfl cd_X7_isThere ⟨by decide, by decide⟩) (wr := [(a_o_tape, .inl (cy 1, 200, .inl o_tape)), (a_o_pieceLong, .inl (cy 1, 480, .inl o_pieceLong)), (a_o_bytesOf, .inl (cy 1, 6, .inl o_bytesOf)), (a_o_dictionary, .inl (cy 1, 480, .inl o_dictionary)), (a_o_row, .inl (cy 1, 280, .inl o_row)), (a_o_cost, .inl (cy 1, 201, .inl o_cost)), (a_o_leastD, .inl (cy 1, 2010, .inl o_leastD)), (a_o_out, .inl (cy 1, 400, .inl o_out))]) (ws2 := fun u => [(a_o, .inr (10, [.int 0, .ref a_o_tape, .int o_taped, .int o_samples, .ref a_o_sampleLong, .ref a_o_sampleByte, .ref a_o_idOf, .ref a_o_pieces, .ref a_o_pieceLong, .ref a_o_bytesOf, .ref a_o_dictionary, .ref a_o_covered, .ref a_o_taken, .int o_takenMany, .ref a_o_row, .int o_ahead, .int o_textLong, .ref a_o_cost, .ref a_o_leastD, .ref a_o_out, .int o_outMany, .int o_items, .int o_matches, .ref a_o_text, .int o_textMany])), (a_o_tape, .inl (cy 1, 200, .inl o_tape)), (a_o_idOf, .inl (cy 1, 6, .inl o_idOf)), (a_o_pieceLong, .inl (cy 1, 480, .inl o_pieceLong)), (a_o_bytesOf, .inl (cy 1, 6, .inl o_bytesOf)), (a_o_dictionary, .inl (cy 1, 480, .inl o_dictionary)), (a_o_row, .inl (cy 1, 280, .inl o_row)), (a_o_cost, .inl (cy 1, 201, .inl o_cost)), (a_o_leastD, .inl (cy 1, 2010, .inl o_leastD)), (a_o_out, .inl (cy 1, 400, .inl o_out))]) (perm_ix 10 [0, 2, 1, 3, 4, 5, 6, 7, 8, 9] rfl (by decide +kernel) rfl) (fun u => perm_ix 10 [0, 2, 1, 3, 4, 5, 6, 7, 8, 9] rfl (by decide +kernel) rfl) rfl rfl rfl rfl (Nat.le_of_ble_eq_true rfl) dX7_pack_12 ⟨by decide, by decide⟩ (fun r35 u h => ?_)
    refine go_if_ne X 21 dX7_pack_15 (by decide) (fun c36 => ?_) (fun c36 => ?_)
    · replace h := h.1 c36
      refine go_aload_n X dX7_pack_21 0 rfl rfl ?_
      refine go_iload_n X dX7_pack_22 1 rfl rfl ?_
      refine go_iconst X (v := (-1)) dX7_pack_23 (by decide) ?_
      refine go_callVv X (kX7_layAhead l D cy a_o a_o_tape a_o_sampleLong a_o_sampleByte a_o_idOf a_o_pieces a_o_pieceLong a_o_bytesOf a_o_dictionary a_o_covered a_o_taken a_o_row a_o_cost a_o_leastD a_o_out a_o_text 0 o_taped o_samples o_takenMany o_ahead o_textLong o_outMany o_items o_matches o_textMany o_pieceLong o_bytesOf o_dictionary o_row p1 ((-1) : Int32) _ h) (cwV 2 X.2.2.2.2.1 gX7_pack_X7_layAhead rfl rfl rfl cd_X7_layAhead ⟨by decide, by decide⟩) (wr := [(a_o_tape, .inl (cy 1, 200, .inl o_tape)), (a_o_idOf, .inl (cy 1, 6, .inl o_idOf)), (a_o_cost, .inl (cy 1, 201, .inl o_cost)), (a_o_leastD, .inl (cy 1, 2010, .inl o_leastD)), (a_o_out, .inl (cy 1, 400, .inl o_out))]) (ws2 := fun u => [(a_o, .inr (10, [.int 0, .ref a_o_tape, .int o_taped, .int o_samples, .ref a_o_sampleLong, .ref a_o_sampleByte, .ref a_o_idOf, .ref a_o_pieces, .ref a_o_pieceLong, .ref a_o_bytesOf, .ref a_o_dictionary, .ref a_o_covered, .ref a_o_taken, .int o_takenMany, .ref a_o_row, .int u.1, .int o_textLong, .ref a_o_cost, .ref a_o_leastD, .ref a_o_out, .int o_outMany, .int o_items, .int o_matches, .ref a_o_text, .int o_textMany])), (a_o_tape, .inl (cy 1, 200, .inl o_tape)), (a_o_idOf, .inl (cy 1, 6, .inl o_idOf)), (a_o_pieceLong, .inl (cy 1, 480, .inl o_pieceLong)), (a_o_bytesOf, .inl (cy 1, 6, .inl o_bytesOf)), (a_o_dictionary, .inl (cy 1, 480, .inl o_dictionary)), (a_o_row, .inl (cy 1, 280, .inl u.2)), (a_o_cost, .inl (cy 1, 201, .inl o_cost)), (a_o_leastD, .inl (cy 1, 2010, .inl o_leastD)), (a_o_out, .inl (cy 1, 400, .inl o_out))]) (perm_ix 10 [0, 3, 4, 5, 6, 1, 2, 7, 8, 9] rfl (by decide +kernel) rfl) (fun u => perm_ix 10 [0, 5, 6, 1, 2, 3, 4, 7, 8, 9] rfl (by decide +kernel) rfl) rfl rfl rfl rfl (Nat.le_of_ble_eq_true rfl) dX7_pack_24 ⟨by decide, by decide⟩ (fun u h => ?_)
      obtain ⟨s37, s38⟩ := u
      refine go_aload_n X dX7_pack_27 0 rfl rfl ?_
      refine go_aload_n X dX7_pack_28 0 rfl rfl ?_
      refine go_get X fi_X7_pack_X7 0 rfl rfl 2 (by decide) fl_X7_pack_56 rfl dX7_pack_29 ?_
      refine go_put X (ws' := [(a_o, .inr (10, [.int 0, .ref a_o_tape, .int o_taped, .int o_samples, .ref a_o_sampleLong, .ref a_o_sampleByte, .ref a_o_idOf, .ref a_o_pieces, .ref a_o_pieceLong, .ref a_o_bytesOf, .ref a_o_dictionary, .ref a_o_covered, .ref a_o_taken, .int o_takenMany, .ref a_o_row, .int s37, .int o_taped, .ref a_o_cost, .ref a_o_leastD, .ref a_o_out, .int o_outMany, .int o_items, .int o_matches, .ref a_o_text, .int o_textMany])), (a_o_tape, .inl (cy 1, 200, .inl o_tape)), (a_o_idOf, .inl (cy 1, 6, .inl o_idOf)), (a_o_pieceLong, .inl (cy 1, 480, .inl o_pieceLong)), (a_o_bytesOf, .inl (cy 1, 6, .inl o_bytesOf)), (a_o_dictionary, .inl (cy 1, 480, .inl o_dictionary)), (a_o_row, .inl (cy 1, 280, .inl s38)), (a_o_cost, .inl (cy 1, 201, .inl o_cost)), (a_o_leastD, .inl (cy 1, 2010, .inl o_leastD)), (a_o_out, .inl (cy 1, 400, .inl o_out))]) fi_X7_pack_X7 tyX7 tyX7_ok nmX7 0 rfl rfl 16 (by decide) fl_X7_pack_103 rfl (tyX7_ok 16 (by decide)) rfl rfl (Nat.le_of_ble_eq_true rfl) rfl dX7_pack_32 ?_
      refine go_iconst X (v := 0) dX7_pack_35 (by decide) ?_
      refine go_istore_n X (lv' := [(2, .int 0), (0, .ref a_o), (1, .int p1)]) dX7_pack_36 rfl (by decide) rfl ?_
      obtain ⟨n60, h⟩ := h
      refine go_lv [1, 2, 0] rfl ?_
      refine pX7_pack_37 l X a_o a_o_tape a_o_sampleLong a_o_sampleByte a_o_idOf a_o_pieces a_o_pieceLong a_o_bytesOf a_o_dictionary a_o_covered a_o_taken a_o_row a_o_cost a_o_leastD a_o_out a_o_text 0 o_taped o_samples o_takenMany s37 o_taped o_outMany o_items o_matches o_textMany o_tape o_idOf o_pieceLong o_bytesOf o_dictionary o_cost o_leastD o_out p1  _ (fun s39 y40 h => ?_) n60 s38 (0 : Int32) h
      refine go_aload_n X dX7_pack_68 0 rfl rfl ?_
      refine go_callVi X (kX7_packedLong l D cy a_o a_o_tape a_o_sampleLong a_o_sampleByte a_o_idOf a_o_pieces a_o_pieceLong a_o_bytesOf a_o_dictionary a_o_covered a_o_taken a_o_row a_o_cost a_o_leastD a_o_out a_o_text 0 o_taped o_samples o_takenMany s37 o_taped o_outMany o_items o_matches o_textMany s39 o_cost o_leastD _ h) (cwV 0 X.2.2.2.2.1 gX7_pack_X7_packedLong rfl rfl rfl cd_X7_packedLong ⟨by decide, by decide⟩) (wr := [(a_o_tape, .inl (cy 1, 200, .inl o_tape)), (a_o_idOf, .inl (cy 1, 6, .inl o_idOf)), (a_o_pieceLong, .inl (cy 1, 480, .inl o_pieceLong)), (a_o_bytesOf, .inl (cy 1, 6, .inl o_bytesOf)), (a_o_dictionary, .inl (cy 1, 480, .inl o_dictionary)), (a_o_out, .inl (cy 1, 400, .inl o_out))]) (ws2 := fun u => [(a_o, .inr (10, [.int 0, .ref a_o_tape, .int o_taped, .int o_samples, .ref a_o_sampleLong, .ref a_o_sampleByte, .ref a_o_idOf, .ref a_o_pieces, .ref a_o_pieceLong, .ref a_o_bytesOf, .ref a_o_dictionary, .ref a_o_covered, .ref a_o_taken, .int o_takenMany, .ref a_o_row, .int s37, .int o_taped, .ref a_o_cost, .ref a_o_leastD, .ref a_o_out, .int o_outMany, .int o_items, .int o_matches, .ref a_o_text, .int o_textMany])), (a_o_tape, .inl (cy 1, 200, .inl o_tape)), (a_o_idOf, .inl (cy 1, 6, .inl o_idOf)), (a_o_pieceLong, .inl (cy 1, 480, .inl o_pieceLong)), (a_o_bytesOf, .inl (cy 1, 6, .inl o_bytesOf)), (a_o_dictionary, .inl (cy 1, 480, .inl o_dictionary)), (a_o_row, .inl (cy 1, 280, .inl s39)), (a_o_cost, .inl (cy 1, 201, .inl u.1)), (a_o_leastD, .inl (cy 1, 2010, .inl u.2)), (a_o_out, .inl (cy 1, 400, .inl o_out))]) (perm_ix 10 [0, 6, 7, 8, 1, 2, 3, 4, 5, 9] rfl (by decide +kernel) rfl) (fun u => perm_ix 10 [0, 4, 5, 6, 7, 8, 1, 2, 3, 9] rfl (by decide +kernel) rfl) rfl rfl rfl rfl (Nat.le_of_ble_eq_true rfl) dX7_pack_69 ⟨by decide, by decide⟩ (fun r41 u h => ?_)
      obtain ⟨s42, s43⟩ := u
      refine go_istore_n X (lv' := [(2, .int r41), (0, .ref a_o), (1, .int p1)]) dX7_pack_72 rfl (by decide) rfl ?_
      refine go_aload_n X dX7_pack_73 1 rfl rfl ?_
      refine go_iconst X (v := 0) dX7_pack_74 (by decide) ?_
      refine go_put X (ws' := [(a_o, .inr (10, [.int 0, .ref a_o_tape, .int o_taped, .int o_samples, .ref a_o_sampleLong, .ref a_o_sampleByte, .ref a_o_idOf, .ref a_o_pieces, .ref a_o_pieceLong, .ref a_o_bytesOf, .ref a_o_dictionary, .ref a_o_covered, .ref a_o_taken, .int o_takenMany, .ref a_o_row, .int s37, .int o_taped, .ref a_o_cost, .ref a_o_leastD, .ref a_o_out, .int 0, .int o_items, .int o_matches, .ref a_o_text, .int o_textMany])), (a_o_tape, .inl (cy 1, 200, .inl o_tape)), (a_o_idOf, .inl (cy 1, 6, .inl o_idOf)), (a_o_pieceLong, .inl (cy 1, 480, .inl o_pieceLong)), (a_o_bytesOf, .inl (cy 1, 6, .inl o_bytesOf)), (a_o_dictionary, .inl (cy 1, 480, .inl o_dictionary)), (a_o_row, .inl (cy 1, 280, .inl s39)), (a_o_cost, .inl (cy 1, 201, .inl s42)), (a_o_leastD, .inl (cy 1, 2010, .inl s43)), (a_o_out, .inl (cy 1, 400, .inl o_out))]) fi_X7_pack_X7 tyX7 tyX7_ok nmX7 0 rfl rfl 20 (by decide) fl_X7_pack_141 rfl (tyX7_ok 20 (by decide)) rfl rfl (Nat.le_of_ble_eq_true rfl) rfl dX7_pack_75 ?_
      refine go_aload_n X dX7_pack_78 1 rfl rfl ?_
      refine go_iconst X (v := 0) dX7_pack_79 (by decide) ?_
      refine go_put X (ws' := [(a_o, .inr (10, [.int 0, .ref a_o_tape, .int o_taped, .int o_samples, .ref a_o_sampleLong, .ref a_o_sampleByte, .ref a_o_idOf, .ref a_o_pieces, .ref a_o_pieceLong, .ref a_o_bytesOf, .ref a_o_dictionary, .ref a_o_covered, .ref a_o_taken, .int o_takenMany, .ref a_o_row, .int s37, .int o_taped, .ref a_o_cost, .ref a_o_leastD, .ref a_o_out, .int 0, .int 0, .int o_matches, .ref a_o_text, .int o_textMany])), (a_o_tape, .inl (cy 1, 200, .inl o_tape)), (a_o_idOf, .inl (cy 1, 6, .inl o_idOf)), (a_o_pieceLong, .inl (cy 1, 480, .inl o_pieceLong)), (a_o_bytesOf, .inl (cy 1, 6, .inl o_bytesOf)), (a_o_dictionary, .inl (cy 1, 480, .inl o_dictionary)), (a_o_row, .inl (cy 1, 280, .inl s39)), (a_o_cost, .inl (cy 1, 201, .inl s42)), (a_o_leastD, .inl (cy 1, 2010, .inl s43)), (a_o_out, .inl (cy 1, 400, .inl o_out))]) fi_X7_pack_X7 tyX7 tyX7_ok nmX7 0 rfl rfl 21 (by decide) fl_X7_pack_150 rfl (tyX7_ok 21 (by decide)) rfl rfl (Nat.le_of_ble_eq_true rfl) rfl dX7_pack_80 ?_
      refine go_aload_n X dX7_pack_83 1 rfl rfl ?_
      refine go_iconst X (v := 0) dX7_pack_84 (by decide) ?_
      refine go_put X (ws' := [(a_o, .inr (10, [.int 0, .ref a_o_tape, .int o_taped, .int o_samples, .ref a_o_sampleLong, .ref a_o_sampleByte, .ref a_o_idOf, .ref a_o_pieces, .ref a_o_pieceLong, .ref a_o_bytesOf, .ref a_o_dictionary, .ref a_o_covered, .ref a_o_taken, .int o_takenMany, .ref a_o_row, .int s37, .int o_taped, .ref a_o_cost, .ref a_o_leastD, .ref a_o_out, .int 0, .int 0, .int 0, .ref a_o_text, .int o_textMany])), (a_o_tape, .inl (cy 1, 200, .inl o_tape)), (a_o_idOf, .inl (cy 1, 6, .inl o_idOf)), (a_o_pieceLong, .inl (cy 1, 480, .inl o_pieceLong)), (a_o_bytesOf, .inl (cy 1, 6, .inl o_bytesOf)), (a_o_dictionary, .inl (cy 1, 480, .inl o_dictionary)), (a_o_row, .inl (cy 1, 280, .inl s39)), (a_o_cost, .inl (cy 1, 201, .inl s42)), (a_o_leastD, .inl (cy 1, 2010, .inl s43)), (a_o_out, .inl (cy 1, 400, .inl o_out))]) fi_X7_pack_X7 tyX7 tyX7_ok nmX7 0 rfl rfl 22 (by decide) fl_X7_pack_147 rfl (tyX7_ok 22 (by decide)) rfl rfl (Nat.le_of_ble_eq_true rfl) rfl dX7_pack_85 ?_
      refine go_iload_n X dX7_pack_88 2 rfl rfl ?_
      refine go_iconst X (v := (-1)) dX7_pack_89 (by decide) ?_
      refine go_icmp_ne X 97 dX7_pack_90 (by decide) (fun _ => ?_) (fun c0 => absurd c0 c1)
      refine go_aload_n X dX7_pack_97 1 rfl rfl ?_
      refine go_iload_n X dX7_pack_98 2 rfl rfl ?_
      refine go_callVi X (kX7_sumOf l D cy a_o a_o_tape a_o_sampleLong a_o_sampleByte a_o_idOf a_o_pieces a_o_pieceLong a_o_bytesOf a_o_dictionary a_o_covered a_o_taken a_o_row a_o_cost a_o_leastD a_o_out a_o_text 0 o_taped o_samples o_takenMany s37 o_taped 0 0 0 o_textMany o_bytesOf o_dictionary p1 _ h) (cwV 1 X.2.2.2.2.1 gX7_pack_X7_sumOf rfl rfl rfl cd_X7_sumOf ⟨by decide, by decide⟩) (wr := [(a_o_tape, .inl (cy 1, 200, .inl o_tape)), (a_o_idOf, .inl (cy 1, 6, .inl o_idOf)), (a_o_pieceLong, .inl (cy 1, 480, .inl o_pieceLong)), (a_o_row, .inl (cy 1, 280, .inl s39)), (a_o_cost, .inl (cy 1, 201, .inl s42)), (a_o_leastD, .inl (cy 1, 2010, .inl s43)), (a_o_out, .inl (cy 1, 400, .inl o_out))]) (ws2 := fun u => [(a_o, .inr (10, [.int 0, .ref a_o_tape, .int o_taped, .int o_samples, .ref a_o_sampleLong, .ref a_o_sampleByte, .ref a_o_idOf, .ref a_o_pieces, .ref a_o_pieceLong, .ref a_o_bytesOf, .ref a_o_dictionary, .ref a_o_covered, .ref a_o_taken, .int o_takenMany, .ref a_o_row, .int s37, .int o_taped, .ref a_o_cost, .ref a_o_leastD, .ref a_o_out, .int 0, .int 0, .int 0, .ref a_o_text, .int o_textMany])), (a_o_tape, .inl (cy 1, 200, .inl o_tape)), (a_o_idOf, .inl (cy 1, 6, .inl o_idOf)), (a_o_pieceLong, .inl (cy 1, 480, .inl o_pieceLong)), (a_o_bytesOf, .inl (cy 1, 6, .inl o_bytesOf)), (a_o_dictionary, .inl (cy 1, 480, .inl o_dictionary)), (a_o_row, .inl (cy 1, 280, .inl s39)), (a_o_cost, .inl (cy 1, 201, .inl s42)), (a_o_leastD, .inl (cy 1, 2010, .inl s43)), (a_o_out, .inl (cy 1, 400, .inl o_out))]) (perm_ix 10 [0, 4, 5, 1, 2, 3, 6, 7, 8, 9] rfl (by decide +kernel) rfl) (fun u => perm_ix 10 [0, 3, 4, 5, 1, 2, 6, 7, 8, 9] rfl (by decide +kernel) rfl) rfl rfl rfl rfl (Nat.le_of_ble_eq_true rfl) dX7_pack_99 ⟨by decide, by decide⟩ (fun r44 u h => ?_)
      refine go_istore_n X (lv' := [(3, .int r44), (2, .int r41), (0, .ref a_o), (1, .int p1)]) dX7_pack_102 rfl (by decide) rfl ?_
      refine go_aload_n X dX7_pack_103 2 rfl rfl ?_
      refine go_iload_n X dX7_pack_104 3 rfl rfl ?_
      refine go_iconst X (v := (-1)) dX7_pack_105 (by decide) ?_
      refine go_icmp_ne X 113 dX7_pack_106 (by decide) (fun _ => ?_) (fun c0 => absurd c0 c1)
      refine go_aload_n X dX7_pack_113 2 rfl rfl ?_
      refine go_get X fi_X7_pack_X7 0 rfl rfl 6 (by decide) fl_X7_pack_19 rfl dX7_pack_114 ?_
      refine go_iload_n X dX7_pack_117 3 rfl rfl ?_
      obtain ⟨c45, h⟩ := h
      refine go_iald X 2 1 rfl rfl c45 dX7_pack_118 ?_
      refine go_callVv X (kX7_put l D cy a_o a_o_tape a_o_sampleLong a_o_sampleByte a_o_idOf a_o_pieces a_o_pieceLong a_o_bytesOf a_o_dictionary a_o_covered a_o_taken a_o_row a_o_cost a_o_leastD a_o_out a_o_text 0 o_taped o_samples o_takenMany s37 o_taped 0 0 0 o_textMany o_out (o_idOf p1.toNatClampNeg) _ h) (cwV 1 X.2.2.2.2.1 gX7_pack_X7_put rfl rfl rfl cd_X7_put ⟨by decide, by decide⟩) (wr := [(a_o_tape, .inl (cy 1, 200, .inl o_tape)), (a_o_idOf, .inl (cy 1, 6, .inl o_idOf)), (a_o_pieceLong, .inl (cy 1, 480, .inl o_pieceLong)), (a_o_bytesOf, .inl (cy 1, 6, .inl o_bytesOf)), (a_o_dictionary, .inl (cy 1, 480, .inl o_dictionary)), (a_o_row, .inl (cy 1, 280, .inl s39)), (a_o_cost, .inl (cy 1, 201, .inl s42)), (a_o_leastD, .inl (cy 1, 2010, .inl s43))]) (ws2 := fun u => [(a_o, .inr (10, [.int 0, .ref a_o_tape, .int o_taped, .int o_samples, .ref a_o_sampleLong, .ref a_o_sampleByte, .ref a_o_idOf, .ref a_o_pieces, .ref a_o_pieceLong, .ref a_o_bytesOf, .ref a_o_dictionary, .ref a_o_covered, .ref a_o_taken, .int o_takenMany, .ref a_o_row, .int s37, .int o_taped, .ref a_o_cost, .ref a_o_leastD, .ref a_o_out, .int u.1, .int 0, .int 0, .ref a_o_text, .int o_textMany])), (a_o_tape, .inl (cy 1, 200, .inl o_tape)), (a_o_idOf, .inl (cy 1, 6, .inl o_idOf)), (a_o_pieceLong, .inl (cy 1, 480, .inl o_pieceLong)), (a_o_bytesOf, .inl (cy 1, 6, .inl o_bytesOf)), (a_o_dictionary, .inl (cy 1, 480, .inl o_dictionary)), (a_o_row, .inl (cy 1, 280, .inl s39)), (a_o_cost, .inl (cy 1, 201, .inl s42)), (a_o_leastD, .inl (cy 1, 2010, .inl s43)), (a_o_out, .inl (cy 1, 400, .inl u.2))]) (perm_ix 10 [0, 9, 1, 2, 3, 4, 5, 6, 7, 8] rfl (by decide +kernel) rfl) (fun u => perm_ix 10 [0, 2, 3, 4, 5, 6, 7, 8, 9, 1] rfl (by decide +kernel) rfl) rfl rfl rfl rfl (Nat.le_of_ble_eq_true rfl) dX7_pack_119 ⟨by decide, by decide⟩ (fun u h => ?_)
      obtain ⟨s46, s47⟩ := u
      refine go_aload_n X dX7_pack_122 2 rfl rfl ?_
      refine go_iload_n X dX7_pack_123 0 rfl rfl ?_
      refine go_sipush X (v := 256) dX7_pack_124 (by decide) ?_
      refine go_idiv X dX7_pack_127 (by decide) ?_
      refine go_callVv X (kX7_put l D cy a_o a_o_tape a_o_sampleLong a_o_sampleByte a_o_idOf a_o_pieces a_o_pieceLong a_o_bytesOf a_o_dictionary a_o_covered a_o_taken a_o_row a_o_cost a_o_leastD a_o_out a_o_text 0 o_taped o_samples o_takenMany s37 o_taped s46 0 0 o_textMany s47 (r44 / 256) _ h) (cwV 1 X.2.2.2.2.1 gX7_pack_X7_put rfl rfl rfl cd_X7_put ⟨by decide, by decide⟩) (wr := [(a_o_tape, .inl (cy 1, 200, .inl o_tape)), (a_o_idOf, .inl (cy 1, 6, .inl o_idOf)), (a_o_pieceLong, .inl (cy 1, 480, .inl o_pieceLong)), (a_o_bytesOf, .inl (cy 1, 6, .inl o_bytesOf)), (a_o_dictionary, .inl (cy 1, 480, .inl o_dictionary)), (a_o_row, .inl (cy 1, 280, .inl s39)), (a_o_cost, .inl (cy 1, 201, .inl s42)), (a_o_leastD, .inl (cy 1, 2010, .inl s43))]) (ws2 := fun u => [(a_o, .inr (10, [.int 0, .ref a_o_tape, .int o_taped, .int o_samples, .ref a_o_sampleLong, .ref a_o_sampleByte, .ref a_o_idOf, .ref a_o_pieces, .ref a_o_pieceLong, .ref a_o_bytesOf, .ref a_o_dictionary, .ref a_o_covered, .ref a_o_taken, .int o_takenMany, .ref a_o_row, .int s37, .int o_taped, .ref a_o_cost, .ref a_o_leastD, .ref a_o_out, .int u.1, .int 0, .int 0, .ref a_o_text, .int o_textMany])), (a_o_tape, .inl (cy 1, 200, .inl o_tape)), (a_o_idOf, .inl (cy 1, 6, .inl o_idOf)), (a_o_pieceLong, .inl (cy 1, 480, .inl o_pieceLong)), (a_o_bytesOf, .inl (cy 1, 6, .inl o_bytesOf)), (a_o_dictionary, .inl (cy 1, 480, .inl o_dictionary)), (a_o_row, .inl (cy 1, 280, .inl s39)), (a_o_cost, .inl (cy 1, 201, .inl s42)), (a_o_leastD, .inl (cy 1, 2010, .inl s43)), (a_o_out, .inl (cy 1, 400, .inl u.2))]) (perm_ix 10 [0, 9, 1, 2, 3, 4, 5, 6, 7, 8] rfl (by decide +kernel) rfl) (fun u => perm_ix 10 [0, 2, 3, 4, 5, 6, 7, 8, 9, 1] rfl (by decide +kernel) rfl) rfl rfl rfl rfl (Nat.le_of_ble_eq_true rfl) dX7_pack_128 ⟨by decide, by decide⟩ (fun u h => ?_)
      obtain ⟨s48, s49⟩ := u
      refine go_aload_n X dX7_pack_131 2 rfl rfl ?_
      refine go_iload_n X dX7_pack_132 0 rfl rfl ?_
      refine go_sipush X (v := 256) dX7_pack_133 (by decide) ?_
      refine go_irem X dX7_pack_136 (by decide) ?_
      refine go_callVv X (kX7_put l D cy a_o a_o_tape a_o_sampleLong a_o_sampleByte a_o_idOf a_o_pieces a_o_pieceLong a_o_bytesOf a_o_dictionary a_o_covered a_o_taken a_o_row a_o_cost a_o_leastD a_o_out a_o_text 0 o_taped o_samples o_takenMany s37 o_taped s48 0 0 o_textMany s49 (r44 - r44 / 256 * 256) _ h) (cwV 1 X.2.2.2.2.1 gX7_pack_X7_put rfl rfl rfl cd_X7_put ⟨by decide, by decide⟩) (wr := [(a_o_tape, .inl (cy 1, 200, .inl o_tape)), (a_o_idOf, .inl (cy 1, 6, .inl o_idOf)), (a_o_pieceLong, .inl (cy 1, 480, .inl o_pieceLong)), (a_o_bytesOf, .inl (cy 1, 6, .inl o_bytesOf)), (a_o_dictionary, .inl (cy 1, 480, .inl o_dictionary)), (a_o_row, .inl (cy 1, 280, .inl s39)), (a_o_cost, .inl (cy 1, 201, .inl s42)), (a_o_leastD, .inl (cy 1, 2010, .inl s43))]) (ws2 := fun u => [(a_o, .inr (10, [.int 0, .ref a_o_tape, .int o_taped, .int o_samples, .ref a_o_sampleLong, .ref a_o_sampleByte, .ref a_o_idOf, .ref a_o_pieces, .ref a_o_pieceLong, .ref a_o_bytesOf, .ref a_o_dictionary, .ref a_o_covered, .ref a_o_taken, .int o_takenMany, .ref a_o_row, .int s37, .int o_taped, .ref a_o_cost, .ref a_o_leastD, .ref a_o_out, .int u.1, .int 0, .int 0, .ref a_o_text, .int o_textMany])), (a_o_tape, .inl (cy 1, 200, .inl o_tape)), (a_o_idOf, .inl (cy 1, 6, .inl o_idOf)), (a_o_pieceLong, .inl (cy 1, 480, .inl o_pieceLong)), (a_o_bytesOf, .inl (cy 1, 6, .inl o_bytesOf)), (a_o_dictionary, .inl (cy 1, 480, .inl o_dictionary)), (a_o_row, .inl (cy 1, 280, .inl s39)), (a_o_cost, .inl (cy 1, 201, .inl s42)), (a_o_leastD, .inl (cy 1, 2010, .inl s43)), (a_o_out, .inl (cy 1, 400, .inl u.2))]) (perm_ix 10 [0, 9, 1, 2, 3, 4, 5, 6, 7, 8] rfl (by decide +kernel) rfl) (fun u => perm_ix 10 [0, 2, 3, 4, 5, 6, 7, 8, 9, 1] rfl (by decide +kernel) rfl) rfl rfl rfl rfl (Nat.le_of_ble_eq_true rfl) dX7_pack_137 ⟨by decide, by decide⟩ (fun u h => ?_)
      obtain ⟨s50, s51⟩ := u
      refine go_aload_n X dX7_pack_140 2 rfl rfl ?_
      refine go_aload_n X dX7_pack_141 2 rfl rfl ?_
      refine go_get X fi_X7_pack_X7 0 rfl rfl 2 (by decide) fl_X7_pack_56 rfl dX7_pack_142 ?_
      refine go_callVv X (kX7_put l D cy a_o a_o_tape a_o_sampleLong a_o_sampleByte a_o_idOf a_o_pieces a_o_pieceLong a_o_bytesOf a_o_dictionary a_o_covered a_o_taken a_o_row a_o_cost a_o_leastD a_o_out a_o_text 0 o_taped o_samples o_takenMany s37 o_taped s50 0 0 o_textMany s51 o_taped _ h) (cwV 1 X.2.2.2.2.1 gX7_pack_X7_put rfl rfl rfl cd_X7_put ⟨by decide, by decide⟩) (wr := [(a_o_tape, .inl (cy 1, 200, .inl o_tape)), (a_o_idOf, .inl (cy 1, 6, .inl o_idOf)), (a_o_pieceLong, .inl (cy 1, 480, .inl o_pieceLong)), (a_o_bytesOf, .inl (cy 1, 6, .inl o_bytesOf)), (a_o_dictionary, .inl (cy 1, 480, .inl o_dictionary)), (a_o_row, .inl (cy 1, 280, .inl s39)), (a_o_cost, .inl (cy 1, 201, .inl s42)), (a_o_leastD, .inl (cy 1, 2010, .inl s43))]) (ws2 := fun u => [(a_o, .inr (10, [.int 0, .ref a_o_tape, .int o_taped, .int o_samples, .ref a_o_sampleLong, .ref a_o_sampleByte, .ref a_o_idOf, .ref a_o_pieces, .ref a_o_pieceLong, .ref a_o_bytesOf, .ref a_o_dictionary, .ref a_o_covered, .ref a_o_taken, .int o_takenMany, .ref a_o_row, .int s37, .int o_taped, .ref a_o_cost, .ref a_o_leastD, .ref a_o_out, .int u.1, .int 0, .int 0, .ref a_o_text, .int o_textMany])), (a_o_tape, .inl (cy 1, 200, .inl o_tape)), (a_o_idOf, .inl (cy 1, 6, .inl o_idOf)), (a_o_pieceLong, .inl (cy 1, 480, .inl o_pieceLong)), (a_o_bytesOf, .inl (cy 1, 6, .inl o_bytesOf)), (a_o_dictionary, .inl (cy 1, 480, .inl o_dictionary)), (a_o_row, .inl (cy 1, 280, .inl s39)), (a_o_cost, .inl (cy 1, 201, .inl s42)), (a_o_leastD, .inl (cy 1, 2010, .inl s43)), (a_o_out, .inl (cy 1, 400, .inl u.2))]) (perm_ix 10 [0, 9, 1, 2, 3, 4, 5, 6, 7, 8] rfl (by decide +kernel) rfl) (fun u => perm_ix 10 [0, 2, 3, 4, 5, 6, 7, 8, 9, 1] rfl (by decide +kernel) rfl) rfl rfl rfl rfl (Nat.le_of_ble_eq_true rfl) dX7_pack_145 ⟨by decide, by decide⟩ (fun u h => ?_)
      obtain ⟨s52, s53⟩ := u
      refine go_iconst X (v := 0) dX7_pack_148 (by decide) ?_
      refine go_istore X (lv' := [(4, .int 0), (3, .int r44), (2, .int r41), (0, .ref a_o), (1, .int p1)]) dX7_pack_149 (by decide) rfl ?_
      obtain ⟨n59, h⟩ := h
      refine go_lv [3, 2, 0] rfl ?_
      refine pX7_pack_151 l X a_o a_o_tape a_o_sampleLong a_o_sampleByte a_o_idOf a_o_pieces a_o_pieceLong a_o_bytesOf a_o_dictionary a_o_covered a_o_taken a_o_row a_o_cost a_o_leastD a_o_out a_o_text 0 o_taped o_samples o_takenMany s37 o_taped o_textMany o_tape o_idOf o_pieceLong o_bytesOf o_dictionary s39 s42 s43 r41  _ (fun s54 s55 s56 s57 y58 h => ?_) n59 s52 0 0 s53 (0 : Int32) h
      refine go_aload_n X dX7_pack_184 0 rfl rfl ?_
      refine go_iconst X (v := 0) dX7_pack_185 (by decide) ?_
      refine go_put X (ws' := [(a_o, .inr (10, [.int 0, .ref a_o_tape, .int 0, .int o_samples, .ref a_o_sampleLong, .ref a_o_sampleByte, .ref a_o_idOf, .ref a_o_pieces, .ref a_o_pieceLong, .ref a_o_bytesOf, .ref a_o_dictionary, .ref a_o_covered, .ref a_o_taken, .int o_takenMany, .ref a_o_row, .int s37, .int o_taped, .ref a_o_cost, .ref a_o_leastD, .ref a_o_out, .int s54, .int s55, .int s56, .ref a_o_text, .int o_textMany])), (a_o_tape, .inl (cy 1, 200, .inl o_tape)), (a_o_idOf, .inl (cy 1, 6, .inl o_idOf)), (a_o_pieceLong, .inl (cy 1, 480, .inl o_pieceLong)), (a_o_bytesOf, .inl (cy 1, 6, .inl o_bytesOf)), (a_o_dictionary, .inl (cy 1, 480, .inl o_dictionary)), (a_o_row, .inl (cy 1, 280, .inl s39)), (a_o_cost, .inl (cy 1, 201, .inl s42)), (a_o_leastD, .inl (cy 1, 2010, .inl s43)), (a_o_out, .inl (cy 1, 400, .inl s57))]) fi_X7_pack_X7 tyX7 tyX7_ok nmX7 0 rfl rfl 2 (by decide) fl_X7_pack_56 rfl (tyX7_ok 2 (by decide)) rfl rfl (Nat.le_of_ble_eq_true rfl) rfl dX7_pack_186 ?_
      refine go_iload_n X dX7_pack_189 1 rfl rfl ?_
      exact hR r41 (0, 0, s37, o_taped, s54, s55, s56, s39, s42, s43, s57) 190 _ dX7_pack_190 rfl h
    · replace h := h.2 c36
      refine go_bipush X (v := (-101)) dX7_pack_18 (by decide) ?_
      exact hR (-101) (0, o_taped, o_ahead, o_textLong, o_outMany, o_items, o_matches, o_row, o_cost, o_leastD, o_out) 20 _ dX7_pack_20 rfl h
/-! X7_out -/
theorem fi_X7_out_X7 : ∀ w ∈ u_ws RX7 TX7 25, w ∈ wsX7_out := by decide +kernel
theorem fl_X7_out_141 : Cond.fieldLink RX7 141 (TX7 20).1 (TX7 20).2.1 (TX7 20).2.2.1 ∈ wsX7_out := by decide +kernel
theorem fl_X7_out_60 : Cond.fieldLink RX7 60 (TX7 0).1 (TX7 0).2.1 (TX7 0).2.2.1 ∈ wsX7_out := by decide +kernel
theorem fl_X7_out_50 : Cond.fieldLink RX7 50 (TX7 19).1 (TX7 19).2.1 (TX7 19).2.2.1 ∈ wsX7_out := by decide +kernel
def rm_X7_out : Room := { frames := 1, cells := 0, slots := 0, locals := 25 }
theorem cd_X7_out : yX7_out.cls = RX7 ∧ yX7_out.cls ≠ "java/lang/invoke/MethodHandle" ∧ yX7_out.cls ≠ "java/lang/invoke/VarHandle" ∧ (parseMethodDescriptor yX7_out.desc).map (fun d => d.parameters.length) = some 1 := by decide +kernel
set_option maxRecDepth 100000 in
set_option maxHeartbeats 4000000 in
theorem kX7_out (l : Launch) (D : va_G) (cy : Nat → ClassId) (a_o : Nat) (a_o_tape : Nat) (a_o_sampleLong : Nat) (a_o_sampleByte : Nat) (a_o_idOf : Nat) (a_o_pieces : Nat) (a_o_pieceLong : Nat) (a_o_bytesOf : Nat) (a_o_dictionary : Nat) (a_o_covered : Nat) (a_o_taken : Nat) (a_o_row : Nat) (a_o_cost : Nat) (a_o_leastD : Nat) (a_o_out : Nat) (a_o_text : Nat) (o_thrown : Int32) (o_taped : Int32) (o_samples : Int32) (o_takenMany : Int32) (o_ahead : Int32) (o_textLong : Int32) (o_outMany : Int32) (o_items : Int32) (o_matches : Int32) (o_textMany : Int32) (o_out : Nat → Int32) (p1 : Int32) (post : Int32 → Int32 → Prop) (h : wX7_out o_outMany o_out p1 post) : MetI l yX7_out wsX7_out rm_X7_out D (tyL cy) [.ref a_o, .int p1] [(a_o, .inr (10, [.int o_thrown, .ref a_o_tape, .int o_taped, .int o_samples, .ref a_o_sampleLong, .ref a_o_sampleByte, .ref a_o_idOf, .ref a_o_pieces, .ref a_o_pieceLong, .ref a_o_bytesOf, .ref a_o_dictionary, .ref a_o_covered, .ref a_o_taken, .int o_takenMany, .ref a_o_row, .int o_ahead, .int o_textLong, .ref a_o_cost, .ref a_o_leastD, .ref a_o_out, .int o_outMany, .int o_items, .int o_matches, .ref a_o_text, .int o_textMany])), (a_o_out, .inl (cy 1, 400, .inl o_out))] (fun u : Int32 => [(a_o, .inr (10, [.int u, .ref a_o_tape, .int o_taped, .int o_samples, .ref a_o_sampleLong, .ref a_o_sampleByte, .ref a_o_idOf, .ref a_o_pieces, .ref a_o_pieceLong, .ref a_o_bytesOf, .ref a_o_dictionary, .ref a_o_covered, .ref a_o_taken, .int o_takenMany, .ref a_o_row, .int o_ahead, .int o_textLong, .ref a_o_cost, .ref a_o_leastD, .ref a_o_out, .int o_outMany, .int o_items, .int o_matches, .ref a_o_text, .int o_textMany])), (a_o_out, .inl (cy 1, 400, .inl o_out))]) (fun r => fun (u : Int32) => post r u) 0 0 := by
  refine metI_of (cc := cX7_out) (maxL := 2) (lv := [(0, .ref a_o), (1, .int p1)]) (by decide) rfl (Nat.le_of_ble_eq_true rfl) rfl ?_
  intro p e s m below meth c Q A X hlk hR
  unfold wX7_out at h
  refine go_aload_n X dX7_out_0 0 rfl rfl ?_
  refine go_iload_n X dX7_out_1 1 rfl rfl ?_
  refine go_i2l X dX7_out_2 ?_
  refine go_lconst X (v := 0) dX7_out_3 (by decide) ?_
  refine go_aload_n X dX7_out_4 0 rfl rfl ?_
  refine go_get X fi_X7_out_X7 0 rfl rfl 20 (by decide) fl_X7_out_141 rfl dX7_out_5 ?_
  refine go_iconst X (v := 1) dX7_out_8 (by decide) ?_
  refine go_isub X dX7_out_9 ?_
  refine go_i2l X dX7_out_10 ?_
  refine go_callSi X (kX7_in l D cy p1.toInt64 (0 : Int64) ((o_outMany - 1).toInt64) _ h) (va_cwS 3 X.2.2.2.2.1 gX7_out_X7_in rfl rfl rfl cd_X7_in ⟨by decide, by decide⟩) (wr := [(a_o, .inr (10, [.int o_thrown, .ref a_o_tape, .int o_taped, .int o_samples, .ref a_o_sampleLong, .ref a_o_sampleByte, .ref a_o_idOf, .ref a_o_pieces, .ref a_o_pieceLong, .ref a_o_bytesOf, .ref a_o_dictionary, .ref a_o_covered, .ref a_o_taken, .int o_takenMany, .ref a_o_row, .int o_ahead, .int o_textLong, .ref a_o_cost, .ref a_o_leastD, .ref a_o_out, .int o_outMany, .int o_items, .int o_matches, .ref a_o_text, .int o_textMany])), (a_o_out, .inl (cy 1, 400, .inl o_out))]) (ws2 := fun u => [(a_o, .inr (10, [.int o_thrown, .ref a_o_tape, .int o_taped, .int o_samples, .ref a_o_sampleLong, .ref a_o_sampleByte, .ref a_o_idOf, .ref a_o_pieces, .ref a_o_pieceLong, .ref a_o_bytesOf, .ref a_o_dictionary, .ref a_o_covered, .ref a_o_taken, .int o_takenMany, .ref a_o_row, .int o_ahead, .int o_textLong, .ref a_o_cost, .ref a_o_leastD, .ref a_o_out, .int o_outMany, .int o_items, .int o_matches, .ref a_o_text, .int o_textMany])), (a_o_out, .inl (cy 1, 400, .inl o_out))]) (perm_idx [0, 1] rfl rfl) (fun u => perm_idx [0, 1] rfl rfl) rfl rfl (Nat.le_of_ble_eq_true rfl) dX7_out_11 ⟨by decide, by decide⟩ (fun r1 u h => ?_)
  refine go_if_eq X 21 dX7_out_14 (by decide) (fun c2 => ?_) (fun c2 => ?_)
  · replace h := h.1 c2
    refine go_iconst X (v := 1) dX7_out_21 (by decide) ?_
    refine go_put X (ws' := [(a_o, .inr (10, [.int 1, .ref a_o_tape, .int o_taped, .int o_samples, .ref a_o_sampleLong, .ref a_o_sampleByte, .ref a_o_idOf, .ref a_o_pieces, .ref a_o_pieceLong, .ref a_o_bytesOf, .ref a_o_dictionary, .ref a_o_covered, .ref a_o_taken, .int o_takenMany, .ref a_o_row, .int o_ahead, .int o_textLong, .ref a_o_cost, .ref a_o_leastD, .ref a_o_out, .int o_outMany, .int o_items, .int o_matches, .ref a_o_text, .int o_textMany])), (a_o_out, .inl (cy 1, 400, .inl o_out))]) fi_X7_out_X7 tyX7 tyX7_ok nmX7 0 rfl rfl 0 (by decide) fl_X7_out_60 rfl (tyX7_ok 0 (by decide)) rfl rfl (Nat.le_of_ble_eq_true rfl) rfl dX7_out_22 ?_
    refine go_aload_n X dX7_out_25 0 rfl rfl ?_
    refine go_get X fi_X7_out_X7 0 rfl rfl 0 (by decide) fl_X7_out_60 rfl dX7_out_26 ?_
    refine go_if_le X 36 dX7_out_29 (by decide) (fun c0 => absurd c0 (by decide)) (fun _ => ?_)
    refine go_iconst X (v := 0) dX7_out_32 (by decide) ?_
    refine go_goto X 42 dX7_out_33 (by decide) ?_
    exact hR 0 1 42 _ dX7_out_42 rfl h
  · replace h := h.2 c2
    refine go_iconst X (v := 0) dX7_out_17 (by decide) ?_
    refine go_goto X 22 dX7_out_18 (by decide) ?_
    refine go_put X (ws' := [(a_o, .inr (10, [.int 0, .ref a_o_tape, .int o_taped, .int o_samples, .ref a_o_sampleLong, .ref a_o_sampleByte, .ref a_o_idOf, .ref a_o_pieces, .ref a_o_pieceLong, .ref a_o_bytesOf, .ref a_o_dictionary, .ref a_o_covered, .ref a_o_taken, .int o_takenMany, .ref a_o_row, .int o_ahead, .int o_textLong, .ref a_o_cost, .ref a_o_leastD, .ref a_o_out, .int o_outMany, .int o_items, .int o_matches, .ref a_o_text, .int o_textMany])), (a_o_out, .inl (cy 1, 400, .inl o_out))]) fi_X7_out_X7 tyX7 tyX7_ok nmX7 0 rfl rfl 0 (by decide) fl_X7_out_60 rfl (tyX7_ok 0 (by decide)) rfl rfl (Nat.le_of_ble_eq_true rfl) rfl dX7_out_22 ?_
    refine go_aload_n X dX7_out_25 0 rfl rfl ?_
    refine go_get X fi_X7_out_X7 0 rfl rfl 0 (by decide) fl_X7_out_60 rfl dX7_out_26 ?_
    refine go_if_le X 36 dX7_out_29 (by decide) (fun _ => ?_) (fun c0 => absurd c0 (by decide))
    refine go_aload_n X dX7_out_36 0 rfl rfl ?_
    refine go_get X fi_X7_out_X7 0 rfl rfl 19 (by decide) fl_X7_out_50 rfl dX7_out_37 ?_
    refine go_iload_n X dX7_out_40 1 rfl rfl ?_
    obtain ⟨c3, h⟩ := h
    refine go_iald X 1 1 rfl rfl c3 dX7_out_41 ?_
    exact hR (o_out p1.toNatClampNeg) 0 42 _ dX7_out_42 rfl h
/-! X7_firstWith -/
theorem fi_X7_firstWith_X7 : ∀ w ∈ u_ws RX7 TX7 25, w ∈ wsX7_firstWith := by decide +kernel
theorem fl_X7_firstWith_19 : Cond.fieldLink RX7 19 (TX7 6).1 (TX7 6).2.1 (TX7 6).2.2.1 ∈ wsX7_firstWith := by decide +kernel
def rm_X7_firstWith : Room := { frames := 0, cells := 0, slots := 0, locals := 0 }
theorem cd_X7_firstWith : yX7_firstWith.cls = RX7 ∧ yX7_firstWith.cls ≠ "java/lang/invoke/MethodHandle" ∧ yX7_firstWith.cls ≠ "java/lang/invoke/VarHandle" ∧ (parseMethodDescriptor yX7_firstWith.desc).map (fun d => d.parameters.length) = some 1 := by decide +kernel
set_option maxRecDepth 100000 in
set_option maxHeartbeats 4000000 in
theorem pX7_firstWith_2 {p : Program} (l : Launch) {e : Env} {s : State} {m : MethodId} {args : Array Value} {below : List Frame} {meth : Method} {c : Code} {Q : State → Prop} {D : va_G} {cy : Nat → ClassId} {A : Nat → Prop} (X : Cx p s m args c cX7_firstWith 3 RX7 wsX7_firstWith D (tyL cy) A) (a_o : Nat) (a_o_tape : Nat) (a_o_sampleLong : Nat) (a_o_sampleByte : Nat) (a_o_idOf : Nat) (a_o_pieces : Nat) (a_o_pieceLong : Nat) (a_o_bytesOf : Nat) (a_o_dictionary : Nat) (a_o_covered : Nat) (a_o_taken : Nat) (a_o_row : Nat) (a_o_cost : Nat) (a_o_leastD : Nat) (a_o_out : Nat) (a_o_text : Nat) (o_thrown : Int32) (o_taped : Int32) (o_samples : Int32) (o_takenMany : Int32) (o_ahead : Int32) (o_textLong : Int32) (o_outMany : Int32) (o_items : Int32) (o_matches : Int32) (o_textMany : Int32) (o_idOf : Nat → Int32) (v1 : Int32) (post : Int32 → Prop) (hR : RtI p l e rm_X7_firstWith s m args below meth c cX7_firstWith Q 3 D A .int (fun u : Unit => [(a_o, .inr (10, [.int o_thrown, .ref a_o_tape, .int o_taped, .int o_samples, .ref a_o_sampleLong, .ref a_o_sampleByte, .ref a_o_idOf, .ref a_o_pieces, .ref a_o_pieceLong, .ref a_o_bytesOf, .ref a_o_dictionary, .ref a_o_covered, .ref a_o_taken, .int o_takenMany, .ref a_o_row, .int o_ahead, .int o_textLong, .ref a_o_cost, .ref a_o_leastD, .ref a_o_out, .int o_outMany, .int o_items, .int o_matches, .ref a_o_text, .int o_textMany])), (a_o_idOf, .inl (cy 1, 6, .inl o_idOf))]) (fun r => fun (u : Unit) => post r ) 0 0) (K : Int32 → Prop) (hK : ∀ (v2 : Int32), K v2 → Go p l e rm_X7_firstWith s m args below meth c Q 3 D A [(a_o, .inr (10, [.int o_thrown, .ref a_o_tape, .int o_taped, .int o_samples, .ref a_o_sampleLong, .ref a_o_sampleByte, .ref a_o_idOf, .ref a_o_pieces, .ref a_o_pieceLong, .ref a_o_bytesOf, .ref a_o_dictionary, .ref a_o_covered, .ref a_o_taken, .int o_takenMany, .ref a_o_row, .int o_ahead, .int o_textLong, .ref a_o_cost, .ref a_o_leastD, .ref a_o_out, .int o_outMany, .int o_items, .int o_matches, .ref a_o_text, .int o_textMany])), (a_o_idOf, .inl (cy 1, 6, .inl o_idOf))] 0 0 26 [] []) :
    ∀ (n : Nat) (v2 : Int32), wX7_firstWith_2 o_idOf v1 post K n v2 → Go p l e rm_X7_firstWith s m args below meth c Q 3 D A [(a_o, .inr (10, [.int o_thrown, .ref a_o_tape, .int o_taped, .int o_samples, .ref a_o_sampleLong, .ref a_o_sampleByte, .ref a_o_idOf, .ref a_o_pieces, .ref a_o_pieceLong, .ref a_o_bytesOf, .ref a_o_dictionary, .ref a_o_covered, .ref a_o_taken, .int o_takenMany, .ref a_o_row, .int o_ahead, .int o_textLong, .ref a_o_cost, .ref a_o_leastD, .ref a_o_out, .int o_outMany, .int o_items, .int o_matches, .ref a_o_text, .int o_textMany])), (a_o_idOf, .inl (cy 1, 6, .inl o_idOf))] 0 0 2 [(0, .ref a_o), (1, .int v1), (2, .int v2)] [] := by
  intro n
  induction n with
  | zero => intro v2 h; exact absurd h id
  | succ n ih =>
    intro v2 h
    refine go_iload_n X dX7_firstWith_2 2 rfl rfl ?_
    refine go_bipush X (v := 6) dX7_firstWith_3 (by decide) ?_
    refine go_icmp_ge X 26 dX7_firstWith_5 (by decide) (fun c2 => ?_) (fun c2 => ?_)
    · replace h := h.1 c2
      refine go_lv [] rfl ?_
      exact hK v2 h
    · replace h := h.2 c2
      refine go_aload_n X dX7_firstWith_8 0 rfl rfl ?_
      refine go_get X fi_X7_firstWith_X7 0 rfl rfl 6 (by decide) fl_X7_firstWith_19 rfl dX7_firstWith_9 ?_
      refine go_iload_n X dX7_firstWith_12 2 rfl rfl ?_
      obtain ⟨c3, h⟩ := h
      refine go_iald X 1 1 rfl rfl c3 dX7_firstWith_13 ?_
      refine go_iload_n X dX7_firstWith_14 1 rfl rfl ?_
      refine go_icmp_ne X 20 dX7_firstWith_15 (by decide) (fun c4 => ?_) (fun c4 => ?_)
      · replace h := h.1 c4
        obtain ⟨y5, ey5⟩ : ∃ z : Int32, z = v2 + 1 := ⟨_, rfl⟩
        replace h := h y5 ey5
        refine go_iinc X (lv' := [(2, .int y5), (0, .ref a_o), (1, .int v1)]) y5 dX7_firstWith_20 2 rfl (by rw [ey5]; rfl) (by decide) rfl ?_
        refine go_goto X 2 dX7_firstWith_23 (by decide) ?_
        refine go_lv [1, 2, 0] rfl ?_
        exact ih y5 h
      · replace h := h.2 c4
        refine go_iload_n X dX7_firstWith_18 2 rfl rfl ?_
        exact hR v2 () 19 _ dX7_firstWith_19 rfl h
set_option maxRecDepth 100000 in
set_option maxHeartbeats 4000000 in
theorem kX7_firstWith (l : Launch) (D : va_G) (cy : Nat → ClassId) (a_o : Nat) (a_o_tape : Nat) (a_o_sampleLong : Nat) (a_o_sampleByte : Nat) (a_o_idOf : Nat) (a_o_pieces : Nat) (a_o_pieceLong : Nat) (a_o_bytesOf : Nat) (a_o_dictionary : Nat) (a_o_covered : Nat) (a_o_taken : Nat) (a_o_row : Nat) (a_o_cost : Nat) (a_o_leastD : Nat) (a_o_out : Nat) (a_o_text : Nat) (o_thrown : Int32) (o_taped : Int32) (o_samples : Int32) (o_takenMany : Int32) (o_ahead : Int32) (o_textLong : Int32) (o_outMany : Int32) (o_items : Int32) (o_matches : Int32) (o_textMany : Int32) (o_idOf : Nat → Int32) (p1 : Int32) (post : Int32 → Prop) (h : wX7_firstWith o_idOf p1 post) : MetI l yX7_firstWith wsX7_firstWith rm_X7_firstWith D (tyL cy) [.ref a_o, .int p1] [(a_o, .inr (10, [.int o_thrown, .ref a_o_tape, .int o_taped, .int o_samples, .ref a_o_sampleLong, .ref a_o_sampleByte, .ref a_o_idOf, .ref a_o_pieces, .ref a_o_pieceLong, .ref a_o_bytesOf, .ref a_o_dictionary, .ref a_o_covered, .ref a_o_taken, .int o_takenMany, .ref a_o_row, .int o_ahead, .int o_textLong, .ref a_o_cost, .ref a_o_leastD, .ref a_o_out, .int o_outMany, .int o_items, .int o_matches, .ref a_o_text, .int o_textMany])), (a_o_idOf, .inl (cy 1, 6, .inl o_idOf))] (fun u : Unit => [(a_o, .inr (10, [.int o_thrown, .ref a_o_tape, .int o_taped, .int o_samples, .ref a_o_sampleLong, .ref a_o_sampleByte, .ref a_o_idOf, .ref a_o_pieces, .ref a_o_pieceLong, .ref a_o_bytesOf, .ref a_o_dictionary, .ref a_o_covered, .ref a_o_taken, .int o_takenMany, .ref a_o_row, .int o_ahead, .int o_textLong, .ref a_o_cost, .ref a_o_leastD, .ref a_o_out, .int o_outMany, .int o_items, .int o_matches, .ref a_o_text, .int o_textMany])), (a_o_idOf, .inl (cy 1, 6, .inl o_idOf))]) (fun r => fun (u : Unit) => post r ) 0 0 := by
  refine metI_of (cc := cX7_firstWith) (maxL := 3) (lv := [(0, .ref a_o), (1, .int p1)]) (by decide) rfl (Nat.le_of_ble_eq_true rfl) rfl ?_
  intro p e s m below meth c Q A X hlk hR
  unfold wX7_firstWith at h
  refine go_iconst X (v := 0) dX7_firstWith_0 (by decide) ?_
  refine go_istore_n X (lv' := [(2, .int 0), (0, .ref a_o), (1, .int p1)]) dX7_firstWith_1 rfl (by decide) rfl ?_
  obtain ⟨n6, h⟩ := h
  refine go_lv [1, 2, 0] rfl ?_
  refine pX7_firstWith_2 l X a_o a_o_tape a_o_sampleLong a_o_sampleByte a_o_idOf a_o_pieces a_o_pieceLong a_o_bytesOf a_o_dictionary a_o_covered a_o_taken a_o_row a_o_cost a_o_leastD a_o_out a_o_text o_thrown o_taped o_samples o_takenMany o_ahead o_textLong o_outMany o_items o_matches o_textMany o_idOf p1 post hR _ (fun y1 h => ?_) n6 (0 : Int32) h
  refine go_iconst X (v := (-1)) dX7_firstWith_26 (by decide) ?_
  exact hR (-1) () 27 _ dX7_firstWith_27 rfl h
