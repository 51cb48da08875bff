/-! X7_size -/
theorem fi_X7_size_X7 : ∀ w ∈ u_ws RX7 TX7 25, w ∈ wsX7_size := by decide +kernel
theorem fl_X7_size_60 : Cond.fieldLink RX7 60 (TX7 0).1 (TX7 0).2.1 (TX7 0).2.2.1 ∈ wsX7_size := by decide +kernel
theorem fl_X7_size_71 : Cond.fieldLink RX7 71 (TX7 3).1 (TX7 3).2.1 (TX7 3).2.2.1 ∈ wsX7_size := by decide +kernel
def rm_X7_size : Room := { frames := 3, cells := 0, slots := 0, locals := 72 }
theorem cd_X7_size : yX7_size.cls = RX7 ∧ yX7_size.cls ≠ "java/lang/invoke/MethodHandle" ∧ yX7_size.cls ≠ "java/lang/invoke/VarHandle" ∧ (parseMethodDescriptor yX7_size.desc).map (fun d => d.parameters.length) = some 2 := by decide +kernel
set_option maxRecDepth 100000 in
set_option maxHeartbeats 4000000 in
theorem kX7_size (l : Launch) (D : va_G) (cy : Nat → ClassId) (a_o : Nat) (a_o_tape : Nat) (a_o_sampleLong : Nat) (a_o_sampleByte : Nat) (a_o_idOf : Nat) (a_o_pieces : Nat) (a_o_pieceLong : Nat) (a_o_bytesOf : Nat) (a_o_dictionary : Nat) (a_o_covered : Nat) (a_o_taken : Nat) (a_o_row : Nat) (a_o_cost : Nat) (a_o_leastD : Nat) (a_o_out : Nat) (a_o_text : Nat) (o_thrown : Int32) (o_taped : Int32) (o_samples : Int32) (o_takenMany : Int32) (o_ahead : Int32) (o_textLong : Int32) (o_outMany : Int32) (o_items : Int32) (o_matches : Int32) (o_textMany : Int32) (o_sampleLong : Nat → Int32) (o_sampleByte : Nat → Int32) (o_idOf : Nat → Int32) (o_pieceLong : Nat → Int32) (o_bytesOf : Nat → Int32) (o_dictionary : Nat → Int32) (o_row : Nat → Int32) (o_cost : Nat → Int32) (o_leastD : Nat → Int32) (p1 : Int32) (p2 : Int32) (post : Int32 → Int32 → Int32 → Int32 → (Nat → Int32) → (Nat → Int32) → (Nat → Int32) → Prop) (h : wX7_size o_samples o_ahead o_textLong o_sampleLong o_sampleByte o_idOf o_pieceLong o_bytesOf o_dictionary o_row o_cost o_leastD p1 p2 post) : MetI l yX7_size wsX7_size rm_X7_size D (tyL cy) [.ref a_o, .int p1, .int p2] [(a_o, .inr (10, [.int o_thrown, .ref a_o_tape, .int o_taped, .int o_samples, .ref a_o_sampleLong, .ref a_o_sampleByte, .ref a_o_idOf, .ref a_o_pieces, .ref a_o_pieceLong, .ref a_o_bytesOf, .ref a_o_dictionary, .ref a_o_covered, .ref a_o_taken, .int o_takenMany, .ref a_o_row, .int o_ahead, .int o_textLong, .ref a_o_cost, .ref a_o_leastD, .ref a_o_out, .int o_outMany, .int o_items, .int o_matches, .ref a_o_text, .int o_textMany])), (a_o_sampleLong, .inl (cy 1, 8, .inl o_sampleLong)), (a_o_sampleByte, .inl (cy 1, 320, .inl o_sampleByte)), (a_o_idOf, .inl (cy 1, 6, .inl o_idOf)), (a_o_pieceLong, .inl (cy 1, 480, .inl o_pieceLong)), (a_o_bytesOf, .inl (cy 1, 6, .inl o_bytesOf)), (a_o_dictionary, .inl (cy 1, 480, .inl o_dictionary)), (a_o_row, .inl (cy 1, 280, .inl o_row)), (a_o_cost, .inl (cy 1, 201, .inl o_cost)), (a_o_leastD, .inl (cy 1, 2010, .inl o_leastD))] (fun u : Int32 × Int32 × Int32 × (Nat → Int32) × (Nat → Int32) × (Nat → Int32) => [(a_o, .inr (10, [.int u.1, .ref a_o_tape, .int o_taped, .int o_samples, .ref a_o_sampleLong, .ref a_o_sampleByte, .ref a_o_idOf, .ref a_o_pieces, .ref a_o_pieceLong, .ref a_o_bytesOf, .ref a_o_dictionary, .ref a_o_covered, .ref a_o_taken, .int o_takenMany, .ref a_o_row, .int u.2.1, .int u.2.2.1, .ref a_o_cost, .ref a_o_leastD, .ref a_o_out, .int o_outMany, .int o_items, .int o_matches, .ref a_o_text, .int o_textMany])), (a_o_sampleLong, .inl (cy 1, 8, .inl o_sampleLong)), (a_o_sampleByte, .inl (cy 1, 320, .inl o_sampleByte)), (a_o_idOf, .inl (cy 1, 6, .inl o_idOf)), (a_o_pieceLong, .inl (cy 1, 480, .inl o_pieceLong)), (a_o_bytesOf, .inl (cy 1, 6, .inl o_bytesOf)), (a_o_dictionary, .inl (cy 1, 480, .inl o_dictionary)), (a_o_row, .inl (cy 1, 280, .inl u.2.2.2.1)), (a_o_cost, .inl (cy 1, 201, .inl u.2.2.2.2.1)), (a_o_leastD, .inl (cy 1, 2010, .inl u.2.2.2.2.2))]) (fun r => fun (u : Int32 × Int32 × Int32 × (Nat → Int32) × (Nat → Int32) × (Nat → Int32)) => post r u.1 u.2.1 u.2.2.1 u.2.2.2.1 u.2.2.2.2.1 u.2.2.2.2.2) 0 0 := by
  refine metI_of (cc := cX7_size) (maxL := 3) (lv := [(0, .ref a_o), (1, .int p1), (2, .int p2)]) (by decide) rfl (Nat.le_of_ble_eq_true rfl) rfl ?_
  intro p e s m below meth c Q A X hlk hR
  unfold wX7_size at h
  refine go_aload_n X dX7_size_0 0 rfl rfl ?_
  refine go_iconst X (v := 0) dX7_size_1 (by decide) ?_
  refine go_put X (ws' := [(a_o, .inr (10, [.int 0, .ref a_o_tape, .int o_taped, .int o_samples, .ref a_o_sampleLong, .ref a_o_sampleByte, .ref a_o_idOf, .ref a_o_pieces, .ref a_o_pieceLong, .ref a_o_bytesOf, .ref a_o_dictionary, .ref a_o_covered, .ref a_o_taken, .int o_takenMany, .ref a_o_row, .int o_ahead, .int o_textLong, .ref a_o_cost, .ref a_o_leastD, .ref a_o_out, .int o_outMany, .int o_items, .int o_matches, .ref a_o_text, .int o_textMany])), (a_o_sampleLong, .inl (cy 1, 8, .inl o_sampleLong)), (a_o_sampleByte, .inl (cy 1, 320, .inl o_sampleByte)), (a_o_idOf, .inl (cy 1, 6, .inl o_idOf)), (a_o_pieceLong, .inl (cy 1, 480, .inl o_pieceLong)), (a_o_bytesOf, .inl (cy 1, 6, .inl o_bytesOf)), (a_o_dictionary, .inl (cy 1, 480, .inl o_dictionary)), (a_o_row, .inl (cy 1, 280, .inl o_row)), (a_o_cost, .inl (cy 1, 201, .inl o_cost)), (a_o_leastD, .inl (cy 1, 2010, .inl o_leastD))]) fi_X7_size_X7 tyX7 tyX7_ok nmX7 0 rfl rfl 0 (by decide) fl_X7_size_60 rfl (tyX7_ok 0 (by decide)) rfl rfl (Nat.le_of_ble_eq_true rfl) rfl dX7_size_2 ?_
  refine go_iload_n X dX7_size_5 1 rfl rfl ?_
  refine go_i2l X dX7_size_6 ?_
  refine go_lconst X (v := 0) dX7_size_7 (by decide) ?_
  refine go_aload_n X dX7_size_8 0 rfl rfl ?_
  refine go_get X fi_X7_size_X7 0 rfl rfl 3 (by decide) fl_X7_size_71 rfl dX7_size_9 ?_
  refine go_iconst X (v := 1) dX7_size_12 (by decide) ?_
  refine go_isub X dX7_size_13 ?_
  refine go_i2l X dX7_size_14 ?_
  refine go_callSi X (kX7_in l D cy p1.toInt64 (0 : Int64) ((o_samples - 1).toInt64) _ h) (va_cwS 3 X.2.2.2.2.1 gX7_size_X7_in rfl rfl rfl cd_X7_in ⟨by decide, by decide⟩) (wr := [(a_o, .inr (10, [.int 0, .ref a_o_tape, .int o_taped, .int o_samples, .ref a_o_sampleLong, .ref a_o_sampleByte, .ref a_o_idOf, .ref a_o_pieces, .ref a_o_pieceLong, .ref a_o_bytesOf, .ref a_o_dictionary, .ref a_o_covered, .ref a_o_taken, .int o_takenMany, .ref a_o_row, .int o_ahead, .int o_textLong, .ref a_o_cost, .ref a_o_leastD, .ref a_o_out, .int o_outMany, .int o_items, .int o_matches, .ref a_o_text, .int o_textMany])), (a_o_sampleLong, .inl (cy 1, 8, .inl o_sampleLong)), (a_o_sampleByte, .inl (cy 1, 320, .inl o_sampleByte)), (a_o_idOf, .inl (cy 1, 6, .inl o_idOf)), (a_o_pieceLong, .inl (cy 1, 480, .inl o_pieceLong)), (a_o_bytesOf, .inl (cy 1, 6, .inl o_bytesOf)), (a_o_dictionary, .inl (cy 1, 480, .inl o_dictionary)), (a_o_row, .inl (cy 1, 280, .inl o_row)), (a_o_cost, .inl (cy 1, 201, .inl o_cost)), (a_o_leastD, .inl (cy 1, 2010, .inl o_leastD))]) (ws2 := fun u => [(a_o, .inr (10, [.int 0, .ref a_o_tape, .int o_taped, .int o_samples, .ref a_o_sampleLong, .ref a_o_sampleByte, .ref a_o_idOf, .ref a_o_pieces, .ref a_o_pieceLong, .ref a_o_bytesOf, .ref a_o_dictionary, .ref a_o_covered, .ref a_o_taken, .int o_takenMany, .ref a_o_row, .int o_ahead, .int o_textLong, .ref a_o_cost, .ref a_o_leastD, .ref a_o_out, .int o_outMany, .int o_items, .int o_matches, .ref a_o_text, .int o_textMany])), (a_o_sampleLong, .inl (cy 1, 8, .inl o_sampleLong)), (a_o_sampleByte, .inl (cy 1, 320, .inl o_sampleByte)), (a_o_idOf, .inl (cy 1, 6, .inl o_idOf)), (a_o_pieceLong, .inl (cy 1, 480, .inl o_pieceLong)), (a_o_bytesOf, .inl (cy 1, 6, .inl o_bytesOf)), (a_o_dictionary, .inl (cy 1, 480, .inl o_dictionary)), (a_o_row, .inl (cy 1, 280, .inl o_row)), (a_o_cost, .inl (cy 1, 201, .inl o_cost)), (a_o_leastD, .inl (cy 1, 2010, .inl o_leastD))]) (perm_ix 10 [0, 1, 2, 3, 4, 5, 6, 7, 8, 9] rfl (by decide +kernel) rfl) (fun u => perm_ix 10 [0, 1, 2, 3, 4, 5, 6, 7, 8, 9] rfl (by decide +kernel) rfl) rfl rfl (Nat.le_of_ble_eq_true rfl) dX7_size_15 ⟨by decide, by decide⟩ (fun r1 u h => ?_)
  refine go_if_eq X 34 dX7_size_18 (by decide) (fun c2 => ?_) (fun c2 => ?_)
  · replace h := h.1 c2
    refine go_bipush X (v := (-101)) dX7_size_34 (by decide) ?_
    exact hR (-101) (0, o_ahead, o_textLong, o_row, o_cost, o_leastD) 36 _ dX7_size_36 rfl h
  · replace h := h.2 c2
    refine go_iload_n X dX7_size_21 2 rfl rfl ?_
    refine go_iconst X (v := (-1)) dX7_size_22 (by decide) ?_
    refine go_icmp_eq X 37 dX7_size_23 (by decide) (fun c3 => ?_) (fun c3 => ?_)
    · replace h := h.1 c3
      refine go_aload_n X dX7_size_37 0 rfl rfl ?_
      refine go_iload_n X dX7_size_38 1 rfl rfl ?_
      refine go_iload_n X dX7_size_39 2 rfl rfl ?_
      refine go_iconst X (v := (-1)) dX7_size_40 (by decide) ?_
      refine go_callVi X (kX7_sizeOf l D cy a_o a_o_tape a_o_sampleLong a_o_sampleByte a_o_idOf a_o_pieces a_o_pieceLong a_o_bytesOf a_o_dictionary a_o_covered a_o_taken a_o_row a_o_cost a_o_leastD a_o_out a_o_text 0 o_taped o_samples o_takenMany o_ahead o_textLong o_outMany o_items o_matches o_textMany o_sampleLong o_sampleByte o_pieceLong o_bytesOf o_dictionary o_row o_cost o_leastD p1 p2 ((-1) : Int32) _ h) (cwV 3 X.2.2.2.2.1 gX7_size_X7_sizeOf rfl rfl rfl cd_X7_sizeOf ⟨by decide, by decide⟩) (wr := [(a_o_idOf, .inl (cy 1, 6, .inl o_idOf))]) (ws2 := fun u => [(a_o, .inr (10, [.int 0, .ref a_o_tape, .int o_taped, .int o_samples, .ref a_o_sampleLong, .ref a_o_sampleByte, .ref a_o_idOf, .ref a_o_pieces, .ref a_o_pieceLong, .ref a_o_bytesOf, .ref a_o_dictionary, .ref a_o_covered, .ref a_o_taken, .int o_takenMany, .ref a_o_row, .int u.1, .int u.2.1, .ref a_o_cost, .ref a_o_leastD, .ref a_o_out, .int o_outMany, .int o_items, .int o_matches, .ref a_o_text, .int o_textMany])), (a_o_sampleLong, .inl (cy 1, 8, .inl o_sampleLong)), (a_o_sampleByte, .inl (cy 1, 320, .inl o_sampleByte)), (a_o_idOf, .inl (cy 1, 6, .inl o_idOf)), (a_o_pieceLong, .inl (cy 1, 480, .inl o_pieceLong)), (a_o_bytesOf, .inl (cy 1, 6, .inl o_bytesOf)), (a_o_dictionary, .inl (cy 1, 480, .inl o_dictionary)), (a_o_row, .inl (cy 1, 280, .inl u.2.2.1)), (a_o_cost, .inl (cy 1, 201, .inl u.2.2.2.1)), (a_o_leastD, .inl (cy 1, 2010, .inl u.2.2.2.2))]) (perm_ix 10 [0, 1, 2, 4, 5, 6, 7, 8, 9, 3] rfl (by decide +kernel) rfl) (fun u => perm_ix 10 [0, 1, 2, 9, 3, 4, 5, 6, 7, 8] rfl (by decide +kernel) rfl) rfl rfl rfl rfl (Nat.le_of_ble_eq_true rfl) dX7_size_41 ⟨by decide, by decide⟩ (fun r4 u h => ?_)
      obtain ⟨s5, s6, s7, s8, s9⟩ := u
      exact hR r4 (0, s5, s6, s7, s8, s9) 44 _ dX7_size_44 rfl h
    · replace h := h.2 c3
      refine go_aload_n X dX7_size_26 0 rfl rfl ?_
      refine go_iload_n X dX7_size_27 2 rfl rfl ?_
      refine go_callVi X (kX7_isThere l D cy a_o a_o_tape a_o_sampleLong a_o_sampleByte a_o_idOf a_o_pieces a_o_pieceLong a_o_bytesOf a_o_dictionary a_o_covered a_o_taken a_o_row a_o_cost a_o_leastD a_o_out a_o_text 0 o_taped o_samples o_takenMany o_ahead o_textLong o_outMany o_items o_matches o_textMany o_idOf p2 _ h) (cwV 1 X.2.2.2.2.1 gX7_size_X7_isThere rfl rfl rfl cd_X7_isThere ⟨by decide, by decide⟩) (wr := [(a_o_sampleLong, .inl (cy 1, 8, .inl o_sampleLong)), (a_o_sampleByte, .inl (cy 1, 320, .inl o_sampleByte)), (a_o_pieceLong, .inl (cy 1, 480, .inl o_pieceLong)), (a_o_bytesOf, .inl (cy 1, 6, .inl o_bytesOf)), (a_o_dictionary, .inl (cy 1, 480, .inl o_dictionary)), (a_o_row, .inl (cy 1, 280, .inl o_row)), (a_o_cost, .inl (cy 1, 201, .inl o_cost)), (a_o_leastD, .inl (cy 1, 2010, .inl o_leastD))]) (ws2 := fun u => [(a_o, .inr (10, [.int 0, .ref a_o_tape, .int o_taped, .int o_samples, .ref a_o_sampleLong, .ref a_o_sampleByte, .ref a_o_idOf, .ref a_o_pieces, .ref a_o_pieceLong, .ref a_o_bytesOf, .ref a_o_dictionary, .ref a_o_covered, .ref a_o_taken, .int o_takenMany, .ref a_o_row, .int o_ahead, .int o_textLong, .ref a_o_cost, .ref a_o_leastD, .ref a_o_out, .int o_outMany, .int o_items, .int o_matches, .ref a_o_text, .int o_textMany])), (a_o_sampleLong, .inl (cy 1, 8, .inl o_sampleLong)), (a_o_sampleByte, .inl (cy 1, 320, .inl o_sampleByte)), (a_o_idOf, .inl (cy 1, 6, .inl o_idOf)), (a_o_pieceLong, .inl (cy 1, 480, .inl o_pieceLong)), (a_o_bytesOf, .inl (cy 1, 6, .inl o_bytesOf)), (a_o_dictionary, .inl (cy 1, 480, .inl o_dictionary)), (a_o_row, .inl (cy 1, 280, .inl o_row)), (a_o_cost, .inl (cy 1, 201, .inl o_cost)), (a_o_leastD, .inl (cy 1, 2010, .inl o_leastD))]) (perm_ix 10 [0, 3, 1, 2, 4, 5, 6, 7, 8, 9] rfl (by decide +kernel) rfl) (fun u => perm_ix 10 [0, 2, 3, 1, 4, 5, 6, 7, 8, 9] rfl (by decide +kernel) rfl) rfl rfl rfl rfl (Nat.le_of_ble_eq_true rfl) dX7_size_28 ⟨by decide, by decide⟩ (fun r10 u h => ?_)
      refine go_if_ne X 37 dX7_size_31 (by decide) (fun c11 => ?_) (fun c11 => ?_)
      · replace h := h.1 c11
        refine go_aload_n X dX7_size_37 0 rfl rfl ?_
        refine go_iload_n X dX7_size_38 1 rfl rfl ?_
        refine go_iload_n X dX7_size_39 2 rfl rfl ?_
        refine go_iconst X (v := (-1)) dX7_size_40 (by decide) ?_
        refine go_callVi X (kX7_sizeOf l D cy a_o a_o_tape a_o_sampleLong a_o_sampleByte a_o_idOf a_o_pieces a_o_pieceLong a_o_bytesOf a_o_dictionary a_o_covered a_o_taken a_o_row a_o_cost a_o_leastD a_o_out a_o_text 0 o_taped o_samples o_takenMany o_ahead o_textLong o_outMany o_items o_matches o_textMany o_sampleLong o_sampleByte o_pieceLong o_bytesOf o_dictionary o_row o_cost o_leastD p1 p2 ((-1) : Int32) _ h) (cwV 3 X.2.2.2.2.1 gX7_size_X7_sizeOf rfl rfl rfl cd_X7_sizeOf ⟨by decide, by decide⟩) (wr := [(a_o_idOf, .inl (cy 1, 6, .inl o_idOf))]) (ws2 := fun u => [(a_o, .inr (10, [.int 0, .ref a_o_tape, .int o_taped, .int o_samples, .ref a_o_sampleLong, .ref a_o_sampleByte, .ref a_o_idOf, .ref a_o_pieces, .ref a_o_pieceLong, .ref a_o_bytesOf, .ref a_o_dictionary, .ref a_o_covered, .ref a_o_taken, .int o_takenMany, .ref a_o_row, .int u.1, .int u.2.1, .ref a_o_cost, .ref a_o_leastD, .ref a_o_out, .int o_outMany, .int o_items, .int o_matches, .ref a_o_text, .int o_textMany])), (a_o_sampleLong, .inl (cy 1, 8, .inl o_sampleLong)), (a_o_sampleByte, .inl (cy 1, 320, .inl o_sampleByte)), (a_o_idOf, .inl (cy 1, 6, .inl o_idOf)), (a_o_pieceLong, .inl (cy 1, 480, .inl o_pieceLong)), (a_o_bytesOf, .inl (cy 1, 6, .inl o_bytesOf)), (a_o_dictionary, .inl (cy 1, 480, .inl o_dictionary)), (a_o_row, .inl (cy 1, 280, .inl u.2.2.1)), (a_o_cost, .inl (cy 1, 201, .inl u.2.2.2.1)), (a_o_leastD, .inl (cy 1, 2010, .inl u.2.2.2.2))]) (perm_ix 10 [0, 1, 2, 4, 5, 6, 7, 8, 9, 3] rfl (by decide +kernel) rfl) (fun u => perm_ix 10 [0, 1, 2, 9, 3, 4, 5, 6, 7, 8] rfl (by decide +kernel) rfl) rfl rfl rfl rfl (Nat.le_of_ble_eq_true rfl) dX7_size_41 ⟨by decide, by decide⟩ (fun r12 u h => ?_)
        obtain ⟨s13, s14, s15, s16, s17⟩ := u
        exact hR r12 (0, s13, s14, s15, s16, s17) 44 _ dX7_size_44 rfl h
      · replace h := h.2 c11
        refine go_bipush X (v := (-101)) dX7_size_34 (by decide) ?_
        exact hR (-101) (0, o_ahead, o_textLong, o_row, o_cost, o_leastD) 36 _ dX7_size_36 rfl h
/-! X7_best -/
theorem fi_X7_best_X7 : ∀ w ∈ u_ws RX7 TX7 25, w ∈ wsX7_best := by decide +kernel
theorem fl_X7_best_60 : Cond.fieldLink RX7 60 (TX7 0).1 (TX7 0).2.1 (TX7 0).2.2.1 ∈ wsX7_best := by decide +kernel
theorem fl_X7_best_71 : Cond.fieldLink RX7 71 (TX7 3).1 (TX7 3).2.1 (TX7 3).2.2.1 ∈ wsX7_best := by decide +kernel
def rm_X7_best : Room := { frames := 3, cells := 0, slots := 0, locals := 72 }
theorem cd_X7_best : yX7_best.cls = RX7 ∧ yX7_best.cls ≠ "java/lang/invoke/MethodHandle" ∧ yX7_best.cls ≠ "java/lang/invoke/VarHandle" ∧ (parseMethodDescriptor yX7_best.desc).map (fun d => d.parameters.length) = some 1 := by decide +kernel
set_option maxRecDepth 100000 in
set_option maxHeartbeats 4000000 in
theorem pX7_best_37 {p : Program} (l : Launch) {e : Env} {s : State} {m : MethodId} {args : Array Value} {below : List Frame} {meth : Method} {c : Code} {Q : State → Prop} {D : va_G} {cy : Nat → ClassId} {A : Nat → Prop} (X : Cx p s m args c cX7_best 6 RX7 wsX7_best D (tyL cy) A) (a_o : Nat) (a_o_tape : Nat) (a_o_sampleLong : Nat) (a_o_sampleByte : Nat) (a_o_idOf : Nat) (a_o_pieces : Nat) (a_o_pieceLong : Nat) (a_o_bytesOf : Nat) (a_o_dictionary : Nat) (a_o_covered : Nat) (a_o_taken : Nat) (a_o_row : Nat) (a_o_cost : Nat) (a_o_leastD : Nat) (a_o_out : Nat) (a_o_text : Nat) (o_thrown : Int32) (o_taped : Int32) (o_samples : Int32) (o_takenMany : Int32) (o_outMany : Int32) (o_items : Int32) (o_matches : Int32) (o_textMany : Int32) (o_sampleLong : Nat → Int32) (o_sampleByte : Nat → Int32) (o_idOf : Nat → Int32) (o_pieceLong : Nat → Int32) (o_bytesOf : Nat → Int32) (o_dictionary : Nat → Int32) (v1 : Int32) (K : Int32 → Int32 → (Nat → Int32) → (Nat → Int32) → (Nat → Int32) → Int32 → Int32 → Int32 → Prop) (hK : ∀ (o_ahead : Int32) (o_textLong : Int32) (o_row : Nat → Int32) (o_cost : Nat → Int32) (o_leastD : Nat → Int32) (v2 : Int32) (v3 : Int32) (v4 : Int32), K o_ahead o_textLong o_row o_cost o_leastD v2 v3 v4 → Go p l e rm_X7_best s m args below meth c Q 6 D A [(a_o, .inr (10, [.int o_thrown, .ref a_o_tape, .int o_taped, .int o_samples, .ref a_o_sampleLong, .ref a_o_sampleByte, .ref a_o_idOf, .ref a_o_pieces, .ref a_o_pieceLong, .ref a_o_bytesOf, .ref a_o_dictionary, .ref a_o_covered, .ref a_o_taken, .int o_takenMany, .ref a_o_row, .int o_ahead, .int o_textLong, .ref a_o_cost, .ref a_o_leastD, .ref a_o_out, .int o_outMany, .int o_items, .int o_matches, .ref a_o_text, .int o_textMany])), (a_o_sampleLong, .inl (cy 1, 8, .inl o_sampleLong)), (a_o_sampleByte, .inl (cy 1, 320, .inl o_sampleByte)), (a_o_idOf, .inl (cy 1, 6, .inl o_idOf)), (a_o_pieceLong, .inl (cy 1, 480, .inl o_pieceLong)), (a_o_bytesOf, .inl (cy 1, 6, .inl o_bytesOf)), (a_o_dictionary, .inl (cy 1, 480, .inl o_dictionary)), (a_o_row, .inl (cy 1, 280, .inl o_row)), (a_o_cost, .inl (cy 1, 201, .inl o_cost)), (a_o_leastD, .inl (cy 1, 2010, .inl o_leastD))] 0 0 99 [(2, .int v2)] []) :
    ∀ (n : Nat) (o_ahead : Int32) (o_textLong : Int32) (o_row : Nat → Int32) (o_cost : Nat → Int32) (o_leastD : Nat → Int32) (v2 : Int32) (v3 : Int32) (v4 : Int32), wX7_best_37 o_sampleLong o_sampleByte o_idOf o_pieceLong o_bytesOf o_dictionary v1 K n o_ahead o_textLong o_row o_cost o_leastD v2 v3 v4 → Go p l e rm_X7_best s m args below meth c Q 6 D A [(a_o, .inr (10, [.int o_thrown, .ref a_o_tape, .int o_taped, .int o_samples, .ref a_o_sampleLong, .ref a_o_sampleByte, .ref a_o_idOf, .ref a_o_pieces, .ref a_o_pieceLong, .ref a_o_bytesOf, .ref a_o_dictionary, .ref a_o_covered, .ref a_o_taken, .int o_takenMany, .ref a_o_row, .int o_ahead, .int o_textLong, .ref a_o_cost, .ref a_o_leastD, .ref a_o_out, .int o_outMany, .int o_items, .int o_matches, .ref a_o_text, .int o_textMany])), (a_o_sampleLong, .inl (cy 1, 8, .inl o_sampleLong)), (a_o_sampleByte, .inl (cy 1, 320, .inl o_sampleByte)), (a_o_idOf, .inl (cy 1, 6, .inl o_idOf)), (a_o_pieceLong, .inl (cy 1, 480, .inl o_pieceLong)), (a_o_bytesOf, .inl (cy 1, 6, .inl o_bytesOf)), (a_o_dictionary, .inl (cy 1, 480, .inl o_dictionary)), (a_o_row, .inl (cy 1, 280, .inl o_row)), (a_o_cost, .inl (cy 1, 201, .inl o_cost)), (a_o_leastD, .inl (cy 1, 2010, .inl o_leastD))] 0 0 37 [(0, .ref a_o), (1, .int v1), (2, .int v2), (3, .int v3), (4, .int v4)] [] := by
  intro n
  induction n with
  | zero => intro o_ahead o_textLong o_row o_cost o_leastD v2 v3 v4 h; exact absurd h id
  | succ n ih =>
    intro o_ahead o_textLong o_row o_cost o_leastD v2 v3 v4 h
    refine go_iload X dX7_best_37 4 rfl ?_
    refine go_bipush X (v := 6) dX7_best_39 (by decide) ?_
    refine go_icmp_ge X 99 dX7_best_41 (by decide) (fun c17 => ?_) (fun c17 => ?_)
    · replace h := h.1 c17
      refine go_lv [2] rfl ?_
      exact hK o_ahead o_textLong o_row o_cost o_leastD v2 v3 v4 h
    · replace h := h.2 c17
      refine go_aload_n X dX7_best_44 0 rfl rfl ?_
      refine go_iload X dX7_best_45 4 rfl ?_
      refine go_callVi X (kX7_isThere l D cy a_o a_o_tape a_o_sampleLong a_o_sampleByte a_o_idOf a_o_pieces a_o_pieceLong a_o_bytesOf a_o_dictionary a_o_covered a_o_taken a_o_row a_o_cost a_o_leastD a_o_out a_o_text o_thrown o_taped o_samples o_takenMany o_ahead o_textLong o_outMany o_items o_matches o_textMany o_idOf v4 _ h) (cwV 1 X.2.2.2.2.1 gX7_best_X7_isThere rfl rfl rfl cd_X7_isThere ⟨by decide, by decide⟩) (wr := [(a_o_sampleLong, .inl (cy 1, 8, .inl o_sampleLong)), (a_o_sampleByte, .inl (cy 1, 320, .inl o_sampleByte)), (a_o_pieceLong, .inl (cy 1, 480, .inl o_pieceLong)), (a_o_bytesOf, .inl (cy 1, 6, .inl o_bytesOf)), (a_o_dictionary, .inl (cy 1, 480, .inl o_dictionary)), (a_o_row, .inl (cy 1, 280, .inl o_row)), (a_o_cost, .inl (cy 1, 201, .inl o_cost)), (a_o_leastD, .inl (cy 1, 2010, .inl o_leastD))]) (ws2 := fun u => [(a_o, .inr (10, [.int o_thrown, .ref a_o_tape, .int o_taped, .int o_samples, .ref a_o_sampleLong, .ref a_o_sampleByte, .ref a_o_idOf, .ref a_o_pieces, .ref a_o_pieceLong, .ref a_o_bytesOf, .ref a_o_dictionary, .ref a_o_covered, .ref a_o_taken, .int o_takenMany, .ref a_o_row, .int o_ahead, .int o_textLong, .ref a_o_cost, .ref a_o_leastD, .ref a_o_out, .int o_outMany, .int o_items, .int o_matches, .ref a_o_text, .int o_textMany])), (a_o_sampleLong, .inl (cy 1, 8, .inl o_sampleLong)), (a_o_sampleByte, .inl (cy 1, 320, .inl o_sampleByte)), (a_o_idOf, .inl (cy 1, 6, .inl o_idOf)), (a_o_pieceLong, .inl (cy 1, 480, .inl o_pieceLong)), (a_o_bytesOf, .inl (cy 1, 6, .inl o_bytesOf)), (a_o_dictionary, .inl (cy 1, 480, .inl o_dictionary)), (a_o_row, .inl (cy 1, 280, .inl o_row)), (a_o_cost, .inl (cy 1, 201, .inl o_cost)), (a_o_leastD, .inl (cy 1, 2010, .inl o_leastD))]) (perm_ix 10 [0, 3, 1, 2, 4, 5, 6, 7, 8, 9] rfl (by decide +kernel) rfl) (fun u => perm_ix 10 [0, 2, 3, 1, 4, 5, 6, 7, 8, 9] rfl (by decide +kernel) rfl) rfl rfl rfl rfl (Nat.le_of_ble_eq_true rfl) dX7_best_47 ⟨by decide, by decide⟩ (fun r18 u h => ?_)
      refine go_if_eq X 64 dX7_best_50 (by decide) (fun c19 => ?_) (fun c19 => ?_)
      · replace h := h.1 c19
        refine go_iload_n X dX7_best_64 3 rfl rfl ?_
        refine go_istore X (lv' := [(5, .int v3), (0, .ref a_o), (1, .int v1), (2, .int v2), (3, .int v3), (4, .int v4)]) dX7_best_65 (by decide) rfl ?_
        refine go_iload X dX7_best_67 0 rfl ?_
        refine go_iload_n X dX7_best_69 4 rfl rfl ?_
        refine go_icmp_ge X 78 dX7_best_70 (by decide) (fun c20 => ?_) (fun c20 => ?_)
        · replace h := h.1 c20
          refine go_iload_n X dX7_best_78 3 rfl rfl ?_
          refine go_istore_n X (lv' := [(2, .int v2), (5, .int v3), (0, .ref a_o), (1, .int v1), (3, .int v3), (4, .int v4)]) dX7_best_79 rfl (by decide) rfl ?_
          refine go_iload X dX7_best_80 1 rfl ?_
          refine go_iload_n X dX7_best_82 4 rfl rfl ?_
          refine go_icmp_ge X 91 dX7_best_83 (by decide) (fun _ => ?_) (fun c0 => absurd c20 c0)
          refine go_iload_n X dX7_best_91 4 rfl rfl ?_
          refine go_istore_n X (lv' := [(3, .int v3), (2, .int v2), (5, .int v3), (0, .ref a_o), (1, .int v1), (4, .int v4)]) dX7_best_92 rfl (by decide) rfl ?_
          obtain ⟨y21, ey21⟩ : ∃ z : Int32, z = v4 + 1 := ⟨_, rfl⟩
          replace h := h y21 ey21
          refine go_iinc X (lv' := [(4, .int y21), (3, .int v3), (2, .int v2), (5, .int v3), (0, .ref a_o), (1, .int v1)]) y21 dX7_best_93 5 rfl (by rw [ey21]; rfl) (by decide) rfl ?_
          refine go_goto X 37 dX7_best_96 (by decide) ?_
          refine go_lv [4, 5, 2, 1, 0] rfl ?_
          exact ih o_ahead o_textLong o_row o_cost o_leastD v2 v3 y21 h
        · replace h := h.2 c20
          refine go_iload X dX7_best_73 5 rfl ?_
          refine go_goto X 79 dX7_best_75 (by decide) ?_
          refine go_istore_n X (lv' := [(2, .int v4), (5, .int v3), (0, .ref a_o), (1, .int v1), (3, .int v3), (4, .int v4)]) dX7_best_79 rfl (by decide) rfl ?_
          refine go_iload X dX7_best_80 1 rfl ?_
          refine go_iload_n X dX7_best_82 4 rfl rfl ?_
          refine go_icmp_ge X 91 dX7_best_83 (by decide) (fun c0 => absurd c0 c20) (fun _ => ?_)
          refine go_iload X dX7_best_86 1 rfl ?_
          refine go_goto X 92 dX7_best_88 (by decide) ?_
          refine go_istore_n X (lv' := [(3, .int v3), (2, .int v4), (5, .int v3), (0, .ref a_o), (1, .int v1), (4, .int v4)]) dX7_best_92 rfl (by decide) rfl ?_
          obtain ⟨y22, ey22⟩ : ∃ z : Int32, z = v4 + 1 := ⟨_, rfl⟩
          replace h := h y22 ey22
          refine go_iinc X (lv' := [(4, .int y22), (3, .int v3), (2, .int v4), (5, .int v3), (0, .ref a_o), (1, .int v1)]) y22 dX7_best_93 5 rfl (by rw [ey22]; rfl) (by decide) rfl ?_
          refine go_goto X 37 dX7_best_96 (by decide) ?_
          refine go_lv [4, 5, 2, 1, 0] rfl ?_
          exact ih o_ahead o_textLong o_row o_cost o_leastD v4 v3 y22 h
      · replace h := h.2 c19
        refine go_aload_n X dX7_best_53 0 rfl rfl ?_
        refine go_iload_n X dX7_best_54 1 rfl rfl ?_
        refine go_iload X dX7_best_55 4 rfl ?_
        refine go_iconst X (v := (-1)) dX7_best_57 (by decide) ?_
        refine go_callVi X (kX7_sizeOf l D cy a_o a_o_tape a_o_sampleLong a_o_sampleByte a_o_idOf a_o_pieces a_o_pieceLong a_o_bytesOf a_o_dictionary a_o_covered a_o_taken a_o_row a_o_cost a_o_leastD a_o_out a_o_text o_thrown o_taped o_samples o_takenMany o_ahead o_textLong o_outMany o_items o_matches o_textMany o_sampleLong o_sampleByte o_pieceLong o_bytesOf o_dictionary o_row o_cost o_leastD v1 v4 ((-1) : Int32) _ h) (cwV 3 X.2.2.2.2.1 gX7_best_X7_sizeOf rfl rfl rfl cd_X7_sizeOf ⟨by decide, by decide⟩) (wr := [(a_o_idOf, .inl (cy 1, 6, .inl o_idOf))]) (ws2 := fun u => [(a_o, .inr (10, [.int o_thrown, .ref a_o_tape, .int o_taped, .int o_samples, .ref a_o_sampleLong, .ref a_o_sampleByte, .ref a_o_idOf, .ref a_o_pieces, .ref a_o_pieceLong, .ref a_o_bytesOf, .ref a_o_dictionary, .ref a_o_covered, .ref a_o_taken, .int o_takenMany, .ref a_o_row, .int u.1, .int u.2.1, .ref a_o_cost, .ref a_o_leastD, .ref a_o_out, .int o_outMany, .int o_items, .int o_matches, .ref a_o_text, .int o_textMany])), (a_o_sampleLong, .inl (cy 1, 8, .inl o_sampleLong)), (a_o_sampleByte, .inl (cy 1, 320, .inl o_sampleByte)), (a_o_idOf, .inl (cy 1, 6, .inl o_idOf)), (a_o_pieceLong, .inl (cy 1, 480, .inl o_pieceLong)), (a_o_bytesOf, .inl (cy 1, 6, .inl o_bytesOf)), (a_o_dictionary, .inl (cy 1, 480, .inl o_dictionary)), (a_o_row, .inl (cy 1, 280, .inl u.2.2.1)), (a_o_cost, .inl (cy 1, 201, .inl u.2.2.2.1)), (a_o_leastD, .inl (cy 1, 2010, .inl u.2.2.2.2))]) (perm_ix 10 [0, 1, 2, 4, 5, 6, 7, 8, 9, 3] rfl (by decide +kernel) rfl) (fun u => perm_ix 10 [0, 1, 2, 9, 3, 4, 5, 6, 7, 8] rfl (by decide +kernel) rfl) rfl rfl rfl rfl (Nat.le_of_ble_eq_true rfl) dX7_best_58 ⟨by decide, by decide⟩ (fun r23 u h => ?_)
        obtain ⟨s24, s25, s26, s27, s28⟩ := u
        refine go_goto X 65 dX7_best_61 (by decide) ?_
        refine go_istore X (lv' := [(5, .int r23), (0, .ref a_o), (1, .int v1), (2, .int v2), (3, .int v3), (4, .int v4)]) dX7_best_65 (by decide) rfl ?_
        refine go_iload X dX7_best_67 0 rfl ?_
        refine go_iload_n X dX7_best_69 4 rfl rfl ?_
        refine go_icmp_ge X 78 dX7_best_70 (by decide) (fun c29 => ?_) (fun c29 => ?_)
        · replace h := h.1 c29
          refine go_iload_n X dX7_best_78 3 rfl rfl ?_
          refine go_istore_n X (lv' := [(2, .int v2), (5, .int r23), (0, .ref a_o), (1, .int v1), (3, .int v3), (4, .int v4)]) dX7_best_79 rfl (by decide) rfl ?_
          refine go_iload X dX7_best_80 1 rfl ?_
          refine go_iload_n X dX7_best_82 4 rfl rfl ?_
          refine go_icmp_ge X 91 dX7_best_83 (by decide) (fun _ => ?_) (fun c0 => absurd c29 c0)
          refine go_iload_n X dX7_best_91 4 rfl rfl ?_
          refine go_istore_n X (lv' := [(3, .int v3), (2, .int v2), (5, .int r23), (0, .ref a_o), (1, .int v1), (4, .int v4)]) dX7_best_92 rfl (by decide) rfl ?_
          obtain ⟨y30, ey30⟩ : ∃ z : Int32, z = v4 + 1 := ⟨_, rfl⟩
          replace h := h y30 ey30
          refine go_iinc X (lv' := [(4, .int y30), (3, .int v3), (2, .int v2), (5, .int r23), (0, .ref a_o), (1, .int v1)]) y30 dX7_best_93 5 rfl (by rw [ey30]; rfl) (by decide) rfl ?_
          refine go_goto X 37 dX7_best_96 (by decide) ?_
          refine go_lv [4, 5, 2, 1, 0] rfl ?_
          exact ih s24 s25 s26 s27 s28 v2 v3 y30 h
        · replace h := h.2 c29
          refine go_iload X dX7_best_73 5 rfl ?_
          refine go_goto X 79 dX7_best_75 (by decide) ?_
          refine go_istore_n X (lv' := [(2, .int v4), (5, .int r23), (0, .ref a_o), (1, .int v1), (3, .int v3), (4, .int v4)]) dX7_best_79 rfl (by decide) rfl ?_
          refine go_iload X dX7_best_80 1 rfl ?_
          refine go_iload_n X dX7_best_82 4 rfl rfl ?_
          refine go_icmp_ge X 91 dX7_best_83 (by decide) (fun c0 => absurd c0 c29) (fun _ => ?_)
          refine go_iload X dX7_best_86 1 rfl ?_
          refine go_goto X 92 dX7_best_88 (by decide) ?_
          refine go_istore_n X (lv' := [(3, .int r23), (2, .int v4), (5, .int r23), (0, .ref a_o), (1, .int v1), (4, .int v4)]) dX7_best_92 rfl (by decide) rfl ?_
          obtain ⟨y31, ey31⟩ : ∃ z : Int32, z = v4 + 1 := ⟨_, rfl⟩
          replace h := h y31 ey31
          refine go_iinc X (lv' := [(4, .int y31), (3, .int r23), (2, .int v4), (5, .int r23), (0, .ref a_o), (1, .int v1)]) y31 dX7_best_93 5 rfl (by rw [ey31]; rfl) (by decide) rfl ?_
          refine go_goto X 37 dX7_best_96 (by decide) ?_
          refine go_lv [4, 5, 2, 1, 0] rfl ?_
          exact ih s24 s25 s26 s27 s28 v4 r23 y31 h
set_option maxRecDepth 100000 in
set_option maxHeartbeats 4000000 in
theorem kX7_best (l : Launch) (D : va_G) (cy : Nat → ClassId) (a_o : Nat) (a_o_tape : Nat) (a_o_sampleLong : Nat) (a_o_sampleByte : Nat) (a_o_idOf : Nat) (a_o_pieces : Nat) (a_o_pieceLong : Nat) (a_o_bytesOf : Nat) (a_o_dictionary : Nat) (a_o_covered : Nat) (a_o_taken : Nat) (a_o_row : Nat) (a_o_cost : Nat) (a_o_leastD : Nat) (a_o_out : Nat) (a_o_text : Nat) (o_thrown : Int32) (o_taped : Int32) (o_samples : Int32) (o_takenMany : Int32) (o_ahead : Int32) (o_textLong : Int32) (o_outMany : Int32) (o_items : Int32) (o_matches : Int32) (o_textMany : Int32) (o_sampleLong : Nat → Int32) (o_sampleByte : Nat → Int32) (o_idOf : Nat → Int32) (o_pieceLong : Nat → Int32) (o_bytesOf : Nat → Int32) (o_dictionary : Nat → Int32) (o_row : Nat → Int32) (o_cost : Nat → Int32) (o_leastD : Nat → Int32) (p1 : Int32) (post : Int32 → Int32 → Int32 → Int32 → (Nat → Int32) → (Nat → Int32) → (Nat → Int32) → Prop) (h : wX7_best o_samples o_ahead o_textLong o_sampleLong o_sampleByte o_idOf o_pieceLong o_bytesOf o_dictionary o_row o_cost o_leastD p1 post) : MetI l yX7_best wsX7_best rm_X7_best D (tyL cy) [.ref a_o, .int p1] [(a_o, .inr (10, [.int o_thrown, .ref a_o_tape, .int o_taped, .int o_samples, .ref a_o_sampleLong, .ref a_o_sampleByte, .ref a_o_idOf, .ref a_o_pieces, .ref a_o_pieceLong, .ref a_o_bytesOf, .ref a_o_dictionary, .ref a_o_covered, .ref a_o_taken, .int o_takenMany, .ref a_o_row, .int o_ahead, .int o_textLong, .ref a_o_cost, .ref a_o_leastD, .ref a_o_out, .int o_outMany, .int o_items, .int o_matches, .ref a_o_text, .int o_textMany])), (a_o_sampleLong, .inl (cy 1, 8, .inl o_sampleLong)), (a_o_sampleByte, .inl (cy 1, 320, .inl o_sampleByte)), (a_o_idOf, .inl (cy 1, 6, .inl o_idOf)), (a_o_pieceLong, .inl (cy 1, 480, .inl o_pieceLong)), (a_o_bytesOf, .inl (cy 1, 6, .inl o_bytesOf)), (a_o_dictionary, .inl (cy 1, 480, .inl o_dictionary)), (a_o_row, .inl (cy 1, 280, .inl o_row)), (a_o_cost, .inl (cy 1, 201, .inl o_cost)), (a_o_leastD, .inl (cy 1, 2010, .inl o_leastD))] (fun u : Int32 × Int32 × Int32 × (Nat → Int32) × (Nat → Int32) × (Nat → Int32) => [(a_o, .inr (10, [.int u.1, .ref a_o_tape, .int o_taped, .int o_samples, .ref a_o_sampleLong, .ref a_o_sampleByte, .ref a_o_idOf, .ref a_o_pieces, .ref a_o_pieceLong, .ref a_o_bytesOf, .ref a_o_dictionary, .ref a_o_covered, .ref a_o_taken, .int o_takenMany, .ref a_o_row, .int u.2.1, .int u.2.2.1, .ref a_o_cost, .ref a_o_leastD, .ref a_o_out, .int o_outMany, .int o_items, .int o_matches, .ref a_o_text, .int o_textMany])), (a_o_sampleLong, .inl (cy 1, 8, .inl o_sampleLong)), (a_o_sampleByte, .inl (cy 1, 320, .inl o_sampleByte)), (a_o_idOf, .inl (cy 1, 6, .inl o_idOf)), (a_o_pieceLong, .inl (cy 1, 480, .inl o_pieceLong)), (a_o_bytesOf, .inl (cy 1, 6, .inl o_bytesOf)), (a_o_dictionary, .inl (cy 1, 480, .inl o_dictionary)), (a_o_row, .inl (cy 1, 280, .inl u.2.2.2.1)), (a_o_cost, .inl (cy 1, 201, .inl u.2.2.2.2.1)), (a_o_leastD, .inl (cy 1, 2010, .inl u.2.2.2.2.2))]) (fun r => fun (u : Int32 × Int32 × Int32 × (Nat → Int32) × (Nat → Int32) × (Nat → Int32)) => post r u.1 u.2.1 u.2.2.1 u.2.2.2.1 u.2.2.2.2.1 u.2.2.2.2.2) 0 0 := by
  refine metI_of (cc := cX7_best) (maxL := 6) (lv := [(0, .ref a_o), (1, .int p1)]) (by decide) rfl (Nat.le_of_ble_eq_true rfl) rfl ?_
  intro p e s m below meth c Q A X hlk hR
  unfold wX7_best at h
  refine go_aload_n X dX7_best_0 0 rfl rfl ?_
  refine go_iconst X (v := 0) dX7_best_1 (by decide) ?_
  refine go_put X (ws' := [(a_o, .inr (10, [.int 0, .ref a_o_tape, .int o_taped, .int o_samples, .ref a_o_sampleLong, .ref a_o_sampleByte, .ref a_o_idOf, .ref a_o_pieces, .ref a_o_pieceLong, .ref a_o_bytesOf, .ref a_o_dictionary, .ref a_o_covered, .ref a_o_taken, .int o_takenMany, .ref a_o_row, .int o_ahead, .int o_textLong, .ref a_o_cost, .ref a_o_leastD, .ref a_o_out, .int o_outMany, .int o_items, .int o_matches, .ref a_o_text, .int o_textMany])), (a_o_sampleLong, .inl (cy 1, 8, .inl o_sampleLong)), (a_o_sampleByte, .inl (cy 1, 320, .inl o_sampleByte)), (a_o_idOf, .inl (cy 1, 6, .inl o_idOf)), (a_o_pieceLong, .inl (cy 1, 480, .inl o_pieceLong)), (a_o_bytesOf, .inl (cy 1, 6, .inl o_bytesOf)), (a_o_dictionary, .inl (cy 1, 480, .inl o_dictionary)), (a_o_row, .inl (cy 1, 280, .inl o_row)), (a_o_cost, .inl (cy 1, 201, .inl o_cost)), (a_o_leastD, .inl (cy 1, 2010, .inl o_leastD))]) fi_X7_best_X7 tyX7 tyX7_ok nmX7 0 rfl rfl 0 (by decide) fl_X7_best_60 rfl (tyX7_ok 0 (by decide)) rfl rfl (Nat.le_of_ble_eq_true rfl) rfl dX7_best_2 ?_
  refine go_iload_n X dX7_best_5 1 rfl rfl ?_
  refine go_i2l X dX7_best_6 ?_
  refine go_lconst X (v := 0) dX7_best_7 (by decide) ?_
  refine go_aload_n X dX7_best_8 0 rfl rfl ?_
  refine go_get X fi_X7_best_X7 0 rfl rfl 3 (by decide) fl_X7_best_71 rfl dX7_best_9 ?_
  refine go_iconst X (v := 1) dX7_best_12 (by decide) ?_
  refine go_isub X dX7_best_13 ?_
  refine go_i2l X dX7_best_14 ?_
  refine go_callSi X (kX7_in l D cy p1.toInt64 (0 : Int64) ((o_samples - 1).toInt64) _ h) (va_cwS 3 X.2.2.2.2.1 gX7_best_X7_in rfl rfl rfl cd_X7_in ⟨by decide, by decide⟩) (wr := [(a_o, .inr (10, [.int 0, .ref a_o_tape, .int o_taped, .int o_samples, .ref a_o_sampleLong, .ref a_o_sampleByte, .ref a_o_idOf, .ref a_o_pieces, .ref a_o_pieceLong, .ref a_o_bytesOf, .ref a_o_dictionary, .ref a_o_covered, .ref a_o_taken, .int o_takenMany, .ref a_o_row, .int o_ahead, .int o_textLong, .ref a_o_cost, .ref a_o_leastD, .ref a_o_out, .int o_outMany, .int o_items, .int o_matches, .ref a_o_text, .int o_textMany])), (a_o_sampleLong, .inl (cy 1, 8, .inl o_sampleLong)), (a_o_sampleByte, .inl (cy 1, 320, .inl o_sampleByte)), (a_o_idOf, .inl (cy 1, 6, .inl o_idOf)), (a_o_pieceLong, .inl (cy 1, 480, .inl o_pieceLong)), (a_o_bytesOf, .inl (cy 1, 6, .inl o_bytesOf)), (a_o_dictionary, .inl (cy 1, 480, .inl o_dictionary)), (a_o_row, .inl (cy 1, 280, .inl o_row)), (a_o_cost, .inl (cy 1, 201, .inl o_cost)), (a_o_leastD, .inl (cy 1, 2010, .inl o_leastD))]) (ws2 := fun u => [(a_o, .inr (10, [.int 0, .ref a_o_tape, .int o_taped, .int o_samples, .ref a_o_sampleLong, .ref a_o_sampleByte, .ref a_o_idOf, .ref a_o_pieces, .ref a_o_pieceLong, .ref a_o_bytesOf, .ref a_o_dictionary, .ref a_o_covered, .ref a_o_taken, .int o_takenMany, .ref a_o_row, .int o_ahead, .int o_textLong, .ref a_o_cost, .ref a_o_leastD, .ref a_o_out, .int o_outMany, .int o_items, .int o_matches, .ref a_o_text, .int o_textMany])), (a_o_sampleLong, .inl (cy 1, 8, .inl o_sampleLong)), (a_o_sampleByte, .inl (cy 1, 320, .inl o_sampleByte)), (a_o_idOf, .inl (cy 1, 6, .inl o_idOf)), (a_o_pieceLong, .inl (cy 1, 480, .inl o_pieceLong)), (a_o_bytesOf, .inl (cy 1, 6, .inl o_bytesOf)), (a_o_dictionary, .inl (cy 1, 480, .inl o_dictionary)), (a_o_row, .inl (cy 1, 280, .inl o_row)), (a_o_cost, .inl (cy 1, 201, .inl o_cost)), (a_o_leastD, .inl (cy 1, 2010, .inl o_leastD))]) (perm_ix 10 [0, 1, 2, 3, 4, 5, 6, 7, 8, 9] rfl (by decide +kernel) rfl) (fun u => perm_ix 10 [0, 1, 2, 3, 4, 5, 6, 7, 8, 9] rfl (by decide +kernel) rfl) rfl rfl (Nat.le_of_ble_eq_true rfl) dX7_best_15 ⟨by decide, by decide⟩ (fun r1 u h => ?_)
  refine go_if_ne X 24 dX7_best_18 (by decide) (fun c2 => ?_) (fun c2 => ?_)
  · replace h := h.1 c2
    refine go_iconst X (v := (-1)) dX7_best_24 (by decide) ?_
    refine go_istore_n X (lv' := [(2, .int (-1)), (0, .ref a_o), (1, .int p1)]) dX7_best_25 rfl (by decide) rfl ?_
    refine go_aload_n X dX7_best_26 1 rfl rfl ?_
    refine go_iload_n X dX7_best_27 2 rfl rfl ?_
    refine go_iconst X (v := (-1)) dX7_best_28 (by decide) ?_
    refine go_iconst X (v := (-1)) dX7_best_29 (by decide) ?_
    refine go_callVi X (kX7_sizeOf l D cy a_o a_o_tape a_o_sampleLong a_o_sampleByte a_o_idOf a_o_pieces a_o_pieceLong a_o_bytesOf a_o_dictionary a_o_covered a_o_taken a_o_row a_o_cost a_o_leastD a_o_out a_o_text 0 o_taped o_samples o_takenMany o_ahead o_textLong o_outMany o_items o_matches o_textMany o_sampleLong o_sampleByte o_pieceLong o_bytesOf o_dictionary o_row o_cost o_leastD p1 ((-1) : Int32) ((-1) : Int32) _ h) (cwV 3 X.2.2.2.2.1 gX7_best_X7_sizeOf rfl rfl rfl cd_X7_sizeOf ⟨by decide, by decide⟩) (wr := [(a_o_idOf, .inl (cy 1, 6, .inl o_idOf))]) (ws2 := fun u => [(a_o, .inr (10, [.int 0, .ref a_o_tape, .int o_taped, .int o_samples, .ref a_o_sampleLong, .ref a_o_sampleByte, .ref a_o_idOf, .ref a_o_pieces, .ref a_o_pieceLong, .ref a_o_bytesOf, .ref a_o_dictionary, .ref a_o_covered, .ref a_o_taken, .int o_takenMany, .ref a_o_row, .int u.1, .int u.2.1, .ref a_o_cost, .ref a_o_leastD, .ref a_o_out, .int o_outMany, .int o_items, .int o_matches, .ref a_o_text, .int o_textMany])), (a_o_sampleLong, .inl (cy 1, 8, .inl o_sampleLong)), (a_o_sampleByte, .inl (cy 1, 320, .inl o_sampleByte)), (a_o_idOf, .inl (cy 1, 6, .inl o_idOf)), (a_o_pieceLong, .inl (cy 1, 480, .inl o_pieceLong)), (a_o_bytesOf, .inl (cy 1, 6, .inl o_bytesOf)), (a_o_dictionary, .inl (cy 1, 480, .inl o_dictionary)), (a_o_row, .inl (cy 1, 280, .inl u.2.2.1)), (a_o_cost, .inl (cy 1, 201, .inl u.2.2.2.1)), (a_o_leastD, .inl (cy 1, 2010, .inl u.2.2.2.2))]) (perm_ix 10 [0, 1, 2, 4, 5, 6, 7, 8, 9, 3] rfl (by decide +kernel) rfl) (fun u => perm_ix 10 [0, 1, 2, 9, 3, 4, 5, 6, 7, 8] rfl (by decide +kernel) rfl) rfl rfl rfl rfl (Nat.le_of_ble_eq_true rfl) dX7_best_30 ⟨by decide, by decide⟩ (fun r3 u h => ?_)
    obtain ⟨s4, s5, s6, s7, s8⟩ := u
    refine go_istore_n X (lv' := [(3, .int r3), (2, .int (-1)), (0, .ref a_o), (1, .int p1)]) dX7_best_33 rfl (by decide) rfl ?_
    refine go_iconst X (v := 0) dX7_best_34 (by decide) ?_
    refine go_istore X (lv' := [(4, .int 0), (3, .int r3), (2, .int (-1)), (0, .ref a_o), (1, .int p1)]) dX7_best_35 (by decide) rfl ?_
    obtain ⟨n32, h⟩ := h
    refine go_lv [3, 4, 2, 1, 0] rfl ?_
    refine pX7_best_37 l X a_o a_o_tape a_o_sampleLong a_o_sampleByte a_o_idOf a_o_pieces a_o_pieceLong a_o_bytesOf a_o_dictionary a_o_covered a_o_taken a_o_row a_o_cost a_o_leastD a_o_out a_o_text 0 o_taped o_samples o_takenMany o_outMany o_items o_matches o_textMany o_sampleLong o_sampleByte o_idOf o_pieceLong o_bytesOf o_dictionary p1  _ (fun s9 s10 s11 s12 s13 y14 y15 y16 h => ?_) n32 s4 s5 s6 s7 s8 ((-1) : Int32) r3 (0 : Int32) h
    refine go_iload_n X dX7_best_99 0 rfl rfl ?_
    exact hR y14 (0, s9, s10, s11, s12, s13) 100 _ dX7_best_100 rfl h
  · replace h := h.2 c2
    refine go_bipush X (v := (-101)) dX7_best_21 (by decide) ?_
    exact hR (-101) (0, o_ahead, o_textLong, o_row, o_cost, o_leastD) 23 _ dX7_best_23 rfl h
/-! X7_share -/
theorem fi_X7_share_X7 : ∀ w ∈ u_ws RX7 TX7 25, w ∈ wsX7_share := by decide +kernel
theorem fl_X7_share_60 : Cond.fieldLink RX7 60 (TX7 0).1 (TX7 0).2.1 (TX7 0).2.2.1 ∈ wsX7_share := by decide +kernel
theorem fl_X7_share_71 : Cond.fieldLink RX7 71 (TX7 3).1 (TX7 3).2.1 (TX7 3).2.2.1 ∈ wsX7_share := by decide +kernel
def rm_X7_share : Room := { frames := 4, cells := 0, slots := 0, locals := 96 }
theorem cd_X7_share : yX7_share.cls = RX7 ∧ yX7_share.cls ≠ "java/lang/invoke/MethodHandle" ∧ yX7_share.cls ≠ "java/lang/invoke/VarHandle" ∧ (parseMethodDescriptor yX7_share.desc).map (fun d => d.parameters.length) = some 1 := by decide +kernel
set_option maxRecDepth 100000 in
set_option maxHeartbeats 4000000 in
theorem kX7_share (l : Launch) (D : va_G) (cy : Nat → ClassId) (a_o : Nat) (a_o_tape : Nat) (a_o_sampleLong : Nat) (a_o_sampleByte : Nat) (a_o_idOf : Nat) (a_o_pieces : Nat) (a_o_pieceLong : Nat) (a_o_bytesOf : Nat) (a_o_dictionary : Nat) (a_o_covered : Nat) (a_o_taken : Nat) (a_o_row : Nat) (a_o_cost : Nat) (a_o_leastD : Nat) (a_o_out : Nat) (a_o_text : Nat) (o_thrown : Int32) (o_taped : Int32) (o_samples : Int32) (o_takenMany : Int32) (o_ahead : Int32) (o_textLong : Int32) (o_outMany : Int32) (o_items : Int32) (o_matches : Int32) (o_textMany : Int32) (o_sampleLong : Nat → Int32) (o_sampleByte : Nat → Int32) (o_idOf : Nat → Int32) (o_pieceLong : Nat → Int32) (o_bytesOf : Nat → Int32) (o_dictionary : Nat → Int32) (o_row : Nat → Int32) (o_cost : Nat → Int32) (o_leastD : Nat → Int32) (p1 : Int32) (post : Int32 → Int32 → Int32 → Int32 → (Nat → Int32) → (Nat → Int32) → (Nat → Int32) → Prop) (h : wX7_share o_samples o_ahead o_textLong o_sampleLong o_sampleByte o_idOf o_pieceLong o_bytesOf o_dictionary o_row o_cost o_leastD p1 post) : MetI l yX7_share wsX7_share rm_X7_share D (tyL cy) [.ref a_o, .int p1] [(a_o, .inr (10, [.int o_thrown, .ref a_o_tape, .int o_taped, .int o_samples, .ref a_o_sampleLong, .ref a_o_sampleByte, .ref a_o_idOf, .ref a_o_pieces, .ref a_o_pieceLong, .ref a_o_bytesOf, .ref a_o_dictionary, .ref a_o_covered, .ref a_o_taken, .int o_takenMany, .ref a_o_row, .int o_ahead, .int o_textLong, .ref a_o_cost, .ref a_o_leastD, .ref a_o_out, .int o_outMany, .int o_items, .int o_matches, .ref a_o_text, .int o_textMany])), (a_o_sampleLong, .inl (cy 1, 8, .inl o_sampleLong)), (a_o_sampleByte, .inl (cy 1, 320, .inl o_sampleByte)), (a_o_idOf, .inl (cy 1, 6, .inl o_idOf)), (a_o_pieceLong, .inl (cy 1, 480, .inl o_pieceLong)), (a_o_bytesOf, .inl (cy 1, 6, .inl o_bytesOf)), (a_o_dictionary, .inl (cy 1, 480, .inl o_dictionary)), (a_o_row, .inl (cy 1, 280, .inl o_row)), (a_o_cost, .inl (cy 1, 201, .inl o_cost)), (a_o_leastD, .inl (cy 1, 2010, .inl o_leastD))] (fun u : Int32 × Int32 × Int32 × (Nat → Int32) × (Nat → Int32) × (Nat → Int32) => [(a_o, .inr (10, [.int u.1, .ref a_o_tape, .int o_taped, .int o_samples, .ref a_o_sampleLong, .ref a_o_sampleByte, .ref a_o_idOf, .ref a_o_pieces, .ref a_o_pieceLong, .ref a_o_bytesOf, .ref a_o_dictionary, .ref a_o_covered, .ref a_o_taken, .int o_takenMany, .ref a_o_row, .int u.2.1, .int u.2.2.1, .ref a_o_cost, .ref a_o_leastD, .ref a_o_out, .int o_outMany, .int o_items, .int o_matches, .ref a_o_text, .int o_textMany])), (a_o_sampleLong, .inl (cy 1, 8, .inl o_sampleLong)), (a_o_sampleByte, .inl (cy 1, 320, .inl o_sampleByte)), (a_o_idOf, .inl (cy 1, 6, .inl o_idOf)), (a_o_pieceLong, .inl (cy 1, 480, .inl o_pieceLong)), (a_o_bytesOf, .inl (cy 1, 6, .inl o_bytesOf)), (a_o_dictionary, .inl (cy 1, 480, .inl o_dictionary)), (a_o_row, .inl (cy 1, 280, .inl u.2.2.2.1)), (a_o_cost, .inl (cy 1, 201, .inl u.2.2.2.2.1)), (a_o_leastD, .inl (cy 1, 2010, .inl u.2.2.2.2.2))]) (fun r => fun (u : Int32 × Int32 × Int32 × (Nat → Int32) × (Nat → Int32) × (Nat → Int32)) => post r u.1 u.2.1 u.2.2.1 u.2.2.2.1 u.2.2.2.2.1 u.2.2.2.2.2) 0 0 := by
  refine metI_of (cc := cX7_share) (maxL := 3) (lv := [(0, .ref a_o), (1, .int p1)]) (by decide) rfl (Nat.le_of_ble_eq_true rfl) rfl ?_
  intro p e s m below meth c Q A X hlk hR
  unfold wX7_share at h
  refine go_aload_n X dX7_share_0 0 rfl rfl ?_
  refine go_iconst X (v := 0) dX7_share_1 (by decide) ?_
  refine go_put X (ws' := [(a_o, .inr (10, [.int 0, .ref a_o_tape, .int o_taped, .int o_samples, .ref a_o_sampleLong, .ref a_o_sampleByte, .ref a_o_idOf, .ref a_o_pieces, .ref a_o_pieceLong, .ref a_o_bytesOf, .ref a_o_dictionary, .ref a_o_covered, .ref a_o_taken, .int o_takenMany, .ref a_o_row, .int o_ahead, .int o_textLong, .ref a_o_cost, .ref a_o_leastD, .ref a_o_out, .int o_outMany, .int o_items, .int o_matches, .ref a_o_text, .int o_textMany])), (a_o_sampleLong, .inl (cy 1, 8, .inl o_sampleLong)), (a_o_sampleByte, .inl (cy 1, 320, .inl o_sampleByte)), (a_o_idOf, .inl (cy 1, 6, .inl o_idOf)), (a_o_pieceLong, .inl (cy 1, 480, .inl o_pieceLong)), (a_o_bytesOf, .inl (cy 1, 6, .inl o_bytesOf)), (a_o_dictionary, .inl (cy 1, 480, .inl o_dictionary)), (a_o_row, .inl (cy 1, 280, .inl o_row)), (a_o_cost, .inl (cy 1, 201, .inl o_cost)), (a_o_leastD, .inl (cy 1, 2010, .inl o_leastD))]) fi_X7_share_X7 tyX7 tyX7_ok nmX7 0 rfl rfl 0 (by decide) fl_X7_share_60 rfl (tyX7_ok 0 (by decide)) rfl rfl (Nat.le_of_ble_eq_true rfl) rfl dX7_share_2 ?_
  refine go_aload_n X dX7_share_5 0 rfl rfl ?_
  refine go_iload_n X dX7_share_6 1 rfl rfl ?_
  refine go_callVi X (kX7_isThere l D cy a_o a_o_tape a_o_sampleLong a_o_sampleByte a_o_idOf a_o_pieces a_o_pieceLong a_o_bytesOf a_o_dictionary a_o_covered a_o_taken a_o_row a_o_cost a_o_leastD a_o_out a_o_text 0 o_taped o_samples o_takenMany o_ahead o_textLong o_outMany o_items o_matches o_textMany o_idOf p1 _ h) (cwV 1 X.2.2.2.2.1 gX7_share_X7_isThere rfl rfl rfl cd_X7_isThere ⟨by decide, by decide⟩) (wr := [(a_o_sampleLong, .inl (cy 1, 8, .inl o_sampleLong)), (a_o_sampleByte, .inl (cy 1, 320, .inl o_sampleByte)), (a_o_pieceLong, .inl (cy 1, 480, .inl o_pieceLong)), (a_o_bytesOf, .inl (cy 1, 6, .inl o_bytesOf)), (a_o_dictionary, .inl (cy 1, 480, .inl o_dictionary)), (a_o_row, .inl (cy 1, 280, .inl o_row)), (a_o_cost, .inl (cy 1, 201, .inl o_cost)), (a_o_leastD, .inl (cy 1, 2010, .inl o_leastD))]) (ws2 := fun u => [(a_o, .inr (10, [.int 0, .ref a_o_tape, .int o_taped, .int o_samples, .ref a_o_sampleLong, .ref a_o_sampleByte, .ref a_o_idOf, .ref a_o_pieces, .ref a_o_pieceLong, .ref a_o_bytesOf, .ref a_o_dictionary, .ref a_o_covered, .ref a_o_taken, .int o_takenMany, .ref a_o_row, .int o_ahead, .int o_textLong, .ref a_o_cost, .ref a_o_leastD, .ref a_o_out, .int o_outMany, .int o_items, .int o_matches, .ref a_o_text, .int o_textMany])), (a_o_sampleLong, .inl (cy 1, 8, .inl o_sampleLong)), (a_o_sampleByte, .inl (cy 1, 320, .inl o_sampleByte)), (a_o_idOf, .inl (cy 1, 6, .inl o_idOf)), (a_o_pieceLong, .inl (cy 1, 480, .inl o_pieceLong)), (a_o_bytesOf, .inl (cy 1, 6, .inl o_bytesOf)), (a_o_dictionary, .inl (cy 1, 480, .inl o_dictionary)), (a_o_row, .inl (cy 1, 280, .inl o_row)), (a_o_cost, .inl (cy 1, 201, .inl o_cost)), (a_o_leastD, .inl (cy 1, 2010, .inl o_leastD))]) (perm_ix 10 [0, 3, 1, 2, 4, 5, 6, 7, 8, 9] rfl (by decide +kernel) rfl) (fun u => perm_ix 10 [0, 2, 3, 1, 4, 5, 6, 7, 8, 9] rfl (by decide +kernel) rfl) rfl rfl rfl rfl (Nat.le_of_ble_eq_true rfl) dX7_share_7 ⟨by decide, by decide⟩ (fun r1 u h => ?_)
  refine go_if_ne X 16 dX7_share_10 (by decide) (fun c2 => ?_) (fun c2 => ?_)
  · replace h := h.1 c2
    refine go_aload_n X dX7_share_16 0 rfl rfl ?_
    refine go_aload_n X dX7_share_17 0 rfl rfl ?_
    refine go_get X fi_X7_share_X7 0 rfl rfl 3 (by decide) fl_X7_share_71 rfl dX7_share_18 ?_
    refine go_if_ne X 28 dX7_share_21 (by decide) (fun c3 => ?_) (fun c3 => ?_)
    · replace h := h.1 c3
      refine go_iconst X (v := 0) dX7_share_28 (by decide) ?_
      refine go_put X (ws' := [(a_o, .inr (10, [.int 0, .ref a_o_tape, .int o_taped, .int o_samples, .ref a_o_sampleLong, .ref a_o_sampleByte, .ref a_o_idOf, .ref a_o_pieces, .ref a_o_pieceLong, .ref a_o_bytesOf, .ref a_o_dictionary, .ref a_o_covered, .ref a_o_taken, .int o_takenMany, .ref a_o_row, .int o_ahead, .int o_textLong, .ref a_o_cost, .ref a_o_leastD, .ref a_o_out, .int o_outMany, .int o_items, .int o_matches, .ref a_o_text, .int o_textMany])), (a_o_sampleLong, .inl (cy 1, 8, .inl o_sampleLong)), (a_o_sampleByte, .inl (cy 1, 320, .inl o_sampleByte)), (a_o_idOf, .inl (cy 1, 6, .inl o_idOf)), (a_o_pieceLong, .inl (cy 1, 480, .inl o_pieceLong)), (a_o_bytesOf, .inl (cy 1, 6, .inl o_bytesOf)), (a_o_dictionary, .inl (cy 1, 480, .inl o_dictionary)), (a_o_row, .inl (cy 1, 280, .inl o_row)), (a_o_cost, .inl (cy 1, 201, .inl o_cost)), (a_o_leastD, .inl (cy 1, 2010, .inl o_leastD))]) fi_X7_share_X7 tyX7 tyX7_ok nmX7 0 rfl rfl 0 (by decide) fl_X7_share_60 rfl (tyX7_ok 0 (by decide)) rfl rfl (Nat.le_of_ble_eq_true rfl) rfl dX7_share_29 ?_
      refine go_aload_n X dX7_share_32 0 rfl rfl ?_
      refine go_get X fi_X7_share_X7 0 rfl rfl 0 (by decide) fl_X7_share_60 rfl dX7_share_33 ?_
      refine go_if_le X 41 dX7_share_36 (by decide) (fun _ => ?_) (fun c0 => absurd c0 (by decide))
      refine go_aload_n X dX7_share_41 0 rfl rfl ?_
      refine go_iconst X (v := (-1)) dX7_share_42 (by decide) ?_
      refine go_iconst X (v := (-1)) dX7_share_43 (by decide) ?_
      refine go_callVi X (kX7_sizeOfAll l D cy a_o a_o_tape a_o_sampleLong a_o_sampleByte a_o_idOf a_o_pieces a_o_pieceLong a_o_bytesOf a_o_dictionary a_o_covered a_o_taken a_o_row a_o_cost a_o_leastD a_o_out a_o_text 0 o_taped o_samples o_takenMany o_ahead o_textLong o_outMany o_items o_matches o_textMany o_sampleLong o_sampleByte o_pieceLong o_bytesOf o_dictionary o_row o_cost o_leastD ((-1) : Int32) ((-1) : Int32) _ h) (cwV 2 X.2.2.2.2.1 gX7_share_X7_sizeOfAll rfl rfl rfl cd_X7_sizeOfAll ⟨by decide, by decide⟩) (wr := [(a_o_idOf, .inl (cy 1, 6, .inl o_idOf))]) (ws2 := fun u => [(a_o, .inr (10, [.int 0, .ref a_o_tape, .int o_taped, .int o_samples, .ref a_o_sampleLong, .ref a_o_sampleByte, .ref a_o_idOf, .ref a_o_pieces, .ref a_o_pieceLong, .ref a_o_bytesOf, .ref a_o_dictionary, .ref a_o_covered, .ref a_o_taken, .int o_takenMany, .ref a_o_row, .int u.1, .int u.2.1, .ref a_o_cost, .ref a_o_leastD, .ref a_o_out, .int o_outMany, .int o_items, .int o_matches, .ref a_o_text, .int o_textMany])), (a_o_sampleLong, .inl (cy 1, 8, .inl o_sampleLong)), (a_o_sampleByte, .inl (cy 1, 320, .inl o_sampleByte)), (a_o_idOf, .inl (cy 1, 6, .inl o_idOf)), (a_o_pieceLong, .inl (cy 1, 480, .inl o_pieceLong)), (a_o_bytesOf, .inl (cy 1, 6, .inl o_bytesOf)), (a_o_dictionary, .inl (cy 1, 480, .inl o_dictionary)), (a_o_row, .inl (cy 1, 280, .inl u.2.2.1)), (a_o_cost, .inl (cy 1, 201, .inl u.2.2.2.1)), (a_o_leastD, .inl (cy 1, 2010, .inl u.2.2.2.2))]) (perm_ix 10 [0, 1, 2, 4, 5, 6, 7, 8, 9, 3] rfl (by decide +kernel) rfl) (fun u => perm_ix 10 [0, 1, 2, 9, 3, 4, 5, 6, 7, 8] rfl (by decide +kernel) rfl) rfl rfl rfl rfl (Nat.le_of_ble_eq_true rfl) dX7_share_44 ⟨by decide, by decide⟩ (fun r4 u h => ?_)
      obtain ⟨s5, s6, s7, s8, s9⟩ := u
      refine go_istore_n X (lv' := [(2, .int r4), (0, .ref a_o), (1, .int p1)]) dX7_share_47 rfl (by decide) rfl ?_
      refine go_iload_n X dX7_share_48 0 rfl rfl ?_
      refine go_aload_n X dX7_share_49 1 rfl rfl ?_
      refine go_iload_n X dX7_share_50 2 rfl rfl ?_
      refine go_iconst X (v := (-1)) dX7_share_51 (by decide) ?_
      refine go_callVi X (kX7_sizeOfAll l D cy a_o a_o_tape a_o_sampleLong a_o_sampleByte a_o_idOf a_o_pieces a_o_pieceLong a_o_bytesOf a_o_dictionary a_o_covered a_o_taken a_o_row a_o_cost a_o_leastD a_o_out a_o_text 0 o_taped o_samples o_takenMany s5 s6 o_outMany o_items o_matches o_textMany o_sampleLong o_sampleByte o_pieceLong o_bytesOf o_dictionary s7 s8 s9 p1 ((-1) : Int32) _ h) (cwV 2 X.2.2.2.2.1 gX7_share_X7_sizeOfAll rfl rfl rfl cd_X7_sizeOfAll ⟨by decide, by decide⟩) (wr := [(a_o_idOf, .inl (cy 1, 6, .inl o_idOf))]) (ws2 := fun u => [(a_o, .inr (10, [.int 0, .ref a_o_tape, .int o_taped, .int o_samples, .ref a_o_sampleLong, .ref a_o_sampleByte, .ref a_o_idOf, .ref a_o_pieces, .ref a_o_pieceLong, .ref a_o_bytesOf, .ref a_o_dictionary, .ref a_o_covered, .ref a_o_taken, .int o_takenMany, .ref a_o_row, .int u.1, .int u.2.1, .ref a_o_cost, .ref a_o_leastD, .ref a_o_out, .int o_outMany, .int o_items, .int o_matches, .ref a_o_text, .int o_textMany])), (a_o_sampleLong, .inl (cy 1, 8, .inl o_sampleLong)), (a_o_sampleByte, .inl (cy 1, 320, .inl o_sampleByte)), (a_o_idOf, .inl (cy 1, 6, .inl o_idOf)), (a_o_pieceLong, .inl (cy 1, 480, .inl o_pieceLong)), (a_o_bytesOf, .inl (cy 1, 6, .inl o_bytesOf)), (a_o_dictionary, .inl (cy 1, 480, .inl o_dictionary)), (a_o_row, .inl (cy 1, 280, .inl u.2.2.1)), (a_o_cost, .inl (cy 1, 201, .inl u.2.2.2.1)), (a_o_leastD, .inl (cy 1, 2010, .inl u.2.2.2.2))]) (perm_ix 10 [0, 1, 2, 4, 5, 6, 7, 8, 9, 3] rfl (by decide +kernel) rfl) (fun u => perm_ix 10 [0, 1, 2, 9, 3, 4, 5, 6, 7, 8] rfl (by decide +kernel) rfl) rfl rfl rfl rfl (Nat.le_of_ble_eq_true rfl) dX7_share_52 ⟨by decide, by decide⟩ (fun r10 u h => ?_)
      obtain ⟨s11, s12, s13, s14, s15⟩ := u
      refine go_isub X dX7_share_55 ?_
      refine go_sipush X (v := 1000) dX7_share_56 (by decide) ?_
      refine go_imul X dX7_share_59 ?_
      refine go_iload_n X dX7_share_60 0 rfl rfl ?_
      obtain ⟨c16, h⟩ := h
      refine go_idiv X dX7_share_61 c16 ?_
      exact hR (((r4 - r10) * 1000) / r4) (0, s11, s12, s13, s14, s15) 62 _ dX7_share_62 rfl h
    · replace h := h.2 c3
      refine go_iconst X (v := 1) dX7_share_24 (by decide) ?_
      refine go_goto X 29 dX7_share_25 (by decide) ?_
      refine go_put X (ws' := [(a_o, .inr (10, [.int 1, .ref a_o_tape, .int o_taped, .int o_samples, .ref a_o_sampleLong, .ref a_o_sampleByte, .ref a_o_idOf, .ref a_o_pieces, .ref a_o_pieceLong, .ref a_o_bytesOf, .ref a_o_dictionary, .ref a_o_covered, .ref a_o_taken, .int o_takenMany, .ref a_o_row, .int o_ahead, .int o_textLong, .ref a_o_cost, .ref a_o_leastD, .ref a_o_out, .int o_outMany, .int o_items, .int o_matches, .ref a_o_text, .int o_textMany])), (a_o_sampleLong, .inl (cy 1, 8, .inl o_sampleLong)), (a_o_sampleByte, .inl (cy 1, 320, .inl o_sampleByte)), (a_o_idOf, .inl (cy 1, 6, .inl o_idOf)), (a_o_pieceLong, .inl (cy 1, 480, .inl o_pieceLong)), (a_o_bytesOf, .inl (cy 1, 6, .inl o_bytesOf)), (a_o_dictionary, .inl (cy 1, 480, .inl o_dictionary)), (a_o_row, .inl (cy 1, 280, .inl o_row)), (a_o_cost, .inl (cy 1, 201, .inl o_cost)), (a_o_leastD, .inl (cy 1, 2010, .inl o_leastD))]) fi_X7_share_X7 tyX7 tyX7_ok nmX7 0 rfl rfl 0 (by decide) fl_X7_share_60 rfl (tyX7_ok 0 (by decide)) rfl rfl (Nat.le_of_ble_eq_true rfl) rfl dX7_share_29 ?_
      refine go_aload_n X dX7_share_32 0 rfl rfl ?_
      refine go_get X fi_X7_share_X7 0 rfl rfl 0 (by decide) fl_X7_share_60 rfl dX7_share_33 ?_
      refine go_if_le X 41 dX7_share_36 (by decide) (fun c0 => absurd c0 (by decide)) (fun _ => ?_)
      refine go_iconst X (v := 0) dX7_share_39 (by decide) ?_
      exact hR 0 (1, o_ahead, o_textLong, o_row, o_cost, o_leastD) 40 _ dX7_share_40 rfl h
  · replace h := h.2 c2
    refine go_bipush X (v := (-101)) dX7_share_13 (by decide) ?_
    exact hR (-101) (0, o_ahead, o_textLong, o_row, o_cost, o_leastD) 15 _ dX7_share_15 rfl h
/-! X7_about -/
theorem fi_X7_about_X7 : ∀ w ∈ u_ws RX7 TX7 25, w ∈ wsX7_about := by decide +kernel
theorem fl_X7_about_60 : Cond.fieldLink RX7 60 (TX7 0).1 (TX7 0).2.1 (TX7 0).2.2.1 ∈ wsX7_about := by decide +kernel
theorem fl_X7_about_19 : Cond.fieldLink RX7 19 (TX7 6).1 (TX7 6).2.1 (TX7 6).2.2.1 ∈ wsX7_about := by decide +kernel
theorem fl_X7_about_56 : Cond.fieldLink RX7 56 (TX7 2).1 (TX7 2).2.1 (TX7 2).2.2.1 ∈ wsX7_about := by decide +kernel
theorem fl_X7_about_71 : Cond.fieldLink RX7 71 (TX7 3).1 (TX7 3).2.1 (TX7 3).2.2.1 ∈ wsX7_about := by decide +kernel
theorem fl_X7_about_141 : Cond.fieldLink RX7 141 (TX7 20).1 (TX7 20).2.1 (TX7 20).2.2.1 ∈ wsX7_about := by decide +kernel
theorem fl_X7_about_162 : Cond.fieldLink RX7 162 (TX7 24).1 (TX7 24).2.1 (TX7 24).2.2.1 ∈ wsX7_about := by decide +kernel
theorem fl_X7_about_150 : Cond.fieldLink RX7 150 (TX7 21).1 (TX7 21).2.1 (TX7 21).2.2.1 ∈ wsX7_about := by decide +kernel
theorem fl_X7_about_147 : Cond.fieldLink RX7 147 (TX7 22).1 (TX7 22).2.1 (TX7 22).2.2.1 ∈ wsX7_about := by decide +kernel
def rm_X7_about : Room := { frames := 0, cells := 0, slots := 0, locals := 0 }
theorem cd_X7_about : yX7_about.cls = RX7 ∧ yX7_about.cls ≠ "java/lang/invoke/MethodHandle" ∧ yX7_about.cls ≠ "java/lang/invoke/VarHandle" ∧ (parseMethodDescriptor yX7_about.desc).map (fun d => d.parameters.length) = some 1 := by decide +kernel
set_option maxRecDepth 100000 in
set_option maxHeartbeats 4000000 in
theorem pX7_about_9 {p : Program} (l : Launch) {e : Env} {s : State} {m : MethodId} {args : Array Value} {below : List Frame} {meth : Method} {c : Code} {Q : State → Prop} {D : va_G} {cy : Nat → ClassId} {A : Nat → Prop} (X : Cx p s m args c cX7_about 4 RX7 wsX7_about D (tyL cy) A) (a_o : Nat) (a_o_tape : Nat) (a_o_sampleLong : Nat) (a_o_sampleByte : Nat) (a_o_idOf : Nat) (a_o_pieces : Nat) (a_o_pieceLong : Nat) (a_o_bytesOf : Nat) (a_o_dictionary : Nat) (a_o_covered : Nat) (a_o_taken : Nat) (a_o_row : Nat) (a_o_cost : Nat) (a_o_leastD : Nat) (a_o_out : Nat) (a_o_text : Nat) (o_thrown : Int32) (o_taped : Int32) (o_samples : Int32) (o_takenMany : Int32) (o_ahead : Int32) (o_textLong : Int32) (o_outMany : Int32) (o_items : Int32) (o_matches : Int32) (o_textMany : Int32) (o_idOf : Nat → Int32) (v1 : Int32) (K : Int32 → Int32 → Prop) (hK : ∀ (v2 : Int32) (v3 : Int32), K v2 v3 → Go p l e rm_X7_about s m args below meth c Q 4 D A [(a_o, .inr (10, [.int o_thrown, .ref a_o_tape, .int o_taped, .int o_samples, .ref a_o_sampleLong, .ref a_o_sampleByte, .ref a_o_idOf, .ref a_o_pieces, .ref a_o_pieceLong, .ref a_o_bytesOf, .ref a_o_dictionary, .ref a_o_covered, .ref a_o_taken, .int o_takenMany, .ref a_o_row, .int o_ahead, .int o_textLong, .ref a_o_cost, .ref a_o_leastD, .ref a_o_out, .int o_outMany, .int o_items, .int o_matches, .ref a_o_text, .int o_textMany])), (a_o_idOf, .inl (cy 1, 6, .inl o_idOf))] 0 0 38 [(0, .ref a_o), (1, .int v1), (2, .int v2)] []) :
    ∀ (n : Nat) (v2 : Int32) (v3 : Int32), wX7_about_9 o_idOf K n v2 v3 → Go p l e rm_X7_about s m args below meth c Q 4 D A [(a_o, .inr (10, [.int o_thrown, .ref a_o_tape, .int o_taped, .int o_samples, .ref a_o_sampleLong, .ref a_o_sampleByte, .ref a_o_idOf, .ref a_o_pieces, .ref a_o_pieceLong, .ref a_o_bytesOf, .ref a_o_dictionary, .ref a_o_covered, .ref a_o_taken, .int o_takenMany, .ref a_o_row, .int o_ahead, .int o_textLong, .ref a_o_cost, .ref a_o_leastD, .ref a_o_out, .int o_outMany, .int o_items, .int o_matches, .ref a_o_text, .int o_textMany])), (a_o_idOf, .inl (cy 1, 6, .inl o_idOf))] 0 0 9 [(0, .ref a_o), (1, .int v1), (2, .int v2), (3, .int v3)] [] := by
  intro n
  induction n with
  | zero => intro v2 v3 h; exact absurd h id
  | succ n ih =>
    intro v2 v3 h
    refine go_iload_n X dX7_about_9 3 rfl rfl ?_
    refine go_bipush X (v := 6) dX7_about_10 (by decide) ?_
    refine go_icmp_ge X 38 dX7_about_12 (by decide) (fun c3 => ?_) (fun c3 => ?_)
    · replace h := h.1 c3
      refine go_lv [0, 1, 2] rfl ?_
      exact hK v2 v3 h
    · replace h := h.2 c3
      refine go_iload_n X dX7_about_15 2 rfl rfl ?_
      refine go_aload_n X dX7_about_16 0 rfl rfl ?_
      refine go_get X fi_X7_about_X7 0 rfl rfl 6 (by decide) fl_X7_about_19 rfl dX7_about_17 ?_
      refine go_iload_n X dX7_about_20 3 rfl rfl ?_
      obtain ⟨c4, h⟩ := h
      refine go_iald X 1 1 rfl rfl c4 dX7_about_21 ?_
      refine go_if_le X 29 dX7_about_22 (by decide) (fun c5 => ?_) (fun c5 => ?_)
      · replace h := h.1 c5
        refine go_iconst X (v := 0) dX7_about_29 (by decide) ?_
        refine go_iadd X dX7_about_30 ?_
        refine go_topi (fun y6 ey6 => ?_)
        replace h := h y6 ey6
        refine go_istore_n X (lv' := [(2, .int y6), (0, .ref a_o), (1, .int v1), (3, .int v3)]) dX7_about_31 rfl (by decide) rfl ?_
        obtain ⟨y7, ey7⟩ : ∃ z : Int32, z = v3 + 1 := ⟨_, rfl⟩
        replace h := h y7 ey7
        refine go_iinc X (lv' := [(3, .int y7), (2, .int y6), (0, .ref a_o), (1, .int v1)]) y7 dX7_about_32 3 rfl (by rw [ey7]; rfl) (by decide) rfl ?_
        refine go_goto X 9 dX7_about_35 (by decide) ?_
        refine go_lv [2, 3, 1, 0] rfl ?_
        exact ih y6 y7 h
      · replace h := h.2 c5
        refine go_iconst X (v := 1) dX7_about_25 (by decide) ?_
        refine go_goto X 30 dX7_about_26 (by decide) ?_
        refine go_iadd X dX7_about_30 ?_
        refine go_topi (fun y8 ey8 => ?_)
        replace h := h y8 ey8
        refine go_istore_n X (lv' := [(2, .int y8), (0, .ref a_o), (1, .int v1), (3, .int v3)]) dX7_about_31 rfl (by decide) rfl ?_
        obtain ⟨y9, ey9⟩ : ∃ z : Int32, z = v3 + 1 := ⟨_, rfl⟩
        replace h := h y9 ey9
        refine go_iinc X (lv' := [(3, .int y9), (2, .int y8), (0, .ref a_o), (1, .int v1)]) y9 dX7_about_32 3 rfl (by rw [ey9]; rfl) (by decide) rfl ?_
        refine go_goto X 9 dX7_about_35 (by decide) ?_
        refine go_lv [2, 3, 1, 0] rfl ?_
        exact ih y8 y9 h
set_option maxRecDepth 100000 in
set_option maxHeartbeats 4000000 in
theorem kX7_about (l : Launch) (D : va_G) (cy : Nat → ClassId) (a_o : Nat) (a_o_tape : Nat) (a_o_sampleLong : Nat) (a_o_sampleByte : Nat) (a_o_idOf : Nat) (a_o_pieces : Nat) (a_o_pieceLong : Nat) (a_o_bytesOf : Nat) (a_o_dictionary : Nat) (a_o_covered : Nat) (a_o_taken : Nat) (a_o_row : Nat) (a_o_cost : Nat) (a_o_leastD : Nat) (a_o_out : Nat) (a_o_text : Nat) (o_thrown : Int32) (o_taped : Int32) (o_samples : Int32) (o_takenMany : Int32) (o_ahead : Int32) (o_textLong : Int32) (o_outMany : Int32) (o_items : Int32) (o_matches : Int32) (o_textMany : Int32) (o_idOf : Nat → Int32) (p1 : Int32) (post : Int32 → Int32 → Prop) (h : wX7_about o_taped o_samples o_outMany o_items o_matches o_textMany o_idOf p1 post) : MetI l yX7_about wsX7_about rm_X7_about D (tyL cy) [.ref a_o, .int p1] [(a_o, .inr (10, [.int o_thrown, .ref a_o_tape, .int o_taped, .int o_samples, .ref a_o_sampleLong, .ref a_o_sampleByte, .ref a_o_idOf, .ref a_o_pieces, .ref a_o_pieceLong, .ref a_o_bytesOf, .ref a_o_dictionary, .ref a_o_covered, .ref a_o_taken, .int o_takenMany, .ref a_o_row, .int o_ahead, .int o_textLong, .ref a_o_cost, .ref a_o_leastD, .ref a_o_out, .int o_outMany, .int o_items, .int o_matches, .ref a_o_text, .int o_textMany])), (a_o_idOf, .inl (cy 1, 6, .inl o_idOf))] (fun u : Int32 => [(a_o, .inr (10, [.int u, .ref a_o_tape, .int o_taped, .int o_samples, .ref a_o_sampleLong, .ref a_o_sampleByte, .ref a_o_idOf, .ref a_o_pieces, .ref a_o_pieceLong, .ref a_o_bytesOf, .ref a_o_dictionary, .ref a_o_covered, .ref a_o_taken, .int o_takenMany, .ref a_o_row, .int o_ahead, .int o_textLong, .ref a_o_cost, .ref a_o_leastD, .ref a_o_out, .int o_outMany, .int o_items, .int o_matches, .ref a_o_text, .int o_textMany])), (a_o_idOf, .inl (cy 1, 6, .inl o_idOf))]) (fun r => fun (u : Int32) => post r u) 0 0 := by
  refine metI_of (cc := cX7_about) (maxL := 4) (lv := [(0, .ref a_o), (1, .int p1)]) (by decide) rfl (Nat.le_of_ble_eq_true rfl) rfl ?_
  intro p e s m below meth c Q A X hlk hR
  unfold wX7_about at h
  refine go_aload_n X dX7_about_0 0 rfl rfl ?_
  refine go_iconst X (v := 0) dX7_about_1 (by decide) ?_
  refine go_put X (ws' := [(a_o, .inr (10, [.int 0, .ref a_o_tape, .int o_taped, .int o_samples, .ref a_o_sampleLong, .ref a_o_sampleByte, .ref a_o_idOf, .ref a_o_pieces, .ref a_o_pieceLong, .ref a_o_bytesOf, .ref a_o_dictionary, .ref a_o_covered, .ref a_o_taken, .int o_takenMany, .ref a_o_row, .int o_ahead, .int o_textLong, .ref a_o_cost, .ref a_o_leastD, .ref a_o_out, .int o_outMany, .int o_items, .int o_matches, .ref a_o_text, .int o_textMany])), (a_o_idOf, .inl (cy 1, 6, .inl o_idOf))]) fi_X7_about_X7 tyX7 tyX7_ok nmX7 0 rfl rfl 0 (by decide) fl_X7_about_60 rfl (tyX7_ok 0 (by decide)) rfl rfl (Nat.le_of_ble_eq_true rfl) rfl dX7_about_2 ?_
  refine go_iconst X (v := 0) dX7_about_5 (by decide) ?_
  refine go_istore_n X (lv' := [(2, .int 0), (0, .ref a_o), (1, .int p1)]) dX7_about_6 rfl (by decide) rfl ?_
  refine go_iconst X (v := 0) dX7_about_7 (by decide) ?_
  refine go_istore_n X (lv' := [(3, .int 0), (2, .int 0), (0, .ref a_o), (1, .int p1)]) dX7_about_8 rfl (by decide) rfl ?_
  obtain ⟨n10, h⟩ := h
  refine go_lv [2, 3, 1, 0] rfl ?_
  refine pX7_about_9 l X a_o a_o_tape a_o_sampleLong a_o_sampleByte a_o_idOf a_o_pieces a_o_pieceLong a_o_bytesOf a_o_dictionary a_o_covered a_o_taken a_o_row a_o_cost a_o_leastD a_o_out a_o_text 0 o_taped o_samples o_takenMany o_ahead o_textLong o_outMany o_items o_matches o_textMany o_idOf p1  _ (fun y1 y2 h => ?_) n10 (0 : Int32) (0 : Int32) h
  refine go_iload_n X dX7_about_38 1 rfl rfl ?_
  by_cases s39_0 : p1 = 0
  · replace h := h.1 s39_0
    refine go_top (x := .int p1) (y := .int 0) (congrArg Value.int s39_0) ?_
    refine go_tableIn (x := 0) (off := 41) X 80 dX7_about_39 (by decide) (by decide) (by decide) (by decide) ?_
    refine go_aload_n X dX7_about_80 0 rfl rfl ?_
    refine go_get X fi_X7_about_X7 0 rfl rfl 2 (by decide) fl_X7_about_56 rfl dX7_about_81 ?_
    exact hR o_taped 0 84 _ dX7_about_84 rfl h
  · replace h := h.2 s39_0
    by_cases s39_1 : p1 = 1
    · replace h := h.1 s39_1
      refine go_top (x := .int p1) (y := .int 1) (congrArg Value.int s39_1) ?_
      refine go_tableIn (x := 1) (off := 46) X 85 dX7_about_39 (by decide) (by decide) (by decide) (by decide) ?_
      refine go_aload_n X dX7_about_85 0 rfl rfl ?_
      refine go_get X fi_X7_about_X7 0 rfl rfl 3 (by decide) fl_X7_about_71 rfl dX7_about_86 ?_
      exact hR o_samples 0 89 _ dX7_about_89 rfl h
    · replace h := h.2 s39_1
      by_cases s39_2 : p1 = 2
      · replace h := h.1 s39_2
        refine go_top (x := .int p1) (y := .int 2) (congrArg Value.int s39_2) ?_
        refine go_tableIn (x := 2) (off := 51) X 90 dX7_about_39 (by decide) (by decide) (by decide) (by decide) ?_
        refine go_iload_n X dX7_about_90 2 rfl rfl ?_
        exact hR y1 0 91 _ dX7_about_91 rfl h
      · replace h := h.2 s39_2
        by_cases s39_3 : p1 = 3
        · replace h := h.1 s39_3
          refine go_top (x := .int p1) (y := .int 3) (congrArg Value.int s39_3) ?_
          refine go_tableIn (x := 3) (off := 53) X 92 dX7_about_39 (by decide) (by decide) (by decide) (by decide) ?_
          refine go_aload_n X dX7_about_92 0 rfl rfl ?_
          refine go_get X fi_X7_about_X7 0 rfl rfl 20 (by decide) fl_X7_about_141 rfl dX7_about_93 ?_
          exact hR o_outMany 0 96 _ dX7_about_96 rfl h
        · replace h := h.2 s39_3
          by_cases s39_4 : p1 = 4
          · replace h := h.1 s39_4
            refine go_top (x := .int p1) (y := .int 4) (congrArg Value.int s39_4) ?_
            refine go_tableIn (x := 4) (off := 58) X 97 dX7_about_39 (by decide) (by decide) (by decide) (by decide) ?_
            refine go_aload_n X dX7_about_97 0 rfl rfl ?_
            refine go_get X fi_X7_about_X7 0 rfl rfl 24 (by decide) fl_X7_about_162 rfl dX7_about_98 ?_
            exact hR o_textMany 0 101 _ dX7_about_101 rfl h
          · replace h := h.2 s39_4
            by_cases s39_5 : p1 = 5
            · replace h := h.1 s39_5
              refine go_top (x := .int p1) (y := .int 5) (congrArg Value.int s39_5) ?_
              refine go_tableIn (x := 5) (off := 63) X 102 dX7_about_39 (by decide) (by decide) (by decide) (by decide) ?_
              refine go_aload_n X dX7_about_102 0 rfl rfl ?_
              refine go_get X fi_X7_about_X7 0 rfl rfl 21 (by decide) fl_X7_about_150 rfl dX7_about_103 ?_
              exact hR o_items 0 106 _ dX7_about_106 rfl h
            · replace h := h.2 s39_5
              by_cases s39_6 : p1 = 6
              · replace h := h.1 s39_6
                refine go_top (x := .int p1) (y := .int 6) (congrArg Value.int s39_6) ?_
                refine go_tableIn (x := 6) (off := 68) X 107 dX7_about_39 (by decide) (by decide) (by decide) (by decide) ?_
                refine go_aload_n X dX7_about_107 0 rfl rfl ?_
                refine go_get X fi_X7_about_X7 0 rfl rfl 22 (by decide) fl_X7_about_147 rfl dX7_about_108 ?_
                exact hR o_matches 0 111 _ dX7_about_111 rfl h
              · replace h := h.2 s39_6
                have t39 : p1.toInt < 0 ∨ 6 < p1.toInt := by
                  have g0 := lv_neT s39_0 (a := 0) (by decide)
                  have g1 := lv_neT s39_1 (a := 1) (by decide)
                  have g2 := lv_neT s39_2 (a := 2) (by decide)
                  have g3 := lv_neT s39_3 (a := 3) (by decide)
                  have g4 := lv_neT s39_4 (a := 4) (by decide)
                  have g5 := lv_neT s39_5 (a := 5) (by decide)
                  have g6 := lv_neT s39_6 (a := 6) (by decide)
                  omega
                refine go_tableOut X 112 dX7_about_39 t39 (by decide) ?_
                refine go_bipush X (v := (-102)) dX7_about_112 (by decide) ?_
                exact hR (-102) 0 114 _ dX7_about_114 rfl h
