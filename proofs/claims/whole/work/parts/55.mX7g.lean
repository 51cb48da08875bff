/-! X7_out -/
theorem fi_X7_out_X7 : ∀ w ∈ u_ws RX7 TX7 25, w ∈ wsX7_out := by decide +kernel
theorem fl_X7_out_141 : Cond.fieldLink RX7 141 (TX7 20).1 (TX7 20).2.1 (TX7 20).2.2.1 ∈ wsX7_out := by decide +kernel
theorem fl_X7_out_60 : Cond.fieldLink RX7 60 (TX7 0).1 (TX7 0).2.1 (TX7 0).2.2.1 ∈ wsX7_out := by decide +kernel
theorem fl_X7_out_50 : Cond.fieldLink RX7 50 (TX7 19).1 (TX7 19).2.1 (TX7 19).2.2.1 ∈ wsX7_out := by decide +kernel
def rm_X7_out : Room := { frames := 1, cells := 0, slots := 0, locals := 25 }
theorem cd_X7_out : yX7_out.cls = RX7 ∧ yX7_out.cls ≠ "java/lang/invoke/MethodHandle" ∧ yX7_out.cls ≠ "java/lang/invoke/VarHandle" ∧ (parseMethodDescriptor yX7_out.desc).map (fun d => d.parameters.length) = some 1 := by decide +kernel
set_option maxRecDepth 100000 in
set_option maxHeartbeats 4000000 in
theorem kX7_out (l : Launch) (D : va_G) (cy : Nat → ClassId) (a_o : Nat) (a_o_tape : Nat) (a_o_sampleLong : Nat) (a_o_sampleByte : Nat) (a_o_idOf : Nat) (a_o_pieces : Nat) (a_o_pieceLong : Nat) (a_o_bytesOf : Nat) (a_o_dictionary : Nat) (a_o_covered : Nat) (a_o_taken : Nat) (a_o_row : Nat) (a_o_cost : Nat) (a_o_leastD : Nat) (a_o_out : Nat) (a_o_text : Nat) (o_thrown : Int32) (o_taped : Int32) (o_samples : Int32) (o_takenMany : Int32) (o_ahead : Int32) (o_textLong : Int32) (o_outMany : Int32) (o_items : Int32) (o_matches : Int32) (o_textMany : Int32) (o_out : Nat → Int32) (p1 : Int32) (post : Int32 → Int32 → Prop) (h : wX7_out o_outMany o_out p1 post) : MetI l yX7_out wsX7_out rm_X7_out D (tyL cy) [.ref a_o, .int p1] [(a_o, .inr (10, [.int o_thrown, .ref a_o_tape, .int o_taped, .int o_samples, .ref a_o_sampleLong, .ref a_o_sampleByte, .ref a_o_idOf, .ref a_o_pieces, .ref a_o_pieceLong, .ref a_o_bytesOf, .ref a_o_dictionary, .ref a_o_covered, .ref a_o_taken, .int o_takenMany, .ref a_o_row, .int o_ahead, .int o_textLong, .ref a_o_cost, .ref a_o_leastD, .ref a_o_out, .int o_outMany, .int o_items, .int o_matches, .ref a_o_text, .int o_textMany])), (a_o_out, .inl (cy 1, 400, .inl o_out))] (fun u : Int32 => [(a_o, .inr (10, [.int u, .ref a_o_tape, .int o_taped, .int o_samples, .ref a_o_sampleLong, .ref a_o_sampleByte, .ref a_o_idOf, .ref a_o_pieces, .ref a_o_pieceLong, .ref a_o_bytesOf, .ref a_o_dictionary, .ref a_o_covered, .ref a_o_taken, .int o_takenMany, .ref a_o_row, .int o_ahead, .int o_textLong, .ref a_o_cost, .ref a_o_leastD, .ref a_o_out, .int o_outMany, .int o_items, .int o_matches, .ref a_o_text, .int o_textMany])), (a_o_out, .inl (cy 1, 400, .inl o_out))]) (fun r => fun (u : Int32) => post r u) 0 0 := by
  refine metI_of (cc := cX7_out) (maxL := 2) (lv := [(0, .ref a_o), (1, .int p1)]) (by decide) rfl (Nat.le_of_ble_eq_true rfl) rfl ?_
  intro p e s m below meth c Q A X hlk hR
  unfold wX7_out at h
  refine go_aload_n X dX7_out_0 0 rfl rfl ?_
  refine go_iload_n X dX7_out_1 1 rfl rfl ?_
  refine go_i2l X dX7_out_2 ?_
  refine go_lconst X (v := 0) dX7_out_3 (by decide) ?_
  refine go_aload_n X dX7_out_4 0 rfl rfl ?_
  refine go_get X fi_X7_out_X7 0 rfl rfl 20 (by decide) fl_X7_out_141 rfl dX7_out_5 ?_
  refine go_iconst X (v := 1) dX7_out_8 (by decide) ?_
  refine go_isub X dX7_out_9 ?_
  refine go_i2l X dX7_out_10 ?_
  refine go_callSi X (kX7_in l D cy p1.toInt64 (0 : Int64) ((o_outMany - 1).toInt64) _ h) (va_cwS 3 X.2.2.2.2.1 gX7_out_X7_in rfl rfl rfl cd_X7_in ⟨by decide, by decide⟩) (wr := [(a_o, .inr (10, [.int o_thrown, .ref a_o_tape, .int o_taped, .int o_samples, .ref a_o_sampleLong, .ref a_o_sampleByte, .ref a_o_idOf, .ref a_o_pieces, .ref a_o_pieceLong, .ref a_o_bytesOf, .ref a_o_dictionary, .ref a_o_covered, .ref a_o_taken, .int o_takenMany, .ref a_o_row, .int o_ahead, .int o_textLong, .ref a_o_cost, .ref a_o_leastD, .ref a_o_out, .int o_outMany, .int o_items, .int o_matches, .ref a_o_text, .int o_textMany])), (a_o_out, .inl (cy 1, 400, .inl o_out))]) (ws2 := fun u => [(a_o, .inr (10, [.int o_thrown, .ref a_o_tape, .int o_taped, .int o_samples, .ref a_o_sampleLong, .ref a_o_sampleByte, .ref a_o_idOf, .ref a_o_pieces, .ref a_o_pieceLong, .ref a_o_bytesOf, .ref a_o_dictionary, .ref a_o_covered, .ref a_o_taken, .int o_takenMany, .ref a_o_row, .int o_ahead, .int o_textLong, .ref a_o_cost, .ref a_o_leastD, .ref a_o_out, .int o_outMany, .int o_items, .int o_matches, .ref a_o_text, .int o_textMany])), (a_o_out, .inl (cy 1, 400, .inl o_out))]) (perm_idx [0, 1] rfl rfl) (fun u => perm_idx [0, 1] rfl rfl) rfl rfl (Nat.le_of_ble_eq_true rfl) dX7_out_11 ⟨by decide, by decide⟩ (fun r1 u h => ?_)
  refine go_if_eq X 21 dX7_out_14 (by decide) (fun c2 => ?_) (fun c2 => ?_)
  · replace h := h.1 c2
    refine go_iconst X (v := 1) dX7_out_21 (by decide) ?_
    refine go_put X (ws' := [(a_o, .inr (10, [.int 1, .ref a_o_tape, .int o_taped, .int o_samples, .ref a_o_sampleLong, .ref a_o_sampleByte, .ref a_o_idOf, .ref a_o_pieces, .ref a_o_pieceLong, .ref a_o_bytesOf, .ref a_o_dictionary, .ref a_o_covered, .ref a_o_taken, .int o_takenMany, .ref a_o_row, .int o_ahead, .int o_textLong, .ref a_o_cost, .ref a_o_leastD, .ref a_o_out, .int o_outMany, .int o_items, .int o_matches, .ref a_o_text, .int o_textMany])), (a_o_out, .inl (cy 1, 400, .inl o_out))]) fi_X7_out_X7 tyX7 tyX7_ok nmX7 0 rfl rfl 0 (by decide) fl_X7_out_60 rfl (tyX7_ok 0 (by decide)) rfl rfl (Nat.le_of_ble_eq_true rfl) rfl dX7_out_22 ?_
    refine go_aload_n X dX7_out_25 0 rfl rfl ?_
    refine go_get X fi_X7_out_X7 0 rfl rfl 0 (by decide) fl_X7_out_60 rfl dX7_out_26 ?_
    refine go_if_le X 36 dX7_out_29 (by decide) (fun c0 => absurd c0 (by decide)) (fun _ => ?_)
    refine go_iconst X (v := 0) dX7_out_32 (by decide) ?_
    refine go_goto X 42 dX7_out_33 (by decide) ?_
    exact hR 0 1 42 _ dX7_out_42 rfl h
  · replace h := h.2 c2
    refine go_iconst X (v := 0) dX7_out_17 (by decide) ?_
    refine go_goto X 22 dX7_out_18 (by decide) ?_
    refine go_put X (ws' := [(a_o, .inr (10, [.int 0, .ref a_o_tape, .int o_taped, .int o_samples, .ref a_o_sampleLong, .ref a_o_sampleByte, .ref a_o_idOf, .ref a_o_pieces, .ref a_o_pieceLong, .ref a_o_bytesOf, .ref a_o_dictionary, .ref a_o_covered, .ref a_o_taken, .int o_takenMany, .ref a_o_row, .int o_ahead, .int o_textLong, .ref a_o_cost, .ref a_o_leastD, .ref a_o_out, .int o_outMany, .int o_items, .int o_matches, .ref a_o_text, .int o_textMany])), (a_o_out, .inl (cy 1, 400, .inl o_out))]) fi_X7_out_X7 tyX7 tyX7_ok nmX7 0 rfl rfl 0 (by decide) fl_X7_out_60 rfl (tyX7_ok 0 (by decide)) rfl rfl (Nat.le_of_ble_eq_true rfl) rfl dX7_out_22 ?_
    refine go_aload_n X dX7_out_25 0 rfl rfl ?_
    refine go_get X fi_X7_out_X7 0 rfl rfl 0 (by decide) fl_X7_out_60 rfl dX7_out_26 ?_
    refine go_if_le X 36 dX7_out_29 (by decide) (fun _ => ?_) (fun c0 => absurd c0 (by decide))
    refine go_aload_n X dX7_out_36 0 rfl rfl ?_
    refine go_get X fi_X7_out_X7 0 rfl rfl 19 (by decide) fl_X7_out_50 rfl dX7_out_37 ?_
    refine go_iload_n X dX7_out_40 1 rfl rfl ?_
    obtain ⟨c3, h⟩ := h
    refine go_iald X 1 1 rfl rfl c3 dX7_out_41 ?_
    exact hR (o_out p1.toNatClampNeg) 0 42 _ dX7_out_42 rfl h
/-! X7_firstWith -/
theorem fi_X7_firstWith_X7 : ∀ w ∈ u_ws RX7 TX7 25, w ∈ wsX7_firstWith := by decide +kernel
theorem fl_X7_firstWith_19 : Cond.fieldLink RX7 19 (TX7 6).1 (TX7 6).2.1 (TX7 6).2.2.1 ∈ wsX7_firstWith := by decide +kernel
def rm_X7_firstWith : Room := { frames := 0, cells := 0, slots := 0, locals := 0 }
theorem cd_X7_firstWith : yX7_firstWith.cls = RX7 ∧ yX7_firstWith.cls ≠ "java/lang/invoke/MethodHandle" ∧ yX7_firstWith.cls ≠ "java/lang/invoke/VarHandle" ∧ (parseMethodDescriptor yX7_firstWith.desc).map (fun d => d.parameters.length) = some 1 := by decide +kernel
set_option maxRecDepth 100000 in
set_option maxHeartbeats 4000000 in
theorem pX7_firstWith_2 {p : Program} (l : Launch) {e : Env} {s : State} {m : MethodId} {args : Array Value} {below : List Frame} {meth : Method} {c : Code} {Q : State → Prop} {D : va_G} {cy : Nat → ClassId} {A : Nat → Prop} (X : Cx p s m args c cX7_firstWith 3 RX7 wsX7_firstWith D (tyL cy) A) (a_o : Nat) (a_o_tape : Nat) (a_o_sampleLong : Nat) (a_o_sampleByte : Nat) (a_o_idOf : Nat) (a_o_pieces : Nat) (a_o_pieceLong : Nat) (a_o_bytesOf : Nat) (a_o_dictionary : Nat) (a_o_covered : Nat) (a_o_taken : Nat) (a_o_row : Nat) (a_o_cost : Nat) (a_o_leastD : Nat) (a_o_out : Nat) (a_o_text : Nat) (o_thrown : Int32) (o_taped : Int32) (o_samples : Int32) (o_takenMany : Int32) (o_ahead : Int32) (o_textLong : Int32) (o_outMany : Int32) (o_items : Int32) (o_matches : Int32) (o_textMany : Int32) (o_idOf : Nat → Int32) (v1 : Int32) (post : Int32 → Prop) (hR : RtI p l e rm_X7_firstWith s m args below meth c cX7_firstWith Q 3 D A .int (fun u : Unit => [(a_o, .inr (10, [.int o_thrown, .ref a_o_tape, .int o_taped, .int o_samples, .ref a_o_sampleLong, .ref a_o_sampleByte, .ref a_o_idOf, .ref a_o_pieces, .ref a_o_pieceLong, .ref a_o_bytesOf, .ref a_o_dictionary, .ref a_o_covered, .ref a_o_taken, .int o_takenMany, .ref a_o_row, .int o_ahead, .int o_textLong, .ref a_o_cost, .ref a_o_leastD, .ref a_o_out, .int o_outMany, .int o_items, .int o_matches, .ref a_o_text, .int o_textMany])), (a_o_idOf, .inl (cy 1, 6, .inl o_idOf))]) (fun r => fun (u : Unit) => post r ) 0 0) (K : Int32 → Prop) (hK : ∀ (v2 : Int32), K v2 → Go p l e rm_X7_firstWith s m args below meth c Q 3 D A [(a_o, .inr (10, [.int o_thrown, .ref a_o_tape, .int o_taped, .int o_samples, .ref a_o_sampleLong, .ref a_o_sampleByte, .ref a_o_idOf, .ref a_o_pieces, .ref a_o_pieceLong, .ref a_o_bytesOf, .ref a_o_dictionary, .ref a_o_covered, .ref a_o_taken, .int o_takenMany, .ref a_o_row, .int o_ahead, .int o_textLong, .ref a_o_cost, .ref a_o_leastD, .ref a_o_out, .int o_outMany, .int o_items, .int o_matches, .ref a_o_text, .int o_textMany])), (a_o_idOf, .inl (cy 1, 6, .inl o_idOf))] 0 0 26 [] []) :
    ∀ (n : Nat) (v2 : Int32), wX7_firstWith_2 o_idOf v1 post K n v2 → Go p l e rm_X7_firstWith s m args below meth c Q 3 D A [(a_o, .inr (10, [.int o_thrown, .ref a_o_tape, .int o_taped, .int o_samples, .ref a_o_sampleLong, .ref a_o_sampleByte, .ref a_o_idOf, .ref a_o_pieces, .ref a_o_pieceLong, .ref a_o_bytesOf, .ref a_o_dictionary, .ref a_o_covered, .ref a_o_taken, .int o_takenMany, .ref a_o_row, .int o_ahead, .int o_textLong, .ref a_o_cost, .ref a_o_leastD, .ref a_o_out, .int o_outMany, .int o_items, .int o_matches, .ref a_o_text, .int o_textMany])), (a_o_idOf, .inl (cy 1, 6, .inl o_idOf))] 0 0 2 [(0, .ref a_o), (1, .int v1), (2, .int v2)] [] := by
  intro n
  induction n with
  | zero => intro v2 h; exact absurd h id
  | succ n ih =>
    intro v2 h
    refine go_iload_n X dX7_firstWith_2 2 rfl rfl ?_
    refine go_bipush X (v := 6) dX7_firstWith_3 (by decide) ?_
    refine go_icmp_ge X 26 dX7_firstWith_5 (by decide) (fun c2 => ?_) (fun c2 => ?_)
    · replace h := h.1 c2
      refine go_lv [] rfl ?_
      exact hK v2 h
    · replace h := h.2 c2
      refine go_aload_n X dX7_firstWith_8 0 rfl rfl ?_
      refine go_get X fi_X7_firstWith_X7 0 rfl rfl 6 (by decide) fl_X7_firstWith_19 rfl dX7_firstWith_9 ?_
      refine go_iload_n X dX7_firstWith_12 2 rfl rfl ?_
      obtain ⟨c3, h⟩ := h
      refine go_iald X 1 1 rfl rfl c3 dX7_firstWith_13 ?_
      refine go_iload_n X dX7_firstWith_14 1 rfl rfl ?_
      refine go_icmp_ne X 20 dX7_firstWith_15 (by decide) (fun c4 => ?_) (fun c4 => ?_)
      · replace h := h.1 c4
        obtain ⟨y5, ey5⟩ : ∃ z : Int32, z = v2 + 1 := ⟨_, rfl⟩
        replace h := h y5 ey5
        refine go_iinc X (lv' := [(2, .int y5), (0, .ref a_o), (1, .int v1)]) y5 dX7_firstWith_20 2 rfl (by rw [ey5]; rfl) (by decide) rfl ?_
        refine go_goto X 2 dX7_firstWith_23 (by decide) ?_
        refine go_lv [1, 2, 0] rfl ?_
        exact ih y5 h
      · replace h := h.2 c4
        refine go_iload_n X dX7_firstWith_18 2 rfl rfl ?_
        exact hR v2 () 19 _ dX7_firstWith_19 rfl h
set_option maxRecDepth 100000 in
set_option maxHeartbeats 4000000 in
theorem kX7_firstWith (l : Launch) (D : va_G) (cy : Nat → ClassId) (a_o : Nat) (a_o_tape : Nat) (a_o_sampleLong : Nat) (a_o_sampleByte : Nat) (a_o_idOf : Nat) (a_o_pieces : Nat) (a_o_pieceLong : Nat) (a_o_bytesOf : Nat) (a_o_dictionary : Nat) (a_o_covered : Nat) (a_o_taken : Nat) (a_o_row : Nat) (a_o_cost : Nat) (a_o_leastD : Nat) (a_o_out : Nat) (a_o_text : Nat) (o_thrown : Int32) (o_taped : Int32) (o_samples : Int32) (o_takenMany : Int32) (o_ahead : Int32) (o_textLong : Int32) (o_outMany : Int32) (o_items : Int32) (o_matches : Int32) (o_textMany : Int32) (o_idOf : Nat → Int32) (p1 : Int32) (post : Int32 → Prop) (h : wX7_firstWith o_idOf p1 post) : MetI l yX7_firstWith wsX7_firstWith rm_X7_firstWith D (tyL cy) [.ref a_o, .int p1] [(a_o, .inr (10, [.int o_thrown, .ref a_o_tape, .int o_taped, .int o_samples, .ref a_o_sampleLong, .ref a_o_sampleByte, .ref a_o_idOf, .ref a_o_pieces, .ref a_o_pieceLong, .ref a_o_bytesOf, .ref a_o_dictionary, .ref a_o_covered, .ref a_o_taken, .int o_takenMany, .ref a_o_row, .int o_ahead, .int o_textLong, .ref a_o_cost, .ref a_o_leastD, .ref a_o_out, .int o_outMany, .int o_items, .int o_matches, .ref a_o_text, .int o_textMany])), (a_o_idOf, .inl (cy 1, 6, .inl o_idOf))] (fun u : Unit => [(a_o, .inr (10, [.int o_thrown, .ref a_o_tape, .int o_taped, .int o_samples, .ref a_o_sampleLong, .ref a_o_sampleByte, .ref a_o_idOf, .ref a_o_pieces, .ref a_o_pieceLong, .ref a_o_bytesOf, .ref a_o_dictionary, .ref a_o_covered, .ref a_o_taken, .int o_takenMany, .ref a_o_row, .int o_ahead, .int o_textLong, .ref a_o_cost, .ref a_o_leastD, .ref a_o_out, .int o_outMany, .int o_items, .int o_matches, .ref a_o_text, .int o_textMany])), (a_o_idOf, .inl (cy 1, 6, .inl o_idOf))]) (fun r => fun (u : Unit) => post r ) 0 0 := by
  refine metI_of (cc := cX7_firstWith) (maxL := 3) (lv := [(0, .ref a_o), (1, .int p1)]) (by decide) rfl (Nat.le_of_ble_eq_true rfl) rfl ?_
  intro p e s m below meth c Q A X hlk hR
  unfold wX7_firstWith at h
  refine go_iconst X (v := 0) dX7_firstWith_0 (by decide) ?_
  refine go_istore_n X (lv' := [(2, .int 0), (0, .ref a_o), (1, .int p1)]) dX7_firstWith_1 rfl (by decide) rfl ?_
  obtain ⟨n6, h⟩ := h
  refine go_lv [1, 2, 0] rfl ?_
  refine pX7_firstWith_2 l X a_o a_o_tape a_o_sampleLong a_o_sampleByte a_o_idOf a_o_pieces a_o_pieceLong a_o_bytesOf a_o_dictionary a_o_covered a_o_taken a_o_row a_o_cost a_o_leastD a_o_out a_o_text o_thrown o_taped o_samples o_takenMany o_ahead o_textLong o_outMany o_items o_matches o_textMany o_idOf p1 post hR _ (fun y1 h => ?_) n6 (0 : Int32) h
  refine go_iconst X (v := (-1)) dX7_firstWith_26 (by decide) ?_
  exact hR (-1) () 27 _ dX7_firstWith_27 rfl h
/-! X7_wrong -/
theorem fi_X7_wrong_X7 : ∀ w ∈ u_ws RX7 TX7 25, w ∈ wsX7_wrong := by decide +kernel
theorem fl_X7_wrong_56 : Cond.fieldLink RX7 56 (TX7 2).1 (TX7 2).2.1 (TX7 2).2.2.1 ∈ wsX7_wrong := by decide +kernel
theorem fl_X7_wrong_7 : Cond.fieldLink RX7 7 (TX7 1).1 (TX7 1).2.1 (TX7 1).2.2.1 ∈ wsX7_wrong := by decide +kernel
theorem fl_X7_wrong_103 : Cond.fieldLink RX7 103 (TX7 16).1 (TX7 16).2.1 (TX7 16).2.2.1 ∈ wsX7_wrong := by decide +kernel
theorem fl_X7_wrong_96 : Cond.fieldLink RX7 96 (TX7 15).1 (TX7 15).2.1 (TX7 15).2.2.1 ∈ wsX7_wrong := by decide +kernel
theorem fl_X7_wrong_41 : Cond.fieldLink RX7 41 (TX7 14).1 (TX7 14).2.1 (TX7 14).2.2.1 ∈ wsX7_wrong := by decide +kernel
def rm_X7_wrong : Room := { frames := 2, cells := 0, slots := 0, locals := 49 }
theorem cd_X7_wrong : yX7_wrong.cls = RX7 ∧ yX7_wrong.cls ≠ "java/lang/invoke/MethodHandle" ∧ yX7_wrong.cls ≠ "java/lang/invoke/VarHandle" ∧ (parseMethodDescriptor yX7_wrong.desc).map (fun d => d.parameters.length) = some 0 := by decide +kernel
set_option maxRecDepth 100000 in
set_option maxHeartbeats 4000000 in
theorem pX7_wrong_328 {p : Program} (l : Launch) {e : Env} {s : State} {m : MethodId} {args : Array Value} {below : List Frame} {meth : Method} {c : Code} {Q : State → Prop} {D : va_G} {cy : Nat → ClassId} {A : Nat → Prop} (X : Cx p s m args c cX7_wrong 9 RX7 wsX7_wrong D (tyL cy) A) (a_o : Nat) (a_o_tape : Nat) (a_o_sampleLong : Nat) (a_o_sampleByte : Nat) (a_o_idOf : Nat) (a_o_pieces : Nat) (a_o_pieceLong : Nat) (a_o_bytesOf : Nat) (a_o_dictionary : Nat) (a_o_covered : Nat) (a_o_taken : Nat) (a_o_row : Nat) (a_o_cost : Nat) (a_o_leastD : Nat) (a_o_out : Nat) (a_o_text : Nat) (o_thrown : Int32) (o_taped : Int32) (o_samples : Int32) (o_takenMany : Int32) (o_ahead : Int32) (o_textLong : Int32) (o_outMany : Int32) (o_items : Int32) (o_matches : Int32) (o_textMany : Int32) (o_tape : Nat → Int32) (o_idOf : Nat → Int32) (o_pieceLong : Nat → Int32) (o_bytesOf : Nat → Int32) (o_dictionary : Nat → Int32) (v3 : Int32) (v4 : Int32) (v6 : Int32) (v7 : Int32) (K : (Nat → Int32) → Int32 → Prop) (hK : ∀ (o_row : Nat → Int32) (v8 : Int32), K o_row v8 → Go p l e rm_X7_wrong s m args below meth c Q 9 D A [(a_o, .inr (10, [.int o_thrown, .ref a_o_tape, .int o_taped, .int o_samples, .ref a_o_sampleLong, .ref a_o_sampleByte, .ref a_o_idOf, .ref a_o_pieces, .ref a_o_pieceLong, .ref a_o_bytesOf, .ref a_o_dictionary, .ref a_o_covered, .ref a_o_taken, .int o_takenMany, .ref a_o_row, .int o_ahead, .int o_textLong, .ref a_o_cost, .ref a_o_leastD, .ref a_o_out, .int o_outMany, .int o_items, .int o_matches, .ref a_o_text, .int o_textMany])), (a_o_tape, .inl (cy 1, 200, .inl o_tape)), (a_o_idOf, .inl (cy 1, 6, .inl o_idOf)), (a_o_pieceLong, .inl (cy 1, 480, .inl o_pieceLong)), (a_o_bytesOf, .inl (cy 1, 6, .inl o_bytesOf)), (a_o_dictionary, .inl (cy 1, 480, .inl o_dictionary)), (a_o_row, .inl (cy 1, 280, .inl o_row))] 0 0 374 [(0, .ref a_o), (3, .int v3), (4, .int v4), (6, .int v6)] []) :
    ∀ (n : Nat) (o_row : Nat → Int32) (v8 : Int32), wX7_wrong_328 o_ahead v4 v6 v7 K n o_row v8 → Go p l e rm_X7_wrong s m args below meth c Q 9 D A [(a_o, .inr (10, [.int o_thrown, .ref a_o_tape, .int o_taped, .int o_samples, .ref a_o_sampleLong, .ref a_o_sampleByte, .ref a_o_idOf, .ref a_o_pieces, .ref a_o_pieceLong, .ref a_o_bytesOf, .ref a_o_dictionary, .ref a_o_covered, .ref a_o_taken, .int o_takenMany, .ref a_o_row, .int o_ahead, .int o_textLong, .ref a_o_cost, .ref a_o_leastD, .ref a_o_out, .int o_outMany, .int o_items, .int o_matches, .ref a_o_text, .int o_textMany])), (a_o_tape, .inl (cy 1, 200, .inl o_tape)), (a_o_idOf, .inl (cy 1, 6, .inl o_idOf)), (a_o_pieceLong, .inl (cy 1, 480, .inl o_pieceLong)), (a_o_bytesOf, .inl (cy 1, 6, .inl o_bytesOf)), (a_o_dictionary, .inl (cy 1, 480, .inl o_dictionary)), (a_o_row, .inl (cy 1, 280, .inl o_row))] 0 0 328 [(0, .ref a_o), (3, .int v3), (4, .int v4), (6, .int v6), (7, .int v7), (8, .int v8)] [] := by
  intro n
  induction n with
  | zero => intro o_row v8 h; exact absurd h id
  | succ n ih =>
    intro o_row v8 h
    refine go_iload X dX7_wrong_328 5 rfl ?_
    refine go_iload X dX7_wrong_330 3 rfl ?_
    refine go_icmp_ge X 374 dX7_wrong_332 (by decide) (fun c32 => ?_) (fun c32 => ?_)
    · replace h := h.1 c32
      refine go_lv [0, 1, 2, 3] rfl ?_
      exact hK o_row v8 h
    · replace h := h.2 c32
      refine go_aload_n X dX7_wrong_335 0 rfl rfl ?_
      refine go_get X fi_X7_wrong_X7 0 rfl rfl 14 (by decide) fl_X7_wrong_41 rfl dX7_wrong_336 ?_
      refine go_aload_n X dX7_wrong_339 0 rfl rfl ?_
      refine go_get X fi_X7_wrong_X7 0 rfl rfl 15 (by decide) fl_X7_wrong_96 rfl dX7_wrong_340 ?_
      refine go_iload X dX7_wrong_343 2 rfl ?_
      refine go_iadd X dX7_wrong_345 ?_
      refine go_iload X dX7_wrong_346 5 rfl ?_
      refine go_iadd X dX7_wrong_348 ?_
      refine go_aload_n X dX7_wrong_349 0 rfl rfl ?_
      refine go_get X fi_X7_wrong_X7 0 rfl rfl 14 (by decide) fl_X7_wrong_41 rfl dX7_wrong_350 ?_
      refine go_aload_n X dX7_wrong_353 0 rfl rfl ?_
      refine go_get X fi_X7_wrong_X7 0 rfl rfl 15 (by decide) fl_X7_wrong_96 rfl dX7_wrong_354 ?_
      refine go_iload X dX7_wrong_357 2 rfl ?_
      refine go_iadd X dX7_wrong_359 ?_
      refine go_iload X dX7_wrong_360 5 rfl ?_
      refine go_iadd X dX7_wrong_362 ?_
      refine go_iload X dX7_wrong_363 4 rfl ?_
      refine go_isub X dX7_wrong_365 ?_
      obtain ⟨c33, h⟩ := h
      refine go_iald X 6 1 rfl rfl c33 dX7_wrong_366 ?_
      obtain ⟨c34, h⟩ := h
      refine go_iast X [(a_o, .inr (10, [.int o_thrown, .ref a_o_tape, .int o_taped, .int o_samples, .ref a_o_sampleLong, .ref a_o_sampleByte, .ref a_o_idOf, .ref a_o_pieces, .ref a_o_pieceLong, .ref a_o_bytesOf, .ref a_o_dictionary, .ref a_o_covered, .ref a_o_taken, .int o_takenMany, .ref a_o_row, .int o_ahead, .int o_textLong, .ref a_o_cost, .ref a_o_leastD, .ref a_o_out, .int o_outMany, .int o_items, .int o_matches, .ref a_o_text, .int o_textMany])), (a_o_tape, .inl (cy 1, 200, .inl o_tape)), (a_o_idOf, .inl (cy 1, 6, .inl o_idOf)), (a_o_pieceLong, .inl (cy 1, 480, .inl o_pieceLong)), (a_o_bytesOf, .inl (cy 1, 6, .inl o_bytesOf)), (a_o_dictionary, .inl (cy 1, 480, .inl o_dictionary)), (a_o_row, .inl (cy 1, 280, .inl (upd o_row ((o_ahead + v4) + v8).toNatClampNeg (o_row (((o_ahead + v4) + v8) - v7).toNatClampNeg))))] 6 1 rfl rfl c34 rfl dX7_wrong_367 ?_
      obtain ⟨y35, ey35⟩ : ∃ z : Int32, z = v8 + 1 := ⟨_, rfl⟩
      replace h := h y35 ey35
      refine go_iinc X (lv' := [(8, .int y35), (0, .ref a_o), (3, .int v3), (4, .int v4), (6, .int v6), (7, .int v7)]) y35 dX7_wrong_368 5 rfl (by rw [ey35]; rfl) (by decide) rfl ?_
      refine go_goto X 328 dX7_wrong_371 (by decide) ?_
      refine go_lv [1, 2, 3, 4, 5, 0] rfl ?_
      exact ih (upd o_row ((o_ahead + v4) + v8).toNatClampNeg (o_row (((o_ahead + v4) + v8) - v7).toNatClampNeg)) y35 h
set_option maxRecDepth 100000 in
set_option maxHeartbeats 4000000 in
theorem pX7_wrong_233 {p : Program} (l : Launch) {e : Env} {s : State} {m : MethodId} {args : Array Value} {below : List Frame} {meth : Method} {c : Code} {Q : State → Prop} {D : va_G} {cy : Nat → ClassId} {A : Nat → Prop} (X : Cx p s m args c cX7_wrong 9 RX7 wsX7_wrong D (tyL cy) A) (a_o : Nat) (a_o_tape : Nat) (a_o_sampleLong : Nat) (a_o_sampleByte : Nat) (a_o_idOf : Nat) (a_o_pieces : Nat) (a_o_pieceLong : Nat) (a_o_bytesOf : Nat) (a_o_dictionary : Nat) (a_o_covered : Nat) (a_o_taken : Nat) (a_o_row : Nat) (a_o_cost : Nat) (a_o_leastD : Nat) (a_o_out : Nat) (a_o_text : Nat) (o_thrown : Int32) (o_taped : Int32) (o_samples : Int32) (o_takenMany : Int32) (o_ahead : Int32) (o_textLong : Int32) (o_outMany : Int32) (o_items : Int32) (o_matches : Int32) (o_textMany : Int32) (o_tape : Nat → Int32) (o_idOf : Nat → Int32) (o_pieceLong : Nat → Int32) (o_bytesOf : Nat → Int32) (o_dictionary : Nat → Int32) (v3 : Int32) (v4 : Int32) (v6 : Int32) (K : (Nat → Int32) → Int32 → Prop) (hK : ∀ (o_row : Nat → Int32) (v7 : Int32), K o_row v7 → Go p l e rm_X7_wrong s m args below meth c Q 9 D A [(a_o, .inr (10, [.int o_thrown, .ref a_o_tape, .int o_taped, .int o_samples, .ref a_o_sampleLong, .ref a_o_sampleByte, .ref a_o_idOf, .ref a_o_pieces, .ref a_o_pieceLong, .ref a_o_bytesOf, .ref a_o_dictionary, .ref a_o_covered, .ref a_o_taken, .int o_takenMany, .ref a_o_row, .int o_ahead, .int o_textLong, .ref a_o_cost, .ref a_o_leastD, .ref a_o_out, .int o_outMany, .int o_items, .int o_matches, .ref a_o_text, .int o_textMany])), (a_o_tape, .inl (cy 1, 200, .inl o_tape)), (a_o_idOf, .inl (cy 1, 6, .inl o_idOf)), (a_o_pieceLong, .inl (cy 1, 480, .inl o_pieceLong)), (a_o_bytesOf, .inl (cy 1, 6, .inl o_bytesOf)), (a_o_dictionary, .inl (cy 1, 480, .inl o_dictionary)), (a_o_row, .inl (cy 1, 280, .inl o_row))] 0 0 270 [(0, .ref a_o), (3, .int v3), (4, .int v4), (6, .int v6)] []) :
    ∀ (n : Nat) (o_row : Nat → Int32) (v7 : Int32), wX7_wrong_233 o_ahead o_tape v3 v4 v6 K n o_row v7 → Go p l e rm_X7_wrong s m args below meth c Q 9 D A [(a_o, .inr (10, [.int o_thrown, .ref a_o_tape, .int o_taped, .int o_samples, .ref a_o_sampleLong, .ref a_o_sampleByte, .ref a_o_idOf, .ref a_o_pieces, .ref a_o_pieceLong, .ref a_o_bytesOf, .ref a_o_dictionary, .ref a_o_covered, .ref a_o_taken, .int o_takenMany, .ref a_o_row, .int o_ahead, .int o_textLong, .ref a_o_cost, .ref a_o_leastD, .ref a_o_out, .int o_outMany, .int o_items, .int o_matches, .ref a_o_text, .int o_textMany])), (a_o_tape, .inl (cy 1, 200, .inl o_tape)), (a_o_idOf, .inl (cy 1, 6, .inl o_idOf)), (a_o_pieceLong, .inl (cy 1, 480, .inl o_pieceLong)), (a_o_bytesOf, .inl (cy 1, 6, .inl o_bytesOf)), (a_o_dictionary, .inl (cy 1, 480, .inl o_dictionary)), (a_o_row, .inl (cy 1, 280, .inl o_row))] 0 0 233 [(0, .ref a_o), (3, .int v3), (4, .int v4), (6, .int v6), (7, .int v7)] [] := by
  intro n
  induction n with
  | zero => intro o_row v7 h; exact absurd h id
  | succ n ih =>
    intro o_row v7 h
    refine go_iload X dX7_wrong_233 4 rfl ?_
    refine go_iload X dX7_wrong_235 3 rfl ?_
    refine go_icmp_ge X 270 dX7_wrong_237 (by decide) (fun c42 => ?_) (fun c42 => ?_)
    · replace h := h.1 c42
      refine go_lv [0, 1, 2, 3] rfl ?_
      exact hK o_row v7 h
    · replace h := h.2 c42
      refine go_aload_n X dX7_wrong_240 0 rfl rfl ?_
      refine go_get X fi_X7_wrong_X7 0 rfl rfl 14 (by decide) fl_X7_wrong_41 rfl dX7_wrong_241 ?_
      refine go_aload_n X dX7_wrong_244 0 rfl rfl ?_
      refine go_get X fi_X7_wrong_X7 0 rfl rfl 15 (by decide) fl_X7_wrong_96 rfl dX7_wrong_245 ?_
      refine go_iload X dX7_wrong_248 2 rfl ?_
      refine go_iadd X dX7_wrong_250 ?_
      refine go_iload X dX7_wrong_251 4 rfl ?_
      refine go_iadd X dX7_wrong_253 ?_
      refine go_aload_n X dX7_wrong_254 0 rfl rfl ?_
      refine go_get X fi_X7_wrong_X7 0 rfl rfl 1 (by decide) fl_X7_wrong_7 rfl dX7_wrong_255 ?_
      refine go_iload_n X dX7_wrong_258 1 rfl rfl ?_
      refine go_iload X dX7_wrong_259 4 rfl ?_
      refine go_iadd X dX7_wrong_261 ?_
      obtain ⟨c43, h⟩ := h
      refine go_iald X 1 1 rfl rfl c43 dX7_wrong_262 ?_
      obtain ⟨c44, h⟩ := h
      refine go_iast X [(a_o, .inr (10, [.int o_thrown, .ref a_o_tape, .int o_taped, .int o_samples, .ref a_o_sampleLong, .ref a_o_sampleByte, .ref a_o_idOf, .ref a_o_pieces, .ref a_o_pieceLong, .ref a_o_bytesOf, .ref a_o_dictionary, .ref a_o_covered, .ref a_o_taken, .int o_takenMany, .ref a_o_row, .int o_ahead, .int o_textLong, .ref a_o_cost, .ref a_o_leastD, .ref a_o_out, .int o_outMany, .int o_items, .int o_matches, .ref a_o_text, .int o_textMany])), (a_o_tape, .inl (cy 1, 200, .inl o_tape)), (a_o_idOf, .inl (cy 1, 6, .inl o_idOf)), (a_o_pieceLong, .inl (cy 1, 480, .inl o_pieceLong)), (a_o_bytesOf, .inl (cy 1, 6, .inl o_bytesOf)), (a_o_dictionary, .inl (cy 1, 480, .inl o_dictionary)), (a_o_row, .inl (cy 1, 280, .inl (upd o_row ((o_ahead + v4) + v7).toNatClampNeg (o_tape (v3 + v7).toNatClampNeg))))] 6 1 rfl rfl c44 rfl dX7_wrong_263 ?_
      obtain ⟨y45, ey45⟩ : ∃ z : Int32, z = v7 + 1 := ⟨_, rfl⟩
      replace h := h y45 ey45
      refine go_iinc X (lv' := [(7, .int y45), (0, .ref a_o), (3, .int v3), (4, .int v4), (6, .int v6)]) y45 dX7_wrong_264 4 rfl (by rw [ey45]; rfl) (by decide) rfl ?_
      refine go_goto X 233 dX7_wrong_267 (by decide) ?_
      refine go_lv [1, 2, 3, 4, 0] rfl ?_
      exact ih (upd o_row ((o_ahead + v4) + v7).toNatClampNeg (o_tape (v3 + v7).toNatClampNeg)) y45 h
set_option maxRecDepth 100000 in
set_option maxHeartbeats 4000000 in
theorem pX7_wrong_142 {p : Program} (l : Launch) {e : Env} {s : State} {m : MethodId} {args : Array Value} {below : List Frame} {meth : Method} {c : Code} {Q : State → Prop} {D : va_G} {cy : Nat → ClassId} {A : Nat → Prop} (X : Cx p s m args c cX7_wrong 9 RX7 wsX7_wrong D (tyL cy) A) (a_o : Nat) (a_o_tape : Nat) (a_o_sampleLong : Nat) (a_o_sampleByte : Nat) (a_o_idOf : Nat) (a_o_pieces : Nat) (a_o_pieceLong : Nat) (a_o_bytesOf : Nat) (a_o_dictionary : Nat) (a_o_covered : Nat) (a_o_taken : Nat) (a_o_row : Nat) (a_o_cost : Nat) (a_o_leastD : Nat) (a_o_out : Nat) (a_o_text : Nat) (o_thrown : Int32) (o_taped : Int32) (o_samples : Int32) (o_takenMany : Int32) (o_ahead : Int32) (o_textLong : Int32) (o_outMany : Int32) (o_items : Int32) (o_matches : Int32) (o_textMany : Int32) (o_tape : Nat → Int32) (o_idOf : Nat → Int32) (o_pieceLong : Nat → Int32) (o_bytesOf : Nat → Int32) (o_dictionary : Nat → Int32) (post : Int32 → Int32 → Int32 → (Nat → Int32) → Prop) (hR : RtI p l e rm_X7_wrong s m args below meth c cX7_wrong Q 9 D A .int (fun u : Int32 × Int32 × (Nat → Int32) => [(a_o, .inr (10, [.int o_thrown, .ref a_o_tape, .int o_taped, .int o_samples, .ref a_o_sampleLong, .ref a_o_sampleByte, .ref a_o_idOf, .ref a_o_pieces, .ref a_o_pieceLong, .ref a_o_bytesOf, .ref a_o_dictionary, .ref a_o_covered, .ref a_o_taken, .int o_takenMany, .ref a_o_row, .int u.1, .int u.2.1, .ref a_o_cost, .ref a_o_leastD, .ref a_o_out, .int o_outMany, .int o_items, .int o_matches, .ref a_o_text, .int o_textMany])), (a_o_tape, .inl (cy 1, 200, .inl o_tape)), (a_o_idOf, .inl (cy 1, 6, .inl o_idOf)), (a_o_pieceLong, .inl (cy 1, 480, .inl o_pieceLong)), (a_o_bytesOf, .inl (cy 1, 6, .inl o_bytesOf)), (a_o_dictionary, .inl (cy 1, 480, .inl o_dictionary)), (a_o_row, .inl (cy 1, 280, .inl u.2.2))]) (fun r => fun (u : Int32 × Int32 × (Nat → Int32)) => post r u.1 u.2.1 u.2.2) 0 0) (K : (Nat → Int32) → Int32 → Int32 → Prop) (hK : ∀ (o_row : Nat → Int32) (v3 : Int32) (v4 : Int32), K o_row v3 v4 → Go p l e rm_X7_wrong s m args below meth c Q 9 D A [(a_o, .inr (10, [.int o_thrown, .ref a_o_tape, .int o_taped, .int o_samples, .ref a_o_sampleLong, .ref a_o_sampleByte, .ref a_o_idOf, .ref a_o_pieces, .ref a_o_pieceLong, .ref a_o_bytesOf, .ref a_o_dictionary, .ref a_o_covered, .ref a_o_taken, .int o_takenMany, .ref a_o_row, .int o_ahead, .int o_textLong, .ref a_o_cost, .ref a_o_leastD, .ref a_o_out, .int o_outMany, .int o_items, .int o_matches, .ref a_o_text, .int o_textMany])), (a_o_tape, .inl (cy 1, 200, .inl o_tape)), (a_o_idOf, .inl (cy 1, 6, .inl o_idOf)), (a_o_pieceLong, .inl (cy 1, 480, .inl o_pieceLong)), (a_o_bytesOf, .inl (cy 1, 6, .inl o_bytesOf)), (a_o_dictionary, .inl (cy 1, 480, .inl o_dictionary)), (a_o_row, .inl (cy 1, 280, .inl o_row))] 0 0 387 [(0, .ref a_o), (3, .int v3), (4, .int v4)] []) :
    ∀ (n : Nat) (o_row : Nat → Int32) (v3 : Int32) (v4 : Int32), wX7_wrong_142 o_taped o_ahead o_textLong o_tape post K n o_row v3 v4 → Go p l e rm_X7_wrong s m args below meth c Q 9 D A [(a_o, .inr (10, [.int o_thrown, .ref a_o_tape, .int o_taped, .int o_samples, .ref a_o_sampleLong, .ref a_o_sampleByte, .ref a_o_idOf, .ref a_o_pieces, .ref a_o_pieceLong, .ref a_o_bytesOf, .ref a_o_dictionary, .ref a_o_covered, .ref a_o_taken, .int o_takenMany, .ref a_o_row, .int o_ahead, .int o_textLong, .ref a_o_cost, .ref a_o_leastD, .ref a_o_out, .int o_outMany, .int o_items, .int o_matches, .ref a_o_text, .int o_textMany])), (a_o_tape, .inl (cy 1, 200, .inl o_tape)), (a_o_idOf, .inl (cy 1, 6, .inl o_idOf)), (a_o_pieceLong, .inl (cy 1, 480, .inl o_pieceLong)), (a_o_bytesOf, .inl (cy 1, 6, .inl o_bytesOf)), (a_o_dictionary, .inl (cy 1, 480, .inl o_dictionary)), (a_o_row, .inl (cy 1, 280, .inl o_row))] 0 0 142 [(0, .ref a_o), (3, .int v3), (4, .int v4)] [] := by
  intro n
  induction n with
  | zero => intro o_row v3 v4 h; exact absurd h id
  | succ n ih =>
    intro o_row v3 v4 h
    refine go_iload X dX7_wrong_142 2 rfl ?_
    refine go_aload_n X dX7_wrong_144 0 rfl rfl ?_
    refine go_get X fi_X7_wrong_X7 0 rfl rfl 16 (by decide) fl_X7_wrong_103 rfl dX7_wrong_145 ?_
    refine go_icmp_ge X 387 dX7_wrong_148 (by decide) (fun c17 => ?_) (fun c17 => ?_)
    · replace h := h.1 c17
      exact hK o_row v3 v4 h
    · replace h := h.2 c17
      refine go_iload_n X dX7_wrong_151 1 rfl rfl ?_
      refine go_aload_n X dX7_wrong_152 0 rfl rfl ?_
      refine go_get X fi_X7_wrong_X7 0 rfl rfl 2 (by decide) fl_X7_wrong_56 rfl dX7_wrong_153 ?_
      refine go_icmp_ge X 387 dX7_wrong_156 (by decide) (fun c18 => ?_) (fun c18 => ?_)
      · replace h := h.1 c18
        exact hK o_row v3 v4 h
      · replace h := h.2 c18
        refine go_aload_n X dX7_wrong_159 0 rfl rfl ?_
        refine go_get X fi_X7_wrong_X7 0 rfl rfl 1 (by decide) fl_X7_wrong_7 rfl dX7_wrong_160 ?_
        refine go_iload_n X dX7_wrong_163 1 rfl rfl ?_
        obtain ⟨c19, h⟩ := h
        refine go_iald X 1 1 rfl rfl c19 dX7_wrong_164 ?_
        refine go_topi (fun y20 ey20 => ?_)
        replace h := h y20 ey20
        refine go_istore X (lv' := [(5, .int y20), (0, .ref a_o), (3, .int v3), (4, .int v4)]) dX7_wrong_165 (by decide) rfl ?_
        refine go_iload X dX7_wrong_167 0 rfl ?_
        refine go_bipush X (v := 32) dX7_wrong_169 (by decide) ?_
        refine go_icmp_ge X 181 dX7_wrong_171 (by decide) (fun c21 => ?_) (fun c21 => ?_)
        · replace h := h.1 c21
          refine go_iload X dX7_wrong_181 0 rfl ?_
          refine go_bipush X (v := 32) dX7_wrong_183 (by decide) ?_
          refine go_idiv X dX7_wrong_185 (by decide) ?_
          refine go_iconst X (v := 2) dX7_wrong_186 (by decide) ?_
          refine go_iadd X dX7_wrong_187 ?_
          refine go_topi (fun y22 ey22 => ?_)
          replace h := h y22 ey22
          refine go_istore X (lv' := [(6, .int y22), (5, .int y20), (0, .ref a_o), (3, .int v3), (4, .int v4)]) dX7_wrong_188 (by decide) rfl ?_
          refine go_iload X dX7_wrong_190 4 rfl ?_
          refine go_iload X dX7_wrong_192 0 rfl ?_
          refine go_iadd X dX7_wrong_194 ?_
          refine go_aload_n X dX7_wrong_195 2 rfl rfl ?_
          refine go_get X fi_X7_wrong_X7 0 rfl rfl 16 (by decide) fl_X7_wrong_103 rfl dX7_wrong_196 ?_
          refine go_icmp_le X 204 dX7_wrong_199 (by decide) (fun c23 => ?_) (fun c23 => ?_)
          · replace h := h.1 c23
            obtain ⟨y24, ey24⟩ : ∃ z : Int32, z = v3 + 1 := ⟨_, rfl⟩
            replace h := h y24 ey24
            refine go_iinc X (lv' := [(3, .int y24), (6, .int y22), (5, .int y20), (0, .ref a_o), (4, .int v4)]) y24 dX7_wrong_204 3 rfl (by rw [ey24]; rfl) (by decide) rfl ?_
            refine go_iload X dX7_wrong_207 2 rfl ?_
            refine go_bipush X (v := 32) dX7_wrong_209 (by decide) ?_
            refine go_icmp_ge X 278 dX7_wrong_211 (by decide) (fun c25 => ?_) (fun c25 => ?_)
            · replace h := h.1 c25
              refine go_iload_n X dX7_wrong_278 0 rfl rfl ?_
              refine go_aload_n X dX7_wrong_279 3 rfl rfl ?_
              refine go_get X fi_X7_wrong_X7 0 rfl rfl 2 (by decide) fl_X7_wrong_56 rfl dX7_wrong_280 ?_
              refine go_icmp_ne X 291 dX7_wrong_283 (by decide) (fun c26 => ?_) (fun c26 => ?_)
              · replace h := h.1 c26
                refine go_sipush X (v := 256) dX7_wrong_291 (by decide) ?_
                refine go_iload X dX7_wrong_294 2 rfl ?_
                refine go_bipush X (v := 32) dX7_wrong_296 (by decide) ?_
                refine go_irem X dX7_wrong_298 (by decide) ?_
                refine go_imul X dX7_wrong_299 ?_
                refine go_aload_n X dX7_wrong_300 3 rfl rfl ?_
                refine go_get X fi_X7_wrong_X7 0 rfl rfl 1 (by decide) fl_X7_wrong_7 rfl dX7_wrong_301 ?_
                refine go_iload_n X dX7_wrong_304 0 rfl rfl ?_
                obtain ⟨c27, h⟩ := h
                refine go_iald X 1 1 rfl rfl c27 dX7_wrong_305 ?_
                refine go_iadd X dX7_wrong_306 ?_
                refine go_iconst X (v := 1) dX7_wrong_307 (by decide) ?_
                refine go_iadd X dX7_wrong_308 ?_
                refine go_topi (fun y28 ey28 => ?_)
                replace h := h y28 ey28
                refine go_istore X (lv' := [(7, .int y28), (3, .int y24), (6, .int y22), (5, .int y20), (0, .ref a_o), (4, .int v4)]) dX7_wrong_309 (by decide) rfl ?_
                refine go_iload X dX7_wrong_311 0 rfl ?_
                refine go_aload_n X dX7_wrong_313 4 rfl rfl ?_
                refine go_get X fi_X7_wrong_X7 0 rfl rfl 15 (by decide) fl_X7_wrong_96 rfl dX7_wrong_314 ?_
                refine go_iload X dX7_wrong_317 5 rfl ?_
                refine go_iadd X dX7_wrong_319 ?_
                refine go_icmp_le X 325 dX7_wrong_320 (by decide) (fun c29 => ?_) (fun c29 => ?_)
                · replace h := h.1 c29
                  refine go_iconst X (v := 0) dX7_wrong_325 (by decide) ?_
                  refine go_istore X (lv' := [(8, .int 0), (7, .int y28), (3, .int y24), (6, .int y22), (5, .int y20), (0, .ref a_o), (4, .int v4)]) dX7_wrong_326 (by decide) rfl ?_
                  obtain ⟨n38, h⟩ := h
                  refine go_lv [5, 2, 6, 3, 1, 0] rfl ?_
                  refine pX7_wrong_328 l X a_o a_o_tape a_o_sampleLong a_o_sampleByte a_o_idOf a_o_pieces a_o_pieceLong a_o_bytesOf a_o_dictionary a_o_covered a_o_taken a_o_row a_o_cost a_o_leastD a_o_out a_o_text o_thrown o_taped o_samples o_takenMany o_ahead o_textLong o_outMany o_items o_matches o_textMany o_tape o_idOf o_pieceLong o_bytesOf o_dictionary y24 v4 y22 y28  _ (fun s30 y31 h => ?_) n38 o_row (0 : Int32) h
                  obtain ⟨y36, ey36⟩ : ∃ z : Int32, z = y24 + 1 := ⟨_, rfl⟩
                  replace h := h y36 ey36
                  refine go_iinc X (lv' := [(3, .int y36), (0, .ref a_o), (4, .int v4), (6, .int y22)]) y36 dX7_wrong_374 1 rfl (by rw [ey36]; rfl) (by decide) rfl ?_
                  refine go_iload X dX7_wrong_377 2 rfl ?_
                  refine go_iload X dX7_wrong_379 3 rfl ?_
                  refine go_iadd X dX7_wrong_381 ?_
                  refine go_topi (fun y37 ey37 => ?_)
                  replace h := h y37 ey37
                  refine go_istore X (lv' := [(4, .int y37), (3, .int y36), (0, .ref a_o), (6, .int y22)]) dX7_wrong_382 (by decide) rfl ?_
                  refine go_goto X 142 dX7_wrong_384 (by decide) ?_
                  refine go_lv [2, 1, 0] rfl ?_
                  exact ih s30 y36 y37 h
                · replace h := h.2 c29
                  refine go_iload_n X dX7_wrong_323 1 rfl rfl ?_
                  exact hR y24 (o_ahead, o_textLong, o_row) 324 _ dX7_wrong_324 rfl h
              · replace h := h.2 c26
                refine go_aload_n X dX7_wrong_286 3 rfl rfl ?_
                refine go_get X fi_X7_wrong_X7 0 rfl rfl 2 (by decide) fl_X7_wrong_56 rfl dX7_wrong_287 ?_
                exact hR o_taped (o_ahead, o_textLong, o_row) 290 _ dX7_wrong_290 rfl h
            · replace h := h.2 c25
              refine go_iload_n X dX7_wrong_214 0 rfl rfl ?_
              refine go_iload X dX7_wrong_215 1 rfl ?_
              refine go_iadd X dX7_wrong_217 ?_
              refine go_aload_n X dX7_wrong_218 3 rfl rfl ?_
              refine go_get X fi_X7_wrong_X7 0 rfl rfl 2 (by decide) fl_X7_wrong_56 rfl dX7_wrong_219 ?_
              refine go_icmp_le X 230 dX7_wrong_222 (by decide) (fun c39 => ?_) (fun c39 => ?_)
              · replace h := h.1 c39
                refine go_iconst X (v := 0) dX7_wrong_230 (by decide) ?_
                refine go_istore X (lv' := [(7, .int 0), (3, .int y24), (6, .int y22), (5, .int y20), (0, .ref a_o), (4, .int v4)]) dX7_wrong_231 (by decide) rfl ?_
                obtain ⟨n48, h⟩ := h
                refine go_lv [4, 1, 5, 2, 0] rfl ?_
                refine pX7_wrong_233 l X a_o a_o_tape a_o_sampleLong a_o_sampleByte a_o_idOf a_o_pieces a_o_pieceLong a_o_bytesOf a_o_dictionary a_o_covered a_o_taken a_o_row a_o_cost a_o_leastD a_o_out a_o_text o_thrown o_taped o_samples o_takenMany o_ahead o_textLong o_outMany o_items o_matches o_textMany o_tape o_idOf o_pieceLong o_bytesOf o_dictionary y24 v4 y22  _ (fun s40 y41 h => ?_) n48 o_row (0 : Int32) h
                refine go_iload_n X dX7_wrong_270 1 rfl rfl ?_
                refine go_iload X dX7_wrong_271 3 rfl ?_
                refine go_iadd X dX7_wrong_273 ?_
                refine go_topi (fun y46 ey46 => ?_)
                replace h := h y46 ey46
                refine go_istore_n X (lv' := [(3, .int y46), (0, .ref a_o), (4, .int v4), (6, .int y22)]) dX7_wrong_274 rfl (by decide) rfl ?_
                refine go_goto X 377 dX7_wrong_275 (by decide) ?_
                refine go_iload X dX7_wrong_377 2 rfl ?_
                refine go_iload X dX7_wrong_379 3 rfl ?_
                refine go_iadd X dX7_wrong_381 ?_
                refine go_topi (fun y47 ey47 => ?_)
                replace h := h y47 ey47
                refine go_istore X (lv' := [(4, .int y47), (3, .int y46), (0, .ref a_o), (6, .int y22)]) dX7_wrong_382 (by decide) rfl ?_
                refine go_goto X 142 dX7_wrong_384 (by decide) ?_
                refine go_lv [2, 1, 0] rfl ?_
                exact ih s40 y46 y47 h
              · replace h := h.2 c39
                refine go_aload_n X dX7_wrong_225 3 rfl rfl ?_
                refine go_get X fi_X7_wrong_X7 0 rfl rfl 2 (by decide) fl_X7_wrong_56 rfl dX7_wrong_226 ?_
                exact hR o_taped (o_ahead, o_textLong, o_row) 229 _ dX7_wrong_229 rfl h
          · replace h := h.2 c23
            refine go_iload_n X dX7_wrong_202 3 rfl rfl ?_
            exact hR v3 (o_ahead, o_textLong, o_row) 203 _ dX7_wrong_203 rfl h
        · replace h := h.2 c21
          refine go_iload X dX7_wrong_174 0 rfl ?_
          refine go_iconst X (v := 1) dX7_wrong_176 (by decide) ?_
          refine go_iadd X dX7_wrong_177 ?_
          refine go_goto X 188 dX7_wrong_178 (by decide) ?_
          refine go_topi (fun y49 ey49 => ?_)
          replace h := h y49 ey49
          refine go_istore X (lv' := [(6, .int y49), (5, .int y20), (0, .ref a_o), (3, .int v3), (4, .int v4)]) dX7_wrong_188 (by decide) rfl ?_
          refine go_iload X dX7_wrong_190 4 rfl ?_
          refine go_iload X dX7_wrong_192 0 rfl ?_
          refine go_iadd X dX7_wrong_194 ?_
          refine go_aload_n X dX7_wrong_195 2 rfl rfl ?_
          refine go_get X fi_X7_wrong_X7 0 rfl rfl 16 (by decide) fl_X7_wrong_103 rfl dX7_wrong_196 ?_
          refine go_icmp_le X 204 dX7_wrong_199 (by decide) (fun c50 => ?_) (fun c50 => ?_)
          · replace h := h.1 c50
            obtain ⟨y51, ey51⟩ : ∃ z : Int32, z = v3 + 1 := ⟨_, rfl⟩
            replace h := h y51 ey51
            refine go_iinc X (lv' := [(3, .int y51), (6, .int y49), (5, .int y20), (0, .ref a_o), (4, .int v4)]) y51 dX7_wrong_204 3 rfl (by rw [ey51]; rfl) (by decide) rfl ?_
            refine go_iload X dX7_wrong_207 2 rfl ?_
            refine go_bipush X (v := 32) dX7_wrong_209 (by decide) ?_
            refine go_icmp_ge X 278 dX7_wrong_211 (by decide) (fun c52 => ?_) (fun c52 => ?_)
            · replace h := h.1 c52
              refine go_iload_n X dX7_wrong_278 0 rfl rfl ?_
              refine go_aload_n X dX7_wrong_279 3 rfl rfl ?_
              refine go_get X fi_X7_wrong_X7 0 rfl rfl 2 (by decide) fl_X7_wrong_56 rfl dX7_wrong_280 ?_
              refine go_icmp_ne X 291 dX7_wrong_283 (by decide) (fun c53 => ?_) (fun c53 => ?_)
              · replace h := h.1 c53
                refine go_sipush X (v := 256) dX7_wrong_291 (by decide) ?_
                refine go_iload X dX7_wrong_294 2 rfl ?_
                refine go_bipush X (v := 32) dX7_wrong_296 (by decide) ?_
                refine go_irem X dX7_wrong_298 (by decide) ?_
                refine go_imul X dX7_wrong_299 ?_
                refine go_aload_n X dX7_wrong_300 3 rfl rfl ?_
                refine go_get X fi_X7_wrong_X7 0 rfl rfl 1 (by decide) fl_X7_wrong_7 rfl dX7_wrong_301 ?_
                refine go_iload_n X dX7_wrong_304 0 rfl rfl ?_
                obtain ⟨c54, h⟩ := h
                refine go_iald X 1 1 rfl rfl c54 dX7_wrong_305 ?_
                refine go_iadd X dX7_wrong_306 ?_
                refine go_iconst X (v := 1) dX7_wrong_307 (by decide) ?_
                refine go_iadd X dX7_wrong_308 ?_
                refine go_topi (fun y55 ey55 => ?_)
                replace h := h y55 ey55
                refine go_istore X (lv' := [(7, .int y55), (3, .int y51), (6, .int y49), (5, .int y20), (0, .ref a_o), (4, .int v4)]) dX7_wrong_309 (by decide) rfl ?_
                refine go_iload X dX7_wrong_311 0 rfl ?_
                refine go_aload_n X dX7_wrong_313 4 rfl rfl ?_
                refine go_get X fi_X7_wrong_X7 0 rfl rfl 15 (by decide) fl_X7_wrong_96 rfl dX7_wrong_314 ?_
                refine go_iload X dX7_wrong_317 5 rfl ?_
                refine go_iadd X dX7_wrong_319 ?_
                refine go_icmp_le X 325 dX7_wrong_320 (by decide) (fun c56 => ?_) (fun c56 => ?_)
                · replace h := h.1 c56
                  refine go_iconst X (v := 0) dX7_wrong_325 (by decide) ?_
                  refine go_istore X (lv' := [(8, .int 0), (7, .int y55), (3, .int y51), (6, .int y49), (5, .int y20), (0, .ref a_o), (4, .int v4)]) dX7_wrong_326 (by decide) rfl ?_
                  obtain ⟨n61, h⟩ := h
                  refine go_lv [5, 2, 6, 3, 1, 0] rfl ?_
                  refine pX7_wrong_328 l X a_o a_o_tape a_o_sampleLong a_o_sampleByte a_o_idOf a_o_pieces a_o_pieceLong a_o_bytesOf a_o_dictionary a_o_covered a_o_taken a_o_row a_o_cost a_o_leastD a_o_out a_o_text o_thrown o_taped o_samples o_takenMany o_ahead o_textLong o_outMany o_items o_matches o_textMany o_tape o_idOf o_pieceLong o_bytesOf o_dictionary y51 v4 y49 y55  _ (fun s57 y58 h => ?_) n61 o_row (0 : Int32) h
                  obtain ⟨y59, ey59⟩ : ∃ z : Int32, z = y51 + 1 := ⟨_, rfl⟩
                  replace h := h y59 ey59
                  refine go_iinc X (lv' := [(3, .int y59), (0, .ref a_o), (4, .int v4), (6, .int y49)]) y59 dX7_wrong_374 1 rfl (by rw [ey59]; rfl) (by decide) rfl ?_
                  refine go_iload X dX7_wrong_377 2 rfl ?_
                  refine go_iload X dX7_wrong_379 3 rfl ?_
                  refine go_iadd X dX7_wrong_381 ?_
                  refine go_topi (fun y60 ey60 => ?_)
                  replace h := h y60 ey60
                  refine go_istore X (lv' := [(4, .int y60), (3, .int y59), (0, .ref a_o), (6, .int y49)]) dX7_wrong_382 (by decide) rfl ?_
                  refine go_goto X 142 dX7_wrong_384 (by decide) ?_
                  refine go_lv [2, 1, 0] rfl ?_
                  exact ih s57 y59 y60 h
                · replace h := h.2 c56
                  refine go_iload_n X dX7_wrong_323 1 rfl rfl ?_
                  exact hR y51 (o_ahead, o_textLong, o_row) 324 _ dX7_wrong_324 rfl h
              · replace h := h.2 c53
                refine go_aload_n X dX7_wrong_286 3 rfl rfl ?_
                refine go_get X fi_X7_wrong_X7 0 rfl rfl 2 (by decide) fl_X7_wrong_56 rfl dX7_wrong_287 ?_
                exact hR o_taped (o_ahead, o_textLong, o_row) 290 _ dX7_wrong_290 rfl h
            · replace h := h.2 c52
              refine go_iload_n X dX7_wrong_214 0 rfl rfl ?_
              refine go_iload X dX7_wrong_215 1 rfl ?_
              refine go_iadd X dX7_wrong_217 ?_
              refine go_aload_n X dX7_wrong_218 3 rfl rfl ?_
              refine go_get X fi_X7_wrong_X7 0 rfl rfl 2 (by decide) fl_X7_wrong_56 rfl dX7_wrong_219 ?_
              refine go_icmp_le X 230 dX7_wrong_222 (by decide) (fun c62 => ?_) (fun c62 => ?_)
              · replace h := h.1 c62
                refine go_iconst X (v := 0) dX7_wrong_230 (by decide) ?_
                refine go_istore X (lv' := [(7, .int 0), (3, .int y51), (6, .int y49), (5, .int y20), (0, .ref a_o), (4, .int v4)]) dX7_wrong_231 (by decide) rfl ?_
                obtain ⟨n67, h⟩ := h
                refine go_lv [4, 1, 5, 2, 0] rfl ?_
                refine pX7_wrong_233 l X a_o a_o_tape a_o_sampleLong a_o_sampleByte a_o_idOf a_o_pieces a_o_pieceLong a_o_bytesOf a_o_dictionary a_o_covered a_o_taken a_o_row a_o_cost a_o_leastD a_o_out a_o_text o_thrown o_taped o_samples o_takenMany o_ahead o_textLong o_outMany o_items o_matches o_textMany o_tape o_idOf o_pieceLong o_bytesOf o_dictionary y51 v4 y49  _ (fun s63 y64 h => ?_) n67 o_row (0 : Int32) h
                refine go_iload_n X dX7_wrong_270 1 rfl rfl ?_
                refine go_iload X dX7_wrong_271 3 rfl ?_
                refine go_iadd X dX7_wrong_273 ?_
                refine go_topi (fun y65 ey65 => ?_)
                replace h := h y65 ey65
                refine go_istore_n X (lv' := [(3, .int y65), (0, .ref a_o), (4, .int v4), (6, .int y49)]) dX7_wrong_274 rfl (by decide) rfl ?_
                refine go_goto X 377 dX7_wrong_275 (by decide) ?_
                refine go_iload X dX7_wrong_377 2 rfl ?_
                refine go_iload X dX7_wrong_379 3 rfl ?_
                refine go_iadd X dX7_wrong_381 ?_
                refine go_topi (fun y66 ey66 => ?_)
                replace h := h y66 ey66
                refine go_istore X (lv' := [(4, .int y66), (3, .int y65), (0, .ref a_o), (6, .int y49)]) dX7_wrong_382 (by decide) rfl ?_
                refine go_goto X 142 dX7_wrong_384 (by decide) ?_
                refine go_lv [2, 1, 0] rfl ?_
                exact ih s63 y65 y66 h
              · replace h := h.2 c62
                refine go_aload_n X dX7_wrong_225 3 rfl rfl ?_
                refine go_get X fi_X7_wrong_X7 0 rfl rfl 2 (by decide) fl_X7_wrong_56 rfl dX7_wrong_226 ?_
                exact hR o_taped (o_ahead, o_textLong, o_row) 229 _ dX7_wrong_229 rfl h
          · replace h := h.2 c50
            refine go_iload_n X dX7_wrong_202 3 rfl rfl ?_
            exact hR v3 (o_ahead, o_textLong, o_row) 203 _ dX7_wrong_203 rfl h
set_option maxRecDepth 100000 in
set_option maxHeartbeats 4000000 in
theorem kX7_wrong (l : Launch) (D : va_G) (cy : Nat → ClassId) (a_o : Nat) (a_o_tape : Nat) (a_o_sampleLong : Nat) (a_o_sampleByte : Nat) (a_o_idOf : Nat) (a_o_pieces : Nat) (a_o_pieceLong : Nat) (a_o_bytesOf : Nat) (a_o_dictionary : Nat) (a_o_covered : Nat) (a_o_taken : Nat) (a_o_row : Nat) (a_o_cost : Nat) (a_o_leastD : Nat) (a_o_out : Nat) (a_o_text : Nat) (o_thrown : Int32) (o_taped : Int32) (o_samples : Int32) (o_takenMany : Int32) (o_ahead : Int32) (o_textLong : Int32) (o_outMany : Int32) (o_items : Int32) (o_matches : Int32) (o_textMany : Int32) (o_tape : Nat → Int32) (o_idOf : Nat → Int32) (o_pieceLong : Nat → Int32) (o_bytesOf : Nat → Int32) (o_dictionary : Nat → Int32) (o_row : Nat → Int32) (post : Int32 → Int32 → Int32 → (Nat → Int32) → Prop) (h : wX7_wrong o_taped o_ahead o_textLong o_tape o_idOf o_pieceLong o_bytesOf o_dictionary o_row post) : MetI l yX7_wrong wsX7_wrong rm_X7_wrong D (tyL cy) [.ref a_o] [(a_o, .inr (10, [.int o_thrown, .ref a_o_tape, .int o_taped, .int o_samples, .ref a_o_sampleLong, .ref a_o_sampleByte, .ref a_o_idOf, .ref a_o_pieces, .ref a_o_pieceLong, .ref a_o_bytesOf, .ref a_o_dictionary, .ref a_o_covered, .ref a_o_taken, .int o_takenMany, .ref a_o_row, .int o_ahead, .int o_textLong, .ref a_o_cost, .ref a_o_leastD, .ref a_o_out, .int o_outMany, .int o_items, .int o_matches, .ref a_o_text, .int o_textMany])), (a_o_tape, .inl (cy 1, 200, .inl o_tape)), (a_o_idOf, .inl (cy 1, 6, .inl o_idOf)), (a_o_pieceLong, .inl (cy 1, 480, .inl o_pieceLong)), (a_o_bytesOf, .inl (cy 1, 6, .inl o_bytesOf)), (a_o_dictionary, .inl (cy 1, 480, .inl o_dictionary)), (a_o_row, .inl (cy 1, 280, .inl o_row))] (fun u : Int32 × Int32 × (Nat → Int32) => [(a_o, .inr (10, [.int o_thrown, .ref a_o_tape, .int o_taped, .int o_samples, .ref a_o_sampleLong, .ref a_o_sampleByte, .ref a_o_idOf, .ref a_o_pieces, .ref a_o_pieceLong, .ref a_o_bytesOf, .ref a_o_dictionary, .ref a_o_covered, .ref a_o_taken, .int o_takenMany, .ref a_o_row, .int u.1, .int u.2.1, .ref a_o_cost, .ref a_o_leastD, .ref a_o_out, .int o_outMany, .int o_items, .int o_matches, .ref a_o_text, .int o_textMany])), (a_o_tape, .inl (cy 1, 200, .inl o_tape)), (a_o_idOf, .inl (cy 1, 6, .inl o_idOf)), (a_o_pieceLong, .inl (cy 1, 480, .inl o_pieceLong)), (a_o_bytesOf, .inl (cy 1, 6, .inl o_bytesOf)), (a_o_dictionary, .inl (cy 1, 480, .inl o_dictionary)), (a_o_row, .inl (cy 1, 280, .inl u.2.2))]) (fun r => fun (u : Int32 × Int32 × (Nat → Int32)) => post r u.1 u.2.1 u.2.2) 0 0 := by
  refine metI_of (cc := cX7_wrong) (maxL := 9) (lv := [(0, .ref a_o)]) (by decide) rfl (Nat.le_of_ble_eq_true rfl) rfl ?_
  intro p e s m below meth c Q A X hlk hR
  unfold wX7_wrong at h
  refine go_aload_n X dX7_wrong_0 0 rfl rfl ?_
  refine go_get X fi_X7_wrong_X7 0 rfl rfl 2 (by decide) fl_X7_wrong_56 rfl dX7_wrong_1 ?_
  refine go_if_le X 16 dX7_wrong_4 (by decide) (fun c1 => ?_) (fun c1 => ?_)
  · replace h := h.1 c1
    refine go_iconst X (v := 0) dX7_wrong_16 (by decide) ?_
    refine go_istore_n X (lv' := [(1, .int 0), (0, .ref a_o)]) dX7_wrong_17 rfl (by decide) rfl ?_
    refine go_iload_n X dX7_wrong_18 0 rfl rfl ?_
    refine go_if_ne X 26 dX7_wrong_19 (by decide) (fun c0 => absurd c0 (by decide)) (fun _ => ?_)
    refine go_iconst X (v := (-1)) dX7_wrong_22 (by decide) ?_
    refine go_goto X 31 dX7_wrong_23 (by decide) ?_
    refine go_istore_n X (lv' := [(2, .int (-1)), (1, .int 0), (0, .ref a_o)]) dX7_wrong_31 rfl (by decide) rfl ?_
    refine go_aload_n X dX7_wrong_32 2 rfl rfl ?_
    refine go_get X fi_X7_wrong_X7 0 rfl rfl 2 (by decide) fl_X7_wrong_56 rfl dX7_wrong_33 ?_
    refine go_if_eq X 48 dX7_wrong_36 (by decide) (fun c2 => ?_) (fun c2 => ?_)
    · replace h := h.1 c2
      refine go_iconst X (v := 0) dX7_wrong_48 (by decide) ?_
      exact hR 0 (o_ahead, o_textLong, o_row) 49 _ dX7_wrong_49 rfl h
    · replace h := h.2 c2
      refine go_iload_n X dX7_wrong_39 1 rfl rfl ?_
      refine go_if_le X 50 dX7_wrong_40 (by decide) (fun _ => ?_) (fun c0 => absurd c0 (by decide))
      refine go_aload_n X dX7_wrong_50 2 rfl rfl ?_
      refine go_get X fi_X7_wrong_X7 0 rfl rfl 2 (by decide) fl_X7_wrong_56 rfl dX7_wrong_51 ?_
      refine go_iconst X (v := 3) dX7_wrong_54 (by decide) ?_
      refine go_icmp_ge X 63 dX7_wrong_55 (by decide) (fun c3 => ?_) (fun c3 => ?_)
      · replace h := h.1 c3
        refine go_sipush X (v := 256) dX7_wrong_63 (by decide) ?_
        refine go_aload_n X dX7_wrong_66 2 rfl rfl ?_
        refine go_get X fi_X7_wrong_X7 0 rfl rfl 1 (by decide) fl_X7_wrong_7 rfl dX7_wrong_67 ?_
        refine go_iconst X (v := 1) dX7_wrong_70 (by decide) ?_
        obtain ⟨c4, h⟩ := h
        refine go_iald X 1 1 rfl rfl c4 dX7_wrong_71 ?_
        refine go_imul X dX7_wrong_72 ?_
        refine go_aload_n X dX7_wrong_73 2 rfl rfl ?_
        refine go_get X fi_X7_wrong_X7 0 rfl rfl 1 (by decide) fl_X7_wrong_7 rfl dX7_wrong_74 ?_
        refine go_iconst X (v := 2) dX7_wrong_77 (by decide) ?_
        obtain ⟨c5, h⟩ := h
        refine go_iald X 1 1 rfl rfl c5 dX7_wrong_78 ?_
        refine go_iadd X dX7_wrong_79 ?_
        refine go_iload_n X dX7_wrong_80 0 rfl rfl ?_
        refine go_iconst X (v := (-1)) dX7_wrong_81 (by decide) ?_
        refine go_icmp_ne X 89 dX7_wrong_82 (by decide) (fun c0 => absurd c0 (by decide)) (fun _ => ?_)
        refine go_iconst X (v := 0) dX7_wrong_85 (by decide) ?_
        refine go_goto X 94 dX7_wrong_86 (by decide) ?_
        refine go_icmp_eq X 99 dX7_wrong_94 (by decide) (fun c6 => ?_) (fun c6 => ?_)
        · replace h := h.1 c6
          refine go_aload_n X dX7_wrong_99 2 rfl rfl ?_
          refine go_get X fi_X7_wrong_X7 0 rfl rfl 2 (by decide) fl_X7_wrong_56 rfl dX7_wrong_100 ?_
          refine go_iconst X (v := 3) dX7_wrong_103 (by decide) ?_
          refine go_icmp_eq X 119 dX7_wrong_104 (by decide) (fun c7 => ?_) (fun c7 => ?_)
          · replace h := h.1 c7
            refine go_iconst X (v := 3) dX7_wrong_119 (by decide) ?_
            exact hR 3 (o_ahead, o_textLong, o_row) 120 _ dX7_wrong_120 rfl h
          · replace h := h.2 c7
            refine go_aload_n X dX7_wrong_107 2 rfl rfl ?_
            refine go_get X fi_X7_wrong_X7 0 rfl rfl 1 (by decide) fl_X7_wrong_7 rfl dX7_wrong_108 ?_
            refine go_iconst X (v := 3) dX7_wrong_111 (by decide) ?_
            obtain ⟨c8, h⟩ := h
            refine go_iald X 1 1 rfl rfl c8 dX7_wrong_112 ?_
            refine go_sipush X (v := 200) dX7_wrong_113 (by decide) ?_
            refine go_icmp_le X 121 dX7_wrong_116 (by decide) (fun c9 => ?_) (fun c9 => ?_)
            · replace h := h.1 c9
              refine go_aload_n X dX7_wrong_121 2 rfl rfl ?_
              refine go_iload_n X dX7_wrong_122 0 rfl rfl ?_
              refine go_iconst X (v := (-1)) dX7_wrong_123 (by decide) ?_
              refine go_callVv X (kX7_layAhead l D cy a_o a_o_tape a_o_sampleLong a_o_sampleByte a_o_idOf a_o_pieces a_o_pieceLong a_o_bytesOf a_o_dictionary a_o_covered a_o_taken a_o_row a_o_cost a_o_leastD a_o_out a_o_text o_thrown o_taped o_samples o_takenMany o_ahead o_textLong o_outMany o_items o_matches o_textMany o_pieceLong o_bytesOf o_dictionary o_row ((-1) : Int32) ((-1) : Int32) _ h) (cwV 2 X.2.2.2.2.1 gX7_wrong_X7_layAhead rfl rfl rfl cd_X7_layAhead ⟨by decide, by decide⟩) (wr := [(a_o_tape, .inl (cy 1, 200, .inl o_tape)), (a_o_idOf, .inl (cy 1, 6, .inl o_idOf))]) (ws2 := fun u => [(a_o, .inr (10, [.int o_thrown, .ref a_o_tape, .int o_taped, .int o_samples, .ref a_o_sampleLong, .ref a_o_sampleByte, .ref a_o_idOf, .ref a_o_pieces, .ref a_o_pieceLong, .ref a_o_bytesOf, .ref a_o_dictionary, .ref a_o_covered, .ref a_o_taken, .int o_takenMany, .ref a_o_row, .int u.1, .int o_textLong, .ref a_o_cost, .ref a_o_leastD, .ref a_o_out, .int o_outMany, .int o_items, .int o_matches, .ref a_o_text, .int o_textMany])), (a_o_tape, .inl (cy 1, 200, .inl o_tape)), (a_o_idOf, .inl (cy 1, 6, .inl o_idOf)), (a_o_pieceLong, .inl (cy 1, 480, .inl o_pieceLong)), (a_o_bytesOf, .inl (cy 1, 6, .inl o_bytesOf)), (a_o_dictionary, .inl (cy 1, 480, .inl o_dictionary)), (a_o_row, .inl (cy 1, 280, .inl u.2))]) (perm_idx [0, 3, 4, 5, 6, 1, 2] rfl rfl) (fun u => perm_idx [0, 5, 6, 1, 2, 3, 4] rfl rfl) rfl rfl rfl rfl (Nat.le_of_ble_eq_true rfl) dX7_wrong_124 ⟨by decide, by decide⟩ (fun u h => ?_)
              obtain ⟨s10, s11⟩ := u
              refine go_aload_n X dX7_wrong_127 2 rfl rfl ?_
              refine go_aload_n X dX7_wrong_128 2 rfl rfl ?_
              refine go_get X fi_X7_wrong_X7 0 rfl rfl 1 (by decide) fl_X7_wrong_7 rfl dX7_wrong_129 ?_
              refine go_iconst X (v := 3) dX7_wrong_132 (by decide) ?_
              obtain ⟨c12, h⟩ := h
              refine go_iald X 1 1 rfl rfl c12 dX7_wrong_133 ?_
              refine go_topi (fun y13 ey13 => ?_)
              replace h := h y13 ey13
              refine go_put X (ws' := [(a_o, .inr (10, [.int o_thrown, .ref a_o_tape, .int o_taped, .int o_samples, .ref a_o_sampleLong, .ref a_o_sampleByte, .ref a_o_idOf, .ref a_o_pieces, .ref a_o_pieceLong, .ref a_o_bytesOf, .ref a_o_dictionary, .ref a_o_covered, .ref a_o_taken, .int o_takenMany, .ref a_o_row, .int s10, .int y13, .ref a_o_cost, .ref a_o_leastD, .ref a_o_out, .int o_outMany, .int o_items, .int o_matches, .ref a_o_text, .int o_textMany])), (a_o_tape, .inl (cy 1, 200, .inl o_tape)), (a_o_idOf, .inl (cy 1, 6, .inl o_idOf)), (a_o_pieceLong, .inl (cy 1, 480, .inl o_pieceLong)), (a_o_bytesOf, .inl (cy 1, 6, .inl o_bytesOf)), (a_o_dictionary, .inl (cy 1, 480, .inl o_dictionary)), (a_o_row, .inl (cy 1, 280, .inl s11))]) fi_X7_wrong_X7 tyX7 tyX7_ok nmX7 0 rfl rfl 16 (by decide) fl_X7_wrong_103 rfl (tyX7_ok 16 (by decide)) rfl rfl (Nat.le_of_ble_eq_true rfl) rfl dX7_wrong_134 ?_
              refine go_iconst X (v := 4) dX7_wrong_137 (by decide) ?_
              refine go_istore_n X (lv' := [(3, .int 4), (2, .int (-1)), (1, .int 0), (0, .ref a_o)]) dX7_wrong_138 rfl (by decide) rfl ?_
              refine go_iconst X (v := 0) dX7_wrong_139 (by decide) ?_
              refine go_istore X (lv' := [(4, .int 0), (3, .int 4), (2, .int (-1)), (1, .int 0), (0, .ref a_o)]) dX7_wrong_140 (by decide) rfl ?_
              obtain ⟨n70, h⟩ := h
              refine go_lv [4, 1, 0] rfl ?_
              refine pX7_wrong_142 l X a_o a_o_tape a_o_sampleLong a_o_sampleByte a_o_idOf a_o_pieces a_o_pieceLong a_o_bytesOf a_o_dictionary a_o_covered a_o_taken a_o_row a_o_cost a_o_leastD a_o_out a_o_text o_thrown o_taped o_samples o_takenMany s10 y13 o_outMany o_items o_matches o_textMany o_tape o_idOf o_pieceLong o_bytesOf o_dictionary post hR _ (fun s14 y15 y16 h => ?_) n70 s11 (4 : Int32) (0 : Int32) h
              refine go_iload X dX7_wrong_387 2 rfl ?_
              refine go_aload_n X dX7_wrong_389 0 rfl rfl ?_
              refine go_get X fi_X7_wrong_X7 0 rfl rfl 16 (by decide) fl_X7_wrong_103 rfl dX7_wrong_390 ?_
              refine go_icmp_lt X 404 dX7_wrong_393 (by decide) (fun c68 => ?_) (fun c68 => ?_)
              · replace h := h.1 c68
                refine go_iload_n X dX7_wrong_404 1 rfl rfl ?_
                refine go_goto X 409 dX7_wrong_405 (by decide) ?_
                exact hR y15 (s10, y13, s14) 409 _ dX7_wrong_409 rfl h
              · replace h := h.2 c68
                refine go_iload_n X dX7_wrong_396 1 rfl rfl ?_
                refine go_aload_n X dX7_wrong_397 0 rfl rfl ?_
                refine go_get X fi_X7_wrong_X7 0 rfl rfl 2 (by decide) fl_X7_wrong_56 rfl dX7_wrong_398 ?_
                refine go_icmp_ge X 408 dX7_wrong_401 (by decide) (fun c69 => ?_) (fun c69 => ?_)
                · replace h := h.1 c69
                  refine go_iconst X (v := (-1)) dX7_wrong_408 (by decide) ?_
                  exact hR (-1) (s10, y13, s14) 409 _ dX7_wrong_409 rfl h
                · replace h := h.2 c69
                  refine go_iload_n X dX7_wrong_404 1 rfl rfl ?_
                  refine go_goto X 409 dX7_wrong_405 (by decide) ?_
                  exact hR y15 (s10, y13, s14) 409 _ dX7_wrong_409 rfl h
            · replace h := h.2 c9
              refine go_iconst X (v := 3) dX7_wrong_119 (by decide) ?_
              exact hR 3 (o_ahead, o_textLong, o_row) 120 _ dX7_wrong_120 rfl h
        · replace h := h.2 c6
          refine go_iconst X (v := 1) dX7_wrong_97 (by decide) ?_
          exact hR 1 (o_ahead, o_textLong, o_row) 98 _ dX7_wrong_98 rfl h
      · replace h := h.2 c3
        refine go_aload_n X dX7_wrong_58 2 rfl rfl ?_
        refine go_get X fi_X7_wrong_X7 0 rfl rfl 2 (by decide) fl_X7_wrong_56 rfl dX7_wrong_59 ?_
        exact hR o_taped (o_ahead, o_textLong, o_row) 62 _ dX7_wrong_62 rfl h
  · replace h := h.2 c1
    refine go_aload_n X dX7_wrong_7 0 rfl rfl ?_
    refine go_get X fi_X7_wrong_X7 0 rfl rfl 1 (by decide) fl_X7_wrong_7 rfl dX7_wrong_8 ?_
    refine go_iconst X (v := 0) dX7_wrong_11 (by decide) ?_
    obtain ⟨c71, h⟩ := h
    refine go_iald X 1 1 rfl rfl c71 dX7_wrong_12 ?_
    refine go_goto X 17 dX7_wrong_13 (by decide) ?_
    refine go_topi (fun y72 ey72 => ?_)
    replace h := h y72 ey72
    refine go_istore_n X (lv' := [(1, .int y72), (0, .ref a_o)]) dX7_wrong_17 rfl (by decide) rfl ?_
    refine go_iload_n X dX7_wrong_18 0 rfl rfl ?_
    refine go_if_ne X 26 dX7_wrong_19 (by decide) (fun c73 => ?_) (fun c73 => ?_)
    · replace h := h.1 c73
      refine go_aload_n X dX7_wrong_26 1 rfl rfl ?_
      refine go_iload_n X dX7_wrong_27 0 rfl rfl ?_
      refine go_callVi X (kX7_firstWith l D cy a_o a_o_tape a_o_sampleLong a_o_sampleByte a_o_idOf a_o_pieces a_o_pieceLong a_o_bytesOf a_o_dictionary a_o_covered a_o_taken a_o_row a_o_cost a_o_leastD a_o_out a_o_text o_thrown o_taped o_samples o_takenMany o_ahead o_textLong o_outMany o_items o_matches o_textMany o_idOf y72 _ h) (cwV 1 X.2.2.2.2.1 gX7_wrong_X7_firstWith rfl rfl rfl cd_X7_firstWith ⟨by decide, by decide⟩) (wr := [(a_o_tape, .inl (cy 1, 200, .inl o_tape)), (a_o_pieceLong, .inl (cy 1, 480, .inl o_pieceLong)), (a_o_bytesOf, .inl (cy 1, 6, .inl o_bytesOf)), (a_o_dictionary, .inl (cy 1, 480, .inl o_dictionary)), (a_o_row, .inl (cy 1, 280, .inl o_row))]) (ws2 := fun u => [(a_o, .inr (10, [.int o_thrown, .ref a_o_tape, .int o_taped, .int o_samples, .ref a_o_sampleLong, .ref a_o_sampleByte, .ref a_o_idOf, .ref a_o_pieces, .ref a_o_pieceLong, .ref a_o_bytesOf, .ref a_o_dictionary, .ref a_o_covered, .ref a_o_taken, .int o_takenMany, .ref a_o_row, .int o_ahead, .int o_textLong, .ref a_o_cost, .ref a_o_leastD, .ref a_o_out, .int o_outMany, .int o_items, .int o_matches, .ref a_o_text, .int o_textMany])), (a_o_tape, .inl (cy 1, 200, .inl o_tape)), (a_o_idOf, .inl (cy 1, 6, .inl o_idOf)), (a_o_pieceLong, .inl (cy 1, 480, .inl o_pieceLong)), (a_o_bytesOf, .inl (cy 1, 6, .inl o_bytesOf)), (a_o_dictionary, .inl (cy 1, 480, .inl o_dictionary)), (a_o_row, .inl (cy 1, 280, .inl o_row))]) (perm_idx [0, 2, 1, 3, 4, 5, 6] rfl rfl) (fun u => perm_idx [0, 2, 1, 3, 4, 5, 6] rfl rfl) rfl rfl rfl rfl (Nat.le_of_ble_eq_true rfl) dX7_wrong_28 ⟨by decide, by decide⟩ (fun r74 u h => ?_)
      refine go_istore_n X (lv' := [(2, .int r74), (1, .int y72), (0, .ref a_o)]) dX7_wrong_31 rfl (by decide) rfl ?_
      refine go_aload_n X dX7_wrong_32 2 rfl rfl ?_
      refine go_get X fi_X7_wrong_X7 0 rfl rfl 2 (by decide) fl_X7_wrong_56 rfl dX7_wrong_33 ?_
      refine go_if_eq X 48 dX7_wrong_36 (by decide) (fun c75 => ?_) (fun c75 => ?_)
      · replace h := h.1 c75
        refine go_iconst X (v := 0) dX7_wrong_48 (by decide) ?_
        exact hR 0 (o_ahead, o_textLong, o_row) 49 _ dX7_wrong_49 rfl h
      · replace h := h.2 c75
        refine go_iload_n X dX7_wrong_39 1 rfl rfl ?_
        refine go_if_le X 50 dX7_wrong_40 (by decide) (fun c76 => ?_) (fun c76 => ?_)
        · replace h := h.1 c76
          refine go_aload_n X dX7_wrong_50 2 rfl rfl ?_
          refine go_get X fi_X7_wrong_X7 0 rfl rfl 2 (by decide) fl_X7_wrong_56 rfl dX7_wrong_51 ?_
          refine go_iconst X (v := 3) dX7_wrong_54 (by decide) ?_
          refine go_icmp_ge X 63 dX7_wrong_55 (by decide) (fun c77 => ?_) (fun c77 => ?_)
          · replace h := h.1 c77
            refine go_sipush X (v := 256) dX7_wrong_63 (by decide) ?_
            refine go_aload_n X dX7_wrong_66 2 rfl rfl ?_
            refine go_get X fi_X7_wrong_X7 0 rfl rfl 1 (by decide) fl_X7_wrong_7 rfl dX7_wrong_67 ?_
            refine go_iconst X (v := 1) dX7_wrong_70 (by decide) ?_
            obtain ⟨c78, h⟩ := h
            refine go_iald X 1 1 rfl rfl c78 dX7_wrong_71 ?_
            refine go_imul X dX7_wrong_72 ?_
            refine go_aload_n X dX7_wrong_73 2 rfl rfl ?_
            refine go_get X fi_X7_wrong_X7 0 rfl rfl 1 (by decide) fl_X7_wrong_7 rfl dX7_wrong_74 ?_
            refine go_iconst X (v := 2) dX7_wrong_77 (by decide) ?_
            obtain ⟨c79, h⟩ := h
            refine go_iald X 1 1 rfl rfl c79 dX7_wrong_78 ?_
            refine go_iadd X dX7_wrong_79 ?_
            refine go_iload_n X dX7_wrong_80 0 rfl rfl ?_
            refine go_iconst X (v := (-1)) dX7_wrong_81 (by decide) ?_
            refine go_icmp_ne X 89 dX7_wrong_82 (by decide) (fun c80 => ?_) (fun c80 => ?_)
            · replace h := h.1 c80
              refine go_aload_n X dX7_wrong_89 2 rfl rfl ?_
              refine go_iload_n X dX7_wrong_90 0 rfl rfl ?_
              refine go_callVi X (kX7_sumOf l D cy a_o a_o_tape a_o_sampleLong a_o_sampleByte a_o_idOf a_o_pieces a_o_pieceLong a_o_bytesOf a_o_dictionary a_o_covered a_o_taken a_o_row a_o_cost a_o_leastD a_o_out a_o_text o_thrown o_taped o_samples o_takenMany o_ahead o_textLong o_outMany o_items o_matches o_textMany o_bytesOf o_dictionary r74 _ h) (cwV 1 X.2.2.2.2.1 gX7_wrong_X7_sumOf rfl rfl rfl cd_X7_sumOf ⟨by decide, by decide⟩) (wr := [(a_o_tape, .inl (cy 1, 200, .inl o_tape)), (a_o_idOf, .inl (cy 1, 6, .inl o_idOf)), (a_o_pieceLong, .inl (cy 1, 480, .inl o_pieceLong)), (a_o_row, .inl (cy 1, 280, .inl o_row))]) (ws2 := fun u => [(a_o, .inr (10, [.int o_thrown, .ref a_o_tape, .int o_taped, .int o_samples, .ref a_o_sampleLong, .ref a_o_sampleByte, .ref a_o_idOf, .ref a_o_pieces, .ref a_o_pieceLong, .ref a_o_bytesOf, .ref a_o_dictionary, .ref a_o_covered, .ref a_o_taken, .int o_takenMany, .ref a_o_row, .int o_ahead, .int o_textLong, .ref a_o_cost, .ref a_o_leastD, .ref a_o_out, .int o_outMany, .int o_items, .int o_matches, .ref a_o_text, .int o_textMany])), (a_o_tape, .inl (cy 1, 200, .inl o_tape)), (a_o_idOf, .inl (cy 1, 6, .inl o_idOf)), (a_o_pieceLong, .inl (cy 1, 480, .inl o_pieceLong)), (a_o_bytesOf, .inl (cy 1, 6, .inl o_bytesOf)), (a_o_dictionary, .inl (cy 1, 480, .inl o_dictionary)), (a_o_row, .inl (cy 1, 280, .inl o_row))]) (perm_idx [0, 4, 5, 1, 2, 3, 6] rfl rfl) (fun u => perm_idx [0, 3, 4, 5, 1, 2, 6] rfl rfl) rfl rfl rfl rfl (Nat.le_of_ble_eq_true rfl) dX7_wrong_91 ⟨by decide, by decide⟩ (fun r81 u h => ?_)
              refine go_icmp_eq X 99 dX7_wrong_94 (by decide) (fun c82 => ?_) (fun c82 => ?_)
              · replace h := h.1 c82
                refine go_aload_n X dX7_wrong_99 2 rfl rfl ?_
                refine go_get X fi_X7_wrong_X7 0 rfl rfl 2 (by decide) fl_X7_wrong_56 rfl dX7_wrong_100 ?_
                refine go_iconst X (v := 3) dX7_wrong_103 (by decide) ?_
                refine go_icmp_eq X 119 dX7_wrong_104 (by decide) (fun c83 => ?_) (fun c83 => ?_)
                · replace h := h.1 c83
                  refine go_iconst X (v := 3) dX7_wrong_119 (by decide) ?_
                  exact hR 3 (o_ahead, o_textLong, o_row) 120 _ dX7_wrong_120 rfl h
                · replace h := h.2 c83
                  refine go_aload_n X dX7_wrong_107 2 rfl rfl ?_
                  refine go_get X fi_X7_wrong_X7 0 rfl rfl 1 (by decide) fl_X7_wrong_7 rfl dX7_wrong_108 ?_
                  refine go_iconst X (v := 3) dX7_wrong_111 (by decide) ?_
                  obtain ⟨c84, h⟩ := h
                  refine go_iald X 1 1 rfl rfl c84 dX7_wrong_112 ?_
                  refine go_sipush X (v := 200) dX7_wrong_113 (by decide) ?_
                  refine go_icmp_le X 121 dX7_wrong_116 (by decide) (fun c85 => ?_) (fun c85 => ?_)
                  · replace h := h.1 c85
                    refine go_aload_n X dX7_wrong_121 2 rfl rfl ?_
                    refine go_iload_n X dX7_wrong_122 0 rfl rfl ?_
                    refine go_iconst X (v := (-1)) dX7_wrong_123 (by decide) ?_
                    refine go_callVv X (kX7_layAhead l D cy a_o a_o_tape a_o_sampleLong a_o_sampleByte a_o_idOf a_o_pieces a_o_pieceLong a_o_bytesOf a_o_dictionary a_o_covered a_o_taken a_o_row a_o_cost a_o_leastD a_o_out a_o_text o_thrown o_taped o_samples o_takenMany o_ahead o_textLong o_outMany o_items o_matches o_textMany o_pieceLong o_bytesOf o_dictionary o_row r74 ((-1) : Int32) _ h) (cwV 2 X.2.2.2.2.1 gX7_wrong_X7_layAhead rfl rfl rfl cd_X7_layAhead ⟨by decide, by decide⟩) (wr := [(a_o_tape, .inl (cy 1, 200, .inl o_tape)), (a_o_idOf, .inl (cy 1, 6, .inl o_idOf))]) (ws2 := fun u => [(a_o, .inr (10, [.int o_thrown, .ref a_o_tape, .int o_taped, .int o_samples, .ref a_o_sampleLong, .ref a_o_sampleByte, .ref a_o_idOf, .ref a_o_pieces, .ref a_o_pieceLong, .ref a_o_bytesOf, .ref a_o_dictionary, .ref a_o_covered, .ref a_o_taken, .int o_takenMany, .ref a_o_row, .int u.1, .int o_textLong, .ref a_o_cost, .ref a_o_leastD, .ref a_o_out, .int o_outMany, .int o_items, .int o_matches, .ref a_o_text, .int o_textMany])), (a_o_tape, .inl (cy 1, 200, .inl o_tape)), (a_o_idOf, .inl (cy 1, 6, .inl o_idOf)), (a_o_pieceLong, .inl (cy 1, 480, .inl o_pieceLong)), (a_o_bytesOf, .inl (cy 1, 6, .inl o_bytesOf)), (a_o_dictionary, .inl (cy 1, 480, .inl o_dictionary)), (a_o_row, .inl (cy 1, 280, .inl u.2))]) (perm_idx [0, 3, 4, 5, 6, 1, 2] rfl rfl) (fun u => perm_idx [0, 5, 6, 1, 2, 3, 4] rfl rfl) rfl rfl rfl rfl (Nat.le_of_ble_eq_true rfl) dX7_wrong_124 ⟨by decide, by decide⟩ (fun u h => ?_)
                    obtain ⟨s86, s87⟩ := u
                    refine go_aload_n X dX7_wrong_127 2 rfl rfl ?_
                    refine go_aload_n X dX7_wrong_128 2 rfl rfl ?_
                    refine go_get X fi_X7_wrong_X7 0 rfl rfl 1 (by decide) fl_X7_wrong_7 rfl dX7_wrong_129 ?_
                    refine go_iconst X (v := 3) dX7_wrong_132 (by decide) ?_
                    obtain ⟨c88, h⟩ := h
                    refine go_iald X 1 1 rfl rfl c88 dX7_wrong_133 ?_
                    refine go_topi (fun y89 ey89 => ?_)
                    replace h := h y89 ey89
                    refine go_put X (ws' := [(a_o, .inr (10, [.int o_thrown, .ref a_o_tape, .int o_taped, .int o_samples, .ref a_o_sampleLong, .ref a_o_sampleByte, .ref a_o_idOf, .ref a_o_pieces, .ref a_o_pieceLong, .ref a_o_bytesOf, .ref a_o_dictionary, .ref a_o_covered, .ref a_o_taken, .int o_takenMany, .ref a_o_row, .int s86, .int y89, .ref a_o_cost, .ref a_o_leastD, .ref a_o_out, .int o_outMany, .int o_items, .int o_matches, .ref a_o_text, .int o_textMany])), (a_o_tape, .inl (cy 1, 200, .inl o_tape)), (a_o_idOf, .inl (cy 1, 6, .inl o_idOf)), (a_o_pieceLong, .inl (cy 1, 480, .inl o_pieceLong)), (a_o_bytesOf, .inl (cy 1, 6, .inl o_bytesOf)), (a_o_dictionary, .inl (cy 1, 480, .inl o_dictionary)), (a_o_row, .inl (cy 1, 280, .inl s87))]) fi_X7_wrong_X7 tyX7 tyX7_ok nmX7 0 rfl rfl 16 (by decide) fl_X7_wrong_103 rfl (tyX7_ok 16 (by decide)) rfl rfl (Nat.le_of_ble_eq_true rfl) rfl dX7_wrong_134 ?_
                    refine go_iconst X (v := 4) dX7_wrong_137 (by decide) ?_
                    refine go_istore_n X (lv' := [(3, .int 4), (2, .int r74), (1, .int y72), (0, .ref a_o)]) dX7_wrong_138 rfl (by decide) rfl ?_
                    refine go_iconst X (v := 0) dX7_wrong_139 (by decide) ?_
                    refine go_istore X (lv' := [(4, .int 0), (3, .int 4), (2, .int r74), (1, .int y72), (0, .ref a_o)]) dX7_wrong_140 (by decide) rfl ?_
                    obtain ⟨n95, h⟩ := h
                    refine go_lv [4, 1, 0] rfl ?_
                    refine pX7_wrong_142 l X a_o a_o_tape a_o_sampleLong a_o_sampleByte a_o_idOf a_o_pieces a_o_pieceLong a_o_bytesOf a_o_dictionary a_o_covered a_o_taken a_o_row a_o_cost a_o_leastD a_o_out a_o_text o_thrown o_taped o_samples o_takenMany s86 y89 o_outMany o_items o_matches o_textMany o_tape o_idOf o_pieceLong o_bytesOf o_dictionary post hR _ (fun s90 y91 y92 h => ?_) n95 s87 (4 : Int32) (0 : Int32) h
                    refine go_iload X dX7_wrong_387 2 rfl ?_
                    refine go_aload_n X dX7_wrong_389 0 rfl rfl ?_
                    refine go_get X fi_X7_wrong_X7 0 rfl rfl 16 (by decide) fl_X7_wrong_103 rfl dX7_wrong_390 ?_
                    refine go_icmp_lt X 404 dX7_wrong_393 (by decide) (fun c93 => ?_) (fun c93 => ?_)
                    · replace h := h.1 c93
                      refine go_iload_n X dX7_wrong_404 1 rfl rfl ?_
                      refine go_goto X 409 dX7_wrong_405 (by decide) ?_
                      exact hR y91 (s86, y89, s90) 409 _ dX7_wrong_409 rfl h
                    · replace h := h.2 c93
                      refine go_iload_n X dX7_wrong_396 1 rfl rfl ?_
                      refine go_aload_n X dX7_wrong_397 0 rfl rfl ?_
                      refine go_get X fi_X7_wrong_X7 0 rfl rfl 2 (by decide) fl_X7_wrong_56 rfl dX7_wrong_398 ?_
                      refine go_icmp_ge X 408 dX7_wrong_401 (by decide) (fun c94 => ?_) (fun c94 => ?_)
                      · replace h := h.1 c94
                        refine go_iconst X (v := (-1)) dX7_wrong_408 (by decide) ?_
                        exact hR (-1) (s86, y89, s90) 409 _ dX7_wrong_409 rfl h
                      · replace h := h.2 c94
                        refine go_iload_n X dX7_wrong_404 1 rfl rfl ?_
                        refine go_goto X 409 dX7_wrong_405 (by decide) ?_
                        exact hR y91 (s86, y89, s90) 409 _ dX7_wrong_409 rfl h
                  · replace h := h.2 c85
                    refine go_iconst X (v := 3) dX7_wrong_119 (by decide) ?_
                    exact hR 3 (o_ahead, o_textLong, o_row) 120 _ dX7_wrong_120 rfl h
              · replace h := h.2 c82
                refine go_iconst X (v := 1) dX7_wrong_97 (by decide) ?_
                exact hR 1 (o_ahead, o_textLong, o_row) 98 _ dX7_wrong_98 rfl h
            · replace h := h.2 c80
              refine go_iconst X (v := 0) dX7_wrong_85 (by decide) ?_
              refine go_goto X 94 dX7_wrong_86 (by decide) ?_
              refine go_icmp_eq X 99 dX7_wrong_94 (by decide) (fun c96 => ?_) (fun c96 => ?_)
              · replace h := h.1 c96
                refine go_aload_n X dX7_wrong_99 2 rfl rfl ?_
                refine go_get X fi_X7_wrong_X7 0 rfl rfl 2 (by decide) fl_X7_wrong_56 rfl dX7_wrong_100 ?_
                refine go_iconst X (v := 3) dX7_wrong_103 (by decide) ?_
                refine go_icmp_eq X 119 dX7_wrong_104 (by decide) (fun c97 => ?_) (fun c97 => ?_)
                · replace h := h.1 c97
                  refine go_iconst X (v := 3) dX7_wrong_119 (by decide) ?_
                  exact hR 3 (o_ahead, o_textLong, o_row) 120 _ dX7_wrong_120 rfl h
                · replace h := h.2 c97
                  refine go_aload_n X dX7_wrong_107 2 rfl rfl ?_
                  refine go_get X fi_X7_wrong_X7 0 rfl rfl 1 (by decide) fl_X7_wrong_7 rfl dX7_wrong_108 ?_
                  refine go_iconst X (v := 3) dX7_wrong_111 (by decide) ?_
                  obtain ⟨c98, h⟩ := h
                  refine go_iald X 1 1 rfl rfl c98 dX7_wrong_112 ?_
                  refine go_sipush X (v := 200) dX7_wrong_113 (by decide) ?_
                  refine go_icmp_le X 121 dX7_wrong_116 (by decide) (fun c99 => ?_) (fun c99 => ?_)
                  · replace h := h.1 c99
                    refine go_aload_n X dX7_wrong_121 2 rfl rfl ?_
                    refine go_iload_n X dX7_wrong_122 0 rfl rfl ?_
                    refine go_iconst X (v := (-1)) dX7_wrong_123 (by decide) ?_
                    refine go_callVv X (kX7_layAhead l D cy a_o a_o_tape a_o_sampleLong a_o_sampleByte a_o_idOf a_o_pieces a_o_pieceLong a_o_bytesOf a_o_dictionary a_o_covered a_o_taken a_o_row a_o_cost a_o_leastD a_o_out a_o_text o_thrown o_taped o_samples o_takenMany o_ahead o_textLong o_outMany o_items o_matches o_textMany o_pieceLong o_bytesOf o_dictionary o_row r74 ((-1) : Int32) _ h) (cwV 2 X.2.2.2.2.1 gX7_wrong_X7_layAhead rfl rfl rfl cd_X7_layAhead ⟨by decide, by decide⟩) (wr := [(a_o_tape, .inl (cy 1, 200, .inl o_tape)), (a_o_idOf, .inl (cy 1, 6, .inl o_idOf))]) (ws2 := fun u => [(a_o, .inr (10, [.int o_thrown, .ref a_o_tape, .int o_taped, .int o_samples, .ref a_o_sampleLong, .ref a_o_sampleByte, .ref a_o_idOf, .ref a_o_pieces, .ref a_o_pieceLong, .ref a_o_bytesOf, .ref a_o_dictionary, .ref a_o_covered, .ref a_o_taken, .int o_takenMany, .ref a_o_row, .int u.1, .int o_textLong, .ref a_o_cost, .ref a_o_leastD, .ref a_o_out, .int o_outMany, .int o_items, .int o_matches, .ref a_o_text, .int o_textMany])), (a_o_tape, .inl (cy 1, 200, .inl o_tape)), (a_o_idOf, .inl (cy 1, 6, .inl o_idOf)), (a_o_pieceLong, .inl (cy 1, 480, .inl o_pieceLong)), (a_o_bytesOf, .inl (cy 1, 6, .inl o_bytesOf)), (a_o_dictionary, .inl (cy 1, 480, .inl o_dictionary)), (a_o_row, .inl (cy 1, 280, .inl u.2))]) (perm_idx [0, 3, 4, 5, 6, 1, 2] rfl rfl) (fun u => perm_idx [0, 5, 6, 1, 2, 3, 4] rfl rfl) rfl rfl rfl rfl (Nat.le_of_ble_eq_true rfl) dX7_wrong_124 ⟨by decide, by decide⟩ (fun u h => ?_)
                    obtain ⟨s100, s101⟩ := u
                    refine go_aload_n X dX7_wrong_127 2 rfl rfl ?_
                    refine go_aload_n X dX7_wrong_128 2 rfl rfl ?_
                    refine go_get X fi_X7_wrong_X7 0 rfl rfl 1 (by decide) fl_X7_wrong_7 rfl dX7_wrong_129 ?_
                    refine go_iconst X (v := 3) dX7_wrong_132 (by decide) ?_
                    obtain ⟨c102, h⟩ := h
                    refine go_iald X 1 1 rfl rfl c102 dX7_wrong_133 ?_
                    refine go_topi (fun y103 ey103 => ?_)
                    replace h := h y103 ey103
                    refine go_put X (ws' := [(a_o, .inr (10, [.int o_thrown, .ref a_o_tape, .int o_taped, .int o_samples, .ref a_o_sampleLong, .ref a_o_sampleByte, .ref a_o_idOf, .ref a_o_pieces, .ref a_o_pieceLong, .ref a_o_bytesOf, .ref a_o_dictionary, .ref a_o_covered, .ref a_o_taken, .int o_takenMany, .ref a_o_row, .int s100, .int y103, .ref a_o_cost, .ref a_o_leastD, .ref a_o_out, .int o_outMany, .int o_items, .int o_matches, .ref a_o_text, .int o_textMany])), (a_o_tape, .inl (cy 1, 200, .inl o_tape)), (a_o_idOf, .inl (cy 1, 6, .inl o_idOf)), (a_o_pieceLong, .inl (cy 1, 480, .inl o_pieceLong)), (a_o_bytesOf, .inl (cy 1, 6, .inl o_bytesOf)), (a_o_dictionary, .inl (cy 1, 480, .inl o_dictionary)), (a_o_row, .inl (cy 1, 280, .inl s101))]) fi_X7_wrong_X7 tyX7 tyX7_ok nmX7 0 rfl rfl 16 (by decide) fl_X7_wrong_103 rfl (tyX7_ok 16 (by decide)) rfl rfl (Nat.le_of_ble_eq_true rfl) rfl dX7_wrong_134 ?_
                    refine go_iconst X (v := 4) dX7_wrong_137 (by decide) ?_
                    refine go_istore_n X (lv' := [(3, .int 4), (2, .int r74), (1, .int y72), (0, .ref a_o)]) dX7_wrong_138 rfl (by decide) rfl ?_
                    refine go_iconst X (v := 0) dX7_wrong_139 (by decide) ?_
                    refine go_istore X (lv' := [(4, .int 0), (3, .int 4), (2, .int r74), (1, .int y72), (0, .ref a_o)]) dX7_wrong_140 (by decide) rfl ?_
                    obtain ⟨n109, h⟩ := h
                    refine go_lv [4, 1, 0] rfl ?_
                    refine pX7_wrong_142 l X a_o a_o_tape a_o_sampleLong a_o_sampleByte a_o_idOf a_o_pieces a_o_pieceLong a_o_bytesOf a_o_dictionary a_o_covered a_o_taken a_o_row a_o_cost a_o_leastD a_o_out a_o_text o_thrown o_taped o_samples o_takenMany s100 y103 o_outMany o_items o_matches o_textMany o_tape o_idOf o_pieceLong o_bytesOf o_dictionary post hR _ (fun s104 y105 y106 h => ?_) n109 s101 (4 : Int32) (0 : Int32) h
                    refine go_iload X dX7_wrong_387 2 rfl ?_
                    refine go_aload_n X dX7_wrong_389 0 rfl rfl ?_
                    refine go_get X fi_X7_wrong_X7 0 rfl rfl 16 (by decide) fl_X7_wrong_103 rfl dX7_wrong_390 ?_
                    refine go_icmp_lt X 404 dX7_wrong_393 (by decide) (fun c107 => ?_) (fun c107 => ?_)
                    · replace h := h.1 c107
                      refine go_iload_n X dX7_wrong_404 1 rfl rfl ?_
                      refine go_goto X 409 dX7_wrong_405 (by decide) ?_
                      exact hR y105 (s100, y103, s104) 409 _ dX7_wrong_409 rfl h
                    · replace h := h.2 c107
                      refine go_iload_n X dX7_wrong_396 1 rfl rfl ?_
                      refine go_aload_n X dX7_wrong_397 0 rfl rfl ?_
                      refine go_get X fi_X7_wrong_X7 0 rfl rfl 2 (by decide) fl_X7_wrong_56 rfl dX7_wrong_398 ?_
                      refine go_icmp_ge X 408 dX7_wrong_401 (by decide) (fun c108 => ?_) (fun c108 => ?_)
                      · replace h := h.1 c108
                        refine go_iconst X (v := (-1)) dX7_wrong_408 (by decide) ?_
                        exact hR (-1) (s100, y103, s104) 409 _ dX7_wrong_409 rfl h
                      · replace h := h.2 c108
                        refine go_iload_n X dX7_wrong_404 1 rfl rfl ?_
                        refine go_goto X 409 dX7_wrong_405 (by decide) ?_
                        exact hR y105 (s100, y103, s104) 409 _ dX7_wrong_409 rfl h
                  · replace h := h.2 c99
                    refine go_iconst X (v := 3) dX7_wrong_119 (by decide) ?_
                    exact hR 3 (o_ahead, o_textLong, o_row) 120 _ dX7_wrong_120 rfl h
              · replace h := h.2 c96
                refine go_iconst X (v := 1) dX7_wrong_97 (by decide) ?_
                exact hR 1 (o_ahead, o_textLong, o_row) 98 _ dX7_wrong_98 rfl h
          · replace h := h.2 c77
            refine go_aload_n X dX7_wrong_58 2 rfl rfl ?_
            refine go_get X fi_X7_wrong_X7 0 rfl rfl 2 (by decide) fl_X7_wrong_56 rfl dX7_wrong_59 ?_
            exact hR o_taped (o_ahead, o_textLong, o_row) 62 _ dX7_wrong_62 rfl h
        · replace h := h.2 c76
          refine go_iload_n X dX7_wrong_43 0 rfl rfl ?_
          refine go_iconst X (v := (-1)) dX7_wrong_44 (by decide) ?_
          refine go_icmp_ne X 50 dX7_wrong_45 (by decide) (fun c110 => ?_) (fun c110 => ?_)
          · replace h := h.1 c110
            refine go_aload_n X dX7_wrong_50 2 rfl rfl ?_
            refine go_get X fi_X7_wrong_X7 0 rfl rfl 2 (by decide) fl_X7_wrong_56 rfl dX7_wrong_51 ?_
            refine go_iconst X (v := 3) dX7_wrong_54 (by decide) ?_
            refine go_icmp_ge X 63 dX7_wrong_55 (by decide) (fun c111 => ?_) (fun c111 => ?_)
            · replace h := h.1 c111
              refine go_sipush X (v := 256) dX7_wrong_63 (by decide) ?_
              refine go_aload_n X dX7_wrong_66 2 rfl rfl ?_
              refine go_get X fi_X7_wrong_X7 0 rfl rfl 1 (by decide) fl_X7_wrong_7 rfl dX7_wrong_67 ?_
              refine go_iconst X (v := 1) dX7_wrong_70 (by decide) ?_
              obtain ⟨c112, h⟩ := h
              refine go_iald X 1 1 rfl rfl c112 dX7_wrong_71 ?_
              refine go_imul X dX7_wrong_72 ?_
              refine go_aload_n X dX7_wrong_73 2 rfl rfl ?_
              refine go_get X fi_X7_wrong_X7 0 rfl rfl 1 (by decide) fl_X7_wrong_7 rfl dX7_wrong_74 ?_
              refine go_iconst X (v := 2) dX7_wrong_77 (by decide) ?_
              obtain ⟨c113, h⟩ := h
              refine go_iald X 1 1 rfl rfl c113 dX7_wrong_78 ?_
              refine go_iadd X dX7_wrong_79 ?_
              refine go_iload_n X dX7_wrong_80 0 rfl rfl ?_
              refine go_iconst X (v := (-1)) dX7_wrong_81 (by decide) ?_
              refine go_icmp_ne X 89 dX7_wrong_82 (by decide) (fun c114 => ?_) (fun c114 => ?_)
              · replace h := h.1 c114
                refine go_aload_n X dX7_wrong_89 2 rfl rfl ?_
                refine go_iload_n X dX7_wrong_90 0 rfl rfl ?_
                refine go_callVi X (kX7_sumOf l D cy a_o a_o_tape a_o_sampleLong a_o_sampleByte a_o_idOf a_o_pieces a_o_pieceLong a_o_bytesOf a_o_dictionary a_o_covered a_o_taken a_o_row a_o_cost a_o_leastD a_o_out a_o_text o_thrown o_taped o_samples o_takenMany o_ahead o_textLong o_outMany o_items o_matches o_textMany o_bytesOf o_dictionary r74 _ h) (cwV 1 X.2.2.2.2.1 gX7_wrong_X7_sumOf rfl rfl rfl cd_X7_sumOf ⟨by decide, by decide⟩) (wr := [(a_o_tape, .inl (cy 1, 200, .inl o_tape)), (a_o_idOf, .inl (cy 1, 6, .inl o_idOf)), (a_o_pieceLong, .inl (cy 1, 480, .inl o_pieceLong)), (a_o_row, .inl (cy 1, 280, .inl o_row))]) (ws2 := fun u => [(a_o, .inr (10, [.int o_thrown, .ref a_o_tape, .int o_taped, .int o_samples, .ref a_o_sampleLong, .ref a_o_sampleByte, .ref a_o_idOf, .ref a_o_pieces, .ref a_o_pieceLong, .ref a_o_bytesOf, .ref a_o_dictionary, .ref a_o_covered, .ref a_o_taken, .int o_takenMany, .ref a_o_row, .int o_ahead, .int o_textLong, .ref a_o_cost, .ref a_o_leastD, .ref a_o_out, .int o_outMany, .int o_items, .int o_matches, .ref a_o_text, .int o_textMany])), (a_o_tape, .inl (cy 1, 200, .inl o_tape)), (a_o_idOf, .inl (cy 1, 6, .inl o_idOf)), (a_o_pieceLong, .inl (cy 1, 480, .inl o_pieceLong)), (a_o_bytesOf, .inl (cy 1, 6, .inl o_bytesOf)), (a_o_dictionary, .inl (cy 1, 480, .inl o_dictionary)), (a_o_row, .inl (cy 1, 280, .inl o_row))]) (perm_idx [0, 4, 5, 1, 2, 3, 6] rfl rfl) (fun u => perm_idx [0, 3, 4, 5, 1, 2, 6] rfl rfl) rfl rfl rfl rfl (Nat.le_of_ble_eq_true rfl) dX7_wrong_91 ⟨by decide, by decide⟩ (fun r115 u h => ?_)
                refine go_icmp_eq X 99 dX7_wrong_94 (by decide) (fun c116 => ?_) (fun c116 => ?_)
                · replace h := h.1 c116
                  refine go_aload_n X dX7_wrong_99 2 rfl rfl ?_
                  refine go_get X fi_X7_wrong_X7 0 rfl rfl 2 (by decide) fl_X7_wrong_56 rfl dX7_wrong_100 ?_
                  refine go_iconst X (v := 3) dX7_wrong_103 (by decide) ?_
                  refine go_icmp_eq X 119 dX7_wrong_104 (by decide) (fun c117 => ?_) (fun c117 => ?_)
                  · replace h := h.1 c117
                    refine go_iconst X (v := 3) dX7_wrong_119 (by decide) ?_
                    exact hR 3 (o_ahead, o_textLong, o_row) 120 _ dX7_wrong_120 rfl h
                  · replace h := h.2 c117
                    refine go_aload_n X dX7_wrong_107 2 rfl rfl ?_
                    refine go_get X fi_X7_wrong_X7 0 rfl rfl 1 (by decide) fl_X7_wrong_7 rfl dX7_wrong_108 ?_
                    refine go_iconst X (v := 3) dX7_wrong_111 (by decide) ?_
                    obtain ⟨c118, h⟩ := h
                    refine go_iald X 1 1 rfl rfl c118 dX7_wrong_112 ?_
                    refine go_sipush X (v := 200) dX7_wrong_113 (by decide) ?_
                    refine go_icmp_le X 121 dX7_wrong_116 (by decide) (fun c119 => ?_) (fun c119 => ?_)
                    · replace h := h.1 c119
                      refine go_aload_n X dX7_wrong_121 2 rfl rfl ?_
                      refine go_iload_n X dX7_wrong_122 0 rfl rfl ?_
                      refine go_iconst X (v := (-1)) dX7_wrong_123 (by decide) ?_
                      refine go_callVv X (kX7_layAhead l D cy a_o a_o_tape a_o_sampleLong a_o_sampleByte a_o_idOf a_o_pieces a_o_pieceLong a_o_bytesOf a_o_dictionary a_o_covered a_o_taken a_o_row a_o_cost a_o_leastD a_o_out a_o_text o_thrown o_taped o_samples o_takenMany o_ahead o_textLong o_outMany o_items o_matches o_textMany o_pieceLong o_bytesOf o_dictionary o_row r74 ((-1) : Int32) _ h) (cwV 2 X.2.2.2.2.1 gX7_wrong_X7_layAhead rfl rfl rfl cd_X7_layAhead ⟨by decide, by decide⟩) (wr := [(a_o_tape, .inl (cy 1, 200, .inl o_tape)), (a_o_idOf, .inl (cy 1, 6, .inl o_idOf))]) (ws2 := fun u => [(a_o, .inr (10, [.int o_thrown, .ref a_o_tape, .int o_taped, .int o_samples, .ref a_o_sampleLong, .ref a_o_sampleByte, .ref a_o_idOf, .ref a_o_pieces, .ref a_o_pieceLong, .ref a_o_bytesOf, .ref a_o_dictionary, .ref a_o_covered, .ref a_o_taken, .int o_takenMany, .ref a_o_row, .int u.1, .int o_textLong, .ref a_o_cost, .ref a_o_leastD, .ref a_o_out, .int o_outMany, .int o_items, .int o_matches, .ref a_o_text, .int o_textMany])), (a_o_tape, .inl (cy 1, 200, .inl o_tape)), (a_o_idOf, .inl (cy 1, 6, .inl o_idOf)), (a_o_pieceLong, .inl (cy 1, 480, .inl o_pieceLong)), (a_o_bytesOf, .inl (cy 1, 6, .inl o_bytesOf)), (a_o_dictionary, .inl (cy 1, 480, .inl o_dictionary)), (a_o_row, .inl (cy 1, 280, .inl u.2))]) (perm_idx [0, 3, 4, 5, 6, 1, 2] rfl rfl) (fun u => perm_idx [0, 5, 6, 1, 2, 3, 4] rfl rfl) rfl rfl rfl rfl (Nat.le_of_ble_eq_true rfl) dX7_wrong_124 ⟨by decide, by decide⟩ (fun u h => ?_)
                      obtain ⟨s120, s121⟩ := u
                      refine go_aload_n X dX7_wrong_127 2 rfl rfl ?_
                      refine go_aload_n X dX7_wrong_128 2 rfl rfl ?_
                      refine go_get X fi_X7_wrong_X7 0 rfl rfl 1 (by decide) fl_X7_wrong_7 rfl dX7_wrong_129 ?_
                      refine go_iconst X (v := 3) dX7_wrong_132 (by decide) ?_
                      obtain ⟨c122, h⟩ := h
                      refine go_iald X 1 1 rfl rfl c122 dX7_wrong_133 ?_
                      refine go_topi (fun y123 ey123 => ?_)
                      replace h := h y123 ey123
                      refine go_put X (ws' := [(a_o, .inr (10, [.int o_thrown, .ref a_o_tape, .int o_taped, .int o_samples, .ref a_o_sampleLong, .ref a_o_sampleByte, .ref a_o_idOf, .ref a_o_pieces, .ref a_o_pieceLong, .ref a_o_bytesOf, .ref a_o_dictionary, .ref a_o_covered, .ref a_o_taken, .int o_takenMany, .ref a_o_row, .int s120, .int y123, .ref a_o_cost, .ref a_o_leastD, .ref a_o_out, .int o_outMany, .int o_items, .int o_matches, .ref a_o_text, .int o_textMany])), (a_o_tape, .inl (cy 1, 200, .inl o_tape)), (a_o_idOf, .inl (cy 1, 6, .inl o_idOf)), (a_o_pieceLong, .inl (cy 1, 480, .inl o_pieceLong)), (a_o_bytesOf, .inl (cy 1, 6, .inl o_bytesOf)), (a_o_dictionary, .inl (cy 1, 480, .inl o_dictionary)), (a_o_row, .inl (cy 1, 280, .inl s121))]) fi_X7_wrong_X7 tyX7 tyX7_ok nmX7 0 rfl rfl 16 (by decide) fl_X7_wrong_103 rfl (tyX7_ok 16 (by decide)) rfl rfl (Nat.le_of_ble_eq_true rfl) rfl dX7_wrong_134 ?_
                      refine go_iconst X (v := 4) dX7_wrong_137 (by decide) ?_
                      refine go_istore_n X (lv' := [(3, .int 4), (2, .int r74), (1, .int y72), (0, .ref a_o)]) dX7_wrong_138 rfl (by decide) rfl ?_
                      refine go_iconst X (v := 0) dX7_wrong_139 (by decide) ?_
                      refine go_istore X (lv' := [(4, .int 0), (3, .int 4), (2, .int r74), (1, .int y72), (0, .ref a_o)]) dX7_wrong_140 (by decide) rfl ?_
                      obtain ⟨n129, h⟩ := h
                      refine go_lv [4, 1, 0] rfl ?_
                      refine pX7_wrong_142 l X a_o a_o_tape a_o_sampleLong a_o_sampleByte a_o_idOf a_o_pieces a_o_pieceLong a_o_bytesOf a_o_dictionary a_o_covered a_o_taken a_o_row a_o_cost a_o_leastD a_o_out a_o_text o_thrown o_taped o_samples o_takenMany s120 y123 o_outMany o_items o_matches o_textMany o_tape o_idOf o_pieceLong o_bytesOf o_dictionary post hR _ (fun s124 y125 y126 h => ?_) n129 s121 (4 : Int32) (0 : Int32) h
                      refine go_iload X dX7_wrong_387 2 rfl ?_
                      refine go_aload_n X dX7_wrong_389 0 rfl rfl ?_
                      refine go_get X fi_X7_wrong_X7 0 rfl rfl 16 (by decide) fl_X7_wrong_103 rfl dX7_wrong_390 ?_
                      refine go_icmp_lt X 404 dX7_wrong_393 (by decide) (fun c127 => ?_) (fun c127 => ?_)
                      · replace h := h.1 c127
                        refine go_iload_n X dX7_wrong_404 1 rfl rfl ?_
                        refine go_goto X 409 dX7_wrong_405 (by decide) ?_
                        exact hR y125 (s120, y123, s124) 409 _ dX7_wrong_409 rfl h
                      · replace h := h.2 c127
                        refine go_iload_n X dX7_wrong_396 1 rfl rfl ?_
                        refine go_aload_n X dX7_wrong_397 0 rfl rfl ?_
                        refine go_get X fi_X7_wrong_X7 0 rfl rfl 2 (by decide) fl_X7_wrong_56 rfl dX7_wrong_398 ?_
                        refine go_icmp_ge X 408 dX7_wrong_401 (by decide) (fun c128 => ?_) (fun c128 => ?_)
                        · replace h := h.1 c128
                          refine go_iconst X (v := (-1)) dX7_wrong_408 (by decide) ?_
                          exact hR (-1) (s120, y123, s124) 409 _ dX7_wrong_409 rfl h
                        · replace h := h.2 c128
                          refine go_iload_n X dX7_wrong_404 1 rfl rfl ?_
                          refine go_goto X 409 dX7_wrong_405 (by decide) ?_
                          exact hR y125 (s120, y123, s124) 409 _ dX7_wrong_409 rfl h
                    · replace h := h.2 c119
                      refine go_iconst X (v := 3) dX7_wrong_119 (by decide) ?_
                      exact hR 3 (o_ahead, o_textLong, o_row) 120 _ dX7_wrong_120 rfl h
                · replace h := h.2 c116
                  refine go_iconst X (v := 1) dX7_wrong_97 (by decide) ?_
                  exact hR 1 (o_ahead, o_textLong, o_row) 98 _ dX7_wrong_98 rfl h
              · replace h := h.2 c114
                refine go_iconst X (v := 0) dX7_wrong_85 (by decide) ?_
                refine go_goto X 94 dX7_wrong_86 (by decide) ?_
                refine go_icmp_eq X 99 dX7_wrong_94 (by decide) (fun c130 => ?_) (fun c130 => ?_)
                · replace h := h.1 c130
                  refine go_aload_n X dX7_wrong_99 2 rfl rfl ?_
                  refine go_get X fi_X7_wrong_X7 0 rfl rfl 2 (by decide) fl_X7_wrong_56 rfl dX7_wrong_100 ?_
                  refine go_iconst X (v := 3) dX7_wrong_103 (by decide) ?_
                  refine go_icmp_eq X 119 dX7_wrong_104 (by decide) (fun c131 => ?_) (fun c131 => ?_)
                  · replace h := h.1 c131
                    refine go_iconst X (v := 3) dX7_wrong_119 (by decide) ?_
                    exact hR 3 (o_ahead, o_textLong, o_row) 120 _ dX7_wrong_120 rfl h
                  · replace h := h.2 c131
                    refine go_aload_n X dX7_wrong_107 2 rfl rfl ?_
                    refine go_get X fi_X7_wrong_X7 0 rfl rfl 1 (by decide) fl_X7_wrong_7 rfl dX7_wrong_108 ?_
                    refine go_iconst X (v := 3) dX7_wrong_111 (by decide) ?_
                    obtain ⟨c132, h⟩ := h
                    refine go_iald X 1 1 rfl rfl c132 dX7_wrong_112 ?_
                    refine go_sipush X (v := 200) dX7_wrong_113 (by decide) ?_
                    refine go_icmp_le X 121 dX7_wrong_116 (by decide) (fun c133 => ?_) (fun c133 => ?_)
                    · replace h := h.1 c133
                      refine go_aload_n X dX7_wrong_121 2 rfl rfl ?_
                      refine go_iload_n X dX7_wrong_122 0 rfl rfl ?_
                      refine go_iconst X (v := (-1)) dX7_wrong_123 (by decide) ?_
                      refine go_callVv X (kX7_layAhead l D cy a_o a_o_tape a_o_sampleLong a_o_sampleByte a_o_idOf a_o_pieces a_o_pieceLong a_o_bytesOf a_o_dictionary a_o_covered a_o_taken a_o_row a_o_cost a_o_leastD a_o_out a_o_text o_thrown o_taped o_samples o_takenMany o_ahead o_textLong o_outMany o_items o_matches o_textMany o_pieceLong o_bytesOf o_dictionary o_row r74 ((-1) : Int32) _ h) (cwV 2 X.2.2.2.2.1 gX7_wrong_X7_layAhead rfl rfl rfl cd_X7_layAhead ⟨by decide, by decide⟩) (wr := [(a_o_tape, .inl (cy 1, 200, .inl o_tape)), (a_o_idOf, .inl (cy 1, 6, .inl o_idOf))]) (ws2 := fun u => [(a_o, .inr (10, [.int o_thrown, .ref a_o_tape, .int o_taped, .int o_samples, .ref a_o_sampleLong, .ref a_o_sampleByte, .ref a_o_idOf, .ref a_o_pieces, .ref a_o_pieceLong, .ref a_o_bytesOf, .ref a_o_dictionary, .ref a_o_covered, .ref a_o_taken, .int o_takenMany, .ref a_o_row, .int u.1, .int o_textLong, .ref a_o_cost, .ref a_o_leastD, .ref a_o_out, .int o_outMany, .int o_items, .int o_matches, .ref a_o_text, .int o_textMany])), (a_o_tape, .inl (cy 1, 200, .inl o_tape)), (a_o_idOf, .inl (cy 1, 6, .inl o_idOf)), (a_o_pieceLong, .inl (cy 1, 480, .inl o_pieceLong)), (a_o_bytesOf, .inl (cy 1, 6, .inl o_bytesOf)), (a_o_dictionary, .inl (cy 1, 480, .inl o_dictionary)), (a_o_row, .inl (cy 1, 280, .inl u.2))]) (perm_idx [0, 3, 4, 5, 6, 1, 2] rfl rfl) (fun u => perm_idx [0, 5, 6, 1, 2, 3, 4] rfl rfl) rfl rfl rfl rfl (Nat.le_of_ble_eq_true rfl) dX7_wrong_124 ⟨by decide, by decide⟩ (fun u h => ?_)
                      obtain ⟨s134, s135⟩ := u
                      refine go_aload_n X dX7_wrong_127 2 rfl rfl ?_
                      refine go_aload_n X dX7_wrong_128 2 rfl rfl ?_
                      refine go_get X fi_X7_wrong_X7 0 rfl rfl 1 (by decide) fl_X7_wrong_7 rfl dX7_wrong_129 ?_
                      refine go_iconst X (v := 3) dX7_wrong_132 (by decide) ?_
                      obtain ⟨c136, h⟩ := h
                      refine go_iald X 1 1 rfl rfl c136 dX7_wrong_133 ?_
                      refine go_topi (fun y137 ey137 => ?_)
                      replace h := h y137 ey137
                      refine go_put X (ws' := [(a_o, .inr (10, [.int o_thrown, .ref a_o_tape, .int o_taped, .int o_samples, .ref a_o_sampleLong, .ref a_o_sampleByte, .ref a_o_idOf, .ref a_o_pieces, .ref a_o_pieceLong, .ref a_o_bytesOf, .ref a_o_dictionary, .ref a_o_covered, .ref a_o_taken, .int o_takenMany, .ref a_o_row, .int s134, .int y137, .ref a_o_cost, .ref a_o_leastD, .ref a_o_out, .int o_outMany, .int o_items, .int o_matches, .ref a_o_text, .int o_textMany])), (a_o_tape, .inl (cy 1, 200, .inl o_tape)), (a_o_idOf, .inl (cy 1, 6, .inl o_idOf)), (a_o_pieceLong, .inl (cy 1, 480, .inl o_pieceLong)), (a_o_bytesOf, .inl (cy 1, 6, .inl o_bytesOf)), (a_o_dictionary, .inl (cy 1, 480, .inl o_dictionary)), (a_o_row, .inl (cy 1, 280, .inl s135))]) fi_X7_wrong_X7 tyX7 tyX7_ok nmX7 0 rfl rfl 16 (by decide) fl_X7_wrong_103 rfl (tyX7_ok 16 (by decide)) rfl rfl (Nat.le_of_ble_eq_true rfl) rfl dX7_wrong_134 ?_
                      refine go_iconst X (v := 4) dX7_wrong_137 (by decide) ?_
                      refine go_istore_n X (lv' := [(3, .int 4), (2, .int r74), (1, .int y72), (0, .ref a_o)]) dX7_wrong_138 rfl (by decide) rfl ?_
                      refine go_iconst X (v := 0) dX7_wrong_139 (by decide) ?_
                      refine go_istore X (lv' := [(4, .int 0), (3, .int 4), (2, .int r74), (1, .int y72), (0, .ref a_o)]) dX7_wrong_140 (by decide) rfl ?_
                      obtain ⟨n143, h⟩ := h
                      refine go_lv [4, 1, 0] rfl ?_
                      refine pX7_wrong_142 l X a_o a_o_tape a_o_sampleLong a_o_sampleByte a_o_idOf a_o_pieces a_o_pieceLong a_o_bytesOf a_o_dictionary a_o_covered a_o_taken a_o_row a_o_cost a_o_leastD a_o_out a_o_text o_thrown o_taped o_samples o_takenMany s134 y137 o_outMany o_items o_matches o_textMany o_tape o_idOf o_pieceLong o_bytesOf o_dictionary post hR _ (fun s138 y139 y140 h => ?_) n143 s135 (4 : Int32) (0 : Int32) h
                      refine go_iload X dX7_wrong_387 2 rfl ?_
                      refine go_aload_n X dX7_wrong_389 0 rfl rfl ?_
                      refine go_get X fi_X7_wrong_X7 0 rfl rfl 16 (by decide) fl_X7_wrong_103 rfl dX7_wrong_390 ?_
                      refine go_icmp_lt X 404 dX7_wrong_393 (by decide) (fun c141 => ?_) (fun c141 => ?_)
                      · replace h := h.1 c141
                        refine go_iload_n X dX7_wrong_404 1 rfl rfl ?_
                        refine go_goto X 409 dX7_wrong_405 (by decide) ?_
                        exact hR y139 (s134, y137, s138) 409 _ dX7_wrong_409 rfl h
                      · replace h := h.2 c141
                        refine go_iload_n X dX7_wrong_396 1 rfl rfl ?_
                        refine go_aload_n X dX7_wrong_397 0 rfl rfl ?_
                        refine go_get X fi_X7_wrong_X7 0 rfl rfl 2 (by decide) fl_X7_wrong_56 rfl dX7_wrong_398 ?_
                        refine go_icmp_ge X 408 dX7_wrong_401 (by decide) (fun c142 => ?_) (fun c142 => ?_)
                        · replace h := h.1 c142
                          refine go_iconst X (v := (-1)) dX7_wrong_408 (by decide) ?_
                          exact hR (-1) (s134, y137, s138) 409 _ dX7_wrong_409 rfl h
                        · replace h := h.2 c142
                          refine go_iload_n X dX7_wrong_404 1 rfl rfl ?_
                          refine go_goto X 409 dX7_wrong_405 (by decide) ?_
                          exact hR y139 (s134, y137, s138) 409 _ dX7_wrong_409 rfl h
                    · replace h := h.2 c133
                      refine go_iconst X (v := 3) dX7_wrong_119 (by decide) ?_
                      exact hR 3 (o_ahead, o_textLong, o_row) 120 _ dX7_wrong_120 rfl h
                · replace h := h.2 c130
                  refine go_iconst X (v := 1) dX7_wrong_97 (by decide) ?_
                  exact hR 1 (o_ahead, o_textLong, o_row) 98 _ dX7_wrong_98 rfl h
            · replace h := h.2 c111
              refine go_aload_n X dX7_wrong_58 2 rfl rfl ?_
              refine go_get X fi_X7_wrong_X7 0 rfl rfl 2 (by decide) fl_X7_wrong_56 rfl dX7_wrong_59 ?_
              exact hR o_taped (o_ahead, o_textLong, o_row) 62 _ dX7_wrong_62 rfl h
          · replace h := h.2 c110
            refine go_iconst X (v := 0) dX7_wrong_48 (by decide) ?_
            exact hR 0 (o_ahead, o_textLong, o_row) 49 _ dX7_wrong_49 rfl h
    · replace h := h.2 c73
      refine go_iconst X (v := (-1)) dX7_wrong_22 (by decide) ?_
      refine go_goto X 31 dX7_wrong_23 (by decide) ?_
      refine go_istore_n X (lv' := [(2, .int (-1)), (1, .int y72), (0, .ref a_o)]) dX7_wrong_31 rfl (by decide) rfl ?_
      refine go_aload_n X dX7_wrong_32 2 rfl rfl ?_
      refine go_get X fi_X7_wrong_X7 0 rfl rfl 2 (by decide) fl_X7_wrong_56 rfl dX7_wrong_33 ?_
      refine go_if_eq X 48 dX7_wrong_36 (by decide) (fun c144 => ?_) (fun c144 => ?_)
      · replace h := h.1 c144
        refine go_iconst X (v := 0) dX7_wrong_48 (by decide) ?_
        exact hR 0 (o_ahead, o_textLong, o_row) 49 _ dX7_wrong_49 rfl h
      · replace h := h.2 c144
        refine go_iload_n X dX7_wrong_39 1 rfl rfl ?_
        refine go_if_le X 50 dX7_wrong_40 (by decide) (fun c145 => ?_) (fun c145 => ?_)
        · replace h := h.1 c145
          refine go_aload_n X dX7_wrong_50 2 rfl rfl ?_
          refine go_get X fi_X7_wrong_X7 0 rfl rfl 2 (by decide) fl_X7_wrong_56 rfl dX7_wrong_51 ?_
          refine go_iconst X (v := 3) dX7_wrong_54 (by decide) ?_
          refine go_icmp_ge X 63 dX7_wrong_55 (by decide) (fun c146 => ?_) (fun c146 => ?_)
          · replace h := h.1 c146
            refine go_sipush X (v := 256) dX7_wrong_63 (by decide) ?_
            refine go_aload_n X dX7_wrong_66 2 rfl rfl ?_
            refine go_get X fi_X7_wrong_X7 0 rfl rfl 1 (by decide) fl_X7_wrong_7 rfl dX7_wrong_67 ?_
            refine go_iconst X (v := 1) dX7_wrong_70 (by decide) ?_
            obtain ⟨c147, h⟩ := h
            refine go_iald X 1 1 rfl rfl c147 dX7_wrong_71 ?_
            refine go_imul X dX7_wrong_72 ?_
            refine go_aload_n X dX7_wrong_73 2 rfl rfl ?_
            refine go_get X fi_X7_wrong_X7 0 rfl rfl 1 (by decide) fl_X7_wrong_7 rfl dX7_wrong_74 ?_
            refine go_iconst X (v := 2) dX7_wrong_77 (by decide) ?_
            obtain ⟨c148, h⟩ := h
            refine go_iald X 1 1 rfl rfl c148 dX7_wrong_78 ?_
            refine go_iadd X dX7_wrong_79 ?_
            refine go_iload_n X dX7_wrong_80 0 rfl rfl ?_
            refine go_iconst X (v := (-1)) dX7_wrong_81 (by decide) ?_
            refine go_icmp_ne X 89 dX7_wrong_82 (by decide) (fun c0 => absurd c0 (by decide)) (fun _ => ?_)
            refine go_iconst X (v := 0) dX7_wrong_85 (by decide) ?_
            refine go_goto X 94 dX7_wrong_86 (by decide) ?_
            refine go_icmp_eq X 99 dX7_wrong_94 (by decide) (fun c149 => ?_) (fun c149 => ?_)
            · replace h := h.1 c149
              refine go_aload_n X dX7_wrong_99 2 rfl rfl ?_
              refine go_get X fi_X7_wrong_X7 0 rfl rfl 2 (by decide) fl_X7_wrong_56 rfl dX7_wrong_100 ?_
              refine go_iconst X (v := 3) dX7_wrong_103 (by decide) ?_
              refine go_icmp_eq X 119 dX7_wrong_104 (by decide) (fun c150 => ?_) (fun c150 => ?_)
              · replace h := h.1 c150
                refine go_iconst X (v := 3) dX7_wrong_119 (by decide) ?_
                exact hR 3 (o_ahead, o_textLong, o_row) 120 _ dX7_wrong_120 rfl h
              · replace h := h.2 c150
                refine go_aload_n X dX7_wrong_107 2 rfl rfl ?_
                refine go_get X fi_X7_wrong_X7 0 rfl rfl 1 (by decide) fl_X7_wrong_7 rfl dX7_wrong_108 ?_
                refine go_iconst X (v := 3) dX7_wrong_111 (by decide) ?_
                obtain ⟨c151, h⟩ := h
                refine go_iald X 1 1 rfl rfl c151 dX7_wrong_112 ?_
                refine go_sipush X (v := 200) dX7_wrong_113 (by decide) ?_
                refine go_icmp_le X 121 dX7_wrong_116 (by decide) (fun c152 => ?_) (fun c152 => ?_)
                · replace h := h.1 c152
                  refine go_aload_n X dX7_wrong_121 2 rfl rfl ?_
                  refine go_iload_n X dX7_wrong_122 0 rfl rfl ?_
                  refine go_iconst X (v := (-1)) dX7_wrong_123 (by decide) ?_
                  refine go_callVv X (kX7_layAhead l D cy a_o a_o_tape a_o_sampleLong a_o_sampleByte a_o_idOf a_o_pieces a_o_pieceLong a_o_bytesOf a_o_dictionary a_o_covered a_o_taken a_o_row a_o_cost a_o_leastD a_o_out a_o_text o_thrown o_taped o_samples o_takenMany o_ahead o_textLong o_outMany o_items o_matches o_textMany o_pieceLong o_bytesOf o_dictionary o_row ((-1) : Int32) ((-1) : Int32) _ h) (cwV 2 X.2.2.2.2.1 gX7_wrong_X7_layAhead rfl rfl rfl cd_X7_layAhead ⟨by decide, by decide⟩) (wr := [(a_o_tape, .inl (cy 1, 200, .inl o_tape)), (a_o_idOf, .inl (cy 1, 6, .inl o_idOf))]) (ws2 := fun u => [(a_o, .inr (10, [.int o_thrown, .ref a_o_tape, .int o_taped, .int o_samples, .ref a_o_sampleLong, .ref a_o_sampleByte, .ref a_o_idOf, .ref a_o_pieces, .ref a_o_pieceLong, .ref a_o_bytesOf, .ref a_o_dictionary, .ref a_o_covered, .ref a_o_taken, .int o_takenMany, .ref a_o_row, .int u.1, .int o_textLong, .ref a_o_cost, .ref a_o_leastD, .ref a_o_out, .int o_outMany, .int o_items, .int o_matches, .ref a_o_text, .int o_textMany])), (a_o_tape, .inl (cy 1, 200, .inl o_tape)), (a_o_idOf, .inl (cy 1, 6, .inl o_idOf)), (a_o_pieceLong, .inl (cy 1, 480, .inl o_pieceLong)), (a_o_bytesOf, .inl (cy 1, 6, .inl o_bytesOf)), (a_o_dictionary, .inl (cy 1, 480, .inl o_dictionary)), (a_o_row, .inl (cy 1, 280, .inl u.2))]) (perm_idx [0, 3, 4, 5, 6, 1, 2] rfl rfl) (fun u => perm_idx [0, 5, 6, 1, 2, 3, 4] rfl rfl) rfl rfl rfl rfl (Nat.le_of_ble_eq_true rfl) dX7_wrong_124 ⟨by decide, by decide⟩ (fun u h => ?_)
                  obtain ⟨s153, s154⟩ := u
                  refine go_aload_n X dX7_wrong_127 2 rfl rfl ?_
                  refine go_aload_n X dX7_wrong_128 2 rfl rfl ?_
                  refine go_get X fi_X7_wrong_X7 0 rfl rfl 1 (by decide) fl_X7_wrong_7 rfl dX7_wrong_129 ?_
                  refine go_iconst X (v := 3) dX7_wrong_132 (by decide) ?_
                  obtain ⟨c155, h⟩ := h
                  refine go_iald X 1 1 rfl rfl c155 dX7_wrong_133 ?_
                  refine go_topi (fun y156 ey156 => ?_)
                  replace h := h y156 ey156
                  refine go_put X (ws' := [(a_o, .inr (10, [.int o_thrown, .ref a_o_tape, .int o_taped, .int o_samples, .ref a_o_sampleLong, .ref a_o_sampleByte, .ref a_o_idOf, .ref a_o_pieces, .ref a_o_pieceLong, .ref a_o_bytesOf, .ref a_o_dictionary, .ref a_o_covered, .ref a_o_taken, .int o_takenMany, .ref a_o_row, .int s153, .int y156, .ref a_o_cost, .ref a_o_leastD, .ref a_o_out, .int o_outMany, .int o_items, .int o_matches, .ref a_o_text, .int o_textMany])), (a_o_tape, .inl (cy 1, 200, .inl o_tape)), (a_o_idOf, .inl (cy 1, 6, .inl o_idOf)), (a_o_pieceLong, .inl (cy 1, 480, .inl o_pieceLong)), (a_o_bytesOf, .inl (cy 1, 6, .inl o_bytesOf)), (a_o_dictionary, .inl (cy 1, 480, .inl o_dictionary)), (a_o_row, .inl (cy 1, 280, .inl s154))]) fi_X7_wrong_X7 tyX7 tyX7_ok nmX7 0 rfl rfl 16 (by decide) fl_X7_wrong_103 rfl (tyX7_ok 16 (by decide)) rfl rfl (Nat.le_of_ble_eq_true rfl) rfl dX7_wrong_134 ?_
                  refine go_iconst X (v := 4) dX7_wrong_137 (by decide) ?_
                  refine go_istore_n X (lv' := [(3, .int 4), (2, .int (-1)), (1, .int y72), (0, .ref a_o)]) dX7_wrong_138 rfl (by decide) rfl ?_
                  refine go_iconst X (v := 0) dX7_wrong_139 (by decide) ?_
                  refine go_istore X (lv' := [(4, .int 0), (3, .int 4), (2, .int (-1)), (1, .int y72), (0, .ref a_o)]) dX7_wrong_140 (by decide) rfl ?_
                  obtain ⟨n162, h⟩ := h
                  refine go_lv [4, 1, 0] rfl ?_
                  refine pX7_wrong_142 l X a_o a_o_tape a_o_sampleLong a_o_sampleByte a_o_idOf a_o_pieces a_o_pieceLong a_o_bytesOf a_o_dictionary a_o_covered a_o_taken a_o_row a_o_cost a_o_leastD a_o_out a_o_text o_thrown o_taped o_samples o_takenMany s153 y156 o_outMany o_items o_matches o_textMany o_tape o_idOf o_pieceLong o_bytesOf o_dictionary post hR _ (fun s157 y158 y159 h => ?_) n162 s154 (4 : Int32) (0 : Int32) h
                  refine go_iload X dX7_wrong_387 2 rfl ?_
                  refine go_aload_n X dX7_wrong_389 0 rfl rfl ?_
                  refine go_get X fi_X7_wrong_X7 0 rfl rfl 16 (by decide) fl_X7_wrong_103 rfl dX7_wrong_390 ?_
                  refine go_icmp_lt X 404 dX7_wrong_393 (by decide) (fun c160 => ?_) (fun c160 => ?_)
                  · replace h := h.1 c160
                    refine go_iload_n X dX7_wrong_404 1 rfl rfl ?_
                    refine go_goto X 409 dX7_wrong_405 (by decide) ?_
                    exact hR y158 (s153, y156, s157) 409 _ dX7_wrong_409 rfl h
                  · replace h := h.2 c160
                    refine go_iload_n X dX7_wrong_396 1 rfl rfl ?_
                    refine go_aload_n X dX7_wrong_397 0 rfl rfl ?_
                    refine go_get X fi_X7_wrong_X7 0 rfl rfl 2 (by decide) fl_X7_wrong_56 rfl dX7_wrong_398 ?_
                    refine go_icmp_ge X 408 dX7_wrong_401 (by decide) (fun c161 => ?_) (fun c161 => ?_)
                    · replace h := h.1 c161
                      refine go_iconst X (v := (-1)) dX7_wrong_408 (by decide) ?_
                      exact hR (-1) (s153, y156, s157) 409 _ dX7_wrong_409 rfl h
                    · replace h := h.2 c161
                      refine go_iload_n X dX7_wrong_404 1 rfl rfl ?_
                      refine go_goto X 409 dX7_wrong_405 (by decide) ?_
                      exact hR y158 (s153, y156, s157) 409 _ dX7_wrong_409 rfl h
                · replace h := h.2 c152
                  refine go_iconst X (v := 3) dX7_wrong_119 (by decide) ?_
                  exact hR 3 (o_ahead, o_textLong, o_row) 120 _ dX7_wrong_120 rfl h
            · replace h := h.2 c149
              refine go_iconst X (v := 1) dX7_wrong_97 (by decide) ?_
              exact hR 1 (o_ahead, o_textLong, o_row) 98 _ dX7_wrong_98 rfl h
          · replace h := h.2 c146
            refine go_aload_n X dX7_wrong_58 2 rfl rfl ?_
            refine go_get X fi_X7_wrong_X7 0 rfl rfl 2 (by decide) fl_X7_wrong_56 rfl dX7_wrong_59 ?_
            exact hR o_taped (o_ahead, o_textLong, o_row) 62 _ dX7_wrong_62 rfl h
        · replace h := h.2 c145
          refine go_iload_n X dX7_wrong_43 0 rfl rfl ?_
          refine go_iconst X (v := (-1)) dX7_wrong_44 (by decide) ?_
          refine go_icmp_ne X 50 dX7_wrong_45 (by decide) (fun c0 => absurd c0 (by decide)) (fun _ => ?_)
          refine go_iconst X (v := 0) dX7_wrong_48 (by decide) ?_
          exact hR 0 (o_ahead, o_textLong, o_row) 49 _ dX7_wrong_49 rfl h
