/-! X7_wrong -/
theorem fi_X7_wrong_X7 : ∀ w ∈ u_ws RX7 TX7 25, w ∈ wsX7_wrong := by decide +kernel
theorem fl_X7_wrong_56 : Cond.fieldLink RX7 56 (TX7 2).1 (TX7 2).2.1 (TX7 2).2.2.1 ∈ wsX7_wrong := by decide +kernel
theorem fl_X7_wrong_7 : Cond.fieldLink RX7 7 (TX7 1).1 (TX7 1).2.1 (TX7 1).2.2.1 ∈ wsX7_wrong := by decide +kernel
theorem fl_X7_wrong_103 : Cond.fieldLink RX7 103 (TX7 16).1 (TX7 16).2.1 (TX7 16).2.2.1 ∈ wsX7_wrong := by decide +kernel
theorem fl_X7_wrong_96 : Cond.fieldLink RX7 96 (TX7 15).1 (TX7 15).2.1 (TX7 15).2.2.1 ∈ wsX7_wrong := by decide +kernel
theorem fl_X7_wrong_41 : Cond.fieldLink RX7 41 (TX7 14).1 (TX7 14).2.1 (TX7 14).2.2.1 ∈ wsX7_wrong := by decide +kernel
def rm_X7_wrong : Room := { frames := 2, cells := 0, slots := 0, locals := 49 }
theorem cd_X7_wrong : yX7_wrong.cls = RX7 ∧ yX7_wrong.cls ≠ "java/lang/invoke/MethodHandle" ∧ yX7_wrong.cls ≠ "java/lang/invoke/VarHandle" ∧ (parseMethodDescriptor yX7_wrong.desc).map (fun d => d.parameters.length) = some 0 := by decide +kernel
set_option maxRecDepth 100000 in
set_option maxHeartbeats 4000000 in
theorem pX7_wrong_328 {p : Program} (l : Launch) {e : Env} {s : State} {m : MethodId} {args : Array Value} {below : List Frame} {meth : Method} {c : Code} {Q : State → Prop} {D : va_G} {cy : Nat → ClassId} {A : Nat → Prop} (X : Cx p s m args c cX7_wrong 9 RX7 wsX7_wrong D (tyL cy) A) (a_o : Nat) (a_o_tape : Nat) (a_o_sampleLong : Nat) (a_o_sampleByte : Nat) (a_o_idOf : Nat) (a_o_pieces : Nat) (a_o_pieceLong : Nat) (a_o_bytesOf : Nat) (a_o_dictionary : Nat) (a_o_covered : Nat) (a_o_taken : Nat) (a_o_row : Nat) (a_o_cost : Nat) (a_o_leastD : Nat) (a_o_out : Nat) (a_o_text : Nat) (o_thrown : Int32) (o_taped : Int32) (o_samples : Int32) (o_takenMany : Int32) (o_ahead : Int32) (o_textLong : Int32) (o_outMany : Int32) (o_items : Int32) (o_matches : Int32) (o_textMany : Int32) (o_tape : Nat → Int32) (o_idOf : Nat → Int32) (o_pieceLong : Nat → Int32) (o_bytesOf : Nat → Int32) (o_dictionary : Nat → Int32) (v3 : Int32) (v4 : Int32) (v6 : Int32) (v7 : Int32) (K : (Nat → Int32) → Int32 → Prop) (hK : ∀ (o_row : Nat → Int32) (v8 : Int32), K o_row v8 → Go p l e rm_X7_wrong s m args below meth c Q 9 D A [(a_o, .inr (10, [.int o_thrown, .ref a_o_tape, .int o_taped, .int o_samples, .ref a_o_sampleLong, .ref a_o_sampleByte, .ref a_o_idOf, .ref a_o_pieces, .ref a_o_pieceLong, .ref a_o_bytesOf, .ref a_o_dictionary, .ref a_o_covered, .ref a_o_taken, .int o_takenMany, .ref a_o_row, .int o_ahead, .int o_textLong, .ref a_o_cost, .ref a_o_leastD, .ref a_o_out, .int o_outMany, .int o_items, .int o_matches, .ref a_o_text, .int o_textMany])), (a_o_tape, .inl (cy 1, 200, .inl o_tape)), (a_o_idOf, .inl (cy 1, 6, .inl o_idOf)), (a_o_pieceLong, .inl (cy 1, 480, .inl o_pieceLong)), (a_o_bytesOf, .inl (cy 1, 6, .inl o_bytesOf)), (a_o_dictionary, .inl (cy 1, 480, .inl o_dictionary)), (a_o_row, .inl (cy 1, 280, .inl o_row))] 0 0 374 [(0, .ref a_o), (3, .int v3), (4, .int v4), (6, .int v6)] []) :
    ∀ (n : Nat) (o_row : Nat → Int32) (v8 : Int32), wX7_wrong_328 o_ahead v4 v6 v7 K n o_row v8 → Go p l e rm_X7_wrong s m args below meth c Q 9 D A [(a_o, .inr (10, [.int o_thrown, .ref a_o_tape, .int o_taped, .int o_samples, .ref a_o_sampleLong, .ref a_o_sampleByte, .ref a_o_idOf, .ref a_o_pieces, .ref a_o_pieceLong, .ref a_o_bytesOf, .ref a_o_dictionary, .ref a_o_covered, .ref a_o_taken, .int o_takenMany, .ref a_o_row, .int o_ahead, .int o_textLong, .ref a_o_cost, .ref a_o_leastD, .ref a_o_out, .int o_outMany, .int o_items, .int o_matches, .ref a_o_text, .int o_textMany])), (a_o_tape, .inl (cy 1, 200, .inl o_tape)), (a_o_idOf, .inl (cy 1, 6, .inl o_idOf)), (a_o_pieceLong, .inl (cy 1, 480, .inl o_pieceLong)), (a_o_bytesOf, .inl (cy 1, 6, .inl o_bytesOf)), (a_o_dictionary, .inl (cy 1, 480, .inl o_dictionary)), (a_o_row, .inl (cy 1, 280, .inl o_row))] 0 0 328 [(0, .ref a_o), (3, .int v3), (4, .int v4), (6, .int v6), (7, .int v7), (8, .int v8)] [] := by
  intro n
  induction n with
  | zero => intro o_row v8 h; exact absurd h id
  | succ n ih =>
    intro o_row v8 h
    refine go_iload X dX7_wrong_328 5 rfl ?_
    refine go_iload X dX7_wrong_330 3 rfl ?_
    refine go_icmp_ge X 374 dX7_wrong_332 (by decide) (fun c31 => ?_) (fun c31 => ?_)
    · replace h := h.1 c31
      refine go_lv [0, 1, 2, 3] rfl ?_
      exact hK o_row v8 h
    · replace h := h.2 c31
      refine go_aload_n X dX7_wrong_335 0 rfl rfl ?_
      refine go_get X fi_X7_wrong_X7 0 rfl rfl 14 (by decide) fl_X7_wrong_41 rfl dX7_wrong_336 ?_
      refine go_aload_n X dX7_wrong_339 0 rfl rfl ?_
      refine go_get X fi_X7_wrong_X7 0 rfl rfl 15 (by decide) fl_X7_wrong_96 rfl dX7_wrong_340 ?_
      refine go_iload X dX7_wrong_343 2 rfl ?_
      refine go_iadd X dX7_wrong_345 ?_
      refine go_iload X dX7_wrong_346 5 rfl ?_
      refine go_iadd X dX7_wrong_348 ?_
      refine go_aload_n X dX7_wrong_349 0 rfl rfl ?_
      refine go_get X fi_X7_wrong_X7 0 rfl rfl 14 (by decide) fl_X7_wrong_41 rfl dX7_wrong_350 ?_
      refine go_aload_n X dX7_wrong_353 0 rfl rfl ?_
      refine go_get X fi_X7_wrong_X7 0 rfl rfl 15 (by decide) fl_X7_wrong_96 rfl dX7_wrong_354 ?_
      refine go_iload X dX7_wrong_357 2 rfl ?_
      refine go_iadd X dX7_wrong_359 ?_
      refine go_iload X dX7_wrong_360 5 rfl ?_
      refine go_iadd X dX7_wrong_362 ?_
      refine go_iload X dX7_wrong_363 4 rfl ?_
      refine go_isub X dX7_wrong_365 ?_
      obtain ⟨c32, h⟩ := h
      refine go_iald X 6 1 rfl rfl c32 dX7_wrong_366 ?_
      obtain ⟨c33, h⟩ := h
      refine go_iast X [(a_o, .inr (10, [.int o_thrown, .ref a_o_tape, .int o_taped, .int o_samples, .ref a_o_sampleLong, .ref a_o_sampleByte, .ref a_o_idOf, .ref a_o_pieces, .ref a_o_pieceLong, .ref a_o_bytesOf, .ref a_o_dictionary, .ref a_o_covered, .ref a_o_taken, .int o_takenMany, .ref a_o_row, .int o_ahead, .int o_textLong, .ref a_o_cost, .ref a_o_leastD, .ref a_o_out, .int o_outMany, .int o_items, .int o_matches, .ref a_o_text, .int o_textMany])), (a_o_tape, .inl (cy 1, 200, .inl o_tape)), (a_o_idOf, .inl (cy 1, 6, .inl o_idOf)), (a_o_pieceLong, .inl (cy 1, 480, .inl o_pieceLong)), (a_o_bytesOf, .inl (cy 1, 6, .inl o_bytesOf)), (a_o_dictionary, .inl (cy 1, 480, .inl o_dictionary)), (a_o_row, .inl (cy 1, 280, .inl (upd o_row ((o_ahead + v4) + v8).toNatClampNeg (o_row (((o_ahead + v4) + v8) - v7).toNatClampNeg))))] 6 1 rfl rfl c33 rfl dX7_wrong_367 ?_
      obtain ⟨y34, ey34⟩ : ∃ z : Int32, z = v8 + 1 := ⟨_, rfl⟩
      replace h := h y34 ey34
      refine go_iinc X (lv' := [(8, .int y34), (0, .ref a_o), (3, .int v3), (4, .int v4), (6, .int v6), (7, .int v7)]) y34 dX7_wrong_368 5 rfl (by rw [ey34]; rfl) (by decide) rfl ?_
      refine go_goto X 328 dX7_wrong_371 (by decide) ?_
      refine go_lv [1, 2, 3, 4, 5, 0] rfl ?_
      exact ih (upd o_row ((o_ahead + v4) + v8).toNatClampNeg (o_row (((o_ahead + v4) + v8) - v7).toNatClampNeg)) y34 h
set_option maxRecDepth 100000 in
set_option maxHeartbeats 4000000 in
theorem pX7_wrong_233 {p : Program} (l : Launch) {e : Env} {s : State} {m : MethodId} {args : Array Value} {below : List Frame} {meth : Method} {c : Code} {Q : State → Prop} {D : va_G} {cy : Nat → ClassId} {A : Nat → Prop} (X : Cx p s m args c cX7_wrong 9 RX7 wsX7_wrong D (tyL cy) A) (a_o : Nat) (a_o_tape : Nat) (a_o_sampleLong : Nat) (a_o_sampleByte : Nat) (a_o_idOf : Nat) (a_o_pieces : Nat) (a_o_pieceLong : Nat) (a_o_bytesOf : Nat) (a_o_dictionary : Nat) (a_o_covered : Nat) (a_o_taken : Nat) (a_o_row : Nat) (a_o_cost : Nat) (a_o_leastD : Nat) (a_o_out : Nat) (a_o_text : Nat) (o_thrown : Int32) (o_taped : Int32) (o_samples : Int32) (o_takenMany : Int32) (o_ahead : Int32) (o_textLong : Int32) (o_outMany : Int32) (o_items : Int32) (o_matches : Int32) (o_textMany : Int32) (o_tape : Nat → Int32) (o_idOf : Nat → Int32) (o_pieceLong : Nat → Int32) (o_bytesOf : Nat → Int32) (o_dictionary : Nat → Int32) (v3 : Int32) (v4 : Int32) (v6 : Int32) (K : (Nat → Int32) → Int32 → Prop) (hK : ∀ (o_row : Nat → Int32) (v7 : Int32), K o_row v7 → Go p l e rm_X7_wrong s m args below meth c Q 9 D A [(a_o, .inr (10, [.int o_thrown, .ref a_o_tape, .int o_taped, .int o_samples, .ref a_o_sampleLong, .ref a_o_sampleByte, .ref a_o_idOf, .ref a_o_pieces, .ref a_o_pieceLong, .ref a_o_bytesOf, .ref a_o_dictionary, .ref a_o_covered, .ref a_o_taken, .int o_takenMany, .ref a_o_row, .int o_ahead, .int o_textLong, .ref a_o_cost, .ref a_o_leastD, .ref a_o_out, .int o_outMany, .int o_items, .int o_matches, .ref a_o_text, .int o_textMany])), (a_o_tape, .inl (cy 1, 200, .inl o_tape)), (a_o_idOf, .inl (cy 1, 6, .inl o_idOf)), (a_o_pieceLong, .inl (cy 1, 480, .inl o_pieceLong)), (a_o_bytesOf, .inl (cy 1, 6, .inl o_bytesOf)), (a_o_dictionary, .inl (cy 1, 480, .inl o_dictionary)), (a_o_row, .inl (cy 1, 280, .inl o_row))] 0 0 270 [(0, .ref a_o), (3, .int v3), (4, .int v4), (6, .int v6)] []) :
    ∀ (n : Nat) (o_row : Nat → Int32) (v7 : Int32), wX7_wrong_233 o_ahead o_tape v3 v4 v6 K n o_row v7 → Go p l e rm_X7_wrong s m args below meth c Q 9 D A [(a_o, .inr (10, [.int o_thrown, .ref a_o_tape, .int o_taped, .int o_samples, .ref a_o_sampleLong, .ref a_o_sampleByte, .ref a_o_idOf, .ref a_o_pieces, .ref a_o_pieceLong, .ref a_o_bytesOf, .ref a_o_dictionary, .ref a_o_covered, .ref a_o_taken, .int o_takenMany, .ref a_o_row, .int o_ahead, .int o_textLong, .ref a_o_cost, .ref a_o_leastD, .ref a_o_out, .int o_outMany, .int o_items, .int o_matches, .ref a_o_text, .int o_textMany])), (a_o_tape, .inl (cy 1, 200, .inl o_tape)), (a_o_idOf, .inl (cy 1, 6, .inl o_idOf)), (a_o_pieceLong, .inl (cy 1, 480, .inl o_pieceLong)), (a_o_bytesOf, .inl (cy 1, 6, .inl o_bytesOf)), (a_o_dictionary, .inl (cy 1, 480, .inl o_dictionary)), (a_o_row, .inl (cy 1, 280, .inl o_row))] 0 0 233 [(0, .ref a_o), (3, .int v3), (4, .int v4), (6, .int v6), (7, .int v7)] [] := by
  intro n
  induction n with
  | zero => intro o_row v7 h; exact absurd h id
  | succ n ih =>
    intro o_row v7 h
    refine go_iload X dX7_wrong_233 4 rfl ?_
    refine go_iload X dX7_wrong_235 3 rfl ?_
    refine go_icmp_ge X 270 dX7_wrong_237 (by decide) (fun c44 => ?_) (fun c44 => ?_)
    · replace h := h.1 c44
      refine go_lv [0, 1, 2, 3] rfl ?_
      exact hK o_row v7 h
    · replace h := h.2 c44
      refine go_aload_n X dX7_wrong_240 0 rfl rfl ?_
      refine go_get X fi_X7_wrong_X7 0 rfl rfl 14 (by decide) fl_X7_wrong_41 rfl dX7_wrong_241 ?_
      refine go_aload_n X dX7_wrong_244 0 rfl rfl ?_
      refine go_get X fi_X7_wrong_X7 0 rfl rfl 15 (by decide) fl_X7_wrong_96 rfl dX7_wrong_245 ?_
      refine go_iload X dX7_wrong_248 2 rfl ?_
      refine go_iadd X dX7_wrong_250 ?_
      refine go_iload X dX7_wrong_251 4 rfl ?_
      refine go_iadd X dX7_wrong_253 ?_
      refine go_aload_n X dX7_wrong_254 0 rfl rfl ?_
      refine go_get X fi_X7_wrong_X7 0 rfl rfl 1 (by decide) fl_X7_wrong_7 rfl dX7_wrong_255 ?_
      refine go_iload_n X dX7_wrong_258 1 rfl rfl ?_
      refine go_iload X dX7_wrong_259 4 rfl ?_
      refine go_iadd X dX7_wrong_261 ?_
      obtain ⟨c45, h⟩ := h
      refine go_iald X 1 1 rfl rfl c45 dX7_wrong_262 ?_
      obtain ⟨c46, h⟩ := h
      refine go_iast X [(a_o, .inr (10, [.int o_thrown, .ref a_o_tape, .int o_taped, .int o_samples, .ref a_o_sampleLong, .ref a_o_sampleByte, .ref a_o_idOf, .ref a_o_pieces, .ref a_o_pieceLong, .ref a_o_bytesOf, .ref a_o_dictionary, .ref a_o_covered, .ref a_o_taken, .int o_takenMany, .ref a_o_row, .int o_ahead, .int o_textLong, .ref a_o_cost, .ref a_o_leastD, .ref a_o_out, .int o_outMany, .int o_items, .int o_matches, .ref a_o_text, .int o_textMany])), (a_o_tape, .inl (cy 1, 200, .inl o_tape)), (a_o_idOf, .inl (cy 1, 6, .inl o_idOf)), (a_o_pieceLong, .inl (cy 1, 480, .inl o_pieceLong)), (a_o_bytesOf, .inl (cy 1, 6, .inl o_bytesOf)), (a_o_dictionary, .inl (cy 1, 480, .inl o_dictionary)), (a_o_row, .inl (cy 1, 280, .inl (upd o_row ((o_ahead + v4) + v7).toNatClampNeg (o_tape (v3 + v7).toNatClampNeg))))] 6 1 rfl rfl c46 rfl dX7_wrong_263 ?_
      obtain ⟨y47, ey47⟩ : ∃ z : Int32, z = v7 + 1 := ⟨_, rfl⟩
      replace h := h y47 ey47
      refine go_iinc X (lv' := [(7, .int y47), (0, .ref a_o), (3, .int v3), (4, .int v4), (6, .int v6)]) y47 dX7_wrong_264 4 rfl (by rw [ey47]; rfl) (by decide) rfl ?_
      refine go_goto X 233 dX7_wrong_267 (by decide) ?_
      refine go_lv [1, 2, 3, 4, 0] rfl ?_
      exact ih (upd o_row ((o_ahead + v4) + v7).toNatClampNeg (o_tape (v3 + v7).toNatClampNeg)) y47 h
set_option maxRecDepth 100000 in
set_option maxHeartbeats 4000000 in
theorem pX7_wrong_142 {p : Program} (l : Launch) {e : Env} {s : State} {m : MethodId} {args : Array Value} {below : List Frame} {meth : Method} {c : Code} {Q : State → Prop} {D : va_G} {cy : Nat → ClassId} {A : Nat → Prop} (X : Cx p s m args c cX7_wrong 9 RX7 wsX7_wrong D (tyL cy) A) (a_o : Nat) (a_o_tape : Nat) (a_o_sampleLong : Nat) (a_o_sampleByte : Nat) (a_o_idOf : Nat) (a_o_pieces : Nat) (a_o_pieceLong : Nat) (a_o_bytesOf : Nat) (a_o_dictionary : Nat) (a_o_covered : Nat) (a_o_taken : Nat) (a_o_row : Nat) (a_o_cost : Nat) (a_o_leastD : Nat) (a_o_out : Nat) (a_o_text : Nat) (o_thrown : Int32) (o_taped : Int32) (o_samples : Int32) (o_takenMany : Int32) (o_ahead : Int32) (o_textLong : Int32) (o_outMany : Int32) (o_items : Int32) (o_matches : Int32) (o_textMany : Int32) (o_tape : Nat → Int32) (o_idOf : Nat → Int32) (o_pieceLong : Nat → Int32) (o_bytesOf : Nat → Int32) (o_dictionary : Nat → Int32) (post : Int32 → Int32 → Int32 → (Nat → Int32) → Prop) (hR : RtI p l e rm_X7_wrong s m args below meth c cX7_wrong Q 9 D A .int (fun u : Int32 × Int32 × (Nat → Int32) => [(a_o, .inr (10, [.int o_thrown, .ref a_o_tape, .int o_taped, .int o_samples, .ref a_o_sampleLong, .ref a_o_sampleByte, .ref a_o_idOf, .ref a_o_pieces, .ref a_o_pieceLong, .ref a_o_bytesOf, .ref a_o_dictionary, .ref a_o_covered, .ref a_o_taken, .int o_takenMany, .ref a_o_row, .int u.1, .int u.2.1, .ref a_o_cost, .ref a_o_leastD, .ref a_o_out, .int o_outMany, .int o_items, .int o_matches, .ref a_o_text, .int o_textMany])), (a_o_tape, .inl (cy 1, 200, .inl o_tape)), (a_o_idOf, .inl (cy 1, 6, .inl o_idOf)), (a_o_pieceLong, .inl (cy 1, 480, .inl o_pieceLong)), (a_o_bytesOf, .inl (cy 1, 6, .inl o_bytesOf)), (a_o_dictionary, .inl (cy 1, 480, .inl o_dictionary)), (a_o_row, .inl (cy 1, 280, .inl u.2.2))]) (fun r => fun (u : Int32 × Int32 × (Nat → Int32)) => post r u.1 u.2.1 u.2.2) 0 0) (K : (Nat → Int32) → Int32 → Int32 → Prop) (hK : ∀ (o_row : Nat → Int32) (v3 : Int32) (v4 : Int32), K o_row v3 v4 → Go p l e rm_X7_wrong s m args below meth c Q 9 D A [(a_o, .inr (10, [.int o_thrown, .ref a_o_tape, .int o_taped, .int o_samples, .ref a_o_sampleLong, .ref a_o_sampleByte, .ref a_o_idOf, .ref a_o_pieces, .ref a_o_pieceLong, .ref a_o_bytesOf, .ref a_o_dictionary, .ref a_o_covered, .ref a_o_taken, .int o_takenMany, .ref a_o_row, .int o_ahead, .int o_textLong, .ref a_o_cost, .ref a_o_leastD, .ref a_o_out, .int o_outMany, .int o_items, .int o_matches, .ref a_o_text, .int o_textMany])), (a_o_tape, .inl (cy 1, 200, .inl o_tape)), (a_o_idOf, .inl (cy 1, 6, .inl o_idOf)), (a_o_pieceLong, .inl (cy 1, 480, .inl o_pieceLong)), (a_o_bytesOf, .inl (cy 1, 6, .inl o_bytesOf)), (a_o_dictionary, .inl (cy 1, 480, .inl o_dictionary)), (a_o_row, .inl (cy 1, 280, .inl o_row))] 0 0 387 [(0, .ref a_o), (3, .int v3), (4, .int v4)] []) :
    ∀ (n : Nat) (o_row : Nat → Int32) (v3 : Int32) (v4 : Int32), wX7_wrong_142 o_taped o_ahead o_textLong o_tape post K n o_row v3 v4 → Go p l e rm_X7_wrong s m args below meth c Q 9 D A [(a_o, .inr (10, [.int o_thrown, .ref a_o_tape, .int o_taped, .int o_samples, .ref a_o_sampleLong, .ref a_o_sampleByte, .ref a_o_idOf, .ref a_o_pieces, .ref a_o_pieceLong, .ref a_o_bytesOf, .ref a_o_dictionary, .ref a_o_covered, .ref a_o_taken, .int o_takenMany, .ref a_o_row, .int o_ahead, .int o_textLong, .ref a_o_cost, .ref a_o_leastD, .ref a_o_out, .int o_outMany, .int o_items, .int o_matches, .ref a_o_text, .int o_textMany])), (a_o_tape, .inl (cy 1, 200, .inl o_tape)), (a_o_idOf, .inl (cy 1, 6, .inl o_idOf)), (a_o_pieceLong, .inl (cy 1, 480, .inl o_pieceLong)), (a_o_bytesOf, .inl (cy 1, 6, .inl o_bytesOf)), (a_o_dictionary, .inl (cy 1, 480, .inl o_dictionary)), (a_o_row, .inl (cy 1, 280, .inl o_row))] 0 0 142 [(0, .ref a_o), (3, .int v3), (4, .int v4)] [] := by
  intro n
  induction n with
  | zero => intro o_row v3 v4 h; exact absurd h id
  | succ n ih =>
    intro o_row v3 v4 h
    refine go_iload X dX7_wrong_142 2 rfl ?_
    refine go_aload_n X dX7_wrong_144 0 rfl rfl ?_
    refine go_get X fi_X7_wrong_X7 0 rfl rfl 16 (by decide) fl_X7_wrong_103 rfl dX7_wrong_145 ?_
    refine go_icmp_ge X 387 dX7_wrong_148 (by decide) (fun c17 => ?_) (fun c17 => ?_)
    · replace h := h.1 c17
      exact hK o_row v3 v4 h
    · replace h := h.2 c17
      refine go_iload_n X dX7_wrong_151 1 rfl rfl ?_
      refine go_aload_n X dX7_wrong_152 0 rfl rfl ?_
      refine go_get X fi_X7_wrong_X7 0 rfl rfl 2 (by decide) fl_X7_wrong_56 rfl dX7_wrong_153 ?_
      refine go_icmp_ge X 387 dX7_wrong_156 (by decide) (fun c18 => ?_) (fun c18 => ?_)
      · replace h := h.1 c18
        exact hK o_row v3 v4 h
      · replace h := h.2 c18
        refine go_aload_n X dX7_wrong_159 0 rfl rfl ?_
        refine go_get X fi_X7_wrong_X7 0 rfl rfl 1 (by decide) fl_X7_wrong_7 rfl dX7_wrong_160 ?_
        refine go_iload_n X dX7_wrong_163 1 rfl rfl ?_
        obtain ⟨c19, h⟩ := h
        refine go_iald X 1 1 rfl rfl c19 dX7_wrong_164 ?_
        refine go_topi (fun y20 ey20 => ?_)
        replace h := h y20 ey20
        refine go_istore X (lv' := [(5, .int y20), (0, .ref a_o), (3, .int v3), (4, .int v4)]) dX7_wrong_165 (by decide) rfl ?_
        refine go_iload X dX7_wrong_167 0 rfl ?_
        refine go_bipush X (v := 32) dX7_wrong_169 (by decide) ?_
        refine go_icmp_ge X 181 dX7_wrong_171 (by decide) (fun c21 => ?_) (fun c21 => ?_)
        · replace h := h.1 c21
          refine go_iload X dX7_wrong_181 0 rfl ?_
          refine go_bipush X (v := 32) dX7_wrong_183 (by decide) ?_
          refine go_idiv X dX7_wrong_185 (by decide) ?_
          refine go_iconst X (v := 2) dX7_wrong_186 (by decide) ?_
          refine go_iadd X dX7_wrong_187 ?_
          refine go_topi (fun y22 ey22 => ?_)
          replace h := h y22 ey22
          refine go_istore X (lv' := [(6, .int y22), (5, .int y20), (0, .ref a_o), (3, .int v3), (4, .int v4)]) dX7_wrong_188 (by decide) rfl ?_
          refine go_iload X dX7_wrong_190 4 rfl ?_
          refine go_iload X dX7_wrong_192 0 rfl ?_
          refine go_iadd X dX7_wrong_194 ?_
          refine go_aload_n X dX7_wrong_195 2 rfl rfl ?_
          refine go_get X fi_X7_wrong_X7 0 rfl rfl 16 (by decide) fl_X7_wrong_103 rfl dX7_wrong_196 ?_
          refine go_icmp_le X 204 dX7_wrong_199 (by decide) (fun c23 => ?_) (fun c23 => ?_)
          · replace h := h.1 c23
            obtain ⟨y24, ey24⟩ : ∃ z : Int32, z = v3 + 1 := ⟨_, rfl⟩
            replace h := h y24 ey24
            refine go_iinc X (lv' := [(3, .int y24), (6, .int y22), (5, .int y20), (0, .ref a_o), (4, .int v4)]) y24 dX7_wrong_204 3 rfl (by rw [ey24]; rfl) (by decide) rfl ?_
            refine go_iload X dX7_wrong_207 2 rfl ?_
            refine go_bipush X (v := 32) dX7_wrong_209 (by decide) ?_
            refine go_icmp_ge X 278 dX7_wrong_211 (by decide) (fun _ => ?_) (fun c0 => absurd c21 c0)
            refine go_iload_n X dX7_wrong_278 0 rfl rfl ?_
            refine go_aload_n X dX7_wrong_279 3 rfl rfl ?_
            refine go_get X fi_X7_wrong_X7 0 rfl rfl 2 (by decide) fl_X7_wrong_56 rfl dX7_wrong_280 ?_
            refine go_icmp_ne X 291 dX7_wrong_283 (by decide) (fun c25 => ?_) (fun c25 => ?_)
            · replace h := h.1 c25
              refine go_sipush X (v := 256) dX7_wrong_291 (by decide) ?_
              refine go_iload X dX7_wrong_294 2 rfl ?_
              refine go_bipush X (v := 32) dX7_wrong_296 (by decide) ?_
              refine go_irem X dX7_wrong_298 (by decide) ?_
              refine go_imul X dX7_wrong_299 ?_
              refine go_aload_n X dX7_wrong_300 3 rfl rfl ?_
              refine go_get X fi_X7_wrong_X7 0 rfl rfl 1 (by decide) fl_X7_wrong_7 rfl dX7_wrong_301 ?_
              refine go_iload_n X dX7_wrong_304 0 rfl rfl ?_
              obtain ⟨c26, h⟩ := h
              refine go_iald X 1 1 rfl rfl c26 dX7_wrong_305 ?_
              refine go_iadd X dX7_wrong_306 ?_
              refine go_iconst X (v := 1) dX7_wrong_307 (by decide) ?_
              refine go_iadd X dX7_wrong_308 ?_
              refine go_topi (fun y27 ey27 => ?_)
              replace h := h y27 ey27
              refine go_istore X (lv' := [(7, .int y27), (3, .int y24), (6, .int y22), (5, .int y20), (0, .ref a_o), (4, .int v4)]) dX7_wrong_309 (by decide) rfl ?_
              refine go_iload X dX7_wrong_311 0 rfl ?_
              refine go_aload_n X dX7_wrong_313 4 rfl rfl ?_
              refine go_get X fi_X7_wrong_X7 0 rfl rfl 15 (by decide) fl_X7_wrong_96 rfl dX7_wrong_314 ?_
              refine go_iload X dX7_wrong_317 5 rfl ?_
              refine go_iadd X dX7_wrong_319 ?_
              refine go_icmp_le X 325 dX7_wrong_320 (by decide) (fun c28 => ?_) (fun c28 => ?_)
              · replace h := h.1 c28
                refine go_iconst X (v := 0) dX7_wrong_325 (by decide) ?_
                refine go_istore X (lv' := [(8, .int 0), (7, .int y27), (3, .int y24), (6, .int y22), (5, .int y20), (0, .ref a_o), (4, .int v4)]) dX7_wrong_326 (by decide) rfl ?_
                obtain ⟨n37, h⟩ := h
                refine go_lv [5, 2, 6, 3, 1, 0] rfl ?_
                refine pX7_wrong_328 l X a_o a_o_tape a_o_sampleLong a_o_sampleByte a_o_idOf a_o_pieces a_o_pieceLong a_o_bytesOf a_o_dictionary a_o_covered a_o_taken a_o_row a_o_cost a_o_leastD a_o_out a_o_text o_thrown o_taped o_samples o_takenMany o_ahead o_textLong o_outMany o_items o_matches o_textMany o_tape o_idOf o_pieceLong o_bytesOf o_dictionary y24 v4 y22 y27  _ (fun s29 y30 h => ?_) n37 o_row (0 : Int32) h
                obtain ⟨y35, ey35⟩ : ∃ z : Int32, z = y24 + 1 := ⟨_, rfl⟩
                replace h := h y35 ey35
                refine go_iinc X (lv' := [(3, .int y35), (0, .ref a_o), (4, .int v4), (6, .int y22)]) y35 dX7_wrong_374 1 rfl (by rw [ey35]; rfl) (by decide) rfl ?_
                refine go_iload X dX7_wrong_377 2 rfl ?_
                refine go_iload X dX7_wrong_379 3 rfl ?_
                refine go_iadd X dX7_wrong_381 ?_
                refine go_topi (fun y36 ey36 => ?_)
                replace h := h y36 ey36
                refine go_istore X (lv' := [(4, .int y36), (3, .int y35), (0, .ref a_o), (6, .int y22)]) dX7_wrong_382 (by decide) rfl ?_
                refine go_goto X 142 dX7_wrong_384 (by decide) ?_
                refine go_lv [2, 1, 0] rfl ?_
                exact ih s29 y35 y36 h
              · replace h := h.2 c28
                refine go_iload_n X dX7_wrong_323 1 rfl rfl ?_
                exact hR y24 (o_ahead, o_textLong, o_row) 324 _ dX7_wrong_324 rfl h
            · replace h := h.2 c25
              refine go_aload_n X dX7_wrong_286 3 rfl rfl ?_
              refine go_get X fi_X7_wrong_X7 0 rfl rfl 2 (by decide) fl_X7_wrong_56 rfl dX7_wrong_287 ?_
              exact hR o_taped (o_ahead, o_textLong, o_row) 290 _ dX7_wrong_290 rfl h
          · replace h := h.2 c23
            refine go_iload_n X dX7_wrong_202 3 rfl rfl ?_
            exact hR v3 (o_ahead, o_textLong, o_row) 203 _ dX7_wrong_203 rfl h
        · replace h := h.2 c21
          refine go_iload X dX7_wrong_174 0 rfl ?_
          refine go_iconst X (v := 1) dX7_wrong_176 (by decide) ?_
          refine go_iadd X dX7_wrong_177 ?_
          refine go_goto X 188 dX7_wrong_178 (by decide) ?_
          refine go_topi (fun y38 ey38 => ?_)
          replace h := h y38 ey38
          refine go_istore X (lv' := [(6, .int y38), (5, .int y20), (0, .ref a_o), (3, .int v3), (4, .int v4)]) dX7_wrong_188 (by decide) rfl ?_
          refine go_iload X dX7_wrong_190 4 rfl ?_
          refine go_iload X dX7_wrong_192 0 rfl ?_
          refine go_iadd X dX7_wrong_194 ?_
          refine go_aload_n X dX7_wrong_195 2 rfl rfl ?_
          refine go_get X fi_X7_wrong_X7 0 rfl rfl 16 (by decide) fl_X7_wrong_103 rfl dX7_wrong_196 ?_
          refine go_icmp_le X 204 dX7_wrong_199 (by decide) (fun c39 => ?_) (fun c39 => ?_)
          · replace h := h.1 c39
            obtain ⟨y40, ey40⟩ : ∃ z : Int32, z = v3 + 1 := ⟨_, rfl⟩
            replace h := h y40 ey40
            refine go_iinc X (lv' := [(3, .int y40), (6, .int y38), (5, .int y20), (0, .ref a_o), (4, .int v4)]) y40 dX7_wrong_204 3 rfl (by rw [ey40]; rfl) (by decide) rfl ?_
            refine go_iload X dX7_wrong_207 2 rfl ?_
            refine go_bipush X (v := 32) dX7_wrong_209 (by decide) ?_
            refine go_icmp_ge X 278 dX7_wrong_211 (by decide) (fun c0 => absurd c0 c21) (fun _ => ?_)
            refine go_iload_n X dX7_wrong_214 0 rfl rfl ?_
            refine go_iload X dX7_wrong_215 1 rfl ?_
            refine go_iadd X dX7_wrong_217 ?_
            refine go_aload_n X dX7_wrong_218 3 rfl rfl ?_
            refine go_get X fi_X7_wrong_X7 0 rfl rfl 2 (by decide) fl_X7_wrong_56 rfl dX7_wrong_219 ?_
            refine go_icmp_le X 230 dX7_wrong_222 (by decide) (fun c41 => ?_) (fun c41 => ?_)
            · replace h := h.1 c41
              refine go_iconst X (v := 0) dX7_wrong_230 (by decide) ?_
              refine go_istore X (lv' := [(7, .int 0), (3, .int y40), (6, .int y38), (5, .int y20), (0, .ref a_o), (4, .int v4)]) dX7_wrong_231 (by decide) rfl ?_
              obtain ⟨n50, h⟩ := h
              refine go_lv [4, 1, 5, 2, 0] rfl ?_
              refine pX7_wrong_233 l X a_o a_o_tape a_o_sampleLong a_o_sampleByte a_o_idOf a_o_pieces a_o_pieceLong a_o_bytesOf a_o_dictionary a_o_covered a_o_taken a_o_row a_o_cost a_o_leastD a_o_out a_o_text o_thrown o_taped o_samples o_takenMany o_ahead o_textLong o_outMany o_items o_matches o_textMany o_tape o_idOf o_pieceLong o_bytesOf o_dictionary y40 v4 y38  _ (fun s42 y43 h => ?_) n50 o_row (0 : Int32) h
              refine go_iload_n X dX7_wrong_270 1 rfl rfl ?_
              refine go_iload X dX7_wrong_271 3 rfl ?_
              refine go_iadd X dX7_wrong_273 ?_
              refine go_topi (fun y48 ey48 => ?_)
              replace h := h y48 ey48
              refine go_istore_n X (lv' := [(3, .int y48), (0, .ref a_o), (4, .int v4), (6, .int y38)]) dX7_wrong_274 rfl (by decide) rfl ?_
              refine go_goto X 377 dX7_wrong_275 (by decide) ?_
              refine go_iload X dX7_wrong_377 2 rfl ?_
              refine go_iload X dX7_wrong_379 3 rfl ?_
              refine go_iadd X dX7_wrong_381 ?_
              refine go_topi (fun y49 ey49 => ?_)
              replace h := h y49 ey49
              refine go_istore X (lv' := [(4, .int y49), (3, .int y48), (0, .ref a_o), (6, .int y38)]) dX7_wrong_382 (by decide) rfl ?_
              refine go_goto X 142 dX7_wrong_384 (by decide) ?_
              refine go_lv [2, 1, 0] rfl ?_
              exact ih s42 y48 y49 h
            · replace h := h.2 c41
              refine go_aload_n X dX7_wrong_225 3 rfl rfl ?_
              refine go_get X fi_X7_wrong_X7 0 rfl rfl 2 (by decide) fl_X7_wrong_56 rfl dX7_wrong_226 ?_
              exact hR o_taped (o_ahead, o_textLong, o_row) 229 _ dX7_wrong_229 rfl h
          · replace h := h.2 c39
            refine go_iload_n X dX7_wrong_202 3 rfl rfl ?_
            exact hR v3 (o_ahead, o_textLong, o_row) 203 _ dX7_wrong_203 rfl h
set_option maxRecDepth 100000 in
set_option maxHeartbeats 4000000 in
theorem kX7_wrong (l : Launch) (D : va_G) (cy : Nat → ClassId) (a_o : Nat) (a_o_tape : Nat) (a_o_sampleLong : Nat) (a_o_sampleByte : Nat) (a_o_idOf : Nat) (a_o_pieces : Nat) (a_o_pieceLong : Nat) (a_o_bytesOf : Nat) (a_o_dictionary : Nat) (a_o_covered : Nat) (a_o_taken : Nat) (a_o_row : Nat) (a_o_cost : Nat) (a_o_leastD : Nat) (a_o_out : Nat) (a_o_text : Nat) (o_thrown : Int32) (o_taped : Int32) (o_samples : Int32) (o_takenMany : Int32) (o_ahead : Int32) (o_textLong : Int32) (o_outMany : Int32) (o_items : Int32) (o_matches : Int32) (o_textMany : Int32) (o_tape : Nat → Int32) (o_idOf : Nat → Int32) (o_pieceLong : Nat → Int32) (o_bytesOf : Nat → Int32) (o_dictionary : Nat → Int32) (o_row : Nat → Int32) (post : Int32 → Int32 → Int32 → (Nat → Int32) → Prop) (h : wX7_wrong o_taped o_ahead o_textLong o_tape o_idOf o_pieceLong o_bytesOf o_dictionary o_row post) : MetI l yX7_wrong wsX7_wrong rm_X7_wrong D (tyL cy) [.ref a_o] [(a_o, .inr (10, [.int o_thrown, .ref a_o_tape, .int o_taped, .int o_samples, .ref a_o_sampleLong, .ref a_o_sampleByte, .ref a_o_idOf, .ref a_o_pieces, .ref a_o_pieceLong, .ref a_o_bytesOf, .ref a_o_dictionary, .ref a_o_covered, .ref a_o_taken, .int o_takenMany, .ref a_o_row, .int o_ahead, .int o_textLong, .ref a_o_cost, .ref a_o_leastD, .ref a_o_out, .int o_outMany, .int o_items, .int o_matches, .ref a_o_text, .int o_textMany])), (a_o_tape, .inl (cy 1, 200, .inl o_tape)), (a_o_idOf, .inl (cy 1, 6, .inl o_idOf)), (a_o_pieceLong, .inl (cy 1, 480, .inl o_pieceLong)), (a_o_bytesOf, .inl (cy 1, 6, .inl o_bytesOf)), (a_o_dictionary, .inl (cy 1, 480, .inl o_dictionary)), (a_o_row, .inl (cy 1, 280, .inl o_row))] (fun u : Int32 × Int32 × (Nat → Int32) => [(a_o, .inr (10, [.int o_thrown, .ref a_o_tape, .int o_taped, .int o_samples, .ref a_o_sampleLong, .ref a_o_sampleByte, .ref a_o_idOf, .ref a_o_pieces, .ref a_o_pieceLong, .ref a_o_bytesOf, .ref a_o_dictionary, .ref a_o_covered, .ref a_o_taken, .int o_takenMany, .ref a_o_row, .int u.1, .int u.2.1, .ref a_o_cost, .ref a_o_leastD, .ref a_o_out, .int o_outMany, .int o_items, .int o_matches, .ref a_o_text, .int o_textMany])), (a_o_tape, .inl (cy 1, 200, .inl o_tape)), (a_o_idOf, .inl (cy 1, 6, .inl o_idOf)), (a_o_pieceLong, .inl (cy 1, 480, .inl o_pieceLong)), (a_o_bytesOf, .inl (cy 1, 6, .inl o_bytesOf)), (a_o_dictionary, .inl (cy 1, 480, .inl o_dictionary)), (a_o_row, .inl (cy 1, 280, .inl u.2.2))]) (fun r => fun (u : Int32 × Int32 × (Nat → Int32)) => post r u.1 u.2.1 u.2.2) 0 0 := by
  refine metI_of (cc := cX7_wrong) (maxL := 9) (lv := [(0, .ref a_o)]) (by decide) rfl (Nat.le_of_ble_eq_true rfl) rfl ?_
  intro p e s m below meth c Q A X hlk hR
  unfold wX7_wrong at h
  refine go_aload_n X dX7_wrong_0 0 rfl rfl ?_
  refine go_get X fi_X7_wrong_X7 0 rfl rfl 2 (by decide) fl_X7_wrong_56 rfl dX7_wrong_1 ?_
  refine go_if_le X 16 dX7_wrong_4 (by decide) (fun c1 => ?_) (fun c1 => ?_)
  · replace h := h.1 c1
    refine go_iconst X (v := 0) dX7_wrong_16 (by decide) ?_
    refine go_istore_n X (lv' := [(1, .int 0), (0, .ref a_o)]) dX7_wrong_17 rfl (by decide) rfl ?_
    refine go_iload_n X dX7_wrong_18 0 rfl rfl ?_
    refine go_if_ne X 26 dX7_wrong_19 (by decide) (fun c0 => absurd c0 (by decide)) (fun _ => ?_)
    refine go_iconst X (v := (-1)) dX7_wrong_22 (by decide) ?_
    refine go_goto X 31 dX7_wrong_23 (by decide) ?_
    refine go_istore_n X (lv' := [(2, .int (-1)), (1, .int 0), (0, .ref a_o)]) dX7_wrong_31 rfl (by decide) rfl ?_
    refine go_aload_n X dX7_wrong_32 2 rfl rfl ?_
    refine go_get X fi_X7_wrong_X7 0 rfl rfl 2 (by decide) fl_X7_wrong_56 rfl dX7_wrong_33 ?_
    refine go_if_eq X 48 dX7_wrong_36 (by decide) (fun c2 => ?_) (fun c2 => ?_)
    · replace h := h.1 c2
      refine go_iconst X (v := 0) dX7_wrong_48 (by decide) ?_
      exact hR 0 (o_ahead, o_textLong, o_row) 49 _ dX7_wrong_49 rfl h
    · replace h := h.2 c2
      refine go_iload_n X dX7_wrong_39 1 rfl rfl ?_
      refine go_if_le X 50 dX7_wrong_40 (by decide) (fun _ => ?_) (fun c0 => absurd c0 (by decide))
      refine go_aload_n X dX7_wrong_50 2 rfl rfl ?_
      refine go_get X fi_X7_wrong_X7 0 rfl rfl 2 (by decide) fl_X7_wrong_56 rfl dX7_wrong_51 ?_
      refine go_iconst X (v := 3) dX7_wrong_54 (by decide) ?_
      refine go_icmp_ge X 63 dX7_wrong_55 (by decide) (fun c3 => ?_) (fun c3 => ?_)
      · replace h := h.1 c3
        refine go_sipush X (v := 256) dX7_wrong_63 (by decide) ?_
        refine go_aload_n X dX7_wrong_66 2 rfl rfl ?_
        refine go_get X fi_X7_wrong_X7 0 rfl rfl 1 (by decide) fl_X7_wrong_7 rfl dX7_wrong_67 ?_
        refine go_iconst X (v := 1) dX7_wrong_70 (by decide) ?_
        obtain ⟨c4, h⟩ := h
        refine go_iald X 1 1 rfl rfl c4 dX7_wrong_71 ?_
        refine go_imul X dX7_wrong_72 ?_
        refine go_aload_n X dX7_wrong_73 2 rfl rfl ?_
        refine go_get X fi_X7_wrong_X7 0 rfl rfl 1 (by decide) fl_X7_wrong_7 rfl dX7_wrong_74 ?_
        refine go_iconst X (v := 2) dX7_wrong_77 (by decide) ?_
        obtain ⟨c5, h⟩ := h
        refine go_iald X 1 1 rfl rfl c5 dX7_wrong_78 ?_
        refine go_iadd X dX7_wrong_79 ?_
        refine go_iload_n X dX7_wrong_80 0 rfl rfl ?_
        refine go_iconst X (v := (-1)) dX7_wrong_81 (by decide) ?_
        refine go_icmp_ne X 89 dX7_wrong_82 (by decide) (fun c0 => absurd c0 (by decide)) (fun _ => ?_)
        refine go_iconst X (v := 0) dX7_wrong_85 (by decide) ?_
        refine go_goto X 94 dX7_wrong_86 (by decide) ?_
        refine go_icmp_eq X 99 dX7_wrong_94 (by decide) (fun c6 => ?_) (fun c6 => ?_)
        · replace h := h.1 c6
          refine go_aload_n X dX7_wrong_99 2 rfl rfl ?_
          refine go_get X fi_X7_wrong_X7 0 rfl rfl 2 (by decide) fl_X7_wrong_56 rfl dX7_wrong_100 ?_
          refine go_iconst X (v := 3) dX7_wrong_103 (by decide) ?_
          refine go_icmp_eq X 119 dX7_wrong_104 (by decide) (fun c7 => ?_) (fun c7 => ?_)
          · replace h := h.1 c7
            refine go_iconst X (v := 3) dX7_wrong_119 (by decide) ?_
            exact hR 3 (o_ahead, o_textLong, o_row) 120 _ dX7_wrong_120 rfl h
          · replace h := h.2 c7
            refine go_aload_n X dX7_wrong_107 2 rfl rfl ?_
            refine go_get X fi_X7_wrong_X7 0 rfl rfl 1 (by decide) fl_X7_wrong_7 rfl dX7_wrong_108 ?_
            refine go_iconst X (v := 3) dX7_wrong_111 (by decide) ?_
            obtain ⟨c8, h⟩ := h
            refine go_iald X 1 1 rfl rfl c8 dX7_wrong_112 ?_
            refine go_sipush X (v := 200) dX7_wrong_113 (by decide) ?_
            refine go_icmp_le X 121 dX7_wrong_116 (by decide) (fun c9 => ?_) (fun c9 => ?_)
            · replace h := h.1 c9
              refine go_aload_n X dX7_wrong_121 2 rfl rfl ?_
              refine go_iload_n X dX7_wrong_122 0 rfl rfl ?_
              refine go_iconst X (v := (-1)) dX7_wrong_123 (by decide) ?_
              refine go_callVv X (kX7_layAhead l D cy a_o a_o_tape a_o_sampleLong a_o_sampleByte a_o_idOf a_o_pieces a_o_pieceLong a_o_bytesOf a_o_dictionary a_o_covered a_o_taken a_o_row a_o_cost a_o_leastD a_o_out a_o_text o_thrown o_taped o_samples o_takenMany o_ahead o_textLong o_outMany o_items o_matches o_textMany o_pieceLong o_bytesOf o_dictionary o_row ((-1) : Int32) ((-1) : Int32) _ h) (cwV 2 X.2.2.2.2.1 gX7_wrong_X7_layAhead rfl rfl rfl cd_X7_layAhead ⟨by decide, by decide⟩) (wr := [(a_o_tape, .inl (cy 1, 200, .inl o_tape)), (a_o_idOf, .inl (cy 1, 6, .inl o_idOf))]) (ws2 := fun u => [(a_o, .inr (10, [.int o_thrown, .ref a_o_tape, .int o_taped, .int o_samples, .ref a_o_sampleLong, .ref a_o_sampleByte, .ref a_o_idOf, .ref a_o_pieces, .ref a_o_pieceLong, .ref a_o_bytesOf, .ref a_o_dictionary, .ref a_o_covered, .ref a_o_taken, .int o_takenMany, .ref a_o_row, .int u.1, .int o_textLong, .ref a_o_cost, .ref a_o_leastD, .ref a_o_out, .int o_outMany, .int o_items, .int o_matches, .ref a_o_text, .int o_textMany])), (a_o_tape, .inl (cy 1, 200, .inl o_tape)), (a_o_idOf, .inl (cy 1, 6, .inl o_idOf)), (a_o_pieceLong, .inl (cy 1, 480, .inl o_pieceLong)), (a_o_bytesOf, .inl (cy 1, 6, .inl o_bytesOf)), (a_o_dictionary, .inl (cy 1, 480, .inl o_dictionary)), (a_o_row, .inl (cy 1, 280, .inl u.2))]) (perm_ix 7 [0, 3, 4, 5, 6, 1, 2] rfl (by decide +kernel) rfl) (fun u => perm_ix 7 [0, 5, 6, 1, 2, 3, 4] rfl (by decide +kernel) rfl) rfl rfl rfl rfl (Nat.le_of_ble_eq_true rfl) dX7_wrong_124 ⟨by decide, by decide⟩ (fun u h => ?_)
              obtain ⟨s10, s11⟩ := u
              refine go_aload_n X dX7_wrong_127 2 rfl rfl ?_
              refine go_aload_n X dX7_wrong_128 2 rfl rfl ?_
              refine go_get X fi_X7_wrong_X7 0 rfl rfl 1 (by decide) fl_X7_wrong_7 rfl dX7_wrong_129 ?_
              refine go_iconst X (v := 3) dX7_wrong_132 (by decide) ?_
              obtain ⟨c12, h⟩ := h
              refine go_iald X 1 1 rfl rfl c12 dX7_wrong_133 ?_
              refine go_topi (fun y13 ey13 => ?_)
              replace h := h y13 ey13
              refine go_put X (ws' := [(a_o, .inr (10, [.int o_thrown, .ref a_o_tape, .int o_taped, .int o_samples, .ref a_o_sampleLong, .ref a_o_sampleByte, .ref a_o_idOf, .ref a_o_pieces, .ref a_o_pieceLong, .ref a_o_bytesOf, .ref a_o_dictionary, .ref a_o_covered, .ref a_o_taken, .int o_takenMany, .ref a_o_row, .int s10, .int y13, .ref a_o_cost, .ref a_o_leastD, .ref a_o_out, .int o_outMany, .int o_items, .int o_matches, .ref a_o_text, .int o_textMany])), (a_o_tape, .inl (cy 1, 200, .inl o_tape)), (a_o_idOf, .inl (cy 1, 6, .inl o_idOf)), (a_o_pieceLong, .inl (cy 1, 480, .inl o_pieceLong)), (a_o_bytesOf, .inl (cy 1, 6, .inl o_bytesOf)), (a_o_dictionary, .inl (cy 1, 480, .inl o_dictionary)), (a_o_row, .inl (cy 1, 280, .inl s11))]) fi_X7_wrong_X7 tyX7 tyX7_ok nmX7 0 rfl rfl 16 (by decide) fl_X7_wrong_103 rfl (tyX7_ok 16 (by decide)) rfl rfl (Nat.le_of_ble_eq_true rfl) rfl dX7_wrong_134 ?_
              refine go_iconst X (v := 4) dX7_wrong_137 (by decide) ?_
              refine go_istore_n X (lv' := [(3, .int 4), (2, .int (-1)), (1, .int 0), (0, .ref a_o)]) dX7_wrong_138 rfl (by decide) rfl ?_
              refine go_iconst X (v := 0) dX7_wrong_139 (by decide) ?_
              refine go_istore X (lv' := [(4, .int 0), (3, .int 4), (2, .int (-1)), (1, .int 0), (0, .ref a_o)]) dX7_wrong_140 (by decide) rfl ?_
              obtain ⟨n53, h⟩ := h
              refine go_lv [4, 1, 0] rfl ?_
              refine pX7_wrong_142 l X a_o a_o_tape a_o_sampleLong a_o_sampleByte a_o_idOf a_o_pieces a_o_pieceLong a_o_bytesOf a_o_dictionary a_o_covered a_o_taken a_o_row a_o_cost a_o_leastD a_o_out a_o_text o_thrown o_taped o_samples o_takenMany s10 y13 o_outMany o_items o_matches o_textMany o_tape o_idOf o_pieceLong o_bytesOf o_dictionary post hR _ (fun s14 y15 y16 h => ?_) n53 s11 (4 : Int32) (0 : Int32) h
              refine go_iload X dX7_wrong_387 2 rfl ?_
              refine go_aload_n X dX7_wrong_389 0 rfl rfl ?_
              refine go_get X fi_X7_wrong_X7 0 rfl rfl 16 (by decide) fl_X7_wrong_103 rfl dX7_wrong_390 ?_
              refine go_icmp_lt X 404 dX7_wrong_393 (by decide) (fun c51 => ?_) (fun c51 => ?_)
              · replace h := h.1 c51
                refine go_iload_n X dX7_wrong_404 1 rfl rfl ?_
                refine go_goto X 409 dX7_wrong_405 (by decide) ?_
                exact hR y15 (s10, y13, s14) 409 _ dX7_wrong_409 rfl h
              · replace h := h.2 c51
                refine go_iload_n X dX7_wrong_396 1 rfl rfl ?_
                refine go_aload_n X dX7_wrong_397 0 rfl rfl ?_
                refine go_get X fi_X7_wrong_X7 0 rfl rfl 2 (by decide) fl_X7_wrong_56 rfl dX7_wrong_398 ?_
                refine go_icmp_ge X 408 dX7_wrong_401 (by decide) (fun c52 => ?_) (fun c52 => ?_)
                · replace h := h.1 c52
                  refine go_iconst X (v := (-1)) dX7_wrong_408 (by decide) ?_
                  exact hR (-1) (s10, y13, s14) 409 _ dX7_wrong_409 rfl h
                · replace h := h.2 c52
                  refine go_iload_n X dX7_wrong_404 1 rfl rfl ?_
                  refine go_goto X 409 dX7_wrong_405 (by decide) ?_
                  exact hR y15 (s10, y13, s14) 409 _ dX7_wrong_409 rfl h
            · replace h := h.2 c9
              refine go_iconst X (v := 3) dX7_wrong_119 (by decide) ?_
              exact hR 3 (o_ahead, o_textLong, o_row) 120 _ dX7_wrong_120 rfl h
        · replace h := h.2 c6
          refine go_iconst X (v := 1) dX7_wrong_97 (by decide) ?_
          exact hR 1 (o_ahead, o_textLong, o_row) 98 _ dX7_wrong_98 rfl h
      · replace h := h.2 c3
        refine go_aload_n X dX7_wrong_58 2 rfl rfl ?_
        refine go_get X fi_X7_wrong_X7 0 rfl rfl 2 (by decide) fl_X7_wrong_56 rfl dX7_wrong_59 ?_
        exact hR o_taped (o_ahead, o_textLong, o_row) 62 _ dX7_wrong_62 rfl h
  · replace h := h.2 c1
    refine go_aload_n X dX7_wrong_7 0 rfl rfl ?_
    refine go_get X fi_X7_wrong_X7 0 rfl rfl 1 (by decide) fl_X7_wrong_7 rfl dX7_wrong_8 ?_
    refine go_iconst X (v := 0) dX7_wrong_11 (by decide) ?_
    obtain ⟨c54, h⟩ := h
    refine go_iald X 1 1 rfl rfl c54 dX7_wrong_12 ?_
    refine go_goto X 17 dX7_wrong_13 (by decide) ?_
    refine go_topi (fun y55 ey55 => ?_)
    replace h := h y55 ey55
    refine go_istore_n X (lv' := [(1, .int y55), (0, .ref a_o)]) dX7_wrong_17 rfl (by decide) rfl ?_
    refine go_iload_n X dX7_wrong_18 0 rfl rfl ?_
    refine go_if_ne X 26 dX7_wrong_19 (by decide) (fun c56 => ?_) (fun c56 => ?_)
    · replace h := h.1 c56
      refine go_aload_n X dX7_wrong_26 1 rfl rfl ?_
      refine go_iload_n X dX7_wrong_27 0 rfl rfl ?_
      refine go_callVi X (kX7_firstWith l D cy a_o a_o_tape a_o_sampleLong a_o_sampleByte a_o_idOf a_o_pieces a_o_pieceLong a_o_bytesOf a_o_dictionary a_o_covered a_o_taken a_o_row a_o_cost a_o_leastD a_o_out a_o_text o_thrown o_taped o_samples o_takenMany o_ahead o_textLong o_outMany o_items o_matches o_textMany o_idOf y55 _ h) (cwV 1 X.2.2.2.2.1 gX7_wrong_X7_firstWith rfl rfl rfl cd_X7_firstWith ⟨by decide, by decide⟩) (wr := [(a_o_tape, .inl (cy 1, 200, .inl o_tape)), (a_o_pieceLong, .inl (cy 1, 480, .inl o_pieceLong)), (a_o_bytesOf, .inl (cy 1, 6, .inl o_bytesOf)), (a_o_dictionary, .inl (cy 1, 480, .inl o_dictionary)), (a_o_row, .inl (cy 1, 280, .inl o_row))]) (ws2 := fun u => [(a_o, .inr (10, [.int o_thrown, .ref a_o_tape, .int o_taped, .int o_samples, .ref a_o_sampleLong, .ref a_o_sampleByte, .ref a_o_idOf, .ref a_o_pieces, .ref a_o_pieceLong, .ref a_o_bytesOf, .ref a_o_dictionary, .ref a_o_covered, .ref a_o_taken, .int o_takenMany, .ref a_o_row, .int o_ahead, .int o_textLong, .ref a_o_cost, .ref a_o_leastD, .ref a_o_out, .int o_outMany, .int o_items, .int o_matches, .ref a_o_text, .int o_textMany])), (a_o_tape, .inl (cy 1, 200, .inl o_tape)), (a_o_idOf, .inl (cy 1, 6, .inl o_idOf)), (a_o_pieceLong, .inl (cy 1, 480, .inl o_pieceLong)), (a_o_bytesOf, .inl (cy 1, 6, .inl o_bytesOf)), (a_o_dictionary, .inl (cy 1, 480, .inl o_dictionary)), (a_o_row, .inl (cy 1, 280, .inl o_row))]) (perm_ix 7 [0, 2, 1, 3, 4, 5, 6] rfl (by decide +kernel) rfl) (fun u => perm_ix 7 [0, 2, 1, 3, 4, 5, 6] rfl (by decide +kernel) rfl) rfl rfl rfl rfl (Nat.le_of_ble_eq_true rfl) dX7_wrong_28 ⟨by decide, by decide⟩ (fun r57 u h => ?_)
      refine go_istore_n X (lv' := [(2, .int r57), (1, .int y55), (0, .ref a_o)]) dX7_wrong_31 rfl (by decide) rfl ?_
      refine go_aload_n X dX7_wrong_32 2 rfl rfl ?_
      refine go_get X fi_X7_wrong_X7 0 rfl rfl 2 (by decide) fl_X7_wrong_56 rfl dX7_wrong_33 ?_
      refine go_if_eq X 48 dX7_wrong_36 (by decide) (fun c58 => ?_) (fun c58 => ?_)
      · replace h := h.1 c58
        refine go_iconst X (v := 0) dX7_wrong_48 (by decide) ?_
        exact hR 0 (o_ahead, o_textLong, o_row) 49 _ dX7_wrong_49 rfl h
      · replace h := h.2 c58
        refine go_iload_n X dX7_wrong_39 1 rfl rfl ?_
        refine go_if_le X 50 dX7_wrong_40 (by decide) (fun c59 => ?_) (fun c59 => ?_)
        · replace h := h.1 c59
          refine go_aload_n X dX7_wrong_50 2 rfl rfl ?_
          refine go_get X fi_X7_wrong_X7 0 rfl rfl 2 (by decide) fl_X7_wrong_56 rfl dX7_wrong_51 ?_
          refine go_iconst X (v := 3) dX7_wrong_54 (by decide) ?_
          refine go_icmp_ge X 63 dX7_wrong_55 (by decide) (fun c60 => ?_) (fun c60 => ?_)
          · replace h := h.1 c60
            refine go_sipush X (v := 256) dX7_wrong_63 (by decide) ?_
            refine go_aload_n X dX7_wrong_66 2 rfl rfl ?_
            refine go_get X fi_X7_wrong_X7 0 rfl rfl 1 (by decide) fl_X7_wrong_7 rfl dX7_wrong_67 ?_
            refine go_iconst X (v := 1) dX7_wrong_70 (by decide) ?_
            obtain ⟨c61, h⟩ := h
            refine go_iald X 1 1 rfl rfl c61 dX7_wrong_71 ?_
            refine go_imul X dX7_wrong_72 ?_
            refine go_aload_n X dX7_wrong_73 2 rfl rfl ?_
            refine go_get X fi_X7_wrong_X7 0 rfl rfl 1 (by decide) fl_X7_wrong_7 rfl dX7_wrong_74 ?_
            refine go_iconst X (v := 2) dX7_wrong_77 (by decide) ?_
            obtain ⟨c62, h⟩ := h
            refine go_iald X 1 1 rfl rfl c62 dX7_wrong_78 ?_
            refine go_iadd X dX7_wrong_79 ?_
            refine go_iload_n X dX7_wrong_80 0 rfl rfl ?_
            refine go_iconst X (v := (-1)) dX7_wrong_81 (by decide) ?_
            refine go_icmp_ne X 89 dX7_wrong_82 (by decide) (fun c63 => ?_) (fun c63 => ?_)
            · replace h := h.1 c63
              refine go_aload_n X dX7_wrong_89 2 rfl rfl ?_
              refine go_iload_n X dX7_wrong_90 0 rfl rfl ?_
              refine go_callVi X (kX7_sumOf l D cy a_o a_o_tape a_o_sampleLong a_o_sampleByte a_o_idOf a_o_pieces a_o_pieceLong a_o_bytesOf a_o_dictionary a_o_covered a_o_taken a_o_row a_o_cost a_o_leastD a_o_out a_o_text o_thrown o_taped o_samples o_takenMany o_ahead o_textLong o_outMany o_items o_matches o_textMany o_bytesOf o_dictionary r57 _ h) (cwV 1 X.2.2.2.2.1 gX7_wrong_X7_sumOf rfl rfl rfl cd_X7_sumOf ⟨by decide, by decide⟩) (wr := [(a_o_tape, .inl (cy 1, 200, .inl o_tape)), (a_o_idOf, .inl (cy 1, 6, .inl o_idOf)), (a_o_pieceLong, .inl (cy 1, 480, .inl o_pieceLong)), (a_o_row, .inl (cy 1, 280, .inl o_row))]) (ws2 := fun u => [(a_o, .inr (10, [.int o_thrown, .ref a_o_tape, .int o_taped, .int o_samples, .ref a_o_sampleLong, .ref a_o_sampleByte, .ref a_o_idOf, .ref a_o_pieces, .ref a_o_pieceLong, .ref a_o_bytesOf, .ref a_o_dictionary, .ref a_o_covered, .ref a_o_taken, .int o_takenMany, .ref a_o_row, .int o_ahead, .int o_textLong, .ref a_o_cost, .ref a_o_leastD, .ref a_o_out, .int o_outMany, .int o_items, .int o_matches, .ref a_o_text, .int o_textMany])), (a_o_tape, .inl (cy 1, 200, .inl o_tape)), (a_o_idOf, .inl (cy 1, 6, .inl o_idOf)), (a_o_pieceLong, .inl (cy 1, 480, .inl o_pieceLong)), (a_o_bytesOf, .inl (cy 1, 6, .inl o_bytesOf)), (a_o_dictionary, .inl (cy 1, 480, .inl o_dictionary)), (a_o_row, .inl (cy 1, 280, .inl o_row))]) (perm_ix 7 [0, 4, 5, 1, 2, 3, 6] rfl (by decide +kernel) rfl) (fun u => perm_ix 7 [0, 3, 4, 5, 1, 2, 6] rfl (by decide +kernel) rfl) rfl rfl rfl rfl (Nat.le_of_ble_eq_true rfl) dX7_wrong_91 ⟨by decide, by decide⟩ (fun r64 u h => ?_)
              refine go_icmp_eq X 99 dX7_wrong_94 (by decide) (fun c65 => ?_) (fun c65 => ?_)
              · replace h := h.1 c65
                refine go_aload_n X dX7_wrong_99 2 rfl rfl ?_
                refine go_get X fi_X7_wrong_X7 0 rfl rfl 2 (by decide) fl_X7_wrong_56 rfl dX7_wrong_100 ?_
                refine go_iconst X (v := 3) dX7_wrong_103 (by decide) ?_
                refine go_icmp_eq X 119 dX7_wrong_104 (by decide) (fun c66 => ?_) (fun c66 => ?_)
                · replace h := h.1 c66
                  refine go_iconst X (v := 3) dX7_wrong_119 (by decide) ?_
                  exact hR 3 (o_ahead, o_textLong, o_row) 120 _ dX7_wrong_120 rfl h
                · replace h := h.2 c66
                  refine go_aload_n X dX7_wrong_107 2 rfl rfl ?_
                  refine go_get X fi_X7_wrong_X7 0 rfl rfl 1 (by decide) fl_X7_wrong_7 rfl dX7_wrong_108 ?_
                  refine go_iconst X (v := 3) dX7_wrong_111 (by decide) ?_
                  obtain ⟨c67, h⟩ := h
                  refine go_iald X 1 1 rfl rfl c67 dX7_wrong_112 ?_
                  refine go_sipush X (v := 200) dX7_wrong_113 (by decide) ?_
                  refine go_icmp_le X 121 dX7_wrong_116 (by decide) (fun c68 => ?_) (fun c68 => ?_)
                  · replace h := h.1 c68
                    refine go_aload_n X dX7_wrong_121 2 rfl rfl ?_
                    refine go_iload_n X dX7_wrong_122 0 rfl rfl ?_
                    refine go_iconst X (v := (-1)) dX7_wrong_123 (by decide) ?_
                    refine go_callVv X (kX7_layAhead l D cy a_o a_o_tape a_o_sampleLong a_o_sampleByte a_o_idOf a_o_pieces a_o_pieceLong a_o_bytesOf a_o_dictionary a_o_covered a_o_taken a_o_row a_o_cost a_o_leastD a_o_out a_o_text o_thrown o_taped o_samples o_takenMany o_ahead o_textLong o_outMany o_items o_matches o_textMany o_pieceLong o_bytesOf o_dictionary o_row r57 ((-1) : Int32) _ h) (cwV 2 X.2.2.2.2.1 gX7_wrong_X7_layAhead rfl rfl rfl cd_X7_layAhead ⟨by decide, by decide⟩) (wr := [(a_o_tape, .inl (cy 1, 200, .inl o_tape)), (a_o_idOf, .inl (cy 1, 6, .inl o_idOf))]) (ws2 := fun u => [(a_o, .inr (10, [.int o_thrown, .ref a_o_tape, .int o_taped, .int o_samples, .ref a_o_sampleLong, .ref a_o_sampleByte, .ref a_o_idOf, .ref a_o_pieces, .ref a_o_pieceLong, .ref a_o_bytesOf, .ref a_o_dictionary, .ref a_o_covered, .ref a_o_taken, .int o_takenMany, .ref a_o_row, .int u.1, .int o_textLong, .ref a_o_cost, .ref a_o_leastD, .ref a_o_out, .int o_outMany, .int o_items, .int o_matches, .ref a_o_text, .int o_textMany])), (a_o_tape, .inl (cy 1, 200, .inl o_tape)), (a_o_idOf, .inl (cy 1, 6, .inl o_idOf)), (a_o_pieceLong, .inl (cy 1, 480, .inl o_pieceLong)), (a_o_bytesOf, .inl (cy 1, 6, .inl o_bytesOf)), (a_o_dictionary, .inl (cy 1, 480, .inl o_dictionary)), (a_o_row, .inl (cy 1, 280, .inl u.2))]) (perm_ix 7 [0, 3, 4, 5, 6, 1, 2] rfl (by decide +kernel) rfl) (fun u => perm_ix 7 [0, 5, 6, 1, 2, 3, 4] rfl (by decide +kernel) rfl) rfl rfl rfl rfl (Nat.le_of_ble_eq_true rfl) dX7_wrong_124 ⟨by decide, by decide⟩ (fun u h => ?_)
                    obtain ⟨s69, s70⟩ := u
                    refine go_aload_n X dX7_wrong_127 2 rfl rfl ?_
                    refine go_aload_n X dX7_wrong_128 2 rfl rfl ?_
                    refine go_get X fi_X7_wrong_X7 0 rfl rfl 1 (by decide) fl_X7_wrong_7 rfl dX7_wrong_129 ?_
                    refine go_iconst X (v := 3) dX7_wrong_132 (by decide) ?_
                    obtain ⟨c71, h⟩ := h
                    refine go_iald X 1 1 rfl rfl c71 dX7_wrong_133 ?_
                    refine go_topi (fun y72 ey72 => ?_)
                    replace h := h y72 ey72
                    refine go_put X (ws' := [(a_o, .inr (10, [.int o_thrown, .ref a_o_tape, .int o_taped, .int o_samples, .ref a_o_sampleLong, .ref a_o_sampleByte, .ref a_o_idOf, .ref a_o_pieces, .ref a_o_pieceLong, .ref a_o_bytesOf, .ref a_o_dictionary, .ref a_o_covered, .ref a_o_taken, .int o_takenMany, .ref a_o_row, .int s69, .int y72, .ref a_o_cost, .ref a_o_leastD, .ref a_o_out, .int o_outMany, .int o_items, .int o_matches, .ref a_o_text, .int o_textMany])), (a_o_tape, .inl (cy 1, 200, .inl o_tape)), (a_o_idOf, .inl (cy 1, 6, .inl o_idOf)), (a_o_pieceLong, .inl (cy 1, 480, .inl o_pieceLong)), (a_o_bytesOf, .inl (cy 1, 6, .inl o_bytesOf)), (a_o_dictionary, .inl (cy 1, 480, .inl o_dictionary)), (a_o_row, .inl (cy 1, 280, .inl s70))]) fi_X7_wrong_X7 tyX7 tyX7_ok nmX7 0 rfl rfl 16 (by decide) fl_X7_wrong_103 rfl (tyX7_ok 16 (by decide)) rfl rfl (Nat.le_of_ble_eq_true rfl) rfl dX7_wrong_134 ?_
                    refine go_iconst X (v := 4) dX7_wrong_137 (by decide) ?_
                    refine go_istore_n X (lv' := [(3, .int 4), (2, .int r57), (1, .int y55), (0, .ref a_o)]) dX7_wrong_138 rfl (by decide) rfl ?_
                    refine go_iconst X (v := 0) dX7_wrong_139 (by decide) ?_
                    refine go_istore X (lv' := [(4, .int 0), (3, .int 4), (2, .int r57), (1, .int y55), (0, .ref a_o)]) dX7_wrong_140 (by decide) rfl ?_
                    obtain ⟨n78, h⟩ := h
                    refine go_lv [4, 1, 0] rfl ?_
                    refine pX7_wrong_142 l X a_o a_o_tape a_o_sampleLong a_o_sampleByte a_o_idOf a_o_pieces a_o_pieceLong a_o_bytesOf a_o_dictionary a_o_covered a_o_taken a_o_row a_o_cost a_o_leastD a_o_out a_o_text o_thrown o_taped o_samples o_takenMany s69 y72 o_outMany o_items o_matches o_textMany o_tape o_idOf o_pieceLong o_bytesOf o_dictionary post hR _ (fun s73 y74 y75 h => ?_) n78 s70 (4 : Int32) (0 : Int32) h
                    refine go_iload X dX7_wrong_387 2 rfl ?_
                    refine go_aload_n X dX7_wrong_389 0 rfl rfl ?_
                    refine go_get X fi_X7_wrong_X7 0 rfl rfl 16 (by decide) fl_X7_wrong_103 rfl dX7_wrong_390 ?_
                    refine go_icmp_lt X 404 dX7_wrong_393 (by decide) (fun c76 => ?_) (fun c76 => ?_)
                    · replace h := h.1 c76
                      refine go_iload_n X dX7_wrong_404 1 rfl rfl ?_
                      refine go_goto X 409 dX7_wrong_405 (by decide) ?_
                      exact hR y74 (s69, y72, s73) 409 _ dX7_wrong_409 rfl h
                    · replace h := h.2 c76
                      refine go_iload_n X dX7_wrong_396 1 rfl rfl ?_
                      refine go_aload_n X dX7_wrong_397 0 rfl rfl ?_
                      refine go_get X fi_X7_wrong_X7 0 rfl rfl 2 (by decide) fl_X7_wrong_56 rfl dX7_wrong_398 ?_
                      refine go_icmp_ge X 408 dX7_wrong_401 (by decide) (fun c77 => ?_) (fun c77 => ?_)
                      · replace h := h.1 c77
                        refine go_iconst X (v := (-1)) dX7_wrong_408 (by decide) ?_
                        exact hR (-1) (s69, y72, s73) 409 _ dX7_wrong_409 rfl h
                      · replace h := h.2 c77
                        refine go_iload_n X dX7_wrong_404 1 rfl rfl ?_
                        refine go_goto X 409 dX7_wrong_405 (by decide) ?_
                        exact hR y74 (s69, y72, s73) 409 _ dX7_wrong_409 rfl h
                  · replace h := h.2 c68
                    refine go_iconst X (v := 3) dX7_wrong_119 (by decide) ?_
                    exact hR 3 (o_ahead, o_textLong, o_row) 120 _ dX7_wrong_120 rfl h
              · replace h := h.2 c65
                refine go_iconst X (v := 1) dX7_wrong_97 (by decide) ?_
                exact hR 1 (o_ahead, o_textLong, o_row) 98 _ dX7_wrong_98 rfl h
            · replace h := h.2 c63
              refine go_iconst X (v := 0) dX7_wrong_85 (by decide) ?_
              refine go_goto X 94 dX7_wrong_86 (by decide) ?_
              refine go_icmp_eq X 99 dX7_wrong_94 (by decide) (fun c79 => ?_) (fun c79 => ?_)
              · replace h := h.1 c79
                refine go_aload_n X dX7_wrong_99 2 rfl rfl ?_
                refine go_get X fi_X7_wrong_X7 0 rfl rfl 2 (by decide) fl_X7_wrong_56 rfl dX7_wrong_100 ?_
                refine go_iconst X (v := 3) dX7_wrong_103 (by decide) ?_
                refine go_icmp_eq X 119 dX7_wrong_104 (by decide) (fun c80 => ?_) (fun c80 => ?_)
                · replace h := h.1 c80
                  refine go_iconst X (v := 3) dX7_wrong_119 (by decide) ?_
                  exact hR 3 (o_ahead, o_textLong, o_row) 120 _ dX7_wrong_120 rfl h
                · replace h := h.2 c80
                  refine go_aload_n X dX7_wrong_107 2 rfl rfl ?_
                  refine go_get X fi_X7_wrong_X7 0 rfl rfl 1 (by decide) fl_X7_wrong_7 rfl dX7_wrong_108 ?_
                  refine go_iconst X (v := 3) dX7_wrong_111 (by decide) ?_
                  obtain ⟨c81, h⟩ := h
                  refine go_iald X 1 1 rfl rfl c81 dX7_wrong_112 ?_
                  refine go_sipush X (v := 200) dX7_wrong_113 (by decide) ?_
                  refine go_icmp_le X 121 dX7_wrong_116 (by decide) (fun c82 => ?_) (fun c82 => ?_)
                  · replace h := h.1 c82
                    refine go_aload_n X dX7_wrong_121 2 rfl rfl ?_
                    refine go_iload_n X dX7_wrong_122 0 rfl rfl ?_
                    refine go_iconst X (v := (-1)) dX7_wrong_123 (by decide) ?_
                    refine go_callVv X (kX7_layAhead l D cy a_o a_o_tape a_o_sampleLong a_o_sampleByte a_o_idOf a_o_pieces a_o_pieceLong a_o_bytesOf a_o_dictionary a_o_covered a_o_taken a_o_row a_o_cost a_o_leastD a_o_out a_o_text o_thrown o_taped o_samples o_takenMany o_ahead o_textLong o_outMany o_items o_matches o_textMany o_pieceLong o_bytesOf o_dictionary o_row r57 ((-1) : Int32) _ h) (cwV 2 X.2.2.2.2.1 gX7_wrong_X7_layAhead rfl rfl rfl cd_X7_layAhead ⟨by decide, by decide⟩) (wr := [(a_o_tape, .inl (cy 1, 200, .inl o_tape)), (a_o_idOf, .inl (cy 1, 6, .inl o_idOf))]) (ws2 := fun u => [(a_o, .inr (10, [.int o_thrown, .ref a_o_tape, .int o_taped, .int o_samples, .ref a_o_sampleLong, .ref a_o_sampleByte, .ref a_o_idOf, .ref a_o_pieces, .ref a_o_pieceLong, .ref a_o_bytesOf, .ref a_o_dictionary, .ref a_o_covered, .ref a_o_taken, .int o_takenMany, .ref a_o_row, .int u.1, .int o_textLong, .ref a_o_cost, .ref a_o_leastD, .ref a_o_out, .int o_outMany, .int o_items, .int o_matches, .ref a_o_text, .int o_textMany])), (a_o_tape, .inl (cy 1, 200, .inl o_tape)), (a_o_idOf, .inl (cy 1, 6, .inl o_idOf)), (a_o_pieceLong, .inl (cy 1, 480, .inl o_pieceLong)), (a_o_bytesOf, .inl (cy 1, 6, .inl o_bytesOf)), (a_o_dictionary, .inl (cy 1, 480, .inl o_dictionary)), (a_o_row, .inl (cy 1, 280, .inl u.2))]) (perm_ix 7 [0, 3, 4, 5, 6, 1, 2] rfl (by decide +kernel) rfl) (fun u => perm_ix 7 [0, 5, 6, 1, 2, 3, 4] rfl (by decide +kernel) rfl) rfl rfl rfl rfl (Nat.le_of_ble_eq_true rfl) dX7_wrong_124 ⟨by decide, by decide⟩ (fun u h => ?_)
                    obtain ⟨s83, s84⟩ := u
                    refine go_aload_n X dX7_wrong_127 2 rfl rfl ?_
                    refine go_aload_n X dX7_wrong_128 2 rfl rfl ?_
                    refine go_get X fi_X7_wrong_X7 0 rfl rfl 1 (by decide) fl_X7_wrong_7 rfl dX7_wrong_129 ?_
                    refine go_iconst X (v := 3) dX7_wrong_132 (by decide) ?_
                    obtain ⟨c85, h⟩ := h
                    refine go_iald X 1 1 rfl rfl c85 dX7_wrong_133 ?_
                    refine go_topi (fun y86 ey86 => ?_)
                    replace h := h y86 ey86
                    refine go_put X (ws' := [(a_o, .inr (10, [.int o_thrown, .ref a_o_tape, .int o_taped, .int o_samples, .ref a_o_sampleLong, .ref a_o_sampleByte, .ref a_o_idOf, .ref a_o_pieces, .ref a_o_pieceLong, .ref a_o_bytesOf, .ref a_o_dictionary, .ref a_o_covered, .ref a_o_taken, .int o_takenMany, .ref a_o_row, .int s83, .int y86, .ref a_o_cost, .ref a_o_leastD, .ref a_o_out, .int o_outMany, .int o_items, .int o_matches, .ref a_o_text, .int o_textMany])), (a_o_tape, .inl (cy 1, 200, .inl o_tape)), (a_o_idOf, .inl (cy 1, 6, .inl o_idOf)), (a_o_pieceLong, .inl (cy 1, 480, .inl o_pieceLong)), (a_o_bytesOf, .inl (cy 1, 6, .inl o_bytesOf)), (a_o_dictionary, .inl (cy 1, 480, .inl o_dictionary)), (a_o_row, .inl (cy 1, 280, .inl s84))]) fi_X7_wrong_X7 tyX7 tyX7_ok nmX7 0 rfl rfl 16 (by decide) fl_X7_wrong_103 rfl (tyX7_ok 16 (by decide)) rfl rfl (Nat.le_of_ble_eq_true rfl) rfl dX7_wrong_134 ?_
                    refine go_iconst X (v := 4) dX7_wrong_137 (by decide) ?_
                    refine go_istore_n X (lv' := [(3, .int 4), (2, .int r57), (1, .int y55), (0, .ref a_o)]) dX7_wrong_138 rfl (by decide) rfl ?_
                    refine go_iconst X (v := 0) dX7_wrong_139 (by decide) ?_
                    refine go_istore X (lv' := [(4, .int 0), (3, .int 4), (2, .int r57), (1, .int y55), (0, .ref a_o)]) dX7_wrong_140 (by decide) rfl ?_
                    obtain ⟨n92, h⟩ := h
                    refine go_lv [4, 1, 0] rfl ?_
                    refine pX7_wrong_142 l X a_o a_o_tape a_o_sampleLong a_o_sampleByte a_o_idOf a_o_pieces a_o_pieceLong a_o_bytesOf a_o_dictionary a_o_covered a_o_taken a_o_row a_o_cost a_o_leastD a_o_out a_o_text o_thrown o_taped o_samples o_takenMany s83 y86 o_outMany o_items o_matches o_textMany o_tape o_idOf o_pieceLong o_bytesOf o_dictionary post hR _ (fun s87 y88 y89 h => ?_) n92 s84 (4 : Int32) (0 : Int32) h
                    refine go_iload X dX7_wrong_387 2 rfl ?_
                    refine go_aload_n X dX7_wrong_389 0 rfl rfl ?_
                    refine go_get X fi_X7_wrong_X7 0 rfl rfl 16 (by decide) fl_X7_wrong_103 rfl dX7_wrong_390 ?_
                    refine go_icmp_lt X 404 dX7_wrong_393 (by decide) (fun c90 => ?_) (fun c90 => ?_)
                    · replace h := h.1 c90
                      refine go_iload_n X dX7_wrong_404 1 rfl rfl ?_
                      refine go_goto X 409 dX7_wrong_405 (by decide) ?_
                      exact hR y88 (s83, y86, s87) 409 _ dX7_wrong_409 rfl h
                    · replace h := h.2 c90
                      refine go_iload_n X dX7_wrong_396 1 rfl rfl ?_
                      refine go_aload_n X dX7_wrong_397 0 rfl rfl ?_
                      refine go_get X fi_X7_wrong_X7 0 rfl rfl 2 (by decide) fl_X7_wrong_56 rfl dX7_wrong_398 ?_
                      refine go_icmp_ge X 408 dX7_wrong_401 (by decide) (fun c91 => ?_) (fun c91 => ?_)
                      · replace h := h.1 c91
                        refine go_iconst X (v := (-1)) dX7_wrong_408 (by decide) ?_
                        exact hR (-1) (s83, y86, s87) 409 _ dX7_wrong_409 rfl h
                      · replace h := h.2 c91
                        refine go_iload_n X dX7_wrong_404 1 rfl rfl ?_
                        refine go_goto X 409 dX7_wrong_405 (by decide) ?_
                        exact hR y88 (s83, y86, s87) 409 _ dX7_wrong_409 rfl h
                  · replace h := h.2 c82
                    refine go_iconst X (v := 3) dX7_wrong_119 (by decide) ?_
                    exact hR 3 (o_ahead, o_textLong, o_row) 120 _ dX7_wrong_120 rfl h
              · replace h := h.2 c79
                refine go_iconst X (v := 1) dX7_wrong_97 (by decide) ?_
                exact hR 1 (o_ahead, o_textLong, o_row) 98 _ dX7_wrong_98 rfl h
          · replace h := h.2 c60
            refine go_aload_n X dX7_wrong_58 2 rfl rfl ?_
            refine go_get X fi_X7_wrong_X7 0 rfl rfl 2 (by decide) fl_X7_wrong_56 rfl dX7_wrong_59 ?_
            exact hR o_taped (o_ahead, o_textLong, o_row) 62 _ dX7_wrong_62 rfl h
        · replace h := h.2 c59
          refine go_iload_n X dX7_wrong_43 0 rfl rfl ?_
          refine go_iconst X (v := (-1)) dX7_wrong_44 (by decide) ?_
          refine go_icmp_ne X 50 dX7_wrong_45 (by decide) (fun c93 => ?_) (fun c93 => ?_)
          · replace h := h.1 c93
            refine go_aload_n X dX7_wrong_50 2 rfl rfl ?_
            refine go_get X fi_X7_wrong_X7 0 rfl rfl 2 (by decide) fl_X7_wrong_56 rfl dX7_wrong_51 ?_
            refine go_iconst X (v := 3) dX7_wrong_54 (by decide) ?_
            refine go_icmp_ge X 63 dX7_wrong_55 (by decide) (fun c94 => ?_) (fun c94 => ?_)
            · replace h := h.1 c94
              refine go_sipush X (v := 256) dX7_wrong_63 (by decide) ?_
              refine go_aload_n X dX7_wrong_66 2 rfl rfl ?_
              refine go_get X fi_X7_wrong_X7 0 rfl rfl 1 (by decide) fl_X7_wrong_7 rfl dX7_wrong_67 ?_
              refine go_iconst X (v := 1) dX7_wrong_70 (by decide) ?_
              obtain ⟨c95, h⟩ := h
              refine go_iald X 1 1 rfl rfl c95 dX7_wrong_71 ?_
              refine go_imul X dX7_wrong_72 ?_
              refine go_aload_n X dX7_wrong_73 2 rfl rfl ?_
              refine go_get X fi_X7_wrong_X7 0 rfl rfl 1 (by decide) fl_X7_wrong_7 rfl dX7_wrong_74 ?_
              refine go_iconst X (v := 2) dX7_wrong_77 (by decide) ?_
              obtain ⟨c96, h⟩ := h
              refine go_iald X 1 1 rfl rfl c96 dX7_wrong_78 ?_
              refine go_iadd X dX7_wrong_79 ?_
              refine go_iload_n X dX7_wrong_80 0 rfl rfl ?_
              refine go_iconst X (v := (-1)) dX7_wrong_81 (by decide) ?_
              refine go_icmp_ne X 89 dX7_wrong_82 (by decide) (fun _ => ?_) (fun c0 => absurd c0 c93)
              refine go_aload_n X dX7_wrong_89 2 rfl rfl ?_
              refine go_iload_n X dX7_wrong_90 0 rfl rfl ?_
              refine go_callVi X (kX7_sumOf l D cy a_o a_o_tape a_o_sampleLong a_o_sampleByte a_o_idOf a_o_pieces a_o_pieceLong a_o_bytesOf a_o_dictionary a_o_covered a_o_taken a_o_row a_o_cost a_o_leastD a_o_out a_o_text o_thrown o_taped o_samples o_takenMany o_ahead o_textLong o_outMany o_items o_matches o_textMany o_bytesOf o_dictionary r57 _ h) (cwV 1 X.2.2.2.2.1 gX7_wrong_X7_sumOf rfl rfl rfl cd_X7_sumOf ⟨by decide, by decide⟩) (wr := [(a_o_tape, .inl (cy 1, 200, .inl o_tape)), (a_o_idOf, .inl (cy 1, 6, .inl o_idOf)), (a_o_pieceLong, .inl (cy 1, 480, .inl o_pieceLong)), (a_o_row, .inl (cy 1, 280, .inl o_row))]) (ws2 := fun u => [(a_o, .inr (10, [.int o_thrown, .ref a_o_tape, .int o_taped, .int o_samples, .ref a_o_sampleLong, .ref a_o_sampleByte, .ref a_o_idOf, .ref a_o_pieces, .ref a_o_pieceLong, .ref a_o_bytesOf, .ref a_o_dictionary, .ref a_o_covered, .ref a_o_taken, .int o_takenMany, .ref a_o_row, .int o_ahead, .int o_textLong, .ref a_o_cost, .ref a_o_leastD, .ref a_o_out, .int o_outMany, .int o_items, .int o_matches, .ref a_o_text, .int o_textMany])), (a_o_tape, .inl (cy 1, 200, .inl o_tape)), (a_o_idOf, .inl (cy 1, 6, .inl o_idOf)), (a_o_pieceLong, .inl (cy 1, 480, .inl o_pieceLong)), (a_o_bytesOf, .inl (cy 1, 6, .inl o_bytesOf)), (a_o_dictionary, .inl (cy 1, 480, .inl o_dictionary)), (a_o_row, .inl (cy 1, 280, .inl o_row))]) (perm_ix 7 [0, 4, 5, 1, 2, 3, 6] rfl (by decide +kernel) rfl) (fun u => perm_ix 7 [0, 3, 4, 5, 1, 2, 6] rfl (by decide +kernel) rfl) rfl rfl rfl rfl (Nat.le_of_ble_eq_true rfl) dX7_wrong_91 ⟨by decide, by decide⟩ (fun r97 u h => ?_)
              refine go_icmp_eq X 99 dX7_wrong_94 (by decide) (fun c98 => ?_) (fun c98 => ?_)
              · replace h := h.1 c98
                refine go_aload_n X dX7_wrong_99 2 rfl rfl ?_
                refine go_get X fi_X7_wrong_X7 0 rfl rfl 2 (by decide) fl_X7_wrong_56 rfl dX7_wrong_100 ?_
                refine go_iconst X (v := 3) dX7_wrong_103 (by decide) ?_
                refine go_icmp_eq X 119 dX7_wrong_104 (by decide) (fun c99 => ?_) (fun c99 => ?_)
                · replace h := h.1 c99
                  refine go_iconst X (v := 3) dX7_wrong_119 (by decide) ?_
                  exact hR 3 (o_ahead, o_textLong, o_row) 120 _ dX7_wrong_120 rfl h
                · replace h := h.2 c99
                  refine go_aload_n X dX7_wrong_107 2 rfl rfl ?_
                  refine go_get X fi_X7_wrong_X7 0 rfl rfl 1 (by decide) fl_X7_wrong_7 rfl dX7_wrong_108 ?_
                  refine go_iconst X (v := 3) dX7_wrong_111 (by decide) ?_
                  obtain ⟨c100, h⟩ := h
                  refine go_iald X 1 1 rfl rfl c100 dX7_wrong_112 ?_
                  refine go_sipush X (v := 200) dX7_wrong_113 (by decide) ?_
                  refine go_icmp_le X 121 dX7_wrong_116 (by decide) (fun c101 => ?_) (fun c101 => ?_)
                  · replace h := h.1 c101
                    refine go_aload_n X dX7_wrong_121 2 rfl rfl ?_
                    refine go_iload_n X dX7_wrong_122 0 rfl rfl ?_
                    refine go_iconst X (v := (-1)) dX7_wrong_123 (by decide) ?_
                    refine go_callVv X (kX7_layAhead l D cy a_o a_o_tape a_o_sampleLong a_o_sampleByte a_o_idOf a_o_pieces a_o_pieceLong a_o_bytesOf a_o_dictionary a_o_covered a_o_taken a_o_row a_o_cost a_o_leastD a_o_out a_o_text o_thrown o_taped o_samples o_takenMany o_ahead o_textLong o_outMany o_items o_matches o_textMany o_pieceLong o_bytesOf o_dictionary o_row r57 ((-1) : Int32) _ h) (cwV 2 X.2.2.2.2.1 gX7_wrong_X7_layAhead rfl rfl rfl cd_X7_layAhead ⟨by decide, by decide⟩) (wr := [(a_o_tape, .inl (cy 1, 200, .inl o_tape)), (a_o_idOf, .inl (cy 1, 6, .inl o_idOf))]) (ws2 := fun u => [(a_o, .inr (10, [.int o_thrown, .ref a_o_tape, .int o_taped, .int o_samples, .ref a_o_sampleLong, .ref a_o_sampleByte, .ref a_o_idOf, .ref a_o_pieces, .ref a_o_pieceLong, .ref a_o_bytesOf, .ref a_o_dictionary, .ref a_o_covered, .ref a_o_taken, .int o_takenMany, .ref a_o_row, .int u.1, .int o_textLong, .ref a_o_cost, .ref a_o_leastD, .ref a_o_out, .int o_outMany, .int o_items, .int o_matches, .ref a_o_text, .int o_textMany])), (a_o_tape, .inl (cy 1, 200, .inl o_tape)), (a_o_idOf, .inl (cy 1, 6, .inl o_idOf)), (a_o_pieceLong, .inl (cy 1, 480, .inl o_pieceLong)), (a_o_bytesOf, .inl (cy 1, 6, .inl o_bytesOf)), (a_o_dictionary, .inl (cy 1, 480, .inl o_dictionary)), (a_o_row, .inl (cy 1, 280, .inl u.2))]) (perm_ix 7 [0, 3, 4, 5, 6, 1, 2] rfl (by decide +kernel) rfl) (fun u => perm_ix 7 [0, 5, 6, 1, 2, 3, 4] rfl (by decide +kernel) rfl) rfl rfl rfl rfl (Nat.le_of_ble_eq_true rfl) dX7_wrong_124 ⟨by decide, by decide⟩ (fun u h => ?_)
                    obtain ⟨s102, s103⟩ := u
                    refine go_aload_n X dX7_wrong_127 2 rfl rfl ?_
                    refine go_aload_n X dX7_wrong_128 2 rfl rfl ?_
                    refine go_get X fi_X7_wrong_X7 0 rfl rfl 1 (by decide) fl_X7_wrong_7 rfl dX7_wrong_129 ?_
                    refine go_iconst X (v := 3) dX7_wrong_132 (by decide) ?_
                    obtain ⟨c104, h⟩ := h
                    refine go_iald X 1 1 rfl rfl c104 dX7_wrong_133 ?_
                    refine go_topi (fun y105 ey105 => ?_)
                    replace h := h y105 ey105
                    refine go_put X (ws' := [(a_o, .inr (10, [.int o_thrown, .ref a_o_tape, .int o_taped, .int o_samples, .ref a_o_sampleLong, .ref a_o_sampleByte, .ref a_o_idOf, .ref a_o_pieces, .ref a_o_pieceLong, .ref a_o_bytesOf, .ref a_o_dictionary, .ref a_o_covered, .ref a_o_taken, .int o_takenMany, .ref a_o_row, .int s102, .int y105, .ref a_o_cost, .ref a_o_leastD, .ref a_o_out, .int o_outMany, .int o_items, .int o_matches, .ref a_o_text, .int o_textMany])), (a_o_tape, .inl (cy 1, 200, .inl o_tape)), (a_o_idOf, .inl (cy 1, 6, .inl o_idOf)), (a_o_pieceLong, .inl (cy 1, 480, .inl o_pieceLong)), (a_o_bytesOf, .inl (cy 1, 6, .inl o_bytesOf)), (a_o_dictionary, .inl (cy 1, 480, .inl o_dictionary)), (a_o_row, .inl (cy 1, 280, .inl s103))]) fi_X7_wrong_X7 tyX7 tyX7_ok nmX7 0 rfl rfl 16 (by decide) fl_X7_wrong_103 rfl (tyX7_ok 16 (by decide)) rfl rfl (Nat.le_of_ble_eq_true rfl) rfl dX7_wrong_134 ?_
                    refine go_iconst X (v := 4) dX7_wrong_137 (by decide) ?_
                    refine go_istore_n X (lv' := [(3, .int 4), (2, .int r57), (1, .int y55), (0, .ref a_o)]) dX7_wrong_138 rfl (by decide) rfl ?_
                    refine go_iconst X (v := 0) dX7_wrong_139 (by decide) ?_
                    refine go_istore X (lv' := [(4, .int 0), (3, .int 4), (2, .int r57), (1, .int y55), (0, .ref a_o)]) dX7_wrong_140 (by decide) rfl ?_
                    obtain ⟨n111, h⟩ := h
                    refine go_lv [4, 1, 0] rfl ?_
                    refine pX7_wrong_142 l X a_o a_o_tape a_o_sampleLong a_o_sampleByte a_o_idOf a_o_pieces a_o_pieceLong a_o_bytesOf a_o_dictionary a_o_covered a_o_taken a_o_row a_o_cost a_o_leastD a_o_out a_o_text o_thrown o_taped o_samples o_takenMany s102 y105 o_outMany o_items o_matches o_textMany o_tape o_idOf o_pieceLong o_bytesOf o_dictionary post hR _ (fun s106 y107 y108 h => ?_) n111 s103 (4 : Int32) (0 : Int32) h
                    refine go_iload X dX7_wrong_387 2 rfl ?_
                    refine go_aload_n X dX7_wrong_389 0 rfl rfl ?_
                    refine go_get X fi_X7_wrong_X7 0 rfl rfl 16 (by decide) fl_X7_wrong_103 rfl dX7_wrong_390 ?_
                    refine go_icmp_lt X 404 dX7_wrong_393 (by decide) (fun c109 => ?_) (fun c109 => ?_)
                    · replace h := h.1 c109
                      refine go_iload_n X dX7_wrong_404 1 rfl rfl ?_
                      refine go_goto X 409 dX7_wrong_405 (by decide) ?_
                      exact hR y107 (s102, y105, s106) 409 _ dX7_wrong_409 rfl h
                    · replace h := h.2 c109
                      refine go_iload_n X dX7_wrong_396 1 rfl rfl ?_
                      refine go_aload_n X dX7_wrong_397 0 rfl rfl ?_
                      refine go_get X fi_X7_wrong_X7 0 rfl rfl 2 (by decide) fl_X7_wrong_56 rfl dX7_wrong_398 ?_
                      refine go_icmp_ge X 408 dX7_wrong_401 (by decide) (fun c110 => ?_) (fun c110 => ?_)
                      · replace h := h.1 c110
                        refine go_iconst X (v := (-1)) dX7_wrong_408 (by decide) ?_
                        exact hR (-1) (s102, y105, s106) 409 _ dX7_wrong_409 rfl h
                      · replace h := h.2 c110
                        refine go_iload_n X dX7_wrong_404 1 rfl rfl ?_
                        refine go_goto X 409 dX7_wrong_405 (by decide) ?_
                        exact hR y107 (s102, y105, s106) 409 _ dX7_wrong_409 rfl h
                  · replace h := h.2 c101
                    refine go_iconst X (v := 3) dX7_wrong_119 (by decide) ?_
                    exact hR 3 (o_ahead, o_textLong, o_row) 120 _ dX7_wrong_120 rfl h
              · replace h := h.2 c98
                refine go_iconst X (v := 1) dX7_wrong_97 (by decide) ?_
                exact hR 1 (o_ahead, o_textLong, o_row) 98 _ dX7_wrong_98 rfl h
            · replace h := h.2 c94
              refine go_aload_n X dX7_wrong_58 2 rfl rfl ?_
              refine go_get X fi_X7_wrong_X7 0 rfl rfl 2 (by decide) fl_X7_wrong_56 rfl dX7_wrong_59 ?_
              exact hR o_taped (o_ahead, o_textLong, o_row) 62 _ dX7_wrong_62 rfl h
          · replace h := h.2 c93
            refine go_iconst X (v := 0) dX7_wrong_48 (by decide) ?_
            exact hR 0 (o_ahead, o_textLong, o_row) 49 _ dX7_wrong_49 rfl h
    · replace h := h.2 c56
      refine go_iconst X (v := (-1)) dX7_wrong_22 (by decide) ?_
      refine go_goto X 31 dX7_wrong_23 (by decide) ?_
      refine go_istore_n X (lv' := [(2, .int (-1)), (1, .int y55), (0, .ref a_o)]) dX7_wrong_31 rfl (by decide) rfl ?_
      refine go_aload_n X dX7_wrong_32 2 rfl rfl ?_
      refine go_get X fi_X7_wrong_X7 0 rfl rfl 2 (by decide) fl_X7_wrong_56 rfl dX7_wrong_33 ?_
      refine go_if_eq X 48 dX7_wrong_36 (by decide) (fun c112 => ?_) (fun c112 => ?_)
      · replace h := h.1 c112
        refine go_iconst X (v := 0) dX7_wrong_48 (by decide) ?_
        exact hR 0 (o_ahead, o_textLong, o_row) 49 _ dX7_wrong_49 rfl h
      · replace h := h.2 c112
        refine go_iload_n X dX7_wrong_39 1 rfl rfl ?_
        refine go_if_le X 50 dX7_wrong_40 (by decide) (fun c113 => ?_) (fun c113 => ?_)
        · replace h := h.1 c113
          refine go_aload_n X dX7_wrong_50 2 rfl rfl ?_
          refine go_get X fi_X7_wrong_X7 0 rfl rfl 2 (by decide) fl_X7_wrong_56 rfl dX7_wrong_51 ?_
          refine go_iconst X (v := 3) dX7_wrong_54 (by decide) ?_
          refine go_icmp_ge X 63 dX7_wrong_55 (by decide) (fun c114 => ?_) (fun c114 => ?_)
          · replace h := h.1 c114
            refine go_sipush X (v := 256) dX7_wrong_63 (by decide) ?_
            refine go_aload_n X dX7_wrong_66 2 rfl rfl ?_
            refine go_get X fi_X7_wrong_X7 0 rfl rfl 1 (by decide) fl_X7_wrong_7 rfl dX7_wrong_67 ?_
            refine go_iconst X (v := 1) dX7_wrong_70 (by decide) ?_
            obtain ⟨c115, h⟩ := h
            refine go_iald X 1 1 rfl rfl c115 dX7_wrong_71 ?_
            refine go_imul X dX7_wrong_72 ?_
            refine go_aload_n X dX7_wrong_73 2 rfl rfl ?_
            refine go_get X fi_X7_wrong_X7 0 rfl rfl 1 (by decide) fl_X7_wrong_7 rfl dX7_wrong_74 ?_
            refine go_iconst X (v := 2) dX7_wrong_77 (by decide) ?_
            obtain ⟨c116, h⟩ := h
            refine go_iald X 1 1 rfl rfl c116 dX7_wrong_78 ?_
            refine go_iadd X dX7_wrong_79 ?_
            refine go_iload_n X dX7_wrong_80 0 rfl rfl ?_
            refine go_iconst X (v := (-1)) dX7_wrong_81 (by decide) ?_
            refine go_icmp_ne X 89 dX7_wrong_82 (by decide) (fun c0 => absurd c0 (by decide)) (fun _ => ?_)
            refine go_iconst X (v := 0) dX7_wrong_85 (by decide) ?_
            refine go_goto X 94 dX7_wrong_86 (by decide) ?_
            refine go_icmp_eq X 99 dX7_wrong_94 (by decide) (fun c117 => ?_) (fun c117 => ?_)
            · replace h := h.1 c117
              refine go_aload_n X dX7_wrong_99 2 rfl rfl ?_
              refine go_get X fi_X7_wrong_X7 0 rfl rfl 2 (by decide) fl_X7_wrong_56 rfl dX7_wrong_100 ?_
              refine go_iconst X (v := 3) dX7_wrong_103 (by decide) ?_
              refine go_icmp_eq X 119 dX7_wrong_104 (by decide) (fun c118 => ?_) (fun c118 => ?_)
              · replace h := h.1 c118
                refine go_iconst X (v := 3) dX7_wrong_119 (by decide) ?_
                exact hR 3 (o_ahead, o_textLong, o_row) 120 _ dX7_wrong_120 rfl h
              · replace h := h.2 c118
                refine go_aload_n X dX7_wrong_107 2 rfl rfl ?_
                refine go_get X fi_X7_wrong_X7 0 rfl rfl 1 (by decide) fl_X7_wrong_7 rfl dX7_wrong_108 ?_
                refine go_iconst X (v := 3) dX7_wrong_111 (by decide) ?_
                obtain ⟨c119, h⟩ := h
                refine go_iald X 1 1 rfl rfl c119 dX7_wrong_112 ?_
                refine go_sipush X (v := 200) dX7_wrong_113 (by decide) ?_
                refine go_icmp_le X 121 dX7_wrong_116 (by decide) (fun c120 => ?_) (fun c120 => ?_)
                · replace h := h.1 c120
                  refine go_aload_n X dX7_wrong_121 2 rfl rfl ?_
                  refine go_iload_n X dX7_wrong_122 0 rfl rfl ?_
                  refine go_iconst X (v := (-1)) dX7_wrong_123 (by decide) ?_
                  refine go_callVv X (kX7_layAhead l D cy a_o a_o_tape a_o_sampleLong a_o_sampleByte a_o_idOf a_o_pieces a_o_pieceLong a_o_bytesOf a_o_dictionary a_o_covered a_o_taken a_o_row a_o_cost a_o_leastD a_o_out a_o_text o_thrown o_taped o_samples o_takenMany o_ahead o_textLong o_outMany o_items o_matches o_textMany o_pieceLong o_bytesOf o_dictionary o_row ((-1) : Int32) ((-1) : Int32) _ h) (cwV 2 X.2.2.2.2.1 gX7_wrong_X7_layAhead rfl rfl rfl cd_X7_layAhead ⟨by decide, by decide⟩) (wr := [(a_o_tape, .inl (cy 1, 200, .inl o_tape)), (a_o_idOf, .inl (cy 1, 6, .inl o_idOf))]) (ws2 := fun u => [(a_o, .inr (10, [.int o_thrown, .ref a_o_tape, .int o_taped, .int o_samples, .ref a_o_sampleLong, .ref a_o_sampleByte, .ref a_o_idOf, .ref a_o_pieces, .ref a_o_pieceLong, .ref a_o_bytesOf, .ref a_o_dictionary, .ref a_o_covered, .ref a_o_taken, .int o_takenMany, .ref a_o_row, .int u.1, .int o_textLong, .ref a_o_cost, .ref a_o_leastD, .ref a_o_out, .int o_outMany, .int o_items, .int o_matches, .ref a_o_text, .int o_textMany])), (a_o_tape, .inl (cy 1, 200, .inl o_tape)), (a_o_idOf, .inl (cy 1, 6, .inl o_idOf)), (a_o_pieceLong, .inl (cy 1, 480, .inl o_pieceLong)), (a_o_bytesOf, .inl (cy 1, 6, .inl o_bytesOf)), (a_o_dictionary, .inl (cy 1, 480, .inl o_dictionary)), (a_o_row, .inl (cy 1, 280, .inl u.2))]) (perm_ix 7 [0, 3, 4, 5, 6, 1, 2] rfl (by decide +kernel) rfl) (fun u => perm_ix 7 [0, 5, 6, 1, 2, 3, 4] rfl (by decide +kernel) rfl) rfl rfl rfl rfl (Nat.le_of_ble_eq_true rfl) dX7_wrong_124 ⟨by decide, by decide⟩ (fun u h => ?_)
                  obtain ⟨s121, s122⟩ := u
                  refine go_aload_n X dX7_wrong_127 2 rfl rfl ?_
                  refine go_aload_n X dX7_wrong_128 2 rfl rfl ?_
                  refine go_get X fi_X7_wrong_X7 0 rfl rfl 1 (by decide) fl_X7_wrong_7 rfl dX7_wrong_129 ?_
                  refine go_iconst X (v := 3) dX7_wrong_132 (by decide) ?_
                  obtain ⟨c123, h⟩ := h
                  refine go_iald X 1 1 rfl rfl c123 dX7_wrong_133 ?_
                  refine go_topi (fun y124 ey124 => ?_)
                  replace h := h y124 ey124
                  refine go_put X (ws' := [(a_o, .inr (10, [.int o_thrown, .ref a_o_tape, .int o_taped, .int o_samples, .ref a_o_sampleLong, .ref a_o_sampleByte, .ref a_o_idOf, .ref a_o_pieces, .ref a_o_pieceLong, .ref a_o_bytesOf, .ref a_o_dictionary, .ref a_o_covered, .ref a_o_taken, .int o_takenMany, .ref a_o_row, .int s121, .int y124, .ref a_o_cost, .ref a_o_leastD, .ref a_o_out, .int o_outMany, .int o_items, .int o_matches, .ref a_o_text, .int o_textMany])), (a_o_tape, .inl (cy 1, 200, .inl o_tape)), (a_o_idOf, .inl (cy 1, 6, .inl o_idOf)), (a_o_pieceLong, .inl (cy 1, 480, .inl o_pieceLong)), (a_o_bytesOf, .inl (cy 1, 6, .inl o_bytesOf)), (a_o_dictionary, .inl (cy 1, 480, .inl o_dictionary)), (a_o_row, .inl (cy 1, 280, .inl s122))]) fi_X7_wrong_X7 tyX7 tyX7_ok nmX7 0 rfl rfl 16 (by decide) fl_X7_wrong_103 rfl (tyX7_ok 16 (by decide)) rfl rfl (Nat.le_of_ble_eq_true rfl) rfl dX7_wrong_134 ?_
                  refine go_iconst X (v := 4) dX7_wrong_137 (by decide) ?_
                  refine go_istore_n X (lv' := [(3, .int 4), (2, .int (-1)), (1, .int y55), (0, .ref a_o)]) dX7_wrong_138 rfl (by decide) rfl ?_
                  refine go_iconst X (v := 0) dX7_wrong_139 (by decide) ?_
                  refine go_istore X (lv' := [(4, .int 0), (3, .int 4), (2, .int (-1)), (1, .int y55), (0, .ref a_o)]) dX7_wrong_140 (by decide) rfl ?_
                  obtain ⟨n130, h⟩ := h
                  refine go_lv [4, 1, 0] rfl ?_
                  refine pX7_wrong_142 l X a_o a_o_tape a_o_sampleLong a_o_sampleByte a_o_idOf a_o_pieces a_o_pieceLong a_o_bytesOf a_o_dictionary a_o_covered a_o_taken a_o_row a_o_cost a_o_leastD a_o_out a_o_text o_thrown o_taped o_samples o_takenMany s121 y124 o_outMany o_items o_matches o_textMany o_tape o_idOf o_pieceLong o_bytesOf o_dictionary post hR _ (fun s125 y126 y127 h => ?_) n130 s122 (4 : Int32) (0 : Int32) h
                  refine go_iload X dX7_wrong_387 2 rfl ?_
                  refine go_aload_n X dX7_wrong_389 0 rfl rfl ?_
                  refine go_get X fi_X7_wrong_X7 0 rfl rfl 16 (by decide) fl_X7_wrong_103 rfl dX7_wrong_390 ?_
                  refine go_icmp_lt X 404 dX7_wrong_393 (by decide) (fun c128 => ?_) (fun c128 => ?_)
                  · replace h := h.1 c128
                    refine go_iload_n X dX7_wrong_404 1 rfl rfl ?_
                    refine go_goto X 409 dX7_wrong_405 (by decide) ?_
                    exact hR y126 (s121, y124, s125) 409 _ dX7_wrong_409 rfl h
                  · replace h := h.2 c128
                    refine go_iload_n X dX7_wrong_396 1 rfl rfl ?_
                    refine go_aload_n X dX7_wrong_397 0 rfl rfl ?_
                    refine go_get X fi_X7_wrong_X7 0 rfl rfl 2 (by decide) fl_X7_wrong_56 rfl dX7_wrong_398 ?_
                    refine go_icmp_ge X 408 dX7_wrong_401 (by decide) (fun c129 => ?_) (fun c129 => ?_)
                    · replace h := h.1 c129
                      refine go_iconst X (v := (-1)) dX7_wrong_408 (by decide) ?_
                      exact hR (-1) (s121, y124, s125) 409 _ dX7_wrong_409 rfl h
                    · replace h := h.2 c129
                      refine go_iload_n X dX7_wrong_404 1 rfl rfl ?_
                      refine go_goto X 409 dX7_wrong_405 (by decide) ?_
                      exact hR y126 (s121, y124, s125) 409 _ dX7_wrong_409 rfl h
                · replace h := h.2 c120
                  refine go_iconst X (v := 3) dX7_wrong_119 (by decide) ?_
                  exact hR 3 (o_ahead, o_textLong, o_row) 120 _ dX7_wrong_120 rfl h
            · replace h := h.2 c117
              refine go_iconst X (v := 1) dX7_wrong_97 (by decide) ?_
              exact hR 1 (o_ahead, o_textLong, o_row) 98 _ dX7_wrong_98 rfl h
          · replace h := h.2 c114
            refine go_aload_n X dX7_wrong_58 2 rfl rfl ?_
            refine go_get X fi_X7_wrong_X7 0 rfl rfl 2 (by decide) fl_X7_wrong_56 rfl dX7_wrong_59 ?_
            exact hR o_taped (o_ahead, o_textLong, o_row) 62 _ dX7_wrong_62 rfl h
        · replace h := h.2 c113
          refine go_iload_n X dX7_wrong_43 0 rfl rfl ?_
          refine go_iconst X (v := (-1)) dX7_wrong_44 (by decide) ?_
          refine go_icmp_ne X 50 dX7_wrong_45 (by decide) (fun c0 => absurd c0 (by decide)) (fun _ => ?_)
          refine go_iconst X (v := 0) dX7_wrong_48 (by decide) ?_
          exact hR 0 (o_ahead, o_textLong, o_row) 49 _ dX7_wrong_49 rfl h
/-! X7_open -/
theorem fi_X7_open_X7 : ∀ w ∈ u_ws RX7 TX7 25, w ∈ wsX7_open := by decide +kernel
theorem fl_X7_open_60 : Cond.fieldLink RX7 60 (TX7 0).1 (TX7 0).2.1 (TX7 0).2.2.1 ∈ wsX7_open := by decide +kernel
theorem fl_X7_open_56 : Cond.fieldLink RX7 56 (TX7 2).1 (TX7 2).2.1 (TX7 2).2.2.1 ∈ wsX7_open := by decide +kernel
theorem fl_X7_open_103 : Cond.fieldLink RX7 103 (TX7 16).1 (TX7 16).2.1 (TX7 16).2.2.1 ∈ wsX7_open := by decide +kernel
theorem fl_X7_open_162 : Cond.fieldLink RX7 162 (TX7 24).1 (TX7 24).2.1 (TX7 24).2.2.1 ∈ wsX7_open := by decide +kernel
theorem fl_X7_open_53 : Cond.fieldLink RX7 53 (TX7 23).1 (TX7 23).2.1 (TX7 23).2.2.1 ∈ wsX7_open := by decide +kernel
theorem fl_X7_open_41 : Cond.fieldLink RX7 41 (TX7 14).1 (TX7 14).2.1 (TX7 14).2.2.1 ∈ wsX7_open := by decide +kernel
theorem fl_X7_open_96 : Cond.fieldLink RX7 96 (TX7 15).1 (TX7 15).2.1 (TX7 15).2.2.1 ∈ wsX7_open := by decide +kernel
def rm_X7_open : Room := { frames := 3, cells := 0, slots := 0, locals := 77 }
theorem cd_X7_open : yX7_open.cls = RX7 ∧ yX7_open.cls ≠ "java/lang/invoke/MethodHandle" ∧ yX7_open.cls ≠ "java/lang/invoke/VarHandle" ∧ (parseMethodDescriptor yX7_open.desc).map (fun d => d.parameters.length) = some 0 := by decide +kernel
set_option maxRecDepth 100000 in
set_option maxHeartbeats 4000000 in
theorem pX7_open_36 {p : Program} (l : Launch) {e : Env} {s : State} {m : MethodId} {args : Array Value} {below : List Frame} {meth : Method} {c : Code} {Q : State → Prop} {D : va_G} {cy : Nat → ClassId} {A : Nat → Prop} (X : Cx p s m args c cX7_open 3 RX7 wsX7_open D (tyL cy) A) (a_o : Nat) (a_o_tape : Nat) (a_o_sampleLong : Nat) (a_o_sampleByte : Nat) (a_o_idOf : Nat) (a_o_pieces : Nat) (a_o_pieceLong : Nat) (a_o_bytesOf : Nat) (a_o_dictionary : Nat) (a_o_covered : Nat) (a_o_taken : Nat) (a_o_row : Nat) (a_o_cost : Nat) (a_o_leastD : Nat) (a_o_out : Nat) (a_o_text : Nat) (o_thrown : Int32) (o_taped : Int32) (o_samples : Int32) (o_takenMany : Int32) (o_ahead : Int32) (o_textLong : Int32) (o_outMany : Int32) (o_items : Int32) (o_matches : Int32) (o_textMany : Int32) (o_tape : Nat → Int32) (o_idOf : Nat → Int32) (o_pieceLong : Nat → Int32) (o_bytesOf : Nat → Int32) (o_dictionary : Nat → Int32) (o_row : Nat → Int32) (K : (Nat → Int32) → Int32 → Prop) (hK : ∀ (o_text : Nat → Int32) (v2 : Int32), K o_text v2 → Go p l e rm_X7_open s m args below meth c Q 3 D A [(a_o, .inr (10, [.int o_thrown, .ref a_o_tape, .int o_taped, .int o_samples, .ref a_o_sampleLong, .ref a_o_sampleByte, .ref a_o_idOf, .ref a_o_pieces, .ref a_o_pieceLong, .ref a_o_bytesOf, .ref a_o_dictionary, .ref a_o_covered, .ref a_o_taken, .int o_takenMany, .ref a_o_row, .int o_ahead, .int o_textLong, .ref a_o_cost, .ref a_o_leastD, .ref a_o_out, .int o_outMany, .int o_items, .int o_matches, .ref a_o_text, .int o_textMany])), (a_o_tape, .inl (cy 1, 200, .inl o_tape)), (a_o_idOf, .inl (cy 1, 6, .inl o_idOf)), (a_o_pieceLong, .inl (cy 1, 480, .inl o_pieceLong)), (a_o_bytesOf, .inl (cy 1, 6, .inl o_bytesOf)), (a_o_dictionary, .inl (cy 1, 480, .inl o_dictionary)), (a_o_row, .inl (cy 1, 280, .inl o_row)), (a_o_text, .inl (cy 1, 200, .inl o_text))] 0 0 67 [(0, .ref a_o)] []) :
    ∀ (n : Nat) (o_text : Nat → Int32) (v2 : Int32), wX7_open_36 o_ahead o_textMany o_row K n o_text v2 → Go p l e rm_X7_open s m args below meth c Q 3 D A [(a_o, .inr (10, [.int o_thrown, .ref a_o_tape, .int o_taped, .int o_samples, .ref a_o_sampleLong, .ref a_o_sampleByte, .ref a_o_idOf, .ref a_o_pieces, .ref a_o_pieceLong, .ref a_o_bytesOf, .ref a_o_dictionary, .ref a_o_covered, .ref a_o_taken, .int o_takenMany, .ref a_o_row, .int o_ahead, .int o_textLong, .ref a_o_cost, .ref a_o_leastD, .ref a_o_out, .int o_outMany, .int o_items, .int o_matches, .ref a_o_text, .int o_textMany])), (a_o_tape, .inl (cy 1, 200, .inl o_tape)), (a_o_idOf, .inl (cy 1, 6, .inl o_idOf)), (a_o_pieceLong, .inl (cy 1, 480, .inl o_pieceLong)), (a_o_bytesOf, .inl (cy 1, 6, .inl o_bytesOf)), (a_o_dictionary, .inl (cy 1, 480, .inl o_dictionary)), (a_o_row, .inl (cy 1, 280, .inl o_row)), (a_o_text, .inl (cy 1, 200, .inl o_text))] 0 0 36 [(0, .ref a_o), (2, .int v2)] [] := by
  intro n
  induction n with
  | zero => intro o_text v2 h; exact absurd h id
  | succ n ih =>
    intro o_text v2 h
    refine go_iload_n X dX7_open_36 1 rfl rfl ?_
    refine go_aload_n X dX7_open_37 0 rfl rfl ?_
    refine go_get X fi_X7_open_X7 0 rfl rfl 24 (by decide) fl_X7_open_162 rfl dX7_open_38 ?_
    refine go_icmp_ge X 67 dX7_open_41 (by decide) (fun c8 => ?_) (fun c8 => ?_)
    · replace h := h.1 c8
      refine go_lv [0] rfl ?_
      exact hK o_text v2 h
    · replace h := h.2 c8
      refine go_aload_n X dX7_open_44 0 rfl rfl ?_
      refine go_get X fi_X7_open_X7 0 rfl rfl 23 (by decide) fl_X7_open_53 rfl dX7_open_45 ?_
      refine go_iload_n X dX7_open_48 1 rfl rfl ?_
      refine go_aload_n X dX7_open_49 0 rfl rfl ?_
      refine go_get X fi_X7_open_X7 0 rfl rfl 14 (by decide) fl_X7_open_41 rfl dX7_open_50 ?_
      refine go_aload_n X dX7_open_53 0 rfl rfl ?_
      refine go_get X fi_X7_open_X7 0 rfl rfl 15 (by decide) fl_X7_open_96 rfl dX7_open_54 ?_
      refine go_iload_n X dX7_open_57 1 rfl rfl ?_
      refine go_iadd X dX7_open_58 ?_
      obtain ⟨c9, h⟩ := h
      refine go_iald X 6 1 rfl rfl c9 dX7_open_59 ?_
      obtain ⟨c10, h⟩ := h
      refine go_iast X [(a_o, .inr (10, [.int o_thrown, .ref a_o_tape, .int o_taped, .int o_samples, .ref a_o_sampleLong, .ref a_o_sampleByte, .ref a_o_idOf, .ref a_o_pieces, .ref a_o_pieceLong, .ref a_o_bytesOf, .ref a_o_dictionary, .ref a_o_covered, .ref a_o_taken, .int o_takenMany, .ref a_o_row, .int o_ahead, .int o_textLong, .ref a_o_cost, .ref a_o_leastD, .ref a_o_out, .int o_outMany, .int o_items, .int o_matches, .ref a_o_text, .int o_textMany])), (a_o_tape, .inl (cy 1, 200, .inl o_tape)), (a_o_idOf, .inl (cy 1, 6, .inl o_idOf)), (a_o_pieceLong, .inl (cy 1, 480, .inl o_pieceLong)), (a_o_bytesOf, .inl (cy 1, 6, .inl o_bytesOf)), (a_o_dictionary, .inl (cy 1, 480, .inl o_dictionary)), (a_o_row, .inl (cy 1, 280, .inl o_row)), (a_o_text, .inl (cy 1, 200, .inl (upd o_text v2.toNatClampNeg (o_row (o_ahead + v2).toNatClampNeg))))] 7 1 rfl rfl c10 rfl dX7_open_60 ?_
      obtain ⟨y11, ey11⟩ : ∃ z : Int32, z = v2 + 1 := ⟨_, rfl⟩
      replace h := h y11 ey11
      refine go_iinc X (lv' := [(2, .int y11), (0, .ref a_o)]) y11 dX7_open_61 1 rfl (by rw [ey11]; rfl) (by decide) rfl ?_
      refine go_goto X 36 dX7_open_64 (by decide) ?_
      refine go_lv [1, 0] rfl ?_
      exact ih (upd o_text v2.toNatClampNeg (o_row (o_ahead + v2).toNatClampNeg)) y11 h
set_option maxRecDepth 100000 in
set_option maxHeartbeats 4000000 in
theorem kX7_open (l : Launch) (D : va_G) (cy : Nat → ClassId) (a_o : Nat) (a_o_tape : Nat) (a_o_sampleLong : Nat) (a_o_sampleByte : Nat) (a_o_idOf : Nat) (a_o_pieces : Nat) (a_o_pieceLong : Nat) (a_o_bytesOf : Nat) (a_o_dictionary : Nat) (a_o_covered : Nat) (a_o_taken : Nat) (a_o_row : Nat) (a_o_cost : Nat) (a_o_leastD : Nat) (a_o_out : Nat) (a_o_text : Nat) (o_thrown : Int32) (o_taped : Int32) (o_samples : Int32) (o_takenMany : Int32) (o_ahead : Int32) (o_textLong : Int32) (o_outMany : Int32) (o_items : Int32) (o_matches : Int32) (o_textMany : Int32) (o_tape : Nat → Int32) (o_idOf : Nat → Int32) (o_pieceLong : Nat → Int32) (o_bytesOf : Nat → Int32) (o_dictionary : Nat → Int32) (o_row : Nat → Int32) (o_text : Nat → Int32) (post : Int32 → Int32 → Int32 → Int32 → Int32 → Int32 → (Nat → Int32) → (Nat → Int32) → Prop) (h : wX7_open o_taped o_ahead o_textLong o_textMany o_tape o_idOf o_pieceLong o_bytesOf o_dictionary o_row o_text post) : MetI l yX7_open wsX7_open rm_X7_open D (tyL cy) [.ref a_o] [(a_o, .inr (10, [.int o_thrown, .ref a_o_tape, .int o_taped, .int o_samples, .ref a_o_sampleLong, .ref a_o_sampleByte, .ref a_o_idOf, .ref a_o_pieces, .ref a_o_pieceLong, .ref a_o_bytesOf, .ref a_o_dictionary, .ref a_o_covered, .ref a_o_taken, .int o_takenMany, .ref a_o_row, .int o_ahead, .int o_textLong, .ref a_o_cost, .ref a_o_leastD, .ref a_o_out, .int o_outMany, .int o_items, .int o_matches, .ref a_o_text, .int o_textMany])), (a_o_tape, .inl (cy 1, 200, .inl o_tape)), (a_o_idOf, .inl (cy 1, 6, .inl o_idOf)), (a_o_pieceLong, .inl (cy 1, 480, .inl o_pieceLong)), (a_o_bytesOf, .inl (cy 1, 6, .inl o_bytesOf)), (a_o_dictionary, .inl (cy 1, 480, .inl o_dictionary)), (a_o_row, .inl (cy 1, 280, .inl o_row)), (a_o_text, .inl (cy 1, 200, .inl o_text))] (fun u : Int32 × Int32 × Int32 × Int32 × Int32 × (Nat → Int32) × (Nat → Int32) => [(a_o, .inr (10, [.int u.1, .ref a_o_tape, .int u.2.1, .int o_samples, .ref a_o_sampleLong, .ref a_o_sampleByte, .ref a_o_idOf, .ref a_o_pieces, .ref a_o_pieceLong, .ref a_o_bytesOf, .ref a_o_dictionary, .ref a_o_covered, .ref a_o_taken, .int o_takenMany, .ref a_o_row, .int u.2.2.1, .int u.2.2.2.1, .ref a_o_cost, .ref a_o_leastD, .ref a_o_out, .int o_outMany, .int o_items, .int o_matches, .ref a_o_text, .int u.2.2.2.2.1])), (a_o_tape, .inl (cy 1, 200, .inl o_tape)), (a_o_idOf, .inl (cy 1, 6, .inl o_idOf)), (a_o_pieceLong, .inl (cy 1, 480, .inl o_pieceLong)), (a_o_bytesOf, .inl (cy 1, 6, .inl o_bytesOf)), (a_o_dictionary, .inl (cy 1, 480, .inl o_dictionary)), (a_o_row, .inl (cy 1, 280, .inl u.2.2.2.2.2.1)), (a_o_text, .inl (cy 1, 200, .inl u.2.2.2.2.2.2))]) (fun r => fun (u : Int32 × Int32 × Int32 × Int32 × Int32 × (Nat → Int32) × (Nat → Int32)) => post r u.1 u.2.1 u.2.2.1 u.2.2.2.1 u.2.2.2.2.1 u.2.2.2.2.2.1 u.2.2.2.2.2.2) 0 0 := by
  refine metI_of (cc := cX7_open) (maxL := 3) (lv := [(0, .ref a_o)]) (by decide) rfl (Nat.le_of_ble_eq_true rfl) rfl ?_
  intro p e s m below meth c Q A X hlk hR
  unfold wX7_open at h
  refine go_aload_n X dX7_open_0 0 rfl rfl ?_
  refine go_iconst X (v := 0) dX7_open_1 (by decide) ?_
  refine go_put X (ws' := [(a_o, .inr (10, [.int 0, .ref a_o_tape, .int o_taped, .int o_samples, .ref a_o_sampleLong, .ref a_o_sampleByte, .ref a_o_idOf, .ref a_o_pieces, .ref a_o_pieceLong, .ref a_o_bytesOf, .ref a_o_dictionary, .ref a_o_covered, .ref a_o_taken, .int o_takenMany, .ref a_o_row, .int o_ahead, .int o_textLong, .ref a_o_cost, .ref a_o_leastD, .ref a_o_out, .int o_outMany, .int o_items, .int o_matches, .ref a_o_text, .int o_textMany])), (a_o_tape, .inl (cy 1, 200, .inl o_tape)), (a_o_idOf, .inl (cy 1, 6, .inl o_idOf)), (a_o_pieceLong, .inl (cy 1, 480, .inl o_pieceLong)), (a_o_bytesOf, .inl (cy 1, 6, .inl o_bytesOf)), (a_o_dictionary, .inl (cy 1, 480, .inl o_dictionary)), (a_o_row, .inl (cy 1, 280, .inl o_row)), (a_o_text, .inl (cy 1, 200, .inl o_text))]) fi_X7_open_X7 tyX7 tyX7_ok nmX7 0 rfl rfl 0 (by decide) fl_X7_open_60 rfl (tyX7_ok 0 (by decide)) rfl rfl (Nat.le_of_ble_eq_true rfl) rfl dX7_open_2 ?_
  refine go_aload_n X dX7_open_5 0 rfl rfl ?_
  refine go_callVi X (kX7_wrong l D cy a_o a_o_tape a_o_sampleLong a_o_sampleByte a_o_idOf a_o_pieces a_o_pieceLong a_o_bytesOf a_o_dictionary a_o_covered a_o_taken a_o_row a_o_cost a_o_leastD a_o_out a_o_text 0 o_taped o_samples o_takenMany o_ahead o_textLong o_outMany o_items o_matches o_textMany o_tape o_idOf o_pieceLong o_bytesOf o_dictionary o_row _ h) (cwV 0 X.2.2.2.2.1 gX7_open_X7_wrong rfl rfl rfl cd_X7_wrong ⟨by decide, by decide⟩) (wr := [(a_o_text, .inl (cy 1, 200, .inl o_text))]) (ws2 := fun u => [(a_o, .inr (10, [.int 0, .ref a_o_tape, .int o_taped, .int o_samples, .ref a_o_sampleLong, .ref a_o_sampleByte, .ref a_o_idOf, .ref a_o_pieces, .ref a_o_pieceLong, .ref a_o_bytesOf, .ref a_o_dictionary, .ref a_o_covered, .ref a_o_taken, .int o_takenMany, .ref a_o_row, .int u.1, .int u.2.1, .ref a_o_cost, .ref a_o_leastD, .ref a_o_out, .int o_outMany, .int o_items, .int o_matches, .ref a_o_text, .int o_textMany])), (a_o_tape, .inl (cy 1, 200, .inl o_tape)), (a_o_idOf, .inl (cy 1, 6, .inl o_idOf)), (a_o_pieceLong, .inl (cy 1, 480, .inl o_pieceLong)), (a_o_bytesOf, .inl (cy 1, 6, .inl o_bytesOf)), (a_o_dictionary, .inl (cy 1, 480, .inl o_dictionary)), (a_o_row, .inl (cy 1, 280, .inl u.2.2)), (a_o_text, .inl (cy 1, 200, .inl o_text))]) (perm_ix 8 [0, 1, 2, 3, 4, 5, 6, 7] rfl (by decide +kernel) rfl) (fun u => perm_ix 8 [0, 1, 2, 3, 4, 5, 6, 7] rfl (by decide +kernel) rfl) rfl rfl rfl rfl (Nat.le_of_ble_eq_true rfl) dX7_open_6 ⟨by decide, by decide⟩ (fun r1 u h => ?_)
  obtain ⟨s2, s3, s4⟩ := u
  refine go_istore_n X (lv' := [(1, .int r1), (0, .ref a_o)]) dX7_open_9 rfl (by decide) rfl ?_
  refine go_aload_n X dX7_open_10 1 rfl rfl ?_
  refine go_iconst X (v := 0) dX7_open_11 (by decide) ?_
  refine go_put X (ws' := [(a_o, .inr (10, [.int 0, .ref a_o_tape, .int 0, .int o_samples, .ref a_o_sampleLong, .ref a_o_sampleByte, .ref a_o_idOf, .ref a_o_pieces, .ref a_o_pieceLong, .ref a_o_bytesOf, .ref a_o_dictionary, .ref a_o_covered, .ref a_o_taken, .int o_takenMany, .ref a_o_row, .int s2, .int s3, .ref a_o_cost, .ref a_o_leastD, .ref a_o_out, .int o_outMany, .int o_items, .int o_matches, .ref a_o_text, .int o_textMany])), (a_o_tape, .inl (cy 1, 200, .inl o_tape)), (a_o_idOf, .inl (cy 1, 6, .inl o_idOf)), (a_o_pieceLong, .inl (cy 1, 480, .inl o_pieceLong)), (a_o_bytesOf, .inl (cy 1, 6, .inl o_bytesOf)), (a_o_dictionary, .inl (cy 1, 480, .inl o_dictionary)), (a_o_row, .inl (cy 1, 280, .inl s4)), (a_o_text, .inl (cy 1, 200, .inl o_text))]) fi_X7_open_X7 tyX7 tyX7_ok nmX7 0 rfl rfl 2 (by decide) fl_X7_open_56 rfl (tyX7_ok 2 (by decide)) rfl rfl (Nat.le_of_ble_eq_true rfl) rfl dX7_open_12 ?_
  refine go_iload_n X dX7_open_15 0 rfl rfl ?_
  refine go_iconst X (v := (-1)) dX7_open_16 (by decide) ?_
  refine go_icmp_eq X 26 dX7_open_17 (by decide) (fun c5 => ?_) (fun c5 => ?_)
  · replace h := h.1 c5
    refine go_aload_n X dX7_open_26 1 rfl rfl ?_
    refine go_aload_n X dX7_open_27 1 rfl rfl ?_
    refine go_get X fi_X7_open_X7 0 rfl rfl 16 (by decide) fl_X7_open_103 rfl dX7_open_28 ?_
    refine go_put X (ws' := [(a_o, .inr (10, [.int 0, .ref a_o_tape, .int 0, .int o_samples, .ref a_o_sampleLong, .ref a_o_sampleByte, .ref a_o_idOf, .ref a_o_pieces, .ref a_o_pieceLong, .ref a_o_bytesOf, .ref a_o_dictionary, .ref a_o_covered, .ref a_o_taken, .int o_takenMany, .ref a_o_row, .int s2, .int s3, .ref a_o_cost, .ref a_o_leastD, .ref a_o_out, .int o_outMany, .int o_items, .int o_matches, .ref a_o_text, .int s3])), (a_o_tape, .inl (cy 1, 200, .inl o_tape)), (a_o_idOf, .inl (cy 1, 6, .inl o_idOf)), (a_o_pieceLong, .inl (cy 1, 480, .inl o_pieceLong)), (a_o_bytesOf, .inl (cy 1, 6, .inl o_bytesOf)), (a_o_dictionary, .inl (cy 1, 480, .inl o_dictionary)), (a_o_row, .inl (cy 1, 280, .inl s4)), (a_o_text, .inl (cy 1, 200, .inl o_text))]) fi_X7_open_X7 tyX7 tyX7_ok nmX7 0 rfl rfl 24 (by decide) fl_X7_open_162 rfl (tyX7_ok 24 (by decide)) rfl rfl (Nat.le_of_ble_eq_true rfl) rfl dX7_open_31 ?_
    refine go_iconst X (v := 0) dX7_open_34 (by decide) ?_
    refine go_istore_n X (lv' := [(2, .int 0), (1, .int r1), (0, .ref a_o)]) dX7_open_35 rfl (by decide) rfl ?_
    obtain ⟨n12, h⟩ := h
    refine go_lv [2, 0] rfl ?_
    refine pX7_open_36 l X a_o a_o_tape a_o_sampleLong a_o_sampleByte a_o_idOf a_o_pieces a_o_pieceLong a_o_bytesOf a_o_dictionary a_o_covered a_o_taken a_o_row a_o_cost a_o_leastD a_o_out a_o_text 0 0 o_samples o_takenMany s2 s3 o_outMany o_items o_matches s3 o_tape o_idOf o_pieceLong o_bytesOf o_dictionary s4  _ (fun s6 y7 h => ?_) n12 o_text (0 : Int32) h
    refine go_aload_n X dX7_open_67 0 rfl rfl ?_
    refine go_get X fi_X7_open_X7 0 rfl rfl 24 (by decide) fl_X7_open_162 rfl dX7_open_68 ?_
    exact hR s3 (0, 0, s2, s3, s3, s4, s6) 71 _ dX7_open_71 rfl h
  · replace h := h.2 c5
    refine go_sipush X (v := (-200)) dX7_open_20 (by decide) ?_
    refine go_iload_n X dX7_open_23 0 rfl rfl ?_
    refine go_isub X dX7_open_24 ?_
    exact hR ((-200) - r1) (0, 0, s2, s3, o_textMany, s4, o_text) 25 _ dX7_open_25 rfl h
/-! X7_text -/
theorem fi_X7_text_X7 : ∀ w ∈ u_ws RX7 TX7 25, w ∈ wsX7_text := by decide +kernel
theorem fl_X7_text_162 : Cond.fieldLink RX7 162 (TX7 24).1 (TX7 24).2.1 (TX7 24).2.2.1 ∈ wsX7_text := by decide +kernel
theorem fl_X7_text_60 : Cond.fieldLink RX7 60 (TX7 0).1 (TX7 0).2.1 (TX7 0).2.2.1 ∈ wsX7_text := by decide +kernel
theorem fl_X7_text_53 : Cond.fieldLink RX7 53 (TX7 23).1 (TX7 23).2.1 (TX7 23).2.2.1 ∈ wsX7_text := by decide +kernel
def rm_X7_text : Room := { frames := 1, cells := 0, slots := 0, locals := 25 }
theorem cd_X7_text : yX7_text.cls = RX7 ∧ yX7_text.cls ≠ "java/lang/invoke/MethodHandle" ∧ yX7_text.cls ≠ "java/lang/invoke/VarHandle" ∧ (parseMethodDescriptor yX7_text.desc).map (fun d => d.parameters.length) = some 1 := by decide +kernel
set_option maxRecDepth 100000 in
set_option maxHeartbeats 4000000 in
theorem kX7_text (l : Launch) (D : va_G) (cy : Nat → ClassId) (a_o : Nat) (a_o_tape : Nat) (a_o_sampleLong : Nat) (a_o_sampleByte : Nat) (a_o_idOf : Nat) (a_o_pieces : Nat) (a_o_pieceLong : Nat) (a_o_bytesOf : Nat) (a_o_dictionary : Nat) (a_o_covered : Nat) (a_o_taken : Nat) (a_o_row : Nat) (a_o_cost : Nat) (a_o_leastD : Nat) (a_o_out : Nat) (a_o_text : Nat) (o_thrown : Int32) (o_taped : Int32) (o_samples : Int32) (o_takenMany : Int32) (o_ahead : Int32) (o_textLong : Int32) (o_outMany : Int32) (o_items : Int32) (o_matches : Int32) (o_textMany : Int32) (o_text : Nat → Int32) (p1 : Int32) (post : Int32 → Int32 → Prop) (h : wX7_text o_textMany o_text p1 post) : MetI l yX7_text wsX7_text rm_X7_text D (tyL cy) [.ref a_o, .int p1] [(a_o, .inr (10, [.int o_thrown, .ref a_o_tape, .int o_taped, .int o_samples, .ref a_o_sampleLong, .ref a_o_sampleByte, .ref a_o_idOf, .ref a_o_pieces, .ref a_o_pieceLong, .ref a_o_bytesOf, .ref a_o_dictionary, .ref a_o_covered, .ref a_o_taken, .int o_takenMany, .ref a_o_row, .int o_ahead, .int o_textLong, .ref a_o_cost, .ref a_o_leastD, .ref a_o_out, .int o_outMany, .int o_items, .int o_matches, .ref a_o_text, .int o_textMany])), (a_o_text, .inl (cy 1, 200, .inl o_text))] (fun u : Int32 => [(a_o, .inr (10, [.int u, .ref a_o_tape, .int o_taped, .int o_samples, .ref a_o_sampleLong, .ref a_o_sampleByte, .ref a_o_idOf, .ref a_o_pieces, .ref a_o_pieceLong, .ref a_o_bytesOf, .ref a_o_dictionary, .ref a_o_covered, .ref a_o_taken, .int o_takenMany, .ref a_o_row, .int o_ahead, .int o_textLong, .ref a_o_cost, .ref a_o_leastD, .ref a_o_out, .int o_outMany, .int o_items, .int o_matches, .ref a_o_text, .int o_textMany])), (a_o_text, .inl (cy 1, 200, .inl o_text))]) (fun r => fun (u : Int32) => post r u) 0 0 := by
  refine metI_of (cc := cX7_text) (maxL := 2) (lv := [(0, .ref a_o), (1, .int p1)]) (by decide) rfl (Nat.le_of_ble_eq_true rfl) rfl ?_
  intro p e s m below meth c Q A X hlk hR
  unfold wX7_text at h
  refine go_aload_n X dX7_text_0 0 rfl rfl ?_
  refine go_iload_n X dX7_text_1 1 rfl rfl ?_
  refine go_i2l X dX7_text_2 ?_
  refine go_lconst X (v := 0) dX7_text_3 (by decide) ?_
  refine go_aload_n X dX7_text_4 0 rfl rfl ?_
  refine go_get X fi_X7_text_X7 0 rfl rfl 24 (by decide) fl_X7_text_162 rfl dX7_text_5 ?_
  refine go_iconst X (v := 1) dX7_text_8 (by decide) ?_
  refine go_isub X dX7_text_9 ?_
  refine go_i2l X dX7_text_10 ?_
  refine go_callSi X (kX7_in l D cy p1.toInt64 (0 : Int64) ((o_textMany - 1).toInt64) _ h) (va_cwS 3 X.2.2.2.2.1 gX7_text_X7_in rfl rfl rfl cd_X7_in ⟨by decide, by decide⟩) (wr := [(a_o, .inr (10, [.int o_thrown, .ref a_o_tape, .int o_taped, .int o_samples, .ref a_o_sampleLong, .ref a_o_sampleByte, .ref a_o_idOf, .ref a_o_pieces, .ref a_o_pieceLong, .ref a_o_bytesOf, .ref a_o_dictionary, .ref a_o_covered, .ref a_o_taken, .int o_takenMany, .ref a_o_row, .int o_ahead, .int o_textLong, .ref a_o_cost, .ref a_o_leastD, .ref a_o_out, .int o_outMany, .int o_items, .int o_matches, .ref a_o_text, .int o_textMany])), (a_o_text, .inl (cy 1, 200, .inl o_text))]) (ws2 := fun u => [(a_o, .inr (10, [.int o_thrown, .ref a_o_tape, .int o_taped, .int o_samples, .ref a_o_sampleLong, .ref a_o_sampleByte, .ref a_o_idOf, .ref a_o_pieces, .ref a_o_pieceLong, .ref a_o_bytesOf, .ref a_o_dictionary, .ref a_o_covered, .ref a_o_taken, .int o_takenMany, .ref a_o_row, .int o_ahead, .int o_textLong, .ref a_o_cost, .ref a_o_leastD, .ref a_o_out, .int o_outMany, .int o_items, .int o_matches, .ref a_o_text, .int o_textMany])), (a_o_text, .inl (cy 1, 200, .inl o_text))]) (perm_idx [0, 1] rfl rfl) (fun u => perm_idx [0, 1] rfl rfl) rfl rfl (Nat.le_of_ble_eq_true rfl) dX7_text_11 ⟨by decide, by decide⟩ (fun r1 u h => ?_)
  refine go_if_eq X 21 dX7_text_14 (by decide) (fun c2 => ?_) (fun c2 => ?_)
  · replace h := h.1 c2
    refine go_iconst X (v := 1) dX7_text_21 (by decide) ?_
    refine go_put X (ws' := [(a_o, .inr (10, [.int 1, .ref a_o_tape, .int o_taped, .int o_samples, .ref a_o_sampleLong, .ref a_o_sampleByte, .ref a_o_idOf, .ref a_o_pieces, .ref a_o_pieceLong, .ref a_o_bytesOf, .ref a_o_dictionary, .ref a_o_covered, .ref a_o_taken, .int o_takenMany, .ref a_o_row, .int o_ahead, .int o_textLong, .ref a_o_cost, .ref a_o_leastD, .ref a_o_out, .int o_outMany, .int o_items, .int o_matches, .ref a_o_text, .int o_textMany])), (a_o_text, .inl (cy 1, 200, .inl o_text))]) fi_X7_text_X7 tyX7 tyX7_ok nmX7 0 rfl rfl 0 (by decide) fl_X7_text_60 rfl (tyX7_ok 0 (by decide)) rfl rfl (Nat.le_of_ble_eq_true rfl) rfl dX7_text_22 ?_
    refine go_aload_n X dX7_text_25 0 rfl rfl ?_
    refine go_get X fi_X7_text_X7 0 rfl rfl 0 (by decide) fl_X7_text_60 rfl dX7_text_26 ?_
    refine go_if_le X 36 dX7_text_29 (by decide) (fun c0 => absurd c0 (by decide)) (fun _ => ?_)
    refine go_iconst X (v := 0) dX7_text_32 (by decide) ?_
    refine go_goto X 42 dX7_text_33 (by decide) ?_
    exact hR 0 1 42 _ dX7_text_42 rfl h
  · replace h := h.2 c2
    refine go_iconst X (v := 0) dX7_text_17 (by decide) ?_
    refine go_goto X 22 dX7_text_18 (by decide) ?_
    refine go_put X (ws' := [(a_o, .inr (10, [.int 0, .ref a_o_tape, .int o_taped, .int o_samples, .ref a_o_sampleLong, .ref a_o_sampleByte, .ref a_o_idOf, .ref a_o_pieces, .ref a_o_pieceLong, .ref a_o_bytesOf, .ref a_o_dictionary, .ref a_o_covered, .ref a_o_taken, .int o_takenMany, .ref a_o_row, .int o_ahead, .int o_textLong, .ref a_o_cost, .ref a_o_leastD, .ref a_o_out, .int o_outMany, .int o_items, .int o_matches, .ref a_o_text, .int o_textMany])), (a_o_text, .inl (cy 1, 200, .inl o_text))]) fi_X7_text_X7 tyX7 tyX7_ok nmX7 0 rfl rfl 0 (by decide) fl_X7_text_60 rfl (tyX7_ok 0 (by decide)) rfl rfl (Nat.le_of_ble_eq_true rfl) rfl dX7_text_22 ?_
    refine go_aload_n X dX7_text_25 0 rfl rfl ?_
    refine go_get X fi_X7_text_X7 0 rfl rfl 0 (by decide) fl_X7_text_60 rfl dX7_text_26 ?_
    refine go_if_le X 36 dX7_text_29 (by decide) (fun _ => ?_) (fun c0 => absurd c0 (by decide))
    refine go_aload_n X dX7_text_36 0 rfl rfl ?_
    refine go_get X fi_X7_text_X7 0 rfl rfl 23 (by decide) fl_X7_text_53 rfl dX7_text_37 ?_
    refine go_iload_n X dX7_text_40 1 rfl rfl ?_
    obtain ⟨c3, h⟩ := h
    refine go_iald X 1 1 rfl rfl c3 dX7_text_41 ?_
    exact hR (o_text p1.toNatClampNeg) 0 42 _ dX7_text_42 rfl h
