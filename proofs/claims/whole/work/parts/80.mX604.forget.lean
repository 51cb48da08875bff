/-! X6_forget -/
theorem fi_X6_forget_X6 : ∀ w ∈ u_ws RX6 TX6 11, w ∈ wsX6_forget := by decide +kernel
theorem fl_X6_forget_78 : Cond.fieldLink RX6 78 (TX6 10).1 (TX6 10).2.1 (TX6 10).2.2.1 ∈ wsX6_forget := by decide +kernel
def rm_X6_forget : Room := { frames := 0, cells := 0, slots := 0, locals := 0 }
theorem cd_X6_forget : yX6_forget.cls = RX6 ∧ yX6_forget.cls ≠ "java/lang/invoke/MethodHandle" ∧ yX6_forget.cls ≠ "java/lang/invoke/VarHandle" ∧ (parseMethodDescriptor yX6_forget.desc).map (fun d => d.parameters.length) = some 0 := by decide +kernel
set_option maxRecDepth 100000 in
set_option maxHeartbeats 4000000 in
theorem kX6_forget (l : Launch) (D : va_G) (cy : Nat → ClassId) (a_o : Nat) (a_o_tape : Nat) (a_o_samples : Nat) (a_o_dictionaries : Nat) (a_o_none : Nat) (a_o_trial : Nat) (a_o_opened : Nat) (a_o_output : Nat) (a_o_packer : Nat) (a_o_trainer : Nat) (a_o_opener : Nat) (o_sampleCount : Int32) (post : Int32 → Int32 → Prop) (h : wX6_forget o_sampleCount post) : MetI l yX6_forget wsX6_forget rm_X6_forget D (tyL cy) [.ref a_o] [(a_o, .inr (9, [.ref a_o_tape, .ref a_o_samples, .ref a_o_dictionaries, .ref a_o_none, .ref a_o_trial, .ref a_o_opened, .ref a_o_output, .ref a_o_packer, .ref a_o_trainer, .ref a_o_opener, .int o_sampleCount]))] (fun u : Int32 => [(a_o, .inr (9, [.ref a_o_tape, .ref a_o_samples, .ref a_o_dictionaries, .ref a_o_none, .ref a_o_trial, .ref a_o_opened, .ref a_o_output, .ref a_o_packer, .ref a_o_trainer, .ref a_o_opener, .int u]))]) (fun r => fun (u : Int32) => post r u) 0 0 := by
  refine metI_of (cc := cX6_forget) (maxL := 2) (lv := [(0, .ref a_o)]) (by decide) rfl (Nat.le_of_ble_eq_true rfl) rfl ?_
  intro p e s m below meth c Q A X hlk hR
  unfold wX6_forget at h
  refine go_aload_n X dX6_forget_0 0 rfl rfl ?_
  refine go_get X fi_X6_forget_X6 0 rfl rfl 10 (by decide) fl_X6_forget_78 rfl dX6_forget_1 ?_
  refine go_istore_n X (lv' := [(1, .int o_sampleCount), (0, .ref a_o)]) dX6_forget_4 rfl (by decide) rfl ?_
  refine go_aload_n X dX6_forget_5 1 rfl rfl ?_
  refine go_iconst X (v := 0) dX6_forget_6 (by decide) ?_
  refine go_put X (ws' := [(a_o, .inr (9, [.ref a_o_tape, .ref a_o_samples, .ref a_o_dictionaries, .ref a_o_none, .ref a_o_trial, .ref a_o_opened, .ref a_o_output, .ref a_o_packer, .ref a_o_trainer, .ref a_o_opener, .int 0]))]) fi_X6_forget_X6 tyX6 tyX6_ok nmX6 0 rfl rfl 10 (by decide) fl_X6_forget_78 rfl (tyX6_ok 10 (by decide)) rfl rfl (Nat.le_of_ble_eq_true rfl) rfl dX6_forget_7 ?_
  refine go_iload_n X dX6_forget_10 0 rfl rfl ?_
  exact hR o_sampleCount 0 11 _ dX6_forget_11 rfl h
