/-! CONSTRUCTORS -/
/-! X4_init -/
theorem fc_X4_init_o1 : Cond.methodLink RX4 1 Lib.objectInit ∈ wsX4_init := by decide +kernel
theorem fc_X4_init_oi : Cond.instanceMethod Lib.objectInit ∈ wsX4_init := by decide +kernel
theorem fc_X4_init_oc : Cond.code Lib.objectInit ⟨#[0xb1]⟩ 1 none ∈ wsX4_init := by decide +kernel
theorem fc_X4_init_max0 : Cond.methodLink RX4 7 Lib.Math.max.name ∈ wsX4_init := by decide +kernel
theorem fc_X4_init_max1 : Cond.static Lib.Math.max.name ∈ wsX4_init := by decide +kernel
theorem fc_X4_init_max2 : Cond.initialized "java/lang/Math" ∈ wsX4_init := by decide +kernel
theorem fc_X4_init_max3 : Cond.code Lib.Math.max.name Lib.Math.max.code 2 (some .int) ∈ wsX4_init := by decide +kernel
theorem fc_X4_init_aB : Cond.arrayClass .byte ∈ wsX4_init := by decide +kernel
theorem fc_X4_init_f13 : Cond.fieldLink RX4 13 (TX4 0).1 (TX4 0).2.1 (TX4 0).2.2.1 ∈ wsX4_init := by decide +kernel
theorem fi_X4_init_X4 : ∀ w ∈ u_ws RX4 TX4 2, w ∈ wsX4_init := by decide +kernel
def rm_X4_init (n : Nat) : Room := { frames := 1, cells := 1, slots := n, locals := 20 }
theorem cd_X4_init : yX4_init.cls ≠ "java/lang/invoke/MethodHandle" ∧ yX4_init.cls ≠ "java/lang/invoke/VarHandle" ∧ (parseMethodDescriptor yX4_init.desc).map (fun d => d.parameters.length) = some 1 := by decide +kernel
set_option maxRecDepth 100000 in
set_option maxHeartbeats 4000000 in
theorem kX4_init (l : Launch) (D : va_G) (cy : Nat → ClassId) (a_o : Nat) (n : Nat) (hn : n < 100000) : MetV l yX4_init wsX4_init (rm_X4_init n) D (tyL cy) [.ref a_o, .int (nI n)] [(a_o, .inr (7, [.null, .int 0]))] (fun u : Nat => [(a_o, .inr (7, [.ref u, .int 0])), (u, .inl (cy 0, n, .inl (fun _ => 0)))]) (fun _ => True) 1 n := by
  refine metV_of (cc := cX4_init) (maxL := 2) (lv := [(0, .ref a_o), (1, .int (nI n))]) (by decide) rfl (Nat.le_of_ble_eq_true rfl) rfl ?_
  intro p e s m below meth c Q A X hlk hnm hR
  refine go_aload_n X dX4_init_0 0 rfl rfl ?_
  refine go_objInit X fc_X4_init_o1 fc_X4_init_oi fc_X4_init_oc dX4_init_1 (Nat.le_of_ble_eq_true rfl) (Nat.le_of_ble_eq_true rfl) ?_
  refine go_aload_n X dX4_init_4 0 rfl rfl ?_
  refine go_iload_n X dX4_init_5 1 rfl rfl ?_
  refine go_iconst X (v := 0) dX4_init_6 (by decide) ?_
  refine go_mmax X fc_X4_init_max0 fc_X4_init_max1 fc_X4_init_max2 fc_X4_init_max3 (Nat.le_of_ble_eq_true rfl) (Nat.le_of_ble_eq_true rfl) ⟨Nat.zero_le _, Nat.zero_le _⟩ dX4_init_7 ?_
  refine go_top (y := .int (nI n)) (congrArg Value.int (if_neg (nI_pos (by omega)))) ?_
  refine go_newa X (atype := .byte) (ty := .byte) rfl fc_X4_init_aB 0 rfl ra_byte (a0 := (n, .inl (fun _ => 0))) (fun _ => rfl) (nI_pos (by omega)) (nI_clamp (by omega)) (by show n * 1 ≤ 536870912; omega) (Nat.le_of_ble_eq_true rfl) (by show 0 + n ≤ n; omega) dX4_init_10 (fun q10 => ?_)
  refine go_putF X (ws' := [(a_o, .inr (7, [.ref q10, .int 0])), (q10, .inl (cy 0, n, .inl (fun _ => 0)))]) fi_X4_init_X4 tyX4 tyX4_ok nmX4 0 rfl rfl 0 (by decide) fc_X4_init_f13 rfl hnm rfl (tyX4_ok 0 (by decide)) rfl rfl (Nat.le_of_ble_eq_true rfl) rfl dX4_init_12 ?_
  refine go_perm (ws' := [(a_o, .inr (7, [.ref q10, .int 0])), (q10, .inl (cy 0, n, .inl (fun _ => 0)))]) (perm_ix 2 [0, 1] rfl (by decide +kernel) rfl) ?_
  refine go_widen (k := 1) (n := n) (by decide) (by omega) ?_
  exact hR q10 15 _ dX4_init_15 trivial
/-! X0_init -/
theorem fc_X0_init_o3 : Cond.methodLink RX0 3 Lib.objectInit ∈ wsX0_init := by decide +kernel
theorem fc_X0_init_oi : Cond.instanceMethod Lib.objectInit ∈ wsX0_init := by decide +kernel
theorem fc_X0_init_oc : Cond.code Lib.objectInit ⟨#[0xb1]⟩ 1 none ∈ wsX0_init := by decide +kernel
theorem fi_X0_init_X4 : ∀ w ∈ u_ws RX4 TX4 2, w ∈ wsX0_init := by decide +kernel
theorem fc_X0_init_c9 : Cond.classLink RX0 9 RX4 ∈ wsX0_init := by decide +kernel
theorem fc_X0_init_tX4 : Cond.instantiable RX4 2 ∈ wsX0_init := by decide +kernel
theorem fc_X0_init_zX4 : Cond.initialized RX4 ∈ wsX0_init := by decide +kernel
theorem fc_X0_init_l11 : Cond.methodLink RX0 11 yX4_init ∈ wsX0_init := by decide +kernel
theorem fc_X0_init_nX4 : Cond.instanceMethod yX4_init ∈ wsX0_init := by decide +kernel
theorem fc_X0_init_f14 : Cond.fieldLink RX0 14 (TX0 0).1 (TX0 0).2.1 (TX0 0).2.2.1 ∈ wsX0_init := by decide +kernel
theorem fi_X0_init_X0 : ∀ w ∈ u_ws RX0 TX0 4, w ∈ wsX0_init := by decide +kernel
def rm_X0_init : Room := { frames := 2, cells := 2, slots := 82, locals := 41 }
theorem cd_X0_init : yX0_init.cls ≠ "java/lang/invoke/MethodHandle" ∧ yX0_init.cls ≠ "java/lang/invoke/VarHandle" ∧ (parseMethodDescriptor yX0_init.desc).map (fun d => d.parameters.length) = some 0 := by decide +kernel
set_option maxRecDepth 100000 in
set_option maxHeartbeats 4000000 in
theorem kX0_init (l : Launch) (D : va_G) (cy : Nat → ClassId) (a_o : Nat) : MetV l yX0_init wsX0_init rm_X0_init D (tyL cy) [.ref a_o] [(a_o, .inr (3, [.null, .int 0, .int 0, .int 0]))] (fun u : (Nat → Nat) => [(a_o, .inr (3, [.ref ((u 0)), .int 0, .int 0, .int 0])), ((u 0), .inr (7, [.ref ((u 1)), .int 0])), ((u 1), .inl (cy 0, 80, .inl (fun _ => 0)))]) (fun _ => True) 2 82 := by
  refine metV_of (cc := cX0_init) (maxL := 1) (lv := [(0, .ref a_o)]) (by decide) rfl (Nat.le_of_ble_eq_true rfl) rfl ?_
  intro p e s m below meth c Q A X hlk hnm hR
  refine go_aload_n X dX0_init_0 0 rfl rfl ?_
  refine go_objInit X fc_X0_init_o3 fc_X0_init_oi fc_X0_init_oc dX0_init_1 (Nat.le_of_ble_eq_true rfl) (Nat.le_of_ble_eq_true rfl) ?_
  refine go_aload_n X dX0_init_4 0 rfl rfl ?_
  refine go_new X (ci := 7) (fs := [.null, .int 0]) fi_X0_init_X4 tyX4 tyX4_ok fc_X0_init_c9 fc_X0_init_tX4 fc_X0_init_zX4 rfl (by decide) (by decide) (by decide) dX0_init_5 (fun q5 => ?_)
  refine go_dup X dX0_init_8 rfl ?_
  refine go_bipush X (v := 80) dX0_init_9 (by decide) ?_
  refine go_top (x := .int 80) (y := .int (nI 80)) rfl ?_
  refine go_callPv X (rest := [.ref q5, .ref a_o]) (kX4_init l D cy q5 80 (by decide) ) (cwI 1 X.2.2.2.2.1 gX0_init_X4_init rfl rfl rfl (X.2.2.2.2.1 _ fc_X0_init_zX4) (X.2.2.2.2.1 _ fc_X0_init_l11) (X.2.2.2.2.1 _ fc_X0_init_nX4) rfl cd_X4_init ⟨by decide, by decide⟩) (wr := [(a_o, .inr (3, [.null, .int 0, .int 0, .int 0]))]) (ws2 := fun u => [(q5, .inr (7, [.ref u, .int 0])), (u, .inl (cy 0, 80, .inl (fun _ => 0))), (a_o, .inr (3, [.null, .int 0, .int 0, .int 0]))]) (perm_ix 2 [1, 0] rfl (by decide +kernel) rfl) (fun u => List.Perm.refl _) rfl rfl (Nat.le_of_ble_eq_true rfl) dX0_init_11 ⟨by decide, by decide⟩ (fun u _ => ?_)
  obtain ⟨q11_0, rfl⟩ : ∃ z, z = u := ⟨_, rfl⟩
  refine go_putF X (ws' := [(q5, .inr (7, [.ref q11_0, .int 0])), (q11_0, .inl (cy 0, 80, .inl (fun _ => 0))), (a_o, .inr (3, [.ref q5, .int 0, .int 0, .int 0]))]) fi_X0_init_X0 tyX0 tyX0_ok nmX0 2 rfl rfl 0 (by decide) fc_X0_init_f14 rfl hnm rfl (tyX0_ok 0 (by decide)) rfl rfl (Nat.le_of_ble_eq_true rfl) rfl dX0_init_14 ?_
  refine go_perm (ws' := [(a_o, .inr (3, [.ref q5, .int 0, .int 0, .int 0])), (q5, .inr (7, [.ref q11_0, .int 0])), (q11_0, .inl (cy 0, 80, .inl (fun _ => 0)))]) (perm_ix 3 [2, 0, 1] rfl (by decide +kernel) rfl) ?_
  refine go_widen (k := 2) (n := 82) (by decide) (by decide) ?_
  exact hR (fun k => [q5, q11_0].getD k 0) 17 _ dX0_init_17 trivial
/-! X1_init -/
theorem fc_X1_init_o3 : Cond.methodLink RX1 3 Lib.objectInit ∈ wsX1_init := by decide +kernel
theorem fc_X1_init_oi : Cond.instanceMethod Lib.objectInit ∈ wsX1_init := by decide +kernel
theorem fc_X1_init_oc : Cond.code Lib.objectInit ⟨#[0xb1]⟩ 1 none ∈ wsX1_init := by decide +kernel
theorem fi_X1_init_X4 : ∀ w ∈ u_ws RX4 TX4 2, w ∈ wsX1_init := by decide +kernel
theorem fc_X1_init_c9 : Cond.classLink RX1 9 RX4 ∈ wsX1_init := by decide +kernel
theorem fc_X1_init_tX4 : Cond.instantiable RX4 2 ∈ wsX1_init := by decide +kernel
theorem fc_X1_init_zX4 : Cond.initialized RX4 ∈ wsX1_init := by decide +kernel
theorem fc_X1_init_l11 : Cond.methodLink RX1 11 yX4_init ∈ wsX1_init := by decide +kernel
theorem fc_X1_init_nX4 : Cond.instanceMethod yX4_init ∈ wsX1_init := by decide +kernel
theorem fc_X1_init_f14 : Cond.fieldLink RX1 14 (TX1 0).1 (TX1 0).2.1 (TX1 0).2.2.1 ∈ wsX1_init := by decide +kernel
theorem fi_X1_init_X1 : ∀ w ∈ u_ws RX1 TX1 4, w ∈ wsX1_init := by decide +kernel
def rm_X1_init : Room := { frames := 2, cells := 2, slots := 282, locals := 41 }
theorem cd_X1_init : yX1_init.cls ≠ "java/lang/invoke/MethodHandle" ∧ yX1_init.cls ≠ "java/lang/invoke/VarHandle" ∧ (parseMethodDescriptor yX1_init.desc).map (fun d => d.parameters.length) = some 0 := by decide +kernel
set_option maxRecDepth 100000 in
set_option maxHeartbeats 4000000 in
theorem kX1_init (l : Launch) (D : va_G) (cy : Nat → ClassId) (a_o : Nat) : MetV l yX1_init wsX1_init rm_X1_init D (tyL cy) [.ref a_o] [(a_o, .inr (4, [.null, .int 0, .int 0, .int 0]))] (fun u : (Nat → Nat) => [(a_o, .inr (4, [.ref ((u 0)), .int 0, .int 0, .int 0])), ((u 0), .inr (7, [.ref ((u 1)), .int 0])), ((u 1), .inl (cy 0, 280, .inl (fun _ => 0)))]) (fun _ => True) 2 282 := by
  refine metV_of (cc := cX1_init) (maxL := 1) (lv := [(0, .ref a_o)]) (by decide) rfl (Nat.le_of_ble_eq_true rfl) rfl ?_
  intro p e s m below meth c Q A X hlk hnm hR
  refine go_aload_n X dX1_init_0 0 rfl rfl ?_
  refine go_objInit X fc_X1_init_o3 fc_X1_init_oi fc_X1_init_oc dX1_init_1 (Nat.le_of_ble_eq_true rfl) (Nat.le_of_ble_eq_true rfl) ?_
  refine go_aload_n X dX1_init_4 0 rfl rfl ?_
  refine go_new X (ci := 7) (fs := [.null, .int 0]) fi_X1_init_X4 tyX4 tyX4_ok fc_X1_init_c9 fc_X1_init_tX4 fc_X1_init_zX4 rfl (by decide) (by decide) (by decide) dX1_init_5 (fun q5 => ?_)
  refine go_dup X dX1_init_8 rfl ?_
  refine go_sipush X (v := 280) dX1_init_9 (by decide) ?_
  refine go_top (x := .int 280) (y := .int (nI 280)) rfl ?_
  refine go_callPv X (rest := [.ref q5, .ref a_o]) (kX4_init l D cy q5 280 (by decide) ) (cwI 1 X.2.2.2.2.1 gX1_init_X4_init rfl rfl rfl (X.2.2.2.2.1 _ fc_X1_init_zX4) (X.2.2.2.2.1 _ fc_X1_init_l11) (X.2.2.2.2.1 _ fc_X1_init_nX4) rfl cd_X4_init ⟨by decide, by decide⟩) (wr := [(a_o, .inr (4, [.null, .int 0, .int 0, .int 0]))]) (ws2 := fun u => [(q5, .inr (7, [.ref u, .int 0])), (u, .inl (cy 0, 280, .inl (fun _ => 0))), (a_o, .inr (4, [.null, .int 0, .int 0, .int 0]))]) (perm_ix 2 [1, 0] rfl (by decide +kernel) rfl) (fun u => List.Perm.refl _) rfl rfl (Nat.le_of_ble_eq_true rfl) dX1_init_12 ⟨by decide, by decide⟩ (fun u _ => ?_)
  obtain ⟨q12_0, rfl⟩ : ∃ z, z = u := ⟨_, rfl⟩
  refine go_putF X (ws' := [(q5, .inr (7, [.ref q12_0, .int 0])), (q12_0, .inl (cy 0, 280, .inl (fun _ => 0))), (a_o, .inr (4, [.ref q5, .int 0, .int 0, .int 0]))]) fi_X1_init_X1 tyX1 tyX1_ok nmX1 2 rfl rfl 0 (by decide) fc_X1_init_f14 rfl hnm rfl (tyX1_ok 0 (by decide)) rfl rfl (Nat.le_of_ble_eq_true rfl) rfl dX1_init_15 ?_
  refine go_perm (ws' := [(a_o, .inr (4, [.ref q5, .int 0, .int 0, .int 0])), (q5, .inr (7, [.ref q12_0, .int 0])), (q12_0, .inl (cy 0, 280, .inl (fun _ => 0)))]) (perm_ix 3 [2, 0, 1] rfl (by decide +kernel) rfl) ?_
  refine go_widen (k := 2) (n := 282) (by decide) (by decide) ?_
  exact hR (fun k => [q5, q12_0].getD k 0) 18 _ dX1_init_18 trivial
/-! X2_init -/
theorem fc_X2_init_o3 : Cond.methodLink RX2 3 Lib.objectInit ∈ wsX2_init := by decide +kernel
theorem fc_X2_init_oi : Cond.instanceMethod Lib.objectInit ∈ wsX2_init := by decide +kernel
theorem fc_X2_init_oc : Cond.code Lib.objectInit ⟨#[0xb1]⟩ 1 none ∈ wsX2_init := by decide +kernel
theorem fi_X2_init_X4 : ∀ w ∈ u_ws RX4 TX4 2, w ∈ wsX2_init := by decide +kernel
theorem fc_X2_init_c9 : Cond.classLink RX2 9 RX4 ∈ wsX2_init := by decide +kernel
theorem fc_X2_init_tX4 : Cond.instantiable RX4 2 ∈ wsX2_init := by decide +kernel
theorem fc_X2_init_zX4 : Cond.initialized RX4 ∈ wsX2_init := by decide +kernel
theorem fc_X2_init_l11 : Cond.methodLink RX2 11 yX4_init ∈ wsX2_init := by decide +kernel
theorem fc_X2_init_nX4 : Cond.instanceMethod yX4_init ∈ wsX2_init := by decide +kernel
theorem fc_X2_init_f14 : Cond.fieldLink RX2 14 (TX2 0).1 (TX2 0).2.1 (TX2 0).2.2.1 ∈ wsX2_init := by decide +kernel
theorem fi_X2_init_X2 : ∀ w ∈ u_ws RX2 TX2 3, w ∈ wsX2_init := by decide +kernel
def rm_X2_init : Room := { frames := 2, cells := 2, slots := 213, locals := 41 }
theorem cd_X2_init : yX2_init.cls ≠ "java/lang/invoke/MethodHandle" ∧ yX2_init.cls ≠ "java/lang/invoke/VarHandle" ∧ (parseMethodDescriptor yX2_init.desc).map (fun d => d.parameters.length) = some 0 := by decide +kernel
set_option maxRecDepth 100000 in
set_option maxHeartbeats 4000000 in
theorem kX2_init (l : Launch) (D : va_G) (cy : Nat → ClassId) (a_o : Nat) : MetV l yX2_init wsX2_init rm_X2_init D (tyL cy) [.ref a_o] [(a_o, .inr (5, [.null, .int 0, .int 0]))] (fun u : (Nat → Nat) => [(a_o, .inr (5, [.ref ((u 0)), .int 0, .int 0])), ((u 0), .inr (7, [.ref ((u 1)), .int 0])), ((u 1), .inl (cy 0, 211, .inl (fun _ => 0)))]) (fun _ => True) 2 213 := by
  refine metV_of (cc := cX2_init) (maxL := 1) (lv := [(0, .ref a_o)]) (by decide) rfl (Nat.le_of_ble_eq_true rfl) rfl ?_
  intro p e s m below meth c Q A X hlk hnm hR
  refine go_aload_n X dX2_init_0 0 rfl rfl ?_
  refine go_objInit X fc_X2_init_o3 fc_X2_init_oi fc_X2_init_oc dX2_init_1 (Nat.le_of_ble_eq_true rfl) (Nat.le_of_ble_eq_true rfl) ?_
  refine go_aload_n X dX2_init_4 0 rfl rfl ?_
  refine go_new X (ci := 7) (fs := [.null, .int 0]) fi_X2_init_X4 tyX4 tyX4_ok fc_X2_init_c9 fc_X2_init_tX4 fc_X2_init_zX4 rfl (by decide) (by decide) (by decide) dX2_init_5 (fun q5 => ?_)
  refine go_dup X dX2_init_8 rfl ?_
  refine go_sipush X (v := 211) dX2_init_9 (by decide) ?_
  refine go_top (x := .int 211) (y := .int (nI 211)) rfl ?_
  refine go_callPv X (rest := [.ref q5, .ref a_o]) (kX4_init l D cy q5 211 (by decide) ) (cwI 1 X.2.2.2.2.1 gX2_init_X4_init rfl rfl rfl (X.2.2.2.2.1 _ fc_X2_init_zX4) (X.2.2.2.2.1 _ fc_X2_init_l11) (X.2.2.2.2.1 _ fc_X2_init_nX4) rfl cd_X4_init ⟨by decide, by decide⟩) (wr := [(a_o, .inr (5, [.null, .int 0, .int 0]))]) (ws2 := fun u => [(q5, .inr (7, [.ref u, .int 0])), (u, .inl (cy 0, 211, .inl (fun _ => 0))), (a_o, .inr (5, [.null, .int 0, .int 0]))]) (perm_ix 2 [1, 0] rfl (by decide +kernel) rfl) (fun u => List.Perm.refl _) rfl rfl (Nat.le_of_ble_eq_true rfl) dX2_init_12 ⟨by decide, by decide⟩ (fun u _ => ?_)
  obtain ⟨q12_0, rfl⟩ : ∃ z, z = u := ⟨_, rfl⟩
  refine go_putF X (ws' := [(q5, .inr (7, [.ref q12_0, .int 0])), (q12_0, .inl (cy 0, 211, .inl (fun _ => 0))), (a_o, .inr (5, [.ref q5, .int 0, .int 0]))]) fi_X2_init_X2 tyX2 tyX2_ok nmX2 2 rfl rfl 0 (by decide) fc_X2_init_f14 rfl hnm rfl (tyX2_ok 0 (by decide)) rfl rfl (Nat.le_of_ble_eq_true rfl) rfl dX2_init_15 ?_
  refine go_perm (ws' := [(a_o, .inr (5, [.ref q5, .int 0, .int 0])), (q5, .inr (7, [.ref q12_0, .int 0])), (q12_0, .inl (cy 0, 211, .inl (fun _ => 0)))]) (perm_ix 3 [2, 0, 1] rfl (by decide +kernel) rfl) ?_
  refine go_widen (k := 2) (n := 213) (by decide) (by decide) ?_
  exact hR (fun k => [q5, q12_0].getD k 0) 18 _ dX2_init_18 trivial
/-! X3_init -/
theorem fc_X3_init_o3 : Cond.methodLink RX3 3 Lib.objectInit ∈ wsX3_init := by decide +kernel
theorem fc_X3_init_oi : Cond.instanceMethod Lib.objectInit ∈ wsX3_init := by decide +kernel
theorem fc_X3_init_oc : Cond.code Lib.objectInit ⟨#[0xb1]⟩ 1 none ∈ wsX3_init := by decide +kernel
theorem fc_X3_init_aB : Cond.arrayClass .byte ∈ wsX3_init := by decide +kernel
theorem fc_X3_init_f9 : Cond.fieldLink RX3 9 (TX3 0).1 (TX3 0).2.1 (TX3 0).2.2.1 ∈ wsX3_init := by decide +kernel
theorem fi_X3_init_X3 : ∀ w ∈ u_ws RX3 TX3 7, w ∈ wsX3_init := by decide +kernel
theorem fc_X3_init_aI : Cond.arrayClass .int ∈ wsX3_init := by decide +kernel
theorem fc_X3_init_f15 : Cond.fieldLink RX3 15 (TX3 1).1 (TX3 1).2.1 (TX3 1).2.2.1 ∈ wsX3_init := by decide +kernel
theorem fc_X3_init_f19 : Cond.fieldLink RX3 19 (TX3 2).1 (TX3 2).2.1 (TX3 2).2.2.1 ∈ wsX3_init := by decide +kernel
theorem fc_X3_init_f22 : Cond.fieldLink RX3 22 (TX3 3).1 (TX3 3).2.1 (TX3 3).2.2.1 ∈ wsX3_init := by decide +kernel
theorem fc_X3_init_f25 : Cond.fieldLink RX3 25 (TX3 4).1 (TX3 4).2.1 (TX3 4).2.2.1 ∈ wsX3_init := by decide +kernel
def rm_X3_init : Room := { frames := 1, cells := 5, slots := 1217, locals := 20 }
theorem cd_X3_init : yX3_init.cls ≠ "java/lang/invoke/MethodHandle" ∧ yX3_init.cls ≠ "java/lang/invoke/VarHandle" ∧ (parseMethodDescriptor yX3_init.desc).map (fun d => d.parameters.length) = some 0 := by decide +kernel
set_option maxRecDepth 100000 in
set_option maxHeartbeats 4000000 in
theorem kX3_init (l : Launch) (D : va_G) (cy : Nat → ClassId) (a_o : Nat) : MetV l yX3_init wsX3_init rm_X3_init D (tyL cy) [.ref a_o] [(a_o, .inr (6, [.null, .null, .null, .null, .null, .int 0, .int 0]))] (fun u : (Nat → Nat) => [(a_o, .inr (6, [.ref ((u 0)), .ref ((u 1)), .ref ((u 2)), .ref ((u 3)), .ref ((u 4)), .int 0, .int 0])), ((u 0), .inl (cy 0, 280, .inl (fun _ => 0))), ((u 1), .inl (cy 1, 280, .inl (fun _ => 0))), ((u 2), .inl (cy 1, 256, .inl (fun _ => 0))), ((u 3), .inl (cy 1, 201, .inl (fun _ => 0))), ((u 4), .inl (cy 1, 200, .inl (fun _ => 0)))]) (fun _ => True) 5 1217 := by
  refine metV_of (cc := cX3_init) (maxL := 1) (lv := [(0, .ref a_o)]) (by decide) rfl (Nat.le_of_ble_eq_true rfl) rfl ?_
  intro p e s m below meth c Q A X hlk hnm hR
  refine go_aload_n X dX3_init_0 0 rfl rfl ?_
  refine go_objInit X fc_X3_init_o3 fc_X3_init_oi fc_X3_init_oc dX3_init_1 (Nat.le_of_ble_eq_true rfl) (Nat.le_of_ble_eq_true rfl) ?_
  refine go_aload_n X dX3_init_4 0 rfl rfl ?_
  refine go_sipush X (v := 280) dX3_init_5 (by decide) ?_
  refine go_newa X (atype := .byte) (ty := .byte) rfl fc_X3_init_aB 0 rfl ra_byte (a0 := (280, .inl (fun _ => 0))) (fun _ => rfl) (by decide) (by decide) (by decide) (Nat.le_of_ble_eq_true rfl) (by decide) dX3_init_8 (fun q8 => ?_)
  refine go_putF X (ws' := [(a_o, .inr (6, [.ref q8, .null, .null, .null, .null, .int 0, .int 0])), (q8, .inl (cy 0, 280, .inl (fun _ => 0)))]) fi_X3_init_X3 tyX3 tyX3_ok nmX3 0 rfl rfl 0 (by decide) fc_X3_init_f9 rfl hnm rfl (tyX3_ok 0 (by decide)) rfl rfl (Nat.le_of_ble_eq_true rfl) rfl dX3_init_10 ?_
  refine go_aload_n X dX3_init_13 0 rfl rfl ?_
  refine go_sipush X (v := 280) dX3_init_14 (by decide) ?_
  refine go_newa X (atype := .int) (ty := .int) rfl fc_X3_init_aI 1 rfl ra_int (a0 := (280, .inl (fun _ => 0))) (fun _ => rfl) (by decide) (by decide) (by decide) (Nat.le_of_ble_eq_true rfl) (by decide) dX3_init_17 (fun q17 => ?_)
  refine go_putF X (ws' := [(a_o, .inr (6, [.ref q8, .ref q17, .null, .null, .null, .int 0, .int 0])), (q8, .inl (cy 0, 280, .inl (fun _ => 0))), (q17, .inl (cy 1, 280, .inl (fun _ => 0)))]) fi_X3_init_X3 tyX3 tyX3_ok nmX3 0 rfl rfl 1 (by decide) fc_X3_init_f15 rfl hnm rfl (tyX3_ok 1 (by decide)) rfl rfl (Nat.le_of_ble_eq_true rfl) rfl dX3_init_19 ?_
  refine go_aload_n X dX3_init_22 0 rfl rfl ?_
  refine go_sipush X (v := 256) dX3_init_23 (by decide) ?_
  refine go_newa X (atype := .int) (ty := .int) rfl fc_X3_init_aI 1 rfl ra_int (a0 := (256, .inl (fun _ => 0))) (fun _ => rfl) (by decide) (by decide) (by decide) (Nat.le_of_ble_eq_true rfl) (by decide) dX3_init_26 (fun q26 => ?_)
  refine go_putF X (ws' := [(a_o, .inr (6, [.ref q8, .ref q17, .ref q26, .null, .null, .int 0, .int 0])), (q8, .inl (cy 0, 280, .inl (fun _ => 0))), (q17, .inl (cy 1, 280, .inl (fun _ => 0))), (q26, .inl (cy 1, 256, .inl (fun _ => 0)))]) fi_X3_init_X3 tyX3 tyX3_ok nmX3 0 rfl rfl 2 (by decide) fc_X3_init_f19 rfl hnm rfl (tyX3_ok 2 (by decide)) rfl rfl (Nat.le_of_ble_eq_true rfl) rfl dX3_init_28 ?_
  refine go_aload_n X dX3_init_31 0 rfl rfl ?_
  refine go_sipush X (v := 201) dX3_init_32 (by decide) ?_
  refine go_newa X (atype := .int) (ty := .int) rfl fc_X3_init_aI 1 rfl ra_int (a0 := (201, .inl (fun _ => 0))) (fun _ => rfl) (by decide) (by decide) (by decide) (Nat.le_of_ble_eq_true rfl) (by decide) dX3_init_35 (fun q35 => ?_)
  refine go_putF X (ws' := [(a_o, .inr (6, [.ref q8, .ref q17, .ref q26, .ref q35, .null, .int 0, .int 0])), (q8, .inl (cy 0, 280, .inl (fun _ => 0))), (q17, .inl (cy 1, 280, .inl (fun _ => 0))), (q26, .inl (cy 1, 256, .inl (fun _ => 0))), (q35, .inl (cy 1, 201, .inl (fun _ => 0)))]) fi_X3_init_X3 tyX3 tyX3_ok nmX3 0 rfl rfl 3 (by decide) fc_X3_init_f22 rfl hnm rfl (tyX3_ok 3 (by decide)) rfl rfl (Nat.le_of_ble_eq_true rfl) rfl dX3_init_37 ?_
  refine go_aload_n X dX3_init_40 0 rfl rfl ?_
  refine go_sipush X (v := 200) dX3_init_41 (by decide) ?_
  refine go_newa X (atype := .int) (ty := .int) rfl fc_X3_init_aI 1 rfl ra_int (a0 := (200, .inl (fun _ => 0))) (fun _ => rfl) (by decide) (by decide) (by decide) (Nat.le_of_ble_eq_true rfl) (by decide) dX3_init_44 (fun q44 => ?_)
  refine go_putF X (ws' := [(a_o, .inr (6, [.ref q8, .ref q17, .ref q26, .ref q35, .ref q44, .int 0, .int 0])), (q8, .inl (cy 0, 280, .inl (fun _ => 0))), (q17, .inl (cy 1, 280, .inl (fun _ => 0))), (q26, .inl (cy 1, 256, .inl (fun _ => 0))), (q35, .inl (cy 1, 201, .inl (fun _ => 0))), (q44, .inl (cy 1, 200, .inl (fun _ => 0)))]) fi_X3_init_X3 tyX3 tyX3_ok nmX3 0 rfl rfl 4 (by decide) fc_X3_init_f25 rfl hnm rfl (tyX3_ok 4 (by decide)) rfl rfl (Nat.le_of_ble_eq_true rfl) rfl dX3_init_46 ?_
  refine go_perm (ws' := [(a_o, .inr (6, [.ref q8, .ref q17, .ref q26, .ref q35, .ref q44, .int 0, .int 0])), (q8, .inl (cy 0, 280, .inl (fun _ => 0))), (q17, .inl (cy 1, 280, .inl (fun _ => 0))), (q26, .inl (cy 1, 256, .inl (fun _ => 0))), (q35, .inl (cy 1, 201, .inl (fun _ => 0))), (q44, .inl (cy 1, 200, .inl (fun _ => 0)))]) (perm_ix 6 [0, 1, 2, 3, 4, 5] rfl (by decide +kernel) rfl) ?_
  refine go_widen (k := 5) (n := 1217) (by decide) (by decide) ?_
  exact hR (fun k => [q8, q17, q26, q35, q44].getD k 0) 49 _ dX3_init_49 trivial
/-! X5_init -/
theorem fc_X5_init_o3 : Cond.methodLink RX5 3 Lib.objectInit ∈ wsX5_init := by decide +kernel
theorem fc_X5_init_oi : Cond.instanceMethod Lib.objectInit ∈ wsX5_init := by decide +kernel
theorem fc_X5_init_oc : Cond.code Lib.objectInit ⟨#[0xb1]⟩ 1 none ∈ wsX5_init := by decide +kernel
theorem fi_X5_init_X4 : ∀ w ∈ u_ws RX4 TX4 2, w ∈ wsX5_init := by decide +kernel
theorem fc_X5_init_c9 : Cond.classLink RX5 9 RX4 ∈ wsX5_init := by decide +kernel
theorem fc_X5_init_tX4 : Cond.instantiable RX4 2 ∈ wsX5_init := by decide +kernel
theorem fc_X5_init_zX4 : Cond.initialized RX4 ∈ wsX5_init := by decide +kernel
theorem fc_X5_init_l13 : Cond.methodLink RX5 13 yX4_init ∈ wsX5_init := by decide +kernel
theorem fc_X5_init_nX4 : Cond.instanceMethod yX4_init ∈ wsX5_init := by decide +kernel
theorem fc_X5_init_f16 : Cond.fieldLink RX5 16 (TX5 0).1 (TX5 0).2.1 (TX5 0).2.2.1 ∈ wsX5_init := by decide +kernel
theorem fi_X5_init_X5 : ∀ w ∈ u_ws RX5 TX5 8, w ∈ wsX5_init := by decide +kernel
theorem fc_X5_init_aZ : Cond.arrayClass .boolean ∈ wsX5_init := by decide +kernel
theorem fc_X5_init_f20 : Cond.fieldLink RX5 20 (TX5 1).1 (TX5 1).2.1 (TX5 1).2.2.1 ∈ wsX5_init := by decide +kernel
theorem fc_X5_init_aI : Cond.arrayClass .int ∈ wsX5_init := by decide +kernel
theorem fc_X5_init_f24 : Cond.fieldLink RX5 24 (TX5 2).1 (TX5 2).2.1 (TX5 2).2.2.1 ∈ wsX5_init := by decide +kernel
theorem fc_X5_init_f28 : Cond.fieldLink RX5 28 (TX5 3).1 (TX5 3).2.1 (TX5 3).2.2.1 ∈ wsX5_init := by decide +kernel
theorem fc_X5_init_f31 : Cond.fieldLink RX5 31 (TX5 4).1 (TX5 4).2.1 (TX5 4).2.2.1 ∈ wsX5_init := by decide +kernel
theorem fc_X5_init_f34 : Cond.fieldLink RX5 34 (TX5 5).1 (TX5 5).2.1 (TX5 5).2.2.1 ∈ wsX5_init := by decide +kernel
def rm_X5_init : Room := { frames := 2, cells := 7, slots := 1628, locals := 41 }
theorem cd_X5_init : yX5_init.cls ≠ "java/lang/invoke/MethodHandle" ∧ yX5_init.cls ≠ "java/lang/invoke/VarHandle" ∧ (parseMethodDescriptor yX5_init.desc).map (fun d => d.parameters.length) = some 0 := by decide +kernel
set_option maxRecDepth 100000 in
set_option maxHeartbeats 4000000 in
theorem kX5_init (l : Launch) (D : va_G) (cy : Nat → ClassId) (a_o : Nat) : MetV l yX5_init wsX5_init rm_X5_init D (tyL cy) [.ref a_o] [(a_o, .inr (8, [.null, .null, .null, .null, .null, .null, .int 0, .int 0]))] (fun u : (Nat → Nat) => [(a_o, .inr (8, [.ref ((u 0)), .ref ((u 2)), .ref ((u 3)), .ref ((u 4)), .ref ((u 5)), .ref ((u 6)), .int 0, .int 0])), ((u 0), .inr (7, [.ref ((u 1)), .int 0])), ((u 1), .inl (cy 0, 320, .inl (fun _ => 0))), ((u 2), .inl (cy 2, 320, .inl (fun _ => 0))), ((u 3), .inl (cy 1, 320, .inl (fun _ => 0))), ((u 4), .inl (cy 1, 320, .inl (fun _ => 0))), ((u 5), .inl (cy 1, 320, .inl (fun _ => 0))), ((u 6), .inl (cy 1, 26, .inl (fun _ => 0)))]) (fun _ => True) 7 1628 := by
  refine metV_of (cc := cX5_init) (maxL := 1) (lv := [(0, .ref a_o)]) (by decide) rfl (Nat.le_of_ble_eq_true rfl) rfl ?_
  intro p e s m below meth c Q A X hlk hnm hR
  refine go_aload_n X dX5_init_0 0 rfl rfl ?_
  refine go_objInit X fc_X5_init_o3 fc_X5_init_oi fc_X5_init_oc dX5_init_1 (Nat.le_of_ble_eq_true rfl) (Nat.le_of_ble_eq_true rfl) ?_
  refine go_aload_n X dX5_init_4 0 rfl rfl ?_
  refine go_new X (ci := 7) (fs := [.null, .int 0]) fi_X5_init_X4 tyX4 tyX4_ok fc_X5_init_c9 fc_X5_init_tX4 fc_X5_init_zX4 rfl (by decide) (by decide) (by decide) dX5_init_5 (fun q5 => ?_)
  refine go_dup X dX5_init_8 rfl ?_
  refine go_sipush X (v := 320) dX5_init_9 (by decide) ?_
  refine go_top (x := .int 320) (y := .int (nI 320)) rfl ?_
  refine go_callPv X (rest := [.ref q5, .ref a_o]) (kX4_init l D cy q5 320 (by decide) ) (cwI 1 X.2.2.2.2.1 gX5_init_X4_init rfl rfl rfl (X.2.2.2.2.1 _ fc_X5_init_zX4) (X.2.2.2.2.1 _ fc_X5_init_l13) (X.2.2.2.2.1 _ fc_X5_init_nX4) rfl cd_X4_init ⟨by decide, by decide⟩) (wr := [(a_o, .inr (8, [.null, .null, .null, .null, .null, .null, .int 0, .int 0]))]) (ws2 := fun u => [(q5, .inr (7, [.ref u, .int 0])), (u, .inl (cy 0, 320, .inl (fun _ => 0))), (a_o, .inr (8, [.null, .null, .null, .null, .null, .null, .int 0, .int 0]))]) (perm_ix 2 [1, 0] rfl (by decide +kernel) rfl) (fun u => List.Perm.refl _) rfl rfl (Nat.le_of_ble_eq_true rfl) dX5_init_12 ⟨by decide, by decide⟩ (fun u _ => ?_)
  obtain ⟨q12_0, rfl⟩ : ∃ z, z = u := ⟨_, rfl⟩
  refine go_putF X (ws' := [(q5, .inr (7, [.ref q12_0, .int 0])), (q12_0, .inl (cy 0, 320, .inl (fun _ => 0))), (a_o, .inr (8, [.ref q5, .null, .null, .null, .null, .null, .int 0, .int 0]))]) fi_X5_init_X5 tyX5 tyX5_ok nmX5 2 rfl rfl 0 (by decide) fc_X5_init_f16 rfl hnm rfl (tyX5_ok 0 (by decide)) rfl rfl (Nat.le_of_ble_eq_true rfl) rfl dX5_init_15 ?_
  refine go_aload_n X dX5_init_18 0 rfl rfl ?_
  refine go_sipush X (v := 320) dX5_init_19 (by decide) ?_
  refine go_newa X (atype := .boolean) (ty := .boolean) rfl fc_X5_init_aZ 2 rfl ra_bool (a0 := (320, .inl (fun _ => 0))) (fun _ => rfl) (by decide) (by decide) (by decide) (Nat.le_of_ble_eq_true rfl) (by decide) dX5_init_22 (fun q22 => ?_)
  refine go_putF X (ws' := [(q5, .inr (7, [.ref q12_0, .int 0])), (q12_0, .inl (cy 0, 320, .inl (fun _ => 0))), (a_o, .inr (8, [.ref q5, .ref q22, .null, .null, .null, .null, .int 0, .int 0])), (q22, .inl (cy 2, 320, .inl (fun _ => 0)))]) fi_X5_init_X5 tyX5 tyX5_ok nmX5 2 rfl rfl 1 (by decide) fc_X5_init_f20 rfl hnm rfl (tyX5_ok 1 (by decide)) rfl rfl (Nat.le_of_ble_eq_true rfl) rfl dX5_init_24 ?_
  refine go_aload_n X dX5_init_27 0 rfl rfl ?_
  refine go_sipush X (v := 320) dX5_init_28 (by decide) ?_
  refine go_newa X (atype := .int) (ty := .int) rfl fc_X5_init_aI 1 rfl ra_int (a0 := (320, .inl (fun _ => 0))) (fun _ => rfl) (by decide) (by decide) (by decide) (Nat.le_of_ble_eq_true rfl) (by decide) dX5_init_31 (fun q31 => ?_)
  refine go_putF X (ws' := [(q5, .inr (7, [.ref q12_0, .int 0])), (q12_0, .inl (cy 0, 320, .inl (fun _ => 0))), (a_o, .inr (8, [.ref q5, .ref q22, .ref q31, .null, .null, .null, .int 0, .int 0])), (q22, .inl (cy 2, 320, .inl (fun _ => 0))), (q31, .inl (cy 1, 320, .inl (fun _ => 0)))]) fi_X5_init_X5 tyX5 tyX5_ok nmX5 2 rfl rfl 2 (by decide) fc_X5_init_f24 rfl hnm rfl (tyX5_ok 2 (by decide)) rfl rfl (Nat.le_of_ble_eq_true rfl) rfl dX5_init_33 ?_
  refine go_aload_n X dX5_init_36 0 rfl rfl ?_
  refine go_sipush X (v := 320) dX5_init_37 (by decide) ?_
  refine go_newa X (atype := .int) (ty := .int) rfl fc_X5_init_aI 1 rfl ra_int (a0 := (320, .inl (fun _ => 0))) (fun _ => rfl) (by decide) (by decide) (by decide) (Nat.le_of_ble_eq_true rfl) (by decide) dX5_init_40 (fun q40 => ?_)
  refine go_putF X (ws' := [(q5, .inr (7, [.ref q12_0, .int 0])), (q12_0, .inl (cy 0, 320, .inl (fun _ => 0))), (a_o, .inr (8, [.ref q5, .ref q22, .ref q31, .ref q40, .null, .null, .int 0, .int 0])), (q22, .inl (cy 2, 320, .inl (fun _ => 0))), (q31, .inl (cy 1, 320, .inl (fun _ => 0))), (q40, .inl (cy 1, 320, .inl (fun _ => 0)))]) fi_X5_init_X5 tyX5 tyX5_ok nmX5 2 rfl rfl 3 (by decide) fc_X5_init_f28 rfl hnm rfl (tyX5_ok 3 (by decide)) rfl rfl (Nat.le_of_ble_eq_true rfl) rfl dX5_init_42 ?_
  refine go_aload_n X dX5_init_45 0 rfl rfl ?_
  refine go_sipush X (v := 320) dX5_init_46 (by decide) ?_
  refine go_newa X (atype := .int) (ty := .int) rfl fc_X5_init_aI 1 rfl ra_int (a0 := (320, .inl (fun _ => 0))) (fun _ => rfl) (by decide) (by decide) (by decide) (Nat.le_of_ble_eq_true rfl) (by decide) dX5_init_49 (fun q49 => ?_)
  refine go_putF X (ws' := [(q5, .inr (7, [.ref q12_0, .int 0])), (q12_0, .inl (cy 0, 320, .inl (fun _ => 0))), (a_o, .inr (8, [.ref q5, .ref q22, .ref q31, .ref q40, .ref q49, .null, .int 0, .int 0])), (q22, .inl (cy 2, 320, .inl (fun _ => 0))), (q31, .inl (cy 1, 320, .inl (fun _ => 0))), (q40, .inl (cy 1, 320, .inl (fun _ => 0))), (q49, .inl (cy 1, 320, .inl (fun _ => 0)))]) fi_X5_init_X5 tyX5 tyX5_ok nmX5 2 rfl rfl 4 (by decide) fc_X5_init_f31 rfl hnm rfl (tyX5_ok 4 (by decide)) rfl rfl (Nat.le_of_ble_eq_true rfl) rfl dX5_init_51 ?_
  refine go_aload_n X dX5_init_54 0 rfl rfl ?_
  refine go_bipush X (v := 26) dX5_init_55 (by decide) ?_
  refine go_newa X (atype := .int) (ty := .int) rfl fc_X5_init_aI 1 rfl ra_int (a0 := (26, .inl (fun _ => 0))) (fun _ => rfl) (by decide) (by decide) (by decide) (Nat.le_of_ble_eq_true rfl) (by decide) dX5_init_57 (fun q57 => ?_)
  refine go_putF X (ws' := [(q5, .inr (7, [.ref q12_0, .int 0])), (q12_0, .inl (cy 0, 320, .inl (fun _ => 0))), (a_o, .inr (8, [.ref q5, .ref q22, .ref q31, .ref q40, .ref q49, .ref q57, .int 0, .int 0])), (q22, .inl (cy 2, 320, .inl (fun _ => 0))), (q31, .inl (cy 1, 320, .inl (fun _ => 0))), (q40, .inl (cy 1, 320, .inl (fun _ => 0))), (q49, .inl (cy 1, 320, .inl (fun _ => 0))), (q57, .inl (cy 1, 26, .inl (fun _ => 0)))]) fi_X5_init_X5 tyX5 tyX5_ok nmX5 2 rfl rfl 5 (by decide) fc_X5_init_f34 rfl hnm rfl (tyX5_ok 5 (by decide)) rfl rfl (Nat.le_of_ble_eq_true rfl) rfl dX5_init_59 ?_
  refine go_perm (ws' := [(a_o, .inr (8, [.ref q5, .ref q22, .ref q31, .ref q40, .ref q49, .ref q57, .int 0, .int 0])), (q5, .inr (7, [.ref q12_0, .int 0])), (q12_0, .inl (cy 0, 320, .inl (fun _ => 0))), (q22, .inl (cy 2, 320, .inl (fun _ => 0))), (q31, .inl (cy 1, 320, .inl (fun _ => 0))), (q40, .inl (cy 1, 320, .inl (fun _ => 0))), (q49, .inl (cy 1, 320, .inl (fun _ => 0))), (q57, .inl (cy 1, 26, .inl (fun _ => 0)))]) (perm_ix 8 [2, 0, 1, 3, 4, 5, 6, 7] rfl (by decide +kernel) rfl) ?_
  refine go_widen (k := 7) (n := 1628) (by decide) (by decide) ?_
  exact hR (fun k => [q5, q12_0, q22, q31, q40, q49, q57].getD k 0) 62 _ dX5_init_62 trivial
/-! X7_init -/
theorem fc_X7_init_o1 : Cond.methodLink RX7 1 Lib.objectInit ∈ wsX7_init := by decide +kernel
theorem fc_X7_init_oi : Cond.instanceMethod Lib.objectInit ∈ wsX7_init := by decide +kernel
theorem fc_X7_init_oc : Cond.code Lib.objectInit ⟨#[0xb1]⟩ 1 none ∈ wsX7_init := by decide +kernel
theorem fc_X7_init_aI : Cond.arrayClass .int ∈ wsX7_init := by decide +kernel
theorem fc_X7_init_f7 : Cond.fieldLink RX7 7 (TX7 1).1 (TX7 1).2.1 (TX7 1).2.2.1 ∈ wsX7_init := by decide +kernel
theorem fi_X7_init_X7 : ∀ w ∈ u_ws RX7 TX7 25, w ∈ wsX7_init := by decide +kernel
theorem fc_X7_init_f13 : Cond.fieldLink RX7 13 (TX7 4).1 (TX7 4).2.1 (TX7 4).2.2.1 ∈ wsX7_init := by decide +kernel
theorem fc_X7_init_f16 : Cond.fieldLink RX7 16 (TX7 5).1 (TX7 5).2.1 (TX7 5).2.2.1 ∈ wsX7_init := by decide +kernel
theorem fc_X7_init_f19 : Cond.fieldLink RX7 19 (TX7 6).1 (TX7 6).2.1 (TX7 6).2.2.1 ∈ wsX7_init := by decide +kernel
theorem fc_X7_init_f22 : Cond.fieldLink RX7 22 (TX7 7).1 (TX7 7).2.1 (TX7 7).2.2.1 ∈ wsX7_init := by decide +kernel
theorem fc_X7_init_f25 : Cond.fieldLink RX7 25 (TX7 8).1 (TX7 8).2.1 (TX7 8).2.2.1 ∈ wsX7_init := by decide +kernel
theorem fc_X7_init_f28 : Cond.fieldLink RX7 28 (TX7 9).1 (TX7 9).2.1 (TX7 9).2.2.1 ∈ wsX7_init := by decide +kernel
theorem fc_X7_init_f31 : Cond.fieldLink RX7 31 (TX7 10).1 (TX7 10).2.1 (TX7 10).2.2.1 ∈ wsX7_init := by decide +kernel
theorem fc_X7_init_aZ : Cond.arrayClass .boolean ∈ wsX7_init := by decide +kernel
theorem fc_X7_init_f34 : Cond.fieldLink RX7 34 (TX7 11).1 (TX7 11).2.1 (TX7 11).2.2.1 ∈ wsX7_init := by decide +kernel
theorem fc_X7_init_f38 : Cond.fieldLink RX7 38 (TX7 12).1 (TX7 12).2.1 (TX7 12).2.2.1 ∈ wsX7_init := by decide +kernel
theorem fc_X7_init_f41 : Cond.fieldLink RX7 41 (TX7 14).1 (TX7 14).2.1 (TX7 14).2.2.1 ∈ wsX7_init := by decide +kernel
theorem fc_X7_init_f44 : Cond.fieldLink RX7 44 (TX7 17).1 (TX7 17).2.1 (TX7 17).2.2.1 ∈ wsX7_init := by decide +kernel
theorem fc_X7_init_f47 : Cond.fieldLink RX7 47 (TX7 18).1 (TX7 18).2.1 (TX7 18).2.2.1 ∈ wsX7_init := by decide +kernel
theorem fc_X7_init_f50 : Cond.fieldLink RX7 50 (TX7 19).1 (TX7 19).2.1 (TX7 19).2.2.1 ∈ wsX7_init := by decide +kernel
theorem fc_X7_init_f53 : Cond.fieldLink RX7 53 (TX7 23).1 (TX7 23).2.1 (TX7 23).2.2.1 ∈ wsX7_init := by decide +kernel
theorem fc_X7_init_f56 : Cond.fieldLink RX7 56 (TX7 2).1 (TX7 2).2.1 (TX7 2).2.2.1 ∈ wsX7_init := by decide +kernel
def rm_X7_init : Room := { frames := 1, cells := 15, slots := 4997, locals := 20 }
theorem cd_X7_init : yX7_init.cls ≠ "java/lang/invoke/MethodHandle" ∧ yX7_init.cls ≠ "java/lang/invoke/VarHandle" ∧ (parseMethodDescriptor yX7_init.desc).map (fun d => d.parameters.length) = some 0 := by decide +kernel
set_option maxRecDepth 100000 in
set_option maxHeartbeats 4000000 in
theorem kX7_init (l : Launch) (D : va_G) (cy : Nat → ClassId) (a_o : Nat) : MetV l yX7_init wsX7_init rm_X7_init D (tyL cy) [.ref a_o] [(a_o, .inr (10, [.int 0, .null, .int 0, .int 0, .null, .null, .null, .null, .null, .null, .null, .null, .null, .int 0, .null, .int 0, .int 0, .null, .null, .null, .int 0, .int 0, .int 0, .null, .int 0]))] (fun u : (Nat → Nat) => [(a_o, .inr (10, [.int 0, .ref ((u 0)), .int 0, .int 0, .ref ((u 1)), .ref ((u 2)), .ref ((u 3)), .ref ((u 4)), .ref ((u 5)), .ref ((u 6)), .ref ((u 7)), .ref ((u 8)), .ref ((u 9)), .int 0, .ref ((u 10)), .int 0, .int 0, .ref ((u 11)), .ref ((u 12)), .ref ((u 13)), .int 0, .int 0, .int 0, .ref ((u 14)), .int 0])), ((u 0), .inl (cy 1, 200, .inl (fun _ => 0))), ((u 1), .inl (cy 1, 8, .inl (fun _ => 0))), ((u 2), .inl (cy 1, 320, .inl (fun _ => 0))), ((u 3), .inl (cy 1, 6, .inl (fun _ => 0))), ((u 4), .inl (cy 1, 6, .inl (fun _ => 0))), ((u 5), .inl (cy 1, 480, .inl (fun _ => 0))), ((u 6), .inl (cy 1, 6, .inl (fun _ => 0))), ((u 7), .inl (cy 1, 480, .inl (fun _ => 0))), ((u 8), .inl (cy 2, 320, .inl (fun _ => 0))), ((u 9), .inl (cy 1, 80, .inl (fun _ => 0))), ((u 10), .inl (cy 1, 280, .inl (fun _ => 0))), ((u 11), .inl (cy 1, 201, .inl (fun _ => 0))), ((u 12), .inl (cy 1, 2010, .inl (fun _ => 0))), ((u 13), .inl (cy 1, 400, .inl (fun _ => 0))), ((u 14), .inl (cy 1, 200, .inl (fun _ => 0)))]) (fun _ => True) 15 4997 := by
  refine metV_of (cc := cX7_init) (maxL := 1) (lv := [(0, .ref a_o)]) (by decide) rfl (Nat.le_of_ble_eq_true rfl) rfl ?_
  intro p e s m below meth c Q A X hlk hnm hR
  refine go_aload_n X dX7_init_0 0 rfl rfl ?_
  refine go_objInit X fc_X7_init_o1 fc_X7_init_oi fc_X7_init_oc dX7_init_1 (Nat.le_of_ble_eq_true rfl) (Nat.le_of_ble_eq_true rfl) ?_
  refine go_aload_n X dX7_init_4 0 rfl rfl ?_
  refine go_sipush X (v := 200) dX7_init_5 (by decide) ?_
  refine go_newa X (atype := .int) (ty := .int) rfl fc_X7_init_aI 1 rfl ra_int (a0 := (200, .inl (fun _ => 0))) (fun _ => rfl) (by decide) (by decide) (by decide) (Nat.le_of_ble_eq_true rfl) (by decide) dX7_init_8 (fun q8 => ?_)
  refine go_putF X (ws' := [(a_o, .inr (10, [.int 0, .ref q8, .int 0, .int 0, .null, .null, .null, .null, .null, .null, .null, .null, .null, .int 0, .null, .int 0, .int 0, .null, .null, .null, .int 0, .int 0, .int 0, .null, .int 0])), (q8, .inl (cy 1, 200, .inl (fun _ => 0)))]) fi_X7_init_X7 tyX7 tyX7_ok nmX7 0 rfl rfl 1 (by decide) fc_X7_init_f7 rfl hnm rfl (tyX7_ok 1 (by decide)) rfl rfl (Nat.le_of_ble_eq_true rfl) rfl dX7_init_10 ?_
  refine go_aload_n X dX7_init_13 0 rfl rfl ?_
  refine go_bipush X (v := 8) dX7_init_14 (by decide) ?_
  refine go_newa X (atype := .int) (ty := .int) rfl fc_X7_init_aI 1 rfl ra_int (a0 := (8, .inl (fun _ => 0))) (fun _ => rfl) (by decide) (by decide) (by decide) (Nat.le_of_ble_eq_true rfl) (by decide) dX7_init_16 (fun q16 => ?_)
  refine go_putF X (ws' := [(a_o, .inr (10, [.int 0, .ref q8, .int 0, .int 0, .ref q16, .null, .null, .null, .null, .null, .null, .null, .null, .int 0, .null, .int 0, .int 0, .null, .null, .null, .int 0, .int 0, .int 0, .null, .int 0])), (q8, .inl (cy 1, 200, .inl (fun _ => 0))), (q16, .inl (cy 1, 8, .inl (fun _ => 0)))]) fi_X7_init_X7 tyX7 tyX7_ok nmX7 0 rfl rfl 4 (by decide) fc_X7_init_f13 rfl hnm rfl (tyX7_ok 4 (by decide)) rfl rfl (Nat.le_of_ble_eq_true rfl) rfl dX7_init_18 ?_
  refine go_aload_n X dX7_init_21 0 rfl rfl ?_
  refine go_sipush X (v := 320) dX7_init_22 (by decide) ?_
  refine go_newa X (atype := .int) (ty := .int) rfl fc_X7_init_aI 1 rfl ra_int (a0 := (320, .inl (fun _ => 0))) (fun _ => rfl) (by decide) (by decide) (by decide) (Nat.le_of_ble_eq_true rfl) (by decide) dX7_init_25 (fun q25 => ?_)
  refine go_putF X (ws' := [(a_o, .inr (10, [.int 0, .ref q8, .int 0, .int 0, .ref q16, .ref q25, .null, .null, .null, .null, .null, .null, .null, .int 0, .null, .int 0, .int 0, .null, .null, .null, .int 0, .int 0, .int 0, .null, .int 0])), (q8, .inl (cy 1, 200, .inl (fun _ => 0))), (q16, .inl (cy 1, 8, .inl (fun _ => 0))), (q25, .inl (cy 1, 320, .inl (fun _ => 0)))]) fi_X7_init_X7 tyX7 tyX7_ok nmX7 0 rfl rfl 5 (by decide) fc_X7_init_f16 rfl hnm rfl (tyX7_ok 5 (by decide)) rfl rfl (Nat.le_of_ble_eq_true rfl) rfl dX7_init_27 ?_
  refine go_aload_n X dX7_init_30 0 rfl rfl ?_
  refine go_bipush X (v := 6) dX7_init_31 (by decide) ?_
  refine go_newa X (atype := .int) (ty := .int) rfl fc_X7_init_aI 1 rfl ra_int (a0 := (6, .inl (fun _ => 0))) (fun _ => rfl) (by decide) (by decide) (by decide) (Nat.le_of_ble_eq_true rfl) (by decide) dX7_init_33 (fun q33 => ?_)
  refine go_putF X (ws' := [(a_o, .inr (10, [.int 0, .ref q8, .int 0, .int 0, .ref q16, .ref q25, .ref q33, .null, .null, .null, .null, .null, .null, .int 0, .null, .int 0, .int 0, .null, .null, .null, .int 0, .int 0, .int 0, .null, .int 0])), (q8, .inl (cy 1, 200, .inl (fun _ => 0))), (q16, .inl (cy 1, 8, .inl (fun _ => 0))), (q25, .inl (cy 1, 320, .inl (fun _ => 0))), (q33, .inl (cy 1, 6, .inl (fun _ => 0)))]) fi_X7_init_X7 tyX7 tyX7_ok nmX7 0 rfl rfl 6 (by decide) fc_X7_init_f19 rfl hnm rfl (tyX7_ok 6 (by decide)) rfl rfl (Nat.le_of_ble_eq_true rfl) rfl dX7_init_35 ?_
  refine go_aload_n X dX7_init_38 0 rfl rfl ?_
  refine go_bipush X (v := 6) dX7_init_39 (by decide) ?_
  refine go_newa X (atype := .int) (ty := .int) rfl fc_X7_init_aI 1 rfl ra_int (a0 := (6, .inl (fun _ => 0))) (fun _ => rfl) (by decide) (by decide) (by decide) (Nat.le_of_ble_eq_true rfl) (by decide) dX7_init_41 (fun q41 => ?_)
  refine go_putF X (ws' := [(a_o, .inr (10, [.int 0, .ref q8, .int 0, .int 0, .ref q16, .ref q25, .ref q33, .ref q41, .null, .null, .null, .null, .null, .int 0, .null, .int 0, .int 0, .null, .null, .null, .int 0, .int 0, .int 0, .null, .int 0])), (q8, .inl (cy 1, 200, .inl (fun _ => 0))), (q16, .inl (cy 1, 8, .inl (fun _ => 0))), (q25, .inl (cy 1, 320, .inl (fun _ => 0))), (q33, .inl (cy 1, 6, .inl (fun _ => 0))), (q41, .inl (cy 1, 6, .inl (fun _ => 0)))]) fi_X7_init_X7 tyX7 tyX7_ok nmX7 0 rfl rfl 7 (by decide) fc_X7_init_f22 rfl hnm rfl (tyX7_ok 7 (by decide)) rfl rfl (Nat.le_of_ble_eq_true rfl) rfl dX7_init_43 ?_
  refine go_aload_n X dX7_init_46 0 rfl rfl ?_
  refine go_sipush X (v := 480) dX7_init_47 (by decide) ?_
  refine go_newa X (atype := .int) (ty := .int) rfl fc_X7_init_aI 1 rfl ra_int (a0 := (480, .inl (fun _ => 0))) (fun _ => rfl) (by decide) (by decide) (by decide) (Nat.le_of_ble_eq_true rfl) (by decide) dX7_init_50 (fun q50 => ?_)
  refine go_putF X (ws' := [(a_o, .inr (10, [.int 0, .ref q8, .int 0, .int 0, .ref q16, .ref q25, .ref q33, .ref q41, .ref q50, .null, .null, .null, .null, .int 0, .null, .int 0, .int 0, .null, .null, .null, .int 0, .int 0, .int 0, .null, .int 0])), (q8, .inl (cy 1, 200, .inl (fun _ => 0))), (q16, .inl (cy 1, 8, .inl (fun _ => 0))), (q25, .inl (cy 1, 320, .inl (fun _ => 0))), (q33, .inl (cy 1, 6, .inl (fun _ => 0))), (q41, .inl (cy 1, 6, .inl (fun _ => 0))), (q50, .inl (cy 1, 480, .inl (fun _ => 0)))]) fi_X7_init_X7 tyX7 tyX7_ok nmX7 0 rfl rfl 8 (by decide) fc_X7_init_f25 rfl hnm rfl (tyX7_ok 8 (by decide)) rfl rfl (Nat.le_of_ble_eq_true rfl) rfl dX7_init_52 ?_
  refine go_aload_n X dX7_init_55 0 rfl rfl ?_
  refine go_bipush X (v := 6) dX7_init_56 (by decide) ?_
  refine go_newa X (atype := .int) (ty := .int) rfl fc_X7_init_aI 1 rfl ra_int (a0 := (6, .inl (fun _ => 0))) (fun _ => rfl) (by decide) (by decide) (by decide) (Nat.le_of_ble_eq_true rfl) (by decide) dX7_init_58 (fun q58 => ?_)
  refine go_putF X (ws' := [(a_o, .inr (10, [.int 0, .ref q8, .int 0, .int 0, .ref q16, .ref q25, .ref q33, .ref q41, .ref q50, .ref q58, .null, .null, .null, .int 0, .null, .int 0, .int 0, .null, .null, .null, .int 0, .int 0, .int 0, .null, .int 0])), (q8, .inl (cy 1, 200, .inl (fun _ => 0))), (q16, .inl (cy 1, 8, .inl (fun _ => 0))), (q25, .inl (cy 1, 320, .inl (fun _ => 0))), (q33, .inl (cy 1, 6, .inl (fun _ => 0))), (q41, .inl (cy 1, 6, .inl (fun _ => 0))), (q50, .inl (cy 1, 480, .inl (fun _ => 0))), (q58, .inl (cy 1, 6, .inl (fun _ => 0)))]) fi_X7_init_X7 tyX7 tyX7_ok nmX7 0 rfl rfl 9 (by decide) fc_X7_init_f28 rfl hnm rfl (tyX7_ok 9 (by decide)) rfl rfl (Nat.le_of_ble_eq_true rfl) rfl dX7_init_60 ?_
  refine go_aload_n X dX7_init_63 0 rfl rfl ?_
  refine go_sipush X (v := 480) dX7_init_64 (by decide) ?_
  refine go_newa X (atype := .int) (ty := .int) rfl fc_X7_init_aI 1 rfl ra_int (a0 := (480, .inl (fun _ => 0))) (fun _ => rfl) (by decide) (by decide) (by decide) (Nat.le_of_ble_eq_true rfl) (by decide) dX7_init_67 (fun q67 => ?_)
  refine go_putF X (ws' := [(a_o, .inr (10, [.int 0, .ref q8, .int 0, .int 0, .ref q16, .ref q25, .ref q33, .ref q41, .ref q50, .ref q58, .ref q67, .null, .null, .int 0, .null, .int 0, .int 0, .null, .null, .null, .int 0, .int 0, .int 0, .null, .int 0])), (q8, .inl (cy 1, 200, .inl (fun _ => 0))), (q16, .inl (cy 1, 8, .inl (fun _ => 0))), (q25, .inl (cy 1, 320, .inl (fun _ => 0))), (q33, .inl (cy 1, 6, .inl (fun _ => 0))), (q41, .inl (cy 1, 6, .inl (fun _ => 0))), (q50, .inl (cy 1, 480, .inl (fun _ => 0))), (q58, .inl (cy 1, 6, .inl (fun _ => 0))), (q67, .inl (cy 1, 480, .inl (fun _ => 0)))]) fi_X7_init_X7 tyX7 tyX7_ok nmX7 0 rfl rfl 10 (by decide) fc_X7_init_f31 rfl hnm rfl (tyX7_ok 10 (by decide)) rfl rfl (Nat.le_of_ble_eq_true rfl) rfl dX7_init_69 ?_
  refine go_aload_n X dX7_init_72 0 rfl rfl ?_
  refine go_sipush X (v := 320) dX7_init_73 (by decide) ?_
  refine go_newa X (atype := .boolean) (ty := .boolean) rfl fc_X7_init_aZ 2 rfl ra_bool (a0 := (320, .inl (fun _ => 0))) (fun _ => rfl) (by decide) (by decide) (by decide) (Nat.le_of_ble_eq_true rfl) (by decide) dX7_init_76 (fun q76 => ?_)
  refine go_putF X (ws' := [(a_o, .inr (10, [.int 0, .ref q8, .int 0, .int 0, .ref q16, .ref q25, .ref q33, .ref q41, .ref q50, .ref q58, .ref q67, .ref q76, .null, .int 0, .null, .int 0, .int 0, .null, .null, .null, .int 0, .int 0, .int 0, .null, .int 0])), (q8, .inl (cy 1, 200, .inl (fun _ => 0))), (q16, .inl (cy 1, 8, .inl (fun _ => 0))), (q25, .inl (cy 1, 320, .inl (fun _ => 0))), (q33, .inl (cy 1, 6, .inl (fun _ => 0))), (q41, .inl (cy 1, 6, .inl (fun _ => 0))), (q50, .inl (cy 1, 480, .inl (fun _ => 0))), (q58, .inl (cy 1, 6, .inl (fun _ => 0))), (q67, .inl (cy 1, 480, .inl (fun _ => 0))), (q76, .inl (cy 2, 320, .inl (fun _ => 0)))]) fi_X7_init_X7 tyX7 tyX7_ok nmX7 0 rfl rfl 11 (by decide) fc_X7_init_f34 rfl hnm rfl (tyX7_ok 11 (by decide)) rfl rfl (Nat.le_of_ble_eq_true rfl) rfl dX7_init_78 ?_
  refine go_aload_n X dX7_init_81 0 rfl rfl ?_
  refine go_bipush X (v := 80) dX7_init_82 (by decide) ?_
  refine go_newa X (atype := .int) (ty := .int) rfl fc_X7_init_aI 1 rfl ra_int (a0 := (80, .inl (fun _ => 0))) (fun _ => rfl) (by decide) (by decide) (by decide) (Nat.le_of_ble_eq_true rfl) (by decide) dX7_init_84 (fun q84 => ?_)
  refine go_putF X (ws' := [(a_o, .inr (10, [.int 0, .ref q8, .int 0, .int 0, .ref q16, .ref q25, .ref q33, .ref q41, .ref q50, .ref q58, .ref q67, .ref q76, .ref q84, .int 0, .null, .int 0, .int 0, .null, .null, .null, .int 0, .int 0, .int 0, .null, .int 0])), (q8, .inl (cy 1, 200, .inl (fun _ => 0))), (q16, .inl (cy 1, 8, .inl (fun _ => 0))), (q25, .inl (cy 1, 320, .inl (fun _ => 0))), (q33, .inl (cy 1, 6, .inl (fun _ => 0))), (q41, .inl (cy 1, 6, .inl (fun _ => 0))), (q50, .inl (cy 1, 480, .inl (fun _ => 0))), (q58, .inl (cy 1, 6, .inl (fun _ => 0))), (q67, .inl (cy 1, 480, .inl (fun _ => 0))), (q76, .inl (cy 2, 320, .inl (fun _ => 0))), (q84, .inl (cy 1, 80, .inl (fun _ => 0)))]) fi_X7_init_X7 tyX7 tyX7_ok nmX7 0 rfl rfl 12 (by decide) fc_X7_init_f38 rfl hnm rfl (tyX7_ok 12 (by decide)) rfl rfl (Nat.le_of_ble_eq_true rfl) rfl dX7_init_86 ?_
  refine go_aload_n X dX7_init_89 0 rfl rfl ?_
  refine go_sipush X (v := 280) dX7_init_90 (by decide) ?_
  refine go_newa X (atype := .int) (ty := .int) rfl fc_X7_init_aI 1 rfl ra_int (a0 := (280, .inl (fun _ => 0))) (fun _ => rfl) (by decide) (by decide) (by decide) (Nat.le_of_ble_eq_true rfl) (by decide) dX7_init_93 (fun q93 => ?_)
  refine go_putF X (ws' := [(a_o, .inr (10, [.int 0, .ref q8, .int 0, .int 0, .ref q16, .ref q25, .ref q33, .ref q41, .ref q50, .ref q58, .ref q67, .ref q76, .ref q84, .int 0, .ref q93, .int 0, .int 0, .null, .null, .null, .int 0, .int 0, .int 0, .null, .int 0])), (q8, .inl (cy 1, 200, .inl (fun _ => 0))), (q16, .inl (cy 1, 8, .inl (fun _ => 0))), (q25, .inl (cy 1, 320, .inl (fun _ => 0))), (q33, .inl (cy 1, 6, .inl (fun _ => 0))), (q41, .inl (cy 1, 6, .inl (fun _ => 0))), (q50, .inl (cy 1, 480, .inl (fun _ => 0))), (q58, .inl (cy 1, 6, .inl (fun _ => 0))), (q67, .inl (cy 1, 480, .inl (fun _ => 0))), (q76, .inl (cy 2, 320, .inl (fun _ => 0))), (q84, .inl (cy 1, 80, .inl (fun _ => 0))), (q93, .inl (cy 1, 280, .inl (fun _ => 0)))]) fi_X7_init_X7 tyX7 tyX7_ok nmX7 0 rfl rfl 14 (by decide) fc_X7_init_f41 rfl hnm rfl (tyX7_ok 14 (by decide)) rfl rfl (Nat.le_of_ble_eq_true rfl) rfl dX7_init_95 ?_
  refine go_aload_n X dX7_init_98 0 rfl rfl ?_
  refine go_sipush X (v := 201) dX7_init_99 (by decide) ?_
  refine go_newa X (atype := .int) (ty := .int) rfl fc_X7_init_aI 1 rfl ra_int (a0 := (201, .inl (fun _ => 0))) (fun _ => rfl) (by decide) (by decide) (by decide) (Nat.le_of_ble_eq_true rfl) (by decide) dX7_init_102 (fun q102 => ?_)
  refine go_putF X (ws' := [(a_o, .inr (10, [.int 0, .ref q8, .int 0, .int 0, .ref q16, .ref q25, .ref q33, .ref q41, .ref q50, .ref q58, .ref q67, .ref q76, .ref q84, .int 0, .ref q93, .int 0, .int 0, .ref q102, .null, .null, .int 0, .int 0, .int 0, .null, .int 0])), (q8, .inl (cy 1, 200, .inl (fun _ => 0))), (q16, .inl (cy 1, 8, .inl (fun _ => 0))), (q25, .inl (cy 1, 320, .inl (fun _ => 0))), (q33, .inl (cy 1, 6, .inl (fun _ => 0))), (q41, .inl (cy 1, 6, .inl (fun _ => 0))), (q50, .inl (cy 1, 480, .inl (fun _ => 0))), (q58, .inl (cy 1, 6, .inl (fun _ => 0))), (q67, .inl (cy 1, 480, .inl (fun _ => 0))), (q76, .inl (cy 2, 320, .inl (fun _ => 0))), (q84, .inl (cy 1, 80, .inl (fun _ => 0))), (q93, .inl (cy 1, 280, .inl (fun _ => 0))), (q102, .inl (cy 1, 201, .inl (fun _ => 0)))]) fi_X7_init_X7 tyX7 tyX7_ok nmX7 0 rfl rfl 17 (by decide) fc_X7_init_f44 rfl hnm rfl (tyX7_ok 17 (by decide)) rfl rfl (Nat.le_of_ble_eq_true rfl) rfl dX7_init_104 ?_
  refine go_aload_n X dX7_init_107 0 rfl rfl ?_
  refine go_sipush X (v := 2010) dX7_init_108 (by decide) ?_
  refine go_newa X (atype := .int) (ty := .int) rfl fc_X7_init_aI 1 rfl ra_int (a0 := (2010, .inl (fun _ => 0))) (fun _ => rfl) (by decide) (by decide) (by decide) (Nat.le_of_ble_eq_true rfl) (by decide) dX7_init_111 (fun q111 => ?_)
  refine go_putF X (ws' := [(a_o, .inr (10, [.int 0, .ref q8, .int 0, .int 0, .ref q16, .ref q25, .ref q33, .ref q41, .ref q50, .ref q58, .ref q67, .ref q76, .ref q84, .int 0, .ref q93, .int 0, .int 0, .ref q102, .ref q111, .null, .int 0, .int 0, .int 0, .null, .int 0])), (q8, .inl (cy 1, 200, .inl (fun _ => 0))), (q16, .inl (cy 1, 8, .inl (fun _ => 0))), (q25, .inl (cy 1, 320, .inl (fun _ => 0))), (q33, .inl (cy 1, 6, .inl (fun _ => 0))), (q41, .inl (cy 1, 6, .inl (fun _ => 0))), (q50, .inl (cy 1, 480, .inl (fun _ => 0))), (q58, .inl (cy 1, 6, .inl (fun _ => 0))), (q67, .inl (cy 1, 480, .inl (fun _ => 0))), (q76, .inl (cy 2, 320, .inl (fun _ => 0))), (q84, .inl (cy 1, 80, .inl (fun _ => 0))), (q93, .inl (cy 1, 280, .inl (fun _ => 0))), (q102, .inl (cy 1, 201, .inl (fun _ => 0))), (q111, .inl (cy 1, 2010, .inl (fun _ => 0)))]) fi_X7_init_X7 tyX7 tyX7_ok nmX7 0 rfl rfl 18 (by decide) fc_X7_init_f47 rfl hnm rfl (tyX7_ok 18 (by decide)) rfl rfl (Nat.le_of_ble_eq_true rfl) rfl dX7_init_113 ?_
  refine go_aload_n X dX7_init_116 0 rfl rfl ?_
  refine go_sipush X (v := 400) dX7_init_117 (by decide) ?_
  refine go_newa X (atype := .int) (ty := .int) rfl fc_X7_init_aI 1 rfl ra_int (a0 := (400, .inl (fun _ => 0))) (fun _ => rfl) (by decide) (by decide) (by decide) (Nat.le_of_ble_eq_true rfl) (by decide) dX7_init_120 (fun q120 => ?_)
  refine go_putF X (ws' := [(a_o, .inr (10, [.int 0, .ref q8, .int 0, .int 0, .ref q16, .ref q25, .ref q33, .ref q41, .ref q50, .ref q58, .ref q67, .ref q76, .ref q84, .int 0, .ref q93, .int 0, .int 0, .ref q102, .ref q111, .ref q120, .int 0, .int 0, .int 0, .null, .int 0])), (q8, .inl (cy 1, 200, .inl (fun _ => 0))), (q16, .inl (cy 1, 8, .inl (fun _ => 0))), (q25, .inl (cy 1, 320, .inl (fun _ => 0))), (q33, .inl (cy 1, 6, .inl (fun _ => 0))), (q41, .inl (cy 1, 6, .inl (fun _ => 0))), (q50, .inl (cy 1, 480, .inl (fun _ => 0))), (q58, .inl (cy 1, 6, .inl (fun _ => 0))), (q67, .inl (cy 1, 480, .inl (fun _ => 0))), (q76, .inl (cy 2, 320, .inl (fun _ => 0))), (q84, .inl (cy 1, 80, .inl (fun _ => 0))), (q93, .inl (cy 1, 280, .inl (fun _ => 0))), (q102, .inl (cy 1, 201, .inl (fun _ => 0))), (q111, .inl (cy 1, 2010, .inl (fun _ => 0))), (q120, .inl (cy 1, 400, .inl (fun _ => 0)))]) fi_X7_init_X7 tyX7 tyX7_ok nmX7 0 rfl rfl 19 (by decide) fc_X7_init_f50 rfl hnm rfl (tyX7_ok 19 (by decide)) rfl rfl (Nat.le_of_ble_eq_true rfl) rfl dX7_init_122 ?_
  refine go_aload_n X dX7_init_125 0 rfl rfl ?_
  refine go_sipush X (v := 200) dX7_init_126 (by decide) ?_
  refine go_newa X (atype := .int) (ty := .int) rfl fc_X7_init_aI 1 rfl ra_int (a0 := (200, .inl (fun _ => 0))) (fun _ => rfl) (by decide) (by decide) (by decide) (Nat.le_of_ble_eq_true rfl) (by decide) dX7_init_129 (fun q129 => ?_)
  refine go_putF X (ws' := [(a_o, .inr (10, [.int 0, .ref q8, .int 0, .int 0, .ref q16, .ref q25, .ref q33, .ref q41, .ref q50, .ref q58, .ref q67, .ref q76, .ref q84, .int 0, .ref q93, .int 0, .int 0, .ref q102, .ref q111, .ref q120, .int 0, .int 0, .int 0, .ref q129, .int 0])), (q8, .inl (cy 1, 200, .inl (fun _ => 0))), (q16, .inl (cy 1, 8, .inl (fun _ => 0))), (q25, .inl (cy 1, 320, .inl (fun _ => 0))), (q33, .inl (cy 1, 6, .inl (fun _ => 0))), (q41, .inl (cy 1, 6, .inl (fun _ => 0))), (q50, .inl (cy 1, 480, .inl (fun _ => 0))), (q58, .inl (cy 1, 6, .inl (fun _ => 0))), (q67, .inl (cy 1, 480, .inl (fun _ => 0))), (q76, .inl (cy 2, 320, .inl (fun _ => 0))), (q84, .inl (cy 1, 80, .inl (fun _ => 0))), (q93, .inl (cy 1, 280, .inl (fun _ => 0))), (q102, .inl (cy 1, 201, .inl (fun _ => 0))), (q111, .inl (cy 1, 2010, .inl (fun _ => 0))), (q120, .inl (cy 1, 400, .inl (fun _ => 0))), (q129, .inl (cy 1, 200, .inl (fun _ => 0)))]) fi_X7_init_X7 tyX7 tyX7_ok nmX7 0 rfl rfl 23 (by decide) fc_X7_init_f53 rfl hnm rfl (tyX7_ok 23 (by decide)) rfl rfl (Nat.le_of_ble_eq_true rfl) rfl dX7_init_131 ?_
  refine go_aload_n X dX7_init_134 0 rfl rfl ?_
  refine go_iconst X (v := 0) dX7_init_135 (by decide) ?_
  refine go_put X (ws' := [(a_o, .inr (10, [.int 0, .ref q8, .int 0, .int 0, .ref q16, .ref q25, .ref q33, .ref q41, .ref q50, .ref q58, .ref q67, .ref q76, .ref q84, .int 0, .ref q93, .int 0, .int 0, .ref q102, .ref q111, .ref q120, .int 0, .int 0, .int 0, .ref q129, .int 0])), (q8, .inl (cy 1, 200, .inl (fun _ => 0))), (q16, .inl (cy 1, 8, .inl (fun _ => 0))), (q25, .inl (cy 1, 320, .inl (fun _ => 0))), (q33, .inl (cy 1, 6, .inl (fun _ => 0))), (q41, .inl (cy 1, 6, .inl (fun _ => 0))), (q50, .inl (cy 1, 480, .inl (fun _ => 0))), (q58, .inl (cy 1, 6, .inl (fun _ => 0))), (q67, .inl (cy 1, 480, .inl (fun _ => 0))), (q76, .inl (cy 2, 320, .inl (fun _ => 0))), (q84, .inl (cy 1, 80, .inl (fun _ => 0))), (q93, .inl (cy 1, 280, .inl (fun _ => 0))), (q102, .inl (cy 1, 201, .inl (fun _ => 0))), (q111, .inl (cy 1, 2010, .inl (fun _ => 0))), (q120, .inl (cy 1, 400, .inl (fun _ => 0))), (q129, .inl (cy 1, 200, .inl (fun _ => 0)))]) fi_X7_init_X7 tyX7 tyX7_ok nmX7 0 rfl rfl 2 (by decide) fc_X7_init_f56 rfl (tyX7_ok 2 (by decide)) rfl rfl (Nat.le_of_ble_eq_true rfl) rfl dX7_init_136 ?_
  refine go_perm (ws' := [(a_o, .inr (10, [.int 0, .ref q8, .int 0, .int 0, .ref q16, .ref q25, .ref q33, .ref q41, .ref q50, .ref q58, .ref q67, .ref q76, .ref q84, .int 0, .ref q93, .int 0, .int 0, .ref q102, .ref q111, .ref q120, .int 0, .int 0, .int 0, .ref q129, .int 0])), (q8, .inl (cy 1, 200, .inl (fun _ => 0))), (q16, .inl (cy 1, 8, .inl (fun _ => 0))), (q25, .inl (cy 1, 320, .inl (fun _ => 0))), (q33, .inl (cy 1, 6, .inl (fun _ => 0))), (q41, .inl (cy 1, 6, .inl (fun _ => 0))), (q50, .inl (cy 1, 480, .inl (fun _ => 0))), (q58, .inl (cy 1, 6, .inl (fun _ => 0))), (q67, .inl (cy 1, 480, .inl (fun _ => 0))), (q76, .inl (cy 2, 320, .inl (fun _ => 0))), (q84, .inl (cy 1, 80, .inl (fun _ => 0))), (q93, .inl (cy 1, 280, .inl (fun _ => 0))), (q102, .inl (cy 1, 201, .inl (fun _ => 0))), (q111, .inl (cy 1, 2010, .inl (fun _ => 0))), (q120, .inl (cy 1, 400, .inl (fun _ => 0))), (q129, .inl (cy 1, 200, .inl (fun _ => 0)))]) (perm_ix 16 [0, 1, 2, 3, 4, 5, 6, 7, 8, 9, 10, 11, 12, 13, 14, 15] rfl (by decide +kernel) rfl) ?_
  refine go_widen (k := 15) (n := 4997) (by decide) (by decide) ?_
  exact hR (fun k => [q8, q16, q25, q33, q41, q50, q58, q67, q76, q84, q93, q102, q111, q120, q129].getD k 0) 139 _ dX7_init_139 trivial
