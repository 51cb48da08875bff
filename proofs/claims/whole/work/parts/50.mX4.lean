/-! J7_fill_53178 -/
def rm_J7_fill_53178 : Room := { frames := 0, cells := 0, slots := 0, locals := 0 }
theorem cd_J7_fill_53178 : yJ7_fill_53178.cls ≠ "java/lang/invoke/MethodHandle" ∧ yJ7_fill_53178.cls ≠ "java/lang/invoke/VarHandle" ∧ (parseMethodDescriptor yJ7_fill_53178.desc).map (fun d => d.parameters.length) = some 2 := by decide +kernel
set_option maxRecDepth 100000 in
set_option maxHeartbeats 4000000 in
theorem pJ7_fill_53178_5 {p : Program} (l : Launch) {e : Env} {s : State} {m : MethodId} {args : Array Value} {below : List Frame} {meth : Method} {c : Code} {Q : State → Prop} {D : va_G} {cy : Nat → ClassId} {A : Nat → Prop} (X : Cx p s m args c cJ7_fill_53178 4 RJ7 wsJ7_fill_53178 D (tyL cy) A) (a_p0 : Nat) (n_p0 : Nat) (v1 : Int32) (v3 : Int32) (K : (Nat → Int32) → Int32 → Prop) (hK : ∀ (p0 : Nat → Int32) (v2 : Int32), K p0 v2 → Go p l e rm_J7_fill_53178 s m args below meth c Q 4 D A [(a_p0, .inl (cy 1, n_p0, .inl p0))] 0 0 20 [] []) :
    ∀ (n : Nat) (p0 : Nat → Int32) (v2 : Int32), wJ7_fill_53178_5 n_p0 v1 v3 K n p0 v2 → Go p l e rm_J7_fill_53178 s m args below meth c Q 4 D A [(a_p0, .inl (cy 1, n_p0, .inl p0))] 0 0 5 [(0, .ref a_p0), (1, .int v1), (2, .int v2), (3, .int v3)] [] := by
  intro n
  induction n with
  | zero => intro p0 v2 h; exact absurd h id
  | succ n ih =>
    intro p0 v2 h
    refine go_iload_n X dJ7_fill_53178_5 2 rfl rfl ?_
    refine go_iload_n X dJ7_fill_53178_6 3 rfl rfl ?_
    refine go_icmp_ge X 20 dJ7_fill_53178_7 (by decide) (fun c4 => ?_) (fun c4 => ?_)
    · replace h := h.1 c4
      refine go_lv [] rfl ?_
      exact hK p0 v2 h
    · replace h := h.2 c4
      refine go_aload_n X dJ7_fill_53178_10 0 rfl rfl ?_
      refine go_iload_n X dJ7_fill_53178_11 2 rfl rfl ?_
      refine go_iload_n X dJ7_fill_53178_12 1 rfl rfl ?_
      obtain ⟨c5, h⟩ := h
      refine go_iast X [(a_p0, .inl (cy 1, n_p0, .inl (upd p0 v2.toNatClampNeg v1)))] 0 1 rfl rfl c5 rfl dJ7_fill_53178_13 ?_
      obtain ⟨y6, ey6⟩ : ∃ z : Int32, z = v2 + 1 := ⟨_, rfl⟩
      replace h := h y6 ey6
      refine go_iinc X (lv' := [(2, .int y6), (0, .ref a_p0), (1, .int v1), (3, .int v3)]) y6 dJ7_fill_53178_14 2 rfl (by rw [ey6]; rfl) (by decide) rfl ?_
      refine go_goto X 5 dJ7_fill_53178_17 (by decide) ?_
      refine go_lv [1, 2, 0, 3] rfl ?_
      exact ih (upd p0 v2.toNatClampNeg v1) y6 h
set_option maxRecDepth 100000 in
set_option maxHeartbeats 4000000 in
theorem kJ7_fill_53178 (l : Launch) (D : va_G) (cy : Nat → ClassId) (a_p0 : Nat) (n_p0 : Nat) (p0 : Nat → Int32) (p1 : Int32) (post : (Nat → Int32) → Prop) (h : wJ7_fill_53178 n_p0 p0 p1 post) : MetV l yJ7_fill_53178 wsJ7_fill_53178 rm_J7_fill_53178 D (tyL cy) [.ref a_p0, .int p1] [(a_p0, .inl (cy 1, n_p0, .inl p0))] (fun u : (Nat → Int32) => [(a_p0, .inl (cy 1, n_p0, .inl u))]) (fun (u : (Nat → Int32)) => post u) 0 0 := by
  refine metV_of (cc := cJ7_fill_53178) (maxL := 4) (lv := [(0, .ref a_p0), (1, .int p1)]) (by decide) rfl (Nat.le_of_ble_eq_true rfl) rfl ?_
  intro p e s m below meth c Q A X hlk hnm hR
  unfold wJ7_fill_53178 at h
  refine go_iconst X (v := 0) dJ7_fill_53178_0 (by decide) ?_
  refine go_istore_n X (lv' := [(2, .int 0), (0, .ref a_p0), (1, .int p1)]) dJ7_fill_53178_1 rfl (by decide) rfl ?_
  refine go_aload_n X dJ7_fill_53178_2 1 rfl rfl ?_
  refine go_alen X 0 1 rfl rfl dJ7_fill_53178_3 ?_
  refine go_topi (fun y1 ey1 => ?_)
  replace h := h y1 ey1
  refine go_istore_n X (lv' := [(3, .int y1), (2, .int 0), (0, .ref a_p0), (1, .int p1)]) dJ7_fill_53178_4 rfl (by decide) rfl ?_
  obtain ⟨n7, h⟩ := h
  refine go_lv [2, 3, 1, 0] rfl ?_
  refine pJ7_fill_53178_5 l X a_p0 n_p0 p1 y1  _ (fun s2 y3 h => ?_) n7 p0 (0 : Int32) h
  exact hR s2 20 _ dJ7_fill_53178_20 h
/-! X4_length -/
theorem fi_X4_length_X4 : ∀ w ∈ u_ws RX4 TX4 2, w ∈ wsX4_length := by decide +kernel
theorem fl_X4_length_19 : Cond.fieldLink RX4 19 (TX4 1).1 (TX4 1).2.1 (TX4 1).2.2.1 ∈ wsX4_length := by decide +kernel
def rm_X4_length : Room := { frames := 0, cells := 0, slots := 0, locals := 0 }
theorem cd_X4_length : yX4_length.cls = RX4 ∧ yX4_length.cls ≠ "java/lang/invoke/MethodHandle" ∧ yX4_length.cls ≠ "java/lang/invoke/VarHandle" ∧ (parseMethodDescriptor yX4_length.desc).map (fun d => d.parameters.length) = some 0 := by decide +kernel
set_option maxRecDepth 100000 in
set_option maxHeartbeats 4000000 in
theorem kX4_length (l : Launch) (D : va_G) (cy : Nat → ClassId) (a_o : Nat) (a_o_bytes : Nat) (o_length : Int32) (post : Int32 → Prop) (h : wX4_length o_length post) : MetI l yX4_length wsX4_length rm_X4_length D (tyL cy) [.ref a_o] [(a_o, .inr (7, [.ref a_o_bytes, .int o_length]))] (fun u : Unit => [(a_o, .inr (7, [.ref a_o_bytes, .int o_length]))]) (fun r => fun (u : Unit) => post r ) 0 0 := by
  refine metI_of (cc := cX4_length) (maxL := 1) (lv := [(0, .ref a_o)]) (by decide) rfl (Nat.le_of_ble_eq_true rfl) rfl ?_
  intro p e s m below meth c Q A X hlk hR
  unfold wX4_length at h
  refine go_aload_n X dX4_length_0 0 rfl rfl ?_
  refine go_get X fi_X4_length_X4 0 rfl rfl 1 (by decide) fl_X4_length_19 rfl dX4_length_1 ?_
  exact hR o_length () 4 _ dX4_length_4 rfl h
/-! X4_has -/
theorem fi_X4_has_X4 : ∀ w ∈ u_ws RX4 TX4 2, w ∈ wsX4_has := by decide +kernel
theorem fl_X4_has_19 : Cond.fieldLink RX4 19 (TX4 1).1 (TX4 1).2.1 (TX4 1).2.2.1 ∈ wsX4_has := by decide +kernel
def rm_X4_has : Room := { frames := 0, cells := 0, slots := 0, locals := 0 }
theorem cd_X4_has : yX4_has.cls = RX4 ∧ yX4_has.cls ≠ "java/lang/invoke/MethodHandle" ∧ yX4_has.cls ≠ "java/lang/invoke/VarHandle" ∧ (parseMethodDescriptor yX4_has.desc).map (fun d => d.parameters.length) = some 1 := by decide +kernel
set_option maxRecDepth 100000 in
set_option maxHeartbeats 4000000 in
theorem kX4_has (l : Launch) (D : va_G) (cy : Nat → ClassId) (a_o : Nat) (a_o_bytes : Nat) (o_length : Int32) (p1 : Int32) (post : Int32 → Prop) (h : wX4_has o_length p1 post) : MetI l yX4_has wsX4_has rm_X4_has D (tyL cy) [.ref a_o, .int p1] [(a_o, .inr (7, [.ref a_o_bytes, .int o_length]))] (fun u : Unit => [(a_o, .inr (7, [.ref a_o_bytes, .int o_length]))]) (fun r => fun (u : Unit) => post r ) 0 0 := by
  refine metI_of (cc := cX4_has) (maxL := 2) (lv := [(0, .ref a_o), (1, .int p1)]) (by decide) rfl (Nat.le_of_ble_eq_true rfl) rfl ?_
  intro p e s m below meth c Q A X hlk hR
  unfold wX4_has at h
  refine go_iload_n X dX4_has_0 1 rfl rfl ?_
  refine go_if_lt X 16 dX4_has_1 (by decide) (fun c1 => ?_) (fun c1 => ?_)
  · replace h := h.1 c1
    refine go_iconst X (v := 0) dX4_has_16 (by decide) ?_
    exact hR 0 () 17 _ dX4_has_17 rfl h
  · replace h := h.2 c1
    refine go_iload_n X dX4_has_4 1 rfl rfl ?_
    refine go_aload_n X dX4_has_5 0 rfl rfl ?_
    refine go_get X fi_X4_has_X4 0 rfl rfl 1 (by decide) fl_X4_has_19 rfl dX4_has_6 ?_
    refine go_icmp_ge X 16 dX4_has_9 (by decide) (fun c2 => ?_) (fun c2 => ?_)
    · replace h := h.1 c2
      refine go_iconst X (v := 0) dX4_has_16 (by decide) ?_
      exact hR 0 () 17 _ dX4_has_17 rfl h
    · replace h := h.2 c2
      refine go_iconst X (v := 1) dX4_has_12 (by decide) ?_
      refine go_goto X 17 dX4_has_13 (by decide) ?_
      exact hR 1 () 17 _ dX4_has_17 rfl h
/-! X4_hasRoom -/
theorem fi_X4_hasRoom_X4 : ∀ w ∈ u_ws RX4 TX4 2, w ∈ wsX4_hasRoom := by decide +kernel
theorem fl_X4_hasRoom_13 : Cond.fieldLink RX4 13 (TX4 0).1 (TX4 0).2.1 (TX4 0).2.2.1 ∈ wsX4_hasRoom := by decide +kernel
theorem fl_X4_hasRoom_19 : Cond.fieldLink RX4 19 (TX4 1).1 (TX4 1).2.1 (TX4 1).2.2.1 ∈ wsX4_hasRoom := by decide +kernel
def rm_X4_hasRoom : Room := { frames := 0, cells := 0, slots := 0, locals := 0 }
theorem cd_X4_hasRoom : yX4_hasRoom.cls = RX4 ∧ yX4_hasRoom.cls ≠ "java/lang/invoke/MethodHandle" ∧ yX4_hasRoom.cls ≠ "java/lang/invoke/VarHandle" ∧ (parseMethodDescriptor yX4_hasRoom.desc).map (fun d => d.parameters.length) = some 1 := by decide +kernel
set_option maxRecDepth 100000 in
set_option maxHeartbeats 4000000 in
theorem kX4_hasRoom (l : Launch) (D : va_G) (cy : Nat → ClassId) (a_o : Nat) (a_o_bytes : Nat) (n_o_bytes : Nat) (o_length : Int32) (o_bytes : Nat → Int32) (p1 : Int32) (post : Int32 → Prop) (h : wX4_hasRoom n_o_bytes o_length p1 post) : MetI l yX4_hasRoom wsX4_hasRoom rm_X4_hasRoom D (tyL cy) [.ref a_o, .int p1] [(a_o, .inr (7, [.ref a_o_bytes, .int o_length])), (a_o_bytes, .inl (cy 0, n_o_bytes, .inl o_bytes))] (fun u : Unit => [(a_o, .inr (7, [.ref a_o_bytes, .int o_length])), (a_o_bytes, .inl (cy 0, n_o_bytes, .inl o_bytes))]) (fun r => fun (u : Unit) => post r ) 0 0 := by
  refine metI_of (cc := cX4_hasRoom) (maxL := 2) (lv := [(0, .ref a_o), (1, .int p1)]) (by decide) rfl (Nat.le_of_ble_eq_true rfl) rfl ?_
  intro p e s m below meth c Q A X hlk hR
  unfold wX4_hasRoom at h
  refine go_iload_n X dX4_hasRoom_0 1 rfl rfl ?_
  refine go_aload_n X dX4_hasRoom_1 0 rfl rfl ?_
  refine go_get X fi_X4_hasRoom_X4 0 rfl rfl 0 (by decide) fl_X4_hasRoom_13 rfl dX4_hasRoom_2 ?_
  refine go_alen X 1 0 rfl rfl dX4_hasRoom_5 ?_
  refine go_aload_n X dX4_hasRoom_6 0 rfl rfl ?_
  refine go_get X fi_X4_hasRoom_X4 0 rfl rfl 1 (by decide) fl_X4_hasRoom_19 rfl dX4_hasRoom_7 ?_
  refine go_isub X dX4_hasRoom_10 ?_
  refine go_icmp_gt X 18 dX4_hasRoom_11 (by decide) (fun c1 => ?_) (fun c1 => ?_)
  · replace h := h.1 c1
    refine go_iconst X (v := 0) dX4_hasRoom_18 (by decide) ?_
    exact hR 0 () 19 _ dX4_hasRoom_19 rfl h
  · replace h := h.2 c1
    refine go_iconst X (v := 1) dX4_hasRoom_14 (by decide) ?_
    refine go_goto X 19 dX4_hasRoom_15 (by decide) ?_
    exact hR 1 () 19 _ dX4_hasRoom_19 rfl h
/-! X4_signedAt -/
theorem fi_X4_signedAt_X4 : ∀ w ∈ u_ws RX4 TX4 2, w ∈ wsX4_signedAt := by decide +kernel
theorem fl_X4_signedAt_13 : Cond.fieldLink RX4 13 (TX4 0).1 (TX4 0).2.1 (TX4 0).2.2.1 ∈ wsX4_signedAt := by decide +kernel
def rm_X4_signedAt : Room := { frames := 1, cells := 0, slots := 0, locals := 21 }
theorem cd_X4_signedAt : yX4_signedAt.cls = RX4 ∧ yX4_signedAt.cls ≠ "java/lang/invoke/MethodHandle" ∧ yX4_signedAt.cls ≠ "java/lang/invoke/VarHandle" ∧ (parseMethodDescriptor yX4_signedAt.desc).map (fun d => d.parameters.length) = some 1 := by decide +kernel
set_option maxRecDepth 100000 in
set_option maxHeartbeats 4000000 in
theorem kX4_signedAt (l : Launch) (D : va_G) (cy : Nat → ClassId) (a_o : Nat) (a_o_bytes : Nat) (n_o_bytes : Nat) (o_length : Int32) (o_bytes : Nat → Int32) (p1 : Int32) (post : Int32 → Prop) (h : wX4_signedAt n_o_bytes o_length o_bytes p1 post) : MetI l yX4_signedAt wsX4_signedAt rm_X4_signedAt D (tyL cy) [.ref a_o, .int p1] [(a_o, .inr (7, [.ref a_o_bytes, .int o_length])), (a_o_bytes, .inl (cy 0, n_o_bytes, .inl o_bytes))] (fun u : Unit => [(a_o, .inr (7, [.ref a_o_bytes, .int o_length])), (a_o_bytes, .inl (cy 0, n_o_bytes, .inl o_bytes))]) (fun r => fun (u : Unit) => post r ) 0 0 := by
  refine metI_of (cc := cX4_signedAt) (maxL := 2) (lv := [(0, .ref a_o), (1, .int p1)]) (by decide) rfl (Nat.le_of_ble_eq_true rfl) rfl ?_
  intro p e s m below meth c Q A X hlk hR
  unfold wX4_signedAt at h
  refine go_aload_n X dX4_signedAt_0 0 rfl rfl ?_
  refine go_iload_n X dX4_signedAt_1 1 rfl rfl ?_
  refine go_callVi X (kX4_has l D cy a_o a_o_bytes o_length p1 _ h) (cwV 1 X.2.2.2.2.1 gX4_signedAt_X4_has rfl rfl rfl cd_X4_has ⟨by decide, by decide⟩) (wr := [(a_o_bytes, .inl (cy 0, n_o_bytes, .inl o_bytes))]) (ws2 := fun u => [(a_o, .inr (7, [.ref a_o_bytes, .int o_length])), (a_o_bytes, .inl (cy 0, n_o_bytes, .inl o_bytes))]) (perm_idx [0, 1] rfl rfl) (fun u => perm_idx [0, 1] rfl rfl) rfl rfl rfl rfl (Nat.le_of_ble_eq_true rfl) dX4_signedAt_2 ⟨by decide, by decide⟩ (fun r1 u h => ?_)
  refine go_if_eq X 17 dX4_signedAt_5 (by decide) (fun c2 => ?_) (fun c2 => ?_)
  · replace h := h.1 c2
    refine go_iconst X (v := 0) dX4_signedAt_17 (by decide) ?_
    exact hR 0 () 18 _ dX4_signedAt_18 rfl h
  · replace h := h.2 c2
    refine go_aload_n X dX4_signedAt_8 0 rfl rfl ?_
    refine go_get X fi_X4_signedAt_X4 0 rfl rfl 0 (by decide) fl_X4_signedAt_13 rfl dX4_signedAt_9 ?_
    refine go_iload_n X dX4_signedAt_12 1 rfl rfl ?_
    obtain ⟨c3, h⟩ := h
    refine go_bald X 1 0 rfl rfl c3 dX4_signedAt_13 ?_
    refine go_goto X 18 dX4_signedAt_14 (by decide) ?_
    exact hR (o_bytes p1.toNatClampNeg) () 18 _ dX4_signedAt_18 h.1 h.2
/-! X4_at -/
def rm_X4_at : Room := { frames := 2, cells := 0, slots := 0, locals := 42 }
theorem cd_X4_at : yX4_at.cls = RX4 ∧ yX4_at.cls ≠ "java/lang/invoke/MethodHandle" ∧ yX4_at.cls ≠ "java/lang/invoke/VarHandle" ∧ (parseMethodDescriptor yX4_at.desc).map (fun d => d.parameters.length) = some 1 := by decide +kernel
set_option maxRecDepth 100000 in
set_option maxHeartbeats 4000000 in
theorem kX4_at (l : Launch) (D : va_G) (cy : Nat → ClassId) (a_o : Nat) (a_o_bytes : Nat) (n_o_bytes : Nat) (o_length : Int32) (o_bytes : Nat → Int32) (p1 : Int32) (post : Int32 → Prop) (h : wX4_at n_o_bytes o_length o_bytes p1 post) : MetI l yX4_at wsX4_at rm_X4_at D (tyL cy) [.ref a_o, .int p1] [(a_o, .inr (7, [.ref a_o_bytes, .int o_length])), (a_o_bytes, .inl (cy 0, n_o_bytes, .inl o_bytes))] (fun u : Unit => [(a_o, .inr (7, [.ref a_o_bytes, .int o_length])), (a_o_bytes, .inl (cy 0, n_o_bytes, .inl o_bytes))]) (fun r => fun (u : Unit) => post r ) 0 0 := by
  refine metI_of (cc := cX4_at) (maxL := 2) (lv := [(0, .ref a_o), (1, .int p1)]) (by decide) rfl (Nat.le_of_ble_eq_true rfl) rfl ?_
  intro p e s m below meth c Q A X hlk hR
  unfold wX4_at at h
  refine go_aload_n X dX4_at_0 0 rfl rfl ?_
  refine go_iload_n X dX4_at_1 1 rfl rfl ?_
  refine go_callVi X (kX4_signedAt l D cy a_o a_o_bytes n_o_bytes o_length o_bytes p1 _ h) (cwV 1 X.2.2.2.2.1 gX4_at_X4_signedAt rfl rfl rfl cd_X4_signedAt ⟨by decide, by decide⟩) (wr := []) (ws2 := fun u => [(a_o, .inr (7, [.ref a_o_bytes, .int o_length])), (a_o_bytes, .inl (cy 0, n_o_bytes, .inl o_bytes))]) (perm_idx [0, 1] rfl rfl) (fun u => perm_idx [0, 1] rfl rfl) rfl rfl rfl rfl (Nat.le_of_ble_eq_true rfl) dX4_at_2 ⟨by decide, by decide⟩ (fun r1 u h => ?_)
  refine go_sipush X (v := 255) dX4_at_5 (by decide) ?_
  refine go_iand X dX4_at_8 ?_
  exact hR (r1 &&& 255) () 9 _ dX4_at_9 rfl h
/-! X4_clear -/
theorem fi_X4_clear_X4 : ∀ w ∈ u_ws RX4 TX4 2, w ∈ wsX4_clear := by decide +kernel
theorem fl_X4_clear_19 : Cond.fieldLink RX4 19 (TX4 1).1 (TX4 1).2.1 (TX4 1).2.2.1 ∈ wsX4_clear := by decide +kernel
def rm_X4_clear : Room := { frames := 0, cells := 0, slots := 0, locals := 0 }
theorem cd_X4_clear : yX4_clear.cls = RX4 ∧ yX4_clear.cls ≠ "java/lang/invoke/MethodHandle" ∧ yX4_clear.cls ≠ "java/lang/invoke/VarHandle" ∧ (parseMethodDescriptor yX4_clear.desc).map (fun d => d.parameters.length) = some 0 := by decide +kernel
set_option maxRecDepth 100000 in
set_option maxHeartbeats 4000000 in
theorem kX4_clear (l : Launch) (D : va_G) (cy : Nat → ClassId) (a_o : Nat) (a_o_bytes : Nat) (o_length : Int32) (post : Int32 → Prop) (h : wX4_clear  post) : MetV l yX4_clear wsX4_clear rm_X4_clear D (tyL cy) [.ref a_o] [(a_o, .inr (7, [.ref a_o_bytes, .int o_length]))] (fun u : Int32 => [(a_o, .inr (7, [.ref a_o_bytes, .int u]))]) (fun (u : Int32) => post u) 0 0 := by
  refine metV_of (cc := cX4_clear) (maxL := 1) (lv := [(0, .ref a_o)]) (by decide) rfl (Nat.le_of_ble_eq_true rfl) rfl ?_
  intro p e s m below meth c Q A X hlk hnm hR
  unfold wX4_clear at h
  refine go_aload_n X dX4_clear_0 0 rfl rfl ?_
  refine go_iconst X (v := 0) dX4_clear_1 (by decide) ?_
  refine go_put X (ws' := [(a_o, .inr (7, [.ref a_o_bytes, .int 0]))]) fi_X4_clear_X4 tyX4 tyX4_ok nmX4 0 rfl rfl 1 (by decide) fl_X4_clear_19 rfl (tyX4_ok 1 (by decide)) rfl rfl (Nat.le_of_ble_eq_true rfl) rfl dX4_clear_2 ?_
  exact hR 0 5 _ dX4_clear_5 h
/-! X4_add -/
theorem fi_X4_add_X4 : ∀ w ∈ u_ws RX4 TX4 2, w ∈ wsX4_add := by decide +kernel
theorem fl_X4_add_19 : Cond.fieldLink RX4 19 (TX4 1).1 (TX4 1).2.1 (TX4 1).2.2.1 ∈ wsX4_add := by decide +kernel
theorem fl_X4_add_13 : Cond.fieldLink RX4 13 (TX4 0).1 (TX4 0).2.1 (TX4 0).2.2.1 ∈ wsX4_add := by decide +kernel
def rm_X4_add : Room := { frames := 0, cells := 0, slots := 0, locals := 0 }
theorem cd_X4_add : yX4_add.cls = RX4 ∧ yX4_add.cls ≠ "java/lang/invoke/MethodHandle" ∧ yX4_add.cls ≠ "java/lang/invoke/VarHandle" ∧ (parseMethodDescriptor yX4_add.desc).map (fun d => d.parameters.length) = some 1 := by decide +kernel
set_option maxRecDepth 100000 in
set_option maxHeartbeats 4000000 in
theorem kX4_add (l : Launch) (D : va_G) (cy : Nat → ClassId) (a_o : Nat) (a_o_bytes : Nat) (n_o_bytes : Nat) (o_length : Int32) (o_bytes : Nat → Int32) (p1 : Int32) (post : Int32 → (Nat → Int32) → Prop) (h : wX4_add n_o_bytes o_length o_bytes p1 post) : MetV l yX4_add wsX4_add rm_X4_add D (tyL cy) [.ref a_o, .int p1] [(a_o, .inr (7, [.ref a_o_bytes, .int o_length])), (a_o_bytes, .inl (cy 0, n_o_bytes, .inl o_bytes))] (fun u : Int32 × (Nat → Int32) => [(a_o, .inr (7, [.ref a_o_bytes, .int u.1])), (a_o_bytes, .inl (cy 0, n_o_bytes, .inl u.2))]) (fun (u : Int32 × (Nat → Int32)) => post u.1 u.2) 0 0 := by
  refine metV_of (cc := cX4_add) (maxL := 2) (lv := [(0, .ref a_o), (1, .int p1)]) (by decide) rfl (Nat.le_of_ble_eq_true rfl) rfl ?_
  intro p e s m below meth c Q A X hlk hnm hR
  unfold wX4_add at h
  refine go_aload_n X dX4_add_0 0 rfl rfl ?_
  refine go_get X fi_X4_add_X4 0 rfl rfl 1 (by decide) fl_X4_add_19 rfl dX4_add_1 ?_
  refine go_aload_n X dX4_add_4 0 rfl rfl ?_
  refine go_get X fi_X4_add_X4 0 rfl rfl 0 (by decide) fl_X4_add_13 rfl dX4_add_5 ?_
  refine go_alen X 1 0 rfl rfl dX4_add_8 ?_
  refine go_icmp_ge X 33 dX4_add_9 (by decide) (fun c1 => ?_) (fun c1 => ?_)
  · replace h := h.1 c1
    exact hR (o_length, o_bytes) 33 _ dX4_add_33 h
  · replace h := h.2 c1
    refine go_aload_n X dX4_add_12 0 rfl rfl ?_
    refine go_get X fi_X4_add_X4 0 rfl rfl 0 (by decide) fl_X4_add_13 rfl dX4_add_13 ?_
    refine go_aload_n X dX4_add_16 0 rfl rfl ?_
    refine go_get X fi_X4_add_X4 0 rfl rfl 1 (by decide) fl_X4_add_19 rfl dX4_add_17 ?_
    refine go_iload_n X dX4_add_20 1 rfl rfl ?_
    refine go_i2b X dX4_add_21 ?_
    obtain ⟨c2, h⟩ := h
    refine go_bast X [(a_o, .inr (7, [.ref a_o_bytes, .int o_length])), (a_o_bytes, .inl (cy 0, n_o_bytes, .inl (upd o_bytes o_length.toNatClampNeg (vp_nar .byte p1.toInt8.toInt32))))] 1 0 rfl rfl c2 rfl dX4_add_22 ?_
    refine go_aload_n X dX4_add_23 0 rfl rfl ?_
    refine go_dup X dX4_add_24 rfl ?_
    refine go_get X fi_X4_add_X4 0 rfl rfl 1 (by decide) fl_X4_add_19 rfl dX4_add_25 ?_
    refine go_iconst X (v := 1) dX4_add_28 (by decide) ?_
    refine go_iadd X dX4_add_29 ?_
    refine go_topi (fun y3 ey3 => ?_)
    replace h := h y3 ey3
    refine go_put X (ws' := [(a_o, .inr (7, [.ref a_o_bytes, .int y3])), (a_o_bytes, .inl (cy 0, n_o_bytes, .inl (upd o_bytes o_length.toNatClampNeg (vp_nar .byte p1.toInt8.toInt32))))]) fi_X4_add_X4 tyX4 tyX4_ok nmX4 0 rfl rfl 1 (by decide) fl_X4_add_19 rfl (tyX4_ok 1 (by decide)) rfl rfl (Nat.le_of_ble_eq_true rfl) rfl dX4_add_30 ?_
    exact hR (y3, (upd o_bytes o_length.toNatClampNeg (vp_nar .byte p1.toInt8.toInt32))) 33 _ dX4_add_33 h
/-! X4_addFrom -/
def rm_X4_addFrom : Room := { frames := 2, cells := 0, slots := 0, locals := 42 }
theorem cd_X4_addFrom : yX4_addFrom.cls = RX4 ∧ yX4_addFrom.cls ≠ "java/lang/invoke/MethodHandle" ∧ yX4_addFrom.cls ≠ "java/lang/invoke/VarHandle" ∧ (parseMethodDescriptor yX4_addFrom.desc).map (fun d => d.parameters.length) = some 3 := by decide +kernel
set_option maxRecDepth 100000 in
set_option maxHeartbeats 4000000 in
theorem pX4_addFrom_3 {p : Program} (l : Launch) {e : Env} {s : State} {m : MethodId} {args : Array Value} {below : List Frame} {meth : Method} {c : Code} {Q : State → Prop} {D : va_G} {cy : Nat → ClassId} {A : Nat → Prop} (X : Cx p s m args c cX4_addFrom 5 RX4 wsX4_addFrom D (tyL cy) A) (a_o : Nat) (a_o_bytes : Nat) (n_o_bytes : Nat) (a_p1 : Nat) (a_p1_bytes : Nat) (n_p1_bytes : Nat) (p1_length : Int32) (p1_bytes : Nat → Int32) (v2 : Int32) (v3 : Int32) (K : Int32 → (Nat → Int32) → Int32 → Prop) (hK : ∀ (o_length : Int32) (o_bytes : Nat → Int32) (v4 : Int32), K o_length o_bytes v4 → Go p l e rm_X4_addFrom s m args below meth c Q 5 D A [(a_o, .inr (7, [.ref a_o_bytes, .int o_length])), (a_o_bytes, .inl (cy 0, n_o_bytes, .inl o_bytes)), (a_p1, .inr (7, [.ref a_p1_bytes, .int p1_length])), (a_p1_bytes, .inl (cy 0, n_p1_bytes, .inl p1_bytes))] 0 0 27 [] []) :
    ∀ (n : Nat) (o_length : Int32) (o_bytes : Nat → Int32) (v4 : Int32), wX4_addFrom_3 n_o_bytes n_p1_bytes p1_length p1_bytes v2 v3 K n o_length o_bytes v4 → Go p l e rm_X4_addFrom s m args below meth c Q 5 D A [(a_o, .inr (7, [.ref a_o_bytes, .int o_length])), (a_o_bytes, .inl (cy 0, n_o_bytes, .inl o_bytes)), (a_p1, .inr (7, [.ref a_p1_bytes, .int p1_length])), (a_p1_bytes, .inl (cy 0, n_p1_bytes, .inl p1_bytes))] 0 0 3 [(0, .ref a_o), (1, .ref a_p1), (2, .int v2), (3, .int v3), (4, .int v4)] [] := by
  intro n
  induction n with
  | zero => intro o_length o_bytes v4 h; exact absurd h id
  | succ n ih =>
    intro o_length o_bytes v4 h
    refine go_iload X dX4_addFrom_3 4 rfl ?_
    refine go_iload_n X dX4_addFrom_5 3 rfl rfl ?_
    refine go_icmp_ge X 27 dX4_addFrom_6 (by decide) (fun c4 => ?_) (fun c4 => ?_)
    · replace h := h.1 c4
      refine go_lv [] rfl ?_
      exact hK o_length o_bytes v4 h
    · replace h := h.2 c4
      refine go_aload_n X dX4_addFrom_9 0 rfl rfl ?_
      refine go_aload_n X dX4_addFrom_10 1 rfl rfl ?_
      refine go_iload_n X dX4_addFrom_11 2 rfl rfl ?_
      refine go_iload X dX4_addFrom_12 4 rfl ?_
      refine go_iadd X dX4_addFrom_14 ?_
      refine go_callVi X (kX4_signedAt l D cy a_p1 a_p1_bytes n_p1_bytes p1_length p1_bytes (v2 + v4) _ h) (cwV 1 X.2.2.2.2.1 gX4_addFrom_X4_signedAt rfl rfl rfl cd_X4_signedAt ⟨by decide, by decide⟩) (wr := [(a_o, .inr (7, [.ref a_o_bytes, .int o_length])), (a_o_bytes, .inl (cy 0, n_o_bytes, .inl o_bytes))]) (ws2 := fun u => [(a_o, .inr (7, [.ref a_o_bytes, .int o_length])), (a_o_bytes, .inl (cy 0, n_o_bytes, .inl o_bytes)), (a_p1, .inr (7, [.ref a_p1_bytes, .int p1_length])), (a_p1_bytes, .inl (cy 0, n_p1_bytes, .inl p1_bytes))]) (perm_idx [2, 3, 0, 1] rfl rfl) (fun u => perm_idx [2, 3, 0, 1] rfl rfl) rfl rfl rfl rfl (Nat.le_of_ble_eq_true rfl) dX4_addFrom_15 ⟨by decide, by decide⟩ (fun r5 u h => ?_)
      refine go_callVv X (kX4_add l D cy a_o a_o_bytes n_o_bytes o_length o_bytes r5 _ h) (cwV 1 X.2.2.2.2.1 gX4_addFrom_X4_add rfl rfl rfl cd_X4_add ⟨by decide, by decide⟩) (wr := [(a_p1, .inr (7, [.ref a_p1_bytes, .int p1_length])), (a_p1_bytes, .inl (cy 0, n_p1_bytes, .inl p1_bytes))]) (ws2 := fun u => [(a_o, .inr (7, [.ref a_o_bytes, .int u.1])), (a_o_bytes, .inl (cy 0, n_o_bytes, .inl u.2)), (a_p1, .inr (7, [.ref a_p1_bytes, .int p1_length])), (a_p1_bytes, .inl (cy 0, n_p1_bytes, .inl p1_bytes))]) (perm_idx [0, 1, 2, 3] rfl rfl) (fun u => perm_idx [0, 1, 2, 3] rfl rfl) rfl rfl rfl rfl (Nat.le_of_ble_eq_true rfl) dX4_addFrom_18 ⟨by decide, by decide⟩ (fun u h => ?_)
      obtain ⟨s6, s7⟩ := u
      obtain ⟨y8, ey8⟩ : ∃ z : Int32, z = v4 + 1 := ⟨_, rfl⟩
      replace h := h y8 ey8
      refine go_iinc X (lv' := [(4, .int y8), (0, .ref a_o), (1, .ref a_p1), (2, .int v2), (3, .int v3)]) y8 dX4_addFrom_21 4 rfl (by rw [ey8]; rfl) (by decide) rfl ?_
      refine go_goto X 3 dX4_addFrom_24 (by decide) ?_
      refine go_lv [1, 2, 3, 4, 0] rfl ?_
      exact ih s6 s7 y8 h
set_option maxRecDepth 100000 in
set_option maxHeartbeats 4000000 in
theorem kX4_addFrom (l : Launch) (D : va_G) (cy : Nat → ClassId) (a_o : Nat) (a_o_bytes : Nat) (n_o_bytes : Nat) (a_p1 : Nat) (a_p1_bytes : Nat) (n_p1_bytes : Nat) (o_length : Int32) (o_bytes : Nat → Int32) (p1_length : Int32) (p1_bytes : Nat → Int32) (p2 : Int32) (p3 : Int32) (post : Int32 → (Nat → Int32) → Prop) (h : wX4_addFrom n_o_bytes n_p1_bytes o_length o_bytes p1_length p1_bytes p2 p3 post) : MetV l yX4_addFrom wsX4_addFrom rm_X4_addFrom D (tyL cy) [.ref a_o, .ref a_p1, .int p2, .int p3] [(a_o, .inr (7, [.ref a_o_bytes, .int o_length])), (a_o_bytes, .inl (cy 0, n_o_bytes, .inl o_bytes)), (a_p1, .inr (7, [.ref a_p1_bytes, .int p1_length])), (a_p1_bytes, .inl (cy 0, n_p1_bytes, .inl p1_bytes))] (fun u : Int32 × (Nat → Int32) => [(a_o, .inr (7, [.ref a_o_bytes, .int u.1])), (a_o_bytes, .inl (cy 0, n_o_bytes, .inl u.2)), (a_p1, .inr (7, [.ref a_p1_bytes, .int p1_length])), (a_p1_bytes, .inl (cy 0, n_p1_bytes, .inl p1_bytes))]) (fun (u : Int32 × (Nat → Int32)) => post u.1 u.2) 0 0 := by
  refine metV_of (cc := cX4_addFrom) (maxL := 5) (lv := [(0, .ref a_o), (1, .ref a_p1), (2, .int p2), (3, .int p3)]) (by decide) rfl (Nat.le_of_ble_eq_true rfl) rfl ?_
  intro p e s m below meth c Q A X hlk hnm hR
  unfold wX4_addFrom at h
  refine go_iconst X (v := 0) dX4_addFrom_0 (by decide) ?_
  refine go_istore X (lv' := [(4, .int 0), (0, .ref a_o), (1, .ref a_p1), (2, .int p2), (3, .int p3)]) dX4_addFrom_1 (by decide) rfl ?_
  obtain ⟨n9, h⟩ := h
  refine go_lv [1, 2, 3, 4, 0] rfl ?_
  refine pX4_addFrom_3 l X a_o a_o_bytes n_o_bytes a_p1 a_p1_bytes n_p1_bytes p1_length p1_bytes p2 p3  _ (fun s1 s2 y3 h => ?_) n9 o_length o_bytes (0 : Int32) h
  exact hR (s1, s2) 27 _ dX4_addFrom_27 h
/-! X4_become -/
theorem fi_X4_become_X4 : ∀ w ∈ u_ws RX4 TX4 2, w ∈ wsX4_become := by decide +kernel
theorem fl_X4_become_19 : Cond.fieldLink RX4 19 (TX4 1).1 (TX4 1).2.1 (TX4 1).2.2.1 ∈ wsX4_become := by decide +kernel
def rm_X4_become : Room := { frames := 3, cells := 0, slots := 0, locals := 66 }
theorem cd_X4_become : yX4_become.cls = RX4 ∧ yX4_become.cls ≠ "java/lang/invoke/MethodHandle" ∧ yX4_become.cls ≠ "java/lang/invoke/VarHandle" ∧ (parseMethodDescriptor yX4_become.desc).map (fun d => d.parameters.length) = some 1 := by decide +kernel
set_option maxRecDepth 100000 in
set_option maxHeartbeats 4000000 in
theorem kX4_become (l : Launch) (D : va_G) (cy : Nat → ClassId) (a_o : Nat) (a_o_bytes : Nat) (n_o_bytes : Nat) (a_p1 : Nat) (a_p1_bytes : Nat) (n_p1_bytes : Nat) (o_length : Int32) (o_bytes : Nat → Int32) (p1_length : Int32) (p1_bytes : Nat → Int32) (post : Int32 → (Nat → Int32) → Prop) (h : wX4_become n_o_bytes n_p1_bytes o_bytes p1_length p1_bytes post) : MetV l yX4_become wsX4_become rm_X4_become D (tyL cy) [.ref a_o, .ref a_p1] [(a_o, .inr (7, [.ref a_o_bytes, .int o_length])), (a_o_bytes, .inl (cy 0, n_o_bytes, .inl o_bytes)), (a_p1, .inr (7, [.ref a_p1_bytes, .int p1_length])), (a_p1_bytes, .inl (cy 0, n_p1_bytes, .inl p1_bytes))] (fun u : Int32 × (Nat → Int32) => [(a_o, .inr (7, [.ref a_o_bytes, .int u.1])), (a_o_bytes, .inl (cy 0, n_o_bytes, .inl u.2)), (a_p1, .inr (7, [.ref a_p1_bytes, .int p1_length])), (a_p1_bytes, .inl (cy 0, n_p1_bytes, .inl p1_bytes))]) (fun (u : Int32 × (Nat → Int32)) => post u.1 u.2) 0 0 := by
  refine metV_of (cc := cX4_become) (maxL := 2) (lv := [(0, .ref a_o), (1, .ref a_p1)]) (by decide) rfl (Nat.le_of_ble_eq_true rfl) rfl ?_
  intro p e s m below meth c Q A X hlk hnm hR
  unfold wX4_become at h
  refine go_aload_n X dX4_become_0 0 rfl rfl ?_
  refine go_callVv X (kX4_clear l D cy a_o a_o_bytes o_length _ h) (cwV 0 X.2.2.2.2.1 gX4_become_X4_clear rfl rfl rfl cd_X4_clear ⟨by decide, by decide⟩) (wr := [(a_o_bytes, .inl (cy 0, n_o_bytes, .inl o_bytes)), (a_p1, .inr (7, [.ref a_p1_bytes, .int p1_length])), (a_p1_bytes, .inl (cy 0, n_p1_bytes, .inl p1_bytes))]) (ws2 := fun u => [(a_o, .inr (7, [.ref a_o_bytes, .int u])), (a_o_bytes, .inl (cy 0, n_o_bytes, .inl o_bytes)), (a_p1, .inr (7, [.ref a_p1_bytes, .int p1_length])), (a_p1_bytes, .inl (cy 0, n_p1_bytes, .inl p1_bytes))]) (perm_idx [0, 1, 2, 3] rfl rfl) (fun u => perm_idx [0, 1, 2, 3] rfl rfl) rfl rfl rfl rfl (Nat.le_of_ble_eq_true rfl) dX4_become_1 ⟨by decide, by decide⟩ (fun u h => ?_)
  obtain ⟨s1, rfl⟩ : ∃ z, z = u := ⟨_, rfl⟩
  refine go_aload_n X dX4_become_4 0 rfl rfl ?_
  refine go_aload_n X dX4_become_5 1 rfl rfl ?_
  refine go_iconst X (v := 0) dX4_become_6 (by decide) ?_
  refine go_aload_n X dX4_become_7 1 rfl rfl ?_
  refine go_get X fi_X4_become_X4 2 rfl rfl 1 (by decide) fl_X4_become_19 rfl dX4_become_8 ?_
  refine go_callVv X (kX4_addFrom l D cy a_o a_o_bytes n_o_bytes a_p1 a_p1_bytes n_p1_bytes s1 o_bytes p1_length p1_bytes (0 : Int32) p1_length _ h) (cwV 3 X.2.2.2.2.1 gX4_become_X4_addFrom rfl rfl rfl cd_X4_addFrom ⟨by decide, by decide⟩) (wr := []) (ws2 := fun u => [(a_o, .inr (7, [.ref a_o_bytes, .int u.1])), (a_o_bytes, .inl (cy 0, n_o_bytes, .inl u.2)), (a_p1, .inr (7, [.ref a_p1_bytes, .int p1_length])), (a_p1_bytes, .inl (cy 0, n_p1_bytes, .inl p1_bytes))]) (perm_idx [0, 1, 2, 3] rfl rfl) (fun u => perm_idx [0, 1, 2, 3] rfl rfl) rfl rfl rfl rfl (Nat.le_of_ble_eq_true rfl) dX4_become_11 ⟨by decide, by decide⟩ (fun u h => ?_)
  obtain ⟨s2, s3⟩ := u
  exact hR (s2, s3) 14 _ dX4_become_14 h
/-! X4_cutOut -/
theorem fi_X4_cutOut_X4 : ∀ w ∈ u_ws RX4 TX4 2, w ∈ wsX4_cutOut := by decide +kernel
theorem fl_X4_cutOut_19 : Cond.fieldLink RX4 19 (TX4 1).1 (TX4 1).2.1 (TX4 1).2.2.1 ∈ wsX4_cutOut := by decide +kernel
theorem fl_X4_cutOut_13 : Cond.fieldLink RX4 13 (TX4 0).1 (TX4 0).2.1 (TX4 0).2.2.1 ∈ wsX4_cutOut := by decide +kernel
def rm_X4_cutOut : Room := { frames := 1, cells := 0, slots := 0, locals := 21 }
theorem cd_X4_cutOut : yX4_cutOut.cls = RX4 ∧ yX4_cutOut.cls ≠ "java/lang/invoke/MethodHandle" ∧ yX4_cutOut.cls ≠ "java/lang/invoke/VarHandle" ∧ (parseMethodDescriptor yX4_cutOut.desc).map (fun d => d.parameters.length) = some 2 := by decide +kernel
set_option maxRecDepth 100000 in
set_option maxHeartbeats 4000000 in
theorem pX4_cutOut_34 {p : Program} (l : Launch) {e : Env} {s : State} {m : MethodId} {args : Array Value} {below : List Frame} {meth : Method} {c : Code} {Q : State → Prop} {D : va_G} {cy : Nat → ClassId} {A : Nat → Prop} (X : Cx p s m args c cX4_cutOut 5 RX4 wsX4_cutOut D (tyL cy) A) (a_o : Nat) (a_o_bytes : Nat) (n_o_bytes : Nat) (v3 : Int32) (K : Int32 → (Nat → Int32) → Int32 → Prop) (hK : ∀ (o_length : Int32) (o_bytes : Nat → Int32) (v4 : Int32), K o_length o_bytes v4 → Go p l e rm_X4_cutOut s m args below meth c Q 5 D A [(a_o, .inr (7, [.ref a_o_bytes, .int o_length])), (a_o_bytes, .inl (cy 0, n_o_bytes, .inl o_bytes))] 0 0 57 [] []) :
    ∀ (n : Nat) (o_length : Int32) (o_bytes : Nat → Int32) (v4 : Int32), wX4_cutOut_34 n_o_bytes v3 K n o_length o_bytes v4 → Go p l e rm_X4_cutOut s m args below meth c Q 5 D A [(a_o, .inr (7, [.ref a_o_bytes, .int o_length])), (a_o_bytes, .inl (cy 0, n_o_bytes, .inl o_bytes))] 0 0 34 [(0, .ref a_o), (3, .int v3), (4, .int v4)] [] := by
  intro n
  induction n with
  | zero => intro o_length o_bytes v4 h; exact absurd h id
  | succ n ih =>
    intro o_length o_bytes v4 h
    refine go_iload X dX4_cutOut_34 2 rfl ?_
    refine go_iload_n X dX4_cutOut_36 1 rfl rfl ?_
    refine go_icmp_ge X 57 dX4_cutOut_37 (by decide) (fun c8 => ?_) (fun c8 => ?_)
    · replace h := h.1 c8
      refine go_lv [] rfl ?_
      exact hK o_length o_bytes v4 h
    · replace h := h.2 c8
      refine go_aload_n X dX4_cutOut_40 0 rfl rfl ?_
      refine go_aload_n X dX4_cutOut_41 0 rfl rfl ?_
      refine go_get X fi_X4_cutOut_X4 0 rfl rfl 0 (by decide) fl_X4_cutOut_13 rfl dX4_cutOut_42 ?_
      refine go_iload X dX4_cutOut_45 2 rfl ?_
      obtain ⟨c9, h⟩ := h
      refine go_bald X 1 0 rfl rfl c9 dX4_cutOut_47 ?_
      refine go_callVv X (kX4_add l D cy a_o a_o_bytes n_o_bytes o_length o_bytes (o_bytes v4.toNatClampNeg) _ h) (cwV 1 X.2.2.2.2.1 gX4_cutOut_X4_add rfl rfl rfl cd_X4_add ⟨by decide, by decide⟩) (wr := []) (ws2 := fun u => [(a_o, .inr (7, [.ref a_o_bytes, .int u.1])), (a_o_bytes, .inl (cy 0, n_o_bytes, .inl u.2))]) (perm_idx [0, 1] rfl rfl) (fun u => perm_idx [0, 1] rfl rfl) rfl rfl rfl rfl (Nat.le_of_ble_eq_true rfl) dX4_cutOut_48 ⟨by decide, by decide⟩ (fun u h => ?_)
      obtain ⟨s10, s11⟩ := u
      obtain ⟨y12, ey12⟩ : ∃ z : Int32, z = v4 + 1 := ⟨_, rfl⟩
      replace h := h y12 ey12
      refine go_iinc X (lv' := [(4, .int y12), (0, .ref a_o), (3, .int v3)]) y12 dX4_cutOut_51 2 rfl (by rw [ey12]; rfl) (by decide) rfl ?_
      refine go_goto X 34 dX4_cutOut_54 (by decide) ?_
      refine go_lv [1, 2, 0] rfl ?_
      exact ih s10 s11 y12 h
set_option maxRecDepth 100000 in
set_option maxHeartbeats 4000000 in
theorem kX4_cutOut (l : Launch) (D : va_G) (cy : Nat → ClassId) (a_o : Nat) (a_o_bytes : Nat) (n_o_bytes : Nat) (o_length : Int32) (o_bytes : Nat → Int32) (p1 : Int32) (p2 : Int32) (post : Int32 → (Nat → Int32) → Prop) (h : wX4_cutOut n_o_bytes o_length o_bytes p1 p2 post) : MetV l yX4_cutOut wsX4_cutOut rm_X4_cutOut D (tyL cy) [.ref a_o, .int p1, .int p2] [(a_o, .inr (7, [.ref a_o_bytes, .int o_length])), (a_o_bytes, .inl (cy 0, n_o_bytes, .inl o_bytes))] (fun u : Int32 × (Nat → Int32) => [(a_o, .inr (7, [.ref a_o_bytes, .int u.1])), (a_o_bytes, .inl (cy 0, n_o_bytes, .inl u.2))]) (fun (u : Int32 × (Nat → Int32)) => post u.1 u.2) 0 0 := by
  refine metV_of (cc := cX4_cutOut) (maxL := 5) (lv := [(0, .ref a_o), (1, .int p1), (2, .int p2)]) (by decide) rfl (Nat.le_of_ble_eq_true rfl) rfl ?_
  intro p e s m below meth c Q A X hlk hnm hR
  unfold wX4_cutOut at h
  refine go_iload_n X dX4_cutOut_0 1 rfl rfl ?_
  refine go_if_lt X 18 dX4_cutOut_1 (by decide) (fun c1 => ?_) (fun c1 => ?_)
  · replace h := h.1 c1
    exact hR (o_length, o_bytes) 18 _ dX4_cutOut_18 h
  · replace h := h.2 c1
    refine go_iload_n X dX4_cutOut_4 2 rfl rfl ?_
    refine go_if_lt X 18 dX4_cutOut_5 (by decide) (fun c2 => ?_) (fun c2 => ?_)
    · replace h := h.1 c2
      exact hR (o_length, o_bytes) 18 _ dX4_cutOut_18 h
    · replace h := h.2 c2
      refine go_iload_n X dX4_cutOut_8 1 rfl rfl ?_
      refine go_iload_n X dX4_cutOut_9 2 rfl rfl ?_
      refine go_iadd X dX4_cutOut_10 ?_
      refine go_aload_n X dX4_cutOut_11 0 rfl rfl ?_
      refine go_get X fi_X4_cutOut_X4 0 rfl rfl 1 (by decide) fl_X4_cutOut_19 rfl dX4_cutOut_12 ?_
      refine go_icmp_le X 19 dX4_cutOut_15 (by decide) (fun c3 => ?_) (fun c3 => ?_)
      · replace h := h.1 c3
        refine go_aload_n X dX4_cutOut_19 0 rfl rfl ?_
        refine go_get X fi_X4_cutOut_X4 0 rfl rfl 1 (by decide) fl_X4_cutOut_19 rfl dX4_cutOut_20 ?_
        refine go_istore_n X (lv' := [(3, .int o_length), (0, .ref a_o), (1, .int p1), (2, .int p2)]) dX4_cutOut_23 rfl (by decide) rfl ?_
        refine go_aload_n X dX4_cutOut_24 1 rfl rfl ?_
        refine go_iload_n X dX4_cutOut_25 2 rfl rfl ?_
        refine go_put X (ws' := [(a_o, .inr (7, [.ref a_o_bytes, .int p1])), (a_o_bytes, .inl (cy 0, n_o_bytes, .inl o_bytes))]) fi_X4_cutOut_X4 tyX4 tyX4_ok nmX4 0 rfl rfl 1 (by decide) fl_X4_cutOut_19 rfl (tyX4_ok 1 (by decide)) rfl rfl (Nat.le_of_ble_eq_true rfl) rfl dX4_cutOut_26 ?_
        refine go_iload_n X dX4_cutOut_29 2 rfl rfl ?_
        refine go_iload_n X dX4_cutOut_30 3 rfl rfl ?_
        refine go_iadd X dX4_cutOut_31 ?_
        refine go_topi (fun y4 ey4 => ?_)
        replace h := h y4 ey4
        refine go_istore X (lv' := [(4, .int y4), (3, .int o_length), (0, .ref a_o), (1, .int p1), (2, .int p2)]) dX4_cutOut_32 (by decide) rfl ?_
        obtain ⟨n13, h⟩ := h
        refine go_lv [2, 1, 0] rfl ?_
        refine pX4_cutOut_34 l X a_o a_o_bytes n_o_bytes o_length  _ (fun s5 s6 y7 h => ?_) n13 p1 o_bytes y4 h
        exact hR (s5, s6) 57 _ dX4_cutOut_57 h
      · replace h := h.2 c3
        exact hR (o_length, o_bytes) 18 _ dX4_cutOut_18 h
/-! X4_copyTo -/
theorem fi_X4_copyTo_X4 : ∀ w ∈ u_ws RX4 TX4 2, w ∈ wsX4_copyTo := by decide +kernel
theorem fl_X4_copyTo_19 : Cond.fieldLink RX4 19 (TX4 1).1 (TX4 1).2.1 (TX4 1).2.2.1 ∈ wsX4_copyTo := by decide +kernel
theorem fw_X4_copyTo_min0 : Cond.methodLink RX4 42 Lib.Math.min.name ∈ wsX4_copyTo := by decide +kernel
theorem fw_X4_copyTo_min1 : Cond.static Lib.Math.min.name ∈ wsX4_copyTo := by decide +kernel
theorem fw_X4_copyTo_min2 : Cond.initialized "java/lang/Math" ∈ wsX4_copyTo := by decide +kernel
theorem fw_X4_copyTo_min3 : Cond.code Lib.Math.min.name Lib.Math.min.code 2 (some .int) ∈ wsX4_copyTo := by decide +kernel
theorem fw_X4_copyTo_max0 : Cond.methodLink RX4 7 Lib.Math.max.name ∈ wsX4_copyTo := by decide +kernel
theorem fw_X4_copyTo_max1 : Cond.static Lib.Math.max.name ∈ wsX4_copyTo := by decide +kernel
theorem fw_X4_copyTo_max2 : Cond.initialized "java/lang/Math" ∈ wsX4_copyTo := by decide +kernel
theorem fw_X4_copyTo_max3 : Cond.code Lib.Math.max.name Lib.Math.max.code 2 (some .int) ∈ wsX4_copyTo := by decide +kernel
theorem fl_X4_copyTo_13 : Cond.fieldLink RX4 13 (TX4 0).1 (TX4 0).2.1 (TX4 0).2.2.1 ∈ wsX4_copyTo := by decide +kernel
def rm_X4_copyTo : Room := { frames := 1, cells := 0, slots := 0, locals := 21 }
theorem cd_X4_copyTo : yX4_copyTo.cls = RX4 ∧ yX4_copyTo.cls ≠ "java/lang/invoke/MethodHandle" ∧ yX4_copyTo.cls ≠ "java/lang/invoke/VarHandle" ∧ (parseMethodDescriptor yX4_copyTo.desc).map (fun d => d.parameters.length) = some 2 := by decide +kernel
set_option maxRecDepth 100000 in
set_option maxHeartbeats 4000000 in
theorem pX4_copyTo_19 {p : Program} (l : Launch) {e : Env} {s : State} {m : MethodId} {args : Array Value} {below : List Frame} {meth : Method} {c : Code} {Q : State → Prop} {D : va_G} {cy : Nat → ClassId} {A : Nat → Prop} (X : Cx p s m args c cX4_copyTo 5 RX4 wsX4_copyTo D (tyL cy) A) (a_o : Nat) (a_o_bytes : Nat) (n_o_bytes : Nat) (a_p1 : Nat) (n_p1 : Nat) (o_length : Int32) (o_bytes : Nat → Int32) (v2 : Int32) (v3 : Int32) (K : (Nat → Int32) → Int32 → Prop) (hK : ∀ (p1 : Nat → Int32) (v4 : Int32), K p1 v4 → Go p l e rm_X4_copyTo s m args below meth c Q 5 D A [(a_o, .inr (7, [.ref a_o_bytes, .int o_length])), (a_o_bytes, .inl (cy 0, n_o_bytes, .inl o_bytes)), (a_p1, .inl (cy 0, n_p1, .inl p1))] 0 0 44 [(2, .int v2), (3, .int v3)] []) :
    ∀ (n : Nat) (p1 : Nat → Int32) (v4 : Int32), wX4_copyTo_19 n_o_bytes n_p1 o_bytes v2 v3 K n p1 v4 → Go p l e rm_X4_copyTo s m args below meth c Q 5 D A [(a_o, .inr (7, [.ref a_o_bytes, .int o_length])), (a_o_bytes, .inl (cy 0, n_o_bytes, .inl o_bytes)), (a_p1, .inl (cy 0, n_p1, .inl p1))] 0 0 19 [(0, .ref a_o), (1, .ref a_p1), (2, .int v2), (3, .int v3), (4, .int v4)] [] := by
  intro n
  induction n with
  | zero => intro p1 v4 h; exact absurd h id
  | succ n ih =>
    intro p1 v4 h
    refine go_iload X dX4_copyTo_19 4 rfl ?_
    refine go_iload_n X dX4_copyTo_21 3 rfl rfl ?_
    refine go_icmp_ge X 44 dX4_copyTo_22 (by decide) (fun c5 => ?_) (fun c5 => ?_)
    · replace h := h.1 c5
      refine go_lv [2, 3] rfl ?_
      exact hK p1 v4 h
    · replace h := h.2 c5
      refine go_aload_n X dX4_copyTo_25 1 rfl rfl ?_
      refine go_iload_n X dX4_copyTo_26 2 rfl rfl ?_
      refine go_iload X dX4_copyTo_27 4 rfl ?_
      refine go_iadd X dX4_copyTo_29 ?_
      refine go_aload_n X dX4_copyTo_30 0 rfl rfl ?_
      refine go_get X fi_X4_copyTo_X4 0 rfl rfl 0 (by decide) fl_X4_copyTo_13 rfl dX4_copyTo_31 ?_
      refine go_iload X dX4_copyTo_34 4 rfl ?_
      obtain ⟨c6, h⟩ := h
      refine go_bald X 1 0 rfl rfl c6 dX4_copyTo_36 ?_
      obtain ⟨c7, h⟩ := h
      refine go_bast X [(a_o, .inr (7, [.ref a_o_bytes, .int o_length])), (a_o_bytes, .inl (cy 0, n_o_bytes, .inl o_bytes)), (a_p1, .inl (cy 0, n_p1, .inl (upd p1 (v2 + v4).toNatClampNeg (vp_nar .byte (o_bytes v4.toNatClampNeg)))))] 2 0 rfl rfl c7 rfl dX4_copyTo_37 ?_
      obtain ⟨y8, ey8⟩ : ∃ z : Int32, z = v4 + 1 := ⟨_, rfl⟩
      replace h := h y8 ey8
      refine go_iinc X (lv' := [(4, .int y8), (0, .ref a_o), (1, .ref a_p1), (2, .int v2), (3, .int v3)]) y8 dX4_copyTo_38 4 rfl (by rw [ey8]; rfl) (by decide) rfl ?_
      refine go_goto X 19 dX4_copyTo_41 (by decide) ?_
      refine go_lv [1, 2, 3, 4, 0] rfl ?_
      exact ih (upd p1 (v2 + v4).toNatClampNeg (vp_nar .byte (o_bytes v4.toNatClampNeg))) y8 h
set_option maxRecDepth 100000 in
set_option maxHeartbeats 4000000 in
theorem kX4_copyTo (l : Launch) (D : va_G) (cy : Nat → ClassId) (a_o : Nat) (a_o_bytes : Nat) (n_o_bytes : Nat) (a_p1 : Nat) (n_p1 : Nat) (o_length : Int32) (o_bytes : Nat → Int32) (p1 : Nat → Int32) (p2 : Int32) (post : Int32 → (Nat → Int32) → Prop) (h : wX4_copyTo n_o_bytes n_p1 o_length o_bytes p1 p2 post) : MetI l yX4_copyTo wsX4_copyTo rm_X4_copyTo D (tyL cy) [.ref a_o, .ref a_p1, .int p2] [(a_o, .inr (7, [.ref a_o_bytes, .int o_length])), (a_o_bytes, .inl (cy 0, n_o_bytes, .inl o_bytes)), (a_p1, .inl (cy 0, n_p1, .inl p1))] (fun u : (Nat → Int32) => [(a_o, .inr (7, [.ref a_o_bytes, .int o_length])), (a_o_bytes, .inl (cy 0, n_o_bytes, .inl o_bytes)), (a_p1, .inl (cy 0, n_p1, .inl u))]) (fun r => fun (u : (Nat → Int32)) => post r u) 0 0 := by
  refine metI_of (cc := cX4_copyTo) (maxL := 5) (lv := [(0, .ref a_o), (1, .ref a_p1), (2, .int p2)]) (by decide) rfl (Nat.le_of_ble_eq_true rfl) rfl ?_
  intro p e s m below meth c Q A X hlk hR
  unfold wX4_copyTo at h
  refine go_aload_n X dX4_copyTo_0 0 rfl rfl ?_
  refine go_get X fi_X4_copyTo_X4 0 rfl rfl 1 (by decide) fl_X4_copyTo_19 rfl dX4_copyTo_1 ?_
  refine go_aload_n X dX4_copyTo_4 1 rfl rfl ?_
  refine go_alen X 2 0 rfl rfl dX4_copyTo_5 ?_
  refine go_iload_n X dX4_copyTo_6 2 rfl rfl ?_
  refine go_isub X dX4_copyTo_7 ?_
  refine go_mmin X fw_X4_copyTo_min0 fw_X4_copyTo_min1 fw_X4_copyTo_min2 fw_X4_copyTo_min3 (by decide) (Nat.le_of_ble_eq_true rfl) (by decide) dX4_copyTo_8 ?_
  refine go_topi (fun y1 ey1 => ?_)
  replace h := h y1 ey1
  refine go_iconst X (v := 0) dX4_copyTo_11 (by decide) ?_
  refine go_mmax X fw_X4_copyTo_max0 fw_X4_copyTo_max1 fw_X4_copyTo_max2 fw_X4_copyTo_max3 (by decide) (Nat.le_of_ble_eq_true rfl) (by decide) dX4_copyTo_12 ?_
  refine go_topi (fun y2 ey2 => ?_)
  replace h := h y2 ey2
  refine go_istore_n X (lv' := [(3, .int y2), (0, .ref a_o), (1, .ref a_p1), (2, .int p2)]) dX4_copyTo_15 rfl (by decide) rfl ?_
  refine go_iconst X (v := 0) dX4_copyTo_16 (by decide) ?_
  refine go_istore X (lv' := [(4, .int 0), (3, .int y2), (0, .ref a_o), (1, .ref a_p1), (2, .int p2)]) dX4_copyTo_17 (by decide) rfl ?_
  obtain ⟨n9, h⟩ := h
  refine go_lv [2, 3, 4, 1, 0] rfl ?_
  refine pX4_copyTo_19 l X a_o a_o_bytes n_o_bytes a_p1 n_p1 o_length o_bytes p2 y2  _ (fun s3 y4 h => ?_) n9 p1 (0 : Int32) h
  refine go_iload_n X dX4_copyTo_44 0 rfl rfl ?_
  refine go_iload_n X dX4_copyTo_45 1 rfl rfl ?_
  refine go_iadd X dX4_copyTo_46 ?_
  exact hR (p2 + y2) s3 47 _ dX4_copyTo_47 rfl h
/-! X4_sum -/
theorem fi_X4_sum_X4 : ∀ w ∈ u_ws RX4 TX4 2, w ∈ wsX4_sum := by decide +kernel
theorem fl_X4_sum_19 : Cond.fieldLink RX4 19 (TX4 1).1 (TX4 1).2.1 (TX4 1).2.2.1 ∈ wsX4_sum := by decide +kernel
def rm_X4_sum : Room := { frames := 3, cells := 0, slots := 0, locals := 63 }
theorem cd_X4_sum : yX4_sum.cls = RX4 ∧ yX4_sum.cls ≠ "java/lang/invoke/MethodHandle" ∧ yX4_sum.cls ≠ "java/lang/invoke/VarHandle" ∧ (parseMethodDescriptor yX4_sum.desc).map (fun d => d.parameters.length) = some 0 := by decide +kernel
set_option maxRecDepth 100000 in
set_option maxHeartbeats 4000000 in
theorem pX4_sum_6 {p : Program} (l : Launch) {e : Env} {s : State} {m : MethodId} {args : Array Value} {below : List Frame} {meth : Method} {c : Code} {Q : State → Prop} {D : va_G} {cy : Nat → ClassId} {A : Nat → Prop} (X : Cx p s m args c cX4_sum 4 RX4 wsX4_sum D (tyL cy) A) (a_o : Nat) (a_o_bytes : Nat) (n_o_bytes : Nat) (o_length : Int32) (o_bytes : Nat → Int32) (K : Int32 → Int32 → Int32 → Prop) (hK : ∀ (v1 : Int32) (v2 : Int32) (v3 : Int32), K v1 v2 v3 → Go p l e rm_X4_sum s m args below meth c Q 4 D A [(a_o, .inr (7, [.ref a_o_bytes, .int o_length])), (a_o_bytes, .inl (cy 0, n_o_bytes, .inl o_bytes))] 0 0 40 [(1, .int v1), (2, .int v2)] []) :
    ∀ (n : Nat) (v1 : Int32) (v2 : Int32) (v3 : Int32), wX4_sum_6 n_o_bytes o_length o_bytes K n v1 v2 v3 → Go p l e rm_X4_sum s m args below meth c Q 4 D A [(a_o, .inr (7, [.ref a_o_bytes, .int o_length])), (a_o_bytes, .inl (cy 0, n_o_bytes, .inl o_bytes))] 0 0 6 [(0, .ref a_o), (1, .int v1), (2, .int v2), (3, .int v3)] [] := by
  intro n
  induction n with
  | zero => intro v1 v2 v3 h; exact absurd h id
  | succ n ih =>
    intro v1 v2 v3 h
    refine go_iload_n X dX4_sum_6 3 rfl rfl ?_
    refine go_aload_n X dX4_sum_7 0 rfl rfl ?_
    refine go_get X fi_X4_sum_X4 0 rfl rfl 1 (by decide) fl_X4_sum_19 rfl dX4_sum_8 ?_
    refine go_icmp_ge X 40 dX4_sum_11 (by decide) (fun c4 => ?_) (fun c4 => ?_)
    · replace h := h.1 c4
      refine go_lv [1, 2] rfl ?_
      exact hK v1 v2 v3 h
    · replace h := h.2 c4
      refine go_iload_n X dX4_sum_14 1 rfl rfl ?_
      refine go_aload_n X dX4_sum_15 0 rfl rfl ?_
      refine go_iload_n X dX4_sum_16 3 rfl rfl ?_
      refine go_callVi X (kX4_at l D cy a_o a_o_bytes n_o_bytes o_length o_bytes v3 _ h) (cwV 1 X.2.2.2.2.1 gX4_sum_X4_at rfl rfl rfl cd_X4_at ⟨by decide, by decide⟩) (wr := []) (ws2 := fun u => [(a_o, .inr (7, [.ref a_o_bytes, .int o_length])), (a_o_bytes, .inl (cy 0, n_o_bytes, .inl o_bytes))]) (perm_idx [0, 1] rfl rfl) (fun u => perm_idx [0, 1] rfl rfl) rfl rfl rfl rfl (Nat.le_of_ble_eq_true rfl) dX4_sum_17 ⟨by decide, by decide⟩ (fun r5 u h => ?_)
      refine go_iadd X dX4_sum_20 ?_
      refine go_sipush X (v := 251) dX4_sum_21 (by decide) ?_
      refine go_irem X dX4_sum_24 (by decide) ?_
      refine go_topi (fun y6 ey6 => ?_)
      replace h := h y6 ey6
      refine go_istore_n X (lv' := [(1, .int y6), (0, .ref a_o), (2, .int v2), (3, .int v3)]) dX4_sum_25 rfl (by decide) rfl ?_
      refine go_iload_n X dX4_sum_26 2 rfl rfl ?_
      refine go_iload_n X dX4_sum_27 0 rfl rfl ?_
      refine go_iadd X dX4_sum_28 ?_
      refine go_sipush X (v := 251) dX4_sum_29 (by decide) ?_
      refine go_irem X dX4_sum_32 (by decide) ?_
      refine go_topi (fun y7 ey7 => ?_)
      replace h := h y7 ey7
      refine go_istore_n X (lv' := [(2, .int y7), (1, .int y6), (0, .ref a_o), (3, .int v3)]) dX4_sum_33 rfl (by decide) rfl ?_
      obtain ⟨y8, ey8⟩ : ∃ z : Int32, z = v3 + 1 := ⟨_, rfl⟩
      replace h := h y8 ey8
      refine go_iinc X (lv' := [(3, .int y8), (2, .int y7), (1, .int y6), (0, .ref a_o)]) y8 dX4_sum_34 3 rfl (by rw [ey8]; rfl) (by decide) rfl ?_
      refine go_goto X 6 dX4_sum_37 (by decide) ?_
      refine go_lv [3, 2, 1, 0] rfl ?_
      exact ih y6 y7 y8 h
set_option maxRecDepth 100000 in
set_option maxHeartbeats 4000000 in
theorem kX4_sum (l : Launch) (D : va_G) (cy : Nat → ClassId) (a_o : Nat) (a_o_bytes : Nat) (n_o_bytes : Nat) (o_length : Int32) (o_bytes : Nat → Int32) (post : Int32 → Prop) (h : wX4_sum n_o_bytes o_length o_bytes post) : MetI l yX4_sum wsX4_sum rm_X4_sum D (tyL cy) [.ref a_o] [(a_o, .inr (7, [.ref a_o_bytes, .int o_length])), (a_o_bytes, .inl (cy 0, n_o_bytes, .inl o_bytes))] (fun u : Unit => [(a_o, .inr (7, [.ref a_o_bytes, .int o_length])), (a_o_bytes, .inl (cy 0, n_o_bytes, .inl o_bytes))]) (fun r => fun (u : Unit) => post r ) 0 0 := by
  refine metI_of (cc := cX4_sum) (maxL := 4) (lv := [(0, .ref a_o)]) (by decide) rfl (Nat.le_of_ble_eq_true rfl) rfl ?_
  intro p e s m below meth c Q A X hlk hR
  unfold wX4_sum at h
  refine go_iconst X (v := 1) dX4_sum_0 (by decide) ?_
  refine go_istore_n X (lv' := [(1, .int 1), (0, .ref a_o)]) dX4_sum_1 rfl (by decide) rfl ?_
  refine go_iconst X (v := 0) dX4_sum_2 (by decide) ?_
  refine go_istore_n X (lv' := [(2, .int 0), (1, .int 1), (0, .ref a_o)]) dX4_sum_3 rfl (by decide) rfl ?_
  refine go_iconst X (v := 0) dX4_sum_4 (by decide) ?_
  refine go_istore_n X (lv' := [(3, .int 0), (2, .int 0), (1, .int 1), (0, .ref a_o)]) dX4_sum_5 rfl (by decide) rfl ?_
  obtain ⟨n9, h⟩ := h
  refine go_lv [3, 2, 1, 0] rfl ?_
  refine pX4_sum_6 l X a_o a_o_bytes n_o_bytes o_length o_bytes  _ (fun y1 y2 y3 h => ?_) n9 (1 : Int32) (0 : Int32) (0 : Int32) h
  refine go_sipush X (v := 256) dX4_sum_40 (by decide) ?_
  refine go_iload_n X dX4_sum_43 1 rfl rfl ?_
  refine go_imul X dX4_sum_44 ?_
  refine go_iload_n X dX4_sum_45 0 rfl rfl ?_
  refine go_iadd X dX4_sum_46 ?_
  exact hR ((256 * y2) + y1) () 47 _ dX4_sum_47 rfl h
