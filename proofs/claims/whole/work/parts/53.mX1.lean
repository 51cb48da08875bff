/-! X1_readMatch -/
theorem fi_X1_readMatch_X1 : ∀ w ∈ u_ws RX1 TX1 4, w ∈ wsX1_readMatch := by decide +kernel
theorem fl_X1_readMatch_49 : Cond.fieldLink RX1 49 (TX1 3).1 (TX1 3).2.1 (TX1 3).2.2.1 ∈ wsX1_readMatch := by decide +kernel
theorem fl_X1_readMatch_14 : Cond.fieldLink RX1 14 (TX1 0).1 (TX1 0).2.1 (TX1 0).2.2.1 ∈ wsX1_readMatch := by decide +kernel
def rm_X1_readMatch : Room := { frames := 3, cells := 0, slots := 0, locals := 63 }
theorem cd_X1_readMatch : yX1_readMatch.cls = RX1 ∧ yX1_readMatch.cls ≠ "java/lang/invoke/MethodHandle" ∧ yX1_readMatch.cls ≠ "java/lang/invoke/VarHandle" ∧ (parseMethodDescriptor yX1_readMatch.desc).map (fun d => d.parameters.length) = some 3 := by decide +kernel
set_option maxRecDepth 100000 in
set_option maxHeartbeats 4000000 in
theorem pX1_readMatch_63 {p : Program} (l : Launch) {e : Env} {s : State} {m : MethodId} {args : Array Value} {below : List Frame} {meth : Method} {c : Code} {Q : State → Prop} {D : va_G} {cy : Nat → ClassId} {A : Nat → Prop} (X : Cx p s m args c cX1_readMatch 6 RX1 wsX1_readMatch D (tyL cy) A) (a_o : Nat) (a_o_joined : Nat) (a_o_joined_bytes : Nat) (n_o_joined_bytes : Nat) (a_p1 : Nat) (a_p1_bytes : Nat) (n_p1_bytes : Nat) (o_start : Int32) (o_wanted : Int32) (o_place : Int32) (p1_length : Int32) (p1_bytes : Nat → Int32) (v3 : Int32) (v4 : Int32) (K : Int32 → (Nat → Int32) → Int32 → Prop) (hK : ∀ (o_joined_length : Int32) (o_joined_bytes : Nat → Int32) (v5 : Int32), K o_joined_length o_joined_bytes v5 → Go p l e rm_X1_readMatch s m args below meth c Q 6 D A [(a_o, .inr (4, [.ref a_o_joined, .int o_start, .int o_wanted, .int o_place])), (a_o_joined, .inr (7, [.ref a_o_joined_bytes, .int o_joined_length])), (a_o_joined_bytes, .inl (cy 0, n_o_joined_bytes, .inl o_joined_bytes)), (a_p1, .inr (7, [.ref a_p1_bytes, .int p1_length])), (a_p1_bytes, .inl (cy 0, n_p1_bytes, .inl p1_bytes))] 0 0 99 [(0, .ref a_o)] []) :
    ∀ (n : Nat) (o_joined_length : Int32) (o_joined_bytes : Nat → Int32) (v5 : Int32), wX1_readMatch_63 n_o_joined_bytes v3 v4 K n o_joined_length o_joined_bytes v5 → Go p l e rm_X1_readMatch s m args below meth c Q 6 D A [(a_o, .inr (4, [.ref a_o_joined, .int o_start, .int o_wanted, .int o_place])), (a_o_joined, .inr (7, [.ref a_o_joined_bytes, .int o_joined_length])), (a_o_joined_bytes, .inl (cy 0, n_o_joined_bytes, .inl o_joined_bytes)), (a_p1, .inr (7, [.ref a_p1_bytes, .int p1_length])), (a_p1_bytes, .inl (cy 0, n_p1_bytes, .inl p1_bytes))] 0 0 63 [(0, .ref a_o), (3, .int v3), (4, .int v4), (5, .int v5)] [] := by
  intro n
  induction n with
  | zero => intro o_joined_length o_joined_bytes v5 h; exact absurd h id
  | succ n ih =>
    intro o_joined_length o_joined_bytes v5 h
    refine go_iload X dX1_readMatch_63 3 rfl ?_
    refine go_iload_n X dX1_readMatch_65 1 rfl rfl ?_
    refine go_icmp_ge X 99 dX1_readMatch_66 (by decide) (fun c10 => ?_) (fun c10 => ?_)
    · replace h := h.1 c10
      refine go_lv [0] rfl ?_
      exact hK o_joined_length o_joined_bytes v5 h
    · replace h := h.2 c10
      refine go_aload_n X dX1_readMatch_69 0 rfl rfl ?_
      refine go_get X fi_X1_readMatch_X1 0 rfl rfl 0 (by decide) fl_X1_readMatch_14 rfl dX1_readMatch_70 ?_
      refine go_aload_n X dX1_readMatch_73 0 rfl rfl ?_
      refine go_get X fi_X1_readMatch_X1 0 rfl rfl 0 (by decide) fl_X1_readMatch_14 rfl dX1_readMatch_74 ?_
      refine go_aload_n X dX1_readMatch_77 0 rfl rfl ?_
      refine go_get X fi_X1_readMatch_X1 0 rfl rfl 0 (by decide) fl_X1_readMatch_14 rfl dX1_readMatch_78 ?_
      refine go_callVi X (kX4_length l D cy a_o_joined a_o_joined_bytes o_joined_length _ h) (cwV 0 X.2.2.2.2.1 gX1_readMatch_X4_length rfl rfl rfl cd_X4_length ⟨by decide, by decide⟩) (wr := [(a_o, .inr (4, [.ref a_o_joined, .int o_start, .int o_wanted, .int o_place])), (a_o_joined_bytes, .inl (cy 0, n_o_joined_bytes, .inl o_joined_bytes)), (a_p1, .inr (7, [.ref a_p1_bytes, .int p1_length])), (a_p1_bytes, .inl (cy 0, n_p1_bytes, .inl p1_bytes))]) (ws2 := fun u => [(a_o, .inr (4, [.ref a_o_joined, .int o_start, .int o_wanted, .int o_place])), (a_o_joined, .inr (7, [.ref a_o_joined_bytes, .int o_joined_length])), (a_o_joined_bytes, .inl (cy 0, n_o_joined_bytes, .inl o_joined_bytes)), (a_p1, .inr (7, [.ref a_p1_bytes, .int p1_length])), (a_p1_bytes, .inl (cy 0, n_p1_bytes, .inl p1_bytes))]) (perm_idx [1, 0, 2, 3, 4] rfl rfl) (fun u => perm_idx [1, 0, 2, 3, 4] rfl rfl) rfl rfl rfl rfl (Nat.le_of_ble_eq_true rfl) dX1_readMatch_81 ⟨by decide, by decide⟩ (fun r11 u h => ?_)
      refine go_iload X dX1_readMatch_84 2 rfl ?_
      refine go_isub X dX1_readMatch_86 ?_
      refine go_callVi X (kX4_at l D cy a_o_joined a_o_joined_bytes n_o_joined_bytes o_joined_length o_joined_bytes (r11 - v4) _ h) (cwV 1 X.2.2.2.2.1 gX1_readMatch_X4_at rfl rfl rfl cd_X4_at ⟨by decide, by decide⟩) (wr := [(a_o, .inr (4, [.ref a_o_joined, .int o_start, .int o_wanted, .int o_place])), (a_p1, .inr (7, [.ref a_p1_bytes, .int p1_length])), (a_p1_bytes, .inl (cy 0, n_p1_bytes, .inl p1_bytes))]) (ws2 := fun u => [(a_o, .inr (4, [.ref a_o_joined, .int o_start, .int o_wanted, .int o_place])), (a_o_joined, .inr (7, [.ref a_o_joined_bytes, .int o_joined_length])), (a_o_joined_bytes, .inl (cy 0, n_o_joined_bytes, .inl o_joined_bytes)), (a_p1, .inr (7, [.ref a_p1_bytes, .int p1_length])), (a_p1_bytes, .inl (cy 0, n_p1_bytes, .inl p1_bytes))]) (perm_idx [1, 2, 0, 3, 4] rfl rfl) (fun u => perm_idx [2, 0, 1, 3, 4] rfl rfl) rfl rfl rfl rfl (Nat.le_of_ble_eq_true rfl) dX1_readMatch_87 ⟨by decide, by decide⟩ (fun r12 u h => ?_)
      refine go_callVv X (kX4_add l D cy a_o_joined a_o_joined_bytes n_o_joined_bytes o_joined_length o_joined_bytes r12 _ h) (cwV 1 X.2.2.2.2.1 gX1_readMatch_X4_add rfl rfl rfl cd_X4_add ⟨by decide, by decide⟩) (wr := [(a_o, .inr (4, [.ref a_o_joined, .int o_start, .int o_wanted, .int o_place])), (a_p1, .inr (7, [.ref a_p1_bytes, .int p1_length])), (a_p1_bytes, .inl (cy 0, n_p1_bytes, .inl p1_bytes))]) (ws2 := fun u => [(a_o, .inr (4, [.ref a_o_joined, .int o_start, .int o_wanted, .int o_place])), (a_o_joined, .inr (7, [.ref a_o_joined_bytes, .int u.1])), (a_o_joined_bytes, .inl (cy 0, n_o_joined_bytes, .inl u.2)), (a_p1, .inr (7, [.ref a_p1_bytes, .int p1_length])), (a_p1_bytes, .inl (cy 0, n_p1_bytes, .inl p1_bytes))]) (perm_idx [1, 2, 0, 3, 4] rfl rfl) (fun u => perm_idx [2, 0, 1, 3, 4] rfl rfl) rfl rfl rfl rfl (Nat.le_of_ble_eq_true rfl) dX1_readMatch_90 ⟨by decide, by decide⟩ (fun u h => ?_)
      obtain ⟨s13, s14⟩ := u
      obtain ⟨y15, ey15⟩ : ∃ z : Int32, z = v5 + 1 := ⟨_, rfl⟩
      replace h := h y15 ey15
      refine go_iinc X (lv' := [(5, .int y15), (0, .ref a_o), (3, .int v3), (4, .int v4)]) y15 dX1_readMatch_93 3 rfl (by rw [ey15]; rfl) (by decide) rfl ?_
      refine go_goto X 63 dX1_readMatch_96 (by decide) ?_
      refine go_lv [1, 2, 3, 0] rfl ?_
      exact ih s13 s14 y15 h
set_option maxRecDepth 100000 in
set_option maxHeartbeats 4000000 in
theorem kX1_readMatch (l : Launch) (D : va_G) (cy : Nat → ClassId) (a_o : Nat) (a_o_joined : Nat) (a_o_joined_bytes : Nat) (n_o_joined_bytes : Nat) (a_p1 : Nat) (a_p1_bytes : Nat) (n_p1_bytes : Nat) (o_start : Int32) (o_wanted : Int32) (o_place : Int32) (o_joined_length : Int32) (o_joined_bytes : Nat → Int32) (p1_length : Int32) (p1_bytes : Nat → Int32) (p2 : Int32) (p3 : Int32) (post : Int32 → Int32 → Int32 → (Nat → Int32) → Prop) (h : wX1_readMatch n_o_joined_bytes n_p1_bytes o_place o_joined_length o_joined_bytes p1_length p1_bytes p2 p3 post) : MetI l yX1_readMatch wsX1_readMatch rm_X1_readMatch D (tyL cy) [.ref a_o, .ref a_p1, .int p2, .int p3] [(a_o, .inr (4, [.ref a_o_joined, .int o_start, .int o_wanted, .int o_place])), (a_o_joined, .inr (7, [.ref a_o_joined_bytes, .int o_joined_length])), (a_o_joined_bytes, .inl (cy 0, n_o_joined_bytes, .inl o_joined_bytes)), (a_p1, .inr (7, [.ref a_p1_bytes, .int p1_length])), (a_p1_bytes, .inl (cy 0, n_p1_bytes, .inl p1_bytes))] (fun u : Int32 × Int32 × (Nat → Int32) => [(a_o, .inr (4, [.ref a_o_joined, .int o_start, .int o_wanted, .int u.1])), (a_o_joined, .inr (7, [.ref a_o_joined_bytes, .int u.2.1])), (a_o_joined_bytes, .inl (cy 0, n_o_joined_bytes, .inl u.2.2)), (a_p1, .inr (7, [.ref a_p1_bytes, .int p1_length])), (a_p1_bytes, .inl (cy 0, n_p1_bytes, .inl p1_bytes))]) (fun r => fun (u : Int32 × Int32 × (Nat → Int32)) => post r u.1 u.2.1 u.2.2) 0 0 := by
  refine metI_of (cc := cX1_readMatch) (maxL := 6) (lv := [(0, .ref a_o), (1, .ref a_p1), (2, .int p2), (3, .int p3)]) (by decide) rfl (Nat.le_of_ble_eq_true rfl) rfl ?_
  intro p e s m below meth c Q A X hlk hR
  unfold wX1_readMatch at h
  refine go_aload_n X dX1_readMatch_0 0 rfl rfl ?_
  refine go_get X fi_X1_readMatch_X1 0 rfl rfl 3 (by decide) fl_X1_readMatch_49 rfl dX1_readMatch_1 ?_
  refine go_iconst X (v := 1) dX1_readMatch_4 (by decide) ?_
  refine go_iadd X dX1_readMatch_5 ?_
  refine go_aload_n X dX1_readMatch_6 1 rfl rfl ?_
  refine go_callVi X (kX4_length l D cy a_p1 a_p1_bytes p1_length _ h) (cwV 0 X.2.2.2.2.1 gX1_readMatch_X4_length rfl rfl rfl cd_X4_length ⟨by decide, by decide⟩) (wr := [(a_o, .inr (4, [.ref a_o_joined, .int o_start, .int o_wanted, .int o_place])), (a_o_joined, .inr (7, [.ref a_o_joined_bytes, .int o_joined_length])), (a_o_joined_bytes, .inl (cy 0, n_o_joined_bytes, .inl o_joined_bytes)), (a_p1_bytes, .inl (cy 0, n_p1_bytes, .inl p1_bytes))]) (ws2 := fun u => [(a_o, .inr (4, [.ref a_o_joined, .int o_start, .int o_wanted, .int o_place])), (a_o_joined, .inr (7, [.ref a_o_joined_bytes, .int o_joined_length])), (a_o_joined_bytes, .inl (cy 0, n_o_joined_bytes, .inl o_joined_bytes)), (a_p1, .inr (7, [.ref a_p1_bytes, .int p1_length])), (a_p1_bytes, .inl (cy 0, n_p1_bytes, .inl p1_bytes))]) (perm_idx [3, 0, 1, 2, 4] rfl rfl) (fun u => perm_idx [1, 2, 3, 0, 4] rfl rfl) rfl rfl rfl rfl (Nat.le_of_ble_eq_true rfl) dX1_readMatch_7 ⟨by decide, by decide⟩ (fun r1 u h => ?_)
  refine go_icmp_lt X 18 dX1_readMatch_10 (by decide) (fun c2 => ?_) (fun c2 => ?_)
  · replace h := h.1 c2
    refine go_sipush X (v := 256) dX1_readMatch_18 (by decide) ?_
    refine go_iload_n X dX1_readMatch_21 2 rfl rfl ?_
    refine go_bipush X (v := 32) dX1_readMatch_22 (by decide) ?_
    refine go_irem X dX1_readMatch_24 (by decide) ?_
    refine go_imul X dX1_readMatch_25 ?_
    refine go_aload_n X dX1_readMatch_26 1 rfl rfl ?_
    refine go_aload_n X dX1_readMatch_27 0 rfl rfl ?_
    refine go_get X fi_X1_readMatch_X1 0 rfl rfl 3 (by decide) fl_X1_readMatch_49 rfl dX1_readMatch_28 ?_
    refine go_iconst X (v := 1) dX1_readMatch_31 (by decide) ?_
    refine go_iadd X dX1_readMatch_32 ?_
    refine go_callVi X (kX4_at l D cy a_p1 a_p1_bytes n_p1_bytes p1_length p1_bytes (o_place + 1) _ h) (cwV 1 X.2.2.2.2.1 gX1_readMatch_X4_at rfl rfl rfl cd_X4_at ⟨by decide, by decide⟩) (wr := [(a_o, .inr (4, [.ref a_o_joined, .int o_start, .int o_wanted, .int o_place])), (a_o_joined, .inr (7, [.ref a_o_joined_bytes, .int o_joined_length])), (a_o_joined_bytes, .inl (cy 0, n_o_joined_bytes, .inl o_joined_bytes))]) (ws2 := fun u => [(a_o, .inr (4, [.ref a_o_joined, .int o_start, .int o_wanted, .int o_place])), (a_o_joined, .inr (7, [.ref a_o_joined_bytes, .int o_joined_length])), (a_o_joined_bytes, .inl (cy 0, n_o_joined_bytes, .inl o_joined_bytes)), (a_p1, .inr (7, [.ref a_p1_bytes, .int p1_length])), (a_p1_bytes, .inl (cy 0, n_p1_bytes, .inl p1_bytes))]) (perm_idx [3, 4, 0, 1, 2] rfl rfl) (fun u => perm_idx [2, 3, 4, 0, 1] rfl rfl) rfl rfl rfl rfl (Nat.le_of_ble_eq_true rfl) dX1_readMatch_33 ⟨by decide, by decide⟩ (fun r3 u h => ?_)
    refine go_iadd X dX1_readMatch_36 ?_
    refine go_iconst X (v := 1) dX1_readMatch_37 (by decide) ?_
    refine go_iadd X dX1_readMatch_38 ?_
    refine go_topi (fun y4 ey4 => ?_)
    replace h := h y4 ey4
    refine go_istore X (lv' := [(4, .int y4), (0, .ref a_o), (1, .ref a_p1), (2, .int p2), (3, .int p3)]) dX1_readMatch_39 (by decide) rfl ?_
    refine go_iload X dX1_readMatch_41 0 rfl ?_
    refine go_aload_n X dX1_readMatch_43 1 rfl rfl ?_
    refine go_get X fi_X1_readMatch_X1 0 rfl rfl 0 (by decide) fl_X1_readMatch_14 rfl dX1_readMatch_44 ?_
    refine go_callVi X (kX4_length l D cy a_o_joined a_o_joined_bytes o_joined_length _ h) (cwV 0 X.2.2.2.2.1 gX1_readMatch_X4_length rfl rfl rfl cd_X4_length ⟨by decide, by decide⟩) (wr := [(a_o, .inr (4, [.ref a_o_joined, .int o_start, .int o_wanted, .int o_place])), (a_o_joined_bytes, .inl (cy 0, n_o_joined_bytes, .inl o_joined_bytes)), (a_p1, .inr (7, [.ref a_p1_bytes, .int p1_length])), (a_p1_bytes, .inl (cy 0, n_p1_bytes, .inl p1_bytes))]) (ws2 := fun u => [(a_o, .inr (4, [.ref a_o_joined, .int o_start, .int o_wanted, .int o_place])), (a_o_joined, .inr (7, [.ref a_o_joined_bytes, .int o_joined_length])), (a_o_joined_bytes, .inl (cy 0, n_o_joined_bytes, .inl o_joined_bytes)), (a_p1, .inr (7, [.ref a_p1_bytes, .int p1_length])), (a_p1_bytes, .inl (cy 0, n_p1_bytes, .inl p1_bytes))]) (perm_idx [1, 0, 2, 3, 4] rfl rfl) (fun u => perm_idx [1, 0, 2, 3, 4] rfl rfl) rfl rfl rfl rfl (Nat.le_of_ble_eq_true rfl) dX1_readMatch_47 ⟨by decide, by decide⟩ (fun r5 u h => ?_)
    refine go_icmp_le X 60 dX1_readMatch_50 (by decide) (fun c6 => ?_) (fun c6 => ?_)
    · replace h := h.1 c6
      refine go_iconst X (v := 0) dX1_readMatch_60 (by decide) ?_
      refine go_istore X (lv' := [(5, .int 0), (4, .int y4), (0, .ref a_o), (1, .ref a_p1), (2, .int p2), (3, .int p3)]) dX1_readMatch_61 (by decide) rfl ?_
      obtain ⟨n17, h⟩ := h
      refine go_lv [2, 5, 1, 0] rfl ?_
      refine pX1_readMatch_63 l X a_o a_o_joined a_o_joined_bytes n_o_joined_bytes a_p1 a_p1_bytes n_p1_bytes o_start o_wanted o_place p1_length p1_bytes p3 y4  _ (fun s7 s8 y9 h => ?_) n17 o_joined_length o_joined_bytes (0 : Int32) h
      refine go_aload_n X dX1_readMatch_99 0 rfl rfl ?_
      refine go_dup X dX1_readMatch_100 rfl ?_
      refine go_get X fi_X1_readMatch_X1 0 rfl rfl 3 (by decide) fl_X1_readMatch_49 rfl dX1_readMatch_101 ?_
      refine go_iconst X (v := 2) dX1_readMatch_104 (by decide) ?_
      refine go_iadd X dX1_readMatch_105 ?_
      refine go_topi (fun y16 ey16 => ?_)
      replace h := h y16 ey16
      refine go_put X (ws' := [(a_o, .inr (4, [.ref a_o_joined, .int o_start, .int o_wanted, .int y16])), (a_o_joined, .inr (7, [.ref a_o_joined_bytes, .int s7])), (a_o_joined_bytes, .inl (cy 0, n_o_joined_bytes, .inl s8)), (a_p1, .inr (7, [.ref a_p1_bytes, .int p1_length])), (a_p1_bytes, .inl (cy 0, n_p1_bytes, .inl p1_bytes))]) fi_X1_readMatch_X1 tyX1 tyX1_ok nmX1 0 rfl rfl 3 (by decide) fl_X1_readMatch_49 rfl (tyX1_ok 3 (by decide)) rfl rfl (Nat.le_of_ble_eq_true rfl) rfl dX1_readMatch_106 ?_
      refine go_iconst X (v := (-1)) dX1_readMatch_109 (by decide) ?_
      exact hR (-1) (y16, s7, s8) 110 _ dX1_readMatch_110 rfl h
    · replace h := h.2 c6
      refine go_aload_n X dX1_readMatch_53 1 rfl rfl ?_
      refine go_get X fi_X1_readMatch_X1 0 rfl rfl 3 (by decide) fl_X1_readMatch_49 rfl dX1_readMatch_54 ?_
      refine go_iconst X (v := 1) dX1_readMatch_57 (by decide) ?_
      refine go_iadd X dX1_readMatch_58 ?_
      exact hR (o_place + 1) (o_place, o_joined_length, o_joined_bytes) 59 _ dX1_readMatch_59 rfl h
  · replace h := h.2 c2
    refine go_aload_n X dX1_readMatch_13 1 rfl rfl ?_
    refine go_callVi X (kX4_length l D cy a_p1 a_p1_bytes p1_length _ h) (cwV 0 X.2.2.2.2.1 gX1_readMatch_X4_length rfl rfl rfl cd_X4_length ⟨by decide, by decide⟩) (wr := [(a_o, .inr (4, [.ref a_o_joined, .int o_start, .int o_wanted, .int o_place])), (a_o_joined, .inr (7, [.ref a_o_joined_bytes, .int o_joined_length])), (a_o_joined_bytes, .inl (cy 0, n_o_joined_bytes, .inl o_joined_bytes)), (a_p1_bytes, .inl (cy 0, n_p1_bytes, .inl p1_bytes))]) (ws2 := fun u => [(a_o, .inr (4, [.ref a_o_joined, .int o_start, .int o_wanted, .int o_place])), (a_o_joined, .inr (7, [.ref a_o_joined_bytes, .int o_joined_length])), (a_o_joined_bytes, .inl (cy 0, n_o_joined_bytes, .inl o_joined_bytes)), (a_p1, .inr (7, [.ref a_p1_bytes, .int p1_length])), (a_p1_bytes, .inl (cy 0, n_p1_bytes, .inl p1_bytes))]) (perm_idx [3, 0, 1, 2, 4] rfl rfl) (fun u => perm_idx [1, 2, 3, 0, 4] rfl rfl) rfl rfl rfl rfl (Nat.le_of_ble_eq_true rfl) dX1_readMatch_14 ⟨by decide, by decide⟩ (fun r18 u h => ?_)
    exact hR r18 (o_place, o_joined_length, o_joined_bytes) 17 _ dX1_readMatch_17 rfl h
/-! X1_readPlain -/
theorem fi_X1_readPlain_X1 : ∀ w ∈ u_ws RX1 TX1 4, w ∈ wsX1_readPlain := by decide +kernel
theorem fl_X1_readPlain_49 : Cond.fieldLink RX1 49 (TX1 3).1 (TX1 3).2.1 (TX1 3).2.2.1 ∈ wsX1_readPlain := by decide +kernel
theorem fl_X1_readPlain_14 : Cond.fieldLink RX1 14 (TX1 0).1 (TX1 0).2.1 (TX1 0).2.2.1 ∈ wsX1_readPlain := by decide +kernel
def rm_X1_readPlain : Room := { frames := 3, cells := 0, slots := 0, locals := 66 }
theorem cd_X1_readPlain : yX1_readPlain.cls = RX1 ∧ yX1_readPlain.cls ≠ "java/lang/invoke/MethodHandle" ∧ yX1_readPlain.cls ≠ "java/lang/invoke/VarHandle" ∧ (parseMethodDescriptor yX1_readPlain.desc).map (fun d => d.parameters.length) = some 2 := by decide +kernel
set_option maxRecDepth 100000 in
set_option maxHeartbeats 4000000 in
theorem kX1_readPlain (l : Launch) (D : va_G) (cy : Nat → ClassId) (a_o : Nat) (a_o_joined : Nat) (a_o_joined_bytes : Nat) (n_o_joined_bytes : Nat) (a_p1 : Nat) (a_p1_bytes : Nat) (n_p1_bytes : Nat) (o_start : Int32) (o_wanted : Int32) (o_place : Int32) (o_joined_length : Int32) (o_joined_bytes : Nat → Int32) (p1_length : Int32) (p1_bytes : Nat → Int32) (p2 : Int32) (post : Int32 → Int32 → Int32 → (Nat → Int32) → Prop) (h : wX1_readPlain n_o_joined_bytes n_p1_bytes o_place o_joined_length o_joined_bytes p1_length p1_bytes p2 post) : MetI l yX1_readPlain wsX1_readPlain rm_X1_readPlain D (tyL cy) [.ref a_o, .ref a_p1, .int p2] [(a_o, .inr (4, [.ref a_o_joined, .int o_start, .int o_wanted, .int o_place])), (a_o_joined, .inr (7, [.ref a_o_joined_bytes, .int o_joined_length])), (a_o_joined_bytes, .inl (cy 0, n_o_joined_bytes, .inl o_joined_bytes)), (a_p1, .inr (7, [.ref a_p1_bytes, .int p1_length])), (a_p1_bytes, .inl (cy 0, n_p1_bytes, .inl p1_bytes))] (fun u : Int32 × Int32 × (Nat → Int32) => [(a_o, .inr (4, [.ref a_o_joined, .int o_start, .int o_wanted, .int u.1])), (a_o_joined, .inr (7, [.ref a_o_joined_bytes, .int u.2.1])), (a_o_joined_bytes, .inl (cy 0, n_o_joined_bytes, .inl u.2.2)), (a_p1, .inr (7, [.ref a_p1_bytes, .int p1_length])), (a_p1_bytes, .inl (cy 0, n_p1_bytes, .inl p1_bytes))]) (fun r => fun (u : Int32 × Int32 × (Nat → Int32)) => post r u.1 u.2.1 u.2.2) 0 0 := by
  refine metI_of (cc := cX1_readPlain) (maxL := 3) (lv := [(0, .ref a_o), (1, .ref a_p1), (2, .int p2)]) (by decide) rfl (Nat.le_of_ble_eq_true rfl) rfl ?_
  intro p e s m below meth c Q A X hlk hR
  unfold wX1_readPlain at h
  refine go_aload_n X dX1_readPlain_0 0 rfl rfl ?_
  refine go_get X fi_X1_readPlain_X1 0 rfl rfl 3 (by decide) fl_X1_readPlain_49 rfl dX1_readPlain_1 ?_
  refine go_iload_n X dX1_readPlain_4 2 rfl rfl ?_
  refine go_iadd X dX1_readPlain_5 ?_
  refine go_aload_n X dX1_readPlain_6 1 rfl rfl ?_
  refine go_callVi X (kX4_length l D cy a_p1 a_p1_bytes p1_length _ h) (cwV 0 X.2.2.2.2.1 gX1_readPlain_X4_length rfl rfl rfl cd_X4_length ⟨by decide, by decide⟩) (wr := [(a_o, .inr (4, [.ref a_o_joined, .int o_start, .int o_wanted, .int o_place])), (a_o_joined, .inr (7, [.ref a_o_joined_bytes, .int o_joined_length])), (a_o_joined_bytes, .inl (cy 0, n_o_joined_bytes, .inl o_joined_bytes)), (a_p1_bytes, .inl (cy 0, n_p1_bytes, .inl p1_bytes))]) (ws2 := fun u => [(a_o, .inr (4, [.ref a_o_joined, .int o_start, .int o_wanted, .int o_place])), (a_o_joined, .inr (7, [.ref a_o_joined_bytes, .int o_joined_length])), (a_o_joined_bytes, .inl (cy 0, n_o_joined_bytes, .inl o_joined_bytes)), (a_p1, .inr (7, [.ref a_p1_bytes, .int p1_length])), (a_p1_bytes, .inl (cy 0, n_p1_bytes, .inl p1_bytes))]) (perm_idx [3, 0, 1, 2, 4] rfl rfl) (fun u => perm_idx [1, 2, 3, 0, 4] rfl rfl) rfl rfl rfl rfl (Nat.le_of_ble_eq_true rfl) dX1_readPlain_7 ⟨by decide, by decide⟩ (fun r1 u h => ?_)
  refine go_icmp_lt X 18 dX1_readPlain_10 (by decide) (fun c2 => ?_) (fun c2 => ?_)
  · replace h := h.1 c2
    refine go_aload_n X dX1_readPlain_18 0 rfl rfl ?_
    refine go_get X fi_X1_readPlain_X1 0 rfl rfl 0 (by decide) fl_X1_readPlain_14 rfl dX1_readPlain_19 ?_
    refine go_aload_n X dX1_readPlain_22 1 rfl rfl ?_
    refine go_aload_n X dX1_readPlain_23 0 rfl rfl ?_
    refine go_get X fi_X1_readPlain_X1 0 rfl rfl 3 (by decide) fl_X1_readPlain_49 rfl dX1_readPlain_24 ?_
    refine go_iconst X (v := 1) dX1_readPlain_27 (by decide) ?_
    refine go_iadd X dX1_readPlain_28 ?_
    refine go_iload_n X dX1_readPlain_29 2 rfl rfl ?_
    refine go_callVv X (kX4_addFrom l D cy a_o_joined a_o_joined_bytes n_o_joined_bytes a_p1 a_p1_bytes n_p1_bytes o_joined_length o_joined_bytes p1_length p1_bytes (o_place + 1) p2 _ h) (cwV 3 X.2.2.2.2.1 gX1_readPlain_X4_addFrom rfl rfl rfl cd_X4_addFrom ⟨by decide, by decide⟩) (wr := [(a_o, .inr (4, [.ref a_o_joined, .int o_start, .int o_wanted, .int o_place]))]) (ws2 := fun u => [(a_o, .inr (4, [.ref a_o_joined, .int o_start, .int o_wanted, .int o_place])), (a_o_joined, .inr (7, [.ref a_o_joined_bytes, .int u.1])), (a_o_joined_bytes, .inl (cy 0, n_o_joined_bytes, .inl u.2)), (a_p1, .inr (7, [.ref a_p1_bytes, .int p1_length])), (a_p1_bytes, .inl (cy 0, n_p1_bytes, .inl p1_bytes))]) (perm_idx [1, 2, 3, 4, 0] rfl rfl) (fun u => perm_idx [4, 0, 1, 2, 3] rfl rfl) rfl rfl rfl rfl (Nat.le_of_ble_eq_true rfl) dX1_readPlain_30 ⟨by decide, by decide⟩ (fun u h => ?_)
    obtain ⟨s3, s4⟩ := u
    refine go_aload_n X dX1_readPlain_33 0 rfl rfl ?_
    refine go_dup X dX1_readPlain_34 rfl ?_
    refine go_get X fi_X1_readPlain_X1 0 rfl rfl 3 (by decide) fl_X1_readPlain_49 rfl dX1_readPlain_35 ?_
    refine go_iload_n X dX1_readPlain_38 2 rfl rfl ?_
    refine go_iconst X (v := 1) dX1_readPlain_39 (by decide) ?_
    refine go_iadd X dX1_readPlain_40 ?_
    refine go_iadd X dX1_readPlain_41 ?_
    refine go_topi (fun y5 ey5 => ?_)
    replace h := h y5 ey5
    refine go_put X (ws' := [(a_o, .inr (4, [.ref a_o_joined, .int o_start, .int o_wanted, .int y5])), (a_o_joined, .inr (7, [.ref a_o_joined_bytes, .int s3])), (a_o_joined_bytes, .inl (cy 0, n_o_joined_bytes, .inl s4)), (a_p1, .inr (7, [.ref a_p1_bytes, .int p1_length])), (a_p1_bytes, .inl (cy 0, n_p1_bytes, .inl p1_bytes))]) fi_X1_readPlain_X1 tyX1 tyX1_ok nmX1 0 rfl rfl 3 (by decide) fl_X1_readPlain_49 rfl (tyX1_ok 3 (by decide)) rfl rfl (Nat.le_of_ble_eq_true rfl) rfl dX1_readPlain_42 ?_
    refine go_iconst X (v := (-1)) dX1_readPlain_45 (by decide) ?_
    exact hR (-1) (y5, s3, s4) 46 _ dX1_readPlain_46 rfl h
  · replace h := h.2 c2
    refine go_aload_n X dX1_readPlain_13 1 rfl rfl ?_
    refine go_callVi X (kX4_length l D cy a_p1 a_p1_bytes p1_length _ h) (cwV 0 X.2.2.2.2.1 gX1_readPlain_X4_length rfl rfl rfl cd_X4_length ⟨by decide, by decide⟩) (wr := [(a_o, .inr (4, [.ref a_o_joined, .int o_start, .int o_wanted, .int o_place])), (a_o_joined, .inr (7, [.ref a_o_joined_bytes, .int o_joined_length])), (a_o_joined_bytes, .inl (cy 0, n_o_joined_bytes, .inl o_joined_bytes)), (a_p1_bytes, .inl (cy 0, n_p1_bytes, .inl p1_bytes))]) (ws2 := fun u => [(a_o, .inr (4, [.ref a_o_joined, .int o_start, .int o_wanted, .int o_place])), (a_o_joined, .inr (7, [.ref a_o_joined_bytes, .int o_joined_length])), (a_o_joined_bytes, .inl (cy 0, n_o_joined_bytes, .inl o_joined_bytes)), (a_p1, .inr (7, [.ref a_p1_bytes, .int p1_length])), (a_p1_bytes, .inl (cy 0, n_p1_bytes, .inl p1_bytes))]) (perm_idx [3, 0, 1, 2, 4] rfl rfl) (fun u => perm_idx [1, 2, 3, 0, 4] rfl rfl) rfl rfl rfl rfl (Nat.le_of_ble_eq_true rfl) dX1_readPlain_14 ⟨by decide, by decide⟩ (fun r6 u h => ?_)
    exact hR r6 (o_place, o_joined_length, o_joined_bytes) 17 _ dX1_readPlain_17 rfl h
/-! X1_readItem -/
theorem fi_X1_readItem_X1 : ∀ w ∈ u_ws RX1 TX1 4, w ∈ wsX1_readItem := by decide +kernel
theorem fl_X1_readItem_49 : Cond.fieldLink RX1 49 (TX1 3).1 (TX1 3).2.1 (TX1 3).2.2.1 ∈ wsX1_readItem := by decide +kernel
theorem fl_X1_readItem_46 : Cond.fieldLink RX1 46 (TX1 2).1 (TX1 2).2.1 (TX1 2).2.2.1 ∈ wsX1_readItem := by decide +kernel
def rm_X1_readItem : Room := { frames := 4, cells := 0, slots := 0, locals := 88 }
theorem cd_X1_readItem : yX1_readItem.cls = RX1 ∧ yX1_readItem.cls ≠ "java/lang/invoke/MethodHandle" ∧ yX1_readItem.cls ≠ "java/lang/invoke/VarHandle" ∧ (parseMethodDescriptor yX1_readItem.desc).map (fun d => d.parameters.length) = some 1 := by decide +kernel
set_option maxRecDepth 100000 in
set_option maxHeartbeats 4000000 in
theorem kX1_readItem (l : Launch) (D : va_G) (cy : Nat → ClassId) (a_o : Nat) (a_o_joined : Nat) (a_o_joined_bytes : Nat) (n_o_joined_bytes : Nat) (a_p1 : Nat) (a_p1_bytes : Nat) (n_p1_bytes : Nat) (o_start : Int32) (o_wanted : Int32) (o_place : Int32) (o_joined_length : Int32) (o_joined_bytes : Nat → Int32) (p1_length : Int32) (p1_bytes : Nat → Int32) (post : Int32 → Int32 → Int32 → Int32 → (Nat → Int32) → Prop) (h : wX1_readItem n_o_joined_bytes n_p1_bytes o_wanted o_place o_joined_length o_joined_bytes p1_length p1_bytes post) : MetI l yX1_readItem wsX1_readItem rm_X1_readItem D (tyL cy) [.ref a_o, .ref a_p1] [(a_o, .inr (4, [.ref a_o_joined, .int o_start, .int o_wanted, .int o_place])), (a_o_joined, .inr (7, [.ref a_o_joined_bytes, .int o_joined_length])), (a_o_joined_bytes, .inl (cy 0, n_o_joined_bytes, .inl o_joined_bytes)), (a_p1, .inr (7, [.ref a_p1_bytes, .int p1_length])), (a_p1_bytes, .inl (cy 0, n_p1_bytes, .inl p1_bytes))] (fun u : Int32 × Int32 × Int32 × (Nat → Int32) => [(a_o, .inr (4, [.ref a_o_joined, .int o_start, .int u.1, .int u.2.1])), (a_o_joined, .inr (7, [.ref a_o_joined_bytes, .int u.2.2.1])), (a_o_joined_bytes, .inl (cy 0, n_o_joined_bytes, .inl u.2.2.2)), (a_p1, .inr (7, [.ref a_p1_bytes, .int p1_length])), (a_p1_bytes, .inl (cy 0, n_p1_bytes, .inl p1_bytes))]) (fun r => fun (u : Int32 × Int32 × Int32 × (Nat → Int32)) => post r u.1 u.2.1 u.2.2.1 u.2.2.2) 0 0 := by
  refine metI_of (cc := cX1_readItem) (maxL := 4) (lv := [(0, .ref a_o), (1, .ref a_p1)]) (by decide) rfl (Nat.le_of_ble_eq_true rfl) rfl ?_
  intro p e s m below meth c Q A X hlk hR
  unfold wX1_readItem at h
  refine go_aload_n X dX1_readItem_0 0 rfl rfl ?_
  refine go_get X fi_X1_readItem_X1 0 rfl rfl 3 (by decide) fl_X1_readItem_49 rfl dX1_readItem_1 ?_
  refine go_aload_n X dX1_readItem_4 1 rfl rfl ?_
  refine go_callVi X (kX4_length l D cy a_p1 a_p1_bytes p1_length _ h) (cwV 0 X.2.2.2.2.1 gX1_readItem_X4_length rfl rfl rfl cd_X4_length ⟨by decide, by decide⟩) (wr := [(a_o, .inr (4, [.ref a_o_joined, .int o_start, .int o_wanted, .int o_place])), (a_o_joined, .inr (7, [.ref a_o_joined_bytes, .int o_joined_length])), (a_o_joined_bytes, .inl (cy 0, n_o_joined_bytes, .inl o_joined_bytes)), (a_p1_bytes, .inl (cy 0, n_p1_bytes, .inl p1_bytes))]) (ws2 := fun u => [(a_o, .inr (4, [.ref a_o_joined, .int o_start, .int o_wanted, .int o_place])), (a_o_joined, .inr (7, [.ref a_o_joined_bytes, .int o_joined_length])), (a_o_joined_bytes, .inl (cy 0, n_o_joined_bytes, .inl o_joined_bytes)), (a_p1, .inr (7, [.ref a_p1_bytes, .int p1_length])), (a_p1_bytes, .inl (cy 0, n_p1_bytes, .inl p1_bytes))]) (perm_idx [3, 0, 1, 2, 4] rfl rfl) (fun u => perm_idx [1, 2, 3, 0, 4] rfl rfl) rfl rfl rfl rfl (Nat.le_of_ble_eq_true rfl) dX1_readItem_5 ⟨by decide, by decide⟩ (fun r1 u h => ?_)
  refine go_icmp_lt X 16 dX1_readItem_8 (by decide) (fun c2 => ?_) (fun c2 => ?_)
  · replace h := h.1 c2
    refine go_aload_n X dX1_readItem_16 1 rfl rfl ?_
    refine go_aload_n X dX1_readItem_17 0 rfl rfl ?_
    refine go_get X fi_X1_readItem_X1 0 rfl rfl 3 (by decide) fl_X1_readItem_49 rfl dX1_readItem_18 ?_
    refine go_callVi X (kX4_at l D cy a_p1 a_p1_bytes n_p1_bytes p1_length p1_bytes o_place _ h) (cwV 1 X.2.2.2.2.1 gX1_readItem_X4_at rfl rfl rfl cd_X4_at ⟨by decide, by decide⟩) (wr := [(a_o, .inr (4, [.ref a_o_joined, .int o_start, .int o_wanted, .int o_place])), (a_o_joined, .inr (7, [.ref a_o_joined_bytes, .int o_joined_length])), (a_o_joined_bytes, .inl (cy 0, n_o_joined_bytes, .inl o_joined_bytes))]) (ws2 := fun u => [(a_o, .inr (4, [.ref a_o_joined, .int o_start, .int o_wanted, .int o_place])), (a_o_joined, .inr (7, [.ref a_o_joined_bytes, .int o_joined_length])), (a_o_joined_bytes, .inl (cy 0, n_o_joined_bytes, .inl o_joined_bytes)), (a_p1, .inr (7, [.ref a_p1_bytes, .int p1_length])), (a_p1_bytes, .inl (cy 0, n_p1_bytes, .inl p1_bytes))]) (perm_idx [3, 4, 0, 1, 2] rfl rfl) (fun u => perm_idx [2, 3, 4, 0, 1] rfl rfl) rfl rfl rfl rfl (Nat.le_of_ble_eq_true rfl) dX1_readItem_21 ⟨by decide, by decide⟩ (fun r3 u h => ?_)
    refine go_istore_n X (lv' := [(2, .int r3), (0, .ref a_o), (1, .ref a_p1)]) dX1_readItem_24 rfl (by decide) rfl ?_
    refine go_iload_n X dX1_readItem_25 0 rfl rfl ?_
    refine go_bipush X (v := 32) dX1_readItem_26 (by decide) ?_
    refine go_icmp_ge X 37 dX1_readItem_28 (by decide) (fun c4 => ?_) (fun c4 => ?_)
    · replace h := h.1 c4
      refine go_iload_n X dX1_readItem_37 0 rfl rfl ?_
      refine go_bipush X (v := 32) dX1_readItem_38 (by decide) ?_
      refine go_idiv X dX1_readItem_40 (by decide) ?_
      refine go_iconst X (v := 2) dX1_readItem_41 (by decide) ?_
      refine go_iadd X dX1_readItem_42 ?_
      refine go_topi (fun y5 ey5 => ?_)
      replace h := h y5 ey5
      refine go_istore_n X (lv' := [(3, .int y5), (2, .int r3), (0, .ref a_o), (1, .ref a_p1)]) dX1_readItem_43 rfl (by decide) rfl ?_
      refine go_iload_n X dX1_readItem_44 0 rfl rfl ?_
      refine go_aload_n X dX1_readItem_45 2 rfl rfl ?_
      refine go_get X fi_X1_readItem_X1 0 rfl rfl 2 (by decide) fl_X1_readItem_46 rfl dX1_readItem_46 ?_
      refine go_icmp_le X 57 dX1_readItem_49 (by decide) (fun c6 => ?_) (fun c6 => ?_)
      · replace h := h.1 c6
        refine go_aload_n X dX1_readItem_57 2 rfl rfl ?_
        refine go_dup X dX1_readItem_58 rfl ?_
        refine go_get X fi_X1_readItem_X1 0 rfl rfl 2 (by decide) fl_X1_readItem_46 rfl dX1_readItem_59 ?_
        refine go_iload_n X dX1_readItem_62 0 rfl rfl ?_
        refine go_isub X dX1_readItem_63 ?_
        refine go_topi (fun y7 ey7 => ?_)
        replace h := h y7 ey7
        refine go_put X (ws' := [(a_o, .inr (4, [.ref a_o_joined, .int o_start, .int y7, .int o_place])), (a_o_joined, .inr (7, [.ref a_o_joined_bytes, .int o_joined_length])), (a_o_joined_bytes, .inl (cy 0, n_o_joined_bytes, .inl o_joined_bytes)), (a_p1, .inr (7, [.ref a_p1_bytes, .int p1_length])), (a_p1_bytes, .inl (cy 0, n_p1_bytes, .inl p1_bytes))]) fi_X1_readItem_X1 tyX1 tyX1_ok nmX1 0 rfl rfl 2 (by decide) fl_X1_readItem_46 rfl (tyX1_ok 2 (by decide)) rfl rfl (Nat.le_of_ble_eq_true rfl) rfl dX1_readItem_64 ?_
        refine go_iload_n X dX1_readItem_67 1 rfl rfl ?_
        refine go_bipush X (v := 32) dX1_readItem_68 (by decide) ?_
        refine go_icmp_ge X 82 dX1_readItem_70 (by decide) (fun _ => ?_) (fun c0 => absurd c4 c0)
        refine go_aload_n X dX1_readItem_82 2 rfl rfl ?_
        refine go_aload_n X dX1_readItem_83 3 rfl rfl ?_
        refine go_iload_n X dX1_readItem_84 1 rfl rfl ?_
        refine go_iload_n X dX1_readItem_85 0 rfl rfl ?_
        refine go_callVi X (kX1_readMatch l D cy a_o a_o_joined a_o_joined_bytes n_o_joined_bytes a_p1 a_p1_bytes n_p1_bytes o_start y7 o_place o_joined_length o_joined_bytes p1_length p1_bytes r3 y5 _ h) (cwV 3 X.2.2.2.2.1 gX1_readItem_X1_readMatch rfl rfl rfl cd_X1_readMatch ⟨by decide, by decide⟩) (wr := []) (ws2 := fun u => [(a_o, .inr (4, [.ref a_o_joined, .int o_start, .int y7, .int u.1])), (a_o_joined, .inr (7, [.ref a_o_joined_bytes, .int u.2.1])), (a_o_joined_bytes, .inl (cy 0, n_o_joined_bytes, .inl u.2.2)), (a_p1, .inr (7, [.ref a_p1_bytes, .int p1_length])), (a_p1_bytes, .inl (cy 0, n_p1_bytes, .inl p1_bytes))]) (perm_idx [0, 1, 2, 3, 4] rfl rfl) (fun u => perm_idx [0, 1, 2, 3, 4] rfl rfl) rfl rfl rfl rfl (Nat.le_of_ble_eq_true rfl) dX1_readItem_86 ⟨by decide, by decide⟩ (fun r8 u h => ?_)
        obtain ⟨s9, s10, s11⟩ := u
        exact hR r8 (y7, s9, s10, s11) 89 _ dX1_readItem_89 rfl h
      · replace h := h.2 c6
        refine go_aload_n X dX1_readItem_52 2 rfl rfl ?_
        refine go_get X fi_X1_readItem_X1 0 rfl rfl 3 (by decide) fl_X1_readItem_49 rfl dX1_readItem_53 ?_
        exact hR o_place (o_wanted, o_place, o_joined_length, o_joined_bytes) 56 _ dX1_readItem_56 rfl h
    · replace h := h.2 c4
      refine go_iload_n X dX1_readItem_31 0 rfl rfl ?_
      refine go_iconst X (v := 1) dX1_readItem_32 (by decide) ?_
      refine go_iadd X dX1_readItem_33 ?_
      refine go_goto X 43 dX1_readItem_34 (by decide) ?_
      refine go_topi (fun y12 ey12 => ?_)
      replace h := h y12 ey12
      refine go_istore_n X (lv' := [(3, .int y12), (2, .int r3), (0, .ref a_o), (1, .ref a_p1)]) dX1_readItem_43 rfl (by decide) rfl ?_
      refine go_iload_n X dX1_readItem_44 0 rfl rfl ?_
      refine go_aload_n X dX1_readItem_45 2 rfl rfl ?_
      refine go_get X fi_X1_readItem_X1 0 rfl rfl 2 (by decide) fl_X1_readItem_46 rfl dX1_readItem_46 ?_
      refine go_icmp_le X 57 dX1_readItem_49 (by decide) (fun c13 => ?_) (fun c13 => ?_)
      · replace h := h.1 c13
        refine go_aload_n X dX1_readItem_57 2 rfl rfl ?_
        refine go_dup X dX1_readItem_58 rfl ?_
        refine go_get X fi_X1_readItem_X1 0 rfl rfl 2 (by decide) fl_X1_readItem_46 rfl dX1_readItem_59 ?_
        refine go_iload_n X dX1_readItem_62 0 rfl rfl ?_
        refine go_isub X dX1_readItem_63 ?_
        refine go_topi (fun y14 ey14 => ?_)
        replace h := h y14 ey14
        refine go_put X (ws' := [(a_o, .inr (4, [.ref a_o_joined, .int o_start, .int y14, .int o_place])), (a_o_joined, .inr (7, [.ref a_o_joined_bytes, .int o_joined_length])), (a_o_joined_bytes, .inl (cy 0, n_o_joined_bytes, .inl o_joined_bytes)), (a_p1, .inr (7, [.ref a_p1_bytes, .int p1_length])), (a_p1_bytes, .inl (cy 0, n_p1_bytes, .inl p1_bytes))]) fi_X1_readItem_X1 tyX1 tyX1_ok nmX1 0 rfl rfl 2 (by decide) fl_X1_readItem_46 rfl (tyX1_ok 2 (by decide)) rfl rfl (Nat.le_of_ble_eq_true rfl) rfl dX1_readItem_64 ?_
        refine go_iload_n X dX1_readItem_67 1 rfl rfl ?_
        refine go_bipush X (v := 32) dX1_readItem_68 (by decide) ?_
        refine go_icmp_ge X 82 dX1_readItem_70 (by decide) (fun c0 => absurd c0 c4) (fun _ => ?_)
        refine go_aload_n X dX1_readItem_73 2 rfl rfl ?_
        refine go_aload_n X dX1_readItem_74 3 rfl rfl ?_
        refine go_iload_n X dX1_readItem_75 0 rfl rfl ?_
        refine go_callVi X (kX1_readPlain l D cy a_o a_o_joined a_o_joined_bytes n_o_joined_bytes a_p1 a_p1_bytes n_p1_bytes o_start y14 o_place o_joined_length o_joined_bytes p1_length p1_bytes y12 _ h) (cwV 2 X.2.2.2.2.1 gX1_readItem_X1_readPlain rfl rfl rfl cd_X1_readPlain ⟨by decide, by decide⟩) (wr := []) (ws2 := fun u => [(a_o, .inr (4, [.ref a_o_joined, .int o_start, .int y14, .int u.1])), (a_o_joined, .inr (7, [.ref a_o_joined_bytes, .int u.2.1])), (a_o_joined_bytes, .inl (cy 0, n_o_joined_bytes, .inl u.2.2)), (a_p1, .inr (7, [.ref a_p1_bytes, .int p1_length])), (a_p1_bytes, .inl (cy 0, n_p1_bytes, .inl p1_bytes))]) (perm_idx [0, 1, 2, 3, 4] rfl rfl) (fun u => perm_idx [0, 1, 2, 3, 4] rfl rfl) rfl rfl rfl rfl (Nat.le_of_ble_eq_true rfl) dX1_readItem_76 ⟨by decide, by decide⟩ (fun r15 u h => ?_)
        obtain ⟨s16, s17, s18⟩ := u
        refine go_goto X 89 dX1_readItem_79 (by decide) ?_
        exact hR r15 (y14, s16, s17, s18) 89 _ dX1_readItem_89 rfl h
      · replace h := h.2 c13
        refine go_aload_n X dX1_readItem_52 2 rfl rfl ?_
        refine go_get X fi_X1_readItem_X1 0 rfl rfl 3 (by decide) fl_X1_readItem_49 rfl dX1_readItem_53 ?_
        exact hR o_place (o_wanted, o_place, o_joined_length, o_joined_bytes) 56 _ dX1_readItem_56 rfl h
  · replace h := h.2 c2
    refine go_aload_n X dX1_readItem_11 1 rfl rfl ?_
    refine go_callVi X (kX4_length l D cy a_p1 a_p1_bytes p1_length _ h) (cwV 0 X.2.2.2.2.1 gX1_readItem_X4_length rfl rfl rfl cd_X4_length ⟨by decide, by decide⟩) (wr := [(a_o, .inr (4, [.ref a_o_joined, .int o_start, .int o_wanted, .int o_place])), (a_o_joined, .inr (7, [.ref a_o_joined_bytes, .int o_joined_length])), (a_o_joined_bytes, .inl (cy 0, n_o_joined_bytes, .inl o_joined_bytes)), (a_p1_bytes, .inl (cy 0, n_p1_bytes, .inl p1_bytes))]) (ws2 := fun u => [(a_o, .inr (4, [.ref a_o_joined, .int o_start, .int o_wanted, .int o_place])), (a_o_joined, .inr (7, [.ref a_o_joined_bytes, .int o_joined_length])), (a_o_joined_bytes, .inl (cy 0, n_o_joined_bytes, .inl o_joined_bytes)), (a_p1, .inr (7, [.ref a_p1_bytes, .int p1_length])), (a_p1_bytes, .inl (cy 0, n_p1_bytes, .inl p1_bytes))]) (perm_idx [3, 0, 1, 2, 4] rfl rfl) (fun u => perm_idx [1, 2, 3, 0, 4] rfl rfl) rfl rfl rfl rfl (Nat.le_of_ble_eq_true rfl) dX1_readItem_12 ⟨by decide, by decide⟩ (fun r19 u h => ?_)
    exact hR r19 (o_wanted, o_place, o_joined_length, o_joined_bytes) 15 _ dX1_readItem_15 rfl h
/-! X1_wrongInHeader -/
def rm_X1_wrongInHeader : Room := { frames := 5, cells := 0, slots := 0, locals := 106 }
theorem cd_X1_wrongInHeader : yX1_wrongInHeader.cls = RX1 ∧ yX1_wrongInHeader.cls ≠ "java/lang/invoke/MethodHandle" ∧ yX1_wrongInHeader.cls ≠ "java/lang/invoke/VarHandle" ∧ (parseMethodDescriptor yX1_wrongInHeader.desc).map (fun d => d.parameters.length) = some 2 := by decide +kernel
set_option maxRecDepth 100000 in
set_option maxHeartbeats 4000000 in
theorem kX1_wrongInHeader (l : Launch) (D : va_G) (cy : Nat → ClassId) (a_o : Nat) (a_o_joined : Nat) (a_p1 : Nat) (a_p1_bytes : Nat) (n_p1_bytes : Nat) (a_p2 : Nat) (a_p2_words : Nat) (a_p2_words_bytes : Nat) (n_p2_words_bytes : Nat) (o_start : Int32) (o_wanted : Int32) (o_place : Int32) (p1_length : Int32) (p1_bytes : Nat → Int32) (p2_pieceLength : Int32) (p2_pieces : Int32) (p2_id : Int32) (p2_words_length : Int32) (p2_words_bytes : Nat → Int32) (post : Int32 → Prop) (h : wX1_wrongInHeader n_p1_bytes n_p2_words_bytes p1_length p1_bytes p2_id p2_words_length p2_words_bytes post) : MetI l yX1_wrongInHeader wsX1_wrongInHeader rm_X1_wrongInHeader D (tyL cy) [.ref a_o, .ref a_p1, .ref a_p2] [(a_o, .inr (4, [.ref a_o_joined, .int o_start, .int o_wanted, .int o_place])), (a_p1, .inr (7, [.ref a_p1_bytes, .int p1_length])), (a_p1_bytes, .inl (cy 0, n_p1_bytes, .inl p1_bytes)), (a_p2, .inr (3, [.ref a_p2_words, .int p2_pieceLength, .int p2_pieces, .int p2_id])), (a_p2_words, .inr (7, [.ref a_p2_words_bytes, .int p2_words_length])), (a_p2_words_bytes, .inl (cy 0, n_p2_words_bytes, .inl p2_words_bytes))] (fun u : Unit => [(a_o, .inr (4, [.ref a_o_joined, .int o_start, .int o_wanted, .int o_place])), (a_p1, .inr (7, [.ref a_p1_bytes, .int p1_length])), (a_p1_bytes, .inl (cy 0, n_p1_bytes, .inl p1_bytes)), (a_p2, .inr (3, [.ref a_p2_words, .int p2_pieceLength, .int p2_pieces, .int p2_id])), (a_p2_words, .inr (7, [.ref a_p2_words_bytes, .int p2_words_length])), (a_p2_words_bytes, .inl (cy 0, n_p2_words_bytes, .inl p2_words_bytes))]) (fun r => fun (u : Unit) => post r ) 0 0 := by
  refine metI_of (cc := cX1_wrongInHeader) (maxL := 3) (lv := [(0, .ref a_o), (1, .ref a_p1), (2, .ref a_p2)]) (by decide) rfl (Nat.le_of_ble_eq_true rfl) rfl ?_
  intro p e s m below meth c Q A X hlk hR
  unfold wX1_wrongInHeader at h
  refine go_aload_n X dX1_wrongInHeader_0 1 rfl rfl ?_
  refine go_callVi X (kX4_length l D cy a_p1 a_p1_bytes p1_length _ h) (cwV 0 X.2.2.2.2.1 gX1_wrongInHeader_X4_length rfl rfl rfl cd_X4_length ⟨by decide, by decide⟩) (wr := [(a_o, .inr (4, [.ref a_o_joined, .int o_start, .int o_wanted, .int o_place])), (a_p1_bytes, .inl (cy 0, n_p1_bytes, .inl p1_bytes)), (a_p2, .inr (3, [.ref a_p2_words, .int p2_pieceLength, .int p2_pieces, .int p2_id])), (a_p2_words, .inr (7, [.ref a_p2_words_bytes, .int p2_words_length])), (a_p2_words_bytes, .inl (cy 0, n_p2_words_bytes, .inl p2_words_bytes))]) (ws2 := fun u => [(a_o, .inr (4, [.ref a_o_joined, .int o_start, .int o_wanted, .int o_place])), (a_p1, .inr (7, [.ref a_p1_bytes, .int p1_length])), (a_p1_bytes, .inl (cy 0, n_p1_bytes, .inl p1_bytes)), (a_p2, .inr (3, [.ref a_p2_words, .int p2_pieceLength, .int p2_pieces, .int p2_id])), (a_p2_words, .inr (7, [.ref a_p2_words_bytes, .int p2_words_length])), (a_p2_words_bytes, .inl (cy 0, n_p2_words_bytes, .inl p2_words_bytes))]) (perm_idx [1, 0, 2, 3, 4, 5] rfl rfl) (fun u => perm_idx [1, 0, 2, 3, 4, 5] rfl rfl) rfl rfl rfl rfl (Nat.le_of_ble_eq_true rfl) dX1_wrongInHeader_1 ⟨by decide, by decide⟩ (fun r1 u h => ?_)
  refine go_iconst X (v := 3) dX1_wrongInHeader_4 (by decide) ?_
  refine go_icmp_ge X 13 dX1_wrongInHeader_5 (by decide) (fun c2 => ?_) (fun c2 => ?_)
  · replace h := h.1 c2
    refine go_sipush X (v := 256) dX1_wrongInHeader_13 (by decide) ?_
    refine go_aload_n X dX1_wrongInHeader_16 1 rfl rfl ?_
    refine go_iconst X (v := 1) dX1_wrongInHeader_17 (by decide) ?_
    refine go_callVi X (kX4_at l D cy a_p1 a_p1_bytes n_p1_bytes p1_length p1_bytes (1 : Int32) _ h) (cwV 1 X.2.2.2.2.1 gX1_wrongInHeader_X4_at rfl rfl rfl cd_X4_at ⟨by decide, by decide⟩) (wr := [(a_o, .inr (4, [.ref a_o_joined, .int o_start, .int o_wanted, .int o_place])), (a_p2, .inr (3, [.ref a_p2_words, .int p2_pieceLength, .int p2_pieces, .int p2_id])), (a_p2_words, .inr (7, [.ref a_p2_words_bytes, .int p2_words_length])), (a_p2_words_bytes, .inl (cy 0, n_p2_words_bytes, .inl p2_words_bytes))]) (ws2 := fun u => [(a_o, .inr (4, [.ref a_o_joined, .int o_start, .int o_wanted, .int o_place])), (a_p1, .inr (7, [.ref a_p1_bytes, .int p1_length])), (a_p1_bytes, .inl (cy 0, n_p1_bytes, .inl p1_bytes)), (a_p2, .inr (3, [.ref a_p2_words, .int p2_pieceLength, .int p2_pieces, .int p2_id])), (a_p2_words, .inr (7, [.ref a_p2_words_bytes, .int p2_words_length])), (a_p2_words_bytes, .inl (cy 0, n_p2_words_bytes, .inl p2_words_bytes))]) (perm_idx [1, 2, 0, 3, 4, 5] rfl rfl) (fun u => perm_idx [2, 0, 1, 3, 4, 5] rfl rfl) rfl rfl rfl rfl (Nat.le_of_ble_eq_true rfl) dX1_wrongInHeader_18 ⟨by decide, by decide⟩ (fun r3 u h => ?_)
    refine go_imul X dX1_wrongInHeader_21 ?_
    refine go_aload_n X dX1_wrongInHeader_22 1 rfl rfl ?_
    refine go_iconst X (v := 2) dX1_wrongInHeader_23 (by decide) ?_
    refine go_callVi X (kX4_at l D cy a_p1 a_p1_bytes n_p1_bytes p1_length p1_bytes (2 : Int32) _ h) (cwV 1 X.2.2.2.2.1 gX1_wrongInHeader_X4_at rfl rfl rfl cd_X4_at ⟨by decide, by decide⟩) (wr := [(a_o, .inr (4, [.ref a_o_joined, .int o_start, .int o_wanted, .int o_place])), (a_p2, .inr (3, [.ref a_p2_words, .int p2_pieceLength, .int p2_pieces, .int p2_id])), (a_p2_words, .inr (7, [.ref a_p2_words_bytes, .int p2_words_length])), (a_p2_words_bytes, .inl (cy 0, n_p2_words_bytes, .inl p2_words_bytes))]) (ws2 := fun u => [(a_o, .inr (4, [.ref a_o_joined, .int o_start, .int o_wanted, .int o_place])), (a_p1, .inr (7, [.ref a_p1_bytes, .int p1_length])), (a_p1_bytes, .inl (cy 0, n_p1_bytes, .inl p1_bytes)), (a_p2, .inr (3, [.ref a_p2_words, .int p2_pieceLength, .int p2_pieces, .int p2_id])), (a_p2_words, .inr (7, [.ref a_p2_words_bytes, .int p2_words_length])), (a_p2_words_bytes, .inl (cy 0, n_p2_words_bytes, .inl p2_words_bytes))]) (perm_idx [1, 2, 0, 3, 4, 5] rfl rfl) (fun u => perm_idx [2, 0, 1, 3, 4, 5] rfl rfl) rfl rfl rfl rfl (Nat.le_of_ble_eq_true rfl) dX1_wrongInHeader_24 ⟨by decide, by decide⟩ (fun r4 u h => ?_)
    refine go_iadd X dX1_wrongInHeader_27 ?_
    refine go_aload_n X dX1_wrongInHeader_28 2 rfl rfl ?_
    refine go_callVi X (kX0_sum l D cy a_p2 a_p2_words a_p2_words_bytes n_p2_words_bytes p2_pieceLength p2_pieces p2_id p2_words_length p2_words_bytes _ h) (cwV 0 X.2.2.2.2.1 gX1_wrongInHeader_X0_sum rfl rfl rfl cd_X0_sum ⟨by decide, by decide⟩) (wr := [(a_o, .inr (4, [.ref a_o_joined, .int o_start, .int o_wanted, .int o_place])), (a_p1, .inr (7, [.ref a_p1_bytes, .int p1_length])), (a_p1_bytes, .inl (cy 0, n_p1_bytes, .inl p1_bytes))]) (ws2 := fun u => [(a_o, .inr (4, [.ref a_o_joined, .int o_start, .int o_wanted, .int o_place])), (a_p1, .inr (7, [.ref a_p1_bytes, .int p1_length])), (a_p1_bytes, .inl (cy 0, n_p1_bytes, .inl p1_bytes)), (a_p2, .inr (3, [.ref a_p2_words, .int p2_pieceLength, .int p2_pieces, .int p2_id])), (a_p2_words, .inr (7, [.ref a_p2_words_bytes, .int p2_words_length])), (a_p2_words_bytes, .inl (cy 0, n_p2_words_bytes, .inl p2_words_bytes))]) (perm_idx [3, 4, 5, 0, 1, 2] rfl rfl) (fun u => perm_idx [3, 4, 5, 0, 1, 2] rfl rfl) rfl rfl rfl rfl (Nat.le_of_ble_eq_true rfl) dX1_wrongInHeader_29 ⟨by decide, by decide⟩ (fun r5 u h => ?_)
    refine go_icmp_eq X 37 dX1_wrongInHeader_32 (by decide) (fun c6 => ?_) (fun c6 => ?_)
    · replace h := h.1 c6
      refine go_aload_n X dX1_wrongInHeader_37 1 rfl rfl ?_
      refine go_callVi X (kX4_length l D cy a_p1 a_p1_bytes p1_length _ h) (cwV 0 X.2.2.2.2.1 gX1_wrongInHeader_X4_length rfl rfl rfl cd_X4_length ⟨by decide, by decide⟩) (wr := [(a_o, .inr (4, [.ref a_o_joined, .int o_start, .int o_wanted, .int o_place])), (a_p1_bytes, .inl (cy 0, n_p1_bytes, .inl p1_bytes)), (a_p2, .inr (3, [.ref a_p2_words, .int p2_pieceLength, .int p2_pieces, .int p2_id])), (a_p2_words, .inr (7, [.ref a_p2_words_bytes, .int p2_words_length])), (a_p2_words_bytes, .inl (cy 0, n_p2_words_bytes, .inl p2_words_bytes))]) (ws2 := fun u => [(a_o, .inr (4, [.ref a_o_joined, .int o_start, .int o_wanted, .int o_place])), (a_p1, .inr (7, [.ref a_p1_bytes, .int p1_length])), (a_p1_bytes, .inl (cy 0, n_p1_bytes, .inl p1_bytes)), (a_p2, .inr (3, [.ref a_p2_words, .int p2_pieceLength, .int p2_pieces, .int p2_id])), (a_p2_words, .inr (7, [.ref a_p2_words_bytes, .int p2_words_length])), (a_p2_words_bytes, .inl (cy 0, n_p2_words_bytes, .inl p2_words_bytes))]) (perm_idx [1, 0, 2, 3, 4, 5] rfl rfl) (fun u => perm_idx [1, 0, 2, 3, 4, 5] rfl rfl) rfl rfl rfl rfl (Nat.le_of_ble_eq_true rfl) dX1_wrongInHeader_38 ⟨by decide, by decide⟩ (fun r7 u h => ?_)
      refine go_iconst X (v := 4) dX1_wrongInHeader_41 (by decide) ?_
      refine go_icmp_lt X 56 dX1_wrongInHeader_42 (by decide) (fun c8 => ?_) (fun c8 => ?_)
      · replace h := h.1 c8
        refine go_iconst X (v := 3) dX1_wrongInHeader_56 (by decide) ?_
        refine go_goto X 61 dX1_wrongInHeader_57 (by decide) ?_
        exact hR 3 () 61 _ dX1_wrongInHeader_61 rfl h
      · replace h := h.2 c8
        refine go_aload_n X dX1_wrongInHeader_45 1 rfl rfl ?_
        refine go_iconst X (v := 3) dX1_wrongInHeader_46 (by decide) ?_
        refine go_callVi X (kX4_at l D cy a_p1 a_p1_bytes n_p1_bytes p1_length p1_bytes (3 : Int32) _ h) (cwV 1 X.2.2.2.2.1 gX1_wrongInHeader_X4_at rfl rfl rfl cd_X4_at ⟨by decide, by decide⟩) (wr := [(a_o, .inr (4, [.ref a_o_joined, .int o_start, .int o_wanted, .int o_place])), (a_p2, .inr (3, [.ref a_p2_words, .int p2_pieceLength, .int p2_pieces, .int p2_id])), (a_p2_words, .inr (7, [.ref a_p2_words_bytes, .int p2_words_length])), (a_p2_words_bytes, .inl (cy 0, n_p2_words_bytes, .inl p2_words_bytes))]) (ws2 := fun u => [(a_o, .inr (4, [.ref a_o_joined, .int o_start, .int o_wanted, .int o_place])), (a_p1, .inr (7, [.ref a_p1_bytes, .int p1_length])), (a_p1_bytes, .inl (cy 0, n_p1_bytes, .inl p1_bytes)), (a_p2, .inr (3, [.ref a_p2_words, .int p2_pieceLength, .int p2_pieces, .int p2_id])), (a_p2_words, .inr (7, [.ref a_p2_words_bytes, .int p2_words_length])), (a_p2_words_bytes, .inl (cy 0, n_p2_words_bytes, .inl p2_words_bytes))]) (perm_idx [1, 2, 0, 3, 4, 5] rfl rfl) (fun u => perm_idx [2, 0, 1, 3, 4, 5] rfl rfl) rfl rfl rfl rfl (Nat.le_of_ble_eq_true rfl) dX1_wrongInHeader_47 ⟨by decide, by decide⟩ (fun r9 u h => ?_)
        refine go_sipush X (v := 200) dX1_wrongInHeader_50 (by decide) ?_
        refine go_icmp_le X 60 dX1_wrongInHeader_53 (by decide) (fun c10 => ?_) (fun c10 => ?_)
        · replace h := h.1 c10
          refine go_iconst X (v := (-1)) dX1_wrongInHeader_60 (by decide) ?_
          exact hR (-1) () 61 _ dX1_wrongInHeader_61 rfl h
        · replace h := h.2 c10
          refine go_iconst X (v := 3) dX1_wrongInHeader_56 (by decide) ?_
          refine go_goto X 61 dX1_wrongInHeader_57 (by decide) ?_
          exact hR 3 () 61 _ dX1_wrongInHeader_61 rfl h
    · replace h := h.2 c6
      refine go_iconst X (v := 1) dX1_wrongInHeader_35 (by decide) ?_
      exact hR 1 () 36 _ dX1_wrongInHeader_36 rfl h
  · replace h := h.2 c2
    refine go_aload_n X dX1_wrongInHeader_8 1 rfl rfl ?_
    refine go_callVi X (kX4_length l D cy a_p1 a_p1_bytes p1_length _ h) (cwV 0 X.2.2.2.2.1 gX1_wrongInHeader_X4_length rfl rfl rfl cd_X4_length ⟨by decide, by decide⟩) (wr := [(a_o, .inr (4, [.ref a_o_joined, .int o_start, .int o_wanted, .int o_place])), (a_p1_bytes, .inl (cy 0, n_p1_bytes, .inl p1_bytes)), (a_p2, .inr (3, [.ref a_p2_words, .int p2_pieceLength, .int p2_pieces, .int p2_id])), (a_p2_words, .inr (7, [.ref a_p2_words_bytes, .int p2_words_length])), (a_p2_words_bytes, .inl (cy 0, n_p2_words_bytes, .inl p2_words_bytes))]) (ws2 := fun u => [(a_o, .inr (4, [.ref a_o_joined, .int o_start, .int o_wanted, .int o_place])), (a_p1, .inr (7, [.ref a_p1_bytes, .int p1_length])), (a_p1_bytes, .inl (cy 0, n_p1_bytes, .inl p1_bytes)), (a_p2, .inr (3, [.ref a_p2_words, .int p2_pieceLength, .int p2_pieces, .int p2_id])), (a_p2_words, .inr (7, [.ref a_p2_words_bytes, .int p2_words_length])), (a_p2_words_bytes, .inl (cy 0, n_p2_words_bytes, .inl p2_words_bytes))]) (perm_idx [1, 0, 2, 3, 4, 5] rfl rfl) (fun u => perm_idx [1, 0, 2, 3, 4, 5] rfl rfl) rfl rfl rfl rfl (Nat.le_of_ble_eq_true rfl) dX1_wrongInHeader_9 ⟨by decide, by decide⟩ (fun r11 u h => ?_)
    exact hR r11 () 12 _ dX1_wrongInHeader_12 rfl h
/-! X1_handOver -/
theorem fi_X1_handOver_X1 : ∀ w ∈ u_ws RX1 TX1 4, w ∈ wsX1_handOver := by decide +kernel
theorem fl_X1_handOver_14 : Cond.fieldLink RX1 14 (TX1 0).1 (TX1 0).2.1 (TX1 0).2.2.1 ∈ wsX1_handOver := by decide +kernel
theorem fl_X1_handOver_38 : Cond.fieldLink RX1 38 (TX1 1).1 (TX1 1).2.1 (TX1 1).2.2.1 ∈ wsX1_handOver := by decide +kernel
def rm_X1_handOver : Room := { frames := 3, cells := 0, slots := 0, locals := 66 }
theorem cd_X1_handOver : yX1_handOver.cls = RX1 ∧ yX1_handOver.cls ≠ "java/lang/invoke/MethodHandle" ∧ yX1_handOver.cls ≠ "java/lang/invoke/VarHandle" ∧ (parseMethodDescriptor yX1_handOver.desc).map (fun d => d.parameters.length) = some 1 := by decide +kernel
set_option maxRecDepth 100000 in
set_option maxHeartbeats 4000000 in
theorem kX1_handOver (l : Launch) (D : va_G) (cy : Nat → ClassId) (a_o : Nat) (a_o_joined : Nat) (a_o_joined_bytes : Nat) (n_o_joined_bytes : Nat) (a_p1 : Nat) (a_p1_bytes : Nat) (n_p1_bytes : Nat) (o_start : Int32) (o_wanted : Int32) (o_place : Int32) (o_joined_length : Int32) (o_joined_bytes : Nat → Int32) (p1_length : Int32) (p1_bytes : Nat → Int32) (post : Int32 → (Nat → Int32) → Prop) (h : wX1_handOver n_o_joined_bytes n_p1_bytes o_start o_joined_length o_joined_bytes p1_bytes post) : MetV l yX1_handOver wsX1_handOver rm_X1_handOver D (tyL cy) [.ref a_o, .ref a_p1] [(a_o, .inr (4, [.ref a_o_joined, .int o_start, .int o_wanted, .int o_place])), (a_o_joined, .inr (7, [.ref a_o_joined_bytes, .int o_joined_length])), (a_o_joined_bytes, .inl (cy 0, n_o_joined_bytes, .inl o_joined_bytes)), (a_p1, .inr (7, [.ref a_p1_bytes, .int p1_length])), (a_p1_bytes, .inl (cy 0, n_p1_bytes, .inl p1_bytes))] (fun u : Int32 × (Nat → Int32) => [(a_o, .inr (4, [.ref a_o_joined, .int o_start, .int o_wanted, .int o_place])), (a_o_joined, .inr (7, [.ref a_o_joined_bytes, .int o_joined_length])), (a_o_joined_bytes, .inl (cy 0, n_o_joined_bytes, .inl o_joined_bytes)), (a_p1, .inr (7, [.ref a_p1_bytes, .int u.1])), (a_p1_bytes, .inl (cy 0, n_p1_bytes, .inl u.2))]) (fun (u : Int32 × (Nat → Int32)) => post u.1 u.2) 0 0 := by
  refine metV_of (cc := cX1_handOver) (maxL := 2) (lv := [(0, .ref a_o), (1, .ref a_p1)]) (by decide) rfl (Nat.le_of_ble_eq_true rfl) rfl ?_
  intro p e s m below meth c Q A X hlk hnm hR
  unfold wX1_handOver at h
  refine go_aload_n X dX1_handOver_0 1 rfl rfl ?_
  refine go_callVv X (kX4_clear l D cy a_p1 a_p1_bytes p1_length _ h) (cwV 0 X.2.2.2.2.1 gX1_handOver_X4_clear rfl rfl rfl cd_X4_clear ⟨by decide, by decide⟩) (wr := [(a_o, .inr (4, [.ref a_o_joined, .int o_start, .int o_wanted, .int o_place])), (a_o_joined, .inr (7, [.ref a_o_joined_bytes, .int o_joined_length])), (a_o_joined_bytes, .inl (cy 0, n_o_joined_bytes, .inl o_joined_bytes)), (a_p1_bytes, .inl (cy 0, n_p1_bytes, .inl p1_bytes))]) (ws2 := fun u => [(a_o, .inr (4, [.ref a_o_joined, .int o_start, .int o_wanted, .int o_place])), (a_o_joined, .inr (7, [.ref a_o_joined_bytes, .int o_joined_length])), (a_o_joined_bytes, .inl (cy 0, n_o_joined_bytes, .inl o_joined_bytes)), (a_p1, .inr (7, [.ref a_p1_bytes, .int u])), (a_p1_bytes, .inl (cy 0, n_p1_bytes, .inl p1_bytes))]) (perm_idx [3, 0, 1, 2, 4] rfl rfl) (fun u => perm_idx [1, 2, 3, 0, 4] rfl rfl) rfl rfl rfl rfl (Nat.le_of_ble_eq_true rfl) dX1_handOver_1 ⟨by decide, by decide⟩ (fun u h => ?_)
  obtain ⟨s1, rfl⟩ : ∃ z, z = u := ⟨_, rfl⟩
  refine go_aload_n X dX1_handOver_4 1 rfl rfl ?_
  refine go_aload_n X dX1_handOver_5 0 rfl rfl ?_
  refine go_get X fi_X1_handOver_X1 0 rfl rfl 0 (by decide) fl_X1_handOver_14 rfl dX1_handOver_6 ?_
  refine go_aload_n X dX1_handOver_9 0 rfl rfl ?_
  refine go_get X fi_X1_handOver_X1 0 rfl rfl 1 (by decide) fl_X1_handOver_38 rfl dX1_handOver_10 ?_
  refine go_aload_n X dX1_handOver_13 0 rfl rfl ?_
  refine go_get X fi_X1_handOver_X1 0 rfl rfl 0 (by decide) fl_X1_handOver_14 rfl dX1_handOver_14 ?_
  refine go_callVi X (kX4_length l D cy a_o_joined a_o_joined_bytes o_joined_length _ h) (cwV 0 X.2.2.2.2.1 gX1_handOver_X4_length rfl rfl rfl cd_X4_length ⟨by decide, by decide⟩) (wr := [(a_o, .inr (4, [.ref a_o_joined, .int o_start, .int o_wanted, .int o_place])), (a_o_joined_bytes, .inl (cy 0, n_o_joined_bytes, .inl o_joined_bytes)), (a_p1, .inr (7, [.ref a_p1_bytes, .int s1])), (a_p1_bytes, .inl (cy 0, n_p1_bytes, .inl p1_bytes))]) (ws2 := fun u => [(a_o, .inr (4, [.ref a_o_joined, .int o_start, .int o_wanted, .int o_place])), (a_o_joined, .inr (7, [.ref a_o_joined_bytes, .int o_joined_length])), (a_o_joined_bytes, .inl (cy 0, n_o_joined_bytes, .inl o_joined_bytes)), (a_p1, .inr (7, [.ref a_p1_bytes, .int s1])), (a_p1_bytes, .inl (cy 0, n_p1_bytes, .inl p1_bytes))]) (perm_idx [1, 0, 2, 3, 4] rfl rfl) (fun u => perm_idx [1, 0, 2, 3, 4] rfl rfl) rfl rfl rfl rfl (Nat.le_of_ble_eq_true rfl) dX1_handOver_17 ⟨by decide, by decide⟩ (fun r2 u h => ?_)
  refine go_aload_n X dX1_handOver_20 0 rfl rfl ?_
  refine go_get X fi_X1_handOver_X1 0 rfl rfl 1 (by decide) fl_X1_handOver_38 rfl dX1_handOver_21 ?_
  refine go_isub X dX1_handOver_24 ?_
  refine go_callVv X (kX4_addFrom l D cy a_p1 a_p1_bytes n_p1_bytes a_o_joined a_o_joined_bytes n_o_joined_bytes s1 p1_bytes o_joined_length o_joined_bytes o_start (r2 - o_start) _ h) (cwV 3 X.2.2.2.2.1 gX1_handOver_X4_addFrom rfl rfl rfl cd_X4_addFrom ⟨by decide, by decide⟩) (wr := [(a_o, .inr (4, [.ref a_o_joined, .int o_start, .int o_wanted, .int o_place]))]) (ws2 := fun u => [(a_o, .inr (4, [.ref a_o_joined, .int o_start, .int o_wanted, .int o_place])), (a_o_joined, .inr (7, [.ref a_o_joined_bytes, .int o_joined_length])), (a_o_joined_bytes, .inl (cy 0, n_o_joined_bytes, .inl o_joined_bytes)), (a_p1, .inr (7, [.ref a_p1_bytes, .int u.1])), (a_p1_bytes, .inl (cy 0, n_p1_bytes, .inl u.2))]) (perm_idx [3, 4, 1, 2, 0] rfl rfl) (fun u => perm_idx [4, 2, 3, 0, 1] rfl rfl) rfl rfl rfl rfl (Nat.le_of_ble_eq_true rfl) dX1_handOver_25 ⟨by decide, by decide⟩ (fun u h => ?_)
  obtain ⟨s3, s4⟩ := u
  exact hR (s3, s4) 28 _ dX1_handOver_28 h
/-! X1_decode_null -/
def rm_X1_decode_null : Room := { frames := 1, cells := 0, slots := 0, locals := 20 }
theorem cd_X1_decode_null : yX1_decode.cls = RX1 ∧ yX1_decode.cls ≠ "java/lang/invoke/MethodHandle" ∧ yX1_decode.cls ≠ "java/lang/invoke/VarHandle" ∧ (parseMethodDescriptor yX1_decode.desc).map (fun d => d.parameters.length) = some 2 := by decide +kernel
set_option maxRecDepth 100000 in
set_option maxHeartbeats 4000000 in
theorem kX1_decode_null (l : Launch) (D : va_G) (cy : Nat → ClassId) (a_o : Nat) (a_o_joined : Nat) (a_p1 : Nat) (a_p1_bytes : Nat) (o_start : Int32) (o_wanted : Int32) (o_place : Int32) (p1_length : Int32) (post : Int32 → Prop) (h : wX1_decode_null p1_length post) : MetI l yX1_decode wsX1_decode rm_X1_decode_null D (tyL cy) [.ref a_o, .ref a_p1, .null] [(a_o, .inr (4, [.ref a_o_joined, .int o_start, .int o_wanted, .int o_place])), (a_p1, .inr (7, [.ref a_p1_bytes, .int p1_length]))] (fun u : Unit => [(a_o, .inr (4, [.ref a_o_joined, .int o_start, .int o_wanted, .int o_place])), (a_p1, .inr (7, [.ref a_p1_bytes, .int p1_length]))]) (fun r => fun (u : Unit) => post r ) 0 0 := by
  refine metI_of (cc := cX1_decode) (maxL := 5) (lv := [(0, .ref a_o), (1, .ref a_p1), (2, .null)]) (by decide) rfl (Nat.le_of_ble_eq_true rfl) rfl ?_
  intro p e s m below meth c Q A X hlk hR
  unfold wX1_decode_null at h
  refine go_aload_n X dX1_decode_0 1 rfl rfl ?_
  refine go_callVi X (kX4_length l D cy a_p1 a_p1_bytes p1_length _ h) (cwV 0 X.2.2.2.2.1 gX1_decode_X4_length rfl rfl rfl cd_X4_length ⟨by decide, by decide⟩) (wr := [(a_o, .inr (4, [.ref a_o_joined, .int o_start, .int o_wanted, .int o_place]))]) (ws2 := fun u => [(a_o, .inr (4, [.ref a_o_joined, .int o_start, .int o_wanted, .int o_place])), (a_p1, .inr (7, [.ref a_p1_bytes, .int p1_length]))]) (perm_idx [1, 0] rfl rfl) (fun u => perm_idx [1, 0] rfl rfl) rfl rfl rfl rfl (Nat.le_of_ble_eq_true rfl) dX1_decode_1 ⟨by decide, by decide⟩ (fun r1 u h => ?_)
  refine go_if_eq X 11 dX1_decode_4 (by decide) (fun c2 => ?_) (fun c2 => ?_)
  · replace h := h.1 c2
    refine go_iconst X (v := 0) dX1_decode_11 (by decide) ?_
    exact hR 0 () 12 _ dX1_decode_12 rfl h
  · replace h := h.2 c2
    refine go_aload_nN X dX1_decode_7 2 rfl rfl ?_
    refine go_ifnonnullN X dX1_decode_8 ?_
    refine go_iconst X (v := 0) dX1_decode_11 (by decide) ?_
    exact hR 0 () 12 _ dX1_decode_12 rfl h
/-! X1_decode -/
theorem fi_X1_decode_X1 : ∀ w ∈ u_ws RX1 TX1 4, w ∈ wsX1_decode := by decide +kernel
theorem fl_X1_decode_14 : Cond.fieldLink RX1 14 (TX1 0).1 (TX1 0).2.1 (TX1 0).2.2.1 ∈ wsX1_decode := by decide +kernel
theorem fl_X1_decode_38 : Cond.fieldLink RX1 38 (TX1 1).1 (TX1 1).2.1 (TX1 1).2.2.1 ∈ wsX1_decode := by decide +kernel
theorem fl_X1_decode_46 : Cond.fieldLink RX1 46 (TX1 2).1 (TX1 2).2.1 (TX1 2).2.2.1 ∈ wsX1_decode := by decide +kernel
theorem fl_X1_decode_49 : Cond.fieldLink RX1 49 (TX1 3).1 (TX1 3).2.1 (TX1 3).2.2.1 ∈ wsX1_decode := by decide +kernel
def rm_X1_decode : Room := { frames := 6, cells := 0, slots := 0, locals := 128 }
theorem cd_X1_decode : yX1_decode.cls = RX1 ∧ yX1_decode.cls ≠ "java/lang/invoke/MethodHandle" ∧ yX1_decode.cls ≠ "java/lang/invoke/VarHandle" ∧ (parseMethodDescriptor yX1_decode.desc).map (fun d => d.parameters.length) = some 2 := by decide +kernel
set_option maxRecDepth 100000 in
set_option maxHeartbeats 4000000 in
theorem pX1_decode_66 {p : Program} (l : Launch) {e : Env} {s : State} {m : MethodId} {args : Array Value} {below : List Frame} {meth : Method} {c : Code} {Q : State → Prop} {D : va_G} {cy : Nat → ClassId} {A : Nat → Prop} (X : Cx p s m args c cX1_decode 5 RX1 wsX1_decode D (tyL cy) A) (a_o : Nat) (a_o_joined : Nat) (a_o_joined_bytes : Nat) (n_o_joined_bytes : Nat) (a_p1 : Nat) (a_p1_bytes : Nat) (n_p1_bytes : Nat) (a_p2 : Nat) (a_p2_words : Nat) (a_p2_words_bytes : Nat) (n_p2_words_bytes : Nat) (o_start : Int32) (p1_length : Int32) (p1_bytes : Nat → Int32) (p2_pieceLength : Int32) (p2_pieces : Int32) (p2_id : Int32) (p2_words_length : Int32) (p2_words_bytes : Nat → Int32) (K : Int32 → Int32 → Int32 → (Nat → Int32) → Int32 → Int32 → Prop) (hK : ∀ (o_wanted : Int32) (o_place : Int32) (o_joined_length : Int32) (o_joined_bytes : Nat → Int32) (v3 : Int32) (v4 : Int32), K o_wanted o_place o_joined_length o_joined_bytes v3 v4 → Go p l e rm_X1_decode s m args below meth c Q 5 D A [(a_o, .inr (4, [.ref a_o_joined, .int o_start, .int o_wanted, .int o_place])), (a_o_joined, .inr (7, [.ref a_o_joined_bytes, .int o_joined_length])), (a_o_joined_bytes, .inl (cy 0, n_o_joined_bytes, .inl o_joined_bytes)), (a_p1, .inr (7, [.ref a_p1_bytes, .int p1_length])), (a_p1_bytes, .inl (cy 0, n_p1_bytes, .inl p1_bytes)), (a_p2, .inr (3, [.ref a_p2_words, .int p2_pieceLength, .int p2_pieces, .int p2_id])), (a_p2_words, .inr (7, [.ref a_p2_words_bytes, .int p2_words_length])), (a_p2_words_bytes, .inl (cy 0, n_p2_words_bytes, .inl p2_words_bytes))] 0 0 98 [(0, .ref a_o), (1, .ref a_p1), (3, .int v3)] []) :
    ∀ (n : Nat) (o_wanted : Int32) (o_place : Int32) (o_joined_length : Int32) (o_joined_bytes : Nat → Int32) (v3 : Int32) (v4 : Int32), wX1_decode_66 n_o_joined_bytes n_p1_bytes p1_length p1_bytes K n o_wanted o_place o_joined_length o_joined_bytes v3 v4 → Go p l e rm_X1_decode s m args below meth c Q 5 D A [(a_o, .inr (4, [.ref a_o_joined, .int o_start, .int o_wanted, .int o_place])), (a_o_joined, .inr (7, [.ref a_o_joined_bytes, .int o_joined_length])), (a_o_joined_bytes, .inl (cy 0, n_o_joined_bytes, .inl o_joined_bytes)), (a_p1, .inr (7, [.ref a_p1_bytes, .int p1_length])), (a_p1_bytes, .inl (cy 0, n_p1_bytes, .inl p1_bytes)), (a_p2, .inr (3, [.ref a_p2_words, .int p2_pieceLength, .int p2_pieces, .int p2_id])), (a_p2_words, .inr (7, [.ref a_p2_words_bytes, .int p2_words_length])), (a_p2_words_bytes, .inl (cy 0, n_p2_words_bytes, .inl p2_words_bytes))] 0 0 66 [(0, .ref a_o), (1, .ref a_p1), (3, .int v3), (4, .int v4)] [] := by
  intro n
  induction n with
  | zero => intro o_wanted o_place o_joined_length o_joined_bytes v3 v4 h; exact absurd h id
  | succ n ih =>
    intro o_wanted o_place o_joined_length o_joined_bytes v3 v4 h
    refine go_iload X dX1_decode_66 3 rfl ?_
    refine go_sipush X (v := 200) dX1_decode_68 (by decide) ?_
    refine go_icmp_ge X 98 dX1_decode_71 (by decide) (fun c16 => ?_) (fun c16 => ?_)
    · replace h := h.1 c16
      refine go_lv [0, 1, 2] rfl ?_
      exact hK o_wanted o_place o_joined_length o_joined_bytes v3 v4 h
    · replace h := h.2 c16
      refine go_aload_n X dX1_decode_74 0 rfl rfl ?_
      refine go_get X fi_X1_decode_X1 0 rfl rfl 2 (by decide) fl_X1_decode_46 rfl dX1_decode_75 ?_
      refine go_if_le X 98 dX1_decode_78 (by decide) (fun c17 => ?_) (fun c17 => ?_)
      · replace h := h.1 c17
        refine go_lv [0, 1, 2] rfl ?_
        exact hK o_wanted o_place o_joined_length o_joined_bytes v3 v4 h
      · replace h := h.2 c17
        refine go_iload_n X dX1_decode_81 2 rfl rfl ?_
        refine go_iconst X (v := (-1)) dX1_decode_82 (by decide) ?_
        refine go_icmp_ne X 98 dX1_decode_83 (by decide) (fun c18 => ?_) (fun c18 => ?_)
        · replace h := h.1 c18
          refine go_lv [0, 1, 2] rfl ?_
          exact hK o_wanted o_place o_joined_length o_joined_bytes v3 v4 h
        · replace h := h.2 c18
          refine go_aload_n X dX1_decode_86 0 rfl rfl ?_
          refine go_aload_n X dX1_decode_87 1 rfl rfl ?_
          refine go_callVi X (kX1_readItem l D cy a_o a_o_joined a_o_joined_bytes n_o_joined_bytes a_p1 a_p1_bytes n_p1_bytes o_start o_wanted o_place o_joined_length o_joined_bytes p1_length p1_bytes _ h) (cwV 1 X.2.2.2.2.1 gX1_decode_X1_readItem rfl rfl rfl cd_X1_readItem ⟨by decide, by decide⟩) (wr := [(a_p2, .inr (3, [.ref a_p2_words, .int p2_pieceLength, .int p2_pieces, .int p2_id])), (a_p2_words, .inr (7, [.ref a_p2_words_bytes, .int p2_words_length])), (a_p2_words_bytes, .inl (cy 0, n_p2_words_bytes, .inl p2_words_bytes))]) (ws2 := fun u => [(a_o, .inr (4, [.ref a_o_joined, .int o_start, .int u.1, .int u.2.1])), (a_o_joined, .inr (7, [.ref a_o_joined_bytes, .int u.2.2.1])), (a_o_joined_bytes, .inl (cy 0, n_o_joined_bytes, .inl u.2.2.2)), (a_p1, .inr (7, [.ref a_p1_bytes, .int p1_length])), (a_p1_bytes, .inl (cy 0, n_p1_bytes, .inl p1_bytes)), (a_p2, .inr (3, [.ref a_p2_words, .int p2_pieceLength, .int p2_pieces, .int p2_id])), (a_p2_words, .inr (7, [.ref a_p2_words_bytes, .int p2_words_length])), (a_p2_words_bytes, .inl (cy 0, n_p2_words_bytes, .inl p2_words_bytes))]) (perm_idx [0, 1, 2, 3, 4, 5, 6, 7] rfl rfl) (fun u => perm_idx [0, 1, 2, 3, 4, 5, 6, 7] rfl rfl) rfl rfl rfl rfl (Nat.le_of_ble_eq_true rfl) dX1_decode_88 ⟨by decide, by decide⟩ (fun r19 u h => ?_)
          obtain ⟨s20, s21, s22, s23⟩ := u
          refine go_istore_n X (lv' := [(3, .int r19), (0, .ref a_o), (1, .ref a_p1), (4, .int v4)]) dX1_decode_91 rfl (by decide) rfl ?_
          obtain ⟨y24, ey24⟩ : ∃ z : Int32, z = v4 + 1 := ⟨_, rfl⟩
          replace h := h y24 ey24
          refine go_iinc X (lv' := [(4, .int y24), (3, .int r19), (0, .ref a_o), (1, .ref a_p1)]) y24 dX1_decode_92 3 rfl (by rw [ey24]; rfl) (by decide) rfl ?_
          refine go_goto X 66 dX1_decode_95 (by decide) ?_
          refine go_lv [2, 3, 1, 0] rfl ?_
          exact ih s20 s21 s22 s23 r19 y24 h
set_option maxRecDepth 100000 in
set_option maxHeartbeats 4000000 in
theorem kX1_decode (l : Launch) (D : va_G) (cy : Nat → ClassId) (a_o : Nat) (a_o_joined : Nat) (a_o_joined_bytes : Nat) (n_o_joined_bytes : Nat) (a_p1 : Nat) (a_p1_bytes : Nat) (n_p1_bytes : Nat) (a_p2 : Nat) (a_p2_words : Nat) (a_p2_words_bytes : Nat) (n_p2_words_bytes : Nat) (o_start : Int32) (o_wanted : Int32) (o_place : Int32) (o_joined_length : Int32) (o_joined_bytes : Nat → Int32) (p1_length : Int32) (p1_bytes : Nat → Int32) (p2_pieceLength : Int32) (p2_pieces : Int32) (p2_id : Int32) (p2_words_length : Int32) (p2_words_bytes : Nat → Int32) (post : Int32 → Int32 → Int32 → Int32 → Int32 → (Nat → Int32) → Prop) (h : wX1_decode n_o_joined_bytes n_p1_bytes n_p2_words_bytes a_p2_words o_start o_wanted o_place o_joined_length o_joined_bytes p1_length p1_bytes p2_id p2_words_length p2_words_bytes post) : MetI l yX1_decode wsX1_decode rm_X1_decode D (tyL cy) [.ref a_o, .ref a_p1, .ref a_p2] [(a_o, .inr (4, [.ref a_o_joined, .int o_start, .int o_wanted, .int o_place])), (a_o_joined, .inr (7, [.ref a_o_joined_bytes, .int o_joined_length])), (a_o_joined_bytes, .inl (cy 0, n_o_joined_bytes, .inl o_joined_bytes)), (a_p1, .inr (7, [.ref a_p1_bytes, .int p1_length])), (a_p1_bytes, .inl (cy 0, n_p1_bytes, .inl p1_bytes)), (a_p2, .inr (3, [.ref a_p2_words, .int p2_pieceLength, .int p2_pieces, .int p2_id])), (a_p2_words, .inr (7, [.ref a_p2_words_bytes, .int p2_words_length])), (a_p2_words_bytes, .inl (cy 0, n_p2_words_bytes, .inl p2_words_bytes))] (fun u : Int32 × Int32 × Int32 × Int32 × (Nat → Int32) => [(a_o, .inr (4, [.ref a_o_joined, .int u.1, .int u.2.1, .int u.2.2.1])), (a_o_joined, .inr (7, [.ref a_o_joined_bytes, .int u.2.2.2.1])), (a_o_joined_bytes, .inl (cy 0, n_o_joined_bytes, .inl u.2.2.2.2)), (a_p1, .inr (7, [.ref a_p1_bytes, .int p1_length])), (a_p1_bytes, .inl (cy 0, n_p1_bytes, .inl p1_bytes)), (a_p2, .inr (3, [.ref a_p2_words, .int p2_pieceLength, .int p2_pieces, .int p2_id])), (a_p2_words, .inr (7, [.ref a_p2_words_bytes, .int p2_words_length])), (a_p2_words_bytes, .inl (cy 0, n_p2_words_bytes, .inl p2_words_bytes))]) (fun r => fun (u : Int32 × Int32 × Int32 × Int32 × (Nat → Int32)) => post r u.1 u.2.1 u.2.2.1 u.2.2.2.1 u.2.2.2.2) 0 0 := by
  refine metI_of (cc := cX1_decode) (maxL := 5) (lv := [(0, .ref a_o), (1, .ref a_p1), (2, .ref a_p2)]) (by decide) rfl (Nat.le_of_ble_eq_true rfl) rfl ?_
  intro p e s m below meth c Q A X hlk hR
  unfold wX1_decode at h
  refine go_aload_n X dX1_decode_0 1 rfl rfl ?_
  refine go_callVi X (kX4_length l D cy a_p1 a_p1_bytes p1_length _ h) (cwV 0 X.2.2.2.2.1 gX1_decode_X4_length rfl rfl rfl cd_X4_length ⟨by decide, by decide⟩) (wr := [(a_o, .inr (4, [.ref a_o_joined, .int o_start, .int o_wanted, .int o_place])), (a_o_joined, .inr (7, [.ref a_o_joined_bytes, .int o_joined_length])), (a_o_joined_bytes, .inl (cy 0, n_o_joined_bytes, .inl o_joined_bytes)), (a_p1_bytes, .inl (cy 0, n_p1_bytes, .inl p1_bytes)), (a_p2, .inr (3, [.ref a_p2_words, .int p2_pieceLength, .int p2_pieces, .int p2_id])), (a_p2_words, .inr (7, [.ref a_p2_words_bytes, .int p2_words_length])), (a_p2_words_bytes, .inl (cy 0, n_p2_words_bytes, .inl p2_words_bytes))]) (ws2 := fun u => [(a_o, .inr (4, [.ref a_o_joined, .int o_start, .int o_wanted, .int o_place])), (a_o_joined, .inr (7, [.ref a_o_joined_bytes, .int o_joined_length])), (a_o_joined_bytes, .inl (cy 0, n_o_joined_bytes, .inl o_joined_bytes)), (a_p1, .inr (7, [.ref a_p1_bytes, .int p1_length])), (a_p1_bytes, .inl (cy 0, n_p1_bytes, .inl p1_bytes)), (a_p2, .inr (3, [.ref a_p2_words, .int p2_pieceLength, .int p2_pieces, .int p2_id])), (a_p2_words, .inr (7, [.ref a_p2_words_bytes, .int p2_words_length])), (a_p2_words_bytes, .inl (cy 0, n_p2_words_bytes, .inl p2_words_bytes))]) (perm_idx [3, 0, 1, 2, 4, 5, 6, 7] rfl rfl) (fun u => perm_idx [1, 2, 3, 0, 4, 5, 6, 7] rfl rfl) rfl rfl rfl rfl (Nat.le_of_ble_eq_true rfl) dX1_decode_1 ⟨by decide, by decide⟩ (fun r1 u h => ?_)
  refine go_if_eq X 11 dX1_decode_4 (by decide) (fun c2 => ?_) (fun c2 => ?_)
  · replace h := h.1 c2
    refine go_iconst X (v := 0) dX1_decode_11 (by decide) ?_
    exact hR 0 (o_start, o_wanted, o_place, o_joined_length, o_joined_bytes) 12 _ dX1_decode_12 rfl h
  · replace h := h.2 c2
    refine go_aload_n X dX1_decode_7 2 rfl rfl ?_
    refine go_ifnonnull X 13 dX1_decode_8 (by decide) ?_
    refine go_aload_n X dX1_decode_13 0 rfl rfl ?_
    refine go_aload_n X dX1_decode_14 1 rfl rfl ?_
    refine go_aload_n X dX1_decode_15 2 rfl rfl ?_
    refine go_callVi X (kX1_wrongInHeader l D cy a_o a_o_joined a_p1 a_p1_bytes n_p1_bytes a_p2 a_p2_words a_p2_words_bytes n_p2_words_bytes o_start o_wanted o_place p1_length p1_bytes p2_pieceLength p2_pieces p2_id p2_words_length p2_words_bytes _ h) (cwV 2 X.2.2.2.2.1 gX1_decode_X1_wrongInHeader rfl rfl rfl cd_X1_wrongInHeader ⟨by decide, by decide⟩) (wr := [(a_o_joined, .inr (7, [.ref a_o_joined_bytes, .int o_joined_length])), (a_o_joined_bytes, .inl (cy 0, n_o_joined_bytes, .inl o_joined_bytes))]) (ws2 := fun u => [(a_o, .inr (4, [.ref a_o_joined, .int o_start, .int o_wanted, .int o_place])), (a_o_joined, .inr (7, [.ref a_o_joined_bytes, .int o_joined_length])), (a_o_joined_bytes, .inl (cy 0, n_o_joined_bytes, .inl o_joined_bytes)), (a_p1, .inr (7, [.ref a_p1_bytes, .int p1_length])), (a_p1_bytes, .inl (cy 0, n_p1_bytes, .inl p1_bytes)), (a_p2, .inr (3, [.ref a_p2_words, .int p2_pieceLength, .int p2_pieces, .int p2_id])), (a_p2_words, .inr (7, [.ref a_p2_words_bytes, .int p2_words_length])), (a_p2_words_bytes, .inl (cy 0, n_p2_words_bytes, .inl p2_words_bytes))]) (perm_idx [0, 3, 4, 5, 6, 7, 1, 2] rfl rfl) (fun u => perm_idx [0, 6, 7, 1, 2, 3, 4, 5] rfl rfl) rfl rfl rfl rfl (Nat.le_of_ble_eq_true rfl) dX1_decode_16 ⟨by decide, by decide⟩ (fun r3 u h => ?_)
    refine go_istore_n X (lv' := [(3, .int r3), (0, .ref a_o), (1, .ref a_p1), (2, .ref a_p2)]) dX1_decode_19 rfl (by decide) rfl ?_
    refine go_iload_n X dX1_decode_20 0 rfl rfl ?_
    refine go_iconst X (v := (-1)) dX1_decode_21 (by decide) ?_
    refine go_icmp_eq X 27 dX1_decode_22 (by decide) (fun c4 => ?_) (fun c4 => ?_)
    · replace h := h.1 c4
      refine go_aload_n X dX1_decode_27 1 rfl rfl ?_
      refine go_get X fi_X1_decode_X1 0 rfl rfl 0 (by decide) fl_X1_decode_14 rfl dX1_decode_28 ?_
      refine go_aload_n X dX1_decode_31 3 rfl rfl ?_
      refine go_callVq X (kX0_words l D cy a_p2 a_p2_words p2_pieceLength p2_pieces p2_id _ h) (cwV 0 X.2.2.2.2.1 gX1_decode_X0_words rfl rfl rfl cd_X0_words ⟨by decide, by decide⟩) (wr := [(a_o, .inr (4, [.ref a_o_joined, .int o_start, .int o_wanted, .int o_place])), (a_o_joined, .inr (7, [.ref a_o_joined_bytes, .int o_joined_length])), (a_o_joined_bytes, .inl (cy 0, n_o_joined_bytes, .inl o_joined_bytes)), (a_p1, .inr (7, [.ref a_p1_bytes, .int p1_length])), (a_p1_bytes, .inl (cy 0, n_p1_bytes, .inl p1_bytes)), (a_p2_words, .inr (7, [.ref a_p2_words_bytes, .int p2_words_length])), (a_p2_words_bytes, .inl (cy 0, n_p2_words_bytes, .inl p2_words_bytes))]) (ws2 := fun u => [(a_o, .inr (4, [.ref a_o_joined, .int o_start, .int o_wanted, .int o_place])), (a_o_joined, .inr (7, [.ref a_o_joined_bytes, .int o_joined_length])), (a_o_joined_bytes, .inl (cy 0, n_o_joined_bytes, .inl o_joined_bytes)), (a_p1, .inr (7, [.ref a_p1_bytes, .int p1_length])), (a_p1_bytes, .inl (cy 0, n_p1_bytes, .inl p1_bytes)), (a_p2, .inr (3, [.ref a_p2_words, .int p2_pieceLength, .int p2_pieces, .int p2_id])), (a_p2_words, .inr (7, [.ref a_p2_words_bytes, .int p2_words_length])), (a_p2_words_bytes, .inl (cy 0, n_p2_words_bytes, .inl p2_words_bytes))]) (perm_idx [5, 0, 1, 2, 3, 4, 6, 7] rfl rfl) (fun u => perm_idx [1, 2, 3, 4, 5, 0, 6, 7] rfl rfl) rfl rfl rfl rfl (Nat.le_of_ble_eq_true rfl) dX1_decode_32 ⟨by decide, by decide⟩ (fun r5 u h => ?_)
      obtain ⟨er5, h⟩ := h
      subst er5
      refine go_callVv X (kX4_become l D cy a_o_joined a_o_joined_bytes n_o_joined_bytes a_p2_words a_p2_words_bytes n_p2_words_bytes o_joined_length o_joined_bytes p2_words_length p2_words_bytes _ h) (cwV 1 X.2.2.2.2.1 gX1_decode_X4_become rfl rfl rfl cd_X4_become ⟨by decide, by decide⟩) (wr := [(a_o, .inr (4, [.ref a_o_joined, .int o_start, .int o_wanted, .int o_place])), (a_p1, .inr (7, [.ref a_p1_bytes, .int p1_length])), (a_p1_bytes, .inl (cy 0, n_p1_bytes, .inl p1_bytes)), (a_p2, .inr (3, [.ref a_p2_words, .int p2_pieceLength, .int p2_pieces, .int p2_id]))]) (ws2 := fun u => [(a_o, .inr (4, [.ref a_o_joined, .int o_start, .int o_wanted, .int o_place])), (a_o_joined, .inr (7, [.ref a_o_joined_bytes, .int u.1])), (a_o_joined_bytes, .inl (cy 0, n_o_joined_bytes, .inl u.2)), (a_p1, .inr (7, [.ref a_p1_bytes, .int p1_length])), (a_p1_bytes, .inl (cy 0, n_p1_bytes, .inl p1_bytes)), (a_p2, .inr (3, [.ref a_p2_words, .int p2_pieceLength, .int p2_pieces, .int p2_id])), (a_p2_words, .inr (7, [.ref a_p2_words_bytes, .int p2_words_length])), (a_p2_words_bytes, .inl (cy 0, n_p2_words_bytes, .inl p2_words_bytes))]) (perm_idx [1, 2, 6, 7, 0, 3, 4, 5] rfl rfl) (fun u => perm_idx [4, 0, 1, 5, 6, 7, 2, 3] rfl rfl) rfl rfl rfl rfl (Nat.le_of_ble_eq_true rfl) dX1_decode_35 ⟨by decide, by decide⟩ (fun u h => ?_)
      obtain ⟨s6, s7⟩ := u
      refine go_aload_n X dX1_decode_38 1 rfl rfl ?_
      refine go_aload_n X dX1_decode_39 1 rfl rfl ?_
      refine go_get X fi_X1_decode_X1 0 rfl rfl 0 (by decide) fl_X1_decode_14 rfl dX1_decode_40 ?_
      refine go_callVi X (kX4_length l D cy a_o_joined a_o_joined_bytes s6 _ h) (cwV 0 X.2.2.2.2.1 gX1_decode_X4_length rfl rfl rfl cd_X4_length ⟨by decide, by decide⟩) (wr := [(a_o, .inr (4, [.ref a_o_joined, .int o_start, .int o_wanted, .int o_place])), (a_o_joined_bytes, .inl (cy 0, n_o_joined_bytes, .inl s7)), (a_p1, .inr (7, [.ref a_p1_bytes, .int p1_length])), (a_p1_bytes, .inl (cy 0, n_p1_bytes, .inl p1_bytes)), (a_p2, .inr (3, [.ref a_p2_words, .int p2_pieceLength, .int p2_pieces, .int p2_id])), (a_p2_words, .inr (7, [.ref a_p2_words_bytes, .int p2_words_length])), (a_p2_words_bytes, .inl (cy 0, n_p2_words_bytes, .inl p2_words_bytes))]) (ws2 := fun u => [(a_o, .inr (4, [.ref a_o_joined, .int o_start, .int o_wanted, .int o_place])), (a_o_joined, .inr (7, [.ref a_o_joined_bytes, .int s6])), (a_o_joined_bytes, .inl (cy 0, n_o_joined_bytes, .inl s7)), (a_p1, .inr (7, [.ref a_p1_bytes, .int p1_length])), (a_p1_bytes, .inl (cy 0, n_p1_bytes, .inl p1_bytes)), (a_p2, .inr (3, [.ref a_p2_words, .int p2_pieceLength, .int p2_pieces, .int p2_id])), (a_p2_words, .inr (7, [.ref a_p2_words_bytes, .int p2_words_length])), (a_p2_words_bytes, .inl (cy 0, n_p2_words_bytes, .inl p2_words_bytes))]) (perm_idx [1, 0, 2, 3, 4, 5, 6, 7] rfl rfl) (fun u => perm_idx [1, 0, 2, 3, 4, 5, 6, 7] rfl rfl) rfl rfl rfl rfl (Nat.le_of_ble_eq_true rfl) dX1_decode_43 ⟨by decide, by decide⟩ (fun r8 u h => ?_)
      refine go_put X (ws' := [(a_o, .inr (4, [.ref a_o_joined, .int r8, .int o_wanted, .int o_place])), (a_o_joined, .inr (7, [.ref a_o_joined_bytes, .int s6])), (a_o_joined_bytes, .inl (cy 0, n_o_joined_bytes, .inl s7)), (a_p1, .inr (7, [.ref a_p1_bytes, .int p1_length])), (a_p1_bytes, .inl (cy 0, n_p1_bytes, .inl p1_bytes)), (a_p2, .inr (3, [.ref a_p2_words, .int p2_pieceLength, .int p2_pieces, .int p2_id])), (a_p2_words, .inr (7, [.ref a_p2_words_bytes, .int p2_words_length])), (a_p2_words_bytes, .inl (cy 0, n_p2_words_bytes, .inl p2_words_bytes))]) fi_X1_decode_X1 tyX1 tyX1_ok nmX1 0 rfl rfl 1 (by decide) fl_X1_decode_38 rfl (tyX1_ok 1 (by decide)) rfl rfl (Nat.le_of_ble_eq_true rfl) rfl dX1_decode_46 ?_
      refine go_aload_n X dX1_decode_49 1 rfl rfl ?_
      refine go_aload_n X dX1_decode_50 2 rfl rfl ?_
      refine go_iconst X (v := 3) dX1_decode_51 (by decide) ?_
      refine go_callVi X (kX4_at l D cy a_p1 a_p1_bytes n_p1_bytes p1_length p1_bytes (3 : Int32) _ h) (cwV 1 X.2.2.2.2.1 gX1_decode_X4_at rfl rfl rfl cd_X4_at ⟨by decide, by decide⟩) (wr := [(a_o, .inr (4, [.ref a_o_joined, .int r8, .int o_wanted, .int o_place])), (a_o_joined, .inr (7, [.ref a_o_joined_bytes, .int s6])), (a_o_joined_bytes, .inl (cy 0, n_o_joined_bytes, .inl s7)), (a_p2, .inr (3, [.ref a_p2_words, .int p2_pieceLength, .int p2_pieces, .int p2_id])), (a_p2_words, .inr (7, [.ref a_p2_words_bytes, .int p2_words_length])), (a_p2_words_bytes, .inl (cy 0, n_p2_words_bytes, .inl p2_words_bytes))]) (ws2 := fun u => [(a_o, .inr (4, [.ref a_o_joined, .int r8, .int o_wanted, .int o_place])), (a_o_joined, .inr (7, [.ref a_o_joined_bytes, .int s6])), (a_o_joined_bytes, .inl (cy 0, n_o_joined_bytes, .inl s7)), (a_p1, .inr (7, [.ref a_p1_bytes, .int p1_length])), (a_p1_bytes, .inl (cy 0, n_p1_bytes, .inl p1_bytes)), (a_p2, .inr (3, [.ref a_p2_words, .int p2_pieceLength, .int p2_pieces, .int p2_id])), (a_p2_words, .inr (7, [.ref a_p2_words_bytes, .int p2_words_length])), (a_p2_words_bytes, .inl (cy 0, n_p2_words_bytes, .inl p2_words_bytes))]) (perm_idx [3, 4, 0, 1, 2, 5, 6, 7] rfl rfl) (fun u => perm_idx [2, 3, 4, 0, 1, 5, 6, 7] rfl rfl) rfl rfl rfl rfl (Nat.le_of_ble_eq_true rfl) dX1_decode_52 ⟨by decide, by decide⟩ (fun r9 u h => ?_)
      refine go_put X (ws' := [(a_o, .inr (4, [.ref a_o_joined, .int r8, .int r9, .int o_place])), (a_o_joined, .inr (7, [.ref a_o_joined_bytes, .int s6])), (a_o_joined_bytes, .inl (cy 0, n_o_joined_bytes, .inl s7)), (a_p1, .inr (7, [.ref a_p1_bytes, .int p1_length])), (a_p1_bytes, .inl (cy 0, n_p1_bytes, .inl p1_bytes)), (a_p2, .inr (3, [.ref a_p2_words, .int p2_pieceLength, .int p2_pieces, .int p2_id])), (a_p2_words, .inr (7, [.ref a_p2_words_bytes, .int p2_words_length])), (a_p2_words_bytes, .inl (cy 0, n_p2_words_bytes, .inl p2_words_bytes))]) fi_X1_decode_X1 tyX1 tyX1_ok nmX1 0 rfl rfl 2 (by decide) fl_X1_decode_46 rfl (tyX1_ok 2 (by decide)) rfl rfl (Nat.le_of_ble_eq_true rfl) rfl dX1_decode_55 ?_
      refine go_aload_n X dX1_decode_58 1 rfl rfl ?_
      refine go_iconst X (v := 4) dX1_decode_59 (by decide) ?_
      refine go_put X (ws' := [(a_o, .inr (4, [.ref a_o_joined, .int r8, .int r9, .int 4])), (a_o_joined, .inr (7, [.ref a_o_joined_bytes, .int s6])), (a_o_joined_bytes, .inl (cy 0, n_o_joined_bytes, .inl s7)), (a_p1, .inr (7, [.ref a_p1_bytes, .int p1_length])), (a_p1_bytes, .inl (cy 0, n_p1_bytes, .inl p1_bytes)), (a_p2, .inr (3, [.ref a_p2_words, .int p2_pieceLength, .int p2_pieces, .int p2_id])), (a_p2_words, .inr (7, [.ref a_p2_words_bytes, .int p2_words_length])), (a_p2_words_bytes, .inl (cy 0, n_p2_words_bytes, .inl p2_words_bytes))]) fi_X1_decode_X1 tyX1 tyX1_ok nmX1 0 rfl rfl 3 (by decide) fl_X1_decode_49 rfl (tyX1_ok 3 (by decide)) rfl rfl (Nat.le_of_ble_eq_true rfl) rfl dX1_decode_60 ?_
      refine go_iconst X (v := 0) dX1_decode_63 (by decide) ?_
      refine go_istore X (lv' := [(4, .int 0), (3, .int r3), (0, .ref a_o), (1, .ref a_p1), (2, .ref a_p2)]) dX1_decode_64 (by decide) rfl ?_
      obtain ⟨n28, h⟩ := h
      refine go_lv [2, 3, 1, 0] rfl ?_
      refine pX1_decode_66 l X a_o a_o_joined a_o_joined_bytes n_o_joined_bytes a_p1 a_p1_bytes n_p1_bytes a_p2 a_p2_words a_p2_words_bytes n_p2_words_bytes r8 p1_length p1_bytes p2_pieceLength p2_pieces p2_id p2_words_length p2_words_bytes  _ (fun s10 s11 s12 s13 y14 y15 h => ?_) n28 r9 4 s6 s7 r3 (0 : Int32) h
      refine go_iload_n X dX1_decode_98 2 rfl rfl ?_
      refine go_iconst X (v := (-1)) dX1_decode_99 (by decide) ?_
      refine go_icmp_ne X 121 dX1_decode_100 (by decide) (fun c25 => ?_) (fun c25 => ?_)
      · replace h := h.1 c25
        refine go_iload_n X dX1_decode_121 2 rfl rfl ?_
        exact hR y14 (r8, s10, s11, s12, s13) 122 _ dX1_decode_122 rfl h
      · replace h := h.2 c25
        refine go_aload_n X dX1_decode_103 0 rfl rfl ?_
        refine go_get X fi_X1_decode_X1 0 rfl rfl 3 (by decide) fl_X1_decode_49 rfl dX1_decode_104 ?_
        refine go_aload_n X dX1_decode_107 1 rfl rfl ?_
        refine go_callVi X (kX4_length l D cy a_p1 a_p1_bytes p1_length _ h) (cwV 0 X.2.2.2.2.1 gX1_decode_X4_length rfl rfl rfl cd_X4_length ⟨by decide, by decide⟩) (wr := [(a_o, .inr (4, [.ref a_o_joined, .int r8, .int s10, .int s11])), (a_o_joined, .inr (7, [.ref a_o_joined_bytes, .int s12])), (a_o_joined_bytes, .inl (cy 0, n_o_joined_bytes, .inl s13)), (a_p1_bytes, .inl (cy 0, n_p1_bytes, .inl p1_bytes)), (a_p2, .inr (3, [.ref a_p2_words, .int p2_pieceLength, .int p2_pieces, .int p2_id])), (a_p2_words, .inr (7, [.ref a_p2_words_bytes, .int p2_words_length])), (a_p2_words_bytes, .inl (cy 0, n_p2_words_bytes, .inl p2_words_bytes))]) (ws2 := fun u => [(a_o, .inr (4, [.ref a_o_joined, .int r8, .int s10, .int s11])), (a_o_joined, .inr (7, [.ref a_o_joined_bytes, .int s12])), (a_o_joined_bytes, .inl (cy 0, n_o_joined_bytes, .inl s13)), (a_p1, .inr (7, [.ref a_p1_bytes, .int p1_length])), (a_p1_bytes, .inl (cy 0, n_p1_bytes, .inl p1_bytes)), (a_p2, .inr (3, [.ref a_p2_words, .int p2_pieceLength, .int p2_pieces, .int p2_id])), (a_p2_words, .inr (7, [.ref a_p2_words_bytes, .int p2_words_length])), (a_p2_words_bytes, .inl (cy 0, n_p2_words_bytes, .inl p2_words_bytes))]) (perm_idx [3, 0, 1, 2, 4, 5, 6, 7] rfl rfl) (fun u => perm_idx [1, 2, 3, 0, 4, 5, 6, 7] rfl rfl) rfl rfl rfl rfl (Nat.le_of_ble_eq_true rfl) dX1_decode_108 ⟨by decide, by decide⟩ (fun r26 u h => ?_)
        refine go_icmp_ge X 121 dX1_decode_111 (by decide) (fun c27 => ?_) (fun c27 => ?_)
        · replace h := h.1 c27
          refine go_iload_n X dX1_decode_121 2 rfl rfl ?_
          exact hR y14 (r8, s10, s11, s12, s13) 122 _ dX1_decode_122 rfl h
        · replace h := h.2 c27
          refine go_aload_n X dX1_decode_114 0 rfl rfl ?_
          refine go_get X fi_X1_decode_X1 0 rfl rfl 3 (by decide) fl_X1_decode_49 rfl dX1_decode_115 ?_
          refine go_goto X 122 dX1_decode_118 (by decide) ?_
          exact hR s11 (r8, s10, s11, s12, s13) 122 _ dX1_decode_122 rfl h
    · replace h := h.2 c4
      refine go_iload_n X dX1_decode_25 0 rfl rfl ?_
      exact hR r3 (o_start, o_wanted, o_place, o_joined_length, o_joined_bytes) 26 _ dX1_decode_26 rfl h
