/-! X6_feed -/
theorem fi_X6_feed_X6 : ∀ w ∈ u_ws RX6 TX6 11, w ∈ wsX6_feed := by decide +kernel
theorem fl_X6_feed_14 : Cond.fieldLink RX6 14 (TX6 0).1 (TX6 0).2.1 (TX6 0).2.2.1 ∈ wsX6_feed := by decide +kernel
def rm_X6_feed : Room := { frames := 1, cells := 0, slots := 0, locals := 21 }
theorem cd_X6_feed : yX6_feed.cls = RX6 ∧ yX6_feed.cls ≠ "java/lang/invoke/MethodHandle" ∧ yX6_feed.cls ≠ "java/lang/invoke/VarHandle" ∧ (parseMethodDescriptor yX6_feed.desc).map (fun d => d.parameters.length) = some 2 := by decide +kernel
set_option maxRecDepth 100000 in
set_option maxHeartbeats 4000000 in
theorem pX6_feed_33 {p : Program} (l : Launch) {e : Env} {s : State} {m : MethodId} {args : Array Value} {below : List Frame} {meth : Method} {c : Code} {Q : State → Prop} {D : va_G} {cy : Nat → ClassId} {A : Nat → Prop} (X : Cx p s m args c cX6_feed 5 RX6 wsX6_feed D (tyL cy) A) (a_o : Nat) (a_o_tape : Nat) (a_o_samples : Nat) (a_o_dictionaries : Nat) (a_o_none : Nat) (a_o_trial : Nat) (a_o_opened : Nat) (a_o_output : Nat) (a_o_packer : Nat) (a_o_trainer : Nat) (a_o_opener : Nat) (a_o_tape_bytes : Nat) (n_o_tape_bytes : Nat) (o_sampleCount : Int32) (v2 : Int64) (K : Int32 → (Nat → Int32) → Int32 → Prop) (hK : ∀ (o_tape_length : Int32) (o_tape_bytes : Nat → Int32) (v4 : Int32), K o_tape_length o_tape_bytes v4 → Go p l e rm_X6_feed s m args below meth c Q 5 D A [(a_o, .inr (9, [.ref a_o_tape, .ref a_o_samples, .ref a_o_dictionaries, .ref a_o_none, .ref a_o_trial, .ref a_o_opened, .ref a_o_output, .ref a_o_packer, .ref a_o_trainer, .ref a_o_opener, .int o_sampleCount])), (a_o_tape, .inr (7, [.ref a_o_tape_bytes, .int o_tape_length])), (a_o_tape_bytes, .inl (cy 0, n_o_tape_bytes, .inl o_tape_bytes))] 0 0 59 [(0, .ref a_o)] []) :
    ∀ (n : Nat) (o_tape_length : Int32) (o_tape_bytes : Nat → Int32) (v4 : Int32), wX6_feed_33 n_o_tape_bytes v2 K n o_tape_length o_tape_bytes v4 → Go p l e rm_X6_feed s m args below meth c Q 5 D A [(a_o, .inr (9, [.ref a_o_tape, .ref a_o_samples, .ref a_o_dictionaries, .ref a_o_none, .ref a_o_trial, .ref a_o_opened, .ref a_o_output, .ref a_o_packer, .ref a_o_trainer, .ref a_o_opener, .int o_sampleCount])), (a_o_tape, .inr (7, [.ref a_o_tape_bytes, .int o_tape_length])), (a_o_tape_bytes, .inl (cy 0, n_o_tape_bytes, .inl o_tape_bytes))] 0 0 33 [(0, .ref a_o), (2, .long v2), (4, .int v4)] [] := by
  intro n
  induction n with
  | zero => intro o_tape_length o_tape_bytes v4 h; exact absurd h id
  | succ n ih =>
    intro o_tape_length o_tape_bytes v4 h
    refine go_iload X dX6_feed_33 2 rfl ?_
    refine go_if_lt X 59 dX6_feed_35 (by decide) (fun c9 => ?_) (fun c9 => ?_)
    · replace h := h.1 c9
      refine go_lv [0] rfl ?_
      exact hK o_tape_length o_tape_bytes v4 h
    · replace h := h.2 c9
      refine go_aload_n X dX6_feed_38 0 rfl rfl ?_
      refine go_get X fi_X6_feed_X6 0 rfl rfl 0 (by decide) fl_X6_feed_14 rfl dX6_feed_39 ?_
      refine go_lload_n X dX6_feed_42 1 rfl rfl ?_
      refine go_bipush X (v := 8) dX6_feed_43 (by decide) ?_
      refine go_iload X dX6_feed_45 2 rfl ?_
      refine go_imul X dX6_feed_47 ?_
      refine go_lushr X dX6_feed_48 ?_
      refine go_l2i X dX6_feed_49 ?_
      refine go_callVv X (kX4_add l D cy a_o_tape a_o_tape_bytes n_o_tape_bytes o_tape_length o_tape_bytes (((v2.toUInt64 >>> ((8 * v4).toInt64.toUInt64 &&& Int64.toUInt64 63)).toInt64).toInt32) _ h) (cwV 1 X.2.2.2.2.1 gX6_feed_X4_add rfl rfl rfl cd_X4_add ⟨by decide, by decide⟩) (wr := [(a_o, .inr (9, [.ref a_o_tape, .ref a_o_samples, .ref a_o_dictionaries, .ref a_o_none, .ref a_o_trial, .ref a_o_opened, .ref a_o_output, .ref a_o_packer, .ref a_o_trainer, .ref a_o_opener, .int o_sampleCount]))]) (ws2 := fun u => [(a_o, .inr (9, [.ref a_o_tape, .ref a_o_samples, .ref a_o_dictionaries, .ref a_o_none, .ref a_o_trial, .ref a_o_opened, .ref a_o_output, .ref a_o_packer, .ref a_o_trainer, .ref a_o_opener, .int o_sampleCount])), (a_o_tape, .inr (7, [.ref a_o_tape_bytes, .int u.1])), (a_o_tape_bytes, .inl (cy 0, n_o_tape_bytes, .inl u.2))]) (perm_idx [1, 2, 0] rfl rfl) (fun u => perm_idx [2, 0, 1] rfl rfl) rfl rfl rfl rfl (Nat.le_of_ble_eq_true rfl) dX6_feed_50 ⟨by decide, by decide⟩ (fun u h => ?_)
      obtain ⟨s10, s11⟩ := u
      obtain ⟨y12, ey12⟩ : ∃ z : Int32, z = v4 + (-1) := ⟨_, rfl⟩
      replace h := h y12 ey12
      refine go_iinc X (lv' := [(4, .int y12), (0, .ref a_o), (2, .long v2)]) y12 dX6_feed_53 2 rfl (by rw [ey12]; rfl) (by decide) rfl ?_
      refine go_goto X 33 dX6_feed_56 (by decide) ?_
      refine go_lv [1, 2, 0] rfl ?_
      exact ih s10 s11 y12 h
set_option maxRecDepth 100000 in
set_option maxHeartbeats 4000000 in
theorem kX6_feed (l : Launch) (D : va_G) (cy : Nat → ClassId) (a_o : Nat) (a_o_tape : Nat) (a_o_samples : Nat) (a_o_dictionaries : Nat) (a_o_none : Nat) (a_o_trial : Nat) (a_o_opened : Nat) (a_o_output : Nat) (a_o_packer : Nat) (a_o_trainer : Nat) (a_o_opener : Nat) (a_o_tape_bytes : Nat) (n_o_tape_bytes : Nat) (o_sampleCount : Int32) (o_tape_length : Int32) (o_tape_bytes : Nat → Int32) (p1 : Int32) (p2 : Int64) (post : Int32 → Int32 → (Nat → Int32) → Prop) (h : wX6_feed n_o_tape_bytes o_tape_length o_tape_bytes p1 p2 post) : MetI l yX6_feed wsX6_feed rm_X6_feed D (tyL cy) [.ref a_o, .int p1, .long p2] [(a_o, .inr (9, [.ref a_o_tape, .ref a_o_samples, .ref a_o_dictionaries, .ref a_o_none, .ref a_o_trial, .ref a_o_opened, .ref a_o_output, .ref a_o_packer, .ref a_o_trainer, .ref a_o_opener, .int o_sampleCount])), (a_o_tape, .inr (7, [.ref a_o_tape_bytes, .int o_tape_length])), (a_o_tape_bytes, .inl (cy 0, n_o_tape_bytes, .inl o_tape_bytes))] (fun u : Int32 × (Nat → Int32) => [(a_o, .inr (9, [.ref a_o_tape, .ref a_o_samples, .ref a_o_dictionaries, .ref a_o_none, .ref a_o_trial, .ref a_o_opened, .ref a_o_output, .ref a_o_packer, .ref a_o_trainer, .ref a_o_opener, .int o_sampleCount])), (a_o_tape, .inr (7, [.ref a_o_tape_bytes, .int u.1])), (a_o_tape_bytes, .inl (cy 0, n_o_tape_bytes, .inl u.2))]) (fun r => fun (u : Int32 × (Nat → Int32)) => post r u.1 u.2) 0 0 := by
  refine metI_of (cc := cX6_feed) (maxL := 5) (lv := [(0, .ref a_o), (1, .int p1), (2, .long p2)]) (by decide) rfl (Nat.le_of_ble_eq_true rfl) rfl ?_
  intro p e s m below meth c Q A X hlk hR
  unfold wX6_feed at h
  refine go_iload_n X dX6_feed_0 1 rfl rfl ?_
  refine go_iconst X (v := 1) dX6_feed_1 (by decide) ?_
  refine go_icmp_lt X 11 dX6_feed_2 (by decide) (fun c1 => ?_) (fun c1 => ?_)
  · replace h := h.1 c1
    refine go_bipush X (v := (-102)) dX6_feed_11 (by decide) ?_
    exact hR (-102) (o_tape_length, o_tape_bytes) 13 _ dX6_feed_13 rfl h
  · replace h := h.2 c1
    refine go_iload_n X dX6_feed_5 1 rfl rfl ?_
    refine go_bipush X (v := 8) dX6_feed_6 (by decide) ?_
    refine go_icmp_le X 14 dX6_feed_8 (by decide) (fun c2 => ?_) (fun c2 => ?_)
    · replace h := h.1 c2
      refine go_aload_n X dX6_feed_14 0 rfl rfl ?_
      refine go_get X fi_X6_feed_X6 0 rfl rfl 0 (by decide) fl_X6_feed_14 rfl dX6_feed_15 ?_
      refine go_iload_n X dX6_feed_18 1 rfl rfl ?_
      refine go_callVi X (kX4_hasRoom l D cy a_o_tape a_o_tape_bytes n_o_tape_bytes o_tape_length o_tape_bytes p1 _ h) (cwV 1 X.2.2.2.2.1 gX6_feed_X4_hasRoom rfl rfl rfl cd_X4_hasRoom ⟨by decide, by decide⟩) (wr := [(a_o, .inr (9, [.ref a_o_tape, .ref a_o_samples, .ref a_o_dictionaries, .ref a_o_none, .ref a_o_trial, .ref a_o_opened, .ref a_o_output, .ref a_o_packer, .ref a_o_trainer, .ref a_o_opener, .int o_sampleCount]))]) (ws2 := fun u => [(a_o, .inr (9, [.ref a_o_tape, .ref a_o_samples, .ref a_o_dictionaries, .ref a_o_none, .ref a_o_trial, .ref a_o_opened, .ref a_o_output, .ref a_o_packer, .ref a_o_trainer, .ref a_o_opener, .int o_sampleCount])), (a_o_tape, .inr (7, [.ref a_o_tape_bytes, .int o_tape_length])), (a_o_tape_bytes, .inl (cy 0, n_o_tape_bytes, .inl o_tape_bytes))]) (perm_idx [1, 2, 0] rfl rfl) (fun u => perm_idx [2, 0, 1] rfl rfl) rfl rfl rfl rfl (Nat.le_of_ble_eq_true rfl) dX6_feed_19 ⟨by decide, by decide⟩ (fun r3 u h => ?_)
      refine go_if_ne X 28 dX6_feed_22 (by decide) (fun c4 => ?_) (fun c4 => ?_)
      · replace h := h.1 c4
        refine go_iload_n X dX6_feed_28 1 rfl rfl ?_
        refine go_iconst X (v := 1) dX6_feed_29 (by decide) ?_
        refine go_isub X dX6_feed_30 ?_
        refine go_topi (fun y5 ey5 => ?_)
        replace h := h y5 ey5
        refine go_istore X (lv' := [(4, .int y5), (0, .ref a_o), (1, .int p1), (2, .long p2)]) dX6_feed_31 (by decide) rfl ?_
        obtain ⟨n14, h⟩ := h
        refine go_lv [1, 3, 0] rfl ?_
        refine pX6_feed_33 l X a_o a_o_tape a_o_samples a_o_dictionaries a_o_none a_o_trial a_o_opened a_o_output a_o_packer a_o_trainer a_o_opener a_o_tape_bytes n_o_tape_bytes o_sampleCount p2  _ (fun s6 s7 y8 h => ?_) n14 o_tape_length o_tape_bytes y5 h
        refine go_aload_n X dX6_feed_59 0 rfl rfl ?_
        refine go_get X fi_X6_feed_X6 0 rfl rfl 0 (by decide) fl_X6_feed_14 rfl dX6_feed_60 ?_
        refine go_callVi X (kX4_length l D cy a_o_tape a_o_tape_bytes s6 _ h) (cwV 0 X.2.2.2.2.1 gX6_feed_X4_length rfl rfl rfl cd_X4_length ⟨by decide, by decide⟩) (wr := [(a_o, .inr (9, [.ref a_o_tape, .ref a_o_samples, .ref a_o_dictionaries, .ref a_o_none, .ref a_o_trial, .ref a_o_opened, .ref a_o_output, .ref a_o_packer, .ref a_o_trainer, .ref a_o_opener, .int o_sampleCount])), (a_o_tape_bytes, .inl (cy 0, n_o_tape_bytes, .inl s7))]) (ws2 := fun u => [(a_o, .inr (9, [.ref a_o_tape, .ref a_o_samples, .ref a_o_dictionaries, .ref a_o_none, .ref a_o_trial, .ref a_o_opened, .ref a_o_output, .ref a_o_packer, .ref a_o_trainer, .ref a_o_opener, .int o_sampleCount])), (a_o_tape, .inr (7, [.ref a_o_tape_bytes, .int s6])), (a_o_tape_bytes, .inl (cy 0, n_o_tape_bytes, .inl s7))]) (perm_idx [1, 0, 2] rfl rfl) (fun u => perm_idx [1, 0, 2] rfl rfl) rfl rfl rfl rfl (Nat.le_of_ble_eq_true rfl) dX6_feed_63 ⟨by decide, by decide⟩ (fun r13 u h => ?_)
        exact hR r13 (s6, s7) 66 _ dX6_feed_66 rfl h
      · replace h := h.2 c4
        refine go_bipush X (v := (-103)) dX6_feed_25 (by decide) ?_
        exact hR (-103) (o_tape_length, o_tape_bytes) 27 _ dX6_feed_27 rfl h
    · replace h := h.2 c2
      refine go_bipush X (v := (-102)) dX6_feed_11 (by decide) ?_
      exact hR (-102) (o_tape_length, o_tape_bytes) 13 _ dX6_feed_13 rfl h
