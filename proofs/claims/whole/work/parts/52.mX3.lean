/-! X3_sameBytes -/
theorem fi_X3_sameBytes_X3 : ∀ w ∈ u_ws RX3 TX3 7, w ∈ wsX3_sameBytes := by decide +kernel
theorem fl_X3_sameBytes_9 : Cond.fieldLink RX3 9 (TX3 0).1 (TX3 0).2.1 (TX3 0).2.2.1 ∈ wsX3_sameBytes := by decide +kernel
def rm_X3_sameBytes : Room := { frames := 0, cells := 0, slots := 0, locals := 0 }
theorem cd_X3_sameBytes : yX3_sameBytes.cls = RX3 ∧ yX3_sameBytes.cls ≠ "java/lang/invoke/MethodHandle" ∧ yX3_sameBytes.cls ≠ "java/lang/invoke/VarHandle" ∧ (parseMethodDescriptor yX3_sameBytes.desc).map (fun d => d.parameters.length) = some 3 := by decide +kernel
set_option maxRecDepth 100000 in
set_option maxHeartbeats 4000000 in
theorem pX3_sameBytes_3 {p : Program} (l : Launch) {e : Env} {s : State} {m : MethodId} {args : Array Value} {below : List Frame} {meth : Method} {c : Code} {Q : State → Prop} {D : va_G} {cy : Nat → ClassId} {A : Nat → Prop} (X : Cx p s m args c cX3_sameBytes 5 RX3 wsX3_sameBytes D (tyL cy) A) (a_o : Nat) (a_o_joined : Nat) (a_o_earlier : Nat) (a_o_latest : Nat) (a_o_cost : Nat) (a_o_choice : Nat) (o_start : Int32) (o_length : Int32) (o_joined : Nat → Int32) (v1 : Int32) (v2 : Int32) (v3 : Int32) (K : Int32 → Prop) (hK : ∀ (v4 : Int32), K v4 → Go p l e rm_X3_sameBytes s m args below meth c Q 5 D A [(a_o, .inr (6, [.ref a_o_joined, .ref a_o_earlier, .ref a_o_latest, .ref a_o_cost, .ref a_o_choice, .int o_start, .int o_length])), (a_o_joined, .inl (cy 0, 280, .inl o_joined))] 0 0 36 [(4, .int v4)] []) :
    ∀ (n : Nat) (v4 : Int32), wX3_sameBytes_3 o_joined v1 v2 v3 K n v4 → Go p l e rm_X3_sameBytes s m args below meth c Q 5 D A [(a_o, .inr (6, [.ref a_o_joined, .ref a_o_earlier, .ref a_o_latest, .ref a_o_cost, .ref a_o_choice, .int o_start, .int o_length])), (a_o_joined, .inl (cy 0, 280, .inl o_joined))] 0 0 3 [(0, .ref a_o), (1, .int v1), (2, .int v2), (3, .int v3), (4, .int v4)] [] := by
  intro n
  induction n with
  | zero => intro v4 h; exact absurd h id
  | succ n ih =>
    intro v4 h
    refine go_iload X dX3_sameBytes_3 4 rfl ?_
    refine go_iload_n X dX3_sameBytes_5 3 rfl rfl ?_
    refine go_icmp_ge X 36 dX3_sameBytes_6 (by decide) (fun c2 => ?_) (fun c2 => ?_)
    · replace h := h.1 c2
      refine go_lv [4] rfl ?_
      exact hK v4 h
    · replace h := h.2 c2
      refine go_aload_n X dX3_sameBytes_9 0 rfl rfl ?_
      refine go_get X fi_X3_sameBytes_X3 0 rfl rfl 0 (by decide) fl_X3_sameBytes_9 rfl dX3_sameBytes_10 ?_
      refine go_iload_n X dX3_sameBytes_13 1 rfl rfl ?_
      refine go_iload X dX3_sameBytes_14 4 rfl ?_
      refine go_iadd X dX3_sameBytes_16 ?_
      obtain ⟨c3, h⟩ := h
      refine go_bald X 1 0 rfl rfl c3 dX3_sameBytes_17 ?_
      refine go_aload_n X dX3_sameBytes_18 0 rfl rfl ?_
      refine go_get X fi_X3_sameBytes_X3 0 rfl rfl 0 (by decide) fl_X3_sameBytes_9 rfl dX3_sameBytes_19 ?_
      refine go_iload_n X dX3_sameBytes_22 2 rfl rfl ?_
      refine go_iload X dX3_sameBytes_23 4 rfl ?_
      refine go_iadd X dX3_sameBytes_25 ?_
      obtain ⟨c4, h⟩ := h
      refine go_bald X 1 0 rfl rfl c4 dX3_sameBytes_26 ?_
      refine go_icmp_ne X 36 dX3_sameBytes_27 (by decide) (fun c5 => ?_) (fun c5 => ?_)
      · replace h := h.1 c5
        refine go_lv [4] rfl ?_
        exact hK v4 h
      · replace h := h.2 c5
        obtain ⟨y6, ey6⟩ : ∃ z : Int32, z = v4 + 1 := ⟨_, rfl⟩
        replace h := h y6 ey6
        refine go_iinc X (lv' := [(4, .int y6), (0, .ref a_o), (1, .int v1), (2, .int v2), (3, .int v3)]) y6 dX3_sameBytes_30 4 rfl (by rw [ey6]; rfl) (by decide) rfl ?_
        refine go_goto X 3 dX3_sameBytes_33 (by decide) ?_
        refine go_lv [1, 2, 3, 4, 0] rfl ?_
        exact ih y6 h
set_option maxRecDepth 100000 in
set_option maxHeartbeats 4000000 in
theorem kX3_sameBytes (l : Launch) (D : va_G) (cy : Nat → ClassId) (a_o : Nat) (a_o_joined : Nat) (a_o_earlier : Nat) (a_o_latest : Nat) (a_o_cost : Nat) (a_o_choice : Nat) (o_start : Int32) (o_length : Int32) (o_joined : Nat → Int32) (p1 : Int32) (p2 : Int32) (p3 : Int32) (post : Int32 → Prop) (h : wX3_sameBytes o_joined p1 p2 p3 post) : MetI l yX3_sameBytes wsX3_sameBytes rm_X3_sameBytes D (tyL cy) [.ref a_o, .int p1, .int p2, .int p3] [(a_o, .inr (6, [.ref a_o_joined, .ref a_o_earlier, .ref a_o_latest, .ref a_o_cost, .ref a_o_choice, .int o_start, .int o_length])), (a_o_joined, .inl (cy 0, 280, .inl o_joined))] (fun u : Unit => [(a_o, .inr (6, [.ref a_o_joined, .ref a_o_earlier, .ref a_o_latest, .ref a_o_cost, .ref a_o_choice, .int o_start, .int o_length])), (a_o_joined, .inl (cy 0, 280, .inl o_joined))]) (fun r => fun (u : Unit) => post r ) 0 0 := by
  refine metI_of (cc := cX3_sameBytes) (maxL := 5) (lv := [(0, .ref a_o), (1, .int p1), (2, .int p2), (3, .int p3)]) (by decide) rfl (Nat.le_of_ble_eq_true rfl) rfl ?_
  intro p e s m below meth c Q A X hlk hR
  unfold wX3_sameBytes at h
  refine go_iconst X (v := 0) dX3_sameBytes_0 (by decide) ?_
  refine go_istore X (lv' := [(4, .int 0), (0, .ref a_o), (1, .int p1), (2, .int p2), (3, .int p3)]) dX3_sameBytes_1 (by decide) rfl ?_
  obtain ⟨n7, h⟩ := h
  refine go_lv [1, 2, 3, 4, 0] rfl ?_
  refine pX3_sameBytes_3 l X a_o a_o_joined a_o_earlier a_o_latest a_o_cost a_o_choice o_start o_length o_joined p1 p2 p3  _ (fun y1 h => ?_) n7 (0 : Int32) h
  refine go_iload X dX3_sameBytes_36 0 rfl ?_
  exact hR y1 () 38 _ dX3_sameBytes_38 rfl h
/-! X3_leastDistance -/
theorem fi_X3_leastDistance_X3 : ∀ w ∈ u_ws RX3 TX3 7, w ∈ wsX3_leastDistance := by decide +kernel
theorem fl_X3_leastDistance_15 : Cond.fieldLink RX3 15 (TX3 1).1 (TX3 1).2.1 (TX3 1).2.2.1 ∈ wsX3_leastDistance := by decide +kernel
theorem fl_X3_leastDistance_9 : Cond.fieldLink RX3 9 (TX3 0).1 (TX3 0).2.1 (TX3 0).2.2.1 ∈ wsX3_leastDistance := by decide +kernel
def rm_X3_leastDistance : Room := { frames := 1, cells := 0, slots := 0, locals := 24 }
theorem cd_X3_leastDistance : yX3_leastDistance.cls = RX3 ∧ yX3_leastDistance.cls ≠ "java/lang/invoke/MethodHandle" ∧ yX3_leastDistance.cls ≠ "java/lang/invoke/VarHandle" ∧ (parseMethodDescriptor yX3_leastDistance.desc).map (fun d => d.parameters.length) = some 2 := by decide +kernel
set_option maxRecDepth 100000 in
set_option maxHeartbeats 4000000 in
theorem pX3_leastDistance_10 {p : Program} (l : Launch) {e : Env} {s : State} {m : MethodId} {args : Array Value} {below : List Frame} {meth : Method} {c : Code} {Q : State → Prop} {D : va_G} {cy : Nat → ClassId} {A : Nat → Prop} (X : Cx p s m args c cX3_leastDistance 5 RX3 wsX3_leastDistance D (tyL cy) A) (a_o : Nat) (a_o_joined : Nat) (a_o_earlier : Nat) (a_o_latest : Nat) (a_o_cost : Nat) (a_o_choice : Nat) (o_start : Int32) (o_length : Int32) (o_joined : Nat → Int32) (o_earlier : Nat → Int32) (v1 : Int32) (v2 : Int32) (post : Int32 → Prop) (hR : RtI p l e rm_X3_leastDistance s m args below meth c cX3_leastDistance Q 5 D A .int (fun u : Unit => [(a_o, .inr (6, [.ref a_o_joined, .ref a_o_earlier, .ref a_o_latest, .ref a_o_cost, .ref a_o_choice, .int o_start, .int o_length])), (a_o_joined, .inl (cy 0, 280, .inl o_joined)), (a_o_earlier, .inl (cy 1, 280, .inl o_earlier))]) (fun r => fun (u : Unit) => post r ) 0 0) (K : Int32 → Int32 → Prop) (hK : ∀ (v3 : Int32) (v4 : Int32), K v3 v4 → Go p l e rm_X3_leastDistance s m args below meth c Q 5 D A [(a_o, .inr (6, [.ref a_o_joined, .ref a_o_earlier, .ref a_o_latest, .ref a_o_cost, .ref a_o_choice, .int o_start, .int o_length])), (a_o_joined, .inl (cy 0, 280, .inl o_joined)), (a_o_earlier, .inl (cy 1, 280, .inl o_earlier))] 0 0 53 [] []) :
    ∀ (n : Nat) (v3 : Int32) (v4 : Int32), wX3_leastDistance_10 o_joined o_earlier v1 v2 post K n v3 v4 → Go p l e rm_X3_leastDistance s m args below meth c Q 5 D A [(a_o, .inr (6, [.ref a_o_joined, .ref a_o_earlier, .ref a_o_latest, .ref a_o_cost, .ref a_o_choice, .int o_start, .int o_length])), (a_o_joined, .inl (cy 0, 280, .inl o_joined)), (a_o_earlier, .inl (cy 1, 280, .inl o_earlier))] 0 0 10 [(0, .ref a_o), (1, .int v1), (2, .int v2), (3, .int v3), (4, .int v4)] [] := by
  intro n
  induction n with
  | zero => intro v3 v4 h; exact absurd h id
  | succ n ih =>
    intro v3 v4 h
    refine go_iload X dX3_leastDistance_10 4 rfl ?_
    refine go_aload_n X dX3_leastDistance_12 0 rfl rfl ?_
    refine go_get X fi_X3_leastDistance_X3 0 rfl rfl 0 (by decide) fl_X3_leastDistance_9 rfl dX3_leastDistance_13 ?_
    refine go_alen X 1 0 rfl rfl dX3_leastDistance_16 ?_
    refine go_top (x := .int (nI 280)) (y := .int 280) rfl ?_
    refine go_icmp_ge X 53 dX3_leastDistance_17 (by decide) (fun c5 => ?_) (fun c5 => ?_)
    · replace h := h.1 c5
      refine go_lv [] rfl ?_
      exact hK v3 v4 h
    · replace h := h.2 c5
      refine go_iload_n X dX3_leastDistance_20 3 rfl rfl ?_
      refine go_iconst X (v := (-1)) dX3_leastDistance_21 (by decide) ?_
      refine go_icmp_eq X 53 dX3_leastDistance_22 (by decide) (fun c6 => ?_) (fun c6 => ?_)
      · replace h := h.1 c6
        refine go_lv [] rfl ?_
        exact hK v3 v4 h
      · replace h := h.2 c6
        refine go_aload_n X dX3_leastDistance_25 0 rfl rfl ?_
        refine go_iload_n X dX3_leastDistance_26 3 rfl rfl ?_
        refine go_iload_n X dX3_leastDistance_27 1 rfl rfl ?_
        refine go_iload_n X dX3_leastDistance_28 2 rfl rfl ?_
        refine go_callVi X (kX3_sameBytes l D cy a_o a_o_joined a_o_earlier a_o_latest a_o_cost a_o_choice o_start o_length o_joined v3 v1 v2 _ h) (cwV 3 X.2.2.2.2.1 gX3_leastDistance_X3_sameBytes rfl rfl rfl cd_X3_sameBytes ⟨by decide, by decide⟩) (wr := [(a_o_earlier, .inl (cy 1, 280, .inl o_earlier))]) (ws2 := fun u => [(a_o, .inr (6, [.ref a_o_joined, .ref a_o_earlier, .ref a_o_latest, .ref a_o_cost, .ref a_o_choice, .int o_start, .int o_length])), (a_o_joined, .inl (cy 0, 280, .inl o_joined)), (a_o_earlier, .inl (cy 1, 280, .inl o_earlier))]) (perm_idx [0, 1, 2] rfl rfl) (fun u => perm_idx [0, 1, 2] rfl rfl) rfl rfl rfl rfl (Nat.le_of_ble_eq_true rfl) dX3_leastDistance_29 ⟨by decide, by decide⟩ (fun r7 u h => ?_)
        refine go_iload_n X dX3_leastDistance_32 2 rfl rfl ?_
        refine go_icmp_ne X 40 dX3_leastDistance_33 (by decide) (fun c8 => ?_) (fun c8 => ?_)
        · replace h := h.1 c8
          refine go_aload_n X dX3_leastDistance_40 0 rfl rfl ?_
          refine go_get X fi_X3_leastDistance_X3 0 rfl rfl 1 (by decide) fl_X3_leastDistance_15 rfl dX3_leastDistance_41 ?_
          refine go_iload_n X dX3_leastDistance_44 3 rfl rfl ?_
          obtain ⟨c9, h⟩ := h
          refine go_iald X 2 1 rfl rfl c9 dX3_leastDistance_45 ?_
          refine go_topi (fun y10 ey10 => ?_)
          replace h := h y10 ey10
          refine go_istore_n X (lv' := [(3, .int y10), (0, .ref a_o), (1, .int v1), (2, .int v2), (4, .int v4)]) dX3_leastDistance_46 rfl (by decide) rfl ?_
          obtain ⟨y11, ey11⟩ : ∃ z : Int32, z = v4 + 1 := ⟨_, rfl⟩
          replace h := h y11 ey11
          refine go_iinc X (lv' := [(4, .int y11), (3, .int y10), (0, .ref a_o), (1, .int v1), (2, .int v2)]) y11 dX3_leastDistance_47 4 rfl (by rw [ey11]; rfl) (by decide) rfl ?_
          refine go_goto X 10 dX3_leastDistance_50 (by decide) ?_
          refine go_lv [2, 3, 4, 1, 0] rfl ?_
          exact ih y10 y11 h
        · replace h := h.2 c8
          refine go_iload_n X dX3_leastDistance_36 1 rfl rfl ?_
          refine go_iload_n X dX3_leastDistance_37 3 rfl rfl ?_
          refine go_isub X dX3_leastDistance_38 ?_
          exact hR (v1 - v3) () 39 _ dX3_leastDistance_39 rfl h
set_option maxRecDepth 100000 in
set_option maxHeartbeats 4000000 in
theorem kX3_leastDistance (l : Launch) (D : va_G) (cy : Nat → ClassId) (a_o : Nat) (a_o_joined : Nat) (a_o_earlier : Nat) (a_o_latest : Nat) (a_o_cost : Nat) (a_o_choice : Nat) (o_start : Int32) (o_length : Int32) (o_joined : Nat → Int32) (o_earlier : Nat → Int32) (p1 : Int32) (p2 : Int32) (post : Int32 → Prop) (h : wX3_leastDistance o_joined o_earlier p1 p2 post) : MetI l yX3_leastDistance wsX3_leastDistance rm_X3_leastDistance D (tyL cy) [.ref a_o, .int p1, .int p2] [(a_o, .inr (6, [.ref a_o_joined, .ref a_o_earlier, .ref a_o_latest, .ref a_o_cost, .ref a_o_choice, .int o_start, .int o_length])), (a_o_joined, .inl (cy 0, 280, .inl o_joined)), (a_o_earlier, .inl (cy 1, 280, .inl o_earlier))] (fun u : Unit => [(a_o, .inr (6, [.ref a_o_joined, .ref a_o_earlier, .ref a_o_latest, .ref a_o_cost, .ref a_o_choice, .int o_start, .int o_length])), (a_o_joined, .inl (cy 0, 280, .inl o_joined)), (a_o_earlier, .inl (cy 1, 280, .inl o_earlier))]) (fun r => fun (u : Unit) => post r ) 0 0 := by
  refine metI_of (cc := cX3_leastDistance) (maxL := 5) (lv := [(0, .ref a_o), (1, .int p1), (2, .int p2)]) (by decide) rfl (Nat.le_of_ble_eq_true rfl) rfl ?_
  intro p e s m below meth c Q A X hlk hR
  unfold wX3_leastDistance at h
  refine go_aload_n X dX3_leastDistance_0 0 rfl rfl ?_
  refine go_get X fi_X3_leastDistance_X3 0 rfl rfl 1 (by decide) fl_X3_leastDistance_15 rfl dX3_leastDistance_1 ?_
  refine go_iload_n X dX3_leastDistance_4 1 rfl rfl ?_
  obtain ⟨c1, h⟩ := h
  refine go_iald X 2 1 rfl rfl c1 dX3_leastDistance_5 ?_
  refine go_topi (fun y2 ey2 => ?_)
  replace h := h y2 ey2
  refine go_istore_n X (lv' := [(3, .int y2), (0, .ref a_o), (1, .int p1), (2, .int p2)]) dX3_leastDistance_6 rfl (by decide) rfl ?_
  refine go_iconst X (v := 0) dX3_leastDistance_7 (by decide) ?_
  refine go_istore X (lv' := [(4, .int 0), (3, .int y2), (0, .ref a_o), (1, .int p1), (2, .int p2)]) dX3_leastDistance_8 (by decide) rfl ?_
  obtain ⟨n12, h⟩ := h
  refine go_lv [2, 3, 4, 1, 0] rfl ?_
  refine pX3_leastDistance_10 l X a_o a_o_joined a_o_earlier a_o_latest a_o_cost a_o_choice o_start o_length o_joined o_earlier p1 p2 post hR _ (fun y3 y4 h => ?_) n12 y2 (0 : Int32) h
  refine go_iconst X (v := 0) dX3_leastDistance_53 (by decide) ?_
  exact hR 0 () 54 _ dX3_leastDistance_54 rfl h
/-! X3_longestMatch -/
theorem fi_X3_longestMatch_X3 : ∀ w ∈ u_ws RX3 TX3 7, w ∈ wsX3_longestMatch := by decide +kernel
theorem fl_X3_longestMatch_44 : Cond.fieldLink RX3 44 (TX3 6).1 (TX3 6).2.1 (TX3 6).2.2.1 ∈ wsX3_longestMatch := by decide +kernel
theorem fw_X3_longestMatch_min0 : Cond.methodLink RX3 38 Lib.Math.min.name ∈ wsX3_longestMatch := by decide +kernel
theorem fw_X3_longestMatch_min1 : Cond.static Lib.Math.min.name ∈ wsX3_longestMatch := by decide +kernel
theorem fw_X3_longestMatch_min2 : Cond.initialized "java/lang/Math" ∈ wsX3_longestMatch := by decide +kernel
theorem fw_X3_longestMatch_min3 : Cond.code Lib.Math.min.name Lib.Math.min.code 2 (some .int) ∈ wsX3_longestMatch := by decide +kernel
theorem fl_X3_longestMatch_15 : Cond.fieldLink RX3 15 (TX3 1).1 (TX3 1).2.1 (TX3 1).2.2.1 ∈ wsX3_longestMatch := by decide +kernel
theorem fl_X3_longestMatch_34 : Cond.fieldLink RX3 34 (TX3 5).1 (TX3 5).2.1 (TX3 5).2.2.1 ∈ wsX3_longestMatch := by decide +kernel
theorem fl_X3_longestMatch_9 : Cond.fieldLink RX3 9 (TX3 0).1 (TX3 0).2.1 (TX3 0).2.2.1 ∈ wsX3_longestMatch := by decide +kernel
theorem fw_X3_longestMatch_max0 : Cond.methodLink RX3 90 Lib.Math.max.name ∈ wsX3_longestMatch := by decide +kernel
theorem fw_X3_longestMatch_max1 : Cond.static Lib.Math.max.name ∈ wsX3_longestMatch := by decide +kernel
theorem fw_X3_longestMatch_max2 : Cond.initialized "java/lang/Math" ∈ wsX3_longestMatch := by decide +kernel
theorem fw_X3_longestMatch_max3 : Cond.code Lib.Math.max.name Lib.Math.max.code 2 (some .int) ∈ wsX3_longestMatch := by decide +kernel
def rm_X3_longestMatch : Room := { frames := 1, cells := 0, slots := 0, locals := 24 }
theorem cd_X3_longestMatch : yX3_longestMatch.cls = RX3 ∧ yX3_longestMatch.cls ≠ "java/lang/invoke/MethodHandle" ∧ yX3_longestMatch.cls ≠ "java/lang/invoke/VarHandle" ∧ (parseMethodDescriptor yX3_longestMatch.desc).map (fun d => d.parameters.length) = some 1 := by decide +kernel
set_option maxRecDepth 100000 in
set_option maxHeartbeats 4000000 in
theorem pX3_longestMatch_30 {p : Program} (l : Launch) {e : Env} {s : State} {m : MethodId} {args : Array Value} {below : List Frame} {meth : Method} {c : Code} {Q : State → Prop} {D : va_G} {cy : Nat → ClassId} {A : Nat → Prop} (X : Cx p s m args c cX3_longestMatch 6 RX3 wsX3_longestMatch D (tyL cy) A) (a_o : Nat) (a_o_joined : Nat) (a_o_earlier : Nat) (a_o_latest : Nat) (a_o_cost : Nat) (a_o_choice : Nat) (o_start : Int32) (o_length : Int32) (o_joined : Nat → Int32) (o_earlier : Nat → Int32) (v1 : Int32) (v2 : Int32) (K : Int32 → Int32 → Int32 → Prop) (hK : ∀ (v3 : Int32) (v4 : Int32) (v5 : Int32), K v3 v4 v5 → Go p l e rm_X3_longestMatch s m args below meth c Q 6 D A [(a_o, .inr (6, [.ref a_o_joined, .ref a_o_earlier, .ref a_o_latest, .ref a_o_cost, .ref a_o_choice, .int o_start, .int o_length])), (a_o_joined, .inl (cy 0, 280, .inl o_joined)), (a_o_earlier, .inl (cy 1, 280, .inl o_earlier))] 0 0 84 [(3, .int v3)] []) :
    ∀ (n : Nat) (v3 : Int32) (v4 : Int32) (v5 : Int32), wX3_longestMatch_30 o_start o_joined o_earlier v1 v2 K n v3 v4 v5 → Go p l e rm_X3_longestMatch s m args below meth c Q 6 D A [(a_o, .inr (6, [.ref a_o_joined, .ref a_o_earlier, .ref a_o_latest, .ref a_o_cost, .ref a_o_choice, .int o_start, .int o_length])), (a_o_joined, .inl (cy 0, 280, .inl o_joined)), (a_o_earlier, .inl (cy 1, 280, .inl o_earlier))] 0 0 30 [(0, .ref a_o), (1, .int v1), (2, .int v2), (3, .int v3), (4, .int v4), (5, .int v5)] [] := by
  intro n
  induction n with
  | zero => intro v3 v4 v5 h; exact absurd h id
  | succ n ih =>
    intro v3 v4 v5 h
    refine go_iload X dX3_longestMatch_30 5 rfl ?_
    refine go_aload_n X dX3_longestMatch_32 0 rfl rfl ?_
    refine go_get X fi_X3_longestMatch_X3 0 rfl rfl 0 (by decide) fl_X3_longestMatch_9 rfl dX3_longestMatch_33 ?_
    refine go_alen X 1 0 rfl rfl dX3_longestMatch_36 ?_
    refine go_top (x := .int (nI 280)) (y := .int 280) rfl ?_
    refine go_icmp_ge X 84 dX3_longestMatch_37 (by decide) (fun c7 => ?_) (fun c7 => ?_)
    · replace h := h.1 c7
      refine go_lv [3] rfl ?_
      exact hK v3 v4 v5 h
    · replace h := h.2 c7
      refine go_iload X dX3_longestMatch_40 4 rfl ?_
      refine go_iconst X (v := (-1)) dX3_longestMatch_42 (by decide) ?_
      refine go_icmp_eq X 84 dX3_longestMatch_43 (by decide) (fun c8 => ?_) (fun c8 => ?_)
      · replace h := h.1 c8
        refine go_lv [3] rfl ?_
        exact hK v3 v4 v5 h
      · replace h := h.2 c8
        refine go_iload_n X dX3_longestMatch_46 3 rfl rfl ?_
        refine go_iload_n X dX3_longestMatch_47 2 rfl rfl ?_
        refine go_icmp_ge X 84 dX3_longestMatch_48 (by decide) (fun c9 => ?_) (fun c9 => ?_)
        · replace h := h.1 c9
          refine go_lv [3] rfl ?_
          exact hK v3 v4 v5 h
        · replace h := h.2 c9
          refine go_iload_n X dX3_longestMatch_51 3 rfl rfl ?_
          refine go_aload_n X dX3_longestMatch_52 0 rfl rfl ?_
          refine go_iload X dX3_longestMatch_53 4 rfl ?_
          refine go_aload_n X dX3_longestMatch_55 0 rfl rfl ?_
          refine go_get X fi_X3_longestMatch_X3 0 rfl rfl 5 (by decide) fl_X3_longestMatch_34 rfl dX3_longestMatch_56 ?_
          refine go_iload_n X dX3_longestMatch_59 1 rfl rfl ?_
          refine go_iadd X dX3_longestMatch_60 ?_
          refine go_iload_n X dX3_longestMatch_61 2 rfl rfl ?_
          refine go_callVi X (kX3_sameBytes l D cy a_o a_o_joined a_o_earlier a_o_latest a_o_cost a_o_choice o_start o_length o_joined v4 (o_start + v1) v2 _ h) (cwV 3 X.2.2.2.2.1 gX3_longestMatch_X3_sameBytes rfl rfl rfl cd_X3_sameBytes ⟨by decide, by decide⟩) (wr := [(a_o_earlier, .inl (cy 1, 280, .inl o_earlier))]) (ws2 := fun u => [(a_o, .inr (6, [.ref a_o_joined, .ref a_o_earlier, .ref a_o_latest, .ref a_o_cost, .ref a_o_choice, .int o_start, .int o_length])), (a_o_joined, .inl (cy 0, 280, .inl o_joined)), (a_o_earlier, .inl (cy 1, 280, .inl o_earlier))]) (perm_idx [0, 1, 2] rfl rfl) (fun u => perm_idx [0, 1, 2] rfl rfl) rfl rfl rfl rfl (Nat.le_of_ble_eq_true rfl) dX3_longestMatch_62 ⟨by decide, by decide⟩ (fun r10 u h => ?_)
          refine go_mmax X fw_X3_longestMatch_max0 fw_X3_longestMatch_max1 fw_X3_longestMatch_max2 fw_X3_longestMatch_max3 (by decide) (Nat.le_of_ble_eq_true rfl) (by decide) dX3_longestMatch_65 ?_
          refine go_topi (fun y11 ey11 => ?_)
          replace h := h y11 ey11
          refine go_istore_n X (lv' := [(3, .int y11), (0, .ref a_o), (1, .int v1), (2, .int v2), (4, .int v4), (5, .int v5)]) dX3_longestMatch_68 rfl (by decide) rfl ?_
          refine go_aload_n X dX3_longestMatch_69 1 rfl rfl ?_
          refine go_get X fi_X3_longestMatch_X3 0 rfl rfl 1 (by decide) fl_X3_longestMatch_15 rfl dX3_longestMatch_70 ?_
          refine go_iload X dX3_longestMatch_73 4 rfl ?_
          obtain ⟨c12, h⟩ := h
          refine go_iald X 2 1 rfl rfl c12 dX3_longestMatch_75 ?_
          refine go_topi (fun y13 ey13 => ?_)
          replace h := h y13 ey13
          refine go_istore X (lv' := [(4, .int y13), (3, .int y11), (0, .ref a_o), (1, .int v1), (2, .int v2), (5, .int v5)]) dX3_longestMatch_76 (by decide) rfl ?_
          obtain ⟨y14, ey14⟩ : ∃ z : Int32, z = v5 + 1 := ⟨_, rfl⟩
          replace h := h y14 ey14
          refine go_iinc X (lv' := [(5, .int y14), (4, .int y13), (3, .int y11), (0, .ref a_o), (1, .int v1), (2, .int v2)]) y14 dX3_longestMatch_78 5 rfl (by rw [ey14]; rfl) (by decide) rfl ?_
          refine go_goto X 30 dX3_longestMatch_81 (by decide) ?_
          refine go_lv [3, 4, 5, 2, 1, 0] rfl ?_
          exact ih y11 y13 y14 h
set_option maxRecDepth 100000 in
set_option maxHeartbeats 4000000 in
theorem kX3_longestMatch (l : Launch) (D : va_G) (cy : Nat → ClassId) (a_o : Nat) (a_o_joined : Nat) (a_o_earlier : Nat) (a_o_latest : Nat) (a_o_cost : Nat) (a_o_choice : Nat) (o_start : Int32) (o_length : Int32) (o_joined : Nat → Int32) (o_earlier : Nat → Int32) (p1 : Int32) (post : Int32 → Prop) (h : wX3_longestMatch o_start o_length o_joined o_earlier p1 post) : MetI l yX3_longestMatch wsX3_longestMatch rm_X3_longestMatch D (tyL cy) [.ref a_o, .int p1] [(a_o, .inr (6, [.ref a_o_joined, .ref a_o_earlier, .ref a_o_latest, .ref a_o_cost, .ref a_o_choice, .int o_start, .int o_length])), (a_o_joined, .inl (cy 0, 280, .inl o_joined)), (a_o_earlier, .inl (cy 1, 280, .inl o_earlier))] (fun u : Unit => [(a_o, .inr (6, [.ref a_o_joined, .ref a_o_earlier, .ref a_o_latest, .ref a_o_cost, .ref a_o_choice, .int o_start, .int o_length])), (a_o_joined, .inl (cy 0, 280, .inl o_joined)), (a_o_earlier, .inl (cy 1, 280, .inl o_earlier))]) (fun r => fun (u : Unit) => post r ) 0 0 := by
  refine metI_of (cc := cX3_longestMatch) (maxL := 6) (lv := [(0, .ref a_o), (1, .int p1)]) (by decide) rfl (Nat.le_of_ble_eq_true rfl) rfl ?_
  intro p e s m below meth c Q A X hlk hR
  unfold wX3_longestMatch at h
  refine go_bipush X (v := 9) dX3_longestMatch_0 (by decide) ?_
  refine go_aload_n X dX3_longestMatch_2 0 rfl rfl ?_
  refine go_get X fi_X3_longestMatch_X3 0 rfl rfl 6 (by decide) fl_X3_longestMatch_44 rfl dX3_longestMatch_3 ?_
  refine go_iload_n X dX3_longestMatch_6 1 rfl rfl ?_
  refine go_isub X dX3_longestMatch_7 ?_
  refine go_mmin X fw_X3_longestMatch_min0 fw_X3_longestMatch_min1 fw_X3_longestMatch_min2 fw_X3_longestMatch_min3 (by decide) (Nat.le_of_ble_eq_true rfl) (by decide) dX3_longestMatch_8 ?_
  refine go_topi (fun y1 ey1 => ?_)
  replace h := h y1 ey1
  refine go_istore_n X (lv' := [(2, .int y1), (0, .ref a_o), (1, .int p1)]) dX3_longestMatch_11 rfl (by decide) rfl ?_
  refine go_iconst X (v := 0) dX3_longestMatch_12 (by decide) ?_
  refine go_istore_n X (lv' := [(3, .int 0), (2, .int y1), (0, .ref a_o), (1, .int p1)]) dX3_longestMatch_13 rfl (by decide) rfl ?_
  refine go_aload_n X dX3_longestMatch_14 2 rfl rfl ?_
  refine go_get X fi_X3_longestMatch_X3 0 rfl rfl 1 (by decide) fl_X3_longestMatch_15 rfl dX3_longestMatch_15 ?_
  refine go_aload_n X dX3_longestMatch_18 2 rfl rfl ?_
  refine go_get X fi_X3_longestMatch_X3 0 rfl rfl 5 (by decide) fl_X3_longestMatch_34 rfl dX3_longestMatch_19 ?_
  refine go_iload_n X dX3_longestMatch_22 3 rfl rfl ?_
  refine go_iadd X dX3_longestMatch_23 ?_
  obtain ⟨c2, h⟩ := h
  refine go_iald X 2 1 rfl rfl c2 dX3_longestMatch_24 ?_
  refine go_topi (fun y3 ey3 => ?_)
  replace h := h y3 ey3
  refine go_istore X (lv' := [(4, .int y3), (3, .int 0), (2, .int y1), (0, .ref a_o), (1, .int p1)]) dX3_longestMatch_25 (by decide) rfl ?_
  refine go_iconst X (v := 0) dX3_longestMatch_27 (by decide) ?_
  refine go_istore X (lv' := [(5, .int 0), (4, .int y3), (3, .int 0), (2, .int y1), (0, .ref a_o), (1, .int p1)]) dX3_longestMatch_28 (by decide) rfl ?_
  obtain ⟨n15, h⟩ := h
  refine go_lv [4, 5, 3, 2, 1, 0] rfl ?_
  refine pX3_longestMatch_30 l X a_o a_o_joined a_o_earlier a_o_latest a_o_cost a_o_choice o_start o_length o_joined o_earlier p1 y1  _ (fun y4 y5 y6 h => ?_) n15 (0 : Int32) y3 (0 : Int32) h
  refine go_iload_n X dX3_longestMatch_84 0 rfl rfl ?_
  exact hR y4 () 85 _ dX3_longestMatch_85 rfl h
/-! X3_tryPlain -/
theorem fi_X3_tryPlain_X3 : ∀ w ∈ u_ws RX3 TX3 7, w ∈ wsX3_tryPlain := by decide +kernel
theorem fl_X3_tryPlain_44 : Cond.fieldLink RX3 44 (TX3 6).1 (TX3 6).2.1 (TX3 6).2.2.1 ∈ wsX3_tryPlain := by decide +kernel
theorem fw_X3_tryPlain_min0 : Cond.methodLink RX3 38 Lib.Math.min.name ∈ wsX3_tryPlain := by decide +kernel
theorem fw_X3_tryPlain_min1 : Cond.static Lib.Math.min.name ∈ wsX3_tryPlain := by decide +kernel
theorem fw_X3_tryPlain_min2 : Cond.initialized "java/lang/Math" ∈ wsX3_tryPlain := by decide +kernel
theorem fw_X3_tryPlain_min3 : Cond.code Lib.Math.min.name Lib.Math.min.code 2 (some .int) ∈ wsX3_tryPlain := by decide +kernel
theorem fl_X3_tryPlain_22 : Cond.fieldLink RX3 22 (TX3 3).1 (TX3 3).2.1 (TX3 3).2.2.1 ∈ wsX3_tryPlain := by decide +kernel
theorem fl_X3_tryPlain_25 : Cond.fieldLink RX3 25 (TX3 4).1 (TX3 4).2.1 (TX3 4).2.2.1 ∈ wsX3_tryPlain := by decide +kernel
def rm_X3_tryPlain : Room := { frames := 1, cells := 0, slots := 0, locals := 21 }
theorem cd_X3_tryPlain : yX3_tryPlain.cls = RX3 ∧ yX3_tryPlain.cls ≠ "java/lang/invoke/MethodHandle" ∧ yX3_tryPlain.cls ≠ "java/lang/invoke/VarHandle" ∧ (parseMethodDescriptor yX3_tryPlain.desc).map (fun d => d.parameters.length) = some 1 := by decide +kernel
set_option maxRecDepth 100000 in
set_option maxHeartbeats 4000000 in
theorem pX3_tryPlain_12 {p : Program} (l : Launch) {e : Env} {s : State} {m : MethodId} {args : Array Value} {below : List Frame} {meth : Method} {c : Code} {Q : State → Prop} {D : va_G} {cy : Nat → ClassId} {A : Nat → Prop} (X : Cx p s m args c cX3_tryPlain 3 RX3 wsX3_tryPlain D (tyL cy) A) (a_o : Nat) (a_o_joined : Nat) (a_o_earlier : Nat) (a_o_latest : Nat) (a_o_cost : Nat) (a_o_choice : Nat) (o_start : Int32) (o_length : Int32) (v1 : Int32) (K : (Nat → Int32) → (Nat → Int32) → Int32 → Prop) (hK : ∀ (o_cost : Nat → Int32) (o_choice : Nat → Int32) (v2 : Int32), K o_cost o_choice v2 → Go p l e rm_X3_tryPlain s m args below meth c Q 3 D A [(a_o, .inr (6, [.ref a_o_joined, .ref a_o_earlier, .ref a_o_latest, .ref a_o_cost, .ref a_o_choice, .int o_start, .int o_length])), (a_o_cost, .inl (cy 1, 201, .inl o_cost)), (a_o_choice, .inl (cy 1, 200, .inl o_choice))] 0 0 70 [] []) :
    ∀ (n : Nat) (o_cost : Nat → Int32) (o_choice : Nat → Int32) (v2 : Int32), wX3_tryPlain_12 v1 K n o_cost o_choice v2 → Go p l e rm_X3_tryPlain s m args below meth c Q 3 D A [(a_o, .inr (6, [.ref a_o_joined, .ref a_o_earlier, .ref a_o_latest, .ref a_o_cost, .ref a_o_choice, .int o_start, .int o_length])), (a_o_cost, .inl (cy 1, 201, .inl o_cost)), (a_o_choice, .inl (cy 1, 200, .inl o_choice))] 0 0 12 [(0, .ref a_o), (1, .int v1), (2, .int v2)] [] := by
  intro n
  induction n with
  | zero => intro o_cost o_choice v2 h; exact absurd h id
  | succ n ih =>
    intro o_cost o_choice v2 h
    refine go_iload_n X dX3_tryPlain_12 2 rfl rfl ?_
    refine go_iconst X (v := 1) dX3_tryPlain_13 (by decide) ?_
    refine go_icmp_lt X 70 dX3_tryPlain_14 (by decide) (fun c5 => ?_) (fun c5 => ?_)
    · replace h := h.1 c5
      refine go_lv [] rfl ?_
      exact hK o_cost o_choice v2 h
    · replace h := h.2 c5
      refine go_iconst X (v := 1) dX3_tryPlain_17 (by decide) ?_
      refine go_iload_n X dX3_tryPlain_18 2 rfl rfl ?_
      refine go_iadd X dX3_tryPlain_19 ?_
      refine go_aload_n X dX3_tryPlain_20 0 rfl rfl ?_
      refine go_get X fi_X3_tryPlain_X3 0 rfl rfl 3 (by decide) fl_X3_tryPlain_22 rfl dX3_tryPlain_21 ?_
      refine go_iload_n X dX3_tryPlain_24 1 rfl rfl ?_
      refine go_iload_n X dX3_tryPlain_25 2 rfl rfl ?_
      refine go_iadd X dX3_tryPlain_26 ?_
      obtain ⟨c6, h⟩ := h
      refine go_iald X 1 1 rfl rfl c6 dX3_tryPlain_27 ?_
      refine go_iadd X dX3_tryPlain_28 ?_
      refine go_aload_n X dX3_tryPlain_29 0 rfl rfl ?_
      refine go_get X fi_X3_tryPlain_X3 0 rfl rfl 3 (by decide) fl_X3_tryPlain_22 rfl dX3_tryPlain_30 ?_
      refine go_iload_n X dX3_tryPlain_33 1 rfl rfl ?_
      obtain ⟨c7, h⟩ := h
      refine go_iald X 1 1 rfl rfl c7 dX3_tryPlain_34 ?_
      refine go_icmp_ge X 64 dX3_tryPlain_35 (by decide) (fun c8 => ?_) (fun c8 => ?_)
      · replace h := h.1 c8
        obtain ⟨y9, ey9⟩ : ∃ z : Int32, z = v2 + (-1) := ⟨_, rfl⟩
        replace h := h y9 ey9
        refine go_iinc X (lv' := [(2, .int y9), (0, .ref a_o), (1, .int v1)]) y9 dX3_tryPlain_64 2 rfl (by rw [ey9]; rfl) (by decide) rfl ?_
        refine go_goto X 12 dX3_tryPlain_67 (by decide) ?_
        refine go_lv [1, 2, 0] rfl ?_
        exact ih o_cost o_choice y9 h
      · replace h := h.2 c8
        refine go_aload_n X dX3_tryPlain_38 0 rfl rfl ?_
        refine go_get X fi_X3_tryPlain_X3 0 rfl rfl 3 (by decide) fl_X3_tryPlain_22 rfl dX3_tryPlain_39 ?_
        refine go_iload_n X dX3_tryPlain_42 1 rfl rfl ?_
        refine go_iconst X (v := 1) dX3_tryPlain_43 (by decide) ?_
        refine go_iload_n X dX3_tryPlain_44 2 rfl rfl ?_
        refine go_iadd X dX3_tryPlain_45 ?_
        refine go_aload_n X dX3_tryPlain_46 0 rfl rfl ?_
        refine go_get X fi_X3_tryPlain_X3 0 rfl rfl 3 (by decide) fl_X3_tryPlain_22 rfl dX3_tryPlain_47 ?_
        refine go_iload_n X dX3_tryPlain_50 1 rfl rfl ?_
        refine go_iload_n X dX3_tryPlain_51 2 rfl rfl ?_
        refine go_iadd X dX3_tryPlain_52 ?_
        obtain ⟨c10, h⟩ := h
        refine go_iald X 1 1 rfl rfl c10 dX3_tryPlain_53 ?_
        refine go_iadd X dX3_tryPlain_54 ?_
        obtain ⟨c11, h⟩ := h
        refine go_iast X [(a_o, .inr (6, [.ref a_o_joined, .ref a_o_earlier, .ref a_o_latest, .ref a_o_cost, .ref a_o_choice, .int o_start, .int o_length])), (a_o_cost, .inl (cy 1, 201, .inl (upd o_cost v1.toNatClampNeg ((1 + v2) + (o_cost (v1 + v2).toNatClampNeg))))), (a_o_choice, .inl (cy 1, 200, .inl o_choice))] 1 1 rfl rfl c11 rfl dX3_tryPlain_55 ?_
        refine go_aload_n X dX3_tryPlain_56 0 rfl rfl ?_
        refine go_get X fi_X3_tryPlain_X3 0 rfl rfl 4 (by decide) fl_X3_tryPlain_25 rfl dX3_tryPlain_57 ?_
        refine go_iload_n X dX3_tryPlain_60 1 rfl rfl ?_
        refine go_iload_n X dX3_tryPlain_61 2 rfl rfl ?_
        refine go_ineg X dX3_tryPlain_62 ?_
        obtain ⟨c12, h⟩ := h
        refine go_iast X [(a_o, .inr (6, [.ref a_o_joined, .ref a_o_earlier, .ref a_o_latest, .ref a_o_cost, .ref a_o_choice, .int o_start, .int o_length])), (a_o_cost, .inl (cy 1, 201, .inl (upd o_cost v1.toNatClampNeg ((1 + v2) + (o_cost (v1 + v2).toNatClampNeg))))), (a_o_choice, .inl (cy 1, 200, .inl (upd o_choice v1.toNatClampNeg (0 - v2))))] 2 1 rfl rfl c12 rfl dX3_tryPlain_63 ?_
        obtain ⟨y13, ey13⟩ : ∃ z : Int32, z = v2 + (-1) := ⟨_, rfl⟩
        replace h := h y13 ey13
        refine go_iinc X (lv' := [(2, .int y13), (0, .ref a_o), (1, .int v1)]) y13 dX3_tryPlain_64 2 rfl (by rw [ey13]; rfl) (by decide) rfl ?_
        refine go_goto X 12 dX3_tryPlain_67 (by decide) ?_
        refine go_lv [1, 2, 0] rfl ?_
        exact ih (upd o_cost v1.toNatClampNeg ((1 + v2) + (o_cost (v1 + v2).toNatClampNeg))) (upd o_choice v1.toNatClampNeg (0 - v2)) y13 h
set_option maxRecDepth 100000 in
set_option maxHeartbeats 4000000 in
theorem kX3_tryPlain (l : Launch) (D : va_G) (cy : Nat → ClassId) (a_o : Nat) (a_o_joined : Nat) (a_o_earlier : Nat) (a_o_latest : Nat) (a_o_cost : Nat) (a_o_choice : Nat) (o_start : Int32) (o_length : Int32) (o_cost : Nat → Int32) (o_choice : Nat → Int32) (p1 : Int32) (post : (Nat → Int32) → (Nat → Int32) → Prop) (h : wX3_tryPlain o_length o_cost o_choice p1 post) : MetV l yX3_tryPlain wsX3_tryPlain rm_X3_tryPlain D (tyL cy) [.ref a_o, .int p1] [(a_o, .inr (6, [.ref a_o_joined, .ref a_o_earlier, .ref a_o_latest, .ref a_o_cost, .ref a_o_choice, .int o_start, .int o_length])), (a_o_cost, .inl (cy 1, 201, .inl o_cost)), (a_o_choice, .inl (cy 1, 200, .inl o_choice))] (fun u : (Nat → Int32) × (Nat → Int32) => [(a_o, .inr (6, [.ref a_o_joined, .ref a_o_earlier, .ref a_o_latest, .ref a_o_cost, .ref a_o_choice, .int o_start, .int o_length])), (a_o_cost, .inl (cy 1, 201, .inl u.1)), (a_o_choice, .inl (cy 1, 200, .inl u.2))]) (fun (u : (Nat → Int32) × (Nat → Int32)) => post u.1 u.2) 0 0 := by
  refine metV_of (cc := cX3_tryPlain) (maxL := 3) (lv := [(0, .ref a_o), (1, .int p1)]) (by decide) rfl (Nat.le_of_ble_eq_true rfl) rfl ?_
  intro p e s m below meth c Q A X hlk hnm hR
  unfold wX3_tryPlain at h
  refine go_bipush X (v := 32) dX3_tryPlain_0 (by decide) ?_
  refine go_aload_n X dX3_tryPlain_2 0 rfl rfl ?_
  refine go_get X fi_X3_tryPlain_X3 0 rfl rfl 6 (by decide) fl_X3_tryPlain_44 rfl dX3_tryPlain_3 ?_
  refine go_iload_n X dX3_tryPlain_6 1 rfl rfl ?_
  refine go_isub X dX3_tryPlain_7 ?_
  refine go_mmin X fw_X3_tryPlain_min0 fw_X3_tryPlain_min1 fw_X3_tryPlain_min2 fw_X3_tryPlain_min3 (by decide) (Nat.le_of_ble_eq_true rfl) (by decide) dX3_tryPlain_8 ?_
  refine go_topi (fun y1 ey1 => ?_)
  replace h := h y1 ey1
  refine go_istore_n X (lv' := [(2, .int y1), (0, .ref a_o), (1, .int p1)]) dX3_tryPlain_11 rfl (by decide) rfl ?_
  obtain ⟨n14, h⟩ := h
  refine go_lv [1, 2, 0] rfl ?_
  refine pX3_tryPlain_12 l X a_o a_o_joined a_o_earlier a_o_latest a_o_cost a_o_choice o_start o_length p1  _ (fun s2 s3 y4 h => ?_) n14 o_cost o_choice y1 h
  exact hR (s2, s3) 70 _ dX3_tryPlain_70 h
/-! X3_tryMatches -/
theorem fi_X3_tryMatches_X3 : ∀ w ∈ u_ws RX3 TX3 7, w ∈ wsX3_tryMatches := by decide +kernel
theorem fl_X3_tryMatches_22 : Cond.fieldLink RX3 22 (TX3 3).1 (TX3 3).2.1 (TX3 3).2.2.1 ∈ wsX3_tryMatches := by decide +kernel
theorem fl_X3_tryMatches_25 : Cond.fieldLink RX3 25 (TX3 4).1 (TX3 4).2.1 (TX3 4).2.2.1 ∈ wsX3_tryMatches := by decide +kernel
def rm_X3_tryMatches : Room := { frames := 2, cells := 0, slots := 0, locals := 49 }
theorem cd_X3_tryMatches : yX3_tryMatches.cls = RX3 ∧ yX3_tryMatches.cls ≠ "java/lang/invoke/MethodHandle" ∧ yX3_tryMatches.cls ≠ "java/lang/invoke/VarHandle" ∧ (parseMethodDescriptor yX3_tryMatches.desc).map (fun d => d.parameters.length) = some 1 := by decide +kernel
set_option maxRecDepth 100000 in
set_option maxHeartbeats 4000000 in
theorem pX3_tryMatches_6 {p : Program} (l : Launch) {e : Env} {s : State} {m : MethodId} {args : Array Value} {below : List Frame} {meth : Method} {c : Code} {Q : State → Prop} {D : va_G} {cy : Nat → ClassId} {A : Nat → Prop} (X : Cx p s m args c cX3_tryMatches 3 RX3 wsX3_tryMatches D (tyL cy) A) (a_o : Nat) (a_o_joined : Nat) (a_o_earlier : Nat) (a_o_latest : Nat) (a_o_cost : Nat) (a_o_choice : Nat) (o_start : Int32) (o_length : Int32) (o_joined : Nat → Int32) (o_earlier : Nat → Int32) (v1 : Int32) (K : (Nat → Int32) → (Nat → Int32) → Int32 → Prop) (hK : ∀ (o_cost : Nat → Int32) (o_choice : Nat → Int32) (v2 : Int32), K o_cost o_choice v2 → Go p l e rm_X3_tryMatches s m args below meth c Q 3 D A [(a_o, .inr (6, [.ref a_o_joined, .ref a_o_earlier, .ref a_o_latest, .ref a_o_cost, .ref a_o_choice, .int o_start, .int o_length])), (a_o_joined, .inl (cy 0, 280, .inl o_joined)), (a_o_earlier, .inl (cy 1, 280, .inl o_earlier)), (a_o_cost, .inl (cy 1, 201, .inl o_cost)), (a_o_choice, .inl (cy 1, 200, .inl o_choice))] 0 0 59 [] []) :
    ∀ (n : Nat) (o_cost : Nat → Int32) (o_choice : Nat → Int32) (v2 : Int32), wX3_tryMatches_6 v1 K n o_cost o_choice v2 → Go p l e rm_X3_tryMatches s m args below meth c Q 3 D A [(a_o, .inr (6, [.ref a_o_joined, .ref a_o_earlier, .ref a_o_latest, .ref a_o_cost, .ref a_o_choice, .int o_start, .int o_length])), (a_o_joined, .inl (cy 0, 280, .inl o_joined)), (a_o_earlier, .inl (cy 1, 280, .inl o_earlier)), (a_o_cost, .inl (cy 1, 201, .inl o_cost)), (a_o_choice, .inl (cy 1, 200, .inl o_choice))] 0 0 6 [(0, .ref a_o), (1, .int v1), (2, .int v2)] [] := by
  intro n
  induction n with
  | zero => intro o_cost o_choice v2 h; exact absurd h id
  | succ n ih =>
    intro o_cost o_choice v2 h
    refine go_iload_n X dX3_tryMatches_6 2 rfl rfl ?_
    refine go_iconst X (v := 3) dX3_tryMatches_7 (by decide) ?_
    refine go_icmp_lt X 59 dX3_tryMatches_8 (by decide) (fun c5 => ?_) (fun c5 => ?_)
    · replace h := h.1 c5
      refine go_lv [] rfl ?_
      exact hK o_cost o_choice v2 h
    · replace h := h.2 c5
      refine go_iconst X (v := 2) dX3_tryMatches_11 (by decide) ?_
      refine go_aload_n X dX3_tryMatches_12 0 rfl rfl ?_
      refine go_get X fi_X3_tryMatches_X3 0 rfl rfl 3 (by decide) fl_X3_tryMatches_22 rfl dX3_tryMatches_13 ?_
      refine go_iload_n X dX3_tryMatches_16 1 rfl rfl ?_
      refine go_iload_n X dX3_tryMatches_17 2 rfl rfl ?_
      refine go_iadd X dX3_tryMatches_18 ?_
      obtain ⟨c6, h⟩ := h
      refine go_iald X 3 1 rfl rfl c6 dX3_tryMatches_19 ?_
      refine go_iadd X dX3_tryMatches_20 ?_
      refine go_aload_n X dX3_tryMatches_21 0 rfl rfl ?_
      refine go_get X fi_X3_tryMatches_X3 0 rfl rfl 3 (by decide) fl_X3_tryMatches_22 rfl dX3_tryMatches_22 ?_
      refine go_iload_n X dX3_tryMatches_25 1 rfl rfl ?_
      obtain ⟨c7, h⟩ := h
      refine go_iald X 3 1 rfl rfl c7 dX3_tryMatches_26 ?_
      refine go_icmp_ge X 53 dX3_tryMatches_27 (by decide) (fun c8 => ?_) (fun c8 => ?_)
      · replace h := h.1 c8
        obtain ⟨y9, ey9⟩ : ∃ z : Int32, z = v2 + (-1) := ⟨_, rfl⟩
        replace h := h y9 ey9
        refine go_iinc X (lv' := [(2, .int y9), (0, .ref a_o), (1, .int v1)]) y9 dX3_tryMatches_53 2 rfl (by rw [ey9]; rfl) (by decide) rfl ?_
        refine go_goto X 6 dX3_tryMatches_56 (by decide) ?_
        refine go_lv [1, 2, 0] rfl ?_
        exact ih o_cost o_choice y9 h
      · replace h := h.2 c8
        refine go_aload_n X dX3_tryMatches_30 0 rfl rfl ?_
        refine go_get X fi_X3_tryMatches_X3 0 rfl rfl 3 (by decide) fl_X3_tryMatches_22 rfl dX3_tryMatches_31 ?_
        refine go_iload_n X dX3_tryMatches_34 1 rfl rfl ?_
        refine go_iconst X (v := 2) dX3_tryMatches_35 (by decide) ?_
        refine go_aload_n X dX3_tryMatches_36 0 rfl rfl ?_
        refine go_get X fi_X3_tryMatches_X3 0 rfl rfl 3 (by decide) fl_X3_tryMatches_22 rfl dX3_tryMatches_37 ?_
        refine go_iload_n X dX3_tryMatches_40 1 rfl rfl ?_
        refine go_iload_n X dX3_tryMatches_41 2 rfl rfl ?_
        refine go_iadd X dX3_tryMatches_42 ?_
        obtain ⟨c10, h⟩ := h
        refine go_iald X 3 1 rfl rfl c10 dX3_tryMatches_43 ?_
        refine go_iadd X dX3_tryMatches_44 ?_
        obtain ⟨c11, h⟩ := h
        refine go_iast X [(a_o, .inr (6, [.ref a_o_joined, .ref a_o_earlier, .ref a_o_latest, .ref a_o_cost, .ref a_o_choice, .int o_start, .int o_length])), (a_o_joined, .inl (cy 0, 280, .inl o_joined)), (a_o_earlier, .inl (cy 1, 280, .inl o_earlier)), (a_o_cost, .inl (cy 1, 201, .inl (upd o_cost v1.toNatClampNeg (2 + (o_cost (v1 + v2).toNatClampNeg))))), (a_o_choice, .inl (cy 1, 200, .inl o_choice))] 3 1 rfl rfl c11 rfl dX3_tryMatches_45 ?_
        refine go_aload_n X dX3_tryMatches_46 0 rfl rfl ?_
        refine go_get X fi_X3_tryMatches_X3 0 rfl rfl 4 (by decide) fl_X3_tryMatches_25 rfl dX3_tryMatches_47 ?_
        refine go_iload_n X dX3_tryMatches_50 1 rfl rfl ?_
        refine go_iload_n X dX3_tryMatches_51 2 rfl rfl ?_
        obtain ⟨c12, h⟩ := h
        refine go_iast X [(a_o, .inr (6, [.ref a_o_joined, .ref a_o_earlier, .ref a_o_latest, .ref a_o_cost, .ref a_o_choice, .int o_start, .int o_length])), (a_o_joined, .inl (cy 0, 280, .inl o_joined)), (a_o_earlier, .inl (cy 1, 280, .inl o_earlier)), (a_o_cost, .inl (cy 1, 201, .inl (upd o_cost v1.toNatClampNeg (2 + (o_cost (v1 + v2).toNatClampNeg))))), (a_o_choice, .inl (cy 1, 200, .inl (upd o_choice v1.toNatClampNeg v2)))] 4 1 rfl rfl c12 rfl dX3_tryMatches_52 ?_
        obtain ⟨y13, ey13⟩ : ∃ z : Int32, z = v2 + (-1) := ⟨_, rfl⟩
        replace h := h y13 ey13
        refine go_iinc X (lv' := [(2, .int y13), (0, .ref a_o), (1, .int v1)]) y13 dX3_tryMatches_53 2 rfl (by rw [ey13]; rfl) (by decide) rfl ?_
        refine go_goto X 6 dX3_tryMatches_56 (by decide) ?_
        refine go_lv [1, 2, 0] rfl ?_
        exact ih (upd o_cost v1.toNatClampNeg (2 + (o_cost (v1 + v2).toNatClampNeg))) (upd o_choice v1.toNatClampNeg v2) y13 h
set_option maxRecDepth 100000 in
set_option maxHeartbeats 4000000 in
theorem kX3_tryMatches (l : Launch) (D : va_G) (cy : Nat → ClassId) (a_o : Nat) (a_o_joined : Nat) (a_o_earlier : Nat) (a_o_latest : Nat) (a_o_cost : Nat) (a_o_choice : Nat) (o_start : Int32) (o_length : Int32) (o_joined : Nat → Int32) (o_earlier : Nat → Int32) (o_cost : Nat → Int32) (o_choice : Nat → Int32) (p1 : Int32) (post : (Nat → Int32) → (Nat → Int32) → Prop) (h : wX3_tryMatches o_start o_length o_joined o_earlier o_cost o_choice p1 post) : MetV l yX3_tryMatches wsX3_tryMatches rm_X3_tryMatches D (tyL cy) [.ref a_o, .int p1] [(a_o, .inr (6, [.ref a_o_joined, .ref a_o_earlier, .ref a_o_latest, .ref a_o_cost, .ref a_o_choice, .int o_start, .int o_length])), (a_o_joined, .inl (cy 0, 280, .inl o_joined)), (a_o_earlier, .inl (cy 1, 280, .inl o_earlier)), (a_o_cost, .inl (cy 1, 201, .inl o_cost)), (a_o_choice, .inl (cy 1, 200, .inl o_choice))] (fun u : (Nat → Int32) × (Nat → Int32) => [(a_o, .inr (6, [.ref a_o_joined, .ref a_o_earlier, .ref a_o_latest, .ref a_o_cost, .ref a_o_choice, .int o_start, .int o_length])), (a_o_joined, .inl (cy 0, 280, .inl o_joined)), (a_o_earlier, .inl (cy 1, 280, .inl o_earlier)), (a_o_cost, .inl (cy 1, 201, .inl u.1)), (a_o_choice, .inl (cy 1, 200, .inl u.2))]) (fun (u : (Nat → Int32) × (Nat → Int32)) => post u.1 u.2) 0 0 := by
  refine metV_of (cc := cX3_tryMatches) (maxL := 3) (lv := [(0, .ref a_o), (1, .int p1)]) (by decide) rfl (Nat.le_of_ble_eq_true rfl) rfl ?_
  intro p e s m below meth c Q A X hlk hnm hR
  unfold wX3_tryMatches at h
  refine go_aload_n X dX3_tryMatches_0 0 rfl rfl ?_
  refine go_iload_n X dX3_tryMatches_1 1 rfl rfl ?_
  refine go_callVi X (kX3_longestMatch l D cy a_o a_o_joined a_o_earlier a_o_latest a_o_cost a_o_choice o_start o_length o_joined o_earlier p1 _ h) (cwV 1 X.2.2.2.2.1 gX3_tryMatches_X3_longestMatch rfl rfl rfl cd_X3_longestMatch ⟨by decide, by decide⟩) (wr := [(a_o_cost, .inl (cy 1, 201, .inl o_cost)), (a_o_choice, .inl (cy 1, 200, .inl o_choice))]) (ws2 := fun u => [(a_o, .inr (6, [.ref a_o_joined, .ref a_o_earlier, .ref a_o_latest, .ref a_o_cost, .ref a_o_choice, .int o_start, .int o_length])), (a_o_joined, .inl (cy 0, 280, .inl o_joined)), (a_o_earlier, .inl (cy 1, 280, .inl o_earlier)), (a_o_cost, .inl (cy 1, 201, .inl o_cost)), (a_o_choice, .inl (cy 1, 200, .inl o_choice))]) (perm_idx [0, 1, 2, 3, 4] rfl rfl) (fun u => perm_idx [0, 1, 2, 3, 4] rfl rfl) rfl rfl rfl rfl (Nat.le_of_ble_eq_true rfl) dX3_tryMatches_2 ⟨by decide, by decide⟩ (fun r1 u h => ?_)
  refine go_istore_n X (lv' := [(2, .int r1), (0, .ref a_o), (1, .int p1)]) dX3_tryMatches_5 rfl (by decide) rfl ?_
  obtain ⟨n14, h⟩ := h
  refine go_lv [1, 2, 0] rfl ?_
  refine pX3_tryMatches_6 l X a_o a_o_joined a_o_earlier a_o_latest a_o_cost a_o_choice o_start o_length o_joined o_earlier p1  _ (fun s2 s3 y4 h => ?_) n14 o_cost o_choice r1 h
  exact hR (s2, s3) 59 _ dX3_tryMatches_59 h
/-! X3_linkSameBytes -/
theorem fi_X3_linkSameBytes_X3 : ∀ w ∈ u_ws RX3 TX3 7, w ∈ wsX3_linkSameBytes := by decide +kernel
theorem fl_X3_linkSameBytes_19 : Cond.fieldLink RX3 19 (TX3 2).1 (TX3 2).2.1 (TX3 2).2.2.1 ∈ wsX3_linkSameBytes := by decide +kernel
theorem fl_X3_linkSameBytes_34 : Cond.fieldLink RX3 34 (TX3 5).1 (TX3 5).2.1 (TX3 5).2.2.1 ∈ wsX3_linkSameBytes := by decide +kernel
theorem fl_X3_linkSameBytes_44 : Cond.fieldLink RX3 44 (TX3 6).1 (TX3 6).2.1 (TX3 6).2.2.1 ∈ wsX3_linkSameBytes := by decide +kernel
theorem fl_X3_linkSameBytes_9 : Cond.fieldLink RX3 9 (TX3 0).1 (TX3 0).2.1 (TX3 0).2.2.1 ∈ wsX3_linkSameBytes := by decide +kernel
theorem fl_X3_linkSameBytes_15 : Cond.fieldLink RX3 15 (TX3 1).1 (TX3 1).2.1 (TX3 1).2.2.1 ∈ wsX3_linkSameBytes := by decide +kernel
def rm_X3_linkSameBytes : Room := { frames := 1, cells := 0, slots := 0, locals := 23 }
theorem cd_X3_linkSameBytes : yX3_linkSameBytes.cls = RX3 ∧ yX3_linkSameBytes.cls ≠ "java/lang/invoke/MethodHandle" ∧ yX3_linkSameBytes.cls ≠ "java/lang/invoke/VarHandle" ∧ (parseMethodDescriptor yX3_linkSameBytes.desc).map (fun d => d.parameters.length) = some 0 := by decide +kernel
set_option maxRecDepth 100000 in
set_option maxHeartbeats 4000000 in
theorem pX3_linkSameBytes_10 {p : Program} (l : Launch) {e : Env} {s : State} {m : MethodId} {args : Array Value} {below : List Frame} {meth : Method} {c : Code} {Q : State → Prop} {D : va_G} {cy : Nat → ClassId} {A : Nat → Prop} (X : Cx p s m args c cX3_linkSameBytes 3 RX3 wsX3_linkSameBytes D (tyL cy) A) (a_o : Nat) (a_o_joined : Nat) (a_o_earlier : Nat) (a_o_latest : Nat) (a_o_cost : Nat) (a_o_choice : Nat) (o_start : Int32) (o_length : Int32) (o_joined : Nat → Int32) (K : (Nat → Int32) → (Nat → Int32) → Int32 → Prop) (hK : ∀ (o_earlier : Nat → Int32) (o_latest : Nat → Int32) (v1 : Int32), K o_earlier o_latest v1 → Go p l e rm_X3_linkSameBytes s m args below meth c Q 3 D A [(a_o, .inr (6, [.ref a_o_joined, .ref a_o_earlier, .ref a_o_latest, .ref a_o_cost, .ref a_o_choice, .int o_start, .int o_length])), (a_o_joined, .inl (cy 0, 280, .inl o_joined)), (a_o_earlier, .inl (cy 1, 280, .inl o_earlier)), (a_o_latest, .inl (cy 1, 256, .inl o_latest))] 0 0 59 [] []) :
    ∀ (n : Nat) (o_earlier : Nat → Int32) (o_latest : Nat → Int32) (v1 : Int32), wX3_linkSameBytes_10 o_start o_length o_joined K n o_earlier o_latest v1 → Go p l e rm_X3_linkSameBytes s m args below meth c Q 3 D A [(a_o, .inr (6, [.ref a_o_joined, .ref a_o_earlier, .ref a_o_latest, .ref a_o_cost, .ref a_o_choice, .int o_start, .int o_length])), (a_o_joined, .inl (cy 0, 280, .inl o_joined)), (a_o_earlier, .inl (cy 1, 280, .inl o_earlier)), (a_o_latest, .inl (cy 1, 256, .inl o_latest))] 0 0 10 [(0, .ref a_o), (1, .int v1)] [] := by
  intro n
  induction n with
  | zero => intro o_earlier o_latest v1 h; exact absurd h id
  | succ n ih =>
    intro o_earlier o_latest v1 h
    refine go_iload_n X dX3_linkSameBytes_10 1 rfl rfl ?_
    refine go_aload_n X dX3_linkSameBytes_11 0 rfl rfl ?_
    refine go_get X fi_X3_linkSameBytes_X3 0 rfl rfl 5 (by decide) fl_X3_linkSameBytes_34 rfl dX3_linkSameBytes_12 ?_
    refine go_aload_n X dX3_linkSameBytes_15 0 rfl rfl ?_
    refine go_get X fi_X3_linkSameBytes_X3 0 rfl rfl 6 (by decide) fl_X3_linkSameBytes_44 rfl dX3_linkSameBytes_16 ?_
    refine go_iadd X dX3_linkSameBytes_19 ?_
    refine go_icmp_ge X 59 dX3_linkSameBytes_20 (by decide) (fun c5 => ?_) (fun c5 => ?_)
    · replace h := h.1 c5
      refine go_lv [] rfl ?_
      exact hK o_earlier o_latest v1 h
    · replace h := h.2 c5
      refine go_aload_n X dX3_linkSameBytes_23 0 rfl rfl ?_
      refine go_get X fi_X3_linkSameBytes_X3 0 rfl rfl 0 (by decide) fl_X3_linkSameBytes_9 rfl dX3_linkSameBytes_24 ?_
      refine go_iload_n X dX3_linkSameBytes_27 1 rfl rfl ?_
      obtain ⟨c6, h⟩ := h
      refine go_bald X 1 0 rfl rfl c6 dX3_linkSameBytes_28 ?_
      refine go_sipush X (v := 255) dX3_linkSameBytes_29 (by decide) ?_
      refine go_iand X dX3_linkSameBytes_32 ?_
      refine go_topi (fun y7 ey7 => ?_)
      replace h := h y7 ey7
      refine go_istore_n X (lv' := [(2, .int y7), (0, .ref a_o), (1, .int v1)]) dX3_linkSameBytes_33 rfl (by decide) rfl ?_
      refine go_aload_n X dX3_linkSameBytes_34 1 rfl rfl ?_
      refine go_get X fi_X3_linkSameBytes_X3 0 rfl rfl 1 (by decide) fl_X3_linkSameBytes_15 rfl dX3_linkSameBytes_35 ?_
      refine go_iload_n X dX3_linkSameBytes_38 2 rfl rfl ?_
      refine go_aload_n X dX3_linkSameBytes_39 1 rfl rfl ?_
      refine go_get X fi_X3_linkSameBytes_X3 0 rfl rfl 2 (by decide) fl_X3_linkSameBytes_19 rfl dX3_linkSameBytes_40 ?_
      refine go_iload_n X dX3_linkSameBytes_43 0 rfl rfl ?_
      obtain ⟨c8, h⟩ := h
      refine go_iald X 3 1 rfl rfl c8 dX3_linkSameBytes_44 ?_
      obtain ⟨c9, h⟩ := h
      refine go_iast X [(a_o, .inr (6, [.ref a_o_joined, .ref a_o_earlier, .ref a_o_latest, .ref a_o_cost, .ref a_o_choice, .int o_start, .int o_length])), (a_o_joined, .inl (cy 0, 280, .inl o_joined)), (a_o_earlier, .inl (cy 1, 280, .inl (upd o_earlier v1.toNatClampNeg (o_latest y7.toNatClampNeg)))), (a_o_latest, .inl (cy 1, 256, .inl o_latest))] 2 1 rfl rfl c9 rfl dX3_linkSameBytes_45 ?_
      refine go_aload_n X dX3_linkSameBytes_46 1 rfl rfl ?_
      refine go_get X fi_X3_linkSameBytes_X3 0 rfl rfl 2 (by decide) fl_X3_linkSameBytes_19 rfl dX3_linkSameBytes_47 ?_
      refine go_iload_n X dX3_linkSameBytes_50 0 rfl rfl ?_
      refine go_iload_n X dX3_linkSameBytes_51 2 rfl rfl ?_
      obtain ⟨c10, h⟩ := h
      refine go_iast X [(a_o, .inr (6, [.ref a_o_joined, .ref a_o_earlier, .ref a_o_latest, .ref a_o_cost, .ref a_o_choice, .int o_start, .int o_length])), (a_o_joined, .inl (cy 0, 280, .inl o_joined)), (a_o_earlier, .inl (cy 1, 280, .inl (upd o_earlier v1.toNatClampNeg (o_latest y7.toNatClampNeg)))), (a_o_latest, .inl (cy 1, 256, .inl (upd o_latest y7.toNatClampNeg v1)))] 3 1 rfl rfl c10 rfl dX3_linkSameBytes_52 ?_
      obtain ⟨y11, ey11⟩ : ∃ z : Int32, z = v1 + 1 := ⟨_, rfl⟩
      replace h := h y11 ey11
      refine go_iinc X (lv' := [(1, .int y11), (2, .int y7), (0, .ref a_o)]) y11 dX3_linkSameBytes_53 2 rfl (by rw [ey11]; rfl) (by decide) rfl ?_
      refine go_goto X 10 dX3_linkSameBytes_56 (by decide) ?_
      refine go_lv [2, 0] rfl ?_
      exact ih (upd o_earlier v1.toNatClampNeg (o_latest y7.toNatClampNeg)) (upd o_latest y7.toNatClampNeg v1) y11 h
set_option maxRecDepth 100000 in
set_option maxHeartbeats 4000000 in
theorem kX3_linkSameBytes (l : Launch) (D : va_G) (cy : Nat → ClassId) (a_o : Nat) (a_o_joined : Nat) (a_o_earlier : Nat) (a_o_latest : Nat) (a_o_cost : Nat) (a_o_choice : Nat) (o_start : Int32) (o_length : Int32) (o_joined : Nat → Int32) (o_earlier : Nat → Int32) (o_latest : Nat → Int32) (post : (Nat → Int32) → (Nat → Int32) → Prop) (h : wX3_linkSameBytes o_start o_length o_joined o_earlier o_latest post) : MetV l yX3_linkSameBytes wsX3_linkSameBytes rm_X3_linkSameBytes D (tyL cy) [.ref a_o] [(a_o, .inr (6, [.ref a_o_joined, .ref a_o_earlier, .ref a_o_latest, .ref a_o_cost, .ref a_o_choice, .int o_start, .int o_length])), (a_o_joined, .inl (cy 0, 280, .inl o_joined)), (a_o_earlier, .inl (cy 1, 280, .inl o_earlier)), (a_o_latest, .inl (cy 1, 256, .inl o_latest))] (fun u : (Nat → Int32) × (Nat → Int32) => [(a_o, .inr (6, [.ref a_o_joined, .ref a_o_earlier, .ref a_o_latest, .ref a_o_cost, .ref a_o_choice, .int o_start, .int o_length])), (a_o_joined, .inl (cy 0, 280, .inl o_joined)), (a_o_earlier, .inl (cy 1, 280, .inl u.1)), (a_o_latest, .inl (cy 1, 256, .inl u.2))]) (fun (u : (Nat → Int32) × (Nat → Int32)) => post u.1 u.2) 0 0 := by
  refine metV_of (cc := cX3_linkSameBytes) (maxL := 3) (lv := [(0, .ref a_o)]) (by decide) rfl (Nat.le_of_ble_eq_true rfl) rfl ?_
  intro p e s m below meth c Q A X hlk hnm hR
  unfold wX3_linkSameBytes at h
  refine go_aload_n X dX3_linkSameBytes_0 0 rfl rfl ?_
  refine go_get X fi_X3_linkSameBytes_X3 0 rfl rfl 2 (by decide) fl_X3_linkSameBytes_19 rfl dX3_linkSameBytes_1 ?_
  refine go_iconst X (v := (-1)) dX3_linkSameBytes_4 (by decide) ?_
  refine go_callSv X (kJ7_fill_53178 l D cy a_o_latest 256 o_latest ((-1) : Int32) _ h) (va_cwS 2 X.2.2.2.2.1 gX3_linkSameBytes_J7_fill_53178 rfl rfl rfl cd_J7_fill_53178 ⟨by decide, by decide⟩) (wr := [(a_o, .inr (6, [.ref a_o_joined, .ref a_o_earlier, .ref a_o_latest, .ref a_o_cost, .ref a_o_choice, .int o_start, .int o_length])), (a_o_joined, .inl (cy 0, 280, .inl o_joined)), (a_o_earlier, .inl (cy 1, 280, .inl o_earlier))]) (ws2 := fun u => [(a_o, .inr (6, [.ref a_o_joined, .ref a_o_earlier, .ref a_o_latest, .ref a_o_cost, .ref a_o_choice, .int o_start, .int o_length])), (a_o_joined, .inl (cy 0, 280, .inl o_joined)), (a_o_earlier, .inl (cy 1, 280, .inl o_earlier)), (a_o_latest, .inl (cy 1, 256, .inl u))]) (perm_idx [3, 0, 1, 2] rfl rfl) (fun u => perm_idx [1, 2, 3, 0] rfl rfl) rfl rfl (Nat.le_of_ble_eq_true rfl) dX3_linkSameBytes_5 ⟨by decide, by decide⟩ (fun u h => ?_)
  obtain ⟨s1, rfl⟩ : ∃ z, z = u := ⟨_, rfl⟩
  refine go_iconst X (v := 0) dX3_linkSameBytes_8 (by decide) ?_
  refine go_istore_n X (lv' := [(1, .int 0), (0, .ref a_o)]) dX3_linkSameBytes_9 rfl (by decide) rfl ?_
  obtain ⟨n12, h⟩ := h
  refine go_lv [1, 0] rfl ?_
  refine pX3_linkSameBytes_10 l X a_o a_o_joined a_o_earlier a_o_latest a_o_cost a_o_choice o_start o_length o_joined  _ (fun s2 s3 y4 h => ?_) n12 o_earlier s1 (0 : Int32) h
  exact hR (s2, s3) 59 _ dX3_linkSameBytes_59 h
/-! X3_write -/
theorem fi_X3_write_X3 : ∀ w ∈ u_ws RX3 TX3 7, w ∈ wsX3_write := by decide +kernel
theorem fl_X3_write_44 : Cond.fieldLink RX3 44 (TX3 6).1 (TX3 6).2.1 (TX3 6).2.2.1 ∈ wsX3_write := by decide +kernel
theorem fl_X3_write_25 : Cond.fieldLink RX3 25 (TX3 4).1 (TX3 4).2.1 (TX3 4).2.2.1 ∈ wsX3_write := by decide +kernel
theorem fl_X3_write_9 : Cond.fieldLink RX3 9 (TX3 0).1 (TX3 0).2.1 (TX3 0).2.2.1 ∈ wsX3_write := by decide +kernel
theorem fl_X3_write_34 : Cond.fieldLink RX3 34 (TX3 5).1 (TX3 5).2.1 (TX3 5).2.2.1 ∈ wsX3_write := by decide +kernel
theorem fw_X3_write_abs0 : Cond.methodLink RX3 73 Lib.Math.abs.name ∈ wsX3_write := by decide +kernel
theorem fw_X3_write_abs1 : Cond.static Lib.Math.abs.name ∈ wsX3_write := by decide +kernel
theorem fw_X3_write_abs2 : Cond.initialized "java/lang/Math" ∈ wsX3_write := by decide +kernel
theorem fw_X3_write_abs3 : Cond.code Lib.Math.abs.name Lib.Math.abs.code 1 (some .int) ∈ wsX3_write := by decide +kernel
def rm_X3_write : Room := { frames := 2, cells := 0, slots := 0, locals := 48 }
theorem cd_X3_write : yX3_write.cls = RX3 ∧ yX3_write.cls ≠ "java/lang/invoke/MethodHandle" ∧ yX3_write.cls ≠ "java/lang/invoke/VarHandle" ∧ (parseMethodDescriptor yX3_write.desc).map (fun d => d.parameters.length) = some 1 := by decide +kernel
set_option maxRecDepth 100000 in
set_option maxHeartbeats 4000000 in
theorem pX3_write_4 {p : Program} (l : Launch) {e : Env} {s : State} {m : MethodId} {args : Array Value} {below : List Frame} {meth : Method} {c : Code} {Q : State → Prop} {D : va_G} {cy : Nat → ClassId} {A : Nat → Prop} (X : Cx p s m args c cX3_write 5 RX3 wsX3_write D (tyL cy) A) (a_o : Nat) (a_o_joined : Nat) (a_o_earlier : Nat) (a_o_latest : Nat) (a_o_cost : Nat) (a_o_choice : Nat) (a_p1 : Nat) (a_p1_bytes : Nat) (a_p1_bytes_bytes : Nat) (n_p1_bytes_bytes : Nat) (o_start : Int32) (o_length : Int32) (o_joined : Nat → Int32) (o_earlier : Nat → Int32) (o_choice : Nat → Int32) (K : Int32 → Int32 → Int32 → (Nat → Int32) → Int32 → Int32 → Prop) (hK : ∀ (p1_items : Int32) (p1_matches : Int32) (p1_bytes_length : Int32) (p1_bytes_bytes : Nat → Int32) (v2 : Int32) (v3 : Int32), K p1_items p1_matches p1_bytes_length p1_bytes_bytes v2 v3 → Go p l e rm_X3_write s m args below meth c Q 5 D A [(a_o, .inr (6, [.ref a_o_joined, .ref a_o_earlier, .ref a_o_latest, .ref a_o_cost, .ref a_o_choice, .int o_start, .int o_length])), (a_o_joined, .inl (cy 0, 280, .inl o_joined)), (a_o_earlier, .inl (cy 1, 280, .inl o_earlier)), (a_o_choice, .inl (cy 1, 200, .inl o_choice)), (a_p1, .inr (5, [.ref a_p1_bytes, .int p1_items, .int p1_matches])), (a_p1_bytes, .inr (7, [.ref a_p1_bytes_bytes, .int p1_bytes_length])), (a_p1_bytes_bytes, .inl (cy 0, n_p1_bytes_bytes, .inl p1_bytes_bytes))] 0 0 84 [] []) :
    ∀ (n : Nat) (p1_items : Int32) (p1_matches : Int32) (p1_bytes_length : Int32) (p1_bytes_bytes : Nat → Int32) (v2 : Int32) (v3 : Int32), wX3_write_4 n_p1_bytes_bytes o_start o_length o_joined o_earlier o_choice K n p1_items p1_matches p1_bytes_length p1_bytes_bytes v2 v3 → Go p l e rm_X3_write s m args below meth c Q 5 D A [(a_o, .inr (6, [.ref a_o_joined, .ref a_o_earlier, .ref a_o_latest, .ref a_o_cost, .ref a_o_choice, .int o_start, .int o_length])), (a_o_joined, .inl (cy 0, 280, .inl o_joined)), (a_o_earlier, .inl (cy 1, 280, .inl o_earlier)), (a_o_choice, .inl (cy 1, 200, .inl o_choice)), (a_p1, .inr (5, [.ref a_p1_bytes, .int p1_items, .int p1_matches])), (a_p1_bytes, .inr (7, [.ref a_p1_bytes_bytes, .int p1_bytes_length])), (a_p1_bytes_bytes, .inl (cy 0, n_p1_bytes_bytes, .inl p1_bytes_bytes))] 0 0 4 [(0, .ref a_o), (1, .ref a_p1), (2, .int v2), (3, .int v3)] [] := by
  intro n
  induction n with
  | zero => intro p1_items p1_matches p1_bytes_length p1_bytes_bytes v2 v3 h; exact absurd h id
  | succ n ih =>
    intro p1_items p1_matches p1_bytes_length p1_bytes_bytes v2 v3 h
    refine go_iload_n X dX3_write_4 3 rfl rfl ?_
    refine go_sipush X (v := 200) dX3_write_5 (by decide) ?_
    refine go_icmp_ge X 84 dX3_write_8 (by decide) (fun c7 => ?_) (fun c7 => ?_)
    · replace h := h.1 c7
      refine go_lv [] rfl ?_
      exact hK p1_items p1_matches p1_bytes_length p1_bytes_bytes v2 v3 h
    · replace h := h.2 c7
      refine go_iload_n X dX3_write_11 2 rfl rfl ?_
      refine go_aload_n X dX3_write_12 0 rfl rfl ?_
      refine go_get X fi_X3_write_X3 0 rfl rfl 6 (by decide) fl_X3_write_44 rfl dX3_write_13 ?_
      refine go_icmp_ge X 84 dX3_write_16 (by decide) (fun c8 => ?_) (fun c8 => ?_)
      · replace h := h.1 c8
        refine go_lv [] rfl ?_
        exact hK p1_items p1_matches p1_bytes_length p1_bytes_bytes v2 v3 h
      · replace h := h.2 c8
        refine go_aload_n X dX3_write_19 0 rfl rfl ?_
        refine go_get X fi_X3_write_X3 0 rfl rfl 4 (by decide) fl_X3_write_25 rfl dX3_write_20 ?_
        refine go_iload_n X dX3_write_23 2 rfl rfl ?_
        obtain ⟨c9, h⟩ := h
        refine go_iald X 3 1 rfl rfl c9 dX3_write_24 ?_
        refine go_topi (fun y10 ey10 => ?_)
        replace h := h y10 ey10
        refine go_istore X (lv' := [(4, .int y10), (0, .ref a_o), (1, .ref a_p1), (2, .int v2), (3, .int v3)]) dX3_write_25 (by decide) rfl ?_
        refine go_iload X dX3_write_27 0 rfl ?_
        refine go_if_le X 53 dX3_write_29 (by decide) (fun c11 => ?_) (fun c11 => ?_)
        · replace h := h.1 c11
          refine go_aload_n X dX3_write_53 2 rfl rfl ?_
          refine go_aload_n X dX3_write_54 1 rfl rfl ?_
          refine go_get X fi_X3_write_X3 0 rfl rfl 0 (by decide) fl_X3_write_9 rfl dX3_write_55 ?_
          refine go_aload_n X dX3_write_58 1 rfl rfl ?_
          refine go_get X fi_X3_write_X3 0 rfl rfl 5 (by decide) fl_X3_write_34 rfl dX3_write_59 ?_
          refine go_iload_n X dX3_write_62 3 rfl rfl ?_
          refine go_iadd X dX3_write_63 ?_
          refine go_iload X dX3_write_64 0 rfl ?_
          refine go_ineg X dX3_write_66 ?_
          refine go_callVv X (kX2_addPlain l D cy a_p1 a_p1_bytes a_p1_bytes_bytes n_p1_bytes_bytes a_o_joined 280 p1_items p1_matches p1_bytes_length p1_bytes_bytes o_joined (o_start + v2) (0 - y10) _ h) (cwV 3 X.2.2.2.2.1 gX3_write_X2_addPlain rfl rfl rfl cd_X2_addPlain ⟨by decide, by decide⟩) (wr := [(a_o, .inr (6, [.ref a_o_joined, .ref a_o_earlier, .ref a_o_latest, .ref a_o_cost, .ref a_o_choice, .int o_start, .int o_length])), (a_o_earlier, .inl (cy 1, 280, .inl o_earlier)), (a_o_choice, .inl (cy 1, 200, .inl o_choice))]) (ws2 := fun u => [(a_o, .inr (6, [.ref a_o_joined, .ref a_o_earlier, .ref a_o_latest, .ref a_o_cost, .ref a_o_choice, .int o_start, .int o_length])), (a_o_joined, .inl (cy 0, 280, .inl o_joined)), (a_o_earlier, .inl (cy 1, 280, .inl o_earlier)), (a_o_choice, .inl (cy 1, 200, .inl o_choice)), (a_p1, .inr (5, [.ref a_p1_bytes, .int u.1, .int p1_matches])), (a_p1_bytes, .inr (7, [.ref a_p1_bytes_bytes, .int u.2.1])), (a_p1_bytes_bytes, .inl (cy 0, n_p1_bytes_bytes, .inl u.2.2))]) (perm_idx [4, 5, 6, 1, 0, 2, 3] rfl rfl) (fun u => perm_idx [4, 3, 5, 6, 0, 1, 2] rfl rfl) rfl rfl rfl rfl (Nat.le_of_ble_eq_true rfl) dX3_write_67 ⟨by decide, by decide⟩ (fun u h => ?_)
          obtain ⟨s12, s13, s14⟩ := u
          refine go_iload_n X dX3_write_70 3 rfl rfl ?_
          refine go_iload X dX3_write_71 0 rfl ?_
          refine go_mabs X fw_X3_write_abs0 fw_X3_write_abs1 fw_X3_write_abs2 fw_X3_write_abs3 (by decide) (Nat.le_of_ble_eq_true rfl) (by decide) dX3_write_73 ?_
          refine go_topi (fun y15 ey15 => ?_)
          replace h := h y15 ey15
          refine go_iadd X dX3_write_76 ?_
          refine go_topi (fun y16 ey16 => ?_)
          replace h := h y16 ey16
          refine go_istore_n X (lv' := [(2, .int y16), (4, .int y10), (0, .ref a_o), (1, .ref a_p1), (3, .int v3)]) dX3_write_77 rfl (by decide) rfl ?_
          obtain ⟨y17, ey17⟩ : ∃ z : Int32, z = v3 + 1 := ⟨_, rfl⟩
          replace h := h y17 ey17
          refine go_iinc X (lv' := [(3, .int y17), (2, .int y16), (4, .int y10), (0, .ref a_o), (1, .ref a_p1)]) y17 dX3_write_78 4 rfl (by rw [ey17]; rfl) (by decide) rfl ?_
          refine go_goto X 4 dX3_write_81 (by decide) ?_
          refine go_lv [3, 4, 1, 0] rfl ?_
          exact ih s12 p1_matches s13 s14 y16 y17 h
        · replace h := h.2 c11
          refine go_aload_n X dX3_write_32 2 rfl rfl ?_
          refine go_iload X dX3_write_33 0 rfl ?_
          refine go_aload_n X dX3_write_35 1 rfl rfl ?_
          refine go_aload_n X dX3_write_36 1 rfl rfl ?_
          refine go_get X fi_X3_write_X3 0 rfl rfl 5 (by decide) fl_X3_write_34 rfl dX3_write_37 ?_
          refine go_iload_n X dX3_write_40 3 rfl rfl ?_
          refine go_iadd X dX3_write_41 ?_
          refine go_iload X dX3_write_42 0 rfl ?_
          refine go_callVi X (kX3_leastDistance l D cy a_o a_o_joined a_o_earlier a_o_latest a_o_cost a_o_choice o_start o_length o_joined o_earlier (o_start + v2) y10 _ h) (cwV 2 X.2.2.2.2.1 gX3_write_X3_leastDistance rfl rfl rfl cd_X3_leastDistance ⟨by decide, by decide⟩) (wr := [(a_o_choice, .inl (cy 1, 200, .inl o_choice)), (a_p1, .inr (5, [.ref a_p1_bytes, .int p1_items, .int p1_matches])), (a_p1_bytes, .inr (7, [.ref a_p1_bytes_bytes, .int p1_bytes_length])), (a_p1_bytes_bytes, .inl (cy 0, n_p1_bytes_bytes, .inl p1_bytes_bytes))]) (ws2 := fun u => [(a_o, .inr (6, [.ref a_o_joined, .ref a_o_earlier, .ref a_o_latest, .ref a_o_cost, .ref a_o_choice, .int o_start, .int o_length])), (a_o_joined, .inl (cy 0, 280, .inl o_joined)), (a_o_earlier, .inl (cy 1, 280, .inl o_earlier)), (a_o_choice, .inl (cy 1, 200, .inl o_choice)), (a_p1, .inr (5, [.ref a_p1_bytes, .int p1_items, .int p1_matches])), (a_p1_bytes, .inr (7, [.ref a_p1_bytes_bytes, .int p1_bytes_length])), (a_p1_bytes_bytes, .inl (cy 0, n_p1_bytes_bytes, .inl p1_bytes_bytes))]) (perm_idx [0, 1, 2, 3, 4, 5, 6] rfl rfl) (fun u => perm_idx [0, 1, 2, 3, 4, 5, 6] rfl rfl) rfl rfl rfl rfl (Nat.le_of_ble_eq_true rfl) dX3_write_44 ⟨by decide, by decide⟩ (fun r18 u h => ?_)
          refine go_callVv X (kX2_addMatch l D cy a_p1 a_p1_bytes a_p1_bytes_bytes n_p1_bytes_bytes p1_items p1_matches p1_bytes_length p1_bytes_bytes y10 r18 _ h) (cwV 2 X.2.2.2.2.1 gX3_write_X2_addMatch rfl rfl rfl cd_X2_addMatch ⟨by decide, by decide⟩) (wr := [(a_o, .inr (6, [.ref a_o_joined, .ref a_o_earlier, .ref a_o_latest, .ref a_o_cost, .ref a_o_choice, .int o_start, .int o_length])), (a_o_joined, .inl (cy 0, 280, .inl o_joined)), (a_o_earlier, .inl (cy 1, 280, .inl o_earlier)), (a_o_choice, .inl (cy 1, 200, .inl o_choice))]) (ws2 := fun u => [(a_o, .inr (6, [.ref a_o_joined, .ref a_o_earlier, .ref a_o_latest, .ref a_o_cost, .ref a_o_choice, .int o_start, .int o_length])), (a_o_joined, .inl (cy 0, 280, .inl o_joined)), (a_o_earlier, .inl (cy 1, 280, .inl o_earlier)), (a_o_choice, .inl (cy 1, 200, .inl o_choice)), (a_p1, .inr (5, [.ref a_p1_bytes, .int u.1, .int u.2.1])), (a_p1_bytes, .inr (7, [.ref a_p1_bytes_bytes, .int u.2.2.1])), (a_p1_bytes_bytes, .inl (cy 0, n_p1_bytes_bytes, .inl u.2.2.2))]) (perm_idx [4, 5, 6, 0, 1, 2, 3] rfl rfl) (fun u => perm_idx [3, 4, 5, 6, 0, 1, 2] rfl rfl) rfl rfl rfl rfl (Nat.le_of_ble_eq_true rfl) dX3_write_47 ⟨by decide, by decide⟩ (fun u h => ?_)
          obtain ⟨s19, s20, s21, s22⟩ := u
          refine go_goto X 70 dX3_write_50 (by decide) ?_
          refine go_iload_n X dX3_write_70 3 rfl rfl ?_
          refine go_iload X dX3_write_71 0 rfl ?_
          refine go_mabs X fw_X3_write_abs0 fw_X3_write_abs1 fw_X3_write_abs2 fw_X3_write_abs3 (by decide) (Nat.le_of_ble_eq_true rfl) (by decide) dX3_write_73 ?_
          refine go_topi (fun y23 ey23 => ?_)
          replace h := h y23 ey23
          refine go_iadd X dX3_write_76 ?_
          refine go_topi (fun y24 ey24 => ?_)
          replace h := h y24 ey24
          refine go_istore_n X (lv' := [(2, .int y24), (4, .int y10), (0, .ref a_o), (1, .ref a_p1), (3, .int v3)]) dX3_write_77 rfl (by decide) rfl ?_
          obtain ⟨y25, ey25⟩ : ∃ z : Int32, z = v3 + 1 := ⟨_, rfl⟩
          replace h := h y25 ey25
          refine go_iinc X (lv' := [(3, .int y25), (2, .int y24), (4, .int y10), (0, .ref a_o), (1, .ref a_p1)]) y25 dX3_write_78 4 rfl (by rw [ey25]; rfl) (by decide) rfl ?_
          refine go_goto X 4 dX3_write_81 (by decide) ?_
          refine go_lv [3, 4, 1, 0] rfl ?_
          exact ih s19 s20 s21 s22 y24 y25 h
set_option maxRecDepth 100000 in
set_option maxHeartbeats 4000000 in
theorem kX3_write (l : Launch) (D : va_G) (cy : Nat → ClassId) (a_o : Nat) (a_o_joined : Nat) (a_o_earlier : Nat) (a_o_latest : Nat) (a_o_cost : Nat) (a_o_choice : Nat) (a_p1 : Nat) (a_p1_bytes : Nat) (a_p1_bytes_bytes : Nat) (n_p1_bytes_bytes : Nat) (o_start : Int32) (o_length : Int32) (o_joined : Nat → Int32) (o_earlier : Nat → Int32) (o_choice : Nat → Int32) (p1_items : Int32) (p1_matches : Int32) (p1_bytes_length : Int32) (p1_bytes_bytes : Nat → Int32) (post : Int32 → Int32 → Int32 → (Nat → Int32) → Prop) (h : wX3_write n_p1_bytes_bytes o_start o_length o_joined o_earlier o_choice p1_items p1_matches p1_bytes_length p1_bytes_bytes post) : MetV l yX3_write wsX3_write rm_X3_write D (tyL cy) [.ref a_o, .ref a_p1] [(a_o, .inr (6, [.ref a_o_joined, .ref a_o_earlier, .ref a_o_latest, .ref a_o_cost, .ref a_o_choice, .int o_start, .int o_length])), (a_o_joined, .inl (cy 0, 280, .inl o_joined)), (a_o_earlier, .inl (cy 1, 280, .inl o_earlier)), (a_o_choice, .inl (cy 1, 200, .inl o_choice)), (a_p1, .inr (5, [.ref a_p1_bytes, .int p1_items, .int p1_matches])), (a_p1_bytes, .inr (7, [.ref a_p1_bytes_bytes, .int p1_bytes_length])), (a_p1_bytes_bytes, .inl (cy 0, n_p1_bytes_bytes, .inl p1_bytes_bytes))] (fun u : Int32 × Int32 × Int32 × (Nat → Int32) => [(a_o, .inr (6, [.ref a_o_joined, .ref a_o_earlier, .ref a_o_latest, .ref a_o_cost, .ref a_o_choice, .int o_start, .int o_length])), (a_o_joined, .inl (cy 0, 280, .inl o_joined)), (a_o_earlier, .inl (cy 1, 280, .inl o_earlier)), (a_o_choice, .inl (cy 1, 200, .inl o_choice)), (a_p1, .inr (5, [.ref a_p1_bytes, .int u.1, .int u.2.1])), (a_p1_bytes, .inr (7, [.ref a_p1_bytes_bytes, .int u.2.2.1])), (a_p1_bytes_bytes, .inl (cy 0, n_p1_bytes_bytes, .inl u.2.2.2))]) (fun (u : Int32 × Int32 × Int32 × (Nat → Int32)) => post u.1 u.2.1 u.2.2.1 u.2.2.2) 0 0 := by
  refine metV_of (cc := cX3_write) (maxL := 5) (lv := [(0, .ref a_o), (1, .ref a_p1)]) (by decide) rfl (Nat.le_of_ble_eq_true rfl) rfl ?_
  intro p e s m below meth c Q A X hlk hnm hR
  unfold wX3_write at h
  refine go_iconst X (v := 0) dX3_write_0 (by decide) ?_
  refine go_istore_n X (lv' := [(2, .int 0), (0, .ref a_o), (1, .ref a_p1)]) dX3_write_1 rfl (by decide) rfl ?_
  refine go_iconst X (v := 0) dX3_write_2 (by decide) ?_
  refine go_istore_n X (lv' := [(3, .int 0), (2, .int 0), (0, .ref a_o), (1, .ref a_p1)]) dX3_write_3 rfl (by decide) rfl ?_
  obtain ⟨n26, h⟩ := h
  refine go_lv [2, 3, 1, 0] rfl ?_
  refine pX3_write_4 l X a_o a_o_joined a_o_earlier a_o_latest a_o_cost a_o_choice a_p1 a_p1_bytes a_p1_bytes_bytes n_p1_bytes_bytes o_start o_length o_joined o_earlier o_choice  _ (fun s1 s2 s3 s4 y5 y6 h => ?_) n26 p1_items p1_matches p1_bytes_length p1_bytes_bytes (0 : Int32) (0 : Int32) h
  exact hR (s1, s2, s3, s4) 84 _ dX3_write_84 h
/-! X3_measure -/
theorem fi_X3_measure_X3 : ∀ w ∈ u_ws RX3 TX3 7, w ∈ wsX3_measure := by decide +kernel
theorem fl_X3_measure_9 : Cond.fieldLink RX3 9 (TX3 0).1 (TX3 0).2.1 (TX3 0).2.2.1 ∈ wsX3_measure := by decide +kernel
theorem fl_X3_measure_34 : Cond.fieldLink RX3 34 (TX3 5).1 (TX3 5).2.1 (TX3 5).2.2.1 ∈ wsX3_measure := by decide +kernel
theorem fw_X3_measure_min0 : Cond.methodLink RX3 38 Lib.Math.min.name ∈ wsX3_measure := by decide +kernel
theorem fw_X3_measure_min1 : Cond.static Lib.Math.min.name ∈ wsX3_measure := by decide +kernel
theorem fw_X3_measure_min2 : Cond.initialized "java/lang/Math" ∈ wsX3_measure := by decide +kernel
theorem fw_X3_measure_min3 : Cond.code Lib.Math.min.name Lib.Math.min.code 2 (some .int) ∈ wsX3_measure := by decide +kernel
theorem fl_X3_measure_44 : Cond.fieldLink RX3 44 (TX3 6).1 (TX3 6).2.1 (TX3 6).2.2.1 ∈ wsX3_measure := by decide +kernel
theorem fl_X3_measure_22 : Cond.fieldLink RX3 22 (TX3 3).1 (TX3 3).2.1 (TX3 3).2.2.1 ∈ wsX3_measure := by decide +kernel
theorem fw_X3_measure_c52 : Jvm.Cond.constant RX3 52 2147483647 ∈ wsX3_measure := by decide +kernel
def rm_X3_measure : Room := { frames := 3, cells := 0, slots := 0, locals := 71 }
theorem cd_X3_measure : yX3_measure.cls = RX3 ∧ yX3_measure.cls ≠ "java/lang/invoke/MethodHandle" ∧ yX3_measure.cls ≠ "java/lang/invoke/VarHandle" ∧ (parseMethodDescriptor yX3_measure.desc).map (fun d => d.parameters.length) = some 2 := by decide +kernel
set_option maxRecDepth 100000 in
set_option maxHeartbeats 4000000 in
theorem pX3_measure_61 {p : Program} (l : Launch) {e : Env} {s : State} {m : MethodId} {args : Array Value} {below : List Frame} {meth : Method} {c : Code} {Q : State → Prop} {D : va_G} {cy : Nat → ClassId} {A : Nat → Prop} (X : Cx p s m args c cX3_measure 4 RX3 wsX3_measure D (tyL cy) A) (a_o : Nat) (a_o_joined : Nat) (a_o_earlier : Nat) (a_o_latest : Nat) (a_o_cost : Nat) (a_o_choice : Nat) (a_p1 : Nat) (a_p1_bytes : Nat) (n_p1_bytes : Nat) (a_p2 : Nat) (a_p2_bytes : Nat) (n_p2_bytes : Nat) (o_start : Int32) (o_length : Int32) (o_joined : Nat → Int32) (o_earlier : Nat → Int32) (o_latest : Nat → Int32) (p1_length : Int32) (p1_bytes : Nat → Int32) (p2_length : Int32) (p2_bytes : Nat → Int32) (K : (Nat → Int32) → (Nat → Int32) → Int32 → Prop) (hK : ∀ (o_cost : Nat → Int32) (o_choice : Nat → Int32) (v3 : Int32), K o_cost o_choice v3 → Go p l e rm_X3_measure s m args below meth c Q 4 D A [(a_o, .inr (6, [.ref a_o_joined, .ref a_o_earlier, .ref a_o_latest, .ref a_o_cost, .ref a_o_choice, .int o_start, .int o_length])), (a_o_joined, .inl (cy 0, 280, .inl o_joined)), (a_o_earlier, .inl (cy 1, 280, .inl o_earlier)), (a_o_latest, .inl (cy 1, 256, .inl o_latest)), (a_o_cost, .inl (cy 1, 201, .inl o_cost)), (a_o_choice, .inl (cy 1, 200, .inl o_choice)), (a_p1, .inr (7, [.ref a_p1_bytes, .int p1_length])), (a_p1_bytes, .inl (cy 0, n_p1_bytes, .inl p1_bytes)), (a_p2, .inr (7, [.ref a_p2_bytes, .int p2_length])), (a_p2_bytes, .inl (cy 0, n_p2_bytes, .inl p2_bytes))] 0 0 89 [(0, .ref a_o)] []) :
    ∀ (n : Nat) (o_cost : Nat → Int32) (o_choice : Nat → Int32) (v3 : Int32), wX3_measure_61 o_start o_length o_joined o_earlier K n o_cost o_choice v3 → Go p l e rm_X3_measure s m args below meth c Q 4 D A [(a_o, .inr (6, [.ref a_o_joined, .ref a_o_earlier, .ref a_o_latest, .ref a_o_cost, .ref a_o_choice, .int o_start, .int o_length])), (a_o_joined, .inl (cy 0, 280, .inl o_joined)), (a_o_earlier, .inl (cy 1, 280, .inl o_earlier)), (a_o_latest, .inl (cy 1, 256, .inl o_latest)), (a_o_cost, .inl (cy 1, 201, .inl o_cost)), (a_o_choice, .inl (cy 1, 200, .inl o_choice)), (a_p1, .inr (7, [.ref a_p1_bytes, .int p1_length])), (a_p1_bytes, .inl (cy 0, n_p1_bytes, .inl p1_bytes)), (a_p2, .inr (7, [.ref a_p2_bytes, .int p2_length])), (a_p2_bytes, .inl (cy 0, n_p2_bytes, .inl p2_bytes))] 0 0 61 [(0, .ref a_o), (3, .int v3)] [] := by
  intro n
  induction n with
  | zero => intro o_cost o_choice v3 h; exact absurd h id
  | succ n ih =>
    intro o_cost o_choice v3 h
    refine go_iload_n X dX3_measure_61 1 rfl rfl ?_
    refine go_if_lt X 89 dX3_measure_62 (by decide) (fun c13 => ?_) (fun c13 => ?_)
    · replace h := h.1 c13
      refine go_lv [0] rfl ?_
      exact hK o_cost o_choice v3 h
    · replace h := h.2 c13
      refine go_aload_n X dX3_measure_65 0 rfl rfl ?_
      refine go_get X fi_X3_measure_X3 0 rfl rfl 3 (by decide) fl_X3_measure_22 rfl dX3_measure_66 ?_
      refine go_iload_n X dX3_measure_69 1 rfl rfl ?_
      refine go_ldc X fw_X3_measure_c52 dX3_measure_70 ?_
      obtain ⟨c14, h⟩ := h
      refine go_iast X [(a_o, .inr (6, [.ref a_o_joined, .ref a_o_earlier, .ref a_o_latest, .ref a_o_cost, .ref a_o_choice, .int o_start, .int o_length])), (a_o_joined, .inl (cy 0, 280, .inl o_joined)), (a_o_earlier, .inl (cy 1, 280, .inl o_earlier)), (a_o_latest, .inl (cy 1, 256, .inl o_latest)), (a_o_cost, .inl (cy 1, 201, .inl (upd o_cost v3.toNatClampNeg 2147483647))), (a_o_choice, .inl (cy 1, 200, .inl o_choice)), (a_p1, .inr (7, [.ref a_p1_bytes, .int p1_length])), (a_p1_bytes, .inl (cy 0, n_p1_bytes, .inl p1_bytes)), (a_p2, .inr (7, [.ref a_p2_bytes, .int p2_length])), (a_p2_bytes, .inl (cy 0, n_p2_bytes, .inl p2_bytes))] 4 1 rfl rfl c14 rfl dX3_measure_72 ?_
      refine go_aload_n X dX3_measure_73 0 rfl rfl ?_
      refine go_iload_n X dX3_measure_74 1 rfl rfl ?_
      refine go_callVv X (kX3_tryMatches l D cy a_o a_o_joined a_o_earlier a_o_latest a_o_cost a_o_choice o_start o_length o_joined o_earlier (upd o_cost v3.toNatClampNeg 2147483647) o_choice v3 _ h) (cwV 1 X.2.2.2.2.1 gX3_measure_X3_tryMatches rfl rfl rfl cd_X3_tryMatches ⟨by decide, by decide⟩) (wr := [(a_o_latest, .inl (cy 1, 256, .inl o_latest)), (a_p1, .inr (7, [.ref a_p1_bytes, .int p1_length])), (a_p1_bytes, .inl (cy 0, n_p1_bytes, .inl p1_bytes)), (a_p2, .inr (7, [.ref a_p2_bytes, .int p2_length])), (a_p2_bytes, .inl (cy 0, n_p2_bytes, .inl p2_bytes))]) (ws2 := fun u => [(a_o, .inr (6, [.ref a_o_joined, .ref a_o_earlier, .ref a_o_latest, .ref a_o_cost, .ref a_o_choice, .int o_start, .int o_length])), (a_o_joined, .inl (cy 0, 280, .inl o_joined)), (a_o_earlier, .inl (cy 1, 280, .inl o_earlier)), (a_o_latest, .inl (cy 1, 256, .inl o_latest)), (a_o_cost, .inl (cy 1, 201, .inl u.1)), (a_o_choice, .inl (cy 1, 200, .inl u.2)), (a_p1, .inr (7, [.ref a_p1_bytes, .int p1_length])), (a_p1_bytes, .inl (cy 0, n_p1_bytes, .inl p1_bytes)), (a_p2, .inr (7, [.ref a_p2_bytes, .int p2_length])), (a_p2_bytes, .inl (cy 0, n_p2_bytes, .inl p2_bytes))]) (perm_idx [0, 1, 2, 4, 5, 3, 6, 7, 8, 9] rfl rfl) (fun u => perm_idx [0, 1, 2, 5, 3, 4, 6, 7, 8, 9] rfl rfl) rfl rfl rfl rfl (Nat.le_of_ble_eq_true rfl) dX3_measure_75 ⟨by decide, by decide⟩ (fun u h => ?_)
      obtain ⟨s15, s16⟩ := u
      refine go_aload_n X dX3_measure_78 0 rfl rfl ?_
      refine go_iload_n X dX3_measure_79 1 rfl rfl ?_
      refine go_callVv X (kX3_tryPlain l D cy a_o a_o_joined a_o_earlier a_o_latest a_o_cost a_o_choice o_start o_length s15 s16 v3 _ h) (cwV 1 X.2.2.2.2.1 gX3_measure_X3_tryPlain rfl rfl rfl cd_X3_tryPlain ⟨by decide, by decide⟩) (wr := [(a_o_joined, .inl (cy 0, 280, .inl o_joined)), (a_o_earlier, .inl (cy 1, 280, .inl o_earlier)), (a_o_latest, .inl (cy 1, 256, .inl o_latest)), (a_p1, .inr (7, [.ref a_p1_bytes, .int p1_length])), (a_p1_bytes, .inl (cy 0, n_p1_bytes, .inl p1_bytes)), (a_p2, .inr (7, [.ref a_p2_bytes, .int p2_length])), (a_p2_bytes, .inl (cy 0, n_p2_bytes, .inl p2_bytes))]) (ws2 := fun u => [(a_o, .inr (6, [.ref a_o_joined, .ref a_o_earlier, .ref a_o_latest, .ref a_o_cost, .ref a_o_choice, .int o_start, .int o_length])), (a_o_joined, .inl (cy 0, 280, .inl o_joined)), (a_o_earlier, .inl (cy 1, 280, .inl o_earlier)), (a_o_latest, .inl (cy 1, 256, .inl o_latest)), (a_o_cost, .inl (cy 1, 201, .inl u.1)), (a_o_choice, .inl (cy 1, 200, .inl u.2)), (a_p1, .inr (7, [.ref a_p1_bytes, .int p1_length])), (a_p1_bytes, .inl (cy 0, n_p1_bytes, .inl p1_bytes)), (a_p2, .inr (7, [.ref a_p2_bytes, .int p2_length])), (a_p2_bytes, .inl (cy 0, n_p2_bytes, .inl p2_bytes))]) (perm_idx [0, 4, 5, 1, 2, 3, 6, 7, 8, 9] rfl rfl) (fun u => perm_idx [0, 3, 4, 5, 1, 2, 6, 7, 8, 9] rfl rfl) rfl rfl rfl rfl (Nat.le_of_ble_eq_true rfl) dX3_measure_80 ⟨by decide, by decide⟩ (fun u h => ?_)
      obtain ⟨s17, s18⟩ := u
      obtain ⟨y19, ey19⟩ : ∃ z : Int32, z = v3 + (-1) := ⟨_, rfl⟩
      replace h := h y19 ey19
      refine go_iinc X (lv' := [(3, .int y19), (0, .ref a_o)]) y19 dX3_measure_83 1 rfl (by rw [ey19]; rfl) (by decide) rfl ?_
      refine go_goto X 61 dX3_measure_86 (by decide) ?_
      refine go_lv [1, 0] rfl ?_
      exact ih s17 s18 y19 h
set_option maxRecDepth 100000 in
set_option maxHeartbeats 4000000 in
theorem kX3_measure (l : Launch) (D : va_G) (cy : Nat → ClassId) (a_o : Nat) (a_o_joined : Nat) (a_o_earlier : Nat) (a_o_latest : Nat) (a_o_cost : Nat) (a_o_choice : Nat) (a_p1 : Nat) (a_p1_bytes : Nat) (n_p1_bytes : Nat) (a_p2 : Nat) (a_p2_bytes : Nat) (n_p2_bytes : Nat) (o_start : Int32) (o_length : Int32) (o_joined : Nat → Int32) (o_earlier : Nat → Int32) (o_latest : Nat → Int32) (o_cost : Nat → Int32) (o_choice : Nat → Int32) (p1_length : Int32) (p1_bytes : Nat → Int32) (p2_length : Int32) (p2_bytes : Nat → Int32) (post : Int32 → Int32 → Int32 → (Nat → Int32) → (Nat → Int32) → (Nat → Int32) → (Nat → Int32) → (Nat → Int32) → Prop) (h : wX3_measure n_p1_bytes n_p2_bytes o_joined o_earlier o_latest o_cost o_choice p1_length p1_bytes p2_length p2_bytes post) : MetI l yX3_measure wsX3_measure rm_X3_measure D (tyL cy) [.ref a_o, .ref a_p1, .ref a_p2] [(a_o, .inr (6, [.ref a_o_joined, .ref a_o_earlier, .ref a_o_latest, .ref a_o_cost, .ref a_o_choice, .int o_start, .int o_length])), (a_o_joined, .inl (cy 0, 280, .inl o_joined)), (a_o_earlier, .inl (cy 1, 280, .inl o_earlier)), (a_o_latest, .inl (cy 1, 256, .inl o_latest)), (a_o_cost, .inl (cy 1, 201, .inl o_cost)), (a_o_choice, .inl (cy 1, 200, .inl o_choice)), (a_p1, .inr (7, [.ref a_p1_bytes, .int p1_length])), (a_p1_bytes, .inl (cy 0, n_p1_bytes, .inl p1_bytes)), (a_p2, .inr (7, [.ref a_p2_bytes, .int p2_length])), (a_p2_bytes, .inl (cy 0, n_p2_bytes, .inl p2_bytes))] (fun u : Int32 × Int32 × (Nat → Int32) × (Nat → Int32) × (Nat → Int32) × (Nat → Int32) × (Nat → Int32) => [(a_o, .inr (6, [.ref a_o_joined, .ref a_o_earlier, .ref a_o_latest, .ref a_o_cost, .ref a_o_choice, .int u.1, .int u.2.1])), (a_o_joined, .inl (cy 0, 280, .inl u.2.2.1)), (a_o_earlier, .inl (cy 1, 280, .inl u.2.2.2.1)), (a_o_latest, .inl (cy 1, 256, .inl u.2.2.2.2.1)), (a_o_cost, .inl (cy 1, 201, .inl u.2.2.2.2.2.1)), (a_o_choice, .inl (cy 1, 200, .inl u.2.2.2.2.2.2)), (a_p1, .inr (7, [.ref a_p1_bytes, .int p1_length])), (a_p1_bytes, .inl (cy 0, n_p1_bytes, .inl p1_bytes)), (a_p2, .inr (7, [.ref a_p2_bytes, .int p2_length])), (a_p2_bytes, .inl (cy 0, n_p2_bytes, .inl p2_bytes))]) (fun r => fun (u : Int32 × Int32 × (Nat → Int32) × (Nat → Int32) × (Nat → Int32) × (Nat → Int32) × (Nat → Int32)) => post r u.1 u.2.1 u.2.2.1 u.2.2.2.1 u.2.2.2.2.1 u.2.2.2.2.2.1 u.2.2.2.2.2.2) 0 0 := by
  refine metI_of (cc := cX3_measure) (maxL := 4) (lv := [(0, .ref a_o), (1, .ref a_p1), (2, .ref a_p2)]) (by decide) rfl (Nat.le_of_ble_eq_true rfl) rfl ?_
  intro p e s m below meth c Q A X hlk hR
  unfold wX3_measure at h
  refine go_aload_n X dX3_measure_0 0 rfl rfl ?_
  refine go_aload_n X dX3_measure_1 2 rfl rfl ?_
  refine go_aload_n X dX3_measure_2 0 rfl rfl ?_
  refine go_get X fi_X3_measure_X3 0 rfl rfl 0 (by decide) fl_X3_measure_9 rfl dX3_measure_3 ?_
  refine go_iconst X (v := 0) dX3_measure_6 (by decide) ?_
  refine go_callVi X (kX4_copyTo l D cy a_p2 a_p2_bytes n_p2_bytes a_o_joined 280 p2_length p2_bytes o_joined (0 : Int32) _ h) (cwV 2 X.2.2.2.2.1 gX3_measure_X4_copyTo rfl rfl rfl cd_X4_copyTo ⟨by decide, by decide⟩) (wr := [(a_o, .inr (6, [.ref a_o_joined, .ref a_o_earlier, .ref a_o_latest, .ref a_o_cost, .ref a_o_choice, .int o_start, .int o_length])), (a_o_earlier, .inl (cy 1, 280, .inl o_earlier)), (a_o_latest, .inl (cy 1, 256, .inl o_latest)), (a_o_cost, .inl (cy 1, 201, .inl o_cost)), (a_o_choice, .inl (cy 1, 200, .inl o_choice)), (a_p1, .inr (7, [.ref a_p1_bytes, .int p1_length])), (a_p1_bytes, .inl (cy 0, n_p1_bytes, .inl p1_bytes))]) (ws2 := fun u => [(a_o, .inr (6, [.ref a_o_joined, .ref a_o_earlier, .ref a_o_latest, .ref a_o_cost, .ref a_o_choice, .int o_start, .int o_length])), (a_o_joined, .inl (cy 0, 280, .inl u)), (a_o_earlier, .inl (cy 1, 280, .inl o_earlier)), (a_o_latest, .inl (cy 1, 256, .inl o_latest)), (a_o_cost, .inl (cy 1, 201, .inl o_cost)), (a_o_choice, .inl (cy 1, 200, .inl o_choice)), (a_p1, .inr (7, [.ref a_p1_bytes, .int p1_length])), (a_p1_bytes, .inl (cy 0, n_p1_bytes, .inl p1_bytes)), (a_p2, .inr (7, [.ref a_p2_bytes, .int p2_length])), (a_p2_bytes, .inl (cy 0, n_p2_bytes, .inl p2_bytes))]) (perm_idx [8, 9, 1, 0, 2, 3, 4, 5, 6, 7] rfl rfl) (fun u => perm_idx [3, 2, 4, 5, 6, 7, 8, 9, 0, 1] rfl rfl) rfl rfl rfl rfl (Nat.le_of_ble_eq_true rfl) dX3_measure_7 ⟨by decide, by decide⟩ (fun r1 u h => ?_)
  obtain ⟨s2, rfl⟩ : ∃ z, z = u := ⟨_, rfl⟩
  refine go_put X (ws' := [(a_o, .inr (6, [.ref a_o_joined, .ref a_o_earlier, .ref a_o_latest, .ref a_o_cost, .ref a_o_choice, .int r1, .int o_length])), (a_o_joined, .inl (cy 0, 280, .inl s2)), (a_o_earlier, .inl (cy 1, 280, .inl o_earlier)), (a_o_latest, .inl (cy 1, 256, .inl o_latest)), (a_o_cost, .inl (cy 1, 201, .inl o_cost)), (a_o_choice, .inl (cy 1, 200, .inl o_choice)), (a_p1, .inr (7, [.ref a_p1_bytes, .int p1_length])), (a_p1_bytes, .inl (cy 0, n_p1_bytes, .inl p1_bytes)), (a_p2, .inr (7, [.ref a_p2_bytes, .int p2_length])), (a_p2_bytes, .inl (cy 0, n_p2_bytes, .inl p2_bytes))]) fi_X3_measure_X3 tyX3 tyX3_ok nmX3 0 rfl rfl 5 (by decide) fl_X3_measure_34 rfl (tyX3_ok 5 (by decide)) rfl rfl (Nat.le_of_ble_eq_true rfl) rfl dX3_measure_10 ?_
  refine go_aload_n X dX3_measure_13 0 rfl rfl ?_
  refine go_aload_n X dX3_measure_14 1 rfl rfl ?_
  refine go_aload_n X dX3_measure_15 0 rfl rfl ?_
  refine go_get X fi_X3_measure_X3 0 rfl rfl 0 (by decide) fl_X3_measure_9 rfl dX3_measure_16 ?_
  refine go_aload_n X dX3_measure_19 0 rfl rfl ?_
  refine go_get X fi_X3_measure_X3 0 rfl rfl 5 (by decide) fl_X3_measure_34 rfl dX3_measure_20 ?_
  refine go_callVi X (kX4_copyTo l D cy a_p1 a_p1_bytes n_p1_bytes a_o_joined 280 p1_length p1_bytes s2 r1 _ h) (cwV 2 X.2.2.2.2.1 gX3_measure_X4_copyTo rfl rfl rfl cd_X4_copyTo ⟨by decide, by decide⟩) (wr := [(a_o, .inr (6, [.ref a_o_joined, .ref a_o_earlier, .ref a_o_latest, .ref a_o_cost, .ref a_o_choice, .int r1, .int o_length])), (a_o_earlier, .inl (cy 1, 280, .inl o_earlier)), (a_o_latest, .inl (cy 1, 256, .inl o_latest)), (a_o_cost, .inl (cy 1, 201, .inl o_cost)), (a_o_choice, .inl (cy 1, 200, .inl o_choice)), (a_p2, .inr (7, [.ref a_p2_bytes, .int p2_length])), (a_p2_bytes, .inl (cy 0, n_p2_bytes, .inl p2_bytes))]) (ws2 := fun u => [(a_o, .inr (6, [.ref a_o_joined, .ref a_o_earlier, .ref a_o_latest, .ref a_o_cost, .ref a_o_choice, .int r1, .int o_length])), (a_o_joined, .inl (cy 0, 280, .inl u)), (a_o_earlier, .inl (cy 1, 280, .inl o_earlier)), (a_o_latest, .inl (cy 1, 256, .inl o_latest)), (a_o_cost, .inl (cy 1, 201, .inl o_cost)), (a_o_choice, .inl (cy 1, 200, .inl o_choice)), (a_p1, .inr (7, [.ref a_p1_bytes, .int p1_length])), (a_p1_bytes, .inl (cy 0, n_p1_bytes, .inl p1_bytes)), (a_p2, .inr (7, [.ref a_p2_bytes, .int p2_length])), (a_p2_bytes, .inl (cy 0, n_p2_bytes, .inl p2_bytes))]) (perm_idx [6, 7, 1, 0, 2, 3, 4, 5, 8, 9] rfl rfl) (fun u => perm_idx [3, 2, 4, 5, 6, 7, 0, 1, 8, 9] rfl rfl) rfl rfl rfl rfl (Nat.le_of_ble_eq_true rfl) dX3_measure_23 ⟨by decide, by decide⟩ (fun r3 u h => ?_)
  obtain ⟨s4, rfl⟩ : ∃ z, z = u := ⟨_, rfl⟩
  refine go_aload_n X dX3_measure_26 0 rfl rfl ?_
  refine go_get X fi_X3_measure_X3 0 rfl rfl 5 (by decide) fl_X3_measure_34 rfl dX3_measure_27 ?_
  refine go_isub X dX3_measure_30 ?_
  refine go_sipush X (v := 200) dX3_measure_31 (by decide) ?_
  refine go_mmin X fw_X3_measure_min0 fw_X3_measure_min1 fw_X3_measure_min2 fw_X3_measure_min3 (by decide) (Nat.le_of_ble_eq_true rfl) (by decide) dX3_measure_34 ?_
  refine go_topi (fun y5 ey5 => ?_)
  replace h := h y5 ey5
  refine go_put X (ws' := [(a_o, .inr (6, [.ref a_o_joined, .ref a_o_earlier, .ref a_o_latest, .ref a_o_cost, .ref a_o_choice, .int r1, .int y5])), (a_o_joined, .inl (cy 0, 280, .inl s4)), (a_o_earlier, .inl (cy 1, 280, .inl o_earlier)), (a_o_latest, .inl (cy 1, 256, .inl o_latest)), (a_o_cost, .inl (cy 1, 201, .inl o_cost)), (a_o_choice, .inl (cy 1, 200, .inl o_choice)), (a_p1, .inr (7, [.ref a_p1_bytes, .int p1_length])), (a_p1_bytes, .inl (cy 0, n_p1_bytes, .inl p1_bytes)), (a_p2, .inr (7, [.ref a_p2_bytes, .int p2_length])), (a_p2_bytes, .inl (cy 0, n_p2_bytes, .inl p2_bytes))]) fi_X3_measure_X3 tyX3 tyX3_ok nmX3 0 rfl rfl 6 (by decide) fl_X3_measure_44 rfl (tyX3_ok 6 (by decide)) rfl rfl (Nat.le_of_ble_eq_true rfl) rfl dX3_measure_37 ?_
  refine go_aload_n X dX3_measure_40 0 rfl rfl ?_
  refine go_callVv X (kX3_linkSameBytes l D cy a_o a_o_joined a_o_earlier a_o_latest a_o_cost a_o_choice r1 y5 s4 o_earlier o_latest _ h) (cwV 0 X.2.2.2.2.1 gX3_measure_X3_linkSameBytes rfl rfl rfl cd_X3_linkSameBytes ⟨by decide, by decide⟩) (wr := [(a_o_cost, .inl (cy 1, 201, .inl o_cost)), (a_o_choice, .inl (cy 1, 200, .inl o_choice)), (a_p1, .inr (7, [.ref a_p1_bytes, .int p1_length])), (a_p1_bytes, .inl (cy 0, n_p1_bytes, .inl p1_bytes)), (a_p2, .inr (7, [.ref a_p2_bytes, .int p2_length])), (a_p2_bytes, .inl (cy 0, n_p2_bytes, .inl p2_bytes))]) (ws2 := fun u => [(a_o, .inr (6, [.ref a_o_joined, .ref a_o_earlier, .ref a_o_latest, .ref a_o_cost, .ref a_o_choice, .int r1, .int y5])), (a_o_joined, .inl (cy 0, 280, .inl s4)), (a_o_earlier, .inl (cy 1, 280, .inl u.1)), (a_o_latest, .inl (cy 1, 256, .inl u.2)), (a_o_cost, .inl (cy 1, 201, .inl o_cost)), (a_o_choice, .inl (cy 1, 200, .inl o_choice)), (a_p1, .inr (7, [.ref a_p1_bytes, .int p1_length])), (a_p1_bytes, .inl (cy 0, n_p1_bytes, .inl p1_bytes)), (a_p2, .inr (7, [.ref a_p2_bytes, .int p2_length])), (a_p2_bytes, .inl (cy 0, n_p2_bytes, .inl p2_bytes))]) (perm_idx [0, 1, 2, 3, 4, 5, 6, 7, 8, 9] rfl rfl) (fun u => perm_idx [0, 1, 2, 3, 4, 5, 6, 7, 8, 9] rfl rfl) rfl rfl rfl rfl (Nat.le_of_ble_eq_true rfl) dX3_measure_41 ⟨by decide, by decide⟩ (fun u h => ?_)
  obtain ⟨s6, s7⟩ := u
  refine go_aload_n X dX3_measure_44 0 rfl rfl ?_
  refine go_get X fi_X3_measure_X3 0 rfl rfl 3 (by decide) fl_X3_measure_22 rfl dX3_measure_45 ?_
  refine go_aload_n X dX3_measure_48 0 rfl rfl ?_
  refine go_get X fi_X3_measure_X3 0 rfl rfl 6 (by decide) fl_X3_measure_44 rfl dX3_measure_49 ?_
  refine go_iconst X (v := 0) dX3_measure_52 (by decide) ?_
  obtain ⟨c8, h⟩ := h
  refine go_iast X [(a_o, .inr (6, [.ref a_o_joined, .ref a_o_earlier, .ref a_o_latest, .ref a_o_cost, .ref a_o_choice, .int r1, .int y5])), (a_o_joined, .inl (cy 0, 280, .inl s4)), (a_o_earlier, .inl (cy 1, 280, .inl s6)), (a_o_latest, .inl (cy 1, 256, .inl s7)), (a_o_cost, .inl (cy 1, 201, .inl (upd o_cost y5.toNatClampNeg 0))), (a_o_choice, .inl (cy 1, 200, .inl o_choice)), (a_p1, .inr (7, [.ref a_p1_bytes, .int p1_length])), (a_p1_bytes, .inl (cy 0, n_p1_bytes, .inl p1_bytes)), (a_p2, .inr (7, [.ref a_p2_bytes, .int p2_length])), (a_p2_bytes, .inl (cy 0, n_p2_bytes, .inl p2_bytes))] 4 1 rfl rfl c8 rfl dX3_measure_53 ?_
  refine go_aload_n X dX3_measure_54 0 rfl rfl ?_
  refine go_get X fi_X3_measure_X3 0 rfl rfl 6 (by decide) fl_X3_measure_44 rfl dX3_measure_55 ?_
  refine go_iconst X (v := 1) dX3_measure_58 (by decide) ?_
  refine go_isub X dX3_measure_59 ?_
  refine go_topi (fun y9 ey9 => ?_)
  replace h := h y9 ey9
  refine go_istore_n X (lv' := [(3, .int y9), (0, .ref a_o), (1, .ref a_p1), (2, .ref a_p2)]) dX3_measure_60 rfl (by decide) rfl ?_
  obtain ⟨n21, h⟩ := h
  refine go_lv [1, 0] rfl ?_
  refine pX3_measure_61 l X a_o a_o_joined a_o_earlier a_o_latest a_o_cost a_o_choice a_p1 a_p1_bytes n_p1_bytes a_p2 a_p2_bytes n_p2_bytes r1 y5 s4 s6 s7 p1_length p1_bytes p2_length p2_bytes  _ (fun s10 s11 y12 h => ?_) n21 (upd o_cost y5.toNatClampNeg 0) o_choice y9 h
  refine go_iconst X (v := 4) dX3_measure_89 (by decide) ?_
  refine go_aload_n X dX3_measure_90 0 rfl rfl ?_
  refine go_get X fi_X3_measure_X3 0 rfl rfl 3 (by decide) fl_X3_measure_22 rfl dX3_measure_91 ?_
  refine go_iconst X (v := 0) dX3_measure_94 (by decide) ?_
  obtain ⟨c20, h⟩ := h
  refine go_iald X 4 1 rfl rfl c20 dX3_measure_95 ?_
  refine go_iadd X dX3_measure_96 ?_
  exact hR (4 + (s10 (0 : Int32).toNatClampNeg)) (r1, y5, s4, s6, s7, s10, s11) 97 _ dX3_measure_97 rfl h
