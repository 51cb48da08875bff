/-! X5_coverFrom -/
theorem fi_X5_coverFrom_X5 : ∀ w ∈ u_ws RX5 TX5 8, w ∈ wsX5_coverFrom := by decide +kernel
theorem fl_X5_coverFrom_20 : Cond.fieldLink RX5 20 (TX5 1).1 (TX5 1).2.1 (TX5 1).2.2.1 ∈ wsX5_coverFrom := by decide +kernel
def rm_X5_coverFrom : Room := { frames := 0, cells := 0, slots := 0, locals := 0 }
theorem cd_X5_coverFrom : yX5_coverFrom.cls = RX5 ∧ yX5_coverFrom.cls ≠ "java/lang/invoke/MethodHandle" ∧ yX5_coverFrom.cls ≠ "java/lang/invoke/VarHandle" ∧ (parseMethodDescriptor yX5_coverFrom.desc).map (fun d => d.parameters.length) = some 3 := by decide +kernel
set_option maxRecDepth 100000 in
set_option maxHeartbeats 4000000 in
theorem pX5_coverFrom_3 {p : Program} (l : Launch) {e : Env} {s : State} {m : MethodId} {args : Array Value} {below : List Frame} {meth : Method} {c : Code} {Q : State → Prop} {D : va_G} {cy : Nat → ClassId} {A : Nat → Prop} (X : Cx p s m args c cX5_coverFrom 5 RX5 wsX5_coverFrom D (tyL cy) A) (a_o : Nat) (a_o_places : Nat) (a_o_covered : Nat) (a_o_kind : Nat) (a_o_count : Nat) (a_o_freeFrom : Nat) (a_o_taken : Nat) (o_takenCount : Int32) (o_n : Int32) (v2 : Int32) (v3 : Int32) (K : (Nat → Int32) → Int32 → Prop) (hK : ∀ (o_covered : Nat → Int32) (v4 : Int32), K o_covered v4 → Go p l e rm_X5_coverFrom s m args below meth c Q 5 D A [(a_o, .inr (8, [.ref a_o_places, .ref a_o_covered, .ref a_o_kind, .ref a_o_count, .ref a_o_freeFrom, .ref a_o_taken, .int o_takenCount, .int o_n])), (a_o_covered, .inl (cy 2, 320, .inl o_covered))] 0 0 31 [] []) :
    ∀ (n : Nat) (o_covered : Nat → Int32) (v4 : Int32), wX5_coverFrom_3 v2 v3 K n o_covered v4 → Go p l e rm_X5_coverFrom s m args below meth c Q 5 D A [(a_o, .inr (8, [.ref a_o_places, .ref a_o_covered, .ref a_o_kind, .ref a_o_count, .ref a_o_freeFrom, .ref a_o_taken, .int o_takenCount, .int o_n])), (a_o_covered, .inl (cy 2, 320, .inl o_covered))] 0 0 3 [(0, .ref a_o), (2, .int v2), (3, .int v3), (4, .int v4)] [] := by
  intro n
  induction n with
  | zero => intro o_covered v4 h; exact absurd h id
  | succ n ih =>
    intro o_covered v4 h
    refine go_iload X dX5_coverFrom_3 3 rfl ?_
    refine go_iload_n X dX5_coverFrom_5 1 rfl rfl ?_
    refine go_icmp_ge X 31 dX5_coverFrom_6 (by decide) (fun c3 => ?_) (fun c3 => ?_)
    · replace h := h.1 c3
      refine go_lv [] rfl ?_
      exact hK o_covered v4 h
    · replace h := h.2 c3
      refine go_iload X dX5_coverFrom_9 3 rfl ?_
      refine go_sipush X (v := 320) dX5_coverFrom_11 (by decide) ?_
      refine go_icmp_ge X 31 dX5_coverFrom_14 (by decide) (fun c4 => ?_) (fun c4 => ?_)
      · replace h := h.1 c4
        refine go_lv [] rfl ?_
        exact hK o_covered v4 h
      · replace h := h.2 c4
        refine go_aload_n X dX5_coverFrom_17 0 rfl rfl ?_
        refine go_get X fi_X5_coverFrom_X5 0 rfl rfl 1 (by decide) fl_X5_coverFrom_20 rfl dX5_coverFrom_18 ?_
        refine go_iload X dX5_coverFrom_21 3 rfl ?_
        refine go_iload_n X dX5_coverFrom_23 2 rfl rfl ?_
        obtain ⟨c5, h⟩ := h
        refine go_zast X [(a_o, .inr (8, [.ref a_o_places, .ref a_o_covered, .ref a_o_kind, .ref a_o_count, .ref a_o_freeFrom, .ref a_o_taken, .int o_takenCount, .int o_n])), (a_o_covered, .inl (cy 2, 320, .inl (upd o_covered v4.toNatClampNeg (vp_nar .boolean v3))))] 1 2 rfl rfl c5 rfl dX5_coverFrom_24 ?_
        obtain ⟨y6, ey6⟩ : ∃ z : Int32, z = v4 + 1 := ⟨_, rfl⟩
        replace h := h y6 ey6
        refine go_iinc X (lv' := [(4, .int y6), (0, .ref a_o), (2, .int v2), (3, .int v3)]) y6 dX5_coverFrom_25 3 rfl (by rw [ey6]; rfl) (by decide) rfl ?_
        refine go_goto X 3 dX5_coverFrom_28 (by decide) ?_
        refine go_lv [1, 2, 3, 0] rfl ?_
        exact ih (upd o_covered v4.toNatClampNeg (vp_nar .boolean v3)) y6 h
set_option maxRecDepth 100000 in
set_option maxHeartbeats 4000000 in
theorem kX5_coverFrom (l : Launch) (D : va_G) (cy : Nat → ClassId) (a_o : Nat) (a_o_places : Nat) (a_o_covered : Nat) (a_o_kind : Nat) (a_o_count : Nat) (a_o_freeFrom : Nat) (a_o_taken : Nat) (o_takenCount : Int32) (o_n : Int32) (o_covered : Nat → Int32) (p1 : Int32) (p2 : Int32) (p3 : Int32) (post : (Nat → Int32) → Prop) (h : wX5_coverFrom o_covered p1 p2 p3 post) : MetV l yX5_coverFrom wsX5_coverFrom rm_X5_coverFrom D (tyL cy) [.ref a_o, .int p1, .int p2, .int p3] [(a_o, .inr (8, [.ref a_o_places, .ref a_o_covered, .ref a_o_kind, .ref a_o_count, .ref a_o_freeFrom, .ref a_o_taken, .int o_takenCount, .int o_n])), (a_o_covered, .inl (cy 2, 320, .inl o_covered))] (fun u : (Nat → Int32) => [(a_o, .inr (8, [.ref a_o_places, .ref a_o_covered, .ref a_o_kind, .ref a_o_count, .ref a_o_freeFrom, .ref a_o_taken, .int o_takenCount, .int o_n])), (a_o_covered, .inl (cy 2, 320, .inl u))]) (fun (u : (Nat → Int32)) => post u) 0 0 := by
  refine metV_of (cc := cX5_coverFrom) (maxL := 5) (lv := [(0, .ref a_o), (1, .int p1), (2, .int p2), (3, .int p3)]) (by decide) rfl (Nat.le_of_ble_eq_true rfl) rfl ?_
  intro p e s m below meth c Q A X hlk hnm hR
  unfold wX5_coverFrom at h
  refine go_iload_n X dX5_coverFrom_0 1 rfl rfl ?_
  refine go_istore X (lv' := [(4, .int p1), (0, .ref a_o), (1, .int p1), (2, .int p2), (3, .int p3)]) dX5_coverFrom_1 (by decide) rfl ?_
  obtain ⟨n7, h⟩ := h
  refine go_lv [1, 3, 4, 0] rfl ?_
  refine pX5_coverFrom_3 l X a_o a_o_places a_o_covered a_o_kind a_o_count a_o_freeFrom a_o_taken o_takenCount o_n p2 p3  _ (fun s1 y2 h => ?_) n7 o_covered p1 h
  exact hR s1 31 _ dX5_coverFrom_31 h
/-! X5_isFreeRow -/
theorem fi_X5_isFreeRow_X5 : ∀ w ∈ u_ws RX5 TX5 8, w ∈ wsX5_isFreeRow := by decide +kernel
theorem fl_X5_isFreeRow_24 : Cond.fieldLink RX5 24 (TX5 2).1 (TX5 2).2.1 (TX5 2).2.2.1 ∈ wsX5_isFreeRow := by decide +kernel
theorem fl_X5_isFreeRow_37 : Cond.fieldLink RX5 37 (TX5 7).1 (TX5 7).2.1 (TX5 7).2.2.1 ∈ wsX5_isFreeRow := by decide +kernel
theorem fl_X5_isFreeRow_20 : Cond.fieldLink RX5 20 (TX5 1).1 (TX5 1).2.1 (TX5 1).2.2.1 ∈ wsX5_isFreeRow := by decide +kernel
def rm_X5_isFreeRow : Room := { frames := 0, cells := 0, slots := 0, locals := 0 }
theorem cd_X5_isFreeRow : yX5_isFreeRow.cls = RX5 ∧ yX5_isFreeRow.cls ≠ "java/lang/invoke/MethodHandle" ∧ yX5_isFreeRow.cls ≠ "java/lang/invoke/VarHandle" ∧ (parseMethodDescriptor yX5_isFreeRow.desc).map (fun d => d.parameters.length) = some 1 := by decide +kernel
set_option maxRecDepth 100000 in
set_option maxHeartbeats 4000000 in
theorem pX5_isFreeRow_14 {p : Program} (l : Launch) {e : Env} {s : State} {m : MethodId} {args : Array Value} {below : List Frame} {meth : Method} {c : Code} {Q : State → Prop} {D : va_G} {cy : Nat → ClassId} {A : Nat → Prop} (X : Cx p s m args c cX5_isFreeRow 3 RX5 wsX5_isFreeRow D (tyL cy) A) (a_o : Nat) (a_o_places : Nat) (a_o_covered : Nat) (a_o_kind : Nat) (a_o_count : Nat) (a_o_freeFrom : Nat) (a_o_taken : Nat) (o_takenCount : Int32) (o_n : Int32) (o_covered : Nat → Int32) (o_kind : Nat → Int32) (v1 : Int32) (post : Int32 → Prop) (hR : RtI p l e rm_X5_isFreeRow s m args below meth c cX5_isFreeRow Q 3 D A .boolean (fun u : Unit => [(a_o, .inr (8, [.ref a_o_places, .ref a_o_covered, .ref a_o_kind, .ref a_o_count, .ref a_o_freeFrom, .ref a_o_taken, .int o_takenCount, .int o_n])), (a_o_covered, .inl (cy 2, 320, .inl o_covered)), (a_o_kind, .inl (cy 1, 320, .inl o_kind))]) (fun r => fun (u : Unit) => post r ) 0 0) (K : Int32 → Prop) (hK : ∀ (v2 : Int32), K v2 → Go p l e rm_X5_isFreeRow s m args below meth c Q 3 D A [(a_o, .inr (8, [.ref a_o_places, .ref a_o_covered, .ref a_o_kind, .ref a_o_count, .ref a_o_freeFrom, .ref a_o_taken, .int o_takenCount, .int o_n])), (a_o_covered, .inl (cy 2, 320, .inl o_covered)), (a_o_kind, .inl (cy 1, 320, .inl o_kind))] 0 0 48 [] []) :
    ∀ (n : Nat) (v2 : Int32), wX5_isFreeRow_14 o_n o_covered v1 post K n v2 → Go p l e rm_X5_isFreeRow s m args below meth c Q 3 D A [(a_o, .inr (8, [.ref a_o_places, .ref a_o_covered, .ref a_o_kind, .ref a_o_count, .ref a_o_freeFrom, .ref a_o_taken, .int o_takenCount, .int o_n])), (a_o_covered, .inl (cy 2, 320, .inl o_covered)), (a_o_kind, .inl (cy 1, 320, .inl o_kind))] 0 0 14 [(0, .ref a_o), (1, .int v1), (2, .int v2)] [] := by
  intro n
  induction n with
  | zero => intro v2 h; exact absurd h id
  | succ n ih =>
    intro v2 h
    refine go_iload_n X dX5_isFreeRow_14 2 rfl rfl ?_
    refine go_iload_n X dX5_isFreeRow_15 1 rfl rfl ?_
    refine go_aload_n X dX5_isFreeRow_16 0 rfl rfl ?_
    refine go_get X fi_X5_isFreeRow_X5 0 rfl rfl 7 (by decide) fl_X5_isFreeRow_37 rfl dX5_isFreeRow_17 ?_
    refine go_iadd X dX5_isFreeRow_20 ?_
    refine go_icmp_ge X 48 dX5_isFreeRow_21 (by decide) (fun c4 => ?_) (fun c4 => ?_)
    · replace h := h.1 c4
      refine go_lv [] rfl ?_
      exact hK v2 h
    · replace h := h.2 c4
      refine go_iload_n X dX5_isFreeRow_24 2 rfl rfl ?_
      refine go_sipush X (v := 320) dX5_isFreeRow_25 (by decide) ?_
      refine go_icmp_ge X 48 dX5_isFreeRow_28 (by decide) (fun c5 => ?_) (fun c5 => ?_)
      · replace h := h.1 c5
        refine go_lv [] rfl ?_
        exact hK v2 h
      · replace h := h.2 c5
        refine go_aload_n X dX5_isFreeRow_31 0 rfl rfl ?_
        refine go_get X fi_X5_isFreeRow_X5 0 rfl rfl 1 (by decide) fl_X5_isFreeRow_20 rfl dX5_isFreeRow_32 ?_
        refine go_iload_n X dX5_isFreeRow_35 2 rfl rfl ?_
        obtain ⟨c6, h⟩ := h
        refine go_zald X 1 2 rfl rfl c6 dX5_isFreeRow_36 ?_
        refine go_if_eq X 42 dX5_isFreeRow_37 (by decide) (fun c7 => ?_) (fun c7 => ?_)
        · replace h := h.1 c7
          obtain ⟨y8, ey8⟩ : ∃ z : Int32, z = v2 + 1 := ⟨_, rfl⟩
          replace h := h y8 ey8
          refine go_iinc X (lv' := [(2, .int y8), (0, .ref a_o), (1, .int v1)]) y8 dX5_isFreeRow_42 2 rfl (by rw [ey8]; rfl) (by decide) rfl ?_
          refine go_goto X 14 dX5_isFreeRow_45 (by decide) ?_
          refine go_lv [1, 2, 0] rfl ?_
          exact ih y8 h
        · replace h := h.2 c7
          refine go_iconst X (v := 0) dX5_isFreeRow_40 (by decide) ?_
          exact hR 0 () 41 _ dX5_isFreeRow_41 rfl h
set_option maxRecDepth 100000 in
set_option maxHeartbeats 4000000 in
theorem kX5_isFreeRow (l : Launch) (D : va_G) (cy : Nat → ClassId) (a_o : Nat) (a_o_places : Nat) (a_o_covered : Nat) (a_o_kind : Nat) (a_o_count : Nat) (a_o_freeFrom : Nat) (a_o_taken : Nat) (o_takenCount : Int32) (o_n : Int32) (o_covered : Nat → Int32) (o_kind : Nat → Int32) (p1 : Int32) (post : Int32 → Prop) (h : wX5_isFreeRow o_n o_covered o_kind p1 post) : MetI l yX5_isFreeRow wsX5_isFreeRow rm_X5_isFreeRow D (tyL cy) [.ref a_o, .int p1] [(a_o, .inr (8, [.ref a_o_places, .ref a_o_covered, .ref a_o_kind, .ref a_o_count, .ref a_o_freeFrom, .ref a_o_taken, .int o_takenCount, .int o_n])), (a_o_covered, .inl (cy 2, 320, .inl o_covered)), (a_o_kind, .inl (cy 1, 320, .inl o_kind))] (fun u : Unit => [(a_o, .inr (8, [.ref a_o_places, .ref a_o_covered, .ref a_o_kind, .ref a_o_count, .ref a_o_freeFrom, .ref a_o_taken, .int o_takenCount, .int o_n])), (a_o_covered, .inl (cy 2, 320, .inl o_covered)), (a_o_kind, .inl (cy 1, 320, .inl o_kind))]) (fun r => fun (u : Unit) => post r ) 0 0 := by
  refine metI_of (cc := cX5_isFreeRow) (maxL := 3) (lv := [(0, .ref a_o), (1, .int p1)]) (by decide) rfl (Nat.le_of_ble_eq_true rfl) rfl ?_
  intro p e s m below meth c Q A X hlk hR
  unfold wX5_isFreeRow at h
  refine go_aload_n X dX5_isFreeRow_0 0 rfl rfl ?_
  refine go_get X fi_X5_isFreeRow_X5 0 rfl rfl 2 (by decide) fl_X5_isFreeRow_24 rfl dX5_isFreeRow_1 ?_
  refine go_iload_n X dX5_isFreeRow_4 1 rfl rfl ?_
  obtain ⟨c1, h⟩ := h
  refine go_iald X 2 1 rfl rfl c1 dX5_isFreeRow_5 ?_
  refine go_iconst X (v := (-1)) dX5_isFreeRow_6 (by decide) ?_
  refine go_icmp_ne X 12 dX5_isFreeRow_7 (by decide) (fun c2 => ?_) (fun c2 => ?_)
  · replace h := h.1 c2
    refine go_iload_n X dX5_isFreeRow_12 1 rfl rfl ?_
    refine go_istore_n X (lv' := [(2, .int p1), (0, .ref a_o), (1, .int p1)]) dX5_isFreeRow_13 rfl (by decide) rfl ?_
    obtain ⟨n9, h⟩ := h
    refine go_lv [1, 2, 0] rfl ?_
    refine pX5_isFreeRow_14 l X a_o a_o_places a_o_covered a_o_kind a_o_count a_o_freeFrom a_o_taken o_takenCount o_n o_covered o_kind p1 post hR _ (fun y3 h => ?_) n9 p1 h
    refine go_iconst X (v := 1) dX5_isFreeRow_48 (by decide) ?_
    exact hR 1 () 49 _ dX5_isFreeRow_49 rfl h
  · replace h := h.2 c2
    refine go_iconst X (v := 0) dX5_isFreeRow_10 (by decide) ?_
    exact hR 0 () 11 _ dX5_isFreeRow_11 rfl h
/-! X5_isSameRow -/
theorem fi_X5_isSameRow_X5 : ∀ w ∈ u_ws RX5 TX5 8, w ∈ wsX5_isSameRow := by decide +kernel
theorem fl_X5_isSameRow_37 : Cond.fieldLink RX5 37 (TX5 7).1 (TX5 7).2.1 (TX5 7).2.2.1 ∈ wsX5_isSameRow := by decide +kernel
theorem fl_X5_isSameRow_16 : Cond.fieldLink RX5 16 (TX5 0).1 (TX5 0).2.1 (TX5 0).2.2.1 ∈ wsX5_isSameRow := by decide +kernel
def rm_X5_isSameRow : Room := { frames := 2, cells := 0, slots := 0, locals := 42 }
theorem cd_X5_isSameRow : yX5_isSameRow.cls = RX5 ∧ yX5_isSameRow.cls ≠ "java/lang/invoke/MethodHandle" ∧ yX5_isSameRow.cls ≠ "java/lang/invoke/VarHandle" ∧ (parseMethodDescriptor yX5_isSameRow.desc).map (fun d => d.parameters.length) = some 2 := by decide +kernel
set_option maxRecDepth 100000 in
set_option maxHeartbeats 4000000 in
theorem pX5_isSameRow_2 {p : Program} (l : Launch) {e : Env} {s : State} {m : MethodId} {args : Array Value} {below : List Frame} {meth : Method} {c : Code} {Q : State → Prop} {D : va_G} {cy : Nat → ClassId} {A : Nat → Prop} (X : Cx p s m args c cX5_isSameRow 4 RX5 wsX5_isSameRow D (tyL cy) A) (a_o : Nat) (a_o_places : Nat) (a_o_covered : Nat) (a_o_kind : Nat) (a_o_count : Nat) (a_o_freeFrom : Nat) (a_o_taken : Nat) (a_o_places_bytes : Nat) (n_o_places_bytes : Nat) (o_takenCount : Int32) (o_n : Int32) (o_places_length : Int32) (o_places_bytes : Nat → Int32) (v1 : Int32) (v2 : Int32) (post : Int32 → Prop) (hR : RtI p l e rm_X5_isSameRow s m args below meth c cX5_isSameRow Q 4 D A .boolean (fun u : Unit => [(a_o, .inr (8, [.ref a_o_places, .ref a_o_covered, .ref a_o_kind, .ref a_o_count, .ref a_o_freeFrom, .ref a_o_taken, .int o_takenCount, .int o_n])), (a_o_places, .inr (7, [.ref a_o_places_bytes, .int o_places_length])), (a_o_places_bytes, .inl (cy 0, n_o_places_bytes, .inl o_places_bytes))]) (fun r => fun (u : Unit) => post r ) 0 0) (K : Int32 → Prop) (hK : ∀ (v3 : Int32), K v3 → Go p l e rm_X5_isSameRow s m args below meth c Q 4 D A [(a_o, .inr (8, [.ref a_o_places, .ref a_o_covered, .ref a_o_kind, .ref a_o_count, .ref a_o_freeFrom, .ref a_o_taken, .int o_takenCount, .int o_n])), (a_o_places, .inr (7, [.ref a_o_places_bytes, .int o_places_length])), (a_o_places_bytes, .inl (cy 0, n_o_places_bytes, .inl o_places_bytes))] 0 0 41 [] []) :
    ∀ (n : Nat) (v3 : Int32), wX5_isSameRow_2 n_o_places_bytes o_n o_places_length o_places_bytes v1 v2 post K n v3 → Go p l e rm_X5_isSameRow s m args below meth c Q 4 D A [(a_o, .inr (8, [.ref a_o_places, .ref a_o_covered, .ref a_o_kind, .ref a_o_count, .ref a_o_freeFrom, .ref a_o_taken, .int o_takenCount, .int o_n])), (a_o_places, .inr (7, [.ref a_o_places_bytes, .int o_places_length])), (a_o_places_bytes, .inl (cy 0, n_o_places_bytes, .inl o_places_bytes))] 0 0 2 [(0, .ref a_o), (1, .int v1), (2, .int v2), (3, .int v3)] [] := by
  intro n
  induction n with
  | zero => intro v3 h; exact absurd h id
  | succ n ih =>
    intro v3 h
    refine go_iload_n X dX5_isSameRow_2 3 rfl rfl ?_
    refine go_aload_n X dX5_isSameRow_3 0 rfl rfl ?_
    refine go_get X fi_X5_isSameRow_X5 0 rfl rfl 7 (by decide) fl_X5_isSameRow_37 rfl dX5_isSameRow_4 ?_
    refine go_icmp_ge X 41 dX5_isSameRow_7 (by decide) (fun c2 => ?_) (fun c2 => ?_)
    · replace h := h.1 c2
      refine go_lv [] rfl ?_
      exact hK v3 h
    · replace h := h.2 c2
      refine go_aload_n X dX5_isSameRow_10 0 rfl rfl ?_
      refine go_get X fi_X5_isSameRow_X5 0 rfl rfl 0 (by decide) fl_X5_isSameRow_16 rfl dX5_isSameRow_11 ?_
      refine go_iload_n X dX5_isSameRow_14 1 rfl rfl ?_
      refine go_iload_n X dX5_isSameRow_15 3 rfl rfl ?_
      refine go_iadd X dX5_isSameRow_16 ?_
      refine go_callVi X (kX4_signedAt l D cy a_o_places a_o_places_bytes n_o_places_bytes o_places_length o_places_bytes (v1 + v3) _ h) (cwV 1 X.2.2.2.2.1 gX5_isSameRow_X4_signedAt rfl rfl rfl cd_X4_signedAt ⟨by decide, by decide⟩) (wr := [(a_o, .inr (8, [.ref a_o_places, .ref a_o_covered, .ref a_o_kind, .ref a_o_count, .ref a_o_freeFrom, .ref a_o_taken, .int o_takenCount, .int o_n]))]) (ws2 := fun u => [(a_o, .inr (8, [.ref a_o_places, .ref a_o_covered, .ref a_o_kind, .ref a_o_count, .ref a_o_freeFrom, .ref a_o_taken, .int o_takenCount, .int o_n])), (a_o_places, .inr (7, [.ref a_o_places_bytes, .int o_places_length])), (a_o_places_bytes, .inl (cy 0, n_o_places_bytes, .inl o_places_bytes))]) (perm_idx [1, 2, 0] rfl rfl) (fun u => perm_idx [2, 0, 1] rfl rfl) rfl rfl rfl rfl (Nat.le_of_ble_eq_true rfl) dX5_isSameRow_17 ⟨by decide, by decide⟩ (fun r3 u h => ?_)
      refine go_aload_n X dX5_isSameRow_20 0 rfl rfl ?_
      refine go_get X fi_X5_isSameRow_X5 0 rfl rfl 0 (by decide) fl_X5_isSameRow_16 rfl dX5_isSameRow_21 ?_
      refine go_iload_n X dX5_isSameRow_24 2 rfl rfl ?_
      refine go_iload_n X dX5_isSameRow_25 3 rfl rfl ?_
      refine go_iadd X dX5_isSameRow_26 ?_
      refine go_callVi X (kX4_signedAt l D cy a_o_places a_o_places_bytes n_o_places_bytes o_places_length o_places_bytes (v2 + v3) _ h) (cwV 1 X.2.2.2.2.1 gX5_isSameRow_X4_signedAt rfl rfl rfl cd_X4_signedAt ⟨by decide, by decide⟩) (wr := [(a_o, .inr (8, [.ref a_o_places, .ref a_o_covered, .ref a_o_kind, .ref a_o_count, .ref a_o_freeFrom, .ref a_o_taken, .int o_takenCount, .int o_n]))]) (ws2 := fun u => [(a_o, .inr (8, [.ref a_o_places, .ref a_o_covered, .ref a_o_kind, .ref a_o_count, .ref a_o_freeFrom, .ref a_o_taken, .int o_takenCount, .int o_n])), (a_o_places, .inr (7, [.ref a_o_places_bytes, .int o_places_length])), (a_o_places_bytes, .inl (cy 0, n_o_places_bytes, .inl o_places_bytes))]) (perm_idx [1, 2, 0] rfl rfl) (fun u => perm_idx [2, 0, 1] rfl rfl) rfl rfl rfl rfl (Nat.le_of_ble_eq_true rfl) dX5_isSameRow_27 ⟨by decide, by decide⟩ (fun r4 u h => ?_)
      refine go_icmp_eq X 35 dX5_isSameRow_30 (by decide) (fun c5 => ?_) (fun c5 => ?_)
      · replace h := h.1 c5
        obtain ⟨y6, ey6⟩ : ∃ z : Int32, z = v3 + 1 := ⟨_, rfl⟩
        replace h := h y6 ey6
        refine go_iinc X (lv' := [(3, .int y6), (0, .ref a_o), (1, .int v1), (2, .int v2)]) y6 dX5_isSameRow_35 3 rfl (by rw [ey6]; rfl) (by decide) rfl ?_
        refine go_goto X 2 dX5_isSameRow_38 (by decide) ?_
        refine go_lv [1, 2, 3, 0] rfl ?_
        exact ih y6 h
      · replace h := h.2 c5
        refine go_iconst X (v := 0) dX5_isSameRow_33 (by decide) ?_
        exact hR 0 () 34 _ dX5_isSameRow_34 rfl h
set_option maxRecDepth 100000 in
set_option maxHeartbeats 4000000 in
theorem kX5_isSameRow (l : Launch) (D : va_G) (cy : Nat → ClassId) (a_o : Nat) (a_o_places : Nat) (a_o_covered : Nat) (a_o_kind : Nat) (a_o_count : Nat) (a_o_freeFrom : Nat) (a_o_taken : Nat) (a_o_places_bytes : Nat) (n_o_places_bytes : Nat) (o_takenCount : Int32) (o_n : Int32) (o_places_length : Int32) (o_places_bytes : Nat → Int32) (p1 : Int32) (p2 : Int32) (post : Int32 → Prop) (h : wX5_isSameRow n_o_places_bytes o_n o_places_length o_places_bytes p1 p2 post) : MetI l yX5_isSameRow wsX5_isSameRow rm_X5_isSameRow D (tyL cy) [.ref a_o, .int p1, .int p2] [(a_o, .inr (8, [.ref a_o_places, .ref a_o_covered, .ref a_o_kind, .ref a_o_count, .ref a_o_freeFrom, .ref a_o_taken, .int o_takenCount, .int o_n])), (a_o_places, .inr (7, [.ref a_o_places_bytes, .int o_places_length])), (a_o_places_bytes, .inl (cy 0, n_o_places_bytes, .inl o_places_bytes))] (fun u : Unit => [(a_o, .inr (8, [.ref a_o_places, .ref a_o_covered, .ref a_o_kind, .ref a_o_count, .ref a_o_freeFrom, .ref a_o_taken, .int o_takenCount, .int o_n])), (a_o_places, .inr (7, [.ref a_o_places_bytes, .int o_places_length])), (a_o_places_bytes, .inl (cy 0, n_o_places_bytes, .inl o_places_bytes))]) (fun r => fun (u : Unit) => post r ) 0 0 := by
  refine metI_of (cc := cX5_isSameRow) (maxL := 4) (lv := [(0, .ref a_o), (1, .int p1), (2, .int p2)]) (by decide) rfl (Nat.le_of_ble_eq_true rfl) rfl ?_
  intro p e s m below meth c Q A X hlk hR
  unfold wX5_isSameRow at h
  refine go_iconst X (v := 0) dX5_isSameRow_0 (by decide) ?_
  refine go_istore_n X (lv' := [(3, .int 0), (0, .ref a_o), (1, .int p1), (2, .int p2)]) dX5_isSameRow_1 rfl (by decide) rfl ?_
  obtain ⟨n7, h⟩ := h
  refine go_lv [1, 2, 3, 0] rfl ?_
  refine pX5_isSameRow_2 l X a_o a_o_places a_o_covered a_o_kind a_o_count a_o_freeFrom a_o_taken a_o_places_bytes n_o_places_bytes o_takenCount o_n o_places_length o_places_bytes p1 p2 post hR _ (fun y1 h => ?_) n7 (0 : Int32) h
  refine go_iconst X (v := 1) dX5_isSameRow_41 (by decide) ?_
  exact hR 1 () 42 _ dX5_isSameRow_42 rfl h
/-! X5_firstSameRow -/
theorem fi_X5_firstSameRow_X5 : ∀ w ∈ u_ws RX5 TX5 8, w ∈ wsX5_firstSameRow := by decide +kernel
theorem fl_X5_firstSameRow_24 : Cond.fieldLink RX5 24 (TX5 2).1 (TX5 2).2.1 (TX5 2).2.2.1 ∈ wsX5_firstSameRow := by decide +kernel
def rm_X5_firstSameRow : Room := { frames := 3, cells := 0, slots := 0, locals := 65 }
theorem cd_X5_firstSameRow : yX5_firstSameRow.cls = RX5 ∧ yX5_firstSameRow.cls ≠ "java/lang/invoke/MethodHandle" ∧ yX5_firstSameRow.cls ≠ "java/lang/invoke/VarHandle" ∧ (parseMethodDescriptor yX5_firstSameRow.desc).map (fun d => d.parameters.length) = some 1 := by decide +kernel
set_option maxRecDepth 100000 in
set_option maxHeartbeats 4000000 in
theorem pX5_firstSameRow_2 {p : Program} (l : Launch) {e : Env} {s : State} {m : MethodId} {args : Array Value} {below : List Frame} {meth : Method} {c : Code} {Q : State → Prop} {D : va_G} {cy : Nat → ClassId} {A : Nat → Prop} (X : Cx p s m args c cX5_firstSameRow 3 RX5 wsX5_firstSameRow D (tyL cy) A) (a_o : Nat) (a_o_places : Nat) (a_o_covered : Nat) (a_o_kind : Nat) (a_o_count : Nat) (a_o_freeFrom : Nat) (a_o_taken : Nat) (a_o_places_bytes : Nat) (n_o_places_bytes : Nat) (o_takenCount : Int32) (o_n : Int32) (o_places_length : Int32) (o_places_bytes : Nat → Int32) (o_kind : Nat → Int32) (v1 : Int32) (post : Int32 → Prop) (hR : RtI p l e rm_X5_firstSameRow s m args below meth c cX5_firstSameRow Q 3 D A .int (fun u : Unit => [(a_o, .inr (8, [.ref a_o_places, .ref a_o_covered, .ref a_o_kind, .ref a_o_count, .ref a_o_freeFrom, .ref a_o_taken, .int o_takenCount, .int o_n])), (a_o_places, .inr (7, [.ref a_o_places_bytes, .int o_places_length])), (a_o_places_bytes, .inl (cy 0, n_o_places_bytes, .inl o_places_bytes)), (a_o_kind, .inl (cy 1, 320, .inl o_kind))]) (fun r => fun (u : Unit) => post r ) 0 0) (K : Int32 → Prop) (hK : ∀ (v2 : Int32), K v2 → Go p l e rm_X5_firstSameRow s m args below meth c Q 3 D A [(a_o, .inr (8, [.ref a_o_places, .ref a_o_covered, .ref a_o_kind, .ref a_o_count, .ref a_o_freeFrom, .ref a_o_taken, .int o_takenCount, .int o_n])), (a_o_places, .inr (7, [.ref a_o_places_bytes, .int o_places_length])), (a_o_places_bytes, .inl (cy 0, n_o_places_bytes, .inl o_places_bytes)), (a_o_kind, .inl (cy 1, 320, .inl o_kind))] 0 0 34 [(1, .int v1)] []) :
    ∀ (n : Nat) (v2 : Int32), wX5_firstSameRow_2 n_o_places_bytes o_n o_places_length o_places_bytes o_kind v1 post K n v2 → Go p l e rm_X5_firstSameRow s m args below meth c Q 3 D A [(a_o, .inr (8, [.ref a_o_places, .ref a_o_covered, .ref a_o_kind, .ref a_o_count, .ref a_o_freeFrom, .ref a_o_taken, .int o_takenCount, .int o_n])), (a_o_places, .inr (7, [.ref a_o_places_bytes, .int o_places_length])), (a_o_places_bytes, .inl (cy 0, n_o_places_bytes, .inl o_places_bytes)), (a_o_kind, .inl (cy 1, 320, .inl o_kind))] 0 0 2 [(0, .ref a_o), (1, .int v1), (2, .int v2)] [] := by
  intro n
  induction n with
  | zero => intro v2 h; exact absurd h id
  | succ n ih =>
    intro v2 h
    refine go_iload_n X dX5_firstSameRow_2 2 rfl rfl ?_
    refine go_iload_n X dX5_firstSameRow_3 1 rfl rfl ?_
    refine go_icmp_ge X 34 dX5_firstSameRow_4 (by decide) (fun c2 => ?_) (fun c2 => ?_)
    · replace h := h.1 c2
      refine go_lv [1] rfl ?_
      exact hK v2 h
    · replace h := h.2 c2
      refine go_aload_n X dX5_firstSameRow_7 0 rfl rfl ?_
      refine go_get X fi_X5_firstSameRow_X5 0 rfl rfl 2 (by decide) fl_X5_firstSameRow_24 rfl dX5_firstSameRow_8 ?_
      refine go_iload_n X dX5_firstSameRow_11 2 rfl rfl ?_
      obtain ⟨c3, h⟩ := h
      refine go_iald X 3 1 rfl rfl c3 dX5_firstSameRow_12 ?_
      refine go_iload_n X dX5_firstSameRow_13 2 rfl rfl ?_
      refine go_icmp_ne X 28 dX5_firstSameRow_14 (by decide) (fun c4 => ?_) (fun c4 => ?_)
      · replace h := h.1 c4
        obtain ⟨y5, ey5⟩ : ∃ z : Int32, z = v2 + 1 := ⟨_, rfl⟩
        replace h := h y5 ey5
        refine go_iinc X (lv' := [(2, .int y5), (0, .ref a_o), (1, .int v1)]) y5 dX5_firstSameRow_28 2 rfl (by rw [ey5]; rfl) (by decide) rfl ?_
        refine go_goto X 2 dX5_firstSameRow_31 (by decide) ?_
        refine go_lv [1, 2, 0] rfl ?_
        exact ih y5 h
      · replace h := h.2 c4
        refine go_aload_n X dX5_firstSameRow_17 0 rfl rfl ?_
        refine go_iload_n X dX5_firstSameRow_18 2 rfl rfl ?_
        refine go_iload_n X dX5_firstSameRow_19 1 rfl rfl ?_
        refine go_callVi X (kX5_isSameRow l D cy a_o a_o_places a_o_covered a_o_kind a_o_count a_o_freeFrom a_o_taken a_o_places_bytes n_o_places_bytes o_takenCount o_n o_places_length o_places_bytes v2 v1 _ h) (cwV 2 X.2.2.2.2.1 gX5_firstSameRow_X5_isSameRow rfl rfl rfl cd_X5_isSameRow ⟨by decide, by decide⟩) (wr := [(a_o_kind, .inl (cy 1, 320, .inl o_kind))]) (ws2 := fun u => [(a_o, .inr (8, [.ref a_o_places, .ref a_o_covered, .ref a_o_kind, .ref a_o_count, .ref a_o_freeFrom, .ref a_o_taken, .int o_takenCount, .int o_n])), (a_o_places, .inr (7, [.ref a_o_places_bytes, .int o_places_length])), (a_o_places_bytes, .inl (cy 0, n_o_places_bytes, .inl o_places_bytes)), (a_o_kind, .inl (cy 1, 320, .inl o_kind))]) (perm_idx [0, 1, 2, 3] rfl rfl) (fun u => perm_idx [0, 1, 2, 3] rfl rfl) rfl rfl rfl rfl (Nat.le_of_ble_eq_true rfl) dX5_firstSameRow_20 ⟨by decide, by decide⟩ (fun r6 u h => ?_)
        refine go_if_eq X 28 dX5_firstSameRow_23 (by decide) (fun c7 => ?_) (fun c7 => ?_)
        · replace h := h.1 c7
          obtain ⟨y8, ey8⟩ : ∃ z : Int32, z = v2 + 1 := ⟨_, rfl⟩
          replace h := h y8 ey8
          refine go_iinc X (lv' := [(2, .int y8), (0, .ref a_o), (1, .int v1)]) y8 dX5_firstSameRow_28 2 rfl (by rw [ey8]; rfl) (by decide) rfl ?_
          refine go_goto X 2 dX5_firstSameRow_31 (by decide) ?_
          refine go_lv [1, 2, 0] rfl ?_
          exact ih y8 h
        · replace h := h.2 c7
          refine go_iload_n X dX5_firstSameRow_26 2 rfl rfl ?_
          exact hR v2 () 27 _ dX5_firstSameRow_27 rfl h
set_option maxRecDepth 100000 in
set_option maxHeartbeats 4000000 in
theorem kX5_firstSameRow (l : Launch) (D : va_G) (cy : Nat → ClassId) (a_o : Nat) (a_o_places : Nat) (a_o_covered : Nat) (a_o_kind : Nat) (a_o_count : Nat) (a_o_freeFrom : Nat) (a_o_taken : Nat) (a_o_places_bytes : Nat) (n_o_places_bytes : Nat) (o_takenCount : Int32) (o_n : Int32) (o_places_length : Int32) (o_places_bytes : Nat → Int32) (o_kind : Nat → Int32) (p1 : Int32) (post : Int32 → Prop) (h : wX5_firstSameRow n_o_places_bytes o_n o_places_length o_places_bytes o_kind p1 post) : MetI l yX5_firstSameRow wsX5_firstSameRow rm_X5_firstSameRow D (tyL cy) [.ref a_o, .int p1] [(a_o, .inr (8, [.ref a_o_places, .ref a_o_covered, .ref a_o_kind, .ref a_o_count, .ref a_o_freeFrom, .ref a_o_taken, .int o_takenCount, .int o_n])), (a_o_places, .inr (7, [.ref a_o_places_bytes, .int o_places_length])), (a_o_places_bytes, .inl (cy 0, n_o_places_bytes, .inl o_places_bytes)), (a_o_kind, .inl (cy 1, 320, .inl o_kind))] (fun u : Unit => [(a_o, .inr (8, [.ref a_o_places, .ref a_o_covered, .ref a_o_kind, .ref a_o_count, .ref a_o_freeFrom, .ref a_o_taken, .int o_takenCount, .int o_n])), (a_o_places, .inr (7, [.ref a_o_places_bytes, .int o_places_length])), (a_o_places_bytes, .inl (cy 0, n_o_places_bytes, .inl o_places_bytes)), (a_o_kind, .inl (cy 1, 320, .inl o_kind))]) (fun r => fun (u : Unit) => post r ) 0 0 := by
  refine metI_of (cc := cX5_firstSameRow) (maxL := 3) (lv := [(0, .ref a_o), (1, .int p1)]) (by decide) rfl (Nat.le_of_ble_eq_true rfl) rfl ?_
  intro p e s m below meth c Q A X hlk hR
  unfold wX5_firstSameRow at h
  refine go_iconst X (v := 0) dX5_firstSameRow_0 (by decide) ?_
  refine go_istore_n X (lv' := [(2, .int 0), (0, .ref a_o), (1, .int p1)]) dX5_firstSameRow_1 rfl (by decide) rfl ?_
  obtain ⟨n9, h⟩ := h
  refine go_lv [1, 2, 0] rfl ?_
  refine pX5_firstSameRow_2 l X a_o a_o_places a_o_covered a_o_kind a_o_count a_o_freeFrom a_o_taken a_o_places_bytes n_o_places_bytes o_takenCount o_n o_places_length o_places_bytes o_kind p1 post hR _ (fun y1 h => ?_) n9 (0 : Int32) h
  refine go_iload_n X dX5_firstSameRow_34 0 rfl rfl ?_
  exact hR p1 () 35 _ dX5_firstSameRow_35 rfl h
/-! X5_markKinds -/
theorem fi_X5_markKinds_X5 : ∀ w ∈ u_ws RX5 TX5 8, w ∈ wsX5_markKinds := by decide +kernel
theorem fl_X5_markKinds_24 : Cond.fieldLink RX5 24 (TX5 2).1 (TX5 2).2.1 (TX5 2).2.2.1 ∈ wsX5_markKinds := by decide +kernel
def rm_X5_markKinds : Room := { frames := 4, cells := 0, slots := 0, locals := 87 }
theorem cd_X5_markKinds : yX5_markKinds.cls = RX5 ∧ yX5_markKinds.cls ≠ "java/lang/invoke/MethodHandle" ∧ yX5_markKinds.cls ≠ "java/lang/invoke/VarHandle" ∧ (parseMethodDescriptor yX5_markKinds.desc).map (fun d => d.parameters.length) = some 2 := by decide +kernel
set_option maxRecDepth 100000 in
set_option maxHeartbeats 4000000 in
theorem pX5_markKinds_2 {p : Program} (l : Launch) {e : Env} {s : State} {m : MethodId} {args : Array Value} {below : List Frame} {meth : Method} {c : Code} {Q : State → Prop} {D : va_G} {cy : Nat → ClassId} {A : Nat → Prop} (X : Cx p s m args c cX5_markKinds 4 RX5 wsX5_markKinds D (tyL cy) A) (a_o : Nat) (a_o_places : Nat) (a_o_covered : Nat) (a_o_kind : Nat) (a_o_count : Nat) (a_o_freeFrom : Nat) (a_o_taken : Nat) (a_o_places_bytes : Nat) (n_o_places_bytes : Nat) (o_takenCount : Int32) (o_n : Int32) (o_places_length : Int32) (o_places_bytes : Nat → Int32) (v1 : Int32) (v2 : Int32) (K : (Nat → Int32) → Int32 → Prop) (hK : ∀ (o_kind : Nat → Int32) (v3 : Int32), K o_kind v3 → Go p l e rm_X5_markKinds s m args below meth c Q 4 D A [(a_o, .inr (8, [.ref a_o_places, .ref a_o_covered, .ref a_o_kind, .ref a_o_count, .ref a_o_freeFrom, .ref a_o_taken, .int o_takenCount, .int o_n])), (a_o_places, .inr (7, [.ref a_o_places_bytes, .int o_places_length])), (a_o_places_bytes, .inl (cy 0, n_o_places_bytes, .inl o_places_bytes)), (a_o_kind, .inl (cy 1, 320, .inl o_kind))] 0 0 28 [] []) :
    ∀ (n : Nat) (o_kind : Nat → Int32) (v3 : Int32), wX5_markKinds_2 n_o_places_bytes o_n o_places_length o_places_bytes v1 v2 K n o_kind v3 → Go p l e rm_X5_markKinds s m args below meth c Q 4 D A [(a_o, .inr (8, [.ref a_o_places, .ref a_o_covered, .ref a_o_kind, .ref a_o_count, .ref a_o_freeFrom, .ref a_o_taken, .int o_takenCount, .int o_n])), (a_o_places, .inr (7, [.ref a_o_places_bytes, .int o_places_length])), (a_o_places_bytes, .inl (cy 0, n_o_places_bytes, .inl o_places_bytes)), (a_o_kind, .inl (cy 1, 320, .inl o_kind))] 0 0 2 [(0, .ref a_o), (1, .int v1), (2, .int v2), (3, .int v3)] [] := by
  intro n
  induction n with
  | zero => intro o_kind v3 h; exact absurd h id
  | succ n ih =>
    intro o_kind v3 h
    refine go_iload_n X dX5_markKinds_2 3 rfl rfl ?_
    refine go_iload_n X dX5_markKinds_3 2 rfl rfl ?_
    refine go_icmp_gt X 28 dX5_markKinds_4 (by decide) (fun c3 => ?_) (fun c3 => ?_)
    · replace h := h.1 c3
      refine go_lv [] rfl ?_
      exact hK o_kind v3 h
    · replace h := h.2 c3
      refine go_aload_n X dX5_markKinds_7 0 rfl rfl ?_
      refine go_get X fi_X5_markKinds_X5 0 rfl rfl 2 (by decide) fl_X5_markKinds_24 rfl dX5_markKinds_8 ?_
      refine go_iload_n X dX5_markKinds_11 1 rfl rfl ?_
      refine go_iload_n X dX5_markKinds_12 3 rfl rfl ?_
      refine go_iadd X dX5_markKinds_13 ?_
      refine go_aload_n X dX5_markKinds_14 0 rfl rfl ?_
      refine go_iload_n X dX5_markKinds_15 1 rfl rfl ?_
      refine go_iload_n X dX5_markKinds_16 3 rfl rfl ?_
      refine go_iadd X dX5_markKinds_17 ?_
      refine go_callVi X (kX5_firstSameRow l D cy a_o a_o_places a_o_covered a_o_kind a_o_count a_o_freeFrom a_o_taken a_o_places_bytes n_o_places_bytes o_takenCount o_n o_places_length o_places_bytes o_kind (v1 + v3) _ h) (cwV 1 X.2.2.2.2.1 gX5_markKinds_X5_firstSameRow rfl rfl rfl cd_X5_firstSameRow ⟨by decide, by decide⟩) (wr := []) (ws2 := fun u => [(a_o, .inr (8, [.ref a_o_places, .ref a_o_covered, .ref a_o_kind, .ref a_o_count, .ref a_o_freeFrom, .ref a_o_taken, .int o_takenCount, .int o_n])), (a_o_places, .inr (7, [.ref a_o_places_bytes, .int o_places_length])), (a_o_places_bytes, .inl (cy 0, n_o_places_bytes, .inl o_places_bytes)), (a_o_kind, .inl (cy 1, 320, .inl o_kind))]) (perm_idx [0, 1, 2, 3] rfl rfl) (fun u => perm_idx [0, 1, 2, 3] rfl rfl) rfl rfl rfl rfl (Nat.le_of_ble_eq_true rfl) dX5_markKinds_18 ⟨by decide, by decide⟩ (fun r4 u h => ?_)
      obtain ⟨c5, h⟩ := h
      refine go_iast X [(a_o, .inr (8, [.ref a_o_places, .ref a_o_covered, .ref a_o_kind, .ref a_o_count, .ref a_o_freeFrom, .ref a_o_taken, .int o_takenCount, .int o_n])), (a_o_places, .inr (7, [.ref a_o_places_bytes, .int o_places_length])), (a_o_places_bytes, .inl (cy 0, n_o_places_bytes, .inl o_places_bytes)), (a_o_kind, .inl (cy 1, 320, .inl (upd o_kind (v1 + v3).toNatClampNeg r4)))] 3 1 rfl rfl c5 rfl dX5_markKinds_21 ?_
      obtain ⟨y6, ey6⟩ : ∃ z : Int32, z = v3 + 1 := ⟨_, rfl⟩
      replace h := h y6 ey6
      refine go_iinc X (lv' := [(3, .int y6), (0, .ref a_o), (1, .int v1), (2, .int v2)]) y6 dX5_markKinds_22 3 rfl (by rw [ey6]; rfl) (by decide) rfl ?_
      refine go_goto X 2 dX5_markKinds_25 (by decide) ?_
      refine go_lv [1, 2, 3, 0] rfl ?_
      exact ih (upd o_kind (v1 + v3).toNatClampNeg r4) y6 h
set_option maxRecDepth 100000 in
set_option maxHeartbeats 4000000 in
theorem kX5_markKinds (l : Launch) (D : va_G) (cy : Nat → ClassId) (a_o : Nat) (a_o_places : Nat) (a_o_covered : Nat) (a_o_kind : Nat) (a_o_count : Nat) (a_o_freeFrom : Nat) (a_o_taken : Nat) (a_o_places_bytes : Nat) (n_o_places_bytes : Nat) (o_takenCount : Int32) (o_n : Int32) (o_places_length : Int32) (o_places_bytes : Nat → Int32) (o_kind : Nat → Int32) (p1 : Int32) (p2 : Int32) (post : (Nat → Int32) → Prop) (h : wX5_markKinds n_o_places_bytes o_n o_places_length o_places_bytes o_kind p1 p2 post) : MetV l yX5_markKinds wsX5_markKinds rm_X5_markKinds D (tyL cy) [.ref a_o, .int p1, .int p2] [(a_o, .inr (8, [.ref a_o_places, .ref a_o_covered, .ref a_o_kind, .ref a_o_count, .ref a_o_freeFrom, .ref a_o_taken, .int o_takenCount, .int o_n])), (a_o_places, .inr (7, [.ref a_o_places_bytes, .int o_places_length])), (a_o_places_bytes, .inl (cy 0, n_o_places_bytes, .inl o_places_bytes)), (a_o_kind, .inl (cy 1, 320, .inl o_kind))] (fun u : (Nat → Int32) => [(a_o, .inr (8, [.ref a_o_places, .ref a_o_covered, .ref a_o_kind, .ref a_o_count, .ref a_o_freeFrom, .ref a_o_taken, .int o_takenCount, .int o_n])), (a_o_places, .inr (7, [.ref a_o_places_bytes, .int o_places_length])), (a_o_places_bytes, .inl (cy 0, n_o_places_bytes, .inl o_places_bytes)), (a_o_kind, .inl (cy 1, 320, .inl u))]) (fun (u : (Nat → Int32)) => post u) 0 0 := by
  refine metV_of (cc := cX5_markKinds) (maxL := 4) (lv := [(0, .ref a_o), (1, .int p1), (2, .int p2)]) (by decide) rfl (Nat.le_of_ble_eq_true rfl) rfl ?_
  intro p e s m below meth c Q A X hlk hnm hR
  unfold wX5_markKinds at h
  refine go_iconst X (v := 0) dX5_markKinds_0 (by decide) ?_
  refine go_istore_n X (lv' := [(3, .int 0), (0, .ref a_o), (1, .int p1), (2, .int p2)]) dX5_markKinds_1 rfl (by decide) rfl ?_
  obtain ⟨n7, h⟩ := h
  refine go_lv [1, 2, 3, 0] rfl ?_
  refine pX5_markKinds_2 l X a_o a_o_places a_o_covered a_o_kind a_o_count a_o_freeFrom a_o_taken a_o_places_bytes n_o_places_bytes o_takenCount o_n o_places_length o_places_bytes p1 p2  _ (fun s1 y2 h => ?_) n7 o_kind (0 : Int32) h
  exact hR s1 28 _ dX5_markKinds_28 h
/-! X5_cover -/
theorem fi_X5_cover_X5 : ∀ w ∈ u_ws RX5 TX5 8, w ∈ wsX5_cover := by decide +kernel
theorem fl_X5_cover_24 : Cond.fieldLink RX5 24 (TX5 2).1 (TX5 2).2.1 (TX5 2).2.2.1 ∈ wsX5_cover := by decide +kernel
theorem fl_X5_cover_37 : Cond.fieldLink RX5 37 (TX5 7).1 (TX5 7).2.1 (TX5 7).2.2.1 ∈ wsX5_cover := by decide +kernel
def rm_X5_cover : Room := { frames := 1, cells := 0, slots := 0, locals := 24 }
theorem cd_X5_cover : yX5_cover.cls = RX5 ∧ yX5_cover.cls ≠ "java/lang/invoke/MethodHandle" ∧ yX5_cover.cls ≠ "java/lang/invoke/VarHandle" ∧ (parseMethodDescriptor yX5_cover.desc).map (fun d => d.parameters.length) = some 1 := by decide +kernel
set_option maxRecDepth 100000 in
set_option maxHeartbeats 4000000 in
theorem pX5_cover_2 {p : Program} (l : Launch) {e : Env} {s : State} {m : MethodId} {args : Array Value} {below : List Frame} {meth : Method} {c : Code} {Q : State → Prop} {D : va_G} {cy : Nat → ClassId} {A : Nat → Prop} (X : Cx p s m args c cX5_cover 3 RX5 wsX5_cover D (tyL cy) A) (a_o : Nat) (a_o_places : Nat) (a_o_covered : Nat) (a_o_kind : Nat) (a_o_count : Nat) (a_o_freeFrom : Nat) (a_o_taken : Nat) (o_takenCount : Int32) (o_n : Int32) (o_kind : Nat → Int32) (v1 : Int32) (K : (Nat → Int32) → Int32 → Prop) (hK : ∀ (o_covered : Nat → Int32) (v2 : Int32), K o_covered v2 → Go p l e rm_X5_cover s m args below meth c Q 3 D A [(a_o, .inr (8, [.ref a_o_places, .ref a_o_covered, .ref a_o_kind, .ref a_o_count, .ref a_o_freeFrom, .ref a_o_taken, .int o_takenCount, .int o_n])), (a_o_covered, .inl (cy 2, 320, .inl o_covered)), (a_o_kind, .inl (cy 1, 320, .inl o_kind))] 0 0 45 [] []) :
    ∀ (n : Nat) (o_covered : Nat → Int32) (v2 : Int32), wX5_cover_2 o_n o_kind v1 K n o_covered v2 → Go p l e rm_X5_cover s m args below meth c Q 3 D A [(a_o, .inr (8, [.ref a_o_places, .ref a_o_covered, .ref a_o_kind, .ref a_o_count, .ref a_o_freeFrom, .ref a_o_taken, .int o_takenCount, .int o_n])), (a_o_covered, .inl (cy 2, 320, .inl o_covered)), (a_o_kind, .inl (cy 1, 320, .inl o_kind))] 0 0 2 [(0, .ref a_o), (1, .int v1), (2, .int v2)] [] := by
  intro n
  induction n with
  | zero => intro o_covered v2 h; exact absurd h id
  | succ n ih =>
    intro o_covered v2 h
    refine go_iload_n X dX5_cover_2 2 rfl rfl ?_
    refine go_sipush X (v := 320) dX5_cover_3 (by decide) ?_
    refine go_icmp_ge X 45 dX5_cover_6 (by decide) (fun c3 => ?_) (fun c3 => ?_)
    · replace h := h.1 c3
      refine go_lv [] rfl ?_
      exact hK o_covered v2 h
    · replace h := h.2 c3
      refine go_aload_n X dX5_cover_9 0 rfl rfl ?_
      refine go_get X fi_X5_cover_X5 0 rfl rfl 2 (by decide) fl_X5_cover_24 rfl dX5_cover_10 ?_
      refine go_iload_n X dX5_cover_13 2 rfl rfl ?_
      obtain ⟨c4, h⟩ := h
      refine go_iald X 2 1 rfl rfl c4 dX5_cover_14 ?_
      refine go_iload_n X dX5_cover_15 1 rfl rfl ?_
      refine go_icmp_ne X 39 dX5_cover_16 (by decide) (fun c5 => ?_) (fun c5 => ?_)
      · replace h := h.1 c5
        obtain ⟨y6, ey6⟩ : ∃ z : Int32, z = v2 + 1 := ⟨_, rfl⟩
        replace h := h y6 ey6
        refine go_iinc X (lv' := [(2, .int y6), (0, .ref a_o), (1, .int v1)]) y6 dX5_cover_39 2 rfl (by rw [ey6]; rfl) (by decide) rfl ?_
        refine go_goto X 2 dX5_cover_42 (by decide) ?_
        refine go_lv [1, 2, 0] rfl ?_
        exact ih o_covered y6 h
      · replace h := h.2 c5
        refine go_aload_n X dX5_cover_19 0 rfl rfl ?_
        refine go_iload_n X dX5_cover_20 2 rfl rfl ?_
        refine go_callVi X (kX5_isFreeRow l D cy a_o a_o_places a_o_covered a_o_kind a_o_count a_o_freeFrom a_o_taken o_takenCount o_n o_covered o_kind v2 _ h) (cwV 1 X.2.2.2.2.1 gX5_cover_X5_isFreeRow rfl rfl rfl cd_X5_isFreeRow ⟨by decide, by decide⟩) (wr := []) (ws2 := fun u => [(a_o, .inr (8, [.ref a_o_places, .ref a_o_covered, .ref a_o_kind, .ref a_o_count, .ref a_o_freeFrom, .ref a_o_taken, .int o_takenCount, .int o_n])), (a_o_covered, .inl (cy 2, 320, .inl o_covered)), (a_o_kind, .inl (cy 1, 320, .inl o_kind))]) (perm_idx [0, 1, 2] rfl rfl) (fun u => perm_idx [0, 1, 2] rfl rfl) rfl rfl rfl rfl (Nat.le_of_ble_eq_true rfl) dX5_cover_21 ⟨by decide, by decide⟩ (fun r7 u h => ?_)
        refine go_if_eq X 39 dX5_cover_24 (by decide) (fun c8 => ?_) (fun c8 => ?_)
        · replace h := h.1 c8
          obtain ⟨y9, ey9⟩ : ∃ z : Int32, z = v2 + 1 := ⟨_, rfl⟩
          replace h := h y9 ey9
          refine go_iinc X (lv' := [(2, .int y9), (0, .ref a_o), (1, .int v1)]) y9 dX5_cover_39 2 rfl (by rw [ey9]; rfl) (by decide) rfl ?_
          refine go_goto X 2 dX5_cover_42 (by decide) ?_
          refine go_lv [1, 2, 0] rfl ?_
          exact ih o_covered y9 h
        · replace h := h.2 c8
          refine go_aload_n X dX5_cover_27 0 rfl rfl ?_
          refine go_iload_n X dX5_cover_28 2 rfl rfl ?_
          refine go_iload_n X dX5_cover_29 2 rfl rfl ?_
          refine go_aload_n X dX5_cover_30 0 rfl rfl ?_
          refine go_get X fi_X5_cover_X5 0 rfl rfl 7 (by decide) fl_X5_cover_37 rfl dX5_cover_31 ?_
          refine go_iadd X dX5_cover_34 ?_
          refine go_iconst X (v := 1) dX5_cover_35 (by decide) ?_
          refine go_callVv X (kX5_coverFrom l D cy a_o a_o_places a_o_covered a_o_kind a_o_count a_o_freeFrom a_o_taken o_takenCount o_n o_covered v2 (v2 + o_n) (1 : Int32) _ h) (cwV 3 X.2.2.2.2.1 gX5_cover_X5_coverFrom rfl rfl rfl cd_X5_coverFrom ⟨by decide, by decide⟩) (wr := [(a_o_kind, .inl (cy 1, 320, .inl o_kind))]) (ws2 := fun u => [(a_o, .inr (8, [.ref a_o_places, .ref a_o_covered, .ref a_o_kind, .ref a_o_count, .ref a_o_freeFrom, .ref a_o_taken, .int o_takenCount, .int o_n])), (a_o_covered, .inl (cy 2, 320, .inl u)), (a_o_kind, .inl (cy 1, 320, .inl o_kind))]) (perm_idx [0, 1, 2] rfl rfl) (fun u => perm_idx [0, 1, 2] rfl rfl) rfl rfl rfl rfl (Nat.le_of_ble_eq_true rfl) dX5_cover_36 ⟨by decide, by decide⟩ (fun u h => ?_)
          obtain ⟨s10, rfl⟩ : ∃ z, z = u := ⟨_, rfl⟩
          obtain ⟨y11, ey11⟩ : ∃ z : Int32, z = v2 + 1 := ⟨_, rfl⟩
          replace h := h y11 ey11
          refine go_iinc X (lv' := [(2, .int y11), (0, .ref a_o), (1, .int v1)]) y11 dX5_cover_39 2 rfl (by rw [ey11]; rfl) (by decide) rfl ?_
          refine go_goto X 2 dX5_cover_42 (by decide) ?_
          refine go_lv [1, 2, 0] rfl ?_
          exact ih s10 y11 h
set_option maxRecDepth 100000 in
set_option maxHeartbeats 4000000 in
theorem kX5_cover (l : Launch) (D : va_G) (cy : Nat → ClassId) (a_o : Nat) (a_o_places : Nat) (a_o_covered : Nat) (a_o_kind : Nat) (a_o_count : Nat) (a_o_freeFrom : Nat) (a_o_taken : Nat) (o_takenCount : Int32) (o_n : Int32) (o_covered : Nat → Int32) (o_kind : Nat → Int32) (p1 : Int32) (post : (Nat → Int32) → Prop) (h : wX5_cover o_n o_covered o_kind p1 post) : MetV l yX5_cover wsX5_cover rm_X5_cover D (tyL cy) [.ref a_o, .int p1] [(a_o, .inr (8, [.ref a_o_places, .ref a_o_covered, .ref a_o_kind, .ref a_o_count, .ref a_o_freeFrom, .ref a_o_taken, .int o_takenCount, .int o_n])), (a_o_covered, .inl (cy 2, 320, .inl o_covered)), (a_o_kind, .inl (cy 1, 320, .inl o_kind))] (fun u : (Nat → Int32) => [(a_o, .inr (8, [.ref a_o_places, .ref a_o_covered, .ref a_o_kind, .ref a_o_count, .ref a_o_freeFrom, .ref a_o_taken, .int o_takenCount, .int o_n])), (a_o_covered, .inl (cy 2, 320, .inl u)), (a_o_kind, .inl (cy 1, 320, .inl o_kind))]) (fun (u : (Nat → Int32)) => post u) 0 0 := by
  refine metV_of (cc := cX5_cover) (maxL := 3) (lv := [(0, .ref a_o), (1, .int p1)]) (by decide) rfl (Nat.le_of_ble_eq_true rfl) rfl ?_
  intro p e s m below meth c Q A X hlk hnm hR
  unfold wX5_cover at h
  refine go_iconst X (v := 0) dX5_cover_0 (by decide) ?_
  refine go_istore_n X (lv' := [(2, .int 0), (0, .ref a_o), (1, .int p1)]) dX5_cover_1 rfl (by decide) rfl ?_
  obtain ⟨n12, h⟩ := h
  refine go_lv [1, 2, 0] rfl ?_
  refine pX5_cover_2 l X a_o a_o_places a_o_covered a_o_kind a_o_count a_o_freeFrom a_o_taken o_takenCount o_n o_kind p1  _ (fun s1 y2 h => ?_) n12 o_covered (0 : Int32) h
  exact hR s1 45 _ dX5_cover_45 h
/-! X5_placeOfMost -/
theorem fi_X5_placeOfMost_X5 : ∀ w ∈ u_ws RX5 TX5 8, w ∈ wsX5_placeOfMost := by decide +kernel
theorem fl_X5_placeOfMost_24 : Cond.fieldLink RX5 24 (TX5 2).1 (TX5 2).2.1 (TX5 2).2.2.1 ∈ wsX5_placeOfMost := by decide +kernel
theorem fl_X5_placeOfMost_28 : Cond.fieldLink RX5 28 (TX5 3).1 (TX5 3).2.1 (TX5 3).2.2.1 ∈ wsX5_placeOfMost := by decide +kernel
def rm_X5_placeOfMost : Room := { frames := 1, cells := 0, slots := 0, locals := 22 }
theorem cd_X5_placeOfMost : yX5_placeOfMost.cls = RX5 ∧ yX5_placeOfMost.cls ≠ "java/lang/invoke/MethodHandle" ∧ yX5_placeOfMost.cls ≠ "java/lang/invoke/VarHandle" ∧ (parseMethodDescriptor yX5_placeOfMost.desc).map (fun d => d.parameters.length) = some 0 := by decide +kernel
set_option maxRecDepth 100000 in
set_option maxHeartbeats 4000000 in
theorem pX5_placeOfMost_6 {p : Program} (l : Launch) {e : Env} {s : State} {m : MethodId} {args : Array Value} {below : List Frame} {meth : Method} {c : Code} {Q : State → Prop} {D : va_G} {cy : Nat → ClassId} {A : Nat → Prop} (X : Cx p s m args c cX5_placeOfMost 4 RX5 wsX5_placeOfMost D (tyL cy) A) (a_o : Nat) (a_o_places : Nat) (a_o_covered : Nat) (a_o_kind : Nat) (a_o_count : Nat) (a_o_freeFrom : Nat) (a_o_taken : Nat) (o_takenCount : Int32) (o_n : Int32) (o_covered : Nat → Int32) (o_kind : Nat → Int32) (o_count : Nat → Int32) (K : Int32 → Int32 → Int32 → Prop) (hK : ∀ (v1 : Int32) (v2 : Int32) (v3 : Int32), K v1 v2 v3 → Go p l e rm_X5_placeOfMost s m args below meth c Q 4 D A [(a_o, .inr (8, [.ref a_o_places, .ref a_o_covered, .ref a_o_kind, .ref a_o_count, .ref a_o_freeFrom, .ref a_o_taken, .int o_takenCount, .int o_n])), (a_o_covered, .inl (cy 2, 320, .inl o_covered)), (a_o_kind, .inl (cy 1, 320, .inl o_kind)), (a_o_count, .inl (cy 1, 320, .inl o_count))] 0 0 66 [(1, .int v1)] []) :
    ∀ (n : Nat) (v1 : Int32) (v2 : Int32) (v3 : Int32), wX5_placeOfMost_6 o_n o_covered o_kind o_count K n v1 v2 v3 → Go p l e rm_X5_placeOfMost s m args below meth c Q 4 D A [(a_o, .inr (8, [.ref a_o_places, .ref a_o_covered, .ref a_o_kind, .ref a_o_count, .ref a_o_freeFrom, .ref a_o_taken, .int o_takenCount, .int o_n])), (a_o_covered, .inl (cy 2, 320, .inl o_covered)), (a_o_kind, .inl (cy 1, 320, .inl o_kind)), (a_o_count, .inl (cy 1, 320, .inl o_count))] 0 0 6 [(0, .ref a_o), (1, .int v1), (2, .int v2), (3, .int v3)] [] := by
  intro n
  induction n with
  | zero => intro v1 v2 v3 h; exact absurd h id
  | succ n ih =>
    intro v1 v2 v3 h
    refine go_iload_n X dX5_placeOfMost_6 3 rfl rfl ?_
    refine go_sipush X (v := 320) dX5_placeOfMost_7 (by decide) ?_
    refine go_icmp_ge X 66 dX5_placeOfMost_10 (by decide) (fun c4 => ?_) (fun c4 => ?_)
    · replace h := h.1 c4
      refine go_lv [1] rfl ?_
      exact hK v1 v2 v3 h
    · replace h := h.2 c4
      refine go_aload_n X dX5_placeOfMost_13 0 rfl rfl ?_
      refine go_get X fi_X5_placeOfMost_X5 0 rfl rfl 2 (by decide) fl_X5_placeOfMost_24 rfl dX5_placeOfMost_14 ?_
      refine go_iload_n X dX5_placeOfMost_17 3 rfl rfl ?_
      obtain ⟨c5, h⟩ := h
      refine go_iald X 2 1 rfl rfl c5 dX5_placeOfMost_18 ?_
      refine go_iconst X (v := (-1)) dX5_placeOfMost_19 (by decide) ?_
      refine go_icmp_eq X 60 dX5_placeOfMost_20 (by decide) (fun c6 => ?_) (fun c6 => ?_)
      · replace h := h.1 c6
        obtain ⟨y7, ey7⟩ : ∃ z : Int32, z = v3 + 1 := ⟨_, rfl⟩
        replace h := h y7 ey7
        refine go_iinc X (lv' := [(3, .int y7), (0, .ref a_o), (1, .int v1), (2, .int v2)]) y7 dX5_placeOfMost_60 3 rfl (by rw [ey7]; rfl) (by decide) rfl ?_
        refine go_goto X 6 dX5_placeOfMost_63 (by decide) ?_
        refine go_lv [1, 2, 3, 0] rfl ?_
        exact ih v1 v2 y7 h
      · replace h := h.2 c6
        refine go_aload_n X dX5_placeOfMost_23 0 rfl rfl ?_
        refine go_get X fi_X5_placeOfMost_X5 0 rfl rfl 3 (by decide) fl_X5_placeOfMost_28 rfl dX5_placeOfMost_24 ?_
        refine go_aload_n X dX5_placeOfMost_27 0 rfl rfl ?_
        refine go_get X fi_X5_placeOfMost_X5 0 rfl rfl 2 (by decide) fl_X5_placeOfMost_24 rfl dX5_placeOfMost_28 ?_
        refine go_iload_n X dX5_placeOfMost_31 3 rfl rfl ?_
        obtain ⟨c8, h⟩ := h
        refine go_iald X 2 1 rfl rfl c8 dX5_placeOfMost_32 ?_
        obtain ⟨c9, h⟩ := h
        refine go_iald X 3 1 rfl rfl c9 dX5_placeOfMost_33 ?_
        refine go_iload_n X dX5_placeOfMost_34 2 rfl rfl ?_
        refine go_icmp_le X 60 dX5_placeOfMost_35 (by decide) (fun c10 => ?_) (fun c10 => ?_)
        · replace h := h.1 c10
          obtain ⟨y11, ey11⟩ : ∃ z : Int32, z = v3 + 1 := ⟨_, rfl⟩
          replace h := h y11 ey11
          refine go_iinc X (lv' := [(3, .int y11), (0, .ref a_o), (1, .int v1), (2, .int v2)]) y11 dX5_placeOfMost_60 3 rfl (by rw [ey11]; rfl) (by decide) rfl ?_
          refine go_goto X 6 dX5_placeOfMost_63 (by decide) ?_
          refine go_lv [1, 2, 3, 0] rfl ?_
          exact ih v1 v2 y11 h
        · replace h := h.2 c10
          refine go_aload_n X dX5_placeOfMost_38 0 rfl rfl ?_
          refine go_iload_n X dX5_placeOfMost_39 3 rfl rfl ?_
          refine go_callVi X (kX5_isFreeRow l D cy a_o a_o_places a_o_covered a_o_kind a_o_count a_o_freeFrom a_o_taken o_takenCount o_n o_covered o_kind v3 _ h) (cwV 1 X.2.2.2.2.1 gX5_placeOfMost_X5_isFreeRow rfl rfl rfl cd_X5_isFreeRow ⟨by decide, by decide⟩) (wr := [(a_o_count, .inl (cy 1, 320, .inl o_count))]) (ws2 := fun u => [(a_o, .inr (8, [.ref a_o_places, .ref a_o_covered, .ref a_o_kind, .ref a_o_count, .ref a_o_freeFrom, .ref a_o_taken, .int o_takenCount, .int o_n])), (a_o_covered, .inl (cy 2, 320, .inl o_covered)), (a_o_kind, .inl (cy 1, 320, .inl o_kind)), (a_o_count, .inl (cy 1, 320, .inl o_count))]) (perm_idx [0, 1, 2, 3] rfl rfl) (fun u => perm_idx [0, 1, 2, 3] rfl rfl) rfl rfl rfl rfl (Nat.le_of_ble_eq_true rfl) dX5_placeOfMost_40 ⟨by decide, by decide⟩ (fun r12 u h => ?_)
          refine go_if_eq X 60 dX5_placeOfMost_43 (by decide) (fun c13 => ?_) (fun c13 => ?_)
          · replace h := h.1 c13
            obtain ⟨y14, ey14⟩ : ∃ z : Int32, z = v3 + 1 := ⟨_, rfl⟩
            replace h := h y14 ey14
            refine go_iinc X (lv' := [(3, .int y14), (0, .ref a_o), (1, .int v1), (2, .int v2)]) y14 dX5_placeOfMost_60 3 rfl (by rw [ey14]; rfl) (by decide) rfl ?_
            refine go_goto X 6 dX5_placeOfMost_63 (by decide) ?_
            refine go_lv [1, 2, 3, 0] rfl ?_
            exact ih v1 v2 y14 h
          · replace h := h.2 c13
            refine go_iload_n X dX5_placeOfMost_46 3 rfl rfl ?_
            refine go_istore_n X (lv' := [(1, .int v3), (0, .ref a_o), (2, .int v2), (3, .int v3)]) dX5_placeOfMost_47 rfl (by decide) rfl ?_
            refine go_aload_n X dX5_placeOfMost_48 1 rfl rfl ?_
            refine go_get X fi_X5_placeOfMost_X5 0 rfl rfl 3 (by decide) fl_X5_placeOfMost_28 rfl dX5_placeOfMost_49 ?_
            refine go_aload_n X dX5_placeOfMost_52 1 rfl rfl ?_
            refine go_get X fi_X5_placeOfMost_X5 0 rfl rfl 2 (by decide) fl_X5_placeOfMost_24 rfl dX5_placeOfMost_53 ?_
            refine go_iload_n X dX5_placeOfMost_56 3 rfl rfl ?_
            obtain ⟨c15, h⟩ := h
            refine go_iald X 2 1 rfl rfl c15 dX5_placeOfMost_57 ?_
            obtain ⟨c16, h⟩ := h
            refine go_iald X 3 1 rfl rfl c16 dX5_placeOfMost_58 ?_
            refine go_topi (fun y17 ey17 => ?_)
            replace h := h y17 ey17
            refine go_istore_n X (lv' := [(2, .int y17), (1, .int v3), (0, .ref a_o), (3, .int v3)]) dX5_placeOfMost_59 rfl (by decide) rfl ?_
            obtain ⟨y18, ey18⟩ : ∃ z : Int32, z = v3 + 1 := ⟨_, rfl⟩
            replace h := h y18 ey18
            refine go_iinc X (lv' := [(3, .int y18), (2, .int y17), (1, .int v3), (0, .ref a_o)]) y18 dX5_placeOfMost_60 3 rfl (by rw [ey18]; rfl) (by decide) rfl ?_
            refine go_goto X 6 dX5_placeOfMost_63 (by decide) ?_
            refine go_lv [3, 2, 1, 0] rfl ?_
            exact ih v3 y17 y18 h
set_option maxRecDepth 100000 in
set_option maxHeartbeats 4000000 in
theorem kX5_placeOfMost (l : Launch) (D : va_G) (cy : Nat → ClassId) (a_o : Nat) (a_o_places : Nat) (a_o_covered : Nat) (a_o_kind : Nat) (a_o_count : Nat) (a_o_freeFrom : Nat) (a_o_taken : Nat) (o_takenCount : Int32) (o_n : Int32) (o_covered : Nat → Int32) (o_kind : Nat → Int32) (o_count : Nat → Int32) (post : Int32 → Prop) (h : wX5_placeOfMost o_n o_covered o_kind o_count post) : MetI l yX5_placeOfMost wsX5_placeOfMost rm_X5_placeOfMost D (tyL cy) [.ref a_o] [(a_o, .inr (8, [.ref a_o_places, .ref a_o_covered, .ref a_o_kind, .ref a_o_count, .ref a_o_freeFrom, .ref a_o_taken, .int o_takenCount, .int o_n])), (a_o_covered, .inl (cy 2, 320, .inl o_covered)), (a_o_kind, .inl (cy 1, 320, .inl o_kind)), (a_o_count, .inl (cy 1, 320, .inl o_count))] (fun u : Unit => [(a_o, .inr (8, [.ref a_o_places, .ref a_o_covered, .ref a_o_kind, .ref a_o_count, .ref a_o_freeFrom, .ref a_o_taken, .int o_takenCount, .int o_n])), (a_o_covered, .inl (cy 2, 320, .inl o_covered)), (a_o_kind, .inl (cy 1, 320, .inl o_kind)), (a_o_count, .inl (cy 1, 320, .inl o_count))]) (fun r => fun (u : Unit) => post r ) 0 0 := by
  refine metI_of (cc := cX5_placeOfMost) (maxL := 4) (lv := [(0, .ref a_o)]) (by decide) rfl (Nat.le_of_ble_eq_true rfl) rfl ?_
  intro p e s m below meth c Q A X hlk hR
  unfold wX5_placeOfMost at h
  refine go_iconst X (v := (-1)) dX5_placeOfMost_0 (by decide) ?_
  refine go_istore_n X (lv' := [(1, .int (-1)), (0, .ref a_o)]) dX5_placeOfMost_1 rfl (by decide) rfl ?_
  refine go_iconst X (v := 0) dX5_placeOfMost_2 (by decide) ?_
  refine go_istore_n X (lv' := [(2, .int 0), (1, .int (-1)), (0, .ref a_o)]) dX5_placeOfMost_3 rfl (by decide) rfl ?_
  refine go_iconst X (v := 0) dX5_placeOfMost_4 (by decide) ?_
  refine go_istore_n X (lv' := [(3, .int 0), (2, .int 0), (1, .int (-1)), (0, .ref a_o)]) dX5_placeOfMost_5 rfl (by decide) rfl ?_
  obtain ⟨n19, h⟩ := h
  refine go_lv [3, 2, 1, 0] rfl ?_
  refine pX5_placeOfMost_6 l X a_o a_o_places a_o_covered a_o_kind a_o_count a_o_freeFrom a_o_taken o_takenCount o_n o_covered o_kind o_count  _ (fun y1 y2 y3 h => ?_) n19 ((-1) : Int32) (0 : Int32) (0 : Int32) h
  refine go_iload_n X dX5_placeOfMost_66 0 rfl rfl ?_
  exact hR y1 () 67 _ dX5_placeOfMost_67 rfl h
/-! X5_countRows -/
theorem fi_X5_countRows_X5 : ∀ w ∈ u_ws RX5 TX5 8, w ∈ wsX5_countRows := by decide +kernel
theorem fl_X5_countRows_28 : Cond.fieldLink RX5 28 (TX5 3).1 (TX5 3).2.1 (TX5 3).2.2.1 ∈ wsX5_countRows := by decide +kernel
theorem fl_X5_countRows_31 : Cond.fieldLink RX5 31 (TX5 4).1 (TX5 4).2.1 (TX5 4).2.2.1 ∈ wsX5_countRows := by decide +kernel
theorem fl_X5_countRows_24 : Cond.fieldLink RX5 24 (TX5 2).1 (TX5 2).2.1 (TX5 2).2.2.1 ∈ wsX5_countRows := by decide +kernel
theorem fl_X5_countRows_37 : Cond.fieldLink RX5 37 (TX5 7).1 (TX5 7).2.1 (TX5 7).2.2.1 ∈ wsX5_countRows := by decide +kernel
def rm_X5_countRows : Room := { frames := 1, cells := 0, slots := 0, locals := 23 }
theorem cd_X5_countRows : yX5_countRows.cls = RX5 ∧ yX5_countRows.cls ≠ "java/lang/invoke/MethodHandle" ∧ yX5_countRows.cls ≠ "java/lang/invoke/VarHandle" ∧ (parseMethodDescriptor yX5_countRows.desc).map (fun d => d.parameters.length) = some 0 := by decide +kernel
set_option maxRecDepth 100000 in
set_option maxHeartbeats 4000000 in
theorem pX5_countRows_18 {p : Program} (l : Launch) {e : Env} {s : State} {m : MethodId} {args : Array Value} {below : List Frame} {meth : Method} {c : Code} {Q : State → Prop} {D : va_G} {cy : Nat → ClassId} {A : Nat → Prop} (X : Cx p s m args c cX5_countRows 2 RX5 wsX5_countRows D (tyL cy) A) (a_o : Nat) (a_o_places : Nat) (a_o_covered : Nat) (a_o_kind : Nat) (a_o_count : Nat) (a_o_freeFrom : Nat) (a_o_taken : Nat) (o_takenCount : Int32) (o_n : Int32) (o_covered : Nat → Int32) (o_kind : Nat → Int32) (K : (Nat → Int32) → (Nat → Int32) → Int32 → Prop) (hK : ∀ (o_count : Nat → Int32) (o_freeFrom : Nat → Int32) (v1 : Int32), K o_count o_freeFrom v1 → Go p l e rm_X5_countRows s m args below meth c Q 2 D A [(a_o, .inr (8, [.ref a_o_places, .ref a_o_covered, .ref a_o_kind, .ref a_o_count, .ref a_o_freeFrom, .ref a_o_taken, .int o_takenCount, .int o_n])), (a_o_covered, .inl (cy 2, 320, .inl o_covered)), (a_o_kind, .inl (cy 1, 320, .inl o_kind)), (a_o_count, .inl (cy 1, 320, .inl o_count)), (a_o_freeFrom, .inl (cy 1, 320, .inl o_freeFrom))] 0 0 86 [] []) :
    ∀ (n : Nat) (o_count : Nat → Int32) (o_freeFrom : Nat → Int32) (v1 : Int32), wX5_countRows_18 o_n o_covered o_kind K n o_count o_freeFrom v1 → Go p l e rm_X5_countRows s m args below meth c Q 2 D A [(a_o, .inr (8, [.ref a_o_places, .ref a_o_covered, .ref a_o_kind, .ref a_o_count, .ref a_o_freeFrom, .ref a_o_taken, .int o_takenCount, .int o_n])), (a_o_covered, .inl (cy 2, 320, .inl o_covered)), (a_o_kind, .inl (cy 1, 320, .inl o_kind)), (a_o_count, .inl (cy 1, 320, .inl o_count)), (a_o_freeFrom, .inl (cy 1, 320, .inl o_freeFrom))] 0 0 18 [(0, .ref a_o), (1, .int v1)] [] := by
  intro n
  induction n with
  | zero => intro o_count o_freeFrom v1 h; exact absurd h id
  | succ n ih =>
    intro o_count o_freeFrom v1 h
    refine go_iload_n X dX5_countRows_18 1 rfl rfl ?_
    refine go_sipush X (v := 320) dX5_countRows_19 (by decide) ?_
    refine go_icmp_ge X 86 dX5_countRows_22 (by decide) (fun c6 => ?_) (fun c6 => ?_)
    · replace h := h.1 c6
      refine go_lv [] rfl ?_
      exact hK o_count o_freeFrom v1 h
    · replace h := h.2 c6
      refine go_aload_n X dX5_countRows_25 0 rfl rfl ?_
      refine go_iload_n X dX5_countRows_26 1 rfl rfl ?_
      refine go_callVi X (kX5_isFreeRow l D cy a_o a_o_places a_o_covered a_o_kind a_o_count a_o_freeFrom a_o_taken o_takenCount o_n o_covered o_kind v1 _ h) (cwV 1 X.2.2.2.2.1 gX5_countRows_X5_isFreeRow rfl rfl rfl cd_X5_isFreeRow ⟨by decide, by decide⟩) (wr := [(a_o_count, .inl (cy 1, 320, .inl o_count)), (a_o_freeFrom, .inl (cy 1, 320, .inl o_freeFrom))]) (ws2 := fun u => [(a_o, .inr (8, [.ref a_o_places, .ref a_o_covered, .ref a_o_kind, .ref a_o_count, .ref a_o_freeFrom, .ref a_o_taken, .int o_takenCount, .int o_n])), (a_o_covered, .inl (cy 2, 320, .inl o_covered)), (a_o_kind, .inl (cy 1, 320, .inl o_kind)), (a_o_count, .inl (cy 1, 320, .inl o_count)), (a_o_freeFrom, .inl (cy 1, 320, .inl o_freeFrom))]) (perm_idx [0, 1, 2, 3, 4] rfl rfl) (fun u => perm_idx [0, 1, 2, 3, 4] rfl rfl) rfl rfl rfl rfl (Nat.le_of_ble_eq_true rfl) dX5_countRows_27 ⟨by decide, by decide⟩ (fun r7 u h => ?_)
      refine go_if_eq X 80 dX5_countRows_30 (by decide) (fun c8 => ?_) (fun c8 => ?_)
      · replace h := h.1 c8
        obtain ⟨y9, ey9⟩ : ∃ z : Int32, z = v1 + 1 := ⟨_, rfl⟩
        replace h := h y9 ey9
        refine go_iinc X (lv' := [(1, .int y9), (0, .ref a_o)]) y9 dX5_countRows_80 1 rfl (by rw [ey9]; rfl) (by decide) rfl ?_
        refine go_goto X 18 dX5_countRows_83 (by decide) ?_
        refine go_lv [1, 0] rfl ?_
        exact ih o_count o_freeFrom y9 h
      · replace h := h.2 c8
        refine go_iload_n X dX5_countRows_33 1 rfl rfl ?_
        refine go_aload_n X dX5_countRows_34 0 rfl rfl ?_
        refine go_get X fi_X5_countRows_X5 0 rfl rfl 4 (by decide) fl_X5_countRows_31 rfl dX5_countRows_35 ?_
        refine go_aload_n X dX5_countRows_38 0 rfl rfl ?_
        refine go_get X fi_X5_countRows_X5 0 rfl rfl 2 (by decide) fl_X5_countRows_24 rfl dX5_countRows_39 ?_
        refine go_iload_n X dX5_countRows_42 1 rfl rfl ?_
        obtain ⟨c10, h⟩ := h
        refine go_iald X 2 1 rfl rfl c10 dX5_countRows_43 ?_
        obtain ⟨c11, h⟩ := h
        refine go_iald X 4 1 rfl rfl c11 dX5_countRows_44 ?_
        refine go_icmp_lt X 80 dX5_countRows_45 (by decide) (fun c12 => ?_) (fun c12 => ?_)
        · replace h := h.1 c12
          obtain ⟨y13, ey13⟩ : ∃ z : Int32, z = v1 + 1 := ⟨_, rfl⟩
          replace h := h y13 ey13
          refine go_iinc X (lv' := [(1, .int y13), (0, .ref a_o)]) y13 dX5_countRows_80 1 rfl (by rw [ey13]; rfl) (by decide) rfl ?_
          refine go_goto X 18 dX5_countRows_83 (by decide) ?_
          refine go_lv [1, 0] rfl ?_
          exact ih o_count o_freeFrom y13 h
        · replace h := h.2 c12
          refine go_aload_n X dX5_countRows_48 0 rfl rfl ?_
          refine go_get X fi_X5_countRows_X5 0 rfl rfl 3 (by decide) fl_X5_countRows_28 rfl dX5_countRows_49 ?_
          refine go_aload_n X dX5_countRows_52 0 rfl rfl ?_
          refine go_get X fi_X5_countRows_X5 0 rfl rfl 2 (by decide) fl_X5_countRows_24 rfl dX5_countRows_53 ?_
          refine go_iload_n X dX5_countRows_56 1 rfl rfl ?_
          obtain ⟨c14, h⟩ := h
          refine go_iald X 2 1 rfl rfl c14 dX5_countRows_57 ?_
          refine go_dup2 X dX5_countRows_58 rfl rfl ?_
          obtain ⟨c15, h⟩ := h
          refine go_iald X 3 1 rfl rfl c15 dX5_countRows_59 ?_
          refine go_iconst X (v := 1) dX5_countRows_60 (by decide) ?_
          refine go_iadd X dX5_countRows_61 ?_
          obtain ⟨c16, h⟩ := h
          refine go_iast X [(a_o, .inr (8, [.ref a_o_places, .ref a_o_covered, .ref a_o_kind, .ref a_o_count, .ref a_o_freeFrom, .ref a_o_taken, .int o_takenCount, .int o_n])), (a_o_covered, .inl (cy 2, 320, .inl o_covered)), (a_o_kind, .inl (cy 1, 320, .inl o_kind)), (a_o_count, .inl (cy 1, 320, .inl (upd o_count (o_kind v1.toNatClampNeg).toNatClampNeg ((o_count (o_kind v1.toNatClampNeg).toNatClampNeg) + 1)))), (a_o_freeFrom, .inl (cy 1, 320, .inl o_freeFrom))] 3 1 rfl rfl c16 rfl dX5_countRows_62 ?_
          refine go_aload_n X dX5_countRows_63 0 rfl rfl ?_
          refine go_get X fi_X5_countRows_X5 0 rfl rfl 4 (by decide) fl_X5_countRows_31 rfl dX5_countRows_64 ?_
          refine go_aload_n X dX5_countRows_67 0 rfl rfl ?_
          refine go_get X fi_X5_countRows_X5 0 rfl rfl 2 (by decide) fl_X5_countRows_24 rfl dX5_countRows_68 ?_
          refine go_iload_n X dX5_countRows_71 1 rfl rfl ?_
          obtain ⟨c17, h⟩ := h
          refine go_iald X 2 1 rfl rfl c17 dX5_countRows_72 ?_
          refine go_iload_n X dX5_countRows_73 1 rfl rfl ?_
          refine go_aload_n X dX5_countRows_74 0 rfl rfl ?_
          refine go_get X fi_X5_countRows_X5 0 rfl rfl 7 (by decide) fl_X5_countRows_37 rfl dX5_countRows_75 ?_
          refine go_iadd X dX5_countRows_78 ?_
          obtain ⟨c18, h⟩ := h
          refine go_iast X [(a_o, .inr (8, [.ref a_o_places, .ref a_o_covered, .ref a_o_kind, .ref a_o_count, .ref a_o_freeFrom, .ref a_o_taken, .int o_takenCount, .int o_n])), (a_o_covered, .inl (cy 2, 320, .inl o_covered)), (a_o_kind, .inl (cy 1, 320, .inl o_kind)), (a_o_count, .inl (cy 1, 320, .inl (upd o_count (o_kind v1.toNatClampNeg).toNatClampNeg ((o_count (o_kind v1.toNatClampNeg).toNatClampNeg) + 1)))), (a_o_freeFrom, .inl (cy 1, 320, .inl (upd o_freeFrom (o_kind v1.toNatClampNeg).toNatClampNeg (v1 + o_n))))] 4 1 rfl rfl c18 rfl dX5_countRows_79 ?_
          obtain ⟨y19, ey19⟩ : ∃ z : Int32, z = v1 + 1 := ⟨_, rfl⟩
          replace h := h y19 ey19
          refine go_iinc X (lv' := [(1, .int y19), (0, .ref a_o)]) y19 dX5_countRows_80 1 rfl (by rw [ey19]; rfl) (by decide) rfl ?_
          refine go_goto X 18 dX5_countRows_83 (by decide) ?_
          refine go_lv [1, 0] rfl ?_
          exact ih (upd o_count (o_kind v1.toNatClampNeg).toNatClampNeg ((o_count (o_kind v1.toNatClampNeg).toNatClampNeg) + 1)) (upd o_freeFrom (o_kind v1.toNatClampNeg).toNatClampNeg (v1 + o_n)) y19 h
set_option maxRecDepth 100000 in
set_option maxHeartbeats 4000000 in
theorem kX5_countRows (l : Launch) (D : va_G) (cy : Nat → ClassId) (a_o : Nat) (a_o_places : Nat) (a_o_covered : Nat) (a_o_kind : Nat) (a_o_count : Nat) (a_o_freeFrom : Nat) (a_o_taken : Nat) (o_takenCount : Int32) (o_n : Int32) (o_covered : Nat → Int32) (o_kind : Nat → Int32) (o_count : Nat → Int32) (o_freeFrom : Nat → Int32) (post : (Nat → Int32) → (Nat → Int32) → Prop) (h : wX5_countRows o_n o_covered o_kind o_count o_freeFrom post) : MetV l yX5_countRows wsX5_countRows rm_X5_countRows D (tyL cy) [.ref a_o] [(a_o, .inr (8, [.ref a_o_places, .ref a_o_covered, .ref a_o_kind, .ref a_o_count, .ref a_o_freeFrom, .ref a_o_taken, .int o_takenCount, .int o_n])), (a_o_covered, .inl (cy 2, 320, .inl o_covered)), (a_o_kind, .inl (cy 1, 320, .inl o_kind)), (a_o_count, .inl (cy 1, 320, .inl o_count)), (a_o_freeFrom, .inl (cy 1, 320, .inl o_freeFrom))] (fun u : (Nat → Int32) × (Nat → Int32) => [(a_o, .inr (8, [.ref a_o_places, .ref a_o_covered, .ref a_o_kind, .ref a_o_count, .ref a_o_freeFrom, .ref a_o_taken, .int o_takenCount, .int o_n])), (a_o_covered, .inl (cy 2, 320, .inl o_covered)), (a_o_kind, .inl (cy 1, 320, .inl o_kind)), (a_o_count, .inl (cy 1, 320, .inl u.1)), (a_o_freeFrom, .inl (cy 1, 320, .inl u.2))]) (fun (u : (Nat → Int32) × (Nat → Int32)) => post u.1 u.2) 0 0 := by
  refine metV_of (cc := cX5_countRows) (maxL := 2) (lv := [(0, .ref a_o)]) (by decide) rfl (Nat.le_of_ble_eq_true rfl) rfl ?_
  intro p e s m below meth c Q A X hlk hnm hR
  unfold wX5_countRows at h
  refine go_aload_n X dX5_countRows_0 0 rfl rfl ?_
  refine go_get X fi_X5_countRows_X5 0 rfl rfl 3 (by decide) fl_X5_countRows_28 rfl dX5_countRows_1 ?_
  refine go_iconst X (v := 0) dX5_countRows_4 (by decide) ?_
  refine go_callSv X (kJ7_fill_53178 l D cy a_o_count 320 o_count (0 : Int32) _ h) (va_cwS 2 X.2.2.2.2.1 gX5_countRows_J7_fill_53178 rfl rfl rfl cd_J7_fill_53178 ⟨by decide, by decide⟩) (wr := [(a_o, .inr (8, [.ref a_o_places, .ref a_o_covered, .ref a_o_kind, .ref a_o_count, .ref a_o_freeFrom, .ref a_o_taken, .int o_takenCount, .int o_n])), (a_o_covered, .inl (cy 2, 320, .inl o_covered)), (a_o_kind, .inl (cy 1, 320, .inl o_kind)), (a_o_freeFrom, .inl (cy 1, 320, .inl o_freeFrom))]) (ws2 := fun u => [(a_o, .inr (8, [.ref a_o_places, .ref a_o_covered, .ref a_o_kind, .ref a_o_count, .ref a_o_freeFrom, .ref a_o_taken, .int o_takenCount, .int o_n])), (a_o_covered, .inl (cy 2, 320, .inl o_covered)), (a_o_kind, .inl (cy 1, 320, .inl o_kind)), (a_o_count, .inl (cy 1, 320, .inl u)), (a_o_freeFrom, .inl (cy 1, 320, .inl o_freeFrom))]) (perm_idx [3, 0, 1, 2, 4] rfl rfl) (fun u => perm_idx [1, 2, 3, 0, 4] rfl rfl) rfl rfl (Nat.le_of_ble_eq_true rfl) dX5_countRows_5 ⟨by decide, by decide⟩ (fun u h => ?_)
  obtain ⟨s1, rfl⟩ : ∃ z, z = u := ⟨_, rfl⟩
  refine go_aload_n X dX5_countRows_8 0 rfl rfl ?_
  refine go_get X fi_X5_countRows_X5 0 rfl rfl 4 (by decide) fl_X5_countRows_31 rfl dX5_countRows_9 ?_
  refine go_iconst X (v := 0) dX5_countRows_12 (by decide) ?_
  refine go_callSv X (kJ7_fill_53178 l D cy a_o_freeFrom 320 o_freeFrom (0 : Int32) _ h) (va_cwS 2 X.2.2.2.2.1 gX5_countRows_J7_fill_53178 rfl rfl rfl cd_J7_fill_53178 ⟨by decide, by decide⟩) (wr := [(a_o, .inr (8, [.ref a_o_places, .ref a_o_covered, .ref a_o_kind, .ref a_o_count, .ref a_o_freeFrom, .ref a_o_taken, .int o_takenCount, .int o_n])), (a_o_covered, .inl (cy 2, 320, .inl o_covered)), (a_o_kind, .inl (cy 1, 320, .inl o_kind)), (a_o_count, .inl (cy 1, 320, .inl s1))]) (ws2 := fun u => [(a_o, .inr (8, [.ref a_o_places, .ref a_o_covered, .ref a_o_kind, .ref a_o_count, .ref a_o_freeFrom, .ref a_o_taken, .int o_takenCount, .int o_n])), (a_o_covered, .inl (cy 2, 320, .inl o_covered)), (a_o_kind, .inl (cy 1, 320, .inl o_kind)), (a_o_count, .inl (cy 1, 320, .inl s1)), (a_o_freeFrom, .inl (cy 1, 320, .inl u))]) (perm_idx [4, 0, 1, 2, 3] rfl rfl) (fun u => perm_idx [1, 2, 3, 4, 0] rfl rfl) rfl rfl (Nat.le_of_ble_eq_true rfl) dX5_countRows_13 ⟨by decide, by decide⟩ (fun u h => ?_)
  obtain ⟨s2, rfl⟩ : ∃ z, z = u := ⟨_, rfl⟩
  refine go_iconst X (v := 0) dX5_countRows_16 (by decide) ?_
  refine go_istore_n X (lv' := [(1, .int 0), (0, .ref a_o)]) dX5_countRows_17 rfl (by decide) rfl ?_
  obtain ⟨n20, h⟩ := h
  refine go_lv [1, 0] rfl ?_
  refine pX5_countRows_18 l X a_o a_o_places a_o_covered a_o_kind a_o_count a_o_freeFrom a_o_taken o_takenCount o_n o_covered o_kind  _ (fun s3 s4 y5 h => ?_) n20 s1 s2 (0 : Int32) h
  exact hR (s3, s4) 86 _ dX5_countRows_86 h
/-! X5_handOver -/
theorem fi_X5_handOver_X5 : ∀ w ∈ u_ws RX5 TX5 8, w ∈ wsX5_handOver := by decide +kernel
theorem fl_X5_handOver_41 : Cond.fieldLink RX5 41 (TX5 6).1 (TX5 6).2.1 (TX5 6).2.2.1 ∈ wsX5_handOver := by decide +kernel
theorem fl_X5_handOver_16 : Cond.fieldLink RX5 16 (TX5 0).1 (TX5 0).2.1 (TX5 0).2.2.1 ∈ wsX5_handOver := by decide +kernel
theorem fl_X5_handOver_34 : Cond.fieldLink RX5 34 (TX5 5).1 (TX5 5).2.1 (TX5 5).2.2.1 ∈ wsX5_handOver := by decide +kernel
def rm_X5_handOver : Room := { frames := 4, cells := 0, slots := 0, locals := 88 }
theorem cd_X5_handOver : yX5_handOver.cls = RX5 ∧ yX5_handOver.cls ≠ "java/lang/invoke/MethodHandle" ∧ yX5_handOver.cls ≠ "java/lang/invoke/VarHandle" ∧ (parseMethodDescriptor yX5_handOver.desc).map (fun d => d.parameters.length) = some 1 := by decide +kernel
set_option maxRecDepth 100000 in
set_option maxHeartbeats 4000000 in
theorem pX5_handOver_7 {p : Program} (l : Launch) {e : Env} {s : State} {m : MethodId} {args : Array Value} {below : List Frame} {meth : Method} {c : Code} {Q : State → Prop} {D : va_G} {cy : Nat → ClassId} {A : Nat → Prop} (X : Cx p s m args c cX5_handOver 3 RX5 wsX5_handOver D (tyL cy) A) (a_o : Nat) (a_o_places : Nat) (a_o_covered : Nat) (a_o_kind : Nat) (a_o_count : Nat) (a_o_freeFrom : Nat) (a_o_taken : Nat) (a_o_places_bytes : Nat) (n_o_places_bytes : Nat) (a_p1 : Nat) (a_p1_words : Nat) (a_p1_words_bytes : Nat) (n_p1_words_bytes : Nat) (o_takenCount : Int32) (o_n : Int32) (o_places_length : Int32) (o_places_bytes : Nat → Int32) (o_taken : Nat → Int32) (p1_pieceLength : Int32) (p1_id : Int32) (K : Int32 → Int32 → (Nat → Int32) → Int32 → Prop) (hK : ∀ (p1_pieces : Int32) (p1_words_length : Int32) (p1_words_bytes : Nat → Int32) (v2 : Int32), K p1_pieces p1_words_length p1_words_bytes v2 → Go p l e rm_X5_handOver s m args below meth c Q 3 D A [(a_o, .inr (8, [.ref a_o_places, .ref a_o_covered, .ref a_o_kind, .ref a_o_count, .ref a_o_freeFrom, .ref a_o_taken, .int o_takenCount, .int o_n])), (a_o_places, .inr (7, [.ref a_o_places_bytes, .int o_places_length])), (a_o_places_bytes, .inl (cy 0, n_o_places_bytes, .inl o_places_bytes)), (a_o_taken, .inl (cy 1, 26, .inl o_taken)), (a_p1, .inr (3, [.ref a_p1_words, .int p1_pieceLength, .int p1_pieces, .int p1_id])), (a_p1_words, .inr (7, [.ref a_p1_words_bytes, .int p1_words_length])), (a_p1_words_bytes, .inl (cy 0, n_p1_words_bytes, .inl p1_words_bytes))] 0 0 31 [] []) :
    ∀ (n : Nat) (p1_pieces : Int32) (p1_words_length : Int32) (p1_words_bytes : Nat → Int32) (v2 : Int32), wX5_handOver_7 n_o_places_bytes n_p1_words_bytes o_places_length o_places_bytes o_taken p1_pieceLength K n p1_pieces p1_words_length p1_words_bytes v2 → Go p l e rm_X5_handOver s m args below meth c Q 3 D A [(a_o, .inr (8, [.ref a_o_places, .ref a_o_covered, .ref a_o_kind, .ref a_o_count, .ref a_o_freeFrom, .ref a_o_taken, .int o_takenCount, .int o_n])), (a_o_places, .inr (7, [.ref a_o_places_bytes, .int o_places_length])), (a_o_places_bytes, .inl (cy 0, n_o_places_bytes, .inl o_places_bytes)), (a_o_taken, .inl (cy 1, 26, .inl o_taken)), (a_p1, .inr (3, [.ref a_p1_words, .int p1_pieceLength, .int p1_pieces, .int p1_id])), (a_p1_words, .inr (7, [.ref a_p1_words_bytes, .int p1_words_length])), (a_p1_words_bytes, .inl (cy 0, n_p1_words_bytes, .inl p1_words_bytes))] 0 0 7 [(0, .ref a_o), (1, .ref a_p1), (2, .int v2)] [] := by
  intro n
  induction n with
  | zero => intro p1_pieces p1_words_length p1_words_bytes v2 h; exact absurd h id
  | succ n ih =>
    intro p1_pieces p1_words_length p1_words_bytes v2 h
    refine go_iload_n X dX5_handOver_7 2 rfl rfl ?_
    refine go_if_lt X 31 dX5_handOver_8 (by decide) (fun c6 => ?_) (fun c6 => ?_)
    · replace h := h.1 c6
      refine go_lv [] rfl ?_
      exact hK p1_pieces p1_words_length p1_words_bytes v2 h
    · replace h := h.2 c6
      refine go_aload_n X dX5_handOver_11 1 rfl rfl ?_
      refine go_aload_n X dX5_handOver_12 0 rfl rfl ?_
      refine go_get X fi_X5_handOver_X5 0 rfl rfl 0 (by decide) fl_X5_handOver_16 rfl dX5_handOver_13 ?_
      refine go_aload_n X dX5_handOver_16 0 rfl rfl ?_
      refine go_get X fi_X5_handOver_X5 0 rfl rfl 5 (by decide) fl_X5_handOver_34 rfl dX5_handOver_17 ?_
      refine go_iload_n X dX5_handOver_20 2 rfl rfl ?_
      obtain ⟨c7, h⟩ := h
      refine go_iald X 3 1 rfl rfl c7 dX5_handOver_21 ?_
      refine go_callVv X (kX0_addPiece l D cy a_p1 a_p1_words a_p1_words_bytes n_p1_words_bytes a_o_places a_o_places_bytes n_o_places_bytes p1_pieceLength p1_pieces p1_id p1_words_length p1_words_bytes o_places_length o_places_bytes (o_taken v2.toNatClampNeg) _ h) (cwV 2 X.2.2.2.2.1 gX5_handOver_X0_addPiece rfl rfl rfl cd_X0_addPiece ⟨by decide, by decide⟩) (wr := [(a_o, .inr (8, [.ref a_o_places, .ref a_o_covered, .ref a_o_kind, .ref a_o_count, .ref a_o_freeFrom, .ref a_o_taken, .int o_takenCount, .int o_n])), (a_o_taken, .inl (cy 1, 26, .inl o_taken))]) (ws2 := fun u => [(a_o, .inr (8, [.ref a_o_places, .ref a_o_covered, .ref a_o_kind, .ref a_o_count, .ref a_o_freeFrom, .ref a_o_taken, .int o_takenCount, .int o_n])), (a_o_places, .inr (7, [.ref a_o_places_bytes, .int o_places_length])), (a_o_places_bytes, .inl (cy 0, n_o_places_bytes, .inl o_places_bytes)), (a_o_taken, .inl (cy 1, 26, .inl o_taken)), (a_p1, .inr (3, [.ref a_p1_words, .int p1_pieceLength, .int u.1, .int p1_id])), (a_p1_words, .inr (7, [.ref a_p1_words_bytes, .int u.2.1])), (a_p1_words_bytes, .inl (cy 0, n_p1_words_bytes, .inl u.2.2))]) (perm_idx [4, 5, 6, 1, 2, 0, 3] rfl rfl) (fun u => perm_idx [5, 3, 4, 6, 0, 1, 2] rfl rfl) rfl rfl rfl rfl (Nat.le_of_ble_eq_true rfl) dX5_handOver_22 ⟨by decide, by decide⟩ (fun u h => ?_)
      obtain ⟨s8, s9, s10⟩ := u
      obtain ⟨y11, ey11⟩ : ∃ z : Int32, z = v2 + (-1) := ⟨_, rfl⟩
      replace h := h y11 ey11
      refine go_iinc X (lv' := [(2, .int y11), (0, .ref a_o), (1, .ref a_p1)]) y11 dX5_handOver_25 2 rfl (by rw [ey11]; rfl) (by decide) rfl ?_
      refine go_goto X 7 dX5_handOver_28 (by decide) ?_
      refine go_lv [1, 2, 0] rfl ?_
      exact ih s8 s9 s10 y11 h
set_option maxRecDepth 100000 in
set_option maxHeartbeats 4000000 in
theorem kX5_handOver (l : Launch) (D : va_G) (cy : Nat → ClassId) (a_o : Nat) (a_o_places : Nat) (a_o_covered : Nat) (a_o_kind : Nat) (a_o_count : Nat) (a_o_freeFrom : Nat) (a_o_taken : Nat) (a_o_places_bytes : Nat) (n_o_places_bytes : Nat) (a_p1 : Nat) (a_p1_words : Nat) (a_p1_words_bytes : Nat) (n_p1_words_bytes : Nat) (o_takenCount : Int32) (o_n : Int32) (o_places_length : Int32) (o_places_bytes : Nat → Int32) (o_taken : Nat → Int32) (p1_pieceLength : Int32) (p1_pieces : Int32) (p1_id : Int32) (p1_words_length : Int32) (p1_words_bytes : Nat → Int32) (post : Int32 → Int32 → (Nat → Int32) → Prop) (h : wX5_handOver n_o_places_bytes n_p1_words_bytes o_takenCount o_places_length o_places_bytes o_taken p1_pieceLength p1_pieces p1_words_length p1_words_bytes post) : MetV l yX5_handOver wsX5_handOver rm_X5_handOver D (tyL cy) [.ref a_o, .ref a_p1] [(a_o, .inr (8, [.ref a_o_places, .ref a_o_covered, .ref a_o_kind, .ref a_o_count, .ref a_o_freeFrom, .ref a_o_taken, .int o_takenCount, .int o_n])), (a_o_places, .inr (7, [.ref a_o_places_bytes, .int o_places_length])), (a_o_places_bytes, .inl (cy 0, n_o_places_bytes, .inl o_places_bytes)), (a_o_taken, .inl (cy 1, 26, .inl o_taken)), (a_p1, .inr (3, [.ref a_p1_words, .int p1_pieceLength, .int p1_pieces, .int p1_id])), (a_p1_words, .inr (7, [.ref a_p1_words_bytes, .int p1_words_length])), (a_p1_words_bytes, .inl (cy 0, n_p1_words_bytes, .inl p1_words_bytes))] (fun u : Int32 × Int32 × (Nat → Int32) => [(a_o, .inr (8, [.ref a_o_places, .ref a_o_covered, .ref a_o_kind, .ref a_o_count, .ref a_o_freeFrom, .ref a_o_taken, .int o_takenCount, .int o_n])), (a_o_places, .inr (7, [.ref a_o_places_bytes, .int o_places_length])), (a_o_places_bytes, .inl (cy 0, n_o_places_bytes, .inl o_places_bytes)), (a_o_taken, .inl (cy 1, 26, .inl o_taken)), (a_p1, .inr (3, [.ref a_p1_words, .int p1_pieceLength, .int u.1, .int p1_id])), (a_p1_words, .inr (7, [.ref a_p1_words_bytes, .int u.2.1])), (a_p1_words_bytes, .inl (cy 0, n_p1_words_bytes, .inl u.2.2))]) (fun (u : Int32 × Int32 × (Nat → Int32)) => post u.1 u.2.1 u.2.2) 0 0 := by
  refine metV_of (cc := cX5_handOver) (maxL := 3) (lv := [(0, .ref a_o), (1, .ref a_p1)]) (by decide) rfl (Nat.le_of_ble_eq_true rfl) rfl ?_
  intro p e s m below meth c Q A X hlk hnm hR
  unfold wX5_handOver at h
  refine go_aload_n X dX5_handOver_0 0 rfl rfl ?_
  refine go_get X fi_X5_handOver_X5 0 rfl rfl 6 (by decide) fl_X5_handOver_41 rfl dX5_handOver_1 ?_
  refine go_iconst X (v := 1) dX5_handOver_4 (by decide) ?_
  refine go_isub X dX5_handOver_5 ?_
  refine go_topi (fun y1 ey1 => ?_)
  replace h := h y1 ey1
  refine go_istore_n X (lv' := [(2, .int y1), (0, .ref a_o), (1, .ref a_p1)]) dX5_handOver_6 rfl (by decide) rfl ?_
  obtain ⟨n12, h⟩ := h
  refine go_lv [1, 2, 0] rfl ?_
  refine pX5_handOver_7 l X a_o a_o_places a_o_covered a_o_kind a_o_count a_o_freeFrom a_o_taken a_o_places_bytes n_o_places_bytes a_p1 a_p1_words a_p1_words_bytes n_p1_words_bytes o_takenCount o_n o_places_length o_places_bytes o_taken p1_pieceLength p1_id  _ (fun s2 s3 s4 y5 h => ?_) n12 p1_pieces p1_words_length p1_words_bytes y1 h
  exact hR (s2, s3, s4) 31 _ dX5_handOver_31 h
/-! X5_takeRows -/
theorem fi_X5_takeRows_X5 : ∀ w ∈ u_ws RX5 TX5 8, w ∈ wsX5_takeRows := by decide +kernel
theorem fl_X5_takeRows_41 : Cond.fieldLink RX5 41 (TX5 6).1 (TX5 6).2.1 (TX5 6).2.2.1 ∈ wsX5_takeRows := by decide +kernel
theorem fl_X5_takeRows_37 : Cond.fieldLink RX5 37 (TX5 7).1 (TX5 7).2.1 (TX5 7).2.2.1 ∈ wsX5_takeRows := by decide +kernel
theorem fl_X5_takeRows_28 : Cond.fieldLink RX5 28 (TX5 3).1 (TX5 3).2.1 (TX5 3).2.2.1 ∈ wsX5_takeRows := by decide +kernel
theorem fl_X5_takeRows_24 : Cond.fieldLink RX5 24 (TX5 2).1 (TX5 2).2.1 (TX5 2).2.2.1 ∈ wsX5_takeRows := by decide +kernel
theorem fl_X5_takeRows_34 : Cond.fieldLink RX5 34 (TX5 5).1 (TX5 5).2.1 (TX5 5).2.2.1 ∈ wsX5_takeRows := by decide +kernel
def rm_X5_takeRows : Room := { frames := 2, cells := 0, slots := 0, locals := 46 }
theorem cd_X5_takeRows : yX5_takeRows.cls = RX5 ∧ yX5_takeRows.cls ≠ "java/lang/invoke/MethodHandle" ∧ yX5_takeRows.cls ≠ "java/lang/invoke/VarHandle" ∧ (parseMethodDescriptor yX5_takeRows.desc).map (fun d => d.parameters.length) = some 1 := by decide +kernel
set_option maxRecDepth 100000 in
set_option maxHeartbeats 4000000 in
theorem pX5_takeRows_0 {p : Program} (l : Launch) {e : Env} {s : State} {m : MethodId} {args : Array Value} {below : List Frame} {meth : Method} {c : Code} {Q : State → Prop} {D : va_G} {cy : Nat → ClassId} {A : Nat → Prop} (X : Cx p s m args c cX5_takeRows 3 RX5 wsX5_takeRows D (tyL cy) A) (a_o : Nat) (a_o_places : Nat) (a_o_covered : Nat) (a_o_kind : Nat) (a_o_count : Nat) (a_o_freeFrom : Nat) (a_o_taken : Nat) (o_n : Int32) (o_kind : Nat → Int32) (v1 : Int32) (post : Int32 → (Nat → Int32) → (Nat → Int32) → (Nat → Int32) → (Nat → Int32) → Prop) (hR : RtV p l e rm_X5_takeRows s m args below meth c cX5_takeRows Q 3 D A (fun u : Int32 × (Nat → Int32) × (Nat → Int32) × (Nat → Int32) × (Nat → Int32) => [(a_o, .inr (8, [.ref a_o_places, .ref a_o_covered, .ref a_o_kind, .ref a_o_count, .ref a_o_freeFrom, .ref a_o_taken, .int u.1, .int o_n])), (a_o_covered, .inl (cy 2, 320, .inl u.2.1)), (a_o_kind, .inl (cy 1, 320, .inl o_kind)), (a_o_count, .inl (cy 1, 320, .inl u.2.2.1)), (a_o_freeFrom, .inl (cy 1, 320, .inl u.2.2.2.1)), (a_o_taken, .inl (cy 1, 26, .inl u.2.2.2.2))]) (fun (u : Int32 × (Nat → Int32) × (Nat → Int32) × (Nat → Int32) × (Nat → Int32)) => post u.1 u.2.1 u.2.2.1 u.2.2.2.1 u.2.2.2.2) 0 0) (K : Int32 → (Nat → Int32) → (Nat → Int32) → (Nat → Int32) → (Nat → Int32) → Prop) (hK : ∀ (o_takenCount : Int32) (o_covered : Nat → Int32) (o_count : Nat → Int32) (o_freeFrom : Nat → Int32) (o_taken : Nat → Int32), K o_takenCount o_covered o_count o_freeFrom o_taken → Go p l e rm_X5_takeRows s m args below meth c Q 3 D A [(a_o, .inr (8, [.ref a_o_places, .ref a_o_covered, .ref a_o_kind, .ref a_o_count, .ref a_o_freeFrom, .ref a_o_taken, .int o_takenCount, .int o_n])), (a_o_covered, .inl (cy 2, 320, .inl o_covered)), (a_o_kind, .inl (cy 1, 320, .inl o_kind)), (a_o_count, .inl (cy 1, 320, .inl o_count)), (a_o_freeFrom, .inl (cy 1, 320, .inl o_freeFrom)), (a_o_taken, .inl (cy 1, 26, .inl o_taken))] 0 0 100 [] []) :
    ∀ (n : Nat) (o_takenCount : Int32) (o_covered : Nat → Int32) (o_count : Nat → Int32) (o_freeFrom : Nat → Int32) (o_taken : Nat → Int32), wX5_takeRows_0 o_n o_kind v1 post K n o_takenCount o_covered o_count o_freeFrom o_taken → Go p l e rm_X5_takeRows s m args below meth c Q 3 D A [(a_o, .inr (8, [.ref a_o_places, .ref a_o_covered, .ref a_o_kind, .ref a_o_count, .ref a_o_freeFrom, .ref a_o_taken, .int o_takenCount, .int o_n])), (a_o_covered, .inl (cy 2, 320, .inl o_covered)), (a_o_kind, .inl (cy 1, 320, .inl o_kind)), (a_o_count, .inl (cy 1, 320, .inl o_count)), (a_o_freeFrom, .inl (cy 1, 320, .inl o_freeFrom)), (a_o_taken, .inl (cy 1, 26, .inl o_taken))] 0 0 0 [(0, .ref a_o), (1, .int v1)] [] := by
  intro n
  induction n with
  | zero => intro o_takenCount o_covered o_count o_freeFrom o_taken h; exact absurd h id
  | succ n ih =>
    intro o_takenCount o_covered o_count o_freeFrom o_taken h
    refine go_aload_n X dX5_takeRows_0 0 rfl rfl ?_
    refine go_get X fi_X5_takeRows_X5 0 rfl rfl 6 (by decide) fl_X5_takeRows_41 rfl dX5_takeRows_1 ?_
    refine go_bipush X (v := 26) dX5_takeRows_4 (by decide) ?_
    refine go_icmp_ge X 100 dX5_takeRows_6 (by decide) (fun c6 => ?_) (fun c6 => ?_)
    · replace h := h.1 c6
      refine go_lv [] rfl ?_
      exact hK o_takenCount o_covered o_count o_freeFrom o_taken h
    · replace h := h.2 c6
      refine go_aload_n X dX5_takeRows_9 0 rfl rfl ?_
      refine go_get X fi_X5_takeRows_X5 0 rfl rfl 6 (by decide) fl_X5_takeRows_41 rfl dX5_takeRows_10 ?_
      refine go_iconst X (v := 1) dX5_takeRows_13 (by decide) ?_
      refine go_iadd X dX5_takeRows_14 ?_
      refine go_aload_n X dX5_takeRows_15 0 rfl rfl ?_
      refine go_get X fi_X5_takeRows_X5 0 rfl rfl 7 (by decide) fl_X5_takeRows_37 rfl dX5_takeRows_16 ?_
      refine go_imul X dX5_takeRows_19 ?_
      refine go_iload_n X dX5_takeRows_20 1 rfl rfl ?_
      refine go_icmp_gt X 100 dX5_takeRows_21 (by decide) (fun c7 => ?_) (fun c7 => ?_)
      · replace h := h.1 c7
        refine go_lv [] rfl ?_
        exact hK o_takenCount o_covered o_count o_freeFrom o_taken h
      · replace h := h.2 c7
        refine go_aload_n X dX5_takeRows_24 0 rfl rfl ?_
        refine go_callVv X (kX5_countRows l D cy a_o a_o_places a_o_covered a_o_kind a_o_count a_o_freeFrom a_o_taken o_takenCount o_n o_covered o_kind o_count o_freeFrom _ h) (cwV 0 X.2.2.2.2.1 gX5_takeRows_X5_countRows rfl rfl rfl cd_X5_countRows ⟨by decide, by decide⟩) (wr := [(a_o_taken, .inl (cy 1, 26, .inl o_taken))]) (ws2 := fun u => [(a_o, .inr (8, [.ref a_o_places, .ref a_o_covered, .ref a_o_kind, .ref a_o_count, .ref a_o_freeFrom, .ref a_o_taken, .int o_takenCount, .int o_n])), (a_o_covered, .inl (cy 2, 320, .inl o_covered)), (a_o_kind, .inl (cy 1, 320, .inl o_kind)), (a_o_count, .inl (cy 1, 320, .inl u.1)), (a_o_freeFrom, .inl (cy 1, 320, .inl u.2)), (a_o_taken, .inl (cy 1, 26, .inl o_taken))]) (perm_idx [0, 1, 2, 3, 4, 5] rfl rfl) (fun u => perm_idx [0, 1, 2, 3, 4, 5] rfl rfl) rfl rfl rfl rfl (Nat.le_of_ble_eq_true rfl) dX5_takeRows_25 ⟨by decide, by decide⟩ (fun u h => ?_)
        obtain ⟨s8, s9⟩ := u
        refine go_aload_n X dX5_takeRows_28 0 rfl rfl ?_
        refine go_callVi X (kX5_placeOfMost l D cy a_o a_o_places a_o_covered a_o_kind a_o_count a_o_freeFrom a_o_taken o_takenCount o_n o_covered o_kind s8 _ h) (cwV 0 X.2.2.2.2.1 gX5_takeRows_X5_placeOfMost rfl rfl rfl cd_X5_placeOfMost ⟨by decide, by decide⟩) (wr := [(a_o_freeFrom, .inl (cy 1, 320, .inl s9)), (a_o_taken, .inl (cy 1, 26, .inl o_taken))]) (ws2 := fun u => [(a_o, .inr (8, [.ref a_o_places, .ref a_o_covered, .ref a_o_kind, .ref a_o_count, .ref a_o_freeFrom, .ref a_o_taken, .int o_takenCount, .int o_n])), (a_o_covered, .inl (cy 2, 320, .inl o_covered)), (a_o_kind, .inl (cy 1, 320, .inl o_kind)), (a_o_count, .inl (cy 1, 320, .inl s8)), (a_o_freeFrom, .inl (cy 1, 320, .inl s9)), (a_o_taken, .inl (cy 1, 26, .inl o_taken))]) (perm_idx [0, 1, 2, 3, 4, 5] rfl rfl) (fun u => perm_idx [0, 1, 2, 3, 4, 5] rfl rfl) rfl rfl rfl rfl (Nat.le_of_ble_eq_true rfl) dX5_takeRows_29 ⟨by decide, by decide⟩ (fun r10 u h => ?_)
        refine go_istore_n X (lv' := [(2, .int r10), (0, .ref a_o), (1, .int v1)]) dX5_takeRows_32 rfl (by decide) rfl ?_
        refine go_iload_n X dX5_takeRows_33 0 rfl rfl ?_
        refine go_iconst X (v := (-1)) dX5_takeRows_34 (by decide) ?_
        refine go_icmp_eq X 66 dX5_takeRows_35 (by decide) (fun c11 => ?_) (fun c11 => ?_)
        · replace h := h.1 c11
          exact hR (o_takenCount, o_covered, s8, s9, o_taken) 66 _ dX5_takeRows_66 h
        · replace h := h.2 c11
          refine go_aload_n X dX5_takeRows_38 1 rfl rfl ?_
          refine go_get X fi_X5_takeRows_X5 0 rfl rfl 7 (by decide) fl_X5_takeRows_37 rfl dX5_takeRows_39 ?_
          refine go_iconst X (v := 2) dX5_takeRows_42 (by decide) ?_
          refine go_isub X dX5_takeRows_43 ?_
          refine go_aload_n X dX5_takeRows_44 1 rfl rfl ?_
          refine go_get X fi_X5_takeRows_X5 0 rfl rfl 3 (by decide) fl_X5_takeRows_28 rfl dX5_takeRows_45 ?_
          refine go_aload_n X dX5_takeRows_48 1 rfl rfl ?_
          refine go_get X fi_X5_takeRows_X5 0 rfl rfl 2 (by decide) fl_X5_takeRows_24 rfl dX5_takeRows_49 ?_
          refine go_iload_n X dX5_takeRows_52 0 rfl rfl ?_
          obtain ⟨c12, h⟩ := h
          refine go_iald X 2 1 rfl rfl c12 dX5_takeRows_53 ?_
          obtain ⟨c13, h⟩ := h
          refine go_iald X 3 1 rfl rfl c13 dX5_takeRows_54 ?_
          refine go_imul X dX5_takeRows_55 ?_
          refine go_aload_n X dX5_takeRows_56 1 rfl rfl ?_
          refine go_get X fi_X5_takeRows_X5 0 rfl rfl 7 (by decide) fl_X5_takeRows_37 rfl dX5_takeRows_57 ?_
          refine go_iconst X (v := 1) dX5_takeRows_60 (by decide) ?_
          refine go_iadd X dX5_takeRows_61 ?_
          refine go_isub X dX5_takeRows_62 ?_
          refine go_if_gt X 67 dX5_takeRows_63 (by decide) (fun c14 => ?_) (fun c14 => ?_)
          · replace h := h.1 c14
            refine go_aload_n X dX5_takeRows_67 1 rfl rfl ?_
            refine go_get X fi_X5_takeRows_X5 0 rfl rfl 5 (by decide) fl_X5_takeRows_34 rfl dX5_takeRows_68 ?_
            refine go_aload_n X dX5_takeRows_71 1 rfl rfl ?_
            refine go_get X fi_X5_takeRows_X5 0 rfl rfl 6 (by decide) fl_X5_takeRows_41 rfl dX5_takeRows_72 ?_
            refine go_iload_n X dX5_takeRows_75 0 rfl rfl ?_
            obtain ⟨c15, h⟩ := h
            refine go_iast X [(a_o, .inr (8, [.ref a_o_places, .ref a_o_covered, .ref a_o_kind, .ref a_o_count, .ref a_o_freeFrom, .ref a_o_taken, .int o_takenCount, .int o_n])), (a_o_covered, .inl (cy 2, 320, .inl o_covered)), (a_o_kind, .inl (cy 1, 320, .inl o_kind)), (a_o_count, .inl (cy 1, 320, .inl s8)), (a_o_freeFrom, .inl (cy 1, 320, .inl s9)), (a_o_taken, .inl (cy 1, 26, .inl (upd o_taken o_takenCount.toNatClampNeg r10)))] 5 1 rfl rfl c15 rfl dX5_takeRows_76 ?_
            refine go_aload_n X dX5_takeRows_77 1 rfl rfl ?_
            refine go_dup X dX5_takeRows_78 rfl ?_
            refine go_get X fi_X5_takeRows_X5 0 rfl rfl 6 (by decide) fl_X5_takeRows_41 rfl dX5_takeRows_79 ?_
            refine go_iconst X (v := 1) dX5_takeRows_82 (by decide) ?_
            refine go_iadd X dX5_takeRows_83 ?_
            refine go_topi (fun y16 ey16 => ?_)
            replace h := h y16 ey16
            refine go_put X (ws' := [(a_o, .inr (8, [.ref a_o_places, .ref a_o_covered, .ref a_o_kind, .ref a_o_count, .ref a_o_freeFrom, .ref a_o_taken, .int y16, .int o_n])), (a_o_covered, .inl (cy 2, 320, .inl o_covered)), (a_o_kind, .inl (cy 1, 320, .inl o_kind)), (a_o_count, .inl (cy 1, 320, .inl s8)), (a_o_freeFrom, .inl (cy 1, 320, .inl s9)), (a_o_taken, .inl (cy 1, 26, .inl (upd o_taken o_takenCount.toNatClampNeg r10)))]) fi_X5_takeRows_X5 tyX5 tyX5_ok nmX5 0 rfl rfl 6 (by decide) fl_X5_takeRows_41 rfl (tyX5_ok 6 (by decide)) rfl rfl (Nat.le_of_ble_eq_true rfl) rfl dX5_takeRows_84 ?_
            refine go_aload_n X dX5_takeRows_87 1 rfl rfl ?_
            refine go_aload_n X dX5_takeRows_88 1 rfl rfl ?_
            refine go_get X fi_X5_takeRows_X5 0 rfl rfl 2 (by decide) fl_X5_takeRows_24 rfl dX5_takeRows_89 ?_
            refine go_iload_n X dX5_takeRows_92 0 rfl rfl ?_
            obtain ⟨c17, h⟩ := h
            refine go_iald X 2 1 rfl rfl c17 dX5_takeRows_93 ?_
            refine go_callVv X (kX5_cover l D cy a_o a_o_places a_o_covered a_o_kind a_o_count a_o_freeFrom a_o_taken y16 o_n o_covered o_kind (o_kind r10.toNatClampNeg) _ h) (cwV 1 X.2.2.2.2.1 gX5_takeRows_X5_cover rfl rfl rfl cd_X5_cover ⟨by decide, by decide⟩) (wr := [(a_o_count, .inl (cy 1, 320, .inl s8)), (a_o_freeFrom, .inl (cy 1, 320, .inl s9)), (a_o_taken, .inl (cy 1, 26, .inl (upd o_taken o_takenCount.toNatClampNeg r10)))]) (ws2 := fun u => [(a_o, .inr (8, [.ref a_o_places, .ref a_o_covered, .ref a_o_kind, .ref a_o_count, .ref a_o_freeFrom, .ref a_o_taken, .int y16, .int o_n])), (a_o_covered, .inl (cy 2, 320, .inl u)), (a_o_kind, .inl (cy 1, 320, .inl o_kind)), (a_o_count, .inl (cy 1, 320, .inl s8)), (a_o_freeFrom, .inl (cy 1, 320, .inl s9)), (a_o_taken, .inl (cy 1, 26, .inl (upd o_taken o_takenCount.toNatClampNeg r10)))]) (perm_idx [0, 1, 2, 3, 4, 5] rfl rfl) (fun u => perm_idx [0, 1, 2, 3, 4, 5] rfl rfl) rfl rfl rfl rfl (Nat.le_of_ble_eq_true rfl) dX5_takeRows_94 ⟨by decide, by decide⟩ (fun u h => ?_)
            obtain ⟨s18, rfl⟩ : ∃ z, z = u := ⟨_, rfl⟩
            refine go_goto X 0 dX5_takeRows_97 (by decide) ?_
            refine go_lv [1, 2] rfl ?_
            exact ih y16 s18 s8 s9 (upd o_taken o_takenCount.toNatClampNeg r10) h
          · replace h := h.2 c14
            exact hR (o_takenCount, o_covered, s8, s9, o_taken) 66 _ dX5_takeRows_66 h
set_option maxRecDepth 100000 in
set_option maxHeartbeats 4000000 in
theorem kX5_takeRows (l : Launch) (D : va_G) (cy : Nat → ClassId) (a_o : Nat) (a_o_places : Nat) (a_o_covered : Nat) (a_o_kind : Nat) (a_o_count : Nat) (a_o_freeFrom : Nat) (a_o_taken : Nat) (o_takenCount : Int32) (o_n : Int32) (o_covered : Nat → Int32) (o_kind : Nat → Int32) (o_count : Nat → Int32) (o_freeFrom : Nat → Int32) (o_taken : Nat → Int32) (p1 : Int32) (post : Int32 → (Nat → Int32) → (Nat → Int32) → (Nat → Int32) → (Nat → Int32) → Prop) (h : wX5_takeRows o_takenCount o_n o_covered o_kind o_count o_freeFrom o_taken p1 post) : MetV l yX5_takeRows wsX5_takeRows rm_X5_takeRows D (tyL cy) [.ref a_o, .int p1] [(a_o, .inr (8, [.ref a_o_places, .ref a_o_covered, .ref a_o_kind, .ref a_o_count, .ref a_o_freeFrom, .ref a_o_taken, .int o_takenCount, .int o_n])), (a_o_covered, .inl (cy 2, 320, .inl o_covered)), (a_o_kind, .inl (cy 1, 320, .inl o_kind)), (a_o_count, .inl (cy 1, 320, .inl o_count)), (a_o_freeFrom, .inl (cy 1, 320, .inl o_freeFrom)), (a_o_taken, .inl (cy 1, 26, .inl o_taken))] (fun u : Int32 × (Nat → Int32) × (Nat → Int32) × (Nat → Int32) × (Nat → Int32) => [(a_o, .inr (8, [.ref a_o_places, .ref a_o_covered, .ref a_o_kind, .ref a_o_count, .ref a_o_freeFrom, .ref a_o_taken, .int u.1, .int o_n])), (a_o_covered, .inl (cy 2, 320, .inl u.2.1)), (a_o_kind, .inl (cy 1, 320, .inl o_kind)), (a_o_count, .inl (cy 1, 320, .inl u.2.2.1)), (a_o_freeFrom, .inl (cy 1, 320, .inl u.2.2.2.1)), (a_o_taken, .inl (cy 1, 26, .inl u.2.2.2.2))]) (fun (u : Int32 × (Nat → Int32) × (Nat → Int32) × (Nat → Int32) × (Nat → Int32)) => post u.1 u.2.1 u.2.2.1 u.2.2.2.1 u.2.2.2.2) 0 0 := by
  refine metV_of (cc := cX5_takeRows) (maxL := 3) (lv := [(0, .ref a_o), (1, .int p1)]) (by decide) rfl (Nat.le_of_ble_eq_true rfl) rfl ?_
  intro p e s m below meth c Q A X hlk hnm hR
  unfold wX5_takeRows at h
  obtain ⟨n19, h⟩ := h
  refine pX5_takeRows_0 l X a_o a_o_places a_o_covered a_o_kind a_o_count a_o_freeFrom a_o_taken o_n o_kind p1 post hR _ (fun s1 s2 s3 s4 s5 h => ?_) n19 o_takenCount o_covered o_count o_freeFrom o_taken h
  exact hR (s1, s2, s3, s4, s5) 100 _ dX5_takeRows_100 h
