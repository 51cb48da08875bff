/-! X5_load -/
theorem fi_X5_load_X5 : ∀ w ∈ u_ws RX5 TX5 8, w ∈ wsX5_load := by decide +kernel
theorem fl_X5_load_37 : Cond.fieldLink RX5 37 (TX5 7).1 (TX5 7).2.1 (TX5 7).2.2.1 ∈ wsX5_load := by decide +kernel
theorem fl_X5_load_41 : Cond.fieldLink RX5 41 (TX5 6).1 (TX5 6).2.1 (TX5 6).2.2.1 ∈ wsX5_load := by decide +kernel
theorem fl_X5_load_16 : Cond.fieldLink RX5 16 (TX5 0).1 (TX5 0).2.1 (TX5 0).2.2.1 ∈ wsX5_load := by decide +kernel
theorem fl_X5_load_24 : Cond.fieldLink RX5 24 (TX5 2).1 (TX5 2).2.1 (TX5 2).2.2.1 ∈ wsX5_load := by decide +kernel
def rm_X5_load : Room := { frames := 5, cells := 0, slots := 0, locals := 110 }
theorem cd_X5_load : yX5_load.cls = RX5 ∧ yX5_load.cls ≠ "java/lang/invoke/MethodHandle" ∧ yX5_load.cls ≠ "java/lang/invoke/VarHandle" ∧ (parseMethodDescriptor yX5_load.desc).map (fun d => d.parameters.length) = some 3 := by decide +kernel
set_option maxRecDepth 100000 in
set_option maxHeartbeats 4000000 in
theorem pX5_load_37 {p : Program} (l : Launch) {e : Env} {s : State} {m : MethodId} {args : Array Value} {below : List Frame} {meth : Method} {c : Code} {Q : State → Prop} {D : va_G} {cy : Nat → ClassId} {A : Nat → Prop} (X : Cx p s m args c cX5_load 5 RX5 wsX5_load D (tyL cy) A) (a_o : Nat) (a_o_places : Nat) (a_o_covered : Nat) (a_o_kind : Nat) (a_o_count : Nat) (a_o_freeFrom : Nat) (a_o_taken : Nat) (a_o_places_bytes : Nat) (n_o_places_bytes : Nat) (a_p1 : Nat) (o_takenCount : Int32) (o_n : Int32) (o_covered : Nat → Int32) (qS : Nat → Nat) (qSb : Nat → Nat) (S_length : Nat → Int32) (S_bytes : Nat → Nat → Int32) (v2 : Int32) (K : Int32 → (Nat → Int32) → (Nat → Int32) → Int32 → Prop) (hK : ∀ (o_places_length : Int32) (o_places_bytes : Nat → Int32) (o_kind : Nat → Int32) (v4 : Int32), K o_places_length o_places_bytes o_kind v4 → Go p l e rm_X5_load s m args below meth c Q 5 D A (([(a_o, .inr (8, [.ref a_o_places, .ref a_o_covered, .ref a_o_kind, .ref a_o_count, .ref a_o_freeFrom, .ref a_o_taken, .int o_takenCount, .int o_n])), (a_o_places, .inr (7, [.ref a_o_places_bytes, .int o_places_length])), (a_o_places_bytes, .inl (cy 0, n_o_places_bytes, .inl o_places_bytes)), (a_o_covered, .inl (cy 2, 320, .inl o_covered)), (a_o_kind, .inl (cy 1, 320, .inl o_kind)), (a_p1, .inl (cy 5, 8, .inr (.inr (.inr (.inr (fun i => some (qS i)))))))] : va_W) ++ (plW (elS cy qS qSb S_bytes S_length) 8)) 0 0 91 [] []) :
    ∀ (n : Nat) (o_places_length : Int32) (o_places_bytes : Nat → Int32) (o_kind : Nat → Int32) (v4 : Int32), wX5_load_37 n_o_places_bytes o_n S_length S_bytes v2 K n o_places_length o_places_bytes o_kind v4 → Go p l e rm_X5_load s m args below meth c Q 5 D A (([(a_o, .inr (8, [.ref a_o_places, .ref a_o_covered, .ref a_o_kind, .ref a_o_count, .ref a_o_freeFrom, .ref a_o_taken, .int o_takenCount, .int o_n])), (a_o_places, .inr (7, [.ref a_o_places_bytes, .int o_places_length])), (a_o_places_bytes, .inl (cy 0, n_o_places_bytes, .inl o_places_bytes)), (a_o_covered, .inl (cy 2, 320, .inl o_covered)), (a_o_kind, .inl (cy 1, 320, .inl o_kind)), (a_p1, .inl (cy 5, 8, .inr (.inr (.inr (.inr (fun i => some (qS i)))))))] : va_W) ++ (plW (elS cy qS qSb S_bytes S_length) 8)) 0 0 37 [(0, .ref a_o), (1, .ref a_p1), (2, .int v2), (4, .int v4)] [] := by
  intro n
  induction n with
  | zero => intro o_places_length o_places_bytes o_kind v4 h; exact absurd h id
  | succ n ih =>
    intro o_places_length o_places_bytes o_kind v4 h
    refine go_iload X dX5_load_37 3 rfl ?_
    refine go_iload_n X dX5_load_39 2 rfl rfl ?_
    refine go_icmp_ge X 91 dX5_load_40 (by decide) (fun c8 => ?_) (fun c8 => ?_)
    · replace h := h.1 c8
      refine go_lv [] rfl ?_
      exact hK o_places_length o_places_bytes o_kind v4 h
    · replace h := h.2 c8
      refine go_iload X dX5_load_43 3 rfl ?_
      refine go_aload_n X dX5_load_45 1 rfl rfl ?_
      refine go_alen X 5 5 rfl rfl dX5_load_46 ?_
      refine go_top (x := .int (nI 8)) (y := .int 8) rfl ?_
      refine go_icmp_ge X 91 dX5_load_47 (by decide) (fun c9 => ?_) (fun c9 => ?_)
      · replace h := h.1 c9
        refine go_lv [] rfl ?_
        exact hK o_places_length o_places_bytes o_kind v4 h
      · replace h := h.2 c9
        refine go_aload_n X dX5_load_50 0 rfl rfl ?_
        refine go_get X fi_X5_load_X5 0 rfl rfl 0 (by decide) fl_X5_load_16 rfl dX5_load_51 ?_
        refine go_aload_n X dX5_load_54 1 rfl rfl ?_
        refine go_iload X dX5_load_55 3 rfl ?_
        obtain ⟨c10, h⟩ := h
        refine go_aldq X 5 5 rfl rfl c10 dX5_load_57 ?_
        refine go_top (y := .ref (qS v4.toNatClampNeg)) rfl ?_
        refine go_iconst X (v := 0) dX5_load_58 (by decide) ?_
        refine go_bipush X (v := 40) dX5_load_59 (by decide) ?_
        refine go_perm (ws' := (([(a_o, .inr (8, [.ref a_o_places, .ref a_o_covered, .ref a_o_kind, .ref a_o_count, .ref a_o_freeFrom, .ref a_o_taken, .int o_takenCount, .int o_n])), (a_o_places, .inr (7, [.ref a_o_places_bytes, .int o_places_length])), (a_o_places_bytes, .inl (cy 0, n_o_places_bytes, .inl o_places_bytes)), (a_o_covered, .inl (cy 2, 320, .inl o_covered)), (a_o_kind, .inl (cy 1, 320, .inl o_kind)), (a_p1, .inl (cy 5, 8, .inr (.inr (.inr (.inr (fun i => some (qS i))))))), ((qS v4.toNatClampNeg), .inr (7, [.ref (qSb v4.toNatClampNeg), .int (S_length v4.toNatClampNeg)])), ((qSb v4.toNatClampNeg), .inl (cy 0, 40, .inl (S_bytes v4.toNatClampNeg)))] : va_W) ++ (plO (elS cy qS qSb S_bytes S_length) 8 v4.toNatClampNeg))) (pm_o (pl_open (vp_lt c10))) ?_
        refine go_callVv X (kX4_addFrom l D cy a_o_places a_o_places_bytes n_o_places_bytes (qS v4.toNatClampNeg) (qSb v4.toNatClampNeg) 40 o_places_length o_places_bytes (S_length v4.toNatClampNeg) (S_bytes v4.toNatClampNeg) (0 : Int32) (40 : Int32) _ h) (cwV 3 X.2.2.2.2.1 gX5_load_X4_addFrom rfl rfl rfl cd_X4_addFrom ⟨by decide, by decide⟩) (wr := (([(a_o, .inr (8, [.ref a_o_places, .ref a_o_covered, .ref a_o_kind, .ref a_o_count, .ref a_o_freeFrom, .ref a_o_taken, .int o_takenCount, .int o_n])), (a_o_covered, .inl (cy 2, 320, .inl o_covered)), (a_o_kind, .inl (cy 1, 320, .inl o_kind)), (a_p1, .inl (cy 5, 8, .inr (.inr (.inr (.inr (fun i => some (qS i)))))))] : va_W) ++ (plO (elS cy qS qSb S_bytes S_length) 8 v4.toNatClampNeg))) (ws2 := fun u => (([(a_o, .inr (8, [.ref a_o_places, .ref a_o_covered, .ref a_o_kind, .ref a_o_count, .ref a_o_freeFrom, .ref a_o_taken, .int o_takenCount, .int o_n])), (a_o_places, .inr (7, [.ref a_o_places_bytes, .int u.1])), (a_o_places_bytes, .inl (cy 0, n_o_places_bytes, .inl u.2)), (a_o_covered, .inl (cy 2, 320, .inl o_covered)), (a_o_kind, .inl (cy 1, 320, .inl o_kind)), (a_p1, .inl (cy 5, 8, .inr (.inr (.inr (.inr (fun i => some (qS i))))))), ((qS v4.toNatClampNeg), .inr (7, [.ref (qSb v4.toNatClampNeg), .int (S_length v4.toNatClampNeg)])), ((qSb v4.toNatClampNeg), .inl (cy 0, 40, .inl (S_bytes v4.toNatClampNeg)))] : va_W) ++ (plO (elS cy qS qSb S_bytes S_length) 8 v4.toNatClampNeg))) (pm_n (perm_idx [1, 2, 6, 7, 0, 3, 4, 5] rfl rfl)) (fun u => pm_n' (perm_idx [4, 0, 1, 5, 6, 7, 2, 3] rfl rfl)) rfl rfl rfl rfl (Nat.le_of_ble_eq_true rfl) dX5_load_61 ⟨by decide, by decide⟩ (fun u h => ?_)
        obtain ⟨s11, s12⟩ := u
        refine go_aload_n X dX5_load_64 0 rfl rfl ?_
        refine go_iload X dX5_load_65 3 rfl ?_
        refine go_bipush X (v := 40) dX5_load_67 (by decide) ?_
        refine go_imul X dX5_load_69 ?_
        refine go_aload_n X dX5_load_70 1 rfl rfl ?_
        refine go_iload X dX5_load_71 3 rfl ?_
        obtain ⟨c13, h⟩ := h
        refine go_aldq X 5 5 rfl rfl c13 dX5_load_73 ?_
        refine go_top (y := .ref (qS v4.toNatClampNeg)) rfl ?_
        refine go_callVi X (kX4_length l D cy (qS v4.toNatClampNeg) (qSb v4.toNatClampNeg) (S_length v4.toNatClampNeg) _ h) (cwV 0 X.2.2.2.2.1 gX5_load_X4_length rfl rfl rfl cd_X4_length ⟨by decide, by decide⟩) (wr := (([(a_o, .inr (8, [.ref a_o_places, .ref a_o_covered, .ref a_o_kind, .ref a_o_count, .ref a_o_freeFrom, .ref a_o_taken, .int o_takenCount, .int o_n])), (a_o_places, .inr (7, [.ref a_o_places_bytes, .int s11])), (a_o_places_bytes, .inl (cy 0, n_o_places_bytes, .inl s12)), (a_o_covered, .inl (cy 2, 320, .inl o_covered)), (a_o_kind, .inl (cy 1, 320, .inl o_kind)), (a_p1, .inl (cy 5, 8, .inr (.inr (.inr (.inr (fun i => some (qS i))))))), ((qSb v4.toNatClampNeg), .inl (cy 0, 40, .inl (S_bytes v4.toNatClampNeg)))] : va_W) ++ (plO (elS cy qS qSb S_bytes S_length) 8 v4.toNatClampNeg))) (ws2 := fun u => (([(a_o, .inr (8, [.ref a_o_places, .ref a_o_covered, .ref a_o_kind, .ref a_o_count, .ref a_o_freeFrom, .ref a_o_taken, .int o_takenCount, .int o_n])), (a_o_places, .inr (7, [.ref a_o_places_bytes, .int s11])), (a_o_places_bytes, .inl (cy 0, n_o_places_bytes, .inl s12)), (a_o_covered, .inl (cy 2, 320, .inl o_covered)), (a_o_kind, .inl (cy 1, 320, .inl o_kind)), (a_p1, .inl (cy 5, 8, .inr (.inr (.inr (.inr (fun i => some (qS i))))))), ((qS v4.toNatClampNeg), .inr (7, [.ref (qSb v4.toNatClampNeg), .int (S_length v4.toNatClampNeg)])), ((qSb v4.toNatClampNeg), .inl (cy 0, 40, .inl (S_bytes v4.toNatClampNeg)))] : va_W) ++ (plO (elS cy qS qSb S_bytes S_length) 8 v4.toNatClampNeg))) (pm_n (perm_idx [6, 0, 1, 2, 3, 4, 5, 7] rfl rfl)) (fun u => pm_n' (perm_idx [1, 2, 3, 4, 5, 6, 0, 7] rfl rfl)) rfl rfl rfl rfl (Nat.le_of_ble_eq_true rfl) dX5_load_74 ⟨by decide, by decide⟩ (fun r14 u h => ?_)
        refine go_aload_n X dX5_load_77 0 rfl rfl ?_
        refine go_get X fi_X5_load_X5 0 rfl rfl 7 (by decide) fl_X5_load_37 rfl dX5_load_78 ?_
        refine go_isub X dX5_load_81 ?_
        refine go_callVv X (kX5_markKinds l D cy a_o a_o_places a_o_covered a_o_kind a_o_count a_o_freeFrom a_o_taken a_o_places_bytes n_o_places_bytes o_takenCount o_n s11 s12 o_kind (v4 * 40) (r14 - o_n) _ h) (cwV 2 X.2.2.2.2.1 gX5_load_X5_markKinds rfl rfl rfl cd_X5_markKinds ⟨by decide, by decide⟩) (wr := (([(a_o_covered, .inl (cy 2, 320, .inl o_covered)), (a_p1, .inl (cy 5, 8, .inr (.inr (.inr (.inr (fun i => some (qS i))))))), ((qS v4.toNatClampNeg), .inr (7, [.ref (qSb v4.toNatClampNeg), .int (S_length v4.toNatClampNeg)])), ((qSb v4.toNatClampNeg), .inl (cy 0, 40, .inl (S_bytes v4.toNatClampNeg)))] : va_W) ++ (plO (elS cy qS qSb S_bytes S_length) 8 v4.toNatClampNeg))) (ws2 := fun u => (([(a_o, .inr (8, [.ref a_o_places, .ref a_o_covered, .ref a_o_kind, .ref a_o_count, .ref a_o_freeFrom, .ref a_o_taken, .int o_takenCount, .int o_n])), (a_o_places, .inr (7, [.ref a_o_places_bytes, .int s11])), (a_o_places_bytes, .inl (cy 0, n_o_places_bytes, .inl s12)), (a_o_covered, .inl (cy 2, 320, .inl o_covered)), (a_o_kind, .inl (cy 1, 320, .inl u)), (a_p1, .inl (cy 5, 8, .inr (.inr (.inr (.inr (fun i => some (qS i))))))), ((qS v4.toNatClampNeg), .inr (7, [.ref (qSb v4.toNatClampNeg), .int (S_length v4.toNatClampNeg)])), ((qSb v4.toNatClampNeg), .inl (cy 0, 40, .inl (S_bytes v4.toNatClampNeg)))] : va_W) ++ (plO (elS cy qS qSb S_bytes S_length) 8 v4.toNatClampNeg))) (pm_n (perm_idx [0, 1, 2, 4, 3, 5, 6, 7] rfl rfl)) (fun u => pm_n' (perm_idx [0, 1, 2, 4, 3, 5, 6, 7] rfl rfl)) rfl rfl rfl rfl (Nat.le_of_ble_eq_true rfl) dX5_load_82 ⟨by decide, by decide⟩ (fun u h => ?_)
        obtain ⟨s15, rfl⟩ : ∃ z, z = u := ⟨_, rfl⟩
        obtain ⟨y16, ey16⟩ : ∃ z : Int32, z = v4 + 1 := ⟨_, rfl⟩
        replace h := h y16 ey16
        refine go_iinc X (lv' := [(4, .int y16), (0, .ref a_o), (1, .ref a_p1), (2, .int v2)]) y16 dX5_load_85 3 rfl (by rw [ey16]; rfl) (by decide) rfl ?_
        refine go_goto X 37 dX5_load_88 (by decide) ?_
        refine go_perm (ws' := (([(a_o, .inr (8, [.ref a_o_places, .ref a_o_covered, .ref a_o_kind, .ref a_o_count, .ref a_o_freeFrom, .ref a_o_taken, .int o_takenCount, .int o_n])), (a_o_places, .inr (7, [.ref a_o_places_bytes, .int s11])), (a_o_places_bytes, .inl (cy 0, n_o_places_bytes, .inl s12)), (a_o_covered, .inl (cy 2, 320, .inl o_covered)), (a_o_kind, .inl (cy 1, 320, .inl s15)), (a_p1, .inl (cy 5, 8, .inr (.inr (.inr (.inr (fun i => some (qS i)))))))] : va_W) ++ (plW (elS cy qS qSb S_bytes S_length) 8))) (pm_c (C := ([(a_o, .inr (8, [.ref a_o_places, .ref a_o_covered, .ref a_o_kind, .ref a_o_count, .ref a_o_freeFrom, .ref a_o_taken, .int o_takenCount, .int o_n])), (a_o_places, .inr (7, [.ref a_o_places_bytes, .int s11])), (a_o_places_bytes, .inl (cy 0, n_o_places_bytes, .inl s12)), (a_o_covered, .inl (cy 2, 320, .inl o_covered)), (a_o_kind, .inl (cy 1, 320, .inl s15)), (a_p1, .inl (cy 5, 8, .inr (.inr (.inr (.inr (fun i => some (qS i)))))))] : va_W)) (clS (vp_lt c10) (eq_ok S_length v4.toNatClampNeg) (eq_ok S_bytes v4.toNatClampNeg))) ?_
        refine go_lv [1, 2, 3, 0] rfl ?_
        exact ih s11 s12 s15 y16 h
set_option maxRecDepth 100000 in
set_option maxHeartbeats 4000000 in
theorem kX5_load (l : Launch) (D : va_G) (cy : Nat → ClassId) (a_o : Nat) (a_o_places : Nat) (a_o_covered : Nat) (a_o_kind : Nat) (a_o_count : Nat) (a_o_freeFrom : Nat) (a_o_taken : Nat) (a_o_places_bytes : Nat) (n_o_places_bytes : Nat) (a_p1 : Nat) (o_takenCount : Int32) (o_n : Int32) (o_places_length : Int32) (o_places_bytes : Nat → Int32) (o_covered : Nat → Int32) (o_kind : Nat → Int32) (qS : Nat → Nat) (qSb : Nat → Nat) (S_length : Nat → Int32) (S_bytes : Nat → Nat → Int32) (p2 : Int32) (p3 : Int32) (post : Int32 → Int32 → Int32 → (Nat → Int32) → (Nat → Int32) → (Nat → Int32) → Prop) (h : wX5_load n_o_places_bytes o_places_bytes o_covered o_kind S_length S_bytes p2 p3 post) : MetV l yX5_load wsX5_load rm_X5_load D (tyL cy) [.ref a_o, .ref a_p1, .int p2, .int p3] (([(a_o, .inr (8, [.ref a_o_places, .ref a_o_covered, .ref a_o_kind, .ref a_o_count, .ref a_o_freeFrom, .ref a_o_taken, .int o_takenCount, .int o_n])), (a_o_places, .inr (7, [.ref a_o_places_bytes, .int o_places_length])), (a_o_places_bytes, .inl (cy 0, n_o_places_bytes, .inl o_places_bytes)), (a_o_covered, .inl (cy 2, 320, .inl o_covered)), (a_o_kind, .inl (cy 1, 320, .inl o_kind)), (a_p1, .inl (cy 5, 8, .inr (.inr (.inr (.inr (fun i => some (qS i)))))))] : va_W) ++ (plW (elS cy qS qSb S_bytes S_length) 8)) (fun u : Int32 × Int32 × Int32 × (Nat → Int32) × (Nat → Int32) × (Nat → Int32) => (([(a_o, .inr (8, [.ref a_o_places, .ref a_o_covered, .ref a_o_kind, .ref a_o_count, .ref a_o_freeFrom, .ref a_o_taken, .int u.1, .int u.2.1])), (a_o_places, .inr (7, [.ref a_o_places_bytes, .int u.2.2.1])), (a_o_places_bytes, .inl (cy 0, n_o_places_bytes, .inl u.2.2.2.1)), (a_o_covered, .inl (cy 2, 320, .inl u.2.2.2.2.1)), (a_o_kind, .inl (cy 1, 320, .inl u.2.2.2.2.2)), (a_p1, .inl (cy 5, 8, .inr (.inr (.inr (.inr (fun i => some (qS i)))))))] : va_W) ++ (plW (elS cy qS qSb S_bytes S_length) 8))) (fun (u : Int32 × Int32 × Int32 × (Nat → Int32) × (Nat → Int32) × (Nat → Int32)) => post u.1 u.2.1 u.2.2.1 u.2.2.2.1 u.2.2.2.2.1 u.2.2.2.2.2) 0 0 := by
  refine metV_of (cc := cX5_load) (maxL := 5) (lv := [(0, .ref a_o), (1, .ref a_p1), (2, .int p2), (3, .int p3)]) (by decide) rfl (Nat.le_of_ble_eq_true rfl) rfl ?_
  intro p e s m below meth c Q A X hlk hnm hR
  unfold wX5_load at h
  refine go_aload_n X dX5_load_0 0 rfl rfl ?_
  refine go_iload_n X dX5_load_1 3 rfl rfl ?_
  refine go_put X (ws' := (([(a_o, .inr (8, [.ref a_o_places, .ref a_o_covered, .ref a_o_kind, .ref a_o_count, .ref a_o_freeFrom, .ref a_o_taken, .int o_takenCount, .int p3])), (a_o_places, .inr (7, [.ref a_o_places_bytes, .int o_places_length])), (a_o_places_bytes, .inl (cy 0, n_o_places_bytes, .inl o_places_bytes)), (a_o_covered, .inl (cy 2, 320, .inl o_covered)), (a_o_kind, .inl (cy 1, 320, .inl o_kind)), (a_p1, .inl (cy 5, 8, .inr (.inr (.inr (.inr (fun i => some (qS i)))))))] : va_W) ++ (plW (elS cy qS qSb S_bytes S_length) 8))) fi_X5_load_X5 tyX5 tyX5_ok nmX5 0 rfl rfl 7 (by decide) fl_X5_load_37 rfl (tyX5_ok 7 (by decide)) rfl rfl (Nat.le_of_ble_eq_true rfl) rfl dX5_load_2 ?_
  refine go_aload_n X dX5_load_5 0 rfl rfl ?_
  refine go_iconst X (v := 0) dX5_load_6 (by decide) ?_
  refine go_put X (ws' := (([(a_o, .inr (8, [.ref a_o_places, .ref a_o_covered, .ref a_o_kind, .ref a_o_count, .ref a_o_freeFrom, .ref a_o_taken, .int 0, .int p3])), (a_o_places, .inr (7, [.ref a_o_places_bytes, .int o_places_length])), (a_o_places_bytes, .inl (cy 0, n_o_places_bytes, .inl o_places_bytes)), (a_o_covered, .inl (cy 2, 320, .inl o_covered)), (a_o_kind, .inl (cy 1, 320, .inl o_kind)), (a_p1, .inl (cy 5, 8, .inr (.inr (.inr (.inr (fun i => some (qS i)))))))] : va_W) ++ (plW (elS cy qS qSb S_bytes S_length) 8))) fi_X5_load_X5 tyX5 tyX5_ok nmX5 0 rfl rfl 6 (by decide) fl_X5_load_41 rfl (tyX5_ok 6 (by decide)) rfl rfl (Nat.le_of_ble_eq_true rfl) rfl dX5_load_7 ?_
  refine go_aload_n X dX5_load_10 0 rfl rfl ?_
  refine go_get X fi_X5_load_X5 0 rfl rfl 0 (by decide) fl_X5_load_16 rfl dX5_load_11 ?_
  refine go_callVv X (kX4_clear l D cy a_o_places a_o_places_bytes o_places_length _ h) (cwV 0 X.2.2.2.2.1 gX5_load_X4_clear rfl rfl rfl cd_X4_clear ⟨by decide, by decide⟩) (wr := (([(a_o, .inr (8, [.ref a_o_places, .ref a_o_covered, .ref a_o_kind, .ref a_o_count, .ref a_o_freeFrom, .ref a_o_taken, .int 0, .int p3])), (a_o_places_bytes, .inl (cy 0, n_o_places_bytes, .inl o_places_bytes)), (a_o_covered, .inl (cy 2, 320, .inl o_covered)), (a_o_kind, .inl (cy 1, 320, .inl o_kind)), (a_p1, .inl (cy 5, 8, .inr (.inr (.inr (.inr (fun i => some (qS i)))))))] : va_W) ++ (plW (elS cy qS qSb S_bytes S_length) 8))) (ws2 := fun u => (([(a_o, .inr (8, [.ref a_o_places, .ref a_o_covered, .ref a_o_kind, .ref a_o_count, .ref a_o_freeFrom, .ref a_o_taken, .int 0, .int p3])), (a_o_places, .inr (7, [.ref a_o_places_bytes, .int u])), (a_o_places_bytes, .inl (cy 0, n_o_places_bytes, .inl o_places_bytes)), (a_o_covered, .inl (cy 2, 320, .inl o_covered)), (a_o_kind, .inl (cy 1, 320, .inl o_kind)), (a_p1, .inl (cy 5, 8, .inr (.inr (.inr (.inr (fun i => some (qS i)))))))] : va_W) ++ (plW (elS cy qS qSb S_bytes S_length) 8))) (pm_n (perm_idx [1, 0, 2, 3, 4, 5] rfl rfl)) (fun u => pm_n' (perm_idx [1, 0, 2, 3, 4, 5] rfl rfl)) rfl rfl rfl rfl (Nat.le_of_ble_eq_true rfl) dX5_load_14 ⟨by decide, by decide⟩ (fun u h => ?_)
  obtain ⟨s1, rfl⟩ : ∃ z, z = u := ⟨_, rfl⟩
  refine go_aload_n X dX5_load_17 0 rfl rfl ?_
  refine go_iconst X (v := 0) dX5_load_18 (by decide) ?_
  refine go_sipush X (v := 320) dX5_load_19 (by decide) ?_
  refine go_iconst X (v := 0) dX5_load_22 (by decide) ?_
  refine go_callVv X (kX5_coverFrom l D cy a_o a_o_places a_o_covered a_o_kind a_o_count a_o_freeFrom a_o_taken 0 p3 o_covered (0 : Int32) (320 : Int32) (0 : Int32) _ h) (cwV 3 X.2.2.2.2.1 gX5_load_X5_coverFrom rfl rfl rfl cd_X5_coverFrom ⟨by decide, by decide⟩) (wr := (([(a_o_places, .inr (7, [.ref a_o_places_bytes, .int s1])), (a_o_places_bytes, .inl (cy 0, n_o_places_bytes, .inl o_places_bytes)), (a_o_kind, .inl (cy 1, 320, .inl o_kind)), (a_p1, .inl (cy 5, 8, .inr (.inr (.inr (.inr (fun i => some (qS i)))))))] : va_W) ++ (plW (elS cy qS qSb S_bytes S_length) 8))) (ws2 := fun u => (([(a_o, .inr (8, [.ref a_o_places, .ref a_o_covered, .ref a_o_kind, .ref a_o_count, .ref a_o_freeFrom, .ref a_o_taken, .int 0, .int p3])), (a_o_places, .inr (7, [.ref a_o_places_bytes, .int s1])), (a_o_places_bytes, .inl (cy 0, n_o_places_bytes, .inl o_places_bytes)), (a_o_covered, .inl (cy 2, 320, .inl u)), (a_o_kind, .inl (cy 1, 320, .inl o_kind)), (a_p1, .inl (cy 5, 8, .inr (.inr (.inr (.inr (fun i => some (qS i)))))))] : va_W) ++ (plW (elS cy qS qSb S_bytes S_length) 8))) (pm_n (perm_idx [0, 3, 1, 2, 4, 5] rfl rfl)) (fun u => pm_n' (perm_idx [0, 2, 3, 1, 4, 5] rfl rfl)) rfl rfl rfl rfl (Nat.le_of_ble_eq_true rfl) dX5_load_23 ⟨by decide, by decide⟩ (fun u h => ?_)
  obtain ⟨s2, rfl⟩ : ∃ z, z = u := ⟨_, rfl⟩
  refine go_aload_n X dX5_load_26 0 rfl rfl ?_
  refine go_get X fi_X5_load_X5 0 rfl rfl 2 (by decide) fl_X5_load_24 rfl dX5_load_27 ?_
  refine go_iconst X (v := (-1)) dX5_load_30 (by decide) ?_
  refine go_callSv X (kJ7_fill_53178 l D cy a_o_kind 320 o_kind ((-1) : Int32) _ h) (va_cwS 2 X.2.2.2.2.1 gX5_load_J7_fill_53178 rfl rfl rfl cd_J7_fill_53178 ⟨by decide, by decide⟩) (wr := (([(a_o, .inr (8, [.ref a_o_places, .ref a_o_covered, .ref a_o_kind, .ref a_o_count, .ref a_o_freeFrom, .ref a_o_taken, .int 0, .int p3])), (a_o_places, .inr (7, [.ref a_o_places_bytes, .int s1])), (a_o_places_bytes, .inl (cy 0, n_o_places_bytes, .inl o_places_bytes)), (a_o_covered, .inl (cy 2, 320, .inl s2)), (a_p1, .inl (cy 5, 8, .inr (.inr (.inr (.inr (fun i => some (qS i)))))))] : va_W) ++ (plW (elS cy qS qSb S_bytes S_length) 8))) (ws2 := fun u => (([(a_o, .inr (8, [.ref a_o_places, .ref a_o_covered, .ref a_o_kind, .ref a_o_count, .ref a_o_freeFrom, .ref a_o_taken, .int 0, .int p3])), (a_o_places, .inr (7, [.ref a_o_places_bytes, .int s1])), (a_o_places_bytes, .inl (cy 0, n_o_places_bytes, .inl o_places_bytes)), (a_o_covered, .inl (cy 2, 320, .inl s2)), (a_o_kind, .inl (cy 1, 320, .inl u)), (a_p1, .inl (cy 5, 8, .inr (.inr (.inr (.inr (fun i => some (qS i)))))))] : va_W) ++ (plW (elS cy qS qSb S_bytes S_length) 8))) (pm_n (perm_idx [4, 0, 1, 2, 3, 5] rfl rfl)) (fun u => pm_n' (perm_idx [1, 2, 3, 4, 0, 5] rfl rfl)) rfl rfl (Nat.le_of_ble_eq_true rfl) dX5_load_31 ⟨by decide, by decide⟩ (fun u h => ?_)
  obtain ⟨s3, rfl⟩ : ∃ z, z = u := ⟨_, rfl⟩
  refine go_iconst X (v := 0) dX5_load_34 (by decide) ?_
  refine go_istore X (lv' := [(4, .int 0), (0, .ref a_o), (1, .ref a_p1), (2, .int p2), (3, .int p3)]) dX5_load_35 (by decide) rfl ?_
  obtain ⟨n17, h⟩ := h
  refine go_lv [1, 2, 3, 0] rfl ?_
  refine pX5_load_37 l X a_o a_o_places a_o_covered a_o_kind a_o_count a_o_freeFrom a_o_taken a_o_places_bytes n_o_places_bytes a_p1 0 p3 s2 qS qSb S_length S_bytes p2  _ (fun s4 s5 s6 y7 h => ?_) n17 s1 o_places_bytes s3 (0 : Int32) h
  exact hR (0, p3, s4, s5, s2, s6) 91 _ dX5_load_91 h
/-! X6_isNumber -/
def rm_X6_isNumber : Room := { frames := 0, cells := 0, slots := 0, locals := 0 }
theorem cd_X6_isNumber : yX6_isNumber.cls ≠ "java/lang/invoke/MethodHandle" ∧ yX6_isNumber.cls ≠ "java/lang/invoke/VarHandle" ∧ (parseMethodDescriptor yX6_isNumber.desc).map (fun d => d.parameters.length) = some 1 := by decide +kernel
set_option maxRecDepth 100000 in
set_option maxHeartbeats 4000000 in
theorem kX6_isNumber (l : Launch) (D : va_G) (cy : Nat → ClassId) (p0 : Int32) (post : Int32 → Prop) (h : wX6_isNumber p0 post) : MetI l yX6_isNumber wsX6_isNumber rm_X6_isNumber D (tyL cy) [.int p0] [] (fun u : Unit => []) (fun r => fun (u : Unit) => post r ) 0 0 := by
  refine metI_of (cc := cX6_isNumber) (maxL := 1) (lv := [(0, .int p0)]) (by decide) rfl (Nat.le_of_ble_eq_true rfl) rfl ?_
  intro p e s m below meth c Q A X hlk hR
  unfold wX6_isNumber at h
  refine go_iload_n X dX6_isNumber_0 0 rfl rfl ?_
  refine go_if_lt X 14 dX6_isNumber_1 (by decide) (fun c1 => ?_) (fun c1 => ?_)
  · replace h := h.1 c1
    refine go_iconst X (v := 0) dX6_isNumber_14 (by decide) ?_
    exact hR 0 () 15 _ dX6_isNumber_15 rfl h
  · replace h := h.2 c1
    refine go_iload_n X dX6_isNumber_4 0 rfl rfl ?_
    refine go_bipush X (v := 6) dX6_isNumber_5 (by decide) ?_
    refine go_icmp_ge X 14 dX6_isNumber_7 (by decide) (fun c2 => ?_) (fun c2 => ?_)
    · replace h := h.1 c2
      refine go_iconst X (v := 0) dX6_isNumber_14 (by decide) ?_
      exact hR 0 () 15 _ dX6_isNumber_15 rfl h
    · replace h := h.2 c2
      refine go_iconst X (v := 1) dX6_isNumber_10 (by decide) ?_
      refine go_goto X 15 dX6_isNumber_11 (by decide) ?_
      exact hR 1 () 15 _ dX6_isNumber_15 rfl h
/-! X6_isId -/
def rm_X6_isId : Room := { frames := 0, cells := 0, slots := 0, locals := 0 }
theorem cd_X6_isId : yX6_isId.cls ≠ "java/lang/invoke/MethodHandle" ∧ yX6_isId.cls ≠ "java/lang/invoke/VarHandle" ∧ (parseMethodDescriptor yX6_isId.desc).map (fun d => d.parameters.length) = some 1 := by decide +kernel
set_option maxRecDepth 100000 in
set_option maxHeartbeats 4000000 in
theorem kX6_isId (l : Launch) (D : va_G) (cy : Nat → ClassId) (p0 : Int32) (post : Int32 → Prop) (h : wX6_isId p0 post) : MetI l yX6_isId wsX6_isId rm_X6_isId D (tyL cy) [.int p0] [] (fun u : Unit => []) (fun r => fun (u : Unit) => post r ) 0 0 := by
  refine metI_of (cc := cX6_isId) (maxL := 1) (lv := [(0, .int p0)]) (by decide) rfl (Nat.le_of_ble_eq_true rfl) rfl ?_
  intro p e s m below meth c Q A X hlk hR
  unfold wX6_isId at h
  refine go_iload_n X dX6_isId_0 0 rfl rfl ?_
  refine go_iconst X (v := 1) dX6_isId_1 (by decide) ?_
  refine go_icmp_lt X 16 dX6_isId_2 (by decide) (fun c1 => ?_) (fun c1 => ?_)
  · replace h := h.1 c1
    refine go_iconst X (v := 0) dX6_isId_16 (by decide) ?_
    exact hR 0 () 17 _ dX6_isId_17 rfl h
  · replace h := h.2 c1
    refine go_iload_n X dX6_isId_5 0 rfl rfl ?_
    refine go_sipush X (v := 255) dX6_isId_6 (by decide) ?_
    refine go_icmp_gt X 16 dX6_isId_9 (by decide) (fun c2 => ?_) (fun c2 => ?_)
    · replace h := h.1 c2
      refine go_iconst X (v := 0) dX6_isId_16 (by decide) ?_
      exact hR 0 () 17 _ dX6_isId_17 rfl h
    · replace h := h.2 c2
      refine go_iconst X (v := 1) dX6_isId_12 (by decide) ?_
      refine go_goto X 17 dX6_isId_13 (by decide) ?_
      exact hR 1 () 17 _ dX6_isId_17 rfl h
/-! X6_isSample -/
theorem fi_X6_isSample_X6 : ∀ w ∈ u_ws RX6 TX6 11, w ∈ wsX6_isSample := by decide +kernel
theorem fl_X6_isSample_78 : Cond.fieldLink RX6 78 (TX6 10).1 (TX6 10).2.1 (TX6 10).2.2.1 ∈ wsX6_isSample := by decide +kernel
def rm_X6_isSample : Room := { frames := 0, cells := 0, slots := 0, locals := 0 }
theorem cd_X6_isSample : yX6_isSample.cls = RX6 ∧ yX6_isSample.cls ≠ "java/lang/invoke/MethodHandle" ∧ yX6_isSample.cls ≠ "java/lang/invoke/VarHandle" ∧ (parseMethodDescriptor yX6_isSample.desc).map (fun d => d.parameters.length) = some 1 := by decide +kernel
set_option maxRecDepth 100000 in
set_option maxHeartbeats 4000000 in
theorem kX6_isSample (l : Launch) (D : va_G) (cy : Nat → ClassId) (a_o : Nat) (a_o_tape : Nat) (a_o_samples : Nat) (a_o_dictionaries : Nat) (a_o_none : Nat) (a_o_trial : Nat) (a_o_opened : Nat) (a_o_output : Nat) (a_o_packer : Nat) (a_o_trainer : Nat) (a_o_opener : Nat) (o_sampleCount : Int32) (p1 : Int32) (post : Int32 → Prop) (h : wX6_isSample o_sampleCount p1 post) : MetI l yX6_isSample wsX6_isSample rm_X6_isSample D (tyL cy) [.ref a_o, .int p1] [(a_o, .inr (9, [.ref a_o_tape, .ref a_o_samples, .ref a_o_dictionaries, .ref a_o_none, .ref a_o_trial, .ref a_o_opened, .ref a_o_output, .ref a_o_packer, .ref a_o_trainer, .ref a_o_opener, .int o_sampleCount]))] (fun u : Unit => [(a_o, .inr (9, [.ref a_o_tape, .ref a_o_samples, .ref a_o_dictionaries, .ref a_o_none, .ref a_o_trial, .ref a_o_opened, .ref a_o_output, .ref a_o_packer, .ref a_o_trainer, .ref a_o_opener, .int o_sampleCount]))]) (fun r => fun (u : Unit) => post r ) 0 0 := by
  refine metI_of (cc := cX6_isSample) (maxL := 2) (lv := [(0, .ref a_o), (1, .int p1)]) (by decide) rfl (Nat.le_of_ble_eq_true rfl) rfl ?_
  intro p e s m below meth c Q A X hlk hR
  unfold wX6_isSample at h
  refine go_iload_n X dX6_isSample_0 1 rfl rfl ?_
  refine go_if_lt X 16 dX6_isSample_1 (by decide) (fun c1 => ?_) (fun c1 => ?_)
  · replace h := h.1 c1
    refine go_iconst X (v := 0) dX6_isSample_16 (by decide) ?_
    exact hR 0 () 17 _ dX6_isSample_17 rfl h
  · replace h := h.2 c1
    refine go_iload_n X dX6_isSample_4 1 rfl rfl ?_
    refine go_aload_n X dX6_isSample_5 0 rfl rfl ?_
    refine go_get X fi_X6_isSample_X6 0 rfl rfl 10 (by decide) fl_X6_isSample_78 rfl dX6_isSample_6 ?_
    refine go_icmp_ge X 16 dX6_isSample_9 (by decide) (fun c2 => ?_) (fun c2 => ?_)
    · replace h := h.1 c2
      refine go_iconst X (v := 0) dX6_isSample_16 (by decide) ?_
      exact hR 0 () 17 _ dX6_isSample_17 rfl h
    · replace h := h.2 c2
      refine go_iconst X (v := 1) dX6_isSample_12 (by decide) ?_
      refine go_goto X 17 dX6_isSample_13 (by decide) ?_
      exact hR 1 () 17 _ dX6_isSample_17 rfl h
/-! X6_thereAt -/
theorem fi_X6_thereAt_X6 : ∀ w ∈ u_ws RX6 TX6 11, w ∈ wsX6_thereAt := by decide +kernel
theorem fl_X6_thereAt_24 : Cond.fieldLink RX6 24 (TX6 2).1 (TX6 2).2.1 (TX6 2).2.2.1 ∈ wsX6_thereAt := by decide +kernel
def rm_X6_thereAt : Room := { frames := 1, cells := 0, slots := 0, locals := 20 }
theorem cd_X6_thereAt : yX6_thereAt.cls = RX6 ∧ yX6_thereAt.cls ≠ "java/lang/invoke/MethodHandle" ∧ yX6_thereAt.cls ≠ "java/lang/invoke/VarHandle" ∧ (parseMethodDescriptor yX6_thereAt.desc).map (fun d => d.parameters.length) = some 1 := by decide +kernel
set_option maxRecDepth 100000 in
set_option maxHeartbeats 4000000 in
theorem kX6_thereAt (l : Launch) (D : va_G) (cy : Nat → ClassId) (a_o : Nat) (a_o_tape : Nat) (a_o_samples : Nat) (a_o_dictionaries : Nat) (a_o_none : Nat) (a_o_trial : Nat) (a_o_opened : Nat) (a_o_output : Nat) (a_o_packer : Nat) (a_o_trainer : Nat) (a_o_opener : Nat) (o_sampleCount : Int32) (qD : Nat → Nat) (qDw : Nat → Nat) (qDb : Nat → Nat) (D_pieceLength : Nat → Int32) (D_pieces : Nat → Int32) (D_id : Nat → Int32) (D_words_length : Nat → Int32) (D_words_bytes : Nat → Nat → Int32) (p1 : Int32) (post : Option Nat → Prop) (h : wX6_thereAt D_id p1 post) : MetQ l yX6_thereAt wsX6_thereAt rm_X6_thereAt D (tyL cy) [.ref a_o, .int p1] (([(a_o, .inr (9, [.ref a_o_tape, .ref a_o_samples, .ref a_o_dictionaries, .ref a_o_none, .ref a_o_trial, .ref a_o_opened, .ref a_o_output, .ref a_o_packer, .ref a_o_trainer, .ref a_o_opener, .int o_sampleCount])), (a_o_dictionaries, .inl (cy 4, 6, .inr (.inr (.inr (.inr (fun i => some (qD i)))))))] : va_W) ++ (plW (elD cy qD qDw qDb D_pieceLength D_pieces D_id D_words_length D_words_bytes) 6)) (fun u : Unit => (([(a_o, .inr (9, [.ref a_o_tape, .ref a_o_samples, .ref a_o_dictionaries, .ref a_o_none, .ref a_o_trial, .ref a_o_opened, .ref a_o_output, .ref a_o_packer, .ref a_o_trainer, .ref a_o_opener, .int o_sampleCount])), (a_o_dictionaries, .inl (cy 4, 6, .inr (.inr (.inr (.inr (fun i => some (qD i)))))))] : va_W) ++ (plW (elD cy qD qDw qDb D_pieceLength D_pieces D_id D_words_length D_words_bytes) 6))) (fun r => fun (u : Unit) => ∃ j : Option Nat, r = j.map (qD) ∧ (∀ k, j = some k → k < 6) ∧ post j ) 0 0 := by
  refine metQ_of (cc := cX6_thereAt) (maxL := 2) (lv := [(0, .ref a_o), (1, .int p1)]) (by decide) rfl (Nat.le_of_ble_eq_true rfl) rfl ?_
  intro p e s m below meth c Q A X hlk hR
  unfold wX6_thereAt at h
  refine go_iload_n X dX6_thereAt_0 1 rfl rfl ?_
  refine go_callSi X (kX6_isNumber l D cy p1 _ h) (va_cwS 1 X.2.2.2.2.1 gX6_thereAt_X6_isNumber rfl rfl rfl cd_X6_isNumber ⟨by decide, by decide⟩) (wr := (([(a_o, .inr (9, [.ref a_o_tape, .ref a_o_samples, .ref a_o_dictionaries, .ref a_o_none, .ref a_o_trial, .ref a_o_opened, .ref a_o_output, .ref a_o_packer, .ref a_o_trainer, .ref a_o_opener, .int o_sampleCount])), (a_o_dictionaries, .inl (cy 4, 6, .inr (.inr (.inr (.inr (fun i => some (qD i)))))))] : va_W) ++ (plW (elD cy qD qDw qDb D_pieceLength D_pieces D_id D_words_length D_words_bytes) 6))) (ws2 := fun u => (([(a_o, .inr (9, [.ref a_o_tape, .ref a_o_samples, .ref a_o_dictionaries, .ref a_o_none, .ref a_o_trial, .ref a_o_opened, .ref a_o_output, .ref a_o_packer, .ref a_o_trainer, .ref a_o_opener, .int o_sampleCount])), (a_o_dictionaries, .inl (cy 4, 6, .inr (.inr (.inr (.inr (fun i => some (qD i)))))))] : va_W) ++ (plW (elD cy qD qDw qDb D_pieceLength D_pieces D_id D_words_length D_words_bytes) 6))) (pm_n (perm_idx [0, 1] rfl rfl)) (fun u => pm_n' (perm_idx [0, 1] rfl rfl)) rfl rfl (Nat.le_of_ble_eq_true rfl) dX6_thereAt_1 ⟨by decide, by decide⟩ (fun r1 u h => ?_)
  refine go_if_eq X 28 dX6_thereAt_4 (by decide) (fun c2 => ?_) (fun c2 => ?_)
  · replace h := h.1 c2
    refine go_null X dX6_thereAt_28 ?_
    exact hR none () 29 _ dX6_thereAt_29 ⟨none, rfl, (fun k9 e9 => by cases e9), h⟩
  · replace h := h.2 c2
    refine go_aload_n X dX6_thereAt_7 0 rfl rfl ?_
    refine go_get X fi_X6_thereAt_X6 0 rfl rfl 2 (by decide) fl_X6_thereAt_24 rfl dX6_thereAt_8 ?_
    refine go_iload_n X dX6_thereAt_11 1 rfl rfl ?_
    obtain ⟨c3, h⟩ := h
    refine go_aldq X 1 4 rfl rfl c3 dX6_thereAt_12 ?_
    refine go_top (y := .ref (qD p1.toNatClampNeg)) rfl ?_
    refine go_perm (ws' := (([(a_o, .inr (9, [.ref a_o_tape, .ref a_o_samples, .ref a_o_dictionaries, .ref a_o_none, .ref a_o_trial, .ref a_o_opened, .ref a_o_output, .ref a_o_packer, .ref a_o_trainer, .ref a_o_opener, .int o_sampleCount])), (a_o_dictionaries, .inl (cy 4, 6, .inr (.inr (.inr (.inr (fun i => some (qD i))))))), ((qD p1.toNatClampNeg), .inr (3, [.ref (qDw p1.toNatClampNeg), .int (D_pieceLength p1.toNatClampNeg), .int (D_pieces p1.toNatClampNeg), .int (D_id p1.toNatClampNeg)])), ((qDw p1.toNatClampNeg), .inr (7, [.ref (qDb p1.toNatClampNeg), .int (D_words_length p1.toNatClampNeg)])), ((qDb p1.toNatClampNeg), .inl (cy 0, 80, .inl (D_words_bytes p1.toNatClampNeg)))] : va_W) ++ (plO (elD cy qD qDw qDb D_pieceLength D_pieces D_id D_words_length D_words_bytes) 6 p1.toNatClampNeg))) (pm_o (pl_open (vp_lt c3))) ?_
    refine go_callVi X (kX0_isThere l D cy (qD p1.toNatClampNeg) (qDw p1.toNatClampNeg) (D_pieceLength p1.toNatClampNeg) (D_pieces p1.toNatClampNeg) (D_id p1.toNatClampNeg) _ h) (cwV 0 X.2.2.2.2.1 gX6_thereAt_X0_isThere rfl rfl rfl cd_X0_isThere ⟨by decide, by decide⟩) (wr := (([(a_o, .inr (9, [.ref a_o_tape, .ref a_o_samples, .ref a_o_dictionaries, .ref a_o_none, .ref a_o_trial, .ref a_o_opened, .ref a_o_output, .ref a_o_packer, .ref a_o_trainer, .ref a_o_opener, .int o_sampleCount])), (a_o_dictionaries, .inl (cy 4, 6, .inr (.inr (.inr (.inr (fun i => some (qD i))))))), ((qDw p1.toNatClampNeg), .inr (7, [.ref (qDb p1.toNatClampNeg), .int (D_words_length p1.toNatClampNeg)])), ((qDb p1.toNatClampNeg), .inl (cy 0, 80, .inl (D_words_bytes p1.toNatClampNeg)))] : va_W) ++ (plO (elD cy qD qDw qDb D_pieceLength D_pieces D_id D_words_length D_words_bytes) 6 p1.toNatClampNeg))) (ws2 := fun u => (([(a_o, .inr (9, [.ref a_o_tape, .ref a_o_samples, .ref a_o_dictionaries, .ref a_o_none, .ref a_o_trial, .ref a_o_opened, .ref a_o_output, .ref a_o_packer, .ref a_o_trainer, .ref a_o_opener, .int o_sampleCount])), (a_o_dictionaries, .inl (cy 4, 6, .inr (.inr (.inr (.inr (fun i => some (qD i))))))), ((qD p1.toNatClampNeg), .inr (3, [.ref (qDw p1.toNatClampNeg), .int (D_pieceLength p1.toNatClampNeg), .int (D_pieces p1.toNatClampNeg), .int (D_id p1.toNatClampNeg)])), ((qDw p1.toNatClampNeg), .inr (7, [.ref (qDb p1.toNatClampNeg), .int (D_words_length p1.toNatClampNeg)])), ((qDb p1.toNatClampNeg), .inl (cy 0, 80, .inl (D_words_bytes p1.toNatClampNeg)))] : va_W) ++ (plO (elD cy qD qDw qDb D_pieceLength D_pieces D_id D_words_length D_words_bytes) 6 p1.toNatClampNeg))) (pm_n (perm_idx [2, 0, 1, 3, 4] rfl rfl)) (fun u => pm_n' (perm_idx [1, 2, 0, 3, 4] rfl rfl)) rfl rfl rfl rfl (Nat.le_of_ble_eq_true rfl) dX6_thereAt_13 ⟨by decide, by decide⟩ (fun r4 u h => ?_)
    refine go_if_eq X 28 dX6_thereAt_16 (by decide) (fun c5 => ?_) (fun c5 => ?_)
    · replace h := h.1 c5
      refine go_null X dX6_thereAt_28 ?_
      refine go_perm (ws' := (([(a_o, .inr (9, [.ref a_o_tape, .ref a_o_samples, .ref a_o_dictionaries, .ref a_o_none, .ref a_o_trial, .ref a_o_opened, .ref a_o_output, .ref a_o_packer, .ref a_o_trainer, .ref a_o_opener, .int o_sampleCount])), (a_o_dictionaries, .inl (cy 4, 6, .inr (.inr (.inr (.inr (fun i => some (qD i)))))))] : va_W) ++ (plW (elD cy qD qDw qDb D_pieceLength D_pieces D_id D_words_length D_words_bytes) 6))) (pm_c (C := ([(a_o, .inr (9, [.ref a_o_tape, .ref a_o_samples, .ref a_o_dictionaries, .ref a_o_none, .ref a_o_trial, .ref a_o_opened, .ref a_o_output, .ref a_o_packer, .ref a_o_trainer, .ref a_o_opener, .int o_sampleCount])), (a_o_dictionaries, .inl (cy 4, 6, .inr (.inr (.inr (.inr (fun i => some (qD i)))))))] : va_W)) (clD (vp_lt c3) (eq_ok D_pieceLength p1.toNatClampNeg) (eq_ok D_pieces p1.toNatClampNeg) (eq_ok D_id p1.toNatClampNeg) (eq_ok D_words_length p1.toNatClampNeg) (eq_ok D_words_bytes p1.toNatClampNeg))) ?_
      exact hR none () 29 _ dX6_thereAt_29 ⟨none, rfl, (fun k9 e9 => by cases e9), h⟩
    · replace h := h.2 c5
      refine go_aload_n X dX6_thereAt_19 0 rfl rfl ?_
      refine go_get X fi_X6_thereAt_X6 0 rfl rfl 2 (by decide) fl_X6_thereAt_24 rfl dX6_thereAt_20 ?_
      refine go_iload_n X dX6_thereAt_23 1 rfl rfl ?_
      obtain ⟨c6, h⟩ := h
      refine go_aldq X 1 4 rfl rfl c6 dX6_thereAt_24 ?_
      refine go_top (y := .ref (qD p1.toNatClampNeg)) rfl ?_
      refine go_goto X 29 dX6_thereAt_25 (by decide) ?_
      refine go_perm (ws' := (([(a_o, .inr (9, [.ref a_o_tape, .ref a_o_samples, .ref a_o_dictionaries, .ref a_o_none, .ref a_o_trial, .ref a_o_opened, .ref a_o_output, .ref a_o_packer, .ref a_o_trainer, .ref a_o_opener, .int o_sampleCount])), (a_o_dictionaries, .inl (cy 4, 6, .inr (.inr (.inr (.inr (fun i => some (qD i)))))))] : va_W) ++ (plW (elD cy qD qDw qDb D_pieceLength D_pieces D_id D_words_length D_words_bytes) 6))) (pm_c (C := ([(a_o, .inr (9, [.ref a_o_tape, .ref a_o_samples, .ref a_o_dictionaries, .ref a_o_none, .ref a_o_trial, .ref a_o_opened, .ref a_o_output, .ref a_o_packer, .ref a_o_trainer, .ref a_o_opener, .int o_sampleCount])), (a_o_dictionaries, .inl (cy 4, 6, .inr (.inr (.inr (.inr (fun i => some (qD i)))))))] : va_W)) (clD (vp_lt c3) (eq_ok D_pieceLength p1.toNatClampNeg) (eq_ok D_pieces p1.toNatClampNeg) (eq_ok D_id p1.toNatClampNeg) (eq_ok D_words_length p1.toNatClampNeg) (eq_ok D_words_bytes p1.toNatClampNeg))) ?_
      exact hR (some (qD p1.toNatClampNeg)) () 29 _ dX6_thereAt_29 ⟨some p1.toNatClampNeg, rfl, (fun k9 e9 => by cases e9; exact (vp_lt c6)), h⟩
/-! X6_noneOrThereAt -/
theorem fi_X6_noneOrThereAt_X6 : ∀ w ∈ u_ws RX6 TX6 11, w ∈ wsX6_noneOrThereAt := by decide +kernel
theorem fl_X6_noneOrThereAt_29 : Cond.fieldLink RX6 29 (TX6 3).1 (TX6 3).2.1 (TX6 3).2.2.1 ∈ wsX6_noneOrThereAt := by decide +kernel
def rm_X6_noneOrThereAt : Room := { frames := 2, cells := 0, slots := 0, locals := 41 }
theorem cd_X6_noneOrThereAt : yX6_noneOrThereAt.cls = RX6 ∧ yX6_noneOrThereAt.cls ≠ "java/lang/invoke/MethodHandle" ∧ yX6_noneOrThereAt.cls ≠ "java/lang/invoke/VarHandle" ∧ (parseMethodDescriptor yX6_noneOrThereAt.desc).map (fun d => d.parameters.length) = some 1 := by decide +kernel
set_option maxRecDepth 100000 in
set_option maxHeartbeats 4000000 in
theorem kX6_noneOrThereAt (l : Launch) (D : va_G) (cy : Nat → ClassId) (a_o : Nat) (a_o_tape : Nat) (a_o_samples : Nat) (a_o_dictionaries : Nat) (a_o_none : Nat) (a_o_trial : Nat) (a_o_opened : Nat) (a_o_output : Nat) (a_o_packer : Nat) (a_o_trainer : Nat) (a_o_opener : Nat) (o_sampleCount : Int32) (qD : Nat → Nat) (qDw : Nat → Nat) (qDb : Nat → Nat) (D_pieceLength : Nat → Int32) (D_pieces : Nat → Int32) (D_id : Nat → Int32) (D_words_length : Nat → Int32) (D_words_bytes : Nat → Nat → Int32) (p1 : Int32) (post : Option Nat → Prop) (h : wX6_noneOrThereAt D_id p1 post) : MetQ l yX6_noneOrThereAt wsX6_noneOrThereAt rm_X6_noneOrThereAt D (tyL cy) [.ref a_o, .int p1] (([(a_o, .inr (9, [.ref a_o_tape, .ref a_o_samples, .ref a_o_dictionaries, .ref a_o_none, .ref a_o_trial, .ref a_o_opened, .ref a_o_output, .ref a_o_packer, .ref a_o_trainer, .ref a_o_opener, .int o_sampleCount])), (a_o_dictionaries, .inl (cy 4, 6, .inr (.inr (.inr (.inr (fun i => some (qD i)))))))] : va_W) ++ (plW (elD cy qD qDw qDb D_pieceLength D_pieces D_id D_words_length D_words_bytes) 6)) (fun u : Unit => (([(a_o, .inr (9, [.ref a_o_tape, .ref a_o_samples, .ref a_o_dictionaries, .ref a_o_none, .ref a_o_trial, .ref a_o_opened, .ref a_o_output, .ref a_o_packer, .ref a_o_trainer, .ref a_o_opener, .int o_sampleCount])), (a_o_dictionaries, .inl (cy 4, 6, .inr (.inr (.inr (.inr (fun i => some (qD i)))))))] : va_W) ++ (plW (elD cy qD qDw qDb D_pieceLength D_pieces D_id D_words_length D_words_bytes) 6))) (fun r => fun (u : Unit) => ∃ j : Option Nat, r = j.map (fun k => if k = 6 then a_o_none else qD k) ∧ (∀ k, j = some k → k ≤ 6) ∧ post j ) 0 0 := by
  refine metQ_of (cc := cX6_noneOrThereAt) (maxL := 2) (lv := [(0, .ref a_o), (1, .int p1)]) (by decide) rfl (Nat.le_of_ble_eq_true rfl) rfl ?_
  intro p e s m below meth c Q A X hlk hR
  unfold wX6_noneOrThereAt at h
  refine go_iload_n X dX6_noneOrThereAt_0 1 rfl rfl ?_
  refine go_iconst X (v := (-1)) dX6_noneOrThereAt_1 (by decide) ?_
  refine go_icmp_ne X 12 dX6_noneOrThereAt_2 (by decide) (fun c1 => ?_) (fun c1 => ?_)
  · replace h := h.1 c1
    refine go_aload_n X dX6_noneOrThereAt_12 0 rfl rfl ?_
    refine go_iload_n X dX6_noneOrThereAt_13 1 rfl rfl ?_
    refine go_callVq X (kX6_thereAt l D cy a_o a_o_tape a_o_samples a_o_dictionaries a_o_none a_o_trial a_o_opened a_o_output a_o_packer a_o_trainer a_o_opener o_sampleCount qD qDw qDb D_pieceLength D_pieces D_id D_words_length D_words_bytes p1 _ h) (cwV 1 X.2.2.2.2.1 gX6_noneOrThereAt_X6_thereAt rfl rfl rfl cd_X6_thereAt ⟨by decide, by decide⟩) (wr := []) (ws2 := fun u => (([(a_o, .inr (9, [.ref a_o_tape, .ref a_o_samples, .ref a_o_dictionaries, .ref a_o_none, .ref a_o_trial, .ref a_o_opened, .ref a_o_output, .ref a_o_packer, .ref a_o_trainer, .ref a_o_opener, .int o_sampleCount])), (a_o_dictionaries, .inl (cy 4, 6, .inr (.inr (.inr (.inr (fun i => some (qD i)))))))] : va_W) ++ (plW (elD cy qD qDw qDb D_pieceLength D_pieces D_id D_words_length D_words_bytes) 6))) (pm_a (perm_idx [0, 1] rfl rfl)) (fun u => pm_a' (perm_idx [0, 1] rfl rfl)) rfl rfl rfl rfl (Nat.le_of_ble_eq_true rfl) dX6_noneOrThereAt_14 ⟨by decide, by decide⟩ (fun r2 u h => ?_)
    obtain ⟨k3j, ek3, bk3, h⟩ := h
    subst ek3
    cases k3j with
    | none =>
      replace h := h.1 rfl
      refine go_top (y := .null) rfl ?_
      exact hR none () 17 _ dX6_noneOrThereAt_17 ⟨none, rfl, (fun k9 e9 => by cases e9), h⟩
    | some k3 =>
      have hk3 : k3 < 6 := bk3 k3 rfl
      replace h := h.2 k3 hk3 rfl
      refine go_top (y := .ref (qD k3)) rfl ?_
      exact hR (some (qD k3)) () 17 _ dX6_noneOrThereAt_17 ⟨some k3, congrArg some (if_neg (Nat.ne_of_lt hk3)).symm, (fun k9 e9 => by cases e9; exact Nat.le_of_lt hk3), h⟩
  · replace h := h.2 c1
    refine go_aload_n X dX6_noneOrThereAt_5 0 rfl rfl ?_
    refine go_get X fi_X6_noneOrThereAt_X6 0 rfl rfl 3 (by decide) fl_X6_noneOrThereAt_29 rfl dX6_noneOrThereAt_6 ?_
    refine go_goto X 17 dX6_noneOrThereAt_9 (by decide) ?_
    exact hR (some a_o_none) () 17 _ dX6_noneOrThereAt_17 ⟨some 6, rfl, (fun k9 e9 => by cases e9; exact Nat.le_refl 6), h⟩
/-! X6_firstWithId -/
theorem fi_X6_firstWithId_X6 : ∀ w ∈ u_ws RX6 TX6 11, w ∈ wsX6_firstWithId := by decide +kernel
theorem fl_X6_firstWithId_24 : Cond.fieldLink RX6 24 (TX6 2).1 (TX6 2).2.1 (TX6 2).2.2.1 ∈ wsX6_firstWithId := by decide +kernel
theorem fl_X6_firstWithId_29 : Cond.fieldLink RX6 29 (TX6 3).1 (TX6 3).2.1 (TX6 3).2.2.1 ∈ wsX6_firstWithId := by decide +kernel
def rm_X6_firstWithId : Room := { frames := 1, cells := 0, slots := 0, locals := 20 }
theorem cd_X6_firstWithId : yX6_firstWithId.cls = RX6 ∧ yX6_firstWithId.cls ≠ "java/lang/invoke/MethodHandle" ∧ yX6_firstWithId.cls ≠ "java/lang/invoke/VarHandle" ∧ (parseMethodDescriptor yX6_firstWithId.desc).map (fun d => d.parameters.length) = some 1 := by decide +kernel
set_option maxRecDepth 100000 in
set_option maxHeartbeats 4000000 in
theorem pX6_firstWithId_11 {p : Program} (l : Launch) {e : Env} {s : State} {m : MethodId} {args : Array Value} {below : List Frame} {meth : Method} {c : Code} {Q : State → Prop} {D : va_G} {cy : Nat → ClassId} {A : Nat → Prop} (X : Cx p s m args c cX6_firstWithId 3 RX6 wsX6_firstWithId D (tyL cy) A) (a_o : Nat) (a_o_tape : Nat) (a_o_samples : Nat) (a_o_dictionaries : Nat) (a_o_none : Nat) (a_o_trial : Nat) (a_o_opened : Nat) (a_o_output : Nat) (a_o_packer : Nat) (a_o_trainer : Nat) (a_o_opener : Nat) (o_sampleCount : Int32) (qD : Nat → Nat) (qDw : Nat → Nat) (qDb : Nat → Nat) (D_pieceLength : Nat → Int32) (D_pieces : Nat → Int32) (D_id : Nat → Int32) (D_words_length : Nat → Int32) (D_words_bytes : Nat → Nat → Int32) (v1 : Int32) (post : Option Nat → Prop) (hR : RtQ p l e rm_X6_firstWithId s m args below meth c cX6_firstWithId Q 3 D A (fun u : Unit => (([(a_o, .inr (9, [.ref a_o_tape, .ref a_o_samples, .ref a_o_dictionaries, .ref a_o_none, .ref a_o_trial, .ref a_o_opened, .ref a_o_output, .ref a_o_packer, .ref a_o_trainer, .ref a_o_opener, .int o_sampleCount])), (a_o_dictionaries, .inl (cy 4, 6, .inr (.inr (.inr (.inr (fun i => some (qD i)))))))] : va_W) ++ (plW (elD cy qD qDw qDb D_pieceLength D_pieces D_id D_words_length D_words_bytes) 6))) (fun r => fun (u : Unit) => ∃ j : Option Nat, r = j.map (fun k => if k = 6 then a_o_none else qD k) ∧ (∀ k, j = some k → k ≤ 6) ∧ post j ) 0 0) (K : Int32 → Prop) (hK : ∀ (v2 : Int32), K v2 → Go p l e rm_X6_firstWithId s m args below meth c Q 3 D A (([(a_o, .inr (9, [.ref a_o_tape, .ref a_o_samples, .ref a_o_dictionaries, .ref a_o_none, .ref a_o_trial, .ref a_o_opened, .ref a_o_output, .ref a_o_packer, .ref a_o_trainer, .ref a_o_opener, .int o_sampleCount])), (a_o_dictionaries, .inl (cy 4, 6, .inr (.inr (.inr (.inr (fun i => some (qD i)))))))] : va_W) ++ (plW (elD cy qD qDw qDb D_pieceLength D_pieces D_id D_words_length D_words_bytes) 6)) 0 0 43 [] []) :
    ∀ (n : Nat) (v2 : Int32), wX6_firstWithId_11 D_id v1 post K n v2 → Go p l e rm_X6_firstWithId s m args below meth c Q 3 D A (([(a_o, .inr (9, [.ref a_o_tape, .ref a_o_samples, .ref a_o_dictionaries, .ref a_o_none, .ref a_o_trial, .ref a_o_opened, .ref a_o_output, .ref a_o_packer, .ref a_o_trainer, .ref a_o_opener, .int o_sampleCount])), (a_o_dictionaries, .inl (cy 4, 6, .inr (.inr (.inr (.inr (fun i => some (qD i)))))))] : va_W) ++ (plW (elD cy qD qDw qDb D_pieceLength D_pieces D_id D_words_length D_words_bytes) 6)) 0 0 11 [(0, .ref a_o), (1, .int v1), (2, .int v2)] [] := by
  intro n
  induction n with
  | zero => intro v2 h; exact absurd h id
  | succ n ih =>
    intro v2 h
    refine go_iload_n X dX6_firstWithId_11 2 rfl rfl ?_
    refine go_bipush X (v := 6) dX6_firstWithId_12 (by decide) ?_
    refine go_icmp_ge X 43 dX6_firstWithId_14 (by decide) (fun c3 => ?_) (fun c3 => ?_)
    · replace h := h.1 c3
      refine go_lv [] rfl ?_
      exact hK v2 h
    · replace h := h.2 c3
      refine go_aload_n X dX6_firstWithId_17 0 rfl rfl ?_
      refine go_get X fi_X6_firstWithId_X6 0 rfl rfl 2 (by decide) fl_X6_firstWithId_24 rfl dX6_firstWithId_18 ?_
      refine go_iload_n X dX6_firstWithId_21 2 rfl rfl ?_
      obtain ⟨c4, h⟩ := h
      refine go_aldq X 1 4 rfl rfl c4 dX6_firstWithId_22 ?_
      refine go_top (y := .ref (qD v2.toNatClampNeg)) rfl ?_
      refine go_perm (ws' := (([(a_o, .inr (9, [.ref a_o_tape, .ref a_o_samples, .ref a_o_dictionaries, .ref a_o_none, .ref a_o_trial, .ref a_o_opened, .ref a_o_output, .ref a_o_packer, .ref a_o_trainer, .ref a_o_opener, .int o_sampleCount])), (a_o_dictionaries, .inl (cy 4, 6, .inr (.inr (.inr (.inr (fun i => some (qD i))))))), ((qD v2.toNatClampNeg), .inr (3, [.ref (qDw v2.toNatClampNeg), .int (D_pieceLength v2.toNatClampNeg), .int (D_pieces v2.toNatClampNeg), .int (D_id v2.toNatClampNeg)])), ((qDw v2.toNatClampNeg), .inr (7, [.ref (qDb v2.toNatClampNeg), .int (D_words_length v2.toNatClampNeg)])), ((qDb v2.toNatClampNeg), .inl (cy 0, 80, .inl (D_words_bytes v2.toNatClampNeg)))] : va_W) ++ (plO (elD cy qD qDw qDb D_pieceLength D_pieces D_id D_words_length D_words_bytes) 6 v2.toNatClampNeg))) (pm_o (pl_open (vp_lt c4))) ?_
      refine go_callVi X (kX0_id l D cy (qD v2.toNatClampNeg) (qDw v2.toNatClampNeg) (D_pieceLength v2.toNatClampNeg) (D_pieces v2.toNatClampNeg) (D_id v2.toNatClampNeg) _ h) (cwV 0 X.2.2.2.2.1 gX6_firstWithId_X0_id rfl rfl rfl cd_X0_id ⟨by decide, by decide⟩) (wr := (([(a_o, .inr (9, [.ref a_o_tape, .ref a_o_samples, .ref a_o_dictionaries, .ref a_o_none, .ref a_o_trial, .ref a_o_opened, .ref a_o_output, .ref a_o_packer, .ref a_o_trainer, .ref a_o_opener, .int o_sampleCount])), (a_o_dictionaries, .inl (cy 4, 6, .inr (.inr (.inr (.inr (fun i => some (qD i))))))), ((qDw v2.toNatClampNeg), .inr (7, [.ref (qDb v2.toNatClampNeg), .int (D_words_length v2.toNatClampNeg)])), ((qDb v2.toNatClampNeg), .inl (cy 0, 80, .inl (D_words_bytes v2.toNatClampNeg)))] : va_W) ++ (plO (elD cy qD qDw qDb D_pieceLength D_pieces D_id D_words_length D_words_bytes) 6 v2.toNatClampNeg))) (ws2 := fun u => (([(a_o, .inr (9, [.ref a_o_tape, .ref a_o_samples, .ref a_o_dictionaries, .ref a_o_none, .ref a_o_trial, .ref a_o_opened, .ref a_o_output, .ref a_o_packer, .ref a_o_trainer, .ref a_o_opener, .int o_sampleCount])), (a_o_dictionaries, .inl (cy 4, 6, .inr (.inr (.inr (.inr (fun i => some (qD i))))))), ((qD v2.toNatClampNeg), .inr (3, [.ref (qDw v2.toNatClampNeg), .int (D_pieceLength v2.toNatClampNeg), .int (D_pieces v2.toNatClampNeg), .int (D_id v2.toNatClampNeg)])), ((qDw v2.toNatClampNeg), .inr (7, [.ref (qDb v2.toNatClampNeg), .int (D_words_length v2.toNatClampNeg)])), ((qDb v2.toNatClampNeg), .inl (cy 0, 80, .inl (D_words_bytes v2.toNatClampNeg)))] : va_W) ++ (plO (elD cy qD qDw qDb D_pieceLength D_pieces D_id D_words_length D_words_bytes) 6 v2.toNatClampNeg))) (pm_n (perm_idx [2, 0, 1, 3, 4] rfl rfl)) (fun u => pm_n' (perm_idx [1, 2, 0, 3, 4] rfl rfl)) rfl rfl rfl rfl (Nat.le_of_ble_eq_true rfl) dX6_firstWithId_23 ⟨by decide, by decide⟩ (fun r5 u h => ?_)
      refine go_iload_n X dX6_firstWithId_26 1 rfl rfl ?_
      refine go_icmp_ne X 37 dX6_firstWithId_27 (by decide) (fun c6 => ?_) (fun c6 => ?_)
      · replace h := h.1 c6
        obtain ⟨y7, ey7⟩ : ∃ z : Int32, z = v2 + 1 := ⟨_, rfl⟩
        replace h := h y7 ey7
        refine go_iinc X (lv' := [(2, .int y7), (0, .ref a_o), (1, .int v1)]) y7 dX6_firstWithId_37 2 rfl (by rw [ey7]; rfl) (by decide) rfl ?_
        refine go_goto X 11 dX6_firstWithId_40 (by decide) ?_
        refine go_perm (ws' := (([(a_o, .inr (9, [.ref a_o_tape, .ref a_o_samples, .ref a_o_dictionaries, .ref a_o_none, .ref a_o_trial, .ref a_o_opened, .ref a_o_output, .ref a_o_packer, .ref a_o_trainer, .ref a_o_opener, .int o_sampleCount])), (a_o_dictionaries, .inl (cy 4, 6, .inr (.inr (.inr (.inr (fun i => some (qD i)))))))] : va_W) ++ (plW (elD cy qD qDw qDb D_pieceLength D_pieces D_id D_words_length D_words_bytes) 6))) (pm_c (C := ([(a_o, .inr (9, [.ref a_o_tape, .ref a_o_samples, .ref a_o_dictionaries, .ref a_o_none, .ref a_o_trial, .ref a_o_opened, .ref a_o_output, .ref a_o_packer, .ref a_o_trainer, .ref a_o_opener, .int o_sampleCount])), (a_o_dictionaries, .inl (cy 4, 6, .inr (.inr (.inr (.inr (fun i => some (qD i)))))))] : va_W)) (clD (vp_lt c4) (eq_ok D_pieceLength v2.toNatClampNeg) (eq_ok D_pieces v2.toNatClampNeg) (eq_ok D_id v2.toNatClampNeg) (eq_ok D_words_length v2.toNatClampNeg) (eq_ok D_words_bytes v2.toNatClampNeg))) ?_
        refine go_lv [1, 2, 0] rfl ?_
        exact ih y7 h
      · replace h := h.2 c6
        refine go_aload_n X dX6_firstWithId_30 0 rfl rfl ?_
        refine go_get X fi_X6_firstWithId_X6 0 rfl rfl 2 (by decide) fl_X6_firstWithId_24 rfl dX6_firstWithId_31 ?_
        refine go_iload_n X dX6_firstWithId_34 2 rfl rfl ?_
        obtain ⟨c8, h⟩ := h
        refine go_aldq X 1 4 rfl rfl c8 dX6_firstWithId_35 ?_
        refine go_top (y := .ref (qD v2.toNatClampNeg)) rfl ?_
        refine go_perm (ws' := (([(a_o, .inr (9, [.ref a_o_tape, .ref a_o_samples, .ref a_o_dictionaries, .ref a_o_none, .ref a_o_trial, .ref a_o_opened, .ref a_o_output, .ref a_o_packer, .ref a_o_trainer, .ref a_o_opener, .int o_sampleCount])), (a_o_dictionaries, .inl (cy 4, 6, .inr (.inr (.inr (.inr (fun i => some (qD i)))))))] : va_W) ++ (plW (elD cy qD qDw qDb D_pieceLength D_pieces D_id D_words_length D_words_bytes) 6))) (pm_c (C := ([(a_o, .inr (9, [.ref a_o_tape, .ref a_o_samples, .ref a_o_dictionaries, .ref a_o_none, .ref a_o_trial, .ref a_o_opened, .ref a_o_output, .ref a_o_packer, .ref a_o_trainer, .ref a_o_opener, .int o_sampleCount])), (a_o_dictionaries, .inl (cy 4, 6, .inr (.inr (.inr (.inr (fun i => some (qD i)))))))] : va_W)) (clD (vp_lt c4) (eq_ok D_pieceLength v2.toNatClampNeg) (eq_ok D_pieces v2.toNatClampNeg) (eq_ok D_id v2.toNatClampNeg) (eq_ok D_words_length v2.toNatClampNeg) (eq_ok D_words_bytes v2.toNatClampNeg))) ?_
        exact hR (some (qD v2.toNatClampNeg)) () 36 _ dX6_firstWithId_36 ⟨some v2.toNatClampNeg, congrArg some (if_neg (Nat.ne_of_lt (vp_lt c8))).symm, (fun k9 e9 => by cases e9; exact Nat.le_of_lt (vp_lt c8)), h⟩
set_option maxRecDepth 100000 in
set_option maxHeartbeats 4000000 in
theorem kX6_firstWithId (l : Launch) (D : va_G) (cy : Nat → ClassId) (a_o : Nat) (a_o_tape : Nat) (a_o_samples : Nat) (a_o_dictionaries : Nat) (a_o_none : Nat) (a_o_trial : Nat) (a_o_opened : Nat) (a_o_output : Nat) (a_o_packer : Nat) (a_o_trainer : Nat) (a_o_opener : Nat) (o_sampleCount : Int32) (qD : Nat → Nat) (qDw : Nat → Nat) (qDb : Nat → Nat) (D_pieceLength : Nat → Int32) (D_pieces : Nat → Int32) (D_id : Nat → Int32) (D_words_length : Nat → Int32) (D_words_bytes : Nat → Nat → Int32) (p1 : Int32) (post : Option Nat → Prop) (h : wX6_firstWithId D_id p1 post) : MetQ l yX6_firstWithId wsX6_firstWithId rm_X6_firstWithId D (tyL cy) [.ref a_o, .int p1] (([(a_o, .inr (9, [.ref a_o_tape, .ref a_o_samples, .ref a_o_dictionaries, .ref a_o_none, .ref a_o_trial, .ref a_o_opened, .ref a_o_output, .ref a_o_packer, .ref a_o_trainer, .ref a_o_opener, .int o_sampleCount])), (a_o_dictionaries, .inl (cy 4, 6, .inr (.inr (.inr (.inr (fun i => some (qD i)))))))] : va_W) ++ (plW (elD cy qD qDw qDb D_pieceLength D_pieces D_id D_words_length D_words_bytes) 6)) (fun u : Unit => (([(a_o, .inr (9, [.ref a_o_tape, .ref a_o_samples, .ref a_o_dictionaries, .ref a_o_none, .ref a_o_trial, .ref a_o_opened, .ref a_o_output, .ref a_o_packer, .ref a_o_trainer, .ref a_o_opener, .int o_sampleCount])), (a_o_dictionaries, .inl (cy 4, 6, .inr (.inr (.inr (.inr (fun i => some (qD i)))))))] : va_W) ++ (plW (elD cy qD qDw qDb D_pieceLength D_pieces D_id D_words_length D_words_bytes) 6))) (fun r => fun (u : Unit) => ∃ j : Option Nat, r = j.map (fun k => if k = 6 then a_o_none else qD k) ∧ (∀ k, j = some k → k ≤ 6) ∧ post j ) 0 0 := by
  refine metQ_of (cc := cX6_firstWithId) (maxL := 3) (lv := [(0, .ref a_o), (1, .int p1)]) (by decide) rfl (Nat.le_of_ble_eq_true rfl) rfl ?_
  intro p e s m below meth c Q A X hlk hR
  unfold wX6_firstWithId at h
  refine go_iload_n X dX6_firstWithId_0 1 rfl rfl ?_
  refine go_if_ne X 9 dX6_firstWithId_1 (by decide) (fun c1 => ?_) (fun c1 => ?_)
  · replace h := h.1 c1
    refine go_iconst X (v := 0) dX6_firstWithId_9 (by decide) ?_
    refine go_istore_n X (lv' := [(2, .int 0), (0, .ref a_o), (1, .int p1)]) dX6_firstWithId_10 rfl (by decide) rfl ?_
    obtain ⟨n9, h⟩ := h
    refine go_lv [1, 2, 0] rfl ?_
    refine pX6_firstWithId_11 l X a_o a_o_tape a_o_samples a_o_dictionaries a_o_none a_o_trial a_o_opened a_o_output a_o_packer a_o_trainer a_o_opener o_sampleCount qD qDw qDb D_pieceLength D_pieces D_id D_words_length D_words_bytes p1 post hR _ (fun y2 h => ?_) n9 (0 : Int32) h
    refine go_null X dX6_firstWithId_43 ?_
    exact hR none () 44 _ dX6_firstWithId_44 ⟨none, rfl, (fun k9 e9 => by cases e9), h⟩
  · replace h := h.2 c1
    refine go_aload_n X dX6_firstWithId_4 0 rfl rfl ?_
    refine go_get X fi_X6_firstWithId_X6 0 rfl rfl 3 (by decide) fl_X6_firstWithId_29 rfl dX6_firstWithId_5 ?_
    exact hR (some a_o_none) () 8 _ dX6_firstWithId_8 ⟨some 6, rfl, (fun k9 e9 => by cases e9; exact Nat.le_refl 6), h⟩
/-! X6_countThere -/
theorem fi_X6_countThere_X6 : ∀ w ∈ u_ws RX6 TX6 11, w ∈ wsX6_countThere := by decide +kernel
theorem fl_X6_countThere_24 : Cond.fieldLink RX6 24 (TX6 2).1 (TX6 2).2.1 (TX6 2).2.2.1 ∈ wsX6_countThere := by decide +kernel
def rm_X6_countThere : Room := { frames := 1, cells := 0, slots := 0, locals := 20 }
theorem cd_X6_countThere : yX6_countThere.cls = RX6 ∧ yX6_countThere.cls ≠ "java/lang/invoke/MethodHandle" ∧ yX6_countThere.cls ≠ "java/lang/invoke/VarHandle" ∧ (parseMethodDescriptor yX6_countThere.desc).map (fun d => d.parameters.length) = some 0 := by decide +kernel
set_option maxRecDepth 100000 in
set_option maxHeartbeats 4000000 in
theorem pX6_countThere_4 {p : Program} (l : Launch) {e : Env} {s : State} {m : MethodId} {args : Array Value} {below : List Frame} {meth : Method} {c : Code} {Q : State → Prop} {D : va_G} {cy : Nat → ClassId} {A : Nat → Prop} (X : Cx p s m args c cX6_countThere 3 RX6 wsX6_countThere D (tyL cy) A) (a_o : Nat) (a_o_tape : Nat) (a_o_samples : Nat) (a_o_dictionaries : Nat) (a_o_none : Nat) (a_o_trial : Nat) (a_o_opened : Nat) (a_o_output : Nat) (a_o_packer : Nat) (a_o_trainer : Nat) (a_o_opener : Nat) (o_sampleCount : Int32) (qD : Nat → Nat) (qDw : Nat → Nat) (qDb : Nat → Nat) (D_pieceLength : Nat → Int32) (D_pieces : Nat → Int32) (D_id : Nat → Int32) (D_words_length : Nat → Int32) (D_words_bytes : Nat → Nat → Int32) (K : Int32 → Int32 → Prop) (hK : ∀ (v1 : Int32) (v2 : Int32), K v1 v2 → Go p l e rm_X6_countThere s m args below meth c Q 3 D A (([(a_o, .inr (9, [.ref a_o_tape, .ref a_o_samples, .ref a_o_dictionaries, .ref a_o_none, .ref a_o_trial, .ref a_o_opened, .ref a_o_output, .ref a_o_packer, .ref a_o_trainer, .ref a_o_opener, .int o_sampleCount])), (a_o_dictionaries, .inl (cy 4, 6, .inr (.inr (.inr (.inr (fun i => some (qD i)))))))] : va_W) ++ (plW (elD cy qD qDw qDb D_pieceLength D_pieces D_id D_words_length D_words_bytes) 6)) 0 0 31 [(1, .int v1)] []) :
    ∀ (n : Nat) (v1 : Int32) (v2 : Int32), wX6_countThere_4 D_id K n v1 v2 → Go p l e rm_X6_countThere s m args below meth c Q 3 D A (([(a_o, .inr (9, [.ref a_o_tape, .ref a_o_samples, .ref a_o_dictionaries, .ref a_o_none, .ref a_o_trial, .ref a_o_opened, .ref a_o_output, .ref a_o_packer, .ref a_o_trainer, .ref a_o_opener, .int o_sampleCount])), (a_o_dictionaries, .inl (cy 4, 6, .inr (.inr (.inr (.inr (fun i => some (qD i)))))))] : va_W) ++ (plW (elD cy qD qDw qDb D_pieceLength D_pieces D_id D_words_length D_words_bytes) 6)) 0 0 4 [(0, .ref a_o), (1, .int v1), (2, .int v2)] [] := by
  intro n
  induction n with
  | zero => intro v1 v2 h; exact absurd h id
  | succ n ih =>
    intro v1 v2 h
    refine go_iload_n X dX6_countThere_4 2 rfl rfl ?_
    refine go_bipush X (v := 6) dX6_countThere_5 (by decide) ?_
    refine go_icmp_ge X 31 dX6_countThere_7 (by decide) (fun c3 => ?_) (fun c3 => ?_)
    · replace h := h.1 c3
      refine go_lv [1] rfl ?_
      exact hK v1 v2 h
    · replace h := h.2 c3
      refine go_aload_n X dX6_countThere_10 0 rfl rfl ?_
      refine go_get X fi_X6_countThere_X6 0 rfl rfl 2 (by decide) fl_X6_countThere_24 rfl dX6_countThere_11 ?_
      refine go_iload_n X dX6_countThere_14 2 rfl rfl ?_
      obtain ⟨c4, h⟩ := h
      refine go_aldq X 1 4 rfl rfl c4 dX6_countThere_15 ?_
      refine go_top (y := .ref (qD v2.toNatClampNeg)) rfl ?_
      refine go_perm (ws' := (([(a_o, .inr (9, [.ref a_o_tape, .ref a_o_samples, .ref a_o_dictionaries, .ref a_o_none, .ref a_o_trial, .ref a_o_opened, .ref a_o_output, .ref a_o_packer, .ref a_o_trainer, .ref a_o_opener, .int o_sampleCount])), (a_o_dictionaries, .inl (cy 4, 6, .inr (.inr (.inr (.inr (fun i => some (qD i))))))), ((qD v2.toNatClampNeg), .inr (3, [.ref (qDw v2.toNatClampNeg), .int (D_pieceLength v2.toNatClampNeg), .int (D_pieces v2.toNatClampNeg), .int (D_id v2.toNatClampNeg)])), ((qDw v2.toNatClampNeg), .inr (7, [.ref (qDb v2.toNatClampNeg), .int (D_words_length v2.toNatClampNeg)])), ((qDb v2.toNatClampNeg), .inl (cy 0, 80, .inl (D_words_bytes v2.toNatClampNeg)))] : va_W) ++ (plO (elD cy qD qDw qDb D_pieceLength D_pieces D_id D_words_length D_words_bytes) 6 v2.toNatClampNeg))) (pm_o (pl_open (vp_lt c4))) ?_
      refine go_callVi X (kX0_isThere l D cy (qD v2.toNatClampNeg) (qDw v2.toNatClampNeg) (D_pieceLength v2.toNatClampNeg) (D_pieces v2.toNatClampNeg) (D_id v2.toNatClampNeg) _ h) (cwV 0 X.2.2.2.2.1 gX6_countThere_X0_isThere rfl rfl rfl cd_X0_isThere ⟨by decide, by decide⟩) (wr := (([(a_o, .inr (9, [.ref a_o_tape, .ref a_o_samples, .ref a_o_dictionaries, .ref a_o_none, .ref a_o_trial, .ref a_o_opened, .ref a_o_output, .ref a_o_packer, .ref a_o_trainer, .ref a_o_opener, .int o_sampleCount])), (a_o_dictionaries, .inl (cy 4, 6, .inr (.inr (.inr (.inr (fun i => some (qD i))))))), ((qDw v2.toNatClampNeg), .inr (7, [.ref (qDb v2.toNatClampNeg), .int (D_words_length v2.toNatClampNeg)])), ((qDb v2.toNatClampNeg), .inl (cy 0, 80, .inl (D_words_bytes v2.toNatClampNeg)))] : va_W) ++ (plO (elD cy qD qDw qDb D_pieceLength D_pieces D_id D_words_length D_words_bytes) 6 v2.toNatClampNeg))) (ws2 := fun u => (([(a_o, .inr (9, [.ref a_o_tape, .ref a_o_samples, .ref a_o_dictionaries, .ref a_o_none, .ref a_o_trial, .ref a_o_opened, .ref a_o_output, .ref a_o_packer, .ref a_o_trainer, .ref a_o_opener, .int o_sampleCount])), (a_o_dictionaries, .inl (cy 4, 6, .inr (.inr (.inr (.inr (fun i => some (qD i))))))), ((qD v2.toNatClampNeg), .inr (3, [.ref (qDw v2.toNatClampNeg), .int (D_pieceLength v2.toNatClampNeg), .int (D_pieces v2.toNatClampNeg), .int (D_id v2.toNatClampNeg)])), ((qDw v2.toNatClampNeg), .inr (7, [.ref (qDb v2.toNatClampNeg), .int (D_words_length v2.toNatClampNeg)])), ((qDb v2.toNatClampNeg), .inl (cy 0, 80, .inl (D_words_bytes v2.toNatClampNeg)))] : va_W) ++ (plO (elD cy qD qDw qDb D_pieceLength D_pieces D_id D_words_length D_words_bytes) 6 v2.toNatClampNeg))) (pm_n (perm_idx [2, 0, 1, 3, 4] rfl rfl)) (fun u => pm_n' (perm_idx [1, 2, 0, 3, 4] rfl rfl)) rfl rfl rfl rfl (Nat.le_of_ble_eq_true rfl) dX6_countThere_16 ⟨by decide, by decide⟩ (fun r5 u h => ?_)
      refine go_if_eq X 25 dX6_countThere_19 (by decide) (fun c6 => ?_) (fun c6 => ?_)
      · replace h := h.1 c6
        obtain ⟨y7, ey7⟩ : ∃ z : Int32, z = v2 + 1 := ⟨_, rfl⟩
        replace h := h y7 ey7
        refine go_iinc X (lv' := [(2, .int y7), (0, .ref a_o), (1, .int v1)]) y7 dX6_countThere_25 2 rfl (by rw [ey7]; rfl) (by decide) rfl ?_
        refine go_goto X 4 dX6_countThere_28 (by decide) ?_
        refine go_perm (ws' := (([(a_o, .inr (9, [.ref a_o_tape, .ref a_o_samples, .ref a_o_dictionaries, .ref a_o_none, .ref a_o_trial, .ref a_o_opened, .ref a_o_output, .ref a_o_packer, .ref a_o_trainer, .ref a_o_opener, .int o_sampleCount])), (a_o_dictionaries, .inl (cy 4, 6, .inr (.inr (.inr (.inr (fun i => some (qD i)))))))] : va_W) ++ (plW (elD cy qD qDw qDb D_pieceLength D_pieces D_id D_words_length D_words_bytes) 6))) (pm_c (C := ([(a_o, .inr (9, [.ref a_o_tape, .ref a_o_samples, .ref a_o_dictionaries, .ref a_o_none, .ref a_o_trial, .ref a_o_opened, .ref a_o_output, .ref a_o_packer, .ref a_o_trainer, .ref a_o_opener, .int o_sampleCount])), (a_o_dictionaries, .inl (cy 4, 6, .inr (.inr (.inr (.inr (fun i => some (qD i)))))))] : va_W)) (clD (vp_lt c4) (eq_ok D_pieceLength v2.toNatClampNeg) (eq_ok D_pieces v2.toNatClampNeg) (eq_ok D_id v2.toNatClampNeg) (eq_ok D_words_length v2.toNatClampNeg) (eq_ok D_words_bytes v2.toNatClampNeg))) ?_
        refine go_lv [1, 2, 0] rfl ?_
        exact ih v1 y7 h
      · replace h := h.2 c6
        obtain ⟨y8, ey8⟩ : ∃ z : Int32, z = v1 + 1 := ⟨_, rfl⟩
        replace h := h y8 ey8
        refine go_iinc X (lv' := [(1, .int y8), (0, .ref a_o), (2, .int v2)]) y8 dX6_countThere_22 1 rfl (by rw [ey8]; rfl) (by decide) rfl ?_
        obtain ⟨y9, ey9⟩ : ∃ z : Int32, z = v2 + 1 := ⟨_, rfl⟩
        replace h := h y9 ey9
        refine go_iinc X (lv' := [(2, .int y9), (1, .int y8), (0, .ref a_o)]) y9 dX6_countThere_25 2 rfl (by rw [ey9]; rfl) (by decide) rfl ?_
        refine go_goto X 4 dX6_countThere_28 (by decide) ?_
        refine go_perm (ws' := (([(a_o, .inr (9, [.ref a_o_tape, .ref a_o_samples, .ref a_o_dictionaries, .ref a_o_none, .ref a_o_trial, .ref a_o_opened, .ref a_o_output, .ref a_o_packer, .ref a_o_trainer, .ref a_o_opener, .int o_sampleCount])), (a_o_dictionaries, .inl (cy 4, 6, .inr (.inr (.inr (.inr (fun i => some (qD i)))))))] : va_W) ++ (plW (elD cy qD qDw qDb D_pieceLength D_pieces D_id D_words_length D_words_bytes) 6))) (pm_c (C := ([(a_o, .inr (9, [.ref a_o_tape, .ref a_o_samples, .ref a_o_dictionaries, .ref a_o_none, .ref a_o_trial, .ref a_o_opened, .ref a_o_output, .ref a_o_packer, .ref a_o_trainer, .ref a_o_opener, .int o_sampleCount])), (a_o_dictionaries, .inl (cy 4, 6, .inr (.inr (.inr (.inr (fun i => some (qD i)))))))] : va_W)) (clD (vp_lt c4) (eq_ok D_pieceLength v2.toNatClampNeg) (eq_ok D_pieces v2.toNatClampNeg) (eq_ok D_id v2.toNatClampNeg) (eq_ok D_words_length v2.toNatClampNeg) (eq_ok D_words_bytes v2.toNatClampNeg))) ?_
        refine go_lv [2, 1, 0] rfl ?_
        exact ih y8 y9 h
set_option maxRecDepth 100000 in
set_option maxHeartbeats 4000000 in
theorem kX6_countThere (l : Launch) (D : va_G) (cy : Nat → ClassId) (a_o : Nat) (a_o_tape : Nat) (a_o_samples : Nat) (a_o_dictionaries : Nat) (a_o_none : Nat) (a_o_trial : Nat) (a_o_opened : Nat) (a_o_output : Nat) (a_o_packer : Nat) (a_o_trainer : Nat) (a_o_opener : Nat) (o_sampleCount : Int32) (qD : Nat → Nat) (qDw : Nat → Nat) (qDb : Nat → Nat) (D_pieceLength : Nat → Int32) (D_pieces : Nat → Int32) (D_id : Nat → Int32) (D_words_length : Nat → Int32) (D_words_bytes : Nat → Nat → Int32) (post : Int32 → Prop) (h : wX6_countThere D_id post) : MetI l yX6_countThere wsX6_countThere rm_X6_countThere D (tyL cy) [.ref a_o] (([(a_o, .inr (9, [.ref a_o_tape, .ref a_o_samples, .ref a_o_dictionaries, .ref a_o_none, .ref a_o_trial, .ref a_o_opened, .ref a_o_output, .ref a_o_packer, .ref a_o_trainer, .ref a_o_opener, .int o_sampleCount])), (a_o_dictionaries, .inl (cy 4, 6, .inr (.inr (.inr (.inr (fun i => some (qD i)))))))] : va_W) ++ (plW (elD cy qD qDw qDb D_pieceLength D_pieces D_id D_words_length D_words_bytes) 6)) (fun u : Unit => (([(a_o, .inr (9, [.ref a_o_tape, .ref a_o_samples, .ref a_o_dictionaries, .ref a_o_none, .ref a_o_trial, .ref a_o_opened, .ref a_o_output, .ref a_o_packer, .ref a_o_trainer, .ref a_o_opener, .int o_sampleCount])), (a_o_dictionaries, .inl (cy 4, 6, .inr (.inr (.inr (.inr (fun i => some (qD i)))))))] : va_W) ++ (plW (elD cy qD qDw qDb D_pieceLength D_pieces D_id D_words_length D_words_bytes) 6))) (fun r => fun (u : Unit) => post r ) 0 0 := by
  refine metI_of (cc := cX6_countThere) (maxL := 3) (lv := [(0, .ref a_o)]) (by decide) rfl (Nat.le_of_ble_eq_true rfl) rfl ?_
  intro p e s m below meth c Q A X hlk hR
  unfold wX6_countThere at h
  refine go_iconst X (v := 0) dX6_countThere_0 (by decide) ?_
  refine go_istore_n X (lv' := [(1, .int 0), (0, .ref a_o)]) dX6_countThere_1 rfl (by decide) rfl ?_
  refine go_iconst X (v := 0) dX6_countThere_2 (by decide) ?_
  refine go_istore_n X (lv' := [(2, .int 0), (1, .int 0), (0, .ref a_o)]) dX6_countThere_3 rfl (by decide) rfl ?_
  obtain ⟨n10, h⟩ := h
  refine go_lv [2, 1, 0] rfl ?_
  refine pX6_countThere_4 l X a_o a_o_tape a_o_samples a_o_dictionaries a_o_none a_o_trial a_o_opened a_o_output a_o_packer a_o_trainer a_o_opener o_sampleCount qD qDw qDb D_pieceLength D_pieces D_id D_words_length D_words_bytes  _ (fun y1 y2 h => ?_) n10 (0 : Int32) (0 : Int32) h
  refine go_iload_n X dX6_countThere_31 0 rfl rfl ?_
  exact hR y1 () 32 _ dX6_countThere_32 rfl h
/-! X6_bytesOfSamples -/
theorem fi_X6_bytesOfSamples_X6 : ∀ w ∈ u_ws RX6 TX6 11, w ∈ wsX6_bytesOfSamples := by decide +kernel
theorem fl_X6_bytesOfSamples_78 : Cond.fieldLink RX6 78 (TX6 10).1 (TX6 10).2.1 (TX6 10).2.2.1 ∈ wsX6_bytesOfSamples := by decide +kernel
theorem fl_X6_bytesOfSamples_49 : Cond.fieldLink RX6 49 (TX6 7).1 (TX6 7).2.1 (TX6 7).2.2.1 ∈ wsX6_bytesOfSamples := by decide +kernel
theorem fl_X6_bytesOfSamples_18 : Cond.fieldLink RX6 18 (TX6 1).1 (TX6 1).2.1 (TX6 1).2.2.1 ∈ wsX6_bytesOfSamples := by decide +kernel
def rm_X6_bytesOfSamples : Room := { frames := 4, cells := 0, slots := 0, locals := 94 }
theorem cd_X6_bytesOfSamples : yX6_bytesOfSamples.cls = RX6 ∧ yX6_bytesOfSamples.cls ≠ "java/lang/invoke/MethodHandle" ∧ yX6_bytesOfSamples.cls ≠ "java/lang/invoke/VarHandle" ∧ (parseMethodDescriptor yX6_bytesOfSamples.desc).map (fun d => d.parameters.length) = some 1 := by decide +kernel
set_option maxRecDepth 100000 in
set_option maxHeartbeats 4000000 in
theorem pX6_bytesOfSamples_4 {p : Program} (l : Launch) {e : Env} {s : State} {m : MethodId} {args : Array Value} {below : List Frame} {meth : Method} {c : Code} {Q : State → Prop} {D : va_G} {cy : Nat → ClassId} {A : Nat → Prop} (X : Cx p s m args c cX6_bytesOfSamples 4 RX6 wsX6_bytesOfSamples D (tyL cy) A) (a_o : Nat) (a_o_tape : Nat) (a_o_samples : Nat) (a_o_dictionaries : Nat) (a_o_none : Nat) (a_o_trial : Nat) (a_o_opened : Nat) (a_o_output : Nat) (a_o_packer : Nat) (a_o_trainer : Nat) (a_o_opener : Nat) (a_o_packer_joined : Nat) (a_o_packer_earlier : Nat) (a_o_packer_latest : Nat) (a_o_packer_cost : Nat) (a_o_packer_choice : Nat) (a_p1 : Nat) (a_p1_bytes : Nat) (n_p1_bytes : Nat) (o_sampleCount : Int32) (p1_length : Int32) (p1_bytes : Nat → Int32) (qS : Nat → Nat) (qSb : Nat → Nat) (S_length : Nat → Int32) (S_bytes : Nat → Nat → Int32) (K : Int32 → Int32 → (Nat → Int32) → (Nat → Int32) → (Nat → Int32) → (Nat → Int32) → (Nat → Int32) → Int32 → Int32 → Prop) (hK : ∀ (o_packer_start : Int32) (o_packer_length : Int32) (o_packer_joined : Nat → Int32) (o_packer_earlier : Nat → Int32) (o_packer_latest : Nat → Int32) (o_packer_cost : Nat → Int32) (o_packer_choice : Nat → Int32) (v2 : Int32) (v3 : Int32), K o_packer_start o_packer_length o_packer_joined o_packer_earlier o_packer_latest o_packer_cost o_packer_choice v2 v3 → Go p l e rm_X6_bytesOfSamples s m args below meth c Q 4 D A (([(a_o, .inr (9, [.ref a_o_tape, .ref a_o_samples, .ref a_o_dictionaries, .ref a_o_none, .ref a_o_trial, .ref a_o_opened, .ref a_o_output, .ref a_o_packer, .ref a_o_trainer, .ref a_o_opener, .int o_sampleCount])), (a_o_samples, .inl (cy 5, 8, .inr (.inr (.inr (.inr (fun i => some (qS i))))))), (a_o_packer, .inr (6, [.ref a_o_packer_joined, .ref a_o_packer_earlier, .ref a_o_packer_latest, .ref a_o_packer_cost, .ref a_o_packer_choice, .int o_packer_start, .int o_packer_length])), (a_o_packer_joined, .inl (cy 0, 280, .inl o_packer_joined)), (a_o_packer_earlier, .inl (cy 1, 280, .inl o_packer_earlier)), (a_o_packer_latest, .inl (cy 1, 256, .inl o_packer_latest)), (a_o_packer_cost, .inl (cy 1, 201, .inl o_packer_cost)), (a_o_packer_choice, .inl (cy 1, 200, .inl o_packer_choice)), (a_p1, .inr (7, [.ref a_p1_bytes, .int p1_length])), (a_p1_bytes, .inl (cy 0, n_p1_bytes, .inl p1_bytes))] : va_W) ++ (plW (elS cy qS qSb S_bytes S_length) 8)) 0 0 35 [(2, .int v2)] []) :
    ∀ (n : Nat) (o_packer_start : Int32) (o_packer_length : Int32) (o_packer_joined : Nat → Int32) (o_packer_earlier : Nat → Int32) (o_packer_latest : Nat → Int32) (o_packer_cost : Nat → Int32) (o_packer_choice : Nat → Int32) (v2 : Int32) (v3 : Int32), wX6_bytesOfSamples_4 n_p1_bytes o_sampleCount p1_length p1_bytes S_length S_bytes K n o_packer_start o_packer_length o_packer_joined o_packer_earlier o_packer_latest o_packer_cost o_packer_choice v2 v3 → Go p l e rm_X6_bytesOfSamples s m args below meth c Q 4 D A (([(a_o, .inr (9, [.ref a_o_tape, .ref a_o_samples, .ref a_o_dictionaries, .ref a_o_none, .ref a_o_trial, .ref a_o_opened, .ref a_o_output, .ref a_o_packer, .ref a_o_trainer, .ref a_o_opener, .int o_sampleCount])), (a_o_samples, .inl (cy 5, 8, .inr (.inr (.inr (.inr (fun i => some (qS i))))))), (a_o_packer, .inr (6, [.ref a_o_packer_joined, .ref a_o_packer_earlier, .ref a_o_packer_latest, .ref a_o_packer_cost, .ref a_o_packer_choice, .int o_packer_start, .int o_packer_length])), (a_o_packer_joined, .inl (cy 0, 280, .inl o_packer_joined)), (a_o_packer_earlier, .inl (cy 1, 280, .inl o_packer_earlier)), (a_o_packer_latest, .inl (cy 1, 256, .inl o_packer_latest)), (a_o_packer_cost, .inl (cy 1, 201, .inl o_packer_cost)), (a_o_packer_choice, .inl (cy 1, 200, .inl o_packer_choice)), (a_p1, .inr (7, [.ref a_p1_bytes, .int p1_length])), (a_p1_bytes, .inl (cy 0, n_p1_bytes, .inl p1_bytes))] : va_W) ++ (plW (elS cy qS qSb S_bytes S_length) 8)) 0 0 4 [(0, .ref a_o), (1, .ref a_p1), (2, .int v2), (3, .int v3)] [] := by
  intro n
  induction n with
  | zero => intro o_packer_start o_packer_length o_packer_joined o_packer_earlier o_packer_latest o_packer_cost o_packer_choice v2 v3 h; exact absurd h id
  | succ n ih =>
    intro o_packer_start o_packer_length o_packer_joined o_packer_earlier o_packer_latest o_packer_cost o_packer_choice v2 v3 h
    refine go_iload_n X dX6_bytesOfSamples_4 3 rfl rfl ?_
    refine go_aload_n X dX6_bytesOfSamples_5 0 rfl rfl ?_
    refine go_get X fi_X6_bytesOfSamples_X6 0 rfl rfl 10 (by decide) fl_X6_bytesOfSamples_78 rfl dX6_bytesOfSamples_6 ?_
    refine go_icmp_ge X 35 dX6_bytesOfSamples_9 (by decide) (fun c10 => ?_) (fun c10 => ?_)
    · replace h := h.1 c10
      refine go_lv [2] rfl ?_
      exact hK o_packer_start o_packer_length o_packer_joined o_packer_earlier o_packer_latest o_packer_cost o_packer_choice v2 v3 h
    · replace h := h.2 c10
      refine go_iload_n X dX6_bytesOfSamples_12 2 rfl rfl ?_
      refine go_aload_n X dX6_bytesOfSamples_13 0 rfl rfl ?_
      refine go_get X fi_X6_bytesOfSamples_X6 0 rfl rfl 7 (by decide) fl_X6_bytesOfSamples_49 rfl dX6_bytesOfSamples_14 ?_
      refine go_aload_n X dX6_bytesOfSamples_17 0 rfl rfl ?_
      refine go_get X fi_X6_bytesOfSamples_X6 0 rfl rfl 1 (by decide) fl_X6_bytesOfSamples_18 rfl dX6_bytesOfSamples_18 ?_
      refine go_iload_n X dX6_bytesOfSamples_21 3 rfl rfl ?_
      obtain ⟨c11, h⟩ := h
      refine go_aldq X 1 5 rfl rfl c11 dX6_bytesOfSamples_22 ?_
      refine go_top (y := .ref (qS v3.toNatClampNeg)) rfl ?_
      refine go_aload_n X dX6_bytesOfSamples_23 1 rfl rfl ?_
      refine go_perm (ws' := (([(a_o, .inr (9, [.ref a_o_tape, .ref a_o_samples, .ref a_o_dictionaries, .ref a_o_none, .ref a_o_trial, .ref a_o_opened, .ref a_o_output, .ref a_o_packer, .ref a_o_trainer, .ref a_o_opener, .int o_sampleCount])), (a_o_samples, .inl (cy 5, 8, .inr (.inr (.inr (.inr (fun i => some (qS i))))))), (a_o_packer, .inr (6, [.ref a_o_packer_joined, .ref a_o_packer_earlier, .ref a_o_packer_latest, .ref a_o_packer_cost, .ref a_o_packer_choice, .int o_packer_start, .int o_packer_length])), (a_o_packer_joined, .inl (cy 0, 280, .inl o_packer_joined)), (a_o_packer_earlier, .inl (cy 1, 280, .inl o_packer_earlier)), (a_o_packer_latest, .inl (cy 1, 256, .inl o_packer_latest)), (a_o_packer_cost, .inl (cy 1, 201, .inl o_packer_cost)), (a_o_packer_choice, .inl (cy 1, 200, .inl o_packer_choice)), (a_p1, .inr (7, [.ref a_p1_bytes, .int p1_length])), (a_p1_bytes, .inl (cy 0, n_p1_bytes, .inl p1_bytes)), ((qS v3.toNatClampNeg), .inr (7, [.ref (qSb v3.toNatClampNeg), .int (S_length v3.toNatClampNeg)])), ((qSb v3.toNatClampNeg), .inl (cy 0, 40, .inl (S_bytes v3.toNatClampNeg)))] : va_W) ++ (plO (elS cy qS qSb S_bytes S_length) 8 v3.toNatClampNeg))) (pm_o (pl_open (vp_lt c11))) ?_
      refine go_callVi X (kX3_measure l D cy a_o_packer a_o_packer_joined a_o_packer_earlier a_o_packer_latest a_o_packer_cost a_o_packer_choice (qS v3.toNatClampNeg) (qSb v3.toNatClampNeg) 40 a_p1 a_p1_bytes n_p1_bytes o_packer_start o_packer_length o_packer_joined o_packer_earlier o_packer_latest o_packer_cost o_packer_choice (S_length v3.toNatClampNeg) (S_bytes v3.toNatClampNeg) p1_length p1_bytes _ h) (cwV 2 X.2.2.2.2.1 gX6_bytesOfSamples_X3_measure rfl rfl rfl cd_X3_measure ⟨by decide, by decide⟩) (wr := (([(a_o, .inr (9, [.ref a_o_tape, .ref a_o_samples, .ref a_o_dictionaries, .ref a_o_none, .ref a_o_trial, .ref a_o_opened, .ref a_o_output, .ref a_o_packer, .ref a_o_trainer, .ref a_o_opener, .int o_sampleCount])), (a_o_samples, .inl (cy 5, 8, .inr (.inr (.inr (.inr (fun i => some (qS i)))))))] : va_W) ++ (plO (elS cy qS qSb S_bytes S_length) 8 v3.toNatClampNeg))) (ws2 := fun u => (([(a_o, .inr (9, [.ref a_o_tape, .ref a_o_samples, .ref a_o_dictionaries, .ref a_o_none, .ref a_o_trial, .ref a_o_opened, .ref a_o_output, .ref a_o_packer, .ref a_o_trainer, .ref a_o_opener, .int o_sampleCount])), (a_o_samples, .inl (cy 5, 8, .inr (.inr (.inr (.inr (fun i => some (qS i))))))), (a_o_packer, .inr (6, [.ref a_o_packer_joined, .ref a_o_packer_earlier, .ref a_o_packer_latest, .ref a_o_packer_cost, .ref a_o_packer_choice, .int u.1, .int u.2.1])), (a_o_packer_joined, .inl (cy 0, 280, .inl u.2.2.1)), (a_o_packer_earlier, .inl (cy 1, 280, .inl u.2.2.2.1)), (a_o_packer_latest, .inl (cy 1, 256, .inl u.2.2.2.2.1)), (a_o_packer_cost, .inl (cy 1, 201, .inl u.2.2.2.2.2.1)), (a_o_packer_choice, .inl (cy 1, 200, .inl u.2.2.2.2.2.2)), (a_p1, .inr (7, [.ref a_p1_bytes, .int p1_length])), (a_p1_bytes, .inl (cy 0, n_p1_bytes, .inl p1_bytes)), ((qS v3.toNatClampNeg), .inr (7, [.ref (qSb v3.toNatClampNeg), .int (S_length v3.toNatClampNeg)])), ((qSb v3.toNatClampNeg), .inl (cy 0, 40, .inl (S_bytes v3.toNatClampNeg)))] : va_W) ++ (plO (elS cy qS qSb S_bytes S_length) 8 v3.toNatClampNeg))) (pm_n (perm_idx [2, 3, 4, 5, 6, 7, 10, 11, 8, 9, 0, 1] rfl rfl)) (fun u => pm_n' (perm_idx [10, 11, 0, 1, 2, 3, 4, 5, 8, 9, 6, 7] rfl rfl)) rfl rfl rfl rfl (Nat.le_of_ble_eq_true rfl) dX6_bytesOfSamples_24 ⟨by decide, by decide⟩ (fun r12 u h => ?_)
      obtain ⟨s13, s14, s15, s16, s17, s18, s19⟩ := u
      refine go_iadd X dX6_bytesOfSamples_27 ?_
      refine go_topi (fun y20 ey20 => ?_)
      replace h := h y20 ey20
      refine go_istore_n X (lv' := [(2, .int y20), (0, .ref a_o), (1, .ref a_p1), (3, .int v3)]) dX6_bytesOfSamples_28 rfl (by decide) rfl ?_
      obtain ⟨y21, ey21⟩ : ∃ z : Int32, z = v3 + 1 := ⟨_, rfl⟩
      replace h := h y21 ey21
      refine go_iinc X (lv' := [(3, .int y21), (2, .int y20), (0, .ref a_o), (1, .ref a_p1)]) y21 dX6_bytesOfSamples_29 3 rfl (by rw [ey21]; rfl) (by decide) rfl ?_
      refine go_goto X 4 dX6_bytesOfSamples_32 (by decide) ?_
      refine go_perm (ws' := (([(a_o, .inr (9, [.ref a_o_tape, .ref a_o_samples, .ref a_o_dictionaries, .ref a_o_none, .ref a_o_trial, .ref a_o_opened, .ref a_o_output, .ref a_o_packer, .ref a_o_trainer, .ref a_o_opener, .int o_sampleCount])), (a_o_samples, .inl (cy 5, 8, .inr (.inr (.inr (.inr (fun i => some (qS i))))))), (a_o_packer, .inr (6, [.ref a_o_packer_joined, .ref a_o_packer_earlier, .ref a_o_packer_latest, .ref a_o_packer_cost, .ref a_o_packer_choice, .int s13, .int s14])), (a_o_packer_joined, .inl (cy 0, 280, .inl s15)), (a_o_packer_earlier, .inl (cy 1, 280, .inl s16)), (a_o_packer_latest, .inl (cy 1, 256, .inl s17)), (a_o_packer_cost, .inl (cy 1, 201, .inl s18)), (a_o_packer_choice, .inl (cy 1, 200, .inl s19)), (a_p1, .inr (7, [.ref a_p1_bytes, .int p1_length])), (a_p1_bytes, .inl (cy 0, n_p1_bytes, .inl p1_bytes))] : va_W) ++ (plW (elS cy qS qSb S_bytes S_length) 8))) (pm_c (C := ([(a_o, .inr (9, [.ref a_o_tape, .ref a_o_samples, .ref a_o_dictionaries, .ref a_o_none, .ref a_o_trial, .ref a_o_opened, .ref a_o_output, .ref a_o_packer, .ref a_o_trainer, .ref a_o_opener, .int o_sampleCount])), (a_o_samples, .inl (cy 5, 8, .inr (.inr (.inr (.inr (fun i => some (qS i))))))), (a_o_packer, .inr (6, [.ref a_o_packer_joined, .ref a_o_packer_earlier, .ref a_o_packer_latest, .ref a_o_packer_cost, .ref a_o_packer_choice, .int s13, .int s14])), (a_o_packer_joined, .inl (cy 0, 280, .inl s15)), (a_o_packer_earlier, .inl (cy 1, 280, .inl s16)), (a_o_packer_latest, .inl (cy 1, 256, .inl s17)), (a_o_packer_cost, .inl (cy 1, 201, .inl s18)), (a_o_packer_choice, .inl (cy 1, 200, .inl s19)), (a_p1, .inr (7, [.ref a_p1_bytes, .int p1_length])), (a_p1_bytes, .inl (cy 0, n_p1_bytes, .inl p1_bytes))] : va_W)) (clS (vp_lt c11) (eq_ok S_length v3.toNatClampNeg) (eq_ok S_bytes v3.toNatClampNeg))) ?_
      refine go_lv [2, 3, 1, 0] rfl ?_
      exact ih s13 s14 s15 s16 s17 s18 s19 y20 y21 h
set_option maxRecDepth 100000 in
set_option maxHeartbeats 4000000 in
theorem kX6_bytesOfSamples (l : Launch) (D : va_G) (cy : Nat → ClassId) (a_o : Nat) (a_o_tape : Nat) (a_o_samples : Nat) (a_o_dictionaries : Nat) (a_o_none : Nat) (a_o_trial : Nat) (a_o_opened : Nat) (a_o_output : Nat) (a_o_packer : Nat) (a_o_trainer : Nat) (a_o_opener : Nat) (a_o_packer_joined : Nat) (a_o_packer_earlier : Nat) (a_o_packer_latest : Nat) (a_o_packer_cost : Nat) (a_o_packer_choice : Nat) (a_p1 : Nat) (a_p1_bytes : Nat) (n_p1_bytes : Nat) (o_sampleCount : Int32) (o_packer_start : Int32) (o_packer_length : Int32) (o_packer_joined : Nat → Int32) (o_packer_earlier : Nat → Int32) (o_packer_latest : Nat → Int32) (o_packer_cost : Nat → Int32) (o_packer_choice : Nat → Int32) (p1_length : Int32) (p1_bytes : Nat → Int32) (qS : Nat → Nat) (qSb : Nat → Nat) (S_length : Nat → Int32) (S_bytes : Nat → Nat → Int32) (post : Int32 → Int32 → Int32 → (Nat → Int32) → (Nat → Int32) → (Nat → Int32) → (Nat → Int32) → (Nat → Int32) → Prop) (h : wX6_bytesOfSamples n_p1_bytes o_sampleCount o_packer_start o_packer_length o_packer_joined o_packer_earlier o_packer_latest o_packer_cost o_packer_choice p1_length p1_bytes S_length S_bytes post) : MetI l yX6_bytesOfSamples wsX6_bytesOfSamples rm_X6_bytesOfSamples D (tyL cy) [.ref a_o, .ref a_p1] (([(a_o, .inr (9, [.ref a_o_tape, .ref a_o_samples, .ref a_o_dictionaries, .ref a_o_none, .ref a_o_trial, .ref a_o_opened, .ref a_o_output, .ref a_o_packer, .ref a_o_trainer, .ref a_o_opener, .int o_sampleCount])), (a_o_samples, .inl (cy 5, 8, .inr (.inr (.inr (.inr (fun i => some (qS i))))))), (a_o_packer, .inr (6, [.ref a_o_packer_joined, .ref a_o_packer_earlier, .ref a_o_packer_latest, .ref a_o_packer_cost, .ref a_o_packer_choice, .int o_packer_start, .int o_packer_length])), (a_o_packer_joined, .inl (cy 0, 280, .inl o_packer_joined)), (a_o_packer_earlier, .inl (cy 1, 280, .inl o_packer_earlier)), (a_o_packer_latest, .inl (cy 1, 256, .inl o_packer_latest)), (a_o_packer_cost, .inl (cy 1, 201, .inl o_packer_cost)), (a_o_packer_choice, .inl (cy 1, 200, .inl o_packer_choice)), (a_p1, .inr (7, [.ref a_p1_bytes, .int p1_length])), (a_p1_bytes, .inl (cy 0, n_p1_bytes, .inl p1_bytes))] : va_W) ++ (plW (elS cy qS qSb S_bytes S_length) 8)) (fun u : Int32 × Int32 × (Nat → Int32) × (Nat → Int32) × (Nat → Int32) × (Nat → Int32) × (Nat → Int32) => (([(a_o, .inr (9, [.ref a_o_tape, .ref a_o_samples, .ref a_o_dictionaries, .ref a_o_none, .ref a_o_trial, .ref a_o_opened, .ref a_o_output, .ref a_o_packer, .ref a_o_trainer, .ref a_o_opener, .int o_sampleCount])), (a_o_samples, .inl (cy 5, 8, .inr (.inr (.inr (.inr (fun i => some (qS i))))))), (a_o_packer, .inr (6, [.ref a_o_packer_joined, .ref a_o_packer_earlier, .ref a_o_packer_latest, .ref a_o_packer_cost, .ref a_o_packer_choice, .int u.1, .int u.2.1])), (a_o_packer_joined, .inl (cy 0, 280, .inl u.2.2.1)), (a_o_packer_earlier, .inl (cy 1, 280, .inl u.2.2.2.1)), (a_o_packer_latest, .inl (cy 1, 256, .inl u.2.2.2.2.1)), (a_o_packer_cost, .inl (cy 1, 201, .inl u.2.2.2.2.2.1)), (a_o_packer_choice, .inl (cy 1, 200, .inl u.2.2.2.2.2.2)), (a_p1, .inr (7, [.ref a_p1_bytes, .int p1_length])), (a_p1_bytes, .inl (cy 0, n_p1_bytes, .inl p1_bytes))] : va_W) ++ (plW (elS cy qS qSb S_bytes S_length) 8))) (fun r => fun (u : Int32 × Int32 × (Nat → Int32) × (Nat → Int32) × (Nat → Int32) × (Nat → Int32) × (Nat → Int32)) => post r u.1 u.2.1 u.2.2.1 u.2.2.2.1 u.2.2.2.2.1 u.2.2.2.2.2.1 u.2.2.2.2.2.2) 0 0 := by
  refine metI_of (cc := cX6_bytesOfSamples) (maxL := 4) (lv := [(0, .ref a_o), (1, .ref a_p1)]) (by decide) rfl (Nat.le_of_ble_eq_true rfl) rfl ?_
  intro p e s m below meth c Q A X hlk hR
  unfold wX6_bytesOfSamples at h
  refine go_iconst X (v := 0) dX6_bytesOfSamples_0 (by decide) ?_
  refine go_istore_n X (lv' := [(2, .int 0), (0, .ref a_o), (1, .ref a_p1)]) dX6_bytesOfSamples_1 rfl (by decide) rfl ?_
  refine go_iconst X (v := 0) dX6_bytesOfSamples_2 (by decide) ?_
  refine go_istore_n X (lv' := [(3, .int 0), (2, .int 0), (0, .ref a_o), (1, .ref a_p1)]) dX6_bytesOfSamples_3 rfl (by decide) rfl ?_
  obtain ⟨n22, h⟩ := h
  refine go_lv [2, 3, 1, 0] rfl ?_
  refine pX6_bytesOfSamples_4 l X a_o a_o_tape a_o_samples a_o_dictionaries a_o_none a_o_trial a_o_opened a_o_output a_o_packer a_o_trainer a_o_opener a_o_packer_joined a_o_packer_earlier a_o_packer_latest a_o_packer_cost a_o_packer_choice a_p1 a_p1_bytes n_p1_bytes o_sampleCount p1_length p1_bytes qS qSb S_length S_bytes  _ (fun s1 s2 s3 s4 s5 s6 s7 y8 y9 h => ?_) n22 o_packer_start o_packer_length o_packer_joined o_packer_earlier o_packer_latest o_packer_cost o_packer_choice (0 : Int32) (0 : Int32) h
  refine go_iload_n X dX6_bytesOfSamples_35 0 rfl rfl ?_
  exact hR y8 (s1, s2, s3, s4, s5, s6, s7) 36 _ dX6_bytesOfSamples_36 rfl h
