/-! LAW: its start -/
def ab0 : AbS := ([], [], fun _ => 0, fun _ => 0, fun _ => 0, fun _ => [], [], 0, 0, [])
theorem ab_rc : RC ab0 0 0 (fun _ => 0) 0 0 (fun _ => 0) 0 (fun _ => 0) 0 0 0 (fun _ => 0) (fun _ => 0) (fun _ => 0) (fun _ => 0) (fun _ => 0) (fun _ _ => 0) (fun _ => 0) (fun _ _ => 0) := by
  refine ⟨rfl, RR.nil _ (by decide), rfl, RR.nil _ (by decide), RR.nil _ (by decide), rfl, rfl, RR.nil _ (by decide), fun d _ => ⟨rfl, by show (0 : Nat) < 256; decide, fun h => absurd rfl h⟩, ⟨by show (0 : Nat) ≤ 8; decide, fun s hs => absurd hs (Nat.not_lt_zero s)⟩⟩
theorem ab_rm : RM ab0 0 0 0 0 0 0 (fun _ => 0) (fun _ => 0) (fun _ => 0) (fun _ => 0) (fun _ => 0) (fun _ => 0) (fun _ => 0) (fun _ => 0) (fun _ => 0) (fun _ => 0) := by
  refine ⟨MT.nil _, rfl, ⟨by show (0 : Nat) ≤ 8; decide, fun s hs => absurd hs (Nat.not_lt_zero s)⟩, fun d _ => ⟨rfl, by show (0 : Nat) < 256; decide⟩, fun d hd => ?_, ⟨rfl, by show (0 : Nat) ≤ 400; decide, fun j hj => absurd hj (Nat.not_lt_zero j)⟩, rfl, rfl, MT.nil _⟩
  exact ⟨rfl, rfl, rfl, by show (0 : Nat) ≤ 80; decide, by show (0 : Nat) ≤ 80; decide, by show (0 : Nat) ≤ 80; decide, fun x hx => absurd hx List.not_mem_nil, fun k hk => absurd hk (Nat.not_lt_zero k), fun k hk => absurd hk (Nat.not_lt_zero k)⟩
theorem ls_6 (cy : Nat → ClassId) (q0 : Nat) (u : (Nat → Nat) × (Nat → Nat) × (Nat → Nat) × (Nat → Nat) × (Nat → Nat) × (Nat → Nat)) : wc_X6 cy q0 u = W6 cy q0 (u.1 0) (u.1 1) (u.1 2) (u.1 3) (u.1 4) (u.1 5) (u.1 6) (u.1 7) (u.1 8) (u.1 9) (u.1 10) (u.1 11) (u.1 12) (u.1 13) (u.1 14) (u.1 15) (u.1 16) (u.1 17) (u.1 18) (u.1 19) (u.1 20) (u.1 21) (u.1 22) (u.1 23) (u.1 24) (u.1 25) (u.1 26) (u.1 27) (u.1 28) (u.1 29) (u.1 30) u.2.1 u.2.2.1 u.2.2.2.1 u.2.2.2.2.1 u.2.2.2.2.2 0 0 (fun _ => 0) (fun _ => 0) (fun _ _ => 0) 0 0 0 (fun _ => 0) (fun _ => 0) (fun _ => 0) (fun _ => 0) (fun _ => 0) (fun _ => 0) (fun _ => 0) (fun _ => 0) (fun _ => 0) (fun _ => 0) (fun _ _ => 0) 0 (fun _ => 0) 0 0 (fun _ => 0) (fun _ => 0) (fun _ => 0) (fun _ => 0) (fun _ => 0) 0 0 0 0 (fun _ => 0) 0 0 0 (fun _ => 0) 0 (fun _ => 0) 0 0 0 0 (fun _ => 0) := rfl
theorem ls_7 (cy : Nat → ClassId) (q1 : Nat) (w : Nat → Nat) : ([(q1, .inr (10, [.int 0, .ref ((w 0)), .int 0, .int 0, .ref ((w 1)), .ref ((w 2)), .ref ((w 3)), .ref ((w 4)), .ref ((w 5)), .ref ((w 6)), .ref ((w 7)), .ref ((w 8)), .ref ((w 9)), .int 0, .ref ((w 10)), .int 0, .int 0, .ref ((w 11)), .ref ((w 12)), .ref ((w 13)), .int 0, .int 0, .int 0, .ref ((w 14)), .int 0])), ((w 0), .inl (cy 1, 200, .inl (fun _ => 0))), ((w 1), .inl (cy 1, 8, .inl (fun _ => 0))), ((w 2), .inl (cy 1, 320, .inl (fun _ => 0))), ((w 3), .inl (cy 1, 6, .inl (fun _ => 0))), ((w 4), .inl (cy 1, 6, .inl (fun _ => 0))), ((w 5), .inl (cy 1, 480, .inl (fun _ => 0))), ((w 6), .inl (cy 1, 6, .inl (fun _ => 0))), ((w 7), .inl (cy 1, 480, .inl (fun _ => 0))), ((w 8), .inl (cy 2, 320, .inl (fun _ => 0))), ((w 9), .inl (cy 1, 80, .inl (fun _ => 0))), ((w 10), .inl (cy 1, 280, .inl (fun _ => 0))), ((w 11), .inl (cy 1, 201, .inl (fun _ => 0))), ((w 12), .inl (cy 1, 2010, .inl (fun _ => 0))), ((w 13), .inl (cy 1, 400, .inl (fun _ => 0))), ((w 14), .inl (cy 1, 200, .inl (fun _ => 0)))] : va_W) = W7 cy q1 (w 0) (w 1) (w 2) (w 3) (w 4) (w 5) (w 6) (w 7) (w 8) (w 9) (w 10) (w 11) (w 12) (w 13) (w 14) 0 0 0 0 0 0 0 0 0 0 (fun _ => 0) (fun _ => 0) (fun _ => 0) (fun _ => 0) (fun _ => 0) (fun _ => 0) (fun _ => 0) (fun _ => 0) (fun _ => 0) (fun _ => 0) (fun _ => 0) (fun _ => 0) (fun _ => 0) (fun _ => 0) (fun _ => 0) := rfl
theorem fs_i6 : ∀ w ∈ u_ws RX6 TX6 11, w ∈ wsL_law := by decide +kernel
theorem fs_i7 : ∀ w ∈ u_ws RX7 TX7 25, w ∈ wsL_law := by decide +kernel
theorem fs_c8 : Cond.classLink RL 8 RX6 ∈ wsL_law := by decide +kernel
theorem fs_t6 : Cond.instantiable RX6 11 ∈ wsL_law := by decide +kernel
theorem fs_z6 : Cond.initialized RX6 ∈ wsL_law := by decide +kernel
theorem fs_l29 : Cond.methodLink RL 29 yX6_init ∈ wsL_law := by decide +kernel
theorem fs_n6 : Cond.instanceMethod yX6_init ∈ wsL_law := by decide +kernel
theorem fs_c30 : Cond.classLink RL 30 RX7 ∈ wsL_law := by decide +kernel
theorem fs_t7 : Cond.instantiable RX7 25 ∈ wsL_law := by decide +kernel
theorem fs_z7 : Cond.initialized RX7 ∈ wsL_law := by decide +kernel
theorem fs_l32 : Cond.methodLink RL 32 yX7_init ∈ wsL_law := by decide +kernel
theorem fs_n7 : Cond.instanceMethod yX7_init ∈ wsL_law := by decide +kernel
theorem fs_aL : Cond.arrayClass .long ∈ wsL_law := by decide +kernel
theorem fu_J0 : ∀ w ∈ u_ws RJ0 TJ0 2, w ∈ lw_tbl := by decide +kernel
theorem fu_JA : ∀ w ∈ u_ws RJx00060 TJx00060 6, w ∈ lw_tbl := by decide +kernel
theorem fu_JN : ∀ w ∈ u_ws RJx5d777 TJx5d777 8, w ∈ lw_tbl := by decide +kernel
theorem fu_0 : ∀ w ∈ u_ws RX0 TX0 4, w ∈ lw_tbl := by decide +kernel
theorem fu_1 : ∀ w ∈ u_ws RX1 TX1 4, w ∈ lw_tbl := by decide +kernel
theorem fu_2 : ∀ w ∈ u_ws RX2 TX2 3, w ∈ lw_tbl := by decide +kernel
theorem fu_3 : ∀ w ∈ u_ws RX3 TX3 7, w ∈ lw_tbl := by decide +kernel
theorem fu_4 : ∀ w ∈ u_ws RX4 TX4 2, w ∈ lw_tbl := by decide +kernel
theorem fu_5 : ∀ w ∈ u_ws RX5 TX5 8, w ∈ lw_tbl := by decide +kernel
theorem fu_6 : ∀ w ∈ u_ws RX6 TX6 11, w ∈ lw_tbl := by decide +kernel
theorem fu_7 : ∀ w ∈ u_ws RX7 TX7 25, w ∈ lw_tbl := by decide +kernel
theorem fv_J0 : Cond.instantiable RJ0 4 ∈ lw_tbl := by decide +kernel
theorem fv_JA : Cond.instantiable RJx00060 6 ∈ lw_tbl := by decide +kernel
theorem fv_JN : Cond.instantiable RJx5d777 8 ∈ lw_tbl := by decide +kernel
theorem fv_0 : Cond.instantiable RX0 4 ∈ lw_tbl := by decide +kernel
theorem fv_1 : Cond.instantiable RX1 4 ∈ lw_tbl := by decide +kernel
theorem fv_2 : Cond.instantiable RX2 3 ∈ lw_tbl := by decide +kernel
theorem fv_3 : Cond.instantiable RX3 7 ∈ lw_tbl := by decide +kernel
theorem fv_4 : Cond.instantiable RX4 2 ∈ lw_tbl := by decide +kernel
theorem fv_5 : Cond.instantiable RX5 8 ∈ lw_tbl := by decide +kernel
theorem fv_6 : Cond.instantiable RX6 11 ∈ lw_tbl := by decide +kernel
theorem fv_7 : Cond.instantiable RX7 25 ∈ lw_tbl := by decide +kernel
theorem fa_B : Cond.arrayClass .byte ∈ lw_tbl := by decide +kernel
theorem fa_I : Cond.arrayClass .int ∈ lw_tbl := by decide +kernel
theorem fa_Z : Cond.arrayClass .boolean ∈ lw_tbl := by decide +kernel
theorem fa_J : Cond.arrayClass .long ∈ lw_tbl := by decide +kernel
theorem fa_D : Cond.arrayOver (.object "TrainedSegments$Dictionary") ∈ lw_tbl := by decide +kernel
theorem fa_R : Cond.arrayOver (.object "TrainedSegments$Row") ∈ lw_tbl := by decide +kernel
theorem ft_A : ∀ w ∈ thA, w ∈ lw_tbl := by decide +kernel
theorem ft_R : ∀ w ∈ thR, w ∈ lw_tbl := by decide +kernel
theorem ft_N : ∀ w ∈ thN, w ∈ lw_tbl := by decide +kernel
theorem ft_lU : Cond.laysStatic Bundle.tN "UNASSIGNED_STACK" Bundle.steD ∈ lw_tbl := by decide +kernel
theorem ft_lS : Cond.laysStatic Bundle.tN "SUPPRESSED_SENTINEL" Bundle.listD ∈ lw_tbl := by decide +kernel
theorem ft_z : Cond.initialized Bundle.tN ∈ lw_tbl := by decide +kernel
theorem ft_s : ∀ x ∈ thSites, Cond.stringRef RX6 x.2.2.2.1 x.2.1 ∈ lw_tbl := by decide +kernel
theorem ft_gU : Cond.isRef (.static Bundle.tN "UNASSIGNED_STACK" Bundle.steD) ∈ flatC (Jvm.Cond.and given_1 narrow_1) := by decide +kernel
theorem ft_gS : Cond.isRef (.static Bundle.tN "SUPPRESSED_SENTINEL" Bundle.listD) ∈ flatC (Jvm.Cond.and given_1 narrow_1) := by decide +kernel
theorem ft_gN : Cond.not (.castable eA eN) ∈ flatC (Jvm.Cond.and given_1 narrow_1) := by decide +kernel
theorem arr_p {args : Array Value} {s : State} {t : FieldType} (h : (Cond.arrayClass t).before args s = true) : ∃ cA : ClassId, ArrOfT s cA t ∧ s.vm.findClass ("[" ++ t.toString) = some cA := by
  obtain ⟨cA, k, comp, h1, h2, h3⟩ := Cond.arrayClass_spec h
  exact ⟨cA, fun n z => ⟨fun k h => (by cases h), k, h2, comp, h3⟩, h1⟩
theorem arr_o {args : Array Value} {s : State} {C : String} (h : (Cond.arrayOver (.object C)).before args s = true) : ∃ cA : ClassId, ArrOfT s cA (.object C) ∧ va_RA s cA (.object C) := by
  obtain ⟨comp, cA, k, h1, h2, h3, h4, h5⟩ := Cond.arrayOver_spec h
  exact ⟨cA, fun n z => ⟨fun k h => (by cases h), k, h3, comp, h4⟩, k, comp, h3, h4, h1, h5⟩
/-- the classes and the arrays, as the tables have them -/
theorem k_start {s : State} {args : Array Value} (hts : ∀ w ∈ lw_tbl, w.before args s = true) : ∃ (D : va_G) (cy : Nat → ClassId), va_K D vwCl (tyL cy) s := by
  obtain ⟨c0, i0, k0⟩ := u_known (C := RJ0) (T := TJ0) (N := 2) (n := 4) hts fu_J0 (hts _ fv_J0)
  obtain ⟨c1, i1, k1⟩ := u_known (C := RJx00060) (T := TJx00060) (N := 6) (n := 6) hts fu_JA (hts _ fv_JA)
  obtain ⟨c2, i2, k2⟩ := u_known (C := RJx5d777) (T := TJx5d777) (N := 8) (n := 8) hts fu_JN (hts _ fv_JN)
  obtain ⟨c3, i3, k3⟩ := u_known (C := RX0) (T := TX0) (N := 4) (n := 4) hts fu_0 (hts _ fv_0)
  obtain ⟨c4, i4, k4⟩ := u_known (C := RX1) (T := TX1) (N := 4) (n := 4) hts fu_1 (hts _ fv_1)
  obtain ⟨c5, i5, k5⟩ := u_known (C := RX2) (T := TX2) (N := 3) (n := 3) hts fu_2 (hts _ fv_2)
  obtain ⟨c6, i6, k6⟩ := u_known (C := RX3) (T := TX3) (N := 7) (n := 7) hts fu_3 (hts _ fv_3)
  obtain ⟨c7, i7, k7⟩ := u_known (C := RX4) (T := TX4) (N := 2) (n := 2) hts fu_4 (hts _ fv_4)
  obtain ⟨c8, i8, k8⟩ := u_known (C := RX5) (T := TX5) (N := 8) (n := 8) hts fu_5 (hts _ fv_5)
  obtain ⟨c9, i9, k9⟩ := u_known (C := RX6) (T := TX6) (N := 11) (n := 11) hts fu_6 (hts _ fv_6)
  obtain ⟨c10, i10, k10⟩ := u_known (C := RX7) (T := TX7) (N := 25) (n := 25) hts fu_7 (hts _ fv_7)
  obtain ⟨y0, a0, b0⟩ := arr_p (hts _ fa_B)
  obtain ⟨y1, a1, b1⟩ := arr_p (hts _ fa_I)
  obtain ⟨y2, a2, b2⟩ := arr_p (hts _ fa_Z)
  obtain ⟨y3, a3, b3⟩ := arr_p (hts _ fa_J)
  obtain ⟨y4, a4, b4⟩ := arr_o (hts _ fa_D)
  obtain ⟨y5, a5, b5⟩ := arr_o (hts _ fa_R)
  refine ⟨(fun k => [c0, c1, c2, c3, c4, c5, c6, c7, c8, c9, c10].getD k 0, fun k => [i0, i1, i2, i3, i4, i5, i6, i7, i8, i9, i10].getD k i0), fun k => [y0, y1, y2, y3, y4, y5].getD k 0, ?_, ?_⟩
  · intro k q hq
    match k, hq with
    | 0, hq => cases hq; exact k0
    | 1, hq => cases hq; exact k1
    | 2, hq => cases hq; exact k2
    | 3, hq => cases hq; exact k3
    | 4, hq => cases hq; exact k4
    | 5, hq => cases hq; exact k5
    | 6, hq => cases hq; exact k6
    | 7, hq => cases hq; exact k7
    | 8, hq => cases hq; exact k8
    | 9, hq => cases hq; exact k9
    | 10, hq => cases hq; exact k10
    | k + 11, hq => exact absurd hq (by simp [vwCl])
  · intro k q hq
    match k, hq with
    | 0, hq => cases hq; exact ⟨a0, b0⟩
    | 1, hq => cases hq; exact ⟨a1, b1⟩
    | 2, hq => cases hq; exact ⟨a2, b2⟩
    | 3, hq => cases hq; exact ⟨a3, b3⟩
    | 4, hq => cases hq; exact ⟨a4, b4⟩
    | 5, hq => cases hq; exact ⟨a5, b5⟩
    | k + 6, hq => exact absurd hq (by simp [tyL])
/-- what a throw needs, at the start -/
theorem e_start {s : State} {args : Array Value} (hts : ∀ w ∈ lw_tbl, w.before args s = true) (hgv : (Jvm.Cond.and given_1 narrow_1).before args s = true) : thE (fun q => s.heap.size ≤ q) s s.heap := by
  have hg := flat_of_before _ hgv
  have hA : ∀ a : Nat, a < s.heap.size → ¬ (fun q => s.heap.size ≤ q) a := fun a h => Nat.not_le.mpr h
  have hw : ∀ w ∈ thG, w.before #[] s = true := fun w hw => by
    have hm : w ∈ lw_tbl := by
      rcases List.mem_append.mp hw with h | h
      · exact ft_A w h
      rcases List.mem_append.mp h with h | h
      · exact ft_R w h
      · exact ft_N w h
    exact vx_ot_at (State.WarmedH.refl s) rfl (thOk_ot (thG_ok w hw)) (hts w hm)
  refine ⟨vx_Zqof (hts _ ft_lU) (hts _ ft_z) (hg _ ft_gU) hA, vx_Zqof (hts _ ft_lS) (hts _ ft_z) (hg _ ft_gS) hA, hw, va_Nc.of (hg _ ft_gN), fun x hx => ?_⟩
  have h1 := hts _ (ft_s x hx)
  obtain ⟨cur, hcur⟩ : ∃ cur, s.vm.findClass RX6 = some cur := by
    obtain ⟨c1, k1, hc1, -⟩ := Cond.instantiable_spec (hts _ fv_6)
    exact ⟨c1, hc1⟩
  obtain ⟨k, cf, i, a, -, -, -, -, -, he⟩ := Cond.stringRef_spec hcur h1
  exact ⟨a, vk_R.of h1 he⟩
set_option maxRecDepth 100000 in
theorem whole_start0 {p : Program} {e : Env} {s : State} {m : MethodId} {below : List Frame} {meth : Method} {c : Code} (l : Launch) (hl0 : l.stackTraces = false) {b L : Nat} {xs : Nat → Int32} (hL : L ≤ 2560) (C0 : lw_At p s m meth c b L xs) : W p l e room_1 s m #[Value.ref b] below meth c s.heap [] 0 0 (lw_Z below #[Value.ref b] s) (entryFrame m ([Value.ref b] : List Value).toArray 7) := by
  obtain ⟨hx, hb, hr, hml, hown, hts, hX, hbl, hlk, hgv⟩ := id C0
  have hbA : ¬ (fun q : Nat => s.heap.size ≤ q) b := Nat.not_le.mpr hbl
  have hE := e_start hts hgv
  obtain ⟨D, cy, hK⟩ := k_start hts
  have X : Cx p s m #[Value.ref b] c cL_law 7 RL wsL_law D (tyL cy) (fun q : Nat => s.heap.size ≤ q) := ⟨hx, hb, hml, hown, fun w hw => hts w (wsL_law_in w hw), hK, fun q h => h⟩
  have hov : ∀ U : State, s.vm.Alike U.vm → ovE U := fun U h => ⟨va_AO.moved h (va_AO.of (hts _ fa_R)), va_AO.moved h (va_AO.of (hts _ fa_D))⟩
  obtain ⟨ls, hls, he⟩ := entry_lv (m := m) (av := [.ref b]) (n := 7) (lv := [(0, .ref b)]) (by show 1 ≤ 7; decide) rfl
  rw [he]
  have key : Go p l e room_1 s m #[Value.ref b] below meth c (lw_Z below #[Value.ref b] s) 7 D (fun q : Nat => s.heap.size ≤ q) [] 0 0 0 [(0, .ref b)] [] := by
    refine go_new X (ci := 9) (fs := [.null, .null, .null, .null, .null, .null, .null, .null, .null, .null, .int 0]) fs_i6 tyX6 tyX6_ok fs_c8 fs_t6 fs_z6 rfl (by decide) (by decide) (by decide) dL_law_0 (fun q0 => ?_)
    refine go_dup X dL_law_3 rfl ?_
    refine go_callPvE X (kX6_init l D cy q0) hov (fun u U h hE => ovE.moved h hE) (cwI 0 X.2.2.2.2.1 gL_law_X6_init rfl rfl rfl (X.2.2.2.2.1 _ fs_z6) (X.2.2.2.2.1 _ fs_l29) (X.2.2.2.2.1 _ fs_n6) rfl cd_X6_init ⟨by decide, by decide⟩) (wr := []) (ws2 := fun u => wc_X6 cy q0 u) (List.Perm.refl _) (fun u => by rw [List.append_nil]) (rest := [.ref q0]) rfl rfl (by show (1 : Nat) ≤ 8; decide) dL_law_4 (by decide) (fun u _ => ?_)
    refine go_astore_n X dL_law_7 rfl (by decide) rfl ?_
    refine go_new X (ci := 10) (fs := [.int 0, .null, .int 0, .int 0, .null, .null, .null, .null, .null, .null, .null, .null, .null, .int 0, .null, .int 0, .int 0, .null, .null, .null, .int 0, .int 0, .int 0, .null, .int 0]) fs_i7 tyX7 tyX7_ok fs_c30 fs_t7 fs_z7 rfl (by decide) (by decide) (by decide) dL_law_8 (fun q1 => ?_)
    refine go_dup X dL_law_11 rfl ?_
    refine go_callPv X (kX7_init l D cy q1) (cwI 0 X.2.2.2.2.1 gL_law_X7_init rfl rfl rfl (X.2.2.2.2.1 _ fs_z7) (X.2.2.2.2.1 _ fs_l32) (X.2.2.2.2.1 _ fs_n7) rfl cd_X7_init ⟨by decide, by decide⟩) (wr := wc_X6 cy q0 u) (ws2 := fun w => wc_X6 cy q0 u ++ W7 cy q1 (w 0) (w 1) (w 2) (w 3) (w 4) (w 5) (w 6) (w 7) (w 8) (w 9) (w 10) (w 11) (w 12) (w 13) (w 14) 0 0 0 0 0 0 0 0 0 0 (fun _ => 0) (fun _ => 0) (fun _ => 0) (fun _ => 0) (fun _ => 0) (fun _ => 0) (fun _ => 0) (fun _ => 0) (fun _ => 0) (fun _ => 0) (fun _ => 0) (fun _ => 0) (fun _ => 0) (fun _ => 0) (fun _ => 0)) List.perm_append_comm (fun w => List.perm_append_comm) (rest := [.ref q1]) rfl rfl (by show (1 : Nat) ≤ 8; decide) dL_law_12 (by decide) (fun w _ => ?_)
    refine go_astore_n X dL_law_15 rfl (by decide) rfl ?_
    refine go_iconst X dL_law_16 (v := 1) rfl ?_
    refine go_newa X (atype := .long) (ty := .long) rfl fs_aL 3 rfl ra_long (a0 := (1, .inr (.inl (fun _ => 0)))) (fun _ => rfl) (by decide) rfl (by decide) (by decide) (by decide) dL_law_17 (fun q => ?_)
    refine go_astore_n X dL_law_19 rfl (by decide) rfl ?_
    refine go_iconst X dL_law_20 (v := nI 0) rfl ?_
    refine go_istore X dL_law_21 (by decide) rfl ?_
    rw [List.append_assoc, ls_6]
    exact l_loop hl0 X hE hX hbl hbA hL hr hlk (fun q h => h) 512 0 _ _ rfl (by decide) (by decide) ab0 0 0 (fun _ => 0) (fun _ => 0) (fun _ _ => 0) 0 0 0 (fun _ => 0) (fun _ => 0) (fun _ => 0) (fun _ => 0) (fun _ => 0) (fun _ => 0) (fun _ => 0) (fun _ => 0) (fun _ => 0) (fun _ => 0) (fun _ _ => 0) 0 (fun _ => 0) 0 0 (fun _ => 0) (fun _ => 0) (fun _ => 0) (fun _ => 0) (fun _ => 0) 0 0 0 0 (fun _ => 0) 0 0 0 (fun _ => 0) 0 (fun _ => 0) 0 0 0 0 (fun _ => 0) 0 0 0 0 0 0 0 0 0 0 (fun _ => 0) (fun _ => 0) (fun _ => 0) (fun _ => 0) (fun _ => 0) (fun _ => 0) (fun _ => 0) (fun _ => 0) (fun _ => 0) (fun _ => 0) (fun _ => 0) (fun _ => 0) (fun _ => 0) (fun _ => 0) (fun _ => 0) (fun _ => 0) ab_rc ab_rm
  exact key s.heap [] ls (fun k q h => by simp at h) ⟨fun i j p q h => by simp at h, fun k q h => by simp at h⟩ va_S.rf hls
