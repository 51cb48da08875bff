/-! PURE: the reference's pack and open -/
/-- OUT: the header, the items; how many items and matches -/
def outAll (i : Nat) (ws ts : List Nat) : List Nat := [i, (if i = 0 then 0 else sumN ws) / 256, (if i = 0 then 0 else sumN ws) % 256, ts.length] ++ (outF (rowF (ws ++ ts)) ws.length ts.length ts.length 0).1
def outIt (ws ts : List Nat) : Nat := (outF (rowF (ws ++ ts)) ws.length ts.length ts.length 0).2.1
def outMt (ws ts : List Nat) : Nat := (outF (rowF (ws ++ ts)) ws.length ts.length ts.length 0).2.2
theorem outAll_len (i : Nat) (ws ts : List Nat) (h : ts.length ≤ 200) : (outAll i ws ts).length = packN ws ts := by
  unfold outAll packN
  rw [List.length_append, outF_len _ _ _ h _ _ (by omega) (by omega)]
  rfl
theorem sX7_pack_151 {row cost D out : Nat → Int32} {om : Int32} {rl : List Nat} (hM : MI row rl) (hr : rl.length ≤ 280) {A n : Nat} (hT : A + n = rl.length) (hn : n ≤ 200) (hC : MpOK cost D (rowF rl) A n) {K : Int32 → Int32 → Int32 → (Nat → Int32) → Int32 → Prop} :
    ∀ d i it mt xs om out, n - i ≤ d → i ≤ n → MO out om xs → xs.length + cF (rowF rl) A n i ≤ 400 →
      (∀ out' om' v, MO out' om' (xs ++ (outF (rowF rl) A n d i).1) → K om' (nI (it + (outF (rowF rl) A n d i).2.1)) (nI (mt + (outF (rowF rl) A n d i).2.2)) out' v) →
      wX7_pack_151 (nI A) (nI n) row cost D K (d + 1) om (nI it) (nI mt) out (nI i) := by
  intro d
  induction d with
  | zero =>
    intro i it mt xs om out h1 h2 hO hfit hp
    have : i = n := by omega
    subst this
    rw [outF_end (Nat.le_refl _)] at hp
    exact ⟨fun _ => hp out om _ (by rw [List.append_nil]; exact hO), fun c => absurd (nI_le (Nat.le_refl _) (by omega)) c⟩
  | succ d ih =>
    intro i it mt xs om out h1 h2 hO hfit hp
    by_cases hi : i = n
    · subst hi
      rw [outF_end (Nat.le_refl _)] at hp
      exact ⟨fun _ => hp out om _ (by rw [List.append_nil]; exact hO), fun c => absurd (nI_le (Nat.le_refl _) (by omega)) c⟩
    · refine ⟨fun c => absurd c (nI_ge (by omega) (by omega)), fun _ y27 h27 => ?_⟩
      have hL := LM_le (rowF rl) (A + i) (min 9 (n - i))
      have hsp := item_spec (rowF rl) A n hn (i := i) (by omega)
      refine sX7_putItem hM hr hT hn (by omega) hC hO hfit (fun m out' om' hc hO' y32 h32 => ?_) (fun k out' om' hc hO' y32 h32 => ?_)
      · rw [outF_mat (by omega) hc] at hp
        rcases hsp with ⟨m', a, b, c, e, -⟩ | ⟨q, a, b, c, e, -⟩
        · rw [hc] at c
          have hmm : m = m' := (Prod.mk.inj c).2
          subst hmm
          rw [h32, h27, nI_add, nI_1]
          refine ih (i + m) (it + 1) (mt + 1) _ om' out' (by omega) (by omega) hO' (by rw [List.length_append, List.length_cons, List.length_singleton]; omega) fun o2 m2 v h2 => ?_
          rw [List.append_assoc] at h2
          have := hp o2 m2 v h2
          rw [Nat.add_assoc it, Nat.add_comm 1, Nat.add_assoc mt, Nat.add_comm 1]
          exact this
        · rw [hc] at c; cases c
      · rw [outF_pln (by omega) hc] at hp
        rcases hsp with ⟨m', a, b, c, e, -⟩ | ⟨q, a, b, c, e, -⟩
        · rw [hc] at c; cases c
        · rw [hc] at c
          have hkk : k = q := (Prod.mk.inj c).2
          subst hkk
          rw [h32, h27, nI_add, nI_1]
          refine ih (i + k) (it + 1) mt _ om' out' (by omega) (by omega) hO' (by rw [List.length_append, List.length_cons, List.length_map, List.length_range]; omega) fun o2 m2 v h2 => ?_
          rw [List.append_assoc, List.cons_append] at h2
          have := hp o2 m2 v h2
          rw [Nat.add_assoc it, Nat.add_comm 1]
          exact this
theorem sX7_pack_37 {tape row : Nat → Int32} {taped : Int32} {ws xs : List Nat} (hT : MT 200 tape taped xs) (hw : ∀ x ∈ ws, x < 256) (h80 : ws.length ≤ 80) (hrow : ∀ j, j < ws.length → row j = nI (ws.getD j 0)) {K : (Nat → Int32) → Int32 → Prop} (hK : ∀ row' v, MI row' (ws ++ xs) → K row' v) : ∃ N, wX7_pack_37 taped (nI ws.length) tape K N row (0 : Int32) := by
  obtain ⟨hl, hl2, hl3, hl4⟩ := hT
  have key : ∀ e k row', k + e = xs.length → (∀ j, j < ws.length → row' j = nI (ws.getD j 0)) → (∀ j, j < k → row' (ws.length + j) = nI (xs.getD j 0)) → wX7_pack_37 taped (nI ws.length) tape K (e + 1) row' (nI k) := by
    intro e
    induction e with
    | zero =>
      intro k row' hk g1 g2
      have : k = xs.length := by omega
      subst this
      exact ⟨fun _ => hK row' _ (MI_app hw hl3 g1 g2), fun c => absurd (by rw [hl]; exact nI_le (Nat.le_refl _) (by omega)) c⟩
    | succ e ih =>
      intro k row' hk g1 g2
      refine ⟨fun c => absurd (by rw [hl] at c; exact c) (nI_ge (by omega) (by omega)), fun _ => ?_⟩
      rw [nI_add, nI_clamp (by omega), nI_clamp (by omega), hl4 k (by omega)]
      refine ⟨vp_in_nI (by omega) (by omega), vp_in_nI (by omega) (by omega), fun y hy => ?_⟩
      rw [hy, nI_1]
      refine ih (k + 1) _ (by omega) (fun j hj => ?_) (fun j hj => ?_)
      · rw [pk_un (by omega)]; exact g1 j hj
      · by_cases e2 : j = k
        · subst e2; exact pk_us
        · rw [pk_un (by omega)]; exact g2 j (by omega)
  exact ⟨_, key xs.length 0 row (by omega) hrow (fun j hj => absurd hj (Nat.not_lt_zero j))⟩
theorem div256 {a : Nat} (h : a < 65536) : nI a / 256 = nI (a / 256) ∧ nI a - nI a / 256 * 256 = nI (a % 256) := by
  rw [show (256 : Int32) = nI 256 from rfl]
  exact ⟨pk_div (by omega) (by decide) (by decide), pk_rem (by omega) (by decide) (by decide)⟩
theorem sX7_pack {tape idOf pieces pieceLong bytesOf dict row cost leastD out : Nat → Int32} {taped a0 t0 om it mt p1 : Int32} {ids ns cs : Nat → Nat} {bss : Nat → List Nat} {xs : List Nat} (hT : MT 200 tape taped xs) (hI : MId idOf ids) (hM : MDs pieces pieceLong bytesOf dict ns cs bss) {post : Int32 → Int32 → Int32 → Int32 → Int32 → Int32 → Int32 → Int32 → (Nat → Int32) → (Nat → Int32) → (Nat → Int32) → (Nat → Int32) → Prop}
    (h1 : ¬ p1 = -1 → (∀ d, ¬ Thr ids p1 d) → post (-101) 0 taped a0 t0 om it mt row cost leastD out)
    (h2 : ∀ i ws, ((p1 = -1 ∧ i = 0 ∧ ws = []) ∨ ∃ d, Thr ids p1 d ∧ i = ids d ∧ ws = bss d) → ∀ a t om' r c l out', MO out' om' (outAll i ws xs) → post (nI (packN ws xs)) 0 0 a t om' (nI (outIt ws xs)) (nI (outMt ws xs)) r c l out') : wX7_pack taped a0 t0 om it mt tape idOf pieceLong bytesOf dict row cost leastD out p1 post := by
  have hl := hT.1
  have hl2 := hT.2.1
  have tail : ∀ (i : Nat) (ws : List Nat) (row' : Nat → Int32), ((p1 = -1 ∧ i = 0 ∧ ws = []) ∨ ∃ d, Thr ids p1 d ∧ i = ids d ∧ ws = bss d) → ws.length ≤ 80 → MI row' (ws ++ xs) → ∀ (cost' leastD' : Nat → Int32), MpOK cost' leastD' (rowF (ws ++ xs)) ws.length xs.length →
      ∀ (v1 v2 v3 : Int32), v1 = nI i → v2 = nI ((if i = 0 then 0 else sumN ws) / 256) → v3 = nI ((if i = 0 then 0 else sumN ws) % 256) →
      wX7_put 0 out v1 (fun s13 s14 => wX7_put s13 s14 v2 (fun s15 s16 => wX7_put s15 s16 v3 (fun s17 s18 => wX7_put s17 s18 taped (fun s19 s20 => ∃ n33 : Nat, wX7_pack_151 (nI ws.length) taped row' cost' leastD' (fun s21 s22 s23 s24 _ => post (nI (packN ws xs)) 0 0 (nI ws.length) taped s21 s22 s23 row' cost' leastD' s24) n33 s19 0 0 s20 (0 : Int32))))) := by
    intro i ws row' hiw h80 hMI cost' leastD' hC v1 v2 v3 e1 e2 e3
    have hO0 : MO out 0 [] := ⟨rfl, by simp, by simp⟩
    have hc := cF_le (rowF (ws ++ xs)) ws.length xs.length hl2
    refine sX7_put hO0 (by simp) e1 fun o1 m1 q1 => sX7_put q1 (by simp) e2 fun o2 m2 q2 => sX7_put q2 (by simp) e3 fun o3 m3 q3 => sX7_put q3 (by simp) hl fun o4 m4 q4 => ?_
    rw [hl]
    refine ⟨_, sX7_pack_151 (om := 0) (out := out) hMI (by rw [List.length_append]; omega) (by rw [List.length_append]) hl2 hC xs.length 0 0 0 _ m4 o4 (by omega) (by omega) q4 (by simp; omega) fun o5 m5 v q5 => ?_⟩
    have := h2 i ws hiw (nI ws.length) taped m5 row' cost' leastD' o5 q5
    rw [hl] at this
    unfold outIt outMt at this
    rw [Nat.zero_add, Nat.zero_add]
    exact this
  refine ⟨fun q => ?_, fun q => ?_⟩
  · subst q
    have hL := lay_none (pieceLong := pieceLong) (bytesOf := bytesOf) (dictionary := dict) (p2 := -1)
    refine hL.2.2 row _ fun row1 g1 => sX7_pack_37 (ws := []) hT hL.2.1 hL.1 g1 fun row2 v hMI => ?_
    rw [hl]
    refine sX7_packedLong (A := 0) hMI (by simp; omega) (by simp) hl2 fun cost' D hC => ?_
    have := tail 0 [] row2 (Or.inl ⟨rfl, rfl, rfl⟩) (by simp) hMI cost' D hC 0 (0 / 256) (0 - 0 / 256 * 256) rfl (by decide) (by decide)
    rw [hl] at this
    exact this
  · refine sX7_isThere hI (fun d z => ⟨fun _ => ?_, fun q => absurd q (by decide)⟩) (fun z => ⟨fun q => absurd rfl q, fun _ => h1 q z⟩)
    have htl := tail (ids d) (bss d)
    have z' := z
    obtain ⟨z1, z2, z3⟩ := z
    subst z2
    have hMd := hM d z1
    have hL := lay_all z1 hMd
    refine hL.2.2 row _ fun row1 g1 => sX7_pack_37 hT hL.2.1 hL.1 g1 fun row2 v hMI => ?_
    rw [hl]
    refine sX7_packedLong hMI (by rw [List.length_append]; have := hL.1; omega) (by rw [List.length_append]) hl2 fun cost' D hC => ?_
    refine hMd.sum z1 ⟨vp_in_nI z1 (by decide), ?_⟩
    rw [nI_clamp (by omega)]
    have hs := sumN_lt (bss d)
    have := htl row2 (Or.inr ⟨d, z', rfl, rfl⟩) hL.1 hMI cost' D hC (idOf d) (nI (sumN (bss d)) / 256) (nI (sumN (bss d)) - nI (sumN (bss d)) / 256 * 256) (hI d z1).1 (by rw [if_neg z3]; exact (div256 hs).1) (by rw [if_neg z3]; exact (div256 hs).2)
    rw [hl] at this
    exact this
/-- the loop over the items -/
theorem sX7_wrong_142 {tape : Nat → Int32} {taped : Int32} {pk : List Nat} (hT : MT 200 tape taped pk) {A tl : Nat} (hA80 : A ≤ 80) (htl : tl ≤ 200) {post : Int32 → Int32 → Int32 → (Nat → Int32) → Prop} {K : (Nat → Int32) → Int32 → Int32 → Prop} :
    ∀ (f i : Nat) (J : List Nat) (row : Nat → Int32), tl - (J.length - A) < f → A ≤ J.length → J.length - A ≤ tl → i ≤ pk.length → MI row J →
    (∀ i' J' row', decL pk A tl f i J = (if i' < pk.length then some i' else none, J') → i' ≤ pk.length → tl = J'.length - A → A ≤ J'.length → MI row' J' → K row' (nI i') (nI tl)) →
    (∀ row' g, decL pk A tl f i J = (some pk.length, J) ∨ (∃ J', decL pk A tl f i J = (some pk.length, J')) → g < tl → K row' (nI pk.length) (nI g)) →
    (∀ w J', decL pk A tl f i J = (some w, J') → w ≤ pk.length → ∀ a b c, post (nI w) a b c) →
    wX7_wrong_142 taped (nI A) (nI tl) tape post K f row (nI i) (nI (J.length - A)) := by
  obtain ⟨hl, hl2, hl3, hl4⟩ := hT
  intro f
  induction f with
  | zero => intro i J row h; omega
  | succ f ih =>
    intro i J row hf hA hle hi hMI k1 k2 k3
    have hdec : decL pk A tl (f + 1) i J = if tl ≤ J.length - A then (if i < pk.length then some i else none, J) else (match itm pk A tl i J with | (some w, _, J') => (some w, J') | (none, i', J') => decL pk A tl f i' J') := rfl
    by_cases hd : tl ≤ J.length - A
    · rw [if_pos hd] at hdec
      have e : J.length - A = tl := by omega
      refine ⟨fun _ => ?_, fun c => absurd (nI_le hd (by omega)) c⟩
      rw [e]
      exact k1 i J row hdec hi e.symm hA hMI
    · rw [if_neg hd] at hdec
      refine ⟨fun c => absurd c (nI_ge (by omega) (by omega)), fun _ => ⟨fun c => ?_, fun c => ?_⟩⟩
      · rw [hl, nI_leI (by omega) (by omega)] at c
        have hi' : i = pk.length := by omega
        have hitm : itm pk A tl i J = (some pk.length, i, J) := by unfold itm; rw [if_pos c]
        rw [hitm] at hdec
        rw [hi']
        rw [hi'] at hdec
        exact k2 row _ (Or.inl (by rw [hi']; exact hdec)) (by omega)
      · rw [hl, nI_leI (by omega) (by omega)] at c
        have hc := getD_lt256 hl3 i
        have hn := nOf_bd hc
        obtain ⟨n1, n2⟩ := nOf_nI hc
        rw [nI_clamp (show i < 2 ^ 31 by omega), hl4 i (by omega)]
        refine ⟨vp_in_nI (by omega) (by omega), fun y20 h20 => ?_⟩
        subst h20
        refine ⟨fun q => ?_, fun q => ?_⟩
        · -- a match
          rw [show (32 : Int32) = nI 32 from rfl, nI_leI (by decide) (by omega)] at q
          intro y22 h22
          rw [n2 (by omega)] at h22
          subst h22
          rw [nI_add, nI_leI (by omega) (by omega)]
          refine ⟨fun q2 y24 h24 => ?_, fun q2 => ?_⟩
          · rw [nI_1] at h24
            subst h24
            rw [hl, nI_eq (by omega) (by omega)]
            refine ⟨fun q3 => ?_, fun q3 => ?_⟩
            · rw [nI_clamp (show i + 1 < 2 ^ 31 by omega), hl4 (i + 1) (by omega)]
              refine ⟨vp_in_nI (by omega) (by omega), fun y27 h27 => ?_⟩
              have he := getD_lt256 hl3 (i + 1)
              rw [far_nI hc he] at h27
              subst h27
              have hfar : farOf (pk.getD i 0) (pk.getD (i + 1) 0) < 10000 := by unfold farOf; omega
              have hfar1 : 1 ≤ farOf (pk.getD i 0) (pk.getD (i + 1) 0) := by unfold farOf; omega
              rw [nI_add, show A + (J.length - A) = J.length by omega, nI_leI (by omega) (by omega)]
              refine ⟨fun q4 => ?_, fun q4 => ?_⟩
              · have hitm : itm pk A tl i J = (none, i + 2, mcopy J (farOf (pk.getD i 0) (pk.getD (i + 1) 0)) (nOf (pk.getD i 0))) := by
                  unfold itm
                  rw [if_neg (by omega), if_neg (by omega), if_neg (by omega), if_neg (by omega), if_neg (by omega)]
                rw [hitm] at hdec
                have hdec : decL pk A tl (f + 1) i J = decL pk A tl f (i + 2) (mcopy J (farOf (pk.getD i 0) (pk.getD (i + 1) 0)) (nOf (pk.getD i 0))) := hdec
                rw [hdec] at k1 k2 k3
                generalize hN : nOf (pk.getD i 0) = N at *
                generalize hFr : farOf (pk.getD i 0) (pk.getD (i + 1) 0) = far at *
                have cp : ∀ e k row', k + e = N → MI row' (mcopy J far k) → wX7_wrong_328 (nI A) (nI (J.length - A)) (nI N) (nI far) (fun s29 _ => ∀ y35 : Int32, y35 = nI (i + 1) + 1 → ∀ y36 : Int32, y36 = nI (J.length - A + N) → wX7_wrong_142 (nI pk.length) (nI A) (nI tl) tape post K f s29 y35 y36) (e + 1) row' (nI k) := by
                  intro e
                  induction e with
                  | zero =>
                    intro k row' hk hr
                    have : k = N := by omega
                    subst this
                    refine ⟨fun _ y35 h35 y36 h36 => ?_, fun c => absurd (nI_le (Nat.le_refl _) (by omega)) c⟩
                    have hml := mcopy_len J far k
                    subst h35; subst h36
                    rw [show nI (i + 1) + 1 = nI (i + 2) from nI_1 (i + 1), show J.length - A + k = (mcopy J far k).length - A by omega]
                    have := ih (i + 2) (mcopy J far k) row' (by omega) (by omega) (by omega) (by omega) hr k1 (fun r g z1 z2 => k2 r g (z1.elim (fun z => Or.inr ⟨_, z⟩) Or.inr) z2) k3
                    rw [hl] at this
                    exact this
                  | succ e ihe =>
                    intro k row' hk hr
                    have hml := mcopy_len J far k
                    refine ⟨fun c => absurd c (nI_ge (by omega) (by omega)), fun _ => ?_⟩
                    rw [show nI A + nI (J.length - A) = nI J.length by rw [nI_add, show A + (J.length - A) = J.length by omega], show nI J.length + nI k = nI (J.length + k) by rw [nI_add], show nI (J.length + k) - nI far = nI (J.length + k - far) from pk_sub (by omega)]
                    refine ⟨vp_in_nI (by omega) (by omega), vp_in_nI (by omega) (by omega), fun y34 h34 => ?_⟩
                    subst h34
                    rw [show nI k + 1 = nI (k + 1) from nI_1 k, nI_clamp (show J.length + k < 2 ^ 31 by omega), nI_clamp (show J.length + k - far < 2 ^ 31 by omega)]
                    refine ihe (k + 1) _ (by omega) ⟨mcopy_lt hMI.1 (k + 1), fun j hj => ?_⟩
                    rw [mcopy_len] at hj
                    show _ = nI ((mcopy J far k ++ [(mcopy J far k).getD ((mcopy J far k).length - far) 0]).getD j 0)
                    by_cases hjk : j < J.length + k
                    · rw [pk_un (by omega), getD_app_lt (by omega)]; exact hr.2 j (by omega)
                    · have : j = J.length + k := by omega
                      subst this
                      rw [pk_us, getD_app_ge (by omega), hml, Nat.sub_self, hr.2 _ (by omega)]
                      rfl
                exact ⟨_, cp N 0 row (by omega) hMI⟩
              · have hitm : itm pk A tl i J = (some (i + 1), i, J) := by
                  unfold itm
                  rw [if_neg (by omega), if_neg (by omega), if_neg (by omega), if_neg (by omega), if_pos (by omega)]
                rw [hitm] at hdec
                exact k3 (i + 1) J hdec (by omega) _ _ _
            · have hitm : itm pk A tl i J = (some pk.length, i, J) := by
                unfold itm
                rw [if_neg (by omega), if_neg (by omega), if_neg (by omega), if_pos (by omega)]
              rw [hitm] at hdec
              exact k3 pk.length J hdec (by omega) _ _ _
          · have hitm : itm pk A tl i J = (some i, i, J) := by
              unfold itm
              rw [if_neg (by omega), if_pos (by omega)]
            rw [hitm] at hdec
            exact k3 i J hdec (by omega) _ _ _
        · -- bytes as they are
          rw [show (32 : Int32) = nI 32 from rfl, nI_leI (by decide) (by omega)] at q
          intro y38 h38
          rw [n1 (by omega)] at h38
          subst h38
          rw [nI_add, nI_leI (by omega) (by omega)]
          refine ⟨fun q2 y40 h40 => ?_, fun q2 => ?_⟩
          · rw [nI_1] at h40
            subst h40
            rw [hl, nI_add, nI_leI (by omega) (by omega)]
            refine ⟨fun q3 => ?_, fun q3 => ?_⟩
            · have hitm : itm pk A tl i J = (none, i + nOf (pk.getD i 0) + 1, J ++ (pk.drop (i + 1)).take (nOf (pk.getD i 0))) := by
                unfold itm
                rw [if_neg (by omega), if_neg (by omega), if_pos (by omega), if_neg (by omega)]
              rw [hitm] at hdec
              have hdec : decL pk A tl (f + 1) i J = decL pk A tl f (i + nOf (pk.getD i 0) + 1) (J ++ (pk.drop (i + 1)).take (nOf (pk.getD i 0))) := hdec
              rw [hdec] at k1 k2 k3
              generalize hN : nOf (pk.getD i 0) = N at *
              have cp : ∀ e k row', k + e = N → MI row' (J ++ (pk.drop (i + 1)).take k) → wX7_wrong_233 (nI A) tape (nI (i + 1)) (nI (J.length - A)) (nI N) (fun s42 _ => ∀ y48 : Int32, y48 = nI (i + 1 + N) → ∀ y49 : Int32, y49 = nI (J.length - A + N) → wX7_wrong_142 (nI pk.length) (nI A) (nI tl) tape post K f s42 y48 y49) (e + 1) row' (nI k) := by
                intro e
                induction e with
                | zero =>
                  intro k row' hk hr
                  have : k = N := by omega
                  subst this
                  refine ⟨fun _ y48 h48 y49 h49 => ?_, fun c => absurd (nI_le (Nat.le_refl _) (by omega)) c⟩
                  have hml : (J ++ (pk.drop (i + 1)).take k).length = J.length + k := by rw [List.length_append, List.length_take, List.length_drop]; omega
                  subst h48; subst h49
                  rw [show i + 1 + k = i + k + 1 by omega, show J.length - A + k = (J ++ (pk.drop (i + 1)).take k).length - A by omega]
                  have := ih (i + k + 1) (J ++ (pk.drop (i + 1)).take k) row' (by omega) (by omega) (by omega) (by omega) hr k1 (fun r g z1 z2 => k2 r g (z1.elim (fun z => Or.inr ⟨_, z⟩) Or.inr) z2) k3
                  rw [hl] at this
                  exact this
                | succ e ihe =>
                  intro k row' hk hr
                  have hml : (J ++ (pk.drop (i + 1)).take k).length = J.length + k := by rw [List.length_append, List.length_take, List.length_drop]; omega
                  have hml2 : (J ++ (pk.drop (i + 1)).take (k + 1)).length = J.length + (k + 1) := by rw [List.length_append, List.length_take, List.length_drop]; omega
                  refine ⟨fun c => absurd c (nI_ge (by omega) (by omega)), fun _ => ?_⟩
                  rw [show nI A + nI (J.length - A) = nI J.length by rw [nI_add, show A + (J.length - A) = J.length by omega], show nI J.length + nI k = nI (J.length + k) by rw [nI_add], show nI (i + 1) + nI k = nI (i + 1 + k) by rw [nI_add]]
                  refine ⟨vp_in_nI (by omega) (by omega), vp_in_nI (by omega) (by omega), fun y34 h34 => ?_⟩
                  subst h34
                  rw [show nI k + 1 = nI (k + 1) from nI_1 k, nI_clamp (show J.length + k < 2 ^ 31 by omega), nI_clamp (show i + 1 + k < 2 ^ 31 by omega), hl4 _ (by omega)]
                  refine ihe (k + 1) _ (by omega) ⟨fun x hx => ?_, fun j hj => ?_⟩
                  · rcases List.mem_append.mp hx with z | z
                    · exact hMI.1 x z
                    · exact hl3 x (List.mem_of_mem_drop (List.mem_of_mem_take z))
                  · have hsn : J ++ (pk.drop (i + 1)).take (k + 1) = (J ++ (pk.drop (i + 1)).take k) ++ [pk.getD (i + 1 + k) 0] := by
                      rw [take_snoc (by rw [List.length_drop]; omega), ← List.append_assoc]
                      have : (pk.drop (i + 1)).getD k 0 = pk.getD (i + 1 + k) 0 := by
                        rw [List.getD_eq_getElem?_getD, List.getD_eq_getElem?_getD, List.getElem?_drop]
                      rw [this]
                    rw [hsn, List.length_append, hml, List.length_singleton] at hj
                    rw [hsn]
                    by_cases hjk : j < J.length + k
                    · rw [pk_un (by omega), getD_app_lt (by omega)]; exact hr.2 j (by omega)
                    · have : j = J.length + k := by omega
                      subst this
                      rw [pk_us, getD_app_ge (by omega), hml, Nat.sub_self]
                      rfl
              have hstart : MI row (J ++ (pk.drop (i + 1)).take 0) := by rw [List.take_zero, List.append_nil]; exact hMI
              exact ⟨_, cp N 0 row (by omega) hstart⟩
            · have hitm : itm pk A tl i J = (some pk.length, i, J) := by
                unfold itm
                rw [if_neg (by omega), if_neg (by omega), if_pos (by omega), if_pos (by omega)]
              rw [hitm] at hdec
              exact k3 pk.length J hdec (by omega) _ _ _
          · have hitm : itm pk A tl i J = (some i, i, J) := by
              unfold itm
              rw [if_neg (by omega), if_pos (by omega)]
            rw [hitm] at hdec
            exact k3 i J hdec (by omega) _ _ _
