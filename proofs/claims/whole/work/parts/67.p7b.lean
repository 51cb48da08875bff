/-! PURE: the reference's dictionaries and samples; sizes; pack -/
theorem i80 {d k : Nat} : (80 : Int32) * nI d + nI k = nI (80 * d + k) := by rw [show (80 : Int32) = nI 80 from rfl, pk_mul, nI_add]
theorem i40 {d k : Nat} : (40 : Int32) * nI d + nI k = nI (40 * d + k) := by rw [show (40 : Int32) = nI 40 from rfl, pk_mul, nI_add]
/-- dictionary d of the reference: c pieces of n bytes each, bs together -/
def MD (pieces pieceLong bytesOf dictionary : Nat → Int32) (d n c : Nat) (bs : List Nat) : Prop :=
  pieces d = nI c ∧ bytesOf d = nI bs.length ∧ bs.length = n * c ∧ bs.length ≤ 80 ∧ c ≤ 80 ∧ n ≤ 80 ∧ (∀ x ∈ bs, x < 256) ∧ (∀ k, k < bs.length → dictionary (80 * d + k) = nI (bs.getD k 0)) ∧ ∀ k, k < c → pieceLong (80 * d + k) = nI n
/-- the samples of the reference -/
def MS (sampleLong sampleByte : Nat → Int32) (ss : List (List Nat)) : Prop :=
  ss.length ≤ 8 ∧ ∀ s, s < ss.length → sampleLong s = nI (ss.getD s []).length ∧ 1 ≤ (ss.getD s []).length ∧ (ss.getD s []).length ≤ 40 ∧ (∀ x ∈ ss.getD s [], x < 256) ∧ ∀ k, k < (ss.getD s []).length → sampleByte (40 * s + k) = nI ((ss.getD s []).getD k 0)
theorem sX7_pieceAt {pl : Nat → Int32} {d n c k : Nat} (hd : d < 6) (hc : c ≤ 80) (hn : n ≤ 80) (hpl : ∀ k, k < c → pl (80 * d + k) = nI n) (hk : k ≤ c) {post : Int32 → Prop} (hp : post (nI (k * n))) : wX7_pieceAt pl (nI d) (nI k) post := by
  have key : ∀ e j, j + e = k → wX7_pieceAt_5 pl (nI d) (nI k) (fun y _ => post y) (e + 1) (nI (j * n)) (nI j) := by
    intro e
    induction e with
    | zero =>
      intro j hj
      have : j = k := by omega
      subst this
      exact ⟨fun _ => hp, fun c => absurd (nI_le (Nat.le_refl _) (by omega)) c⟩
    | succ e ih =>
      intro j hj
      refine ⟨fun c => absurd c (nI_ge (by omega) (by omega)), fun _ => ?_⟩
      rw [i80]
      refine ⟨vp_in_nI (by omega) (by omega), fun y hy y2 hy2 => ?_⟩
      rw [nI_clamp (by omega), hpl j (by omega), nI_add] at hy
      rw [hy2, hy, nI_1]
      have := ih (j + 1) (by omega)
      rw [Nat.add_mul, Nat.one_mul] at this
      exact this
  have := key k 0 (by omega)
  rw [Nat.zero_mul] at this
  exact ⟨k + 1, this⟩
/-- what is left of bs without many bytes from fr on, as far as k -/
def layL (bs : List Nat) (fr many k : Nat) : List Nat := (bs.take k).take fr ++ (bs.take k).drop (fr + many)
theorem layL_keep {bs : List Nat} {fr many k : Nat} (hk : k < bs.length) (h : k < fr ∨ fr + many ≤ k) : layL bs fr many (k + 1) = layL bs fr many k ++ [bs.getD k 0] := by
  unfold layL
  rw [take_snoc hk]
  have hT : (bs.take k).length = k := by rw [List.length_take]; omega
  generalize bs.take k = T at hT ⊢
  generalize bs.getD k 0 = x
  have hTx : (T ++ [x]).length = k + 1 := by rw [List.length_append, hT]; rfl
  rcases h with h | h
  · have h1 : (T ++ [x]).take fr = T ++ [x] := List.take_of_length_le (by omega)
    have h2 : T.take fr = T := List.take_of_length_le (by omega)
    have h3 : (T ++ [x]).drop (fr + many) = [] := List.drop_of_length_le (by omega)
    have h4 : T.drop (fr + many) = [] := List.drop_of_length_le (by omega)
    rw [h1, h2, h3, h4, List.append_nil, List.append_nil]
  · rw [List.take_append_of_le_length (by omega), List.drop_append_of_le_length (by omega), List.append_assoc]
theorem layL_skip {bs : List Nat} {fr many k : Nat} (hk : k < bs.length) (h1 : fr ≤ k) (h2 : k < fr + many) : layL bs fr many (k + 1) = layL bs fr many k := by
  unfold layL
  rw [take_snoc hk]
  have hT : (bs.take k).length = k := by rw [List.length_take]; omega
  generalize bs.take k = T at hT ⊢
  generalize bs.getD k 0 = x
  have hTx : (T ++ [x]).length = k + 1 := by rw [List.length_append, hT]; rfl
  have h3 : (T ++ [x]).drop (fr + many) = [] := List.drop_of_length_le (by omega)
  have h4 : T.drop (fr + many) = [] := List.drop_of_length_le (by omega)
  rw [List.take_append_of_le_length (by omega), h3, h4]
theorem layL_len {bs : List Nat} {fr many k : Nat} : (layL bs fr many k).length ≤ k := by
  unfold layL
  rw [List.length_append, List.length_take, List.length_drop, List.length_take]
  omega
theorem layL_all {bs : List Nat} {fr many : Nat} : layL bs fr many bs.length = bs.take fr ++ bs.drop (fr + many) := by
  unfold layL; rw [List.take_length]
theorem sX7_lay_loop {bytesOf dict row : Nat → Int32} {d : Nat} {bs : List Nat} (hd : d < 6) (hb : bytesOf d = nI bs.length) (hl : bs.length ≤ 80) (hdict : ∀ k, k < bs.length → dict (80 * d + k) = nI (bs.getD k 0)) {fr many : Nat} (hfr : fr + many < 1000) {K : Int32 → (Nat → Int32) → Int32 → Prop}
    (hK : ∀ row' v, (∀ j, j < (bs.take fr ++ bs.drop (fr + many)).length → row' j = nI ((bs.take fr ++ bs.drop (fr + many)).getD j 0)) → K (nI (bs.take fr ++ bs.drop (fr + many)).length) row' v) : ∃ N, wX7_layAhead_51 bytesOf dict (nI d) (nI fr) (nI many) K N 0 row (0 : Int32) := by
  have key : ∀ e k row', k + e = bs.length → (∀ j, j < (layL bs fr many k).length → row' j = nI ((layL bs fr many k).getD j 0)) → wX7_layAhead_51 bytesOf dict (nI d) (nI fr) (nI many) K (e + 1) (nI (layL bs fr many k).length) row' (nI k) := by
    intro e
    induction e with
    | zero =>
      intro k row' hk hr
      have : k = bs.length := by omega
      subst this
      refine ⟨vp_in_nI hd (by omega), fun _ => ?_, fun c => absurd (by rw [nI_clamp (by omega), hb]; exact nI_le (Nat.le_refl _) (by omega)) c⟩
      rw [layL_all] at hr ⊢
      exact hK row' _ hr
    | succ e ih =>
      intro k row' hk hr
      have hlen := layL_len (bs := bs) (fr := fr) (many := many) (k := k)
      refine ⟨vp_in_nI hd (by omega), fun c => absurd (by rw [nI_clamp (by omega), hb] at c; exact c) (nI_ge (by omega) (by omega)), fun _ => ?_⟩
      have put : (k < fr ∨ fr + many ≤ k) → wX7_layAhead_51 bytesOf dict (nI d) (nI fr) (nI many) K (e + 1) (nI ((layL bs fr many k).length + 1)) (upd row' (layL bs fr many k).length (nI (bs.getD k 0))) (nI (k + 1)) := by
        intro h
        have := ih (k + 1) (upd row' (layL bs fr many k).length (nI (bs.getD k 0))) (by omega) (by
          rw [layL_keep (by omega) h]
          intro j hj
          rw [List.length_append, List.length_singleton] at hj
          by_cases hjl : j < (layL bs fr many k).length
          · rw [pk_un (by omega), getD_app_lt hjl]; exact hr j hjl
          · have : j = (layL bs fr many k).length := by omega
            subst this
            rw [pk_us, getD_app_ge (Nat.le_refl _), Nat.sub_self]; rfl)
        rw [layL_keep (by omega) h, List.length_append] at this
        exact this
      refine ⟨fun c => ?_, fun c => ⟨fun c2 => fun y hy => ?_, fun c2 => ?_⟩⟩
      · rw [nI_ltI (by omega) (by omega)] at c
        rw [i80]
        refine ⟨vp_in_nI (by omega) (by omega), vp_in_nI (by omega) (by omega), fun y hy y2 hy2 => ?_⟩
        rw [hy, hy2, nI_1, nI_1, nI_clamp (by omega), nI_clamp (by omega), hdict k (by omega)]
        exact put (Or.inl c)
      · rw [nI_ltI (by omega) (by omega)] at c
        rw [nI_add, nI_ltI (by omega) (by omega)] at c2
        rw [hy, nI_1]
        have := ih (k + 1) row' (by omega) (by rw [layL_skip (by omega) (by omega) c2]; exact hr)
        rw [layL_skip (by omega) (by omega) c2] at this
        exact this
      · rw [nI_add, nI_ltI (by omega) (by omega)] at c2
        rw [i80]
        refine ⟨vp_in_nI (by omega) (by omega), vp_in_nI (by omega) (by omega), fun y hy y2 hy2 => ?_⟩
        rw [hy, hy2, nI_1, nI_1, nI_clamp (by omega), nI_clamp (by omega), hdict k (by omega)]
        exact put (Or.inr (by omega))
  have h0 : layL bs fr many 0 = [] := by unfold layL; simp
  have := key bs.length 0 row (by omega) (by rw [h0]; intro j hj; exact absurd hj (Nat.not_lt_zero j))
  rw [h0] at this
  exact ⟨_, this⟩
/-- laying dictionary p1 without piece p2 ahead gives ws -/
def Lay (pieceLong bytesOf dictionary : Nat → Int32) (p1 p2 : Int32) (ws : List Nat) : Prop :=
  ws.length ≤ 80 ∧ (∀ x ∈ ws, x < 256) ∧ ∀ (row : Nat → Int32) (post : Int32 → (Nat → Int32) → Prop), (∀ row', (∀ j, j < ws.length → row' j = nI (ws.getD j 0)) → post (nI ws.length) row') → wX7_layAhead pieceLong bytesOf dictionary row p1 p2 post
theorem lay_none {pieceLong bytesOf dictionary : Nat → Int32} {p2 : Int32} : Lay pieceLong bytesOf dictionary (-1) p2 [] :=
  ⟨by simp, by simp, fun row post hp => ⟨fun _ => hp row (fun j hj => absurd hj (Nat.not_lt_zero j)), fun c => absurd rfl c⟩⟩
theorem lay_all {pieces pieceLong bytesOf dictionary : Nat → Int32} {d n c : Nat} {bs : List Nat} (hd : d < 6) (h : MD pieces pieceLong bytesOf dictionary d n c bs) : Lay pieceLong bytesOf dictionary (nI d) (-1) bs := by
  obtain ⟨h1, h2, h3, h4, h5, h6, h7, h8, h9⟩ := h
  refine ⟨h4, h7, fun row post hp => ⟨fun c => absurd c (nI_ne_m1 (by omega)), fun _ => ⟨fun c => absurd rfl c, fun _ => ?_⟩⟩⟩
  refine sX7_lay_loop (fr := 0) (many := 0) hd h2 h4 h8 (by omega) fun row' v hr => ?_
  rw [List.take_zero, List.nil_append, List.drop_zero] at hr ⊢
  exact hp row' hr
theorem lay_wo {pieces pieceLong bytesOf dictionary : Nat → Int32} {d n c k : Nat} {bs : List Nat} (hd : d < 6) (h : MD pieces pieceLong bytesOf dictionary d n c bs) (hk : k < c) : Lay pieceLong bytesOf dictionary (nI d) (nI k) (bs.take (k * n) ++ bs.drop (k * n + n)) := by
  obtain ⟨h1, h2, h3, h4, h5, h6, h7, h8, h9⟩ := h
  refine ⟨?_, fun x hx => ?_, fun row post hp => ⟨fun c => absurd c (nI_ne_m1 (by omega)), fun _ => ⟨fun _ => ?_, fun c => absurd c (nI_ne_m1 (by omega))⟩⟩⟩
  · rw [List.length_append, List.length_take, List.length_drop]; omega
  · rcases List.mem_append.mp hx with q | q
    · exact h7 x (List.mem_of_mem_take q)
    · exact h7 x (List.mem_of_mem_drop q)
  · refine sX7_pieceAt hd h5 h6 h9 (by omega) ?_
    rw [i80]
    refine ⟨vp_in_nI (by omega) (by omega), fun y hy => ?_⟩
    rw [nI_clamp (by omega), h9 k hk] at hy
    subst hy
    have hkn : k * n ≤ 80 * 80 := Nat.mul_le_mul (by omega) h6
    have hkn2 : k * n + n ≤ bs.length := by
      rw [h3, Nat.mul_comm n c]
      have : (k + 1) * n ≤ c * n := Nat.mul_le_mul_right n hk
      rw [Nat.add_mul, Nat.one_mul] at this
      exact this
    exact sX7_lay_loop hd h2 h4 h8 (by omega) fun row' v hr => hp row' hr
theorem MI_app {g : Nat → Int32} {ws ts : List Nat} (hw : ∀ x ∈ ws, x < 256) (ht : ∀ x ∈ ts, x < 256) (h1 : ∀ j, j < ws.length → g j = nI (ws.getD j 0)) (h2 : ∀ j, j < ts.length → g (ws.length + j) = nI (ts.getD j 0)) : MI g (ws ++ ts) := by
  refine ⟨fun x hx => (List.mem_append.mp hx).elim (hw x) (ht x), fun j hj => ?_⟩
  rw [List.length_append] at hj
  by_cases h : j < ws.length
  · rw [getD_app_lt h]; exact h1 j h
  · rw [getD_app_ge (by omega)]
    have := h2 (j - ws.length) (by omega)
    rw [show ws.length + (j - ws.length) = j by omega] at this
    exact this
theorem sX7_laySample {sampleLong sampleByte row : Nat → Int32} {ss : List (List Nat)} (hS : MS sampleLong sampleByte ss) {s : Nat} (hs : s < ss.length) {ws : List Nat} (hw : ws.length ≤ 80) (hrow : ∀ j, j < ws.length → row j = nI (ws.getD j 0)) (hwb : ∀ x ∈ ws, x < 256) {post : Int32 → (Nat → Int32) → Prop}
    (hp : ∀ row', MI row' (ws ++ ss.getD s []) → post (nI (ss.getD s []).length) row') : wX7_laySample (nI ws.length) sampleLong sampleByte row (nI s) post := by
  obtain ⟨h8, hall⟩ := hS
  obtain ⟨e1, e2, e3, e4, e5⟩ := hall s hs
  refine ⟨vp_in_nI (by omega) (by omega), fun y2 h2 => ?_⟩
  rw [nI_clamp (by omega), e1] at h2
  subst h2
  have key : ∀ e k row', k + e = (ss.getD s []).length → (∀ j, j < ws.length → row' j = nI (ws.getD j 0)) → (∀ j, j < k → row' (ws.length + j) = nI ((ss.getD s []).getD j 0)) → wX7_laySample_12 (nI ws.length) (nI (ss.getD s []).length) sampleByte (nI s) (fun s3 _ => post (nI (ss.getD s []).length) s3) (e + 1) row' (nI k) := by
    intro e
    induction e with
    | zero =>
      intro k row' hk h1 h2
      have : k = (ss.getD s []).length := by omega
      subst this
      exact ⟨fun _ => hp row' (MI_app hwb e4 h1 h2), fun c => absurd (nI_le (Nat.le_refl _) (by omega)) c⟩
    | succ e ih =>
      intro k row' hk h1 h2
      refine ⟨fun c => absurd c (nI_ge (by omega) (by omega)), fun _ => ?_⟩
      rw [i40, nI_add]
      refine ⟨vp_in_nI (by omega) (by omega), vp_in_nI (by omega) (by omega), fun y hy => ?_⟩
      rw [hy, nI_1, nI_clamp (by omega), nI_clamp (by omega), e5 k (by omega)]
      refine ih (k + 1) _ (by omega) (fun j hj => ?_) (fun j hj => ?_)
      · rw [pk_un (by omega)]; exact h1 j hj
      · by_cases hjk : j = k
        · subst hjk; exact pk_us
        · rw [pk_un (by omega)]; exact h2 j (by omega)
  exact ⟨_, key (ss.getD s []).length 0 row (by omega) hrow (fun j hj => absurd hj (Nat.not_lt_zero j))⟩
theorem sX7_sizeOf {sampleLong sampleByte pieceLong bytesOf dictionary row cost leastD : Nat → Int32} {ss : List (List Nat)} (hS : MS sampleLong sampleByte ss) {s : Nat} (hs : s < ss.length) {p2 p3 : Int32} {ws : List Nat} (hL : Lay pieceLong bytesOf dictionary p2 p3 ws) {post : Int32 → Int32 → Int32 → (Nat → Int32) → (Nat → Int32) → (Nat → Int32) → Prop}
    (hp : ∀ a t r c l, post (nI (packN ws (ss.getD s []))) a t r c l) : wX7_sizeOf sampleLong sampleByte pieceLong bytesOf dictionary row cost leastD (nI s) p2 p3 post := by
  refine hL.2.2 row _ fun row1 h1 => sX7_laySample hS hs hL.1 h1 hL.2.1 fun row2 h2 => ?_
  obtain ⟨-, e2, e3, -⟩ := hS.2 s hs
  refine sX7_packedLong h2 (by rw [List.length_append]; have := hL.1; omega) (by rw [List.length_append]) (by omega) fun cost' D _ => ?_
  exact hp _ _ _ _ _
/-- all samples together -/
def sumPack (ws : List Nat) (ss : List (List Nat)) : Nat := (ss.map (packN ws)).sum
theorem packN_le (ws ts : List Nat) (h : ts.length ≤ 200) : packN ws ts ≤ 211 := by
  unfold packN
  have := cF_le (rowF (ws ++ ts)) ws.length ts.length h
  omega
theorem take_snocL {ss : List (List Nat)} {i : Nat} (h : i < ss.length) : ss.take (i + 1) = ss.take i ++ [ss.getD i []] := by
  rw [List.take_succ_eq_append_getElem h, List.getD_eq_getElem?_getD, List.getElem?_eq_getElem h]; rfl
theorem sumPack_snoc (ws : List Nat) (ss : List (List Nat)) (x : List Nat) : sumPack ws (ss ++ [x]) = sumPack ws ss + packN ws x := by
  unfold sumPack; rw [List.map_append, List.sum_append]; simp
theorem sumPack_le (ws : List Nat) : ∀ (ss : List (List Nat)), (∀ x ∈ ss, x.length ≤ 200) → sumPack ws ss ≤ 211 * ss.length := by
  intro ss
  induction ss with
  | nil => intro _; exact Nat.le_refl _
  | cons x ss ih =>
    intro h
    have h1 := ih fun y hy => h y (List.mem_cons_of_mem _ hy)
    have h2 := packN_le ws x (h x List.mem_cons_self)
    have h3 : sumPack ws (x :: ss) = packN ws x + sumPack ws ss := by unfold sumPack; rw [List.map_cons, List.sum_cons]
    rw [h3, List.length_cons]; omega
theorem MS.short {sampleLong sampleByte : Nat → Int32} {ss : List (List Nat)} (h : MS sampleLong sampleByte ss) : ∀ x ∈ ss, x.length ≤ 200 := by
  intro x hx
  obtain ⟨i, hi, rfl⟩ := List.mem_iff_getElem.mp hx
  have := (h.2 i hi).2.2.1
  rw [List.getD_eq_getElem?_getD, List.getElem?_eq_getElem hi] at this
  have : ss[i].length ≤ 40 := this
  omega
theorem sX7_sizeOfAll {samples a0 t0 : Int32} {sampleLong sampleByte pieceLong bytesOf dictionary row cost leastD : Nat → Int32} {ss : List (List Nat)} (hS : MS sampleLong sampleByte ss) (hn : samples = nI ss.length) {p2 p3 : Int32} {ws : List Nat} (hL : Lay pieceLong bytesOf dictionary p2 p3 ws) {post : Int32 → Int32 → Int32 → (Nat → Int32) → (Nat → Int32) → (Nat → Int32) → Prop}
    (hp : ∀ a t r c l, post (nI (sumPack ws ss)) a t r c l) : wX7_sizeOfAll samples a0 t0 sampleLong sampleByte pieceLong bytesOf dictionary row cost leastD p2 p3 post := by
  subst hn
  have h8 := hS.1
  have key : ∀ e i a t r c l, i + e = ss.length → wX7_sizeOfAll_5 (nI ss.length) sampleLong sampleByte pieceLong bytesOf dictionary p2 p3 (fun s1 s2 s3 s4 s5 y6 _ => post y6 s1 s2 s3 s4 s5) (e + 1) a t r c l (nI (sumPack ws (ss.take i))) (nI i) := by
    intro e
    induction e with
    | zero =>
      intro i a t r c l hi
      have : i = ss.length := by omega
      subst this
      rw [List.take_length]
      exact ⟨fun _ => hp _ _ _ _ _, fun c => absurd (nI_le (Nat.le_refl _) (by omega)) c⟩
    | succ e ih =>
      intro i a t r c l hi
      refine ⟨fun c => absurd c (nI_ge (by omega) (by omega)), fun _ => sX7_sizeOf hS (by omega) hL fun a' t' r' c' l' y15 h15 y16 h16 => ?_⟩
      rw [h15, h16, nI_1, nI_add]
      have := ih (i + 1) a' t' r' c' l' (by omega)
      rw [take_snocL (by omega), sumPack_snoc] at this
      exact this
  exact ⟨_, key ss.length 0 a0 t0 row cost leastD (by omega)⟩
/-- OUT of the reference -/
def MO (out : Nat → Int32) (om : Int32) (xs : List Nat) : Prop := om = nI xs.length ∧ xs.length ≤ 400 ∧ ∀ j, j < xs.length → out j = nI (xs.getD j 0)
theorem sX7_put {out : Nat → Int32} {om : Int32} {xs : List Nat} (h : MO out om xs) (hlt : xs.length < 400) {b : Nat} {v : Int32} (hv : v = nI b) {post : Int32 → (Nat → Int32) → Prop} (hp : ∀ out' om', MO out' om' (xs ++ [b]) → post om' out') : wX7_put om out v post := by
  obtain ⟨h1, h2, h3⟩ := h
  subst h1; subst hv
  refine ⟨vp_in_nI hlt (by omega), fun y hy => hp _ _ ⟨?_, by rw [List.length_append, List.length_singleton]; omega, fun j hj => ?_⟩⟩
  · rw [hy, nI_1, List.length_append]; rfl
  · rw [List.length_append, List.length_singleton] at hj
    rw [nI_clamp (by omega)]
    by_cases hjl : j < xs.length
    · rw [pk_un (by omega), getD_app_lt hjl]; exact h3 j hjl
    · have : j = xs.length := by omega
      subst this
      rw [pk_us, getD_app_ge (Nat.le_refl _), Nat.sub_self]; rfl
theorem sX7_putItem {row cost D out : Nat → Int32} {om : Int32} {rl xs : List Nat} (hM : MI row rl) (hr : rl.length ≤ 280) {A n i : Nat} (hT : A + n = rl.length) (hn : n ≤ 200) (hi : i < n) (hC : MpOK cost D (rowF rl) A n) (hO : MO out om xs) (hfit : xs.length + cF (rowF rl) A n i ≤ 400) {mt : Nat} {post : Int32 → Int32 → Int32 → (Nat → Int32) → Prop}
    (hm : ∀ m out' om', chF (rowF rl) A n i = (true, m) → MO out' om' (xs ++ [(m - 2) * 32 + (LD (rowF rl) (A + i) m - 1) / 256, (LD (rowF rl) (A + i) m - 1) % 256]) → post (nI m) om' (nI (mt + 1)) out')
    (hk : ∀ k out' om', chF (rowF rl) A n i = (false, k) → MO out' om' (xs ++ (k - 1) :: (List.range k).map (fun t => rowF rl (A + i + t))) → post (nI k) om' (nI mt) out') : wX7_putItem (nI A) (nI n) om (nI mt) row cost D out (nI i) post := by
  have hL := LM_le (rowF rl) (A + i) (min 9 (n - i))
  have hcb : ∀ j, j ≤ n → cF (rowF rl) A n j ≤ 400 := fun j hj => by
    have := (cF_cst (rowF rl) A n).bound hn (n - j) j (by omega) (Nat.zero_le j)
    omega
  obtain ⟨hc1, hc2⟩ := hC
  have hLD : ∀ m, 1 ≤ m → m ≤ LM (rowF rl) (A + i) (min 9 (n - i)) → 1 ≤ LD (rowF rl) (A + i) m ∧ LD (rowF rl) (A + i) m ≤ 280 := fun m a b => by
    obtain ⟨-, p, hp1, hp2⟩ := (LM_iff (by omega)).mp b
    have := LD_is ⟨p, hp1, hp2⟩
    exact ⟨this.1, by have := this.2.1; omega⟩
  have y4neg : (nI 0 : Int32) - 1 < 0 := by decide
  -- a length that isn't the chosen one is passed over
  have pass : ∀ (K : Int32 → Prop) (e j : Nat), 3 ≤ j → j ≤ 9 → (j ≤ LM (rowF rl) (A + i) (min 9 (n - i)) → cF (rowF rl) A n i < 2 + cF (rowF rl) A n (i + j)) → wX7_putItem_3 om (nI mt) cost D out (nI i) post K e (nI (j - 1)) → wX7_putItem_3 om (nI mt) cost D out (nI i) post K (e + 1) (nI j) := by
    intro K e j h3 h9 hne hrec
    refine ⟨fun c => absurd (by rw [show (3 : Int32) = nI 3 from rfl, nI_ltI (by omega) (by decide)] at c; exact c) (by omega), fun _ => ?_⟩
    rw [i10, nI_clamp (by omega), hc2 i hi j (by omega) h9]
    refine ⟨vp_in_nI (by omega) (by omega), fun y4 h4 => ?_⟩
    by_cases hj : j ≤ LM (rowF rl) (A + i) (min 9 (n - i))
    · rw [if_pos hj, show (1 : Int32) = nI 1 from rfl, pk_sub (hLD j (by omega) hj).1] at h4
      have hb := hLD j (by omega) hj
      subst h4
      refine ⟨fun c => absurd c (nI_pos (by omega)), fun _ => ?_⟩
      have hx := hcb (i + j) (by omega)
      have hy := hcb i (by omega)
      rw [nI_add, nI_clamp (by omega), nI_clamp (by omega), hc1 (i + j) (by omega), hc1 i (by omega), show (2 : Int32) = nI 2 from rfl, nI_add, nI_eq (by omega) (by omega)]
      refine ⟨vp_in_nI (by omega) (by omega), vp_in_nI (by omega) (by omega), fun _ y hy => ?_, fun c => ?_⟩
      · rw [hy, sb_m1 (by omega)]; exact hrec
      · have := hne hj; omega
    · rw [if_neg hj] at h4
      subst h4
      refine ⟨fun _ y hy => ?_, fun c => absurd y4neg c⟩
      rw [hy, sb_m1 (by omega)]; exact hrec
  rcases item_spec (rowF rl) A n hn hi with ⟨m, a, b, c, e, f⟩ | ⟨k, a, b, c, e, f, g⟩
  · -- a match
    have hfin : ∀ (K : Int32 → Prop) (N : Nat), wX7_putItem_3 om (nI mt) cost D out (nI i) post K (N + 1) (nI m) := by
      intro K N
      refine ⟨fun c => absurd (by rw [show (3 : Int32) = nI 3 from rfl, nI_ltI (by omega) (by decide)] at c; exact c) (by omega), fun _ => ?_⟩
      have hb := hLD m (by omega) b
      rw [i10, nI_clamp (by omega), hc2 i hi m (by omega) (by omega), if_pos b]
      refine ⟨vp_in_nI (by omega) (by omega), fun y4 h4 => ?_⟩
      rw [show (1 : Int32) = nI 1 from rfl, pk_sub hb.1] at h4
      subst h4
      refine ⟨fun c => absurd c (nI_pos (by omega)), fun _ => ?_⟩
      have hx := hcb (i + m) (by omega)
      have hy := hcb i (by omega)
      rw [nI_add, nI_clamp (by omega), nI_clamp (by omega), hc1 (i + m) (by omega), hc1 i (by omega), show (2 : Int32) = nI 2 from rfl, nI_add, nI_eq (by omega) (by omega)]
      refine ⟨vp_in_nI (by omega) (by omega), vp_in_nI (by omega) (by omega), fun q => absurd e.symm q, fun _ => ?_⟩
      rw [pk_sub (by omega), show (32 : Int32) = nI 32 from rfl, show (256 : Int32) = nI 256 from rfl, pk_mul, pk_rem (by omega) (by decide) (by decide), pk_div (by omega) (by decide) (by decide), nI_add]
      refine sX7_put hO (by omega) (b := (m - 2) * 32 + (LD (rowF rl) (A + i) m - 1) / 256) (by rw [Nat.mul_comm]) fun o1 m1 h1 => ?_
      refine sX7_put h1 (by rw [List.length_append, List.length_singleton]; omega) rfl fun o2 m2 h2 y15 h15 => ?_
      rw [h15, nI_1]
      rw [List.append_assoc] at h2
      exact hm m o2 m2 c h2
    have go : ∀ (K : Int32 → Prop) (t : Nat), m + t ≤ 9 → wX7_putItem_3 om (nI mt) cost D out (nI i) post K (t + 1) (nI (m + t)) := by
      intro K t
      induction t with
      | zero => intro _; exact hfin K 0
      | succ t ih =>
        intro ht
        refine pass K (t + 1) (m + (t + 1)) (by omega) ht (fun hj => f _ (by omega) hj) ?_
        rw [show m + (t + 1) - 1 = m + t by omega]
        exact ih (by omega)
    refine ⟨9 - m + 1, ?_⟩
    rw [show (9 : Int32) = nI (m + (9 - m)) by rw [show m + (9 - m) = 9 by omega]; rfl]
    exact go _ (9 - m) (by omega)
  · -- bytes as they are
    have go : ∀ (K : Int32 → Prop), K (nI 2) → ∀ t, 2 + t ≤ 9 → wX7_putItem_3 om (nI mt) cost D out (nI i) post K (t + 1) (nI (2 + t)) := by
      intro K hK t
      induction t with
      | zero => intro _; exact ⟨fun _ => hK, fun c => absurd (by decide) c⟩
      | succ t ih =>
        intro ht
        refine pass K (t + 1) (2 + (t + 1)) (by omega) ht (fun hj => f _ (by omega) hj) ?_
        rw [show 2 + (t + 1) - 1 = 2 + t by omega]
        exact ih (by omega)
    refine ⟨8, go _ ?_ 7 (by omega)⟩
    -- the plain bytes, from the most on
    have down : ∀ (K : Int32 → Prop), K (nI k) → ∀ t, k + t ≤ min 32 (n - i) → wX7_putItem_111 cost (nI i) K (t + 1) (nI (k + t)) := by
      intro K hK t
      have step : ∀ q, q ≤ min 32 (n - i) → 1 ≤ q → cost (i + q) = nI (cF (rowF rl) A n (i + q)) := fun q h1 h2 => hc1 _ (by omega)
      induction t with
      | zero =>
        intro ht
        have hx := hcb (i + k) (by omega)
        have hy := hcb i (by omega)
        rw [Nat.add_zero k]
        show vp_in (nI i + nI k) 201 ∧ _
        rw [nI_add, nI_clamp (by omega), nI_clamp (by omega), step k (by omega) a, hc1 i (by omega), show (1 : Int32) = nI 1 from rfl, nI_add, nI_add]
        exact ⟨vp_in_nI (by omega) (by omega), vp_in_nI (by omega) (by omega), fun _ => hK, fun q => absurd (by rw [e]) q⟩
      | succ t ih =>
        intro ht
        have hx := hcb (i + (k + (t + 1))) (by omega)
        have hy := hcb i (by omega)
        have hg := g (k + (t + 1)) (by omega) ht
        show vp_in (nI i + nI (k + (t + 1))) 201 ∧ _
        rw [nI_add, nI_clamp (by omega), nI_clamp (by omega), step (k + (t + 1)) (by omega) (by omega), hc1 i (by omega), show (1 : Int32) = nI 1 from rfl, nI_add, nI_add, nI_eq (by omega) (by omega)]
        refine ⟨vp_in_nI (by omega) (by omega), vp_in_nI (by omega) (by omega), fun q => absurd q (by omega), fun _ y hy => ?_⟩
        rw [hy, show -nI 1 = (-1 : Int32) from rfl, sb_m1 (by omega), show k + (t + 1) - 1 = k + t by omega]
        exact ih (by omega)
    have tail : wX7_put om out (nI k - 1) (fun s22 s23 => ∃ n32 : Nat, wX7_putItem_147 (nI A) row (nI i) (nI k) (fun s24 s25 _ => post (nI k) s24 (nI mt) s25) n32 s22 s23 (0 : Int32)) := by
      rw [show (1 : Int32) = nI 1 from rfl, pk_sub a]
      refine sX7_put hO (by omega) rfl fun o1 m1 h1 => ?_
      have lp : ∀ t j o m, j + t = k → MO o m ((xs ++ [k - 1]) ++ (List.range j).map (fun t => rowF rl (A + i + t))) → wX7_putItem_147 (nI A) row (nI i) (nI k) (fun s24 s25 _ => post (nI k) s24 (nI mt) s25) (t + 1) m o (nI j) := by
        intro t
        induction t with
        | zero =>
          intro j o m hj ho
          have : j = k := by omega
          subst this
          refine ⟨fun _ => ?_, fun q => absurd (nI_le (Nat.le_refl _) (by omega)) q⟩
          rw [List.append_assoc] at ho
          exact hk j o m c ho
        | succ t ih =>
          intro j o m hj ho
          refine ⟨fun q => absurd q (nI_ge (by omega) (by omega)), fun _ => ?_⟩
          rw [nI_add, nI_add]
          refine ⟨vp_in_nI (by omega) (by omega), ?_⟩
          rw [nI_clamp (by omega), hM.2 _ (by omega)]
          refine sX7_put ho (by rw [List.length_append, List.length_append, List.length_singleton, List.length_map, List.length_range]; omega) rfl fun o2 m2 h2 y hy => ?_
          rw [hy, nI_1]
          refine ih (j + 1) o2 m2 (by omega) ?_
          rw [range_snoc j (fun t => rowF rl (A + i + t)), ← List.append_assoc]
          exact h2
      exact ⟨_, lp k 0 o1 m1 (by omega) (by simpa using h1)⟩
    refine ⟨fun q => ?_, fun q y hy => ?_⟩
    · rw [pk_sub (by omega), show (32 : Int32) = nI 32 from rfl, nI_leI (by omega) (by omega)] at q
      have := down (fun y17 => wX7_put om out (y17 - 1) (fun s22 s23 => ∃ n32 : Nat, wX7_putItem_147 (nI A) row (nI i) y17 (fun s24 s25 _ => post y17 s24 (nI mt) s25) n32 s22 s23 (0 : Int32))) tail (32 - k) (by omega)
      rw [show k + (32 - k) = 32 by omega] at this
      exact ⟨_, this⟩
    · rw [pk_sub (by omega), show (32 : Int32) = nI 32 from rfl, nI_leI (by omega) (by omega)] at q
      rw [pk_sub (by omega)] at hy
      subst hy
      have := down (fun y17 => wX7_put om out (y17 - 1) (fun s22 s23 => ∃ n32 : Nat, wX7_putItem_147 (nI A) row (nI i) y17 (fun s24 s25 _ => post y17 s24 (nI mt) s25) n32 s22 s23 (0 : Int32))) tail (n - i - k) (by omega)
      rw [show k + (n - i - k) = n - i by omega] at this
      exact ⟨_, this⟩
