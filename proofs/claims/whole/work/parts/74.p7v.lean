/-! PURE: the reference's simple methods -/
/-- the number lies between the bounds -/
def Rg (x : Int32) (a b : Nat) : Prop := (a : Int) ≤ x.toInt ∧ x.toInt ≤ (b : Int)
theorem Rg.nI {x : Int32} {a b : Nat} (hb : b < 2 ^ 31) (h : Rg x a b) : ∃ n : Nat, a ≤ n ∧ n ≤ b ∧ x = nI n := by
  obtain ⟨h1, h2⟩ := h
  obtain ⟨j, hj, e⟩ := nI_of (x := x) (fun c => by
    rw [lt_toInt] at c
    have : (0 : Int32).toInt = 0 := by decide
    omega)
  subst e
  rw [nI_toInt hj] at h1 h2
  exact ⟨j, by omega, by omega, rfl⟩
theorem Rg_nI {n a b : Nat} (hn : n < 2 ^ 31) : Rg (nI n) a b ↔ a ≤ n ∧ n ≤ b := by
  unfold Rg
  rw [nI_toInt hn]
  omega
theorem le_toInt {a b : Int32} : a ≤ b ↔ a.toInt ≤ b.toInt := Int32.le_iff_toInt_le
theorem sX7_inR {x : Int32} {a b : Int64} {a' b' : Nat} (ha : a.toInt = a') (hb : b.toInt = b') {post : Int32 → Prop} (h1 : Rg x a' b' → post 1) (h0 : ¬ Rg x a' b' → post 0) : wX7_in x.toInt64 a b post :=
  sX7_in (fun c => h1 (by unfold Rg; omega)) (fun c => h0 (by unfold Rg; omega))
/-- .. where the upper bound is one less than a number -/
theorem sX7_inM {x : Int32} {m : Nat} (hm : m < 1000) {post : Int32 → Prop} (h1 : ∀ k, k < m → x = nI k → post 1) (h0 : (∀ k, k < m → ¬ x = nI k) → post 0) : wX7_in x.toInt64 (0 : Int64) ((nI m - 1).toInt64) post := by
  have e : ((nI m - 1).toInt64).toInt = (m : Int) - 1 := by
    rw [Int32.toInt_toInt64, show (1 : Int32) = nI 1 from rfl, pk_sub_toInt (by omega) (by decide)]; rfl
  have e0 : (0 : Int64).toInt = 0 := by decide
  refine sX7_in (fun c => ?_) (fun c => h0 fun k hk z => c ?_)
  · rw [e, e0] at c
    obtain ⟨k, a, b, q⟩ := Rg.nI (x := x) (a := 0) (b := m - 1) (by omega) ⟨by omega, by omega⟩
    exact h1 k (by omega) q
  · rw [e, e0, z, nI_toInt (by omega)]; omega
/-- the tape, the text -/
def MT (cap : Nat) (f : Nat → Int32) (len : Int32) (xs : List Nat) : Prop := len = nI xs.length ∧ xs.length ≤ cap ∧ (∀ x ∈ xs, x < 256) ∧ ∀ j, j < xs.length → f j = nI (xs.getD j 0)
theorem MT.nil {cap : Nat} (f : Nat → Int32) : MT cap f 0 [] := ⟨rfl, Nat.zero_le _, by simp, by simp⟩
/-- byte k of a long -/
def bw (w : Int64) (k : Nat) : Nat := w.toBitVec.toNat / 2 ^ (8 * k) % 256
theorem bw_lt (w : Int64) (k : Nat) : bw w k < 256 := Nat.mod_lt _ (by decide)
theorem fd_ref (w s : Int64) {m : Nat} (hm : m ≤ 56) (hs : (s.toBitVec.smod 64).toNat = m) : ((w >>> s).toInt32).toBitVec.toNat % 2 ^ 8 = w.toBitVec.toNat / 2 ^ m % 2 ^ 8 := by
  rw [Int64.toBitVec_toInt32, BitVec.signExtend_eq_setWidth_of_le _ (by decide), BitVec.toNat_setWidth, Int64.toBitVec_shiftRight]
  apply Nat.eq_of_testBit_eq
  intro i
  rw [Nat.testBit_mod_two_pow, Nat.testBit_mod_two_pow, Nat.testBit_mod_two_pow, Nat.testBit_div_two_pow, BitVec.testBit_toNat, BitVec.testBit_toNat]
  by_cases hi : i < 8
  · have e : w.toBitVec.sshiftRight' (s.toBitVec.smod 64) = w.toBitVec.sshiftRight m := by rw [← hs]; rfl
    rw [e, BitVec.getLsbD_sshiftRight]
    simp [hi, show i < 32 by omega, show ¬ 64 ≤ i by omega, show m + i < 64 by omega, Nat.add_comm]
  · simp [hi]
theorem fd_cls (w : Int64) (s : UInt64) {m : Nat} (hm : m ≤ 56) (hs : (s.toBitVec % 64).toNat = m) : bN (((w.toUInt64 >>> s).toInt64).toInt32) = w.toBitVec.toNat / 2 ^ m % 256 := by
  unfold bN
  rw [Int64.toBitVec_toInt32, BitVec.signExtend_eq_setWidth_of_le _ (by decide), BitVec.toNat_setWidth, UInt64.toBitVec_toInt64, UInt64.toBitVec_shiftRight, Int64.toBitVec_toUInt64]
  have e : (w.toBitVec >>> (s.toBitVec % 64)).toNat = w.toBitVec.toNat / 2 ^ m := by
    rw [BitVec.ushiftRight_eq', hs, BitVec.toNat_ushiftRight, Nat.shiftRight_eq_div_pow]
  rw [e]
  omega
theorem k8 {P : Nat → Prop} (h0 : P 0) (h1 : P 1) (h2 : P 2) (h3 : P 3) (h4 : P 4) (h5 : P 5) (h6 : P 6) (h7 : P 7) : ∀ k, k < 8 → P k
  | 0, _ => h0
  | 1, _ => h1
  | 2, _ => h2
  | 3, _ => h3
  | 4, _ => h4
  | 5, _ => h5
  | 6, _ => h6
  | 7, _ => h7
  | n + 8, h => absurd h (by omega)
theorem feed_ref (w : Int64) {k : Nat} (hk : k < 8) : ((w >>> ((8 * nI k).toInt64 &&& 63)).toInt32) &&& 255 = nI (bw w k) := by
  have hs : (((8 * nI k).toInt64 &&& 63).toBitVec.smod 64).toNat = 8 * k := k8 (P := fun k => (((8 * nI k).toInt64 &&& 63).toBitVec.smod 64).toNat = 8 * k) (by decide) (by decide) (by decide) (by decide) (by decide) (by decide) (by decide) (by decide) k hk
  rw [pk_and _ 8 (by decide), fd_ref w _ (by omega) hs]
  rfl
theorem feed_cls (w : Int64) {k : Nat} (hk : k < 8) : bN (((w.toUInt64 >>> ((8 * nI k).toInt64.toUInt64 &&& Int64.toUInt64 63)).toInt64).toInt32) = bw w k := by
  have hs : (((8 * nI k).toInt64.toUInt64 &&& Int64.toUInt64 63).toBitVec % 64).toNat = 8 * k := k8 (P := fun k => (((8 * nI k).toInt64.toUInt64 &&& Int64.toUInt64 63).toBitVec % 64).toNat = 8 * k) (by decide) (by decide) (by decide) (by decide) (by decide) (by decide) (by decide) (by decide) k hk
  exact fd_cls w _ (by omega) hs
/-- the n low bytes, the highest first -/
def fdL (w : Int64) : Nat → List Nat
  | 0 => []
  | k + 1 => bw w k :: fdL w k
theorem fdL_len (w : Int64) : ∀ n, (fdL w n).length = n
  | 0 => rfl
  | n + 1 => by show (fdL w n).length + 1 = n + 1; rw [fdL_len w n]
theorem MT.snoc {cap : Nat} {f : Nat → Int32} {len : Int32} {xs : List Nat} (h : MT cap f len xs) (hlt : xs.length < cap) (hc : cap < 100000) {b : Nat} (hb : b < 256) : MT cap (upd f len.toNatClampNeg (nI b)) (len + 1) (xs ++ [b]) := by
  obtain ⟨h1, h2, h3, h4⟩ := h
  subst h1
  rw [nI_clamp (by omega)]
  refine ⟨by rw [nI_1, List.length_append]; rfl, by rw [List.length_append, List.length_singleton]; omega, fun x hx => ?_, fun j hj => ?_⟩
  · rcases List.mem_append.mp hx with q | q
    · exact h3 x q
    · rw [List.mem_singleton.mp q]; exact hb
  · rw [List.length_append, List.length_singleton] at hj
    by_cases hjl : j < xs.length
    · rw [pk_un (by omega), getD_app_lt hjl]; exact h4 j hjl
    · have : j = xs.length := by omega
      subst this
      rw [pk_us, getD_app_ge (Nat.le_refl _), Nat.sub_self]; rfl
theorem sX7_feed {f : Nat → Int32} {len p1 : Int32} {w : Int64} {xs : List Nat} (h : MT 200 f len xs) {post : Int32 → Int32 → Int32 → (Nat → Int32) → Prop}
    (h1 : ¬ Rg p1 1 8 → post (-102) 0 len f) (h2 : ∀ n, 1 ≤ n → n ≤ 8 → p1 = nI n → ¬ xs.length + n ≤ 200 → post (-103) 0 len f)
    (h3 : ∀ n, 1 ≤ n → n ≤ 8 → p1 = nI n → xs.length + n ≤ 200 → ∀ f' len', MT 200 f' len' (xs ++ fdL w n) → post (nI (xs.length + n)) 0 len' f') : wX7_feed len f p1 w post := by
  refine sX7_inR (a' := 1) (b' := 8) rfl rfl (fun c => ⟨fun _ => ?_, fun q => absurd q (by decide)⟩) (fun c => ⟨fun q => absurd rfl q, fun _ => h1 c⟩)
  obtain ⟨n, a, b, e⟩ := c.nI (by decide)
  have hl := h.1
  have hl2 := h.2.1
  rw [e, hl, nI_add, show (200 : Int32) = nI 200 from rfl, nI_leI (by omega) (by decide)]
  refine ⟨fun q y hy => ?_, fun q => by rw [← hl]; exact h2 n a b e q⟩
  have key : ∀ k v zs f' len', k ≤ 8 → v = nI k - 1 → zs ++ fdL w k = xs ++ fdL w n → MT 200 f' len' zs → wX7_feed_40 w (fun s5 s6 _ => post s5 0 s5 s6) (k + 1) len' f' v := by
    intro k
    induction k with
    | zero =>
      intro v zs f' len' hk hv hz hM
      subst hv
      refine ⟨fun _ => ?_, fun c => absurd (by decide) c⟩
      have hz : zs ++ [] = xs ++ fdL w n := hz
      rw [List.append_nil] at hz
      subst hz
      have := h3 n a b e q f' len' hM
      rw [hM.1]
      rw [hM.1] at this
      rw [List.length_append, fdL_len]
      rw [List.length_append, fdL_len] at this
      exact this
    | succ k ih =>
      intro v zs f' len' hk hv hz hM
      rw [nI_pred] at hv
      subst hv
      have hlen : zs.length + (k + 1) = xs.length + n := by
        have := congrArg List.length hz
        rw [List.length_append, List.length_append, fdL_len, fdL_len] at this
        exact this
      refine ⟨fun c => absurd c (nI_pos (by omega)), fun _ => ⟨by rw [hM.1]; exact vp_in_nI (by omega) (by omega), fun y10 h10 y11 h11 => ?_⟩⟩
      rw [feed_ref w (by omega), h10]
      refine ih y11 (zs ++ [bw w k]) _ _ (by omega) (by rw [h11, sub1_eq]) ?_ (hM.snoc (by omega) (by decide) (bw_lt w k))
      rw [List.append_assoc]
      exact hz
  refine ⟨_, key n y xs f (nI xs.length) (by omega) hy rfl (by rw [← hl]; exact h)⟩
theorem MS.snoc {sl sb sb' : Nat → Int32} {ss : List (List Nat)} {xs : List Nat} (h : MS sl sb ss) (h8 : ss.length < 8) (h1 : 1 ≤ xs.length) (h40 : xs.length ≤ 40) (hx : ∀ x ∈ xs, x < 256) (ha : ∀ j, j < xs.length → sb' (40 * ss.length + j) = nI (xs.getD j 0)) (hb : ∀ j, j < 40 * ss.length → sb' j = sb j) : MS (upd sl ss.length (nI xs.length)) sb' (ss ++ [xs]) := by
  refine ⟨by rw [List.length_append, List.length_singleton]; omega, fun s hs => ?_⟩
  rw [List.length_append, List.length_singleton] at hs
  by_cases hsl : s < ss.length
  · have e : (ss ++ [xs]).getD s [] = ss.getD s [] := by
      rw [List.getD_eq_getElem?_getD, List.getD_eq_getElem?_getD, List.getElem?_append_left hsl]
    obtain ⟨a1, a2, a3, a4, a5⟩ := h.2 s hsl
    rw [e, pk_un (by omega)]
    exact ⟨a1, a2, a3, a4, fun k hk => by rw [hb _ (by omega)]; exact a5 k hk⟩
  · have : s = ss.length := by omega
    subst this
    have e : (ss ++ [xs]).getD ss.length [] = xs := by
      rw [List.getD_eq_getElem?_getD, List.getElem?_append_right (Nat.le_refl _), Nat.sub_self]; rfl
    rw [e, pk_us]
    exact ⟨rfl, h1, h40, hx, ha⟩
theorem sX7_sample {tape sl sb : Nat → Int32} {taped sm : Int32} {xs : List Nat} {ss : List (List Nat)} (hT : MT 200 tape taped xs) (hS : MS sl sb ss) (hsm : sm = nI ss.length) {post : Int32 → Int32 → Int32 → Int32 → (Nat → Int32) → (Nat → Int32) → Prop}
    (h1 : ¬ (1 ≤ xs.length ∧ xs.length ≤ 40) → post (-102) 0 taped sm sl sb) (h2 : 1 ≤ xs.length → xs.length ≤ 40 → ss.length = 8 → post (-103) 0 taped sm sl sb)
    (h3 : 1 ≤ xs.length → xs.length ≤ 40 → ss.length < 8 → ∀ sl' sb', MS sl' sb' (ss ++ [xs]) → post (nI ss.length) 0 0 (nI (ss.length + 1)) sl' sb') : wX7_sample taped sm tape sl sb post := by
  have hl := hT.1
  have hl2 := hT.2.1
  have h8 := hS.1
  subst hsm
  refine sX7_inR (a' := 1) (b' := 40) rfl rfl (fun c => ⟨fun _ => ⟨fun q => ?_, fun q => ?_⟩, fun q => absurd q (by decide)⟩) (fun c => ⟨fun q => absurd rfl q, fun _ => h1 (by rw [hl, Rg_nI (by omega)] at c; exact c)⟩)
  · rw [hl, Rg_nI (by omega)] at c
    rw [show (8 : Int32) = nI 8 from rfl, nI_eq (by omega) (by decide)] at q
    have key : ∀ e k sb', k + e = xs.length → (∀ j, j < k → sb' (40 * ss.length + j) = nI (xs.getD j 0)) → (∀ j, j < 40 * ss.length → sb' j = sb j) → wX7_sample_37 taped (nI ss.length) tape (fun s4 _ => vp_in (nI ss.length) 8 ∧ ∀ y11 : Int32, y11 = nI ss.length + 1 → post (y11 - 1) 0 0 y11 (upd sl (nI ss.length).toNatClampNeg taped) s4) (e + 1) sb' (nI k) := by
      intro e
      induction e with
      | zero =>
        intro k sb' hk g1 g2
        have : k = xs.length := by omega
        subst this
        refine ⟨fun _ => ⟨vp_in_nI (by omega) (by omega), fun y hy => ?_⟩, fun c => absurd (by rw [hl]; exact nI_le (Nat.le_refl _) (by omega)) c⟩
        rw [hy, nI_1, show (1 : Int32) = nI 1 from rfl, pk_sub (by omega), Nat.add_sub_cancel, nI_clamp (by omega), hl]
        exact h3 c.1 c.2 (by omega) _ sb' (hS.snoc (by omega) c.1 c.2 hT.2.2.1 g1 g2)
      | succ e ih =>
        intro k sb' hk g1 g2
        refine ⟨fun c => absurd (by rw [hl] at c; exact c) (nI_ge (by omega) (by omega)), fun _ => ?_⟩
        rw [i40, nI_clamp (show k < 2 ^ 31 by omega), nI_clamp (show 40 * ss.length + k < 2 ^ 31 by omega), hT.2.2.2 k (by omega)]
        refine ⟨vp_in_nI (by omega) (by omega), vp_in_nI (by omega) (by omega), fun y hy => ?_⟩
        subst hy
        rw [show nI k + 1 = nI (k + 1) from nI_1 k]
        refine ih (k + 1) _ (by omega) (fun j hj => ?_) (fun j hj => ?_)
        · by_cases e2 : j = k
          · subst e2; exact pk_us
          · rw [pk_un (by omega)]; exact g1 j (by omega)
        · rw [pk_un (by omega)]; exact g2 j hj
    exact ⟨_, key xs.length 0 sb (by omega) (fun j hj => absurd hj (Nat.not_lt_zero j)) (fun _ _ => rfl)⟩
  · rw [hl, Rg_nI (by omega)] at c
    rw [show (8 : Int32) = nI 8 from rfl, nI_eq (by omega) (by decide)] at q
    exact h2 c.1 c.2 q
/-- the reference's IDs -/
def MId (idOf : Nat → Int32) (ids : Nat → Nat) : Prop := ∀ d, d < 6 → idOf d = nI (ids d) ∧ ids d < 256
/-- the dictionary with this number is there -/
def Thr (ids : Nat → Nat) (x : Int32) (d : Nat) : Prop := d < 6 ∧ x = nI d ∧ ids d ≠ 0
theorem sX7_isThere {idOf : Nat → Int32} {ids : Nat → Nat} (h : MId idOf ids) {x : Int32} {post : Int32 → Prop} (h1 : ∀ d, Thr ids x d → post 1) (h0 : (∀ d, ¬ Thr ids x d) → post 0) : wX7_isThere idOf x post := by
  refine sX7_inR (a' := 0) (b' := 5) rfl rfl (fun c => ⟨fun q => absurd q (by decide), fun _ => ?_⟩) (fun c => ⟨fun _ => h0 fun d z => c ?_, fun q => absurd rfl q⟩)
  · obtain ⟨d, -, b, e⟩ := c.nI (by decide)
    subst e
    obtain ⟨e1, e2⟩ := h d (by omega)
    rw [nI_clamp (by omega), e1, show (0 : Int32) = nI 0 from rfl, nI_leI (by omega) (by decide)]
    refine ⟨vp_in_nI (by omega) (by decide), fun q => h0 fun d' z => ?_, fun q => h1 d ⟨by omega, rfl, by omega⟩⟩
    obtain ⟨z1, z2, z3⟩ := z
    rw [nI_eq (by omega) (by omega)] at z2
    subst z2
    omega
  · obtain ⟨z1, z2, z3⟩ := z
    rw [z2, Rg_nI (by omega)]
    omega
theorem Thr.un {ids : Nat → Nat} {x : Int32} {d d' : Nat} (h : Thr ids x d) (h' : Thr ids x d') : d = d' := by
  obtain ⟨a, b, c⟩ := h
  obtain ⟨a', b', c'⟩ := h'
  rw [b, nI_eq (by omega) (by omega)] at b'
  exact b'
theorem sX7_sumOf {bytesOf dict : Nat → Int32} {d : Nat} {bs : List Nat} (hd : d < 6) (hb : bytesOf d = nI bs.length) (hl : bs.length ≤ 80) (h256 : ∀ x ∈ bs, x < 256) (hdict : ∀ k, k < bs.length → dict (80 * d + k) = nI (bs.getD k 0)) {post : Int32 → Prop} (hp : post (nI (sumN bs))) : wX7_sumOf bytesOf dict (nI d) post := by
  have key : ∀ e i, i + e = bs.length → wX7_sumOf_7 bytesOf dict (nI d) (fun y1 y2 _ => post ((256 * y2) + y1)) (e + 1) (nI (adl (bs.take i)).1) (nI (adl (bs.take i)).2) (nI i) := by
    intro e
    induction e with
    | zero =>
      intro i hi
      have : i = bs.length := by omega
      subst this
      rw [List.take_length]
      refine ⟨vp_in_nI hd (by omega), fun _ => ?_, fun c => absurd (by rw [nI_clamp (by omega), hb]; exact nI_le (Nat.le_refl _) (by omega)) c⟩
      show post ((256 * nI (adl bs).2) + nI (adl bs).1)
      rw [show (256 : Int32) = nI 256 from rfl, pk_mul, nI_add]
      exact hp
    | succ e ih =>
      intro i hi
      refine ⟨vp_in_nI hd (by omega), fun c => absurd (by rw [nI_clamp (by omega), hb] at c; exact c) (nI_ge (by omega) (by omega)), fun _ => ?_⟩
      rw [i80, nI_clamp (by omega), hdict i (by omega)]
      refine ⟨vp_in_nI (by omega) (by omega), fun y6 h6 y7 h7 y8 h8 => ?_⟩
      have ha := adl_lt (bs.take i)
      have hx := getD_lt256 h256 i
      rw [rem251 ha.1 hx] at h6
      rw [h6, rem251 ha.2 (by have := Nat.mod_lt ((adl (bs.take i)).1 + bs.getD i 0) (show 251 > 0 by decide); omega)] at h7
      rw [h8, h7, h6, nI_1]
      have := ih (i + 1) (by omega)
      rw [take_snoc (by omega), adl_snoc] at this
      exact this
  exact ⟨bs.length + 1, key bs.length 0 (by omega)⟩
theorem MD.sum {pieces pieceLong bytesOf dict : Nat → Int32} {d n c : Nat} {bs : List Nat} (hd : d < 6) (h : MD pieces pieceLong bytesOf dict d n c bs) {post : Int32 → Prop} (hp : post (nI (sumN bs))) : wX7_sumOf bytesOf dict (nI d) post := by
  obtain ⟨h1, h2, h3, h4, h5, h6, h7, h8, h9⟩ := h
  exact sX7_sumOf hd h2 h4 h7 h8 hp
theorem sX7_told {idOf pieces pieceLong bytesOf dict : Nat → Int32} {d i n c : Nat} {bs : List Nat} (hd : d < 6) {p2 : Int32} {ids : Nat → Nat} (hI : MId idOf ids) (hi : ids d = i) (hi0 : i ≠ 0) (h : MD pieces pieceLong bytesOf dict d n c bs) {post : Int32 → Int32 → Prop}
    (h0 : p2 = 0 → post (nI i) 0) (h1 : p2 = 1 → post (nI c) 0) (h2 : p2 = 2 → post (nI bs.length) 0) (h3 : p2 = 3 → post (nI (sumN bs)) 0) (h4 : ∀ k, k < c → p2 = nI (10 + k) → post (nI n) 0) (h5 : ¬ p2 = 0 → ¬ p2 = 1 → ¬ p2 = 2 → ¬ p2 = 3 → (∀ k, k < c → ¬ p2 = nI (10 + k)) → post (-102) 0) : wX7_told idOf pieces pieceLong bytesOf dict (nI d) p2 post := by
  obtain ⟨g1, g2, g3, g4, g5, g6, g7, g8, g9⟩ := id h
  refine sX7_isThere hI (fun d' z => ⟨fun _ => ?_, fun q => absurd q (by decide)⟩) (fun z => absurd ⟨hd, rfl, by omega⟩ (z d))
  rw [nI_clamp (by omega), (hI d hd).1, hi, g1, g2]
  have hv := vp_in_nI hd (show (6 : Nat) < 2 ^ 31 by decide)
  refine ⟨fun q => ⟨hv, h0 q⟩, fun q0 => ⟨fun q => ⟨hv, h1 q⟩, fun q1 => ⟨fun q => ⟨hv, h2 q⟩, fun q2 => ⟨fun q => h.sum hd (h3 q), fun q3 => ⟨hv, ?_⟩⟩⟩⟩⟩
  rw [show (9 : Int32) = nI 9 from rfl, nI_add]
  have e : ((nI (9 + c)).toInt64).toInt = ((9 + c : Nat) : Int) := by rw [Int32.toInt_toInt64, nI_toInt (by omega)]
  refine sX7_inR (a' := 10) (b' := 9 + c) rfl e (fun q => ⟨fun z => absurd z (by decide), fun _ => ?_⟩) (fun q => ⟨fun _ => h5 q0 q1 q2 q3 fun k hk z => q (by rw [z, Rg_nI (by omega)]; omega), fun z => absurd rfl z⟩)
  obtain ⟨k, a, b, ek⟩ := q.nI (by omega)
  rw [ek, show (10 : Int32) = nI 10 from rfl, i80, pk_sub (by omega), nI_clamp (by omega)]
  refine ⟨vp_in_nI (by omega) (by omega), ?_⟩
  rw [show 80 * d + k - 10 = 80 * d + (k - 10) by omega, g9 (k - 10) (by omega)]
  exact h4 (k - 10) (by omega) (by rw [ek, show 10 + (k - 10) = k by omega])
theorem sX7_told0 {idOf pieces pieceLong bytesOf dict : Nat → Int32} {p1 p2 : Int32} {ids : Nat → Nat} (hI : MId idOf ids) (h : ∀ d, ¬ Thr ids p1 d) {post : Int32 → Int32 → Prop} (hp : post (-101) 0) : wX7_told idOf pieces pieceLong bytesOf dict p1 p2 post :=
  sX7_isThere hI (fun d' z => absurd z (h d')) (fun _ => ⟨fun q => absurd rfl q, fun _ => hp⟩)
theorem sX7_drop {idOf pieces : Nat → Int32} {p1 : Int32} {ids : Nat → Nat} (hI : MId idOf ids) {post : Int32 → Int32 → (Nat → Int32) → Prop} (h1 : ∀ d, Thr ids p1 d → post (pieces d) 0 (upd idOf d 0)) (h0 : (∀ d, ¬ Thr ids p1 d) → post (-101) 0 idOf) : wX7_drop idOf pieces p1 post := by
  refine sX7_isThere hI (fun d z => ⟨fun _ => ?_, fun q => absurd q (by decide)⟩) (fun z => ⟨fun q => absurd rfl q, fun _ => h0 z⟩)
  obtain ⟨z1, z2, z3⟩ := id z
  subst z2
  have := h1 d z
  rw [nI_clamp (by omega)]
  exact ⟨vp_in_nI z1 (by decide), vp_in_nI z1 (by decide), this⟩
theorem sX7_content {idOf pieces pieceLong bytesOf dict : Nat → Int32} {p1 p2 : Int32} {ids : Nat → Nat} {ns cs : Nat → Nat} {bss : Nat → List Nat} (hI : MId idOf ids) (h : ∀ d, d < 6 → MD pieces pieceLong bytesOf dict d (ns d) (cs d) (bss d)) {post : Int32 → Int32 → Prop}
    (h2 : ¬ Rg p1 0 5 → post 0 2) (h1 : ∀ d, d < 6 → p1 = nI d → ids d = 0 → post 0 1) (h3 : ∀ d, Thr ids p1 d → (∀ k, k < (bss d).length → ¬ p2 = nI k) → post 0 2) (h0 : ∀ d, Thr ids p1 d → ∀ k, k < (bss d).length → p2 = nI k → post (sb_b ((bss d).getD k 0)) 0) : wX7_content idOf bytesOf dict p1 p2 post := by
  refine sX7_inR (a' := 0) (b' := 5) rfl rfl (fun c => ⟨fun _ => ?_, fun q => absurd q (by decide)⟩) (fun c => ⟨fun q => absurd rfl q, fun _ => h2 c⟩)
  obtain ⟨d, -, b, e⟩ := c.nI (by decide)
  subst e
  obtain ⟨e1, e2⟩ := hI d (by omega)
  obtain ⟨g1, g2, g3, g4, g5, g6, g7, g8, g9⟩ := h d (by omega)
  have hv := vp_in_nI (show d < 6 by omega) (show (6 : Nat) < 2 ^ 31 by decide)
  rw [nI_clamp (by omega), e1, g2, show (0 : Int32) = nI 0 from rfl, nI_eq (by omega) (by decide)]
  refine ⟨hv, fun q => ⟨hv, ?_⟩, fun q => h1 d (by omega) rfl q⟩
  have hT : Thr ids (nI d) d := ⟨by omega, rfl, q⟩
  refine sX7_inM (by omega) (fun k hk ek => ⟨fun z => absurd z (by decide), fun _ => ?_⟩) (fun z => ⟨fun _ => h3 d hT z, fun z => absurd rfl z⟩)
  have hb := getD_lt256 g7 k
  rw [ek, i80, nI_clamp (by omega), g8 k hk, sb_bN, bN_nI (by omega), Nat.mod_eq_of_lt hb]
  exact ⟨vp_in_nI (by omega) (by omega), pk_nb _, h0 d hT k hk ek⟩
theorem sX7_out {out : Nat → Int32} {om p1 : Int32} {xs : List Nat} (h : MO out om xs) {post : Int32 → Int32 → Prop} (h1 : (∀ k, k < xs.length → ¬ p1 = nI k) → post 0 1) (h0 : ∀ k, k < xs.length → p1 = nI k → post (nI (xs.getD k 0)) 0) : wX7_out om out p1 post := by
  obtain ⟨e1, e2, e3⟩ := h
  subst e1
  refine sX7_inM (by omega) (fun k hk ek => ⟨fun z => absurd z (by decide), fun _ => ?_⟩) (fun z => ⟨fun _ => h1 z, fun z => absurd rfl z⟩)
  rw [ek, nI_clamp (by omega), e3 k hk]
  exact ⟨vp_in_nI (by omega) (by omega), h0 k hk ek⟩
theorem sX7_text {f : Nat → Int32} {len p1 : Int32} {xs : List Nat} (h : MT 200 f len xs) {post : Int32 → Int32 → Prop} (h1 : (∀ k, k < xs.length → ¬ p1 = nI k) → post 0 1) (h0 : ∀ k, k < xs.length → p1 = nI k → post (nI (xs.getD k 0)) 0) : wX7_text len f p1 post := by
  obtain ⟨e1, e2, e4, e3⟩ := h
  subst e1
  refine sX7_inM (by omega) (fun k hk ek => ⟨fun z => absurd z (by decide), fun _ => ?_⟩) (fun z => ⟨fun _ => h1 z, fun z => absurd rfl z⟩)
  rw [ek, nI_clamp (by omega), e3 k hk]
  exact ⟨vp_in_nI (by omega) (by omega), h0 k hk ek⟩
/-- the first of the six with this ID -/
def fst6 (ids : Nat → Nat) (i : Nat) : Nat → Nat → Option Nat
  | 0, _ => none
  | f + 1, d => if ids d = i then some d else fst6 ids i f (d + 1)
theorem sX7_firstWith {idOf : Nat → Int32} {ids : Nat → Nat} (hI : MId idOf ids) {i : Nat} (hi : i < 256) {post : Int32 → Prop} (hp : post (optI (fst6 ids i 6 0))) : wX7_firstWith idOf (nI i) post := by
  have key : ∀ f d, d + f = 6 → post (optI (fst6 ids i f d)) → wX7_firstWith_2 idOf (nI i) post (fun _ => post (-1)) (f + 1) (nI d) := by
    intro f
    induction f with
    | zero =>
      intro d hd hq
      have : d = 6 := by omega
      subst this
      exact ⟨fun _ => hq, fun c => absurd (by decide) c⟩
    | succ f ih =>
      intro d hd hq
      obtain ⟨e1, e2⟩ := hI d (by omega)
      refine ⟨fun c => absurd (by rw [show (6 : Int32) = nI 6 from rfl, nI_leI (by decide) (by omega)] at c; exact c) (by omega), fun _ => ⟨vp_in_nI (by omega) (by omega), ?_⟩⟩
      rw [nI_clamp (by omega), e1, nI_eq (by omega) (by omega)]
      have hf : fst6 ids i (f + 1) d = if ids d = i then some d else fst6 ids i f (d + 1) := rfl
      rw [hf] at hq
      refine ⟨fun q y hy => ?_, fun q => ?_⟩
      · rw [if_neg q] at hq
        rw [hy, nI_1]
        exact ih (d + 1) (by omega) hq
      · rw [if_pos q] at hq
        exact hq
  exact ⟨_, key 6 0 rfl hp⟩
theorem fst6_lt {ids : Nat → Nat} {i : Nat} : ∀ (f d k : Nat), fst6 ids i f d = some k → d ≤ k ∧ k < d + f ∧ ids k = i := by
  intro f
  induction f with
  | zero => intro d k h; cases h
  | succ f ih =>
    intro d k h
    have hf : fst6 ids i (f + 1) d = if ids d = i then some d else fst6 ids i f (d + 1) := rfl
    rw [hf] at h
    split at h
    · rename_i q; cases h; exact ⟨by omega, by omega, q⟩
    · obtain ⟨a, b, c⟩ := ih (d + 1) k h; exact ⟨by omega, by omega, c⟩
/-- how many are there -/
def cnt6 (ids : Nat → Nat) : Nat → Nat
  | 0 => 0
  | d + 1 => cnt6 ids d + (if ids d = 0 then 0 else 1)
theorem cnt6_le (ids : Nat → Nat) : ∀ d, cnt6 ids d ≤ d
  | 0 => Nat.le_refl 0
  | d + 1 => by
    have := cnt6_le ids d
    show cnt6 ids d + (if ids d = 0 then 0 else 1) ≤ d + 1
    split <;> omega
