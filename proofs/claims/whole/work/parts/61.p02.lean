/-! PURE: dictionaries and output -/
theorem sX4_hasRoom {cap : Nat} {f : Nat → Int32} {len : Int32} {xs : List Nat} (h : RR cap f len xs) {n : Nat} (hn : n < 100000) {post : Int32 → Prop} (h1 : xs.length + n ≤ cap → post 1) (h0 : ¬ (xs.length + n ≤ cap) → post 0) : wX4_hasRoom cap len (nI n) post := by
  obtain ⟨hl, hc, hcap, -, -⟩ := h
  subst hl
  unfold wX4_hasRoom
  rw [pk_sub hc]
  refine ⟨fun c => h0 ?_, fun c => h1 ?_⟩
  · rw [nI_ltI (by omega) (by omega)] at c; omega
  · rw [nI_ltI (by omega) (by omega)] at c; omega
theorem sX0_addPiece {cap cap2 : Nat} {f g : Nat → Int32} {len len2 : Int32} {xs ys : List Nat} (h : RR cap f len xs) (h2 : RR cap2 g len2 ys) {n c fr : Nat} (hn : 0 < n) (hn2 : n < 100000) (hfit : xs.length + n ≤ cap) (hy : fr + n ≤ ys.length) {post : Int32 → Int32 → (Nat → Int32) → Prop} (hp : ∀ f' len', RR cap f' len' (xs ++ (ys.drop fr).take n) → post (nI (c + 1)) len' f') : wX0_addPiece cap cap2 (nI n) (nI c) len f len2 g (nI fr) post := by
  refine ⟨fun q => absurd q (nI_nle hn (by omega)), fun _ => sX4_hasRoom h hn2 (fun _ => ⟨fun q => absurd q (by decide), fun _ => ?_⟩) (fun q => absurd hfit q)⟩
  refine sX4_addFrom h h2 (by have := h2.2.1; have := h2.2.2.1; omega) fun f' len' hr y hy6 => ?_
  rw [hy6, nI_1]
  rw [range_getD_drop hy, appC_fit (by rw [List.length_take, List.length_drop]; omega)] at hr
  exact hp f' len' hr
theorem sX0_addPiece0 {cap cap2 : Nat} {f g : Nat → Int32} {len len2 pc p2 : Int32} {post : Int32 → Int32 → (Nat → Int32) → Prop} (hp : post pc len f) : wX0_addPiece cap cap2 (nI 0) pc len f len2 g p2 post :=
  ⟨fun _ => hp, fun q => absurd (by decide) q⟩
theorem sX0_sum {cap : Nat} {f : Nat → Int32} {len : Int32} {xs : List Nat} (h : RR cap f len xs) {i : Nat} (hi : i < 2 ^ 31) {post : Int32 → Prop} (hp : post (nI (if i = 0 then 0 else sumN xs))) : wX0_sum cap (nI i) len f post := by
  refine ⟨fun q => sX4_sum h ?_, fun q => ?_⟩
  · rw [if_neg (fun z => q (by rw [z]; rfl))] at hp; exact hp
  · rw [if_pos ((nI_eq hi (by decide)).mp (q.trans nI_0.symm))] at hp; exact hp
theorem sX0_begin {i n : Int32} {post : Int32 → Int32 → Int32 → Int32 → Prop} (hp : post n 0 i 0) : wX0_begin i n post := hp
theorem sX0_copyWithout {cap cap2 : Nat} {f g : Nat → Int32} {len : Int32} {xs : List Nat} (h : RR cap f len xs) (hcap2 : cap2 < 100000) (hfit : xs.length ≤ cap2) {n k : Nat} (hk : k * n + n ≤ xs.length) {post : Int32 → (Nat → Int32) → Prop} (hp : ∀ f' len', RR cap2 f' len' (xs.take (k * n) ++ xs.drop (k * n + n)) → post len' f') : wX0_copyWithout cap cap2 (nI n) len f g (nI k) post := by
  refine sX4_become hcap2 h hfit fun f' len' hr => ?_
  rw [pk_mul]
  exact sX4_cutOut hr hk hp
theorem sX0_removePiece {cap : Nat} {f : Nat → Int32} {len : Int32} {xs : List Nat} (h : RR cap f len xs) {n k c : Nat} (hc : c < 100000) (hkc : k < c) (hk : k * n + n ≤ xs.length) {post : Int32 → Int32 → (Nat → Int32) → Prop} (hp : ∀ f' len', RR cap f' len' (xs.take (k * n) ++ xs.drop (k * n + n)) → post (nI (c - 1)) len' f') : wX0_removePiece cap (nI n) (nI c) len f (nI k) post := by
  refine ⟨fun q => absurd q (nI_pos (by omega)), fun _ => ⟨fun q => absurd q (nI_ge hkc (by omega)), fun _ => ?_⟩⟩
  rw [pk_mul]
  refine sX4_cutOut h hk fun f' len' hr y hy => ?_
  rw [hy, show (1 : Int32) = nI 1 from rfl, pk_sub (by omega)]
  exact hp f' len' hr
theorem RR.add {cap : Nat} {xs : List Nat} {f : Nat → Int32} {len : Int32} (h : RR cap f len xs) (hlt : xs.length < cap) {v : Int32} {b : Nat} (hb : bN v = b) {post : Int32 → (Nat → Int32) → Prop} (hp : ∀ f' len', RR cap f' len' (xs ++ [b]) → post len' f') : wX4_add cap len f v post := by
  subst hb
  refine sX4_add h fun f' len' hr => ?_
  rw [if_pos hlt] at hr
  exact hp f' len' hr
theorem shr8 {a : Nat} (h : a < 2 ^ 31) : nI a >>> ((8 : Int32) &&& 31) = nI (a / 256) := pk_shrN h ((8 : Int32) &&& 31) 8 (by decide)
theorem sX2_begin {cap cap2 : Nat} {f g : Nat → Int32} {len2 : Int32} {bs : List Nat} (hcap : 4 ≤ cap) (hcap3 : cap < 100000) (h2 : RR cap2 g len2 bs) {i tl : Nat} (hi : i < 256) (htl : tl < 256) {post : Int32 → Int32 → Int32 → (Nat → Int32) → Prop} (hp : ∀ f' len', RR cap f' len' [i, (if i = 0 then 0 else sumN bs) / 256, (if i = 0 then 0 else sumN bs) % 256, tl] → post 0 0 len' f') : wX2_begin cap cap2 f (nI i) len2 g (nI tl) post := by
  have hs : (if i = 0 then 0 else sumN bs) < 65536 := by
    split
    · decide
    · exact sumN_lt bs
  unfold wX2_begin wX4_clear wX0_id
  refine RR.add (v := nI i) (b := i) (RR.nil f hcap3) (by simp; omega) (by rw [bN_nI (by omega)]; omega) fun f1 l1 h1 => ?_
  refine sX0_sum h2 (by omega) ?_
  rw [shr8 (by omega)]
  refine RR.add (b := (if i = 0 then 0 else sumN bs) / 256) h1 (by simp; omega) (by rw [bN_nI (by omega)]; omega) fun f2 l2 h3 => ?_
  refine sX0_sum h2 (by omega) ?_
  refine RR.add (b := (if i = 0 then 0 else sumN bs) % 256) h3 (by simp; omega) (by rw [bN_nI (by omega)]) fun f3 l3 h4 => ?_
  exact RR.add (b := tl) h4 (by simp; omega) (by rw [bN_nI (by omega)]; omega) fun f5 l5 h5 => hp f5 l5 h5
theorem sX2_addMatch {cap : Nat} {f : Nat → Int32} {len : Int32} {xs : List Nat} (h : RR cap f len xs) (hfit : xs.length + 2 ≤ cap) {n d it mt : Nat} (hn : 3 ≤ n) (hn9 : n ≤ 9) (hd : 1 ≤ d) (hd2 : d ≤ 512) {post : Int32 → Int32 → Int32 → (Nat → Int32) → Prop} (hp : ∀ f' len', RR cap f' len' (xs ++ [(n - 2) * 32 + (d - 1) / 256, (d - 1) % 256]) → post (nI (it + 1)) (nI (mt + 1)) len' f') : wX2_addMatch cap (nI it) (nI mt) len f (nI n) (nI d) post := by
  unfold wX2_addMatch
  rw [show (2 : Int32) = nI 2 from rfl, show (1 : Int32) = nI 1 from rfl, show (32 : Int32) = nI 32 from rfl, show (256 : Int32) = nI 256 from rfl, pk_sub (by omega), pk_sub (by omega), pk_mul, pk_rem (by omega) (by decide) (by decide), pk_div (by omega) (by decide) (by decide), nI_add]
  refine RR.add (b := (n - 2) * 32 + (d - 1) / 256) h (by omega) (by rw [bN_nI (by omega)]; omega) fun f1 l1 h1 => ?_
  refine RR.add (b := (d - 1) % 256) h1 (by rw [List.length_append, List.length_singleton]; omega) (by rw [bN_nI (by omega)]; omega) fun f2 l2 h3 y5 h5 y6 h6 => ?_
  rw [h5, h6, nI_add, nI_add]
  rw [List.append_assoc] at h3
  exact hp f2 l2 h3
/-- the array holds the bytes of the list -/
def JJ (f : Nat → Int32) (row : List Nat) : Prop := (∀ x ∈ row, x < 256) ∧ ∀ j, j < row.length → f j = sb_b (row.getD j 0)
theorem sX2_addPlain {cap cap2 : Nat} {f g : Nat → Int32} {len : Int32} {xs row : List Nat} (h : RR cap f len xs) (hJ : JJ g row) (hrow : row.length ≤ cap2) (hc2 : cap2 < 100000) {fr n it : Nat} (hn : 1 ≤ n) (hn2 : n ≤ 32) (hfr : fr + n ≤ row.length) (hfit : xs.length + n + 1 ≤ cap) {post : Int32 → Int32 → (Nat → Int32) → Prop} (hp : ∀ f' len', RR cap f' len' (xs ++ (n - 1) :: (row.drop fr).take n) → post (nI (it + 1)) len' f') : wX2_addPlain cap cap2 (nI it) len f g (nI fr) (nI n) post := by
  unfold wX2_addPlain
  rw [show (1 : Int32) = nI 1 from rfl, pk_sub hn]
  refine RR.add (b := n - 1) h (by omega) (by rw [bN_nI (by omega)]; omega) fun f1 l1 h1 => ?_
  have key : ∀ d i f' len', i + d = n → RR cap f' len' ((xs ++ [n - 1]) ++ (row.drop fr).take i) → wX2_addPlain_13 cap cap2 g (nI fr) (nI n) (fun s3 s4 _ => ∀ y12 : Int32, y12 = nI it + nI 1 → post y12 s3 s4) (d + 1) len' f' (nI (fr + i)) := by
    intro d
    induction d with
    | zero =>
      intro i f' len' hi hr
      have : i = n := by omega
      subst this
      refine ⟨fun _ y hy => ?_, fun c => absurd (by rw [nI_add]; exact nI_le (Nat.le_refl _) (by omega)) c⟩
      rw [hy, nI_add]
      rw [List.append_assoc] at hr
      exact hp f' len' hr
    | succ d ih =>
      intro i f' len' hi hr
      refine ⟨fun c => absurd (by rw [nI_add] at c; exact c) (nI_ge (by omega) (by omega)), fun _ => ⟨fun c => absurd c (nI_ge (by omega) (by omega)), fun _ => ⟨vp_in_nI (by omega) (by omega), ?_⟩⟩⟩
      rw [nI_clamp (by omega), hJ.2 _ (by omega)]
      have hb : row.getD (fr + i) 0 < 256 := getD_lt256 hJ.1 _
      refine RR.add (b := row.getD (fr + i) 0) hr (by rw [List.length_append, List.length_append, List.length_singleton, List.length_take, List.length_drop]; omega) (bN_sb hb) fun f2 l2 h3 y hy => ?_
      rw [hy, nI_1]
      refine ih (i + 1) f2 l2 (by omega) ?_
      rw [take_snoc (by rw [List.length_drop]; omega), ← List.append_assoc]
      have : (row.drop fr).getD i 0 = row.getD (fr + i) 0 := by
        rw [List.getD_eq_getElem?_getD, List.getD_eq_getElem?_getD, List.getElem?_drop]
      rw [this]
      exact h3
  exact ⟨n + 1, key n 0 f1 l1 (by omega) (by simpa using h1)⟩
