/-! PURE: rows of bytes -/
/-- the low byte -/
def bN (x : Int32) : Nat := x.toBitVec.toNat % 256
theorem bN_lt (x : Int32) : bN x < 256 := Nat.mod_lt _ (by decide)
theorem sb_bN (x : Int32) : x.toInt8.toInt32 = sb_b (bN x) := by
  unfold sb_b bN
  congr 1
  apply Int8.toBitVec_inj.mp
  rw [Int32.toBitVec_toInt8, Int32.toBitVec_toInt8]
  apply BitVec.eq_of_toNat_eq
  rw [BitVec.signExtend_eq_setWidth_of_le _ (by decide), BitVec.signExtend_eq_setWidth_of_le _ (by decide), BitVec.toNat_setWidth, BitVec.toNat_setWidth, pk_tn (by have := Nat.mod_lt x.toBitVec.toNat (show 256 > 0 by decide); omega)]
  omega
theorem sb_idem (c : Nat) : (sb_b c).toInt8.toInt32 = sb_b c := by
  unfold sb_b
  simp
theorem sb_0 : sb_b 0 = 0 := by decide
theorem bN_sb {c : Nat} (h : c < 256) : bN (sb_b c) = c := by
  have h1 := (sb_byte c h).1
  have h2 := pk_and (sb_b c) (m := 255) 8 (by decide)
  rw [h1] at h2
  have h3 := congrArg (fun z : Int32 => z.toNatClampNeg) h2
  rw [nI_clamp (by omega), nI_clamp (by have := Nat.mod_lt (sb_b c).toBitVec.toNat (show 2 ^ 8 > 0 by decide); omega)] at h3
  exact h3.symm
theorem nar_sb (c : Nat) : vp_nar .byte (sb_b c) = sb_b c := by rw [vp_nar_byte, sb_idem]
theorem bN_nI {c : Nat} (h : c < 2 ^ 31) : bN (nI c) = c % 256 := by
  unfold bN
  rw [pk_tn (by omega)]
/-- the row f, len (room for cap) holds the bytes xs -/
def RR (cap : Nat) (f : Nat → Int32) (len : Int32) (xs : List Nat) : Prop :=
  len = nI xs.length ∧ xs.length ≤ cap ∧ cap < 100000 ∧ (∀ x ∈ xs, x < 256) ∧ ∀ j, j < xs.length → f j = sb_b (xs.getD j 0)
theorem RR.nil {cap : Nat} (f : Nat → Int32) (h : cap < 100000) : RR cap f 0 [] := ⟨rfl, Nat.zero_le _, h, by simp, by simp⟩
theorem gD_lt {xs : List Nat} {j : Nat} (h : j < xs.length) : xs.getD j 0 = xs[j]'h := by
  rw [List.getD_eq_getElem?_getD, List.getElem?_eq_getElem h]; rfl
theorem gD_ge {xs : List Nat} {j : Nat} (h : xs.length ≤ j) : xs.getD j 0 = 0 := by
  rw [List.getD_eq_getElem?_getD, List.getElem?_eq_none h]; rfl
theorem getD_lt256 {xs : List Nat} (h : ∀ x ∈ xs, x < 256) (j : Nat) : xs.getD j 0 < 256 := by
  by_cases hj : j < xs.length
  · rw [gD_lt hj]; exact h _ (List.getElem_mem hj)
  · rw [gD_ge (by omega)]; decide
theorem getD_app_lt {xs ys : List Nat} {j : Nat} (h : j < xs.length) : (xs ++ ys).getD j 0 = xs.getD j 0 := by
  rw [List.getD_eq_getElem?_getD, List.getD_eq_getElem?_getD, List.getElem?_append_left h]
theorem getD_app_ge {xs ys : List Nat} {j : Nat} (h : xs.length ≤ j) : (xs ++ ys).getD j 0 = ys.getD (j - xs.length) 0 := by
  rw [List.getD_eq_getElem?_getD, List.getD_eq_getElem?_getD, List.getElem?_append_right h]
theorem sX4_has {len : Int32} {i : Int32} {post : Int32 → Prop} (h1 : (0 ≤ i ∧ i < len) → post 1) (h0 : ¬ (0 ≤ i ∧ i < len) → post 0) : wX4_has len i post := by
  refine ⟨fun c => h0 fun q => ?_, fun c => ⟨fun c2 => h0 fun q => ?_, fun c2 => h1 ⟨?_, ?_⟩⟩⟩
  · exact absurd q.1 (Int32.not_le.mpr c)
  · exact absurd q.2 (Int32.not_lt.mpr c2)
  · exact Int32.not_lt.mp c
  · exact Int32.not_le.mp c2
theorem sX4_signedAt {cap : Nat} {f : Nat → Int32} {len : Int32} {xs : List Nat} (h : RR cap f len xs) {i : Int32} {post : Int32 → Prop} (h1 : ∀ k, k < xs.length → i = nI k → post (sb_b (xs.getD k 0))) (h0 : ¬ (0 ≤ i ∧ i < len) → post 0) : wX4_signedAt cap len f i post := by
  obtain ⟨hl, hc, hcap, hb, hf⟩ := h
  refine sX4_has (fun q => ⟨fun z => absurd z (by decide), fun _ => ?_⟩) (fun q => ⟨fun _ => h0 q, fun z => absurd rfl z⟩)
  obtain ⟨k, hk, rfl⟩ := nI_of (x := i) (Int32.not_lt.mpr q.1)
  have hkl : k < xs.length := by
    have := q.2
    rw [hl, nI_ltI hk (by omega)] at this
    exact this
  rw [nI_clamp hk, hf k hkl]
  exact ⟨vp_in_nI (by omega) (by omega), pk_nb _, h1 k hkl rfl⟩
theorem sX4_signedAtN {cap : Nat} {f : Nat → Int32} {len : Int32} {xs : List Nat} (h : RR cap f len xs) {k : Nat} (hk : k < 2 ^ 31) {post : Int32 → Prop} (h1 : post (sb_b (xs.getD k 0))) : wX4_signedAt cap len f (nI k) post := by
  refine sX4_signedAt h (fun j hj e => ?_) (fun q => ?_)
  · obtain ⟨_, hc, hcap, _⟩ := h
    rw [(nI_eq hk (by omega)).mp e] at h1
    exact h1
  · obtain ⟨hl, hc, hcap, _⟩ := h
    have : ¬ k < xs.length := fun z => q ⟨nI_pos' hk, by rw [hl]; exact nI_lt z (by omega)⟩
    rw [gD_ge (by omega), sb_0] at h1
    exact h1
theorem sX4_atN {cap : Nat} {f : Nat → Int32} {len : Int32} {xs : List Nat} (h : RR cap f len xs) {k : Nat} (hk : k < 2 ^ 31) {post : Int32 → Prop} (h1 : post (nI (xs.getD k 0))) : wX4_at cap len f (nI k) post := by
  refine sX4_signedAtN h hk ?_
  rw [(sb_byte _ (getD_lt256 h.2.2.2.1 k)).1]
  exact h1
theorem sX4_add {cap : Nat} {f : Nat → Int32} {len : Int32} {xs : List Nat} (h : RR cap f len xs) {v : Int32} {post : Int32 → (Nat → Int32) → Prop} (hp : ∀ f' len', RR cap f' len' (if xs.length < cap then xs ++ [bN v] else xs) → post len' f') : wX4_add cap len f v post := by
  obtain ⟨hl, hc, hcap, hb, hf⟩ := id h
  subst hl
  refine ⟨fun c => ?_, fun c => ?_⟩
  · rw [nI_leI (by omega) (by omega)] at c
    rw [if_neg (by omega)] at hp
    exact hp _ _ h
  · rw [nI_leI (by omega) (by omega)] at c
    rw [if_pos (by omega)] at hp
    refine ⟨vp_in_nI (by omega) (by omega), fun y hy => hp _ _ ⟨?_, ?_, hcap, ?_, fun j hj => ?_⟩⟩
    · rw [hy, nI_1, List.length_append]; rfl
    · rw [List.length_append]; exact Nat.lt_of_not_le c
    · intro x hx
      rcases List.mem_append.mp hx with q | q
      · exact hb x q
      · rw [List.mem_singleton.mp q]; exact bN_lt v
    · rw [nI_clamp (by omega), sb_bN, nar_sb]
      rw [List.length_append, List.length_singleton] at hj
      by_cases hjl : j < xs.length
      · rw [getD_app_lt hjl, pk_un (by omega)]
        exact hf j hjl
      · have : j = xs.length := by omega
        subst this
        rw [pk_us, getD_app_ge (Nat.le_refl _), Nat.sub_self]
        rfl
/-- xs, and behind it as much of ys as there is room for -/
def appC (cap : Nat) (xs ys : List Nat) : List Nat := xs ++ ys.take (cap - xs.length)
theorem appC_fit {cap : Nat} {xs ys : List Nat} (h : xs.length + ys.length ≤ cap) : appC cap xs ys = xs ++ ys := by
  unfold appC; rw [List.take_of_length_le (by omega)]
theorem appC_snoc {cap : Nat} {xs ys : List Nat} {x : Nat} (h : xs.length ≤ cap) : (if (appC cap xs ys).length < cap then appC cap xs ys ++ [x] else appC cap xs ys) = appC cap xs (ys ++ [x]) := by
  unfold appC
  by_cases h1 : xs.length + ys.length < cap
  · rw [List.take_of_length_le (by omega), List.take_of_length_le (by rw [List.length_append, List.length_singleton]; omega), if_pos (by rw [List.length_append]; omega), List.append_assoc]
  · rw [if_neg (by rw [List.length_append, List.length_take]; omega), List.take_append_of_le_length (by omega)]
theorem range_snoc (n : Nat) (g : Nat → Nat) : (List.range (n + 1)).map g = (List.range n).map g ++ [g n] := by
  rw [List.range_succ, List.map_append]; rfl
theorem sX4_addFrom {cap cap2 : Nat} {f g : Nat → Int32} {len len2 : Int32} {xs ys : List Nat} (h : RR cap f len xs) (h2 : RR cap2 g len2 ys) {fr n : Nat} (hfr : fr + n < 2 ^ 30) {post : Int32 → (Nat → Int32) → Prop} (hp : ∀ f' len', RR cap f' len' (appC cap xs ((List.range n).map fun i => ys.getD (fr + i) 0)) → post len' f') : wX4_addFrom cap cap2 len f len2 g (nI fr) (nI n) post := by
  have key : ∀ d i f' len', i + d = n → RR cap f' len' (appC cap xs ((List.range i).map fun i => ys.getD (fr + i) 0)) → wX4_addFrom_3 cap cap2 len2 g (nI fr) (nI n) (fun s1 s2 _ => post s1 s2) (d + 1) len' f' (nI i) := by
    intro d
    induction d with
    | zero =>
      intro i f' len' hi hr
      have : i = n := by omega
      subst this
      exact ⟨fun _ => hp _ _ hr, fun c => absurd (nI_le (Nat.le_refl i) (by omega)) c⟩
    | succ d ih =>
      intro i f' len' hi hr
      refine ⟨fun c => absurd c (nI_ge (by omega) (by omega)), fun _ => ?_⟩
      rw [nI_add]
      refine sX4_signedAtN h2 (by omega) (sX4_add hr fun f2 l2 hr2 y hy => ?_)
      rw [hy, nI_1]
      refine ih (i + 1) f2 l2 (by omega) ?_
      rw [bN_sb (getD_lt256 h2.2.2.2.1 _), appC_snoc h.2.1] at hr2
      rw [range_snoc i (fun i => ys.getD (fr + i) 0)]
      exact hr2
  refine ⟨n + 1, key n 0 f len (by omega) ?_⟩
  have : appC cap xs ((List.range 0).map fun i => ys.getD (fr + i) 0) = xs := by unfold appC; simp
  rw [this]
  exact h
theorem range_getD (ys : List Nat) : (List.range ys.length).map (fun i => ys.getD (0 + i) 0) = ys := by
  apply List.ext_getElem
  · simp
  · intro i h1 h2
    rw [List.getElem_map, List.getElem_range, Nat.zero_add, gD_lt h2]
theorem range_getD_drop {ys : List Nat} {fr n : Nat} (h : fr + n ≤ ys.length) : (List.range n).map (fun i => ys.getD (fr + i) 0) = (ys.drop fr).take n := by
  apply List.ext_getElem
  · simp; omega
  · intro i h1 h2
    rw [List.length_map, List.length_range] at h1
    rw [List.getElem_map, List.getElem_range, gD_lt (show fr + i < ys.length by omega), List.getElem_take, List.getElem_drop]
theorem sX4_become {cap cap2 : Nat} {f g : Nat → Int32} {len2 : Int32} {ys : List Nat} (hcap : cap < 100000) (h2 : RR cap2 g len2 ys) {post : Int32 → (Nat → Int32) → Prop} (hfit : ys.length ≤ cap) (hp : ∀ f' len', RR cap f' len' ys → post len' f') : wX4_become cap cap2 f len2 g post := by
  show wX4_addFrom _ _ _ _ _ _ _ _ _
  obtain ⟨hl, hc, hcap2, hb, hf⟩ := id h2
  have e : len2 = nI ys.length := hl
  rw [show (0 : Int32) = nI 0 from rfl]
  conv => arg 8; rw [e]
  refine sX4_addFrom (xs := []) (RR.nil f hcap) h2 (by omega) fun f' len' hr => hp f' len' ?_
  rw [range_getD, appC_fit (by simpa using hfit)] at hr
  exact hr
theorem sX4_clear {post : Int32 → Prop} (hp : post 0) : wX4_clear post := hp
theorem sX4_cutOut {cap : Nat} {f : Nat → Int32} {len : Int32} {xs : List Nat} (h : RR cap f len xs) {fr n : Nat} (hfr : fr + n ≤ xs.length) {post : Int32 → (Nat → Int32) → Prop} (hp : ∀ f' len', RR cap f' len' (xs.take fr ++ xs.drop (fr + n)) → post len' f') : wX4_cutOut cap len f (nI fr) (nI n) post := by
  obtain ⟨hl, hc, hcap, hb, hf⟩ := id h
  subst hl
  have key : ∀ d i f' len', i + d = xs.length → fr + n ≤ i → (∀ j, i ≤ j → j < xs.length → f' j = sb_b (xs.getD j 0)) → RR cap f' len' (xs.take fr ++ (xs.take i).drop (fr + n)) → wX4_cutOut_34 cap (nI xs.length) (fun s1 s2 _ => post s1 s2) (d + 1) len' f' (nI i) := by
    intro d
    induction d with
    | zero =>
      intro i f' len' hi hge hk hr
      have : i = xs.length := by omega
      subst this
      rw [List.take_length] at hr
      exact ⟨fun _ => hp _ _ hr, fun c => absurd (nI_le (Nat.le_refl _) (by omega)) c⟩
    | succ d ih =>
      intro i f' len' hi hge hk hr
      refine ⟨fun c => absurd c (nI_ge (by omega) (by omega)), fun _ => ⟨vp_in_nI (by omega) (by omega), ?_⟩⟩
      rw [nI_clamp (by omega), hk i (Nat.le_refl _) (by omega)]
      have hlen : (xs.take fr ++ (xs.take i).drop (fr + n)).length = fr + (i - (fr + n)) := by
        rw [List.length_append, List.length_take, List.length_drop, List.length_take]; omega
      obtain ⟨hl', -⟩ := id hr
      -- the store goes to the place len', which is not beyond i
      refine ⟨fun c => ?_, fun c => ⟨?_, fun y hy => ?_⟩⟩
      · rw [hl', hlen, nI_leI (by omega) (by omega)] at c
        omega
      · rw [hl', hlen]; exact vp_in_nI (by omega) (by omega)
      · intro y2 hy2
        rw [hy2, nI_1]
        have hcl : len'.toNatClampNeg = fr + (i - (fr + n)) := by rw [hl', hlen, nI_clamp (by omega)]
        refine ih (i + 1) _ y (by omega) (by omega) (fun j h1 h2 => ?_) ?_
        · rw [hcl, pk_un (by omega)]
          exact hk j (by omega) h2
        · have hx : xs.take fr ++ (xs.take (i + 1)).drop (fr + n) = (xs.take fr ++ (xs.take i).drop (fr + n)) ++ [xs.getD i 0] := by
            rw [List.append_assoc, List.take_succ_eq_append_getElem (show i < xs.length by omega), List.drop_append_of_le_length (by rw [List.length_take]; omega), gD_lt (show i < xs.length by omega)]
          rw [hx]
          obtain ⟨_, _, _, hb', hf'⟩ := hr
          refine ⟨?_, ?_, hcap, ?_, fun j hj => ?_⟩
          · simp only [hy, hl', nI_1, List.length_append, List.length_singleton]
          · rw [List.length_append, hlen, List.length_singleton]; omega
          · intro x hx
            rcases List.mem_append.mp hx with q | q
            · exact hb' x q
            · rw [List.mem_singleton.mp q]; exact getD_lt256 hb i
          · rw [List.length_append, hlen, List.length_singleton] at hj
            rw [hcl, sb_idem, nar_sb]
            by_cases hjl : j < fr + (i - (fr + n))
            · rw [getD_app_lt (by omega), pk_un (by omega)]
              exact hf' j (by omega)
            · have : j = fr + (i - (fr + n)) := by omega
              subst this
              rw [pk_us, getD_app_ge (by omega), hlen, Nat.sub_self]
              rfl
  refine ⟨fun c => absurd c (nI_pos (by omega)), fun _ => ⟨fun c => absurd c (nI_pos (by omega)), fun _ => ⟨fun _ y hy => ?_, fun c => ?_⟩⟩⟩
  · rw [hy, nI_add]
    refine ⟨xs.length - (fr + n) + 1, key _ (fr + n) f _ (by omega) (Nat.le_refl _) (fun j _ h2 => hf j h2) ⟨?_, ?_, hcap, ?_, fun j hj => ?_⟩⟩
    · congr 1; rw [List.length_append, List.length_take, List.length_drop, List.length_take]; omega
    · rw [List.length_append, List.length_take, List.length_drop, List.length_take]; omega
    · intro x hx
      rcases List.mem_append.mp hx with q | q
      · exact hb x (List.mem_of_mem_take q)
      · exact hb x (List.mem_of_mem_take (List.mem_of_mem_drop q))
    · rw [List.length_append, List.length_take, List.length_drop, List.length_take] at hj
      rw [getD_app_lt (by rw [List.length_take]; omega), hf j (by omega)]
      congr 1
      rw [List.getD_eq_getElem?_getD, List.getD_eq_getElem?_getD, List.getElem?_take_of_lt (by omega)]
  · exact absurd (by rw [nI_add]; exact nI_le hfr (by omega)) c
theorem sX4_copyTo {cap tcap : Nat} {f t : Nat → Int32} {len : Int32} {xs : List Nat} (h : RR cap f len xs) {pl : Nat} (hfit : pl + xs.length ≤ tcap) (ht : tcap < 100000) {post : Int32 → (Nat → Int32) → Prop} (hp : ∀ t', (∀ j, j < pl → t' j = t j) → (∀ j, j < xs.length → t' (pl + j) = sb_b (xs.getD j 0)) → post (nI (pl + xs.length)) t') : wX4_copyTo cap tcap len f t (nI pl) post := by
  obtain ⟨hl, hc, hcap, hb, hf⟩ := id h
  subst hl
  intro y1 h1 y2 h2
  rw [pk_sub (by omega), if_neg (nI_nlt (by omega) (by omega))] at h1
  rw [h1, if_neg (nI_pos (by omega))] at h2
  subst h2
  have key : ∀ d i t', i + d = xs.length → (∀ j, j < pl → t' j = t j) → (∀ j, j < i → t' (pl + j) = sb_b (xs.getD j 0)) → wX4_copyTo_19 cap tcap f (nI pl) (nI xs.length) (fun s3 _ => post (nI pl + nI xs.length) s3) (d + 1) t' (nI i) := by
    intro d
    induction d with
    | zero =>
      intro i t' hi h1 h2
      have : i = xs.length := by omega
      subst this
      refine ⟨fun _ => ?_, fun c => absurd (nI_le (Nat.le_refl _) (by omega)) c⟩
      rw [nI_add]
      exact hp t' h1 h2
    | succ d ih =>
      intro i t' hi h1 h2
      refine ⟨fun c => absurd c (nI_ge (by omega) (by omega)), fun _ => ⟨vp_in_nI (by omega) (by omega), ?_⟩⟩
      rw [nI_add]
      refine ⟨vp_in_nI (by omega) (by omega), fun y hy => ?_⟩
      rw [hy, nI_1, nI_clamp (by omega), nI_clamp (by omega), hf i (by omega), nar_sb]
      refine ih (i + 1) _ (by omega) (fun j hj => ?_) (fun j hj => ?_)
      · rw [pk_un (by omega)]; exact h1 j hj
      · by_cases hji : j = i
        · subst hji; rw [pk_us]
        · rw [pk_un (by omega)]; exact h2 j (by omega)
  exact ⟨xs.length + 1, key xs.length 0 t (by omega) (fun _ _ => rfl) (fun j hj => absurd hj (Nat.not_lt_zero j))⟩
/-- SUM -/
def adl (xs : List Nat) : Nat × Nat := xs.foldl (fun ab x => ((ab.1 + x) % 251, (ab.2 + (ab.1 + x) % 251) % 251)) (1, 0)
theorem adl_snoc (xs : List Nat) (x : Nat) : adl (xs ++ [x]) = (((adl xs).1 + x) % 251, ((adl xs).2 + ((adl xs).1 + x) % 251) % 251) := by
  unfold adl; rw [List.foldl_append]; rfl
theorem adl_lt (xs : List Nat) : (adl xs).1 < 251 ∧ (adl xs).2 < 251 := by
  rcases List.eq_nil_or_concat xs with rfl | ⟨ys, y, rfl⟩
  · exact ⟨by decide, by decide⟩
  · rw [List.concat_eq_append, adl_snoc]
    exact ⟨Nat.mod_lt _ (by decide), Nat.mod_lt _ (by decide)⟩
def sumN (xs : List Nat) : Nat := 256 * (adl xs).2 + (adl xs).1
theorem sumN_lt (xs : List Nat) : sumN xs < 65536 := by
  have := adl_lt xs
  unfold sumN; omega
theorem take_snoc {xs : List Nat} {i : Nat} (h : i < xs.length) : xs.take (i + 1) = xs.take i ++ [xs.getD i 0] := by
  rw [List.take_succ_eq_append_getElem h, gD_lt h]
theorem rem251 {a x : Nat} (ha : a < 251) (hx : x < 256) : (nI a + nI x) - (nI a + nI x) / 251 * 251 = nI ((a + x) % 251) := by
  rw [nI_add, show (251 : Int32) = nI 251 from rfl]
  exact pk_rem (by omega) (by decide) (by decide)
theorem sX4_sum {cap : Nat} {f : Nat → Int32} {len : Int32} {xs : List Nat} (h : RR cap f len xs) {post : Int32 → Prop} (hp : post (nI (sumN xs))) : wX4_sum cap len f post := by
  obtain ⟨hl, hc, hcap, hb, hf⟩ := id h
  have key : ∀ d i, i + d = xs.length → wX4_sum_6 cap len f (fun y1 y2 _ => post ((256 * y2) + y1)) (d + 1) (nI (adl (xs.take i)).1) (nI (adl (xs.take i)).2) (nI i) := by
    intro d
    induction d with
    | zero =>
      intro i hi
      have : i = xs.length := by omega
      subst this
      rw [List.take_length]
      refine ⟨fun _ => ?_, fun c => absurd (by rw [hl]; exact nI_le (Nat.le_refl _) (by omega)) c⟩
      show post ((256 * nI (adl xs).2) + nI (adl xs).1)
      rw [show (256 : Int32) = nI 256 from rfl, pk_mul, nI_add]
      exact hp
    | succ d ih =>
      intro i hi
      refine ⟨fun c => absurd (by rw [hl] at c; exact c) (nI_ge (by omega) (by omega)), fun _ => sX4_atN h (by omega) fun y6 h6 y7 h7 y8 h8 => ?_⟩
      have ha := adl_lt (xs.take i)
      have hx := getD_lt256 hb i
      rw [rem251 ha.1 hx] at h6
      rw [h6, rem251 ha.2 (by have := Nat.mod_lt ((adl (xs.take i)).1 + xs.getD i 0) (show 251 > 0 by decide); omega)] at h7
      rw [h8, h7, h6, nI_1]
      have := ih (i + 1) (by omega)
      rw [take_snoc (by omega), adl_snoc] at this
      exact this
  exact ⟨xs.length + 1, key xs.length 0 (by omega)⟩
