/-! PURE: the items of a packed text; the class's write -/
theorem item_spec (R : Nat → Nat) (A n : Nat) (hn : n ≤ 200) {i : Nat} (hi : i < n) :
    (∃ m, 3 ≤ m ∧ m ≤ LM R (A + i) (min 9 (n - i)) ∧ chF R A n i = (true, m) ∧ cF R A n i = 2 + cF R A n (i + m) ∧ ∀ m', m < m' → m' ≤ LM R (A + i) (min 9 (n - i)) → cF R A n i < 2 + cF R A n (i + m')) ∨
    (∃ k, 1 ≤ k ∧ k ≤ min 32 (n - i) ∧ chF R A n i = (false, k) ∧ cF R A n i = 1 + k + cF R A n (i + k) ∧ (∀ m, 3 ≤ m → m ≤ LM R (A + i) (min 9 (n - i)) → cF R A n i < 2 + cF R A n (i + m)) ∧ ∀ k', k < k' → k' ≤ min 32 (n - i) → cF R A n i < 1 + k' + cF R A n (i + k')) := by
  have hC := cF_cst R A n
  have hb := hC.bound hn (n - (i + 1)) (i + 1) (by omega) (by omega)
  have hs := best_spec (c := cF R A n) (i := i) (L := LM R (A + i) (min 9 (n - i))) (P := min 32 (n - i)) (by omega) (by omega)
  have e : best (cF R A n) i (LM R (A + i) (min 9 (n - i))) (min 32 (n - i)) = (cF R A n i, chF R A n i) := hC.2 i (Nat.zero_le i) hi
  rcases hs.2.2 with ⟨m, h1, h2, h3, h4⟩ | ⟨k, h1, h2, h3, h4, h5⟩
  · rw [e] at h3
    obtain ⟨e1, e2⟩ := Prod.mk.inj h3
    exact Or.inl ⟨m, h1, h2, e2, e1, fun m' a b => by rw [e1]; exact h4 m' a b⟩
  · rw [e] at h3
    obtain ⟨e1, e2⟩ := Prod.mk.inj h3
    exact Or.inr ⟨k, h1, h2, e2, e1, fun m' a b => by rw [e1]; exact h4 m' a b, fun k' a b => by rw [e1]; exact h5 k' a b⟩
/-- the items from place i of the text on: their bytes, how many, how many matches -/
def outF (R : Nat → Nat) (A n : Nat) : Nat → Nat → List Nat × Nat × Nat
  | 0, _ => ([], 0, 0)
  | f + 1, i => if n ≤ i then ([], 0, 0) else
      if (chF R A n i).1 = true then
        ((((chF R A n i).2 - 2) * 32 + (LD R (A + i) (chF R A n i).2 - 1) / 256) :: ((LD R (A + i) (chF R A n i).2 - 1) % 256) :: (outF R A n f (i + (chF R A n i).2)).1,
          (outF R A n f (i + (chF R A n i).2)).2.1 + 1, (outF R A n f (i + (chF R A n i).2)).2.2 + 1)
      else (((chF R A n i).2 - 1) :: ((List.range (chF R A n i).2).map (fun t => R (A + i + t)) ++ (outF R A n f (i + (chF R A n i).2)).1),
          (outF R A n f (i + (chF R A n i).2)).2.1 + 1, (outF R A n f (i + (chF R A n i).2)).2.2)
theorem outF_end {R : Nat → Nat} {A n f i : Nat} (h : n ≤ i) : outF R A n f i = ([], 0, 0) := by
  cases f with
  | zero => rfl
  | succ f => exact if_pos h
theorem outF_mat {R : Nat → Nat} {A n f i m : Nat} (h : i < n) (hc : chF R A n i = (true, m)) : outF R A n (f + 1) i = (((m - 2) * 32 + (LD R (A + i) m - 1) / 256) :: ((LD R (A + i) m - 1) % 256) :: (outF R A n f (i + m)).1, (outF R A n f (i + m)).2.1 + 1, (outF R A n f (i + m)).2.2 + 1) := by
  show (if n ≤ i then _ else _) = _
  rw [if_neg (by omega), hc, if_pos rfl]
theorem outF_pln {R : Nat → Nat} {A n f i k : Nat} (h : i < n) (hc : chF R A n i = (false, k)) : outF R A n (f + 1) i = ((k - 1) :: ((List.range k).map (fun t => R (A + i + t)) ++ (outF R A n f (i + k)).1), (outF R A n f (i + k)).2.1 + 1, (outF R A n f (i + k)).2.2) := by
  show (if n ≤ i then _ else _) = _
  rw [if_neg (by omega), hc, if_neg (fun z => by cases z)]
theorem outF_len (R : Nat → Nat) (A n : Nat) (hn : n ≤ 200) : ∀ f i, n - i ≤ f → i ≤ n → (outF R A n f i).1.length = cF R A n i := by
  intro f
  induction f with
  | zero =>
    intro i h1 h2
    have : i = n := by omega
    subst this
    rw [outF_end (Nat.le_refl _), (cF_cst R A i).1]; rfl
  | succ f ih =>
    intro i h1 h2
    by_cases hi : i = n
    · subst hi
      rw [outF_end (Nat.le_refl _), (cF_cst R A i).1]; rfl
    · have hL := LM_le R (A + i) (min 9 (n - i))
      rcases item_spec R A n hn (i := i) (by omega) with ⟨m, a, b, c, d, -⟩ | ⟨k, a, b, c, d, -⟩
      · rw [outF_mat (by omega) c]
        show (outF R A n f (i + m)).1.length + 1 + 1 = _
        rw [ih (i + m) (by omega) (by omega), d]; omega
      · rw [outF_pln (by omega) c]
        show ((List.range k).map (fun t => R (A + i + t)) ++ (outF R A n f (i + k)).1).length + 1 = _
        rw [List.length_append, List.length_map, List.length_range, ih (i + k) (by omega) (by omega), d]; omega
theorem cF_le (R : Nat → Nat) (A n : Nat) (hn : n ≤ 200) : cF R A n 0 ≤ 207 := by
  have := (cF_cst R A n).bound32 hn n 0 (by omega) (by omega) (Nat.le_refl 0)
  omega
theorem range_rowF {row : List Nat} {fr k : Nat} (h : fr + k ≤ row.length) : (List.range k).map (fun t => rowF row (fr + t)) = (row.drop fr).take k := range_getD_drop h
theorem sX3_write {cap : Nat} {joined E choice f : Nat → Int32} {len : Int32} {ws ts xs : List Nat} (hJ : JJ joined (ws ++ ts)) (hE : EarOK E (rowF (ws ++ ts)) (ws ++ ts).length) (hch : ∀ j, j < ts.length → choice j = enc (chF (rowF (ws ++ ts)) ws.length ts.length j)) (hA : ws.length ≤ 80) (hn : ts.length ≤ 200) (hr : RR cap f len xs) (hfit : xs.length + cF (rowF (ws ++ ts)) ws.length ts.length 0 ≤ cap) {it mt : Nat} {post : Int32 → Int32 → Int32 → (Nat → Int32) → Prop}
    (hp : ∀ f' len', RR cap f' len' (xs ++ (outF (rowF (ws ++ ts)) ws.length ts.length ts.length 0).1) → post (nI (it + (outF (rowF (ws ++ ts)) ws.length ts.length ts.length 0).2.1)) (nI (mt + (outF (rowF (ws ++ ts)) ws.length ts.length ts.length 0).2.2)) len' f') : wX3_write cap (nI ws.length) (nI ts.length) joined E choice (nI it) (nI mt) len f post := by
  have hlen : (ws ++ ts).length = ws.length + ts.length := List.length_append
  have hrow : (ws ++ ts).length ≤ 280 := by omega
  generalize hR : rowF (ws ++ ts) = R at *
  generalize hAe : ws.length = A at *
  generalize hne : ts.length = n at *
  have key : ∀ d i k it mt xs f len, n - i ≤ d → i ≤ n → k ≤ i → RR cap f len xs → xs.length + cF R A n i ≤ cap →
      (∀ f' len', RR cap f' len' (xs ++ (outF R A n d i).1) → post (nI (it + (outF R A n d i).2.1)) (nI (mt + (outF R A n d i).2.2)) len' f') →
      wX3_write_4 cap (nI A) (nI n) joined E choice (fun s1 s2 s3 s4 _ _ => post s1 s2 s3 s4) (d + 1) (nI it) (nI mt) len f (nI i) (nI k) := by
    intro d
    induction d with
    | zero =>
      intro i k it mt xs f len h1 h2 h3 hr hfit hp
      have : i = n := by omega
      subst this
      rw [outF_end (Nat.le_refl _)] at hp
      have hq : post (nI it) (nI mt) len f := hp f len (by rw [List.append_nil]; exact hr)
      exact ⟨fun _ => hq, fun _ => ⟨fun _ => hq, fun c => absurd (nI_le (Nat.le_refl _) (by omega)) c⟩⟩
    | succ d ih =>
      intro i k it mt xs f len h1 h2 h3 hr hfit hp
      by_cases hi : i = n
      · subst hi
        rw [outF_end (Nat.le_refl _)] at hp
        have hq : post (nI it) (nI mt) len f := hp f len (by rw [List.append_nil]; exact hr)
        exact ⟨fun _ => hq, fun _ => ⟨fun _ => hq, fun c => absurd (nI_le (Nat.le_refl _) (by omega)) c⟩⟩
      · refine ⟨fun c => ?_, fun _ => ⟨fun c => absurd c (nI_ge (by omega) (by omega)), fun _ => ⟨vp_in_nI (by omega) (by omega), fun y10 h10 => ?_⟩⟩⟩
        · rw [show (200 : Int32) = nI 200 from rfl, nI_leI (by omega) (by omega)] at c
          omega
        · rw [nI_clamp (by omega), hch i (by omega)] at h10
          have hL := LM_le R (A + i) (min 9 (n - i))
          rcases item_spec R A n hn (i := i) (by omega) with ⟨m, a, b, c, e, -⟩ | ⟨q, a, b, c, e, -⟩
          · -- a match
            rw [c] at h10
            have h10 : y10 = nI m := h10
            subst h10
            rw [outF_mat (by omega) c] at hp
            obtain ⟨hb1, p, hp1, hp2⟩ := (LM_iff (show 0 < m by omega)).mp b
            have hd := LD_is (m := m) ⟨p, hp1, hp2⟩
            refine ⟨fun c => absurd c (nI_nle (by omega) (by omega)), fun _ => ?_⟩
            rw [nI_add]
            subst hR
            refine sX3_leastDistance hJ hrow hE (by omega) (by omega) ⟨p, hp1, hp2⟩ ?_
            refine sX2_addMatch hr (by omega) a (by omega) hd.1 (by have := hd.2.1; omega) fun f' len' hr' y23 h23 y24 h24 y25 h25 => ?_
            rw [if_pos (nI_pos' (by omega))] at h23
            subst h23; subst h24; subst h25
            rw [nI_add, nI_1]
            refine ih (i + m) (k + 1) (it + 1) (mt + 1) _ f' len' (by omega) (by omega) (by omega) hr' (by rw [List.length_append, List.length_cons, List.length_singleton]; omega) fun f2 l2 h2 => ?_
            rw [List.append_assoc] at h2
            have := hp f2 l2 h2
            rw [Nat.add_assoc it, Nat.add_comm 1, Nat.add_assoc mt, Nat.add_comm 1]
            exact this
          · -- bytes as they are
            rw [c] at h10
            have h10 : y10 = 0 - nI q := h10
            have hneg : y10 ≤ 0 := by
              rw [h10, show (0 : Int32) - nI q = -nI q by apply Int32.toBitVec_inj.mp; show (0#32) - (nI q).toBitVec = -(nI q).toBitVec; rw [BitVec.zero_sub], show (0 : Int32) = -nI 0 from rfl]
              exact (sb_nle (by omega) (by decide)).mpr (Nat.zero_le q)
            have hnn : 0 - y10 = nI q := by
              rw [h10]
              apply Int32.toBitVec_inj.mp
              show (0#32) - ((0#32) - (nI q).toBitVec) = (nI q).toBitVec
              rw [BitVec.zero_sub, BitVec.zero_sub, BitVec.neg_neg]
            have habs : (if 0 ≤ y10 then y10 else 0 - y10) = nI q := by
              by_cases hz : 0 ≤ y10
              · have : y10 = 0 := Int32.le_antisymm hneg hz
                rw [if_pos hz, ← hnn, this]; rfl
              · rw [if_neg hz, hnn]
            rw [outF_pln (by omega) c] at hp
            refine ⟨fun _ => ?_, fun c => absurd hneg c⟩
            rw [hnn, nI_add]
            refine sX2_addPlain hr hJ hrow (by omega) a (by omega) (by omega) (by omega) fun f' len' hr' y15 h15 y16 h16 y17 h17 => ?_
            rw [← hnn, habs] at h15
            subst h15; subst h16; subst h17
            rw [nI_add, nI_1]
            have hrg : (List.range q).map (fun t => R (A + i + t)) = ((ws ++ ts).drop (A + i)).take q := by rw [← hR]; exact range_rowF (by omega)
            refine ih (i + q) (k + 1) (it + 1) mt _ f' len' (by omega) (by omega) (by omega) hr' (by rw [List.length_append, List.length_cons, List.length_take, List.length_drop]; omega) fun f2 l2 h2 => ?_
            rw [List.append_assoc, List.cons_append, ← hrg] at h2
            have := hp f2 l2 h2
            rw [Nat.add_assoc it, Nat.add_comm 1]
            exact this
  exact ⟨n + 1, key n 0 0 it mt xs f len (by omega) (by omega) (by omega) hr hfit hp⟩
