/-! PURE: opening a packed text -/
/-- n bytes more, each the one that stands far before -/
def mcopy (J : List Nat) (far : Nat) : Nat → List Nat
  | 0 => J
  | n + 1 => mcopy J far n ++ [(mcopy J far n).getD ((mcopy J far n).length - far) 0]
theorem mcopy_len (J : List Nat) (far : Nat) : ∀ n, (mcopy J far n).length = J.length + n := by
  intro n
  induction n with
  | zero => rfl
  | succ n ih =>
    show (mcopy J far n ++ [_]).length = _
    rw [List.length_append, ih]; rfl
theorem mcopy_lt {J : List Nat} {far : Nat} (h : ∀ x ∈ J, x < 256) : ∀ n, ∀ x ∈ mcopy J far n, x < 256 := by
  intro n
  induction n with
  | zero => exact h
  | succ n ih =>
    intro x hx
    rcases List.mem_append.mp hx with q | q
    · exact ih x q
    · rw [List.mem_singleton.mp q]; exact getD_lt256 ih _
def nOf (c : Nat) : Nat := if c < 32 then c + 1 else c / 32 + 2
def farOf (c e : Nat) : Nat := 256 * (c % 32) + e + 1
/-- one item at place i: what is wrong, or the next place and the row with its bytes -/
def itm (pk : List Nat) (A tl i : Nat) (J : List Nat) : Option Nat × Nat × List Nat :=
  if pk.length ≤ i then (some pk.length, i, J)
  else if tl < (J.length - A) + nOf (pk.getD i 0) then (some i, i, J)
  else if pk.getD i 0 < 32 then
    (if pk.length ≤ i + nOf (pk.getD i 0) then (some pk.length, i, J) else (none, i + nOf (pk.getD i 0) + 1, J ++ (pk.drop (i + 1)).take (nOf (pk.getD i 0))))
  else if pk.length ≤ i + 1 then (some pk.length, i, J)
  else if J.length < farOf (pk.getD i 0) (pk.getD (i + 1) 0) then (some (i + 1), i, J)
  else (none, i + 2, mcopy J (farOf (pk.getD i 0) (pk.getD (i + 1) 0)) (nOf (pk.getD i 0)))
def decL (pk : List Nat) (A tl : Nat) : Nat → Nat → List Nat → Option Nat × List Nat
  | 0, _, J => (some 0, J)
  | f + 1, i, J => if tl ≤ J.length - A then (if i < pk.length then some i else none, J)
      else match itm pk A tl i J with
        | (some w, _, J') => (some w, J')
        | (none, i', J') => decL pk A tl f i' J'
/-- opening the bytes pk by the dictionary ws with the sum sm: the wrong place, or the text -/
def opn (pk ws : List Nat) (sm : Nat) : Option Nat × List Nat :=
  if pk.length = 0 then (some 0, [])
  else if pk.length < 3 then (some pk.length, [])
  else if ¬ 256 * pk.getD 1 0 + pk.getD 2 0 = sm then (some 1, [])
  else if pk.length = 3 ∨ 200 < pk.getD 3 0 then (some 3, [])
  else ((decL pk ws.length (pk.getD 3 0) 201 4 ws).1, (decL pk ws.length (pk.getD 3 0) 201 4 ws).2.drop ws.length)
theorem sX4_length {len : Int32} {post : Int32 → Prop} (h : post len) : wX4_length len post := h
theorem nOf_bd {c : Nat} (h : c < 256) : 1 ≤ nOf c ∧ nOf c ≤ 32 := by
  unfold nOf
  split <;> omega
theorem nOf_nI {c : Nat} (h : c < 256) : (c < 32 → nI c + 1 = nI (nOf c)) ∧ (¬ c < 32 → nI c / 32 + 2 = nI (nOf c)) := by
  unfold nOf
  refine ⟨fun q => ?_, fun q => ?_⟩
  · rw [if_pos q, nI_1]
  · rw [if_neg q, show (32 : Int32) = nI 32 from rfl, show (2 : Int32) = nI 2 from rfl, pk_div (by omega) (by decide) (by decide), nI_add]
theorem far_nI {c e : Nat} (hc : c < 256) (he : e < 256) : ((256 : Int32) * (nI c - nI c / 32 * 32) + nI e) + 1 = nI (farOf c e) := by
  unfold farOf
  rw [show (32 : Int32) = nI 32 from rfl, show (256 : Int32) = nI 256 from rfl, pk_rem (by omega) (by decide) (by decide), pk_mul, nI_add, nI_1]
theorem sX1_readMatch {cj cp : Nat} {jf pf : Nat → Int32} {jl pl : Int32} {J pk : List Nat} (hJ : RR cj jf jl J) (hpk : RR cp pf pl pk) {i c n : Nat} (hi : i < 100000) (hc : c < 256) (hn : n < 1000) (hfit : J.length + n ≤ cj) {post : Int32 → Int32 → Int32 → (Nat → Int32) → Prop}
    (h1 : pk.length ≤ i + 1 → post (nI pk.length) (nI i) jl jf) (h2 : i + 1 < pk.length → J.length < farOf c (pk.getD (i + 1) 0) → post (nI (i + 1)) (nI i) jl jf)
    (h3 : i + 1 < pk.length → ¬ J.length < farOf c (pk.getD (i + 1) 0) → ∀ jf' jl', RR cj jf' jl' (mcopy J (farOf c (pk.getD (i + 1) 0)) n) → post (-1) (nI (i + 2)) jl' jf') : wX1_readMatch cj cp (nI i) jl jf pl pf (nI c) (nI n) post := by
  obtain ⟨pl1, pl2, pl3, pl4, pl5⟩ := id hpk
  obtain ⟨jl1, jl2, jl3, jl4, jl5⟩ := id hJ
  refine ⟨fun q => ?_, fun q => ?_⟩
  · rw [nI_1, pl1, nI_ltI (by omega) (by omega)] at q
    rw [nI_1]
    refine sX4_atN hpk (by omega) fun y4 h4 => ?_
    have he := getD_lt256 pl4 (i + 1)
    rw [far_nI hc he] at h4
    subst h4
    have hfar : farOf c (pk.getD (i + 1) 0) < 10000 := by unfold farOf; omega
    show (nI _ ≤ jl → _) ∧ _
    rw [jl1, nI_leI (by omega) (by omega)]
    refine ⟨fun q2 => ?_, fun q2 => h2 q (by omega) |> fun z => by rw [jl1] at z; exact z⟩
    have key : ∀ d k jf' jl', k + d = n → RR cj jf' jl' (mcopy J (farOf c (pk.getD (i + 1) 0)) k) → wX1_readMatch_63 cj (nI n) (nI (farOf c (pk.getD (i + 1) 0))) (fun s7 s8 _ => ∀ y16 : Int32, y16 = nI i + 2 → post (-1) y16 s7 s8) (d + 1) jl' jf' (nI k) := by
      intro d
      induction d with
      | zero =>
        intro k jf' jl' hk hr
        have : k = n := by omega
        subst this
        refine ⟨fun _ y hy => ?_, fun c => absurd (nI_le (Nat.le_refl _) (by omega)) c⟩
        rw [hy, show (2 : Int32) = nI 2 from rfl, nI_add]
        exact h3 q (by omega) jf' jl' hr
      | succ d ih =>
        intro k jf' jl' hk hr
        have hlen := mcopy_len J (farOf c (pk.getD (i + 1) 0)) k
        refine ⟨fun c => absurd c (nI_ge (by omega) (by omega)), fun _ => ?_⟩
        refine sX4_length ?_
        conv => arg 4; rw [hr.1, pk_sub (by omega)]
        refine sX4_atN hr (by omega) ?_
        have hb := getD_lt256 hr.2.2.2.1 ((mcopy J (farOf c (pk.getD (i + 1) 0)) k).length - farOf c (pk.getD (i + 1) 0))
        refine RR.add (b := (mcopy J (farOf c (pk.getD (i + 1) 0)) k).getD ((mcopy J (farOf c (pk.getD (i + 1) 0)) k).length - farOf c (pk.getD (i + 1) 0)) 0) hr (by omega) (by rw [bN_nI (by omega)]; omega) fun f2 l2 hr2 y hy => ?_
        rw [hy, nI_1]
        exact ih (k + 1) f2 l2 (by omega) hr2
    exact ⟨_, key n 0 jf _ (by omega) (by rw [← jl1]; exact hJ)⟩
  · rw [nI_1, pl1, nI_ltI (by omega) (by omega)] at q
    show post pl (nI i) jl jf
    rw [pl1]
    exact h1 (by omega)
theorem sX1_readPlain {cj cp : Nat} {jf pf : Nat → Int32} {jl pl : Int32} {J pk : List Nat} (hJ : RR cj jf jl J) (hpk : RR cp pf pl pk) {i n : Nat} (hi : i < 100000) (hn : n < 1000) (hfit : J.length + n ≤ cj) {post : Int32 → Int32 → Int32 → (Nat → Int32) → Prop}
    (h1 : pk.length ≤ i + n → post (nI pk.length) (nI i) jl jf) (h2 : i + n < pk.length → ∀ jf' jl', RR cj jf' jl' (J ++ (pk.drop (i + 1)).take n) → post (-1) (nI (i + n + 1)) jl' jf') : wX1_readPlain cj cp (nI i) jl jf pl pf (nI n) post := by
  obtain ⟨pl1, pl2, pl3, pl4, pl5⟩ := id hpk
  refine ⟨fun q => ?_, fun q => ?_⟩
  · rw [nI_add, pl1, nI_ltI (by omega) (by omega)] at q
    rw [nI_1]
    refine sX4_addFrom hJ hpk (by omega) fun f' l' hr y hy => ?_
    rw [range_getD_drop (by omega), appC_fit (by rw [List.length_take, List.length_drop]; omega)] at hr
    rw [hy, nI_1, nI_add, ← Nat.add_assoc]
    exact h2 q f' l' hr
  · rw [nI_add, pl1, nI_ltI (by omega) (by omega)] at q
    show post pl (nI i) jl jf
    rw [pl1]
    exact h1 (by omega)
theorem sX1_readItem {cj cp : Nat} {jf pf : Nat → Int32} {jl pl : Int32} {J pk : List Nat} (hJ : RR cj jf jl J) (hpk : RR cp pf pl pk) {i A tl : Nat} (hi : i < 100000) (hA : A ≤ J.length) (htl : J.length - A < tl) (htl2 : tl ≤ 200) (hcj : A + tl ≤ cj) {post : Int32 → Int32 → Int32 → Int32 → (Nat → Int32) → Prop}
    (h1 : ∀ w, (itm pk A tl i J).1 = some w → ∀ a b c d, post (nI w) a b c d)
    (h2 : (itm pk A tl i J).1 = none → ∀ jf' jl', RR cj jf' jl' (itm pk A tl i J).2.2 → post (-1) (nI (tl - ((itm pk A tl i J).2.2.length - A))) (nI (itm pk A tl i J).2.1) jl' jf') : wX1_readItem cj cp (nI (tl - (J.length - A))) (nI i) jl jf pl pf post := by
  obtain ⟨pl1, pl2, pl3, pl4, pl5⟩ := id hpk
  have hc := getD_lt256 pl4 i
  have hn := nOf_bd hc
  obtain ⟨n1, n2⟩ := nOf_nI hc
  refine ⟨fun q => ?_, fun q => ?_⟩
  · rw [pl1, nI_ltI (by omega) (by omega)] at q
    refine sX4_atN hpk (by omega) ?_
    have hci : pk.getD i 0 = pk.getD i 0 := rfl
    -- the rest, whatever the kind
    have fin : ∀ (y : Int32), y = nI (nOf (pk.getD i 0)) → ∀ (G : Int32 → Prop), (J.length - A + nOf (pk.getD i 0) ≤ tl → G (nI (tl - (J.length - A) - nOf (pk.getD i 0)))) → ((y ≤ nI (tl - (J.length - A)) → ∀ y7 : Int32, y7 = nI (tl - (J.length - A)) - y → G y7) ∧ (¬ y ≤ nI (tl - (J.length - A)) → post (nI i) (nI (tl - (J.length - A))) (nI i) jl jf)) := by
      intro y hy G hG
      subst hy
      rw [nI_leI (by omega) (by omega)]
      refine ⟨fun q2 y7 h7 => ?_, fun q2 => ?_⟩
      · rw [pk_sub q2] at h7
        subst h7
        exact hG (by omega)
      · refine h1 i ?_ _ _ _ _
        unfold itm
        rw [if_neg (by omega), if_pos (by omega)]
    refine ⟨fun q2 y5 h5 => ?_, fun q2 y5 h5 => ?_⟩
    · rw [show (32 : Int32) = nI 32 from rfl, nI_leI (by decide) (by omega)] at q2
      rw [n2 (by omega)] at h5
      refine fin y5 h5 (fun y7 => wX1_readMatch cj cp (nI i) jl jf pl pf (nI (pk.getD i 0)) y5 (fun r9 s10 s11 s12 => post r9 y7 s10 s11 s12)) fun hle => ?_
      rw [h5]
      refine sX1_readMatch hJ hpk hi hc (by omega) (by omega) (fun z => ?_) (fun z z2 => ?_) (fun z z2 jf' jl' hr => ?_)
      · refine h1 _ ?_ _ _ _ _
        unfold itm
        rw [if_neg (by omega), if_neg (by omega), if_neg (by omega), if_pos z]
      · refine h1 _ ?_ _ _ _ _
        unfold itm
        rw [if_neg (by omega), if_neg (by omega), if_neg (by omega), if_neg (by omega), if_pos z2]
      · have e : itm pk A tl i J = (none, i + 2, mcopy J (farOf (pk.getD i 0) (pk.getD (i + 1) 0)) (nOf (pk.getD i 0))) := by
          unfold itm
          rw [if_neg (by omega), if_neg (by omega), if_neg (by omega), if_neg (by omega), if_neg z2]
        rw [e] at h2
        have := h2 rfl jf' jl' hr
        rw [mcopy_len] at this
        rw [show tl - (J.length - A) - nOf (pk.getD i 0) = tl - (J.length + nOf (pk.getD i 0) - A) by omega]
        exact this
    · rw [show (32 : Int32) = nI 32 from rfl, nI_leI (by decide) (by omega)] at q2
      rw [n1 (by omega)] at h5
      refine fin y5 h5 (fun y7 => wX1_readPlain cj cp (nI i) jl jf pl pf y5 (fun r9 s10 s11 s12 => post r9 y7 s10 s11 s12)) fun hle => ?_
      rw [h5]
      refine sX1_readPlain hJ hpk hi (by omega) (by omega) (fun z => ?_) (fun z jf' jl' hr => ?_)
      · refine h1 _ ?_ _ _ _ _
        unfold itm
        rw [if_neg (by omega), if_neg (by omega), if_pos (by omega), if_pos z]
      · have e : itm pk A tl i J = (none, i + nOf (pk.getD i 0) + 1, J ++ (pk.drop (i + 1)).take (nOf (pk.getD i 0))) := by
          unfold itm
          rw [if_neg (by omega), if_neg (by omega), if_pos (by omega), if_neg (by omega)]
        rw [e] at h2
        have := h2 rfl jf' jl' hr
        rw [List.length_append, List.length_take, List.length_drop] at this
        rw [show tl - (J.length - A) - nOf (pk.getD i 0) = tl - (J.length + min (nOf (pk.getD i 0)) (pk.length - (i + 1)) - A) by omega]
        exact this
  · rw [pl1, nI_ltI (by omega) (by omega)] at q
    show post pl _ _ jl jf
    rw [pl1]
    refine h1 _ ?_ _ _ _ _
    unfold itm
    rw [if_pos (by omega)]
theorem itm_ok {pk J : List Nat} {A tl i : Nat} (h : (itm pk A tl i J).1 = none) (hA : A ≤ J.length) (hc : ∀ x ∈ pk, x < 256) : J.length < (itm pk A tl i J).2.2.length ∧ (itm pk A tl i J).2.2.length - A ≤ tl ∧ (itm pk A tl i J).2.1 ≤ i + 34 := by
  have hn := nOf_bd (getD_lt256 hc i)
  unfold itm at h ⊢
  split at h
  · cases h
  · rename_i g1
    rw [if_neg g1]
    split at h
    · cases h
    · rename_i g2
      rw [if_neg g2]
      split at h
      · rename_i g3
        rw [if_pos g3]
        split at h
        · cases h
        · rename_i g4
          rw [if_neg g4]
          show _ < (J ++ _).length ∧ (J ++ _).length - A ≤ tl ∧ i + nOf (pk.getD i 0) + 1 ≤ i + 34
          rw [List.length_append, List.length_take, List.length_drop]
          omega
      · rename_i g3
        rw [if_neg g3]
        split at h
        · cases h
        · rename_i g4
          rw [if_neg g4]
          split at h
          · cases h
          · rename_i g5
            rw [if_neg g5]
            show _ < (mcopy _ _ _).length ∧ (mcopy _ _ _).length - A ≤ tl ∧ i + 2 ≤ i + 34
            rw [mcopy_len]
            omega
/-- the loop over the items: its end is that of decL -/
theorem sX1_decode_loop {cj cp : Nat} {pf : Nat → Int32} {pl : Int32} {pk : List Nat} (hpk : RR cp pf pl pk) {A tl : Nat} (htl2 : tl ≤ 200) (hcj : A + tl ≤ cj) {K : Int32 → Int32 → Int32 → (Nat → Int32) → Int32 → Int32 → Prop} : ∀ (f i k : Nat) (J : List Nat) (jf : Nat → Int32) (jl : Int32), tl - (J.length - A) < f → A ≤ J.length → J.length - A ≤ tl → k ≤ J.length - A → i + 40 * (tl - (J.length - A)) < 90000 → RR cj jf jl J →
    (∀ i' J' jf' jl' e, decL pk A tl f i J = (if i' < pk.length then some i' else none, J') → i' < 100000 → tl ≤ J'.length - A → RR cj jf' jl' J' → K 0 (nI i') jl' jf' (-1) e) →
    (∀ w J', decL pk A tl f i J = (some w, J') → w < 100000 → ∀ a b c d e, K a b c d (nI w) e) →
    wX1_decode_66 cj cp pl pf K f (nI (tl - (J.length - A))) (nI i) jl jf (-1) (nI k) := by
  intro f
  induction f with
  | zero => intro i k J jf jl h; omega
  | succ f ih =>
    intro i k J jf jl hf hA hle hk hi hJ h1 h2
    have hdec : decL pk A tl (f + 1) i J = if tl ≤ J.length - A then (if i < pk.length then some i else none, J) else (match itm pk A tl i J with | (some w, _, J') => (some w, J') | (none, i', J') => decL pk A tl f i' J') := rfl
    by_cases hd : tl ≤ J.length - A
    · rw [if_pos hd] at hdec
      have h0 : tl - (J.length - A) = 0 := by omega
      have hq : ∀ e, K (nI (tl - (J.length - A))) (nI i) jl jf (-1) e := fun e => by rw [h0]; exact h1 i J jf jl e hdec (by omega) hd hJ
      exact ⟨fun _ => hq _, fun _ => ⟨fun _ => hq _, fun c => absurd (by rw [h0]; decide) c⟩⟩
    · rw [if_neg hd] at hdec
      refine ⟨fun c => ?_, fun _ => ⟨fun c => absurd c (nI_nle (by omega) (by omega)), fun _ => ⟨fun c => absurd rfl c, fun _ => ?_⟩⟩⟩
      · rw [show (200 : Int32) = nI 200 from rfl, nI_leI (by decide) (by omega)] at c
        omega
      · refine sX1_readItem hJ hpk (by omega) hA (by omega) htl2 hcj (fun w hw a b c d y24 h24 => ?_) (fun hn jf' jl' hr y24 h24 => ?_)
        · -- something is wrong: the loop ends at once
          rcases hx : itm pk A tl i J with ⟨x1, x2, x3⟩
          have hw' : x1 = some w := by rw [hx] at hw; exact hw
          subst hw'
          rw [hx] at hdec
          have hlt : w < 100000 := by
            have hpl := hpk.2.1
            have hpl2 := hpk.2.2.1
            have e1 := congrArg (fun z : Option Nat × Nat × List Nat => z.1) hx
            unfold itm at e1
            simp only at e1
            split at e1
            · have := Option.some.inj e1; omega
            · split at e1
              · have := Option.some.inj e1; omega
              · split at e1
                · split at e1
                  · have := Option.some.inj e1; omega
                  · cases e1
                · split at e1
                  · have := Option.some.inj e1; omega
                  · split at e1
                    · have := Option.some.inj e1; omega
                    · cases e1
          have hK := h2 w x3 hdec hlt
          cases f with
          | zero => omega
          | succ f => exact ⟨fun _ => hK _ _ _ _ _, fun _ => ⟨fun _ => hK _ _ _ _ _, fun _ => ⟨fun _ => hK _ _ _ _ _, fun c => absurd c (nI_ne_m1 (by omega))⟩⟩⟩
        · obtain ⟨o1, o2, o3⟩ := itm_ok hn hA hpk.2.2.2.1
          rcases hx : itm pk A tl i J with ⟨x1, x2, x3⟩
          rw [hx] at hn o1 o2 o3 hr hdec
          have hn' : x1 = none := hn
          subst hn'
          have o1' : J.length < x3.length := o1
          have o2' : x3.length - A ≤ tl := o2
          have o3' : x2 ≤ i + 34 := o3
          rw [h24, nI_1]
          exact ih x2 (k + 1) x3 jf' jl' (by omega) (by omega) o2' (by omega) (by omega) hr (fun i' J' f3 l3 e g1 g2 g3 g4 => h1 i' J' f3 l3 e (hdec.trans g1) g2 g3 g4) (fun w J' g1 g2 => h2 w J' (hdec.trans g1) g2)
theorem sX1_header {cp cw : Nat} {pf wf : Nat → Int32} {pl wl : Int32} {pk ws : List Nat} (hpk : RR cp pf pl pk) (hw : RR cw wf wl ws) {i : Nat} (hi : i < 256) {post : Int32 → Prop}
    (h1 : pk.length < 3 → post (nI pk.length)) (h2 : 3 ≤ pk.length → ¬ 256 * pk.getD 1 0 + pk.getD 2 0 = (if i = 0 then 0 else sumN ws) → post 1) (h3 : 3 ≤ pk.length → 256 * pk.getD 1 0 + pk.getD 2 0 = (if i = 0 then 0 else sumN ws) → (pk.length = 3 ∨ 200 < pk.getD 3 0) → post 3) (h4 : 3 ≤ pk.length → 256 * pk.getD 1 0 + pk.getD 2 0 = (if i = 0 then 0 else sumN ws) → ¬ (pk.length = 3 ∨ 200 < pk.getD 3 0) → post (-1)) : wX1_wrongInHeader cp cw pl pf (nI i) wl wf post := by
  obtain ⟨pl1, pl2, pl3, pl4, pl5⟩ := id hpk
  have hs : (if i = 0 then 0 else sumN ws) < 65536 := by
    split
    · decide
    · exact sumN_lt ws
  have b1 := getD_lt256 pl4 1
  have b2 := getD_lt256 pl4 2
  have b3 := getD_lt256 pl4 3
  refine ⟨fun q => ?_, fun q => ?_⟩
  · rw [show (3 : Int32) = nI 3 from rfl, pl1, nI_leI (by decide) (by omega)] at q
    refine sX4_atN (k := 1) hpk (by decide) (sX4_atN (k := 2) hpk (by decide) (sX0_sum hw (by omega) ?_))
    rw [show (256 : Int32) = nI 256 from rfl, pk_mul, nI_add, nI_eq (by omega) (by omega)]
    refine ⟨fun q2 => ⟨fun q3 => ?_, fun q3 => sX4_atN (k := 3) hpk (by decide) ?_⟩, fun q2 => h2 q q2⟩
    · rw [show (4 : Int32) = nI 4 from rfl, pl1, nI_ltI (by omega) (by decide)] at q3
      exact h3 q q2 (Or.inl (by omega))
    · rw [show (4 : Int32) = nI 4 from rfl, pl1, nI_ltI (by omega) (by decide)] at q3
      rw [show (200 : Int32) = nI 200 from rfl, nI_leI (by omega) (by decide)]
      exact ⟨fun q4 => h4 q q2 (by omega), fun q4 => h3 q q2 (Or.inr (by omega))⟩
  · rw [show (3 : Int32) = nI 3 from rfl, pl1, nI_leI (by decide) (by omega)] at q
    show post pl
    rw [pl1]
    exact h1 (by omega)
theorem decL_len {pk : List Nat} {A tl : Nat} (hc : ∀ x ∈ pk, x < 256) : ∀ f i J, A ≤ J.length → (decL pk A tl f i J).1 = none → J.length - A ≤ tl → A ≤ (decL pk A tl f i J).2.length ∧ (decL pk A tl f i J).2.length - A = tl ∧ (decL pk A tl f i J).2.take A = J.take A := by
  intro f
  induction f with
  | zero => intro i J _ h; cases h
  | succ f ih =>
    intro i J hA h hle
    have hdec : decL pk A tl (f + 1) i J = if tl ≤ J.length - A then (if i < pk.length then some i else none, J) else (match itm pk A tl i J with | (some w, _, J') => (some w, J') | (none, i', J') => decL pk A tl f i' J') := rfl
    by_cases hd : tl ≤ J.length - A
    · rw [hdec, if_pos hd]
      show A ≤ J.length ∧ J.length - A = tl ∧ J.take A = J.take A
      exact ⟨hA, by omega, rfl⟩
    · rw [if_neg hd] at hdec
      rcases hx : itm pk A tl i J with ⟨x1, x2, x3⟩
      rw [hx] at hdec
      cases x1 with
      | some w => rw [hdec] at h; cases h
      | none =>
        rw [hdec] at h ⊢
        obtain ⟨o1, o2, -⟩ := itm_ok (by rw [hx]) hA hc
        rw [hx] at o1 o2
        have o1' : J.length < x3.length := o1
        have o2' : x3.length - A ≤ tl := o2
        obtain ⟨r1, r2, r3⟩ := ih x2 x3 (by omega) h o2'
        refine ⟨r1, r2, r3.trans ?_⟩
        -- an item leaves what stands ahead
        have ex : ∃ Z, x3 = J ++ Z := by
          have e3 := congrArg (fun z : Option Nat × Nat × List Nat => z.2.2) hx
          have hmc : ∀ far n, ∃ Z, mcopy J far n = J ++ Z := by
            intro far n
            induction n with
            | zero => exact ⟨[], (List.append_nil J).symm⟩
            | succ n ihn =>
              obtain ⟨Z, hZ⟩ := ihn
              refine ⟨Z ++ [(mcopy J far n).getD ((mcopy J far n).length - far) 0], ?_⟩
              show mcopy J far n ++ _ = _
              conv => lhs; arg 1; rw [hZ]
              rw [List.append_assoc]
          unfold itm at e3
          simp only at e3
          split at e3
          · exact ⟨[], by rw [← e3, List.append_nil]⟩
          · split at e3
            · exact ⟨[], by rw [← e3, List.append_nil]⟩
            · split at e3
              · split at e3
                · exact ⟨[], by rw [← e3, List.append_nil]⟩
                · exact ⟨_, e3.symm⟩
              · split at e3
                · exact ⟨[], by rw [← e3, List.append_nil]⟩
                · split at e3
                  · exact ⟨[], by rw [← e3, List.append_nil]⟩
                  · obtain ⟨Z, hZ⟩ := hmc (farOf (pk.getD i 0) (pk.getD (i + 1) 0)) (nOf (pk.getD i 0))
                    exact ⟨Z, by rw [← e3, hZ]⟩
        obtain ⟨Z, rfl⟩ := ex
        rw [List.take_append_of_le_length hA]
theorem sX1_decode {cp cw aw : Nat} {jf0 pf wf : Nat → Int32} {st0 wa0 pc0 jl0 pl wl : Int32} {pk ws : List Nat} (hpk : RR cp pf pl pk) (hw : RR cw wf wl ws) (hA : ws.length ≤ 80) {i : Nat} (hi : i < 256) {post : Int32 → Int32 → Int32 → Int32 → Int32 → (Nat → Int32) → Prop}
    (h1 : ∀ w, (opn pk ws (if i = 0 then 0 else sumN ws)).1 = some w → w < 100000 → ∀ a b c d e, post (nI w) a b c d e)
    (h2 : (opn pk ws (if i = 0 then 0 else sumN ws)).1 = none → ∀ a b jf' jl', RR 280 jf' jl' (ws ++ (opn pk ws (if i = 0 then 0 else sumN ws)).2) → (opn pk ws (if i = 0 then 0 else sumN ws)).2.length ≤ 200 → post (-1) (nI ws.length) a b jl' jf') :
    wX1_decode 280 cp cw aw st0 wa0 pc0 jl0 jf0 pl pf (nI i) wl wf post := by
  obtain ⟨pl1, pl2, pl3, pl4, pl5⟩ := id hpk
  refine ⟨fun q => ?_, fun q => ?_⟩
  · have : pk.length = 0 := by
      have q2 : pl = 0 := q
      rw [pl1, show (0 : Int32) = nI 0 from rfl, nI_eq (by omega) (by decide)] at q2
      exact q2
    exact h1 0 (by unfold opn; rw [if_pos this]) (by omega) _ _ _ _ _
  · have hne : ¬ pk.length = 0 := fun z => q (by show pl = 0; rw [pl1, z]; rfl)
    refine sX1_header hpk hw hi (fun z => ⟨fun c => absurd c (nI_ne_m1 (by omega)), fun _ => ?_⟩) (fun z z2 => ⟨fun c => absurd c (by decide), fun _ => ?_⟩) (fun z z2 z3 => ⟨fun c => absurd c (by decide), fun _ => ?_⟩) (fun z z2 z3 => ⟨fun _ => ⟨rfl, ?_⟩, fun c => absurd rfl c⟩)
    · exact h1 _ (by unfold opn; rw [if_neg hne, if_pos z]) (by omega) _ _ _ _ _
    · exact h1 1 (by unfold opn; rw [if_neg hne, if_neg (by omega), if_pos z2]) (by omega) _ _ _ _ _
    · exact h1 3 (by unfold opn; rw [if_neg hne, if_neg (by omega), if_neg (not_not_intro z2), if_pos z3]) (by omega) _ _ _ _ _
    · have e : opn pk ws (if i = 0 then 0 else sumN ws) = ((decL pk ws.length (pk.getD 3 0) 201 4 ws).1, (decL pk ws.length (pk.getD 3 0) 201 4 ws).2.drop ws.length) := by
        unfold opn
        rw [if_neg hne, if_neg (by omega), if_neg (not_not_intro z2), if_neg z3]
      rw [e] at h1 h2
      have htl : pk.getD 3 0 ≤ 200 := by omega
      refine sX4_become (by decide) hw (by omega) fun jf1 jl1 hr => ?_
      refine sX4_length (sX4_atN (k := 3) hpk (by decide) ?_)
      refine ⟨201, ?_⟩
      have hl := hr.1
      show wX1_decode_66 280 cp pl pf _ 201 (nI (pk.getD 3 0)) 4 jl1 jf1 (-1) (0 : Int32)
      have hstart := sX1_decode_loop hpk (A := ws.length) (tl := pk.getD 3 0) htl (show ws.length + pk.getD 3 0 ≤ 280 by omega)
        (K := fun s10 s11 s12 s13 y14 y15 => (¬ y14 = (-1) → post y14 jl1 s10 s11 s12 s13) ∧ (y14 = (-1) → wX4_length pl (fun r26 => (r26 ≤ s11 → post y14 jl1 s10 s11 s12 s13) ∧ (¬ r26 ≤ s11 → post s11 jl1 s10 s11 s12 s13)))) 201 4 0 ws jf1 jl1 (by omega) (Nat.le_refl _) (by omega) (by omega) (by omega) hr
        (fun i' J' f3 l3 e3 g1 g2 g3 g4 => ⟨fun c => absurd rfl c, fun _ => ?_⟩) (fun w J' g1 g2 a b c d e3 => ⟨fun _ => ?_, fun c => absurd c (nI_ne_m1 (by omega))⟩)
      · rw [Nat.sub_self, Nat.sub_zero] at hstart
        exact hstart
      · show (pl ≤ nI i' → _) ∧ _
        rw [pl1, nI_leI (by omega) (by omega)]
        refine ⟨fun q3 => ?_, fun q3 => ?_⟩
        · rw [if_neg (by omega)] at g1
          have hJ' : (decL pk ws.length (pk.getD 3 0) 201 4 ws).2 = J' := by rw [g1]
          obtain ⟨r1, r2, r3⟩ := decL_len pl4 201 4 ws (Nat.le_refl _) (by rw [g1]) (by omega)
          rw [hJ'] at r1 r2 r3
          have hsplit : ws ++ J'.drop ws.length = J' := by
            conv => rhs; rw [← List.take_append_drop ws.length J']
            rw [r3, List.take_length]
          rw [hl]
          refine h2 (by rw [g1]) _ _ f3 l3 (by show RR 280 f3 l3 (ws ++ (decL pk ws.length (pk.getD 3 0) 201 4 ws).2.drop ws.length); rw [hJ', hsplit]; exact g4) ?_
          show ((decL pk ws.length (pk.getD 3 0) 201 4 ws).2.drop ws.length).length ≤ 200
          rw [hJ', List.length_drop]; omega
        · rw [if_pos (by omega)] at g1
          exact h1 i' (by rw [g1]) (by omega) _ _ _ _ _
      · exact h1 w (by rw [g1]) g2 _ _ _ _ _
theorem sX1_handOver {cj co : Nat} {jf tf : Nat → Int32} {jl : Int32} {ws ts : List Nat} (hJ : RR cj jf jl (ws ++ ts)) (hco : co < 100000) (hfit : ts.length ≤ co) {post : Int32 → (Nat → Int32) → Prop} (hp : ∀ f' l', RR co f' l' ts → post l' f') : wX1_handOver cj co (nI ws.length) jl jf tf post := by
  have hl := hJ.1
  have h2 := hJ.2.1
  have h3 := hJ.2.2.1
  rw [List.length_append] at h2
  show wX4_addFrom co cj 0 tf jl jf (nI ws.length) (jl - nI ws.length) _
  conv => arg 8; rw [hl, List.length_append, pk_sub (by omega), Nat.add_sub_cancel_left]
  refine sX4_addFrom (RR.nil tf hco) hJ (by omega) fun f' l' hr => hp f' l' ?_
  rw [range_getD_drop (by rw [List.length_append]; exact Nat.le_refl _), List.drop_left, List.take_length, appC_fit (by simpa using hfit), List.nil_append] at hr
  exact hr
