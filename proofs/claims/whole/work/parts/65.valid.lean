/-! every call keeps the ranges -/
theorem EIV.w {w w' : WD} {sl : SL} {el bl : EL} (h : EIV w sl el bl) (hw : WJ 9999 w') (h0 : nn (w.1 0) ≤ nn (w'.1 0)) (h2 : nn (w.1 2) ≤ nn (w'.1 2)) : EIV w' sl el bl := by
  obtain ⟨a1, a2, a3, a4, a5, a6, a7⟩ := h
  exact ⟨hw, a2, fun q hq => ⟨Nat.lt_of_lt_of_le (a3 q hq).1 h2, (a3 q hq).2⟩, a4, fun q hq => ⟨(a5 q hq).1, fun e => Nat.lt_of_lt_of_le ((a5 q hq).2.1 e) h0, fun e => Nat.lt_of_lt_of_le ((a5 q hq).2.2 e) h2⟩, a6, fun q hq => ⟨Nat.lt_of_lt_of_le (a7 q hq).1 h2, (a7 q hq).2⟩⟩
section VV
variable {w w' : WD} {c k : Nat} {ds : Nat → CL} {sl : SL} {el bl : EL} {im : IM} {ac : List Int32} {tp : TP} {x y z u v : Int32}
theorem IV.wd (h : IV w c k ds sl el bl im ac tp) (hw : WJ 9999 w') (h0 : nn (w.1 0) ≤ nn (w'.1 0)) (h2 : nn (w.1 2) ≤ nn (w'.1 2)) : IV w' c k ds sl el bl im ac tp := ⟨h.1.w hw h0 h2, h.2⟩
theorem of_lit {x : Int32} {n : Nat} (h : 0 ≤ x ∧ x < nI n) (hn : n < 2 ^ 31) : ∃ a, a < n ∧ x = nI a := sm_of h.1 h.2 hn
theorem of_lit2 {x : Int32} {n : Nat} (h : 0 ≤ x ∧ x ≤ nI n) (hn : n < 2 ^ 30) : ∃ a, a ≤ n ∧ x = nI a := by
  obtain ⟨h1, h2⟩ := nn_of h.1
  refine ⟨nn x, ?_, h2⟩
  rw [h2] at h
  exact (sm_le_iff h1 (by omega)).mp h.2
theorem IV.gate (h : IV w c k ds sl el bl im ac tp) : IV (gateA w x).2 c k ds sl el bl im ac tp := by
  unfold gateA
  by_cases h1 : 0 ≤ x ∧ x < 30
  · rw [if_pos h1]
    by_cases h2 : w.1 0 = 6
    · rw [if_pos h2]; exact h
    · rw [if_neg h2]
      obtain ⟨a, ha, e⟩ := of_lit (n := 30) h1 (by decide)
      obtain ⟨N, P, R, hN, hP, hR, e0, -⟩ := h.1.1
      rw [e]
      refine h.wd (h.1.1.gate h2 ha) ?_ (Nat.le_refl _)
      show nn (w.1 0) ≤ nn (w.1 0 + 1)
      rw [e0, show nI N + 1 = nI (N + 1) from sm_add N 1, nnI (by omega), nnI (by omega)]
      omega
  · rw [if_neg h1]; exact h
theorem IV.person (h : IV w c k ds sl el bl im ac tp) : IV (personA w x y z).2 c k ds sl el bl im ac tp := by
  unfold personA
  by_cases h1 : 0 ≤ x ∧ x ≤ 6
  · rw [if_pos h1]
    by_cases h2 : (0 ≤ y ∧ y ≤ 9) ∧ (0 ≤ z ∧ z < 30)
    · rw [if_pos h2]
      by_cases h3 : w.1 2 = 6
      · rw [if_pos h3]; exact h
      · rw [if_neg h3]
        obtain ⟨a, ha, e1⟩ := of_lit2 (n := 6) h1 (by decide)
        obtain ⟨b, hb, e2⟩ := of_lit2 (n := 9) h2.1 (by decide)
        obtain ⟨d, hd, e3⟩ := of_lit (n := 30) h2.2 (by decide)
        obtain ⟨N, P, R, hN, hP, hR, e0, e4, -⟩ := h.1.1
        rw [e1, e2, e3]
        refine h.wd (h.1.1.person h3 ha hb hd) (Nat.le_refl _) ?_
        show nn (w.1 2) ≤ nn (w.1 2 + 1)
        rw [e4, show nI P + 1 = nI (P + 1) from sm_add P 1, nnI (by omega), nnI (by omega)]
        omega
    · rw [if_neg h2]; exact h
  · rw [if_neg h1]; exact h
theorem IV.cnt (h : IV w c k ds sl el bl im ac tp) : ∃ N P R, N ≤ 6 ∧ P ≤ 6 ∧ R ≤ 6 ∧ w.1 0 = nI N ∧ w.1 2 = nI P ∧ w.1 4 = nI R := by
  obtain ⟨N, P, R, hN, hP, hR, e0, e2, e4, -⟩ := h.1.1
  exact ⟨N, P, R, hN, hP, hR, e0, e2, e4⟩
theorem IV.put (h : IV w c k ds sl el bl im ac tp) : IV (putA w x y).2 c k ds sl el bl im ac tp := by
  unfold putA
  by_cases h1 : 0 ≤ x ∧ x < w.1 2
  · rw [if_pos h1]
    by_cases h2 : 0 ≤ y ∧ y < 30
    · rw [if_pos h2]
      obtain ⟨N, P, R, hN, hP, hR, e0, e2, e4⟩ := h.cnt
      obtain ⟨i, hi, e⟩ := of_lit (n := P) (by rw [← e2]; exact h1) (by omega)
      obtain ⟨a, ha, e'⟩ := of_lit (n := 30) h2 (by decide)
      rw [e, nnI (by omega), e']
      exact h.wd (h.1.1.put e2 hP hi ha) (Nat.le_refl _) (Nat.le_refl _)
    · rw [if_neg h2]; exact h
  · rw [if_neg h1]; exact h
theorem IV.call (hz : bz z) (h : IV w c k ds sl el bl im ac tp) : IV (callA w x z).2 c k ds sl el bl im ac tp := by
  unfold callA
  by_cases h1 : 0 ≤ x ∧ x < w.1 2
  · rw [if_pos h1]
    obtain ⟨N, P, R, hN, hP, hR, e0, e2, e4⟩ := h.cnt
    obtain ⟨i, hi, e⟩ := of_lit (n := P) (by rw [← e2]; exact h1) (by omega)
    rw [e, nnI (by omega)]
    exact h.wd (h.1.1.call e2 hP hi hz) (Nat.le_refl _) (Nat.le_refl _)
  · rw [if_neg h1]; exact h
theorem IV.shut (h : IV w c k ds sl el bl im ac tp) : IV (shutA w x z).2 c k ds sl el bl im ac tp := by
  unfold shutA
  by_cases h1 : 0 ≤ x ∧ x < w.1 0
  · rw [if_pos h1]
    obtain ⟨N, P, R, hN, hP, hR, e0, e2, e4⟩ := h.cnt
    obtain ⟨i, hi, e⟩ := of_lit (n := N) (by rw [← e0]; exact h1) (by omega)
    rw [e]
    exact h.wd (h.1.1.shut e0 hN hi) (Nat.le_refl _) (Nat.le_refl _)
  · rw [if_neg h1]; exact h
theorem IV.row (h : IV w c k ds sl el bl im ac tp) : IV (rowA w x y z).2 c k ds sl el bl im ac tp := by
  unfold rowA
  by_cases h1 : (0 ≤ x ∧ x < w.1 2) ∧ (0 ≤ y ∧ y ≤ 3)
  · rw [if_pos h1]
    by_cases h2 : 0 ≤ z ∧ z ≤ 9
    · rw [if_pos h2]
      by_cases h3 : w.2.2.2 (nn x) 0 = 6
      · rw [if_pos h3]
        obtain ⟨N, P, R, hN, hP, hR, e0, e2, e4⟩ := h.cnt
        obtain ⟨i, hi, e⟩ := of_lit (n := P) (by rw [← e2]; exact h1.1) (by omega)
        obtain ⟨b, hb, e'⟩ := of_lit2 (n := 3) h1.2 (by decide)
        obtain ⟨a, ha, e''⟩ := of_lit2 (n := 9) h2 (by decide)
        rw [e, e', e'', nnI (by omega), nnI (by omega)]
        exact h.wd (h.1.1.row e2 hP hi ha (by omega)) (Nat.le_refl _) (Nat.le_refl _)
      · rw [if_neg h3]; exact h
    · rw [if_neg h2]; exact h
  · rw [if_neg h1]; exact h
theorem IV.round (h : IV w c k ds sl el bl im ac tp) : IV (roundA w x).2 c k ds sl el bl im ac tp := by
  unfold roundA
  by_cases h1 : x = -1
  · rw [if_pos h1]; exact h.wd h.1.1.endd (Nat.le_refl _) (Nat.le_refl _)
  · rw [if_neg h1]
    by_cases h2 : 0 ≤ x ∧ x < w.1 0
    · rw [if_pos h2]
      by_cases h3 : w.1 4 = 6
      · rw [if_pos h3]; exact h
      · rw [if_neg h3]
        obtain ⟨N, P, R, hN, hP, hR, e0, e2, e4⟩ := h.cnt
        obtain ⟨i, hi, e⟩ := of_lit (n := N) (by rw [← e0]; exact h2) (by omega)
        rw [e]
        exact h.wd (h.1.1.round e0 hN hi h3) (Nat.le_refl _) (Nat.le_refl _)
    · rw [if_neg h2]; exact h
theorem mins_0v {er : (Nat → Int32) → Int32} : ∀ (n : Nat) (w : WD), (minsW er n w).1 0 = w.1 0
  | 0, w => rfl
  | n + 1, w => by
    refine (mins_0v n (minuteW er w)).trans ?_
    show (if (0 : Nat) = 6 then w.1 6 + 1 else roundF w.1 w.2.1 w.2.2.1 0) = w.1 0
    rw [if_neg (by decide)]
    unfold roundF
    split
    · rw [if_neg (by decide)]
    · split
      · split
        · rw [if_neg (by decide), if_neg (by decide), if_neg (by decide)]
        · rw [if_neg (by decide)]
      · rfl
theorem WJ.at {T : Nat} {w : WD} (h : WJ T w) : ∃ a, a ≤ T ∧ w.1 6 = nI a ∧ WJ a w := by
  obtain ⟨N, P, R, hN, hP, hR, h0, h2, h4, h5, ⟨a, ha, h6⟩, r⟩ := h
  exact ⟨a, ha, h6, N, P, R, hN, hP, hR, h0, h2, h4, h5, ⟨a, Nat.le_refl a, h6⟩, r⟩
theorem IV.pass {er : (Nat → Int32) → Int32} (h : IV w c k ds sl el bl im ac tp) : IV (passA er w x).2 c k ds sl el bl im ac tp := by
  unfold passA
  by_cases h1 : 0 ≤ x ∧ x ≤ 60
  · rw [if_pos h1]
    by_cases h2 : 9999 < w.1 6 + x
    · rw [if_pos h2]; exact h
    · rw [if_neg h2]
      obtain ⟨n, hn, e⟩ := of_lit2 (n := 60) h1 (by decide)
      obtain ⟨a, ha, h6, hwa⟩ := h.1.1.at
      have hs : a + n ≤ 9999 := by
        rw [h6, e, sm_add] at h2
        rcases Nat.lt_or_ge 9999 (a + n) with q | q
        · exact absurd ((sm_lt_iff (a := 9999) (b := a + n) (by decide) (by omega)).mpr q) h2
        · exact q
      rw [e, nnI (by omega)]
      refine h.wd ((WJ.mins n a w hwa (by omega)).mono hs) ?_ ?_
      · rw [mins_0v]; exact Nat.le_refl _
      · rw [mins_2]; exact Nat.le_refl _
  · rw [if_neg h1]; exact h
theorem IV.see (h : IV w c k ds sl el bl im ac tp) : IV w c k ds (seeA w sl x z y).2 el bl im ac tp := by
  obtain ⟨⟨a1, a2, a3, a4⟩, r⟩ := h
  unfold seeA
  by_cases h0 : x = -1
  · rw [if_pos h0]; exact ⟨⟨a1, Nat.zero_le _, fun q hq => absurd hq (by simp), a4⟩, r⟩
  · rw [if_neg h0]
    by_cases h1 : 0 ≤ x ∧ x < w.1 2
    · rw [if_pos h1]
      by_cases h2 : 0 ≤ y ∧ y ≤ 20
      · rw [if_pos h2]
        by_cases h3 : sl.length = 5
        · rw [if_pos h3]; exact ⟨⟨a1, a2, a3, a4⟩, r⟩
        · rw [if_neg h3]
          have a1' := a1
          obtain ⟨N, P, R, hN, hP, hR, e0, e2, -⟩ := a1'
          obtain ⟨i, hi, e⟩ := of_lit (n := P) (by rw [← e2]; exact h1) (by omega)
          obtain ⟨b, hb, e'⟩ := of_lit2 (n := 20) h2 (by decide)
          refine ⟨⟨a1, by show (sl ++ [_]).length ≤ 5; rw [List.length_append, List.length_singleton]; omega, fun q hq => ?_, a4⟩, r⟩
          rcases List.mem_append.mp hq with q1 | q1
          · exact a3 q q1
          · rw [List.mem_singleton.mp q1, e2, e, e', nnI (by omega), nnI (by omega), nnI (by omega)]
            exact ⟨hi, hb⟩
      · rw [if_neg h2]; exact ⟨⟨a1, a2, a3, a4⟩, r⟩
    · rw [if_neg h1]; exact ⟨⟨a1, a2, a3, a4⟩, r⟩
theorem IV.book (h : IV w c k ds sl el bl im ac tp) : IV w c k ds sl el (bookA w bl x y).2 im ac tp := by
  obtain ⟨⟨a1, a2, a3, a4, a5, a6, a7⟩, r⟩ := h
  unfold bookA
  by_cases h0 : x = -1
  · rw [if_pos h0]; exact ⟨⟨a1, a2, a3, a4, a5, Nat.zero_le _, fun q hq => absurd hq (by simp)⟩, r⟩
  · rw [if_neg h0]
    by_cases h1 : 0 ≤ x ∧ x < w.1 2
    · rw [if_pos h1]
      by_cases h2 : 0 ≤ y ∧ y < 30
      · rw [if_pos h2]
        by_cases h3 : bl.length = 8
        · rw [if_pos h3]; exact ⟨⟨a1, a2, a3, a4, a5, a6, a7⟩, r⟩
        · rw [if_neg h3]
          have a1' := a1
          obtain ⟨N, P, R, hN, hP, hR, e0, e2, -⟩ := a1'
          obtain ⟨i, hi, e⟩ := of_lit (n := P) (by rw [← e2]; exact h1) (by omega)
          obtain ⟨b, hb, e'⟩ := of_lit (n := 30) h2 (by decide)
          refine ⟨⟨a1, a2, a3, a4, a5, by show (bl ++ [_]).length ≤ 8; rw [List.length_append, List.length_singleton]; omega, fun q hq => ?_⟩, r⟩
          rcases List.mem_append.mp hq with q1 | q1
          · exact a7 q q1
          · rw [List.mem_singleton.mp q1, e2, e, e', nnI (by omega), nnI (by omega), nnI (by omega)]
            exact ⟨hi, hb⟩
      · rw [if_neg h2]; exact ⟨⟨a1, a2, a3, a4, a5, a6, a7⟩, r⟩
    · rw [if_neg h1]; exact ⟨⟨a1, a2, a3, a4, a5, a6, a7⟩, r⟩
theorem IV.even (h : IV w c k ds sl el bl im ac tp) : IV w c k ds sl (evenA w el x y).2 bl im ac tp := by
  obtain ⟨⟨a1, a2, a3, a4, a5, a6, a7⟩, r⟩ := h
  unfold evenA
  by_cases h0 : x = -1
  · rw [if_pos h0]; exact ⟨⟨a1, a2, a3, Nat.zero_le _, fun q hq => absurd hq (by simp), a6, a7⟩, r⟩
  · rw [if_neg h0]
    by_cases h1 : (0 ≤ x ∧ x ≤ 3) ∧ (1 ≤ x ∧ x ≤ 2 → 0 ≤ y ∧ y < w.1 0) ∧ (x = 3 → 0 ≤ y ∧ y < w.1 2)
    · rw [if_pos h1]
      by_cases h3 : el.length = 10
      · rw [if_pos h3]; exact ⟨⟨a1, a2, a3, a4, a5, a6, a7⟩, r⟩
      · rw [if_neg h3]
        have a1' := a1
        obtain ⟨N, P, R, hN, hP, hR, e0, e2, -⟩ := a1'
        obtain ⟨i, hi, e⟩ := of_lit2 (n := 3) h1.1 (by decide)
        refine ⟨⟨a1, a2, a3, by show (el ++ [_]).length ≤ 10; rw [List.length_append, List.length_singleton]; omega, fun q hq => ?_, a6, a7⟩, r⟩
        rcases List.mem_append.mp hq with q1 | q1
        · exact a5 q q1
        · rw [List.mem_singleton.mp q1]
          show nn x ≤ 3 ∧ (nn x = 1 ∨ nn x = 2 → nn y < nn (w.1 0)) ∧ (nn x = 3 → nn y < nn (w.1 2))
          have hnx : nn x = i := by rw [e]; exact nnI (by omega)
          rw [hnx, e0, e2, nnI (by omega), nnI (by omega)]
          refine ⟨hi, fun q => ?_, fun q => ?_⟩
          · have hh := h1.2.1 (by rw [e]; rcases q with q | q <;> rw [q] <;> decide)
            obtain ⟨b, hb, e'⟩ := of_lit (n := N) (by rw [← e0]; exact hh) (by omega)
            rw [e', nnI (by omega)]; exact hb
          · have hh := h1.2.2 (by rw [e, q]; rfl)
            obtain ⟨b, hb, e'⟩ := of_lit (n := P) (by rw [← e2]; exact hh) (by omega)
            rw [e', nnI (by omega)]; exact hb
    · rw [if_neg h1]; exact ⟨⟨a1, a2, a3, a4, a5, a6, a7⟩, r⟩
theorem IV.image (h : IV w c k ds sl el bl im ac tp) : IV w c k ds sl el bl (some (c, w, sl, el, bl)) ac tp := ⟨h.1, h.2.1, h.2.2.1, ⟨h.1, h.2.1⟩, h.2.2.2.2⟩
theorem IV.undo (h : IV w c k ds sl el bl im ac tp) : IV (undW im w) (undC im c) k ds (undS im sl) (undE im el) (undB im bl) im ac tp := by
  cases im with
  | none => exact h
  | some q => exact ⟨h.2.2.2.1.1, h.2.2.2.1.2, h.2.2⟩
theorem IV.act (h : IV w c k ds sl el bl im ac tp) : IV w c k ds sl el bl im (actA w x y z).2 tp := by
  refine ⟨h.1, h.2.1, h.2.2.1, h.2.2.2.1, ?_, h.2.2.2.2.2⟩
  unfold actA
  have l1 := wt_l (nn (w.2.2.2 (nn x) 0))
  have l2 := wk_l (nn (w.2.2.2 (nn x) 0))
  have l3 := tt_l (nn (w.2.2.2 (nn x) 0))
  split
  · split
    · show (wtT _).length ≤ 20
      omega
    · split
      · show (wkT _).length ≤ 20
        omega
      · show (ttT _).length ≤ 20
        omega
  · exact Nat.zero_le _
theorem TIV.up (h : TIV tp) {i n : Nat} {s : Int32} {f : Nat → Int64} (hn : n ≤ 60) (hs : s = -1 ∨ ∃ a, a ≤ 4 ∧ s = nI a) (h0 : s = -1 → n = 0) : TIV (upT tp i (s, n, f)) := fun j hj => by
  unfold upT
  by_cases e : j = i
  · rw [if_pos e]; exact ⟨hn, hs, h0⟩
  · rw [if_neg e]; exact h j hj
theorem IV.tpe {tp' : TP} (h : IV w c k ds sl el bl im ac tp) (ht : TIV tp') : IV w c k ds sl el bl im ac tp' := ⟨h.1, h.2.1, h.2.2.1, h.2.2.2.1, h.2.2.2.2.1, ht⟩
theorem IV.tape (h : IV w c k ds sl el bl im ac tp) : IV w c k ds sl el bl im ac (tapeA tp x y z).2 := by
  have ht := h.2.2.2.2.2
  unfold tapeA
  by_cases h1 : 0 ≤ x ∧ x ≤ 5
  · rw [if_pos h1]
    by_cases h2 : y = -1
    · rw [if_pos h2]; exact h.tpe (ht.up (Nat.zero_le _) (Or.inl rfl) (fun _ => rfl))
    · rw [if_neg h2]
      by_cases h3 : (0 ≤ y ∧ y ≤ 4) ∧ z ≤ 60
      · rw [if_pos h3]
        by_cases h4 : z < 0
        · rw [if_pos h4]; exact h
        · rw [if_neg h4]
          obtain ⟨n, hn, e⟩ := of_lit2 (n := 60) ⟨Int32.not_lt.mp h4, h3.2⟩ (by decide)
          obtain ⟨b, hb, e'⟩ := of_lit2 (n := 4) h3.1 (by decide)
          exact h.tpe (ht.up (by rw [e, nnI (by omega)]; exact hn) (Or.inr ⟨b, hb, e'⟩) (fun q => absurd q h2))
      · rw [if_neg h3]; exact h
  · rw [if_neg h1]; exact h
theorem IV.item {q : Int64} (h : IV w c k ds sl el bl im ac tp) : IV w c k ds sl el bl im ac (itemA tp x y q).2 := by
  have ht := h.2.2.2.2.2
  unfold itemA
  by_cases h1 : 0 ≤ x ∧ x ≤ 5
  · rw [if_pos h1]
    obtain ⟨i, hi, e⟩ := of_lit2 (n := 5) h1 (by decide)
    obtain ⟨t1, t2, t3⟩ := ht (nn x) (by rw [e, nnI (by omega)]; omega)
    by_cases h2 : (tp (nn x)).1 = -1
    · rw [if_pos h2]; exact h
    · rw [if_neg h2]
      by_cases h3 : 0 ≤ y ∧ y < nI (tp (nn x)).2.1
      · rw [if_pos h3]; exact h.tpe (ht.up t1 t2 t3)
      · rw [if_neg h3]; exact h
  · rw [if_neg h1]; exact h
theorem IV.shift (h : IV w c k ds sl el bl im ac tp) : IV w c k ds sl el bl im ac (shiftA tp x y u v z).2 := by
  have ht := h.2.2.2.2.2
  unfold shiftA
  by_cases h1 : (0 ≤ x ∧ x ≤ 5) ∧ (0 ≤ u ∧ u ≤ 5)
  · rw [if_pos h1]
    obtain ⟨i, hi, e⟩ := of_lit2 (n := 5) h1.2 (by decide)
    obtain ⟨t1, t2, t3⟩ := ht (nn u) (by rw [e, nnI (by omega)]; omega)
    by_cases h2 : (tp (nn x)).1 = -1 ∨ (tp (nn u)).1 = -1
    · rw [if_pos h2]; exact h
    · rw [if_neg h2]
      by_cases h3 : (tp (nn x)).1 = (tp (nn u)).1
      · rw [if_pos h3]
        by_cases h4 : 0 ≤ z ∧ 0 ≤ y ∧ 0 ≤ v ∧ nn y + nn z ≤ (tp (nn x)).2.1 ∧ nn v + nn z ≤ (tp (nn u)).2.1
        · rw [if_pos h4]; exact h.tpe (ht.up t1 t2 t3)
        · rw [if_neg h4]; exact h
      · rw [if_neg h3]; exact h
  · rw [if_neg h1]; exact h
theorem IIV.up {k' : Nat} (h : IIV k im) (hk : k ≤ k') : IIV k' im := by
  cases im with
  | none => exact h
  | some q => exact ⟨h.1, Nat.le_trans h.2 hk⟩
theorem IV.dusk {T : Nat → Nat} {L : Nat} {mi : Nat → Nat → Int32} {ml : Nat → Nat → Int64} {D : Nat → Nat} (h : IV w c k ds sl el bl im ac tp) (hc : CR (duskA w c k ds T L).2.1 (duskA w c k ds T L).2.2.1 (duskA w c k ds T L).2.2.2.1 (duskA w c k ds T L).2.2.2.2.1 sl el bl im T (duskA w c k ds T L).2.2.2.2.2 ac tp mi ml D) : IV (duskA w c k ds T L).2.1 (duskA w c k ds T L).2.2.1 (duskA w c k ds T L).2.2.2.1 (duskA w c k ds T L).2.2.2.2.1 sl el bl im ac tp := by
  have hk6 := h.2.2.1
  by_cases h6 : k = 6
  · have e : duskA w c k ds T L = (-4, w, c, k, ds, L) := by unfold duskA; rw [if_pos h6]
    rw [e]; exact h
  · cases hr : txR T L 10 0 [] with
    | none =>
      have e : duskA w c k ds T L = (0, w, c, k, ds, L) := by unfold duskA; rw [if_neg h6, hr]
      rw [e]; exact h
    | some r =>
      by_cases r1 : r.1 = true
      · have e : duskA w c k ds T L = (nI k, duW r.2.2 w, k + 1, k + 1, (fun j => if j = k then r.2.2 else ds j), 0) := by unfold duskA; rw [if_neg h6, hr]; exact if_pos r1
        rw [e] at hc ⊢
        have hd : ∀ q ∈ r.2.2, okC q := by
          have := (hc.dc (q := k + 1) (Nat.le_refl _)).2.2.2.2.2
          unfold cuL at this
          rw [if_neg (Nat.succ_ne_zero k)] at this
          simpa using this
        obtain ⟨v1, v2, v3, v4, v5⟩ := h
        exact ⟨v1.w (v1.1.du hd) (Nat.le_refl _) (Nat.le_refl _), Nat.le_refl _, by show k + 1 ≤ 6; omega, IIV.up v4 (Nat.le_succ k), v5⟩
      · have e : duskA w c k ds T L = (-10 - nI r.2.1, w, c, k, ds, 0) := by unfold duskA; rw [if_neg h6, hr]; exact if_neg r1
        rw [e]; exact h
end VV
