/-! the reference: calls that ask, and rows told by hand -/
/-! answers -/
noncomputable def onA (er : (Nat → Int32) → Int32) (w : WD) (z x : Int32) : Int32 := if (0 ≤ x ∧ x ≤ 2) ∨ (10 ≤ x ∧ x < nI (10 + nn (w.1 2))) ∨ (20 ≤ x ∧ x < nI (20 + nn (w.1 2))) then (if 0 ≤ z ∧ z ≤ 99 then onV (minsW er (nn z) w) x else -2) else -1
noncomputable def stayA (er : (Nat → Int32) → Int32) (w : WD) : Int32 := (((1 : Int32) <<< (w.1 2 &&& 31)) - 1) &&& (outW (minsW er 99 w) ^^^ -1)
noncomputable def hidesA (er : (Nat → Int32) → Int32) (w : WD) (x : Int32) : Int32 := if 0 ≤ x ∧ x < w.1 2 then hdF (fun n => (minsW er 30 (putW (nn x) (nI n) w)).2.2.2 (nn x) 5) 30 0 0 else -1
noncomputable def whereA (cl : CL) (sl : SL) (w : WD) (x z : Int32) : Int32 := if (0 ≤ x ∧ x < w.1 2) ∧ (0 ≤ z ∧ z ≤ 1) then (if z = 0 then nI (cntR (whB cl sl (nn x) w) 0 30) else fstR (whB cl sl (nn x) w) 0 30) else -1
noncomputable def canA (cl : CL) (sl : SL) (w : WD) (x z : Int32) : Int32 := if (0 ≤ x ∧ x < w.1 2) ∧ (0 ≤ z ∧ z ≤ 1) then (if z = 0 then nI (cntR (caB cl sl (nn x) w) 0 10) else fstR (caB cl sl (nn x) w) 0 10) else -1
noncomputable def oddsA (er : (Nat → Int32) → Int32) (w : WD) (x z : Int32) : Int64 := if (0 ≤ x ∧ x ≤ 99) ∧ (0 ≤ z ∧ z ≤ 1) ∧ 0 < nn (w.1 2) then fracA (cntR (odB er (nn x) w) 0 (nn (w.1 2))) (nn (w.1 2)) z else -9223372036854775808
noncomputable def meanA (er : (Nat → Int32) → Int32) (w : WD) (x z : Int32) : Int64 := if (1 ≤ x ∧ x ≤ 60) ∧ (0 ≤ z ∧ z ≤ 1) then fracA (meanN er (nn x) w) (nn x) z else -9223372036854775808
noncomputable def goneA (er : (Nat → Int32) → Int32) (el : EL) (w : WD) (x : Int32) : Int32 := if 0 ≤ x ∧ x ≤ 1 then (if x = 0 then outW (evF er el w) else (evF er el w).1 1) else -1
def seeA (w : WD) (sl : SL) (x z y : Int32) : Int32 × SL := if x = -1 then (0, []) else if 0 ≤ x ∧ x < w.1 2 then (if 0 ≤ y ∧ y ≤ 20 then (if sl.length = 5 then (-4, sl) else (nI (sl.length + 1), sl ++ [(nn x, nn y, decide (¬ z = 0))])) else (-2, sl)) else (-1, sl)
def evenA (w : WD) (el : EL) (x y : Int32) : Int32 × EL := if x = -1 then (0, []) else if (0 ≤ x ∧ x ≤ 3) ∧ (1 ≤ x ∧ x ≤ 2 → 0 ≤ y ∧ y < w.1 0) ∧ (x = 3 → 0 ≤ y ∧ y < w.1 2) then (if el.length = 10 then (-4, el) else (nI (el.length + 1), el ++ [(nn x, nn y)])) else (-1, el)
def bookA (w : WD) (bl : EL) (x y : Int32) : Int32 × EL := if x = -1 then (0, []) else if 0 ≤ x ∧ x < w.1 2 then (if 0 ≤ y ∧ y < 30 then (if bl.length = 8 then (-4, bl) else (nI (bl.length + 1), bl ++ [(nn x, nn y)])) else (-2, bl)) else (-1, bl)
def lkF (w : WD) : EL → Nat → Int32
  | [], _ => -5
  | q :: l, k => if w.2.2.2 q.1 2 = nI q.2 then lkF w l (k + 1) else nI k
/-! what they need -/
theorem mins_8 {er : (Nat → Int32) → Int32} : ∀ (n : Nat) (w : WD), w.1 8 = 0 → (minsW er n w).1 8 = 0
  | 0, w, h => h
  | n + 1, w, h => by
    refine mins_8 n (minuteW er w) ?_
    show (if (8 : Nat) = 6 then w.1 6 + 1 else roundF w.1 w.2.1 w.2.2.1 8) = 0
    rw [if_neg (by decide)]
    unfold roundF
    rw [h, if_neg (by decide)]
    split
    · split
      · rw [if_neg (by decide), if_neg (by decide), if_neg (by decide)]
      · rw [if_neg (by decide)]
    · rfl
theorem ME.of133 {mi m : Nat → Nat → Int32} (h : ∀ a, a ≠ 133 → m a = mi a) : ME mi m := ⟨fun a ha => h a (by omega), fun f _ => by rw [h 116 (by decide)], fun j _ => by rw [h 120 (by decide), h 121 (by decide), h 123 (by decide)]; exact ⟨rfl, rfl, rfl⟩⟩
theorem SLm.p {mi : Nat → Nat → Int32} {sl : SL} {P : Nat} (h : SLm mi 49 138 139 140 sl) (h5 : sl.length ≤ 5) (hb : ∀ q ∈ sl, q.1 < P ∧ q.2.1 ≤ 20) : SLM mi P sl := ⟨h5, h.1, fun j q hj => ⟨(h.2 j q hj).1, (h.2 j q hj).2.1, (h.2 j q hj).2.2, hb q (List.mem_of_getElem? hj)⟩⟩
theorem ELm.p {mi : Nat → Nat → Int32} {el : EL} {N P : Nat} (h : ELm mi 53 141 142 el) (h5 : el.length ≤ 10) (hb : ∀ q ∈ el, q.1 ≤ 3 ∧ (q.1 = 1 ∨ q.1 = 2 → q.2 < N) ∧ (q.1 = 3 → q.2 < P)) : ELM mi N P el := ⟨h5, h.1, fun j q hj => ⟨(h.2 j q hj).1, (hb q (List.mem_of_getElem? hj)).1, (h.2 j q hj).2, (hb q (List.mem_of_getElem? hj)).2⟩⟩
theorem snoc_get {α : Type} {l : List α} {a v : α} {j : Nat} (h : (l ++ [a])[j]? = some v) : (j < l.length ∧ l[j]? = some v) ∨ (j = l.length ∧ v = a) := by
  rcases Nat.lt_trichotomy j l.length with q | q | q
  · rw [List.getElem?_append_left q] at h
    exact Or.inl ⟨q, h⟩
  · subst q
    rw [List.getElem?_append_right (Nat.le_refl _), Nat.sub_self] at h
    exact Or.inr ⟨rfl, (Option.some.inj h).symm⟩
  · rw [List.getElem?_eq_none (by rw [List.length_append, List.length_cons, List.length_nil]; omega)] at h
    exact absurd h (by simp)

set_option maxHeartbeats 4000000 in
theorem MC_on {G : rn_G} {d : Nat} {κ : Nat × Nat} {Q : Option Value → rn_S → Prop} {mi : Nat → Nat → Int32} {ml : Nat → Nat → Int64} {D : Nat → Nat} {z x : Int32} {w : WD} {c k : Nat} {ds : Nat → CL} {sl : SL} {el bl : EL} {im : IM} {T : Nat → Nat} {L : Nat} {ac : List Int32} {tp : TP} (hv : IV w c k ds sl el bl im ac tp) (hr : MR w c k ds sl el bl im T L ac tp mi ml) (h : ∀ m l, LO mi m ml l → MR w c k ds sl el bl im T L ac tp m l → Q (some (.int (onA (erA (cuL ds c)) w z x))) (m, l, RF D, 164))  : Call G (d + 30) M_X9_on [.ref 116, .int z, .int x] (mi, ml, RF D, 164) κ Q := by
  have hB := hr.1
  have hw := hv.1.1
  have hk6 := hv.2.2.1
  obtain ⟨N, P, R, ⟨hN, hP, hR, hg, hpp, hrr, hdn, hmn, hkp, hwt, hgp, htr⟩, hpc, hbits, hPJ⟩ := hB.n hw
  obtain ⟨w0, w1, w2, w3, w4, w5, w6, w10⟩ := hB.cells
  have nP : nn (w.1 2) = P := by rw [w2, hpp]; exact nnI (by omega)
  unfold onA at h
  rw [nP] at h
  refine M_on (T := 9999) hB hw (by decide) hpp hP (fun q => ?_) (fun q1 q2 => ?_) (fun n m q1 q2 q3 hm => ?_)
  · have q : ¬ ((0 ≤ x ∧ x ≤ 2) ∨ (10 ≤ x ∧ x < nI (10 + P)) ∨ (20 ≤ x ∧ x < nI (20 + P))) := q
    rw [if_neg q] at h
    exact h mi ml (LO.refl _ _) hr
  · have q1 : (0 ≤ x ∧ x ≤ 2) ∨ (10 ≤ x ∧ x < nI (10 + P)) ∨ (20 ≤ x ∧ x < nI (20 + P)) := q1
    rw [if_pos q1, if_neg q2] at h
    exact h mi ml (LO.refl _ _) hr
  · have q1 : (0 ≤ x ∧ x ≤ 2) ∨ (10 ≤ x ∧ x < nI (10 + P)) ∨ (20 ≤ x ∧ x < nI (20 + P)) := q1
    have q4 : 0 ≤ z ∧ z ≤ 99 := by rw [q2]; exact ⟨Int32.not_lt.mp (nI_pos (by omega)), (sm_le_iff (b := 99) (by omega) (by decide)).mpr q3⟩
    rw [if_pos q1, if_pos q4, q2, nnI (by omega)] at h
    exact h m ml hm.lo (hr.me hw hm)

set_option maxHeartbeats 4000000 in
theorem MC_clear {G : rn_G} {d : Nat} {κ : Nat × Nat} {Q : Option Value → rn_S → Prop} {mi : Nat → Nat → Int32} {ml : Nat → Nat → Int64} {D : Nat → Nat} {w : WD} {c k : Nat} {ds : Nat → CL} {sl : SL} {el bl : EL} {im : IM} {T : Nat → Nat} {L : Nat} {ac : List Int32} {tp : TP} (hv : IV w c k ds sl el bl im ac tp) (hr : MR w c k ds sl el bl im T L ac tp mi ml) (h : ∀ m l, LO mi m ml l → MR w c k ds sl el bl im T L ac tp m l → Q (some (.int (clF (erA (cuL ds c)) 100 0 w))) (m, l, RF D, 164))  : Call G (d + 30) M_X9_clear [.ref 116] (mi, ml, RF D, 164) κ Q := by
  have hB := hr.1
  have hw := hv.1.1
  have hk6 := hv.2.2.1
  obtain ⟨N, P, R, ⟨hN, hP, hR, hg, hpp, hrr, hdn, hmn, hkp, hwt, hgp, htr⟩, hpc, hbits, hPJ⟩ := hB.n hw
  obtain ⟨w0, w1, w2, w3, w4, w5, w6, w10⟩ := hB.cells
  exact M_clear (T := 9999) hB hw (by decide) (fun m hm => h m ml hm.lo (hr.me hw hm))

set_option maxHeartbeats 4000000 in
theorem MC_stay {G : rn_G} {d : Nat} {κ : Nat × Nat} {Q : Option Value → rn_S → Prop} {mi : Nat → Nat → Int32} {ml : Nat → Nat → Int64} {D : Nat → Nat} {w : WD} {c k : Nat} {ds : Nat → CL} {sl : SL} {el bl : EL} {im : IM} {T : Nat → Nat} {L : Nat} {ac : List Int32} {tp : TP} (hv : IV w c k ds sl el bl im ac tp) (hr : MR w c k ds sl el bl im T L ac tp mi ml) (h : ∀ m l, LO mi m ml l → MR w c k ds sl el bl im T L ac tp m l → Q (some (.int (stayA (erA (cuL ds c)) w))) (m, l, RF D, 164))  : Call G (d + 30) M_X9_stay [.ref 116] (mi, ml, RF D, 164) κ Q := by
  have hB := hr.1
  have hw := hv.1.1
  have hk6 := hv.2.2.1
  obtain ⟨N, P, R, ⟨hN, hP, hR, hg, hpp, hrr, hdn, hmn, hkp, hwt, hgp, htr⟩, hpc, hbits, hPJ⟩ := hB.n hw
  obtain ⟨w0, w1, w2, w3, w4, w5, w6, w10⟩ := hB.cells
  unfold stayA at h
  rw [w2] at h
  exact M_stay (T := 9999) hB hw (by decide) hpp hP (fun m hm => h m ml hm.lo (hr.me hw hm))

set_option maxHeartbeats 4000000 in
theorem MC_best {G : rn_G} {d : Nat} {κ : Nat × Nat} {Q : Option Value → rn_S → Prop} {mi : Nat → Nat → Int32} {ml : Nat → Nat → Int64} {D : Nat → Nat} {x : Int32} {w : WD} {c k : Nat} {ds : Nat → CL} {sl : SL} {el bl : EL} {im : IM} {T : Nat → Nat} {L : Nat} {ac : List Int32} {tp : TP} (hv : IV w c k ds sl el bl im ac tp) (hr : MR w c k ds sl el bl im T L ac tp mi ml) (h : ∀ m l, LO mi m ml l → MR w c k ds sl el bl im T L ac tp m l → Q (some (.int (bestA (cuL ds c) w x))) (m, l, RF D, 164))  : Call G (d + 30) M_X9_best [.ref 116, .int x] (mi, ml, RF D, 164) κ Q := by
  have hB := hr.1
  have hw := hv.1.1
  have hk6 := hv.2.2.1
  obtain ⟨N, P, R, ⟨hN, hP, hR, hg, hpp, hrr, hdn, hmn, hkp, hwt, hgp, htr⟩, hpc, hbits, hPJ⟩ := hB.n hw
  obtain ⟨w0, w1, w2, w3, w4, w5, w6, w10⟩ := hB.cells
  exact M_best (T := 9999) hB hw (by decide) hrr hR hg hN (fun m hm => h m ml hm.lo (hr.me hw hm))

set_option maxHeartbeats 4000000 in
theorem MC_hides {G : rn_G} {d : Nat} {κ : Nat × Nat} {Q : Option Value → rn_S → Prop} {mi : Nat → Nat → Int32} {ml : Nat → Nat → Int64} {D : Nat → Nat} {x : Int32} {w : WD} {c k : Nat} {ds : Nat → CL} {sl : SL} {el bl : EL} {im : IM} {T : Nat → Nat} {L : Nat} {ac : List Int32} {tp : TP} (hv : IV w c k ds sl el bl im ac tp) (hr : MR w c k ds sl el bl im T L ac tp mi ml) (h : ∀ m l, LO mi m ml l → MR w c k ds sl el bl im T L ac tp m l → Q (some (.int (hidesA (erA (cuL ds c)) w x))) (m, l, RF D, 164))  : Call G (d + 30) M_X9_hides [.ref 116, .int x] (mi, ml, RF D, 164) κ Q := by
  have hB := hr.1
  have hw := hv.1.1
  have hk6 := hv.2.2.1
  obtain ⟨N, P, R, ⟨hN, hP, hR, hg, hpp, hrr, hdn, hmn, hkp, hwt, hgp, htr⟩, hpc, hbits, hPJ⟩ := hB.n hw
  obtain ⟨w0, w1, w2, w3, w4, w5, w6, w10⟩ := hB.cells
  have eP : w.1 2 = nI P := by rw [w2]; exact hpp
  unfold hidesA at h
  rw [eP] at h
  refine M_hides (T := 9999) hB hw (by decide) hpp hP (fun q => ?_) (fun i m q1 q2 hm => ?_)
  · rw [if_neg q] at h
    exact h mi ml (LO.refl _ _) hr
  · rw [if_pos (by rw [q1]; exact ⟨Int32.not_lt.mp (nI_pos (by omega)), (sm_lt_iff (by omega) (by omega)).mpr q2⟩), q1, nnI (by omega)] at h
    exact h m ml hm.lo (hr.me hw hm)

set_option maxHeartbeats 4000000 in
theorem MC_where {G : rn_G} {d : Nat} {κ : Nat × Nat} {Q : Option Value → rn_S → Prop} {mi : Nat → Nat → Int32} {ml : Nat → Nat → Int64} {D : Nat → Nat} {x z : Int32} {w : WD} {c k : Nat} {ds : Nat → CL} {sl : SL} {el bl : EL} {im : IM} {T : Nat → Nat} {L : Nat} {ac : List Int32} {tp : TP} (hv : IV w c k ds sl el bl im ac tp) (hr : MR w c k ds sl el bl im T L ac tp mi ml) (h : ∀ m l, LO mi m ml l → MR w c k ds sl el bl im T L ac tp m l → Q (some (.int (whereA (cuL ds c) sl w x z))) (m, l, RF D, 164))  : Call G (d + 30) M_X9_where [.ref 116, .int x, .int z] (mi, ml, RF D, 164) κ Q := by
  have hB := hr.1
  have hw := hv.1.1
  have hk6 := hv.2.2.1
  obtain ⟨N, P, R, ⟨hN, hP, hR, hg, hpp, hrr, hdn, hmn, hkp, hwt, hgp, htr⟩, hpc, hbits, hPJ⟩ := hB.n hw
  obtain ⟨w0, w1, w2, w3, w4, w5, w6, w10⟩ := hB.cells
  have nP : nn (w.1 2) = P := by rw [w2, hpp]; exact nnI (by omega)
  have hsl := hr.2.2.1.p (P := P) hv.1.2.1 (fun q hq => by have := hv.1.2.2.1 q hq; rw [nP] at this; exact this)
  have eP : w.1 2 = nI P := by rw [w2]; exact hpp
  unfold whereA at h
  rw [eP] at h
  refine M_where (T := 9999) hB hw (by decide) hpp hP hsl (fun q => ?_) (fun i m q1 q2 q3 hm => ?_)
  · rw [if_neg q] at h
    exact h mi ml (LO.refl _ _) hr
  · rw [if_pos (by rw [q1]; exact ⟨⟨Int32.not_lt.mp (nI_pos (by omega)), (sm_lt_iff (by omega) (by omega)).mpr q2⟩, q3⟩), q1, nnI (by omega)] at h
    exact h m ml hm.lo (hr.me hw hm)

set_option maxHeartbeats 4000000 in
theorem MC_can {G : rn_G} {d : Nat} {κ : Nat × Nat} {Q : Option Value → rn_S → Prop} {mi : Nat → Nat → Int32} {ml : Nat → Nat → Int64} {D : Nat → Nat} {x z : Int32} {w : WD} {c k : Nat} {ds : Nat → CL} {sl : SL} {el bl : EL} {im : IM} {T : Nat → Nat} {L : Nat} {ac : List Int32} {tp : TP} (hv : IV w c k ds sl el bl im ac tp) (hr : MR w c k ds sl el bl im T L ac tp mi ml) (h : ∀ m l, LO mi m ml l → MR w c k ds sl el bl im T L ac tp m l → Q (some (.int (canA (cuL ds c) sl w x z))) (m, l, RF D, 164))  : Call G (d + 30) M_X9_can [.ref 116, .int x, .int z] (mi, ml, RF D, 164) κ Q := by
  have hB := hr.1
  have hw := hv.1.1
  have hk6 := hv.2.2.1
  obtain ⟨N, P, R, ⟨hN, hP, hR, hg, hpp, hrr, hdn, hmn, hkp, hwt, hgp, htr⟩, hpc, hbits, hPJ⟩ := hB.n hw
  obtain ⟨w0, w1, w2, w3, w4, w5, w6, w10⟩ := hB.cells
  have nP : nn (w.1 2) = P := by rw [w2, hpp]; exact nnI (by omega)
  have hsl := hr.2.2.1.p (P := P) hv.1.2.1 (fun q hq => by have := hv.1.2.2.1 q hq; rw [nP] at this; exact this)
  have eP : w.1 2 = nI P := by rw [w2]; exact hpp
  unfold canA at h
  rw [eP] at h
  refine M_can (T := 9999) hB hw (by decide) hpp hP hsl (fun q => ?_) (fun i m q1 q2 q3 hm => ?_)
  · rw [if_neg q] at h
    exact h mi ml (LO.refl _ _) hr
  · rw [if_pos (by rw [q1]; exact ⟨⟨Int32.not_lt.mp (nI_pos (by omega)), (sm_lt_iff (by omega) (by omega)).mpr q2⟩, q3⟩), q1, nnI (by omega)] at h
    exact h m ml hm.lo (hr.me hw hm)

set_option maxHeartbeats 4000000 in
theorem MC_odds {G : rn_G} {d : Nat} {κ : Nat × Nat} {Q : Option Value → rn_S → Prop} {mi : Nat → Nat → Int32} {ml : Nat → Nat → Int64} {D : Nat → Nat} {x z : Int32} {w : WD} {c k : Nat} {ds : Nat → CL} {sl : SL} {el bl : EL} {im : IM} {T : Nat → Nat} {L : Nat} {ac : List Int32} {tp : TP} (hv : IV w c k ds sl el bl im ac tp) (hr : MR w c k ds sl el bl im T L ac tp mi ml) (h : ∀ m l, LO mi m ml l → MR w c k ds sl el bl im T L ac tp m l → Q (some (.long (oddsA (erA (cuL ds c)) w x z))) (m, l, RF D, 164))  : Call G (d + 30) M_X9_odds [.ref 116, .int x, .int z] (mi, ml, RF D, 164) κ Q := by
  have hB := hr.1
  have hw := hv.1.1
  have hk6 := hv.2.2.1
  obtain ⟨N, P, R, ⟨hN, hP, hR, hg, hpp, hrr, hdn, hmn, hkp, hwt, hgp, htr⟩, hpc, hbits, hPJ⟩ := hB.n hw
  obtain ⟨w0, w1, w2, w3, w4, w5, w6, w10⟩ := hB.cells
  have nP : nn (w.1 2) = P := by rw [w2, hpp]; exact nnI (by omega)
  unfold oddsA at h
  rw [nP] at h
  refine M_odds (T := 9999) hB hw (by decide) hpp hP (fun q => ?_) (fun n m q1 q2 q3 q4 hm => ?_)
  · rw [if_neg q] at h
    exact h mi ml (LO.refl _ _) hr
  · rw [if_pos (by rw [q1]; exact ⟨⟨Int32.not_lt.mp (nI_pos (by omega)), (sm_le_iff (b := 99) (by omega) (by decide)).mpr q2⟩, q3, q4⟩), q1, nnI (by omega)] at h
    exact h m ml hm.lo (hr.me hw hm)

set_option maxHeartbeats 4000000 in
theorem MC_mean {G : rn_G} {d : Nat} {κ : Nat × Nat} {Q : Option Value → rn_S → Prop} {mi : Nat → Nat → Int32} {ml : Nat → Nat → Int64} {D : Nat → Nat} {x z : Int32} {w : WD} {c k : Nat} {ds : Nat → CL} {sl : SL} {el bl : EL} {im : IM} {T : Nat → Nat} {L : Nat} {ac : List Int32} {tp : TP} (hv : IV w c k ds sl el bl im ac tp) (hr : MR w c k ds sl el bl im T L ac tp mi ml) (h : ∀ m l, LO mi m ml l → MR w c k ds sl el bl im T L ac tp m l → Q (some (.long (meanA (erA (cuL ds c)) w x z))) (m, l, RF D, 164))  : Call G (d + 30) M_X9_mean [.ref 116, .int x, .int z] (mi, ml, RF D, 164) κ Q := by
  have hB := hr.1
  have hw := hv.1.1
  have hk6 := hv.2.2.1
  obtain ⟨N, P, R, ⟨hN, hP, hR, hg, hpp, hrr, hdn, hmn, hkp, hwt, hgp, htr⟩, hpc, hbits, hPJ⟩ := hB.n hw
  obtain ⟨w0, w1, w2, w3, w4, w5, w6, w10⟩ := hB.cells
  unfold meanA at h
  refine M_mean (T := 9999) hB hw (by decide) (fun q => ?_) (fun n m q1 q2 q3 q4 hm => ?_)
  · rw [if_neg q] at h
    exact h mi ml (LO.refl _ _) hr
  · rw [if_pos (by rw [q1]; exact ⟨⟨(sm_le_iff (a := 1) (by decide) (by omega)).mpr q2, (sm_le_iff (b := 60) (by omega) (by decide)).mpr q3⟩, q4⟩), q1, nnI (by omega)] at h
    exact h m ml hm.lo (hr.me hw hm)

set_option maxHeartbeats 4000000 in
theorem MC_gone {G : rn_G} {d : Nat} {κ : Nat × Nat} {Q : Option Value → rn_S → Prop} {mi : Nat → Nat → Int32} {ml : Nat → Nat → Int64} {D : Nat → Nat} {x : Int32} {w : WD} {c k : Nat} {ds : Nat → CL} {sl : SL} {el bl : EL} {im : IM} {T : Nat → Nat} {L : Nat} {ac : List Int32} {tp : TP} (hv : IV w c k ds sl el bl im ac tp) (hr : MR w c k ds sl el bl im T L ac tp mi ml) (h : ∀ m l, LO mi m ml l → MR w c k ds sl el bl im T L ac tp m l → Q (some (.int (goneA (erA (cuL ds c)) el w x))) (m, l, RF D, 164))  : Call G (d + 30) M_X9_gone [.ref 116, .int x] (mi, ml, RF D, 164) κ Q := by
  have hB := hr.1
  have hw := hv.1.1
  have hk6 := hv.2.2.1
  obtain ⟨N, P, R, ⟨hN, hP, hR, hg, hpp, hrr, hdn, hmn, hkp, hwt, hgp, htr⟩, hpc, hbits, hPJ⟩ := hB.n hw
  obtain ⟨w0, w1, w2, w3, w4, w5, w6, w10⟩ := hB.cells
  have nP : nn (w.1 2) = P := by rw [w2, hpp]; exact nnI (by omega)
  have nN : nn (w.1 0) = N := by rw [w0, hg]; exact nnI (by omega)
  have hel := hr.2.2.2.1.p (N := N) (P := P) hv.1.2.2.2.1 (fun q hq => by have := hv.1.2.2.2.2.1 q hq; rw [nP, nN] at this; exact this)
  unfold goneA at h
  refine M_gone (T := 9999) hB hw (by decide) hpp hP hg hN hel (fun q => ?_) (fun m q1 hm => ?_)
  · rw [if_neg q] at h
    exact h mi ml (LO.refl _ _) hr
  · rw [if_pos q1] at h
    exact h m ml hm.lo (hr.me hw hm)

set_option maxHeartbeats 4000000 in
theorem MC_pass {G : rn_G} {d : Nat} {κ : Nat × Nat} {Q : Option Value → rn_S → Prop} {mi : Nat → Nat → Int32} {ml : Nat → Nat → Int64} {D : Nat → Nat} {x : Int32} {w : WD} {c k : Nat} {ds : Nat → CL} {sl : SL} {el bl : EL} {im : IM} {T : Nat → Nat} {L : Nat} {ac : List Int32} {tp : TP} (hv : IV w c k ds sl el bl im ac tp) (hr : MR w c k ds sl el bl im T L ac tp mi ml) (h : ∀ m l, LO mi m ml l → MR (passA (erA (cuL ds c)) w x).2 c k ds sl el bl im T L ac tp m l → Q (some (.int (passA (erA (cuL ds c)) w x).1)) (m, l, RF D, 164))  : Call G (d + 30) M_X9_pass [.ref 116, .int x] (mi, ml, RF D, 164) κ Q := by
  have hB := hr.1
  have hw := hv.1.1
  have hk6 := hv.2.2.1
  obtain ⟨N, P, R, ⟨hN, hP, hR, hg, hpp, hrr, hdn, hmn, hkp, hwt, hgp, htr⟩, hpc, hbits, hPJ⟩ := hB.n hw
  obtain ⟨w0, w1, w2, w3, w4, w5, w6, w10⟩ := hB.cells
  unfold passA at h
  rw [w6] at h
  refine M_pass (T := 9999) hB hw (by decide) (fun q => ?_) (fun q1 q2 => ?_) (fun n m q1 q2 q3 hm => ?_)
  · rw [if_neg q] at h
    exact h mi ml (LO.refl _ _) hr
  · rw [if_pos q1, if_pos q2] at h
    exact h mi ml (LO.refl _ _) hr
  · have q4 : 0 ≤ x ∧ x ≤ 60 := by rw [q1]; exact ⟨Int32.not_lt.mp (nI_pos (by omega)), (sm_le_iff (b := 60) (by omega) (by decide)).mpr q2⟩
    rw [if_pos q4, if_neg q3, q1, nnI (by omega)] at h
    obtain ⟨hmf, hmw, hmg⟩ := hm
    rw [hB.2.1] at hmw
    have e6 : m 116 2 = (minsW (erA (cuL ds c)) n w).1 6 := by rw [← hmw]; rfl
    have e34 : m 116 34 = 0 := by
      have q := mins_8 (er := erA (cuL ds c)) n w (by rw [← hB.2.1]; exact hB.2.2.2.2.1)
      rw [← hmw] at q
      exact q
    have hMB : MB m (cuL ds c) (minsW (erA (cuL ds c)) n w) := ⟨hB.1.ext (hmf.2 17 (by omega)) (fun a a1 a2 => hmf.1 a (by omega) (by omega) (by omega) (by omega) (by omega)), hmw, fun i i1 i2 => by rw [hmf.2 1 (by omega)] at i1; rw [hmg i i1 i2]; exact hB.2.2.1 i i1 i2, by rw [hmf.2 33 (by omega)]; exact hB.2.2.2.1, e34, by rw [hmf.2 35 (by omega)]; exact hB.2.2.2.2.2⟩
    refine ret_eq (h m ml (lo_of (fun a ha => hmf.1 a (by omega) (by omega) (by omega) (by omega) (by omega))) (hr.w hMB (fun f f1 f2 => ?_) (fun a a1 a2 => hmf.1 a (by omega) (by omega) (by omega) (by omega) (by omega)))) rfl e6
    by_cases f34 : f = 34
    · rw [f34, e34]; exact hB.2.2.2.2.1.symm
    · exact hmf.2 f (by omega)

theorem MR.see {w : WD} {c k : Nat} {ds : Nat → CL} {sl sl' : SL} {el bl : EL} {im : IM} {T : Nat → Nat} {L : Nat} {ac : List Int32} {tp : TP} {mi mi' : Nat → Nat → Int32} {ml : Nat → Nat → Int64} (h : MR w c k ds sl el bl im T L ac tp mi ml) (hs : SLm mi' 49 138 139 140 sl') (g : ∀ f, f ≠ 49 → mi' 116 f = mi 116 f) (g1 : ∀ a, a ≠ 116 → (a < 138 ∨ 140 < a) → mi' a = mi a) : MR w c k ds sl' el bl im T L ac tp mi' ml := by
  obtain ⟨a1, a2, a3, a4, a5, a6, a7, a8, a9, a10⟩ := h
  exact ⟨a1.ext (fun f _ => g f (by omega)) (fun a _ _ => g1 a (by omega) (by omega)) (fun a _ _ => g1 a (by omega) (by omega)), a2.fr (g 16 (by omega)) (g 17 (by omega)) (fun a _ _ => g1 a (by omega) (by omega)), hs, a4.fr (g 53 (by omega)) (g1 141 (by omega) (by omega)) (g1 142 (by omega) (by omega)), a5.fr (g 54 (by omega)) (g1 143 (by omega) (by omega)) (g1 144 (by omega) (by omega)), a6.fr (fun f _ => g f (by omega)) (fun a _ _ => g1 a (by omega) (by omega)), a7.fr (g 18 (by omega)) (g1 124 (by omega) (by omega)), a8.fr (g1 132 (by omega) (by omega)), a9.fr (g 87 (by omega)) (g1 159 (by omega) (by omega)), a10.fr (g1 160 (by omega) (by omega)) (g1 161 (by omega) (by omega)) rfl⟩
theorem MR.even {w : WD} {c k : Nat} {ds : Nat → CL} {sl : SL} {el el' bl : EL} {im : IM} {T : Nat → Nat} {L : Nat} {ac : List Int32} {tp : TP} {mi mi' : Nat → Nat → Int32} {ml : Nat → Nat → Int64} (h : MR w c k ds sl el bl im T L ac tp mi ml) (hs : ELm mi' 53 141 142 el') (g : ∀ f, f ≠ 53 → mi' 116 f = mi 116 f) (g1 : ∀ a, a ≠ 116 → (a < 141 ∨ 142 < a) → mi' a = mi a) : MR w c k ds sl el' bl im T L ac tp mi' ml := by
  obtain ⟨a1, a2, a3, a4, a5, a6, a7, a8, a9, a10⟩ := h
  exact ⟨a1.ext (fun f _ => g f (by omega)) (fun a _ _ => g1 a (by omega) (by omega)) (fun a _ _ => g1 a (by omega) (by omega)), a2.fr (g 16 (by omega)) (g 17 (by omega)) (fun a _ _ => g1 a (by omega) (by omega)), a3.fr (g 49 (by omega)) (g1 138 (by omega) (by omega)) (g1 139 (by omega) (by omega)) (g1 140 (by omega) (by omega)), hs, a5.fr (g 54 (by omega)) (g1 143 (by omega) (by omega)) (g1 144 (by omega) (by omega)), a6.fr (fun f _ => g f (by omega)) (fun a _ _ => g1 a (by omega) (by omega)), a7.fr (g 18 (by omega)) (g1 124 (by omega) (by omega)), a8.fr (g1 132 (by omega) (by omega)), a9.fr (g 87 (by omega)) (g1 159 (by omega) (by omega)), a10.fr (g1 160 (by omega) (by omega)) (g1 161 (by omega) (by omega)) rfl⟩
theorem MR.book {w : WD} {c k : Nat} {ds : Nat → CL} {sl : SL} {el bl bl' : EL} {im : IM} {T : Nat → Nat} {L : Nat} {ac : List Int32} {tp : TP} {mi mi' : Nat → Nat → Int32} {ml : Nat → Nat → Int64} (h : MR w c k ds sl el bl im T L ac tp mi ml) (hs : BLm mi' 54 143 144 bl') (g : ∀ f, f ≠ 54 → mi' 116 f = mi 116 f) (g1 : ∀ a, a ≠ 116 → (a < 143 ∨ 144 < a) → mi' a = mi a) : MR w c k ds sl el bl' im T L ac tp mi' ml := by
  obtain ⟨a1, a2, a3, a4, a5, a6, a7, a8, a9, a10⟩ := h
  exact ⟨a1.ext (fun f _ => g f (by omega)) (fun a _ _ => g1 a (by omega) (by omega)) (fun a _ _ => g1 a (by omega) (by omega)), a2.fr (g 16 (by omega)) (g 17 (by omega)) (fun a _ _ => g1 a (by omega) (by omega)), a3.fr (g 49 (by omega)) (g1 138 (by omega) (by omega)) (g1 139 (by omega) (by omega)) (g1 140 (by omega) (by omega)), a4.fr (g 53 (by omega)) (g1 141 (by omega) (by omega)) (g1 142 (by omega) (by omega)), hs, a6.fr (fun f _ => g f (by omega)) (fun a _ _ => g1 a (by omega) (by omega)), a7.fr (g 18 (by omega)) (g1 124 (by omega) (by omega)), a8.fr (g1 132 (by omega) (by omega)), a9.fr (g 87 (by omega)) (g1 159 (by omega) (by omega)), a10.fr (g1 160 (by omega) (by omega)) (g1 161 (by omega) (by omega)) rfl⟩
theorem len_lt {α : Type} {l : List α} {n : Nat} (h : ¬ nI l.length = nI n) (hl : l.length ≤ n) : l.length < n ∧ ¬ l.length = n := by
  have : ¬ l.length = n := fun q => h (by rw [q])
  exact ⟨by omega, this⟩
theorem bz_dec {z : Int32} (h : bz z) : z = bi (decide (¬ z = 0)) := by rcases h with rfl | rfl <;> decide

set_option maxHeartbeats 4000000 in
theorem MC_see {G : rn_G} {d : Nat} {κ : Nat × Nat} {Q : Option Value → rn_S → Prop} {mi : Nat → Nat → Int32} {ml : Nat → Nat → Int64} {D : Nat → Nat} {x y z : Int32} (hz : bz z) {w : WD} {c k : Nat} {ds : Nat → CL} {sl : SL} {el bl : EL} {im : IM} {T : Nat → Nat} {L : Nat} {ac : List Int32} {tp : TP} (hv : IV w c k ds sl el bl im ac tp) (hr : MR w c k ds sl el bl im T L ac tp mi ml) (h : ∀ m l, LO mi m ml l → MR w c k ds (seeA w sl x z y).2 el bl im T L ac tp m l → Q (some (.int (seeA w sl x z y).1)) (m, l, RF D, 164))  : Call G (d + 30) M_X9_see [.ref 116, .int x, .int z, .int y] (mi, ml, RF D, 164) κ Q := by
  show Run G _ M_X9_see 0 [.ref 116, .int x, .int z, .int y] [] _ _ _
  have hB := hr.1
  have hw := hv.1.1
  have hk6 := hv.2.2.1
  obtain ⟨N, P, R, ⟨hN, hP, hR, hg, hpp, hrr, hdn, hmn, hkp, hwt, hgp, htr⟩, hpc, hbits, hPJ⟩ := hB.n hw
  obtain ⟨w0, w1, w2, w3, w4, w5, w6, w10⟩ := hB.cells
  have hl := hr.2.2.1
  have hl5 := hv.1.2.1
  refine il_1 dX9_see_0 ?_
  refine R_iconst (v := -1) dX9_see_1 (by decide) ?_
  refine R_icmp_ne (tgt := 12) dX9_see_2 (by decide) (fun c2 => ?_) (fun c2 => ?_)
  · refine al_0 dX9_see_12 ?_
    refine il_1 dX9_see_13 ?_
    refine cv_1 dX9_see_14 mm_RX9_305 sh_116 (Nat.le_of_ble_eq_true rfl) ⟨_, rfl, rfl⟩ (Nat.le_of_ble_eq_true rfl) (Nat.le_of_ble_eq_true rfl) (M_isPerson (fun c14 => ?_) (fun c14 => ?_) ⟨P, hP, hpp⟩)
    · refine R_if_ne (tgt := 22) dX9_see_17 (by decide) (fun _ => ?_) (fun q => absurd q (by decide))
      obtain ⟨i, hiP, hx⟩ := sm_of c14.1 (by rw [← hpp]; exact c14.2) (by omega)
      have hi6 : i < 6 := by omega
      have hnx : nn x = i := by rw [hx]; exact nnI (by omega)
      have hPi : w.2.2.2 i = pM mi i := hB.per hpp hP hiP
      have cp : 0 ≤ x ∧ x < w.1 2 := by rw [w2]; exact c14
      refine al_0 dX9_see_22 ?_
      refine il_3 dX9_see_23 ?_
      refine R_iconst (v := 0) dX9_see_24 (by decide) ?_
      refine R_bipush (v := 20) dX9_see_25 (by decide) ?_
      refine cv_3 dX9_see_27 mm_RX9_293 sh_116 (Nat.le_of_ble_eq_true rfl) ⟨_, rfl, rfl⟩ (Nat.le_of_ble_eq_true rfl) (Nat.le_of_ble_eq_true rfl) (M_in (fun c27 => ?_) (fun c27 => ?_))
      · refine R_if_ne (tgt := 36) dX9_see_30 (by decide) (fun _ => ?_) (fun q => absurd q (by decide))
        obtain ⟨yy, hyy, hy⟩ := sm_of c27.1 ((lt_succ_iff (a := 20)).mpr c27.2) (by decide)
        have hny : nn y = yy := by rw [hy]; exact nnI (by omega)
        refine al_0 dX9_see_36 ?_
        refine R_getfi dX9_see_37 fl_RX9_159 rfl sh_116 (Nat.le_of_ble_eq_true rfl) ?_
        refine R_iconst (v := 5) dX9_see_40 (by decide) ?_
        refine R_icmp_ne (tgt := 47) dX9_see_41 (by decide) (fun c41 => ?_) (fun c41 => ?_)
        · obtain ⟨l5, l5n⟩ := len_lt (n := 5) (fun q => c41 (hl.1.trans q)) hl5
          refine al_0 dX9_see_47 ?_
          refine R_getfr (r := 138) dX9_see_48 fl_RX9_162 rfl sh_116 (Nat.le_of_ble_eq_true rfl) rf_116_50 ?_
          refine al_0 dX9_see_51 ?_
          refine R_getfi dX9_see_52 fl_RX9_159 rfl sh_116 (Nat.le_of_ble_eq_true rfl) ?_
          refine il_1 dX9_see_55 ?_
          refine R_iast dX9_see_56 sh_138 (Nat.le_of_ble_eq_true rfl) (rn_ixe hl.1) l5 ?_
          refine al_0 dX9_see_57 ?_
          refine R_getfr (r := 140) dX9_see_58 fl_RX9_168 rfl sh_116 (Nat.le_of_ble_eq_true rfl) rf_116_52 ?_
          refine al_0 dX9_see_61 ?_
          refine R_getfi dX9_see_62 fl_RX9_159 rfl sh_116 (Nat.le_of_ble_eq_true rfl) ?_
          refine il_2 dX9_see_65 ?_
          refine R_zast dX9_see_66 sh_140 (Nat.le_of_ble_eq_true rfl) (rn_ixe hl.1) l5 (y := z) (bz_n hz) ?_
          refine al_0 dX9_see_67 ?_
          refine R_getfr (r := 139) dX9_see_68 fl_RX9_165 rfl sh_116 (Nat.le_of_ble_eq_true rfl) rf_116_51 ?_
          refine al_0 dX9_see_71 ?_
          refine R_getfi dX9_see_72 fl_RX9_159 rfl sh_116 (Nat.le_of_ble_eq_true rfl) ?_
          refine il_3 dX9_see_75 ?_
          refine R_iast dX9_see_76 sh_139 (Nat.le_of_ble_eq_true rfl) (rn_ixe hl.1) l5 ?_
          refine al_0 dX9_see_77 ?_
          refine R_dup dX9_see_78 rfl ?_
          refine R_getfi dX9_see_79 fl_RX9_159 rfl sh_116 (Nat.le_of_ble_eq_true rfl) ?_
          refine R_iconst (v := 1) dX9_see_82 (by decide) ?_
          refine R_iadd dX9_see_83 ?_
          refine R_putfi dX9_see_84 fl_RX9_159 rfl (Or.inl rfl) sh_116 (Nat.le_of_ble_eq_true rfl) rfl rfl ?_
          refine al_0 dX9_see_87 ?_
          refine R_getfi dX9_see_88 fl_RX9_159 rfl sh_116 (Nat.le_of_ble_eq_true rfl) ?_
          refine R_ireturn dX9_see_91 ⟨_, rfl, rfl⟩ ?_
          have eA : seeA w sl x z y = (nI (sl.length + 1), sl ++ [(i, yy, decide (¬ z = 0))]) := by unfold seeA; rw [if_neg c2, if_pos cp, if_pos c27, if_neg l5n, hnx, hny]
          rw [eA] at h
          have ea : ∀ a, a ≠ 116 → (a < 138 ∨ 140 < a) → (rn_u (rn_u (rn_u (rn_u mi 138 sl.length x) 140 sl.length z) 139 sl.length y) 116 49 (nI sl.length + 1)) a = mi a := fun a a1 a2 => by rw [rn_u_ne a1, rn_u_ne (by omega), rn_u_ne (by omega), rn_u_ne (by omega)]
          refine ret_eq (h (rn_u (rn_u (rn_u (rn_u mi 138 sl.length x) 140 sl.length z) 139 sl.length y) 116 49 (nI sl.length + 1)) ml (lo_of (fun a ha => ea a (by omega) (by omega))) (hr.see ⟨?_, fun j q hj => ?_⟩ (fun f f1 => by simp [rn_u, f1]) ea)) ?_ ?_
          · rw [List.length_append]; exact rn_u_eq.trans (sm_add _ 1)
          · rcases snoc_get hj with ⟨j1, j2⟩ | ⟨j1, j2⟩
            · obtain ⟨b1, b2, b3⟩ := hl.2 j q j2
              have jn : j ≠ sl.length := by omega
              refine ⟨?_, ?_, ?_⟩
              · rw [← b1]; simp [rn_u, jn]
              · rw [← b2]; simp [rn_u, jn]
              · rw [← b3]; simp [rn_u, jn]
            · subst j1; subst j2
              refine ⟨?_, ?_, ?_⟩
              · dsimp only; rw [← hx]; simp [rn_u]
              · dsimp only; rw [← hy]; simp [rn_u]
              · dsimp only; rw [← bz_dec hz]; simp [rn_u]
          · rw [← hl.1]; rfl
          · rw [← sm_add, ← hl.1]; rfl
        · refine R_bipush (v := -4) dX9_see_44 (by decide) ?_
          refine R_ireturn dX9_see_46 ⟨_, rfl, rfl⟩ ?_
          have eA : seeA w sl x z y = (-4, sl) := by unfold seeA; rw [if_neg c2, if_pos cp, if_pos c27, if_pos (sm_inj (b := 5) (by omega) (by decide) (hl.1.symm.trans c41))]
          rw [eA] at h
          exact h mi ml (LO.refl _ _) hr
      · refine R_if_ne (tgt := 36) dX9_see_30 (by decide) (fun q => absurd q (by decide)) (fun _ => ?_)
        refine R_bipush (v := -2) dX9_see_33 (by decide) ?_
        refine R_ireturn dX9_see_35 ⟨_, rfl, rfl⟩ ?_
        have eA : seeA w sl x z y = (-2, sl) := by unfold seeA; rw [if_neg c2, if_pos cp, if_neg c27]
        rw [eA] at h
        exact h mi ml (LO.refl _ _) hr
    · refine R_if_ne (tgt := 22) dX9_see_17 (by decide) (fun q => absurd q (by decide)) (fun _ => ?_)
      refine R_iconst (v := -1) dX9_see_20 (by decide) ?_
      refine R_ireturn dX9_see_21 ⟨_, rfl, rfl⟩ ?_
      have eA : seeA w sl x z y = (-1, sl) := by unfold seeA; rw [if_neg c2, if_neg (by rw [w2]; exact c14)]
      rw [eA] at h
      exact h mi ml (LO.refl _ _) hr
  · refine al_0 dX9_see_5 ?_
    refine R_iconst (v := 0) dX9_see_6 (by decide) ?_
    refine R_putfi dX9_see_7 fl_RX9_159 rfl (Or.inl rfl) sh_116 (Nat.le_of_ble_eq_true rfl) rfl rfl ?_
    refine R_iconst (v := 0) dX9_see_10 (by decide) ?_
    refine R_ireturn dX9_see_11 ⟨_, rfl, rfl⟩ ?_
    have eA : seeA w sl x z y = (0, []) := by unfold seeA; rw [if_pos c2]
    rw [eA] at h
    exact h (rn_u mi 116 49 0) ml (lo_of (fun a ha => rn_u_ne (by omega))) (hr.see ⟨rn_u_eq, fun j q hj => absurd hj (by simp)⟩ (fun f f1 => by simp [rn_u, f1]) (fun a a1 a2 => rn_u_ne a1))

set_option maxHeartbeats 4000000 in
theorem MC_evening {G : rn_G} {d : Nat} {κ : Nat × Nat} {Q : Option Value → rn_S → Prop} {mi : Nat → Nat → Int32} {ml : Nat → Nat → Int64} {D : Nat → Nat} {x y : Int32} {w : WD} {c k : Nat} {ds : Nat → CL} {sl : SL} {el bl : EL} {im : IM} {T : Nat → Nat} {L : Nat} {ac : List Int32} {tp : TP} (hv : IV w c k ds sl el bl im ac tp) (hr : MR w c k ds sl el bl im T L ac tp mi ml) (h : ∀ m l, LO mi m ml l → MR w c k ds sl (evenA w el x y).2 bl im T L ac tp m l → Q (some (.int (evenA w el x y).1)) (m, l, RF D, 164))  : Call G (d + 30) M_X9_evening [.ref 116, .int x, .int y] (mi, ml, RF D, 164) κ Q := by
  show Run G _ M_X9_evening 0 [.ref 116, .int x, .int y] [] _ _ _
  have hB := hr.1
  have hw := hv.1.1
  have hk6 := hv.2.2.1
  obtain ⟨N, P, R, ⟨hN, hP, hR, hg, hpp, hrr, hdn, hmn, hkp, hwt, hgp, htr⟩, hpc, hbits, hPJ⟩ := hB.n hw
  obtain ⟨w0, w1, w2, w3, w4, w5, w6, w10⟩ := hB.cells
  have hl := hr.2.2.2.1
  have hl5 := hv.1.2.2.2.1
  refine il_1 dX9_evening_0 ?_
  refine R_iconst (v := -1) dX9_evening_1 (by decide) ?_
  refine R_icmp_ne (tgt := 12) dX9_evening_2 (by decide) (fun c2 => ?_) (fun c2 => ?_)
  · refine al_0 dX9_evening_12 ?_
    refine il_1 dX9_evening_13 ?_
    refine R_iconst (v := 0) dX9_evening_14 (by decide) ?_
    refine R_iconst (v := 3) dX9_evening_15 (by decide) ?_
    refine cv_3 dX9_evening_16 mm_RX9_293 sh_116 (Nat.le_of_ble_eq_true rfl) ⟨_, rfl, rfl⟩ (Nat.le_of_ble_eq_true rfl) (Nat.le_of_ble_eq_true rfl) (M_in (fun c16 => ?_) (fun c16 => ?_))
    · refine R_if_eq (tgt := 53) dX9_evening_19 (by decide) (fun q => absurd q (by decide)) (fun _ => ?_)
      refine al_0 dX9_evening_22 ?_
      refine il_1 dX9_evening_23 ?_
      refine R_iconst (v := 1) dX9_evening_24 (by decide) ?_
      refine R_iconst (v := 2) dX9_evening_25 (by decide) ?_
      refine cv_3 dX9_evening_26 mm_RX9_293 sh_116 (Nat.le_of_ble_eq_true rfl) ⟨_, rfl, rfl⟩ (Nat.le_of_ble_eq_true rfl) (Nat.le_of_ble_eq_true rfl) (M_in (fun c26 => ?_) (fun c26 => ?_))
      · refine R_if_eq (tgt := 40) dX9_evening_29 (by decide) (fun q => absurd q (by decide)) (fun _ => ?_)
        refine al_0 dX9_evening_32 ?_
        refine il_2 dX9_evening_33 ?_
        refine cv_1 dX9_evening_34 mm_RX9_316 sh_116 (Nat.le_of_ble_eq_true rfl) ⟨_, rfl, rfl⟩ (Nat.le_of_ble_eq_true rfl) (Nat.le_of_ble_eq_true rfl) (M_isGate (fun c34 => ?_) (fun c34 => ?_) ⟨N, hN, hg⟩)
        · refine R_if_eq (tgt := 53) dX9_evening_37 (by decide) (fun q => absurd q (by decide)) (fun _ => ?_)
          refine il_1 dX9_evening_40 ?_
          refine R_iconst (v := 3) dX9_evening_41 (by decide) ?_
          refine R_icmp_ne (tgt := 55) dX9_evening_42 (by decide) (fun c42 => ?_) (fun c42 => ?_)
          · have cE : (0 ≤ x ∧ x ≤ 3) ∧ (1 ≤ x ∧ x ≤ 2 → 0 ≤ y ∧ y < w.1 0) ∧ (x = 3 → 0 ≤ y ∧ y < w.1 2) := ⟨c16, fun q => by rw [w0]; first | exact c34 | exact absurd q c26, fun q => by rw [w2]; first | exact c47 | exact absurd q c42⟩
            obtain ⟨xx, hxx, hx⟩ := sm_of c16.1 ((lt_succ_iff (a := 3)).mpr c16.2) (by decide)
            have hnx : nn x = xx := by rw [hx]; exact nnI (by omega)
            have hyn : 1 ≤ xx → ∃ n, n < 6 ∧ y = nI n := fun q => by
              have three : xx = 3 ∨ (1 ≤ xx ∧ xx ≤ 2) := by omega
              rcases three with t | t
              · obtain ⟨a1, a2⟩ := cE.2.2 (by rw [hx, t]; rfl)
                rw [w2, hpp] at a2
                obtain ⟨n, n1, n2⟩ := sm_of a1 a2 (by omega)
                exact ⟨n, by omega, n2⟩
              · obtain ⟨a1, a2⟩ := cE.2.1 (by rw [hx]; exact ⟨(sm_le_iff (a := 1) (by decide) (by omega)).mpr t.1, (sm_le_iff (b := 2) (by omega) (by decide)).mpr t.2⟩)
                rw [w0, hg] at a2
                obtain ⟨n, n1, n2⟩ := sm_of a1 a2 (by omega)
                exact ⟨n, by omega, n2⟩
            refine al_0 dX9_evening_55 ?_
            refine R_getfi dX9_evening_56 fl_RX9_171 rfl sh_116 (Nat.le_of_ble_eq_true rfl) ?_
            refine R_bipush (v := 10) dX9_evening_59 (by decide) ?_
            refine R_icmp_ne (tgt := 67) dX9_evening_61 (by decide) (fun c61 => ?_) (fun c61 => ?_)
            · obtain ⟨l5, l5n⟩ := len_lt (n := 10) (fun q => c61 (hl.1.trans q)) hl5
              refine al_0 dX9_evening_67 ?_
              refine R_getfr (r := 141) dX9_evening_68 fl_RX9_177 rfl sh_116 (Nat.le_of_ble_eq_true rfl) rf_116_55 ?_
              refine al_0 dX9_evening_71 ?_
              refine R_getfi dX9_evening_72 fl_RX9_171 rfl sh_116 (Nat.le_of_ble_eq_true rfl) ?_
              refine il_1 dX9_evening_75 ?_
              refine R_iast dX9_evening_76 sh_141 (Nat.le_of_ble_eq_true rfl) (rn_ixe hl.1) l5 ?_
              refine al_0 dX9_evening_77 ?_
              refine R_getfr (r := 142) dX9_evening_78 fl_RX9_180 rfl sh_116 (Nat.le_of_ble_eq_true rfl) rf_116_56 ?_
              refine al_0 dX9_evening_81 ?_
              refine R_getfi dX9_evening_82 fl_RX9_171 rfl sh_116 (Nat.le_of_ble_eq_true rfl) ?_
              refine il_1 dX9_evening_85 ?_
              refine R_if_le (tgt := 93) dX9_evening_86 (by decide) (fun c86 => ?_) (fun c86 => ?_)
              · refine R_iconst (v := 0) dX9_evening_93 (by decide) ?_
                refine R_iast dX9_evening_94 sh_142 (Nat.le_of_ble_eq_true rfl) (rn_ixe hl.1) l5 ?_
                refine al_0 dX9_evening_95 ?_
                refine R_dup dX9_evening_96 rfl ?_
                refine R_getfi dX9_evening_97 fl_RX9_171 rfl sh_116 (Nat.le_of_ble_eq_true rfl) ?_
                refine R_iconst (v := 1) dX9_evening_100 (by decide) ?_
                refine R_iadd dX9_evening_101 ?_
                refine R_putfi dX9_evening_102 fl_RX9_171 rfl (Or.inl rfl) sh_116 (Nat.le_of_ble_eq_true rfl) rfl rfl ?_
                refine al_0 dX9_evening_105 ?_
                refine R_getfi dX9_evening_106 fl_RX9_171 rfl sh_116 (Nat.le_of_ble_eq_true rfl) ?_
                refine R_ireturn dX9_evening_109 ⟨_, rfl, rfl⟩ ?_
                have eA : evenA w el x y = (nI (el.length + 1), el ++ [(xx, nn y)]) := by unfold evenA; rw [if_neg c2, if_pos cE, if_neg l5n, hnx]
                rw [eA] at h
                obtain ⟨v, hv142, hvv⟩ : ∃ v, (if x ≤ 0 then (0 : Int32) else y) = v ∧ (1 ≤ xx → v = nI (nn y)) := ⟨_, rfl, fun q => by
                  rw [if_neg (Int32.not_le.mpr (by rw [hx]; exact (sm_lt_iff (a := 0) (by decide) (by omega)).mpr (by omega)))]
                  obtain ⟨n, hn, e⟩ := hyn q
                  rw [e, nnI (by omega)]⟩
                first | rw [if_pos c86] at hv142 | rw [if_neg c86] at hv142
                subst hv142
                refine ret_eq (h _ ml (lo_of (fun a ha => ?_)) (hr.even ⟨?_, fun j q hj => ?_⟩ (fun f f1 => ?_) (fun a a1 a2 => ?_))) rfl ?_
                · rw [rn_u_ne (show a ≠ 116 by omega), rn_u_ne (show a ≠ 142 by omega), rn_u_ne (show a ≠ 141 by omega)]
                · rw [List.length_append]; refine rn_u_eq.trans ?_; show mi 116 53 + 1 = _; rw [hl.1]; exact sm_add _ 1
                · rcases snoc_get hj with ⟨j1, j2⟩ | ⟨j1, j2⟩
                  · obtain ⟨b1, b2⟩ := hl.2 j q j2
                    have jn : j ≠ el.length := by omega
                    refine ⟨?_, fun q1 => ?_⟩
                    · rw [← b1]; simp [rn_u, jn]
                    · rw [← b2 q1]; simp [rn_u, jn]
                  · subst j1; subst j2
                    refine ⟨?_, fun q1 => ?_⟩
                    · dsimp only; rw [← hx]; simp [rn_u]
                    · have q2 := hvv q1; dsimp only; rw [← q2]; simp [rn_u]
                · simp [rn_u, f1]
                · rw [rn_u_ne a1, rn_u_ne (by omega), rn_u_ne (by omega)]
                · rw [← sm_add, ← hl.1]; rfl
              · refine il_2 dX9_evening_89 ?_
                refine R_goto (tgt := 94) dX9_evening_90 (by decide) ?_
                refine R_iast dX9_evening_94 sh_142 (Nat.le_of_ble_eq_true rfl) (rn_ixe hl.1) l5 ?_
                refine al_0 dX9_evening_95 ?_
                refine R_dup dX9_evening_96 rfl ?_
                refine R_getfi dX9_evening_97 fl_RX9_171 rfl sh_116 (Nat.le_of_ble_eq_true rfl) ?_
                refine R_iconst (v := 1) dX9_evening_100 (by decide) ?_
                refine R_iadd dX9_evening_101 ?_
                refine R_putfi dX9_evening_102 fl_RX9_171 rfl (Or.inl rfl) sh_116 (Nat.le_of_ble_eq_true rfl) rfl rfl ?_
                refine al_0 dX9_evening_105 ?_
                refine R_getfi dX9_evening_106 fl_RX9_171 rfl sh_116 (Nat.le_of_ble_eq_true rfl) ?_
                refine R_ireturn dX9_evening_109 ⟨_, rfl, rfl⟩ ?_
                have eA : evenA w el x y = (nI (el.length + 1), el ++ [(xx, nn y)]) := by unfold evenA; rw [if_neg c2, if_pos cE, if_neg l5n, hnx]
                rw [eA] at h
                obtain ⟨v, hv142, hvv⟩ : ∃ v, (if x ≤ 0 then (0 : Int32) else y) = v ∧ (1 ≤ xx → v = nI (nn y)) := ⟨_, rfl, fun q => by
                  rw [if_neg (Int32.not_le.mpr (by rw [hx]; exact (sm_lt_iff (a := 0) (by decide) (by omega)).mpr (by omega)))]
                  obtain ⟨n, hn, e⟩ := hyn q
                  rw [e, nnI (by omega)]⟩
                first | rw [if_pos c86] at hv142 | rw [if_neg c86] at hv142
                subst hv142
                refine ret_eq (h _ ml (lo_of (fun a ha => ?_)) (hr.even ⟨?_, fun j q hj => ?_⟩ (fun f f1 => ?_) (fun a a1 a2 => ?_))) rfl ?_
                · rw [rn_u_ne (show a ≠ 116 by omega), rn_u_ne (show a ≠ 142 by omega), rn_u_ne (show a ≠ 141 by omega)]
                · rw [List.length_append]; refine rn_u_eq.trans ?_; show mi 116 53 + 1 = _; rw [hl.1]; exact sm_add _ 1
                · rcases snoc_get hj with ⟨j1, j2⟩ | ⟨j1, j2⟩
                  · obtain ⟨b1, b2⟩ := hl.2 j q j2
                    have jn : j ≠ el.length := by omega
                    refine ⟨?_, fun q1 => ?_⟩
                    · rw [← b1]; simp [rn_u, jn]
                    · rw [← b2 q1]; simp [rn_u, jn]
                  · subst j1; subst j2
                    refine ⟨?_, fun q1 => ?_⟩
                    · dsimp only; rw [← hx]; simp [rn_u]
                    · have q2 := hvv q1; dsimp only; rw [← q2]; simp [rn_u]
                · simp [rn_u, f1]
                · rw [rn_u_ne a1, rn_u_ne (by omega), rn_u_ne (by omega)]
                · rw [← sm_add, ← hl.1]; rfl
            · refine R_bipush (v := -4) dX9_evening_64 (by decide) ?_
              refine R_ireturn dX9_evening_66 ⟨_, rfl, rfl⟩ ?_
              have eA : evenA w el x y = (-4, el) := by unfold evenA; rw [if_neg c2, if_pos cE, if_pos (sm_inj (b := 10) (by omega) (by decide) (hl.1.symm.trans c61))]
              rw [eA] at h
              exact h mi ml (LO.refl _ _) hr
          · refine al_0 dX9_evening_45 ?_
            refine il_2 dX9_evening_46 ?_
            refine cv_1 dX9_evening_47 mm_RX9_305 sh_116 (Nat.le_of_ble_eq_true rfl) ⟨_, rfl, rfl⟩ (Nat.le_of_ble_eq_true rfl) (Nat.le_of_ble_eq_true rfl) (M_isPerson (fun c47 => ?_) (fun c47 => ?_) ⟨P, hP, hpp⟩)
            · refine R_if_ne (tgt := 55) dX9_evening_50 (by decide) (fun _ => ?_) (fun q => absurd q (by decide))
              have cE : (0 ≤ x ∧ x ≤ 3) ∧ (1 ≤ x ∧ x ≤ 2 → 0 ≤ y ∧ y < w.1 0) ∧ (x = 3 → 0 ≤ y ∧ y < w.1 2) := ⟨c16, fun q => by rw [w0]; first | exact c34 | exact absurd q c26, fun q => by rw [w2]; first | exact c47 | exact absurd q c42⟩
              obtain ⟨xx, hxx, hx⟩ := sm_of c16.1 ((lt_succ_iff (a := 3)).mpr c16.2) (by decide)
              have hnx : nn x = xx := by rw [hx]; exact nnI (by omega)
              have hyn : 1 ≤ xx → ∃ n, n < 6 ∧ y = nI n := fun q => by
                have three : xx = 3 ∨ (1 ≤ xx ∧ xx ≤ 2) := by omega
                rcases three with t | t
                · obtain ⟨a1, a2⟩ := cE.2.2 (by rw [hx, t]; rfl)
                  rw [w2, hpp] at a2
                  obtain ⟨n, n1, n2⟩ := sm_of a1 a2 (by omega)
                  exact ⟨n, by omega, n2⟩
                · obtain ⟨a1, a2⟩ := cE.2.1 (by rw [hx]; exact ⟨(sm_le_iff (a := 1) (by decide) (by omega)).mpr t.1, (sm_le_iff (b := 2) (by omega) (by decide)).mpr t.2⟩)
                  rw [w0, hg] at a2
                  obtain ⟨n, n1, n2⟩ := sm_of a1 a2 (by omega)
                  exact ⟨n, by omega, n2⟩
              refine al_0 dX9_evening_55 ?_
              refine R_getfi dX9_evening_56 fl_RX9_171 rfl sh_116 (Nat.le_of_ble_eq_true rfl) ?_
              refine R_bipush (v := 10) dX9_evening_59 (by decide) ?_
              refine R_icmp_ne (tgt := 67) dX9_evening_61 (by decide) (fun c61 => ?_) (fun c61 => ?_)
              · obtain ⟨l5, l5n⟩ := len_lt (n := 10) (fun q => c61 (hl.1.trans q)) hl5
                refine al_0 dX9_evening_67 ?_
                refine R_getfr (r := 141) dX9_evening_68 fl_RX9_177 rfl sh_116 (Nat.le_of_ble_eq_true rfl) rf_116_55 ?_
                refine al_0 dX9_evening_71 ?_
                refine R_getfi dX9_evening_72 fl_RX9_171 rfl sh_116 (Nat.le_of_ble_eq_true rfl) ?_
                refine il_1 dX9_evening_75 ?_
                refine R_iast dX9_evening_76 sh_141 (Nat.le_of_ble_eq_true rfl) (rn_ixe hl.1) l5 ?_
                refine al_0 dX9_evening_77 ?_
                refine R_getfr (r := 142) dX9_evening_78 fl_RX9_180 rfl sh_116 (Nat.le_of_ble_eq_true rfl) rf_116_56 ?_
                refine al_0 dX9_evening_81 ?_
                refine R_getfi dX9_evening_82 fl_RX9_171 rfl sh_116 (Nat.le_of_ble_eq_true rfl) ?_
                refine il_1 dX9_evening_85 ?_
                refine R_if_le (tgt := 93) dX9_evening_86 (by decide) (fun c86 => ?_) (fun c86 => ?_)
                · refine R_iconst (v := 0) dX9_evening_93 (by decide) ?_
                  refine R_iast dX9_evening_94 sh_142 (Nat.le_of_ble_eq_true rfl) (rn_ixe hl.1) l5 ?_
                  refine al_0 dX9_evening_95 ?_
                  refine R_dup dX9_evening_96 rfl ?_
                  refine R_getfi dX9_evening_97 fl_RX9_171 rfl sh_116 (Nat.le_of_ble_eq_true rfl) ?_
                  refine R_iconst (v := 1) dX9_evening_100 (by decide) ?_
                  refine R_iadd dX9_evening_101 ?_
                  refine R_putfi dX9_evening_102 fl_RX9_171 rfl (Or.inl rfl) sh_116 (Nat.le_of_ble_eq_true rfl) rfl rfl ?_
                  refine al_0 dX9_evening_105 ?_
                  refine R_getfi dX9_evening_106 fl_RX9_171 rfl sh_116 (Nat.le_of_ble_eq_true rfl) ?_
                  refine R_ireturn dX9_evening_109 ⟨_, rfl, rfl⟩ ?_
                  have eA : evenA w el x y = (nI (el.length + 1), el ++ [(xx, nn y)]) := by unfold evenA; rw [if_neg c2, if_pos cE, if_neg l5n, hnx]
                  rw [eA] at h
                  obtain ⟨v, hv142, hvv⟩ : ∃ v, (if x ≤ 0 then (0 : Int32) else y) = v ∧ (1 ≤ xx → v = nI (nn y)) := ⟨_, rfl, fun q => by
                    rw [if_neg (Int32.not_le.mpr (by rw [hx]; exact (sm_lt_iff (a := 0) (by decide) (by omega)).mpr (by omega)))]
                    obtain ⟨n, hn, e⟩ := hyn q
                    rw [e, nnI (by omega)]⟩
                  first | rw [if_pos c86] at hv142 | rw [if_neg c86] at hv142
                  subst hv142
                  refine ret_eq (h _ ml (lo_of (fun a ha => ?_)) (hr.even ⟨?_, fun j q hj => ?_⟩ (fun f f1 => ?_) (fun a a1 a2 => ?_))) rfl ?_
                  · rw [rn_u_ne (show a ≠ 116 by omega), rn_u_ne (show a ≠ 142 by omega), rn_u_ne (show a ≠ 141 by omega)]
                  · rw [List.length_append]; refine rn_u_eq.trans ?_; show mi 116 53 + 1 = _; rw [hl.1]; exact sm_add _ 1
                  · rcases snoc_get hj with ⟨j1, j2⟩ | ⟨j1, j2⟩
                    · obtain ⟨b1, b2⟩ := hl.2 j q j2
                      have jn : j ≠ el.length := by omega
                      refine ⟨?_, fun q1 => ?_⟩
                      · rw [← b1]; simp [rn_u, jn]
                      · rw [← b2 q1]; simp [rn_u, jn]
                    · subst j1; subst j2
                      refine ⟨?_, fun q1 => ?_⟩
                      · dsimp only; rw [← hx]; simp [rn_u]
                      · have q2 := hvv q1; dsimp only; rw [← q2]; simp [rn_u]
                  · simp [rn_u, f1]
                  · rw [rn_u_ne a1, rn_u_ne (by omega), rn_u_ne (by omega)]
                  · rw [← sm_add, ← hl.1]; rfl
                · refine il_2 dX9_evening_89 ?_
                  refine R_goto (tgt := 94) dX9_evening_90 (by decide) ?_
                  refine R_iast dX9_evening_94 sh_142 (Nat.le_of_ble_eq_true rfl) (rn_ixe hl.1) l5 ?_
                  refine al_0 dX9_evening_95 ?_
                  refine R_dup dX9_evening_96 rfl ?_
                  refine R_getfi dX9_evening_97 fl_RX9_171 rfl sh_116 (Nat.le_of_ble_eq_true rfl) ?_
                  refine R_iconst (v := 1) dX9_evening_100 (by decide) ?_
                  refine R_iadd dX9_evening_101 ?_
                  refine R_putfi dX9_evening_102 fl_RX9_171 rfl (Or.inl rfl) sh_116 (Nat.le_of_ble_eq_true rfl) rfl rfl ?_
                  refine al_0 dX9_evening_105 ?_
                  refine R_getfi dX9_evening_106 fl_RX9_171 rfl sh_116 (Nat.le_of_ble_eq_true rfl) ?_
                  refine R_ireturn dX9_evening_109 ⟨_, rfl, rfl⟩ ?_
                  have eA : evenA w el x y = (nI (el.length + 1), el ++ [(xx, nn y)]) := by unfold evenA; rw [if_neg c2, if_pos cE, if_neg l5n, hnx]
                  rw [eA] at h
                  obtain ⟨v, hv142, hvv⟩ : ∃ v, (if x ≤ 0 then (0 : Int32) else y) = v ∧ (1 ≤ xx → v = nI (nn y)) := ⟨_, rfl, fun q => by
                    rw [if_neg (Int32.not_le.mpr (by rw [hx]; exact (sm_lt_iff (a := 0) (by decide) (by omega)).mpr (by omega)))]
                    obtain ⟨n, hn, e⟩ := hyn q
                    rw [e, nnI (by omega)]⟩
                  first | rw [if_pos c86] at hv142 | rw [if_neg c86] at hv142
                  subst hv142
                  refine ret_eq (h _ ml (lo_of (fun a ha => ?_)) (hr.even ⟨?_, fun j q hj => ?_⟩ (fun f f1 => ?_) (fun a a1 a2 => ?_))) rfl ?_
                  · rw [rn_u_ne (show a ≠ 116 by omega), rn_u_ne (show a ≠ 142 by omega), rn_u_ne (show a ≠ 141 by omega)]
                  · rw [List.length_append]; refine rn_u_eq.trans ?_; show mi 116 53 + 1 = _; rw [hl.1]; exact sm_add _ 1
                  · rcases snoc_get hj with ⟨j1, j2⟩ | ⟨j1, j2⟩
                    · obtain ⟨b1, b2⟩ := hl.2 j q j2
                      have jn : j ≠ el.length := by omega
                      refine ⟨?_, fun q1 => ?_⟩
                      · rw [← b1]; simp [rn_u, jn]
                      · rw [← b2 q1]; simp [rn_u, jn]
                    · subst j1; subst j2
                      refine ⟨?_, fun q1 => ?_⟩
                      · dsimp only; rw [← hx]; simp [rn_u]
                      · have q2 := hvv q1; dsimp only; rw [← q2]; simp [rn_u]
                  · simp [rn_u, f1]
                  · rw [rn_u_ne a1, rn_u_ne (by omega), rn_u_ne (by omega)]
                  · rw [← sm_add, ← hl.1]; rfl
              · refine R_bipush (v := -4) dX9_evening_64 (by decide) ?_
                refine R_ireturn dX9_evening_66 ⟨_, rfl, rfl⟩ ?_
                have eA : evenA w el x y = (-4, el) := by unfold evenA; rw [if_neg c2, if_pos cE, if_pos (sm_inj (b := 10) (by omega) (by decide) (hl.1.symm.trans c61))]
                rw [eA] at h
                exact h mi ml (LO.refl _ _) hr
            · refine R_if_ne (tgt := 55) dX9_evening_50 (by decide) (fun q => absurd q (by decide)) (fun _ => ?_)
              refine R_iconst (v := -1) dX9_evening_53 (by decide) ?_
              refine R_ireturn dX9_evening_54 ⟨_, rfl, rfl⟩ ?_
              have eA : evenA w el x y = (-1, el) := by unfold evenA; rw [if_neg c2, if_neg (fun q => by first | exact c16 q.1 | (have := q.2.1 c26; rw [w0] at this; exact c34 this) | (have := q.2.2 c42; rw [w2] at this; exact c47 this))]
              rw [eA] at h
              exact h mi ml (LO.refl _ _) hr
        · refine R_if_eq (tgt := 53) dX9_evening_37 (by decide) (fun _ => ?_) (fun q => absurd q (by decide))
          refine R_iconst (v := -1) dX9_evening_53 (by decide) ?_
          refine R_ireturn dX9_evening_54 ⟨_, rfl, rfl⟩ ?_
          have eA : evenA w el x y = (-1, el) := by unfold evenA; rw [if_neg c2, if_neg (fun q => by first | exact c16 q.1 | (have := q.2.1 c26; rw [w0] at this; exact c34 this) | (have := q.2.2 c42; rw [w2] at this; exact c47 this))]
          rw [eA] at h
          exact h mi ml (LO.refl _ _) hr
      · refine R_if_eq (tgt := 40) dX9_evening_29 (by decide) (fun _ => ?_) (fun q => absurd q (by decide))
        refine il_1 dX9_evening_40 ?_
        refine R_iconst (v := 3) dX9_evening_41 (by decide) ?_
        refine R_icmp_ne (tgt := 55) dX9_evening_42 (by decide) (fun c42 => ?_) (fun c42 => ?_)
        · have cE : (0 ≤ x ∧ x ≤ 3) ∧ (1 ≤ x ∧ x ≤ 2 → 0 ≤ y ∧ y < w.1 0) ∧ (x = 3 → 0 ≤ y ∧ y < w.1 2) := ⟨c16, fun q => by rw [w0]; first | exact c34 | exact absurd q c26, fun q => by rw [w2]; first | exact c47 | exact absurd q c42⟩
          obtain ⟨xx, hxx, hx⟩ := sm_of c16.1 ((lt_succ_iff (a := 3)).mpr c16.2) (by decide)
          have hnx : nn x = xx := by rw [hx]; exact nnI (by omega)
          have hyn : 1 ≤ xx → ∃ n, n < 6 ∧ y = nI n := fun q => by
            have three : xx = 3 ∨ (1 ≤ xx ∧ xx ≤ 2) := by omega
            rcases three with t | t
            · obtain ⟨a1, a2⟩ := cE.2.2 (by rw [hx, t]; rfl)
              rw [w2, hpp] at a2
              obtain ⟨n, n1, n2⟩ := sm_of a1 a2 (by omega)
              exact ⟨n, by omega, n2⟩
            · obtain ⟨a1, a2⟩ := cE.2.1 (by rw [hx]; exact ⟨(sm_le_iff (a := 1) (by decide) (by omega)).mpr t.1, (sm_le_iff (b := 2) (by omega) (by decide)).mpr t.2⟩)
              rw [w0, hg] at a2
              obtain ⟨n, n1, n2⟩ := sm_of a1 a2 (by omega)
              exact ⟨n, by omega, n2⟩
          refine al_0 dX9_evening_55 ?_
          refine R_getfi dX9_evening_56 fl_RX9_171 rfl sh_116 (Nat.le_of_ble_eq_true rfl) ?_
          refine R_bipush (v := 10) dX9_evening_59 (by decide) ?_
          refine R_icmp_ne (tgt := 67) dX9_evening_61 (by decide) (fun c61 => ?_) (fun c61 => ?_)
          · obtain ⟨l5, l5n⟩ := len_lt (n := 10) (fun q => c61 (hl.1.trans q)) hl5
            refine al_0 dX9_evening_67 ?_
            refine R_getfr (r := 141) dX9_evening_68 fl_RX9_177 rfl sh_116 (Nat.le_of_ble_eq_true rfl) rf_116_55 ?_
            refine al_0 dX9_evening_71 ?_
            refine R_getfi dX9_evening_72 fl_RX9_171 rfl sh_116 (Nat.le_of_ble_eq_true rfl) ?_
            refine il_1 dX9_evening_75 ?_
            refine R_iast dX9_evening_76 sh_141 (Nat.le_of_ble_eq_true rfl) (rn_ixe hl.1) l5 ?_
            refine al_0 dX9_evening_77 ?_
            refine R_getfr (r := 142) dX9_evening_78 fl_RX9_180 rfl sh_116 (Nat.le_of_ble_eq_true rfl) rf_116_56 ?_
            refine al_0 dX9_evening_81 ?_
            refine R_getfi dX9_evening_82 fl_RX9_171 rfl sh_116 (Nat.le_of_ble_eq_true rfl) ?_
            refine il_1 dX9_evening_85 ?_
            refine R_if_le (tgt := 93) dX9_evening_86 (by decide) (fun c86 => ?_) (fun c86 => ?_)
            · refine R_iconst (v := 0) dX9_evening_93 (by decide) ?_
              refine R_iast dX9_evening_94 sh_142 (Nat.le_of_ble_eq_true rfl) (rn_ixe hl.1) l5 ?_
              refine al_0 dX9_evening_95 ?_
              refine R_dup dX9_evening_96 rfl ?_
              refine R_getfi dX9_evening_97 fl_RX9_171 rfl sh_116 (Nat.le_of_ble_eq_true rfl) ?_
              refine R_iconst (v := 1) dX9_evening_100 (by decide) ?_
              refine R_iadd dX9_evening_101 ?_
              refine R_putfi dX9_evening_102 fl_RX9_171 rfl (Or.inl rfl) sh_116 (Nat.le_of_ble_eq_true rfl) rfl rfl ?_
              refine al_0 dX9_evening_105 ?_
              refine R_getfi dX9_evening_106 fl_RX9_171 rfl sh_116 (Nat.le_of_ble_eq_true rfl) ?_
              refine R_ireturn dX9_evening_109 ⟨_, rfl, rfl⟩ ?_
              have eA : evenA w el x y = (nI (el.length + 1), el ++ [(xx, nn y)]) := by unfold evenA; rw [if_neg c2, if_pos cE, if_neg l5n, hnx]
              rw [eA] at h
              obtain ⟨v, hv142, hvv⟩ : ∃ v, (if x ≤ 0 then (0 : Int32) else y) = v ∧ (1 ≤ xx → v = nI (nn y)) := ⟨_, rfl, fun q => by
                rw [if_neg (Int32.not_le.mpr (by rw [hx]; exact (sm_lt_iff (a := 0) (by decide) (by omega)).mpr (by omega)))]
                obtain ⟨n, hn, e⟩ := hyn q
                rw [e, nnI (by omega)]⟩
              first | rw [if_pos c86] at hv142 | rw [if_neg c86] at hv142
              subst hv142
              refine ret_eq (h _ ml (lo_of (fun a ha => ?_)) (hr.even ⟨?_, fun j q hj => ?_⟩ (fun f f1 => ?_) (fun a a1 a2 => ?_))) rfl ?_
              · rw [rn_u_ne (show a ≠ 116 by omega), rn_u_ne (show a ≠ 142 by omega), rn_u_ne (show a ≠ 141 by omega)]
              · rw [List.length_append]; refine rn_u_eq.trans ?_; show mi 116 53 + 1 = _; rw [hl.1]; exact sm_add _ 1
              · rcases snoc_get hj with ⟨j1, j2⟩ | ⟨j1, j2⟩
                · obtain ⟨b1, b2⟩ := hl.2 j q j2
                  have jn : j ≠ el.length := by omega
                  refine ⟨?_, fun q1 => ?_⟩
                  · rw [← b1]; simp [rn_u, jn]
                  · rw [← b2 q1]; simp [rn_u, jn]
                · subst j1; subst j2
                  refine ⟨?_, fun q1 => ?_⟩
                  · dsimp only; rw [← hx]; simp [rn_u]
                  · have q2 := hvv q1; dsimp only; rw [← q2]; simp [rn_u]
              · simp [rn_u, f1]
              · rw [rn_u_ne a1, rn_u_ne (by omega), rn_u_ne (by omega)]
              · rw [← sm_add, ← hl.1]; rfl
            · refine il_2 dX9_evening_89 ?_
              refine R_goto (tgt := 94) dX9_evening_90 (by decide) ?_
              refine R_iast dX9_evening_94 sh_142 (Nat.le_of_ble_eq_true rfl) (rn_ixe hl.1) l5 ?_
              refine al_0 dX9_evening_95 ?_
              refine R_dup dX9_evening_96 rfl ?_
              refine R_getfi dX9_evening_97 fl_RX9_171 rfl sh_116 (Nat.le_of_ble_eq_true rfl) ?_
              refine R_iconst (v := 1) dX9_evening_100 (by decide) ?_
              refine R_iadd dX9_evening_101 ?_
              refine R_putfi dX9_evening_102 fl_RX9_171 rfl (Or.inl rfl) sh_116 (Nat.le_of_ble_eq_true rfl) rfl rfl ?_
              refine al_0 dX9_evening_105 ?_
              refine R_getfi dX9_evening_106 fl_RX9_171 rfl sh_116 (Nat.le_of_ble_eq_true rfl) ?_
              refine R_ireturn dX9_evening_109 ⟨_, rfl, rfl⟩ ?_
              have eA : evenA w el x y = (nI (el.length + 1), el ++ [(xx, nn y)]) := by unfold evenA; rw [if_neg c2, if_pos cE, if_neg l5n, hnx]
              rw [eA] at h
              obtain ⟨v, hv142, hvv⟩ : ∃ v, (if x ≤ 0 then (0 : Int32) else y) = v ∧ (1 ≤ xx → v = nI (nn y)) := ⟨_, rfl, fun q => by
                rw [if_neg (Int32.not_le.mpr (by rw [hx]; exact (sm_lt_iff (a := 0) (by decide) (by omega)).mpr (by omega)))]
                obtain ⟨n, hn, e⟩ := hyn q
                rw [e, nnI (by omega)]⟩
              first | rw [if_pos c86] at hv142 | rw [if_neg c86] at hv142
              subst hv142
              refine ret_eq (h _ ml (lo_of (fun a ha => ?_)) (hr.even ⟨?_, fun j q hj => ?_⟩ (fun f f1 => ?_) (fun a a1 a2 => ?_))) rfl ?_
              · rw [rn_u_ne (show a ≠ 116 by omega), rn_u_ne (show a ≠ 142 by omega), rn_u_ne (show a ≠ 141 by omega)]
              · rw [List.length_append]; refine rn_u_eq.trans ?_; show mi 116 53 + 1 = _; rw [hl.1]; exact sm_add _ 1
              · rcases snoc_get hj with ⟨j1, j2⟩ | ⟨j1, j2⟩
                · obtain ⟨b1, b2⟩ := hl.2 j q j2
                  have jn : j ≠ el.length := by omega
                  refine ⟨?_, fun q1 => ?_⟩
                  · rw [← b1]; simp [rn_u, jn]
                  · rw [← b2 q1]; simp [rn_u, jn]
                · subst j1; subst j2
                  refine ⟨?_, fun q1 => ?_⟩
                  · dsimp only; rw [← hx]; simp [rn_u]
                  · have q2 := hvv q1; dsimp only; rw [← q2]; simp [rn_u]
              · simp [rn_u, f1]
              · rw [rn_u_ne a1, rn_u_ne (by omega), rn_u_ne (by omega)]
              · rw [← sm_add, ← hl.1]; rfl
          · refine R_bipush (v := -4) dX9_evening_64 (by decide) ?_
            refine R_ireturn dX9_evening_66 ⟨_, rfl, rfl⟩ ?_
            have eA : evenA w el x y = (-4, el) := by unfold evenA; rw [if_neg c2, if_pos cE, if_pos (sm_inj (b := 10) (by omega) (by decide) (hl.1.symm.trans c61))]
            rw [eA] at h
            exact h mi ml (LO.refl _ _) hr
        · refine al_0 dX9_evening_45 ?_
          refine il_2 dX9_evening_46 ?_
          refine cv_1 dX9_evening_47 mm_RX9_305 sh_116 (Nat.le_of_ble_eq_true rfl) ⟨_, rfl, rfl⟩ (Nat.le_of_ble_eq_true rfl) (Nat.le_of_ble_eq_true rfl) (M_isPerson (fun c47 => ?_) (fun c47 => ?_) ⟨P, hP, hpp⟩)
          · refine R_if_ne (tgt := 55) dX9_evening_50 (by decide) (fun _ => ?_) (fun q => absurd q (by decide))
            have cE : (0 ≤ x ∧ x ≤ 3) ∧ (1 ≤ x ∧ x ≤ 2 → 0 ≤ y ∧ y < w.1 0) ∧ (x = 3 → 0 ≤ y ∧ y < w.1 2) := ⟨c16, fun q => by rw [w0]; first | exact c34 | exact absurd q c26, fun q => by rw [w2]; first | exact c47 | exact absurd q c42⟩
            obtain ⟨xx, hxx, hx⟩ := sm_of c16.1 ((lt_succ_iff (a := 3)).mpr c16.2) (by decide)
            have hnx : nn x = xx := by rw [hx]; exact nnI (by omega)
            have hyn : 1 ≤ xx → ∃ n, n < 6 ∧ y = nI n := fun q => by
              have three : xx = 3 ∨ (1 ≤ xx ∧ xx ≤ 2) := by omega
              rcases three with t | t
              · obtain ⟨a1, a2⟩ := cE.2.2 (by rw [hx, t]; rfl)
                rw [w2, hpp] at a2
                obtain ⟨n, n1, n2⟩ := sm_of a1 a2 (by omega)
                exact ⟨n, by omega, n2⟩
              · obtain ⟨a1, a2⟩ := cE.2.1 (by rw [hx]; exact ⟨(sm_le_iff (a := 1) (by decide) (by omega)).mpr t.1, (sm_le_iff (b := 2) (by omega) (by decide)).mpr t.2⟩)
                rw [w0, hg] at a2
                obtain ⟨n, n1, n2⟩ := sm_of a1 a2 (by omega)
                exact ⟨n, by omega, n2⟩
            refine al_0 dX9_evening_55 ?_
            refine R_getfi dX9_evening_56 fl_RX9_171 rfl sh_116 (Nat.le_of_ble_eq_true rfl) ?_
            refine R_bipush (v := 10) dX9_evening_59 (by decide) ?_
            refine R_icmp_ne (tgt := 67) dX9_evening_61 (by decide) (fun c61 => ?_) (fun c61 => ?_)
            · obtain ⟨l5, l5n⟩ := len_lt (n := 10) (fun q => c61 (hl.1.trans q)) hl5
              refine al_0 dX9_evening_67 ?_
              refine R_getfr (r := 141) dX9_evening_68 fl_RX9_177 rfl sh_116 (Nat.le_of_ble_eq_true rfl) rf_116_55 ?_
              refine al_0 dX9_evening_71 ?_
              refine R_getfi dX9_evening_72 fl_RX9_171 rfl sh_116 (Nat.le_of_ble_eq_true rfl) ?_
              refine il_1 dX9_evening_75 ?_
              refine R_iast dX9_evening_76 sh_141 (Nat.le_of_ble_eq_true rfl) (rn_ixe hl.1) l5 ?_
              refine al_0 dX9_evening_77 ?_
              refine R_getfr (r := 142) dX9_evening_78 fl_RX9_180 rfl sh_116 (Nat.le_of_ble_eq_true rfl) rf_116_56 ?_
              refine al_0 dX9_evening_81 ?_
              refine R_getfi dX9_evening_82 fl_RX9_171 rfl sh_116 (Nat.le_of_ble_eq_true rfl) ?_
              refine il_1 dX9_evening_85 ?_
              refine R_if_le (tgt := 93) dX9_evening_86 (by decide) (fun c86 => ?_) (fun c86 => ?_)
              · refine R_iconst (v := 0) dX9_evening_93 (by decide) ?_
                refine R_iast dX9_evening_94 sh_142 (Nat.le_of_ble_eq_true rfl) (rn_ixe hl.1) l5 ?_
                refine al_0 dX9_evening_95 ?_
                refine R_dup dX9_evening_96 rfl ?_
                refine R_getfi dX9_evening_97 fl_RX9_171 rfl sh_116 (Nat.le_of_ble_eq_true rfl) ?_
                refine R_iconst (v := 1) dX9_evening_100 (by decide) ?_
                refine R_iadd dX9_evening_101 ?_
                refine R_putfi dX9_evening_102 fl_RX9_171 rfl (Or.inl rfl) sh_116 (Nat.le_of_ble_eq_true rfl) rfl rfl ?_
                refine al_0 dX9_evening_105 ?_
                refine R_getfi dX9_evening_106 fl_RX9_171 rfl sh_116 (Nat.le_of_ble_eq_true rfl) ?_
                refine R_ireturn dX9_evening_109 ⟨_, rfl, rfl⟩ ?_
                have eA : evenA w el x y = (nI (el.length + 1), el ++ [(xx, nn y)]) := by unfold evenA; rw [if_neg c2, if_pos cE, if_neg l5n, hnx]
                rw [eA] at h
                obtain ⟨v, hv142, hvv⟩ : ∃ v, (if x ≤ 0 then (0 : Int32) else y) = v ∧ (1 ≤ xx → v = nI (nn y)) := ⟨_, rfl, fun q => by
                  rw [if_neg (Int32.not_le.mpr (by rw [hx]; exact (sm_lt_iff (a := 0) (by decide) (by omega)).mpr (by omega)))]
                  obtain ⟨n, hn, e⟩ := hyn q
                  rw [e, nnI (by omega)]⟩
                first | rw [if_pos c86] at hv142 | rw [if_neg c86] at hv142
                subst hv142
                refine ret_eq (h _ ml (lo_of (fun a ha => ?_)) (hr.even ⟨?_, fun j q hj => ?_⟩ (fun f f1 => ?_) (fun a a1 a2 => ?_))) rfl ?_
                · rw [rn_u_ne (show a ≠ 116 by omega), rn_u_ne (show a ≠ 142 by omega), rn_u_ne (show a ≠ 141 by omega)]
                · rw [List.length_append]; refine rn_u_eq.trans ?_; show mi 116 53 + 1 = _; rw [hl.1]; exact sm_add _ 1
                · rcases snoc_get hj with ⟨j1, j2⟩ | ⟨j1, j2⟩
                  · obtain ⟨b1, b2⟩ := hl.2 j q j2
                    have jn : j ≠ el.length := by omega
                    refine ⟨?_, fun q1 => ?_⟩
                    · rw [← b1]; simp [rn_u, jn]
                    · rw [← b2 q1]; simp [rn_u, jn]
                  · subst j1; subst j2
                    refine ⟨?_, fun q1 => ?_⟩
                    · dsimp only; rw [← hx]; simp [rn_u]
                    · have q2 := hvv q1; dsimp only; rw [← q2]; simp [rn_u]
                · simp [rn_u, f1]
                · rw [rn_u_ne a1, rn_u_ne (by omega), rn_u_ne (by omega)]
                · rw [← sm_add, ← hl.1]; rfl
              · refine il_2 dX9_evening_89 ?_
                refine R_goto (tgt := 94) dX9_evening_90 (by decide) ?_
                refine R_iast dX9_evening_94 sh_142 (Nat.le_of_ble_eq_true rfl) (rn_ixe hl.1) l5 ?_
                refine al_0 dX9_evening_95 ?_
                refine R_dup dX9_evening_96 rfl ?_
                refine R_getfi dX9_evening_97 fl_RX9_171 rfl sh_116 (Nat.le_of_ble_eq_true rfl) ?_
                refine R_iconst (v := 1) dX9_evening_100 (by decide) ?_
                refine R_iadd dX9_evening_101 ?_
                refine R_putfi dX9_evening_102 fl_RX9_171 rfl (Or.inl rfl) sh_116 (Nat.le_of_ble_eq_true rfl) rfl rfl ?_
                refine al_0 dX9_evening_105 ?_
                refine R_getfi dX9_evening_106 fl_RX9_171 rfl sh_116 (Nat.le_of_ble_eq_true rfl) ?_
                refine R_ireturn dX9_evening_109 ⟨_, rfl, rfl⟩ ?_
                have eA : evenA w el x y = (nI (el.length + 1), el ++ [(xx, nn y)]) := by unfold evenA; rw [if_neg c2, if_pos cE, if_neg l5n, hnx]
                rw [eA] at h
                obtain ⟨v, hv142, hvv⟩ : ∃ v, (if x ≤ 0 then (0 : Int32) else y) = v ∧ (1 ≤ xx → v = nI (nn y)) := ⟨_, rfl, fun q => by
                  rw [if_neg (Int32.not_le.mpr (by rw [hx]; exact (sm_lt_iff (a := 0) (by decide) (by omega)).mpr (by omega)))]
                  obtain ⟨n, hn, e⟩ := hyn q
                  rw [e, nnI (by omega)]⟩
                first | rw [if_pos c86] at hv142 | rw [if_neg c86] at hv142
                subst hv142
                refine ret_eq (h _ ml (lo_of (fun a ha => ?_)) (hr.even ⟨?_, fun j q hj => ?_⟩ (fun f f1 => ?_) (fun a a1 a2 => ?_))) rfl ?_
                · rw [rn_u_ne (show a ≠ 116 by omega), rn_u_ne (show a ≠ 142 by omega), rn_u_ne (show a ≠ 141 by omega)]
                · rw [List.length_append]; refine rn_u_eq.trans ?_; show mi 116 53 + 1 = _; rw [hl.1]; exact sm_add _ 1
                · rcases snoc_get hj with ⟨j1, j2⟩ | ⟨j1, j2⟩
                  · obtain ⟨b1, b2⟩ := hl.2 j q j2
                    have jn : j ≠ el.length := by omega
                    refine ⟨?_, fun q1 => ?_⟩
                    · rw [← b1]; simp [rn_u, jn]
                    · rw [← b2 q1]; simp [rn_u, jn]
                  · subst j1; subst j2
                    refine ⟨?_, fun q1 => ?_⟩
                    · dsimp only; rw [← hx]; simp [rn_u]
                    · have q2 := hvv q1; dsimp only; rw [← q2]; simp [rn_u]
                · simp [rn_u, f1]
                · rw [rn_u_ne a1, rn_u_ne (by omega), rn_u_ne (by omega)]
                · rw [← sm_add, ← hl.1]; rfl
            · refine R_bipush (v := -4) dX9_evening_64 (by decide) ?_
              refine R_ireturn dX9_evening_66 ⟨_, rfl, rfl⟩ ?_
              have eA : evenA w el x y = (-4, el) := by unfold evenA; rw [if_neg c2, if_pos cE, if_pos (sm_inj (b := 10) (by omega) (by decide) (hl.1.symm.trans c61))]
              rw [eA] at h
              exact h mi ml (LO.refl _ _) hr
          · refine R_if_ne (tgt := 55) dX9_evening_50 (by decide) (fun q => absurd q (by decide)) (fun _ => ?_)
            refine R_iconst (v := -1) dX9_evening_53 (by decide) ?_
            refine R_ireturn dX9_evening_54 ⟨_, rfl, rfl⟩ ?_
            have eA : evenA w el x y = (-1, el) := by unfold evenA; rw [if_neg c2, if_neg (fun q => by first | exact c16 q.1 | (have := q.2.1 c26; rw [w0] at this; exact c34 this) | (have := q.2.2 c42; rw [w2] at this; exact c47 this))]
            rw [eA] at h
            exact h mi ml (LO.refl _ _) hr
    · refine R_if_eq (tgt := 53) dX9_evening_19 (by decide) (fun _ => ?_) (fun q => absurd q (by decide))
      refine R_iconst (v := -1) dX9_evening_53 (by decide) ?_
      refine R_ireturn dX9_evening_54 ⟨_, rfl, rfl⟩ ?_
      have eA : evenA w el x y = (-1, el) := by unfold evenA; rw [if_neg c2, if_neg (fun q => by first | exact c16 q.1 | (have := q.2.1 c26; rw [w0] at this; exact c34 this) | (have := q.2.2 c42; rw [w2] at this; exact c47 this))]
      rw [eA] at h
      exact h mi ml (LO.refl _ _) hr
  · refine al_0 dX9_evening_5 ?_
    refine R_iconst (v := 0) dX9_evening_6 (by decide) ?_
    refine R_putfi dX9_evening_7 fl_RX9_171 rfl (Or.inl rfl) sh_116 (Nat.le_of_ble_eq_true rfl) rfl rfl ?_
    refine R_iconst (v := 0) dX9_evening_10 (by decide) ?_
    refine R_ireturn dX9_evening_11 ⟨_, rfl, rfl⟩ ?_
    have eA : evenA w el x y = (0, []) := by unfold evenA; rw [if_pos c2]
    rw [eA] at h
    exact h (rn_u mi 116 53 0) ml (lo_of (fun a ha => rn_u_ne (by omega))) (hr.even ⟨rn_u_eq, fun j q hj => absurd hj (by simp)⟩ (fun f f1 => by simp [rn_u, f1]) (fun a a1 a2 => rn_u_ne a1))

set_option maxHeartbeats 4000000 in
theorem MC_book {G : rn_G} {d : Nat} {κ : Nat × Nat} {Q : Option Value → rn_S → Prop} {mi : Nat → Nat → Int32} {ml : Nat → Nat → Int64} {D : Nat → Nat} {x y : Int32} {w : WD} {c k : Nat} {ds : Nat → CL} {sl : SL} {el bl : EL} {im : IM} {T : Nat → Nat} {L : Nat} {ac : List Int32} {tp : TP} (hv : IV w c k ds sl el bl im ac tp) (hr : MR w c k ds sl el bl im T L ac tp mi ml) (h : ∀ m l, LO mi m ml l → MR w c k ds sl el (bookA w bl x y).2 im T L ac tp m l → Q (some (.int (bookA w bl x y).1)) (m, l, RF D, 164))  : Call G (d + 30) M_X9_book [.ref 116, .int x, .int y] (mi, ml, RF D, 164) κ Q := by
  show Run G _ M_X9_book 0 [.ref 116, .int x, .int y] [] _ _ _
  have hB := hr.1
  have hw := hv.1.1
  have hk6 := hv.2.2.1
  obtain ⟨N, P, R, ⟨hN, hP, hR, hg, hpp, hrr, hdn, hmn, hkp, hwt, hgp, htr⟩, hpc, hbits, hPJ⟩ := hB.n hw
  obtain ⟨w0, w1, w2, w3, w4, w5, w6, w10⟩ := hB.cells
  have hl := hr.2.2.2.2.1
  have hl5 := hv.1.2.2.2.2.2.1
  refine il_1 dX9_book_0 ?_
  refine R_iconst (v := -1) dX9_book_1 (by decide) ?_
  refine R_icmp_ne (tgt := 12) dX9_book_2 (by decide) (fun c2 => ?_) (fun c2 => ?_)
  · refine al_0 dX9_book_12 ?_
    refine il_1 dX9_book_13 ?_
    refine cv_1 dX9_book_14 mm_RX9_305 sh_116 (Nat.le_of_ble_eq_true rfl) ⟨_, rfl, rfl⟩ (Nat.le_of_ble_eq_true rfl) (Nat.le_of_ble_eq_true rfl) (M_isPerson (fun c14 => ?_) (fun c14 => ?_) ⟨P, hP, hpp⟩)
    · refine R_if_ne (tgt := 22) dX9_book_17 (by decide) (fun _ => ?_) (fun q => absurd q (by decide))
      obtain ⟨i, hiP, hx⟩ := sm_of c14.1 (by rw [← hpp]; exact c14.2) (by omega)
      have hi6 : i < 6 := by omega
      have hnx : nn x = i := by rw [hx]; exact nnI (by omega)
      have hPi : w.2.2.2 i = pM mi i := hB.per hpp hP hiP
      have cp : 0 ≤ x ∧ x < w.1 2 := by rw [w2]; exact c14
      refine al_0 dX9_book_22 ?_
      refine il_2 dX9_book_23 ?_
      refine cv_1 dX9_book_24 mm_RX9_297 sh_116 (Nat.le_of_ble_eq_true rfl) ⟨_, rfl, rfl⟩ (Nat.le_of_ble_eq_true rfl) (Nat.le_of_ble_eq_true rfl) (M_isPlace (fun c24 => ?_) (fun c24 => ?_))
      · refine R_if_ne (tgt := 33) dX9_book_27 (by decide) (fun _ => ?_) (fun q => absurd q (by decide))
        obtain ⟨yy, hyy, hy⟩ := sm_of (n := 30) c24.1 c24.2 (by decide)
        have hny : nn y = yy := by rw [hy]; exact nnI (by omega)
        refine al_0 dX9_book_33 ?_
        refine R_getfi dX9_book_34 fl_RX9_174 rfl sh_116 (Nat.le_of_ble_eq_true rfl) ?_
        refine R_bipush (v := 8) dX9_book_37 (by decide) ?_
        refine R_icmp_ne (tgt := 45) dX9_book_39 (by decide) (fun c39 => ?_) (fun c39 => ?_)
        · obtain ⟨l5, l5n⟩ := len_lt (n := 8) (fun q => c39 (hl.1.trans q)) hl5
          refine al_0 dX9_book_45 ?_
          refine R_getfr (r := 143) dX9_book_46 fl_RX9_183 rfl sh_116 (Nat.le_of_ble_eq_true rfl) rf_116_57 ?_
          refine al_0 dX9_book_49 ?_
          refine R_getfi dX9_book_50 fl_RX9_174 rfl sh_116 (Nat.le_of_ble_eq_true rfl) ?_
          refine il_1 dX9_book_53 ?_
          refine R_iast dX9_book_54 sh_143 (Nat.le_of_ble_eq_true rfl) (rn_ixe hl.1) l5 ?_
          refine al_0 dX9_book_55 ?_
          refine R_getfr (r := 144) dX9_book_56 fl_RX9_186 rfl sh_116 (Nat.le_of_ble_eq_true rfl) rf_116_58 ?_
          refine al_0 dX9_book_59 ?_
          refine R_getfi dX9_book_60 fl_RX9_174 rfl sh_116 (Nat.le_of_ble_eq_true rfl) ?_
          refine il_2 dX9_book_63 ?_
          refine R_iast dX9_book_64 sh_144 (Nat.le_of_ble_eq_true rfl) (rn_ixe hl.1) l5 ?_
          refine al_0 dX9_book_65 ?_
          refine R_dup dX9_book_66 rfl ?_
          refine R_getfi dX9_book_67 fl_RX9_174 rfl sh_116 (Nat.le_of_ble_eq_true rfl) ?_
          refine R_iconst (v := 1) dX9_book_70 (by decide) ?_
          refine R_iadd dX9_book_71 ?_
          refine R_putfi dX9_book_72 fl_RX9_174 rfl (Or.inl rfl) sh_116 (Nat.le_of_ble_eq_true rfl) rfl rfl ?_
          refine al_0 dX9_book_75 ?_
          refine R_getfi dX9_book_76 fl_RX9_174 rfl sh_116 (Nat.le_of_ble_eq_true rfl) ?_
          refine R_ireturn dX9_book_79 ⟨_, rfl, rfl⟩ ?_
          have eA : bookA w bl x y = (nI (bl.length + 1), bl ++ [(i, yy)]) := by unfold bookA; rw [if_neg c2, if_pos cp, if_pos c24, if_neg l5n, hnx, hny]
          rw [eA] at h
          have ea : ∀ a, a ≠ 116 → (a < 143 ∨ 144 < a) → (rn_u (rn_u (rn_u mi 143 bl.length x) 144 bl.length y) 116 54 (nI bl.length + 1)) a = mi a := fun a a1 a2 => by rw [rn_u_ne a1, rn_u_ne (by omega), rn_u_ne (by omega)]
          refine ret_eq (h (rn_u (rn_u (rn_u mi 143 bl.length x) 144 bl.length y) 116 54 (nI bl.length + 1)) ml (lo_of (fun a ha => ea a (by omega) (by omega))) (hr.book ⟨?_, fun j q hj => ?_⟩ (fun f f1 => by simp [rn_u, f1]) ea)) ?_ ?_
          · rw [List.length_append]; exact rn_u_eq.trans (sm_add _ 1)
          · rcases snoc_get hj with ⟨j1, j2⟩ | ⟨j1, j2⟩
            · obtain ⟨b1, b2⟩ := hl.2 j q j2
              have jn : j ≠ bl.length := by omega
              refine ⟨?_, ?_⟩
              · rw [← b1]; simp [rn_u, jn]
              · rw [← b2]; simp [rn_u, jn]
            · subst j1; subst j2
              refine ⟨?_, ?_⟩
              · dsimp only; rw [← hx]; simp [rn_u]
              · dsimp only; rw [← hy]; simp [rn_u]
          · rw [← hl.1]; rfl
          · rw [← sm_add, ← hl.1]; rfl
        · refine R_bipush (v := -4) dX9_book_42 (by decide) ?_
          refine R_ireturn dX9_book_44 ⟨_, rfl, rfl⟩ ?_
          have eA : bookA w bl x y = (-4, bl) := by unfold bookA; rw [if_neg c2, if_pos cp, if_pos c24, if_pos (sm_inj (b := 8) (by omega) (by decide) (hl.1.symm.trans c39))]
          rw [eA] at h
          exact h mi ml (LO.refl _ _) hr
      · refine R_if_ne (tgt := 33) dX9_book_27 (by decide) (fun q => absurd q (by decide)) (fun _ => ?_)
        refine R_bipush (v := -2) dX9_book_30 (by decide) ?_
        refine R_ireturn dX9_book_32 ⟨_, rfl, rfl⟩ ?_
        have eA : bookA w bl x y = (-2, bl) := by unfold bookA; rw [if_neg c2, if_pos cp, if_neg c24]
        rw [eA] at h
        exact h mi ml (LO.refl _ _) hr
    · refine R_if_ne (tgt := 22) dX9_book_17 (by decide) (fun q => absurd q (by decide)) (fun _ => ?_)
      refine R_iconst (v := -1) dX9_book_20 (by decide) ?_
      refine R_ireturn dX9_book_21 ⟨_, rfl, rfl⟩ ?_
      have eA : bookA w bl x y = (-1, bl) := by unfold bookA; rw [if_neg c2, if_neg (by rw [w2]; exact c14)]
      rw [eA] at h
      exact h mi ml (LO.refl _ _) hr
  · refine al_0 dX9_book_5 ?_
    refine R_iconst (v := 0) dX9_book_6 (by decide) ?_
    refine R_putfi dX9_book_7 fl_RX9_174 rfl (Or.inl rfl) sh_116 (Nat.le_of_ble_eq_true rfl) rfl rfl ?_
    refine R_iconst (v := 0) dX9_book_10 (by decide) ?_
    refine R_ireturn dX9_book_11 ⟨_, rfl, rfl⟩ ?_
    have eA : bookA w bl x y = (0, []) := by unfold bookA; rw [if_pos c2]
    rw [eA] at h
    exact h (rn_u mi 116 54 0) ml (lo_of (fun a ha => rn_u_ne (by omega))) (hr.book ⟨rn_u_eq, fun j q hj => absurd hj (by simp)⟩ (fun f f1 => by simp [rn_u, f1]) (fun a a1 a2 => rn_u_ne a1))

set_option maxHeartbeats 4000000 in
theorem L_looked9 {G : rn_G} {d : Nat} {κ : Nat × Nat} {Q : Option Value → rn_S → Prop} {mi : Nat → Nat → Int32} {ml : Nat → Nat → Int64} {D : Nat → Nat} {w : WD} {c k : Nat} {ds : Nat → CL} {sl : SL} {el bl : EL} {im : IM} {T : Nat → Nat} {L : Nat} {ac : List Int32} {tp : TP} (hv : IV w c k ds sl el bl im ac tp) (hr : MR w c k ds sl el bl im T L ac tp mi ml) {V : Int32} (h : Q (some (.int V)) (mi, ml, RF D, 164)) : ∀ (l : EL) (k0 : Nat) (x : Int32), k0 + l.length = bl.length → (∀ j q, l[j]? = some q → bl[k0 + j]? = some q) → x = nI k0 → lkF w l k0 = V → Run G (d + 30) M_X9_looked 2 [.ref 116, .int x] [] (mi, ml, RF D, 164) κ Q := by
  have hB := hr.1
  have hw := hv.1.1
  have hk6 := hv.2.2.1
  obtain ⟨N, P, R, ⟨hN, hP, hR, hg, hpp, hrr, hdn, hmn, hkp, hwt, hgp, htr⟩, hpc, hbits, hPJ⟩ := hB.n hw
  obtain ⟨w0, w1, w2, w3, w4, w5, w6, w10⟩ := hB.cells
  have hl := hr.2.2.2.2.1
  have hl5 := hv.1.2.2.2.2.2.1
  intro l
  induction l with
  | nil =>
    intro k0 x hk hs hx hV
    have hk2 : k0 = bl.length := hk
    have hV0 : -5 = V := hV
    refine il_1 dX9_looked_2 ?_
    refine al_0 dX9_looked_3 ?_
    refine R_getfi dX9_looked_4 fl_RX9_174 rfl sh_116 (Nat.le_of_ble_eq_true rfl) ?_
    refine R_icmp_ge (tgt := 38) dX9_looked_7 (by decide) (fun c7 => ?_) (fun q => absurd q (not_not_intro (by rw [hx, hk2, hl.1]; exact Int32.le_refl _)))
    refine R_bipush (v := -5) dX9_looked_38 (by decide) ?_
    refine R_ireturn dX9_looked_40 ⟨_, rfl, rfl⟩ ?_
    rw [hV0]
    exact h
  | cons q l ih =>
    intro k0 x hk hs hx hV
    rw [List.length_cons] at hk
    have hq := hs 0 q rfl
    rw [Nat.add_zero] at hq
    obtain ⟨b1, b2⟩ := hl.2 k0 q hq
    have hqP := (hv.1.2.2.2.2.2.2 q (List.mem_of_getElem? hq)).1
    rw [w2, hpp, nnI (by omega)] at hqP
    have hPi : w.2.2.2 q.1 = pM mi q.1 := hB.per hpp hP hqP
    have hlk : (if w.2.2.2 q.1 2 = nI q.2 then lkF w l (k0 + 1) else nI k0) = V := hV
    rw [hPi] at hlk
    have hlk : (if mi 120 q.1 = nI q.2 then lkF w l (k0 + 1) else nI k0) = V := hlk
    refine il_1 dX9_looked_2 ?_
    refine al_0 dX9_looked_3 ?_
    refine R_getfi dX9_looked_4 fl_RX9_174 rfl sh_116 (Nat.le_of_ble_eq_true rfl) ?_
    refine R_icmp_ge (tgt := 38) dX9_looked_7 (by decide) (fun q => absurd q (by rw [hx, hl.1]; exact nI_ge (by omega) (by omega))) (fun c7 => ?_)
    refine al_0 dX9_looked_10 ?_
    refine R_getfr (r := 120) dX9_looked_11 fl_RX9_47 rfl sh_116 (Nat.le_of_ble_eq_true rfl) rf_116_12 ?_
    refine al_0 dX9_looked_14 ?_
    refine R_getfr (r := 143) dX9_looked_15 fl_RX9_183 rfl sh_116 (Nat.le_of_ble_eq_true rfl) rf_116_57 ?_
    refine il_1 dX9_looked_18 ?_
    refine R_iald dX9_looked_19 sh_143 (Nat.le_of_ble_eq_true rfl) (rn_ixe hx) (show k0 < 8 by omega) ?_
    refine R_iald dX9_looked_20 sh_120 (Nat.le_of_ble_eq_true rfl) (rn_ixe b1) (show q.1 < 6 by omega) ?_
    refine al_0 dX9_looked_21 ?_
    refine R_getfr (r := 144) dX9_looked_22 fl_RX9_186 rfl sh_116 (Nat.le_of_ble_eq_true rfl) rf_116_58 ?_
    refine il_1 dX9_looked_25 ?_
    refine R_iald dX9_looked_26 sh_144 (Nat.le_of_ble_eq_true rfl) (rn_ixe hx) (show k0 < 8 by omega) ?_
    refine R_icmp_eq (tgt := 32) dX9_looked_27 (by decide) (fun c27 => ?_) (fun c27 => ?_)
    · refine ii_1 (v := _ + 1) dX9_looked_32 rfl (by rfl) ?_
      refine R_goto (tgt := 2) dX9_looked_35 (by decide) ?_
      rw [b2] at c27
      rw [if_pos c27] at hlk
      exact ih (k0 + 1) _ (by omega) (fun j u hj => by rw [show k0 + 1 + j = k0 + (j + 1) by omega]; exact hs (j + 1) u hj) (by rw [hx]; exact sm_add k0 1) hlk
    · refine il_1 dX9_looked_30 ?_
      refine R_ireturn dX9_looked_31 ⟨_, rfl, rfl⟩ ?_
      rw [b2] at c27
      rw [if_neg c27, ← hx] at hlk
      rw [hlk]
      exact h

set_option maxHeartbeats 4000000 in
theorem MC_looked {G : rn_G} {d : Nat} {κ : Nat × Nat} {Q : Option Value → rn_S → Prop} {mi : Nat → Nat → Int32} {ml : Nat → Nat → Int64} {D : Nat → Nat} {w : WD} {c k : Nat} {ds : Nat → CL} {sl : SL} {el bl : EL} {im : IM} {T : Nat → Nat} {L : Nat} {ac : List Int32} {tp : TP} (hv : IV w c k ds sl el bl im ac tp) (hr : MR w c k ds sl el bl im T L ac tp mi ml) (h : ∀ m l, LO mi m ml l → MR w c k ds sl el bl im T L ac tp m l → Q (some (.int (lkF w bl 0))) (m, l, RF D, 164))  : Call G (d + 30) M_X9_looked [.ref 116] (mi, ml, RF D, 164) κ Q := by
  show Run G _ M_X9_looked 0 [.ref 116, .null] [] _ _ _
  refine R_iconst (v := 0) dX9_looked_0 (by decide) ?_
  refine is_1 dX9_looked_1 rfl ?_
  exact L_looked9 hv hr (h mi ml (LO.refl _ _) hr) bl 0 0 (Nat.zero_add _) (fun j q hj => by rw [Nat.zero_add]; exact hj) rfl rfl
