/-! the class: act, taken -/
def undF : Nat → Nat → Nat → Bool
  | 0, k, b => decide (k = b)
  | n + 1, k, b => if k = b then true else if k = 0 then false else undF n (abv k) b
theorem und_iff {k b : Nat} (hk : k ≤ 6) (hb : b ≤ 6) : undF 7 k b = true ↔ (nI b = 0 ∨ nI k = nI b ∨ (nI b = 1 ∧ nI k = 4) ∨ (nI b = 2 ∧ nI k = 5) ∨ (nI b = 3 ∧ nI k = 6)) := by
  rcases k_7 hk with rfl | rfl | rfl | rfl | rfl | rfl | rfl <;> rcases k_7 hb with rfl | rfl | rfl | rfl | rfl | rfl | rfl <;> decide

set_option maxHeartbeats 4000000 in
theorem L_undN {G : rn_G} {d : Nat} {κ : Nat × Nat} {Q : Option Value → rn_S → Prop} {σ : rn_S} {x y z : Int32} (hy : 0 ≤ y) (h : Q (some (.int 0)) σ) : Run G d M_X8_isUnder 4 [.int x, .int y, .int (-1), .int z] [] σ κ Q := by
  have ny : ¬ (-1 : Int32) = y := fun q => absurd (show (0 : Int32) ≤ -1 by rw [q]; exact hy) (by decide)
  refine il_3 dX8_isUnder_4 ?_
  refine R_bipush (v := 7) dX8_isUnder_5 (by decide) ?_
  refine R_icmp_ge (tgt := 31) dX8_isUnder_7 (by decide) (fun c7 => ?_) (fun c7 => ?_)
  · refine il_2 dX8_isUnder_31 ?_
    refine il_1 dX8_isUnder_32 ?_
    refine R_icmp_ne (tgt := 40) dX8_isUnder_33 (by decide) (fun c33 => ?_) (fun q => absurd q (ny))
    refine R_iconst (v := 0) dX8_isUnder_40 (by decide) ?_
    refine R_ireturn dX8_isUnder_41 ⟨_, rfl, rfl⟩ ?_
    exact h
  · refine il_2 dX8_isUnder_10 ?_
    refine R_if_lt (tgt := 31) dX8_isUnder_11 (by decide) (fun _ => ?_) (fun q => absurd q (by decide))
    refine il_2 dX8_isUnder_31 ?_
    refine il_1 dX8_isUnder_32 ?_
    refine R_icmp_ne (tgt := 40) dX8_isUnder_33 (by decide) (fun c33 => ?_) (fun q => absurd q (ny))
    refine R_iconst (v := 0) dX8_isUnder_40 (by decide) ?_
    refine R_ireturn dX8_isUnder_41 ⟨_, rfl, rfl⟩ ?_
    exact h

set_option maxHeartbeats 4000000 in
theorem L_under {G : rn_G} {d : Nat} {κ : Nat × Nat} {Q : Option Value → rn_S → Prop} {σ : rn_S} {b : Nat} {x y : Int32} (hy : y = nI b) (hb : b ≤ 6) : ∀ (n j k : Nat) (v z : Int32), j + n = 7 → v = nI k → k ≤ 6 → z = nI j → (undF n k b = true → Q (some (.int 1)) σ) → (undF n k b = false → Q (some (.int 0)) σ) → Run G d M_X8_isUnder 4 [.int x, .int y, .int v, .int z] [] σ κ Q := by
  intro n
  induction n with
  | zero =>
    intro j k v z hj hv hk hz h1 h0
    by_cases e : k = b
    · have ev : v = y := by rw [hv, hy, e]
      have h1 := h1 (decide_eq_true e)
      refine il_3 dX8_isUnder_4 ?_
      refine R_bipush (v := 7) dX8_isUnder_5 (by decide) ?_
      refine R_icmp_ge (tgt := 31) dX8_isUnder_7 (by decide) (fun c7 => ?_) (fun q => absurd q (not_not_intro (by rw [hz, show j = 7 by omega]; decide)))
      refine il_2 dX8_isUnder_31 ?_
      refine il_1 dX8_isUnder_32 ?_
      refine R_icmp_ne (tgt := 40) dX8_isUnder_33 (by decide) (fun q => absurd q (not_not_intro ev)) (fun c33 => ?_)
      refine R_iconst (v := 1) dX8_isUnder_36 (by decide) ?_
      refine R_goto (tgt := 41) dX8_isUnder_37 (by decide) ?_
      refine R_ireturn dX8_isUnder_41 ⟨_, rfl, rfl⟩ ?_
      exact h1
    · have ev : ¬ v = y := fun q => e (sm_inj (by omega) (by omega) (hv.symm.trans (q.trans hy)))
      have h0 := h0 (decide_eq_false e)
      refine il_3 dX8_isUnder_4 ?_
      refine R_bipush (v := 7) dX8_isUnder_5 (by decide) ?_
      refine R_icmp_ge (tgt := 31) dX8_isUnder_7 (by decide) (fun c7 => ?_) (fun q => absurd q (not_not_intro (by rw [hz, show j = 7 by omega]; decide)))
      refine il_2 dX8_isUnder_31 ?_
      refine il_1 dX8_isUnder_32 ?_
      refine R_icmp_ne (tgt := 40) dX8_isUnder_33 (by decide) (fun c33 => ?_) (fun q => absurd q (ev))
      refine R_iconst (v := 0) dX8_isUnder_40 (by decide) ?_
      refine R_ireturn dX8_isUnder_41 ⟨_, rfl, rfl⟩ ?_
      exact h0
  | succ n ih =>
    intro j k v z hj hv hk hz h1 h0
    have S7 : ¬ 7 ≤ z := by rw [hz]; exact nI_ge (b := 7) (by omega) (by decide)
    have nv : ¬ v < 0 := by rw [hv]; exact nI_pos (by omega)
    by_cases e : k = b
    · have ev : v = y := by rw [hv, hy, e]
      have h1 := h1 (if_pos e)
      refine il_3 dX8_isUnder_4 ?_
      refine R_bipush (v := 7) dX8_isUnder_5 (by decide) ?_
      refine R_icmp_ge (tgt := 31) dX8_isUnder_7 (by decide) (fun q => absurd q (S7)) (fun c7 => ?_)
      refine il_2 dX8_isUnder_10 ?_
      refine R_if_lt (tgt := 31) dX8_isUnder_11 (by decide) (fun q => absurd q (nv)) (fun c11 => ?_)
      refine il_2 dX8_isUnder_14 ?_
      refine il_1 dX8_isUnder_15 ?_
      refine R_icmp_eq (tgt := 31) dX8_isUnder_16 (by decide) (fun c16 => ?_) (fun q => absurd q (not_not_intro ev))
      refine il_2 dX8_isUnder_31 ?_
      refine il_1 dX8_isUnder_32 ?_
      refine R_icmp_ne (tgt := 40) dX8_isUnder_33 (by decide) (fun q => absurd q (not_not_intro ev)) (fun c33 => ?_)
      refine R_iconst (v := 1) dX8_isUnder_36 (by decide) ?_
      refine R_goto (tgt := 41) dX8_isUnder_37 (by decide) ?_
      refine R_ireturn dX8_isUnder_41 ⟨_, rfl, rfl⟩ ?_
      exact h1
    · have ev : ¬ v = y := fun q => e (sm_inj (by omega) (by omega) (hv.symm.trans (q.trans hy)))
      by_cases k0 : k = 0
      · have h0 := h0 ((if_neg e).trans (if_pos k0))
        refine il_3 dX8_isUnder_4 ?_
        refine R_bipush (v := 7) dX8_isUnder_5 (by decide) ?_
        refine R_icmp_ge (tgt := 31) dX8_isUnder_7 (by decide) (fun q => absurd q (S7)) (fun c7 => ?_)
        refine il_2 dX8_isUnder_10 ?_
        refine R_if_lt (tgt := 31) dX8_isUnder_11 (by decide) (fun q => absurd q (nv)) (fun c11 => ?_)
        refine il_2 dX8_isUnder_14 ?_
        refine il_1 dX8_isUnder_15 ?_
        refine R_icmp_eq (tgt := 31) dX8_isUnder_16 (by decide) (fun q => absurd q (ev)) (fun c16 => ?_)
        refine R_gets (v := .ref 1001) dX8_isUnder_19 gs_RX8_341 (by decide) ?_
        refine il_2 dX8_isUnder_22 ?_
        refine R_ialdP (r := 1) dX8_isUnder_23 (by decide) (rn_ixe (hv.trans (congrArg nI k0))) (show 0 < 7 by decide) ?_
        refine is_2 dX8_isUnder_24 rfl ?_
        refine ii_3 (v := _ + 1) dX8_isUnder_25 rfl (by rfl) ?_
        refine R_goto (tgt := 4) dX8_isUnder_28 (by decide) ?_
        exact L_undN (by rw [hy]; exact Int32.not_lt.mp (nI_pos (by omega))) h0
      · have eu : undF (n + 1) k b = undF n (abv k) b := (if_neg e).trans (if_neg k0)
        rw [eu] at h1 h0
        refine il_3 dX8_isUnder_4 ?_
        refine R_bipush (v := 7) dX8_isUnder_5 (by decide) ?_
        refine R_icmp_ge (tgt := 31) dX8_isUnder_7 (by decide) (fun q => absurd q (S7)) (fun c7 => ?_)
        refine il_2 dX8_isUnder_10 ?_
        refine R_if_lt (tgt := 31) dX8_isUnder_11 (by decide) (fun q => absurd q (nv)) (fun c11 => ?_)
        refine il_2 dX8_isUnder_14 ?_
        refine il_1 dX8_isUnder_15 ?_
        refine R_icmp_eq (tgt := 31) dX8_isUnder_16 (by decide) (fun q => absurd q (ev)) (fun c16 => ?_)
        refine R_gets (v := .ref 1001) dX8_isUnder_19 gs_RX8_341 (by decide) ?_
        refine il_2 dX8_isUnder_22 ?_
        refine R_ialdP (r := 1) dX8_isUnder_23 (by decide) (rn_ixe hv) (show k < 7 by omega) ?_
        refine is_2 dX8_isUnder_24 rfl ?_
        refine ii_3 (v := _ + 1) dX8_isUnder_25 rfl (by rfl) ?_
        refine R_goto (tgt := 4) dX8_isUnder_28 (by decide) ?_
        exact ih (j + 1) (abv k) _ _ (by omega) (ka_abv k0 hk) abv_le (by rw [hz]; exact sm_add j 1) h1 h0

set_option maxHeartbeats 4000000 in
theorem K_isUnder {G : rn_G} {d : Nat} {κ : Nat × Nat} {Q : Option Value → rn_S → Prop} {σ : rn_S} {k b : Nat} {x y : Int32} (hx : x = nI k) (hk : k ≤ 6) (hy : y = nI b) (hb : b ≤ 6) (h1 : undF 7 k b = true → Q (some (.int 1)) σ) (h0 : undF 7 k b = false → Q (some (.int 0)) σ) : Call G (d) M_X8_isUnder [.int x, .int y] σ κ Q := by
  show Run G _ M_X8_isUnder 0 [.int x, .int y, .null, .null] [] _ _ _
  refine il_0 dX8_isUnder_0 ?_
  refine is_2 dX8_isUnder_1 rfl ?_
  refine R_iconst (v := 0) dX8_isUnder_2 (by decide) ?_
  refine is_3 dX8_isUnder_3 rfl ?_
  exact L_under hy hb 7 0 k _ 0 rfl hx hk rfl h1 h0

set_option maxHeartbeats 4000000 in
theorem KC_taken {G : rn_G} {d : Nat} {κ : Nat × Nat} {Q : Option Value → rn_S → Prop} {mi : Nat → Nat → Int32} {ml : Nat → Nat → Int64} {D : Nat → Nat} {x y : Int32} {w : WD} {c k : Nat} {ds : Nat → CL} {sl : SL} {el bl : EL} {im : IM} {T : Nat → Nat} {L : Nat} {ac : List Int32} {tp : TP} (hv : IV w c k ds sl el bl im ac tp) (hc : CR w c k ds sl el bl im T L ac tp mi ml D) (h : ∀ m l D', HI mi m ml l → CR w c k ds sl el bl im T L ac tp m l D' → Q (some (.int (takenA w x y))) (m, l, RF D', 164))  : Call G (d + 30) M_X8_taken [.ref 1, .int x, .int y] (mi, ml, RF D, 164) κ Q := by
  show Run G _ M_X8_taken 0 [.ref 1, .int x, .int y, .null] [] _ _ _
  have hw := hv.1.1
  have hk6 := hv.2.2.1
  have hck := hv.2.1
  have hB : PB 2 := Or.inl rfl
  obtain ⟨hD2, hwc, z12, z13, z14⟩ := hc.1
  obtain ⟨cp1, cp2, cp3, cp4⟩ := cuA_pd (c := c) (by omega)
  have hkD : PD (D 2) := by rw [hD2]; exact cp1
  obtain ⟨N, P, R, hN, hP, hR, hg, hpp, hrr, hPJ⟩ := hc.1.n hw
  obtain ⟨w0, w1, w2, w3, w4, w5, w6⟩ := hc.1.cells
  refine il_2 dX8_taken_0 ?_
  refine R_if_lt (tgt := 10) dX8_taken_1 (by decide) (fun c1 => ?_) (fun c1 => ?_)
  · refine R_bipush (v := -2) dX8_taken_10 (by decide) ?_
    refine R_ireturn dX8_taken_12 ⟨_, rfl, rfl⟩ ?_
    have eA : takenA w x y = -2 := by unfold takenA; rw [if_neg (fun q => by first | exact Int32.not_lt.mpr q.1 (by first | exact c1 | exact Int32.not_le.mp c1) | exact absurd ((lt_succ_iff (a := 6)).mpr q.2) (by first | exact c7 | exact Int32.not_lt.mpr c7))]
    rw [eA] at h
    exact h mi ml D (HI.refl _ _) hc
  · refine il_2 dX8_taken_4 ?_
    refine R_bipush (v := 7) dX8_taken_5 (by decide) ?_
    refine R_icmp_lt (tgt := 13) dX8_taken_7 (by decide) (fun c7 => ?_) (fun c7 => ?_)
    · have cy : 0 ≤ y ∧ y ≤ 6 := ⟨by first | exact c1 | exact Int32.not_lt.mp c1, (lt_succ_iff (a := 6)).mp (by first | exact c7 | exact Int32.not_le.mp c7)⟩
      obtain ⟨bb, hbb, hy⟩ := sm_of cy.1 ((lt_succ_iff (a := 6)).mpr cy.2) (by decide)
      have hb6 : bb ≤ 6 := by omega
      refine al_0 dX8_taken_13 ?_
      refine R_getfr (r := 2) dX8_taken_14 fl_RX8_12 rfl sh_1 (Nat.le_of_ble_eq_true rfl) rf_1_0 ?_
      refine il_1 dX8_taken_17 ?_
      refine cv_1 dX8_taken_18 mm_RX8_93 sh_2 (Nat.le_of_ble_eq_true rfl) ⟨_, rfl, rfl⟩ (Nat.le_of_ble_eq_true rfl) (Nat.le_of_ble_eq_true rfl) (K_hasPerson hB (fun c18 => ?_) (fun c18 => ?_))
      · refine R_if_ne (tgt := 27) dX8_taken_21 (by decide) (fun _ => ?_) (fun q => absurd q (by decide))
        obtain ⟨i, hiP, hx⟩ := sm_of c18.1 (by rw [← hpp]; exact c18.2) (by omega)
        have hi6 : i < 6 := by omega
        have hnx : nn x = i := by rw [hx]; exact nnI (by omega)
        have hPi : w.2.2.2 i = pC mi (2 + 7 + 2 * i) := hc.1.per hpp hP hiP
        have cp : 0 ≤ x ∧ x < w.1 2 := by rw [w2]; exact c18
        have hpq : PQ (2 + 7 + 2 * i) := pb_q hB hi6
        obtain ⟨⟨kd, hkd6, hkd⟩, -⟩ := hPJ i hiP
        rw [hPi] at hkd
        have hkd : mi (2 + 7 + 2 * i) 0 = nI kd := hkd
        refine al_0 dX8_taken_27 ?_
        refine R_getfr (r := 2) dX8_taken_28 fl_RX8_12 rfl sh_1 (Nat.le_of_ble_eq_true rfl) rf_1_0 ?_
        refine R_getfr (r := 4) dX8_taken_31 fl_RX8_96 rfl sh_2 (Nat.le_of_ble_eq_true rfl) rf_2_1 ?_
        refine il_1 dX8_taken_34 ?_
        refine R_aald (t := 4) (r := (2 + 7 + 2 * i)) dX8_taken_35 (by decide) sh_4 (Nat.le_of_ble_eq_true rfl) (rn_ixe hx) hi6 (pb_rq (b := 2) hB hi6) ?_
        refine R_getfi dX8_taken_36 fl_RX8_100 rfl (pq_s0 hpq) (show (2 + 7 + 2 * i) < 164 by have := pq_n hpq; omega) ?_
        refine is_3 dX8_taken_39 rfl ?_
        refine il_3 dX8_taken_40 ?_
        refine il_2 dX8_taken_41 ?_
        refine cs_2 dX8_taken_42 mm_RX8_338 (Nat.le_of_ble_eq_true rfl) (Nat.le_of_ble_eq_true rfl) (K_isUnder hkd hkd6 hy hb6 (fun c42 => ?_) (fun c42 => ?_))
        · refine R_if_eq (tgt := 52) dX8_taken_45 (by decide) (fun q => absurd q (by decide)) (fun _ => ?_)
          refine il_3 dX8_taken_48 ?_
          refine R_goto (tgt := 54) dX8_taken_49 (by decide) ?_
          refine R_ireturn dX8_taken_54 ⟨_, rfl, rfl⟩ ?_
          have iff := und_iff hkd6 hb6
          rw [← hkd, ← hy] at iff
          have eA : takenA w x y = if undF 7 kd bb = true then mi (2 + 7 + 2 * i) 0 else -12 := by
            unfold takenA
            rw [if_pos cy, if_pos cp, hnx, hPi]
            by_cases e : undF 7 kd bb = true
            · rw [if_pos e]; exact if_pos (iff.mp e)
            · rw [if_neg e]; exact if_neg (fun q => e (iff.mpr q))
          first
            | (rw [if_pos c42] at eA; rw [eA] at h; exact h mi ml D (HI.refl _ _) hc)
            | (rw [if_neg (by rw [c42]; decide)] at eA; rw [eA] at h; exact h mi ml D (HI.refl _ _) hc)
        · refine R_if_eq (tgt := 52) dX8_taken_45 (by decide) (fun _ => ?_) (fun q => absurd q (by decide))
          refine R_bipush (v := -12) dX8_taken_52 (by decide) ?_
          refine R_ireturn dX8_taken_54 ⟨_, rfl, rfl⟩ ?_
          have iff := und_iff hkd6 hb6
          rw [← hkd, ← hy] at iff
          have eA : takenA w x y = if undF 7 kd bb = true then mi (2 + 7 + 2 * i) 0 else -12 := by
            unfold takenA
            rw [if_pos cy, if_pos cp, hnx, hPi]
            by_cases e : undF 7 kd bb = true
            · rw [if_pos e]; exact if_pos (iff.mp e)
            · rw [if_neg e]; exact if_neg (fun q => e (iff.mpr q))
          first
            | (rw [if_pos c42] at eA; rw [eA] at h; exact h mi ml D (HI.refl _ _) hc)
            | (rw [if_neg (by rw [c42]; decide)] at eA; rw [eA] at h; exact h mi ml D (HI.refl _ _) hc)
      · refine R_if_ne (tgt := 27) dX8_taken_21 (by decide) (fun q => absurd q (by decide)) (fun _ => ?_)
        refine R_bipush (v := -11) dX8_taken_24 (by decide) ?_
        refine R_ireturn dX8_taken_26 ⟨_, rfl, rfl⟩ ?_
        have eA : takenA w x y = -11 := by unfold takenA; rw [if_pos cy, if_neg (by rw [w2]; exact c18)]
        rw [eA] at h
        exact h mi ml D (HI.refl _ _) hc
    · refine R_bipush (v := -2) dX8_taken_10 (by decide) ?_
      refine R_ireturn dX8_taken_12 ⟨_, rfl, rfl⟩ ?_
      have eA : takenA w x y = -2 := by unfold takenA; rw [if_neg (fun q => by first | exact Int32.not_lt.mpr q.1 (by first | exact c1 | exact Int32.not_le.mp c1) | exact absurd ((lt_succ_iff (a := 6)).mpr q.2) (by first | exact c7 | exact Int32.not_lt.mpr c7))]
      rw [eA] at h
      exact h mi ml D (HI.refl _ _) hc

set_option maxHeartbeats 4000000 in
theorem K_beginA {G : rn_G} {d : Nat} {κ : Nat × Nat} {Q : Option Value → rn_S → Prop} {mi : Nat → Nat → Int32} {ml : Nat → Nat → Int64} {D : Nat → Nat} {p i kd a : Nat} {x y z : Int32} (hpq : PQ p) (hx : x = nI i) (hkd : mi p 0 = nI kd) (hk6 : kd ≤ 6) (hy : y = nI a) (ha : a ≤ 2) (h1 : mi 89 1 = 0) (h : ∀ m, AK (rn_u (rn_u (rn_u mi 89 3 x) 89 2 (mi p 0)) 89 4 (mi p 1)) m (actT kd a) → Q (some (.int (actV kd (mi p 1) (nI i) z a))) (m, ml, RF D, 164)) : Call G (d + 14) M_X0_begin [.ref 89, .int x, .ref p, .int y, .int z] (mi, ml, RF D, 164) κ Q := by
  show Run G _ M_X0_begin 0 [.ref 89, .int x, .ref p, .int y, .int z] [] _ _ _
  have p89 : p ≠ 89 := by obtain ⟨b, i, hb, h6, e⟩ := hpq; unfold PB at hb; omega
  have hm3 : (rn_u (rn_u (rn_u mi 89 3 x) 89 2 (mi p 0)) 89 4 (mi p 1)) 89 3 = nI i := by rw [← hx]; rfl
  have hm2 : (rn_u (rn_u (rn_u mi 89 3 x) 89 2 (mi p 0)) 89 4 (mi p 1)) 89 2 = nI kd := by rw [← hkd]; rfl
  have hak : AK (rn_u (rn_u (rn_u mi 89 3 x) 89 2 (mi p 0)) 89 4 (mi p 1)) (rn_u (rn_u (rn_u mi 89 3 x) 89 2 (mi p 0)) 89 4 (mi p 1)) [] := ⟨fun _ _ _ => rfl, fun _ _ => rfl, h1, fun j v hj => absurd hj (by simp)⟩
  refine al_0 dX0_begin_0 ?_
  refine il_1 dX0_begin_1 ?_
  refine R_putfi dX0_begin_2 fl_RX0_15 rfl (Or.inl rfl) sh_89 (Nat.le_of_ble_eq_true rfl) rfl rfl ?_
  refine al_0 dX0_begin_5 ?_
  refine al_2 dX0_begin_6 ?_
  refine R_getfi dX0_begin_7 fl_RX0_19 rfl (pq_s0 hpq) (show p < 164 by have := pq_n hpq; omega) ?_
  rw [rn_u_ne p89]
  refine R_putfi dX0_begin_10 fl_RX0_24 rfl (Or.inl rfl) sh_89 (Nat.le_of_ble_eq_true rfl) rfl rfl ?_
  refine al_0 dX0_begin_13 ?_
  refine al_2 dX0_begin_14 ?_
  refine R_getfi dX0_begin_15 fl_RX0_25 rfl (pq_s0 hpq) (show p < 164 by have := pq_n hpq; omega) ?_
  rw [rn_u_ne p89, rn_u_ne p89]
  refine R_putfi dX0_begin_18 fl_RX0_28 rfl (Or.inl rfl) sh_89 (Nat.le_of_ble_eq_true rfl) rfl rfl ?_
  refine al_0 dX0_begin_21 ?_
  refine al_0 dX0_begin_22 ?_
  refine R_getfi dX0_begin_23 fl_RX0_24 rfl sh_89 (Nat.le_of_ble_eq_true rfl) ?_
  refine il_3 dX0_begin_26 ?_
  refine il_4 dX0_begin_27 ?_
  refine R_iconst (v := 0) dX0_begin_29 (by decide) ?_
  refine cv_4 dX0_begin_30 mm_RX0_29 sh_89 (Nat.le_of_ble_eq_true rfl) ⟨_, rfl, rfl⟩ (Nat.le_of_ble_eq_true rfl) (Nat.le_of_ble_eq_true rfl) (RA (m0 := (rn_u (rn_u (rn_u mi 89 3 x) 89 2 (mi p 0)) 89 4 (mi p 1))) (i := i) (kd := kd) (v := mi p 1) (N := 0) (u := z) hm3 rfl hm2 hk6 ha (by decide) _ _ _ _ _ _ _ 0 hm2 hy rfl (Nat.le_refl 0) hak (by have := actT_l kd a; rw [List.length_nil]; omega) (fun m hm => ?_))
  refine R_ireturn dX0_begin_33 ⟨_, rfl, rfl⟩ ?_
  exact h m hm

theorem CR.act {w : WD} {c k : Nat} {ds : Nat → CL} {sl : SL} {el bl : EL} {im : IM} {T : Nat → Nat} {L : Nat} {ac ac' : List Int32} {tp : TP} {mi mi' : Nat → Nat → Int32} {ml : Nat → Nat → Int64} {D : Nat → Nat} (h : CR w c k ds sl el bl im T L ac tp mi ml D) (hv : IV w c k ds sl el bl im ac tp) (ht : CAc mi' ac') (g : ∀ a, a ≠ 89 → a ≠ 90 → mi' a = mi a) : CR w c k ds sl el bl im T L ac' tp mi' ml D := by
  obtain ⟨a1, a2, a3, a4, a5, a6, a7, a8, a9, a10⟩ := h
  obtain ⟨v1, v2, v3, v4, v5, v6⟩ := hv
  have cp := cuA_pd (c := c) (by omega)
  exact ⟨a1.fr v1.1 rfl (g _ (by omega) (by omega)) (fun a _ _ _ _ _ => g a (by omega) (by omega)), a2.fr v3 (g 1 (by omega) (by omega)) (g 7 (by omega) (by omega)) (g 8 (by omega) (by omega)) (fun a _ _ => g a (by omega) (by omega)), a3.fr (fun x _ _ => g x (by omega) (by omega)), a4.fr (fun x _ _ => g x (by omega) (by omega)), a5.fr (fun x _ _ => g x (by omega) (by omega)), a6.fr v4 v3 rfl (g 7 (by omega) (by omega)) (fun a _ _ => g a (by omega) (by omega)) (fun a _ _ => g a (by omega) (by omega)), a7.fr (by rw [g 84 (by omega) (by omega)]) (g 85 (by omega) (by omega)), ht, a9.fr (fun a _ _ => ⟨g a (by omega) (by omega), rfl⟩), a10⟩

set_option maxHeartbeats 4000000 in
theorem KC_act {G : rn_G} {d : Nat} {κ : Nat × Nat} {Q : Option Value → rn_S → Prop} {mi : Nat → Nat → Int32} {ml : Nat → Nat → Int64} {D : Nat → Nat} {x y z : Int32} {w : WD} {c k : Nat} {ds : Nat → CL} {sl : SL} {el bl : EL} {im : IM} {T : Nat → Nat} {L : Nat} {ac : List Int32} {tp : TP} (hv : IV w c k ds sl el bl im ac tp) (hc : CR w c k ds sl el bl im T L ac tp mi ml D) (h : ∀ m l D', HI mi m ml l → CR w c k ds sl el bl im T L (actA w x y z).2 tp m l D' → Q (some (.int (actA w x y z).1)) (m, l, RF D', 164))  : Call G (d + 30) M_X8_act [.ref 1, .int x, .int y, .int z] (mi, ml, RF D, 164) κ Q := by
  show Run G _ M_X8_act 0 [.ref 1, .int x, .int y, .int z] [] _ _ _
  have hw := hv.1.1
  have hk6 := hv.2.2.1
  have hck := hv.2.1
  have hB : PB 2 := Or.inl rfl
  obtain ⟨hD2, hwc, z12, z13, z14⟩ := hc.1
  obtain ⟨cp1, cp2, cp3, cp4⟩ := cuA_pd (c := c) (by omega)
  have hkD : PD (D 2) := by rw [hD2]; exact cp1
  obtain ⟨N, P, R, hN, hP, hR, hg, hpp, hrr, hPJ⟩ := hc.1.n hw
  obtain ⟨w0, w1, w2, w3, w4, w5, w6⟩ := hc.1.cells
  refine al_0 dX8_act_0 ?_
  refine R_getfr (r := 89) dX8_act_1 fl_RX8_59 rfl sh_1 (Nat.le_of_ble_eq_true rfl) rf_1_8 ?_
  refine R_iconst (v := 0) dX8_act_4 (by decide) ?_
  refine R_putfi dX8_act_5 fl_RX8_325 rfl (Or.inl rfl) sh_89 (Nat.le_of_ble_eq_true rfl) rfl rfl ?_
  have e1 : ∀ a, a ≠ 89 → rn_u mi 89 1 0 a = mi a := fun a ha => rn_u_ne ha
  have hpp1 : rn_u mi 89 1 0 2 6 = nI P := hpp
  refine al_0 dX8_act_8 ?_
  refine R_getfr (r := 2) dX8_act_9 fl_RX8_12 rfl sh_1 (Nat.le_of_ble_eq_true rfl) rf_1_0 ?_
  refine il_1 dX8_act_12 ?_
  refine cv_1 dX8_act_13 mm_RX8_93 sh_2 (Nat.le_of_ble_eq_true rfl) ⟨_, rfl, rfl⟩ (Nat.le_of_ble_eq_true rfl) (Nat.le_of_ble_eq_true rfl) (K_hasPerson hB (fun c13 => ?_) (fun c13 => ?_))
  · refine R_if_eq (tgt := 28) dX8_act_16 (by decide) (fun q => absurd q (by decide)) (fun _ => ?_)
    refine il_2 dX8_act_19 ?_
    refine R_if_lt (tgt := 28) dX8_act_20 (by decide) (fun c20 => ?_) (fun c20 => ?_)
    · refine R_iconst (v := 0) dX8_act_28 (by decide) ?_
      refine R_ireturn dX8_act_29 ⟨_, rfl, rfl⟩ ?_
      have eA : actA w x y z = (0, []) := by unfold actA; rw [if_neg (fun q => by first | exact c13 (by have := q.1; rw [w2] at this; exact this) | exact Int32.not_lt.mpr q.2.1 (by first | exact c20 | exact Int32.not_le.mp c20) | exact absurd ((lt_succ_iff (a := 2)).mpr q.2.2) (by first | exact c25 | exact Int32.not_lt.mpr c25))]
      rw [eA] at h
      exact h _ ml D (hi_of (fun a ha => e1 a (by omega))) (hc.act hv ⟨rn_u_eq, fun j v hj => absurd hj (by simp)⟩ (fun a a1 _ => e1 a a1))
    · refine il_2 dX8_act_23 ?_
      refine R_iconst (v := 3) dX8_act_24 (by decide) ?_
      refine R_icmp_lt (tgt := 30) dX8_act_25 (by decide) (fun c25 => ?_) (fun c25 => ?_)
      · obtain ⟨i, hiP, hx⟩ := sm_of c13.1 (by rw [← hpp1]; exact c13.2) (by omega)
        have hi6 : i < 6 := by omega
        have hnx : nn x = i := by rw [hx]; exact nnI (by omega)
        have hPi : w.2.2.2 i = pC mi (2 + 7 + 2 * i) := hc.1.per hpp hP hiP
        have cp : 0 ≤ x ∧ x < w.1 2 := by rw [w2]; exact c13
        have hpq : PQ (2 + 7 + 2 * i) := pb_q hB hi6
        obtain ⟨⟨kd, hkd6, hkd⟩, -⟩ := hPJ i hiP
        rw [hPi] at hkd
        have hkd : mi (2 + 7 + 2 * i) 0 = nI kd := hkd
        have e9 : rn_u mi 89 1 0 (2 + 7 + 2 * i) = mi (2 + 7 + 2 * i) := e1 _ (by omega)
        have hkd2 := hkd
        rw [← e9] at hkd
        have cy : 0 ≤ y ∧ y ≤ 2 := ⟨by first | exact c20 | exact Int32.not_lt.mp c20, (lt_succ_iff (a := 2)).mp (by first | exact c25 | exact Int32.not_le.mp c25)⟩
        obtain ⟨aa, haa, hy⟩ := sm_of cy.1 ((lt_succ_iff (a := 2)).mpr cy.2) (by decide)
        have ha2 : aa ≤ 2 := by omega
        refine al_0 dX8_act_30 ?_
        refine R_getfr (r := 89) dX8_act_31 fl_RX8_59 rfl sh_1 (Nat.le_of_ble_eq_true rfl) rf_1_8 ?_
        refine il_1 dX8_act_34 ?_
        refine al_0 dX8_act_35 ?_
        refine R_getfr (r := 2) dX8_act_36 fl_RX8_12 rfl sh_1 (Nat.le_of_ble_eq_true rfl) rf_1_0 ?_
        refine R_getfr (r := 4) dX8_act_39 fl_RX8_96 rfl sh_2 (Nat.le_of_ble_eq_true rfl) rf_2_1 ?_
        refine il_1 dX8_act_42 ?_
        refine R_aald (t := 4) (r := (2 + 7 + 2 * i)) dX8_act_43 (by decide) sh_4 (Nat.le_of_ble_eq_true rfl) (rn_ixe hx) hi6 (pb_rq (b := 2) hB hi6) ?_
        refine il_2 dX8_act_44 ?_
        refine il_3 dX8_act_45 ?_
        refine cv_4 dX8_act_46 mm_RX8_328 sh_89 (Nat.le_of_ble_eq_true rfl) ⟨_, rfl, rfl⟩ (Nat.le_of_ble_eq_true rfl) (Nat.le_of_ble_eq_true rfl) (K_beginA hpq hx hkd hkd6 hy ha2 rn_u_eq (fun m hm => ?_))
        refine R_ireturn dX8_act_49 ⟨_, rfl, rfl⟩ ?_
        have hn0 : nn (mi (2 + 7 + 2 * i) 0) = kd := by rw [hkd2]; exact nnI (by omega)
        have eA : actA w x y z = (actV kd (mi (2 + 7 + 2 * i) 1) (nI i) z aa, actT kd aa) := by
          unfold actA
          rw [if_pos ⟨cp, cy⟩, hnx, hPi, hx]
          show (if y = 0 then (wtV (nn (mi (2 + 7 + 2 * i) 0)) (mi (2 + 7 + 2 * i) 1) (nI i) z, wtT (nn (mi (2 + 7 + 2 * i) 0))) else if y = 1 then (wkV (nn (mi (2 + 7 + 2 * i) 0)) (mi (2 + 7 + 2 * i) 1) (nI i) z, wkT (nn (mi (2 + 7 + 2 * i) 0))) else (ttV (nn (mi (2 + 7 + 2 * i) 0)) (mi (2 + 7 + 2 * i) 1) (nI i) z, ttT (nn (mi (2 + 7 + 2 * i) 0)))) = _
          rw [hn0, hy]
          have : aa = 0 ∨ aa = 1 ∨ aa = 2 := by omega
          rcases this with rfl | rfl | rfl <;> rfl
        rw [eA] at h
        rw [e9]
        refine h m ml D (hi_of (fun a ha => ?_)) (hc.act hv hm.2.2 (fun a a1 a2 => ?_))
        · rw [hm.1 a (by omega) (by omega), rn_u_ne (by omega), rn_u_ne (by omega), rn_u_ne (by omega), rn_u_ne (by omega)]
        · rw [hm.1 a a1 a2, rn_u_ne a1, rn_u_ne a1, rn_u_ne a1, rn_u_ne a1]
      · refine R_iconst (v := 0) dX8_act_28 (by decide) ?_
        refine R_ireturn dX8_act_29 ⟨_, rfl, rfl⟩ ?_
        have eA : actA w x y z = (0, []) := by unfold actA; rw [if_neg (fun q => by first | exact c13 (by have := q.1; rw [w2] at this; exact this) | exact Int32.not_lt.mpr q.2.1 (by first | exact c20 | exact Int32.not_le.mp c20) | exact absurd ((lt_succ_iff (a := 2)).mpr q.2.2) (by first | exact c25 | exact Int32.not_lt.mpr c25))]
        rw [eA] at h
        exact h _ ml D (hi_of (fun a ha => e1 a (by omega))) (hc.act hv ⟨rn_u_eq, fun j v hj => absurd hj (by simp)⟩ (fun a a1 _ => e1 a a1))
  · refine R_if_eq (tgt := 28) dX8_act_16 (by decide) (fun _ => ?_) (fun q => absurd q (by decide))
    refine R_iconst (v := 0) dX8_act_28 (by decide) ?_
    refine R_ireturn dX8_act_29 ⟨_, rfl, rfl⟩ ?_
    have eA : actA w x y z = (0, []) := by unfold actA; rw [if_neg (fun q => by first | exact c13 (by have := q.1; rw [w2] at this; exact this) | exact Int32.not_lt.mpr q.2.1 (by first | exact c20 | exact Int32.not_le.mp c20) | exact absurd ((lt_succ_iff (a := 2)).mpr q.2.2) (by first | exact c25 | exact Int32.not_lt.mpr c25))]
    rw [eA] at h
    exact h _ ml D (hi_of (fun a ha => e1 a (by omega))) (hc.act hv ⟨rn_u_eq, fun j v hj => absurd hj (by simp)⟩ (fun a a1 _ => e1 a a1))
