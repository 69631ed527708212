/-! the class: calls that change its world, and that look at it -/
theorem rf_2_0 {D : Nat → Nat} : RF D 2 0 = 3 := rfl
theorem rf_2_1 {D : Nat → Nat} : RF D 2 1 = 4 := rfl
theorem rf_2_2 {D : Nat → Nat} : RF D 2 2 = 5 := rfl
theorem CWd.cells {mi : Nat → Nat → Int32} {D : Nat → Nat} {b c : Nat} {w : WD} (h : CWd mi D b c w) : w.1 0 = mi b 4 ∧ w.1 1 = mi b 5 ∧ w.1 2 = mi b 6 ∧ w.1 3 = mi b 7 ∧ w.1 4 = mi b 8 ∧ w.1 5 = mi b 9 ∧ w.1 6 = mi b 10 := by
  rw [← h.2.1]
  exact ⟨rfl, rfl, rfl, rfl, rfl, rfl, rfl⟩
theorem CWd.n {mi : Nat → Nat → Int32} {D : Nat → Nat} {b c T : Nat} {w : WD} (h : CWd mi D b c w) (hw : WJ T w) : ∃ N P R, N ≤ 6 ∧ P ≤ 6 ∧ R ≤ 6 ∧ mi b 4 = nI N ∧ mi b 6 = nI P ∧ mi b 8 = nI R ∧ ∀ i, i < P → PJ (w.2.2.2 i) := by
  obtain ⟨N, P, R, hN, hP, hR, h0, h2, h4, -, -, -, -, -, -, -, -, hp⟩ := hw
  obtain ⟨w0, w1, w2, w3, w4, -⟩ := h.cells
  exact ⟨N, P, R, hN, hP, hR, w0.symm.trans h0, w2.symm.trans h2, w4.symm.trans h4, hp⟩
theorem CWd.per {mi : Nat → Nat → Int32} {D : Nat → Nat} {b c i P : Nat} {w : WD} (h : CWd mi D b c w) (hp : mi b 6 = nI P) (hP : P ≤ 6) (hi : i < P) : w.2.2.2 i = pC mi (b + 7 + 2 * i) := by
  rw [← h.2.1, wC_P hp hP hi]
theorem CR.dc {w : WD} {c k : Nat} {ds : Nat → CL} {sl : SL} {el bl : EL} {im : IM} {T : Nat → Nat} {L : Nat} {ac : List Int32} {tp : TP} {mi : Nat → Nat → Int32} {ml : Nat → Nat → Int64} {D : Nat → Nat} (h : CR w c k ds sl el bl im T L ac tp mi ml D) {q : Nat} (hq : q ≤ k) : DC mi (cuA q) (cuL ds q) := by
  obtain ⟨-, ⟨-, h7, hd⟩, -⟩ := h
  unfold cuA cuL
  split
  · exact h7
  · have e := hd (q - 1) (by omega)
    rw [show 90 + 2 * q = 92 + 2 * (q - 1) by omega]
    exact e
theorem CR.w {w w' : WD} {c k : Nat} {ds : Nat → CL} {sl : SL} {el bl : EL} {im : IM} {T : Nat → Nat} {L : Nat} {ac : List Int32} {tp : TP} {mi mi' : Nat → Nat → Int32} {ml : Nat → Nat → Int64} {D : Nat → Nat} (h : CR w c k ds sl el bl im T L ac tp mi ml D) (hv : IV w c k ds sl el bl im ac tp) (hb : CWd mi' D 2 c w') (g : ∀ a, (a < 2 ∨ a = 7 ∨ a = 8 ∨ 21 ≤ a) → mi' a = mi a) : CR w' c k ds sl el bl im T L ac tp mi' ml D := by
  obtain ⟨a1, a2, a3, a4, a5, a6, a7, a8, a9, a10⟩ := h
  obtain ⟨v1, v2, v3, v4, v5, v6⟩ := hv
  exact ⟨hb, a2.fr v3 (g 1 (by omega)) (g 7 (by omega)) (g 8 (by omega)) (fun a _ _ => g a (by omega)), a3.fr (fun x _ _ => g x (by omega)), a4.fr (fun x _ _ => g x (by omega)), a5.fr (fun x _ _ => g x (by omega)), a6.fr v4 v3 rfl (g 7 (by omega)) (fun a _ _ => g a (by omega)) (fun a _ _ => g a (by omega)), a7.fr (by rw [g 84 (by omega)]) (g 85 (by omega)), a8.fr (g 89 (by omega)) (g 90 (by omega)), a9.fr (fun a _ _ => ⟨g a (by omega), rfl⟩), a10⟩
theorem hi_of {mi M : Nat → Nat → Int32} {ml : Nat → Nat → Int64} (h : ∀ a, 116 ≤ a → M a = mi a) : HI mi M ml ml := fun a ha => ⟨h a ha, rfl⟩
theorem mins_9 {er : (Nat → Int32) → Int32} : ∀ (n : Nat) (w : WD), (minsW er n w).1 9 = w.1 9
  | 0, w => rfl
  | n + 1, w => by
    refine (mins_9 n (minuteW er w)).trans ?_
    show (if (9 : Nat) = 6 then w.1 6 + 1 else roundF w.1 w.2.1 w.2.2.1 9) = w.1 9
    rw [if_neg (by decide)]
    unfold roundF
    split
    · rw [if_neg (by decide)]
    · split
      · split
        · rw [if_neg (by decide), if_neg (by decide), if_neg (by decide)]
        · rw [if_neg (by decide)]
      · rfl

set_option maxHeartbeats 4000000 in
theorem KC_gate {G : rn_G} {d : Nat} {κ : Nat × Nat} {Q : Option Value → rn_S → Prop} {mi : Nat → Nat → Int32} {ml : Nat → Nat → Int64} {D : Nat → Nat} {x : Int32} {w : WD} {c k : Nat} {ds : Nat → CL} {sl : SL} {el bl : EL} {im : IM} {T : Nat → Nat} {L : Nat} {ac : List Int32} {tp : TP} (hv : IV w c k ds sl el bl im ac tp) (hc : CR w c k ds sl el bl im T L ac tp mi ml D) (h : ∀ m l D', HI mi m ml l → CR (gateA w x).2 c k ds sl el bl im T L ac tp m l D' → Q (some (.int (gateA w x).1)) (m, l, RF D', 164))  : Call G (d + 30) M_X8_gate [.ref 1, .int x] (mi, ml, RF D, 164) κ Q := by
  show Run G _ M_X8_gate 0 [.ref 1, .int x] [] _ _ _
  have hw := hv.1.1
  have hk6 := hv.2.2.1
  have hck := hv.2.1
  have hB : PB 2 := Or.inl rfl
  obtain ⟨hD2, hwc, z12, z13, z14⟩ := hc.1
  obtain ⟨cp1, cp2, cp3, cp4⟩ := cuA_pd (c := c) (by omega)
  have hkD : PD (D 2) := by rw [hD2]; exact cp1
  obtain ⟨N, P, R, hN, hP, hR, hg, hpp, hrr, hPJ⟩ := hc.1.n hw
  obtain ⟨w0, w1, w2, w3, w4, w5, w6⟩ := hc.1.cells
  refine il_1 dX8_gate_0 ?_
  refine cs_1 dX8_gate_1 mm_RX8_71 (Nat.le_of_ble_eq_true rfl) (Nat.le_of_ble_eq_true rfl) (K_isPlace (fun c1 => ?_) (fun c1 => ?_))
  · refine R_if_ne (tgt := 10) dX8_gate_4 (by decide) (fun _ => ?_) (fun q => absurd q (by decide))
    refine al_0 dX8_gate_10 ?_
    refine R_getfr (r := 2) dX8_gate_11 fl_RX8_12 rfl sh_1 (Nat.le_of_ble_eq_true rfl) rf_1_0 ?_
    refine R_getfi dX8_gate_14 fl_RX8_75 rfl sh_2 (Nat.le_of_ble_eq_true rfl) ?_
    refine R_bipush (v := 6) dX8_gate_17 (by decide) ?_
    refine R_icmp_ne (tgt := 25) dX8_gate_19 (by decide) (fun c19 => ?_) (fun c19 => ?_)
    · have hN6 : N < 6 := cntI hg c19 hN
      refine al_0 dX8_gate_25 ?_
      refine R_getfr (r := 2) dX8_gate_26 fl_RX8_12 rfl sh_1 (Nat.le_of_ble_eq_true rfl) rf_1_0 ?_
      refine il_1 dX8_gate_29 ?_
      refine cv_1 dX8_gate_30 mm_RX8_79 sh_2 (Nat.le_of_ble_eq_true rfl) ⟨_, rfl, rfl⟩ (Nat.le_of_ble_eq_true rfl) (Nat.le_of_ble_eq_true rfl) (K_addGate hB hg hN6 ?_)
      refine R_ireturn dX8_gate_33 ⟨_, rfl, rfl⟩ ?_
      have eA : gateA w x = (w.1 0, gateW x w) := by unfold gateA; rw [if_pos c1, if_neg (fun q => c19 (w0.symm.trans q))]
      rw [eA] at h
      have q := wC_gate (pl := x) hB cp1 hg hN6
      rw [hwc] at q
      rw [w0, hg] at h
      exact h (rn_u (rn_u mi (2 + 1) N x) 2 4 (nI N + 1)) ml D (hi_of (fun a ha => by rw [rn_u_ne (by omega), rn_u_ne (by omega)])) (hc.w hv ⟨hD2, q, z12, z13, z14⟩ (fun a ha => by rw [rn_u_ne (by omega), rn_u_ne (by omega)]))
    · refine R_bipush (v := -4) dX8_gate_22 (by decide) ?_
      refine R_ireturn dX8_gate_24 ⟨_, rfl, rfl⟩ ?_
      have eA : gateA w x = (-4, w) := by unfold gateA; rw [if_pos c1, if_pos (w0.trans c19)]
      rw [eA] at h
      exact h mi ml D (HI.refl _ _) hc
  · refine R_if_ne (tgt := 10) dX8_gate_4 (by decide) (fun q => absurd q (by decide)) (fun _ => ?_)
    refine R_bipush (v := -2) dX8_gate_7 (by decide) ?_
    refine R_ireturn dX8_gate_9 ⟨_, rfl, rfl⟩ ?_
    have eA : gateA w x = (-2, w) := by unfold gateA; rw [if_neg c1]
    rw [eA] at h
    exact h mi ml D (HI.refl _ _) hc

set_option maxHeartbeats 4000000 in
theorem KC_person {G : rn_G} {d : Nat} {κ : Nat × Nat} {Q : Option Value → rn_S → Prop} {mi : Nat → Nat → Int32} {ml : Nat → Nat → Int64} {D : Nat → Nat} {x y z : Int32} {w : WD} {c k : Nat} {ds : Nat → CL} {sl : SL} {el bl : EL} {im : IM} {T : Nat → Nat} {L : Nat} {ac : List Int32} {tp : TP} (hv : IV w c k ds sl el bl im ac tp) (hc : CR w c k ds sl el bl im T L ac tp mi ml D) (h : ∀ m l D', HI mi m ml l → CR (personA w x y z).2 c k ds sl el bl im T L ac tp m l D' → Q (some (.int (personA w x y z).1)) (m, l, RF D', 164))  : Call G (d + 30) M_X8_person [.ref 1, .int x, .int y, .int z] (mi, ml, RF D, 164) κ Q := by
  show Run G _ M_X8_person 0 [.ref 1, .int x, .int y, .int z] [] _ _ _
  have hw := hv.1.1
  have hk6 := hv.2.2.1
  have hck := hv.2.1
  have hB : PB 2 := Or.inl rfl
  obtain ⟨hD2, hwc, z12, z13, z14⟩ := hc.1
  obtain ⟨cp1, cp2, cp3, cp4⟩ := cuA_pd (c := c) (by omega)
  have hkD : PD (D 2) := by rw [hD2]; exact cp1
  obtain ⟨N, P, R, hN, hP, hR, hg, hpp, hrr, hPJ⟩ := hc.1.n hw
  obtain ⟨w0, w1, w2, w3, w4, w5, w6⟩ := hc.1.cells
  refine il_1 dX8_person_0 ?_
  refine R_if_lt (tgt := 10) dX8_person_1 (by decide) (fun c1 => ?_) (fun c1 => ?_)
  · refine R_iconst (v := -1) dX8_person_10 (by decide) ?_
    refine R_ireturn dX8_person_11 ⟨_, rfl, rfl⟩ ?_
    have eA : personA w x y z = (-1, w) := by unfold personA; rw [if_neg (fun q => by first | exact Int32.not_lt.mpr q.1 (by first | exact c1 | exact Int32.not_le.mp c1) | exact absurd ((lt_succ_iff (a := 6)).mpr q.2) (by first | exact c7 | exact Int32.not_lt.mpr c7))]
    rw [eA] at h
    exact h mi ml D (HI.refl _ _) hc
  · refine il_1 dX8_person_4 ?_
    refine R_bipush (v := 7) dX8_person_5 (by decide) ?_
    refine R_icmp_lt (tgt := 12) dX8_person_7 (by decide) (fun c7 => ?_) (fun c7 => ?_)
    · have cx : 0 ≤ x ∧ x ≤ 6 := ⟨by first | exact c1 | exact Int32.not_lt.mp c1, (lt_succ_iff (a := 6)).mp (by first | exact c7 | exact Int32.not_le.mp c7)⟩
      refine il_2 dX8_person_12 ?_
      refine cs_1 dX8_person_13 mm_RX8_83 (Nat.le_of_ble_eq_true rfl) (Nat.le_of_ble_eq_true rfl) (K_isDigit (fun c13 => ?_) (fun c13 => ?_))
      · refine R_if_eq (tgt := 26) dX8_person_16 (by decide) (fun q => absurd q (by decide)) (fun _ => ?_)
        refine il_3 dX8_person_19 ?_
        refine cs_1 dX8_person_20 mm_RX8_71 (Nat.le_of_ble_eq_true rfl) (Nat.le_of_ble_eq_true rfl) (K_isPlace (fun c20 => ?_) (fun c20 => ?_))
        · refine R_if_ne (tgt := 29) dX8_person_23 (by decide) (fun _ => ?_) (fun q => absurd q (by decide))
          refine al_0 dX8_person_29 ?_
          refine R_getfr (r := 2) dX8_person_30 fl_RX8_12 rfl sh_1 (Nat.le_of_ble_eq_true rfl) rf_1_0 ?_
          refine R_getfi dX8_person_33 fl_RX8_86 rfl sh_2 (Nat.le_of_ble_eq_true rfl) ?_
          refine R_bipush (v := 6) dX8_person_36 (by decide) ?_
          refine R_icmp_ne (tgt := 44) dX8_person_38 (by decide) (fun c38 => ?_) (fun c38 => ?_)
          · have hP6 : P < 6 := cntI hpp c38 hP
            refine al_0 dX8_person_44 ?_
            refine R_getfr (r := 2) dX8_person_45 fl_RX8_12 rfl sh_1 (Nat.le_of_ble_eq_true rfl) rf_1_0 ?_
            refine il_1 dX8_person_48 ?_
            refine il_2 dX8_person_49 ?_
            refine il_3 dX8_person_50 ?_
            refine cv_3 dX8_person_51 mm_RX8_89 sh_2 (Nat.le_of_ble_eq_true rfl) ⟨_, rfl, rfl⟩ (Nat.le_of_ble_eq_true rfl) (Nat.le_of_ble_eq_true rfl) (K_addPerson hB hpp hP6 cp1 (fun m hpf hm6 hwm => ?_))
            refine R_ireturn dX8_person_54 ⟨_, rfl, rfl⟩ ?_
            have eA : personA w x y z = (w.1 2, personW x y z w) := by unfold personA; rw [if_pos cx, if_pos ⟨c13, c20⟩, if_neg (fun q => c38 (w2.symm.trans q))]
            rw [eA] at h
            rw [hwc] at hwm
            rw [w2, hpp] at h
            exact h m ml D (hi_of (fun a ha => hpf.1 a (by omega))) (hc.w hv ⟨hD2, hwm, by rw [hm6 12 (by decide)]; exact z12, by rw [hm6 13 (by decide)]; exact z13, by rw [hm6 14 (by decide)]; exact z14⟩ (fun a ha => by rcases ha with q | q | q | q; exact hpf.1 a (by omega); rw [q]; exact hpf.2.1; rw [q]; exact hpf.2.2; exact hpf.1 a (by omega)))
          · refine R_bipush (v := -4) dX8_person_41 (by decide) ?_
            refine R_ireturn dX8_person_43 ⟨_, rfl, rfl⟩ ?_
            have eA : personA w x y z = (-4, w) := by unfold personA; rw [if_pos cx, if_pos ⟨c13, c20⟩, if_pos (w2.trans c38)]
            rw [eA] at h
            exact h mi ml D (HI.refl _ _) hc
        · refine R_if_ne (tgt := 29) dX8_person_23 (by decide) (fun q => absurd q (by decide)) (fun _ => ?_)
          refine R_bipush (v := -2) dX8_person_26 (by decide) ?_
          refine R_ireturn dX8_person_28 ⟨_, rfl, rfl⟩ ?_
          have eA : personA w x y z = (-2, w) := by unfold personA; rw [if_pos cx, if_neg (fun q => by first | exact c13 q.1 | exact c20 q.2)]
          rw [eA] at h
          exact h mi ml D (HI.refl _ _) hc
      · refine R_if_eq (tgt := 26) dX8_person_16 (by decide) (fun _ => ?_) (fun q => absurd q (by decide))
        refine R_bipush (v := -2) dX8_person_26 (by decide) ?_
        refine R_ireturn dX8_person_28 ⟨_, rfl, rfl⟩ ?_
        have eA : personA w x y z = (-2, w) := by unfold personA; rw [if_pos cx, if_neg (fun q => by first | exact c13 q.1 | exact c20 q.2)]
        rw [eA] at h
        exact h mi ml D (HI.refl _ _) hc
    · refine R_iconst (v := -1) dX8_person_10 (by decide) ?_
      refine R_ireturn dX8_person_11 ⟨_, rfl, rfl⟩ ?_
      have eA : personA w x y z = (-1, w) := by unfold personA; rw [if_neg (fun q => by first | exact Int32.not_lt.mpr q.1 (by first | exact c1 | exact Int32.not_le.mp c1) | exact absurd ((lt_succ_iff (a := 6)).mpr q.2) (by first | exact c7 | exact Int32.not_lt.mpr c7))]
      rw [eA] at h
      exact h mi ml D (HI.refl _ _) hc

set_option maxHeartbeats 4000000 in
theorem KC_put {G : rn_G} {d : Nat} {κ : Nat × Nat} {Q : Option Value → rn_S → Prop} {mi : Nat → Nat → Int32} {ml : Nat → Nat → Int64} {D : Nat → Nat} {x y : Int32} {w : WD} {c k : Nat} {ds : Nat → CL} {sl : SL} {el bl : EL} {im : IM} {T : Nat → Nat} {L : Nat} {ac : List Int32} {tp : TP} (hv : IV w c k ds sl el bl im ac tp) (hc : CR w c k ds sl el bl im T L ac tp mi ml D) (h : ∀ m l D', HI mi m ml l → CR (putA w x y).2 c k ds sl el bl im T L ac tp m l D' → Q (some (.int (putA w x y).1)) (m, l, RF D', 164))  : Call G (d + 30) M_X8_put [.ref 1, .int x, .int y] (mi, ml, RF D, 164) κ Q := by
  show Run G _ M_X8_put 0 [.ref 1, .int x, .int y, .null] [] _ _ _
  have hw := hv.1.1
  have hk6 := hv.2.2.1
  have hck := hv.2.1
  have hB : PB 2 := Or.inl rfl
  obtain ⟨hD2, hwc, z12, z13, z14⟩ := hc.1
  obtain ⟨cp1, cp2, cp3, cp4⟩ := cuA_pd (c := c) (by omega)
  have hkD : PD (D 2) := by rw [hD2]; exact cp1
  obtain ⟨N, P, R, hN, hP, hR, hg, hpp, hrr, hPJ⟩ := hc.1.n hw
  obtain ⟨w0, w1, w2, w3, w4, w5, w6⟩ := hc.1.cells
  refine al_0 dX8_put_0 ?_
  refine R_getfr (r := 2) dX8_put_1 fl_RX8_12 rfl sh_1 (Nat.le_of_ble_eq_true rfl) rf_1_0 ?_
  refine il_1 dX8_put_4 ?_
  refine cv_1 dX8_put_5 mm_RX8_93 sh_2 (Nat.le_of_ble_eq_true rfl) ⟨_, rfl, rfl⟩ (Nat.le_of_ble_eq_true rfl) (Nat.le_of_ble_eq_true rfl) (K_hasPerson hB (fun c5 => ?_) (fun c5 => ?_))
  · refine R_if_ne (tgt := 13) dX8_put_8 (by decide) (fun _ => ?_) (fun q => absurd q (by decide))
    obtain ⟨i, hiP, hx⟩ := sm_of c5.1 (by rw [← hpp]; exact c5.2) (by omega)
    have hi6 : i < 6 := by omega
    have hnx : nn x = i := by rw [hx]; exact nnI (by omega)
    have hPi : w.2.2.2 i = pC mi (2 + 7 + 2 * i) := hc.1.per hpp hP hiP
    have cp : 0 ≤ x ∧ x < w.1 2 := by rw [w2]; exact c5
    have hpq : PQ (2 + 7 + 2 * i) := pb_q hB hi6
    refine il_2 dX8_put_13 ?_
    refine cs_1 dX8_put_14 mm_RX8_71 (Nat.le_of_ble_eq_true rfl) (Nat.le_of_ble_eq_true rfl) (K_isPlace (fun c14 => ?_) (fun c14 => ?_))
    · refine R_if_ne (tgt := 23) dX8_put_17 (by decide) (fun _ => ?_) (fun q => absurd q (by decide))
      refine al_0 dX8_put_23 ?_
      refine R_getfr (r := 2) dX8_put_24 fl_RX8_12 rfl sh_1 (Nat.le_of_ble_eq_true rfl) rf_1_0 ?_
      refine R_getfr (r := 4) dX8_put_27 fl_RX8_96 rfl sh_2 (Nat.le_of_ble_eq_true rfl) rf_2_1 ?_
      refine il_1 dX8_put_30 ?_
      refine R_aald (t := 4) (r := (2 + 7 + 2 * i)) dX8_put_31 (by decide) sh_4 (Nat.le_of_ble_eq_true rfl) (rn_ixe hx) hi6 (pb_rq (b := 2) hB hi6) ?_
      refine R_getfi dX8_put_32 fl_RX8_108 rfl (pq_s0 hpq) (show (2 + 7 + 2 * i) < 164 by have := pq_n hpq; omega) ?_
      refine is_3 dX8_put_35 rfl ?_
      refine al_0 dX8_put_36 ?_
      refine R_getfr (r := 2) dX8_put_37 fl_RX8_12 rfl sh_1 (Nat.le_of_ble_eq_true rfl) rf_1_0 ?_
      refine il_1 dX8_put_40 ?_
      refine il_2 dX8_put_41 ?_
      refine cv_2 dX8_put_42 mm_RX8_138 sh_2 (Nat.le_of_ble_eq_true rfl) ⟨_, rfl, rfl⟩ (Nat.le_of_ble_eq_true rfl) (Nat.le_of_ble_eq_true rfl) (K_setDown hB hi6 (rn_ixe hx) ?_)
      refine il_3 dX8_put_45 ?_
      refine R_ireturn dX8_put_46 ⟨_, rfl, rfl⟩ ?_
      have eA : putA w x y = (w.2.2.2 i 2, putW i y w) := by unfold putA; rw [if_pos cp, if_pos c14, hnx]
      rw [eA] at h
      have q := wC_put (pl := y) hB cp1 hpp hP hiP
      rw [hwc] at q
      rw [hPi] at h
      exact h (rn_u (rn_u mi (2 + 7 + 2 * i) 2 y) (2 + 7 + 2 * i) 5 0) ml D (hi_of (fun a ha => by rw [rn_u_ne (by omega), rn_u_ne (by omega)])) (hc.w hv ⟨hD2, q, by rw [rn_u_ne (by omega), rn_u_ne (by omega)]; exact z12, by rw [rn_u_ne (by omega), rn_u_ne (by omega)]; exact z13, by rw [rn_u_ne (by omega), rn_u_ne (by omega)]; exact z14⟩ (fun a ha => by rw [rn_u_ne (by omega), rn_u_ne (by omega)]))
    · refine R_if_ne (tgt := 23) dX8_put_17 (by decide) (fun q => absurd q (by decide)) (fun _ => ?_)
      refine R_bipush (v := -2) dX8_put_20 (by decide) ?_
      refine R_ireturn dX8_put_22 ⟨_, rfl, rfl⟩ ?_
      have eA : putA w x y = (-2, w) := by unfold putA; rw [if_pos cp, if_neg c14]
      rw [eA] at h
      exact h mi ml D (HI.refl _ _) hc
  · refine R_if_ne (tgt := 13) dX8_put_8 (by decide) (fun q => absurd q (by decide)) (fun _ => ?_)
    refine R_iconst (v := -1) dX8_put_11 (by decide) ?_
    refine R_ireturn dX8_put_12 ⟨_, rfl, rfl⟩ ?_
    have eA : putA w x y = (-1, w) := by unfold putA; rw [if_neg (by rw [w2]; exact c5)]
    rw [eA] at h
    exact h mi ml D (HI.refl _ _) hc

set_option maxHeartbeats 4000000 in
theorem KC_call {G : rn_G} {d : Nat} {κ : Nat × Nat} {Q : Option Value → rn_S → Prop} {mi : Nat → Nat → Int32} {ml : Nat → Nat → Int64} {D : Nat → Nat} {x z : Int32} (hz : bz z) {w : WD} {c k : Nat} {ds : Nat → CL} {sl : SL} {el bl : EL} {im : IM} {T : Nat → Nat} {L : Nat} {ac : List Int32} {tp : TP} (hv : IV w c k ds sl el bl im ac tp) (hc : CR w c k ds sl el bl im T L ac tp mi ml D) (h : ∀ m l D', HI mi m ml l → CR (callA w x z).2 c k ds sl el bl im T L ac tp m l D' → Q (some (.int (callA w x z).1)) (m, l, RF D', 164))  : Call G (d + 30) M_X8_call [.ref 1, .int x, .int z] (mi, ml, RF D, 164) κ Q := by
  show Run G _ M_X8_call 0 [.ref 1, .int x, .int z, .null, .null] [] _ _ _
  have hw := hv.1.1
  have hk6 := hv.2.2.1
  have hck := hv.2.1
  have hB : PB 2 := Or.inl rfl
  obtain ⟨hD2, hwc, z12, z13, z14⟩ := hc.1
  obtain ⟨cp1, cp2, cp3, cp4⟩ := cuA_pd (c := c) (by omega)
  have hkD : PD (D 2) := by rw [hD2]; exact cp1
  obtain ⟨N, P, R, hN, hP, hR, hg, hpp, hrr, hPJ⟩ := hc.1.n hw
  obtain ⟨w0, w1, w2, w3, w4, w5, w6⟩ := hc.1.cells
  refine al_0 dX8_call_0 ?_
  refine R_getfr (r := 2) dX8_call_1 fl_RX8_12 rfl sh_1 (Nat.le_of_ble_eq_true rfl) rf_1_0 ?_
  refine il_1 dX8_call_4 ?_
  refine cv_1 dX8_call_5 mm_RX8_93 sh_2 (Nat.le_of_ble_eq_true rfl) ⟨_, rfl, rfl⟩ (Nat.le_of_ble_eq_true rfl) (Nat.le_of_ble_eq_true rfl) (K_hasPerson hB (fun c5 => ?_) (fun c5 => ?_))
  · refine R_if_ne (tgt := 13) dX8_call_8 (by decide) (fun _ => ?_) (fun q => absurd q (by decide))
    obtain ⟨i, hiP, hx⟩ := sm_of c5.1 (by rw [← hpp]; exact c5.2) (by omega)
    have hi6 : i < 6 := by omega
    have hnx : nn x = i := by rw [hx]; exact nnI (by omega)
    have hPi : w.2.2.2 i = pC mi (2 + 7 + 2 * i) := hc.1.per hpp hP hiP
    have cp : 0 ≤ x ∧ x < w.1 2 := by rw [w2]; exact c5
    have hpq : PQ (2 + 7 + 2 * i) := pb_q hB hi6
    obtain ⟨-, -, -, -, hb4, hb5, -⟩ := hPJ i hiP
    rw [hPi] at hb4
    have hb4 : bz (mi (2 + 7 + 2 * i) 4) := hb4
    refine al_0 dX8_call_13 ?_
    refine R_getfr (r := 2) dX8_call_14 fl_RX8_12 rfl sh_1 (Nat.le_of_ble_eq_true rfl) rf_1_0 ?_
    refine R_getfr (r := 4) dX8_call_17 fl_RX8_96 rfl sh_2 (Nat.le_of_ble_eq_true rfl) rf_2_1 ?_
    refine il_1 dX8_call_20 ?_
    refine R_aald (t := 4) (r := (2 + 7 + 2 * i)) dX8_call_21 (by decide) sh_4 (Nat.le_of_ble_eq_true rfl) (rn_ixe hx) hi6 (pb_rq (b := 2) hB hi6) ?_
    refine as_3 dX8_call_22 rfl ?_
    refine al_3 dX8_call_23 ?_
    refine R_getfi dX8_call_24 fl_RX8_111 rfl (pq_s0 hpq) (show (2 + 7 + 2 * i) < 164 by have := pq_n hpq; omega) ?_
    refine cs_1 dX8_call_27 mm_RX8_115 (Nat.le_of_ble_eq_true rfl) (Nat.le_of_ble_eq_true rfl) (K_bit ?_)
    refine is_4 dX8_call_30 rfl ?_
    refine al_3 dX8_call_32 ?_
    refine il_2 dX8_call_33 ?_
    refine R_putfi dX8_call_34 fl_RX8_111 rfl (Or.inl rfl) (pq_s0 hpq) (show (2 + 7 + 2 * i) < 164 by have := pq_n hpq; omega) (bz_n hz) (bz_f hz) ?_
    refine il_2 dX8_call_37 ?_
    refine R_if_ne (tgt := 46) dX8_call_38 (by decide) (fun c38 => ?_) (fun c38 => ?_)
    · refine il_4 dX8_call_46 ?_
      refine R_ireturn dX8_call_48 ⟨_, rfl, rfl⟩ ?_
      have eA : callA w x z = (w.2.2.2 i 4, callW i z w) := by unfold callA; rw [if_pos cp, hnx]
      rw [eA] at h
      have eM : ∀ a, a ≠ 2 + 7 + 2 * i → (if z = 0 then rn_u (rn_u mi (2 + 7 + 2 * i) 4 z) (2 + 7 + 2 * i) 3 0 else rn_u mi (2 + 7 + 2 * i) 4 z) a = mi a := fun a ha => by
        by_cases z0 : z = 0
        · rw [if_pos z0, rn_u_ne ha, rn_u_ne ha]
        · rw [if_neg z0, rn_u_ne ha]
      have q := wC_call (z := z) hB cp1 hpp hP hiP
      rw [hwc] at q
      rw [hPi] at h
      refine ret_eq (h (if z = 0 then rn_u (rn_u mi (2 + 7 + 2 * i) 4 z) (2 + 7 + 2 * i) 3 0 else rn_u mi (2 + 7 + 2 * i) 4 z) ml D (hi_of (fun a ha => eM a (by omega))) (hc.w hv ⟨hD2, q, by rw [eM 2 (by omega)]; exact z12, by rw [eM 2 (by omega)]; exact z13, by rw [eM 2 (by omega)]; exact z14⟩ (fun a ha => eM a (by omega)))) ?_ ?_
      · first | (rw [if_pos c38]) | (rw [if_neg c38])
      · show (if mi (2 + 7 + 2 * i) 4 = 0 then (0 : Int32) else 1) = mi (2 + 7 + 2 * i) 4
        rcases hb4 with e | e <;> rw [e] <;> rfl
    · refine al_3 dX8_call_41 ?_
      refine R_iconst (v := 0) dX8_call_42 (by decide) ?_
      refine R_putfi dX8_call_43 fl_RX8_119 rfl (Or.inl rfl) (pq_s0 hpq) (show (2 + 7 + 2 * i) < 164 by have := pq_n hpq; omega) rfl rfl ?_
      refine il_4 dX8_call_46 ?_
      refine R_ireturn dX8_call_48 ⟨_, rfl, rfl⟩ ?_
      have eA : callA w x z = (w.2.2.2 i 4, callW i z w) := by unfold callA; rw [if_pos cp, hnx]
      rw [eA] at h
      have eM : ∀ a, a ≠ 2 + 7 + 2 * i → (if z = 0 then rn_u (rn_u mi (2 + 7 + 2 * i) 4 z) (2 + 7 + 2 * i) 3 0 else rn_u mi (2 + 7 + 2 * i) 4 z) a = mi a := fun a ha => by
        by_cases z0 : z = 0
        · rw [if_pos z0, rn_u_ne ha, rn_u_ne ha]
        · rw [if_neg z0, rn_u_ne ha]
      have q := wC_call (z := z) hB cp1 hpp hP hiP
      rw [hwc] at q
      rw [hPi] at h
      refine ret_eq (h (if z = 0 then rn_u (rn_u mi (2 + 7 + 2 * i) 4 z) (2 + 7 + 2 * i) 3 0 else rn_u mi (2 + 7 + 2 * i) 4 z) ml D (hi_of (fun a ha => eM a (by omega))) (hc.w hv ⟨hD2, q, by rw [eM 2 (by omega)]; exact z12, by rw [eM 2 (by omega)]; exact z13, by rw [eM 2 (by omega)]; exact z14⟩ (fun a ha => eM a (by omega)))) ?_ ?_
      · first | (rw [if_pos c38]) | (rw [if_neg c38])
      · show (if mi (2 + 7 + 2 * i) 4 = 0 then (0 : Int32) else 1) = mi (2 + 7 + 2 * i) 4
        rcases hb4 with e | e <;> rw [e] <;> rfl
  · refine R_if_ne (tgt := 13) dX8_call_8 (by decide) (fun q => absurd q (by decide)) (fun _ => ?_)
    refine R_iconst (v := -1) dX8_call_11 (by decide) ?_
    refine R_ireturn dX8_call_12 ⟨_, rfl, rfl⟩ ?_
    have eA : callA w x z = (-1, w) := by unfold callA; rw [if_neg (by rw [w2]; exact c5)]
    rw [eA] at h
    exact h mi ml D (HI.refl _ _) hc

set_option maxHeartbeats 4000000 in
theorem KC_shut {G : rn_G} {d : Nat} {κ : Nat × Nat} {Q : Option Value → rn_S → Prop} {mi : Nat → Nat → Int32} {ml : Nat → Nat → Int64} {D : Nat → Nat} {x z : Int32} {w : WD} {c k : Nat} {ds : Nat → CL} {sl : SL} {el bl : EL} {im : IM} {T : Nat → Nat} {L : Nat} {ac : List Int32} {tp : TP} (hv : IV w c k ds sl el bl im ac tp) (hc : CR w c k ds sl el bl im T L ac tp mi ml D) (h : ∀ m l D', HI mi m ml l → CR (shutA w x z).2 c k ds sl el bl im T L ac tp m l D' → Q (some (.int (shutA w x z).1)) (m, l, RF D', 164))  : Call G (d + 30) M_X8_shut [.ref 1, .int x, .int z] (mi, ml, RF D, 164) κ Q := by
  show Run G _ M_X8_shut 0 [.ref 1, .int x, .int z, .null] [] _ _ _
  have hw := hv.1.1
  have hk6 := hv.2.2.1
  have hck := hv.2.1
  have hB : PB 2 := Or.inl rfl
  obtain ⟨hD2, hwc, z12, z13, z14⟩ := hc.1
  obtain ⟨cp1, cp2, cp3, cp4⟩ := cuA_pd (c := c) (by omega)
  have hkD : PD (D 2) := by rw [hD2]; exact cp1
  obtain ⟨N, P, R, hN, hP, hR, hg, hpp, hrr, hPJ⟩ := hc.1.n hw
  obtain ⟨w0, w1, w2, w3, w4, w5, w6⟩ := hc.1.cells
  refine al_0 dX8_shut_0 ?_
  refine R_getfr (r := 2) dX8_shut_1 fl_RX8_12 rfl sh_1 (Nat.le_of_ble_eq_true rfl) rf_1_0 ?_
  refine il_1 dX8_shut_4 ?_
  refine cv_1 dX8_shut_5 mm_RX8_142 sh_2 (Nat.le_of_ble_eq_true rfl) ⟨_, rfl, rfl⟩ (Nat.le_of_ble_eq_true rfl) (Nat.le_of_ble_eq_true rfl) (K_hasGate hB (fun c5 => ?_) (fun c5 => ?_))
  · refine R_if_ne (tgt := 13) dX8_shut_8 (by decide) (fun _ => ?_) (fun q => absurd q (by decide))
    obtain ⟨gg, hgN, hx⟩ := sm_of c5.1 (by rw [← hg]; exact c5.2) (by omega)
    have cg : 0 ≤ x ∧ x < w.1 0 := by rw [w0]; exact c5
    refine al_0 dX8_shut_13 ?_
    refine R_getfr (r := 2) dX8_shut_14 fl_RX8_12 rfl sh_1 (Nat.le_of_ble_eq_true rfl) rf_1_0 ?_
    refine il_1 dX8_shut_17 ?_
    refine cv_1 dX8_shut_18 mm_RX8_145 sh_2 (Nat.le_of_ble_eq_true rfl) ⟨_, rfl, rfl⟩ (Nat.le_of_ble_eq_true rfl) (Nat.le_of_ble_eq_true rfl) (K_isShut hB (fun c18 => ?_) (fun c18 => ?_))
    · refine cs_1 dX8_shut_21 mm_RX8_115 (Nat.le_of_ble_eq_true rfl) (Nat.le_of_ble_eq_true rfl) (K_bit ?_)
      rw [if_neg (show ¬ (1 : Int32) = 0 by decide)]
      refine is_3 dX8_shut_24 rfl ?_
      refine al_0 dX8_shut_25 ?_
      refine R_getfr (r := 2) dX8_shut_26 fl_RX8_12 rfl sh_1 (Nat.le_of_ble_eq_true rfl) rf_1_0 ?_
      refine il_1 dX8_shut_29 ?_
      refine il_2 dX8_shut_30 ?_
      refine cv_2 dX8_shut_31 mm_RX8_148 sh_2 (Nat.le_of_ble_eq_true rfl) ⟨_, rfl, rfl⟩ (Nat.le_of_ble_eq_true rfl) (Nat.le_of_ble_eq_true rfl) (K_setShut hB ?_)
      refine il_3 dX8_shut_34 ?_
      refine R_ireturn dX8_shut_35 ⟨_, rfl, rfl⟩ ?_
      have eA : shutA w x z = (bitD (w.1 1) x, shutW x z w) := by unfold shutA; rw [if_pos cg]
      rw [eA] at h
      have q := wC_shut (g := x) (z := z) hB cp1 (k := cuA c) (mi := mi) (by rw [hpp, nnI (by omega)]; exact hP)
      rw [hwc] at q
      refine ret_eq (h (rn_u mi 2 5 (if z = 0 then clrB (mi 2 5) x else setB (mi 2 5) x)) ml D (hi_of (fun a ha => by rw [rn_u_ne (by omega)])) (hc.w hv ⟨hD2, q, z12, z13, z14⟩ (fun a ha => by rw [rn_u_ne (by omega)]))) rfl ?_
      rw [w1]
      first | exact c18.symm | exact ((bitD_01 (s := mi 2 5) (i := gg) (by omega)).resolve_right (fun q => c18 (by rw [hx]; exact q)) |> fun q => by rw [hx]; exact q.symm)
    · refine cs_1 dX8_shut_21 mm_RX8_115 (Nat.le_of_ble_eq_true rfl) (Nat.le_of_ble_eq_true rfl) (K_bit ?_)
      rw [if_pos rfl]
      refine is_3 dX8_shut_24 rfl ?_
      refine al_0 dX8_shut_25 ?_
      refine R_getfr (r := 2) dX8_shut_26 fl_RX8_12 rfl sh_1 (Nat.le_of_ble_eq_true rfl) rf_1_0 ?_
      refine il_1 dX8_shut_29 ?_
      refine il_2 dX8_shut_30 ?_
      refine cv_2 dX8_shut_31 mm_RX8_148 sh_2 (Nat.le_of_ble_eq_true rfl) ⟨_, rfl, rfl⟩ (Nat.le_of_ble_eq_true rfl) (Nat.le_of_ble_eq_true rfl) (K_setShut hB ?_)
      refine il_3 dX8_shut_34 ?_
      refine R_ireturn dX8_shut_35 ⟨_, rfl, rfl⟩ ?_
      have eA : shutA w x z = (bitD (w.1 1) x, shutW x z w) := by unfold shutA; rw [if_pos cg]
      rw [eA] at h
      have q := wC_shut (g := x) (z := z) hB cp1 (k := cuA c) (mi := mi) (by rw [hpp, nnI (by omega)]; exact hP)
      rw [hwc] at q
      refine ret_eq (h (rn_u mi 2 5 (if z = 0 then clrB (mi 2 5) x else setB (mi 2 5) x)) ml D (hi_of (fun a ha => by rw [rn_u_ne (by omega)])) (hc.w hv ⟨hD2, q, z12, z13, z14⟩ (fun a ha => by rw [rn_u_ne (by omega)]))) rfl ?_
      rw [w1]
      first | exact c18.symm | exact ((bitD_01 (s := mi 2 5) (i := gg) (by omega)).resolve_right (fun q => c18 (by rw [hx]; exact q)) |> fun q => by rw [hx]; exact q.symm)
  · refine R_if_ne (tgt := 13) dX8_shut_8 (by decide) (fun q => absurd q (by decide)) (fun _ => ?_)
    refine R_iconst (v := -1) dX8_shut_11 (by decide) ?_
    refine R_ireturn dX8_shut_12 ⟨_, rfl, rfl⟩ ?_
    have eA : shutA w x z = (-1, w) := by unfold shutA; rw [if_neg (by rw [w0]; exact c5)]
    rw [eA] at h
    exact h mi ml D (HI.refl _ _) hc

set_option maxHeartbeats 4000000 in
theorem KC_row {G : rn_G} {d : Nat} {κ : Nat × Nat} {Q : Option Value → rn_S → Prop} {mi : Nat → Nat → Int32} {ml : Nat → Nat → Int64} {D : Nat → Nat} {x y z : Int32} {w : WD} {c k : Nat} {ds : Nat → CL} {sl : SL} {el bl : EL} {im : IM} {T : Nat → Nat} {L : Nat} {ac : List Int32} {tp : TP} (hv : IV w c k ds sl el bl im ac tp) (hc : CR w c k ds sl el bl im T L ac tp mi ml D) (h : ∀ m l D', HI mi m ml l → CR (rowA w x y z).2 c k ds sl el bl im T L ac tp m l D' → Q (some (.int (rowA w x y z).1)) (m, l, RF D', 164))  : Call G (d + 30) M_X8_row [.ref 1, .int x, .int y, .int z] (mi, ml, RF D, 164) κ Q := by
  show Run G _ M_X8_row 0 [.ref 1, .int x, .int y, .int z, .null, .null] [] _ _ _
  have hw := hv.1.1
  have hk6 := hv.2.2.1
  have hck := hv.2.1
  have hB : PB 2 := Or.inl rfl
  obtain ⟨hD2, hwc, z12, z13, z14⟩ := hc.1
  obtain ⟨cp1, cp2, cp3, cp4⟩ := cuA_pd (c := c) (by omega)
  have hkD : PD (D 2) := by rw [hD2]; exact cp1
  obtain ⟨N, P, R, hN, hP, hR, hg, hpp, hrr, hPJ⟩ := hc.1.n hw
  obtain ⟨w0, w1, w2, w3, w4, w5, w6⟩ := hc.1.cells
  refine al_0 dX8_row_0 ?_
  refine R_getfr (r := 2) dX8_row_1 fl_RX8_12 rfl sh_1 (Nat.le_of_ble_eq_true rfl) rf_1_0 ?_
  refine il_1 dX8_row_4 ?_
  refine cv_1 dX8_row_5 mm_RX8_93 sh_2 (Nat.le_of_ble_eq_true rfl) ⟨_, rfl, rfl⟩ (Nat.le_of_ble_eq_true rfl) (Nat.le_of_ble_eq_true rfl) (K_hasPerson hB (fun c5 => ?_) (fun c5 => ?_))
  · refine R_if_eq (tgt := 20) dX8_row_8 (by decide) (fun q => absurd q (by decide)) (fun _ => ?_)
    refine il_2 dX8_row_11 ?_
    refine R_if_lt (tgt := 20) dX8_row_12 (by decide) (fun c12 => ?_) (fun c12 => ?_)
    · refine R_iconst (v := -1) dX8_row_20 (by decide) ?_
      refine R_ireturn dX8_row_21 ⟨_, rfl, rfl⟩ ?_
      have eA : rowA w x y z = (-1, w) := by unfold rowA; rw [if_neg (fun q => by first | exact c5 (by rw [← w2]; exact q.1) | exact Int32.not_lt.mpr q.2.1 (by first | exact c12 | exact Int32.not_le.mp c12) | exact absurd ((lt_succ_iff (a := 3)).mpr q.2.2) (by first | exact c17 | exact Int32.not_lt.mpr c17))]
      rw [eA] at h
      exact h mi ml D (HI.refl _ _) hc
    · refine il_2 dX8_row_15 ?_
      refine R_iconst (v := 4) dX8_row_16 (by decide) ?_
      refine R_icmp_lt (tgt := 22) dX8_row_17 (by decide) (fun c17 => ?_) (fun c17 => ?_)
      · obtain ⟨i, hiP, hx⟩ := sm_of c5.1 (by rw [← hpp]; exact c5.2) (by omega)
        have hi6 : i < 6 := by omega
        have hnx : nn x = i := by rw [hx]; exact nnI (by omega)
        have hPi : w.2.2.2 i = pC mi (2 + 7 + 2 * i) := hc.1.per hpp hP hiP
        have cp : 0 ≤ x ∧ x < w.1 2 := by rw [w2]; exact c5
        have hpq : PQ (2 + 7 + 2 * i) := pb_q hB hi6
        have cy : 0 ≤ y ∧ y ≤ 3 := ⟨by first | exact c12 | exact Int32.not_lt.mp c12, (lt_succ_iff (a := 3)).mp (by first | exact c17 | exact Int32.not_le.mp c17)⟩
        obtain ⟨pt, hpt, hy⟩ := sm_of cy.1 ((lt_succ_iff (a := 3)).mpr cy.2) (by decide)
        have hny : nn y = pt := by rw [hy]; exact nnI (by omega)
        refine il_3 dX8_row_22 ?_
        refine cs_1 dX8_row_23 mm_RX8_83 (Nat.le_of_ble_eq_true rfl) (Nat.le_of_ble_eq_true rfl) (K_isDigit (fun c23 => ?_) (fun c23 => ?_))
        · refine R_if_ne (tgt := 32) dX8_row_26 (by decide) (fun _ => ?_) (fun q => absurd q (by decide))
          refine al_0 dX8_row_32 ?_
          refine R_getfr (r := 2) dX8_row_33 fl_RX8_12 rfl sh_1 (Nat.le_of_ble_eq_true rfl) rf_1_0 ?_
          refine R_getfr (r := 4) dX8_row_36 fl_RX8_96 rfl sh_2 (Nat.le_of_ble_eq_true rfl) rf_2_1 ?_
          refine il_1 dX8_row_39 ?_
          refine R_aald (t := 4) (r := (2 + 7 + 2 * i)) dX8_row_40 (by decide) sh_4 (Nat.le_of_ble_eq_true rfl) (rn_ixe hx) hi6 (pb_rq (b := 2) hB hi6) ?_
          refine as_4 dX8_row_41 rfl ?_
          refine al_4 dX8_row_43 ?_
          refine R_getfi dX8_row_45 fl_RX8_100 rfl (pq_s0 hpq) (show (2 + 7 + 2 * i) < 164 by have := pq_n hpq; omega) ?_
          refine R_bipush (v := 6) dX8_row_48 (by decide) ?_
          refine R_icmp_eq (tgt := 56) dX8_row_50 (by decide) (fun c50 => ?_) (fun c50 => ?_)
          · refine al_4 dX8_row_56 ?_
            refine R_getfr (r := (2 + 7 + 2 * i) + 1) dX8_row_58 fl_RX8_152 rfl (pq_s0 hpq) (show (2 + 7 + 2 * i) < 164 by have := pq_n hpq; omega) (pq_r6 hpq) ?_
            refine il_2 dX8_row_61 ?_
            refine R_iald dX8_row_62 (pq_s1 hpq) (show (2 + 7 + 2 * i) + 1 < 164 by have := pq_n hpq; omega) (rn_ixe hy) (show pt < 4 by omega) ?_
            refine is_5 dX8_row_63 rfl ?_
            refine al_4 dX8_row_65 ?_
            refine R_getfr (r := (2 + 7 + 2 * i) + 1) dX8_row_67 fl_RX8_152 rfl (pq_s0 hpq) (show (2 + 7 + 2 * i) < 164 by have := pq_n hpq; omega) (pq_r6 hpq) ?_
            refine il_2 dX8_row_70 ?_
            refine il_3 dX8_row_71 ?_
            refine R_iast dX8_row_72 (pq_s1 hpq) (show (2 + 7 + 2 * i) + 1 < 164 by have := pq_n hpq; omega) (rn_ixe hy) (show pt < 4 by omega) ?_
            refine il_5 dX8_row_73 ?_
            refine R_ireturn dX8_row_75 ⟨_, rfl, rfl⟩ ?_
            have eA : rowA w x y z = (w.2.2.2 i (6 + pt), rowW i pt z w) := by unfold rowA; rw [if_pos ⟨cp, cy⟩, if_pos c23, if_pos (by rw [hnx, hPi]; exact c50), hnx, hny]
            rw [eA] at h
            have q := wC_row (n := z) (part := pt) hB cp1 hpp hP hiP (by omega)
            rw [hwc] at q
            refine ret_eq (h (rn_u mi (2 + 7 + 2 * i + 1) pt z) ml D (hi_of (fun a ha => by rw [rn_u_ne (by omega)])) (hc.w hv ⟨hD2, q, by rw [rn_u_ne (by omega)]; exact z12, by rw [rn_u_ne (by omega)]; exact z13, by rw [rn_u_ne (by omega)]; exact z14⟩ (fun a ha => by rw [rn_u_ne (by omega)]))) rfl ?_
            rw [hPi]
            unfold pC
            rw [if_neg (by omega), if_pos (by omega), show 6 + pt - 6 = pt by omega]
          · refine R_bipush (v := -3) dX8_row_53 (by decide) ?_
            refine R_ireturn dX8_row_55 ⟨_, rfl, rfl⟩ ?_
            have eA : rowA w x y z = (-3, w) := by unfold rowA; rw [if_pos ⟨cp, cy⟩, if_pos c23, if_neg (fun q => c50 (by rw [hnx, hPi] at q; exact q))]
            rw [eA] at h
            exact h mi ml D (HI.refl _ _) hc
        · refine R_if_ne (tgt := 32) dX8_row_26 (by decide) (fun q => absurd q (by decide)) (fun _ => ?_)
          refine R_bipush (v := -2) dX8_row_29 (by decide) ?_
          refine R_ireturn dX8_row_31 ⟨_, rfl, rfl⟩ ?_
          have eA : rowA w x y z = (-2, w) := by unfold rowA; rw [if_pos ⟨cp, cy⟩, if_neg c23]
          rw [eA] at h
          exact h mi ml D (HI.refl _ _) hc
      · refine R_iconst (v := -1) dX8_row_20 (by decide) ?_
        refine R_ireturn dX8_row_21 ⟨_, rfl, rfl⟩ ?_
        have eA : rowA w x y z = (-1, w) := by unfold rowA; rw [if_neg (fun q => by first | exact c5 (by rw [← w2]; exact q.1) | exact Int32.not_lt.mpr q.2.1 (by first | exact c12 | exact Int32.not_le.mp c12) | exact absurd ((lt_succ_iff (a := 3)).mpr q.2.2) (by first | exact c17 | exact Int32.not_lt.mpr c17))]
        rw [eA] at h
        exact h mi ml D (HI.refl _ _) hc
  · refine R_if_eq (tgt := 20) dX8_row_8 (by decide) (fun _ => ?_) (fun q => absurd q (by decide))
    refine R_iconst (v := -1) dX8_row_20 (by decide) ?_
    refine R_ireturn dX8_row_21 ⟨_, rfl, rfl⟩ ?_
    have eA : rowA w x y z = (-1, w) := by unfold rowA; rw [if_neg (fun q => by first | exact c5 (by rw [← w2]; exact q.1) | exact Int32.not_lt.mpr q.2.1 (by first | exact c12 | exact Int32.not_le.mp c12) | exact absurd ((lt_succ_iff (a := 3)).mpr q.2.2) (by first | exact c17 | exact Int32.not_lt.mpr c17))]
    rw [eA] at h
    exact h mi ml D (HI.refl _ _) hc

set_option maxHeartbeats 4000000 in
theorem KC_round {G : rn_G} {d : Nat} {κ : Nat × Nat} {Q : Option Value → rn_S → Prop} {mi : Nat → Nat → Int32} {ml : Nat → Nat → Int64} {D : Nat → Nat} {x : Int32} {w : WD} {c k : Nat} {ds : Nat → CL} {sl : SL} {el bl : EL} {im : IM} {T : Nat → Nat} {L : Nat} {ac : List Int32} {tp : TP} (hv : IV w c k ds sl el bl im ac tp) (hc : CR w c k ds sl el bl im T L ac tp mi ml D) (h : ∀ m l D', HI mi m ml l → CR (roundA w x).2 c k ds sl el bl im T L ac tp m l D' → Q (some (.int (roundA w x).1)) (m, l, RF D', 164))  : Call G (d + 30) M_X8_round [.ref 1, .int x] (mi, ml, RF D, 164) κ Q := by
  show Run G _ M_X8_round 0 [.ref 1, .int x] [] _ _ _
  have hw := hv.1.1
  have hk6 := hv.2.2.1
  have hck := hv.2.1
  have hB : PB 2 := Or.inl rfl
  obtain ⟨hD2, hwc, z12, z13, z14⟩ := hc.1
  obtain ⟨cp1, cp2, cp3, cp4⟩ := cuA_pd (c := c) (by omega)
  have hkD : PD (D 2) := by rw [hD2]; exact cp1
  obtain ⟨N, P, R, hN, hP, hR, hg, hpp, hrr, hPJ⟩ := hc.1.n hw
  obtain ⟨w0, w1, w2, w3, w4, w5, w6⟩ := hc.1.cells
  refine il_1 dX8_round_0 ?_
  refine R_iconst (v := -1) dX8_round_1 (by decide) ?_
  refine R_icmp_ne (tgt := 14) dX8_round_2 (by decide) (fun c2 => ?_) (fun c2 => ?_)
  · refine al_0 dX8_round_14 ?_
    refine R_getfr (r := 2) dX8_round_15 fl_RX8_12 rfl sh_1 (Nat.le_of_ble_eq_true rfl) rf_1_0 ?_
    refine il_1 dX8_round_18 ?_
    refine cv_1 dX8_round_19 mm_RX8_142 sh_2 (Nat.le_of_ble_eq_true rfl) ⟨_, rfl, rfl⟩ (Nat.le_of_ble_eq_true rfl) (Nat.le_of_ble_eq_true rfl) (K_hasGate hB (fun c19 => ?_) (fun c19 => ?_))
    · refine R_if_ne (tgt := 27) dX8_round_22 (by decide) (fun _ => ?_) (fun q => absurd q (by decide))
      have cg : 0 ≤ x ∧ x < w.1 0 := by rw [w0]; exact c19
      refine al_0 dX8_round_27 ?_
      refine R_getfr (r := 2) dX8_round_28 fl_RX8_12 rfl sh_1 (Nat.le_of_ble_eq_true rfl) rf_1_0 ?_
      refine R_getfi dX8_round_31 fl_RX8_159 rfl sh_2 (Nat.le_of_ble_eq_true rfl) ?_
      refine R_bipush (v := 6) dX8_round_34 (by decide) ?_
      refine R_icmp_ne (tgt := 42) dX8_round_36 (by decide) (fun c36 => ?_) (fun c36 => ?_)
      · have hR6 : R < 6 := cntI hrr c36 hR
        refine al_0 dX8_round_42 ?_
        refine R_getfr (r := 2) dX8_round_43 fl_RX8_12 rfl sh_1 (Nat.le_of_ble_eq_true rfl) rf_1_0 ?_
        refine R_getfr (r := 5) dX8_round_46 fl_RX8_162 rfl sh_2 (Nat.le_of_ble_eq_true rfl) rf_2_2 ?_
        refine al_0 dX8_round_49 ?_
        refine R_getfr (r := 2) dX8_round_50 fl_RX8_12 rfl sh_1 (Nat.le_of_ble_eq_true rfl) rf_1_0 ?_
        refine R_getfi dX8_round_53 fl_RX8_159 rfl sh_2 (Nat.le_of_ble_eq_true rfl) ?_
        refine il_1 dX8_round_56 ?_
        refine R_iast dX8_round_57 sh_5 (Nat.le_of_ble_eq_true rfl) (rn_ixe hrr) hR6 ?_
        refine al_0 dX8_round_58 ?_
        refine R_getfr (r := 2) dX8_round_59 fl_RX8_12 rfl sh_1 (Nat.le_of_ble_eq_true rfl) rf_1_0 ?_
        refine R_dup dX8_round_62 rfl ?_
        refine R_getfi dX8_round_63 fl_RX8_159 rfl sh_2 (Nat.le_of_ble_eq_true rfl) ?_
        refine R_iconst (v := 1) dX8_round_66 (by decide) ?_
        refine R_iadd dX8_round_67 ?_
        refine R_putfi dX8_round_68 fl_RX8_159 rfl (Or.inl rfl) sh_2 (Nat.le_of_ble_eq_true rfl) rfl rfl ?_
        refine al_0 dX8_round_71 ?_
        refine R_getfr (r := 2) dX8_round_72 fl_RX8_12 rfl sh_1 (Nat.le_of_ble_eq_true rfl) rf_1_0 ?_
        refine R_getfi dX8_round_75 fl_RX8_159 rfl sh_2 (Nat.le_of_ble_eq_true rfl) ?_
        refine R_ireturn dX8_round_78 ⟨_, rfl, rfl⟩ ?_
        have eA : roundA w x = (w.1 4 + 1, roundW x w) := by unfold roundA; rw [if_neg c2, if_pos cg, if_neg (fun q => c36 (w4.symm.trans q))]
        rw [eA] at h
        have q := wC_round (g := x) hB cp1 hrr hR6
        rw [hwc] at q
        refine ret_eq (h (rn_u (rn_u mi (2 + 3) R x) 2 8 (nI R + 1)) ml D (hi_of (fun a ha => by rw [rn_u_ne (by omega), rn_u_ne (by omega)])) (hc.w hv ⟨hD2, q, z12, z13, z14⟩ (fun a ha => by rw [rn_u_ne (by omega), rn_u_ne (by omega)]))) ?_ ?_
        · rw [show rn_u mi (2 + 3) R x 2 8 = nI R from hrr]
        · rw [w4]; rfl
      · refine R_bipush (v := -4) dX8_round_39 (by decide) ?_
        refine R_ireturn dX8_round_41 ⟨_, rfl, rfl⟩ ?_
        have eA : roundA w x = (-4, w) := by unfold roundA; rw [if_neg c2, if_pos cg, if_pos (w4.trans c36)]
        rw [eA] at h
        exact h mi ml D (HI.refl _ _) hc
    · refine R_if_ne (tgt := 27) dX8_round_22 (by decide) (fun q => absurd q (by decide)) (fun _ => ?_)
      refine R_iconst (v := -1) dX8_round_25 (by decide) ?_
      refine R_ireturn dX8_round_26 ⟨_, rfl, rfl⟩ ?_
      have eA : roundA w x = (-1, w) := by unfold roundA; rw [if_neg c2, if_neg (by rw [w0]; exact c19)]
      rw [eA] at h
      exact h mi ml D (HI.refl _ _) hc
  · refine al_0 dX8_round_5 ?_
    refine R_getfr (r := 2) dX8_round_6 fl_RX8_12 rfl sh_1 (Nat.le_of_ble_eq_true rfl) rf_1_0 ?_
    refine cv_0 dX8_round_9 mm_RX8_156 sh_2 (Nat.le_of_ble_eq_true rfl) ⟨_, rfl, rfl⟩ (Nat.le_of_ble_eq_true rfl) (Nat.le_of_ble_eq_true rfl) (K_endRound hB ?_)
    refine R_iconst (v := 0) dX8_round_12 (by decide) ?_
    refine R_ireturn dX8_round_13 ⟨_, rfl, rfl⟩ ?_
    have eA : roundA w x = (0, endW w) := by unfold roundA; rw [if_pos c2]
    rw [eA] at h
    have q := wC_end (mi := mi) hB cp1
    rw [hwc] at q
    exact h (rn_u (rn_u (rn_u mi 2 8 0) 2 9 0) 2 7 0) ml D (hi_of (fun a ha => by rw [rn_u_ne (by omega), rn_u_ne (by omega), rn_u_ne (by omega)])) (hc.w hv ⟨hD2, q, z12, z13, z14⟩ (fun a ha => by rw [rn_u_ne (by omega), rn_u_ne (by omega), rn_u_ne (by omega)]))
