/-! the class: what it is asked, tried on its second park -/
/-- the second park holds this world -/
def TRY (mi m : Nat → Nat → Int32) (D D' : Nat → Nat) (c : Nat) (v : WD) : Prop := PF 21 mi m ∧ wC m (cuA c) 21 = v ∧ D' 21 = cuA c ∧ D' 2 = D 2 ∧ D' 53 = D 53 ∧ D' 84 = D 84
theorem TRY.hi {mi m : Nat → Nat → Int32} {D D' : Nat → Nat} {c : Nat} {v : WD} (h : TRY mi m D D' c v) (ml : Nat → Nat → Int64) : HI mi m ml ml := hi_of (fun a ha => h.1.1 a (by omega))
theorem TRY.cr {w v : WD} {c k : Nat} {ds : Nat → CL} {sl : SL} {el bl : EL} {im : IM} {T : Nat → Nat} {L : Nat} {ac : List Int32} {tp : TP} {mi m : Nat → Nat → Int32} {ml : Nat → Nat → Int64} {D D' : Nat → Nat} (h : TRY mi m D D' c v) (hv : IV w c k ds sl el bl im ac tp) (hc : CR w c k ds sl el bl im T L ac tp mi ml D) : CR w c k ds sl el bl im T L ac tp m ml D' := by
  obtain ⟨⟨h1, -, -⟩, -, h3, h4, h5, h6⟩ := h
  have hck := hv.2.1
  have hk6 := hv.2.2.1
  exact hc.cn hv ⟨fun a a1 a2 a3 => h1 a (by omega), h4, h5, h6, by rw [h3]; exact (cuA_pd (by omega)).1⟩ (fun a _ => rfl)
theorem TRY.dc {w v : WD} {c k : Nat} {ds : Nat → CL} {sl : SL} {el bl : EL} {im : IM} {T : Nat → Nat} {L : Nat} {ac : List Int32} {tp : TP} {mi m : Nat → Nat → Int32} {ml : Nat → Nat → Int64} {D D' : Nat → Nat} (h : TRY mi m D D' c v) (hv : IV w c k ds sl el bl im ac tp) (hc : CR w c k ds sl el bl im T L ac tp mi ml D) : DC m (D' 21) (cuL ds c) := by
  rw [h.2.2.1]
  exact (h.cr hv hc).dc hv.2.1
theorem TRY.next {mi m m2 : Nat → Nat → Int32} {D D' : Nat → Nat} {c : Nat} {v v2 : WD} (h : TRY mi m D D' c v) (g : PF 21 m m2) (e : wC m2 (cuA c) 21 = v2) : TRY mi m2 D D' c v2 := ⟨h.1.trans g, e, h.2.2⟩

theorem K_trial {G : rn_G} {d : Nat} {κ : Nat × Nat} {Q : Option Value → rn_S → Prop} {mi : Nat → Nat → Int32} {ml : Nat → Nat → Int64} {D : Nat → Nat} {w : WD} {c k : Nat} {ds : Nat → CL} {sl : SL} {el bl : EL} {im : IM} {T : Nat → Nat} {L : Nat} {ac : List Int32} {tp : TP} (hv : IV w c k ds sl el bl im ac tp) (hc : CR w c k ds sl el bl im T L ac tp mi ml D) (h : ∀ m D', TRY mi m D D' c w → Q none (m, ml, RF D', 164)) : Call G (d + 2) M_X3_copyFrom [.ref 21, .ref 2] (mi, ml, RF D, 164) κ Q := by
  have hw := hv.1.1
  have hk6 := hv.2.2.1
  have hck := hv.2.1
  have hB : PB 2 := Or.inl rfl
  obtain ⟨hD2, hwc, z12, z13, z14⟩ := hc.1
  obtain ⟨cp1, cp2, cp3, cp4⟩ := cuA_pd (c := c) (by omega)
  have hkD : PD (D 2) := by rw [hD2]; exact cp1
  obtain ⟨N, P, R, hN, hP, hR, hg, hpp, hrr, hPJ⟩ := hc.1.n hw
  obtain ⟨w0, w1, w2, w3, w4, w5, w6⟩ := hc.1.cells
  refine K_copyFrom (b := 21) (c := 2) (Or.inr (Or.inl rfl)) hB (Or.inr (by decide)) hkD hpp hP (fun i hi => ?_) z12 z13 z14 (by rw [hg, nnI (by omega)]; exact hN) (by rw [hrr, nnI (by omega)]; exact hR) (fun m hpf hwm e12 e13 e14 => ?_)
  · obtain ⟨-, -, -, -, b4, b5, -⟩ := hPJ i hi
    rw [hc.1.per hpp hP hi] at b4 b5
    exact ⟨b4, b5⟩
  · rw [hD2, hwc] at hwm
    exact h m _ ⟨hpf, hwm, by rw [ud_at]; exact hD2, ud_ne (by decide), ud_ne (by decide), ud_ne (by decide)⟩
theorem K_tmins {G : rn_G} {d : Nat} {κ : Nat × Nat} {Q : Option Value → rn_S → Prop} {mi : Nat → Nat → Int32} {ml : Nat → Nat → Int64} {D : Nat → Nat} {w v : WD} {c k : Nat} {ds : Nat → CL} {sl : SL} {el bl : EL} {im : IM} {T : Nat → Nat} {L : Nat} {ac : List Int32} {tp : TP} {m : Nat → Nat → Int32} {D' : Nat → Nat} (hv : IV w c k ds sl el bl im ac tp) (hc : CR w c k ds sl el bl im T L ac tp mi ml D) (ht : TRY mi m D D' c v) {U n : Nat} {z : Int32} (hz : z = nI n) (hvw : WJ U v) (hU : U + n < 2 ^ 30) (h : ∀ m2, TRY mi m2 D D' c (minsW (erA (cuL ds c)) n v) → Q none (m2, ml, RF D', 164)) : Call G (d + 5) M_X3_passMinutes [.ref 21, .int z] (m, ml, RF D', 164) κ Q := by
  have e21 := ht.2.2.1
  have hdc := ht.dc hv hc
  have hwv : wC m (D' 21) 21 = v := by rw [e21]; exact ht.2.1
  have hk6 := hv.2.2.1
  have hck := hv.2.1
  refine K_passMinutes (b := 21) (Or.inr (Or.inl rfl)) (by rw [e21]; exact (cuA_pd (by omega)).1) hdc.dki (T := U) (by rw [hwv]; exact hvw.wi) hz hU (fun m2 hms => h m2 (ht.next hms.1 ?_))
  rw [← e21, hms.2.2, hdc.er, hwv]
theorem K_tmin {G : rn_G} {d : Nat} {κ : Nat × Nat} {Q : Option Value → rn_S → Prop} {mi : Nat → Nat → Int32} {ml : Nat → Nat → Int64} {D : Nat → Nat} {w v : WD} {c k : Nat} {ds : Nat → CL} {sl : SL} {el bl : EL} {im : IM} {T : Nat → Nat} {L : Nat} {ac : List Int32} {tp : TP} {m : Nat → Nat → Int32} {D' : Nat → Nat} (hv : IV w c k ds sl el bl im ac tp) (hc : CR w c k ds sl el bl im T L ac tp mi ml D) (ht : TRY mi m D D' c v) {U : Nat} (hvw : WJ U v) (hU : U < 2 ^ 30) (h : ∀ m2, TRY mi m2 D D' c (minuteW (erA (cuL ds c)) v) → Q none (m2, ml, RF D', 164)) : Call G (d + 4) M_X3_passMinute [.ref 21] (m, ml, RF D', 164) κ Q := by
  have e21 := ht.2.2.1
  have hdc := ht.dc hv hc
  have hwv : wC m (D' 21) 21 = v := by rw [e21]; exact ht.2.1
  have hk6 := hv.2.2.1
  have hck := hv.2.1
  refine K_passMinute (b := 21) (Or.inr (Or.inl rfl)) (T := U) (by rw [e21]; exact (cuA_pd (by omega)).1) hdc.dki (by rw [hwv]; exact hvw.wi) hU (fun m2 g1 g2 g3 g4 g5 => h m2 (ht.next ⟨g1, g2, g3⟩ ?_))
  rw [← e21, g5, hdc.er, hwv]
theorem TRY.n {mi m : Nat → Nat → Int32} {D D' : Nat → Nat} {c U : Nat} {v : WD} (ht : TRY mi m D D' c v) (hvw : WJ U v) : ∃ P, P ≤ 6 ∧ m 21 6 = nI P ∧ v.1 2 = nI P := by
  obtain ⟨N, P, R, hN, hP, hR, h0, h2, -⟩ := hvw
  refine ⟨P, hP, ?_, h2⟩
  have e : v.1 2 = m 21 6 := by rw [← ht.2.1]; rfl
  exact e.symm.trans h2
theorem K_tout {G : rn_G} {d : Nat} {κ : Nat × Nat} {Q : Option Value → rn_S → Prop} {mi : Nat → Nat → Int32} {ml : Nat → Nat → Int64} {D : Nat → Nat} {w v : WD} {c k : Nat} {ds : Nat → CL} {sl : SL} {el bl : EL} {im : IM} {T : Nat → Nat} {L : Nat} {ac : List Int32} {tp : TP} {m : Nat → Nat → Int32} {D' : Nat → Nat} (hv : IV w c k ds sl el bl im ac tp) (hc : CR w c k ds sl el bl im T L ac tp mi ml D) (ht : TRY mi m D D' c v) {U : Nat} (hvw : WJ U v) (h : Q (some (.int (outW v))) (m, ml, RF D', 164)) : Call G d M_X3_outBits [.ref 21] (m, ml, RF D', 164) κ Q := by
  obtain ⟨P, hP, h6, -⟩ := ht.n hvw
  refine K_outBits (b := 21) (Or.inr (Or.inl rfl)) (cuA c) h6 hP ?_
  rw [ht.2.1]
  exact h
theorem K_tins {G : rn_G} {d : Nat} {κ : Nat × Nat} {Q : Option Value → rn_S → Prop} {mi : Nat → Nat → Int32} {ml : Nat → Nat → Int64} {D : Nat → Nat} {w v : WD} {c k : Nat} {ds : Nat → CL} {sl : SL} {el bl : EL} {im : IM} {T : Nat → Nat} {L : Nat} {ac : List Int32} {tp : TP} {m : Nat → Nat → Int32} {D' : Nat → Nat} (hv : IV w c k ds sl el bl im ac tp) (hc : CR w c k ds sl el bl im T L ac tp mi ml D) (ht : TRY mi m D D' c v) {U : Nat} (hvw : WJ U v) (h : Q (some (.int (insW v))) (m, ml, RF D', 164)) : Call G (d + 1) M_X3_inside [.ref 21] (m, ml, RF D', 164) κ Q := by
  obtain ⟨P, hP, h6, -⟩ := ht.n hvw
  refine K_inside (b := 21) (Or.inr (Or.inl rfl)) (cuA c) h6 hP ?_
  rw [ht.2.1]
  exact h
theorem K_tleft {G : rn_G} {d : Nat} {κ : Nat × Nat} {Q : Option Value → rn_S → Prop} {mi : Nat → Nat → Int32} {ml : Nat → Nat → Int64} {D : Nat → Nat} {w v : WD} {c k : Nat} {ds : Nat → CL} {sl : SL} {el bl : EL} {im : IM} {T : Nat → Nat} {L : Nat} {ac : List Int32} {tp : TP} {m : Nat → Nat → Int32} {D' : Nat → Nat} (hv : IV w c k ds sl el bl im ac tp) (hc : CR w c k ds sl el bl im T L ac tp mi ml D) (ht : TRY mi m D D' c v) {U : Nat} (hvw : WJ U v) (hU : U + 60 < 2 ^ 30) (h : ∀ m2, PF 21 m m2 → Q (some (.int (leftW (erA (cuL ds c)) v))) (m2, ml, RF D', 164)) : Call G (d + 5) M_X3_leftBehind [.ref 21] (m, ml, RF D', 164) κ Q := by
  obtain ⟨P, hP, h6, -⟩ := ht.n hvw
  have e21 := ht.2.2.1
  have hdc := ht.dc hv hc
  have hwv : wC m (D' 21) 21 = v := by rw [e21]; exact ht.2.1
  have hk6 := hv.2.2.1
  have hck := hv.2.1
  refine K_leftBehind (b := 21) (Or.inr (Or.inl rfl)) (by rw [e21]; exact (cuA_pd (by omega)).1) hdc.dki (T := U) (by rw [hwv]; exact hvw.wi) h6 hP hU (fun m2 g1 => ?_)
  rw [hdc.er, hwv]
  exact h m2 g1
theorem TRY.per {mi m : Nat → Nat → Int32} {D D' : Nat → Nat} {c U i P : Nat} {v : WD} (ht : TRY mi m D D' c v) (h6 : m 21 6 = nI P) (hP : P ≤ 6) (hi : i < P) : v.2.2.2 i = pC m (21 + 7 + 2 * i) := by
  rw [← ht.2.1, wC_P h6 hP hi]
theorem rf_21_0 {D : Nat → Nat} : RF D 21 0 = 22 := rfl
theorem rf_21_1 {D : Nat → Nat} : RF D 21 1 = 23 := rfl
theorem rf_21_2 {D : Nat → Nat} : RF D 21 2 = 24 := rfl

set_option maxHeartbeats 4000000 in
theorem KC_pass {G : rn_G} {d : Nat} {κ : Nat × Nat} {Q : Option Value → rn_S → Prop} {mi : Nat → Nat → Int32} {ml : Nat → Nat → Int64} {D : Nat → Nat} {x : Int32} {w : WD} {c k : Nat} {ds : Nat → CL} {sl : SL} {el bl : EL} {im : IM} {T : Nat → Nat} {L : Nat} {ac : List Int32} {tp : TP} (hv : IV w c k ds sl el bl im ac tp) (hc : CR w c k ds sl el bl im T L ac tp mi ml D) (h : ∀ m l D', HI mi m ml l → CR (passA (erA (cuL ds c)) w x).2 c k ds sl el bl im T L ac tp m l D' → Q (some (.int (passA (erA (cuL ds c)) w x).1)) (m, l, RF D', 164))  : Call G (d + 30) M_X8_pass [.ref 1, .int x] (mi, ml, RF D, 164) κ Q := by
  show Run G _ M_X8_pass 0 [.ref 1, .int x] [] _ _ _
  have hw := hv.1.1
  have hk6 := hv.2.2.1
  have hck := hv.2.1
  have hB : PB 2 := Or.inl rfl
  obtain ⟨hD2, hwc, z12, z13, z14⟩ := hc.1
  obtain ⟨cp1, cp2, cp3, cp4⟩ := cuA_pd (c := c) (by omega)
  have hkD : PD (D 2) := by rw [hD2]; exact cp1
  obtain ⟨N, P, R, hN, hP, hR, hg, hpp, hrr, hPJ⟩ := hc.1.n hw
  obtain ⟨w0, w1, w2, w3, w4, w5, w6⟩ := hc.1.cells
  have hdc : DC mi (D 2) (cuL ds c) := by rw [hD2]; exact hc.dc hck
  refine il_1 dX8_pass_0 ?_
  refine R_if_lt (tgt := 10) dX8_pass_1 (by decide) (fun c1 => ?_) (fun c1 => ?_)
  · refine R_bipush (v := -2) dX8_pass_10 (by decide) ?_
    refine R_ireturn dX8_pass_12 ⟨_, rfl, rfl⟩ ?_
    have eA : passA (erA (cuL ds c)) w x = (-2, w) := by unfold passA; rw [if_neg (fun q => by first | exact Int32.not_lt.mpr q.1 (by first | exact c1 | exact Int32.not_le.mp c1) | exact Int32.not_lt.mpr q.2 (by first | exact c7 | exact Int32.not_le.mp c7))]
    rw [eA] at h
    exact h mi ml D (HI.refl _ _) hc
  · refine il_1 dX8_pass_4 ?_
    refine R_bipush (v := 60) dX8_pass_5 (by decide) ?_
    refine R_icmp_le (tgt := 13) dX8_pass_7 (by decide) (fun c7 => ?_) (fun c7 => ?_)
    · have cx : 0 ≤ x ∧ x ≤ 60 := ⟨by first | exact c1 | exact Int32.not_lt.mp c1, by first | exact c7 | exact Int32.not_lt.mp c7⟩
      obtain ⟨n, hn, hz⟩ := sm_of cx.1 ((lt_succ_iff (a := 60)).mpr cx.2) (by decide)
      refine al_0 dX8_pass_13 ?_
      refine R_getfr (r := 2) dX8_pass_14 fl_RX8_12 rfl sh_1 (Nat.le_of_ble_eq_true rfl) rf_1_0 ?_
      refine R_getfi dX8_pass_17 fl_RX8_185 rfl sh_2 (Nat.le_of_ble_eq_true rfl) ?_
      refine il_1 dX8_pass_20 ?_
      refine R_iadd dX8_pass_21 ?_
      refine R_sipush (v := 9999) dX8_pass_22 (by decide) ?_
      refine R_icmp_le (tgt := 31) dX8_pass_25 (by decide) (fun c25 => ?_) (fun c25 => ?_)
      · refine al_0 dX8_pass_31 ?_
        refine R_getfr (r := 2) dX8_pass_32 fl_RX8_12 rfl sh_1 (Nat.le_of_ble_eq_true rfl) rf_1_0 ?_
        refine il_1 dX8_pass_35 ?_
        refine cv_1 dX8_pass_36 mm_RX8_207 sh_2 (Nat.le_of_ble_eq_true rfl) ⟨_, rfl, rfl⟩ (Nat.le_of_ble_eq_true rfl) (Nat.le_of_ble_eq_true rfl) (K_passMinutes hB hkD hdc.dki (T := 9999) (by rw [hD2, hwc]; exact hw.wi) hz (by omega) (fun m hms => ?_))
        refine al_0 dX8_pass_39 ?_
        refine R_getfr (r := 2) dX8_pass_40 fl_RX8_12 rfl sh_1 (Nat.le_of_ble_eq_true rfl) rf_1_0 ?_
        refine R_getfi dX8_pass_43 fl_RX8_185 rfl sh_2 (Nat.le_of_ble_eq_true rfl) ?_
        refine R_ireturn dX8_pass_46 ⟨_, rfl, rfl⟩ ?_
        have eA : passA (erA (cuL ds c)) w x = ((minsW (erA (cuL ds c)) n w).1 6, minsW (erA (cuL ds c)) n w) := by unfold passA; rw [if_pos cx, if_neg (by rw [w6]; first | exact Int32.not_lt.mpr c25 | exact Int32.not_lt.mpr (Int32.not_lt.mp c25)), hz, nnI (by omega)]
        rw [eA] at h
        obtain ⟨hpf, m12, hwm⟩ := hms
        rw [hdc.er, hD2, hwc] at hwm
        have e6 : m 2 10 = (minsW (erA (cuL ds c)) n w).1 6 := by rw [← hwm]; rfl
        have e13 : m 2 13 = 0 := by
          have q := mins_8 (er := erA (cuL ds c)) n w (by rw [← hwc]; exact z13)
          rw [← hwm] at q
          exact q
        have e14 : m 2 14 = -1 := by
          have q := mins_9 (er := erA (cuL ds c)) n w
          rw [← hwm, ← hwc] at q
          exact (show m 2 14 = mi 2 14 from q).trans z14
        exact ret_eq (h m ml D (hi_of (fun a ha => hpf.1 a (by omega))) (hc.w hv ⟨hD2, hwm, m12.trans z12, e13, e14⟩ (fun a ha => by rcases ha with q | q | q | q; exact hpf.1 a (by omega); rw [q]; exact hpf.2.1; rw [q]; exact hpf.2.2; exact hpf.1 a (by omega)))) rfl e6
      · refine R_bipush (v := -3) dX8_pass_28 (by decide) ?_
        refine R_ireturn dX8_pass_30 ⟨_, rfl, rfl⟩ ?_
        have eA : passA (erA (cuL ds c)) w x = (-3, w) := by unfold passA; rw [if_pos cx, if_pos (by rw [w6]; first | exact c25 | exact Int32.not_le.mp c25)]
        rw [eA] at h
        exact h mi ml D (HI.refl _ _) hc
    · refine R_bipush (v := -2) dX8_pass_10 (by decide) ?_
      refine R_ireturn dX8_pass_12 ⟨_, rfl, rfl⟩ ?_
      have eA : passA (erA (cuL ds c)) w x = (-2, w) := by unfold passA; rw [if_neg (fun q => by first | exact Int32.not_lt.mpr q.1 (by first | exact c1 | exact Int32.not_le.mp c1) | exact Int32.not_lt.mpr q.2 (by first | exact c7 | exact Int32.not_le.mp c7))]
      rw [eA] at h
      exact h mi ml D (HI.refl _ _) hc

set_option maxHeartbeats 4000000 in
theorem KC_told {G : rn_G} {d : Nat} {κ : Nat × Nat} {Q : Option Value → rn_S → Prop} {mi : Nat → Nat → Int32} {ml : Nat → Nat → Int64} {D : Nat → Nat} {x : Int32} {w : WD} {c k : Nat} {ds : Nat → CL} {sl : SL} {el bl : EL} {im : IM} {T : Nat → Nat} {L : Nat} {ac : List Int32} {tp : TP} (hv : IV w c k ds sl el bl im ac tp) (hc : CR w c k ds sl el bl im T L ac tp mi ml D) (h : ∀ m l D', HI mi m ml l → CR w c k ds sl el bl im T L ac tp m l D' → Q (some (.int (toldA w x))) (m, l, RF D', 164))  : Call G (d + 30) M_X8_told [.ref 1, .int x] (mi, ml, RF D, 164) κ Q := by
  show Run G _ M_X8_told 0 [.ref 1, .int x] [] _ _ _
  have hw := hv.1.1
  have hk6 := hv.2.2.1
  have hck := hv.2.1
  have hB : PB 2 := Or.inl rfl
  obtain ⟨hD2, hwc, z12, z13, z14⟩ := hc.1
  obtain ⟨cp1, cp2, cp3, cp4⟩ := cuA_pd (c := c) (by omega)
  have hkD : PD (D 2) := by rw [hD2]; exact cp1
  obtain ⟨N, P, R, hN, hP, hR, hg, hpp, hrr, hPJ⟩ := hc.1.n hw
  obtain ⟨w0, w1, w2, w3, w4, w5, w6⟩ := hc.1.cells
  refine il_1 dX8_told_0 ?_
  refine R_bipush (v := 10) dX8_told_1 (by decide) ?_
  refine R_icmp_lt (tgt := 33) dX8_told_3 (by decide) (fun c3 => ?_) (fun c3 => ?_)
  · refine il_1 dX8_told_33 ?_
    by_cases w34_0 : x = 0
    · refine R_tswI (tgt := 76) dX8_told_34 0 w34_0 (by decide) (by decide) rfl (by decide) ?_
      refine al_0 dX8_told_76 ?_
      refine R_getfr (r := 2) dX8_told_77 fl_RX8_12 rfl sh_1 (Nat.le_of_ble_eq_true rfl) rf_1_0 ?_
      refine R_getfi dX8_told_80 fl_RX8_185 rfl sh_2 (Nat.le_of_ble_eq_true rfl) ?_
      refine R_ireturn dX8_told_83 ⟨_, rfl, rfl⟩ ?_
      unfold toldA at h
      have nT : ¬ (10 ≤ x ∧ x < 10 + w.1 0) := fun q => by first | exact Int32.not_lt.mpr q.1 (by first | exact c3 | exact Int32.not_le.mp c3) | exact absurd q.2 (by rw [w0]; first | exact Int32.not_lt.mpr c17 | exact c17)
      rw [if_neg nT, if_pos w34_0] at h
      refine ret_eq (h mi ml D (HI.refl _ _) hc) rfl ?_
      exact w6.symm
    by_cases w34_1 : x = 1
    · refine R_tswI (tgt := 84) dX8_told_34 1 w34_1 (by decide) (by decide) rfl (by decide) ?_
      refine al_0 dX8_told_84 ?_
      refine R_getfr (r := 2) dX8_told_85 fl_RX8_12 rfl sh_1 (Nat.le_of_ble_eq_true rfl) rf_1_0 ?_
      refine R_getfr (r := (D 2)) dX8_told_88 fl_RX8_178 rfl sh_2 (Nat.le_of_ble_eq_true rfl) rfl ?_
      refine R_getfi dX8_told_91 fl_RX8_188 rfl (pd_s0 hkD) (show (D 2) < 164 by have := pd_n hkD; omega) ?_
      refine R_ireturn dX8_told_94 ⟨_, rfl, rfl⟩ ?_
      unfold toldA at h
      have nT : ¬ (10 ≤ x ∧ x < 10 + w.1 0) := fun q => by first | exact Int32.not_lt.mpr q.1 (by first | exact c3 | exact Int32.not_le.mp c3) | exact absurd q.2 (by rw [w0]; first | exact Int32.not_lt.mpr c17 | exact c17)
      rw [if_neg nT, if_neg w34_0, if_pos w34_1] at h
      refine ret_eq (h mi ml D (HI.refl _ _) hc) rfl ?_
      rw [hD2, ← hwc]; rfl
    by_cases w34_2 : x = 2
    · refine R_tswI (tgt := 95) dX8_told_34 2 w34_2 (by decide) (by decide) rfl (by decide) ?_
      refine al_0 dX8_told_95 ?_
      refine R_getfr (r := 2) dX8_told_96 fl_RX8_12 rfl sh_1 (Nat.le_of_ble_eq_true rfl) rf_1_0 ?_
      refine R_getfr (r := (D 2)) dX8_told_99 fl_RX8_178 rfl sh_2 (Nat.le_of_ble_eq_true rfl) rfl ?_
      refine R_getfi dX8_told_102 fl_RX8_191 rfl (pd_s0 hkD) (show (D 2) < 164 by have := pd_n hkD; omega) ?_
      refine R_ireturn dX8_told_105 ⟨_, rfl, rfl⟩ ?_
      unfold toldA at h
      have nT : ¬ (10 ≤ x ∧ x < 10 + w.1 0) := fun q => by first | exact Int32.not_lt.mpr q.1 (by first | exact c3 | exact Int32.not_le.mp c3) | exact absurd q.2 (by rw [w0]; first | exact Int32.not_lt.mpr c17 | exact c17)
      rw [if_neg nT, if_neg w34_0, if_neg w34_1, if_pos w34_2] at h
      refine ret_eq (h mi ml D (HI.refl _ _) hc) rfl ?_
      rw [hD2, ← hwc]; show mi (cuA c) 3 = if 0 < mi 2 12 then mi 2 12 else mi (cuA c) 3; rw [z12, if_neg (by decide)]
    by_cases w34_3 : x = 3
    · refine R_tswI (tgt := 106) dX8_told_34 3 w34_3 (by decide) (by decide) rfl (by decide) ?_
      refine al_0 dX8_told_106 ?_
      refine R_getfr (r := 2) dX8_told_107 fl_RX8_12 rfl sh_1 (Nat.le_of_ble_eq_true rfl) rf_1_0 ?_
      refine R_getfi dX8_told_110 fl_RX8_194 rfl sh_2 (Nat.le_of_ble_eq_true rfl) ?_
      refine R_ireturn dX8_told_113 ⟨_, rfl, rfl⟩ ?_
      unfold toldA at h
      have nT : ¬ (10 ≤ x ∧ x < 10 + w.1 0) := fun q => by first | exact Int32.not_lt.mpr q.1 (by first | exact c3 | exact Int32.not_le.mp c3) | exact absurd q.2 (by rw [w0]; first | exact Int32.not_lt.mpr c17 | exact c17)
      rw [if_neg nT, if_neg w34_0, if_neg w34_1, if_neg w34_2, if_pos w34_3] at h
      refine ret_eq (h mi ml D (HI.refl _ _) hc) rfl ?_
      exact w3.symm
    by_cases w34_4 : x = 4
    · refine R_tswI (tgt := 114) dX8_told_34 4 w34_4 (by decide) (by decide) rfl (by decide) ?_
      refine al_0 dX8_told_114 ?_
      refine R_getfr (r := 2) dX8_told_115 fl_RX8_12 rfl sh_1 (Nat.le_of_ble_eq_true rfl) rf_1_0 ?_
      refine R_getfi dX8_told_118 fl_RX8_197 rfl sh_2 (Nat.le_of_ble_eq_true rfl) ?_
      refine R_ireturn dX8_told_121 ⟨_, rfl, rfl⟩ ?_
      unfold toldA at h
      have nT : ¬ (10 ≤ x ∧ x < 10 + w.1 0) := fun q => by first | exact Int32.not_lt.mpr q.1 (by first | exact c3 | exact Int32.not_le.mp c3) | exact absurd q.2 (by rw [w0]; first | exact Int32.not_lt.mpr c17 | exact c17)
      rw [if_neg nT, if_neg w34_0, if_neg w34_1, if_neg w34_2, if_neg w34_3, if_pos w34_4] at h
      refine ret_eq (h mi ml D (HI.refl _ _) hc) rfl ?_
      exact w5.symm
    by_cases w34_5 : x = 5
    · refine R_tswI (tgt := 122) dX8_told_34 5 w34_5 (by decide) (by decide) rfl (by decide) ?_
      refine al_0 dX8_told_122 ?_
      refine R_getfr (r := 2) dX8_told_123 fl_RX8_12 rfl sh_1 (Nat.le_of_ble_eq_true rfl) rf_1_0 ?_
      refine R_getfi dX8_told_126 fl_RX8_200 rfl sh_2 (Nat.le_of_ble_eq_true rfl) ?_
      refine R_ireturn dX8_told_129 ⟨_, rfl, rfl⟩ ?_
      unfold toldA at h
      have nT : ¬ (10 ≤ x ∧ x < 10 + w.1 0) := fun q => by first | exact Int32.not_lt.mpr q.1 (by first | exact c3 | exact Int32.not_le.mp c3) | exact absurd q.2 (by rw [w0]; first | exact Int32.not_lt.mpr c17 | exact c17)
      rw [if_neg nT, if_neg w34_0, if_neg w34_1, if_neg w34_2, if_neg w34_3, if_neg w34_4, if_pos w34_5] at h
      refine ret_eq (h mi ml D (HI.refl _ _) hc) rfl ?_
      exact w1.symm
    by_cases w34_6 : x = 6
    · refine R_tswI (tgt := 130) dX8_told_34 6 w34_6 (by decide) (by decide) rfl (by decide) ?_
      refine al_0 dX8_told_130 ?_
      refine R_getfr (r := 2) dX8_told_131 fl_RX8_12 rfl sh_1 (Nat.le_of_ble_eq_true rfl) rf_1_0 ?_
      refine cv_0 dX8_told_134 mm_RX8_203 sh_2 (Nat.le_of_ble_eq_true rfl) ⟨_, rfl, rfl⟩ (Nat.le_of_ble_eq_true rfl) (Nat.le_of_ble_eq_true rfl) (K_outBits hB (cuA c) hpp hP ?_)
      rw [hwc]
      refine R_ireturn dX8_told_137 ⟨_, rfl, rfl⟩ ?_
      unfold toldA at h
      have nT : ¬ (10 ≤ x ∧ x < 10 + w.1 0) := fun q => by first | exact Int32.not_lt.mpr q.1 (by first | exact c3 | exact Int32.not_le.mp c3) | exact absurd q.2 (by rw [w0]; first | exact Int32.not_lt.mpr c17 | exact c17)
      rw [if_neg nT, if_neg w34_0, if_neg w34_1, if_neg w34_2, if_neg w34_3, if_neg w34_4, if_neg w34_5, if_pos w34_6] at h
      exact h mi ml D (HI.refl _ _) hc
    refine R_tswO (tgt := 138) dX8_told_34 (by have w34_0' := lv_neT (a := 0) w34_0 rfl; have w34_1' := lv_neT (a := 1) w34_1 rfl; have w34_2' := lv_neT (a := 2) w34_2 rfl; have w34_3' := lv_neT (a := 3) w34_3 rfl; have w34_4' := lv_neT (a := 4) w34_4 rfl; have w34_5' := lv_neT (a := 5) w34_5 rfl; have w34_6' := lv_neT (a := 6) w34_6 rfl; omega) (by decide) ?_
    refine R_iconst (v := -1) dX8_told_138 (by decide) ?_
    refine R_ireturn dX8_told_139 ⟨_, rfl, rfl⟩ ?_
    unfold toldA at h
    have nT : ¬ (10 ≤ x ∧ x < 10 + w.1 0) := fun q => by first | exact Int32.not_lt.mpr q.1 (by first | exact c3 | exact Int32.not_le.mp c3) | exact absurd q.2 (by rw [w0]; first | exact Int32.not_lt.mpr c17 | exact c17)
    rw [if_neg nT, if_neg w34_0, if_neg w34_1, if_neg w34_2, if_neg w34_3, if_neg w34_4, if_neg w34_5, if_neg w34_6] at h
    exact h mi ml D (HI.refl _ _) hc
  · refine il_1 dX8_told_6 ?_
    refine R_bipush (v := 10) dX8_told_7 (by decide) ?_
    refine al_0 dX8_told_9 ?_
    refine R_getfr (r := 2) dX8_told_10 fl_RX8_12 rfl sh_1 (Nat.le_of_ble_eq_true rfl) rf_1_0 ?_
    refine R_getfi dX8_told_13 fl_RX8_75 rfl sh_2 (Nat.le_of_ble_eq_true rfl) ?_
    refine R_iadd dX8_told_16 ?_
    refine R_icmp_ge (tgt := 33) dX8_told_17 (by decide) (fun c17 => ?_) (fun c17 => ?_)
    · refine il_1 dX8_told_33 ?_
      by_cases w34_0 : x = 0
      · refine R_tswI (tgt := 76) dX8_told_34 0 w34_0 (by decide) (by decide) rfl (by decide) ?_
        refine al_0 dX8_told_76 ?_
        refine R_getfr (r := 2) dX8_told_77 fl_RX8_12 rfl sh_1 (Nat.le_of_ble_eq_true rfl) rf_1_0 ?_
        refine R_getfi dX8_told_80 fl_RX8_185 rfl sh_2 (Nat.le_of_ble_eq_true rfl) ?_
        refine R_ireturn dX8_told_83 ⟨_, rfl, rfl⟩ ?_
        unfold toldA at h
        have nT : ¬ (10 ≤ x ∧ x < 10 + w.1 0) := fun q => by first | exact Int32.not_lt.mpr q.1 (by first | exact c3 | exact Int32.not_le.mp c3) | exact absurd q.2 (by rw [w0]; first | exact Int32.not_lt.mpr c17 | exact c17)
        rw [if_neg nT, if_pos w34_0] at h
        refine ret_eq (h mi ml D (HI.refl _ _) hc) rfl ?_
        exact w6.symm
      by_cases w34_1 : x = 1
      · refine R_tswI (tgt := 84) dX8_told_34 1 w34_1 (by decide) (by decide) rfl (by decide) ?_
        refine al_0 dX8_told_84 ?_
        refine R_getfr (r := 2) dX8_told_85 fl_RX8_12 rfl sh_1 (Nat.le_of_ble_eq_true rfl) rf_1_0 ?_
        refine R_getfr (r := (D 2)) dX8_told_88 fl_RX8_178 rfl sh_2 (Nat.le_of_ble_eq_true rfl) rfl ?_
        refine R_getfi dX8_told_91 fl_RX8_188 rfl (pd_s0 hkD) (show (D 2) < 164 by have := pd_n hkD; omega) ?_
        refine R_ireturn dX8_told_94 ⟨_, rfl, rfl⟩ ?_
        unfold toldA at h
        have nT : ¬ (10 ≤ x ∧ x < 10 + w.1 0) := fun q => by first | exact Int32.not_lt.mpr q.1 (by first | exact c3 | exact Int32.not_le.mp c3) | exact absurd q.2 (by rw [w0]; first | exact Int32.not_lt.mpr c17 | exact c17)
        rw [if_neg nT, if_neg w34_0, if_pos w34_1] at h
        refine ret_eq (h mi ml D (HI.refl _ _) hc) rfl ?_
        rw [hD2, ← hwc]; rfl
      by_cases w34_2 : x = 2
      · refine R_tswI (tgt := 95) dX8_told_34 2 w34_2 (by decide) (by decide) rfl (by decide) ?_
        refine al_0 dX8_told_95 ?_
        refine R_getfr (r := 2) dX8_told_96 fl_RX8_12 rfl sh_1 (Nat.le_of_ble_eq_true rfl) rf_1_0 ?_
        refine R_getfr (r := (D 2)) dX8_told_99 fl_RX8_178 rfl sh_2 (Nat.le_of_ble_eq_true rfl) rfl ?_
        refine R_getfi dX8_told_102 fl_RX8_191 rfl (pd_s0 hkD) (show (D 2) < 164 by have := pd_n hkD; omega) ?_
        refine R_ireturn dX8_told_105 ⟨_, rfl, rfl⟩ ?_
        unfold toldA at h
        have nT : ¬ (10 ≤ x ∧ x < 10 + w.1 0) := fun q => by first | exact Int32.not_lt.mpr q.1 (by first | exact c3 | exact Int32.not_le.mp c3) | exact absurd q.2 (by rw [w0]; first | exact Int32.not_lt.mpr c17 | exact c17)
        rw [if_neg nT, if_neg w34_0, if_neg w34_1, if_pos w34_2] at h
        refine ret_eq (h mi ml D (HI.refl _ _) hc) rfl ?_
        rw [hD2, ← hwc]; show mi (cuA c) 3 = if 0 < mi 2 12 then mi 2 12 else mi (cuA c) 3; rw [z12, if_neg (by decide)]
      by_cases w34_3 : x = 3
      · refine R_tswI (tgt := 106) dX8_told_34 3 w34_3 (by decide) (by decide) rfl (by decide) ?_
        refine al_0 dX8_told_106 ?_
        refine R_getfr (r := 2) dX8_told_107 fl_RX8_12 rfl sh_1 (Nat.le_of_ble_eq_true rfl) rf_1_0 ?_
        refine R_getfi dX8_told_110 fl_RX8_194 rfl sh_2 (Nat.le_of_ble_eq_true rfl) ?_
        refine R_ireturn dX8_told_113 ⟨_, rfl, rfl⟩ ?_
        unfold toldA at h
        have nT : ¬ (10 ≤ x ∧ x < 10 + w.1 0) := fun q => by first | exact Int32.not_lt.mpr q.1 (by first | exact c3 | exact Int32.not_le.mp c3) | exact absurd q.2 (by rw [w0]; first | exact Int32.not_lt.mpr c17 | exact c17)
        rw [if_neg nT, if_neg w34_0, if_neg w34_1, if_neg w34_2, if_pos w34_3] at h
        refine ret_eq (h mi ml D (HI.refl _ _) hc) rfl ?_
        exact w3.symm
      by_cases w34_4 : x = 4
      · refine R_tswI (tgt := 114) dX8_told_34 4 w34_4 (by decide) (by decide) rfl (by decide) ?_
        refine al_0 dX8_told_114 ?_
        refine R_getfr (r := 2) dX8_told_115 fl_RX8_12 rfl sh_1 (Nat.le_of_ble_eq_true rfl) rf_1_0 ?_
        refine R_getfi dX8_told_118 fl_RX8_197 rfl sh_2 (Nat.le_of_ble_eq_true rfl) ?_
        refine R_ireturn dX8_told_121 ⟨_, rfl, rfl⟩ ?_
        unfold toldA at h
        have nT : ¬ (10 ≤ x ∧ x < 10 + w.1 0) := fun q => by first | exact Int32.not_lt.mpr q.1 (by first | exact c3 | exact Int32.not_le.mp c3) | exact absurd q.2 (by rw [w0]; first | exact Int32.not_lt.mpr c17 | exact c17)
        rw [if_neg nT, if_neg w34_0, if_neg w34_1, if_neg w34_2, if_neg w34_3, if_pos w34_4] at h
        refine ret_eq (h mi ml D (HI.refl _ _) hc) rfl ?_
        exact w5.symm
      by_cases w34_5 : x = 5
      · refine R_tswI (tgt := 122) dX8_told_34 5 w34_5 (by decide) (by decide) rfl (by decide) ?_
        refine al_0 dX8_told_122 ?_
        refine R_getfr (r := 2) dX8_told_123 fl_RX8_12 rfl sh_1 (Nat.le_of_ble_eq_true rfl) rf_1_0 ?_
        refine R_getfi dX8_told_126 fl_RX8_200 rfl sh_2 (Nat.le_of_ble_eq_true rfl) ?_
        refine R_ireturn dX8_told_129 ⟨_, rfl, rfl⟩ ?_
        unfold toldA at h
        have nT : ¬ (10 ≤ x ∧ x < 10 + w.1 0) := fun q => by first | exact Int32.not_lt.mpr q.1 (by first | exact c3 | exact Int32.not_le.mp c3) | exact absurd q.2 (by rw [w0]; first | exact Int32.not_lt.mpr c17 | exact c17)
        rw [if_neg nT, if_neg w34_0, if_neg w34_1, if_neg w34_2, if_neg w34_3, if_neg w34_4, if_pos w34_5] at h
        refine ret_eq (h mi ml D (HI.refl _ _) hc) rfl ?_
        exact w1.symm
      by_cases w34_6 : x = 6
      · refine R_tswI (tgt := 130) dX8_told_34 6 w34_6 (by decide) (by decide) rfl (by decide) ?_
        refine al_0 dX8_told_130 ?_
        refine R_getfr (r := 2) dX8_told_131 fl_RX8_12 rfl sh_1 (Nat.le_of_ble_eq_true rfl) rf_1_0 ?_
        refine cv_0 dX8_told_134 mm_RX8_203 sh_2 (Nat.le_of_ble_eq_true rfl) ⟨_, rfl, rfl⟩ (Nat.le_of_ble_eq_true rfl) (Nat.le_of_ble_eq_true rfl) (K_outBits hB (cuA c) hpp hP ?_)
        rw [hwc]
        refine R_ireturn dX8_told_137 ⟨_, rfl, rfl⟩ ?_
        unfold toldA at h
        have nT : ¬ (10 ≤ x ∧ x < 10 + w.1 0) := fun q => by first | exact Int32.not_lt.mpr q.1 (by first | exact c3 | exact Int32.not_le.mp c3) | exact absurd q.2 (by rw [w0]; first | exact Int32.not_lt.mpr c17 | exact c17)
        rw [if_neg nT, if_neg w34_0, if_neg w34_1, if_neg w34_2, if_neg w34_3, if_neg w34_4, if_neg w34_5, if_pos w34_6] at h
        exact h mi ml D (HI.refl _ _) hc
      refine R_tswO (tgt := 138) dX8_told_34 (by have w34_0' := lv_neT (a := 0) w34_0 rfl; have w34_1' := lv_neT (a := 1) w34_1 rfl; have w34_2' := lv_neT (a := 2) w34_2 rfl; have w34_3' := lv_neT (a := 3) w34_3 rfl; have w34_4' := lv_neT (a := 4) w34_4 rfl; have w34_5' := lv_neT (a := 5) w34_5 rfl; have w34_6' := lv_neT (a := 6) w34_6 rfl; omega) (by decide) ?_
      refine R_iconst (v := -1) dX8_told_138 (by decide) ?_
      refine R_ireturn dX8_told_139 ⟨_, rfl, rfl⟩ ?_
      unfold toldA at h
      have nT : ¬ (10 ≤ x ∧ x < 10 + w.1 0) := fun q => by first | exact Int32.not_lt.mpr q.1 (by first | exact c3 | exact Int32.not_le.mp c3) | exact absurd q.2 (by rw [w0]; first | exact Int32.not_lt.mpr c17 | exact c17)
      rw [if_neg nT, if_neg w34_0, if_neg w34_1, if_neg w34_2, if_neg w34_3, if_neg w34_4, if_neg w34_5, if_neg w34_6] at h
      exact h mi ml D (HI.refl _ _) hc
    · have cT : 10 ≤ x ∧ x < 10 + w.1 0 := ⟨by first | exact c3 | exact Int32.not_lt.mp c3, by rw [w0]; first | exact c17 | exact Int32.not_le.mp c17⟩
      obtain ⟨i, hiN, exi, ex10⟩ := sub_of (k := 10) (P := N) (by omega) (by omega) cT.1 (by have q := cT.2; rw [w0, hg] at q; exact (show (10 : Int32) + nI N = nI (10 + N) from sm_add 10 N) ▸ q)
      have hi6 : i < 6 := by omega
      refine al_0 dX8_told_20 ?_
      refine R_getfr (r := 2) dX8_told_21 fl_RX8_12 rfl sh_1 (Nat.le_of_ble_eq_true rfl) rf_1_0 ?_
      refine R_getfr (r := 3) dX8_told_24 fl_RX8_182 rfl sh_2 (Nat.le_of_ble_eq_true rfl) rf_2_0 ?_
      refine il_1 dX8_told_27 ?_
      refine R_bipush (v := 10) dX8_told_28 (by decide) ?_
      refine R_isub dX8_told_30 ?_
      refine R_iald dX8_told_31 sh_3 (Nat.le_of_ble_eq_true rfl) (rn_ixe ex10) hi6 ?_
      refine R_ireturn dX8_told_32 ⟨_, rfl, rfl⟩ ?_
      unfold toldA at h
      rw [if_pos cT] at h
      refine ret_eq (h mi ml D (HI.refl _ _) hc) rfl ?_
      show mi 3 i = w.2.1 (nn (x - nI 10))
      rw [ex10, nnI (by omega), ← hwc]
      show mi 3 i = if i < nn (mi 2 4) then mi 3 i else 0
      rw [if_pos (by rw [hg, nnI (by omega)]; exact hiN)]

set_option maxHeartbeats 4000000 in
theorem KC_of {G : rn_G} {d : Nat} {κ : Nat × Nat} {Q : Option Value → rn_S → Prop} {mi : Nat → Nat → Int32} {ml : Nat → Nat → Int64} {D : Nat → Nat} {x y : Int32} {w : WD} {c k : Nat} {ds : Nat → CL} {sl : SL} {el bl : EL} {im : IM} {T : Nat → Nat} {L : Nat} {ac : List Int32} {tp : TP} (hv : IV w c k ds sl el bl im ac tp) (hc : CR w c k ds sl el bl im T L ac tp mi ml D) (h : ∀ m l D', HI mi m ml l → CR w c k ds sl el bl im T L ac tp m l D' → Q (some (.int (ofA (cuL ds c) w x y))) (m, l, RF D', 164))  : Call G (d + 30) M_X8_of [.ref 1, .int x, .int y] (mi, ml, RF D, 164) κ Q := by
  show Run G _ M_X8_of 0 [.ref 1, .int x, .int y, .null] [] _ _ _
  have hw := hv.1.1
  have hk6 := hv.2.2.1
  have hck := hv.2.1
  have hB : PB 2 := Or.inl rfl
  obtain ⟨hD2, hwc, z12, z13, z14⟩ := hc.1
  obtain ⟨cp1, cp2, cp3, cp4⟩ := cuA_pd (c := c) (by omega)
  have hkD : PD (D 2) := by rw [hD2]; exact cp1
  obtain ⟨N, P, R, hN, hP, hR, hg, hpp, hrr, hPJ⟩ := hc.1.n hw
  obtain ⟨w0, w1, w2, w3, w4, w5, w6⟩ := hc.1.cells
  have hdc : DC mi (D 2) (cuL ds c) := by rw [hD2]; exact hc.dc hck
  have w10 : w.1 10 = mi (cuA c) 2 := by rw [← hwc]; rfl
  obtain ⟨mn, hmn1, hmn2⟩ : ∃ a, a ≤ 9999 ∧ mi 2 10 = nI a := by
    obtain ⟨_, _, _, _, _, _, _, _, _, _, ⟨a, ha, e⟩, _⟩ := hw
    exact ⟨a, ha, w6.symm.trans e⟩
  have hmin : ∃ m, mi 2 10 = nI m ∧ m < 2 ^ 31 := ⟨mn, hmn2, by omega⟩
  refine al_0 dX8_of_0 ?_
  refine R_getfr (r := 2) dX8_of_1 fl_RX8_12 rfl sh_1 (Nat.le_of_ble_eq_true rfl) rf_1_0 ?_
  refine il_1 dX8_of_4 ?_
  refine cv_1 dX8_of_5 mm_RX8_93 sh_2 (Nat.le_of_ble_eq_true rfl) ⟨_, rfl, rfl⟩ (Nat.le_of_ble_eq_true rfl) (Nat.le_of_ble_eq_true rfl) (K_hasPerson hB (fun c5 => ?_) (fun c5 => ?_))
  · refine R_if_ne (tgt := 15) dX8_of_8 (by decide) (fun _ => ?_) (fun q => absurd q (by decide))
    obtain ⟨i, hiP, hx⟩ := sm_of c5.1 (by rw [← hpp]; exact c5.2) (by omega)
    have hi6 : i < 6 := by omega
    have hnx : nn x = i := by rw [hx]; exact nnI (by omega)
    have hPi : w.2.2.2 i = pC mi (2 + 7 + 2 * i) := hc.1.per hpp hP hiP
    have cp : 0 ≤ x ∧ x < w.1 2 := by rw [w2]; exact c5
    have hpq : PQ (2 + 7 + 2 * i) := pb_q hB hi6
    obtain ⟨-, -, -, -, hb4, hb5, -⟩ := hPJ i hiP
    rw [hPi] at hb4 hb5
    have hb4 : bz (mi (2 + 7 + 2 * i) 4) := hb4
    have hb5 : bz (mi (2 + 7 + 2 * i) 5) := hb5
    refine al_0 dX8_of_15 ?_
    refine R_getfr (r := 2) dX8_of_16 fl_RX8_12 rfl sh_1 (Nat.le_of_ble_eq_true rfl) rf_1_0 ?_
    refine R_getfr (r := 4) dX8_of_19 fl_RX8_96 rfl sh_2 (Nat.le_of_ble_eq_true rfl) rf_2_1 ?_
    refine il_1 dX8_of_22 ?_
    refine R_aald (t := 4) (r := (2 + 7 + 2 * i)) dX8_of_23 (by decide) sh_4 (Nat.le_of_ble_eq_true rfl) (rn_ixe hx) hi6 (pb_rq (b := 2) hB hi6) ?_
    refine as_3 dX8_of_24 rfl ?_
    refine il_2 dX8_of_25 ?_
    by_cases w26_0 : y = 0
    · refine R_tswI (tgt := 80) dX8_of_26 0 w26_0 (by decide) (by decide) rfl (by decide) ?_
      refine al_3 dX8_of_80 ?_
      refine R_getfi dX8_of_81 fl_RX8_100 rfl (pq_s0 hpq) (show (2 + 7 + 2 * i) < 164 by have := pq_n hpq; omega) ?_
      refine R_ireturn dX8_of_84 ⟨_, rfl, rfl⟩ ?_
      unfold ofA at h
      rw [if_pos cp, if_pos w26_0, hnx, hPi] at h
      exact h mi ml D (HI.refl _ _) hc
    by_cases w26_1 : y = 1
    · refine R_tswI (tgt := 85) dX8_of_26 1 w26_1 (by decide) (by decide) rfl (by decide) ?_
      refine al_3 dX8_of_85 ?_
      refine R_getfi dX8_of_86 fl_RX8_105 rfl (pq_s0 hpq) (show (2 + 7 + 2 * i) < 164 by have := pq_n hpq; omega) ?_
      refine R_ireturn dX8_of_89 ⟨_, rfl, rfl⟩ ?_
      unfold ofA at h
      rw [if_pos cp, if_neg w26_0, if_pos w26_1, hnx, hPi] at h
      exact h mi ml D (HI.refl _ _) hc
    by_cases w26_2 : y = 2
    · refine R_tswI (tgt := 90) dX8_of_26 2 w26_2 (by decide) (by decide) rfl (by decide) ?_
      refine al_3 dX8_of_90 ?_
      refine R_getfi dX8_of_91 fl_RX8_108 rfl (pq_s0 hpq) (show (2 + 7 + 2 * i) < 164 by have := pq_n hpq; omega) ?_
      refine R_ireturn dX8_of_94 ⟨_, rfl, rfl⟩ ?_
      unfold ofA at h
      rw [if_pos cp, if_neg w26_0, if_neg w26_1, if_pos w26_2, hnx, hPi] at h
      exact h mi ml D (HI.refl _ _) hc
    by_cases w26_3 : y = 3
    · refine R_tswI (tgt := 95) dX8_of_26 3 w26_3 (by decide) (by decide) rfl (by decide) ?_
      refine al_3 dX8_of_95 ?_
      refine R_getfi dX8_of_96 fl_RX8_111 rfl (pq_s0 hpq) (show (2 + 7 + 2 * i) < 164 by have := pq_n hpq; omega) ?_
      refine cs_1 dX8_of_99 mm_RX8_115 (Nat.le_of_ble_eq_true rfl) (Nat.le_of_ble_eq_true rfl) (K_bit ?_)
      refine R_ireturn dX8_of_102 ⟨_, rfl, rfl⟩ ?_
      unfold ofA at h
      rw [if_pos cp, if_neg w26_0, if_neg w26_1, if_neg w26_2, if_pos w26_3, hnx, hPi] at h
      refine ret_eq (h mi ml D (HI.refl _ _) hc) rfl ?_
      show (if mi (2 + 7 + 2 * i) 4 = 0 then (0 : Int32) else 1) = mi (2 + 7 + 2 * i) 4
      rcases hb4 with e | e <;> rw [e] <;> rfl
    by_cases w26_4 : y = 4
    · refine R_tswI (tgt := 103) dX8_of_26 4 w26_4 (by decide) (by decide) rfl (by decide) ?_
      refine al_3 dX8_of_103 ?_
      refine R_getfi dX8_of_104 fl_RX8_119 rfl (pq_s0 hpq) (show (2 + 7 + 2 * i) < 164 by have := pq_n hpq; omega) ?_
      refine R_ireturn dX8_of_107 ⟨_, rfl, rfl⟩ ?_
      unfold ofA at h
      rw [if_pos cp, if_neg w26_0, if_neg w26_1, if_neg w26_2, if_neg w26_3, if_pos w26_4, hnx, hPi] at h
      exact h mi ml D (HI.refl _ _) hc
    by_cases w26_5 : y = 5
    · refine R_tswI (tgt := 108) dX8_of_26 5 w26_5 (by decide) (by decide) rfl (by decide) ?_
      refine al_3 dX8_of_108 ?_
      refine R_getfi dX8_of_109 fl_RX8_122 rfl (pq_s0 hpq) (show (2 + 7 + 2 * i) < 164 by have := pq_n hpq; omega) ?_
      refine cs_1 dX8_of_112 mm_RX8_115 (Nat.le_of_ble_eq_true rfl) (Nat.le_of_ble_eq_true rfl) (K_bit ?_)
      refine R_ireturn dX8_of_115 ⟨_, rfl, rfl⟩ ?_
      unfold ofA at h
      rw [if_pos cp, if_neg w26_0, if_neg w26_1, if_neg w26_2, if_neg w26_3, if_neg w26_4, if_pos w26_5, hnx, hPi] at h
      refine ret_eq (h mi ml D (HI.refl _ _) hc) rfl ?_
      show (if mi (2 + 7 + 2 * i) 5 = 0 then (0 : Int32) else 1) = mi (2 + 7 + 2 * i) 5
      rcases hb5 with e | e <;> rw [e] <;> rfl
    by_cases w26_6 : y = 6
    · refine R_tswI (tgt := 116) dX8_of_26 6 w26_6 (by decide) (by decide) rfl (by decide) ?_
      refine al_0 dX8_of_116 ?_
      refine R_getfr (r := 2) dX8_of_117 fl_RX8_12 rfl sh_1 (Nat.le_of_ble_eq_true rfl) rf_1_0 ?_
      refine il_1 dX8_of_120 ?_
      refine cv_1 dX8_of_121 mm_RX8_125 sh_2 (Nat.le_of_ble_eq_true rfl) ⟨_, rfl, rfl⟩ (Nat.le_of_ble_eq_true rfl) (Nat.le_of_ble_eq_true rfl) (K_ears hB hi6 hx hkD hdc.dki (fun m5 hm5 => ?_))
      refine R_ireturn dX8_of_124 ⟨_, rfl, rfl⟩ ?_
      unfold ofA at h
      rw [if_pos cp, if_neg w26_0, if_neg w26_1, if_neg w26_2, if_neg w26_3, if_neg w26_4, if_neg w26_5, if_pos w26_6, hnx, hPi] at h
      rw [w6] at h
      rw [hdc.er]
      exact h m5 ml D (hi_of (fun a ha => hm5 a (by omega))) (hc.cn hv ⟨fun a _ a2 _ => hm5 a a2, rfl, rfl, rfl, hc.2.2.2.2.2.2.2.2.2.1⟩ (fun a _ => rfl))
    by_cases w26_7 : y = 7
    · refine R_tswI (tgt := 125) dX8_of_26 7 w26_7 (by decide) (by decide) rfl (by decide) ?_
      refine al_0 dX8_of_125 ?_
      refine R_getfr (r := 2) dX8_of_126 fl_RX8_12 rfl sh_1 (Nat.le_of_ble_eq_true rfl) rf_1_0 ?_
      refine il_1 dX8_of_129 ?_
      refine cv_1 dX8_of_130 mm_RX8_128 sh_2 (Nat.le_of_ble_eq_true rfl) ⟨_, rfl, rfl⟩ (Nat.le_of_ble_eq_true rfl) (Nat.le_of_ble_eq_true rfl) (K_hears hB hi6 hx hkD hdc.dki (fun m5 hm5 c140 => ?_) (fun m5 hm5 c140 => ?_))
      · refine cs_1 dX8_of_133 mm_RX8_115 (Nat.le_of_ble_eq_true rfl) (Nat.le_of_ble_eq_true rfl) (K_bit ?_)
        rw [if_neg (show ¬ (1 : Int32) = 0 by decide)]
        refine R_ireturn dX8_of_136 ⟨_, rfl, rfl⟩ ?_
        unfold ofA at h
        rw [if_pos cp, if_neg w26_0, if_neg w26_1, if_neg w26_2, if_neg w26_3, if_neg w26_4, if_neg w26_5, if_neg w26_6, if_pos w26_7, hnx, hPi] at h
        rw [w6, w3, w10, show pC mi (2 + 7 + 2 * i) 0 = mi (2 + 7 + 2 * i) 0 from rfl, show pC mi (2 + 7 + 2 * i) 1 = mi (2 + 7 + 2 * i) 1 from rfl, show pC mi (2 + 7 + 2 * i) 2 = mi (2 + 7 + 2 * i) 2 from rfl, show pC mi (2 + 7 + 2 * i) 3 = mi (2 + 7 + 2 * i) 3 from rfl] at h
        rw [hdc.er, hD2] at c140
        first
          | (rw [if_pos c140] at h; exact h m5 ml D (hi_of (fun a ha => hm5 a (by omega))) (hc.cn hv ⟨fun a _ a2 _ => hm5 a a2, rfl, rfl, rfl, hc.2.2.2.2.2.2.2.2.2.1⟩ (fun a _ => rfl)))
          | (rw [if_neg c140] at h; exact h m5 ml D (hi_of (fun a ha => hm5 a (by omega))) (hc.cn hv ⟨fun a _ a2 _ => hm5 a a2, rfl, rfl, rfl, hc.2.2.2.2.2.2.2.2.2.1⟩ (fun a _ => rfl)))
      · refine cs_1 dX8_of_133 mm_RX8_115 (Nat.le_of_ble_eq_true rfl) (Nat.le_of_ble_eq_true rfl) (K_bit ?_)
        rw [if_pos rfl]
        refine R_ireturn dX8_of_136 ⟨_, rfl, rfl⟩ ?_
        unfold ofA at h
        rw [if_pos cp, if_neg w26_0, if_neg w26_1, if_neg w26_2, if_neg w26_3, if_neg w26_4, if_neg w26_5, if_neg w26_6, if_pos w26_7, hnx, hPi] at h
        rw [w6, w3, w10, show pC mi (2 + 7 + 2 * i) 0 = mi (2 + 7 + 2 * i) 0 from rfl, show pC mi (2 + 7 + 2 * i) 1 = mi (2 + 7 + 2 * i) 1 from rfl, show pC mi (2 + 7 + 2 * i) 2 = mi (2 + 7 + 2 * i) 2 from rfl, show pC mi (2 + 7 + 2 * i) 3 = mi (2 + 7 + 2 * i) 3 from rfl] at h
        rw [hdc.er, hD2] at c140
        first
          | (rw [if_pos c140] at h; exact h m5 ml D (hi_of (fun a ha => hm5 a (by omega))) (hc.cn hv ⟨fun a _ a2 _ => hm5 a a2, rfl, rfl, rfl, hc.2.2.2.2.2.2.2.2.2.1⟩ (fun a _ => rfl)))
          | (rw [if_neg c140] at h; exact h m5 ml D (hi_of (fun a ha => hm5 a (by omega))) (hc.cn hv ⟨fun a _ a2 _ => hm5 a a2, rfl, rfl, rfl, hc.2.2.2.2.2.2.2.2.2.1⟩ (fun a _ => rfl)))
    by_cases w26_8 : y = 8
    · refine R_tswI (tgt := 137) dX8_of_26 8 w26_8 (by decide) (by decide) rfl (by decide) ?_
      refine al_0 dX8_of_137 ?_
      refine R_getfr (r := 2) dX8_of_138 fl_RX8_12 rfl sh_1 (Nat.le_of_ble_eq_true rfl) rf_1_0 ?_
      refine al_3 dX8_of_141 ?_
      refine cv_1 dX8_of_142 mm_RX8_131 sh_2 (Nat.le_of_ble_eq_true rfl) ⟨_, rfl, rfl⟩ (Nat.le_of_ble_eq_true rfl) (Nat.le_of_ble_eq_true rfl) (K_steps hB hpq hmin ?_)
      refine R_ireturn dX8_of_145 ⟨_, rfl, rfl⟩ ?_
      unfold ofA at h
      rw [if_pos cp, if_neg w26_0, if_neg w26_1, if_neg w26_2, if_neg w26_3, if_neg w26_4, if_neg w26_5, if_neg w26_6, if_neg w26_7, if_pos w26_8, hnx, hPi] at h
      rw [w6] at h
      refine ret_eq (h mi ml D (HI.refl _ _) hc) rfl ?_
      have e4 : nn (remJ (mi 2 10) 4) < 4 := by rw [hmn2, show (4 : Int32) = nI 4 from rfl, sm_rem (by omega) (by decide), nnI (by omega)]; exact Nat.mod_lt _ (by decide)
      have e5 : pC mi (2 + 7 + 2 * i) (6 + nn (remJ (mi 2 10) 4)) = mi (2 + 7 + 2 * i + 1) (nn (remJ (mi 2 10) 4)) := by
        unfold pC
        rw [if_neg (by omega), if_pos (by omega), Nat.add_sub_cancel_left]
      rw [e5]
      rfl
    by_cases w26_9 : y = 9
    · refine R_tswI (tgt := 146) dX8_of_26 9 w26_9 (by decide) (by decide) rfl (by decide) ?_
      refine al_0 dX8_of_146 ?_
      refine R_getfr (r := 2) dX8_of_147 fl_RX8_12 rfl sh_1 (Nat.le_of_ble_eq_true rfl) rf_1_0 ?_
      refine al_3 dX8_of_150 ?_
      refine cv_1 dX8_of_151 mm_RX8_135 sh_2 (Nat.le_of_ble_eq_true rfl) ⟨_, rfl, rfl⟩ (Nat.le_of_ble_eq_true rfl) (Nat.le_of_ble_eq_true rfl) (K_goal hB hpq hg hN ?_)
      refine R_ireturn dX8_of_154 ⟨_, rfl, rfl⟩ ?_
      unfold ofA at h
      rw [if_pos cp, if_neg w26_0, if_neg w26_1, if_neg w26_2, if_neg w26_3, if_neg w26_4, if_neg w26_5, if_neg w26_6, if_neg w26_7, if_neg w26_8, if_pos w26_9, hnx, hPi] at h
      refine ret_eq (h mi ml D (HI.refl _ _) hc) rfl ?_
      have nN : nn (w.1 0) = N := by rw [w0, hg]; exact nnI (by omega)
      rw [nN, w3]
      refine goalF_congr N 0 (-5) 0 (fun j _ hj => ?_)
      rw [← hwc]
      show mi (2 + 1) j = if j < nn (mi 2 4) then mi (2 + 1) j else 0
      rw [if_pos (by rw [hg, nnI (by omega)]; omega)]
    refine R_tswO (tgt := 155) dX8_of_26 (by have w26_0' := lv_neT (a := 0) w26_0 rfl; have w26_1' := lv_neT (a := 1) w26_1 rfl; have w26_2' := lv_neT (a := 2) w26_2 rfl; have w26_3' := lv_neT (a := 3) w26_3 rfl; have w26_4' := lv_neT (a := 4) w26_4 rfl; have w26_5' := lv_neT (a := 5) w26_5 rfl; have w26_6' := lv_neT (a := 6) w26_6 rfl; have w26_7' := lv_neT (a := 7) w26_7 rfl; have w26_8' := lv_neT (a := 8) w26_8 rfl; have w26_9' := lv_neT (a := 9) w26_9 rfl; omega) (by decide) ?_
    refine R_sipush (v := -1001) dX8_of_155 (by decide) ?_
    refine R_ireturn dX8_of_158 ⟨_, rfl, rfl⟩ ?_
    have eA : ofA (cuL ds c) w x y = -1001 := by unfold ofA; rw [if_pos cp, if_neg w26_0, if_neg w26_1, if_neg w26_2, if_neg w26_3, if_neg w26_4, if_neg w26_5, if_neg w26_6, if_neg w26_7, if_neg w26_8, if_neg w26_9]
    rw [eA] at h
    exact h mi ml D (HI.refl _ _) hc
  · refine R_if_ne (tgt := 15) dX8_of_8 (by decide) (fun q => absurd q (by decide)) (fun _ => ?_)
    refine R_sipush (v := -1001) dX8_of_11 (by decide) ?_
    refine R_ireturn dX8_of_14 ⟨_, rfl, rfl⟩ ?_
    have eA : ofA (cuL ds c) w x y = -1001 := by unfold ofA; rw [if_neg (by rw [w2]; exact c5)]
    rw [eA] at h
    exact h mi ml D (HI.refl _ _) hc

theorem mins_2 {er : (Nat → Int32) → Int32} : ∀ (n : Nat) (w : WD), (minsW er n w).1 2 = w.1 2
  | 0, w => rfl
  | n + 1, w => by
    refine (mins_2 n (minuteW er w)).trans ?_
    show (if (2 : Nat) = 6 then w.1 6 + 1 else roundF w.1 w.2.1 w.2.2.1 2) = w.1 2
    rw [if_neg (by decide)]
    unfold roundF
    split
    · rw [if_neg (by decide)]
    · split
      · split
        · rw [if_neg (by decide), if_neg (by decide), if_neg (by decide)]
        · rw [if_neg (by decide)]
      · rfl
theorem hp_iff {P k : Nat} (hP : P ≤ 6) (hk : k ≤ 20) {x : Int32} (hx : nI k ≤ x) : (0 ≤ x - nI k ∧ x - nI k < nI P) ↔ x < nI (k + P) := by
  constructor
  · intro ⟨a, b⟩
    obtain ⟨i, hi, e⟩ := sm_of a b (by omega)
    have : x = nI (i + k) := by rw [← sm_add, ← e]; exact (Int32.sub_add_cancel x (nI k)).symm
    rw [this]
    exact (sm_lt_iff (by omega) (by omega)).mpr (by omega)
  · intro q
    obtain ⟨i, hi, e, e2⟩ := sub_of (by omega) hP hx q
    rw [e2]
    exact ⟨Int32.not_lt.mp (nI_pos (by omega)), (sm_lt_iff (by omega) (by omega)).mpr hi⟩

set_option maxHeartbeats 4000000 in
theorem KC_on {G : rn_G} {d : Nat} {κ : Nat × Nat} {Q : Option Value → rn_S → Prop} {mi : Nat → Nat → Int32} {ml : Nat → Nat → Int64} {D : Nat → Nat} {z x : Int32} {w : WD} {c k : Nat} {ds : Nat → CL} {sl : SL} {el bl : EL} {im : IM} {T : Nat → Nat} {L : Nat} {ac : List Int32} {tp : TP} (hv : IV w c k ds sl el bl im ac tp) (hc : CR w c k ds sl el bl im T L ac tp mi ml D) (h : ∀ m l D', HI mi m ml l → CR w c k ds sl el bl im T L ac tp m l D' → Q (some (.int (onA (erA (cuL ds c)) w z x))) (m, l, RF D', 164))  : Call G (d + 30) M_X8_on [.ref 1, .int z, .int x] (mi, ml, RF D, 164) κ Q := by
  show Run G _ M_X8_on 0 [.ref 1, .int z, .int x, .null, .null] [] _ _ _
  have hw := hv.1.1
  have hk6 := hv.2.2.1
  have hck := hv.2.1
  have hB : PB 2 := Or.inl rfl
  obtain ⟨hD2, hwc, z12, z13, z14⟩ := hc.1
  obtain ⟨cp1, cp2, cp3, cp4⟩ := cuA_pd (c := c) (by omega)
  have hkD : PD (D 2) := by rw [hD2]; exact cp1
  obtain ⟨N, P, R, hN, hP, hR, hg, hpp, hrr, hPJ⟩ := hc.1.n hw
  obtain ⟨w0, w1, w2, w3, w4, w5, w6⟩ := hc.1.cells
  have nP : nn (w.1 2) = P := by rw [w2, hpp]; exact nnI (by omega)
  refine il_2 dX8_on_0 ?_
  refine R_bipush (v := 10) dX8_on_1 (by decide) ?_
  refine R_icmp_lt (tgt := 24) dX8_on_3 (by decide) (fun c3 => ?_) (fun c3 => ?_)
  · refine R_iconst (v := 0) dX8_on_24 (by decide) ?_
    refine is_3 dX8_on_25 rfl ?_
    refine il_2 dX8_on_26 ?_
    refine R_bipush (v := 20) dX8_on_27 (by decide) ?_
    refine R_icmp_lt (tgt := 50) dX8_on_29 (by decide) (fun c29 => ?_) (fun c29 => ?_)
    · refine R_iconst (v := 0) dX8_on_50 (by decide) ?_
      refine is_4 dX8_on_51 rfl ?_
      refine il_3 dX8_on_53 ?_
      refine R_if_ne (tgt := 73) dX8_on_54 (by decide) (fun q => absurd q (by decide)) (fun _ => ?_)
      refine il_4 dX8_on_57 ?_
      refine R_if_ne (tgt := 73) dX8_on_59 (by decide) (fun q => absurd q (by decide)) (fun _ => ?_)
      refine il_2 dX8_on_62 ?_
      refine R_if_lt (tgt := 71) dX8_on_63 (by decide) (fun c63 => ?_) (fun c63 => ?_)
      · refine R_iconst (v := -1) dX8_on_71 (by decide) ?_
        refine R_ireturn dX8_on_72 ⟨_, rfl, rfl⟩ ?_
        unfold onA at h
        rw [nP, if_neg (fun q => q.elim (fun q => by first | exact Int32.not_lt.mpr q.1 (by first | exact c63 | exact Int32.not_le.mp c63) | exact Int32.not_lt.mpr q.2 (by first | exact c68 | exact Int32.not_le.mp c68)) (fun q => q.elim (show ¬ (10 ≤ x ∧ x < nI (10 + P)) from fun q => by first | exact Int32.not_lt.mpr q.1 (by first | exact c3 | exact Int32.not_le.mp c3) | exact c14 (by rw [hpp]; exact (hp_iff hP (by decide) (k := 10) q.1).mpr q.2)) (show ¬ (20 ≤ x ∧ x < nI (20 + P)) from fun q => by first | exact Int32.not_lt.mpr q.1 (by first | exact c29 | exact Int32.not_le.mp c29) | exact c40 (by rw [hpp]; exact (hp_iff hP (by decide) (k := 20) q.1).mpr q.2))))] at h
        exact h mi ml D (HI.refl _ _) hc
      · refine il_2 dX8_on_66 ?_
        refine R_iconst (v := 2) dX8_on_67 (by decide) ?_
        refine R_icmp_le (tgt := 73) dX8_on_68 (by decide) (fun c68 => ?_) (fun c68 => ?_)
        · have onx : ((0 ≤ x ∧ x ≤ 2) ∨ (10 ≤ x ∧ x < nI (10 + P)) ∨ (20 ≤ x ∧ x < nI (20 + P))) := by
            first
            | exact Or.inr (Or.inl ⟨(by first | exact c3 | exact Int32.not_lt.mp c3), (hp_iff hP (by decide) (k := 10) (by first | exact c3 | exact Int32.not_lt.mp c3)).mp (by rw [← hpp]; exact c14)⟩)
            | exact Or.inr (Or.inr ⟨(by first | exact c29 | exact Int32.not_lt.mp c29), (hp_iff hP (by decide) (k := 20) (by first | exact c29 | exact Int32.not_lt.mp c29)).mp (by rw [← hpp]; exact c40)⟩)
            | exact Or.inl ⟨by first | exact c63 | exact Int32.not_lt.mp c63, by first | exact c68 | exact Int32.not_lt.mp c68⟩
          refine il_1 dX8_on_73 ?_
          refine R_if_lt (tgt := 83) dX8_on_74 (by decide) (fun c74 => ?_) (fun c74 => ?_)
          · refine R_bipush (v := -2) dX8_on_83 (by decide) ?_
            refine R_ireturn dX8_on_85 ⟨_, rfl, rfl⟩ ?_
            unfold onA at h
            rw [nP, if_pos onx, if_neg (fun q => by first | exact Int32.not_lt.mpr q.1 (by first | exact c74 | exact Int32.not_le.mp c74) | exact Int32.not_lt.mpr q.2 (by first | exact c80 | exact Int32.not_le.mp c80))] at h
            exact h mi ml D (HI.refl _ _) hc
          · refine il_1 dX8_on_77 ?_
            refine R_bipush (v := 99) dX8_on_78 (by decide) ?_
            refine R_icmp_le (tgt := 86) dX8_on_80 (by decide) (fun c80 => ?_) (fun c80 => ?_)
            · have cz : 0 ≤ z ∧ z ≤ 99 := ⟨by first | exact c74 | exact Int32.not_lt.mp c74, by first | exact c80 | exact Int32.not_lt.mp c80⟩
              obtain ⟨n, hn, hz⟩ := sm_of cz.1 ((lt_succ_iff (a := 99)).mpr cz.2) (by decide)
              refine al_0 dX8_on_86 ?_
              refine R_getfr (r := 21) dX8_on_87 fl_RX8_18 rfl sh_1 (Nat.le_of_ble_eq_true rfl) rf_1_1 ?_
              refine al_0 dX8_on_90 ?_
              refine R_getfr (r := 2) dX8_on_91 fl_RX8_12 rfl sh_1 (Nat.le_of_ble_eq_true rfl) rf_1_0 ?_
              refine cv_1 dX8_on_94 mm_RX8_210 sh_21 (Nat.le_of_ble_eq_true rfl) ⟨_, rfl, rfl⟩ (Nat.le_of_ble_eq_true rfl) (Nat.le_of_ble_eq_true rfl) (K_trial hv hc (fun m1 D1 ht1 => ?_))
              refine al_0 dX8_on_97 ?_
              refine R_getfr (r := 21) dX8_on_98 fl_RX8_18 rfl sh_1 (Nat.le_of_ble_eq_true rfl) rf_1_1 ?_
              refine il_1 dX8_on_101 ?_
              refine cv_1 dX8_on_102 mm_RX8_207 sh_21 (Nat.le_of_ble_eq_true rfl) ⟨_, rfl, rfl⟩ (Nat.le_of_ble_eq_true rfl) (Nat.le_of_ble_eq_true rfl) (K_tmins hv hc ht1 hz hw (by omega) (fun m2 ht2 => ?_))
              have hw2 := hw.mins (er := erA (cuL ds c)) n 9999 w (by omega)
              obtain ⟨P2, hP2, h26, v2⟩ := ht2.n hw2
              have hPP : P = P2 := by
                have q : m2 21 6 = mi 2 6 := by
                  have q1 : (minsW (erA (cuL ds c)) n w).1 2 = w.1 2 := mins_2 n w
                  rw [v2, w2, hpp] at q1
                  rw [h26, q1, hpp]
                exact sm_inj (by omega) (by omega) ((q.trans hpp).symm.trans h26)
              subst hPP
              refine il_3 dX8_on_105 ?_
              refine R_if_eq (tgt := 125) dX8_on_106 (by decide) (fun _ => ?_) (fun q => absurd q (by decide))
              refine il_4 dX8_on_125 ?_
              refine R_if_eq (tgt := 146) dX8_on_127 (by decide) (fun _ => ?_) (fun q => absurd q (by decide))
              refine il_2 dX8_on_146 ?_
              refine R_if_ne (tgt := 158) dX8_on_147 (by decide) (fun c147 => ?_) (fun c147 => ?_)
              · refine il_2 dX8_on_158 ?_
                refine R_iconst (v := 1) dX8_on_159 (by decide) ?_
                refine R_icmp_ne (tgt := 173) dX8_on_160 (by decide) (fun c160 => ?_) (fun c160 => ?_)
                · refine al_0 dX8_on_173 ?_
                  refine R_getfr (r := 21) dX8_on_174 fl_RX8_18 rfl sh_1 (Nat.le_of_ble_eq_true rfl) rf_1_1 ?_
                  refine R_getfi dX8_on_177 fl_RX8_194 rfl sh_21 (Nat.le_of_ble_eq_true rfl) ?_
                  refine R_ireturn dX8_on_180 ⟨_, rfl, rfl⟩ ?_
                  unfold onA at h
                  rw [nP, if_pos onx, if_pos cz, hz, nnI (by omega)] at h
                  refine ret_eq (h m2 ml D1 (ht2.hi ml) (ht2.cr hv hc)) rfl ?_
                  unfold onV
                  first
                    | (rw [if_pos c147])
                    | (rw [if_neg c147, if_pos c160, ← ht2.2.1]; rfl)
                    | (have low : 0 ≤ x ∧ x ≤ 2 := onx.resolve_right (fun q => q.elim (show ¬ (10 ≤ x ∧ x < nI (10 + P)) from fun q => by first | exact Int32.not_lt.mpr q.1 (by first | exact c3 | exact Int32.not_le.mp c3) | exact c14 (by rw [hpp]; exact (hp_iff hP (by decide) (k := 10) q.1).mpr q.2)) (show ¬ (20 ≤ x ∧ x < nI (20 + P)) from fun q => by first | exact Int32.not_lt.mpr q.1 (by first | exact c29 | exact Int32.not_le.mp c29) | exact c40 (by rw [hpp]; exact (hp_iff hP (by decide) (k := 20) q.1).mpr q.2))); have x2 : x = 2 := by
                         obtain ⟨n2, hn2, e⟩ := sm_of low.1 ((lt_succ_iff (a := 2)).mpr low.2) (by decide)
                         have : n2 = 0 ∨ n2 = 1 ∨ n2 = 2 := by omega
                         rcases this with r | r | r
                         · exact absurd (by rw [e, r]; rfl) c147
                         · exact absurd (by rw [e, r]; rfl) c160
                         · rw [e, r]; rfl
                       rw [if_neg c147, if_neg c160, if_pos x2, ← ht2.2.1]; rfl)
                · refine al_0 dX8_on_163 ?_
                  refine R_getfr (r := 21) dX8_on_164 fl_RX8_18 rfl sh_1 (Nat.le_of_ble_eq_true rfl) rf_1_1 ?_
                  refine R_getfi dX8_on_167 fl_RX8_200 rfl sh_21 (Nat.le_of_ble_eq_true rfl) ?_
                  refine R_goto (tgt := 180) dX8_on_170 (by decide) ?_
                  refine R_ireturn dX8_on_180 ⟨_, rfl, rfl⟩ ?_
                  unfold onA at h
                  rw [nP, if_pos onx, if_pos cz, hz, nnI (by omega)] at h
                  refine ret_eq (h m2 ml D1 (ht2.hi ml) (ht2.cr hv hc)) rfl ?_
                  unfold onV
                  first
                    | (rw [if_pos c147])
                    | (rw [if_neg c147, if_pos c160, ← ht2.2.1]; rfl)
                    | (have low : 0 ≤ x ∧ x ≤ 2 := onx.resolve_right (fun q => q.elim (show ¬ (10 ≤ x ∧ x < nI (10 + P)) from fun q => by first | exact Int32.not_lt.mpr q.1 (by first | exact c3 | exact Int32.not_le.mp c3) | exact c14 (by rw [hpp]; exact (hp_iff hP (by decide) (k := 10) q.1).mpr q.2)) (show ¬ (20 ≤ x ∧ x < nI (20 + P)) from fun q => by first | exact Int32.not_lt.mpr q.1 (by first | exact c29 | exact Int32.not_le.mp c29) | exact c40 (by rw [hpp]; exact (hp_iff hP (by decide) (k := 20) q.1).mpr q.2))); have x2 : x = 2 := by
                         obtain ⟨n2, hn2, e⟩ := sm_of low.1 ((lt_succ_iff (a := 2)).mpr low.2) (by decide)
                         have : n2 = 0 ∨ n2 = 1 ∨ n2 = 2 := by omega
                         rcases this with r | r | r
                         · exact absurd (by rw [e, r]; rfl) c147
                         · exact absurd (by rw [e, r]; rfl) c160
                         · rw [e, r]; rfl
                       rw [if_neg c147, if_neg c160, if_pos x2, ← ht2.2.1]; rfl)
              · refine al_0 dX8_on_150 ?_
                refine R_getfr (r := 21) dX8_on_151 fl_RX8_18 rfl sh_1 (Nat.le_of_ble_eq_true rfl) rf_1_1 ?_
                refine cv_0 dX8_on_154 mm_RX8_203 sh_21 (Nat.le_of_ble_eq_true rfl) ⟨_, rfl, rfl⟩ (Nat.le_of_ble_eq_true rfl) (Nat.le_of_ble_eq_true rfl) (K_tout hv hc ht2 hw2 ?_)
                refine R_ireturn dX8_on_157 ⟨_, rfl, rfl⟩ ?_
                unfold onA at h
                rw [nP, if_pos onx, if_pos cz, hz, nnI (by omega)] at h
                refine ret_eq (h m2 ml D1 (ht2.hi ml) (ht2.cr hv hc)) rfl ?_
                unfold onV
                first
                  | (rw [if_pos c147])
                  | (rw [if_neg c147, if_pos c160, ← ht2.2.1]; rfl)
                  | (have low : 0 ≤ x ∧ x ≤ 2 := onx.resolve_right (fun q => q.elim (show ¬ (10 ≤ x ∧ x < nI (10 + P)) from fun q => by first | exact Int32.not_lt.mpr q.1 (by first | exact c3 | exact Int32.not_le.mp c3) | exact c14 (by rw [hpp]; exact (hp_iff hP (by decide) (k := 10) q.1).mpr q.2)) (show ¬ (20 ≤ x ∧ x < nI (20 + P)) from fun q => by first | exact Int32.not_lt.mpr q.1 (by first | exact c29 | exact Int32.not_le.mp c29) | exact c40 (by rw [hpp]; exact (hp_iff hP (by decide) (k := 20) q.1).mpr q.2))); have x2 : x = 2 := by
                       obtain ⟨n2, hn2, e⟩ := sm_of low.1 ((lt_succ_iff (a := 2)).mpr low.2) (by decide)
                       have : n2 = 0 ∨ n2 = 1 ∨ n2 = 2 := by omega
                       rcases this with r | r | r
                       · exact absurd (by rw [e, r]; rfl) c147
                       · exact absurd (by rw [e, r]; rfl) c160
                       · rw [e, r]; rfl
                     rw [if_neg c147, if_neg c160, if_pos x2, ← ht2.2.1]; rfl)
            · refine R_bipush (v := -2) dX8_on_83 (by decide) ?_
              refine R_ireturn dX8_on_85 ⟨_, rfl, rfl⟩ ?_
              unfold onA at h
              rw [nP, if_pos onx, if_neg (fun q => by first | exact Int32.not_lt.mpr q.1 (by first | exact c74 | exact Int32.not_le.mp c74) | exact Int32.not_lt.mpr q.2 (by first | exact c80 | exact Int32.not_le.mp c80))] at h
              exact h mi ml D (HI.refl _ _) hc
        · refine R_iconst (v := -1) dX8_on_71 (by decide) ?_
          refine R_ireturn dX8_on_72 ⟨_, rfl, rfl⟩ ?_
          unfold onA at h
          rw [nP, if_neg (fun q => q.elim (fun q => by first | exact Int32.not_lt.mpr q.1 (by first | exact c63 | exact Int32.not_le.mp c63) | exact Int32.not_lt.mpr q.2 (by first | exact c68 | exact Int32.not_le.mp c68)) (fun q => q.elim (show ¬ (10 ≤ x ∧ x < nI (10 + P)) from fun q => by first | exact Int32.not_lt.mpr q.1 (by first | exact c3 | exact Int32.not_le.mp c3) | exact c14 (by rw [hpp]; exact (hp_iff hP (by decide) (k := 10) q.1).mpr q.2)) (show ¬ (20 ≤ x ∧ x < nI (20 + P)) from fun q => by first | exact Int32.not_lt.mpr q.1 (by first | exact c29 | exact Int32.not_le.mp c29) | exact c40 (by rw [hpp]; exact (hp_iff hP (by decide) (k := 20) q.1).mpr q.2))))] at h
          exact h mi ml D (HI.refl _ _) hc
    · refine al_0 dX8_on_32 ?_
      refine R_getfr (r := 2) dX8_on_33 fl_RX8_12 rfl sh_1 (Nat.le_of_ble_eq_true rfl) rf_1_0 ?_
      refine il_2 dX8_on_36 ?_
      refine R_bipush (v := 20) dX8_on_37 (by decide) ?_
      refine R_isub dX8_on_39 ?_
      refine cv_1 dX8_on_40 mm_RX8_93 sh_2 (Nat.le_of_ble_eq_true rfl) ⟨_, rfl, rfl⟩ (Nat.le_of_ble_eq_true rfl) (Nat.le_of_ble_eq_true rfl) (K_hasPerson hB (fun c40 => ?_) (fun c40 => ?_))
      · refine R_if_eq (tgt := 50) dX8_on_43 (by decide) (fun q => absurd q (by decide)) (fun _ => ?_)
        refine R_iconst (v := 1) dX8_on_46 (by decide) ?_
        refine R_goto (tgt := 51) dX8_on_47 (by decide) ?_
        refine is_4 dX8_on_51 rfl ?_
        refine il_3 dX8_on_53 ?_
        refine R_if_ne (tgt := 73) dX8_on_54 (by decide) (fun q => absurd q (by decide)) (fun _ => ?_)
        refine il_4 dX8_on_57 ?_
        refine R_if_ne (tgt := 73) dX8_on_59 (by decide) (fun _ => ?_) (fun q => absurd q (by decide))
        have onx : ((0 ≤ x ∧ x ≤ 2) ∨ (10 ≤ x ∧ x < nI (10 + P)) ∨ (20 ≤ x ∧ x < nI (20 + P))) := by
          first
          | exact Or.inr (Or.inl ⟨(by first | exact c3 | exact Int32.not_lt.mp c3), (hp_iff hP (by decide) (k := 10) (by first | exact c3 | exact Int32.not_lt.mp c3)).mp (by rw [← hpp]; exact c14)⟩)
          | exact Or.inr (Or.inr ⟨(by first | exact c29 | exact Int32.not_lt.mp c29), (hp_iff hP (by decide) (k := 20) (by first | exact c29 | exact Int32.not_lt.mp c29)).mp (by rw [← hpp]; exact c40)⟩)
          | exact Or.inl ⟨by first | exact c63 | exact Int32.not_lt.mp c63, by first | exact c68 | exact Int32.not_lt.mp c68⟩
        refine il_1 dX8_on_73 ?_
        refine R_if_lt (tgt := 83) dX8_on_74 (by decide) (fun c74 => ?_) (fun c74 => ?_)
        · refine R_bipush (v := -2) dX8_on_83 (by decide) ?_
          refine R_ireturn dX8_on_85 ⟨_, rfl, rfl⟩ ?_
          unfold onA at h
          rw [nP, if_pos onx, if_neg (fun q => by first | exact Int32.not_lt.mpr q.1 (by first | exact c74 | exact Int32.not_le.mp c74) | exact Int32.not_lt.mpr q.2 (by first | exact c80 | exact Int32.not_le.mp c80))] at h
          exact h mi ml D (HI.refl _ _) hc
        · refine il_1 dX8_on_77 ?_
          refine R_bipush (v := 99) dX8_on_78 (by decide) ?_
          refine R_icmp_le (tgt := 86) dX8_on_80 (by decide) (fun c80 => ?_) (fun c80 => ?_)
          · have cz : 0 ≤ z ∧ z ≤ 99 := ⟨by first | exact c74 | exact Int32.not_lt.mp c74, by first | exact c80 | exact Int32.not_lt.mp c80⟩
            obtain ⟨n, hn, hz⟩ := sm_of cz.1 ((lt_succ_iff (a := 99)).mpr cz.2) (by decide)
            refine al_0 dX8_on_86 ?_
            refine R_getfr (r := 21) dX8_on_87 fl_RX8_18 rfl sh_1 (Nat.le_of_ble_eq_true rfl) rf_1_1 ?_
            refine al_0 dX8_on_90 ?_
            refine R_getfr (r := 2) dX8_on_91 fl_RX8_12 rfl sh_1 (Nat.le_of_ble_eq_true rfl) rf_1_0 ?_
            refine cv_1 dX8_on_94 mm_RX8_210 sh_21 (Nat.le_of_ble_eq_true rfl) ⟨_, rfl, rfl⟩ (Nat.le_of_ble_eq_true rfl) (Nat.le_of_ble_eq_true rfl) (K_trial hv hc (fun m1 D1 ht1 => ?_))
            refine al_0 dX8_on_97 ?_
            refine R_getfr (r := 21) dX8_on_98 fl_RX8_18 rfl sh_1 (Nat.le_of_ble_eq_true rfl) rf_1_1 ?_
            refine il_1 dX8_on_101 ?_
            refine cv_1 dX8_on_102 mm_RX8_207 sh_21 (Nat.le_of_ble_eq_true rfl) ⟨_, rfl, rfl⟩ (Nat.le_of_ble_eq_true rfl) (Nat.le_of_ble_eq_true rfl) (K_tmins hv hc ht1 hz hw (by omega) (fun m2 ht2 => ?_))
            have hw2 := hw.mins (er := erA (cuL ds c)) n 9999 w (by omega)
            obtain ⟨P2, hP2, h26, v2⟩ := ht2.n hw2
            have hPP : P = P2 := by
              have q : m2 21 6 = mi 2 6 := by
                have q1 : (minsW (erA (cuL ds c)) n w).1 2 = w.1 2 := mins_2 n w
                rw [v2, w2, hpp] at q1
                rw [h26, q1, hpp]
              exact sm_inj (by omega) (by omega) ((q.trans hpp).symm.trans h26)
            subst hPP
            refine il_3 dX8_on_105 ?_
            refine R_if_eq (tgt := 125) dX8_on_106 (by decide) (fun _ => ?_) (fun q => absurd q (by decide))
            refine il_4 dX8_on_125 ?_
            refine R_if_eq (tgt := 146) dX8_on_127 (by decide) (fun q => absurd q (by decide)) (fun _ => ?_)
            obtain ⟨i, hiP, ei⟩ := sm_of c40.1 (by rw [← hpp]; exact c40.2) (by omega)
            have hi6 : i < 6 := by omega
            have htq : PQ (21 + 7 + 2 * i) := pb_q (Or.inr (Or.inl rfl)) hi6
            refine al_0 dX8_on_130 ?_
            refine R_getfr (r := 21) dX8_on_131 fl_RX8_18 rfl sh_1 (Nat.le_of_ble_eq_true rfl) rf_1_1 ?_
            refine R_getfr (r := 23) dX8_on_134 fl_RX8_96 rfl sh_21 (Nat.le_of_ble_eq_true rfl) rf_21_1 ?_
            refine il_2 dX8_on_137 ?_
            refine R_bipush (v := 20) dX8_on_138 (by decide) ?_
            refine R_isub dX8_on_140 ?_
            refine R_aald (t := 4) (r := (21 + 7 + 2 * i)) dX8_on_141 (by decide) sh_23 (Nat.le_of_ble_eq_true rfl) (rn_ixe ei) hi6 (pb_rq (b := 21) (Or.inr (Or.inl rfl)) hi6) ?_
            refine R_getfi dX8_on_142 fl_RX8_119 rfl (pq_s0 htq) (show (21 + 7 + 2 * i) < 164 by have := pq_n htq; omega) ?_
            refine R_ireturn dX8_on_145 ⟨_, rfl, rfl⟩ ?_
            unfold onA at h
            rw [nP, if_pos onx, if_pos cz, hz, nnI (by omega)] at h
            refine ret_eq (h m2 ml D1 (ht2.hi ml) (ht2.cr hv hc)) rfl ?_
            unfold onV
            have g1 : (20 : Int32) ≤ x := (by first | exact c29 | exact Int32.not_lt.mp c29)
            rw [if_neg (fun q => by rw [q] at g1; exact absurd g1 (by decide)), if_neg (fun q => by rw [q] at g1; exact absurd g1 (by decide)), if_neg (fun q => by rw [q] at g1; exact absurd g1 (by decide)), if_neg (Int32.not_lt.mpr g1), show x - 20 = nI i from ei, nnI (by omega), ht2.per (U := 0) h26 hP hiP]
            rfl
          · refine R_bipush (v := -2) dX8_on_83 (by decide) ?_
            refine R_ireturn dX8_on_85 ⟨_, rfl, rfl⟩ ?_
            unfold onA at h
            rw [nP, if_pos onx, if_neg (fun q => by first | exact Int32.not_lt.mpr q.1 (by first | exact c74 | exact Int32.not_le.mp c74) | exact Int32.not_lt.mpr q.2 (by first | exact c80 | exact Int32.not_le.mp c80))] at h
            exact h mi ml D (HI.refl _ _) hc
      · refine R_if_eq (tgt := 50) dX8_on_43 (by decide) (fun _ => ?_) (fun q => absurd q (by decide))
        refine R_iconst (v := 0) dX8_on_50 (by decide) ?_
        refine is_4 dX8_on_51 rfl ?_
        refine il_3 dX8_on_53 ?_
        refine R_if_ne (tgt := 73) dX8_on_54 (by decide) (fun q => absurd q (by decide)) (fun _ => ?_)
        refine il_4 dX8_on_57 ?_
        refine R_if_ne (tgt := 73) dX8_on_59 (by decide) (fun q => absurd q (by decide)) (fun _ => ?_)
        refine il_2 dX8_on_62 ?_
        refine R_if_lt (tgt := 71) dX8_on_63 (by decide) (fun c63 => ?_) (fun c63 => ?_)
        · refine R_iconst (v := -1) dX8_on_71 (by decide) ?_
          refine R_ireturn dX8_on_72 ⟨_, rfl, rfl⟩ ?_
          unfold onA at h
          rw [nP, if_neg (fun q => q.elim (fun q => by first | exact Int32.not_lt.mpr q.1 (by first | exact c63 | exact Int32.not_le.mp c63) | exact Int32.not_lt.mpr q.2 (by first | exact c68 | exact Int32.not_le.mp c68)) (fun q => q.elim (show ¬ (10 ≤ x ∧ x < nI (10 + P)) from fun q => by first | exact Int32.not_lt.mpr q.1 (by first | exact c3 | exact Int32.not_le.mp c3) | exact c14 (by rw [hpp]; exact (hp_iff hP (by decide) (k := 10) q.1).mpr q.2)) (show ¬ (20 ≤ x ∧ x < nI (20 + P)) from fun q => by first | exact Int32.not_lt.mpr q.1 (by first | exact c29 | exact Int32.not_le.mp c29) | exact c40 (by rw [hpp]; exact (hp_iff hP (by decide) (k := 20) q.1).mpr q.2))))] at h
          exact h mi ml D (HI.refl _ _) hc
        · refine il_2 dX8_on_66 ?_
          refine R_iconst (v := 2) dX8_on_67 (by decide) ?_
          refine R_icmp_le (tgt := 73) dX8_on_68 (by decide) (fun c68 => ?_) (fun c68 => ?_)
          · have onx : ((0 ≤ x ∧ x ≤ 2) ∨ (10 ≤ x ∧ x < nI (10 + P)) ∨ (20 ≤ x ∧ x < nI (20 + P))) := by
              first
              | exact Or.inr (Or.inl ⟨(by first | exact c3 | exact Int32.not_lt.mp c3), (hp_iff hP (by decide) (k := 10) (by first | exact c3 | exact Int32.not_lt.mp c3)).mp (by rw [← hpp]; exact c14)⟩)
              | exact Or.inr (Or.inr ⟨(by first | exact c29 | exact Int32.not_lt.mp c29), (hp_iff hP (by decide) (k := 20) (by first | exact c29 | exact Int32.not_lt.mp c29)).mp (by rw [← hpp]; exact c40)⟩)
              | exact Or.inl ⟨by first | exact c63 | exact Int32.not_lt.mp c63, by first | exact c68 | exact Int32.not_lt.mp c68⟩
            refine il_1 dX8_on_73 ?_
            refine R_if_lt (tgt := 83) dX8_on_74 (by decide) (fun c74 => ?_) (fun c74 => ?_)
            · refine R_bipush (v := -2) dX8_on_83 (by decide) ?_
              refine R_ireturn dX8_on_85 ⟨_, rfl, rfl⟩ ?_
              unfold onA at h
              rw [nP, if_pos onx, if_neg (fun q => by first | exact Int32.not_lt.mpr q.1 (by first | exact c74 | exact Int32.not_le.mp c74) | exact Int32.not_lt.mpr q.2 (by first | exact c80 | exact Int32.not_le.mp c80))] at h
              exact h mi ml D (HI.refl _ _) hc
            · refine il_1 dX8_on_77 ?_
              refine R_bipush (v := 99) dX8_on_78 (by decide) ?_
              refine R_icmp_le (tgt := 86) dX8_on_80 (by decide) (fun c80 => ?_) (fun c80 => ?_)
              · have cz : 0 ≤ z ∧ z ≤ 99 := ⟨by first | exact c74 | exact Int32.not_lt.mp c74, by first | exact c80 | exact Int32.not_lt.mp c80⟩
                obtain ⟨n, hn, hz⟩ := sm_of cz.1 ((lt_succ_iff (a := 99)).mpr cz.2) (by decide)
                refine al_0 dX8_on_86 ?_
                refine R_getfr (r := 21) dX8_on_87 fl_RX8_18 rfl sh_1 (Nat.le_of_ble_eq_true rfl) rf_1_1 ?_
                refine al_0 dX8_on_90 ?_
                refine R_getfr (r := 2) dX8_on_91 fl_RX8_12 rfl sh_1 (Nat.le_of_ble_eq_true rfl) rf_1_0 ?_
                refine cv_1 dX8_on_94 mm_RX8_210 sh_21 (Nat.le_of_ble_eq_true rfl) ⟨_, rfl, rfl⟩ (Nat.le_of_ble_eq_true rfl) (Nat.le_of_ble_eq_true rfl) (K_trial hv hc (fun m1 D1 ht1 => ?_))
                refine al_0 dX8_on_97 ?_
                refine R_getfr (r := 21) dX8_on_98 fl_RX8_18 rfl sh_1 (Nat.le_of_ble_eq_true rfl) rf_1_1 ?_
                refine il_1 dX8_on_101 ?_
                refine cv_1 dX8_on_102 mm_RX8_207 sh_21 (Nat.le_of_ble_eq_true rfl) ⟨_, rfl, rfl⟩ (Nat.le_of_ble_eq_true rfl) (Nat.le_of_ble_eq_true rfl) (K_tmins hv hc ht1 hz hw (by omega) (fun m2 ht2 => ?_))
                have hw2 := hw.mins (er := erA (cuL ds c)) n 9999 w (by omega)
                obtain ⟨P2, hP2, h26, v2⟩ := ht2.n hw2
                have hPP : P = P2 := by
                  have q : m2 21 6 = mi 2 6 := by
                    have q1 : (minsW (erA (cuL ds c)) n w).1 2 = w.1 2 := mins_2 n w
                    rw [v2, w2, hpp] at q1
                    rw [h26, q1, hpp]
                  exact sm_inj (by omega) (by omega) ((q.trans hpp).symm.trans h26)
                subst hPP
                refine il_3 dX8_on_105 ?_
                refine R_if_eq (tgt := 125) dX8_on_106 (by decide) (fun _ => ?_) (fun q => absurd q (by decide))
                refine il_4 dX8_on_125 ?_
                refine R_if_eq (tgt := 146) dX8_on_127 (by decide) (fun _ => ?_) (fun q => absurd q (by decide))
                refine il_2 dX8_on_146 ?_
                refine R_if_ne (tgt := 158) dX8_on_147 (by decide) (fun c147 => ?_) (fun c147 => ?_)
                · refine il_2 dX8_on_158 ?_
                  refine R_iconst (v := 1) dX8_on_159 (by decide) ?_
                  refine R_icmp_ne (tgt := 173) dX8_on_160 (by decide) (fun c160 => ?_) (fun c160 => ?_)
                  · refine al_0 dX8_on_173 ?_
                    refine R_getfr (r := 21) dX8_on_174 fl_RX8_18 rfl sh_1 (Nat.le_of_ble_eq_true rfl) rf_1_1 ?_
                    refine R_getfi dX8_on_177 fl_RX8_194 rfl sh_21 (Nat.le_of_ble_eq_true rfl) ?_
                    refine R_ireturn dX8_on_180 ⟨_, rfl, rfl⟩ ?_
                    unfold onA at h
                    rw [nP, if_pos onx, if_pos cz, hz, nnI (by omega)] at h
                    refine ret_eq (h m2 ml D1 (ht2.hi ml) (ht2.cr hv hc)) rfl ?_
                    unfold onV
                    first
                      | (rw [if_pos c147])
                      | (rw [if_neg c147, if_pos c160, ← ht2.2.1]; rfl)
                      | (have low : 0 ≤ x ∧ x ≤ 2 := onx.resolve_right (fun q => q.elim (show ¬ (10 ≤ x ∧ x < nI (10 + P)) from fun q => by first | exact Int32.not_lt.mpr q.1 (by first | exact c3 | exact Int32.not_le.mp c3) | exact c14 (by rw [hpp]; exact (hp_iff hP (by decide) (k := 10) q.1).mpr q.2)) (show ¬ (20 ≤ x ∧ x < nI (20 + P)) from fun q => by first | exact Int32.not_lt.mpr q.1 (by first | exact c29 | exact Int32.not_le.mp c29) | exact c40 (by rw [hpp]; exact (hp_iff hP (by decide) (k := 20) q.1).mpr q.2))); have x2 : x = 2 := by
                           obtain ⟨n2, hn2, e⟩ := sm_of low.1 ((lt_succ_iff (a := 2)).mpr low.2) (by decide)
                           have : n2 = 0 ∨ n2 = 1 ∨ n2 = 2 := by omega
                           rcases this with r | r | r
                           · exact absurd (by rw [e, r]; rfl) c147
                           · exact absurd (by rw [e, r]; rfl) c160
                           · rw [e, r]; rfl
                         rw [if_neg c147, if_neg c160, if_pos x2, ← ht2.2.1]; rfl)
                  · refine al_0 dX8_on_163 ?_
                    refine R_getfr (r := 21) dX8_on_164 fl_RX8_18 rfl sh_1 (Nat.le_of_ble_eq_true rfl) rf_1_1 ?_
                    refine R_getfi dX8_on_167 fl_RX8_200 rfl sh_21 (Nat.le_of_ble_eq_true rfl) ?_
                    refine R_goto (tgt := 180) dX8_on_170 (by decide) ?_
                    refine R_ireturn dX8_on_180 ⟨_, rfl, rfl⟩ ?_
                    unfold onA at h
                    rw [nP, if_pos onx, if_pos cz, hz, nnI (by omega)] at h
                    refine ret_eq (h m2 ml D1 (ht2.hi ml) (ht2.cr hv hc)) rfl ?_
                    unfold onV
                    first
                      | (rw [if_pos c147])
                      | (rw [if_neg c147, if_pos c160, ← ht2.2.1]; rfl)
                      | (have low : 0 ≤ x ∧ x ≤ 2 := onx.resolve_right (fun q => q.elim (show ¬ (10 ≤ x ∧ x < nI (10 + P)) from fun q => by first | exact Int32.not_lt.mpr q.1 (by first | exact c3 | exact Int32.not_le.mp c3) | exact c14 (by rw [hpp]; exact (hp_iff hP (by decide) (k := 10) q.1).mpr q.2)) (show ¬ (20 ≤ x ∧ x < nI (20 + P)) from fun q => by first | exact Int32.not_lt.mpr q.1 (by first | exact c29 | exact Int32.not_le.mp c29) | exact c40 (by rw [hpp]; exact (hp_iff hP (by decide) (k := 20) q.1).mpr q.2))); have x2 : x = 2 := by
                           obtain ⟨n2, hn2, e⟩ := sm_of low.1 ((lt_succ_iff (a := 2)).mpr low.2) (by decide)
                           have : n2 = 0 ∨ n2 = 1 ∨ n2 = 2 := by omega
                           rcases this with r | r | r
                           · exact absurd (by rw [e, r]; rfl) c147
                           · exact absurd (by rw [e, r]; rfl) c160
                           · rw [e, r]; rfl
                         rw [if_neg c147, if_neg c160, if_pos x2, ← ht2.2.1]; rfl)
                · refine al_0 dX8_on_150 ?_
                  refine R_getfr (r := 21) dX8_on_151 fl_RX8_18 rfl sh_1 (Nat.le_of_ble_eq_true rfl) rf_1_1 ?_
                  refine cv_0 dX8_on_154 mm_RX8_203 sh_21 (Nat.le_of_ble_eq_true rfl) ⟨_, rfl, rfl⟩ (Nat.le_of_ble_eq_true rfl) (Nat.le_of_ble_eq_true rfl) (K_tout hv hc ht2 hw2 ?_)
                  refine R_ireturn dX8_on_157 ⟨_, rfl, rfl⟩ ?_
                  unfold onA at h
                  rw [nP, if_pos onx, if_pos cz, hz, nnI (by omega)] at h
                  refine ret_eq (h m2 ml D1 (ht2.hi ml) (ht2.cr hv hc)) rfl ?_
                  unfold onV
                  first
                    | (rw [if_pos c147])
                    | (rw [if_neg c147, if_pos c160, ← ht2.2.1]; rfl)
                    | (have low : 0 ≤ x ∧ x ≤ 2 := onx.resolve_right (fun q => q.elim (show ¬ (10 ≤ x ∧ x < nI (10 + P)) from fun q => by first | exact Int32.not_lt.mpr q.1 (by first | exact c3 | exact Int32.not_le.mp c3) | exact c14 (by rw [hpp]; exact (hp_iff hP (by decide) (k := 10) q.1).mpr q.2)) (show ¬ (20 ≤ x ∧ x < nI (20 + P)) from fun q => by first | exact Int32.not_lt.mpr q.1 (by first | exact c29 | exact Int32.not_le.mp c29) | exact c40 (by rw [hpp]; exact (hp_iff hP (by decide) (k := 20) q.1).mpr q.2))); have x2 : x = 2 := by
                         obtain ⟨n2, hn2, e⟩ := sm_of low.1 ((lt_succ_iff (a := 2)).mpr low.2) (by decide)
                         have : n2 = 0 ∨ n2 = 1 ∨ n2 = 2 := by omega
                         rcases this with r | r | r
                         · exact absurd (by rw [e, r]; rfl) c147
                         · exact absurd (by rw [e, r]; rfl) c160
                         · rw [e, r]; rfl
                       rw [if_neg c147, if_neg c160, if_pos x2, ← ht2.2.1]; rfl)
              · refine R_bipush (v := -2) dX8_on_83 (by decide) ?_
                refine R_ireturn dX8_on_85 ⟨_, rfl, rfl⟩ ?_
                unfold onA at h
                rw [nP, if_pos onx, if_neg (fun q => by first | exact Int32.not_lt.mpr q.1 (by first | exact c74 | exact Int32.not_le.mp c74) | exact Int32.not_lt.mpr q.2 (by first | exact c80 | exact Int32.not_le.mp c80))] at h
                exact h mi ml D (HI.refl _ _) hc
          · refine R_iconst (v := -1) dX8_on_71 (by decide) ?_
            refine R_ireturn dX8_on_72 ⟨_, rfl, rfl⟩ ?_
            unfold onA at h
            rw [nP, if_neg (fun q => q.elim (fun q => by first | exact Int32.not_lt.mpr q.1 (by first | exact c63 | exact Int32.not_le.mp c63) | exact Int32.not_lt.mpr q.2 (by first | exact c68 | exact Int32.not_le.mp c68)) (fun q => q.elim (show ¬ (10 ≤ x ∧ x < nI (10 + P)) from fun q => by first | exact Int32.not_lt.mpr q.1 (by first | exact c3 | exact Int32.not_le.mp c3) | exact c14 (by rw [hpp]; exact (hp_iff hP (by decide) (k := 10) q.1).mpr q.2)) (show ¬ (20 ≤ x ∧ x < nI (20 + P)) from fun q => by first | exact Int32.not_lt.mpr q.1 (by first | exact c29 | exact Int32.not_le.mp c29) | exact c40 (by rw [hpp]; exact (hp_iff hP (by decide) (k := 20) q.1).mpr q.2))))] at h
            exact h mi ml D (HI.refl _ _) hc
  · refine al_0 dX8_on_6 ?_
    refine R_getfr (r := 2) dX8_on_7 fl_RX8_12 rfl sh_1 (Nat.le_of_ble_eq_true rfl) rf_1_0 ?_
    refine il_2 dX8_on_10 ?_
    refine R_bipush (v := 10) dX8_on_11 (by decide) ?_
    refine R_isub dX8_on_13 ?_
    refine cv_1 dX8_on_14 mm_RX8_93 sh_2 (Nat.le_of_ble_eq_true rfl) ⟨_, rfl, rfl⟩ (Nat.le_of_ble_eq_true rfl) (Nat.le_of_ble_eq_true rfl) (K_hasPerson hB (fun c14 => ?_) (fun c14 => ?_))
    · refine R_if_eq (tgt := 24) dX8_on_17 (by decide) (fun q => absurd q (by decide)) (fun _ => ?_)
      refine R_iconst (v := 1) dX8_on_20 (by decide) ?_
      refine R_goto (tgt := 25) dX8_on_21 (by decide) ?_
      refine is_3 dX8_on_25 rfl ?_
      refine il_2 dX8_on_26 ?_
      refine R_bipush (v := 20) dX8_on_27 (by decide) ?_
      refine R_icmp_lt (tgt := 50) dX8_on_29 (by decide) (fun c29 => ?_) (fun c29 => ?_)
      · refine R_iconst (v := 0) dX8_on_50 (by decide) ?_
        refine is_4 dX8_on_51 rfl ?_
        refine il_3 dX8_on_53 ?_
        refine R_if_ne (tgt := 73) dX8_on_54 (by decide) (fun _ => ?_) (fun q => absurd q (by decide))
        have onx : ((0 ≤ x ∧ x ≤ 2) ∨ (10 ≤ x ∧ x < nI (10 + P)) ∨ (20 ≤ x ∧ x < nI (20 + P))) := by
          first
          | exact Or.inr (Or.inl ⟨(by first | exact c3 | exact Int32.not_lt.mp c3), (hp_iff hP (by decide) (k := 10) (by first | exact c3 | exact Int32.not_lt.mp c3)).mp (by rw [← hpp]; exact c14)⟩)
          | exact Or.inr (Or.inr ⟨(by first | exact c29 | exact Int32.not_lt.mp c29), (hp_iff hP (by decide) (k := 20) (by first | exact c29 | exact Int32.not_lt.mp c29)).mp (by rw [← hpp]; exact c40)⟩)
          | exact Or.inl ⟨by first | exact c63 | exact Int32.not_lt.mp c63, by first | exact c68 | exact Int32.not_lt.mp c68⟩
        refine il_1 dX8_on_73 ?_
        refine R_if_lt (tgt := 83) dX8_on_74 (by decide) (fun c74 => ?_) (fun c74 => ?_)
        · refine R_bipush (v := -2) dX8_on_83 (by decide) ?_
          refine R_ireturn dX8_on_85 ⟨_, rfl, rfl⟩ ?_
          unfold onA at h
          rw [nP, if_pos onx, if_neg (fun q => by first | exact Int32.not_lt.mpr q.1 (by first | exact c74 | exact Int32.not_le.mp c74) | exact Int32.not_lt.mpr q.2 (by first | exact c80 | exact Int32.not_le.mp c80))] at h
          exact h mi ml D (HI.refl _ _) hc
        · refine il_1 dX8_on_77 ?_
          refine R_bipush (v := 99) dX8_on_78 (by decide) ?_
          refine R_icmp_le (tgt := 86) dX8_on_80 (by decide) (fun c80 => ?_) (fun c80 => ?_)
          · have cz : 0 ≤ z ∧ z ≤ 99 := ⟨by first | exact c74 | exact Int32.not_lt.mp c74, by first | exact c80 | exact Int32.not_lt.mp c80⟩
            obtain ⟨n, hn, hz⟩ := sm_of cz.1 ((lt_succ_iff (a := 99)).mpr cz.2) (by decide)
            refine al_0 dX8_on_86 ?_
            refine R_getfr (r := 21) dX8_on_87 fl_RX8_18 rfl sh_1 (Nat.le_of_ble_eq_true rfl) rf_1_1 ?_
            refine al_0 dX8_on_90 ?_
            refine R_getfr (r := 2) dX8_on_91 fl_RX8_12 rfl sh_1 (Nat.le_of_ble_eq_true rfl) rf_1_0 ?_
            refine cv_1 dX8_on_94 mm_RX8_210 sh_21 (Nat.le_of_ble_eq_true rfl) ⟨_, rfl, rfl⟩ (Nat.le_of_ble_eq_true rfl) (Nat.le_of_ble_eq_true rfl) (K_trial hv hc (fun m1 D1 ht1 => ?_))
            refine al_0 dX8_on_97 ?_
            refine R_getfr (r := 21) dX8_on_98 fl_RX8_18 rfl sh_1 (Nat.le_of_ble_eq_true rfl) rf_1_1 ?_
            refine il_1 dX8_on_101 ?_
            refine cv_1 dX8_on_102 mm_RX8_207 sh_21 (Nat.le_of_ble_eq_true rfl) ⟨_, rfl, rfl⟩ (Nat.le_of_ble_eq_true rfl) (Nat.le_of_ble_eq_true rfl) (K_tmins hv hc ht1 hz hw (by omega) (fun m2 ht2 => ?_))
            have hw2 := hw.mins (er := erA (cuL ds c)) n 9999 w (by omega)
            obtain ⟨P2, hP2, h26, v2⟩ := ht2.n hw2
            have hPP : P = P2 := by
              have q : m2 21 6 = mi 2 6 := by
                have q1 : (minsW (erA (cuL ds c)) n w).1 2 = w.1 2 := mins_2 n w
                rw [v2, w2, hpp] at q1
                rw [h26, q1, hpp]
              exact sm_inj (by omega) (by omega) ((q.trans hpp).symm.trans h26)
            subst hPP
            refine il_3 dX8_on_105 ?_
            refine R_if_eq (tgt := 125) dX8_on_106 (by decide) (fun q => absurd q (by decide)) (fun _ => ?_)
            obtain ⟨i, hiP, ei⟩ := sm_of c14.1 (by rw [← hpp]; exact c14.2) (by omega)
            have hi6 : i < 6 := by omega
            have htq : PQ (21 + 7 + 2 * i) := pb_q (Or.inr (Or.inl rfl)) hi6
            refine al_0 dX8_on_109 ?_
            refine R_getfr (r := 21) dX8_on_110 fl_RX8_18 rfl sh_1 (Nat.le_of_ble_eq_true rfl) rf_1_1 ?_
            refine R_getfr (r := 23) dX8_on_113 fl_RX8_96 rfl sh_21 (Nat.le_of_ble_eq_true rfl) rf_21_1 ?_
            refine il_2 dX8_on_116 ?_
            refine R_bipush (v := 10) dX8_on_117 (by decide) ?_
            refine R_isub dX8_on_119 ?_
            refine R_aald (t := 4) (r := (21 + 7 + 2 * i)) dX8_on_120 (by decide) sh_23 (Nat.le_of_ble_eq_true rfl) (rn_ixe ei) hi6 (pb_rq (b := 21) (Or.inr (Or.inl rfl)) hi6) ?_
            refine R_getfi dX8_on_121 fl_RX8_108 rfl (pq_s0 htq) (show (21 + 7 + 2 * i) < 164 by have := pq_n htq; omega) ?_
            refine R_ireturn dX8_on_124 ⟨_, rfl, rfl⟩ ?_
            unfold onA at h
            rw [nP, if_pos onx, if_pos cz, hz, nnI (by omega)] at h
            refine ret_eq (h m2 ml D1 (ht2.hi ml) (ht2.cr hv hc)) rfl ?_
            unfold onV
            have g1 : (10 : Int32) ≤ x := (by first | exact c3 | exact Int32.not_lt.mp c3)
            have l20 : x < 20 := Int32.lt_of_lt_of_le ((hp_iff hP (by decide) (k := 10) g1).mp (by rw [← hpp]; exact c14)) ((sm_le_iff (b := 20) (by omega) (by decide)).mpr (by omega))
            rw [if_neg (fun q => by rw [q] at g1; exact absurd g1 (by decide)), if_neg (fun q => by rw [q] at g1; exact absurd g1 (by decide)), if_neg (fun q => by rw [q] at g1; exact absurd g1 (by decide)), if_pos l20, show x - 10 = nI i from ei, nnI (by omega), ht2.per (U := 0) h26 hP hiP]
            rfl
          · refine R_bipush (v := -2) dX8_on_83 (by decide) ?_
            refine R_ireturn dX8_on_85 ⟨_, rfl, rfl⟩ ?_
            unfold onA at h
            rw [nP, if_pos onx, if_neg (fun q => by first | exact Int32.not_lt.mpr q.1 (by first | exact c74 | exact Int32.not_le.mp c74) | exact Int32.not_lt.mpr q.2 (by first | exact c80 | exact Int32.not_le.mp c80))] at h
            exact h mi ml D (HI.refl _ _) hc
      · refine al_0 dX8_on_32 ?_
        refine R_getfr (r := 2) dX8_on_33 fl_RX8_12 rfl sh_1 (Nat.le_of_ble_eq_true rfl) rf_1_0 ?_
        refine il_2 dX8_on_36 ?_
        refine R_bipush (v := 20) dX8_on_37 (by decide) ?_
        refine R_isub dX8_on_39 ?_
        refine cv_1 dX8_on_40 mm_RX8_93 sh_2 (Nat.le_of_ble_eq_true rfl) ⟨_, rfl, rfl⟩ (Nat.le_of_ble_eq_true rfl) (Nat.le_of_ble_eq_true rfl) (K_hasPerson hB (fun c40 => ?_) (fun c40 => ?_))
        · refine R_if_eq (tgt := 50) dX8_on_43 (by decide) (fun q => absurd q (by decide)) (fun _ => ?_)
          refine R_iconst (v := 1) dX8_on_46 (by decide) ?_
          refine R_goto (tgt := 51) dX8_on_47 (by decide) ?_
          refine is_4 dX8_on_51 rfl ?_
          refine il_3 dX8_on_53 ?_
          refine R_if_ne (tgt := 73) dX8_on_54 (by decide) (fun _ => ?_) (fun q => absurd q (by decide))
          have onx : ((0 ≤ x ∧ x ≤ 2) ∨ (10 ≤ x ∧ x < nI (10 + P)) ∨ (20 ≤ x ∧ x < nI (20 + P))) := by
            first
            | exact Or.inr (Or.inl ⟨(by first | exact c3 | exact Int32.not_lt.mp c3), (hp_iff hP (by decide) (k := 10) (by first | exact c3 | exact Int32.not_lt.mp c3)).mp (by rw [← hpp]; exact c14)⟩)
            | exact Or.inr (Or.inr ⟨(by first | exact c29 | exact Int32.not_lt.mp c29), (hp_iff hP (by decide) (k := 20) (by first | exact c29 | exact Int32.not_lt.mp c29)).mp (by rw [← hpp]; exact c40)⟩)
            | exact Or.inl ⟨by first | exact c63 | exact Int32.not_lt.mp c63, by first | exact c68 | exact Int32.not_lt.mp c68⟩
          refine il_1 dX8_on_73 ?_
          refine R_if_lt (tgt := 83) dX8_on_74 (by decide) (fun c74 => ?_) (fun c74 => ?_)
          · refine R_bipush (v := -2) dX8_on_83 (by decide) ?_
            refine R_ireturn dX8_on_85 ⟨_, rfl, rfl⟩ ?_
            unfold onA at h
            rw [nP, if_pos onx, if_neg (fun q => by first | exact Int32.not_lt.mpr q.1 (by first | exact c74 | exact Int32.not_le.mp c74) | exact Int32.not_lt.mpr q.2 (by first | exact c80 | exact Int32.not_le.mp c80))] at h
            exact h mi ml D (HI.refl _ _) hc
          · refine il_1 dX8_on_77 ?_
            refine R_bipush (v := 99) dX8_on_78 (by decide) ?_
            refine R_icmp_le (tgt := 86) dX8_on_80 (by decide) (fun c80 => ?_) (fun c80 => ?_)
            · have cz : 0 ≤ z ∧ z ≤ 99 := ⟨by first | exact c74 | exact Int32.not_lt.mp c74, by first | exact c80 | exact Int32.not_lt.mp c80⟩
              obtain ⟨n, hn, hz⟩ := sm_of cz.1 ((lt_succ_iff (a := 99)).mpr cz.2) (by decide)
              refine al_0 dX8_on_86 ?_
              refine R_getfr (r := 21) dX8_on_87 fl_RX8_18 rfl sh_1 (Nat.le_of_ble_eq_true rfl) rf_1_1 ?_
              refine al_0 dX8_on_90 ?_
              refine R_getfr (r := 2) dX8_on_91 fl_RX8_12 rfl sh_1 (Nat.le_of_ble_eq_true rfl) rf_1_0 ?_
              refine cv_1 dX8_on_94 mm_RX8_210 sh_21 (Nat.le_of_ble_eq_true rfl) ⟨_, rfl, rfl⟩ (Nat.le_of_ble_eq_true rfl) (Nat.le_of_ble_eq_true rfl) (K_trial hv hc (fun m1 D1 ht1 => ?_))
              refine al_0 dX8_on_97 ?_
              refine R_getfr (r := 21) dX8_on_98 fl_RX8_18 rfl sh_1 (Nat.le_of_ble_eq_true rfl) rf_1_1 ?_
              refine il_1 dX8_on_101 ?_
              refine cv_1 dX8_on_102 mm_RX8_207 sh_21 (Nat.le_of_ble_eq_true rfl) ⟨_, rfl, rfl⟩ (Nat.le_of_ble_eq_true rfl) (Nat.le_of_ble_eq_true rfl) (K_tmins hv hc ht1 hz hw (by omega) (fun m2 ht2 => ?_))
              have hw2 := hw.mins (er := erA (cuL ds c)) n 9999 w (by omega)
              obtain ⟨P2, hP2, h26, v2⟩ := ht2.n hw2
              have hPP : P = P2 := by
                have q : m2 21 6 = mi 2 6 := by
                  have q1 : (minsW (erA (cuL ds c)) n w).1 2 = w.1 2 := mins_2 n w
                  rw [v2, w2, hpp] at q1
                  rw [h26, q1, hpp]
                exact sm_inj (by omega) (by omega) ((q.trans hpp).symm.trans h26)
              subst hPP
              refine il_3 dX8_on_105 ?_
              refine R_if_eq (tgt := 125) dX8_on_106 (by decide) (fun q => absurd q (by decide)) (fun _ => ?_)
              obtain ⟨i, hiP, ei⟩ := sm_of c14.1 (by rw [← hpp]; exact c14.2) (by omega)
              have hi6 : i < 6 := by omega
              have htq : PQ (21 + 7 + 2 * i) := pb_q (Or.inr (Or.inl rfl)) hi6
              refine al_0 dX8_on_109 ?_
              refine R_getfr (r := 21) dX8_on_110 fl_RX8_18 rfl sh_1 (Nat.le_of_ble_eq_true rfl) rf_1_1 ?_
              refine R_getfr (r := 23) dX8_on_113 fl_RX8_96 rfl sh_21 (Nat.le_of_ble_eq_true rfl) rf_21_1 ?_
              refine il_2 dX8_on_116 ?_
              refine R_bipush (v := 10) dX8_on_117 (by decide) ?_
              refine R_isub dX8_on_119 ?_
              refine R_aald (t := 4) (r := (21 + 7 + 2 * i)) dX8_on_120 (by decide) sh_23 (Nat.le_of_ble_eq_true rfl) (rn_ixe ei) hi6 (pb_rq (b := 21) (Or.inr (Or.inl rfl)) hi6) ?_
              refine R_getfi dX8_on_121 fl_RX8_108 rfl (pq_s0 htq) (show (21 + 7 + 2 * i) < 164 by have := pq_n htq; omega) ?_
              refine R_ireturn dX8_on_124 ⟨_, rfl, rfl⟩ ?_
              unfold onA at h
              rw [nP, if_pos onx, if_pos cz, hz, nnI (by omega)] at h
              refine ret_eq (h m2 ml D1 (ht2.hi ml) (ht2.cr hv hc)) rfl ?_
              unfold onV
              have g1 : (10 : Int32) ≤ x := (by first | exact c3 | exact Int32.not_lt.mp c3)
              have l20 : x < 20 := Int32.lt_of_lt_of_le ((hp_iff hP (by decide) (k := 10) g1).mp (by rw [← hpp]; exact c14)) ((sm_le_iff (b := 20) (by omega) (by decide)).mpr (by omega))
              rw [if_neg (fun q => by rw [q] at g1; exact absurd g1 (by decide)), if_neg (fun q => by rw [q] at g1; exact absurd g1 (by decide)), if_neg (fun q => by rw [q] at g1; exact absurd g1 (by decide)), if_pos l20, show x - 10 = nI i from ei, nnI (by omega), ht2.per (U := 0) h26 hP hiP]
              rfl
            · refine R_bipush (v := -2) dX8_on_83 (by decide) ?_
              refine R_ireturn dX8_on_85 ⟨_, rfl, rfl⟩ ?_
              unfold onA at h
              rw [nP, if_pos onx, if_neg (fun q => by first | exact Int32.not_lt.mpr q.1 (by first | exact c74 | exact Int32.not_le.mp c74) | exact Int32.not_lt.mpr q.2 (by first | exact c80 | exact Int32.not_le.mp c80))] at h
              exact h mi ml D (HI.refl _ _) hc
        · refine R_if_eq (tgt := 50) dX8_on_43 (by decide) (fun _ => ?_) (fun q => absurd q (by decide))
          refine R_iconst (v := 0) dX8_on_50 (by decide) ?_
          refine is_4 dX8_on_51 rfl ?_
          refine il_3 dX8_on_53 ?_
          refine R_if_ne (tgt := 73) dX8_on_54 (by decide) (fun _ => ?_) (fun q => absurd q (by decide))
          have onx : ((0 ≤ x ∧ x ≤ 2) ∨ (10 ≤ x ∧ x < nI (10 + P)) ∨ (20 ≤ x ∧ x < nI (20 + P))) := by
            first
            | exact Or.inr (Or.inl ⟨(by first | exact c3 | exact Int32.not_lt.mp c3), (hp_iff hP (by decide) (k := 10) (by first | exact c3 | exact Int32.not_lt.mp c3)).mp (by rw [← hpp]; exact c14)⟩)
            | exact Or.inr (Or.inr ⟨(by first | exact c29 | exact Int32.not_lt.mp c29), (hp_iff hP (by decide) (k := 20) (by first | exact c29 | exact Int32.not_lt.mp c29)).mp (by rw [← hpp]; exact c40)⟩)
            | exact Or.inl ⟨by first | exact c63 | exact Int32.not_lt.mp c63, by first | exact c68 | exact Int32.not_lt.mp c68⟩
          refine il_1 dX8_on_73 ?_
          refine R_if_lt (tgt := 83) dX8_on_74 (by decide) (fun c74 => ?_) (fun c74 => ?_)
          · refine R_bipush (v := -2) dX8_on_83 (by decide) ?_
            refine R_ireturn dX8_on_85 ⟨_, rfl, rfl⟩ ?_
            unfold onA at h
            rw [nP, if_pos onx, if_neg (fun q => by first | exact Int32.not_lt.mpr q.1 (by first | exact c74 | exact Int32.not_le.mp c74) | exact Int32.not_lt.mpr q.2 (by first | exact c80 | exact Int32.not_le.mp c80))] at h
            exact h mi ml D (HI.refl _ _) hc
          · refine il_1 dX8_on_77 ?_
            refine R_bipush (v := 99) dX8_on_78 (by decide) ?_
            refine R_icmp_le (tgt := 86) dX8_on_80 (by decide) (fun c80 => ?_) (fun c80 => ?_)
            · have cz : 0 ≤ z ∧ z ≤ 99 := ⟨by first | exact c74 | exact Int32.not_lt.mp c74, by first | exact c80 | exact Int32.not_lt.mp c80⟩
              obtain ⟨n, hn, hz⟩ := sm_of cz.1 ((lt_succ_iff (a := 99)).mpr cz.2) (by decide)
              refine al_0 dX8_on_86 ?_
              refine R_getfr (r := 21) dX8_on_87 fl_RX8_18 rfl sh_1 (Nat.le_of_ble_eq_true rfl) rf_1_1 ?_
              refine al_0 dX8_on_90 ?_
              refine R_getfr (r := 2) dX8_on_91 fl_RX8_12 rfl sh_1 (Nat.le_of_ble_eq_true rfl) rf_1_0 ?_
              refine cv_1 dX8_on_94 mm_RX8_210 sh_21 (Nat.le_of_ble_eq_true rfl) ⟨_, rfl, rfl⟩ (Nat.le_of_ble_eq_true rfl) (Nat.le_of_ble_eq_true rfl) (K_trial hv hc (fun m1 D1 ht1 => ?_))
              refine al_0 dX8_on_97 ?_
              refine R_getfr (r := 21) dX8_on_98 fl_RX8_18 rfl sh_1 (Nat.le_of_ble_eq_true rfl) rf_1_1 ?_
              refine il_1 dX8_on_101 ?_
              refine cv_1 dX8_on_102 mm_RX8_207 sh_21 (Nat.le_of_ble_eq_true rfl) ⟨_, rfl, rfl⟩ (Nat.le_of_ble_eq_true rfl) (Nat.le_of_ble_eq_true rfl) (K_tmins hv hc ht1 hz hw (by omega) (fun m2 ht2 => ?_))
              have hw2 := hw.mins (er := erA (cuL ds c)) n 9999 w (by omega)
              obtain ⟨P2, hP2, h26, v2⟩ := ht2.n hw2
              have hPP : P = P2 := by
                have q : m2 21 6 = mi 2 6 := by
                  have q1 : (minsW (erA (cuL ds c)) n w).1 2 = w.1 2 := mins_2 n w
                  rw [v2, w2, hpp] at q1
                  rw [h26, q1, hpp]
                exact sm_inj (by omega) (by omega) ((q.trans hpp).symm.trans h26)
              subst hPP
              refine il_3 dX8_on_105 ?_
              refine R_if_eq (tgt := 125) dX8_on_106 (by decide) (fun q => absurd q (by decide)) (fun _ => ?_)
              obtain ⟨i, hiP, ei⟩ := sm_of c14.1 (by rw [← hpp]; exact c14.2) (by omega)
              have hi6 : i < 6 := by omega
              have htq : PQ (21 + 7 + 2 * i) := pb_q (Or.inr (Or.inl rfl)) hi6
              refine al_0 dX8_on_109 ?_
              refine R_getfr (r := 21) dX8_on_110 fl_RX8_18 rfl sh_1 (Nat.le_of_ble_eq_true rfl) rf_1_1 ?_
              refine R_getfr (r := 23) dX8_on_113 fl_RX8_96 rfl sh_21 (Nat.le_of_ble_eq_true rfl) rf_21_1 ?_
              refine il_2 dX8_on_116 ?_
              refine R_bipush (v := 10) dX8_on_117 (by decide) ?_
              refine R_isub dX8_on_119 ?_
              refine R_aald (t := 4) (r := (21 + 7 + 2 * i)) dX8_on_120 (by decide) sh_23 (Nat.le_of_ble_eq_true rfl) (rn_ixe ei) hi6 (pb_rq (b := 21) (Or.inr (Or.inl rfl)) hi6) ?_
              refine R_getfi dX8_on_121 fl_RX8_108 rfl (pq_s0 htq) (show (21 + 7 + 2 * i) < 164 by have := pq_n htq; omega) ?_
              refine R_ireturn dX8_on_124 ⟨_, rfl, rfl⟩ ?_
              unfold onA at h
              rw [nP, if_pos onx, if_pos cz, hz, nnI (by omega)] at h
              refine ret_eq (h m2 ml D1 (ht2.hi ml) (ht2.cr hv hc)) rfl ?_
              unfold onV
              have g1 : (10 : Int32) ≤ x := (by first | exact c3 | exact Int32.not_lt.mp c3)
              have l20 : x < 20 := Int32.lt_of_lt_of_le ((hp_iff hP (by decide) (k := 10) g1).mp (by rw [← hpp]; exact c14)) ((sm_le_iff (b := 20) (by omega) (by decide)).mpr (by omega))
              rw [if_neg (fun q => by rw [q] at g1; exact absurd g1 (by decide)), if_neg (fun q => by rw [q] at g1; exact absurd g1 (by decide)), if_neg (fun q => by rw [q] at g1; exact absurd g1 (by decide)), if_pos l20, show x - 10 = nI i from ei, nnI (by omega), ht2.per (U := 0) h26 hP hiP]
              rfl
            · refine R_bipush (v := -2) dX8_on_83 (by decide) ?_
              refine R_ireturn dX8_on_85 ⟨_, rfl, rfl⟩ ?_
              unfold onA at h
              rw [nP, if_pos onx, if_neg (fun q => by first | exact Int32.not_lt.mpr q.1 (by first | exact c74 | exact Int32.not_le.mp c74) | exact Int32.not_lt.mpr q.2 (by first | exact c80 | exact Int32.not_le.mp c80))] at h
              exact h mi ml D (HI.refl _ _) hc
    · refine R_if_eq (tgt := 24) dX8_on_17 (by decide) (fun _ => ?_) (fun q => absurd q (by decide))
      refine R_iconst (v := 0) dX8_on_24 (by decide) ?_
      refine is_3 dX8_on_25 rfl ?_
      refine il_2 dX8_on_26 ?_
      refine R_bipush (v := 20) dX8_on_27 (by decide) ?_
      refine R_icmp_lt (tgt := 50) dX8_on_29 (by decide) (fun c29 => ?_) (fun c29 => ?_)
      · refine R_iconst (v := 0) dX8_on_50 (by decide) ?_
        refine is_4 dX8_on_51 rfl ?_
        refine il_3 dX8_on_53 ?_
        refine R_if_ne (tgt := 73) dX8_on_54 (by decide) (fun q => absurd q (by decide)) (fun _ => ?_)
        refine il_4 dX8_on_57 ?_
        refine R_if_ne (tgt := 73) dX8_on_59 (by decide) (fun q => absurd q (by decide)) (fun _ => ?_)
        refine il_2 dX8_on_62 ?_
        refine R_if_lt (tgt := 71) dX8_on_63 (by decide) (fun c63 => ?_) (fun c63 => ?_)
        · refine R_iconst (v := -1) dX8_on_71 (by decide) ?_
          refine R_ireturn dX8_on_72 ⟨_, rfl, rfl⟩ ?_
          unfold onA at h
          rw [nP, if_neg (fun q => q.elim (fun q => by first | exact Int32.not_lt.mpr q.1 (by first | exact c63 | exact Int32.not_le.mp c63) | exact Int32.not_lt.mpr q.2 (by first | exact c68 | exact Int32.not_le.mp c68)) (fun q => q.elim (show ¬ (10 ≤ x ∧ x < nI (10 + P)) from fun q => by first | exact Int32.not_lt.mpr q.1 (by first | exact c3 | exact Int32.not_le.mp c3) | exact c14 (by rw [hpp]; exact (hp_iff hP (by decide) (k := 10) q.1).mpr q.2)) (show ¬ (20 ≤ x ∧ x < nI (20 + P)) from fun q => by first | exact Int32.not_lt.mpr q.1 (by first | exact c29 | exact Int32.not_le.mp c29) | exact c40 (by rw [hpp]; exact (hp_iff hP (by decide) (k := 20) q.1).mpr q.2))))] at h
          exact h mi ml D (HI.refl _ _) hc
        · refine il_2 dX8_on_66 ?_
          refine R_iconst (v := 2) dX8_on_67 (by decide) ?_
          refine R_icmp_le (tgt := 73) dX8_on_68 (by decide) (fun c68 => ?_) (fun c68 => ?_)
          · have onx : ((0 ≤ x ∧ x ≤ 2) ∨ (10 ≤ x ∧ x < nI (10 + P)) ∨ (20 ≤ x ∧ x < nI (20 + P))) := by
              first
              | exact Or.inr (Or.inl ⟨(by first | exact c3 | exact Int32.not_lt.mp c3), (hp_iff hP (by decide) (k := 10) (by first | exact c3 | exact Int32.not_lt.mp c3)).mp (by rw [← hpp]; exact c14)⟩)
              | exact Or.inr (Or.inr ⟨(by first | exact c29 | exact Int32.not_lt.mp c29), (hp_iff hP (by decide) (k := 20) (by first | exact c29 | exact Int32.not_lt.mp c29)).mp (by rw [← hpp]; exact c40)⟩)
              | exact Or.inl ⟨by first | exact c63 | exact Int32.not_lt.mp c63, by first | exact c68 | exact Int32.not_lt.mp c68⟩
            refine il_1 dX8_on_73 ?_
            refine R_if_lt (tgt := 83) dX8_on_74 (by decide) (fun c74 => ?_) (fun c74 => ?_)
            · refine R_bipush (v := -2) dX8_on_83 (by decide) ?_
              refine R_ireturn dX8_on_85 ⟨_, rfl, rfl⟩ ?_
              unfold onA at h
              rw [nP, if_pos onx, if_neg (fun q => by first | exact Int32.not_lt.mpr q.1 (by first | exact c74 | exact Int32.not_le.mp c74) | exact Int32.not_lt.mpr q.2 (by first | exact c80 | exact Int32.not_le.mp c80))] at h
              exact h mi ml D (HI.refl _ _) hc
            · refine il_1 dX8_on_77 ?_
              refine R_bipush (v := 99) dX8_on_78 (by decide) ?_
              refine R_icmp_le (tgt := 86) dX8_on_80 (by decide) (fun c80 => ?_) (fun c80 => ?_)
              · have cz : 0 ≤ z ∧ z ≤ 99 := ⟨by first | exact c74 | exact Int32.not_lt.mp c74, by first | exact c80 | exact Int32.not_lt.mp c80⟩
                obtain ⟨n, hn, hz⟩ := sm_of cz.1 ((lt_succ_iff (a := 99)).mpr cz.2) (by decide)
                refine al_0 dX8_on_86 ?_
                refine R_getfr (r := 21) dX8_on_87 fl_RX8_18 rfl sh_1 (Nat.le_of_ble_eq_true rfl) rf_1_1 ?_
                refine al_0 dX8_on_90 ?_
                refine R_getfr (r := 2) dX8_on_91 fl_RX8_12 rfl sh_1 (Nat.le_of_ble_eq_true rfl) rf_1_0 ?_
                refine cv_1 dX8_on_94 mm_RX8_210 sh_21 (Nat.le_of_ble_eq_true rfl) ⟨_, rfl, rfl⟩ (Nat.le_of_ble_eq_true rfl) (Nat.le_of_ble_eq_true rfl) (K_trial hv hc (fun m1 D1 ht1 => ?_))
                refine al_0 dX8_on_97 ?_
                refine R_getfr (r := 21) dX8_on_98 fl_RX8_18 rfl sh_1 (Nat.le_of_ble_eq_true rfl) rf_1_1 ?_
                refine il_1 dX8_on_101 ?_
                refine cv_1 dX8_on_102 mm_RX8_207 sh_21 (Nat.le_of_ble_eq_true rfl) ⟨_, rfl, rfl⟩ (Nat.le_of_ble_eq_true rfl) (Nat.le_of_ble_eq_true rfl) (K_tmins hv hc ht1 hz hw (by omega) (fun m2 ht2 => ?_))
                have hw2 := hw.mins (er := erA (cuL ds c)) n 9999 w (by omega)
                obtain ⟨P2, hP2, h26, v2⟩ := ht2.n hw2
                have hPP : P = P2 := by
                  have q : m2 21 6 = mi 2 6 := by
                    have q1 : (minsW (erA (cuL ds c)) n w).1 2 = w.1 2 := mins_2 n w
                    rw [v2, w2, hpp] at q1
                    rw [h26, q1, hpp]
                  exact sm_inj (by omega) (by omega) ((q.trans hpp).symm.trans h26)
                subst hPP
                refine il_3 dX8_on_105 ?_
                refine R_if_eq (tgt := 125) dX8_on_106 (by decide) (fun _ => ?_) (fun q => absurd q (by decide))
                refine il_4 dX8_on_125 ?_
                refine R_if_eq (tgt := 146) dX8_on_127 (by decide) (fun _ => ?_) (fun q => absurd q (by decide))
                refine il_2 dX8_on_146 ?_
                refine R_if_ne (tgt := 158) dX8_on_147 (by decide) (fun c147 => ?_) (fun c147 => ?_)
                · refine il_2 dX8_on_158 ?_
                  refine R_iconst (v := 1) dX8_on_159 (by decide) ?_
                  refine R_icmp_ne (tgt := 173) dX8_on_160 (by decide) (fun c160 => ?_) (fun c160 => ?_)
                  · refine al_0 dX8_on_173 ?_
                    refine R_getfr (r := 21) dX8_on_174 fl_RX8_18 rfl sh_1 (Nat.le_of_ble_eq_true rfl) rf_1_1 ?_
                    refine R_getfi dX8_on_177 fl_RX8_194 rfl sh_21 (Nat.le_of_ble_eq_true rfl) ?_
                    refine R_ireturn dX8_on_180 ⟨_, rfl, rfl⟩ ?_
                    unfold onA at h
                    rw [nP, if_pos onx, if_pos cz, hz, nnI (by omega)] at h
                    refine ret_eq (h m2 ml D1 (ht2.hi ml) (ht2.cr hv hc)) rfl ?_
                    unfold onV
                    first
                      | (rw [if_pos c147])
                      | (rw [if_neg c147, if_pos c160, ← ht2.2.1]; rfl)
                      | (have low : 0 ≤ x ∧ x ≤ 2 := onx.resolve_right (fun q => q.elim (show ¬ (10 ≤ x ∧ x < nI (10 + P)) from fun q => by first | exact Int32.not_lt.mpr q.1 (by first | exact c3 | exact Int32.not_le.mp c3) | exact c14 (by rw [hpp]; exact (hp_iff hP (by decide) (k := 10) q.1).mpr q.2)) (show ¬ (20 ≤ x ∧ x < nI (20 + P)) from fun q => by first | exact Int32.not_lt.mpr q.1 (by first | exact c29 | exact Int32.not_le.mp c29) | exact c40 (by rw [hpp]; exact (hp_iff hP (by decide) (k := 20) q.1).mpr q.2))); have x2 : x = 2 := by
                           obtain ⟨n2, hn2, e⟩ := sm_of low.1 ((lt_succ_iff (a := 2)).mpr low.2) (by decide)
                           have : n2 = 0 ∨ n2 = 1 ∨ n2 = 2 := by omega
                           rcases this with r | r | r
                           · exact absurd (by rw [e, r]; rfl) c147
                           · exact absurd (by rw [e, r]; rfl) c160
                           · rw [e, r]; rfl
                         rw [if_neg c147, if_neg c160, if_pos x2, ← ht2.2.1]; rfl)
                  · refine al_0 dX8_on_163 ?_
                    refine R_getfr (r := 21) dX8_on_164 fl_RX8_18 rfl sh_1 (Nat.le_of_ble_eq_true rfl) rf_1_1 ?_
                    refine R_getfi dX8_on_167 fl_RX8_200 rfl sh_21 (Nat.le_of_ble_eq_true rfl) ?_
                    refine R_goto (tgt := 180) dX8_on_170 (by decide) ?_
                    refine R_ireturn dX8_on_180 ⟨_, rfl, rfl⟩ ?_
                    unfold onA at h
                    rw [nP, if_pos onx, if_pos cz, hz, nnI (by omega)] at h
                    refine ret_eq (h m2 ml D1 (ht2.hi ml) (ht2.cr hv hc)) rfl ?_
                    unfold onV
                    first
                      | (rw [if_pos c147])
                      | (rw [if_neg c147, if_pos c160, ← ht2.2.1]; rfl)
                      | (have low : 0 ≤ x ∧ x ≤ 2 := onx.resolve_right (fun q => q.elim (show ¬ (10 ≤ x ∧ x < nI (10 + P)) from fun q => by first | exact Int32.not_lt.mpr q.1 (by first | exact c3 | exact Int32.not_le.mp c3) | exact c14 (by rw [hpp]; exact (hp_iff hP (by decide) (k := 10) q.1).mpr q.2)) (show ¬ (20 ≤ x ∧ x < nI (20 + P)) from fun q => by first | exact Int32.not_lt.mpr q.1 (by first | exact c29 | exact Int32.not_le.mp c29) | exact c40 (by rw [hpp]; exact (hp_iff hP (by decide) (k := 20) q.1).mpr q.2))); have x2 : x = 2 := by
                           obtain ⟨n2, hn2, e⟩ := sm_of low.1 ((lt_succ_iff (a := 2)).mpr low.2) (by decide)
                           have : n2 = 0 ∨ n2 = 1 ∨ n2 = 2 := by omega
                           rcases this with r | r | r
                           · exact absurd (by rw [e, r]; rfl) c147
                           · exact absurd (by rw [e, r]; rfl) c160
                           · rw [e, r]; rfl
                         rw [if_neg c147, if_neg c160, if_pos x2, ← ht2.2.1]; rfl)
                · refine al_0 dX8_on_150 ?_
                  refine R_getfr (r := 21) dX8_on_151 fl_RX8_18 rfl sh_1 (Nat.le_of_ble_eq_true rfl) rf_1_1 ?_
                  refine cv_0 dX8_on_154 mm_RX8_203 sh_21 (Nat.le_of_ble_eq_true rfl) ⟨_, rfl, rfl⟩ (Nat.le_of_ble_eq_true rfl) (Nat.le_of_ble_eq_true rfl) (K_tout hv hc ht2 hw2 ?_)
                  refine R_ireturn dX8_on_157 ⟨_, rfl, rfl⟩ ?_
                  unfold onA at h
                  rw [nP, if_pos onx, if_pos cz, hz, nnI (by omega)] at h
                  refine ret_eq (h m2 ml D1 (ht2.hi ml) (ht2.cr hv hc)) rfl ?_
                  unfold onV
                  first
                    | (rw [if_pos c147])
                    | (rw [if_neg c147, if_pos c160, ← ht2.2.1]; rfl)
                    | (have low : 0 ≤ x ∧ x ≤ 2 := onx.resolve_right (fun q => q.elim (show ¬ (10 ≤ x ∧ x < nI (10 + P)) from fun q => by first | exact Int32.not_lt.mpr q.1 (by first | exact c3 | exact Int32.not_le.mp c3) | exact c14 (by rw [hpp]; exact (hp_iff hP (by decide) (k := 10) q.1).mpr q.2)) (show ¬ (20 ≤ x ∧ x < nI (20 + P)) from fun q => by first | exact Int32.not_lt.mpr q.1 (by first | exact c29 | exact Int32.not_le.mp c29) | exact c40 (by rw [hpp]; exact (hp_iff hP (by decide) (k := 20) q.1).mpr q.2))); have x2 : x = 2 := by
                         obtain ⟨n2, hn2, e⟩ := sm_of low.1 ((lt_succ_iff (a := 2)).mpr low.2) (by decide)
                         have : n2 = 0 ∨ n2 = 1 ∨ n2 = 2 := by omega
                         rcases this with r | r | r
                         · exact absurd (by rw [e, r]; rfl) c147
                         · exact absurd (by rw [e, r]; rfl) c160
                         · rw [e, r]; rfl
                       rw [if_neg c147, if_neg c160, if_pos x2, ← ht2.2.1]; rfl)
              · refine R_bipush (v := -2) dX8_on_83 (by decide) ?_
                refine R_ireturn dX8_on_85 ⟨_, rfl, rfl⟩ ?_
                unfold onA at h
                rw [nP, if_pos onx, if_neg (fun q => by first | exact Int32.not_lt.mpr q.1 (by first | exact c74 | exact Int32.not_le.mp c74) | exact Int32.not_lt.mpr q.2 (by first | exact c80 | exact Int32.not_le.mp c80))] at h
                exact h mi ml D (HI.refl _ _) hc
          · refine R_iconst (v := -1) dX8_on_71 (by decide) ?_
            refine R_ireturn dX8_on_72 ⟨_, rfl, rfl⟩ ?_
            unfold onA at h
            rw [nP, if_neg (fun q => q.elim (fun q => by first | exact Int32.not_lt.mpr q.1 (by first | exact c63 | exact Int32.not_le.mp c63) | exact Int32.not_lt.mpr q.2 (by first | exact c68 | exact Int32.not_le.mp c68)) (fun q => q.elim (show ¬ (10 ≤ x ∧ x < nI (10 + P)) from fun q => by first | exact Int32.not_lt.mpr q.1 (by first | exact c3 | exact Int32.not_le.mp c3) | exact c14 (by rw [hpp]; exact (hp_iff hP (by decide) (k := 10) q.1).mpr q.2)) (show ¬ (20 ≤ x ∧ x < nI (20 + P)) from fun q => by first | exact Int32.not_lt.mpr q.1 (by first | exact c29 | exact Int32.not_le.mp c29) | exact c40 (by rw [hpp]; exact (hp_iff hP (by decide) (k := 20) q.1).mpr q.2))))] at h
            exact h mi ml D (HI.refl _ _) hc
      · refine al_0 dX8_on_32 ?_
        refine R_getfr (r := 2) dX8_on_33 fl_RX8_12 rfl sh_1 (Nat.le_of_ble_eq_true rfl) rf_1_0 ?_
        refine il_2 dX8_on_36 ?_
        refine R_bipush (v := 20) dX8_on_37 (by decide) ?_
        refine R_isub dX8_on_39 ?_
        refine cv_1 dX8_on_40 mm_RX8_93 sh_2 (Nat.le_of_ble_eq_true rfl) ⟨_, rfl, rfl⟩ (Nat.le_of_ble_eq_true rfl) (Nat.le_of_ble_eq_true rfl) (K_hasPerson hB (fun c40 => ?_) (fun c40 => ?_))
        · refine R_if_eq (tgt := 50) dX8_on_43 (by decide) (fun q => absurd q (by decide)) (fun _ => ?_)
          refine R_iconst (v := 1) dX8_on_46 (by decide) ?_
          refine R_goto (tgt := 51) dX8_on_47 (by decide) ?_
          refine is_4 dX8_on_51 rfl ?_
          refine il_3 dX8_on_53 ?_
          refine R_if_ne (tgt := 73) dX8_on_54 (by decide) (fun q => absurd q (by decide)) (fun _ => ?_)
          refine il_4 dX8_on_57 ?_
          refine R_if_ne (tgt := 73) dX8_on_59 (by decide) (fun _ => ?_) (fun q => absurd q (by decide))
          have onx : ((0 ≤ x ∧ x ≤ 2) ∨ (10 ≤ x ∧ x < nI (10 + P)) ∨ (20 ≤ x ∧ x < nI (20 + P))) := by
            first
            | exact Or.inr (Or.inl ⟨(by first | exact c3 | exact Int32.not_lt.mp c3), (hp_iff hP (by decide) (k := 10) (by first | exact c3 | exact Int32.not_lt.mp c3)).mp (by rw [← hpp]; exact c14)⟩)
            | exact Or.inr (Or.inr ⟨(by first | exact c29 | exact Int32.not_lt.mp c29), (hp_iff hP (by decide) (k := 20) (by first | exact c29 | exact Int32.not_lt.mp c29)).mp (by rw [← hpp]; exact c40)⟩)
            | exact Or.inl ⟨by first | exact c63 | exact Int32.not_lt.mp c63, by first | exact c68 | exact Int32.not_lt.mp c68⟩
          refine il_1 dX8_on_73 ?_
          refine R_if_lt (tgt := 83) dX8_on_74 (by decide) (fun c74 => ?_) (fun c74 => ?_)
          · refine R_bipush (v := -2) dX8_on_83 (by decide) ?_
            refine R_ireturn dX8_on_85 ⟨_, rfl, rfl⟩ ?_
            unfold onA at h
            rw [nP, if_pos onx, if_neg (fun q => by first | exact Int32.not_lt.mpr q.1 (by first | exact c74 | exact Int32.not_le.mp c74) | exact Int32.not_lt.mpr q.2 (by first | exact c80 | exact Int32.not_le.mp c80))] at h
            exact h mi ml D (HI.refl _ _) hc
          · refine il_1 dX8_on_77 ?_
            refine R_bipush (v := 99) dX8_on_78 (by decide) ?_
            refine R_icmp_le (tgt := 86) dX8_on_80 (by decide) (fun c80 => ?_) (fun c80 => ?_)
            · have cz : 0 ≤ z ∧ z ≤ 99 := ⟨by first | exact c74 | exact Int32.not_lt.mp c74, by first | exact c80 | exact Int32.not_lt.mp c80⟩
              obtain ⟨n, hn, hz⟩ := sm_of cz.1 ((lt_succ_iff (a := 99)).mpr cz.2) (by decide)
              refine al_0 dX8_on_86 ?_
              refine R_getfr (r := 21) dX8_on_87 fl_RX8_18 rfl sh_1 (Nat.le_of_ble_eq_true rfl) rf_1_1 ?_
              refine al_0 dX8_on_90 ?_
              refine R_getfr (r := 2) dX8_on_91 fl_RX8_12 rfl sh_1 (Nat.le_of_ble_eq_true rfl) rf_1_0 ?_
              refine cv_1 dX8_on_94 mm_RX8_210 sh_21 (Nat.le_of_ble_eq_true rfl) ⟨_, rfl, rfl⟩ (Nat.le_of_ble_eq_true rfl) (Nat.le_of_ble_eq_true rfl) (K_trial hv hc (fun m1 D1 ht1 => ?_))
              refine al_0 dX8_on_97 ?_
              refine R_getfr (r := 21) dX8_on_98 fl_RX8_18 rfl sh_1 (Nat.le_of_ble_eq_true rfl) rf_1_1 ?_
              refine il_1 dX8_on_101 ?_
              refine cv_1 dX8_on_102 mm_RX8_207 sh_21 (Nat.le_of_ble_eq_true rfl) ⟨_, rfl, rfl⟩ (Nat.le_of_ble_eq_true rfl) (Nat.le_of_ble_eq_true rfl) (K_tmins hv hc ht1 hz hw (by omega) (fun m2 ht2 => ?_))
              have hw2 := hw.mins (er := erA (cuL ds c)) n 9999 w (by omega)
              obtain ⟨P2, hP2, h26, v2⟩ := ht2.n hw2
              have hPP : P = P2 := by
                have q : m2 21 6 = mi 2 6 := by
                  have q1 : (minsW (erA (cuL ds c)) n w).1 2 = w.1 2 := mins_2 n w
                  rw [v2, w2, hpp] at q1
                  rw [h26, q1, hpp]
                exact sm_inj (by omega) (by omega) ((q.trans hpp).symm.trans h26)
              subst hPP
              refine il_3 dX8_on_105 ?_
              refine R_if_eq (tgt := 125) dX8_on_106 (by decide) (fun _ => ?_) (fun q => absurd q (by decide))
              refine il_4 dX8_on_125 ?_
              refine R_if_eq (tgt := 146) dX8_on_127 (by decide) (fun q => absurd q (by decide)) (fun _ => ?_)
              obtain ⟨i, hiP, ei⟩ := sm_of c40.1 (by rw [← hpp]; exact c40.2) (by omega)
              have hi6 : i < 6 := by omega
              have htq : PQ (21 + 7 + 2 * i) := pb_q (Or.inr (Or.inl rfl)) hi6
              refine al_0 dX8_on_130 ?_
              refine R_getfr (r := 21) dX8_on_131 fl_RX8_18 rfl sh_1 (Nat.le_of_ble_eq_true rfl) rf_1_1 ?_
              refine R_getfr (r := 23) dX8_on_134 fl_RX8_96 rfl sh_21 (Nat.le_of_ble_eq_true rfl) rf_21_1 ?_
              refine il_2 dX8_on_137 ?_
              refine R_bipush (v := 20) dX8_on_138 (by decide) ?_
              refine R_isub dX8_on_140 ?_
              refine R_aald (t := 4) (r := (21 + 7 + 2 * i)) dX8_on_141 (by decide) sh_23 (Nat.le_of_ble_eq_true rfl) (rn_ixe ei) hi6 (pb_rq (b := 21) (Or.inr (Or.inl rfl)) hi6) ?_
              refine R_getfi dX8_on_142 fl_RX8_119 rfl (pq_s0 htq) (show (21 + 7 + 2 * i) < 164 by have := pq_n htq; omega) ?_
              refine R_ireturn dX8_on_145 ⟨_, rfl, rfl⟩ ?_
              unfold onA at h
              rw [nP, if_pos onx, if_pos cz, hz, nnI (by omega)] at h
              refine ret_eq (h m2 ml D1 (ht2.hi ml) (ht2.cr hv hc)) rfl ?_
              unfold onV
              have g1 : (20 : Int32) ≤ x := (by first | exact c29 | exact Int32.not_lt.mp c29)
              rw [if_neg (fun q => by rw [q] at g1; exact absurd g1 (by decide)), if_neg (fun q => by rw [q] at g1; exact absurd g1 (by decide)), if_neg (fun q => by rw [q] at g1; exact absurd g1 (by decide)), if_neg (Int32.not_lt.mpr g1), show x - 20 = nI i from ei, nnI (by omega), ht2.per (U := 0) h26 hP hiP]
              rfl
            · refine R_bipush (v := -2) dX8_on_83 (by decide) ?_
              refine R_ireturn dX8_on_85 ⟨_, rfl, rfl⟩ ?_
              unfold onA at h
              rw [nP, if_pos onx, if_neg (fun q => by first | exact Int32.not_lt.mpr q.1 (by first | exact c74 | exact Int32.not_le.mp c74) | exact Int32.not_lt.mpr q.2 (by first | exact c80 | exact Int32.not_le.mp c80))] at h
              exact h mi ml D (HI.refl _ _) hc
        · refine R_if_eq (tgt := 50) dX8_on_43 (by decide) (fun _ => ?_) (fun q => absurd q (by decide))
          refine R_iconst (v := 0) dX8_on_50 (by decide) ?_
          refine is_4 dX8_on_51 rfl ?_
          refine il_3 dX8_on_53 ?_
          refine R_if_ne (tgt := 73) dX8_on_54 (by decide) (fun q => absurd q (by decide)) (fun _ => ?_)
          refine il_4 dX8_on_57 ?_
          refine R_if_ne (tgt := 73) dX8_on_59 (by decide) (fun q => absurd q (by decide)) (fun _ => ?_)
          refine il_2 dX8_on_62 ?_
          refine R_if_lt (tgt := 71) dX8_on_63 (by decide) (fun c63 => ?_) (fun c63 => ?_)
          · refine R_iconst (v := -1) dX8_on_71 (by decide) ?_
            refine R_ireturn dX8_on_72 ⟨_, rfl, rfl⟩ ?_
            unfold onA at h
            rw [nP, if_neg (fun q => q.elim (fun q => by first | exact Int32.not_lt.mpr q.1 (by first | exact c63 | exact Int32.not_le.mp c63) | exact Int32.not_lt.mpr q.2 (by first | exact c68 | exact Int32.not_le.mp c68)) (fun q => q.elim (show ¬ (10 ≤ x ∧ x < nI (10 + P)) from fun q => by first | exact Int32.not_lt.mpr q.1 (by first | exact c3 | exact Int32.not_le.mp c3) | exact c14 (by rw [hpp]; exact (hp_iff hP (by decide) (k := 10) q.1).mpr q.2)) (show ¬ (20 ≤ x ∧ x < nI (20 + P)) from fun q => by first | exact Int32.not_lt.mpr q.1 (by first | exact c29 | exact Int32.not_le.mp c29) | exact c40 (by rw [hpp]; exact (hp_iff hP (by decide) (k := 20) q.1).mpr q.2))))] at h
            exact h mi ml D (HI.refl _ _) hc
          · refine il_2 dX8_on_66 ?_
            refine R_iconst (v := 2) dX8_on_67 (by decide) ?_
            refine R_icmp_le (tgt := 73) dX8_on_68 (by decide) (fun c68 => ?_) (fun c68 => ?_)
            · have onx : ((0 ≤ x ∧ x ≤ 2) ∨ (10 ≤ x ∧ x < nI (10 + P)) ∨ (20 ≤ x ∧ x < nI (20 + P))) := by
                first
                | exact Or.inr (Or.inl ⟨(by first | exact c3 | exact Int32.not_lt.mp c3), (hp_iff hP (by decide) (k := 10) (by first | exact c3 | exact Int32.not_lt.mp c3)).mp (by rw [← hpp]; exact c14)⟩)
                | exact Or.inr (Or.inr ⟨(by first | exact c29 | exact Int32.not_lt.mp c29), (hp_iff hP (by decide) (k := 20) (by first | exact c29 | exact Int32.not_lt.mp c29)).mp (by rw [← hpp]; exact c40)⟩)
                | exact Or.inl ⟨by first | exact c63 | exact Int32.not_lt.mp c63, by first | exact c68 | exact Int32.not_lt.mp c68⟩
              refine il_1 dX8_on_73 ?_
              refine R_if_lt (tgt := 83) dX8_on_74 (by decide) (fun c74 => ?_) (fun c74 => ?_)
              · refine R_bipush (v := -2) dX8_on_83 (by decide) ?_
                refine R_ireturn dX8_on_85 ⟨_, rfl, rfl⟩ ?_
                unfold onA at h
                rw [nP, if_pos onx, if_neg (fun q => by first | exact Int32.not_lt.mpr q.1 (by first | exact c74 | exact Int32.not_le.mp c74) | exact Int32.not_lt.mpr q.2 (by first | exact c80 | exact Int32.not_le.mp c80))] at h
                exact h mi ml D (HI.refl _ _) hc
              · refine il_1 dX8_on_77 ?_
                refine R_bipush (v := 99) dX8_on_78 (by decide) ?_
                refine R_icmp_le (tgt := 86) dX8_on_80 (by decide) (fun c80 => ?_) (fun c80 => ?_)
                · have cz : 0 ≤ z ∧ z ≤ 99 := ⟨by first | exact c74 | exact Int32.not_lt.mp c74, by first | exact c80 | exact Int32.not_lt.mp c80⟩
                  obtain ⟨n, hn, hz⟩ := sm_of cz.1 ((lt_succ_iff (a := 99)).mpr cz.2) (by decide)
                  refine al_0 dX8_on_86 ?_
                  refine R_getfr (r := 21) dX8_on_87 fl_RX8_18 rfl sh_1 (Nat.le_of_ble_eq_true rfl) rf_1_1 ?_
                  refine al_0 dX8_on_90 ?_
                  refine R_getfr (r := 2) dX8_on_91 fl_RX8_12 rfl sh_1 (Nat.le_of_ble_eq_true rfl) rf_1_0 ?_
                  refine cv_1 dX8_on_94 mm_RX8_210 sh_21 (Nat.le_of_ble_eq_true rfl) ⟨_, rfl, rfl⟩ (Nat.le_of_ble_eq_true rfl) (Nat.le_of_ble_eq_true rfl) (K_trial hv hc (fun m1 D1 ht1 => ?_))
                  refine al_0 dX8_on_97 ?_
                  refine R_getfr (r := 21) dX8_on_98 fl_RX8_18 rfl sh_1 (Nat.le_of_ble_eq_true rfl) rf_1_1 ?_
                  refine il_1 dX8_on_101 ?_
                  refine cv_1 dX8_on_102 mm_RX8_207 sh_21 (Nat.le_of_ble_eq_true rfl) ⟨_, rfl, rfl⟩ (Nat.le_of_ble_eq_true rfl) (Nat.le_of_ble_eq_true rfl) (K_tmins hv hc ht1 hz hw (by omega) (fun m2 ht2 => ?_))
                  have hw2 := hw.mins (er := erA (cuL ds c)) n 9999 w (by omega)
                  obtain ⟨P2, hP2, h26, v2⟩ := ht2.n hw2
                  have hPP : P = P2 := by
                    have q : m2 21 6 = mi 2 6 := by
                      have q1 : (minsW (erA (cuL ds c)) n w).1 2 = w.1 2 := mins_2 n w
                      rw [v2, w2, hpp] at q1
                      rw [h26, q1, hpp]
                    exact sm_inj (by omega) (by omega) ((q.trans hpp).symm.trans h26)
                  subst hPP
                  refine il_3 dX8_on_105 ?_
                  refine R_if_eq (tgt := 125) dX8_on_106 (by decide) (fun _ => ?_) (fun q => absurd q (by decide))
                  refine il_4 dX8_on_125 ?_
                  refine R_if_eq (tgt := 146) dX8_on_127 (by decide) (fun _ => ?_) (fun q => absurd q (by decide))
                  refine il_2 dX8_on_146 ?_
                  refine R_if_ne (tgt := 158) dX8_on_147 (by decide) (fun c147 => ?_) (fun c147 => ?_)
                  · refine il_2 dX8_on_158 ?_
                    refine R_iconst (v := 1) dX8_on_159 (by decide) ?_
                    refine R_icmp_ne (tgt := 173) dX8_on_160 (by decide) (fun c160 => ?_) (fun c160 => ?_)
                    · refine al_0 dX8_on_173 ?_
                      refine R_getfr (r := 21) dX8_on_174 fl_RX8_18 rfl sh_1 (Nat.le_of_ble_eq_true rfl) rf_1_1 ?_
                      refine R_getfi dX8_on_177 fl_RX8_194 rfl sh_21 (Nat.le_of_ble_eq_true rfl) ?_
                      refine R_ireturn dX8_on_180 ⟨_, rfl, rfl⟩ ?_
                      unfold onA at h
                      rw [nP, if_pos onx, if_pos cz, hz, nnI (by omega)] at h
                      refine ret_eq (h m2 ml D1 (ht2.hi ml) (ht2.cr hv hc)) rfl ?_
                      unfold onV
                      first
                        | (rw [if_pos c147])
                        | (rw [if_neg c147, if_pos c160, ← ht2.2.1]; rfl)
                        | (have low : 0 ≤ x ∧ x ≤ 2 := onx.resolve_right (fun q => q.elim (show ¬ (10 ≤ x ∧ x < nI (10 + P)) from fun q => by first | exact Int32.not_lt.mpr q.1 (by first | exact c3 | exact Int32.not_le.mp c3) | exact c14 (by rw [hpp]; exact (hp_iff hP (by decide) (k := 10) q.1).mpr q.2)) (show ¬ (20 ≤ x ∧ x < nI (20 + P)) from fun q => by first | exact Int32.not_lt.mpr q.1 (by first | exact c29 | exact Int32.not_le.mp c29) | exact c40 (by rw [hpp]; exact (hp_iff hP (by decide) (k := 20) q.1).mpr q.2))); have x2 : x = 2 := by
                             obtain ⟨n2, hn2, e⟩ := sm_of low.1 ((lt_succ_iff (a := 2)).mpr low.2) (by decide)
                             have : n2 = 0 ∨ n2 = 1 ∨ n2 = 2 := by omega
                             rcases this with r | r | r
                             · exact absurd (by rw [e, r]; rfl) c147
                             · exact absurd (by rw [e, r]; rfl) c160
                             · rw [e, r]; rfl
                           rw [if_neg c147, if_neg c160, if_pos x2, ← ht2.2.1]; rfl)
                    · refine al_0 dX8_on_163 ?_
                      refine R_getfr (r := 21) dX8_on_164 fl_RX8_18 rfl sh_1 (Nat.le_of_ble_eq_true rfl) rf_1_1 ?_
                      refine R_getfi dX8_on_167 fl_RX8_200 rfl sh_21 (Nat.le_of_ble_eq_true rfl) ?_
                      refine R_goto (tgt := 180) dX8_on_170 (by decide) ?_
                      refine R_ireturn dX8_on_180 ⟨_, rfl, rfl⟩ ?_
                      unfold onA at h
                      rw [nP, if_pos onx, if_pos cz, hz, nnI (by omega)] at h
                      refine ret_eq (h m2 ml D1 (ht2.hi ml) (ht2.cr hv hc)) rfl ?_
                      unfold onV
                      first
                        | (rw [if_pos c147])
                        | (rw [if_neg c147, if_pos c160, ← ht2.2.1]; rfl)
                        | (have low : 0 ≤ x ∧ x ≤ 2 := onx.resolve_right (fun q => q.elim (show ¬ (10 ≤ x ∧ x < nI (10 + P)) from fun q => by first | exact Int32.not_lt.mpr q.1 (by first | exact c3 | exact Int32.not_le.mp c3) | exact c14 (by rw [hpp]; exact (hp_iff hP (by decide) (k := 10) q.1).mpr q.2)) (show ¬ (20 ≤ x ∧ x < nI (20 + P)) from fun q => by first | exact Int32.not_lt.mpr q.1 (by first | exact c29 | exact Int32.not_le.mp c29) | exact c40 (by rw [hpp]; exact (hp_iff hP (by decide) (k := 20) q.1).mpr q.2))); have x2 : x = 2 := by
                             obtain ⟨n2, hn2, e⟩ := sm_of low.1 ((lt_succ_iff (a := 2)).mpr low.2) (by decide)
                             have : n2 = 0 ∨ n2 = 1 ∨ n2 = 2 := by omega
                             rcases this with r | r | r
                             · exact absurd (by rw [e, r]; rfl) c147
                             · exact absurd (by rw [e, r]; rfl) c160
                             · rw [e, r]; rfl
                           rw [if_neg c147, if_neg c160, if_pos x2, ← ht2.2.1]; rfl)
                  · refine al_0 dX8_on_150 ?_
                    refine R_getfr (r := 21) dX8_on_151 fl_RX8_18 rfl sh_1 (Nat.le_of_ble_eq_true rfl) rf_1_1 ?_
                    refine cv_0 dX8_on_154 mm_RX8_203 sh_21 (Nat.le_of_ble_eq_true rfl) ⟨_, rfl, rfl⟩ (Nat.le_of_ble_eq_true rfl) (Nat.le_of_ble_eq_true rfl) (K_tout hv hc ht2 hw2 ?_)
                    refine R_ireturn dX8_on_157 ⟨_, rfl, rfl⟩ ?_
                    unfold onA at h
                    rw [nP, if_pos onx, if_pos cz, hz, nnI (by omega)] at h
                    refine ret_eq (h m2 ml D1 (ht2.hi ml) (ht2.cr hv hc)) rfl ?_
                    unfold onV
                    first
                      | (rw [if_pos c147])
                      | (rw [if_neg c147, if_pos c160, ← ht2.2.1]; rfl)
                      | (have low : 0 ≤ x ∧ x ≤ 2 := onx.resolve_right (fun q => q.elim (show ¬ (10 ≤ x ∧ x < nI (10 + P)) from fun q => by first | exact Int32.not_lt.mpr q.1 (by first | exact c3 | exact Int32.not_le.mp c3) | exact c14 (by rw [hpp]; exact (hp_iff hP (by decide) (k := 10) q.1).mpr q.2)) (show ¬ (20 ≤ x ∧ x < nI (20 + P)) from fun q => by first | exact Int32.not_lt.mpr q.1 (by first | exact c29 | exact Int32.not_le.mp c29) | exact c40 (by rw [hpp]; exact (hp_iff hP (by decide) (k := 20) q.1).mpr q.2))); have x2 : x = 2 := by
                           obtain ⟨n2, hn2, e⟩ := sm_of low.1 ((lt_succ_iff (a := 2)).mpr low.2) (by decide)
                           have : n2 = 0 ∨ n2 = 1 ∨ n2 = 2 := by omega
                           rcases this with r | r | r
                           · exact absurd (by rw [e, r]; rfl) c147
                           · exact absurd (by rw [e, r]; rfl) c160
                           · rw [e, r]; rfl
                         rw [if_neg c147, if_neg c160, if_pos x2, ← ht2.2.1]; rfl)
                · refine R_bipush (v := -2) dX8_on_83 (by decide) ?_
                  refine R_ireturn dX8_on_85 ⟨_, rfl, rfl⟩ ?_
                  unfold onA at h
                  rw [nP, if_pos onx, if_neg (fun q => by first | exact Int32.not_lt.mpr q.1 (by first | exact c74 | exact Int32.not_le.mp c74) | exact Int32.not_lt.mpr q.2 (by first | exact c80 | exact Int32.not_le.mp c80))] at h
                  exact h mi ml D (HI.refl _ _) hc
            · refine R_iconst (v := -1) dX8_on_71 (by decide) ?_
              refine R_ireturn dX8_on_72 ⟨_, rfl, rfl⟩ ?_
              unfold onA at h
              rw [nP, if_neg (fun q => q.elim (fun q => by first | exact Int32.not_lt.mpr q.1 (by first | exact c63 | exact Int32.not_le.mp c63) | exact Int32.not_lt.mpr q.2 (by first | exact c68 | exact Int32.not_le.mp c68)) (fun q => q.elim (show ¬ (10 ≤ x ∧ x < nI (10 + P)) from fun q => by first | exact Int32.not_lt.mpr q.1 (by first | exact c3 | exact Int32.not_le.mp c3) | exact c14 (by rw [hpp]; exact (hp_iff hP (by decide) (k := 10) q.1).mpr q.2)) (show ¬ (20 ≤ x ∧ x < nI (20 + P)) from fun q => by first | exact Int32.not_lt.mpr q.1 (by first | exact c29 | exact Int32.not_le.mp c29) | exact c40 (by rw [hpp]; exact (hp_iff hP (by decide) (k := 20) q.1).mpr q.2))))] at h
              exact h mi ml D (HI.refl _ _) hc
