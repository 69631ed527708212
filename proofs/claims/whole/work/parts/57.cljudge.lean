/-! the class: judge -/
theorem jd2_iff {s p : Nat} {y : Int32} (hs : s ≤ 60) (hp : p ≤ 6) (hy : 0 ≤ y) : nI p < nI s - y ↔ nn y + p < s := by
  obtain ⟨y1, y2⟩ := nn_of hy
  rw [Int32.lt_iff_toInt_lt]
  rw [y2, sub_toInt hs y1, nI_toInt (by omega), nnI y1]
  omega

set_option maxHeartbeats 4000000 in
theorem L_judgeC {G : rn_G} {d : Nat} {κ : Nat × Nat} {Q : Option Value → rn_S → Prop} {mi : Nat → Nat → Int32} {ml : Nat → Nat → Int64} {D : Nat → Nat} {w : WD} {c k : Nat} {ds : Nat → CL} {sl : SL} {el bl : EL} {im : IM} {T : Nat → Nat} {L : Nat} {ac : List Int32} {tp : TP} (hv : IV w c k ds sl el bl im ac tp) (hc : CR w c k ds sl el bl im T L ac tp mi ml D) {i P : Nat} {x y : Int32} {V : Int32} (hi6 : i < 6) (hpp : mi 2 6 = nI P) (hP : P ≤ 6) (hy : 0 ≤ y) (h : Q (some (.int V)) (mi, ml, RF D, 164)) : ∀ (n p : Nat) (z : Int32), p + n = P → z = nI p → jgF w (tp i).2.1 (tp i).2.2 (nn y) n p = V → Run G (d + 20) M_X8_judge 54 [.ref 1, .int x, .int y, .ref (104 + 2 * i), .int z] [] (mi, ml, RF D, 164) κ Q := by
  have hB : PB 2 := Or.inl rfl
  obtain ⟨t1, t2, t3⟩ := hc.2.2.2.2.2.2.2.2.1 i hi6
  rw [show 105 + 2 * i = 104 + 2 * i + 1 by omega] at t3
  obtain ⟨v1, v2, v3⟩ := hv.2.2.2.2.2 i hi6
  have hpi := pt_of hi6
  intro n
  induction n with
  | zero =>
    intro p z hp hz hV
    have hpP : p = P := by omega
    have hV0 : -5 = V := hV
    refine il_4 dX8_judge_54 ?_
    refine al_0 dX8_judge_56 ?_
    refine R_getfr (r := 2) dX8_judge_57 fl_RX8_12 rfl sh_1 (Nat.le_of_ble_eq_true rfl) rf_1_0 ?_
    refine R_getfi dX8_judge_60 fl_RX8_86 rfl sh_2 (Nat.le_of_ble_eq_true rfl) ?_
    refine R_icmp_ge (tgt := 119) dX8_judge_63 (by decide) (fun c63 => ?_) (fun q => absurd q (not_not_intro (by rw [hz, hpP, hpp]; exact Int32.le_refl _)))
    refine R_bipush (v := -5) dX8_judge_119 (by decide) ?_
    refine R_ireturn dX8_judge_121 ⟨_, rfl, rfl⟩ ?_
    rw [hV0]
    exact h
  | succ n ih =>
    intro p z hp hz hV
    have hp6 : p < 6 := by omega
    have hPp : w.2.2.2 p = pC mi (2 + 7 + 2 * p) := hc.1.per hpp hP (by omega)
    have hpq : PQ (2 + 7 + 2 * p) := pb_q hB hp6
    have hjd := jd2_iff (s := (tp i).2.1) (p := p) v1 (by omega) hy
    have hV : (if nn y + p < (tp i).2.1 then (if (tp i).2.2 (nn y + p) = (w.2.2.2 p 2).toInt64 then jgF w (tp i).2.1 (tp i).2.2 (nn y) n (p + 1) else nI p) else nI (100 + p)) = V := hV
    rw [hPp] at hV
    have hV : (if nn y + p < (tp i).2.1 then (if (tp i).2.2 (nn y + p) = (mi (2 + 7 + 2 * p) 2).toInt64 then jgF w (tp i).2.1 (tp i).2.2 (nn y) n (p + 1) else nI p) else nI (100 + p)) = V := hV
    by_cases hf : nn y + p < (tp i).2.1
    · rw [if_pos hf] at hV
      have e60 : y + z = nI (nn y + p) := by
        rw [hz]
        exact (congrArg (· + nI p) (nn_of hy).2).trans (sm_add _ _)
      have eit := t3 (nn y + p) (by omega)
      refine il_4 dX8_judge_54 ?_
      refine al_0 dX8_judge_56 ?_
      refine R_getfr (r := 2) dX8_judge_57 fl_RX8_12 rfl sh_1 (Nat.le_of_ble_eq_true rfl) rf_1_0 ?_
      refine R_getfi dX8_judge_60 fl_RX8_86 rfl sh_2 (Nat.le_of_ble_eq_true rfl) ?_
      refine R_icmp_ge (tgt := 119) dX8_judge_63 (by decide) (fun q => absurd q (by rw [hz, hpp]; exact nI_ge (by omega) (by omega))) (fun c63 => ?_)
      refine il_4 dX8_judge_66 ?_
      refine al_3 dX8_judge_68 ?_
      refine R_getfi dX8_judge_69 fl_RX8_308 rfl (pt_s0 hpi) (show (104 + 2 * i) < 164 by have := pt_n hpi; omega) ?_
      refine il_2 dX8_judge_72 ?_
      refine R_isub dX8_judge_73 ?_
      refine R_icmp_lt (tgt := 83) dX8_judge_74 (by decide) (fun c74 => ?_) (fun q => absurd q (not_not_intro (by rw [t2, hz]; exact hjd.mpr hf)))
      refine al_3 dX8_judge_83 ?_
      refine R_getfr (r := (104 + 2 * i) + 1) dX8_judge_84 fl_RX8_309 rfl (pt_s0 hpi) (show (104 + 2 * i) < 164 by have := pt_n hpi; omega) (pt_r0 hpi) ?_
      refine il_2 dX8_judge_87 ?_
      refine il_4 dX8_judge_88 ?_
      refine R_iadd dX8_judge_90 ?_
      refine R_lald dX8_judge_91 (pt_s1 hpi) (show (104 + 2 * i) + 1 < 164 by have := pt_n hpi; omega) (rn_ixe e60) (show nn y + p < 60 by omega) ?_
      refine al_0 dX8_judge_92 ?_
      refine R_getfr (r := 2) dX8_judge_93 fl_RX8_12 rfl sh_1 (Nat.le_of_ble_eq_true rfl) rf_1_0 ?_
      refine R_getfr (r := 4) dX8_judge_96 fl_RX8_96 rfl sh_2 (Nat.le_of_ble_eq_true rfl) rf_2_1 ?_
      refine il_4 dX8_judge_99 ?_
      refine R_aald (t := 4) (r := (2 + 7 + 2 * p)) dX8_judge_101 (by decide) sh_4 (Nat.le_of_ble_eq_true rfl) (rn_ixe hz) hp6 (pb_rq (b := 2) hB hp6) ?_
      refine R_getfi dX8_judge_102 fl_RX8_108 rfl (pq_s0 hpq) (show (2 + 7 + 2 * p) < 164 by have := pq_n hpq; omega) ?_
      refine R_i2l dX8_judge_105 ?_
      rw [eit]
      refine R_lcmp dX8_judge_106 ?_
      refine R_if_eq (tgt := 113) dX8_judge_107 (by decide) (fun c107 => ?_) (fun c107 => ?_)
      · refine ii_4 (v := _ + 1) dX8_judge_113 rfl (by rfl) ?_
        refine R_goto (tgt := 54) dX8_judge_116 (by decide) ?_
        rw [if_pos (lg_0.mp c107)] at hV
        exact ih (p + 1) _ (by omega) (by rw [hz]; exact sm_add p 1) hV
      · refine il_4 dX8_judge_110 ?_
        refine R_ireturn dX8_judge_112 ⟨_, rfl, rfl⟩ ?_
        rw [if_neg (fun q => c107 (lg_0.mpr q)), ← hz] at hV
        rw [hV]
        exact h
    · rw [if_neg hf] at hV
      refine il_4 dX8_judge_54 ?_
      refine al_0 dX8_judge_56 ?_
      refine R_getfr (r := 2) dX8_judge_57 fl_RX8_12 rfl sh_1 (Nat.le_of_ble_eq_true rfl) rf_1_0 ?_
      refine R_getfi dX8_judge_60 fl_RX8_86 rfl sh_2 (Nat.le_of_ble_eq_true rfl) ?_
      refine R_icmp_ge (tgt := 119) dX8_judge_63 (by decide) (fun q => absurd q (by rw [hz, hpp]; exact nI_ge (by omega) (by omega))) (fun c63 => ?_)
      refine il_4 dX8_judge_66 ?_
      refine al_3 dX8_judge_68 ?_
      refine R_getfi dX8_judge_69 fl_RX8_308 rfl (pt_s0 hpi) (show (104 + 2 * i) < 164 by have := pt_n hpi; omega) ?_
      refine il_2 dX8_judge_72 ?_
      refine R_isub dX8_judge_73 ?_
      refine R_icmp_lt (tgt := 83) dX8_judge_74 (by decide) (fun q => absurd q (by rw [t2, hz]; exact fun q => hf (hjd.mp q))) (fun c74 => ?_)
      refine R_bipush (v := 100) dX8_judge_77 (by decide) ?_
      refine il_4 dX8_judge_79 ?_
      refine R_iadd dX8_judge_81 ?_
      refine R_ireturn dX8_judge_82 ⟨_, rfl, rfl⟩ ?_
      rw [show (100 : Int32) + z = nI (100 + p) by rw [hz]; exact sm_add 100 p, hV]
      exact h

set_option maxHeartbeats 4000000 in
theorem L_judge34 {G : rn_G} {d : Nat} {κ : Nat × Nat} {Q : Option Value → rn_S → Prop} {mi : Nat → Nat → Int32} {ml : Nat → Nat → Int64} {D : Nat → Nat} {w : WD} {c k : Nat} {ds : Nat → CL} {sl : SL} {el bl : EL} {im : IM} {T : Nat → Nat} {L : Nat} {ac : List Int32} {tp : TP} (hv : IV w c k ds sl el bl im ac tp) (hc : CR w c k ds sl el bl im T L ac tp mi ml D) {i P : Nat} {x y : Int32} (hi6 : i < 6) (hpp : mi 2 6 = nI P) (hP : P ≤ 6) (h : ∀ m l D', HI mi m ml l → CR w c k ds sl el bl im T L ac tp m l D' → Q (some (.int (if y < 0 then (if P = 0 then -5 else 100) else jgF w (tp i).2.1 (tp i).2.2 (nn y) P 0))) (m, l, RF D', 164)) : Run G (d + 20) M_X8_judge 34 [.ref 1, .int x, .int y, .ref (104 + 2 * i), .null] [] (mi, ml, RF D, 164) κ Q := by
  have hB : PB 2 := Or.inl rfl
  have hpi := pt_of hi6
  have hQ := h mi ml D (HI.refl _ _) hc
  by_cases y0 : y < 0
  · rw [if_pos y0] at hQ
    by_cases P0 : P = 0
    · rw [if_pos P0] at hQ
      refine il_2 dX8_judge_34 ?_
      refine R_if_ge (tgt := 51) dX8_judge_35 (by decide) (fun q => absurd q (Int32.not_le.mpr y0)) (fun c35 => ?_)
      refine al_0 dX8_judge_38 ?_
      refine R_getfr (r := 2) dX8_judge_39 fl_RX8_12 rfl sh_1 (Nat.le_of_ble_eq_true rfl) rf_1_0 ?_
      refine R_getfi dX8_judge_42 fl_RX8_86 rfl sh_2 (Nat.le_of_ble_eq_true rfl) ?_
      refine R_if_le (tgt := 51) dX8_judge_45 (by decide) (fun c45 => ?_) (fun q => absurd q (not_not_intro (by rw [hpp, P0]; decide)))
      refine R_iconst (v := 0) dX8_judge_51 (by decide) ?_
      refine is_4 dX8_judge_52 rfl ?_
      refine il_4 dX8_judge_54 ?_
      refine al_0 dX8_judge_56 ?_
      refine R_getfr (r := 2) dX8_judge_57 fl_RX8_12 rfl sh_1 (Nat.le_of_ble_eq_true rfl) rf_1_0 ?_
      refine R_getfi dX8_judge_60 fl_RX8_86 rfl sh_2 (Nat.le_of_ble_eq_true rfl) ?_
      refine R_icmp_ge (tgt := 119) dX8_judge_63 (by decide) (fun c63 => ?_) (fun q => absurd q (not_not_intro (by rw [hpp, P0]; decide)))
      refine R_bipush (v := -5) dX8_judge_119 (by decide) ?_
      refine R_ireturn dX8_judge_121 ⟨_, rfl, rfl⟩ ?_
      exact hQ
    · rw [if_neg P0] at hQ
      have p0 : ¬ mi 2 6 ≤ 0 := by rw [hpp]; exact fun q => P0 (by have := (sm_le_iff (b := 0) (by omega) (by decide)).mp q; omega)
      refine il_2 dX8_judge_34 ?_
      refine R_if_ge (tgt := 51) dX8_judge_35 (by decide) (fun q => absurd q (Int32.not_le.mpr y0)) (fun c35 => ?_)
      refine al_0 dX8_judge_38 ?_
      refine R_getfr (r := 2) dX8_judge_39 fl_RX8_12 rfl sh_1 (Nat.le_of_ble_eq_true rfl) rf_1_0 ?_
      refine R_getfi dX8_judge_42 fl_RX8_86 rfl sh_2 (Nat.le_of_ble_eq_true rfl) ?_
      refine R_if_le (tgt := 51) dX8_judge_45 (by decide) (fun q => absurd q (p0)) (fun c45 => ?_)
      refine R_bipush (v := 100) dX8_judge_48 (by decide) ?_
      refine R_ireturn dX8_judge_50 ⟨_, rfl, rfl⟩ ?_
      exact hQ
  · rw [if_neg y0] at hQ
    refine il_2 dX8_judge_34 ?_
    refine R_if_ge (tgt := 51) dX8_judge_35 (by decide) (fun c35 => ?_) (fun q => absurd q (not_not_intro (Int32.not_lt.mp y0)))
    refine R_iconst (v := 0) dX8_judge_51 (by decide) ?_
    refine is_4 dX8_judge_52 rfl ?_
    exact L_judgeC hv hc hi6 hpp hP (Int32.not_lt.mp y0) hQ P 0 0 (Nat.zero_add P) rfl rfl

set_option maxHeartbeats 4000000 in
theorem KC_judge {G : rn_G} {d : Nat} {κ : Nat × Nat} {Q : Option Value → rn_S → Prop} {mi : Nat → Nat → Int32} {ml : Nat → Nat → Int64} {D : Nat → Nat} {x y : Int32} {w : WD} {c k : Nat} {ds : Nat → CL} {sl : SL} {el bl : EL} {im : IM} {T : Nat → Nat} {L : Nat} {ac : List Int32} {tp : TP} (hv : IV w c k ds sl el bl im ac tp) (hc : CR w c k ds sl el bl im T L ac tp mi ml D) (h : ∀ m l D', HI mi m ml l → CR w c k ds sl el bl im T L ac tp m l D' → Q (some (.int (judgeA w tp x y))) (m, l, RF D', 164))  : Call G (d + 30) M_X8_judge [.ref 1, .int x, .int y] (mi, ml, RF D, 164) κ Q := by
  show Run G _ M_X8_judge 0 [.ref 1, .int x, .int y, .null, .null] [] _ _ _
  have hw := hv.1.1
  have hk6 := hv.2.2.1
  have hck := hv.2.1
  have hB : PB 2 := Or.inl rfl
  obtain ⟨hD2, hwc, z12, z13, z14⟩ := hc.1
  obtain ⟨cp1, cp2, cp3, cp4⟩ := cuA_pd (c := c) (by omega)
  have hkD : PD (D 2) := by rw [hD2]; exact cp1
  obtain ⟨N, P, R, hN, hP, hR, hg, hpp, hrr, hPJ⟩ := hc.1.n hw
  obtain ⟨w0, w1, w2, w3, w4, w5, w6⟩ := hc.1.cells
  have htp := hc.2.2.2.2.2.2.2.2.1
  have htv := hv.2.2.2.2.2
  have nP : nn (w.1 2) = P := by rw [w2, hpp]; exact nnI (by omega)
  unfold judgeA at h
  refine il_1 dX8_judge_0 ?_
  refine cs_1 dX8_judge_1 mm_RX8_302 (Nat.le_of_ble_eq_true rfl) (Nat.le_of_ble_eq_true rfl) (K_isTape (fun c1 => ?_) (fun c1 => ?_))
  · refine R_if_ne (tgt := 9) dX8_judge_4 (by decide) (fun _ => ?_) (fun q => absurd q (by decide))
    have ctx := tape6.mp c1
    obtain ⟨i, hi6, hx⟩ := sm_of c1.1 (show x < nI 6 from c1.2) (by decide)
    have hnx : nn x = i := by rw [hx]; exact nnI (by omega)
    obtain ⟨ti1, ti2, ti3⟩ := htp i hi6
    rw [show 105 + 2 * i = 104 + 2 * i + 1 by omega] at ti3
    obtain ⟨vi1, vi2, vi3⟩ := htv i hi6
    obtain ⟨sni1, sni2⟩ := sort_neg vi2
    have hpi := pt_of hi6
    refine al_0 dX8_judge_9 ?_
    refine R_getfr (r := 91) dX8_judge_10 fl_RX8_65 rfl sh_1 (Nat.le_of_ble_eq_true rfl) rf_1_9 ?_
    refine il_1 dX8_judge_13 ?_
    refine R_aald (t := 6) (r := (104 + 2 * i)) dX8_judge_14 (by decide) sh_91 (Nat.le_of_ble_eq_true rfl) (rn_ixe hx) hi6 (pt_r hi6) ?_
    refine as_3 dX8_judge_15 rfl ?_
    refine al_3 dX8_judge_16 ?_
    refine R_getfi dX8_judge_17 fl_RX8_305 rfl (pt_s0 hpi) (show (104 + 2 * i) < 164 by have := pt_n hpi; omega) ?_
    refine R_iconst (v := -1) dX8_judge_20 (by decide) ?_
    refine R_icmp_eq (tgt := 34) dX8_judge_21 (by decide) (fun c21 => ?_) (fun c21 => ?_)
    · have hs : (tp i).1 = -1 ∨ (tp i).1 = 0 := by rw [← ti1]; first | exact Or.inl c21 | exact Or.inr c28
      rw [if_pos ctx, hnx, if_pos hs, nP] at h
      exact L_judge34 hv hc hi6 hpp hP h
    · refine al_3 dX8_judge_24 ?_
      refine R_getfi dX8_judge_25 fl_RX8_305 rfl (pt_s0 hpi) (show (104 + 2 * i) < 164 by have := pt_n hpi; omega) ?_
      refine R_if_eq (tgt := 34) dX8_judge_28 (by decide) (fun c28 => ?_) (fun c28 => ?_)
      · have hs : (tp i).1 = -1 ∨ (tp i).1 = 0 := by rw [← ti1]; first | exact Or.inl c21 | exact Or.inr c28
        rw [if_pos ctx, hnx, if_pos hs, nP] at h
        exact L_judge34 hv hc hi6 hpp hP h
      · refine R_bipush (v := -12) dX8_judge_31 (by decide) ?_
        refine R_ireturn dX8_judge_33 ⟨_, rfl, rfl⟩ ?_
        rw [if_pos ctx, hnx, if_neg (fun q => q.elim (fun q => c21 (ti1.trans q)) (fun q => c28 (ti1.trans q)))] at h
        exact h mi ml D (HI.refl _ _) hc
  · refine R_if_ne (tgt := 9) dX8_judge_4 (by decide) (fun q => absurd q (by decide)) (fun _ => ?_)
    refine R_iconst (v := -1) dX8_judge_7 (by decide) ?_
    refine R_ireturn dX8_judge_8 ⟨_, rfl, rfl⟩ ?_
    rw [if_neg (fun q => c1 (tape6.mpr q))] at h
    exact h mi ml D (HI.refl _ _) hc
