/-! the reference: shift, judge, act -/
theorem sub_toInt {s a : Nat} (hs : s ≤ 60) (ha : a < 2 ^ 31) : (nI s - nI a).toInt = (s : Int) - a := by
  rw [Int32.toInt_sub, nI_toInt (by omega), nI_toInt ha]
  exact Int.bmod_eq_of_le (by omega) (by omega)
theorem sub2_toInt {s a : Nat} (hs : s ≤ 60) (ha : a ≤ 60) : (nI s - nI a - 1).toInt = (s : Int) - a - 1 := by
  rw [Int32.toInt_sub, sub_toInt hs (by omega), show (1 : Int32).toInt = 1 from rfl]
  exact Int.bmod_eq_of_le (by omega) (by omega)
theorem nn_of {x : Int32} (h : 0 ≤ x) : nn x < 2 ^ 31 ∧ x = nI (nn x) := by
  obtain ⟨a, ha, e⟩ : ∃ a, a < 2 ^ 31 ∧ x = nI a := by
    rw [Int32.le_iff_toInt_le, Int32.toInt_zero] at h
    have h2 := x.toInt_lt
    exact ⟨x.toInt.toNat, by omega, Int32.toInt_inj.mp (by rw [nI_toInt (by omega)]; omega)⟩
  rw [e, nnI ha]
  exact ⟨ha, rfl⟩
/-- where so many fit -/
theorem fit_iff {s : Nat} {n y : Int32} (hs : s ≤ 60) (hn : 0 ≤ n) (hy : 0 ≤ y) : y ≤ nI s - n ↔ nn y + nn n ≤ s := by
  obtain ⟨n1, n2⟩ := nn_of hn
  obtain ⟨y1, y2⟩ := nn_of hy
  rw [Int32.le_iff_toInt_le]
  rw [n2, y2, sub_toInt hs n1, nI_toInt y1, nnI n1, nnI y1]
  omega
theorem jd_iff {s p : Nat} {y : Int32} (hs : s ≤ 60) (hp : p ≤ 6) (hy : 0 ≤ y) : y ≤ nI s - nI p - 1 ↔ nn y + p < s := by
  obtain ⟨y1, y2⟩ := nn_of hy
  rw [Int32.le_iff_toInt_le, sub2_toInt hs (by omega)]
  rw [y2, nI_toInt y1, nnI y1]
  omega

set_option maxHeartbeats 4000000 in
theorem L_judge9 {G : rn_G} {d : Nat} {κ : Nat × Nat} {Q : Option Value → rn_S → Prop} {mi : Nat → Nat → Int32} {ml : Nat → Nat → Int64} {D : Nat → Nat} {w : WD} {c k : Nat} {ds : Nat → CL} {sl : SL} {el bl : EL} {im : IM} {T : Nat → Nat} {L : Nat} {ac : List Int32} {tp : TP} (hv : IV w c k ds sl el bl im ac tp) (hr : MR w c k ds sl el bl im T L ac tp mi ml) {i P : Nat} {x y : Int32} {V : Int32} (hx : x = nI i) (hi6 : i < 6) (hpp : mi 116 1 = nI P) (hP : P ≤ 6) (hs : (tp i).1 = -1 ∨ (tp i).1 = 0) (hy : 0 ≤ y) (h : Q (some (.int V)) (mi, ml, RF D, 164)) : ∀ (n p : Nat) (z : Int32), p + n = P → z = nI p → jgF w (tp i).2.1 (tp i).2.2 (nn y) n p = V → Run G (d + 20) M_X9_judge 24 [.ref 116, .int x, .int y, .int z] [] (mi, ml, RF D, 164) κ Q := by
  have hB := hr.1
  obtain ⟨t1, t2, t3⟩ := hr.2.2.2.2.2.2.2.2.2 i hi6
  obtain ⟨v1, v2, v3⟩ := hv.2.2.2.2.2 i hi6
  intro n
  induction n with
  | zero =>
    intro p z hp hz hV
    have hpP : p = P := by omega
    have hV0 : -5 = V := hV
    refine il_3 dX9_judge_24 ?_
    refine al_0 dX9_judge_25 ?_
    refine R_getfi dX9_judge_26 fl_RX9_13 rfl sh_116 (Nat.le_of_ble_eq_true rfl) ?_
    refine R_icmp_ge (tgt := 96) dX9_judge_29 (by decide) (fun c29 => ?_) (fun q => absurd q (not_not_intro (by rw [hz, hpP, hpp]; exact Int32.le_refl _)))
    refine R_bipush (v := -5) dX9_judge_96 (by decide) ?_
    refine R_ireturn dX9_judge_98 ⟨_, rfl, rfl⟩ ?_
    rw [hV0]
    exact h
  | succ n ih =>
    intro p z hp hz hV
    have hp6 : p < 6 := by omega
    have hPp : w.2.2.2 p = pM mi p := hB.per hpp hP (by omega)
    have hjd := jd_iff (s := (tp i).2.1) (p := p) v1 (by omega) hy
    have hV : (if nn y + p < (tp i).2.1 then (if (tp i).2.2 (nn y + p) = (w.2.2.2 p 2).toInt64 then jgF w (tp i).2.1 (tp i).2.2 (nn y) n (p + 1) else nI p) else nI (100 + p)) = V := hV
    rw [hPp] at hV
    have hV : (if nn y + p < (tp i).2.1 then (if (tp i).2.2 (nn y + p) = (mi 120 p).toInt64 then jgF w (tp i).2.1 (tp i).2.2 (nn y) n (p + 1) else nI p) else nI (100 + p)) = V := hV
    by_cases s0 : mi 160 i < 0
    · have hsz := v3 ((sort_neg v2).1.mp (by rw [← t1]; exact s0))
      rw [hsz, if_neg (Nat.not_lt_zero _)] at hV
      refine il_3 dX9_judge_24 ?_
      refine al_0 dX9_judge_25 ?_
      refine R_getfi dX9_judge_26 fl_RX9_13 rfl sh_116 (Nat.le_of_ble_eq_true rfl) ?_
      refine R_icmp_ge (tgt := 96) dX9_judge_29 (by decide) (fun q => absurd q (by rw [hz, hpp]; exact nI_ge (by omega) (by omega))) (fun c29 => ?_)
      refine al_0 dX9_judge_32 ?_
      refine R_getfr (r := 160) dX9_judge_33 fl_RX9_280 rfl sh_116 (Nat.le_of_ble_eq_true rfl) rf_116_89 ?_
      refine il_1 dX9_judge_36 ?_
      refine R_iald dX9_judge_37 sh_160 (Nat.le_of_ble_eq_true rfl) (rn_ixe hx) hi6 ?_
      refine R_if_lt (tgt := 59) dX9_judge_38 (by decide) (fun c38 => ?_) (fun q => absurd q (not_not_intro s0))
      refine R_bipush (v := 100) dX9_judge_59 (by decide) ?_
      refine il_3 dX9_judge_61 ?_
      refine R_iadd dX9_judge_62 ?_
      refine R_ireturn dX9_judge_63 ⟨_, rfl, rfl⟩ ?_
      rw [show (100 : Int32) + z = nI (100 + p) by rw [hz]; exact sm_add 100 p, hV]
      exact h
    · have y0 : ¬ y < 0 := Int32.not_lt.mpr hy
      by_cases hf : nn y + p < (tp i).2.1
      · rw [if_pos hf] at hV
        have e60 : (60 : Int32) * x + y + z = nI (60 * i + (nn y + p)) := by rw [hx, hz, (nn_of hy).2, nnI (nn_of hy).1]; exact (congrArg (fun v => v + nI (nn y) + nI p) (sm_mul 60 i)).trans ((congrArg (· + nI p) (sm_add _ _)).trans ((sm_add _ _).trans (congrArg nI (by omega))))
        have eit := t3 (nn y + p) (by omega)
        refine il_3 dX9_judge_24 ?_
        refine al_0 dX9_judge_25 ?_
        refine R_getfi dX9_judge_26 fl_RX9_13 rfl sh_116 (Nat.le_of_ble_eq_true rfl) ?_
        refine R_icmp_ge (tgt := 96) dX9_judge_29 (by decide) (fun q => absurd q (by rw [hz, hpp]; exact nI_ge (by omega) (by omega))) (fun c29 => ?_)
        refine al_0 dX9_judge_32 ?_
        refine R_getfr (r := 160) dX9_judge_33 fl_RX9_280 rfl sh_116 (Nat.le_of_ble_eq_true rfl) rf_116_89 ?_
        refine il_1 dX9_judge_36 ?_
        refine R_iald dX9_judge_37 sh_160 (Nat.le_of_ble_eq_true rfl) (rn_ixe hx) hi6 ?_
        refine R_if_lt (tgt := 59) dX9_judge_38 (by decide) (fun q => absurd q (s0)) (fun c38 => ?_)
        refine il_2 dX9_judge_41 ?_
        refine R_if_lt (tgt := 59) dX9_judge_42 (by decide) (fun q => absurd q (y0)) (fun c42 => ?_)
        refine il_2 dX9_judge_45 ?_
        refine al_0 dX9_judge_46 ?_
        refine R_getfr (r := 161) dX9_judge_47 fl_RX9_283 rfl sh_116 (Nat.le_of_ble_eq_true rfl) rf_116_90 ?_
        refine il_1 dX9_judge_50 ?_
        refine R_iald dX9_judge_51 sh_161 (Nat.le_of_ble_eq_true rfl) (rn_ixe hx) hi6 ?_
        refine il_3 dX9_judge_52 ?_
        refine R_isub dX9_judge_53 ?_
        refine R_iconst (v := 1) dX9_judge_54 (by decide) ?_
        refine R_isub dX9_judge_55 ?_
        refine R_icmp_le (tgt := 64) dX9_judge_56 (by decide) (fun c56 => ?_) (fun q => absurd q (not_not_intro (by rw [t2, hz]; exact hjd.mpr hf)))
        refine al_0 dX9_judge_64 ?_
        refine R_getfr (r := 162) dX9_judge_65 fl_RX9_286 rfl sh_116 (Nat.le_of_ble_eq_true rfl) rf_116_91 ?_
        refine R_bipush (v := 60) dX9_judge_68 (by decide) ?_
        refine il_1 dX9_judge_70 ?_
        refine R_imul dX9_judge_71 ?_
        refine il_2 dX9_judge_72 ?_
        refine R_iadd dX9_judge_73 ?_
        refine il_3 dX9_judge_74 ?_
        refine R_iadd dX9_judge_75 ?_
        refine R_lald dX9_judge_76 sh_162 (Nat.le_of_ble_eq_true rfl) (rn_ixe e60) (show 60 * i + (nn y + p) < 360 by omega) ?_
        refine al_0 dX9_judge_77 ?_
        refine R_getfr (r := 120) dX9_judge_78 fl_RX9_47 rfl sh_116 (Nat.le_of_ble_eq_true rfl) rf_116_12 ?_
        refine il_3 dX9_judge_81 ?_
        refine R_iald dX9_judge_82 sh_120 (Nat.le_of_ble_eq_true rfl) (rn_ixe hz) hp6 ?_
        refine R_i2l dX9_judge_83 ?_
        rw [eit]
        refine R_lcmp dX9_judge_84 ?_
        refine R_if_eq (tgt := 90) dX9_judge_85 (by decide) (fun c85 => ?_) (fun c85 => ?_)
        · refine ii_3 (v := _ + 1) dX9_judge_90 rfl (by rfl) ?_
          refine R_goto (tgt := 24) dX9_judge_93 (by decide) ?_
          rw [if_pos (lg_0.mp c85)] at hV
          exact ih (p + 1) _ (by omega) (by rw [hz]; exact sm_add p 1) hV
        · refine il_3 dX9_judge_88 ?_
          refine R_ireturn dX9_judge_89 ⟨_, rfl, rfl⟩ ?_
          rw [if_neg (fun q => c85 (lg_0.mpr q)), ← hz] at hV
          rw [hV]
          exact h
      · rw [if_neg hf] at hV
        refine il_3 dX9_judge_24 ?_
        refine al_0 dX9_judge_25 ?_
        refine R_getfi dX9_judge_26 fl_RX9_13 rfl sh_116 (Nat.le_of_ble_eq_true rfl) ?_
        refine R_icmp_ge (tgt := 96) dX9_judge_29 (by decide) (fun q => absurd q (by rw [hz, hpp]; exact nI_ge (by omega) (by omega))) (fun c29 => ?_)
        refine al_0 dX9_judge_32 ?_
        refine R_getfr (r := 160) dX9_judge_33 fl_RX9_280 rfl sh_116 (Nat.le_of_ble_eq_true rfl) rf_116_89 ?_
        refine il_1 dX9_judge_36 ?_
        refine R_iald dX9_judge_37 sh_160 (Nat.le_of_ble_eq_true rfl) (rn_ixe hx) hi6 ?_
        refine R_if_lt (tgt := 59) dX9_judge_38 (by decide) (fun q => absurd q (s0)) (fun c38 => ?_)
        refine il_2 dX9_judge_41 ?_
        refine R_if_lt (tgt := 59) dX9_judge_42 (by decide) (fun q => absurd q (y0)) (fun c42 => ?_)
        refine il_2 dX9_judge_45 ?_
        refine al_0 dX9_judge_46 ?_
        refine R_getfr (r := 161) dX9_judge_47 fl_RX9_283 rfl sh_116 (Nat.le_of_ble_eq_true rfl) rf_116_90 ?_
        refine il_1 dX9_judge_50 ?_
        refine R_iald dX9_judge_51 sh_161 (Nat.le_of_ble_eq_true rfl) (rn_ixe hx) hi6 ?_
        refine il_3 dX9_judge_52 ?_
        refine R_isub dX9_judge_53 ?_
        refine R_iconst (v := 1) dX9_judge_54 (by decide) ?_
        refine R_isub dX9_judge_55 ?_
        refine R_icmp_le (tgt := 64) dX9_judge_56 (by decide) (fun q => absurd q (by rw [t2, hz]; exact fun q => hf (hjd.mp q))) (fun c56 => ?_)
        refine R_bipush (v := 100) dX9_judge_59 (by decide) ?_
        refine il_3 dX9_judge_61 ?_
        refine R_iadd dX9_judge_62 ?_
        refine R_ireturn dX9_judge_63 ⟨_, rfl, rfl⟩ ?_
        rw [show (100 : Int32) + z = nI (100 + p) by rw [hz]; exact sm_add 100 p, hV]
        exact h

set_option maxHeartbeats 4000000 in
theorem MC_judge {G : rn_G} {d : Nat} {κ : Nat × Nat} {Q : Option Value → rn_S → Prop} {mi : Nat → Nat → Int32} {ml : Nat → Nat → Int64} {D : Nat → Nat} {x y : Int32} {w : WD} {c k : Nat} {ds : Nat → CL} {sl : SL} {el bl : EL} {im : IM} {T : Nat → Nat} {L : Nat} {ac : List Int32} {tp : TP} (hv : IV w c k ds sl el bl im ac tp) (hr : MR w c k ds sl el bl im T L ac tp mi ml) (h : ∀ m l, LO mi m ml l → MR w c k ds sl el bl im T L ac tp m l → Q (some (.int (judgeA w tp x y))) (m, l, RF D, 164))  : Call G (d + 20) M_X9_judge [.ref 116, .int x, .int y] (mi, ml, RF D, 164) κ Q := by
  show Run G _ M_X9_judge 0 [.ref 116, .int x, .int y, .null] [] _ _ _
  have hB := hr.1
  have hw := hv.1.1
  have hk6 := hv.2.2.1
  obtain ⟨N, P, R, ⟨hN, hP, hR, hg, hpp, hrr, hdn, hmn, hkp, hwt, hgp, htr⟩, hpc, hbits, hPJ⟩ := hB.n hw
  obtain ⟨w0, w1, w2, w3, w4, w5, w6, w10⟩ := hB.cells
  have htp := hr.2.2.2.2.2.2.2.2.2
  have htv := hv.2.2.2.2.2
  have nP : nn (w.1 2) = P := by rw [w2, hpp]; exact nnI (by omega)
  unfold judgeA at h
  refine al_0 dX9_judge_0 ?_
  refine il_1 dX9_judge_1 ?_
  refine cv_1 dX9_judge_2 mm_RX9_469 sh_116 (Nat.le_of_ble_eq_true rfl) ⟨_, rfl, rfl⟩ (Nat.le_of_ble_eq_true rfl) (Nat.le_of_ble_eq_true rfl) (M_isTape (fun c2 => ?_) (fun c2 => ?_))
  · refine R_if_ne (tgt := 10) dX9_judge_5 (by decide) (fun _ => ?_) (fun q => absurd q (by decide))
    obtain ⟨i, hi6, hx⟩ := sm_of c2.1 ((lt_succ_iff (a := 5)).mpr c2.2) (by decide)
    have hnx : nn x = i := by rw [hx]; exact nnI (by omega)
    obtain ⟨ti1, ti2, ti3⟩ := htp i hi6
    obtain ⟨vi1, vi2, vi3⟩ := htv i hi6
    obtain ⟨sni1, sni2⟩ := sort_neg vi2
    refine al_0 dX9_judge_10 ?_
    refine R_getfr (r := 160) dX9_judge_11 fl_RX9_280 rfl sh_116 (Nat.le_of_ble_eq_true rfl) rf_116_89 ?_
    refine il_1 dX9_judge_14 ?_
    refine R_iald dX9_judge_15 sh_160 (Nat.le_of_ble_eq_true rfl) (rn_ixe hx) hi6 ?_
    refine R_if_le (tgt := 22) dX9_judge_16 (by decide) (fun c16 => ?_) (fun c16 => ?_)
    · refine R_iconst (v := 0) dX9_judge_22 (by decide) ?_
      refine is_3 dX9_judge_23 rfl ?_
      have hs : (tp i).1 = -1 ∨ (tp i).1 = 0 := by
        by_cases q : (tp i).1 = -1 ∨ (tp i).1 = 0
        · exact q
        · exact absurd (sni2.mpr q) (by rw [← ti1]; exact Int32.not_lt.mpr (by first | exact c16 | exact Int32.not_lt.mp c16))
      rw [if_pos c2, hnx, if_pos hs, nP] at h
      by_cases y0 : y < 0
      · rw [if_pos y0] at h
        by_cases P0 : P = 0
        · rw [if_pos P0] at h
          refine il_3 dX9_judge_24 ?_
          refine al_0 dX9_judge_25 ?_
          refine R_getfi dX9_judge_26 fl_RX9_13 rfl sh_116 (Nat.le_of_ble_eq_true rfl) ?_
          refine R_icmp_ge (tgt := 96) dX9_judge_29 (by decide) (fun c29 => ?_) (fun q => absurd q (not_not_intro (by rw [hpp, P0]; decide)))
          refine R_bipush (v := -5) dX9_judge_96 (by decide) ?_
          refine R_ireturn dX9_judge_98 ⟨_, rfl, rfl⟩ ?_
          exact h mi ml (LO.refl _ _) hr
        · rw [if_neg P0] at h
          have p0 : ¬ mi 116 1 ≤ 0 := by rw [hpp]; exact fun q => P0 (by have := (sm_le_iff (b := 0) (by omega) (by decide)).mp q; omega)
          refine il_3 dX9_judge_24 ?_
          refine al_0 dX9_judge_25 ?_
          refine R_getfi dX9_judge_26 fl_RX9_13 rfl sh_116 (Nat.le_of_ble_eq_true rfl) ?_
          refine R_icmp_ge (tgt := 96) dX9_judge_29 (by decide) (fun q => absurd q (p0)) (fun c29 => ?_)
          refine al_0 dX9_judge_32 ?_
          refine R_getfr (r := 160) dX9_judge_33 fl_RX9_280 rfl sh_116 (Nat.le_of_ble_eq_true rfl) rf_116_89 ?_
          refine il_1 dX9_judge_36 ?_
          refine R_iald dX9_judge_37 sh_160 (Nat.le_of_ble_eq_true rfl) (rn_ixe hx) hi6 ?_
          refine R_if_lt (tgt := 59) dX9_judge_38 (by decide) (fun c38 => ?_) (fun c38 => ?_)
          · refine R_bipush (v := 100) dX9_judge_59 (by decide) ?_
            refine il_3 dX9_judge_61 ?_
            refine R_iadd dX9_judge_62 ?_
            refine R_ireturn dX9_judge_63 ⟨_, rfl, rfl⟩ ?_
            exact h mi ml (LO.refl _ _) hr
          · refine il_2 dX9_judge_41 ?_
            refine R_if_lt (tgt := 59) dX9_judge_42 (by decide) (fun c42 => ?_) (fun q => absurd q (not_not_intro y0))
            refine R_bipush (v := 100) dX9_judge_59 (by decide) ?_
            refine il_3 dX9_judge_61 ?_
            refine R_iadd dX9_judge_62 ?_
            refine R_ireturn dX9_judge_63 ⟨_, rfl, rfl⟩ ?_
            exact h mi ml (LO.refl _ _) hr
      · rw [if_neg y0] at h
        exact L_judge9 hv hr hx hi6 hpp hP hs (Int32.not_lt.mp y0) (h mi ml (LO.refl _ _) hr) P 0 0 (Nat.zero_add P) rfl rfl
    · refine R_bipush (v := -12) dX9_judge_19 (by decide) ?_
      refine R_ireturn dX9_judge_21 ⟨_, rfl, rfl⟩ ?_
      rw [if_pos c2, hnx, if_neg (sni2.mp (by rw [← ti1]; first | exact c16 | exact Int32.not_le.mp c16))] at h
      exact h mi ml (LO.refl _ _) hr
  · refine R_if_ne (tgt := 10) dX9_judge_5 (by decide) (fun q => absurd q (by decide)) (fun _ => ?_)
    refine R_iconst (v := -1) dX9_judge_8 (by decide) ?_
    refine R_ireturn dX9_judge_9 ⟨_, rfl, rfl⟩ ?_
    rw [if_neg c2] at h
    exact h mi ml (LO.refl _ _) hr

set_option maxHeartbeats 4000000 in
theorem L_shift1 {G : rn_G} {d : Nat} {κ : Nat × Nat} {Q : Option Value → rn_S → Prop} {mi : Nat → Nat → Int32} {D : Nat → Nat} {i a n : Nat} {x y u v z : Int32} (hx : x = nI i) (hy : y = nI a) (hz : z = nI n) (hi : i < 6) (han : a + n ≤ 60) : ∀ (r j : Nat) (q : Int32) (ml : Nat → Nat → Int64), j + r = n → q = nI j → (∀ l, (∀ b, b ≠ 163 → l b = ml b) → (∀ t, l 163 t = if j ≤ t ∧ t < n then ml 162 (60 * i + a + t) else ml 163 t) → Run G d M_X9_shift 138 [.ref 116, .int x, .int y, .int u, .int v, .int z, .int (nI n)] [] (mi, l, RF D, 164) κ Q) → Run G d M_X9_shift 104 [.ref 116, .int x, .int y, .int u, .int v, .int z, .int q] [] (mi, ml, RF D, 164) κ Q := by
  intro r
  induction r with
  | zero =>
    intro j q ml hj hq h
    obtain rfl : j = n := by omega
    refine il_6 dX9_shift_104 ?_
    refine il_5 dX9_shift_106 ?_
    refine R_icmp_ge (tgt := 138) dX9_shift_108 (by decide) (fun c108 => ?_) (fun q => absurd q (not_not_intro (by rw [hq, hz]; exact Int32.le_refl _)))
    rw [hq]
    exact h ml (fun _ _ => rfl) (fun t => by rw [if_neg (by omega)])
  | succ r ih =>
    intro j q ml hj hq h
    have e60 : (60 : Int32) * x + y + q = nI (60 * i + a + j) := by rw [hx, hy, hq]; exact (congrArg (fun v => v + nI a + nI j) (sm_mul 60 i)).trans ((congrArg (· + nI j) (sm_add _ _)).trans (sm_add _ _))
    refine il_6 dX9_shift_104 ?_
    refine il_5 dX9_shift_106 ?_
    refine R_icmp_ge (tgt := 138) dX9_shift_108 (by decide) (fun q => absurd q (by rw [hq, hz]; exact nI_ge (by omega) (by omega))) (fun c108 => ?_)
    refine al_0 dX9_shift_111 ?_
    refine R_getfr (r := 163) dX9_shift_112 fl_RX9_290 rfl sh_116 (Nat.le_of_ble_eq_true rfl) rf_116_92 ?_
    refine il_6 dX9_shift_115 ?_
    refine al_0 dX9_shift_117 ?_
    refine R_getfr (r := 162) dX9_shift_118 fl_RX9_286 rfl sh_116 (Nat.le_of_ble_eq_true rfl) rf_116_91 ?_
    refine R_bipush (v := 60) dX9_shift_121 (by decide) ?_
    refine il_1 dX9_shift_123 ?_
    refine R_imul dX9_shift_124 ?_
    refine il_2 dX9_shift_125 ?_
    refine R_iadd dX9_shift_126 ?_
    refine il_6 dX9_shift_127 ?_
    refine R_iadd dX9_shift_129 ?_
    refine R_lald dX9_shift_130 sh_162 (Nat.le_of_ble_eq_true rfl) (rn_ixe e60) (show 60 * i + a + j < 360 by omega) ?_
    refine R_last dX9_shift_131 sh_163 (Nat.le_of_ble_eq_true rfl) (rn_ixe hq) (show j < 60 by omega) ?_
    refine ii_6 (v := _ + 1) dX9_shift_132 rfl (by rfl) ?_
    refine R_goto (tgt := 104) dX9_shift_135 (by decide) ?_
    refine ih (j + 1) _ _ (by omega) (by rw [hq]; exact sm_add j 1) (fun l h1 h2 => h l (fun b hb => by rw [h1 b hb, rn_u_ne hb]) (fun t => ?_))
    rw [h2 t, rn_u_ne (show (162 : Nat) ≠ 163 by decide), rn_u_at]
    dsimp only
    by_cases e : t = j
    · rw [if_pos e, if_neg (by omega), if_pos (by omega), e]
    · rw [if_neg e]
      by_cases e2 : j + 1 ≤ t ∧ t < n
      · rw [if_pos e2, if_pos (by omega)]
      · rw [if_neg e2, if_neg (by omega)]

set_option maxHeartbeats 4000000 in
theorem L_shift2 {G : rn_G} {d : Nat} {κ : Nat × Nat} {Q : Option Value → rn_S → Prop} {mi : Nat → Nat → Int32} {D : Nat → Nat} {i a n : Nat} {x y u v z : Int32} (hu : u = nI i) (hv : v = nI a) (hz : z = nI n) (hi : i < 6) (han : a + n ≤ 60) : ∀ (r j : Nat) (q : Int32) (ml : Nat → Nat → Int64), j + r = n → q = nI j → (∀ l, (∀ b, b ≠ 162 → l b = ml b) → (∀ t, l 162 t = if 60 * i + a + j ≤ t ∧ t < 60 * i + a + n then ml 163 (t - (60 * i + a)) else ml 162 t) → Q (some (.int z)) (mi, l, RF D, 164)) → Run G d M_X9_shift 141 [.ref 116, .int x, .int y, .int u, .int v, .int z, .int q] [] (mi, ml, RF D, 164) κ Q := by
  intro r
  induction r with
  | zero =>
    intro j q ml hj hq h
    obtain rfl : j = n := by omega
    refine il_6 dX9_shift_141 ?_
    refine il_5 dX9_shift_143 ?_
    refine R_icmp_ge (tgt := 176) dX9_shift_145 (by decide) (fun c145 => ?_) (fun q => absurd q (not_not_intro (by rw [hq, hz]; exact Int32.le_refl _)))
    refine il_5 dX9_shift_176 ?_
    refine R_ireturn dX9_shift_178 ⟨_, rfl, rfl⟩ ?_
    exact h ml (fun _ _ => rfl) (fun t => by rw [if_neg (by omega)])
  | succ r ih =>
    intro j q ml hj hq h
    have e60 : (60 : Int32) * u + v + q = nI (60 * i + a + j) := by rw [hu, hv, hq]; exact (congrArg (fun v => v + nI a + nI j) (sm_mul 60 i)).trans ((congrArg (· + nI j) (sm_add _ _)).trans (sm_add _ _))
    refine il_6 dX9_shift_141 ?_
    refine il_5 dX9_shift_143 ?_
    refine R_icmp_ge (tgt := 176) dX9_shift_145 (by decide) (fun q => absurd q (by rw [hq, hz]; exact nI_ge (by omega) (by omega))) (fun c145 => ?_)
    refine al_0 dX9_shift_148 ?_
    refine R_getfr (r := 162) dX9_shift_149 fl_RX9_286 rfl sh_116 (Nat.le_of_ble_eq_true rfl) rf_116_91 ?_
    refine R_bipush (v := 60) dX9_shift_152 (by decide) ?_
    refine il_3 dX9_shift_154 ?_
    refine R_imul dX9_shift_155 ?_
    refine il_4 dX9_shift_156 ?_
    refine R_iadd dX9_shift_158 ?_
    refine il_6 dX9_shift_159 ?_
    refine R_iadd dX9_shift_161 ?_
    refine al_0 dX9_shift_162 ?_
    refine R_getfr (r := 163) dX9_shift_163 fl_RX9_290 rfl sh_116 (Nat.le_of_ble_eq_true rfl) rf_116_92 ?_
    refine il_6 dX9_shift_166 ?_
    refine R_lald dX9_shift_168 sh_163 (Nat.le_of_ble_eq_true rfl) (rn_ixe hq) (show j < 60 by omega) ?_
    refine R_last dX9_shift_169 sh_162 (Nat.le_of_ble_eq_true rfl) (rn_ixe e60) (show 60 * i + a + j < 360 by omega) ?_
    refine ii_6 (v := _ + 1) dX9_shift_170 rfl (by rfl) ?_
    refine R_goto (tgt := 141) dX9_shift_173 (by decide) ?_
    refine ih (j + 1) _ _ (by omega) (by rw [hq]; exact sm_add j 1) (fun l h1 h2 => h l (fun b hb => by rw [h1 b hb, rn_u_ne hb]) (fun t => ?_))
    rw [h2 t, rn_u_ne (show (163 : Nat) ≠ 162 by decide), rn_u_at]
    dsimp only
    by_cases e : t = 60 * i + a + j
    · rw [if_pos e, if_neg (by omega), if_pos (by omega), e, Nat.add_sub_cancel_left]
    · rw [if_neg e]
      by_cases e2 : 60 * i + a + (j + 1) ≤ t ∧ t < 60 * i + a + n
      · rw [if_pos e2, if_pos (by omega)]
      · rw [if_neg e2, if_neg (by omega)]

theorem MTp.shift {mi : Nat → Nat → Int32} {ml l : Nat → Nat → Int64} {tp : TP} {i j a b n : Nat} (h : MTp mi ml tp) (hi : i < 6) (hj : j < 6) (ha : a + n ≤ 60) (hb : b + n ≤ 60) (h2 : ∀ t, l 162 t = if 60 * j + b + 0 ≤ t ∧ t < 60 * j + b + n then ml 162 (60 * i + a + (t - (60 * j + b))) else ml 162 t) : MTp mi l (upT tp j ((tp j).1, (tp j).2.1, fun q => if b ≤ q ∧ q < b + n then (tp i).2.2 (a + (q - b)) else (tp j).2.2 q)) := fun g hg => by
  obtain ⟨h1, h3, h4⟩ := h g hg
  obtain ⟨-, -, h5⟩ := h i hi
  unfold upT
  by_cases e : g = j
  · subst e
    rw [if_pos rfl]
    refine ⟨h1, h3, fun q hq => ?_⟩
    rw [h2]
    dsimp only
    by_cases e2 : b ≤ q ∧ q < b + n
    · rw [if_pos e2, if_pos (by omega), ← h5 _ (by omega)]
      exact congrArg (ml 162) (by omega)
    · rw [if_neg e2, if_neg (by omega)]; exact h4 q hq
  · rw [if_neg e]
    exact ⟨h1, h3, fun q hq => by rw [h2, if_neg (by omega)]; exact h4 q hq⟩

set_option maxHeartbeats 4000000 in
theorem MC_shift {G : rn_G} {d : Nat} {κ : Nat × Nat} {Q : Option Value → rn_S → Prop} {mi : Nat → Nat → Int32} {ml : Nat → Nat → Int64} {D : Nat → Nat} {x y u v z : Int32} {w : WD} {c k : Nat} {ds : Nat → CL} {sl : SL} {el bl : EL} {im : IM} {T : Nat → Nat} {L : Nat} {ac : List Int32} {tp : TP} (hv : IV w c k ds sl el bl im ac tp) (hr : MR w c k ds sl el bl im T L ac tp mi ml) (h : ∀ m l, LO mi m ml l → MR w c k ds sl el bl im T L ac (shiftA tp x y u v z).2 m l → Q (some (.int (shiftA tp x y u v z).1)) (m, l, RF D, 164))  : Call G (d + 30) M_X9_shift [.ref 116, .int x, .int y, .int u, .int v, .int z] (mi, ml, RF D, 164) κ Q := by
  show Run G _ M_X9_shift 0 [.ref 116, .int x, .int y, .int u, .int v, .int z, .null] [] _ _ _
  have hB := hr.1
  have hw := hv.1.1
  have hk6 := hv.2.2.1
  obtain ⟨N, P, R, ⟨hN, hP, hR, hg, hpp, hrr, hdn, hmn, hkp, hwt, hgp, htr⟩, hpc, hbits, hPJ⟩ := hB.n hw
  obtain ⟨w0, w1, w2, w3, w4, w5, w6, w10⟩ := hB.cells
  have htp := hr.2.2.2.2.2.2.2.2.2
  have htv := hv.2.2.2.2.2
  refine al_0 dX9_shift_0 ?_
  refine il_1 dX9_shift_1 ?_
  refine cv_1 dX9_shift_2 mm_RX9_469 sh_116 (Nat.le_of_ble_eq_true rfl) ⟨_, rfl, rfl⟩ (Nat.le_of_ble_eq_true rfl) (Nat.le_of_ble_eq_true rfl) (M_isTape (fun c2 => ?_) (fun c2 => ?_))
  · refine R_if_eq (tgt := 16) dX9_shift_5 (by decide) (fun q => absurd q (by decide)) (fun _ => ?_)
    refine al_0 dX9_shift_8 ?_
    refine il_3 dX9_shift_9 ?_
    refine cv_1 dX9_shift_10 mm_RX9_469 sh_116 (Nat.le_of_ble_eq_true rfl) ⟨_, rfl, rfl⟩ (Nat.le_of_ble_eq_true rfl) (Nat.le_of_ble_eq_true rfl) (M_isTape (fun c10 => ?_) (fun c10 => ?_))
    · refine R_if_ne (tgt := 18) dX9_shift_13 (by decide) (fun _ => ?_) (fun q => absurd q (by decide))
      obtain ⟨i, hi6, hx⟩ := sm_of c2.1 ((lt_succ_iff (a := 5)).mpr c2.2) (by decide)
      have hnx : nn x = i := by rw [hx]; exact nnI (by omega)
      obtain ⟨ti1, ti2, ti3⟩ := htp i hi6
      obtain ⟨vi1, vi2, vi3⟩ := htv i hi6
      obtain ⟨sni1, sni2⟩ := sort_neg vi2
      obtain ⟨k0, hk06, hu⟩ := sm_of c10.1 ((lt_succ_iff (a := 5)).mpr c10.2) (by decide)
      have hnu : nn u = k0 := by rw [hu]; exact nnI (by omega)
      obtain ⟨tk01, tk02, tk03⟩ := htp k0 hk06
      obtain ⟨vk01, vk02, vk03⟩ := htv k0 hk06
      obtain ⟨snk01, snk02⟩ := sort_neg vk02
      refine al_0 dX9_shift_18 ?_
      refine R_getfr (r := 160) dX9_shift_19 fl_RX9_280 rfl sh_116 (Nat.le_of_ble_eq_true rfl) rf_116_89 ?_
      refine il_1 dX9_shift_22 ?_
      refine R_iald dX9_shift_23 sh_160 (Nat.le_of_ble_eq_true rfl) (rn_ixe hx) hi6 ?_
      refine R_if_lt (tgt := 36) dX9_shift_24 (by decide) (fun c24 => ?_) (fun c24 => ?_)
      · refine R_bipush (v := -11) dX9_shift_36 (by decide) ?_
        refine R_ireturn dX9_shift_38 ⟨_, rfl, rfl⟩ ?_
        have eA : shiftA tp x y u v z = (-11, tp) := by unfold shiftA; rw [if_pos ⟨c2, c10⟩, hnx, hnu, if_pos (by first | exact Or.inl (sni1.mp (by rw [← ti1]; first | exact c24 | exact Int32.not_le.mp c24)) | exact Or.inr (snk01.mp (by rw [← tk01]; first | exact c33 | exact Int32.not_le.mp c33)))]
        rw [eA] at h
        exact h mi ml (LO.refl _ _) hr
      · refine al_0 dX9_shift_27 ?_
        refine R_getfr (r := 160) dX9_shift_28 fl_RX9_280 rfl sh_116 (Nat.le_of_ble_eq_true rfl) rf_116_89 ?_
        refine il_3 dX9_shift_31 ?_
        refine R_iald dX9_shift_32 sh_160 (Nat.le_of_ble_eq_true rfl) (rn_ixe hu) hk06 ?_
        refine R_if_ge (tgt := 39) dX9_shift_33 (by decide) (fun c33 => ?_) (fun c33 => ?_)
        · refine al_0 dX9_shift_39 ?_
          refine R_getfr (r := 160) dX9_shift_40 fl_RX9_280 rfl sh_116 (Nat.le_of_ble_eq_true rfl) rf_116_89 ?_
          refine il_1 dX9_shift_43 ?_
          refine R_iald dX9_shift_44 sh_160 (Nat.le_of_ble_eq_true rfl) (rn_ixe hx) hi6 ?_
          refine al_0 dX9_shift_45 ?_
          refine R_getfr (r := 160) dX9_shift_46 fl_RX9_280 rfl sh_116 (Nat.le_of_ble_eq_true rfl) rf_116_89 ?_
          refine il_3 dX9_shift_49 ?_
          refine R_iald dX9_shift_50 sh_160 (Nat.le_of_ble_eq_true rfl) (rn_ixe hu) hk06 ?_
          refine R_icmp_eq (tgt := 57) dX9_shift_51 (by decide) (fun c51 => ?_) (fun c51 => ?_)
          · refine il_5 dX9_shift_57 ?_
            refine R_if_lt (tgt := 98) dX9_shift_59 (by decide) (fun c59 => ?_) (fun c59 => ?_)
            · refine R_bipush (v := -13) dX9_shift_98 (by decide) ?_
              refine R_ireturn dX9_shift_100 ⟨_, rfl, rfl⟩ ?_
              have eA : shiftA tp x y u v z = (-13, tp) := by unfold shiftA; rw [if_pos ⟨c2, c10⟩, hnx, hnu, if_neg (fun q => by rcases q with q | q; exact absurd (sni1.mpr q) (by rw [← ti1]; exact Int32.not_lt.mpr (by first | exact c24 | exact Int32.not_lt.mp c24)); exact absurd (snk01.mpr q) (by rw [← tk01]; exact Int32.not_lt.mpr (by first | exact c33 | exact Int32.not_lt.mp c33))), if_pos (by rw [← ti1, ← tk01]; exact c51), if_neg (show ¬ (0 ≤ z ∧ 0 ≤ y ∧ 0 ≤ v ∧ nn y + nn z ≤ (tp i).2.1 ∧ nn v + nn z ≤ (tp k0).2.1) from fun q => by first | exact Int32.not_lt.mpr q.1 (by first | exact c59 | exact Int32.not_le.mp c59) | exact Int32.not_lt.mpr q.2.1 (by first | exact c63 | exact Int32.not_le.mp c63) | exact Int32.not_lt.mpr q.2.2.1 (by first | exact c68 | exact Int32.not_le.mp c68) | exact Int32.not_lt.mpr ((fit_iff vi1 q.1 q.2.1).mpr q.2.2.2.1) (by rw [← ti2]; first | exact c81 | exact Int32.not_le.mp c81) | exact Int32.not_lt.mpr ((fit_iff vk01 q.1 q.2.2.1).mpr q.2.2.2.2) (by rw [← tk02]; first | exact c95 | exact Int32.not_le.mp c95))]
              rw [eA] at h
              exact h mi ml (LO.refl _ _) hr
            · refine il_2 dX9_shift_62 ?_
              refine R_if_lt (tgt := 98) dX9_shift_63 (by decide) (fun c63 => ?_) (fun c63 => ?_)
              · refine R_bipush (v := -13) dX9_shift_98 (by decide) ?_
                refine R_ireturn dX9_shift_100 ⟨_, rfl, rfl⟩ ?_
                have eA : shiftA tp x y u v z = (-13, tp) := by unfold shiftA; rw [if_pos ⟨c2, c10⟩, hnx, hnu, if_neg (fun q => by rcases q with q | q; exact absurd (sni1.mpr q) (by rw [← ti1]; exact Int32.not_lt.mpr (by first | exact c24 | exact Int32.not_lt.mp c24)); exact absurd (snk01.mpr q) (by rw [← tk01]; exact Int32.not_lt.mpr (by first | exact c33 | exact Int32.not_lt.mp c33))), if_pos (by rw [← ti1, ← tk01]; exact c51), if_neg (show ¬ (0 ≤ z ∧ 0 ≤ y ∧ 0 ≤ v ∧ nn y + nn z ≤ (tp i).2.1 ∧ nn v + nn z ≤ (tp k0).2.1) from fun q => by first | exact Int32.not_lt.mpr q.1 (by first | exact c59 | exact Int32.not_le.mp c59) | exact Int32.not_lt.mpr q.2.1 (by first | exact c63 | exact Int32.not_le.mp c63) | exact Int32.not_lt.mpr q.2.2.1 (by first | exact c68 | exact Int32.not_le.mp c68) | exact Int32.not_lt.mpr ((fit_iff vi1 q.1 q.2.1).mpr q.2.2.2.1) (by rw [← ti2]; first | exact c81 | exact Int32.not_le.mp c81) | exact Int32.not_lt.mpr ((fit_iff vk01 q.1 q.2.2.1).mpr q.2.2.2.2) (by rw [← tk02]; first | exact c95 | exact Int32.not_le.mp c95))]
                rw [eA] at h
                exact h mi ml (LO.refl _ _) hr
              · refine il_4 dX9_shift_66 ?_
                refine R_if_lt (tgt := 98) dX9_shift_68 (by decide) (fun c68 => ?_) (fun c68 => ?_)
                · refine R_bipush (v := -13) dX9_shift_98 (by decide) ?_
                  refine R_ireturn dX9_shift_100 ⟨_, rfl, rfl⟩ ?_
                  have eA : shiftA tp x y u v z = (-13, tp) := by unfold shiftA; rw [if_pos ⟨c2, c10⟩, hnx, hnu, if_neg (fun q => by rcases q with q | q; exact absurd (sni1.mpr q) (by rw [← ti1]; exact Int32.not_lt.mpr (by first | exact c24 | exact Int32.not_lt.mp c24)); exact absurd (snk01.mpr q) (by rw [← tk01]; exact Int32.not_lt.mpr (by first | exact c33 | exact Int32.not_lt.mp c33))), if_pos (by rw [← ti1, ← tk01]; exact c51), if_neg (show ¬ (0 ≤ z ∧ 0 ≤ y ∧ 0 ≤ v ∧ nn y + nn z ≤ (tp i).2.1 ∧ nn v + nn z ≤ (tp k0).2.1) from fun q => by first | exact Int32.not_lt.mpr q.1 (by first | exact c59 | exact Int32.not_le.mp c59) | exact Int32.not_lt.mpr q.2.1 (by first | exact c63 | exact Int32.not_le.mp c63) | exact Int32.not_lt.mpr q.2.2.1 (by first | exact c68 | exact Int32.not_le.mp c68) | exact Int32.not_lt.mpr ((fit_iff vi1 q.1 q.2.1).mpr q.2.2.2.1) (by rw [← ti2]; first | exact c81 | exact Int32.not_le.mp c81) | exact Int32.not_lt.mpr ((fit_iff vk01 q.1 q.2.2.1).mpr q.2.2.2.2) (by rw [← tk02]; first | exact c95 | exact Int32.not_le.mp c95))]
                  rw [eA] at h
                  exact h mi ml (LO.refl _ _) hr
                · refine il_2 dX9_shift_71 ?_
                  refine al_0 dX9_shift_72 ?_
                  refine R_getfr (r := 161) dX9_shift_73 fl_RX9_283 rfl sh_116 (Nat.le_of_ble_eq_true rfl) rf_116_90 ?_
                  refine il_1 dX9_shift_76 ?_
                  refine R_iald dX9_shift_77 sh_161 (Nat.le_of_ble_eq_true rfl) (rn_ixe hx) hi6 ?_
                  refine il_5 dX9_shift_78 ?_
                  refine R_isub dX9_shift_80 ?_
                  refine R_icmp_gt (tgt := 98) dX9_shift_81 (by decide) (fun c81 => ?_) (fun c81 => ?_)
                  · refine R_bipush (v := -13) dX9_shift_98 (by decide) ?_
                    refine R_ireturn dX9_shift_100 ⟨_, rfl, rfl⟩ ?_
                    have eA : shiftA tp x y u v z = (-13, tp) := by unfold shiftA; rw [if_pos ⟨c2, c10⟩, hnx, hnu, if_neg (fun q => by rcases q with q | q; exact absurd (sni1.mpr q) (by rw [← ti1]; exact Int32.not_lt.mpr (by first | exact c24 | exact Int32.not_lt.mp c24)); exact absurd (snk01.mpr q) (by rw [← tk01]; exact Int32.not_lt.mpr (by first | exact c33 | exact Int32.not_lt.mp c33))), if_pos (by rw [← ti1, ← tk01]; exact c51), if_neg (show ¬ (0 ≤ z ∧ 0 ≤ y ∧ 0 ≤ v ∧ nn y + nn z ≤ (tp i).2.1 ∧ nn v + nn z ≤ (tp k0).2.1) from fun q => by first | exact Int32.not_lt.mpr q.1 (by first | exact c59 | exact Int32.not_le.mp c59) | exact Int32.not_lt.mpr q.2.1 (by first | exact c63 | exact Int32.not_le.mp c63) | exact Int32.not_lt.mpr q.2.2.1 (by first | exact c68 | exact Int32.not_le.mp c68) | exact Int32.not_lt.mpr ((fit_iff vi1 q.1 q.2.1).mpr q.2.2.2.1) (by rw [← ti2]; first | exact c81 | exact Int32.not_le.mp c81) | exact Int32.not_lt.mpr ((fit_iff vk01 q.1 q.2.2.1).mpr q.2.2.2.2) (by rw [← tk02]; first | exact c95 | exact Int32.not_le.mp c95))]
                    rw [eA] at h
                    exact h mi ml (LO.refl _ _) hr
                  · refine il_4 dX9_shift_84 ?_
                    refine al_0 dX9_shift_86 ?_
                    refine R_getfr (r := 161) dX9_shift_87 fl_RX9_283 rfl sh_116 (Nat.le_of_ble_eq_true rfl) rf_116_90 ?_
                    refine il_3 dX9_shift_90 ?_
                    refine R_iald dX9_shift_91 sh_161 (Nat.le_of_ble_eq_true rfl) (rn_ixe hu) hk06 ?_
                    refine il_5 dX9_shift_92 ?_
                    refine R_isub dX9_shift_94 ?_
                    refine R_icmp_le (tgt := 101) dX9_shift_95 (by decide) (fun c95 => ?_) (fun c95 => ?_)
                    · refine R_iconst (v := 0) dX9_shift_101 (by decide) ?_
                      refine is_6 dX9_shift_102 rfl ?_
                      have z0 : 0 ≤ z := by first | exact c59 | exact Int32.not_lt.mp c59
                      have y0 : 0 ≤ y := by first | exact c63 | exact Int32.not_lt.mp c63
                      have v0 : 0 ≤ v := by first | exact c68 | exact Int32.not_lt.mp c68
                      have f1 := (fit_iff vi1 z0 y0).mp (by rw [← ti2]; first | exact c81 | exact Int32.not_lt.mp c81)
                      have f2 := (fit_iff vk01 z0 v0).mp (by rw [← tk02]; first | exact c95 | exact Int32.not_lt.mp c95)
                      have eA : shiftA tp x y u v z = (z, upT tp k0 ((tp k0).1, (tp k0).2.1, fun q => if nn v ≤ q ∧ q < nn v + nn z then (tp i).2.2 (nn y + (q - nn v)) else (tp k0).2.2 q)) := by unfold shiftA; rw [if_pos ⟨c2, c10⟩, hnx, hnu, if_neg (fun q => by rcases q with q | q; exact absurd (sni1.mpr q) (by rw [← ti1]; exact Int32.not_lt.mpr (by first | exact c24 | exact Int32.not_lt.mp c24)); exact absurd (snk01.mpr q) (by rw [← tk01]; exact Int32.not_lt.mpr (by first | exact c33 | exact Int32.not_lt.mp c33))), if_pos (by rw [← ti1, ← tk01]; exact c51), if_pos ⟨z0, y0, v0, f1, f2⟩]
                      rw [eA] at h
                      obtain ⟨z1, z2⟩ := nn_of z0
                      obtain ⟨y1, y2⟩ := nn_of y0
                      obtain ⟨u1, u2⟩ := nn_of v0
                      refine L_shift1 hx y2 z2 hi6 (by omega) (nn z) 0 0 ml (by omega) rfl (fun l h1 h2 => ?_)
                      refine R_iconst (v := 0) dX9_shift_138 (by decide) ?_
                      refine is_6 dX9_shift_139 rfl ?_
                      refine L_shift2 hu u2 z2 hk06 (by omega) (nn z) 0 0 l (by omega) rfl (fun l2 h3 h4 => ?_)
                      refine h mi l2 (fun a ha => ⟨rfl, by rw [h3 a (by omega), h1 a (by omega)]⟩) (hr.tape (htp.shift hi6 hk06 (by omega) (by omega) (fun t => ?_)) (fun _ _ _ => rfl))
                      rw [h4 t]
                      by_cases e : 60 * k0 + nn v + 0 ≤ t ∧ t < 60 * k0 + nn v + nn z
                      · rw [if_pos e, if_pos e, h2, if_pos (by omega)]
                      · rw [if_neg e, if_neg e, h1 162 (by decide)]
                    · refine R_bipush (v := -13) dX9_shift_98 (by decide) ?_
                      refine R_ireturn dX9_shift_100 ⟨_, rfl, rfl⟩ ?_
                      have eA : shiftA tp x y u v z = (-13, tp) := by unfold shiftA; rw [if_pos ⟨c2, c10⟩, hnx, hnu, if_neg (fun q => by rcases q with q | q; exact absurd (sni1.mpr q) (by rw [← ti1]; exact Int32.not_lt.mpr (by first | exact c24 | exact Int32.not_lt.mp c24)); exact absurd (snk01.mpr q) (by rw [← tk01]; exact Int32.not_lt.mpr (by first | exact c33 | exact Int32.not_lt.mp c33))), if_pos (by rw [← ti1, ← tk01]; exact c51), if_neg (show ¬ (0 ≤ z ∧ 0 ≤ y ∧ 0 ≤ v ∧ nn y + nn z ≤ (tp i).2.1 ∧ nn v + nn z ≤ (tp k0).2.1) from fun q => by first | exact Int32.not_lt.mpr q.1 (by first | exact c59 | exact Int32.not_le.mp c59) | exact Int32.not_lt.mpr q.2.1 (by first | exact c63 | exact Int32.not_le.mp c63) | exact Int32.not_lt.mpr q.2.2.1 (by first | exact c68 | exact Int32.not_le.mp c68) | exact Int32.not_lt.mpr ((fit_iff vi1 q.1 q.2.1).mpr q.2.2.2.1) (by rw [← ti2]; first | exact c81 | exact Int32.not_le.mp c81) | exact Int32.not_lt.mpr ((fit_iff vk01 q.1 q.2.2.1).mpr q.2.2.2.2) (by rw [← tk02]; first | exact c95 | exact Int32.not_le.mp c95))]
                      rw [eA] at h
                      exact h mi ml (LO.refl _ _) hr
          · refine R_bipush (v := -12) dX9_shift_54 (by decide) ?_
            refine R_ireturn dX9_shift_56 ⟨_, rfl, rfl⟩ ?_
            have eA : shiftA tp x y u v z = (-12, tp) := by unfold shiftA; rw [if_pos ⟨c2, c10⟩, hnx, hnu, if_neg (fun q => by rcases q with q | q; exact absurd (sni1.mpr q) (by rw [← ti1]; exact Int32.not_lt.mpr (by first | exact c24 | exact Int32.not_lt.mp c24)); exact absurd (snk01.mpr q) (by rw [← tk01]; exact Int32.not_lt.mpr (by first | exact c33 | exact Int32.not_lt.mp c33))), if_neg (by rw [← ti1, ← tk01]; exact c51)]
            rw [eA] at h
            exact h mi ml (LO.refl _ _) hr
        · refine R_bipush (v := -11) dX9_shift_36 (by decide) ?_
          refine R_ireturn dX9_shift_38 ⟨_, rfl, rfl⟩ ?_
          have eA : shiftA tp x y u v z = (-11, tp) := by unfold shiftA; rw [if_pos ⟨c2, c10⟩, hnx, hnu, if_pos (by first | exact Or.inl (sni1.mp (by rw [← ti1]; first | exact c24 | exact Int32.not_le.mp c24)) | exact Or.inr (snk01.mp (by rw [← tk01]; first | exact c33 | exact Int32.not_le.mp c33)))]
          rw [eA] at h
          exact h mi ml (LO.refl _ _) hr
    · refine R_if_ne (tgt := 18) dX9_shift_13 (by decide) (fun q => absurd q (by decide)) (fun _ => ?_)
      refine R_iconst (v := -1) dX9_shift_16 (by decide) ?_
      refine R_ireturn dX9_shift_17 ⟨_, rfl, rfl⟩ ?_
      have eA : shiftA tp x y u v z = (-1, tp) := by unfold shiftA; rw [if_neg (fun q => by first | exact c2 q.1 | exact c10 q.2)]
      rw [eA] at h
      exact h mi ml (LO.refl _ _) hr
  · refine R_if_eq (tgt := 16) dX9_shift_5 (by decide) (fun _ => ?_) (fun q => absurd q (by decide))
    refine R_iconst (v := -1) dX9_shift_16 (by decide) ?_
    refine R_ireturn dX9_shift_17 ⟨_, rfl, rfl⟩ ?_
    have eA : shiftA tp x y u v z = (-1, tp) := by unfold shiftA; rw [if_neg (fun q => by first | exact c2 q.1 | exact c10 q.2)]
    rw [eA] at h
    exact h mi ml (LO.refl _ _) hr
