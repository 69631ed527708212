/-! the class reads numbers, tests, conditions -/
theorem numR_0 {T : Nat → Nat} {L p : Nat} (h : ¬ isD (nxT T L p) = true) : numR T L p = none := by
  unfold numR; rw [if_neg h]
theorem numR_1 {T : Nat → Nat} {L p : Nat} (h : isD (nxT T L p) = true) (h2 : ¬ isD (nxT T L (p + 1)) = true) : numR T L p = some (nxT T L p - 48, p + 1) := by
  unfold numR; rw [if_pos h, if_neg h2]
theorem numR_2 {T : Nat → Nat} {L p : Nat} (h : isD (nxT T L p) = true) (h2 : isD (nxT T L (p + 1)) = true) : numR T L p = some (10 * (nxT T L p - 48) + (nxT T L (p + 1) - 48), p + 2) := by
  unfold numR; rw [if_pos h, if_pos h2]
theorem isD_iff {T : Nat → Nat} {L p : Nat} : isD (nxT T L p) = true ↔ 48 ≤ nxT T L p ∧ nxT T L p ≤ 57 := by
  unfold isD
  exact decide_eq_true_iff
theorem dig_ge {t : Nat} (h : t < 128) : (nI t < 48 ↔ t < 48) ∧ (57 < nI t ↔ 57 < t) := ⟨sm_lt_iff (b := 48) (by omega) (by decide), sm_lt_iff (a := 57) (by decide) (by omega)⟩
theorem dig_1 : ∀ t : Fin 58, 48 ≤ t.1 → (if (-1 : Int32) < 0 then (0 : Int32) else -1) * 10 + nI t.1 - 48 = nI (t.1 - 48) := by decide
theorem dig_2 : ∀ s : Fin 10, ∀ t : Fin 58, 48 ≤ t.1 → (if nI s.1 < 0 then (0 : Int32) else nI s.1) * 10 + nI t.1 - 48 = nI (10 * s.1 + (t.1 - 48)) := by decide +kernel

set_option maxHeartbeats 4000000 in
theorem K_readNumber {G : rn_G} {d : Nat} {κ : Nat × Nat} {Q : Option Value → rn_S → Prop} {mi : Nat → Nat → Int32} {ml : Nat → Nat → Int64} {D : Nat → Nat} {T : Nat → Nat} {L p : Nat} (htx : TXC T L mi) (hat : mi 84 2 = nI p) (hpL : p ≤ L) (h0 : numR T L p = none → Q (some (.int (-1))) (mi, ml, RF D, 164)) (h1 : ∀ n q, numR T L p = some (n, q) → Q (some (.int (nI n))) (rn_u mi 84 2 (nI q), ml, RF D, 164)) : Call G (d + 1) M_X5_readNumber [.ref 84] (mi, ml, RF D, 164) κ Q := by
  show Run G _ M_X5_readNumber 0 [.ref 84, .null, .null] [] _ _ _
  obtain ⟨hL, eL, htxt⟩ := htx
  by_cases hp : p < L
  · obtain ⟨ht1, ht2⟩ := htxt p hp
    have lt1 : mi 84 2 < mi 84 1 := by rw [hat, eL]; exact (sm_lt_iff (by omega) (by omega)).mpr hp
    obtain ⟨g1, g2⟩ := dig_ge ht1
    by_cases d1 : isD (nxT T L p) = true
    · have d1' := isD_iff.mp d1
      rw [nxT_l hp] at d1'
      have e1 : ∀ v : Int32, v = nI (T p - 48) → v = nI (T p - 48) := fun _ h => h
      have hat2 : rn_u mi 84 2 (nI (p + 1)) 84 2 = nI (p + 1) := rn_u_eq
      have e85 : rn_u mi 84 2 (nI (p + 1)) 85 = mi 85 := rn_u_ne (by decide)
      have e841 : rn_u mi 84 2 (nI (p + 1)) 84 1 = nI L := eL
      by_cases hp2 : p + 1 < L
      · obtain ⟨ht3, ht4⟩ := htxt (p + 1) hp2
        have lt2 : rn_u mi 84 2 (nI (p + 1)) 84 2 < rn_u mi 84 2 (nI (p + 1)) 84 1 := by rw [hat2, e841]; exact (sm_lt_iff (by omega) (by omega)).mpr hp2
        obtain ⟨g3, g4⟩ := dig_ge ht3
        have e5 : rn_u mi 84 2 (nI (p + 1)) 85 (p + 1) = nI (T (p + 1)) := by rw [e85]; exact ht4
        by_cases d2 : isD (nxT T L (p + 1)) = true
        · have d2' := isD_iff.mp d2
          rw [nxT_l hp2] at d2'
          refine R_iconst (v := -1) dX5_readNumber_0 (by decide) ?_
          refine is_1 dX5_readNumber_1 rfl ?_
          refine R_iconst (v := 0) dX5_readNumber_2 (by decide) ?_
          refine is_2 dX5_readNumber_3 rfl ?_
          refine il_2 dX5_readNumber_4 ?_
          refine R_iconst (v := 2) dX5_readNumber_5 (by decide) ?_
          refine R_icmp_ge (tgt := 86) dX5_readNumber_6 (by decide) (fun q => absurd q (by decide)) (fun _ => ?_)
          refine al_0 dX5_readNumber_9 ?_
          refine R_getfi dX5_readNumber_10 fl_RX5_29 rfl sh_84 (Nat.le_of_ble_eq_true rfl) ?_
          refine al_0 dX5_readNumber_13 ?_
          refine R_getfi dX5_readNumber_14 fl_RX5_22 rfl sh_84 (Nat.le_of_ble_eq_true rfl) ?_
          refine R_icmp_ge (tgt := 86) dX5_readNumber_17 (by decide) (fun q => absurd q (Int32.not_le.mpr lt1)) (fun c17 => ?_)
          refine al_0 dX5_readNumber_20 ?_
          refine R_getfr (r := 85) dX5_readNumber_21 fl_RX5_9 rfl sh_84 (Nat.le_of_ble_eq_true rfl) rf_84_0 ?_
          refine al_0 dX5_readNumber_24 ?_
          refine R_getfi dX5_readNumber_25 fl_RX5_29 rfl sh_84 (Nat.le_of_ble_eq_true rfl) ?_
          refine R_bald dX5_readNumber_28 sh_85 (Nat.le_of_ble_eq_true rfl) (rn_ixe hat) (show p < 100 by omega) ?_
          refine R_bipush (v := 48) dX5_readNumber_29 (by decide) ?_
          refine R_icmp_lt (tgt := 86) dX5_readNumber_31 (by decide) (fun q => absurd q (by rw [ht2, g1]; omega)) (fun c31 => ?_)
          refine al_0 dX5_readNumber_34 ?_
          refine R_getfr (r := 85) dX5_readNumber_35 fl_RX5_9 rfl sh_84 (Nat.le_of_ble_eq_true rfl) rf_84_0 ?_
          refine al_0 dX5_readNumber_38 ?_
          refine R_getfi dX5_readNumber_39 fl_RX5_29 rfl sh_84 (Nat.le_of_ble_eq_true rfl) ?_
          refine R_bald dX5_readNumber_42 sh_85 (Nat.le_of_ble_eq_true rfl) (rn_ixe hat) (show p < 100 by omega) ?_
          refine R_bipush (v := 57) dX5_readNumber_43 (by decide) ?_
          refine R_icmp_gt (tgt := 86) dX5_readNumber_45 (by decide) (fun q => absurd q (by rw [ht2, g2]; omega)) (fun c45 => ?_)
          refine il_1 dX5_readNumber_48 ?_
          refine R_iconst (v := 0) dX5_readNumber_49 (by decide) ?_
          refine cs_2 dX5_readNumber_50 mm_RX5_68 (Nat.le_of_ble_eq_true rfl) (Nat.le_of_ble_eq_true rfl) (K_max ?_)
          refine R_bipush (v := 10) dX5_readNumber_53 (by decide) ?_
          refine R_imul dX5_readNumber_55 ?_
          refine al_0 dX5_readNumber_56 ?_
          refine R_getfr (r := 85) dX5_readNumber_57 fl_RX5_9 rfl sh_84 (Nat.le_of_ble_eq_true rfl) rf_84_0 ?_
          refine al_0 dX5_readNumber_60 ?_
          refine R_getfi dX5_readNumber_61 fl_RX5_29 rfl sh_84 (Nat.le_of_ble_eq_true rfl) ?_
          refine R_bald dX5_readNumber_64 sh_85 (Nat.le_of_ble_eq_true rfl) (rn_ixe hat) (show p < 100 by omega) ?_
          refine R_iadd dX5_readNumber_65 ?_
          refine R_bipush (v := 48) dX5_readNumber_66 (by decide) ?_
          refine R_isub dX5_readNumber_68 ?_
          refine is_1 dX5_readNumber_69 rfl ?_
          refine al_0 dX5_readNumber_70 ?_
          refine R_dup dX5_readNumber_71 rfl ?_
          refine R_getfi dX5_readNumber_72 fl_RX5_29 rfl sh_84 (Nat.le_of_ble_eq_true rfl) ?_
          refine R_iconst (v := 1) dX5_readNumber_75 (by decide) ?_
          refine R_iadd dX5_readNumber_76 ?_
          refine R_putfi dX5_readNumber_77 fl_RX5_29 rfl (Or.inl rfl) sh_84 (Nat.le_of_ble_eq_true rfl) rfl rfl ?_
          rw [show mi 84 2 + 1 = nI (p + 1) by rw [hat]; exact sm_add p 1]
          rw [show (maxJ (-1) 0) * 10 + mi 85 p - 48 = nI (T p - 48) by rw [ht2]; exact dig_1 ⟨T p, by omega⟩ d1'.1]
          refine ii_2 (v := 1) dX5_readNumber_80 rfl (by decide) ?_
          refine R_goto (tgt := 4) dX5_readNumber_83 (by decide) ?_
          refine il_2 dX5_readNumber_4 ?_
          refine R_iconst (v := 2) dX5_readNumber_5 (by decide) ?_
          refine R_icmp_ge (tgt := 86) dX5_readNumber_6 (by decide) (fun q => absurd q (by decide)) (fun _ => ?_)
          refine al_0 dX5_readNumber_9 ?_
          refine R_getfi dX5_readNumber_10 fl_RX5_29 rfl sh_84 (Nat.le_of_ble_eq_true rfl) ?_
          refine al_0 dX5_readNumber_13 ?_
          refine R_getfi dX5_readNumber_14 fl_RX5_22 rfl sh_84 (Nat.le_of_ble_eq_true rfl) ?_
          refine R_icmp_ge (tgt := 86) dX5_readNumber_17 (by decide) (fun q => absurd q (Int32.not_le.mpr lt2)) (fun c17 => ?_)
          refine al_0 dX5_readNumber_20 ?_
          refine R_getfr (r := 85) dX5_readNumber_21 fl_RX5_9 rfl sh_84 (Nat.le_of_ble_eq_true rfl) rf_84_0 ?_
          refine al_0 dX5_readNumber_24 ?_
          refine R_getfi dX5_readNumber_25 fl_RX5_29 rfl sh_84 (Nat.le_of_ble_eq_true rfl) ?_
          refine R_bald dX5_readNumber_28 sh_85 (Nat.le_of_ble_eq_true rfl) (rn_ixe hat2) (show p + 1 < 100 by omega) ?_
          refine R_bipush (v := 48) dX5_readNumber_29 (by decide) ?_
          refine R_icmp_lt (tgt := 86) dX5_readNumber_31 (by decide) (fun q => absurd q (by rw [e5, g3]; omega)) (fun c31 => ?_)
          refine al_0 dX5_readNumber_34 ?_
          refine R_getfr (r := 85) dX5_readNumber_35 fl_RX5_9 rfl sh_84 (Nat.le_of_ble_eq_true rfl) rf_84_0 ?_
          refine al_0 dX5_readNumber_38 ?_
          refine R_getfi dX5_readNumber_39 fl_RX5_29 rfl sh_84 (Nat.le_of_ble_eq_true rfl) ?_
          refine R_bald dX5_readNumber_42 sh_85 (Nat.le_of_ble_eq_true rfl) (rn_ixe hat2) (show p + 1 < 100 by omega) ?_
          refine R_bipush (v := 57) dX5_readNumber_43 (by decide) ?_
          refine R_icmp_gt (tgt := 86) dX5_readNumber_45 (by decide) (fun q => absurd q (by rw [e5, g4]; omega)) (fun c45 => ?_)
          refine il_1 dX5_readNumber_48 ?_
          refine R_iconst (v := 0) dX5_readNumber_49 (by decide) ?_
          refine cs_2 dX5_readNumber_50 mm_RX5_68 (Nat.le_of_ble_eq_true rfl) (Nat.le_of_ble_eq_true rfl) (K_max ?_)
          refine R_bipush (v := 10) dX5_readNumber_53 (by decide) ?_
          refine R_imul dX5_readNumber_55 ?_
          refine al_0 dX5_readNumber_56 ?_
          refine R_getfr (r := 85) dX5_readNumber_57 fl_RX5_9 rfl sh_84 (Nat.le_of_ble_eq_true rfl) rf_84_0 ?_
          refine al_0 dX5_readNumber_60 ?_
          refine R_getfi dX5_readNumber_61 fl_RX5_29 rfl sh_84 (Nat.le_of_ble_eq_true rfl) ?_
          refine R_bald dX5_readNumber_64 sh_85 (Nat.le_of_ble_eq_true rfl) (rn_ixe hat2) (show p + 1 < 100 by omega) ?_
          refine R_iadd dX5_readNumber_65 ?_
          refine R_bipush (v := 48) dX5_readNumber_66 (by decide) ?_
          refine R_isub dX5_readNumber_68 ?_
          refine is_1 dX5_readNumber_69 rfl ?_
          refine al_0 dX5_readNumber_70 ?_
          refine R_dup dX5_readNumber_71 rfl ?_
          refine R_getfi dX5_readNumber_72 fl_RX5_29 rfl sh_84 (Nat.le_of_ble_eq_true rfl) ?_
          refine R_iconst (v := 1) dX5_readNumber_75 (by decide) ?_
          refine R_iadd dX5_readNumber_76 ?_
          refine R_putfi dX5_readNumber_77 fl_RX5_29 rfl (Or.inl rfl) sh_84 (Nat.le_of_ble_eq_true rfl) rfl rfl ?_
          rw [show rn_u mi 84 2 (nI (p + 1)) 84 2 + 1 = nI (p + 2) by rw [hat2]; exact sm_add (p + 1) 1]
          rw [show (maxJ (nI (T p - 48)) 0) * 10 + rn_u mi 84 2 (nI (p + 1)) 85 (p + 1) - 48 = nI (10 * (T p - 48) + (T (p + 1) - 48)) by rw [e5]; exact dig_2 ⟨T p - 48, by omega⟩ ⟨T (p + 1), by omega⟩ d2'.1]
          rw [rn_u_u]
          refine ii_2 (v := 2) dX5_readNumber_80 rfl (by decide) ?_
          refine R_goto (tgt := 4) dX5_readNumber_83 (by decide) ?_
          refine il_2 dX5_readNumber_4 ?_
          refine R_iconst (v := 2) dX5_readNumber_5 (by decide) ?_
          refine R_icmp_ge (tgt := 86) dX5_readNumber_6 (by decide) (fun _ => ?_) (fun q => absurd q (by decide))
          refine il_1 dX5_readNumber_86 ?_
          refine R_ireturn dX5_readNumber_87 ⟨_, rfl, rfl⟩ ?_
          refine h1 _ _ ?_
          rw [numR_2 d1 d2, nxT_l hp, nxT_l hp2]
        · rw [isD_iff, nxT_l hp2] at d2
          have hnum := numR_1 d1 (by rw [isD_iff, nxT_l hp2]; exact d2)
          rw [nxT_l hp] at hnum
          by_cases d3 : T (p + 1) < 48
          · refine R_iconst (v := -1) dX5_readNumber_0 (by decide) ?_
            refine is_1 dX5_readNumber_1 rfl ?_
            refine R_iconst (v := 0) dX5_readNumber_2 (by decide) ?_
            refine is_2 dX5_readNumber_3 rfl ?_
            refine il_2 dX5_readNumber_4 ?_
            refine R_iconst (v := 2) dX5_readNumber_5 (by decide) ?_
            refine R_icmp_ge (tgt := 86) dX5_readNumber_6 (by decide) (fun q => absurd q (by decide)) (fun _ => ?_)
            refine al_0 dX5_readNumber_9 ?_
            refine R_getfi dX5_readNumber_10 fl_RX5_29 rfl sh_84 (Nat.le_of_ble_eq_true rfl) ?_
            refine al_0 dX5_readNumber_13 ?_
            refine R_getfi dX5_readNumber_14 fl_RX5_22 rfl sh_84 (Nat.le_of_ble_eq_true rfl) ?_
            refine R_icmp_ge (tgt := 86) dX5_readNumber_17 (by decide) (fun q => absurd q (Int32.not_le.mpr lt1)) (fun c17 => ?_)
            refine al_0 dX5_readNumber_20 ?_
            refine R_getfr (r := 85) dX5_readNumber_21 fl_RX5_9 rfl sh_84 (Nat.le_of_ble_eq_true rfl) rf_84_0 ?_
            refine al_0 dX5_readNumber_24 ?_
            refine R_getfi dX5_readNumber_25 fl_RX5_29 rfl sh_84 (Nat.le_of_ble_eq_true rfl) ?_
            refine R_bald dX5_readNumber_28 sh_85 (Nat.le_of_ble_eq_true rfl) (rn_ixe hat) (show p < 100 by omega) ?_
            refine R_bipush (v := 48) dX5_readNumber_29 (by decide) ?_
            refine R_icmp_lt (tgt := 86) dX5_readNumber_31 (by decide) (fun q => absurd q (by rw [ht2, g1]; omega)) (fun c31 => ?_)
            refine al_0 dX5_readNumber_34 ?_
            refine R_getfr (r := 85) dX5_readNumber_35 fl_RX5_9 rfl sh_84 (Nat.le_of_ble_eq_true rfl) rf_84_0 ?_
            refine al_0 dX5_readNumber_38 ?_
            refine R_getfi dX5_readNumber_39 fl_RX5_29 rfl sh_84 (Nat.le_of_ble_eq_true rfl) ?_
            refine R_bald dX5_readNumber_42 sh_85 (Nat.le_of_ble_eq_true rfl) (rn_ixe hat) (show p < 100 by omega) ?_
            refine R_bipush (v := 57) dX5_readNumber_43 (by decide) ?_
            refine R_icmp_gt (tgt := 86) dX5_readNumber_45 (by decide) (fun q => absurd q (by rw [ht2, g2]; omega)) (fun c45 => ?_)
            refine il_1 dX5_readNumber_48 ?_
            refine R_iconst (v := 0) dX5_readNumber_49 (by decide) ?_
            refine cs_2 dX5_readNumber_50 mm_RX5_68 (Nat.le_of_ble_eq_true rfl) (Nat.le_of_ble_eq_true rfl) (K_max ?_)
            refine R_bipush (v := 10) dX5_readNumber_53 (by decide) ?_
            refine R_imul dX5_readNumber_55 ?_
            refine al_0 dX5_readNumber_56 ?_
            refine R_getfr (r := 85) dX5_readNumber_57 fl_RX5_9 rfl sh_84 (Nat.le_of_ble_eq_true rfl) rf_84_0 ?_
            refine al_0 dX5_readNumber_60 ?_
            refine R_getfi dX5_readNumber_61 fl_RX5_29 rfl sh_84 (Nat.le_of_ble_eq_true rfl) ?_
            refine R_bald dX5_readNumber_64 sh_85 (Nat.le_of_ble_eq_true rfl) (rn_ixe hat) (show p < 100 by omega) ?_
            refine R_iadd dX5_readNumber_65 ?_
            refine R_bipush (v := 48) dX5_readNumber_66 (by decide) ?_
            refine R_isub dX5_readNumber_68 ?_
            refine is_1 dX5_readNumber_69 rfl ?_
            refine al_0 dX5_readNumber_70 ?_
            refine R_dup dX5_readNumber_71 rfl ?_
            refine R_getfi dX5_readNumber_72 fl_RX5_29 rfl sh_84 (Nat.le_of_ble_eq_true rfl) ?_
            refine R_iconst (v := 1) dX5_readNumber_75 (by decide) ?_
            refine R_iadd dX5_readNumber_76 ?_
            refine R_putfi dX5_readNumber_77 fl_RX5_29 rfl (Or.inl rfl) sh_84 (Nat.le_of_ble_eq_true rfl) rfl rfl ?_
            rw [show mi 84 2 + 1 = nI (p + 1) by rw [hat]; exact sm_add p 1]
            rw [show (maxJ (-1) 0) * 10 + mi 85 p - 48 = nI (T p - 48) by rw [ht2]; exact dig_1 ⟨T p, by omega⟩ d1'.1]
            refine ii_2 (v := 1) dX5_readNumber_80 rfl (by decide) ?_
            refine R_goto (tgt := 4) dX5_readNumber_83 (by decide) ?_
            refine il_2 dX5_readNumber_4 ?_
            refine R_iconst (v := 2) dX5_readNumber_5 (by decide) ?_
            refine R_icmp_ge (tgt := 86) dX5_readNumber_6 (by decide) (fun q => absurd q (by decide)) (fun _ => ?_)
            refine al_0 dX5_readNumber_9 ?_
            refine R_getfi dX5_readNumber_10 fl_RX5_29 rfl sh_84 (Nat.le_of_ble_eq_true rfl) ?_
            refine al_0 dX5_readNumber_13 ?_
            refine R_getfi dX5_readNumber_14 fl_RX5_22 rfl sh_84 (Nat.le_of_ble_eq_true rfl) ?_
            refine R_icmp_ge (tgt := 86) dX5_readNumber_17 (by decide) (fun q => absurd q (Int32.not_le.mpr lt2)) (fun c17 => ?_)
            refine al_0 dX5_readNumber_20 ?_
            refine R_getfr (r := 85) dX5_readNumber_21 fl_RX5_9 rfl sh_84 (Nat.le_of_ble_eq_true rfl) rf_84_0 ?_
            refine al_0 dX5_readNumber_24 ?_
            refine R_getfi dX5_readNumber_25 fl_RX5_29 rfl sh_84 (Nat.le_of_ble_eq_true rfl) ?_
            refine R_bald dX5_readNumber_28 sh_85 (Nat.le_of_ble_eq_true rfl) (rn_ixe hat2) (show p + 1 < 100 by omega) ?_
            refine R_bipush (v := 48) dX5_readNumber_29 (by decide) ?_
            refine R_icmp_lt (tgt := 86) dX5_readNumber_31 (by decide) (fun c31 => ?_) (fun q => absurd q (not_not_intro (by rw [e5, g3]; exact d3)))
            refine il_1 dX5_readNumber_86 ?_
            refine R_ireturn dX5_readNumber_87 ⟨_, rfl, rfl⟩ ?_
            exact h1 _ _ hnum
          · refine R_iconst (v := -1) dX5_readNumber_0 (by decide) ?_
            refine is_1 dX5_readNumber_1 rfl ?_
            refine R_iconst (v := 0) dX5_readNumber_2 (by decide) ?_
            refine is_2 dX5_readNumber_3 rfl ?_
            refine il_2 dX5_readNumber_4 ?_
            refine R_iconst (v := 2) dX5_readNumber_5 (by decide) ?_
            refine R_icmp_ge (tgt := 86) dX5_readNumber_6 (by decide) (fun q => absurd q (by decide)) (fun _ => ?_)
            refine al_0 dX5_readNumber_9 ?_
            refine R_getfi dX5_readNumber_10 fl_RX5_29 rfl sh_84 (Nat.le_of_ble_eq_true rfl) ?_
            refine al_0 dX5_readNumber_13 ?_
            refine R_getfi dX5_readNumber_14 fl_RX5_22 rfl sh_84 (Nat.le_of_ble_eq_true rfl) ?_
            refine R_icmp_ge (tgt := 86) dX5_readNumber_17 (by decide) (fun q => absurd q (Int32.not_le.mpr lt1)) (fun c17 => ?_)
            refine al_0 dX5_readNumber_20 ?_
            refine R_getfr (r := 85) dX5_readNumber_21 fl_RX5_9 rfl sh_84 (Nat.le_of_ble_eq_true rfl) rf_84_0 ?_
            refine al_0 dX5_readNumber_24 ?_
            refine R_getfi dX5_readNumber_25 fl_RX5_29 rfl sh_84 (Nat.le_of_ble_eq_true rfl) ?_
            refine R_bald dX5_readNumber_28 sh_85 (Nat.le_of_ble_eq_true rfl) (rn_ixe hat) (show p < 100 by omega) ?_
            refine R_bipush (v := 48) dX5_readNumber_29 (by decide) ?_
            refine R_icmp_lt (tgt := 86) dX5_readNumber_31 (by decide) (fun q => absurd q (by rw [ht2, g1]; omega)) (fun c31 => ?_)
            refine al_0 dX5_readNumber_34 ?_
            refine R_getfr (r := 85) dX5_readNumber_35 fl_RX5_9 rfl sh_84 (Nat.le_of_ble_eq_true rfl) rf_84_0 ?_
            refine al_0 dX5_readNumber_38 ?_
            refine R_getfi dX5_readNumber_39 fl_RX5_29 rfl sh_84 (Nat.le_of_ble_eq_true rfl) ?_
            refine R_bald dX5_readNumber_42 sh_85 (Nat.le_of_ble_eq_true rfl) (rn_ixe hat) (show p < 100 by omega) ?_
            refine R_bipush (v := 57) dX5_readNumber_43 (by decide) ?_
            refine R_icmp_gt (tgt := 86) dX5_readNumber_45 (by decide) (fun q => absurd q (by rw [ht2, g2]; omega)) (fun c45 => ?_)
            refine il_1 dX5_readNumber_48 ?_
            refine R_iconst (v := 0) dX5_readNumber_49 (by decide) ?_
            refine cs_2 dX5_readNumber_50 mm_RX5_68 (Nat.le_of_ble_eq_true rfl) (Nat.le_of_ble_eq_true rfl) (K_max ?_)
            refine R_bipush (v := 10) dX5_readNumber_53 (by decide) ?_
            refine R_imul dX5_readNumber_55 ?_
            refine al_0 dX5_readNumber_56 ?_
            refine R_getfr (r := 85) dX5_readNumber_57 fl_RX5_9 rfl sh_84 (Nat.le_of_ble_eq_true rfl) rf_84_0 ?_
            refine al_0 dX5_readNumber_60 ?_
            refine R_getfi dX5_readNumber_61 fl_RX5_29 rfl sh_84 (Nat.le_of_ble_eq_true rfl) ?_
            refine R_bald dX5_readNumber_64 sh_85 (Nat.le_of_ble_eq_true rfl) (rn_ixe hat) (show p < 100 by omega) ?_
            refine R_iadd dX5_readNumber_65 ?_
            refine R_bipush (v := 48) dX5_readNumber_66 (by decide) ?_
            refine R_isub dX5_readNumber_68 ?_
            refine is_1 dX5_readNumber_69 rfl ?_
            refine al_0 dX5_readNumber_70 ?_
            refine R_dup dX5_readNumber_71 rfl ?_
            refine R_getfi dX5_readNumber_72 fl_RX5_29 rfl sh_84 (Nat.le_of_ble_eq_true rfl) ?_
            refine R_iconst (v := 1) dX5_readNumber_75 (by decide) ?_
            refine R_iadd dX5_readNumber_76 ?_
            refine R_putfi dX5_readNumber_77 fl_RX5_29 rfl (Or.inl rfl) sh_84 (Nat.le_of_ble_eq_true rfl) rfl rfl ?_
            rw [show mi 84 2 + 1 = nI (p + 1) by rw [hat]; exact sm_add p 1]
            rw [show (maxJ (-1) 0) * 10 + mi 85 p - 48 = nI (T p - 48) by rw [ht2]; exact dig_1 ⟨T p, by omega⟩ d1'.1]
            refine ii_2 (v := 1) dX5_readNumber_80 rfl (by decide) ?_
            refine R_goto (tgt := 4) dX5_readNumber_83 (by decide) ?_
            refine il_2 dX5_readNumber_4 ?_
            refine R_iconst (v := 2) dX5_readNumber_5 (by decide) ?_
            refine R_icmp_ge (tgt := 86) dX5_readNumber_6 (by decide) (fun q => absurd q (by decide)) (fun _ => ?_)
            refine al_0 dX5_readNumber_9 ?_
            refine R_getfi dX5_readNumber_10 fl_RX5_29 rfl sh_84 (Nat.le_of_ble_eq_true rfl) ?_
            refine al_0 dX5_readNumber_13 ?_
            refine R_getfi dX5_readNumber_14 fl_RX5_22 rfl sh_84 (Nat.le_of_ble_eq_true rfl) ?_
            refine R_icmp_ge (tgt := 86) dX5_readNumber_17 (by decide) (fun q => absurd q (Int32.not_le.mpr lt2)) (fun c17 => ?_)
            refine al_0 dX5_readNumber_20 ?_
            refine R_getfr (r := 85) dX5_readNumber_21 fl_RX5_9 rfl sh_84 (Nat.le_of_ble_eq_true rfl) rf_84_0 ?_
            refine al_0 dX5_readNumber_24 ?_
            refine R_getfi dX5_readNumber_25 fl_RX5_29 rfl sh_84 (Nat.le_of_ble_eq_true rfl) ?_
            refine R_bald dX5_readNumber_28 sh_85 (Nat.le_of_ble_eq_true rfl) (rn_ixe hat2) (show p + 1 < 100 by omega) ?_
            refine R_bipush (v := 48) dX5_readNumber_29 (by decide) ?_
            refine R_icmp_lt (tgt := 86) dX5_readNumber_31 (by decide) (fun q => absurd q (by rw [e5, g3]; exact d3)) (fun c31 => ?_)
            refine al_0 dX5_readNumber_34 ?_
            refine R_getfr (r := 85) dX5_readNumber_35 fl_RX5_9 rfl sh_84 (Nat.le_of_ble_eq_true rfl) rf_84_0 ?_
            refine al_0 dX5_readNumber_38 ?_
            refine R_getfi dX5_readNumber_39 fl_RX5_29 rfl sh_84 (Nat.le_of_ble_eq_true rfl) ?_
            refine R_bald dX5_readNumber_42 sh_85 (Nat.le_of_ble_eq_true rfl) (rn_ixe hat2) (show p + 1 < 100 by omega) ?_
            refine R_bipush (v := 57) dX5_readNumber_43 (by decide) ?_
            refine R_icmp_gt (tgt := 86) dX5_readNumber_45 (by decide) (fun c45 => ?_) (fun q => absurd q (not_not_intro (by rw [e5, g4]; omega)))
            refine il_1 dX5_readNumber_86 ?_
            refine R_ireturn dX5_readNumber_87 ⟨_, rfl, rfl⟩ ?_
            exact h1 _ _ hnum
      · have hnum := numR_1 (T := T) (L := L) d1 (by rw [isD_iff, nxT_g hp2]; omega)
        rw [nxT_l hp] at hnum
        have ge2 : rn_u mi 84 2 (nI (p + 1)) 84 1 ≤ rn_u mi 84 2 (nI (p + 1)) 84 2 := by rw [hat2, e841]; exact (sm_le_iff (by omega) (by omega)).mpr (by omega)
        refine R_iconst (v := -1) dX5_readNumber_0 (by decide) ?_
        refine is_1 dX5_readNumber_1 rfl ?_
        refine R_iconst (v := 0) dX5_readNumber_2 (by decide) ?_
        refine is_2 dX5_readNumber_3 rfl ?_
        refine il_2 dX5_readNumber_4 ?_
        refine R_iconst (v := 2) dX5_readNumber_5 (by decide) ?_
        refine R_icmp_ge (tgt := 86) dX5_readNumber_6 (by decide) (fun q => absurd q (by decide)) (fun _ => ?_)
        refine al_0 dX5_readNumber_9 ?_
        refine R_getfi dX5_readNumber_10 fl_RX5_29 rfl sh_84 (Nat.le_of_ble_eq_true rfl) ?_
        refine al_0 dX5_readNumber_13 ?_
        refine R_getfi dX5_readNumber_14 fl_RX5_22 rfl sh_84 (Nat.le_of_ble_eq_true rfl) ?_
        refine R_icmp_ge (tgt := 86) dX5_readNumber_17 (by decide) (fun q => absurd q (Int32.not_le.mpr lt1)) (fun c17 => ?_)
        refine al_0 dX5_readNumber_20 ?_
        refine R_getfr (r := 85) dX5_readNumber_21 fl_RX5_9 rfl sh_84 (Nat.le_of_ble_eq_true rfl) rf_84_0 ?_
        refine al_0 dX5_readNumber_24 ?_
        refine R_getfi dX5_readNumber_25 fl_RX5_29 rfl sh_84 (Nat.le_of_ble_eq_true rfl) ?_
        refine R_bald dX5_readNumber_28 sh_85 (Nat.le_of_ble_eq_true rfl) (rn_ixe hat) (show p < 100 by omega) ?_
        refine R_bipush (v := 48) dX5_readNumber_29 (by decide) ?_
        refine R_icmp_lt (tgt := 86) dX5_readNumber_31 (by decide) (fun q => absurd q (by rw [ht2, g1]; omega)) (fun c31 => ?_)
        refine al_0 dX5_readNumber_34 ?_
        refine R_getfr (r := 85) dX5_readNumber_35 fl_RX5_9 rfl sh_84 (Nat.le_of_ble_eq_true rfl) rf_84_0 ?_
        refine al_0 dX5_readNumber_38 ?_
        refine R_getfi dX5_readNumber_39 fl_RX5_29 rfl sh_84 (Nat.le_of_ble_eq_true rfl) ?_
        refine R_bald dX5_readNumber_42 sh_85 (Nat.le_of_ble_eq_true rfl) (rn_ixe hat) (show p < 100 by omega) ?_
        refine R_bipush (v := 57) dX5_readNumber_43 (by decide) ?_
        refine R_icmp_gt (tgt := 86) dX5_readNumber_45 (by decide) (fun q => absurd q (by rw [ht2, g2]; omega)) (fun c45 => ?_)
        refine il_1 dX5_readNumber_48 ?_
        refine R_iconst (v := 0) dX5_readNumber_49 (by decide) ?_
        refine cs_2 dX5_readNumber_50 mm_RX5_68 (Nat.le_of_ble_eq_true rfl) (Nat.le_of_ble_eq_true rfl) (K_max ?_)
        refine R_bipush (v := 10) dX5_readNumber_53 (by decide) ?_
        refine R_imul dX5_readNumber_55 ?_
        refine al_0 dX5_readNumber_56 ?_
        refine R_getfr (r := 85) dX5_readNumber_57 fl_RX5_9 rfl sh_84 (Nat.le_of_ble_eq_true rfl) rf_84_0 ?_
        refine al_0 dX5_readNumber_60 ?_
        refine R_getfi dX5_readNumber_61 fl_RX5_29 rfl sh_84 (Nat.le_of_ble_eq_true rfl) ?_
        refine R_bald dX5_readNumber_64 sh_85 (Nat.le_of_ble_eq_true rfl) (rn_ixe hat) (show p < 100 by omega) ?_
        refine R_iadd dX5_readNumber_65 ?_
        refine R_bipush (v := 48) dX5_readNumber_66 (by decide) ?_
        refine R_isub dX5_readNumber_68 ?_
        refine is_1 dX5_readNumber_69 rfl ?_
        refine al_0 dX5_readNumber_70 ?_
        refine R_dup dX5_readNumber_71 rfl ?_
        refine R_getfi dX5_readNumber_72 fl_RX5_29 rfl sh_84 (Nat.le_of_ble_eq_true rfl) ?_
        refine R_iconst (v := 1) dX5_readNumber_75 (by decide) ?_
        refine R_iadd dX5_readNumber_76 ?_
        refine R_putfi dX5_readNumber_77 fl_RX5_29 rfl (Or.inl rfl) sh_84 (Nat.le_of_ble_eq_true rfl) rfl rfl ?_
        rw [show mi 84 2 + 1 = nI (p + 1) by rw [hat]; exact sm_add p 1]
        rw [show (maxJ (-1) 0) * 10 + mi 85 p - 48 = nI (T p - 48) by rw [ht2]; exact dig_1 ⟨T p, by omega⟩ d1'.1]
        refine ii_2 (v := 1) dX5_readNumber_80 rfl (by decide) ?_
        refine R_goto (tgt := 4) dX5_readNumber_83 (by decide) ?_
        refine il_2 dX5_readNumber_4 ?_
        refine R_iconst (v := 2) dX5_readNumber_5 (by decide) ?_
        refine R_icmp_ge (tgt := 86) dX5_readNumber_6 (by decide) (fun q => absurd q (by decide)) (fun _ => ?_)
        refine al_0 dX5_readNumber_9 ?_
        refine R_getfi dX5_readNumber_10 fl_RX5_29 rfl sh_84 (Nat.le_of_ble_eq_true rfl) ?_
        refine al_0 dX5_readNumber_13 ?_
        refine R_getfi dX5_readNumber_14 fl_RX5_22 rfl sh_84 (Nat.le_of_ble_eq_true rfl) ?_
        refine R_icmp_ge (tgt := 86) dX5_readNumber_17 (by decide) (fun c17 => ?_) (fun q => absurd q (not_not_intro ge2))
        refine il_1 dX5_readNumber_86 ?_
        refine R_ireturn dX5_readNumber_87 ⟨_, rfl, rfl⟩ ?_
        exact h1 _ _ hnum
    · have hnum := numR_0 (T := T) (L := L) d1
      rw [isD_iff, nxT_l hp] at d1
      by_cases d3 : T p < 48
      · refine R_iconst (v := -1) dX5_readNumber_0 (by decide) ?_
        refine is_1 dX5_readNumber_1 rfl ?_
        refine R_iconst (v := 0) dX5_readNumber_2 (by decide) ?_
        refine is_2 dX5_readNumber_3 rfl ?_
        refine il_2 dX5_readNumber_4 ?_
        refine R_iconst (v := 2) dX5_readNumber_5 (by decide) ?_
        refine R_icmp_ge (tgt := 86) dX5_readNumber_6 (by decide) (fun q => absurd q (by decide)) (fun _ => ?_)
        refine al_0 dX5_readNumber_9 ?_
        refine R_getfi dX5_readNumber_10 fl_RX5_29 rfl sh_84 (Nat.le_of_ble_eq_true rfl) ?_
        refine al_0 dX5_readNumber_13 ?_
        refine R_getfi dX5_readNumber_14 fl_RX5_22 rfl sh_84 (Nat.le_of_ble_eq_true rfl) ?_
        refine R_icmp_ge (tgt := 86) dX5_readNumber_17 (by decide) (fun q => absurd q (Int32.not_le.mpr lt1)) (fun c17 => ?_)
        refine al_0 dX5_readNumber_20 ?_
        refine R_getfr (r := 85) dX5_readNumber_21 fl_RX5_9 rfl sh_84 (Nat.le_of_ble_eq_true rfl) rf_84_0 ?_
        refine al_0 dX5_readNumber_24 ?_
        refine R_getfi dX5_readNumber_25 fl_RX5_29 rfl sh_84 (Nat.le_of_ble_eq_true rfl) ?_
        refine R_bald dX5_readNumber_28 sh_85 (Nat.le_of_ble_eq_true rfl) (rn_ixe hat) (show p < 100 by omega) ?_
        refine R_bipush (v := 48) dX5_readNumber_29 (by decide) ?_
        refine R_icmp_lt (tgt := 86) dX5_readNumber_31 (by decide) (fun c31 => ?_) (fun q => absurd q (not_not_intro (by rw [ht2, g1]; exact d3)))
        refine il_1 dX5_readNumber_86 ?_
        refine R_ireturn dX5_readNumber_87 ⟨_, rfl, rfl⟩ ?_
        exact h0 hnum
      · refine R_iconst (v := -1) dX5_readNumber_0 (by decide) ?_
        refine is_1 dX5_readNumber_1 rfl ?_
        refine R_iconst (v := 0) dX5_readNumber_2 (by decide) ?_
        refine is_2 dX5_readNumber_3 rfl ?_
        refine il_2 dX5_readNumber_4 ?_
        refine R_iconst (v := 2) dX5_readNumber_5 (by decide) ?_
        refine R_icmp_ge (tgt := 86) dX5_readNumber_6 (by decide) (fun q => absurd q (by decide)) (fun _ => ?_)
        refine al_0 dX5_readNumber_9 ?_
        refine R_getfi dX5_readNumber_10 fl_RX5_29 rfl sh_84 (Nat.le_of_ble_eq_true rfl) ?_
        refine al_0 dX5_readNumber_13 ?_
        refine R_getfi dX5_readNumber_14 fl_RX5_22 rfl sh_84 (Nat.le_of_ble_eq_true rfl) ?_
        refine R_icmp_ge (tgt := 86) dX5_readNumber_17 (by decide) (fun q => absurd q (Int32.not_le.mpr lt1)) (fun c17 => ?_)
        refine al_0 dX5_readNumber_20 ?_
        refine R_getfr (r := 85) dX5_readNumber_21 fl_RX5_9 rfl sh_84 (Nat.le_of_ble_eq_true rfl) rf_84_0 ?_
        refine al_0 dX5_readNumber_24 ?_
        refine R_getfi dX5_readNumber_25 fl_RX5_29 rfl sh_84 (Nat.le_of_ble_eq_true rfl) ?_
        refine R_bald dX5_readNumber_28 sh_85 (Nat.le_of_ble_eq_true rfl) (rn_ixe hat) (show p < 100 by omega) ?_
        refine R_bipush (v := 48) dX5_readNumber_29 (by decide) ?_
        refine R_icmp_lt (tgt := 86) dX5_readNumber_31 (by decide) (fun q => absurd q (by rw [ht2, g1]; exact d3)) (fun c31 => ?_)
        refine al_0 dX5_readNumber_34 ?_
        refine R_getfr (r := 85) dX5_readNumber_35 fl_RX5_9 rfl sh_84 (Nat.le_of_ble_eq_true rfl) rf_84_0 ?_
        refine al_0 dX5_readNumber_38 ?_
        refine R_getfi dX5_readNumber_39 fl_RX5_29 rfl sh_84 (Nat.le_of_ble_eq_true rfl) ?_
        refine R_bald dX5_readNumber_42 sh_85 (Nat.le_of_ble_eq_true rfl) (rn_ixe hat) (show p < 100 by omega) ?_
        refine R_bipush (v := 57) dX5_readNumber_43 (by decide) ?_
        refine R_icmp_gt (tgt := 86) dX5_readNumber_45 (by decide) (fun c45 => ?_) (fun q => absurd q (not_not_intro (by rw [ht2, g2]; omega)))
        refine il_1 dX5_readNumber_86 ?_
        refine R_ireturn dX5_readNumber_87 ⟨_, rfl, rfl⟩ ?_
        exact h0 hnum
  · have hnum := numR_0 (T := T) (L := L) (p := p) (by rw [isD_iff, nxT_g hp]; omega)
    have ge1 : mi 84 1 ≤ mi 84 2 := by rw [hat, eL]; exact (sm_le_iff (by omega) (by omega)).mpr (by omega)
    refine R_iconst (v := -1) dX5_readNumber_0 (by decide) ?_
    refine is_1 dX5_readNumber_1 rfl ?_
    refine R_iconst (v := 0) dX5_readNumber_2 (by decide) ?_
    refine is_2 dX5_readNumber_3 rfl ?_
    refine il_2 dX5_readNumber_4 ?_
    refine R_iconst (v := 2) dX5_readNumber_5 (by decide) ?_
    refine R_icmp_ge (tgt := 86) dX5_readNumber_6 (by decide) (fun q => absurd q (by decide)) (fun _ => ?_)
    refine al_0 dX5_readNumber_9 ?_
    refine R_getfi dX5_readNumber_10 fl_RX5_29 rfl sh_84 (Nat.le_of_ble_eq_true rfl) ?_
    refine al_0 dX5_readNumber_13 ?_
    refine R_getfi dX5_readNumber_14 fl_RX5_22 rfl sh_84 (Nat.le_of_ble_eq_true rfl) ?_
    refine R_icmp_ge (tgt := 86) dX5_readNumber_17 (by decide) (fun c17 => ?_) (fun q => absurd q (not_not_intro ge1))
    refine il_1 dX5_readNumber_86 ?_
    refine R_ireturn dX5_readNumber_87 ⟨_, rfl, rfl⟩ ?_
    exact h0 hnum

set_option maxHeartbeats 4000000 in
theorem K_readOneOf {G : rn_G} {d : Nat} {κ : Nat × Nat} {Q : Option Value → rn_S → Prop} {mi : Nat → Nat → Int32} {ml : Nat → Nat → Int64} {D : Nat → Nat} {T : Nat → Nat} {L p : Nat} (htx : TXC T L mi) (hat : mi 84 2 = nI p) (hpL : p ≤ L) {i : Nat} (hi : i < 6) (hl : 0 < rn_sl.getD i 0) (h1 : ∀ m, p < L → ixF i (rn_sl.getD i 0) 0 (nI (T p)) = nI m → m < 100 → Q (some (.int (nI m))) (rn_u mi 84 2 (nI (p + 1)), ml, RF D, 164)) (h0 : (¬ p < L ∨ ixF i (rn_sl.getD i 0) 0 (nI (T p)) = -1) → Q (some (.int (-1))) (mi, ml, RF D, 164)) (hix : ∀ t, t < 128 → ixF i (rn_sl.getD i 0) 0 (nI t) = -1 ∨ ∃ m, m < 100 ∧ ixF i (rn_sl.getD i 0) 0 (nI t) = nI m) : Call G (d + 4) M_X5_readOneOf [.ref 84, .ref (1000 + (10 + i))] (mi, ml, RF D, 164) κ Q := by
  show Run G _ M_X5_readOneOf 0 [.ref 84, .ref (1000 + (10 + i)), .null] [] _ _ _
  obtain ⟨hL, eL, htxt⟩ := htx
  refine al_0 dX5_readOneOf_0 ?_
  refine R_getfi dX5_readOneOf_1 fl_RX5_29 rfl sh_84 (Nat.le_of_ble_eq_true rfl) ?_
  refine al_0 dX5_readOneOf_4 ?_
  refine R_getfi dX5_readOneOf_5 fl_RX5_22 rfl sh_84 (Nat.le_of_ble_eq_true rfl) ?_
  refine R_icmp_ge (tgt := 28) dX5_readOneOf_8 (by decide) (fun c8 => ?_) (fun c8 => ?_)
  · refine R_iconst (v := -1) dX5_readOneOf_28 (by decide) ?_
    refine is_2 dX5_readOneOf_29 rfl ?_
    refine il_2 dX5_readOneOf_30 ?_
    refine R_if_lt (tgt := 44) dX5_readOneOf_31 (by decide) (fun _ => ?_) (fun q => absurd q (by decide))
    refine il_2 dX5_readOneOf_44 ?_
    refine R_ireturn dX5_readOneOf_45 ⟨_, rfl, rfl⟩ ?_
    first
      | exact h0 (Or.inl (fun q => Int32.not_le.mpr ((sm_lt_iff (by omega) (by omega)).mpr q) (by rw [← hat, ← eL]; exact c8)))
      | (rcases hix2 with e | ⟨m, hm, e⟩
         · rw [hyy, e]; exact h0 (Or.inr e)
         · exact absurd c31 (by rw [hyy, e]; exact nI_pos (by omega)))
      | (rcases hix2 with e | ⟨m, hm, e⟩
         · exact absurd (by rw [hyy, e]; decide) c31
         · rw [show mi 84 2 + 1 = nI (p + 1) by rw [hat]; exact sm_add p 1, hyy, e]; exact h1 m hp e hm)
  · have hp : p < L := (sm_lt_iff (by omega) (by omega)).mp (by rw [← hat, ← eL]; exact Int32.not_le.mp c8)
    obtain ⟨ht1, ht2⟩ := htxt p hp
    have hix2 := hix (T p) ht1
    refine al_1 dX5_readOneOf_11 ?_
    refine al_0 dX5_readOneOf_12 ?_
    refine R_getfr (r := 85) dX5_readOneOf_13 fl_RX5_9 rfl sh_84 (Nat.le_of_ble_eq_true rfl) rf_84_0 ?_
    refine al_0 dX5_readOneOf_16 ?_
    refine R_getfi dX5_readOneOf_17 fl_RX5_29 rfl sh_84 (Nat.le_of_ble_eq_true rfl) ?_
    refine R_bald dX5_readOneOf_20 sh_85 (Nat.le_of_ble_eq_true rfl) (rn_ixe hat) (show p < 100 by omega) ?_
    refine R_i2c dX5_readOneOf_21 ?_
    refine ct_1 dX5_readOneOf_22 mm_RX5_110 (by first | assumption | decide) rfl (Nat.le_of_ble_eq_true rfl) (Nat.le_of_ble_eq_true rfl) (K_indexOf hi (t := T p) (by rw [ht2]; exact i2c_t ⟨T p, ht1⟩) ht1 hl (nmr (fun yy hyy => ?_)))
    refine R_goto (tgt := 29) dX5_readOneOf_25 (by decide) ?_
    refine is_2 dX5_readOneOf_29 rfl ?_
    refine il_2 dX5_readOneOf_30 ?_
    refine R_if_lt (tgt := 44) dX5_readOneOf_31 (by decide) (fun c31 => ?_) (fun c31 => ?_)
    · refine il_2 dX5_readOneOf_44 ?_
      refine R_ireturn dX5_readOneOf_45 ⟨_, rfl, rfl⟩ ?_
      first
        | exact h0 (Or.inl (fun q => Int32.not_le.mpr ((sm_lt_iff (by omega) (by omega)).mpr q) (by rw [← hat, ← eL]; exact c8)))
        | (rcases hix2 with e | ⟨m, hm, e⟩
           · rw [hyy, e]; exact h0 (Or.inr e)
           · exact absurd c31 (by rw [hyy, e]; exact nI_pos (by omega)))
        | (rcases hix2 with e | ⟨m, hm, e⟩
           · exact absurd (by rw [hyy, e]; decide) c31
           · rw [show mi 84 2 + 1 = nI (p + 1) by rw [hat]; exact sm_add p 1, hyy, e]; exact h1 m hp e hm)
    · refine al_0 dX5_readOneOf_34 ?_
      refine R_dup dX5_readOneOf_35 rfl ?_
      refine R_getfi dX5_readOneOf_36 fl_RX5_29 rfl sh_84 (Nat.le_of_ble_eq_true rfl) ?_
      refine R_iconst (v := 1) dX5_readOneOf_39 (by decide) ?_
      refine R_iadd dX5_readOneOf_40 ?_
      refine R_putfi dX5_readOneOf_41 fl_RX5_29 rfl (Or.inl rfl) sh_84 (Nat.le_of_ble_eq_true rfl) rfl rfl ?_
      refine il_2 dX5_readOneOf_44 ?_
      refine R_ireturn dX5_readOneOf_45 ⟨_, rfl, rfl⟩ ?_
      first
        | exact h0 (Or.inl (fun q => Int32.not_le.mpr ((sm_lt_iff (by omega) (by omega)).mpr q) (by rw [← hat, ← eL]; exact c8)))
        | (rcases hix2 with e | ⟨m, hm, e⟩
           · rw [hyy, e]; exact h0 (Or.inr e)
           · exact absurd c31 (by rw [hyy, e]; exact nI_pos (by omega)))
        | (rcases hix2 with e | ⟨m, hm, e⟩
           · exact absurd (by rw [hyy, e]; decide) c31
           · rw [show mi 84 2 + 1 = nI (p + 1) by rw [hat]; exact sm_add p 1, hyy, e]; exact h1 m hp e hm)

theorem ixo_4 : ∀ t, t < 128 → ixF 4 (rn_sl.getD 4 0) 0 (nI t) = -1 ∨ ∃ m, m < 100 ∧ ixF 4 (rn_sl.getD 4 0) 0 (nI t) = nI m := fun t ht => by
  rw [show ixF 4 (rn_sl.getD 4 0) 0 (nI t) = _ from ix_let ⟨t, ht⟩]
  dsimp only
  split
  · exact Or.inl rfl
  · rename_i h
    exact Or.inr ⟨_, by have := (letR_lt h).2; omega, rfl⟩
theorem ixo_5 : ∀ t, t < 128 → ixF 5 (rn_sl.getD 5 0) 0 (nI t) = -1 ∨ ∃ m, m < 100 ∧ ixF 5 (rn_sl.getD 5 0) 0 (nI t) = nI m := fun t ht => by
  rw [show ixF 5 (rn_sl.getD 5 0) 0 (nI t) = _ from ix_sgn ⟨t, ht⟩]
  dsimp only
  split
  · exact Or.inr ⟨t - 60, by omega, rfl⟩
  · exact Or.inl rfl
theorem nI_n1 {m : Nat} (h : m < 100) : ¬ nI m = -1 := fun e => absurd (show nI m < 0 by rw [e]; decide) (nI_pos (by omega))
theorem ixl {t m : Nat} (ht : t < 128) (hm : m < 100) (h : ixF 4 (rn_sl.getD 4 0) 0 (nI t) = nI m) : letR t = m ∧ ¬ letR t = 6 := by
  rw [show ixF 4 (rn_sl.getD 4 0) 0 (nI t) = _ from ix_let ⟨t, ht⟩] at h
  dsimp only at h
  split at h
  · exact absurd h.symm (nI_n1 hm)
  · rename_i h6
    exact ⟨sm_inj (by have := (letR_lt h6).2; omega) (by omega) h, h6⟩
theorem ixl0 {t : Nat} (ht : t < 128) (h : ixF 4 (rn_sl.getD 4 0) 0 (nI t) = -1) : letR t = 6 := by
  rw [show ixF 4 (rn_sl.getD 4 0) 0 (nI t) = _ from ix_let ⟨t, ht⟩] at h
  dsimp only at h
  split at h
  · assumption
  · rename_i h6
    exact absurd h (nI_n1 (by have := (letR_lt h6).2; omega))
theorem ixs {t m : Nat} (ht : t < 128) (hm : m < 100) (h : ixF 5 (rn_sl.getD 5 0) 0 (nI t) = nI m) : (60 ≤ t ∧ t ≤ 62) ∧ m = t - 60 := by
  rw [show ixF 5 (rn_sl.getD 5 0) 0 (nI t) = _ from ix_sgn ⟨t, ht⟩] at h
  dsimp only at h
  split at h
  · rename_i h6
    exact ⟨h6, (sm_inj (by omega) (by omega) h).symm⟩
  · exact absurd h.symm (nI_n1 hm)
theorem ixs0 {t : Nat} (ht : t < 128) (h : ixF 5 (rn_sl.getD 5 0) 0 (nI t) = -1) : ¬ (60 ≤ t ∧ t ≤ 62) := by
  rw [show ixF 5 (rn_sl.getD 5 0) 0 (nI t) = _ from ix_sgn ⟨t, ht⟩] at h
  dsimp only at h
  split at h
  · exact absurd h (nI_n1 (by omega))
  · assumption
/-- the dusk that is being read holds these codes, and the reader is at this sign -/
def RC (m0 m : Nat → Nat → Int32) (k p : Nat) (cs : List Int32) : Prop := (∀ a, a ≠ k → a ≠ k + 1 → a ≠ 84 → m a = m0 a) ∧ (∀ f, f ≠ 2 → m 84 f = m0 84 f) ∧ (∀ f, f ≠ 1 → m k f = m0 k f) ∧ m 84 2 = nI p ∧ m k 1 = nI cs.length ∧ ∀ j v, cs[j]? = some v → m (k + 1) j = v
theorem pd_84 {k : Nat} (h : PD k) : k ≠ 84 ∧ k + 1 ≠ 84 ∧ k ≠ 85 ∧ k + 1 ≠ 85 := by
  rcases h with rfl | rfl | rfl | rfl | ⟨h1, h2, h3⟩ <;> omega
theorem RC.at {m0 m : Nat → Nat → Int32} {k p q : Nat} {cs : List Int32} (hk : PD k) (h : RC m0 m k p cs) : RC m0 (rn_u m 84 2 (nI q)) k q cs := by
  obtain ⟨h1, h2, h3, h4, h5, h6⟩ := h
  obtain ⟨k1, k2, -⟩ := pd_84 hk
  refine ⟨fun a a1 a2 a3 => by rw [rn_u_ne a3]; exact h1 a a1 a2 a3, fun f hf => ?_, fun f hf => by rw [rn_u_ne k1]; exact h3 f hf, rn_u_eq, by rw [rn_u_ne k1]; exact h5, by rw [rn_u_ne k2]; exact h6⟩
  rw [← h2 f hf]
  unfold rn_u
  rw [if_neg (fun q => hf q.2)]
theorem RC.add {m0 m : Nat → Nat → Int32} {k p : Nat} {cs : List Int32} {x : Int32} (hk : PD k) (h : RC m0 m k p cs) : RC m0 (rn_u (rn_u m (k + 1) cs.length x) k 1 (nI (cs.length + 1))) k p (cs ++ [x]) := by
  obtain ⟨h1, h2, h3, h4, h5, h6⟩ := h
  obtain ⟨k1, k2, -⟩ := pd_84 hk
  have e84 : rn_u (rn_u m (k + 1) cs.length x) k 1 (nI (cs.length + 1)) 84 = m 84 := by rw [rn_u_ne (Ne.symm k1), rn_u_ne (Ne.symm k2)]
  refine ⟨fun a a1 a2 a3 => by rw [rn_u_ne a1, rn_u_ne a2]; exact h1 a a1 a2 a3, fun f hf => by rw [e84]; exact h2 f hf, fun f hf => ?_, by rw [e84]; exact h4, ?_, fun j v hj => ?_⟩
  · rw [← h3 f hf]
    unfold rn_u
    rw [if_neg (fun q => hf q.2), if_neg (by omega)]
  · rw [List.length_append]; exact rn_u_eq
  · rw [rn_u_ne (show k + 1 ≠ k by omega)]
    rcases Nat.lt_trichotomy j cs.length with q | q | q
    · rw [List.getElem?_append_left q] at hj
      unfold rn_u
      rw [if_neg (by omega)]; exact h6 j v hj
    · subst q
      rw [List.getElem?_append_right (Nat.le_refl _), Nat.sub_self] at hj
      obtain rfl := Option.some.inj hj
      exact rn_u_eq
    · rw [List.getElem?_eq_none (by rw [List.length_append, List.length_cons, List.length_nil]; omega)] at hj
      exact absurd hj (by simp)
theorem RC.tx {m0 m : Nat → Nat → Int32} {k p L : Nat} {T : Nat → Nat} {cs : List Int32} (hk : PD k) (h : RC m0 m k p cs) (ht : TXC T L m0) : TXC T L m := by
  obtain ⟨h1, h2, h3, h4, h5, h6⟩ := h
  obtain ⟨k1, k2, k3, k4⟩ := pd_84 hk
  refine ⟨ht.1, by rw [h2 1 (by decide)]; exact ht.2.1, fun j hj => ?_⟩
  rw [h1 85 (Ne.symm k3) (Ne.symm k4) (by decide)]
  exact ht.2.2 j hj

set_option maxHeartbeats 4000000 in
theorem K_readTest {G : rn_G} {d : Nat} {κ : Nat × Nat} {Q : Option Value → rn_S → Prop} {mi : Nat → Nat → Int32} {ml : Nat → Nat → Int64} {D : Nat → Nat} {T : Nat → Nat} {L p : Nat} {m0 : Nat → Nat → Int32} {bs : List Int32} {c : List TK} (htx : TXC T L m0) (hk : PD (D 84)) (hpL : p ≤ L) (hrc : RC m0 mi (D 84) p (bs ++ c.map tC)) (hsz : bs.length + c.length ≤ p) (h : ∀ m, RC m0 m (D 84) (tstR T L p c).2.1 (bs ++ (tstR T L p c).2.2.map tC) → Q (some (.int (bi (tstR T L p c).1))) (m, ml, RF D, 164)) : Call G (d + 5) M_X5_readTest [.ref 84] (mi, ml, RF D, 164) κ Q := by
  show Run G _ M_X5_readTest 0 [.ref 84, .null, .null, .null] [] _ _ _
  have htx1 := hrc.tx hk htx
  have hat := hrc.2.2.2.1
  have hL := htx.1
  refine al_0 dX5_readTest_0 ?_
  refine R_ldcS (i := 4) dX5_readTest_1 (by decide) rfl ?_
  refine cv_1 dX5_readTest_3 mm_RX5_104 sh_84 (Nat.le_of_ble_eq_true rfl) ⟨_, rfl, rfl⟩ (Nat.le_of_ble_eq_true rfl) (Nat.le_of_ble_eq_true rfl) (K_readOneOf htx1 hat hpL (by decide) (by decide) (fun m3 q3 e3 hm3 => ?_) (fun e3 => ?_) ixo_4)
  · have n3 : ¬ nI m3 < 0 := nI_pos (by omega)
    obtain ⟨ht1, ht2⟩ := htx1.2.2 p q3
    obtain ⟨el1, el2⟩ := ixl ht1 hm3 e3
    have hrc2 := hrc.at (q := p + 1) hk
    have htx2 := hrc2.tx hk htx
    have hat2 : rn_u mi 84 2 (nI (p + 1)) 84 2 = nI (p + 1) := rn_u_eq
    refine is_1 dX5_readTest_6 rfl ?_
    refine il_1 dX5_readTest_7 ?_
    refine R_if_ge (tgt := 13) dX5_readTest_8 (by decide) (fun c8 => ?_) (fun q => absurd q (not_not_intro (Int32.not_lt.mp n3)))
    refine al_0 dX5_readTest_13 ?_
    refine R_ldcS (i := 5) dX5_readTest_14 (by decide) rfl ?_
    refine cv_1 dX5_readTest_16 mm_RX5_104 sh_84 (Nat.le_of_ble_eq_true rfl) ⟨_, rfl, rfl⟩ (Nat.le_of_ble_eq_true rfl) (Nat.le_of_ble_eq_true rfl) (K_readOneOf htx2 hat2 (show p + 1 ≤ L by omega) (by decide) (by decide) (fun m16 q16 e16 hm16 => ?_) (fun e16 => ?_) ixo_5)
    · have n16 : ¬ nI m16 < 0 := nI_pos (by omega)
      obtain ⟨ht3, ht4⟩ := htx1.2.2 (p + 1) q16
      obtain ⟨es1, es2⟩ := ixs ht3 hm16 e16
      rw [rn_u_u]
      have hrc3 := hrc.at (q := p + 1 + 1) hk
      have htx3 := hrc3.tx hk htx
      have hat3 : rn_u mi 84 2 (nI (p + 1 + 1)) 84 2 = nI (p + 2) := rn_u_eq
      refine is_2 dX5_readTest_19 rfl ?_
      refine il_2 dX5_readTest_20 ?_
      refine R_if_ge (tgt := 26) dX5_readTest_21 (by decide) (fun c21 => ?_) (fun q => absurd q (not_not_intro (Int32.not_lt.mp n16)))
      refine al_0 dX5_readTest_26 ?_
      refine cv_0 dX5_readTest_27 mm_RX5_55 sh_84 (Nat.le_of_ble_eq_true rfl) ⟨_, rfl, rfl⟩ (Nat.le_of_ble_eq_true rfl) (Nat.le_of_ble_eq_true rfl) (K_readNumber (p := p + 2) htx3 hat3 (show p + 2 ≤ L by omega) (fun hn => ?_) (fun n q hn => ?_))
      · refine is_3 dX5_readTest_30 rfl ?_
        refine il_3 dX5_readTest_31 ?_
        refine R_if_ge (tgt := 37) dX5_readTest_32 (by decide) (fun q => absurd q (by decide)) (fun _ => ?_)
        refine R_iconst (v := 0) dX5_readTest_35 (by decide) ?_
        refine R_ireturn dX5_readTest_36 ⟨_, rfl, rfl⟩ ?_
        rw [show tstR T L p c = (false, p + 2, c) by unfold tstR; rw [nxT_l q3, if_neg el2, nxT_l q16, if_pos es1, hn]] at h
        exact h _ hrc3
      · have hns := numR_some hn
        have n26 : ¬ nI n < 0 := nI_pos (by dsimp only at hns; omega)
        rw [rn_u_u]
        have hrc4 := hrc.at (q := q) hk
        have hln : (bs ++ c.map tC).length = bs.length + c.length := by rw [List.length_append, List.length_map]
        refine is_3 dX5_readTest_30 rfl ?_
        refine il_3 dX5_readTest_31 ?_
        refine R_if_ge (tgt := 37) dX5_readTest_32 (by decide) (fun c32 => ?_) (fun q => absurd q (not_not_intro (Int32.not_lt.mp n26)))
        refine al_0 dX5_readTest_37 ?_
        refine R_getfr (r := (D 84)) dX5_readTest_38 fl_RX5_18 rfl sh_84 (Nat.le_of_ble_eq_true rfl) rfl ?_
        refine il_1 dX5_readTest_41 ?_
        refine R_sipush (v := 300) dX5_readTest_42 (by decide) ?_
        refine R_imul dX5_readTest_45 ?_
        refine il_2 dX5_readTest_46 ?_
        refine R_bipush (v := 100) dX5_readTest_47 (by decide) ?_
        refine R_imul dX5_readTest_49 ?_
        refine R_iadd dX5_readTest_50 ?_
        refine il_3 dX5_readTest_51 ?_
        refine R_iadd dX5_readTest_52 ?_
        refine cv_1 dX5_readTest_53 mm_RX5_78 (pd_s0 hk) (show (D 84) < 164 by have := pd_n hk; omega) ⟨_, rfl, rfl⟩ (Nat.le_of_ble_eq_true rfl) (Nat.le_of_ble_eq_true rfl) (K_addCode hk hrc4.2.2.2.2.1 (by omega) ?_)
        have hrc5 := hrc4.add (x := nI m3 * 300 + nI m16 * 100 + nI n) hk
        refine R_iconst (v := 1) dX5_readTest_56 (by decide) ?_
        refine R_ireturn dX5_readTest_57 ⟨_, rfl, rfl⟩ ?_
        rw [show tstR T L p c = (true, q, c ++ [(3, m3, m16, n)]) by unfold tstR; rw [nxT_l q3, if_neg el2, nxT_l q16, if_pos es1, hn, el1, es2]] at h
        refine h _ ?_
        rw [List.map_append, ← List.append_assoc]
        have e : tC (3, m3, m16, n) = nI m3 * 300 + nI m16 * 100 + nI n := by
          unfold tC
          dsimp only
          rw [if_neg (by decide), if_neg (by decide), if_neg (by decide), show (300 : Int32) = nI 300 from rfl, show (100 : Int32) = nI 100 from rfl, sm_mul, sm_mul, sm_add, sm_add, Nat.mul_comm 300, Nat.mul_comm 100]
        rw [show [(3, m3, m16, n)].map tC = [nI m3 * 300 + nI m16 * 100 + nI n] by rw [← e]; rfl]
        exact hrc5
    · refine is_2 dX5_readTest_19 rfl ?_
      refine il_2 dX5_readTest_20 ?_
      refine R_if_ge (tgt := 26) dX5_readTest_21 (by decide) (fun q => absurd q (by decide)) (fun _ => ?_)
      refine R_iconst (v := 0) dX5_readTest_24 (by decide) ?_
      refine R_ireturn dX5_readTest_25 ⟨_, rfl, rfl⟩ ?_
      rw [show tstR T L p c = (false, p + 1, c) by unfold tstR; rw [nxT_l q3, if_neg el2, if_neg (by rcases e16 with q | q; rw [nxT_g q]; omega; by_cases hp : p + 1 < L; rw [nxT_l hp]; exact ixs0 (htx1.2.2 (p + 1) hp).1 q; rw [nxT_g hp]; omega)]] at h
      exact h _ hrc2
  · refine is_1 dX5_readTest_6 rfl ?_
    refine il_1 dX5_readTest_7 ?_
    refine R_if_ge (tgt := 13) dX5_readTest_8 (by decide) (fun q => absurd q (by decide)) (fun _ => ?_)
    refine R_iconst (v := 0) dX5_readTest_11 (by decide) ?_
    refine R_ireturn dX5_readTest_12 ⟨_, rfl, rfl⟩ ?_
    rw [show tstR T L p c = (false, p, c) by unfold tstR; rw [if_pos (by rcases e3 with q | q; rw [nxT_g q]; rfl; by_cases hp : p < L; rw [nxT_l hp]; exact ixl0 (htx1.2.2 p hp).1 q; rw [nxT_g hp]; rfl)]] at h
    exact h _ hrc
