/-! the reference: one more person -/
set_option maxHeartbeats 4000000 in
theorem L_person9 {G : rn_G} {d : Nat} {κ : Nat × Nat} {Q : Option Value → rn_S → Prop} {ml : Nat → Nat → Int64} {D : Nat → Nat} {P : Nat} {x y z : Int32} (hP : P < 6) : ∀ (n j : Nat) (v : Int32) (mi : Nat → Nat → Int32), j + n = 4 → v = nI j → mi 116 1 = nI P → (∀ m, (∀ a, a ≠ 122 → m a = mi a) → (∀ q, m 122 q = if 4 * P + j ≤ q ∧ q < 4 * P + 4 then 0 else mi 122 q) → Q (some (.int (nI P + 1 - 1))) (rn_u m 116 1 (nI P + 1), ml, RF D, 164)) → Run G (d + 2) M_X9_person 124 [.ref 116, .int x, .int y, .int z, .int v] [] (mi, ml, RF D, 164) κ Q := by
  intro n
  induction n with
  | zero =>
    intro j v mi hj hv hpp h
    have hQ := h mi (fun _ _ => rfl) (fun q => by rw [if_neg (by omega)])
    rw [← hpp] at hQ
    refine il_4 dX9_person_124 ?_
    refine R_iconst (v := 4) dX9_person_126 (by decide) ?_
    refine R_icmp_ge (tgt := 151) dX9_person_127 (by decide) (fun c127 => ?_) (fun q => absurd q (not_not_intro (by rw [hv, show j = 4 by omega]; decide)))
    refine al_0 dX9_person_151 ?_
    refine R_dup dX9_person_152 rfl ?_
    refine R_getfi dX9_person_153 fl_RX9_13 rfl sh_116 (Nat.le_of_ble_eq_true rfl) ?_
    refine R_iconst (v := 1) dX9_person_156 (by decide) ?_
    refine R_iadd dX9_person_157 ?_
    refine R_putfi dX9_person_158 fl_RX9_13 rfl (Or.inl rfl) sh_116 (Nat.le_of_ble_eq_true rfl) rfl rfl ?_
    refine al_0 dX9_person_161 ?_
    refine R_getfi dX9_person_162 fl_RX9_13 rfl sh_116 (Nat.le_of_ble_eq_true rfl) ?_
    refine R_iconst (v := 1) dX9_person_165 (by decide) ?_
    refine R_isub dX9_person_166 ?_
    refine R_ireturn dX9_person_167 ⟨_, rfl, rfl⟩ ?_
    exact hQ
  | succ n ih =>
    intro j v mi hj hv hpp h
    have e4 : (4 : Int32) * mi 116 1 + v = nI (4 * P + j) := by rw [hpp, hv]; exact (congrArg (· + nI j) (sm_mul 4 P)).trans (sm_add _ _)
    refine il_4 dX9_person_124 ?_
    refine R_iconst (v := 4) dX9_person_126 (by decide) ?_
    refine R_icmp_ge (tgt := 151) dX9_person_127 (by decide) (fun q => absurd q (by rw [hv]; exact nI_ge (b := 4) (by omega) (by decide))) (fun c127 => ?_)
    refine al_0 dX9_person_130 ?_
    refine R_getfr (r := 122) dX9_person_131 fl_RX9_53 rfl sh_116 (Nat.le_of_ble_eq_true rfl) rf_116_14 ?_
    refine R_iconst (v := 4) dX9_person_134 (by decide) ?_
    refine al_0 dX9_person_135 ?_
    refine R_getfi dX9_person_136 fl_RX9_13 rfl sh_116 (Nat.le_of_ble_eq_true rfl) ?_
    refine R_imul dX9_person_139 ?_
    refine il_4 dX9_person_140 ?_
    refine R_iadd dX9_person_142 ?_
    refine R_iconst (v := 0) dX9_person_143 (by decide) ?_
    refine R_iast dX9_person_144 sh_122 (Nat.le_of_ble_eq_true rfl) (rn_ixe e4) (show 4 * P + j < 24 by omega) ?_
    refine ii_4 (v := _ + 1) dX9_person_145 rfl (by rfl) ?_
    refine R_goto (tgt := 124) dX9_person_148 (by decide) ?_
    refine ih (j + 1) _ _ (by omega) (by rw [hv]; exact sm_add j 1) hpp (fun m h1 h2 => h m (fun a ha => by rw [h1 a ha, rn_u_ne ha]) (fun q => ?_))
    rw [h2 q, rn_u_at]
    dsimp only
    by_cases e : q = 4 * P + j
    · rw [if_pos e, if_neg (by omega), if_pos (by omega)]
    · rw [if_neg e]
      by_cases e2 : 4 * P + (j + 1) ≤ q ∧ q < 4 * P + 4
      · rw [if_pos e2, if_pos (by omega)]
      · rw [if_neg e2, if_neg (by omega)]

set_option maxHeartbeats 4000000 in
theorem MC_person {G : rn_G} {d : Nat} {κ : Nat × Nat} {Q : Option Value → rn_S → Prop} {mi : Nat → Nat → Int32} {ml : Nat → Nat → Int64} {D : Nat → Nat} {x y z : Int32} {w : WD} {c k : Nat} {ds : Nat → CL} {sl : SL} {el bl : EL} {im : IM} {T : Nat → Nat} {L : Nat} {ac : List Int32} {tp : TP} (hv : IV w c k ds sl el bl im ac tp) (hr : MR w c k ds sl el bl im T L ac tp mi ml) (h : ∀ m l, LO mi m ml l → MR (personA w x y z).2 c k ds sl el bl im T L ac tp m l → Q (some (.int (personA w x y z).1)) (m, l, RF D, 164))  : Call G (d + 2) M_X9_person [.ref 116, .int x, .int y, .int z] (mi, ml, RF D, 164) κ Q := by
  show Run G _ M_X9_person 0 [.ref 116, .int x, .int y, .int z, .null] [] _ _ _
  have hB := hr.1
  have hw := hv.1.1
  have hk6 := hv.2.2.1
  obtain ⟨N, P, R, ⟨hN, hP, hR, hg, hpp, hrr, hdn, hmn, hkp, hwt, hgp, htr⟩, hpc, hbits, hPJ⟩ := hB.n hw
  obtain ⟨w0, w1, w2, w3, w4, w5, w6, w10⟩ := hB.cells
  refine al_0 dX9_person_0 ?_
  refine il_1 dX9_person_1 ?_
  refine R_iconst (v := 0) dX9_person_2 (by decide) ?_
  refine R_bipush (v := 6) dX9_person_3 (by decide) ?_
  refine cv_3 dX9_person_5 mm_RX9_293 sh_116 (Nat.le_of_ble_eq_true rfl) ⟨_, rfl, rfl⟩ (Nat.le_of_ble_eq_true rfl) (Nat.le_of_ble_eq_true rfl) (M_in (fun c5 => ?_) (fun c5 => ?_))
  · refine R_if_ne (tgt := 13) dX9_person_8 (by decide) (fun _ => ?_) (fun q => absurd q (by decide))
    refine al_0 dX9_person_13 ?_
    refine il_2 dX9_person_14 ?_
    refine R_iconst (v := 0) dX9_person_15 (by decide) ?_
    refine R_bipush (v := 9) dX9_person_16 (by decide) ?_
    refine cv_3 dX9_person_18 mm_RX9_293 sh_116 (Nat.le_of_ble_eq_true rfl) ⟨_, rfl, rfl⟩ (Nat.le_of_ble_eq_true rfl) (Nat.le_of_ble_eq_true rfl) (M_in (fun c18 => ?_) (fun c18 => ?_))
    · refine R_if_eq (tgt := 32) dX9_person_21 (by decide) (fun q => absurd q (by decide)) (fun _ => ?_)
      refine al_0 dX9_person_24 ?_
      refine il_3 dX9_person_25 ?_
      refine cv_1 dX9_person_26 mm_RX9_297 sh_116 (Nat.le_of_ble_eq_true rfl) ⟨_, rfl, rfl⟩ (Nat.le_of_ble_eq_true rfl) (Nat.le_of_ble_eq_true rfl) (M_isPlace (fun c26 => ?_) (fun c26 => ?_))
      · refine R_if_ne (tgt := 35) dX9_person_29 (by decide) (fun _ => ?_) (fun q => absurd q (by decide))
        refine al_0 dX9_person_35 ?_
        refine R_getfi dX9_person_36 fl_RX9_13 rfl sh_116 (Nat.le_of_ble_eq_true rfl) ?_
        refine R_bipush (v := 6) dX9_person_39 (by decide) ?_
        refine R_icmp_ne (tgt := 47) dX9_person_41 (by decide) (fun c41 => ?_) (fun c41 => ?_)
        · have hP6 : P < 6 := cntI hpp c41 hP
          refine al_0 dX9_person_47 ?_
          refine R_getfr (r := 118) dX9_person_48 fl_RX9_41 rfl sh_116 (Nat.le_of_ble_eq_true rfl) rf_116_10 ?_
          refine al_0 dX9_person_51 ?_
          refine R_getfi dX9_person_52 fl_RX9_13 rfl sh_116 (Nat.le_of_ble_eq_true rfl) ?_
          refine il_1 dX9_person_55 ?_
          refine R_iast dX9_person_56 sh_118 (Nat.le_of_ble_eq_true rfl) (rn_ixe hpp) hP6 ?_
          refine al_0 dX9_person_57 ?_
          refine R_getfr (r := 119) dX9_person_58 fl_RX9_44 rfl sh_116 (Nat.le_of_ble_eq_true rfl) rf_116_11 ?_
          refine al_0 dX9_person_61 ?_
          refine R_getfi dX9_person_62 fl_RX9_13 rfl sh_116 (Nat.le_of_ble_eq_true rfl) ?_
          refine il_2 dX9_person_65 ?_
          refine R_iast dX9_person_66 sh_119 (Nat.le_of_ble_eq_true rfl) (rn_ixe hpp) hP6 ?_
          refine al_0 dX9_person_67 ?_
          refine R_getfr (r := 120) dX9_person_68 fl_RX9_47 rfl sh_116 (Nat.le_of_ble_eq_true rfl) rf_116_12 ?_
          refine al_0 dX9_person_71 ?_
          refine R_getfi dX9_person_72 fl_RX9_13 rfl sh_116 (Nat.le_of_ble_eq_true rfl) ?_
          refine il_3 dX9_person_75 ?_
          refine R_iast dX9_person_76 sh_120 (Nat.le_of_ble_eq_true rfl) (rn_ixe hpp) hP6 ?_
          refine al_0 dX9_person_77 ?_
          refine R_getfr (r := 121) dX9_person_78 fl_RX9_50 rfl sh_116 (Nat.le_of_ble_eq_true rfl) rf_116_13 ?_
          refine al_0 dX9_person_81 ?_
          refine R_getfi dX9_person_82 fl_RX9_13 rfl sh_116 (Nat.le_of_ble_eq_true rfl) ?_
          refine R_iconst (v := 0) dX9_person_85 (by decide) ?_
          refine R_iast dX9_person_86 sh_121 (Nat.le_of_ble_eq_true rfl) (rn_ixe hpp) hP6 ?_
          refine al_0 dX9_person_87 ?_
          refine al_0 dX9_person_88 ?_
          refine al_0 dX9_person_89 ?_
          refine R_getfi dX9_person_90 fl_RX9_22 rfl sh_116 (Nat.le_of_ble_eq_true rfl) ?_
          refine al_0 dX9_person_93 ?_
          refine R_getfi dX9_person_94 fl_RX9_13 rfl sh_116 (Nat.le_of_ble_eq_true rfl) ?_
          refine R_iconst (v := 0) dX9_person_97 (by decide) ?_
          refine cv_3 dX9_person_98 mm_RX9_301 sh_116 (Nat.le_of_ble_eq_true rfl) ⟨_, rfl, rfl⟩ (Nat.le_of_ble_eq_true rfl) (Nat.le_of_ble_eq_true rfl) (M_with0 ?_)
          refine R_putfi dX9_person_101 fl_RX9_22 rfl (Or.inl rfl) sh_116 (Nat.le_of_ble_eq_true rfl) rfl rfl ?_
          refine al_0 dX9_person_104 ?_
          refine al_0 dX9_person_105 ?_
          refine al_0 dX9_person_106 ?_
          refine R_getfi dX9_person_107 fl_RX9_25 rfl sh_116 (Nat.le_of_ble_eq_true rfl) ?_
          refine al_0 dX9_person_110 ?_
          refine R_getfi dX9_person_111 fl_RX9_13 rfl sh_116 (Nat.le_of_ble_eq_true rfl) ?_
          refine R_iconst (v := 0) dX9_person_114 (by decide) ?_
          refine cv_3 dX9_person_115 mm_RX9_301 sh_116 (Nat.le_of_ble_eq_true rfl) ⟨_, rfl, rfl⟩ (Nat.le_of_ble_eq_true rfl) (Nat.le_of_ble_eq_true rfl) (M_with0 ?_)
          refine R_putfi dX9_person_118 fl_RX9_25 rfl (Or.inl rfl) sh_116 (Nat.le_of_ble_eq_true rfl) rfl rfl ?_
          refine R_iconst (v := 0) dX9_person_121 (by decide) ?_
          refine is_4 dX9_person_122 rfl ?_
          show Run G _ M_X9_person 124 _ [] ((rn_u (rn_u (rn_u (rn_u (rn_u (rn_u mi 118 P x) 119 P y) 120 P z) 121 P 0) 116 4 (clrB (mi 116 4) (mi 116 1))) 116 5 (clrB (mi 116 5) (mi 116 1))), ml, RF D, 164) κ Q
          have eA : personA w x y z = (w.1 2, personW x y z w) := by unfold personA; rw [if_pos c5, if_pos ⟨c18, c26⟩, if_neg (fun q => c41 (w2.symm.trans q))]
          rw [eA] at h
          refine L_person9 hP6 4 0 0 _ rfl rfl hpp (fun m h1 h2 => ?_)
          obtain ⟨M, hM⟩ : ∃ M, M = rn_u m 116 1 (nI P + 1) := ⟨_, rfl⟩
          rw [← hM]
          have m6 : ∀ f, m 116 f = if f = 5 then clrB (mi 116 5) (nI P) else if f = 4 then clrB (mi 116 4) (nI P) else mi 116 f := fun f => by rw [h1 116 (by decide), hpp]; simp [rn_u]
          have eb : ∀ f, f ≠ 1 → f ≠ 4 → f ≠ 5 → M 116 f = mi 116 f := fun f f1 f4 f5 => by rw [hM, rn_u_at]; dsimp only; rw [if_neg f1, m6, if_neg f5, if_neg f4]
          have e1 : M 116 1 = nI P + 1 := by rw [hM]; exact rn_u_eq
          have e4 : M 116 4 = clrB (mi 116 4) (nI P) := by rw [hM, rn_u_at]; dsimp only; rw [if_neg (by decide), m6]; rfl
          have e5 : M 116 5 = clrB (mi 116 5) (nI P) := by rw [hM, rn_u_at]; dsimp only; rw [if_neg (by decide), m6]; rfl
          have ea : ∀ a, (a < 118 ∨ 122 < a) → a ≠ 116 → M a = mi a := fun a a1 a2 => by rw [hM, rn_u_ne a2, h1 a (by omega), rn_u_ne a2, rn_u_ne a2, rn_u_ne (by omega), rn_u_ne (by omega), rn_u_ne (by omega), rn_u_ne (by omega)]
          have e122 : ∀ q, M 122 q = if 4 * P + 0 ≤ q ∧ q < 4 * P + 4 then 0 else mi 122 q := fun q => by rw [hM, rn_u_ne (by decide), h2 q]; rfl
          have e18 : ∀ q, M 118 q = (if q = P then x else mi 118 q) ∧ M 119 q = (if q = P then y else mi 119 q) ∧ M 120 q = (if q = P then z else mi 120 q) ∧ M 121 q = (if q = P then 0 else mi 121 q) := fun q => by
            rw [hM, rn_u_ne (by decide), rn_u_ne (by decide), rn_u_ne (by decide), rn_u_ne (by decide), h1 118 (by decide), h1 119 (by decide), h1 120 (by decide), h1 121 (by decide)]
            refine ⟨?_, ?_, ?_, ?_⟩ <;> simp [rn_u]
          have b4 : ∀ j, j < 32 → bt (M 116 4) j = (bt (mi 116 4) j && !decide (j = P)) ∧ bt (M 116 5) j = (bt (mi 116 5) j && !decide (j = P)) := fun j hj => by rw [e4, e5]; exact ⟨bt_clr (by omega) hj, bt_clr (by omega) hj⟩
          have hwm := wM_person (M := M) (cl := cuL ds c) (x := x) (y := y) (z := z) hpp hP6 eb e1 b4 ea (fun i hi => by obtain ⟨q1, q2, q3, q4⟩ := e18 i; rw [q1, q2, q3, q4, if_neg hi, if_neg hi, if_neg hi, if_neg hi]; exact ⟨rfl, rfl, rfl, rfl⟩) (fun j hj => by rw [e122, if_neg (by omega)]) (by obtain ⟨q1, q2, q3, q4⟩ := e18 P; rw [q1, q2, q3, q4, if_pos rfl, if_pos rfl, if_pos rfl, if_pos rfl]; exact ⟨rfl, rfl, rfl, rfl⟩) (fun j hj => by rw [e122, if_pos (by omega)])
          rw [hB.2.1] at hwm
          have hn1 : nn (M 116 1) = P + 1 := by rw [e1, show nI P + 1 = nI (P + 1) from sm_add P 1]; exact nnI (by omega)
          refine ret_eq (h M ml (lo_of (fun a ha => ea a (by omega) (by omega))) (hr.w (hB.of hwm (eb 17 (by decide) (by decide) (by decide)) (fun a a1 a2 => ea a (by omega) (by omega)) (fun i i1 i2 => ?_) (fun f f1 f2 => eb f (by omega) (by omega) (by omega))) (fun f f1 f2 => eb f (by omega) (by omega) (by omega)) (fun a a1 _ => ea a (by omega) (by omega)))) rfl ?_
          · rw [(b4 i i2).2, hB.2.2.1 i (by rw [hpp, nnI (by omega)]; omega) i2]
            rfl
          · rw [w2, hpp]
            exact Int32.add_sub_cancel _ _
        · refine R_bipush (v := -4) dX9_person_44 (by decide) ?_
          refine R_ireturn dX9_person_46 ⟨_, rfl, rfl⟩ ?_
          have eA : personA w x y z = (-4, w) := by unfold personA; rw [if_pos c5, if_pos ⟨c18, c26⟩, if_pos (w2.trans c41)]
          rw [eA] at h
          exact h mi ml (LO.refl _ _) hr
      · refine R_if_ne (tgt := 35) dX9_person_29 (by decide) (fun q => absurd q (by decide)) (fun _ => ?_)
        refine R_bipush (v := -2) dX9_person_32 (by decide) ?_
        refine R_ireturn dX9_person_34 ⟨_, rfl, rfl⟩ ?_
        have eA : personA w x y z = (-2, w) := by unfold personA; rw [if_pos c5, if_neg (fun q => by first | exact c18 q.1 | exact c26 q.2)]
        rw [eA] at h
        exact h mi ml (LO.refl _ _) hr
    · refine R_if_eq (tgt := 32) dX9_person_21 (by decide) (fun _ => ?_) (fun q => absurd q (by decide))
      refine R_bipush (v := -2) dX9_person_32 (by decide) ?_
      refine R_ireturn dX9_person_34 ⟨_, rfl, rfl⟩ ?_
      have eA : personA w x y z = (-2, w) := by unfold personA; rw [if_pos c5, if_neg (fun q => by first | exact c18 q.1 | exact c26 q.2)]
      rw [eA] at h
      exact h mi ml (LO.refl _ _) hr
  · refine R_if_ne (tgt := 13) dX9_person_8 (by decide) (fun q => absurd q (by decide)) (fun _ => ?_)
    refine R_iconst (v := -1) dX9_person_11 (by decide) ?_
    refine R_ireturn dX9_person_12 ⟨_, rfl, rfl⟩ ?_
    have eA : personA w x y z = (-1, w) := by unfold personA; rw [if_neg c5]
    rw [eA] at h
    exact h mi ml (LO.refl _ _) hr
