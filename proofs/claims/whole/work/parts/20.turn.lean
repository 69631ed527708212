/-! the reference: a minute -/
theorem walkF_4 (s gp P : Nat → Int32) : walkF s gp P 4 = 1 := by
  unfold walkF
  repeat' split
  all_goals first | rfl | omega
theorem walkF_5 (s gp P : Nat → Int32) : walkF s gp P 5 = P 5 ∨ walkF s gp P 5 = 1 := by
  unfold walkF
  repeat' split
  all_goals first | exact Or.inl rfl | exact Or.inr rfl | omega
theorem walkF_k (s gp P : Nat → Int32) {f : Nat} (h2 : f ≠ 2) (h3 : f ≠ 3) (h4 : f ≠ 4) (h5 : f ≠ 5) : walkF s gp P f = P f := by
  unfold walkF
  repeat' split
  all_goals first | rfl | omega
theorem pstepF_k {er : (Nat → Int32) → Int32} {s gp P : Nat → Int32} {i f : Nat} (h2 : f ≠ 2) (h3 : f ≠ 3) (h4 : f ≠ 4) (h5 : f ≠ 5) : pstepF er s gp P i f = P f := by
  unfold pstepF
  split
  · exact walkF_k s gp P h2 h3 h4 h5
  · rfl
abbrev erA (cl : CL) : (Nat → Int32) → Int32 := fun F => earsA F cl 0
/-- a person's step by the reference's memory -/
noncomputable def stM (mi : Nat → Nat → Int32) (cl : CL) (i : Nat) : Nat → Int32 := pstepF (erA cl) (sM mi cl) (mi 117) (pM mi i) i
theorem bitD_01 {s : Int32} {i : Nat} (h : i < 32) : bitD s (nI i) = 0 ∨ bitD s (nI i) = 1 := by
  rw [bitD_bt h]
  cases bt s i
  · exact Or.inl rfl
  · exact Or.inr rfl
theorem bitD_of {s t : Int32} {i : Nat} (h : i < 32) (e : bt s i = bt t i) : bitD s (nI i) = bitD t (nI i) := by rw [bitD_bt h, bitD_bt h, e]

set_option maxHeartbeats 4000000 in
theorem M_goPerson {G : rn_G} {d : Nat} {κ : Nat × Nat} {Q : Option Value → rn_S → Prop} {mi : Nat → Nat → Int32} {ml : Nat → Nat → Int64} {D : Nat → Nat} {T N P R p : Nat} {x : Int32} {cl : CL} (hJ : MJ T mi N P R) (hT : T < 2 ^ 30) (hPJ : PJ (pM mi p)) (hcm : CM mi cl) (hy : x = nI p) (hp : p < P) (h38 : bt (mi 116 38) p = bt (mi 116 4) p) (h39 : bt (mi 116 39) p = bt (mi 116 5) p) (h : ∀ m, (∀ a, a ≠ 116 → a ≠ 121 → a ≠ 133 → a ≠ 134 → m a = mi a) → (∀ f, f ≠ 38 → f ≠ 39 → m 116 f = mi 116 f) → (∀ j, j ≠ p → m 121 j = mi 121 j ∧ m 134 j = mi 134 j) → m 121 p = stM mi cl p 3 → m 134 p = stM mi cl p 2 → (∀ i, i < 32 → i ≠ p → bt (m 116 38) i = bt (mi 116 38) i ∧ bt (m 116 39) i = bt (mi 116 39) i) → bitD (m 116 38) (nI p) = stM mi cl p 4 → bitD (m 116 39) (nI p) = stM mi cl p 5 → Q none (m, ml, RF D, 164)) : Call G (d + 5) M_X9_goPerson [.ref 116, .int x] (mi, ml, RF D, 164) κ Q := by
  show Run G _ M_X9_goPerson 0 [.ref 116, .int x, .null] [] _ _ _
  obtain ⟨hN, hP6, hR, hg, hpp, hrr, hA, hmnT, hkp, hwt, hgp, hrd, hps⟩ := id hJ
  have hp6 : p < 6 := by omega
  have hp32 : p < 32 := by omega
  obtain ⟨-, -, hpl, hfd, -⟩ := hps p hp
  refine al_0 dX9_goPerson_0 ?_
  refine R_getfr (r := 134) dX9_goPerson_1 fl_RX9_123 rfl sh_116 (Nat.le_of_ble_eq_true rfl) rf_116_37 ?_
  refine il_1 dX9_goPerson_4 ?_
  refine al_0 dX9_goPerson_5 ?_
  refine R_getfr (r := 120) dX9_goPerson_6 fl_RX9_47 rfl sh_116 (Nat.le_of_ble_eq_true rfl) rf_116_12 ?_
  refine il_1 dX9_goPerson_9 ?_
  refine R_iald dX9_goPerson_10 sh_120 (Nat.le_of_ble_eq_true rfl) (rn_ixe hy) hp6 ?_
  refine R_iast dX9_goPerson_11 sh_134 (Nat.le_of_ble_eq_true rfl) (rn_ixe hy) hp6 ?_
  obtain ⟨m0, hm0⟩ : ∃ m, m = rn_u mi 134 p (mi 120 p) := ⟨_, rfl⟩
  rw [← hm0]
  have e0 : ∀ a, a ≠ 134 → m0 a = mi a := fun a ha => by rw [hm0, rn_u_ne ha]
  have e134 : ∀ j, m0 134 j = if j = p then mi 120 p else mi 134 j := fun j => by rw [hm0]; simp [rn_u]
  have skip : ∀ m, (∀ a, a ≠ 133 → m a = m0 a) → ¬ (pM mi p 5 = 0 ∧ (¬ pM mi p 4 = 0 ∨ hearsS (erA cl) (sM mi cl) (pM mi p) p)) → Q none (m, ml, RF D, 164) := by
    intro m hm hc
    have eW : stM mi cl p = pM mi p := pstepF_neg hc
    rw [eW] at h
    have e116 : m 116 = mi 116 := (hm 116 (by decide)).trans (e0 116 (by decide))
    refine h m (fun a h1 h2 h3 h4 => (hm a h3).trans (e0 a h4)) (fun f _ _ => by rw [e116]) (fun j hj => ⟨by rw [hm 121 (by decide), e0 121 (by decide)], by rw [hm 134 (by decide), e134, if_neg hj]⟩) ?_ ?_ (fun i _ _ => by rw [e116]; exact ⟨rfl, rfl⟩) ?_ ?_
    · rw [hm 121 (by decide), e0 121 (by decide)]; rfl
    · rw [hm 134 (by decide), e134, if_pos rfl]; rfl
    · rw [e116, bitD_of hp32 h38]; rfl
    · rw [e116, bitD_of hp32 h39]; rfl
  have take : ∀ m v2, (∀ a, a ≠ 133 → m a = m0 a) → (pM mi p 5 = 0 ∧ (¬ pM mi p 4 = 0 ∨ hearsS (erA cl) (sM mi cl) (pM mi p) p)) → Run G (d + 5) M_X9_goPerson 45 [.ref 116, .int x, v2] [] (m, ml, RF D, 164) κ Q := by
    intro m v2 hm hc
    have eW : stM mi cl p = walkF (sM mi cl) (mi 117) (pM mi p) := pstepF_pos hc
    rw [eW] at h
    have e116 : m 116 = mi 116 := (hm 116 (by decide)).trans (e0 116 (by decide))
    have em : ∀ a, a ≠ 133 → a ≠ 134 → m a = mi a := fun a h3 h4 => (hm a h3).trans (e0 a h4)
    have es : sM m cl = sM mi cl := sM_ext (fun f _ _ => by rw [e116])
    have ep : pM m p = pM mi p := pM_ext (by rw [e116]) (by rw [e116]) (fun a h1 h2 h3 => em a (by omega) (by omega)) (by rw [em 121 (by decide) (by decide)])
    have z5 : bitD (mi 116 5) (nI p) = 0 := hc.1
    refine L_goP45 (T := T) (N := N) (P := P) (R := R) (cl := cl) (hJ.ext (fun f _ _ => by rw [e116]) (fun a h1 h2 h3 => em a (by omega) (by omega)) (fun i hi => by rw [em 121 (by decide) (by decide)]; exact (hps i hi).2.2.2.1)) hT (by rw [ep]; exact hPJ) hy hp (by rw [hm 134 (by decide), e134, if_pos rfl, em 120 (by decide) (by decide)]) (by rw [e116]; exact z5) (fun m3 q1 q2 q3 q4 q5 q6 q7 => ?_)
    rw [es, ep, em 117 (by decide) (by decide)] at q4 q5 q7
    have b39 : bt (mi 116 39) p = false := by rw [h39]; exact (bitD_zero hp32).mp z5
    refine h m3 (fun a h1 h2 h3 h4 => (q1 a h1 h2 h4).trans (em a h3 h4)) (fun f h1 h2 => (q2 f h1 h2).trans (by rw [e116])) (fun j hj => ⟨(q3 j hj).1.trans (by rw [em 121 (by decide) (by decide)]), (q3 j hj).2.trans (by rw [hm 134 (by decide), e134, if_neg hj])⟩) q4 q5 (fun i hi hip => ⟨?_, ?_⟩) ?_ ?_
    · rw [q6, e116, hy, bt_set hp32 hi]; simp [hip]
    · rw [q7, e116]; split; rfl; rw [bt_set hp32 hi]; simp [hip]
    · rw [q6, e116, hy, walkF_4, bitD_bt hp32, bt_set hp32 hp32]; simp
    · rw [q7, e116]
      rcases walkF_5 (sM mi cl) (mi 117) (pM mi p) with e | e
      · rw [e, if_pos (show pM mi p 5 = 0 from z5), bitD_bt hp32, b39]; exact z5.symm
      · rw [e, if_neg (by decide), bitD_bt hp32, bt_set hp32 hp32]; simp
  have hhs : (wayC (m0 120 p) (m0 116 6) ≤ lastA 2 cl 8 + earsA (factF x (m0 118 p) (m0 119 p) (m0 120 p) (m0 121 p) (m0 116 2)) cl 0) ↔ hearsS (erA cl) (sM mi cl) (pM mi p) p := by rw [hy, e0 116 (by decide), e0 118 (by decide), e0 119 (by decide), e0 120 (by decide), e0 121 (by decide)]; exact Iff.rfl
  have e5 : (bitD (m0 116 5) x = 1) ↔ ¬ pM mi p 5 = 0 := by
    rw [e0 116 (by decide), hy]
    show _ ↔ ¬ bitD (mi 116 5) (nI p) = 0
    rcases bitD_01 (s := mi 116 5) hp32 with e | e <;> rw [e] <;> decide
  have e4 : (bitD (m0 116 4) x = 1) ↔ ¬ pM mi p 4 = 0 := by
    rw [e0 116 (by decide), hy]
    show _ ↔ ¬ bitD (mi 116 4) (nI p) = 0
    rcases bitD_01 (s := mi 116 4) hp32 with e | e <;> rw [e] <;> decide
  refine al_0 dX9_goPerson_12 ?_
  refine al_0 dX9_goPerson_13 ?_
  refine R_getfi dX9_goPerson_14 fl_RX9_25 rfl sh_116 (Nat.le_of_ble_eq_true rfl) ?_
  refine il_1 dX9_goPerson_17 ?_
  refine cv_2 dX9_goPerson_18 mm_RX9_312 sh_116 (Nat.le_of_ble_eq_true rfl) ⟨_, rfl, rfl⟩ (Nat.le_of_ble_eq_true rfl) (Nat.le_of_ble_eq_true rfl) (M_has (fun c18 => ?_) (fun c18 => ?_))
  · refine R_if_ne (tgt := 44) dX9_goPerson_21 (by decide) (fun _ => ?_) (fun q => absurd q (by decide))
    refine R_return dX9_goPerson_44 rfl ?_
    first
      | exact skip m0 (fun _ _ => rfl) (fun e => (e5.mp c18) e.1)
      | exact skip m2 hm2 (fun e => e.2.elim (fun q => c30 (e4.mpr q)) (fun q => c38 (hhs.mpr q)))
  · refine R_if_ne (tgt := 44) dX9_goPerson_21 (by decide) (fun q => absurd q (by decide)) (fun _ => ?_)
    refine al_0 dX9_goPerson_24 ?_
    refine al_0 dX9_goPerson_25 ?_
    refine R_getfi dX9_goPerson_26 fl_RX9_22 rfl sh_116 (Nat.le_of_ble_eq_true rfl) ?_
    refine il_1 dX9_goPerson_29 ?_
    refine cv_2 dX9_goPerson_30 mm_RX9_312 sh_116 (Nat.le_of_ble_eq_true rfl) ⟨_, rfl, rfl⟩ (Nat.le_of_ble_eq_true rfl) (Nat.le_of_ble_eq_true rfl) (M_has (fun c30 => ?_) (fun c30 => ?_))
    · refine R_if_ne (tgt := 45) dX9_goPerson_33 (by decide) (fun _ => ?_) (fun q => absurd q (by decide))
      first
        | exact take m0 _ (fun _ _ => rfl) ⟨Decidable.not_not.mp (fun e => c18 (e5.mpr e)), Or.inl (e4.mp c30)⟩
        | exact take m2 _ hm2 ⟨Decidable.not_not.mp (fun e => c18 (e5.mpr e)), Or.inr (hhs.mp c38)⟩
    · refine R_if_ne (tgt := 45) dX9_goPerson_33 (by decide) (fun q => absurd q (by decide)) (fun _ => ?_)
      refine al_0 dX9_goPerson_36 ?_
      refine il_1 dX9_goPerson_37 ?_
      refine cv_1 dX9_goPerson_38 mm_RX9_393 sh_116 (Nat.le_of_ble_eq_true rfl) ⟨_, rfl, rfl⟩ (Nat.le_of_ble_eq_true rfl) (Nat.le_of_ble_eq_true rfl) (M_hears (cl := cl) (hcm.ext (by rw [e0 116 (by decide)]) (fun a a1 a2 => e0 a (by omega))) hy hp6 (by rw [e0 121 (by decide)]; exact hfd) (by rw [e0 120 (by decide)]; exact hpl) (by rw [e0 116 (by decide)]; exact hkp) (fun m2 hm2 c38 => ?_) (fun m2 hm2 c38 => ?_))
      · refine R_if_ne (tgt := 45) dX9_goPerson_41 (by decide) (fun _ => ?_) (fun q => absurd q (by decide))
        first
          | exact take m0 _ (fun _ _ => rfl) ⟨Decidable.not_not.mp (fun e => c18 (e5.mpr e)), Or.inl (e4.mp c30)⟩
          | exact take m2 _ hm2 ⟨Decidable.not_not.mp (fun e => c18 (e5.mpr e)), Or.inr (hhs.mp c38)⟩
      · refine R_if_ne (tgt := 45) dX9_goPerson_41 (by decide) (fun q => absurd q (by decide)) (fun _ => ?_)
        refine R_return dX9_goPerson_44 rfl ?_
        first
          | exact skip m0 (fun _ _ => rfl) (fun e => (e5.mp c18) e.1)
          | exact skip m2 hm2 (fun e => e.2.elim (fun q => c30 (e4.mpr q)) (fun q => c38 (hhs.mpr q)))

set_option maxHeartbeats 4000000 in
theorem M_goKeeper {G : rn_G} {d : Nat} {κ : Nat × Nat} {Q : Option Value → rn_S → Prop} {mi : Nat → Nat → Int32} {ml : Nat → Nat → Int64} {D : Nat → Nat} {T N P R : Nat} {cl : CL} (hJ : MJ T mi N P R) (hcm : CM mi cl) (hpc : ∃ a, a ≤ 9 ∧ paceA (mi 116 33) cl = nI a) (h : ∀ m, (∀ a, a ≠ 116 → m a = mi a) → (∀ f, f ≠ 3 → f ≠ 6 → f ≠ 7 → f ≠ 34 → m 116 f = mi 116 f) → (∀ j, sM m cl j = roundF (sM mi cl) (mi 117) (mi 123) j) → Q none (m, ml, RF D, 164)) : Call G (d + 3) M_X9_goKeeper [.ref 116] (mi, ml, RF D, 164) κ Q := by
  show Run G _ M_X9_goKeeper 0 [.ref 116, .null] [] _ _ _
  obtain ⟨hN, hP6, hR, hg, hpp, hrr, ⟨A, hA, hA2⟩, hmnT, hkp, hwt, hgp, hrd, hps⟩ := hJ
  refine al_0 dX9_goKeeper_0 ?_
  refine R_getfi dX9_goKeeper_1 fl_RX9_113 rfl sh_116 (Nat.le_of_ble_eq_true rfl) ?_
  refine R_if_le (tgt := 18) dX9_goKeeper_4 (by decide) (fun c4 => ?_) (fun c4 => ?_)
  · refine al_0 dX9_goKeeper_18 ?_
    refine R_getfi dX9_goKeeper_19 fl_RX9_31 rfl sh_116 (Nat.le_of_ble_eq_true rfl) ?_
    refine al_0 dX9_goKeeper_22 ?_
    refine R_getfi dX9_goKeeper_23 fl_RX9_34 rfl sh_116 (Nat.le_of_ble_eq_true rfl) ?_
    refine R_icmp_lt (tgt := 30) dX9_goKeeper_26 (by decide) (fun c26 => ?_) (fun c26 => ?_)
    · have c26 : A < R := by
        have q : mi 116 7 < mi 116 8 := by first | exact c26 | exact Int32.not_le.mp c26
        rw [hA2, hrr, sm_lt_iff (by omega) (by omega)] at q
        exact q
      obtain ⟨g, hgN, eg⟩ := hrd A c26
      obtain ⟨ga, hga, ega⟩ := hgp g hgN
      have hax : rn_ix (mi 116 7) A := rn_ixe hA2
      have hal : A < 6 := by omega
      have hgx : rn_ix (mi 123 A) g := rn_ixe eg
      have hgl : g < 6 := by omega
      have nnA : nn (mi 116 7) = A := by rw [hA2]; exact nnI (by omega)
      have nng : nn (mi 123 A) = g := by rw [eg]; exact nnI (by omega)
      have clt : sM mi cl 5 < sM mi cl 4 := by show mi 116 7 < mi 116 8; rw [hA2, hrr]; exact (sm_lt_iff (by omega) (by omega)).mpr c26
      refine al_0 dX9_goKeeper_30 ?_
      refine R_getfr (r := 123) dX9_goKeeper_31 fl_RX9_56 rfl sh_116 (Nat.le_of_ble_eq_true rfl) rf_116_15 ?_
      refine al_0 dX9_goKeeper_34 ?_
      refine R_getfi dX9_goKeeper_35 fl_RX9_31 rfl sh_116 (Nat.le_of_ble_eq_true rfl) ?_
      refine R_iald dX9_goKeeper_38 sh_123 (Nat.le_of_ble_eq_true rfl) hax hal ?_
      refine is_1 dX9_goKeeper_39 rfl ?_
      refine al_0 dX9_goKeeper_40 ?_
      refine al_0 dX9_goKeeper_41 ?_
      refine al_0 dX9_goKeeper_42 ?_
      refine R_getfi dX9_goKeeper_43 fl_RX9_28 rfl sh_116 (Nat.le_of_ble_eq_true rfl) ?_
      refine al_0 dX9_goKeeper_46 ?_
      refine R_getfr (r := 117) dX9_goKeeper_47 fl_RX9_37 rfl sh_116 (Nat.le_of_ble_eq_true rfl) rf_116_9 ?_
      refine il_1 dX9_goKeeper_50 ?_
      refine R_iald dX9_goKeeper_51 sh_117 (Nat.le_of_ble_eq_true rfl) hgx hgl ?_
      refine al_0 dX9_goKeeper_52 ?_
      refine cv_0 dX9_goKeeper_53 mm_RX9_402 sh_116 (Nat.le_of_ble_eq_true rfl) ⟨_, rfl, rfl⟩ (Nat.le_of_ble_eq_true rfl) (Nat.le_of_ble_eq_true rfl) (M_pace hcm ?_)
      refine cv_3 dX9_goKeeper_56 mm_RX9_405 sh_116 (Nat.le_of_ble_eq_true rfl) ⟨_, rfl, rfl⟩ (Nat.le_of_ble_eq_true rfl) (Nat.le_of_ble_eq_true rfl) (M_toward (nmr (fun tw2 htw2 => ?_)))
      refine R_putfi dX9_goKeeper_59 fl_RX9_28 rfl (Or.inl rfl) sh_116 (Nat.le_of_ble_eq_true rfl) rfl rfl ?_
      obtain ⟨m2, hm2⟩ : ∃ m, m = rn_u mi 116 6 tw2 := ⟨_, rfl⟩
      rw [← hm2]
      have fa : ∀ a, a ≠ 116 → m2 a = mi a := fun a ha => by rw [hm2, rn_u_ne ha]
      have fb : ∀ f, m2 116 f = if f = 6 then tw2 else mi 116 f := fun f => by rw [hm2]; simp [rn_u]
      have etw : towC (sM mi cl 3) (mi 117 (nn (mi 123 (nn (sM mi cl 5))))) (sM mi cl 7) = tw2 := by
        obtain ⟨k1, hk1, hk2⟩ := hkp
        obtain ⟨c1, hc1, hc2⟩ := hpc
        rw [htw2]
        show towC (mi 116 6) (mi 117 (nn (mi 123 (nn (mi 116 7))))) (paceA (mi 116 33) cl) = _
        rw [nnA, nng, hk2, hc2, ega]
        exact (towM_eq hk1 hga (by omega)).symm
      refine al_0 dX9_goKeeper_62 ?_
      refine R_getfi dX9_goKeeper_63 fl_RX9_28 rfl sh_116 (Nat.le_of_ble_eq_true rfl) ?_
      refine al_0 dX9_goKeeper_66 ?_
      refine R_getfr (r := 117) dX9_goKeeper_67 fl_RX9_37 rfl sh_116 (Nat.le_of_ble_eq_true rfl) rf_116_9 ?_
      refine il_1 dX9_goKeeper_70 ?_
      refine R_iald dX9_goKeeper_71 sh_117 (Nat.le_of_ble_eq_true rfl) hgx hgl ?_
      refine R_icmp_eq (tgt := 76) dX9_goKeeper_72 (by decide) (fun c72 => ?_) (fun c72 => ?_)
      · refine il_1 dX9_goKeeper_76 ?_
        refine al_0 dX9_goKeeper_77 ?_
        refine R_getfi dX9_goKeeper_78 fl_RX9_116 rfl sh_116 (Nat.le_of_ble_eq_true rfl) ?_
        refine R_icmp_eq (tgt := 96) dX9_goKeeper_81 (by decide) (fun c81 => ?_) (fun c81 => ?_)
        · refine al_0 dX9_goKeeper_96 ?_
          refine R_dup dX9_goKeeper_97 rfl ?_
          refine R_getfi dX9_goKeeper_98 fl_RX9_31 rfl sh_116 (Nat.le_of_ble_eq_true rfl) ?_
          refine R_iconst (v := 1) dX9_goKeeper_101 (by decide) ?_
          refine R_iadd dX9_goKeeper_102 ?_
          refine R_putfi dX9_goKeeper_103 fl_RX9_31 rfl (Or.inl rfl) sh_116 (Nat.le_of_ble_eq_true rfl) rfl rfl ?_
          refine R_return dX9_goKeeper_106 rfl ?_
          rw [fb, if_pos rfl, fa 117 (by decide)] at c72
          have hne : tw2 = mi 117 g := by first | exact c72 | exact Decidable.not_not.mp c72
          rw [fb, if_neg (by decide)] at c81
          refine h _ (fun a ha => ?_) (fun f f1 f2 f3 f4 => ?_) (fun j => ?_)
          · simp only [rn_u_ne ha]; exact fa a ha
          · simp [rn_u, f1, f2, f3, f4, fb]
          · unfold roundF
            rw [if_neg (show ¬ 0 < sM mi cl 8 from by first | exact c4 | exact Int32.not_lt.mpr c4), if_pos clt, etw, show nn (mi 123 (nn (sM mi cl 5))) = g from by show nn (mi 123 (nn (mi 116 7))) = g; rw [nnA]; exact nng, if_pos hne, show mi 123 (nn (sM mi cl 5)) = mi 123 A from by show mi 123 (nn (mi 116 7)) = _; rw [nnA]]
            first | rw [if_pos (show mi 123 A = sM mi cl 9 from c81)] | rw [if_neg (show ¬ mi 123 A = sM mi cl 9 from c81)]
            unfold sM
            match j with
            | 0 | 1 | 2 | 3 | 4 | 5 | 6 | 7 | 8 | 9 => simp [fb, rn_u, setB]
            | n + 10 => simp
        · refine al_0 dX9_goKeeper_84 ?_
          refine R_dup dX9_goKeeper_85 rfl ?_
          refine R_getfi dX9_goKeeper_86 fl_RX9_19 rfl sh_116 (Nat.le_of_ble_eq_true rfl) ?_
          refine R_iconst (v := 1) dX9_goKeeper_89 (by decide) ?_
          refine il_1 dX9_goKeeper_90 ?_
          refine R_ishl dX9_goKeeper_91 ?_
          refine R_ior dX9_goKeeper_92 ?_
          refine R_putfi dX9_goKeeper_93 fl_RX9_19 rfl (Or.inl rfl) sh_116 (Nat.le_of_ble_eq_true rfl) rfl rfl ?_
          refine al_0 dX9_goKeeper_96 ?_
          refine R_dup dX9_goKeeper_97 rfl ?_
          refine R_getfi dX9_goKeeper_98 fl_RX9_31 rfl sh_116 (Nat.le_of_ble_eq_true rfl) ?_
          refine R_iconst (v := 1) dX9_goKeeper_101 (by decide) ?_
          refine R_iadd dX9_goKeeper_102 ?_
          refine R_putfi dX9_goKeeper_103 fl_RX9_31 rfl (Or.inl rfl) sh_116 (Nat.le_of_ble_eq_true rfl) rfl rfl ?_
          refine R_return dX9_goKeeper_106 rfl ?_
          rw [fb, if_pos rfl, fa 117 (by decide)] at c72
          have hne : tw2 = mi 117 g := by first | exact c72 | exact Decidable.not_not.mp c72
          rw [fb, if_neg (by decide)] at c81
          refine h _ (fun a ha => ?_) (fun f f1 f2 f3 f4 => ?_) (fun j => ?_)
          · simp only [rn_u_ne ha]; exact fa a ha
          · simp [rn_u, f1, f2, f3, f4, fb]
          · unfold roundF
            rw [if_neg (show ¬ 0 < sM mi cl 8 from by first | exact c4 | exact Int32.not_lt.mpr c4), if_pos clt, etw, show nn (mi 123 (nn (sM mi cl 5))) = g from by show nn (mi 123 (nn (mi 116 7))) = g; rw [nnA]; exact nng, if_pos hne, show mi 123 (nn (sM mi cl 5)) = mi 123 A from by show mi 123 (nn (mi 116 7)) = _; rw [nnA]]
            first | rw [if_pos (show mi 123 A = sM mi cl 9 from c81)] | rw [if_neg (show ¬ mi 123 A = sM mi cl 9 from c81)]
            unfold sM
            match j with
            | 0 | 1 | 2 | 3 | 4 | 5 | 6 | 7 | 8 | 9 => simp [fb, rn_u, setB]
            | n + 10 => simp
      · refine R_return dX9_goKeeper_75 rfl ?_
        rw [fb, if_pos rfl, fa 117 (by decide)] at c72
        have hne : ¬ tw2 = mi 117 g := fun e => absurd c72 (by first | exact not_not_intro e | exact e)
        refine h _ (fun a ha => ?_) (fun f f1 f2 f3 f4 => ?_) (fun j => ?_)
        · exact fa a ha
        · rw [fb, if_neg f2]
        · unfold roundF
          rw [if_neg (show ¬ 0 < sM mi cl 8 from by first | exact c4 | exact Int32.not_lt.mpr c4), if_pos clt, etw, show nn (mi 123 (nn (sM mi cl 5))) = g from by show nn (mi 123 (nn (mi 116 7))) = g; rw [nnA]; exact nng, if_neg hne]
          unfold sM
          match j with
          | 0 | 1 | 2 | 3 | 4 | 5 | 6 | 7 | 8 | 9 => simp [fb]
          | n + 10 => simp
    · refine R_return dX9_goKeeper_29 rfl ?_
      refine h _ (fun a ha => ?_) (fun f f1 f2 f3 f4 => ?_) (fun j => ?_)
      · rfl
      · rfl
      · unfold roundF
        rw [if_neg (show ¬ 0 < sM mi cl 8 from by first | exact c4 | exact Int32.not_lt.mpr c4), if_neg (show ¬ sM mi cl 5 < sM mi cl 4 from by first | exact c26 | exact Int32.not_lt.mpr c26)]
  · refine al_0 dX9_goKeeper_7 ?_
    refine R_dup dX9_goKeeper_8 rfl ?_
    refine R_getfi dX9_goKeeper_9 fl_RX9_113 rfl sh_116 (Nat.le_of_ble_eq_true rfl) ?_
    refine R_iconst (v := 1) dX9_goKeeper_12 (by decide) ?_
    refine R_isub dX9_goKeeper_13 ?_
    refine R_putfi dX9_goKeeper_14 fl_RX9_113 rfl (Or.inl rfl) sh_116 (Nat.le_of_ble_eq_true rfl) rfl rfl ?_
    refine R_return dX9_goKeeper_17 rfl ?_
    refine h _ (fun a ha => ?_) (fun f f1 f2 f3 f4 => ?_) (fun j => ?_)
    · exact rn_u_ne ha
    · simp [rn_u, f4]
    · unfold roundF
      rw [if_pos (show 0 < sM mi cl 8 from by first | exact c4 | exact Int32.not_le.mp c4)]
      unfold sM
      match j with
      | 0 | 1 | 2 | 3 | 4 | 5 | 6 | 7 | 8 | 9 => simp [rn_u]
      | n + 10 => simp
