/-! the class: dusk, tapes -/
theorem wC_du {mi M : Nat → Nat → Int32} {k k' b : Nat} {cl : CL} (hp : nn (mi b 6) ≤ 6) (h12 : mi b 12 = 0) (eb : M b = mi b) (g : ∀ a, b < a → a < b + 19 → a ≠ b + 5 → a ≠ b + 6 → M a = mi a) (e2 : M k' 2 = lastA 2 cl 8) (e3 : M k' 3 = clampP (lastA 3 cl 3)) : wC M k' b = duW cl (wC mi k b) := by
  refine Prod.ext (funext fun j => ?_) (Prod.ext (funext fun j => ?_) (Prod.ext (funext fun j => ?_) (funext fun u => ?_)))
  · show sC M k' b j = if j = 7 then clampP (lastA 3 cl 3) else if j < 10 then sC mi k b j else lastA 2 cl 8
    unfold sC
    rw [eb]
    match j with
    | 0 | 1 | 2 | 3 | 4 | 5 | 6 | 8 | 9 => simp
    | 7 => rw [if_pos rfl]; show (if 0 < mi b 12 then mi b 12 else M k' 3) = _; rw [h12, if_neg (by decide)]; exact e3
    | n + 10 => show M k' 2 = if n + 10 = 7 then _ else if n + 10 < 10 then _ else _; rw [if_neg (by omega), if_neg (by omega)]; exact e2
  · show (if j < nn (M b 4) then M (b + 1) j else 0) = if j < nn (mi b 4) then mi (b + 1) j else 0
    rw [eb, g (b + 1) (by omega) (by omega) (by omega) (by omega)]
  · show (if j < nn (M b 8) then M (b + 3) j else 0) = if j < nn (mi b 8) then mi (b + 3) j else 0
    rw [eb, g (b + 3) (by omega) (by omega) (by omega) (by omega)]
  · show (if u < nn (M b 6) then pC M (b + 7 + 2 * u) else fun _ => 0) = if u < nn (mi b 6) then pC mi (b + 7 + 2 * u) else fun _ => 0
    rw [eb]
    by_cases hu : u < nn (mi b 6)
    · rw [if_pos hu, if_pos hu]
      exact pC_ext (fun f _ => by rw [g _ (by omega) (by omega) (by omega) (by omega)]) (g _ (by omega) (by omega) (by omega) (by omega))
    · rw [if_neg hu, if_neg hu]

set_option maxHeartbeats 4000000 in
theorem KC_dusk {G : rn_G} {d : Nat} {κ : Nat × Nat} {Q : Option Value → rn_S → Prop} {mi : Nat → Nat → Int32} {ml : Nat → Nat → Int64} {D : Nat → Nat} {w : WD} {c k : Nat} {ds : Nat → CL} {sl : SL} {el bl : EL} {im : IM} {T : Nat → Nat} {L : Nat} {ac : List Int32} {tp : TP} (hv : IV w c k ds sl el bl im ac tp) (hc : CR w c k ds sl el bl im T L ac tp mi ml D) (h : ∀ m l D', HI mi m ml l → CR (duskA w c k ds T L).2.1 (duskA w c k ds T L).2.2.1 (duskA w c k ds T L).2.2.2.1 (duskA w c k ds T L).2.2.2.2.1 sl el bl im T (duskA w c k ds T L).2.2.2.2.2 ac tp m l D' → Q (some (.int (duskA w c k ds T L).1)) (m, l, RF D', 164))  : Call G (d + 30) M_X8_dusk [.ref 1] (mi, ml, RF D, 164) κ Q := by
  show Run G _ M_X8_dusk 0 [.ref 1, .null] [] _ _ _
  have hw := hv.1.1
  have hk6 := hv.2.2.1
  have hck := hv.2.1
  have hB : PB 2 := Or.inl rfl
  obtain ⟨hD2, hwc, z12, z13, z14⟩ := hc.1
  obtain ⟨cp1, cp2, cp3, cp4⟩ := cuA_pd (c := c) (by omega)
  have hkD : PD (D 2) := by rw [hD2]; exact cp1
  obtain ⟨N, P, R, hN, hP, hR, hg, hpp, hrr, hPJ⟩ := hc.1.n hw
  obtain ⟨w0, w1, w2, w3, w4, w5, w6⟩ := hc.1.cells
  obtain ⟨hL, eL, hT⟩ := hc.2.2.2.2.2.2.1
  have h10 : mi 1 10 = nI k := hc.2.1.1
  obtain ⟨r, hrr2⟩ := txR_ok (T := T) hL 10 0 [] (Nat.zero_le L)
  refine al_0 dX8_dusk_0 ?_
  refine R_getfi dX8_dusk_1 fl_RX8_171 rfl sh_1 (Nat.le_of_ble_eq_true rfl) ?_
  refine R_bipush (v := 6) dX8_dusk_4 (by decide) ?_
  refine R_icmp_ne (tgt := 12) dX8_dusk_6 (by decide) (fun c6 => ?_) (fun c6 => ?_)
  · have hk1 : ¬ k = 6 := fun q => c6 (by rw [h10, q]; rfl)
    have hk5 : k < 6 := by omega
    have hpd : PD (92 + 2 * k) := by unfold PD; omega
    have hA : duskA w c k ds T L = if r.1 then (nI k, duW r.2.2 w, k + 1, k + 1, (fun j => if j = k then r.2.2 else ds j), 0) else (-10 - nI r.2.1, w, c, k, ds, 0) := by unfold duskA; rw [if_neg hk1, hrr2]
    refine al_0 dX8_dusk_12 ?_
    refine R_getfr (r := 84) dX8_dusk_13 fl_RX8_46 rfl sh_1 (Nat.le_of_ble_eq_true rfl) rf_1_6 ?_
    refine al_0 dX8_dusk_16 ?_
    refine R_getfr (r := 88) dX8_dusk_17 fl_RX8_52 rfl sh_1 (Nat.le_of_ble_eq_true rfl) rf_1_7 ?_
    refine al_0 dX8_dusk_20 ?_
    refine R_getfi dX8_dusk_21 fl_RX8_171 rfl sh_1 (Nat.le_of_ble_eq_true rfl) ?_
    refine R_aald (t := 5) (r := (92 + 2 * k)) dX8_dusk_24 (by decide) sh_88 (Nat.le_of_ble_eq_true rfl) (rn_ixe h10) hk5 (pdu_r hk5) ?_
    refine cv_1 dX8_dusk_25 mm_RX8_174 sh_84 (Nat.le_of_ble_eq_true rfl) ⟨_, rfl, rfl⟩ (Nat.le_of_ble_eq_true rfl) (Nat.le_of_ble_eq_true rfl) (K_readInto (k := 92 + 2 * k) hc.2.2.2.2.2.2.1 hpd hrr2 (fun b5 m5 hrf hdc hl5 => ?_) (fun b5 m5 hrf hl5 => ?_))
    · rw [if_pos b5] at hA
      refine is_1 dX8_dusk_28 rfl ?_
      refine al_0 dX8_dusk_29 ?_
      refine R_getfr (r := 84) dX8_dusk_30 fl_RX8_46 rfl sh_1 (Nat.le_of_ble_eq_true rfl) rf_1_6 ?_
      refine R_iconst (v := 0) dX8_dusk_33 (by decide) ?_
      refine R_putfi dX8_dusk_34 fl_RX8_165 rfl (Or.inl rfl) sh_84 (Nat.le_of_ble_eq_true rfl) rfl rfl ?_
      refine il_1 dX8_dusk_37 ?_
      refine R_if_lt (tgt := 46) dX8_dusk_38 (by decide) (fun _ => ?_) (fun q => absurd q (by decide))
      have e110 : rn_u m5 84 1 0 1 10 = nI k := by rw [rn_u_ne (show (1 : Nat) ≠ 84 by decide), hrf.1 1 (by omega) (by omega) (by omega)]; exact h10
      refine al_0 dX8_dusk_46 ?_
      refine R_getfr (r := 2) dX8_dusk_47 fl_RX8_12 rfl sh_1 (Nat.le_of_ble_eq_true rfl) rf_1_0 ?_
      refine al_0 dX8_dusk_50 ?_
      refine R_getfr (r := 88) dX8_dusk_51 fl_RX8_52 rfl sh_1 (Nat.le_of_ble_eq_true rfl) rf_1_7 ?_
      refine al_0 dX8_dusk_54 ?_
      refine R_getfi dX8_dusk_55 fl_RX8_171 rfl sh_1 (Nat.le_of_ble_eq_true rfl) ?_
      refine R_aald (t := 5) (r := (92 + 2 * k)) dX8_dusk_58 (by decide) sh_88 (Nat.le_of_ble_eq_true rfl) (rn_ixe e110) hk5 (pdu_r hk5) ?_
      refine R_putfr dX8_dusk_59 fl_RX8_178 rfl (Or.inl rfl) sh_2 (Nat.le_of_ble_eq_true rfl) ?_
      rw [rf_ud hB]
      refine al_0 dX8_dusk_62 ?_
      refine R_dup dX8_dusk_63 rfl ?_
      refine R_getfi dX8_dusk_64 fl_RX8_171 rfl sh_1 (Nat.le_of_ble_eq_true rfl) ?_
      refine R_iconst (v := 1) dX8_dusk_67 (by decide) ?_
      refine R_iadd dX8_dusk_68 ?_
      refine R_putfi dX8_dusk_69 fl_RX8_171 rfl (Or.inl rfl) sh_1 (Nat.le_of_ble_eq_true rfl) rfl rfl ?_
      refine al_0 dX8_dusk_72 ?_
      refine R_getfi dX8_dusk_73 fl_RX8_171 rfl sh_1 (Nat.le_of_ble_eq_true rfl) ?_
      refine R_iconst (v := 1) dX8_dusk_76 (by decide) ?_
      refine R_isub dX8_dusk_77 ?_
      refine R_ireturn dX8_dusk_78 ⟨_, rfl, rfl⟩ ?_
      rw [hA] at h
      dsimp only at h
      rw [e110]
      obtain ⟨M, hM⟩ : ∃ M, M = rn_u (rn_u m5 84 1 0) 1 10 (nI (k + 1)) := ⟨_, rfl⟩
      have ea : ∀ a, a ≠ 1 → a ≠ 84 → a ≠ 92 + 2 * k → a ≠ 93 + 2 * k → M a = mi a := fun a a0 a1 a2 a3 => by rw [hM, rn_u_ne a0, rn_u_ne a1]; exact hrf.1 a a2 (by omega) a1
      have ek : M (92 + 2 * k) = m5 (92 + 2 * k) ∧ M (92 + 2 * k + 1) = m5 (92 + 2 * k + 1) := by rw [hM, rn_u_ne (by omega), rn_u_ne (by omega), rn_u_ne (by omega), rn_u_ne (by omega)]; exact ⟨rfl, rfl⟩
      have hdcM : DC M (92 + 2 * k) r.2.2 := hdc.fr ek.1 ek.2
      have hcu : cuA (k + 1) = 92 + 2 * k := by unfold cuA; rw [if_neg (by omega)]; omega
      have hwm : wC M (92 + 2 * k) 2 = duW r.2.2 w := by
        rw [← hwc]
        exact wC_du (by rw [hpp, nnI (by omega)]; exact hP) z12 (ea 2 (by omega) (by omega) (by omega) (by omega)) (fun a a1 a2 _ _ => ea a (by omega) (by omega) (by omega) (by omega)) hdcM.2.2.2.1 hdcM.2.2.2.2.1
      obtain ⟨D2, hD2e⟩ : ∃ D2, D2 = ud (ud D 84 (92 + 2 * k)) 2 (92 + 2 * k) := ⟨_, rfl⟩
      have d2 : D2 2 = 92 + 2 * k := by rw [hD2e]; exact ud_at _ _ _
      have d84 : D2 84 = 92 + 2 * k := by rw [hD2e, ud_ne (by decide)]; exact ud_at _ _ _
      have dx : ∀ x, x ≠ 2 → x ≠ 84 → D2 x = D x := fun x x1 x2 => by rw [hD2e, ud_ne x1, ud_ne x2]
      rw [← hD2e]
      have cR := hc
      obtain ⟨a1, ⟨b1, b2, b3⟩, a3, a4, a5, a6, a7, a8, a9, a10, a11, a12⟩ := cR
      have v4 := hv.2.2.2.1
      refine ret_eq (h M ml D2 (hi_of (fun a ha => ea a (by omega) (by omega) (by omega) (by omega))) ⟨⟨by rw [d2, hcu], by rw [hcu]; exact hwm, by rw [ea 2 (by omega) (by omega) (by omega) (by omega)]; exact z12, by rw [ea 2 (by omega) (by omega) (by omega) (by omega)]; exact z13, by rw [ea 2 (by omega) (by omega) (by omega) (by omega)]; exact z14⟩, ⟨by rw [hM]; exact rn_u_eq, b2.fr (ea 7 (by omega) (by omega) (by omega) (by omega)) (ea 8 (by omega) (by omega) (by omega) (by omega)), fun j hj => ?_⟩, a3.fr (fun x _ _ => ea x (by omega) (by omega) (by omega) (by omega)), a4.fr (fun x _ _ => ea x (by omega) (by omega) (by omega) (by omega)), a5.fr (fun x _ _ => ea x (by omega) (by omega) (by omega) (by omega)), a6.fr2 v4 (dx 53 (by decide) (by decide)) (ea 7 (by omega) (by omega) (by omega) (by omega)) (fun a _ _ => ea a (by omega) (by omega) (by omega) (by omega)) (fun j hj => ea _ (by omega) (by omega) (by omega) (by omega)), ⟨Nat.zero_le _, by rw [hM]; rfl, fun j hj => absurd hj (Nat.not_lt_zero j)⟩, a8.fr (ea 89 (by omega) (by omega) (by omega) (by omega)) (ea 90 (by omega) (by omega) (by omega) (by omega)), a9.fr (fun a _ _ => ⟨ea a (by omega) (by omega) (by omega) (by omega), rfl⟩), by rw [dx 21 (by decide) (by decide)]; exact a10, by rw [dx 53 (by decide) (by decide)]; exact a11, by rw [d84]; exact hpd⟩) ?_ ?_
      · have hj : j < k + 1 := hj
        dsimp only
        by_cases e : j = k
        · subst e; rw [if_pos rfl]; exact hdcM
        · rw [if_neg e]; exact (b3 j (by omega)).fr (ea _ (by omega) (by omega) (by omega) (by omega)) (ea _ (by omega) (by omega) (by omega) (by omega))
      · rw [hM, show nI k + 1 = nI (k + 1) from sm_add k 1]
      · rw [rn_u_eq]; exact Int32.add_sub_cancel _ _
    · rw [if_neg (fun q => by rw [b5] at q; exact absurd q (by decide))] at hA
      have nneg : ¬ nI r.2.1 < 0 := nI_pos (by omega)
      refine is_1 dX8_dusk_28 rfl ?_
      refine al_0 dX8_dusk_29 ?_
      refine R_getfr (r := 84) dX8_dusk_30 fl_RX8_46 rfl sh_1 (Nat.le_of_ble_eq_true rfl) rf_1_6 ?_
      refine R_iconst (v := 0) dX8_dusk_33 (by decide) ?_
      refine R_putfi dX8_dusk_34 fl_RX8_165 rfl (Or.inl rfl) sh_84 (Nat.le_of_ble_eq_true rfl) rfl rfl ?_
      refine il_1 dX8_dusk_37 ?_
      refine R_if_lt (tgt := 46) dX8_dusk_38 (by decide) (fun q => absurd q (nneg)) (fun c38 => ?_)
      refine R_bipush (v := -10) dX8_dusk_41 (by decide) ?_
      refine il_1 dX8_dusk_43 ?_
      refine R_isub dX8_dusk_44 ?_
      refine R_ireturn dX8_dusk_45 ⟨_, rfl, rfl⟩ ?_
      rw [hA] at h
      have ea : ∀ a, a ≠ 84 → a ≠ 92 + 2 * k → a ≠ 93 + 2 * k → rn_u m5 84 1 0 a = mi a := fun a a1 a2 a3 => by rw [rn_u_ne a1]; exact hrf.1 a a2 (by omega) a1
      exact h (rn_u m5 84 1 0) ml _ (hi_of (fun a ha => ea a (by omega) (by omega) (by omega))) (hc.txt hv ⟨Nat.zero_le _, rn_u_eq, fun j hj => absurd hj (Nat.not_lt_zero j)⟩ ⟨ud_ne (by decide), ud_ne (by decide), ud_ne (by decide), by rw [ud_at]; exact hpd⟩ (fun a a1 a2 a3 => ea a a1 (a3 hk5).1 (a3 hk5).2))
  · refine R_bipush (v := -4) dX8_dusk_9 (by decide) ?_
    refine R_ireturn dX8_dusk_11 ⟨_, rfl, rfl⟩ ?_
    have eA : duskA w c k ds T L = (-4, w, c, k, ds, L) := by unfold duskA; rw [if_pos (sm_inj (b := 6) (by omega) (by decide) (h10.symm.trans c6))]
    rw [eA] at h
    exact h mi ml D (HI.refl _ _) hc

theorem CR.tape {w : WD} {c k : Nat} {ds : Nat → CL} {sl : SL} {el bl : EL} {im : IM} {T : Nat → Nat} {L : Nat} {ac : List Int32} {tp tp' : TP} {mi mi' : Nat → Nat → Int32} {ml ml' : Nat → Nat → Int64} {D : Nat → Nat} (h : CR w c k ds sl el bl im T L ac tp mi ml D) (hv : IV w c k ds sl el bl im ac tp) (ht : CTp mi' ml' tp') (g : ∀ a, a < 104 → mi' a = mi a) : CR w c k ds sl el bl im T L ac tp' mi' ml' D := by
  obtain ⟨a1, a2, a3, a4, a5, a6, a7, a8, a9, a10⟩ := h
  obtain ⟨v1, v2, v3, v4, v5, v6⟩ := hv
  have cp := cuA_pd (c := c) (by omega)
  exact ⟨a1.fr v1.1 rfl (g _ (by omega)) (fun a _ _ _ _ _ => g a (by omega)), a2.fr v3 (g 1 (by omega)) (g 7 (by omega)) (g 8 (by omega)) (fun a _ _ => g a (by omega)), a3.fr (fun x _ _ => g x (by omega)), a4.fr (fun x _ _ => g x (by omega)), a5.fr (fun x _ _ => g x (by omega)), a6.fr v4 v3 rfl (g 7 (by omega)) (fun a _ _ => g a (by omega)) (fun a _ _ => g a (by omega)), a7.fr (by rw [g 84 (by omega)]) (g 85 (by omega)), a8.fr (g 89 (by omega)) (g 90 (by omega)), ht, a10⟩
theorem pt_of {i : Nat} (h : i < 6) : PT (104 + 2 * i) := by unfold PT; omega
theorem tape6 {x : Int32} : (0 ≤ x ∧ x < 6) ↔ (0 ≤ x ∧ x ≤ 5) := and_congr Iff.rfl (lt_succ_iff (a := 5))
theorem CTp.set {mi M : Nat → Nat → Int32} {ml l : Nat → Nat → Int64} {tp : TP} {i n : Nat} {s : Int32} {f : Nat → Int64} (h : CTp mi ml tp) (hi : i < 6) (g1 : ∀ a, a ≠ 104 + 2 * i → a ≠ 105 + 2 * i → M a = mi a ∧ l a = ml a) (e1 : M (104 + 2 * i) 1 = s) (e2 : M (104 + 2 * i) 2 = nI n) (e3 : ∀ j, j < 60 → l (105 + 2 * i) j = f j) : CTp M l (upT tp i (s, n, f)) := fun j hj => by
  unfold upT
  by_cases e : j = i
  · subst e
    rw [if_pos rfl]
    exact ⟨e1, e2, e3⟩
  · rw [if_neg e, (g1 (104 + 2 * j) (by omega) (by omega)).1, (g1 (105 + 2 * j) (by omega) (by omega)).2]
    exact h j hj

set_option maxHeartbeats 4000000 in
theorem L_becomeC {G : rn_G} {d : Nat} {κ : Nat × Nat} {Q : Option Value → rn_S → Prop} {mi : Nat → Nat → Int32} {D : Nat → Nat} {t : Nat} (hpt : PT t) {x y : Int32} : ∀ (n j : Nat) (z : Int32) (ml : Nat → Nat → Int64), n + j = 60 → z = nI j → (∀ l, (∀ a, a ≠ t + 1 → l a = ml a) → (∀ q, l (t + 1) q = if j ≤ q ∧ q < 60 then 0 else ml (t + 1) q) → Q none (mi, l, RF D, 164)) → Run G d M_X7_become 12 [.ref t, .int x, .int y, .int z] [] (mi, ml, RF D, 164) κ Q := by
  intro n
  induction n with
  | zero =>
    intro j z ml hj hz h
    refine il_3 dX7_become_12 ?_
    refine R_bipush (v := 60) dX7_become_13 (by decide) ?_
    refine R_icmp_ge (tgt := 31) dX7_become_15 (by decide) (fun c15 => ?_) (fun q => absurd q (not_not_intro (by rw [hz, show j = 60 by omega]; decide)))
    refine R_return dX7_become_31 rfl ?_
    exact h ml (fun _ _ => rfl) (fun q => by rw [if_neg (by omega)])
  | succ n ih =>
    intro j z ml hj hz h
    refine il_3 dX7_become_12 ?_
    refine R_bipush (v := 60) dX7_become_13 (by decide) ?_
    refine R_icmp_ge (tgt := 31) dX7_become_15 (by decide) (fun q => absurd q (by rw [hz]; exact nI_ge (b := 60) (by omega) (by decide))) (fun c15 => ?_)
    refine al_0 dX7_become_18 ?_
    refine R_getfr (r := t + 1) dX7_become_19 fl_RX7_9 rfl (pt_s0 hpt) (show t < 164 by have := pt_n hpt; omega) (pt_r0 hpt) ?_
    refine il_3 dX7_become_22 ?_
    refine R_lconst (v := 0) dX7_become_23 (by decide) ?_
    refine R_last dX7_become_24 (pt_s1 hpt) (show t + 1 < 164 by have := pt_n hpt; omega) (rn_ixe hz) (show j < 60 by omega) ?_
    refine ii_3 (v := _ + 1) dX7_become_25 rfl (by rfl) ?_
    refine R_goto (tgt := 12) dX7_become_28 (by decide) ?_
    refine ih (j + 1) _ _ (by omega) (by rw [hz]; exact sm_add j 1) (fun l h1 h2 => h l (fun a ha => by rw [h1 a ha, rn_u_ne ha]) (fun q => ?_))
    rw [h2 q, rn_u_at]
    dsimp only
    by_cases e : q = j
    · rw [if_pos e, if_neg (by omega), if_pos (by omega)]
    · rw [if_neg e]
      by_cases e2 : j + 1 ≤ q ∧ q < 60
      · rw [if_pos e2, if_pos (by omega)]
      · rw [if_neg e2, if_neg (by omega)]

set_option maxHeartbeats 4000000 in
theorem K_become {G : rn_G} {d : Nat} {κ : Nat × Nat} {Q : Option Value → rn_S → Prop} {mi : Nat → Nat → Int32} {ml : Nat → Nat → Int64} {D : Nat → Nat} {t : Nat} {x y : Int32} (hpt : PT t) (h : ∀ l, (∀ a, a ≠ t + 1 → l a = ml a) → (∀ q, q < 60 → l (t + 1) q = 0) → Q none (rn_u (rn_u mi t 1 x) t 2 y, l, RF D, 164)) : Call G (d) M_X7_become [.ref t, .int x, .int y] (mi, ml, RF D, 164) κ Q := by
  show Run G _ M_X7_become 0 [.ref t, .int x, .int y, .null] [] _ _ _
  refine al_0 dX7_become_0 ?_
  refine il_1 dX7_become_1 ?_
  refine R_putfi dX7_become_2 fl_RX7_15 rfl (Or.inl rfl) (pt_s0 hpt) (show t < 164 by have := pt_n hpt; omega) rfl rfl ?_
  refine al_0 dX7_become_5 ?_
  refine il_2 dX7_become_6 ?_
  refine R_putfi dX7_become_7 fl_RX7_19 rfl (Or.inl rfl) (pt_s0 hpt) (show t < 164 by have := pt_n hpt; omega) rfl rfl ?_
  refine R_iconst (v := 0) dX7_become_10 (by decide) ?_
  refine is_3 dX7_become_11 rfl ?_
  exact L_becomeC hpt 60 0 _ _ rfl rfl (fun l h1 h2 => h l h1 (fun q hq => by rw [h2, if_pos ⟨Nat.zero_le _, hq⟩]))

set_option maxHeartbeats 4000000 in
theorem K_hasItem {G : rn_G} {d : Nat} {κ : Nat × Nat} {Q : Option Value → rn_S → Prop} {mi : Nat → Nat → Int32} {ml : Nat → Nat → Int64} {D : Nat → Nat} {t n : Nat} {x : Int32} (hpt : PT t) (hs : mi t 2 = nI n) (h1 : 0 ≤ x ∧ x < nI n → Q (some (.int 1)) (mi, ml, RF D, 164)) (h0 : ¬ (0 ≤ x ∧ x < nI n) → Q (some (.int 0)) (mi, ml, RF D, 164)) : Call G (d) M_X7_hasItem [.ref t, .int x] (mi, ml, RF D, 164) κ Q := by
  show Run G _ M_X7_hasItem 0 [.ref t, .int x] [] _ _ _
  refine il_1 dX7_hasItem_0 ?_
  refine R_if_lt (tgt := 16) dX7_hasItem_1 (by decide) (fun c1 => ?_) (fun c1 => ?_)
  · refine R_iconst (v := 0) dX7_hasItem_16 (by decide) ?_
    refine R_ireturn dX7_hasItem_17 ⟨_, rfl, rfl⟩ ?_
    exact h0 (fun q => by first | exact Int32.not_lt.mpr q.1 (by first | exact c1 | exact Int32.not_le.mp c1) | exact Int32.not_lt.mpr (by rw [← hs]; first | exact c9 | exact Int32.not_lt.mp c9) q.2)
  · refine il_1 dX7_hasItem_4 ?_
    refine al_0 dX7_hasItem_5 ?_
    refine R_getfi dX7_hasItem_6 fl_RX7_19 rfl (pt_s0 hpt) (show t < 164 by have := pt_n hpt; omega) ?_
    refine R_icmp_ge (tgt := 16) dX7_hasItem_9 (by decide) (fun c9 => ?_) (fun c9 => ?_)
    · refine R_iconst (v := 0) dX7_hasItem_16 (by decide) ?_
      refine R_ireturn dX7_hasItem_17 ⟨_, rfl, rfl⟩ ?_
      exact h0 (fun q => by first | exact Int32.not_lt.mpr q.1 (by first | exact c1 | exact Int32.not_le.mp c1) | exact Int32.not_lt.mpr (by rw [← hs]; first | exact c9 | exact Int32.not_lt.mp c9) q.2)
    · refine R_iconst (v := 1) dX7_hasItem_12 (by decide) ?_
      refine R_goto (tgt := 17) dX7_hasItem_13 (by decide) ?_
      refine R_ireturn dX7_hasItem_17 ⟨_, rfl, rfl⟩ ?_
      exact h1 ⟨by first | exact c1 | exact Int32.not_lt.mp c1, by rw [← hs]; first | exact c9 | exact Int32.not_le.mp c9⟩

theorem fit2 {s : Nat} {n y : Int32} (hs : s ≤ 60) (hn : 0 ≤ n) (hy : 0 ≤ y) : n ≤ nI s - y ↔ nn y + nn n ≤ s := by
  rw [fit_iff hs hy hn, Nat.add_comm]

set_option maxHeartbeats 4000000 in
theorem K_hasItems {G : rn_G} {d : Nat} {κ : Nat × Nat} {Q : Option Value → rn_S → Prop} {mi : Nat → Nat → Int32} {ml : Nat → Nat → Int64} {D : Nat → Nat} {t n : Nat} {x y : Int32} (hpt : PT t) (hs : mi t 2 = nI n) (hn : n ≤ 60) (h1 : (0 ≤ y ∧ 0 ≤ x ∧ nn x + nn y ≤ n) → Q (some (.int 1)) (mi, ml, RF D, 164)) (h0 : ¬ (0 ≤ y ∧ 0 ≤ x ∧ nn x + nn y ≤ n) → Q (some (.int 0)) (mi, ml, RF D, 164)) : Call G (d) M_X7_hasItems [.ref t, .int x, .int y] (mi, ml, RF D, 164) κ Q := by
  show Run G _ M_X7_hasItems 0 [.ref t, .int x, .int y] [] _ _ _
  refine il_1 dX7_hasItems_0 ?_
  refine R_if_lt (tgt := 22) dX7_hasItems_1 (by decide) (fun c1 => ?_) (fun c1 => ?_)
  · refine R_iconst (v := 0) dX7_hasItems_22 (by decide) ?_
    refine R_ireturn dX7_hasItems_23 ⟨_, rfl, rfl⟩ ?_
    exact h0 (fun q => by first | exact Int32.not_lt.mpr q.2.1 (by first | exact c1 | exact Int32.not_le.mp c1) | exact Int32.not_lt.mpr q.1 (by first | exact c5 | exact Int32.not_le.mp c5) | exact Int32.not_lt.mpr ((fit2 hn q.1 q.2.1).mpr q.2.2) (by rw [← hs]; first | exact c15 | exact Int32.not_le.mp c15))
  · refine il_2 dX7_hasItems_4 ?_
    refine R_if_lt (tgt := 22) dX7_hasItems_5 (by decide) (fun c5 => ?_) (fun c5 => ?_)
    · refine R_iconst (v := 0) dX7_hasItems_22 (by decide) ?_
      refine R_ireturn dX7_hasItems_23 ⟨_, rfl, rfl⟩ ?_
      exact h0 (fun q => by first | exact Int32.not_lt.mpr q.2.1 (by first | exact c1 | exact Int32.not_le.mp c1) | exact Int32.not_lt.mpr q.1 (by first | exact c5 | exact Int32.not_le.mp c5) | exact Int32.not_lt.mpr ((fit2 hn q.1 q.2.1).mpr q.2.2) (by rw [← hs]; first | exact c15 | exact Int32.not_le.mp c15))
    · refine il_2 dX7_hasItems_8 ?_
      refine al_0 dX7_hasItems_9 ?_
      refine R_getfi dX7_hasItems_10 fl_RX7_19 rfl (pt_s0 hpt) (show t < 164 by have := pt_n hpt; omega) ?_
      refine il_1 dX7_hasItems_13 ?_
      refine R_isub dX7_hasItems_14 ?_
      refine R_icmp_gt (tgt := 22) dX7_hasItems_15 (by decide) (fun c15 => ?_) (fun c15 => ?_)
      · refine R_iconst (v := 0) dX7_hasItems_22 (by decide) ?_
        refine R_ireturn dX7_hasItems_23 ⟨_, rfl, rfl⟩ ?_
        exact h0 (fun q => by first | exact Int32.not_lt.mpr q.2.1 (by first | exact c1 | exact Int32.not_le.mp c1) | exact Int32.not_lt.mpr q.1 (by first | exact c5 | exact Int32.not_le.mp c5) | exact Int32.not_lt.mpr ((fit2 hn q.1 q.2.1).mpr q.2.2) (by rw [← hs]; first | exact c15 | exact Int32.not_le.mp c15))
      · refine R_iconst (v := 1) dX7_hasItems_18 (by decide) ?_
        refine R_goto (tgt := 23) dX7_hasItems_19 (by decide) ?_
        refine R_ireturn dX7_hasItems_23 ⟨_, rfl, rfl⟩ ?_
        have x0 : 0 ≤ x := by first | exact c1 | exact Int32.not_lt.mp c1
        have y0 : 0 ≤ y := by first | exact c5 | exact Int32.not_lt.mp c5
        exact h1 ⟨y0, x0, (fit2 hn y0 x0).mp (by rw [← hs]; first | exact c15 | exact Int32.not_lt.mp c15)⟩

set_option maxHeartbeats 4000000 in
theorem K_narrowed {G : rn_G} {d : Nat} {κ : Nat × Nat} {Q : Option Value → rn_S → Prop} {mi : Nat → Nat → Int32} {ml : Nat → Nat → Int64} {D : Nat → Nat} {t : Nat} {z : Int64} {s : Int32} (hpt : PT t) (hs : mi t 1 = s) (hr : ∃ a, a ≤ 4 ∧ s = nI a) (h : Q (some (.long (narA s z))) (mi, ml, RF D, 164)) : Call G (d) M_X7_narrowed [.ref t, .long z] (mi, ml, RF D, 164) κ Q := by
  show Run G _ M_X7_narrowed 0 [.ref t, .long z, .null] [] _ _ _
  unfold narA at h
  refine al_0 dX7_narrowed_0 ?_
  refine R_getfi dX7_narrowed_1 fl_RX7_15 rfl (pt_s0 hpt) (show t < 164 by have := pt_n hpt; omega) ?_
  by_cases w4_0 : mi t 1 = 0
  · refine R_tswI (tgt := 36) dX7_narrowed_4 0 w4_0 (by decide) (by decide) rfl (by decide) ?_
    refine ll_1 dX7_narrowed_36 ?_
    refine R_l2i dX7_narrowed_37 ?_
    refine R_i2b dX7_narrowed_38 ?_
    refine R_i2l dX7_narrowed_39 ?_
    refine R_lreturn dX7_narrowed_40 rfl ?_
    rw [if_pos (hs.symm.trans w4_0)] at h
    exact h
  by_cases w4_1 : mi t 1 = 1
  · refine R_tswI (tgt := 41) dX7_narrowed_4 1 w4_1 (by decide) (by decide) rfl (by decide) ?_
    refine ll_1 dX7_narrowed_41 ?_
    refine R_l2i dX7_narrowed_42 ?_
    refine R_i2s dX7_narrowed_43 ?_
    refine R_i2l dX7_narrowed_44 ?_
    refine R_lreturn dX7_narrowed_45 rfl ?_
    rw [if_neg (fun q => w4_0 (hs.trans q)), if_pos (hs.symm.trans w4_1)] at h
    exact h
  by_cases w4_2 : mi t 1 = 2
  · refine R_tswI (tgt := 46) dX7_narrowed_4 2 w4_2 (by decide) (by decide) rfl (by decide) ?_
    refine ll_1 dX7_narrowed_46 ?_
    refine R_l2i dX7_narrowed_47 ?_
    refine R_i2l dX7_narrowed_48 ?_
    refine R_lreturn dX7_narrowed_49 rfl ?_
    rw [if_neg (fun q => w4_0 (hs.trans q)), if_neg (fun q => w4_1 (hs.trans q)), if_pos (hs.symm.trans w4_2)] at h
    exact h
  by_cases w4_3 : mi t 1 = 3
  · refine R_tswI (tgt := 50) dX7_narrowed_4 3 w4_3 (by decide) (by decide) rfl (by decide) ?_
    refine ll_1 dX7_narrowed_50 ?_
    refine R_lreturn dX7_narrowed_51 rfl ?_
    rw [if_neg (fun q => w4_0 (hs.trans q)), if_neg (fun q => w4_1 (hs.trans q)), if_neg (fun q => w4_2 (hs.trans q)), if_neg (fun q => absurd ((hs.symm.trans w4_3).symm.trans q) (by decide))] at h
    exact h
  refine R_tswO (tgt := 52) dX7_narrowed_4 (by have w4_0' := lv_neT (a := 0) w4_0 rfl; have w4_1' := lv_neT (a := 1) w4_1 rfl; have w4_2' := lv_neT (a := 2) w4_2 rfl; have w4_3' := lv_neT (a := 3) w4_3 rfl; omega) (by decide) ?_
  refine ll_1 dX7_narrowed_52 ?_
  refine R_lconst (v := 0) dX7_narrowed_53 (by decide) ?_
  refine R_lcmp dX7_narrowed_54 ?_
  refine R_if_eq (tgt := 62) dX7_narrowed_55 (by decide) (fun c55 => ?_) (fun c55 => ?_)
  · refine R_lconst (v := 0) dX7_narrowed_62 (by decide) ?_
    refine R_lreturn dX7_narrowed_63 rfl ?_
    have s4 : s = 4 := by
      obtain ⟨a, ha, e⟩ := hr
      have : a = 0 ∨ a = 1 ∨ a = 2 ∨ a = 3 ∨ a = 4 := by omega
      rcases this with r | r | r | r | r
      · exact absurd (by rw [hs, e, r]; rfl) w4_0
      · exact absurd (by rw [hs, e, r]; rfl) w4_1
      · exact absurd (by rw [hs, e, r]; rfl) w4_2
      · exact absurd (by rw [hs, e, r]; rfl) w4_3
      · rw [e, r]; rfl
    rw [if_neg (by rw [s4]; decide), if_neg (by rw [s4]; decide), if_neg (by rw [s4]; decide), if_pos s4] at h
    first
      | (rw [if_pos (lg_0.mp c55)] at h; exact h)
      | (rw [if_neg (fun q => c55 (lg_0.mpr q))] at h; exact h)
  · refine R_lconst (v := 1) dX7_narrowed_58 (by decide) ?_
    refine R_goto (tgt := 63) dX7_narrowed_59 (by decide) ?_
    refine R_lreturn dX7_narrowed_63 rfl ?_
    have s4 : s = 4 := by
      obtain ⟨a, ha, e⟩ := hr
      have : a = 0 ∨ a = 1 ∨ a = 2 ∨ a = 3 ∨ a = 4 := by omega
      rcases this with r | r | r | r | r
      · exact absurd (by rw [hs, e, r]; rfl) w4_0
      · exact absurd (by rw [hs, e, r]; rfl) w4_1
      · exact absurd (by rw [hs, e, r]; rfl) w4_2
      · exact absurd (by rw [hs, e, r]; rfl) w4_3
      · rw [e, r]; rfl
    rw [if_neg (by rw [s4]; decide), if_neg (by rw [s4]; decide), if_neg (by rw [s4]; decide), if_pos s4] at h
    first
      | (rw [if_pos (lg_0.mp c55)] at h; exact h)
      | (rw [if_neg (fun q => c55 (lg_0.mpr q))] at h; exact h)

set_option maxHeartbeats 4000000 in
theorem KC_tape {G : rn_G} {d : Nat} {κ : Nat × Nat} {Q : Option Value → rn_S → Prop} {mi : Nat → Nat → Int32} {ml : Nat → Nat → Int64} {D : Nat → Nat} {x y z : Int32} {w : WD} {c k : Nat} {ds : Nat → CL} {sl : SL} {el bl : EL} {im : IM} {T : Nat → Nat} {L : Nat} {ac : List Int32} {tp : TP} (hv : IV w c k ds sl el bl im ac tp) (hc : CR w c k ds sl el bl im T L ac tp mi ml D) (h : ∀ m l D', HI mi m ml l → CR w c k ds sl el bl im T L ac (tapeA tp x y z).2 m l D' → Q (some (.int (tapeA tp x y z).1)) (m, l, RF D', 164))  : Call G (d + 30) M_X8_tape [.ref 1, .int x, .int y, .int z] (mi, ml, RF D, 164) κ Q := by
  show Run G _ M_X8_tape 0 [.ref 1, .int x, .int y, .int z] [] _ _ _
  have hw := hv.1.1
  have hk6 := hv.2.2.1
  have hck := hv.2.1
  have hB : PB 2 := Or.inl rfl
  obtain ⟨hD2, hwc, z12, z13, z14⟩ := hc.1
  obtain ⟨cp1, cp2, cp3, cp4⟩ := cuA_pd (c := c) (by omega)
  have hkD : PD (D 2) := by rw [hD2]; exact cp1
  obtain ⟨N, P, R, hN, hP, hR, hg, hpp, hrr, hPJ⟩ := hc.1.n hw
  obtain ⟨w0, w1, w2, w3, w4, w5, w6⟩ := hc.1.cells
  have htp := hc.2.2.2.2.2.2.2.2.1
  have htv := hv.2.2.2.2.2
  refine il_1 dX8_tape_0 ?_
  refine cs_1 dX8_tape_1 mm_RX8_302 (Nat.le_of_ble_eq_true rfl) (Nat.le_of_ble_eq_true rfl) (K_isTape (fun c1 => ?_) (fun c1 => ?_))
  · refine R_if_ne (tgt := 9) dX8_tape_4 (by decide) (fun _ => ?_) (fun q => absurd q (by decide))
    have ctx := tape6.mp c1
    obtain ⟨i, hi6, hx⟩ := sm_of c1.1 (show x < nI 6 from c1.2) (by decide)
    have hnx : nn x = i := by rw [hx]; exact nnI (by omega)
    obtain ⟨ti1, ti2, ti3⟩ := htp i hi6
    rw [show 105 + 2 * i = 104 + 2 * i + 1 by omega] at ti3
    obtain ⟨vi1, vi2, vi3⟩ := htv i hi6
    obtain ⟨sni1, sni2⟩ := sort_neg vi2
    have hpi := pt_of hi6
    refine il_2 dX8_tape_9 ?_
    refine R_iconst (v := -1) dX8_tape_10 (by decide) ?_
    refine R_icmp_ne (tgt := 27) dX8_tape_11 (by decide) (fun c11 => ?_) (fun c11 => ?_)
    · refine il_2 dX8_tape_27 ?_
      refine R_if_lt (tgt := 42) dX8_tape_28 (by decide) (fun c28 => ?_) (fun c28 => ?_)
      · refine R_bipush (v := -2) dX8_tape_42 (by decide) ?_
        refine R_ireturn dX8_tape_44 ⟨_, rfl, rfl⟩ ?_
        have eA : tapeA tp x y z = (-2, tp) := by unfold tapeA; rw [if_pos ctx, if_neg c11, if_neg (fun q => by first | exact Int32.not_lt.mpr q.1.1 (by first | exact c28 | exact Int32.not_le.mp c28) | exact Int32.not_lt.mpr q.1.2 (by first | exact c33 | exact Int32.not_le.mp c33) | exact Int32.not_lt.mpr q.2 (by first | exact c39 | exact Int32.not_le.mp c39))]
        rw [eA] at h
        exact h mi ml D (HI.refl _ _) hc
      · refine il_2 dX8_tape_31 ?_
        refine R_iconst (v := 4) dX8_tape_32 (by decide) ?_
        refine R_icmp_gt (tgt := 42) dX8_tape_33 (by decide) (fun c33 => ?_) (fun c33 => ?_)
        · refine R_bipush (v := -2) dX8_tape_42 (by decide) ?_
          refine R_ireturn dX8_tape_44 ⟨_, rfl, rfl⟩ ?_
          have eA : tapeA tp x y z = (-2, tp) := by unfold tapeA; rw [if_pos ctx, if_neg c11, if_neg (fun q => by first | exact Int32.not_lt.mpr q.1.1 (by first | exact c28 | exact Int32.not_le.mp c28) | exact Int32.not_lt.mpr q.1.2 (by first | exact c33 | exact Int32.not_le.mp c33) | exact Int32.not_lt.mpr q.2 (by first | exact c39 | exact Int32.not_le.mp c39))]
          rw [eA] at h
          exact h mi ml D (HI.refl _ _) hc
        · refine il_3 dX8_tape_36 ?_
          refine R_bipush (v := 60) dX8_tape_37 (by decide) ?_
          refine R_icmp_le (tgt := 45) dX8_tape_39 (by decide) (fun c39 => ?_) (fun c39 => ?_)
          · have cy : (0 ≤ y ∧ y ≤ 4) ∧ z ≤ 60 := ⟨⟨by first | exact c28 | exact Int32.not_lt.mp c28, by first | exact c33 | exact Int32.not_lt.mp c33⟩, by first | exact c39 | exact Int32.not_lt.mp c39⟩
            refine il_3 dX8_tape_45 ?_
            refine R_if_ge (tgt := 52) dX8_tape_46 (by decide) (fun c46 => ?_) (fun c46 => ?_)
            · have z0 : 0 ≤ z := by first | exact c46 | exact Int32.not_lt.mp c46
              obtain ⟨nz, hnz, hz⟩ := sm_of z0 ((lt_succ_iff (a := 60)).mpr cy.2) (by decide)
              refine al_0 dX8_tape_52 ?_
              refine R_getfr (r := 91) dX8_tape_53 fl_RX8_65 rfl sh_1 (Nat.le_of_ble_eq_true rfl) rf_1_9 ?_
              refine il_1 dX8_tape_56 ?_
              refine R_aald (t := 6) (r := (104 + 2 * i)) dX8_tape_57 (by decide) sh_91 (Nat.le_of_ble_eq_true rfl) (rn_ixe hx) hi6 (pt_r hi6) ?_
              refine il_2 dX8_tape_58 ?_
              refine il_3 dX8_tape_59 ?_
              refine cv_2 dX8_tape_60 mm_RX8_344 (pt_s0 hpi) (show (104 + 2 * i) < 164 by have := pt_n hpi; omega) ⟨_, rfl, rfl⟩ (Nat.le_of_ble_eq_true rfl) (Nat.le_of_ble_eq_true rfl) (K_become hpi (fun l h1 h2 => ?_))
              refine R_iconst (v := 1) dX8_tape_63 (by decide) ?_
              refine R_ireturn dX8_tape_64 ⟨_, rfl, rfl⟩ ?_
              have eA : tapeA tp x y z = (1, upT tp i (y, nz, fun _ => 0)) := by unfold tapeA; rw [if_pos ctx, if_neg c11, if_pos cy, if_neg (Int32.not_lt.mpr z0), hnx, hz, nnI (by omega)]
              rw [eA] at h
              rw [hz]
              exact h (rn_u (rn_u mi (104 + 2 * i) 1 y) (104 + 2 * i) 2 (nI nz)) l D (fun a ha => ⟨by rw [rn_u_ne (by omega), rn_u_ne (by omega)], h1 a (by omega)⟩) (hc.tape hv (htp.set hi6 (fun a a1 a2 => ⟨by rw [rn_u_ne a1, rn_u_ne a1], h1 a (by omega)⟩) (by simp [rn_u]) rn_u_eq (fun j hj => by rw [show 105 + 2 * i = 104 + 2 * i + 1 by omega]; exact h2 j hj)) (fun a ha => by rw [rn_u_ne (by omega), rn_u_ne (by omega)]))
            · refine R_bipush (v := -14) dX8_tape_49 (by decide) ?_
              refine R_ireturn dX8_tape_51 ⟨_, rfl, rfl⟩ ?_
              have eA : tapeA tp x y z = (-14, tp) := by unfold tapeA; rw [if_pos ctx, if_neg c11, if_pos cy, if_pos (by first | exact c46 | exact Int32.not_le.mp c46)]
              rw [eA] at h
              exact h mi ml D (HI.refl _ _) hc
          · refine R_bipush (v := -2) dX8_tape_42 (by decide) ?_
            refine R_ireturn dX8_tape_44 ⟨_, rfl, rfl⟩ ?_
            have eA : tapeA tp x y z = (-2, tp) := by unfold tapeA; rw [if_pos ctx, if_neg c11, if_neg (fun q => by first | exact Int32.not_lt.mpr q.1.1 (by first | exact c28 | exact Int32.not_le.mp c28) | exact Int32.not_lt.mpr q.1.2 (by first | exact c33 | exact Int32.not_le.mp c33) | exact Int32.not_lt.mpr q.2 (by first | exact c39 | exact Int32.not_le.mp c39))]
            rw [eA] at h
            exact h mi ml D (HI.refl _ _) hc
    · refine al_0 dX8_tape_14 ?_
      refine R_getfr (r := 91) dX8_tape_15 fl_RX8_65 rfl sh_1 (Nat.le_of_ble_eq_true rfl) rf_1_9 ?_
      refine il_1 dX8_tape_18 ?_
      refine R_aald (t := 6) (r := (104 + 2 * i)) dX8_tape_19 (by decide) sh_91 (Nat.le_of_ble_eq_true rfl) (rn_ixe hx) hi6 (pt_r hi6) ?_
      refine il_2 dX8_tape_20 ?_
      refine R_iconst (v := 0) dX8_tape_21 (by decide) ?_
      refine cv_2 dX8_tape_22 mm_RX8_344 (pt_s0 hpi) (show (104 + 2 * i) < 164 by have := pt_n hpi; omega) ⟨_, rfl, rfl⟩ (Nat.le_of_ble_eq_true rfl) (Nat.le_of_ble_eq_true rfl) (K_become hpi (fun l h1 h2 => ?_))
      refine R_iconst (v := 1) dX8_tape_25 (by decide) ?_
      refine R_ireturn dX8_tape_26 ⟨_, rfl, rfl⟩ ?_
      have eA : tapeA tp x y z = (1, upT tp i (-1, 0, fun _ => 0)) := by unfold tapeA; rw [if_pos ctx, if_pos c11, hnx]
      rw [eA] at h
      rw [c11]
      exact h (rn_u (rn_u mi (104 + 2 * i) 1 (-1)) (104 + 2 * i) 2 0) l D (fun a ha => ⟨by rw [rn_u_ne (by omega), rn_u_ne (by omega)], h1 a (by omega)⟩) (hc.tape hv (htp.set hi6 (fun a a1 a2 => ⟨by rw [rn_u_ne a1, rn_u_ne a1], h1 a (by omega)⟩) (by simp [rn_u]) rn_u_eq (fun j hj => by rw [show 105 + 2 * i = 104 + 2 * i + 1 by omega]; exact h2 j hj)) (fun a ha => by rw [rn_u_ne (by omega), rn_u_ne (by omega)]))
  · refine R_if_ne (tgt := 9) dX8_tape_4 (by decide) (fun q => absurd q (by decide)) (fun _ => ?_)
    refine R_iconst (v := -1) dX8_tape_7 (by decide) ?_
    refine R_ireturn dX8_tape_8 ⟨_, rfl, rfl⟩ ?_
    have eA : tapeA tp x y z = (-1, tp) := by unfold tapeA; rw [if_neg (fun q => c1 (tape6.mpr q))]
    rw [eA] at h
    exact h mi ml D (HI.refl _ _) hc

set_option maxHeartbeats 4000000 in
theorem KC_read {G : rn_G} {d : Nat} {κ : Nat × Nat} {Q : Option Value → rn_S → Prop} {mi : Nat → Nat → Int32} {ml : Nat → Nat → Int64} {D : Nat → Nat} {x y : Int32} {w : WD} {c k : Nat} {ds : Nat → CL} {sl : SL} {el bl : EL} {im : IM} {T : Nat → Nat} {L : Nat} {ac : List Int32} {tp : TP} (hv : IV w c k ds sl el bl im ac tp) (hc : CR w c k ds sl el bl im T L ac tp mi ml D) (h : ∀ m l D', HI mi m ml l → CR w c k ds sl el bl im T L ac tp m l D' → Q (some (.long (readA tp x y))) (m, l, RF D', 164))  : Call G (d + 30) M_X8_read [.ref 1, .int x, .int y] (mi, ml, RF D, 164) κ Q := by
  show Run G _ M_X8_read 0 [.ref 1, .int x, .int y] [] _ _ _
  have hw := hv.1.1
  have hk6 := hv.2.2.1
  have hck := hv.2.1
  have hB : PB 2 := Or.inl rfl
  obtain ⟨hD2, hwc, z12, z13, z14⟩ := hc.1
  obtain ⟨cp1, cp2, cp3, cp4⟩ := cuA_pd (c := c) (by omega)
  have hkD : PD (D 2) := by rw [hD2]; exact cp1
  obtain ⟨N, P, R, hN, hP, hR, hg, hpp, hrr, hPJ⟩ := hc.1.n hw
  obtain ⟨w0, w1, w2, w3, w4, w5, w6⟩ := hc.1.cells
  have htp := hc.2.2.2.2.2.2.2.2.1
  have htv := hv.2.2.2.2.2
  unfold readA at h
  refine il_1 dX8_read_0 ?_
  refine cs_1 dX8_read_1 mm_RX8_302 (Nat.le_of_ble_eq_true rfl) (Nat.le_of_ble_eq_true rfl) (K_isTape (fun c1 => ?_) (fun c1 => ?_))
  · refine R_if_eq (tgt := 34) dX8_read_4 (by decide) (fun q => absurd q (by decide)) (fun _ => ?_)
    have ctx := tape6.mp c1
    obtain ⟨i, hi6, hx⟩ := sm_of c1.1 (show x < nI 6 from c1.2) (by decide)
    have hnx : nn x = i := by rw [hx]; exact nnI (by omega)
    obtain ⟨ti1, ti2, ti3⟩ := htp i hi6
    rw [show 105 + 2 * i = 104 + 2 * i + 1 by omega] at ti3
    obtain ⟨vi1, vi2, vi3⟩ := htv i hi6
    obtain ⟨sni1, sni2⟩ := sort_neg vi2
    have hpi := pt_of hi6
    refine al_0 dX8_read_7 ?_
    refine R_getfr (r := 91) dX8_read_8 fl_RX8_65 rfl sh_1 (Nat.le_of_ble_eq_true rfl) rf_1_9 ?_
    refine il_1 dX8_read_11 ?_
    refine R_aald (t := 6) (r := (104 + 2 * i)) dX8_read_12 (by decide) sh_91 (Nat.le_of_ble_eq_true rfl) (rn_ixe hx) hi6 (pt_r hi6) ?_
    refine il_2 dX8_read_13 ?_
    refine cv_1 dX8_read_14 mm_RX8_347 (pt_s0 hpi) (show (104 + 2 * i) < 164 by have := pt_n hpi; omega) ⟨_, rfl, rfl⟩ (Nat.le_of_ble_eq_true rfl) (Nat.le_of_ble_eq_true rfl) (K_hasItem hpi ti2 (fun c14 => ?_) (fun c14 => ?_))
    · obtain ⟨yy, hyy, hy⟩ := sm_of c14.1 c14.2 (by omega)
      refine R_if_eq (tgt := 34) dX8_read_17 (by decide) (fun q => absurd q (by decide)) (fun _ => ?_)
      refine al_0 dX8_read_20 ?_
      refine R_getfr (r := 91) dX8_read_21 fl_RX8_65 rfl sh_1 (Nat.le_of_ble_eq_true rfl) rf_1_9 ?_
      refine il_1 dX8_read_24 ?_
      refine R_aald (t := 6) (r := (104 + 2 * i)) dX8_read_25 (by decide) sh_91 (Nat.le_of_ble_eq_true rfl) (rn_ixe hx) hi6 (pt_r hi6) ?_
      refine R_getfr (r := (104 + 2 * i) + 1) dX8_read_26 fl_RX8_309 rfl (pt_s0 hpi) (show (104 + 2 * i) < 164 by have := pt_n hpi; omega) (pt_r0 hpi) ?_
      refine il_2 dX8_read_29 ?_
      refine R_lald dX8_read_30 (pt_s1 hpi) (show (104 + 2 * i) + 1 < 164 by have := pt_n hpi; omega) (rn_ixe hy) (show yy < 60 by omega) ?_
      refine R_goto (tgt := 37) dX8_read_31 (by decide) ?_
      refine R_lreturn dX8_read_37 rfl ?_
      first
        | (rw [if_pos ⟨ctx, by rw [hnx]; exact c14⟩, hnx, hy, nnI (by omega), ← ti3 yy (by omega)] at h; exact h mi ml D (HI.refl _ _) hc)
        | (rw [if_neg (fun q => c1 (tape6.mpr q.1))] at h; exact h mi ml D (HI.refl _ _) hc)
        | (rw [if_neg (fun q => c14 (by have := q.2; rw [hnx] at this; exact this))] at h; exact h mi ml D (HI.refl _ _) hc)
    · refine R_if_eq (tgt := 34) dX8_read_17 (by decide) (fun _ => ?_) (fun q => absurd q (by decide))
      refine R_ldc2 dX8_read_34 kl_RX8_293 ?_
      refine R_lreturn dX8_read_37 rfl ?_
      first
        | (rw [if_pos ⟨ctx, by rw [hnx]; exact c14⟩, hnx, hy, nnI (by omega), ← ti3 yy (by omega)] at h; exact h mi ml D (HI.refl _ _) hc)
        | (rw [if_neg (fun q => c1 (tape6.mpr q.1))] at h; exact h mi ml D (HI.refl _ _) hc)
        | (rw [if_neg (fun q => c14 (by have := q.2; rw [hnx] at this; exact this))] at h; exact h mi ml D (HI.refl _ _) hc)
  · refine R_if_eq (tgt := 34) dX8_read_4 (by decide) (fun _ => ?_) (fun q => absurd q (by decide))
    refine R_ldc2 dX8_read_34 kl_RX8_293 ?_
    refine R_lreturn dX8_read_37 rfl ?_
    first
      | (rw [if_pos ⟨ctx, by rw [hnx]; exact c14⟩, hnx, hy, nnI (by omega), ← ti3 yy (by omega)] at h; exact h mi ml D (HI.refl _ _) hc)
      | (rw [if_neg (fun q => c1 (tape6.mpr q.1))] at h; exact h mi ml D (HI.refl _ _) hc)
      | (rw [if_neg (fun q => c14 (by have := q.2; rw [hnx] at this; exact this))] at h; exact h mi ml D (HI.refl _ _) hc)

set_option maxHeartbeats 4000000 in
theorem KC_item {G : rn_G} {d : Nat} {κ : Nat × Nat} {Q : Option Value → rn_S → Prop} {mi : Nat → Nat → Int32} {ml : Nat → Nat → Int64} {D : Nat → Nat} {x y : Int32} {z : Int64} {w : WD} {c k : Nat} {ds : Nat → CL} {sl : SL} {el bl : EL} {im : IM} {T : Nat → Nat} {L : Nat} {ac : List Int32} {tp : TP} (hv : IV w c k ds sl el bl im ac tp) (hc : CR w c k ds sl el bl im T L ac tp mi ml D) (h : ∀ m l D', HI mi m ml l → CR w c k ds sl el bl im T L ac (itemA tp x y z).2 m l D' → Q (some (.int (itemA tp x y z).1)) (m, l, RF D', 164))  : Call G (d + 30) M_X8_item [.ref 1, .int x, .int y, .long z] (mi, ml, RF D, 164) κ Q := by
  show Run G _ M_X8_item 0 [.ref 1, .int x, .int y, .long z, .null, .null] [] _ _ _
  have hw := hv.1.1
  have hk6 := hv.2.2.1
  have hck := hv.2.1
  have hB : PB 2 := Or.inl rfl
  obtain ⟨hD2, hwc, z12, z13, z14⟩ := hc.1
  obtain ⟨cp1, cp2, cp3, cp4⟩ := cuA_pd (c := c) (by omega)
  have hkD : PD (D 2) := by rw [hD2]; exact cp1
  obtain ⟨N, P, R, hN, hP, hR, hg, hpp, hrr, hPJ⟩ := hc.1.n hw
  obtain ⟨w0, w1, w2, w3, w4, w5, w6⟩ := hc.1.cells
  have htp := hc.2.2.2.2.2.2.2.2.1
  have htv := hv.2.2.2.2.2
  refine il_1 dX8_item_0 ?_
  refine cs_1 dX8_item_1 mm_RX8_302 (Nat.le_of_ble_eq_true rfl) (Nat.le_of_ble_eq_true rfl) (K_isTape (fun c1 => ?_) (fun c1 => ?_))
  · refine R_if_ne (tgt := 9) dX8_item_4 (by decide) (fun _ => ?_) (fun q => absurd q (by decide))
    have ctx := tape6.mp c1
    obtain ⟨i, hi6, hx⟩ := sm_of c1.1 (show x < nI 6 from c1.2) (by decide)
    have hnx : nn x = i := by rw [hx]; exact nnI (by omega)
    obtain ⟨ti1, ti2, ti3⟩ := htp i hi6
    rw [show 105 + 2 * i = 104 + 2 * i + 1 by omega] at ti3
    obtain ⟨vi1, vi2, vi3⟩ := htv i hi6
    obtain ⟨sni1, sni2⟩ := sort_neg vi2
    have hpi := pt_of hi6
    refine al_0 dX8_item_9 ?_
    refine R_getfr (r := 91) dX8_item_10 fl_RX8_65 rfl sh_1 (Nat.le_of_ble_eq_true rfl) rf_1_9 ?_
    refine il_1 dX8_item_13 ?_
    refine R_aald (t := 6) (r := (104 + 2 * i)) dX8_item_14 (by decide) sh_91 (Nat.le_of_ble_eq_true rfl) (rn_ixe hx) hi6 (pt_r hi6) ?_
    refine as_5 dX8_item_15 rfl ?_
    refine al_5 dX8_item_17 ?_
    refine R_getfi dX8_item_19 fl_RX8_305 rfl (pt_s0 hpi) (show (104 + 2 * i) < 164 by have := pt_n hpi; omega) ?_
    refine R_iconst (v := -1) dX8_item_22 (by decide) ?_
    refine R_icmp_ne (tgt := 29) dX8_item_23 (by decide) (fun c23 => ?_) (fun c23 => ?_)
    · refine al_5 dX8_item_29 ?_
      refine il_2 dX8_item_31 ?_
      refine cv_1 dX8_item_32 mm_RX8_347 (pt_s0 hpi) (show (104 + 2 * i) < 164 by have := pt_n hpi; omega) ⟨_, rfl, rfl⟩ (Nat.le_of_ble_eq_true rfl) (Nat.le_of_ble_eq_true rfl) (K_hasItem hpi ti2 (fun c32 => ?_) (fun c32 => ?_))
      · obtain ⟨yy, hyy, hy⟩ := sm_of c32.1 c32.2 (by omega)
        refine R_if_ne (tgt := 41) dX8_item_35 (by decide) (fun _ => ?_) (fun q => absurd q (by decide))
        refine al_5 dX8_item_41 ?_
        refine R_getfr (r := (104 + 2 * i) + 1) dX8_item_43 fl_RX8_309 rfl (pt_s0 hpi) (show (104 + 2 * i) < 164 by have := pt_n hpi; omega) (pt_r0 hpi) ?_
        refine il_2 dX8_item_46 ?_
        refine al_5 dX8_item_47 ?_
        refine ll_3 dX8_item_49 ?_
        refine cv_1 dX8_item_50 mm_RX8_350 (pt_s0 hpi) (show (104 + 2 * i) < 164 by have := pt_n hpi; omega) ⟨_, rfl, rfl⟩ (Nat.le_of_ble_eq_true rfl) (Nat.le_of_ble_eq_true rfl) (K_narrowed hpi ti1 (vi2.resolve_left (fun q => c23 (ti1.trans q))) ?_)
        refine R_last dX8_item_53 (pt_s1 hpi) (show (104 + 2 * i) + 1 < 164 by have := pt_n hpi; omega) (rn_ixe hy) (show yy < 60 by omega) ?_
        refine R_iconst (v := 1) dX8_item_54 (by decide) ?_
        refine R_ireturn dX8_item_55 ⟨_, rfl, rfl⟩ ?_
        have eA : itemA tp x y z = (1, upT tp i ((tp i).1, (tp i).2.1, fun j => if j = yy then narA (tp i).1 z else (tp i).2.2 j)) := by unfold itemA; rw [if_pos ctx, hnx, if_neg (fun q => c23 (ti1.trans q)), if_pos c32, hy, nnI (by omega)]
        rw [eA] at h
        exact h mi (rn_u ml (104 + 2 * i + 1) yy (narA (tp i).1 z)) D (fun a ha => ⟨rfl, rn_u_ne (by omega)⟩) (hc.tape hv (htp.set hi6 (fun a a1 a2 => ⟨rfl, rn_u_ne (by omega)⟩) ti1 ti2 (fun j hj => by rw [show 105 + 2 * i = 104 + 2 * i + 1 by omega, rn_u_at]; dsimp only; rw [← ti3 j hj])) (fun _ _ => rfl))
      · refine R_if_ne (tgt := 41) dX8_item_35 (by decide) (fun q => absurd q (by decide)) (fun _ => ?_)
        refine R_bipush (v := -13) dX8_item_38 (by decide) ?_
        refine R_ireturn dX8_item_40 ⟨_, rfl, rfl⟩ ?_
        have eA : itemA tp x y z = (-13, tp) := by unfold itemA; rw [if_pos ctx, hnx, if_neg (fun q => c23 (ti1.trans q)), if_neg c32]
        rw [eA] at h
        exact h mi ml D (HI.refl _ _) hc
    · refine R_bipush (v := -11) dX8_item_26 (by decide) ?_
      refine R_ireturn dX8_item_28 ⟨_, rfl, rfl⟩ ?_
      have eA : itemA tp x y z = (-11, tp) := by unfold itemA; rw [if_pos ctx, hnx, if_pos (ti1.symm.trans c23)]
      rw [eA] at h
      exact h mi ml D (HI.refl _ _) hc
  · refine R_if_ne (tgt := 9) dX8_item_4 (by decide) (fun q => absurd q (by decide)) (fun _ => ?_)
    refine R_iconst (v := -1) dX8_item_7 (by decide) ?_
    refine R_ireturn dX8_item_8 ⟨_, rfl, rfl⟩ ?_
    have eA : itemA tp x y z = (-1, tp) := by unfold itemA; rw [if_neg (fun q => c1 (tape6.mpr q))]
    rw [eA] at h
    exact h mi ml D (HI.refl _ _) hc

set_option maxHeartbeats 4000000 in
theorem KC_shift {G : rn_G} {d : Nat} {κ : Nat × Nat} {Q : Option Value → rn_S → Prop} {mi : Nat → Nat → Int32} {ml : Nat → Nat → Int64} {D : Nat → Nat} {x y u v z : Int32} {w : WD} {c k : Nat} {ds : Nat → CL} {sl : SL} {el bl : EL} {im : IM} {T : Nat → Nat} {L : Nat} {ac : List Int32} {tp : TP} (hv : IV w c k ds sl el bl im ac tp) (hc : CR w c k ds sl el bl im T L ac tp mi ml D) (h : ∀ m l D', HI mi m ml l → CR w c k ds sl el bl im T L ac (shiftA tp x y u v z).2 m l D' → Q (some (.int (shiftA tp x y u v z).1)) (m, l, RF D', 164))  : Call G (d + 30) M_X8_shift [.ref 1, .int x, .int y, .int u, .int v, .int z] (mi, ml, RF D, 164) κ Q := by
  show Run G _ M_X8_shift 0 [.ref 1, .int x, .int y, .int u, .int v, .int z, .null, .null] [] _ _ _
  have hw := hv.1.1
  have hk6 := hv.2.2.1
  have hck := hv.2.1
  have hB : PB 2 := Or.inl rfl
  obtain ⟨hD2, hwc, z12, z13, z14⟩ := hc.1
  obtain ⟨cp1, cp2, cp3, cp4⟩ := cuA_pd (c := c) (by omega)
  have hkD : PD (D 2) := by rw [hD2]; exact cp1
  obtain ⟨N, P, R, hN, hP, hR, hg, hpp, hrr, hPJ⟩ := hc.1.n hw
  obtain ⟨w0, w1, w2, w3, w4, w5, w6⟩ := hc.1.cells
  have htp := hc.2.2.2.2.2.2.2.2.1
  have htv := hv.2.2.2.2.2
  refine il_1 dX8_shift_0 ?_
  refine cs_1 dX8_shift_1 mm_RX8_302 (Nat.le_of_ble_eq_true rfl) (Nat.le_of_ble_eq_true rfl) (K_isTape (fun c1 => ?_) (fun c1 => ?_))
  · refine R_if_eq (tgt := 14) dX8_shift_4 (by decide) (fun q => absurd q (by decide)) (fun _ => ?_)
    refine il_3 dX8_shift_7 ?_
    refine cs_1 dX8_shift_8 mm_RX8_302 (Nat.le_of_ble_eq_true rfl) (Nat.le_of_ble_eq_true rfl) (K_isTape (fun c8 => ?_) (fun c8 => ?_))
    · refine R_if_ne (tgt := 16) dX8_shift_11 (by decide) (fun _ => ?_) (fun q => absurd q (by decide))
      have ctx := tape6.mp c1
      obtain ⟨i, hi6, hx⟩ := sm_of c1.1 (show x < nI 6 from c1.2) (by decide)
      have hnx : nn x = i := by rw [hx]; exact nnI (by omega)
      obtain ⟨ti1, ti2, ti3⟩ := htp i hi6
      rw [show 105 + 2 * i = 104 + 2 * i + 1 by omega] at ti3
      obtain ⟨vi1, vi2, vi3⟩ := htv i hi6
      obtain ⟨sni1, sni2⟩ := sort_neg vi2
      have hpi := pt_of hi6
      have ctu := tape6.mp c8
      obtain ⟨k0, hk06, hu⟩ := sm_of c8.1 (show u < nI 6 from c8.2) (by decide)
      have hnu : nn u = k0 := by rw [hu]; exact nnI (by omega)
      obtain ⟨tk01, tk02, tk03⟩ := htp k0 hk06
      rw [show 105 + 2 * k0 = 104 + 2 * k0 + 1 by omega] at tk03
      obtain ⟨vk01, vk02, vk03⟩ := htv k0 hk06
      obtain ⟨snk01, snk02⟩ := sort_neg vk02
      have hpk0 := pt_of hk06
      refine al_0 dX8_shift_16 ?_
      refine R_getfr (r := 91) dX8_shift_17 fl_RX8_65 rfl sh_1 (Nat.le_of_ble_eq_true rfl) rf_1_9 ?_
      refine il_1 dX8_shift_20 ?_
      refine R_aald (t := 6) (r := (104 + 2 * i)) dX8_shift_21 (by decide) sh_91 (Nat.le_of_ble_eq_true rfl) (rn_ixe hx) hi6 (pt_r hi6) ?_
      refine as_6 dX8_shift_22 rfl ?_
      refine al_0 dX8_shift_24 ?_
      refine R_getfr (r := 91) dX8_shift_25 fl_RX8_65 rfl sh_1 (Nat.le_of_ble_eq_true rfl) rf_1_9 ?_
      refine il_3 dX8_shift_28 ?_
      refine R_aald (t := 6) (r := (104 + 2 * k0)) dX8_shift_29 (by decide) sh_91 (Nat.le_of_ble_eq_true rfl) (rn_ixe hu) hk06 (pt_r hk06) ?_
      refine as_7 dX8_shift_30 rfl ?_
      refine al_6 dX8_shift_32 ?_
      refine R_getfi dX8_shift_34 fl_RX8_305 rfl (pt_s0 hpi) (show (104 + 2 * i) < 164 by have := pt_n hpi; omega) ?_
      refine R_iconst (v := -1) dX8_shift_37 (by decide) ?_
      refine R_icmp_eq (tgt := 50) dX8_shift_38 (by decide) (fun c38 => ?_) (fun c38 => ?_)
      · refine R_bipush (v := -11) dX8_shift_50 (by decide) ?_
        refine R_ireturn dX8_shift_52 ⟨_, rfl, rfl⟩ ?_
        have eA : shiftA tp x y u v z = (-11, tp) := by unfold shiftA; rw [if_pos ⟨ctx, ctu⟩, hnx, hnu, if_pos (by first | exact Or.inl (ti1.symm.trans c38) | exact Or.inr (tk01.symm.trans c47))]
        rw [eA] at h
        exact h mi ml D (HI.refl _ _) hc
      · refine al_7 dX8_shift_41 ?_
        refine R_getfi dX8_shift_43 fl_RX8_305 rfl (pt_s0 hpk0) (show (104 + 2 * k0) < 164 by have := pt_n hpk0; omega) ?_
        refine R_iconst (v := -1) dX8_shift_46 (by decide) ?_
        refine R_icmp_ne (tgt := 53) dX8_shift_47 (by decide) (fun c47 => ?_) (fun c47 => ?_)
        · refine al_6 dX8_shift_53 ?_
          refine R_getfi dX8_shift_55 fl_RX8_305 rfl (pt_s0 hpi) (show (104 + 2 * i) < 164 by have := pt_n hpi; omega) ?_
          refine al_7 dX8_shift_58 ?_
          refine R_getfi dX8_shift_60 fl_RX8_305 rfl (pt_s0 hpk0) (show (104 + 2 * k0) < 164 by have := pt_n hpk0; omega) ?_
          refine R_icmp_eq (tgt := 69) dX8_shift_63 (by decide) (fun c63 => ?_) (fun c63 => ?_)
          · refine al_6 dX8_shift_69 ?_
            refine il_2 dX8_shift_71 ?_
            refine il_5 dX8_shift_72 ?_
            refine cv_2 dX8_shift_74 mm_RX8_354 (pt_s0 hpi) (show (104 + 2 * i) < 164 by have := pt_n hpi; omega) ⟨_, rfl, rfl⟩ (Nat.le_of_ble_eq_true rfl) (Nat.le_of_ble_eq_true rfl) (K_hasItems hpi ti2 vi1 (fun c74 => ?_) (fun c74 => ?_))
            · refine R_if_eq (tgt := 92) dX8_shift_77 (by decide) (fun q => absurd q (by decide)) (fun _ => ?_)
              refine al_7 dX8_shift_80 ?_
              refine il_4 dX8_shift_82 ?_
              refine il_5 dX8_shift_84 ?_
              refine cv_2 dX8_shift_86 mm_RX8_354 (pt_s0 hpk0) (show (104 + 2 * k0) < 164 by have := pt_n hpk0; omega) ⟨_, rfl, rfl⟩ (Nat.le_of_ble_eq_true rfl) (Nat.le_of_ble_eq_true rfl) (K_hasItems hpk0 tk02 vk01 (fun c86 => ?_) (fun c86 => ?_))
              · refine R_if_ne (tgt := 95) dX8_shift_89 (by decide) (fun _ => ?_) (fun q => absurd q (by decide))
                obtain ⟨z1, z2⟩ := nn_of c74.1
                obtain ⟨y1, y2⟩ := nn_of c74.2.1
                obtain ⟨u1, u2⟩ := nn_of c86.2.1
                have f1 := c74.2.2
                have f2 := c86.2.2
                refine al_6 dX8_shift_95 ?_
                refine R_getfr (r := (104 + 2 * i) + 1) dX8_shift_97 fl_RX8_309 rfl (pt_s0 hpi) (show (104 + 2 * i) < 164 by have := pt_n hpi; omega) (pt_r0 hpi) ?_
                refine il_2 dX8_shift_100 ?_
                refine al_7 dX8_shift_101 ?_
                refine R_getfr (r := (104 + 2 * k0) + 1) dX8_shift_103 fl_RX8_309 rfl (pt_s0 hpk0) (show (104 + 2 * k0) < 164 by have := pt_n hpk0; omega) (pt_r0 hpk0) ?_
                refine il_4 dX8_shift_106 ?_
                refine il_5 dX8_shift_108 ?_
                refine R_copyl dX8_shift_110 ac_RX8_357 ma_nat ma_st ma_in (pt_s1 hpi) (pt_s1 hpk0) rfl (sp := nn y) (dp := nn v) (len := nn z) (rn_ixe y2) (rn_ixe u2) (rn_ixe z2) (by omega) (by omega) (Nat.le_of_ble_eq_true rfl) ?_
                refine il_5 dX8_shift_113 ?_
                refine R_ireturn dX8_shift_115 ⟨_, rfl, rfl⟩ ?_
                have eA : shiftA tp x y u v z = (z, upT tp k0 ((tp k0).1, (tp k0).2.1, fun j => if nn v ≤ j ∧ j < nn v + nn z then (tp i).2.2 (nn y + (j - nn v)) else (tp k0).2.2 j)) := by unfold shiftA; rw [if_pos ⟨ctx, ctu⟩, hnx, hnu, if_neg (fun q => q.elim (fun q => c38 (ti1.trans q)) (fun q => c47 (tk01.trans q))), if_pos (by rw [← ti1, ← tk01]; exact c63), if_pos (show 0 ≤ z ∧ 0 ≤ y ∧ 0 ≤ v ∧ nn y + nn z ≤ (tp i).2.1 ∧ nn v + nn z ≤ (tp k0).2.1 from ⟨c74.1, c74.2.1, c86.2.1, c74.2.2, c86.2.2⟩)]
                rw [eA] at h
                refine h mi _ D (fun a ha => ⟨rfl, ?_⟩) (hc.tape hv (htp.set hk06 (fun a a1 a2 => ⟨rfl, ?_⟩) tk01 tk02 (fun j hj => ?_)) (fun _ _ => rfl))
                · exact cp_ne (by omega)
                · exact cp_ne (by omega)
                · rw [show 105 + 2 * k0 = 104 + 2 * k0 + 1 by omega]
                  unfold rn_cp
                  by_cases e : nn v ≤ j ∧ j < nn v + nn z
                  · rw [if_pos ⟨rfl, e.1, e.2⟩, if_pos e, ← ti3 _ (by omega)]
                  · rw [if_neg (fun q => e ⟨q.2.1, q.2.2⟩), if_neg e, ← tk03 j hj]
              · refine R_if_ne (tgt := 95) dX8_shift_89 (by decide) (fun q => absurd q (by decide)) (fun _ => ?_)
                refine R_bipush (v := -13) dX8_shift_92 (by decide) ?_
                refine R_ireturn dX8_shift_94 ⟨_, rfl, rfl⟩ ?_
                have eA : shiftA tp x y u v z = (-13, tp) := by unfold shiftA; rw [if_pos ⟨ctx, ctu⟩, hnx, hnu, if_neg (fun q => q.elim (fun q => c38 (ti1.trans q)) (fun q => c47 (tk01.trans q))), if_pos (by rw [← ti1, ← tk01]; exact c63), if_neg (fun q => by first | exact c74 ⟨q.1, q.2.1, q.2.2.2.1⟩ | exact c86 ⟨q.1, q.2.2.1, q.2.2.2.2⟩)]
                rw [eA] at h
                exact h mi ml D (HI.refl _ _) hc
            · refine R_if_eq (tgt := 92) dX8_shift_77 (by decide) (fun _ => ?_) (fun q => absurd q (by decide))
              refine R_bipush (v := -13) dX8_shift_92 (by decide) ?_
              refine R_ireturn dX8_shift_94 ⟨_, rfl, rfl⟩ ?_
              have eA : shiftA tp x y u v z = (-13, tp) := by unfold shiftA; rw [if_pos ⟨ctx, ctu⟩, hnx, hnu, if_neg (fun q => q.elim (fun q => c38 (ti1.trans q)) (fun q => c47 (tk01.trans q))), if_pos (by rw [← ti1, ← tk01]; exact c63), if_neg (fun q => by first | exact c74 ⟨q.1, q.2.1, q.2.2.2.1⟩ | exact c86 ⟨q.1, q.2.2.1, q.2.2.2.2⟩)]
              rw [eA] at h
              exact h mi ml D (HI.refl _ _) hc
          · refine R_bipush (v := -12) dX8_shift_66 (by decide) ?_
            refine R_ireturn dX8_shift_68 ⟨_, rfl, rfl⟩ ?_
            have eA : shiftA tp x y u v z = (-12, tp) := by unfold shiftA; rw [if_pos ⟨ctx, ctu⟩, hnx, hnu, if_neg (fun q => q.elim (fun q => c38 (ti1.trans q)) (fun q => c47 (tk01.trans q))), if_neg (by rw [← ti1, ← tk01]; exact c63)]
            rw [eA] at h
            exact h mi ml D (HI.refl _ _) hc
        · refine R_bipush (v := -11) dX8_shift_50 (by decide) ?_
          refine R_ireturn dX8_shift_52 ⟨_, rfl, rfl⟩ ?_
          have eA : shiftA tp x y u v z = (-11, tp) := by unfold shiftA; rw [if_pos ⟨ctx, ctu⟩, hnx, hnu, if_pos (by first | exact Or.inl (ti1.symm.trans c38) | exact Or.inr (tk01.symm.trans c47))]
          rw [eA] at h
          exact h mi ml D (HI.refl _ _) hc
    · refine R_if_ne (tgt := 16) dX8_shift_11 (by decide) (fun q => absurd q (by decide)) (fun _ => ?_)
      refine R_iconst (v := -1) dX8_shift_14 (by decide) ?_
      refine R_ireturn dX8_shift_15 ⟨_, rfl, rfl⟩ ?_
      have eA : shiftA tp x y u v z = (-1, tp) := by unfold shiftA; rw [if_neg (fun q => by first | exact c1 (tape6.mpr q.1) | exact c8 (tape6.mpr q.2))]
      rw [eA] at h
      exact h mi ml D (HI.refl _ _) hc
  · refine R_if_eq (tgt := 14) dX8_shift_4 (by decide) (fun _ => ?_) (fun q => absurd q (by decide))
    refine R_iconst (v := -1) dX8_shift_14 (by decide) ?_
    refine R_ireturn dX8_shift_15 ⟨_, rfl, rfl⟩ ?_
    have eA : shiftA tp x y u v z = (-1, tp) := by unfold shiftA; rw [if_neg (fun q => by first | exact c1 (tape6.mpr q.1) | exact c8 (tape6.mpr q.2))]
    rw [eA] at h
    exact h mi ml D (HI.refl _ _) hc
