/-! the reference: calls that change its world, and that look at it -/
theorem MB.cells {mi : Nat → Nat → Int32} {cl : CL} {w : WD} (h : MB mi cl w) : w.1 0 = mi 116 0 ∧ w.1 1 = mi 116 3 ∧ w.1 2 = mi 116 1 ∧ w.1 3 = mi 116 6 ∧ w.1 4 = mi 116 8 ∧ w.1 5 = mi 116 7 ∧ w.1 6 = mi 116 2 ∧ w.1 10 = lastA 2 cl 8 := by
  rw [← h.2.1]
  exact ⟨rfl, rfl, rfl, rfl, rfl, rfl, rfl, rfl⟩
theorem MB.per {mi : Nat → Nat → Int32} {cl : CL} {w : WD} {i P : Nat} (h : MB mi cl w) (hp : mi 116 1 = nI P) (hP : P ≤ 6) (hi : i < P) : w.2.2.2 i = pM mi i := by
  rw [← h.2.1, wM_p hp hP hi]
theorem MR.w {w w' : WD} {c k : Nat} {ds : Nat → CL} {sl : SL} {el bl : EL} {im : IM} {T : Nat → Nat} {L : Nat} {ac : List Int32} {tp : TP} {mi mi' : Nat → Nat → Int32} {ml : Nat → Nat → Int64} (h : MR w c k ds sl el bl im T L ac tp mi ml) (hb : MB mi' (cuL ds c) w') (g : ∀ f, 9 ≤ f → (f < 19 ∨ 46 ≤ f ∨ (33 ≤ f ∧ f < 36)) → mi' 116 f = mi 116 f) (g1 : ∀ a, 123 < a → (a < 133 ∨ 137 < a) → mi' a = mi a) : MR w' c k ds sl el bl im T L ac tp mi' ml := by
  obtain ⟨a1, a2, a3, a4, a5, a6, a7, a8, a9, a10⟩ := h
  exact ⟨hb, a2.fr (g 16 (by omega) (by omega)) (g 17 (by omega) (by omega)) (fun a _ _ => g1 a (by omega) (by omega)), a3.fr (g 49 (by omega) (by omega)) (g1 138 (by omega) (by omega)) (g1 139 (by omega) (by omega)) (g1 140 (by omega) (by omega)), a4.fr (g 53 (by omega) (by omega)) (g1 141 (by omega) (by omega)) (g1 142 (by omega) (by omega)), a5.fr (g 54 (by omega) (by omega)) (g1 143 (by omega) (by omega)) (g1 144 (by omega) (by omega)), a6.fr (fun f _ => g f (by omega) (by omega)) (fun a _ _ => g1 a (by omega) (by omega)), a7.fr (g 18 (by omega) (by omega)) (g1 124 (by omega) (by omega)), a8.fr (g1 132 (by omega) (by omega)), a9.fr (g 87 (by omega) (by omega)) (g1 159 (by omega) (by omega)), a10.fr (g1 160 (by omega) (by omega)) (g1 161 (by omega) (by omega)) rfl⟩
theorem lo_of {mi M : Nat → Nat → Int32} {ml : Nat → Nat → Int64} (h : ∀ a, a < 116 → M a = mi a) : LO mi M ml ml := fun a ha => ⟨h a ha, rfl⟩
theorem cntI {n : Int32} {N : Nat} (h : n = nI N) (h6 : ¬ n = 6) (hN : N ≤ 6) : N < 6 := by
  rcases Nat.lt_or_ge N 6 with q | q
  · exact q
  · exact absurd (by rw [h, show N = 6 by omega]; rfl) h6

set_option maxHeartbeats 4000000 in
theorem MC_gate {G : rn_G} {d : Nat} {κ : Nat × Nat} {Q : Option Value → rn_S → Prop} {mi : Nat → Nat → Int32} {ml : Nat → Nat → Int64} {D : Nat → Nat} {x : Int32} {w : WD} {c k : Nat} {ds : Nat → CL} {sl : SL} {el bl : EL} {im : IM} {T : Nat → Nat} {L : Nat} {ac : List Int32} {tp : TP} (hv : IV w c k ds sl el bl im ac tp) (hr : MR w c k ds sl el bl im T L ac tp mi ml) (h : ∀ m l, LO mi m ml l → MR (gateA w x).2 c k ds sl el bl im T L ac tp m l → Q (some (.int (gateA w x).1)) (m, l, RF D, 164))  : Call G (d + 2) M_X9_gate [.ref 116, .int x] (mi, ml, RF D, 164) κ Q := by
  show Run G _ M_X9_gate 0 [.ref 116, .int x] [] _ _ _
  have hB := hr.1
  have hw := hv.1.1
  have hk6 := hv.2.2.1
  obtain ⟨N, P, R, ⟨hN, hP, hR, hg, hpp, hrr, hdn, hmn, hkp, hwt, hgp, htr⟩, hpc, hbits, hPJ⟩ := hB.n hw
  obtain ⟨w0, w1, w2, w3, w4, w5, w6, w10⟩ := hB.cells
  refine al_0 dX9_gate_0 ?_
  refine il_1 dX9_gate_1 ?_
  refine cv_1 dX9_gate_2 mm_RX9_297 sh_116 (Nat.le_of_ble_eq_true rfl) ⟨_, rfl, rfl⟩ (Nat.le_of_ble_eq_true rfl) (Nat.le_of_ble_eq_true rfl) (M_isPlace (fun c2 => ?_) (fun c2 => ?_))
  · refine R_if_ne (tgt := 11) dX9_gate_5 (by decide) (fun _ => ?_) (fun q => absurd q (by decide))
    refine al_0 dX9_gate_11 ?_
    refine R_getfi dX9_gate_12 fl_RX9_7 rfl sh_116 (Nat.le_of_ble_eq_true rfl) ?_
    refine R_bipush (v := 6) dX9_gate_15 (by decide) ?_
    refine R_icmp_ne (tgt := 23) dX9_gate_17 (by decide) (fun c17 => ?_) (fun c17 => ?_)
    · have hN6 : N < 6 := cntI hg c17 hN
      refine al_0 dX9_gate_23 ?_
      refine R_getfr (r := 117) dX9_gate_24 fl_RX9_37 rfl sh_116 (Nat.le_of_ble_eq_true rfl) rf_116_9 ?_
      refine al_0 dX9_gate_27 ?_
      refine R_getfi dX9_gate_28 fl_RX9_7 rfl sh_116 (Nat.le_of_ble_eq_true rfl) ?_
      refine il_1 dX9_gate_31 ?_
      refine R_iast dX9_gate_32 sh_117 (Nat.le_of_ble_eq_true rfl) (rn_ixe hg) hN6 ?_
      refine al_0 dX9_gate_33 ?_
      refine al_0 dX9_gate_34 ?_
      refine al_0 dX9_gate_35 ?_
      refine R_getfi dX9_gate_36 fl_RX9_19 rfl sh_116 (Nat.le_of_ble_eq_true rfl) ?_
      refine al_0 dX9_gate_39 ?_
      refine R_getfi dX9_gate_40 fl_RX9_7 rfl sh_116 (Nat.le_of_ble_eq_true rfl) ?_
      refine R_iconst (v := 0) dX9_gate_43 (by decide) ?_
      refine cv_3 dX9_gate_44 mm_RX9_301 sh_116 (Nat.le_of_ble_eq_true rfl) ⟨_, rfl, rfl⟩ (Nat.le_of_ble_eq_true rfl) (Nat.le_of_ble_eq_true rfl) (M_with0 ?_)
      refine R_putfi dX9_gate_47 fl_RX9_19 rfl (Or.inl rfl) sh_116 (Nat.le_of_ble_eq_true rfl) rfl rfl ?_
      refine al_0 dX9_gate_50 ?_
      refine R_dup dX9_gate_51 rfl ?_
      refine R_getfi dX9_gate_52 fl_RX9_7 rfl sh_116 (Nat.le_of_ble_eq_true rfl) ?_
      refine R_iconst (v := 1) dX9_gate_55 (by decide) ?_
      refine R_iadd dX9_gate_56 ?_
      refine R_putfi dX9_gate_57 fl_RX9_7 rfl (Or.inl rfl) sh_116 (Nat.le_of_ble_eq_true rfl) rfl rfl ?_
      refine al_0 dX9_gate_60 ?_
      refine R_getfi dX9_gate_61 fl_RX9_7 rfl sh_116 (Nat.le_of_ble_eq_true rfl) ?_
      refine R_iconst (v := 1) dX9_gate_64 (by decide) ?_
      refine R_isub dX9_gate_65 ?_
      refine R_ireturn dX9_gate_66 ⟨_, rfl, rfl⟩ ?_
      have eA : gateA w x = (w.1 0, gateW x w) := by unfold gateA; rw [if_pos c2, if_neg (fun q => c17 (w0.symm.trans q))]
      rw [eA] at h
      have b0 : clrB (mi 116 3) (mi 116 0) = mi 116 3 := by rw [hg]; exact b_clr0 (by omega) (hbits N (Nat.le_refl N) (by omega))
      have eb : ∀ f, (rn_u (rn_u (rn_u mi 117 N x) 116 3 (clrB (mi 116 3) (mi 116 0))) 116 0 (mi 116 0 + 1)) 116 f = if f = 0 then nI N + 1 else mi 116 f := fun f => by
        rw [b0, hg]
        simp only [rn_u, true_and]
        by_cases f0 : f = 0
        · rw [if_pos f0, if_pos f0]
        · rw [if_neg f0, if_neg f0]
          by_cases f3 : f = 3
          · rw [if_pos f3, f3]
          · rw [if_neg f3, if_neg (fun q => absurd q.1 (by decide))]
      have ea : ∀ a, a ≠ 116 → a ≠ 117 → (rn_u (rn_u (rn_u mi 117 N x) 116 3 (clrB (mi 116 3) (mi 116 0))) 116 0 (mi 116 0 + 1)) a = mi a := fun a a1 a2 => by rw [rn_u_ne a1, rn_u_ne a1, rn_u_ne a2]
      have hwm := wM_gate (M := (rn_u (rn_u (rn_u mi 117 N x) 116 3 (clrB (mi 116 3) (mi 116 0))) 116 0 (mi 116 0 + 1))) (cl := cuL ds c) (pl := x) hg hN6 eb (fun f => by simp [rn_u]) ea
      rw [hB.2.1] at hwm
      refine ret_eq (h (rn_u (rn_u (rn_u mi 117 N x) 116 3 (clrB (mi 116 3) (mi 116 0))) 116 0 (mi 116 0 + 1)) ml (lo_of (fun a ha => ea a (by omega) (by omega))) (hr.w (hB.of hwm (by rw [eb]; rfl) (fun a a1 a2 => ea a (by omega) (by omega)) (fun i i1 i2 => by rw [eb]; rw [eb] at i1; exact hB.2.2.1 i i1 i2) (fun f f1 f2 => by rw [eb, if_neg (by omega)])) (fun f f1 f2 => by rw [eb, if_neg (by omega)]) (fun a a1 _ => ea a (by omega) (by omega)))) rfl ?_
      rw [w0]
      exact Int32.add_sub_cancel _ _
    · refine R_bipush (v := -4) dX9_gate_20 (by decide) ?_
      refine R_ireturn dX9_gate_22 ⟨_, rfl, rfl⟩ ?_
      have eA : gateA w x = (-4, w) := by unfold gateA; rw [if_pos c2, if_pos (w0.trans c17)]
      rw [eA] at h
      exact h mi ml (LO.refl _ _) hr
  · refine R_if_ne (tgt := 11) dX9_gate_5 (by decide) (fun q => absurd q (by decide)) (fun _ => ?_)
    refine R_bipush (v := -2) dX9_gate_8 (by decide) ?_
    refine R_ireturn dX9_gate_10 ⟨_, rfl, rfl⟩ ?_
    have eA : gateA w x = (-2, w) := by unfold gateA; rw [if_neg c2]
    rw [eA] at h
    exact h mi ml (LO.refl _ _) hr

theorem MB.put {mi : Nat → Nat → Int32} {cl : CL} {w : WD} {i P : Nat} {y : Int32} (hB : MB mi cl w) (hpp : mi 116 1 = nI P) (hP : P ≤ 6) (hiP : i < P) : MB (rn_u (rn_u mi 120 i y) 116 5 (clrB (mi 116 5) (nI i))) cl (putW i y w) := by
  have ef : ∀ f, f ≠ 5 → rn_u (rn_u mi 120 i y) 116 5 (clrB (mi 116 5) (nI i)) 116 f = mi 116 f := fun f hf => by simp [rn_u, hf]
  have e5 : rn_u (rn_u mi 120 i y) 116 5 (clrB (mi 116 5) (nI i)) 116 5 = clrB (mi 116 5) (nI i) := rn_u_eq
  have ea : ∀ a, a ≠ 116 → a ≠ 120 → rn_u (rn_u mi 120 i y) 116 5 (clrB (mi 116 5) (nI i)) a = mi a := fun a a1 a2 => by rw [rn_u_ne a1, rn_u_ne a2]
  refine hB.of ?_ (ef 17 (by decide)) (fun a a1 a2 => ea a (by omega) (by omega)) (fun j j1 j2 => ?_) (fun f f1 f2 => ef f (by omega))
  · refine wM_P hB.2.1 hpp hP hiP (fun f f4 f5 => ef f f5) (fun a h => ea a (by omega) (by omega)) (fun j hj hji => ⟨by rw [ef 4 (by decide)], by rw [e5, bt_clr (by omega) hj]; simp [hji]⟩) (fun j hj => ⟨by simp [rn_u, hj], by rw [ea 121 (by decide) (by decide)]⟩) (fun j _ => by rw [ea 122 (by decide) (by decide)]) (fun f => ?_)
    rw [hB.per hpp hP hiP]
    unfold pM
    by_cases h2 : f = 2
    · subst h2; simp [rn_u]
    · by_cases h5 : f = 5
      · subst h5
        simp only [rn_u, and_self, if_true]
        exact bitD_clr (by omega)
      · simp [rn_u, h2, h5]
  · rw [ef 1 (by decide)] at j1
    rw [e5, bt_clr (by omega) j2, hB.2.2.1 j j1 j2]
    rfl

set_option maxHeartbeats 4000000 in
theorem MC_put {G : rn_G} {d : Nat} {κ : Nat × Nat} {Q : Option Value → rn_S → Prop} {mi : Nat → Nat → Int32} {ml : Nat → Nat → Int64} {D : Nat → Nat} {x y : Int32} {w : WD} {c k : Nat} {ds : Nat → CL} {sl : SL} {el bl : EL} {im : IM} {T : Nat → Nat} {L : Nat} {ac : List Int32} {tp : TP} (hv : IV w c k ds sl el bl im ac tp) (hr : MR w c k ds sl el bl im T L ac tp mi ml) (h : ∀ m l, LO mi m ml l → MR (putA w x y).2 c k ds sl el bl im T L ac tp m l → Q (some (.int (putA w x y).1)) (m, l, RF D, 164))  : Call G (d + 2) M_X9_put [.ref 116, .int x, .int y] (mi, ml, RF D, 164) κ Q := by
  show Run G _ M_X9_put 0 [.ref 116, .int x, .int y, .null] [] _ _ _
  have hB := hr.1
  have hw := hv.1.1
  have hk6 := hv.2.2.1
  obtain ⟨N, P, R, ⟨hN, hP, hR, hg, hpp, hrr, hdn, hmn, hkp, hwt, hgp, htr⟩, hpc, hbits, hPJ⟩ := hB.n hw
  obtain ⟨w0, w1, w2, w3, w4, w5, w6, w10⟩ := hB.cells
  refine al_0 dX9_put_0 ?_
  refine il_1 dX9_put_1 ?_
  refine cv_1 dX9_put_2 mm_RX9_305 sh_116 (Nat.le_of_ble_eq_true rfl) ⟨_, rfl, rfl⟩ (Nat.le_of_ble_eq_true rfl) (Nat.le_of_ble_eq_true rfl) (M_isPerson (fun c2 => ?_) (fun c2 => ?_) ⟨P, hP, hpp⟩)
  · refine R_if_ne (tgt := 10) dX9_put_5 (by decide) (fun _ => ?_) (fun q => absurd q (by decide))
    obtain ⟨i, hiP, hx⟩ := sm_of c2.1 (by rw [← hpp]; exact c2.2) (by omega)
    have hi6 : i < 6 := by omega
    have hnx : nn x = i := by rw [hx]; exact nnI (by omega)
    have hPi : w.2.2.2 i = pM mi i := hB.per hpp hP hiP
    have cp : 0 ≤ x ∧ x < w.1 2 := by rw [w2]; exact c2
    refine al_0 dX9_put_10 ?_
    refine il_2 dX9_put_11 ?_
    refine cv_1 dX9_put_12 mm_RX9_297 sh_116 (Nat.le_of_ble_eq_true rfl) ⟨_, rfl, rfl⟩ (Nat.le_of_ble_eq_true rfl) (Nat.le_of_ble_eq_true rfl) (M_isPlace (fun c12 => ?_) (fun c12 => ?_))
    · refine R_if_ne (tgt := 21) dX9_put_15 (by decide) (fun _ => ?_) (fun q => absurd q (by decide))
      refine al_0 dX9_put_21 ?_
      refine R_getfr (r := 120) dX9_put_22 fl_RX9_47 rfl sh_116 (Nat.le_of_ble_eq_true rfl) rf_116_12 ?_
      refine il_1 dX9_put_25 ?_
      refine R_iald dX9_put_26 sh_120 (Nat.le_of_ble_eq_true rfl) (rn_ixe hx) hi6 ?_
      refine is_3 dX9_put_27 rfl ?_
      refine al_0 dX9_put_28 ?_
      refine il_1 dX9_put_29 ?_
      refine il_2 dX9_put_30 ?_
      refine cv_2 dX9_put_31 mm_RX9_308 sh_116 (Nat.le_of_ble_eq_true rfl) ⟨_, rfl, rfl⟩ (Nat.le_of_ble_eq_true rfl) (Nat.le_of_ble_eq_true rfl) (M_puts hx hi6 ?_)
      refine il_3 dX9_put_34 ?_
      refine R_ireturn dX9_put_35 ⟨_, rfl, rfl⟩ ?_
      have eA : putA w x y = (w.2.2.2 i 2, putW i y w) := by unfold putA; rw [if_pos cp, if_pos c12, hnx]
      rw [eA] at h
      refine ret_eq (h (rn_u (rn_u mi 120 i y) 116 5 (clrB (mi 116 5) (nI i))) ml (lo_of (fun a ha => by rw [rn_u_ne (by omega), rn_u_ne (by omega)])) (hr.w (hB.put hpp hP hiP) (fun f f1 _ => by simp only [rn_u, true_and]; rw [if_neg (by omega)]; rfl) (fun a a1 _ => by rw [rn_u_ne (by omega), rn_u_ne (by omega)]))) rfl ?_
      rw [hPi]
      rfl
    · refine R_if_ne (tgt := 21) dX9_put_15 (by decide) (fun q => absurd q (by decide)) (fun _ => ?_)
      refine R_bipush (v := -2) dX9_put_18 (by decide) ?_
      refine R_ireturn dX9_put_20 ⟨_, rfl, rfl⟩ ?_
      have eA : putA w x y = (-2, w) := by unfold putA; rw [if_pos cp, if_neg c12]
      rw [eA] at h
      exact h mi ml (LO.refl _ _) hr
  · refine R_if_ne (tgt := 10) dX9_put_5 (by decide) (fun q => absurd q (by decide)) (fun _ => ?_)
    refine R_iconst (v := -1) dX9_put_8 (by decide) ?_
    refine R_ireturn dX9_put_9 ⟨_, rfl, rfl⟩ ?_
    have eA : putA w x y = (-1, w) := by unfold putA; rw [if_neg (by rw [w2]; exact c2)]
    rw [eA] at h
    exact h mi ml (LO.refl _ _) hr

theorem MB.call {mi : Nat → Nat → Int32} {cl : CL} {w : WD} {i P : Nat} {z : Int32} (hB : MB mi cl w) (hpp : mi 116 1 = nI P) (hP : P ≤ 6) (hiP : i < P) (hz : bz z) : MB (rn_u (rn_u mi 116 4 (if z = 0 then clrB (mi 116 4) (nI i) else setB (mi 116 4) (nI i))) 121 i (if z = 0 then 0 else mi 121 i)) cl (callW i z w) := by
  obtain ⟨v, hv⟩ : ∃ v, v = (if z = 0 then clrB (mi 116 4) (nI i) else setB (mi 116 4) (nI i)) := ⟨_, rfl⟩
  have hbv : bitD v (nI i) = z := by
    rw [hv]
    rcases hz with rfl | rfl
    · rw [if_pos rfl]; exact bitD_clr (by omega)
    · rw [if_neg (by decide)]; exact bitD_set (by omega)
  have hbo : ∀ j, j < 32 → j ≠ i → bt v j = bt (mi 116 4) j := fun j hj hji => by
    rw [hv]
    split
    · rw [bt_clr (by omega) hj]; simp [hji]
    · rw [bt_set (by omega) hj]; simp [hji]
  rw [← hv]
  obtain ⟨u, hu⟩ : ∃ u, u = (if z = 0 then 0 else mi 121 i) := ⟨_, rfl⟩
  rw [← hu]
  have ef : ∀ f, f ≠ 4 → rn_u (rn_u mi 116 4 v) 121 i u 116 f = mi 116 f := fun f hf => by simp [rn_u, hf]
  have e4 : rn_u (rn_u mi 116 4 v) 121 i u 116 4 = v := rfl
  have ea : ∀ a, a ≠ 116 → a ≠ 121 → rn_u (rn_u mi 116 4 v) 121 i u a = mi a := fun a a1 a2 => by rw [rn_u_ne a2, rn_u_ne a1]
  refine hB.of ?_ (ef 17 (by decide)) (fun a a1 a2 => ea a (by omega) (by omega)) (fun j j1 j2 => ?_) (fun f f1 f2 => ef f (by omega))
  · refine wM_P hB.2.1 hpp hP hiP (fun f f4 f5 => ef f f4) (fun a h => ea a (by omega) (by omega)) (fun j hj hji => ⟨by rw [e4]; exact hbo j hj hji, by rw [ef 5 (by decide)]⟩) (fun j hj => ⟨by rw [ea 120 (by decide) (by decide)], by simp [rn_u, hj]⟩) (fun j _ => by rw [ea 122 (by decide) (by decide)]) (fun f => ?_)
    rw [hB.per hpp hP hiP]
    unfold pM
    rw [e4, hbv, ef 5 (by decide), ea 118 (by decide) (by decide), ea 119 (by decide) (by decide), ea 120 (by decide) (by decide), ea 122 (by decide) (by decide)]
    by_cases h4 : f = 4
    · subst h4; rfl
    · by_cases h3 : f = 3
      · subst h3; simp [rn_u, hu]
      · simp [h4, h3]
  · rw [ef 1 (by decide)] at j1
    rw [ef 5 (by decide)]
    exact hB.2.2.1 j j1 j2

set_option maxHeartbeats 4000000 in
theorem MC_call {G : rn_G} {d : Nat} {κ : Nat × Nat} {Q : Option Value → rn_S → Prop} {mi : Nat → Nat → Int32} {ml : Nat → Nat → Int64} {D : Nat → Nat} {x z : Int32} (hz : bz z) {w : WD} {c k : Nat} {ds : Nat → CL} {sl : SL} {el bl : EL} {im : IM} {T : Nat → Nat} {L : Nat} {ac : List Int32} {tp : TP} (hv : IV w c k ds sl el bl im ac tp) (hr : MR w c k ds sl el bl im T L ac tp mi ml) (h : ∀ m l, LO mi m ml l → MR (callA w x z).2 c k ds sl el bl im T L ac tp m l → Q (some (.int (callA w x z).1)) (m, l, RF D, 164))  : Call G (d + 2) M_X9_call [.ref 116, .int x, .int z] (mi, ml, RF D, 164) κ Q := by
  show Run G _ M_X9_call 0 [.ref 116, .int x, .int z, .null] [] _ _ _
  have hB := hr.1
  have hw := hv.1.1
  have hk6 := hv.2.2.1
  obtain ⟨N, P, R, ⟨hN, hP, hR, hg, hpp, hrr, hdn, hmn, hkp, hwt, hgp, htr⟩, hpc, hbits, hPJ⟩ := hB.n hw
  obtain ⟨w0, w1, w2, w3, w4, w5, w6, w10⟩ := hB.cells
  refine al_0 dX9_call_0 ?_
  refine il_1 dX9_call_1 ?_
  refine cv_1 dX9_call_2 mm_RX9_305 sh_116 (Nat.le_of_ble_eq_true rfl) ⟨_, rfl, rfl⟩ (Nat.le_of_ble_eq_true rfl) (Nat.le_of_ble_eq_true rfl) (M_isPerson (fun c2 => ?_) (fun c2 => ?_) ⟨P, hP, hpp⟩)
  · refine R_if_ne (tgt := 10) dX9_call_5 (by decide) (fun _ => ?_) (fun q => absurd q (by decide))
    obtain ⟨i, hiP, hx⟩ := sm_of c2.1 (by rw [← hpp]; exact c2.2) (by omega)
    have hi6 : i < 6 := by omega
    have hnx : nn x = i := by rw [hx]; exact nnI (by omega)
    have hPi : w.2.2.2 i = pM mi i := hB.per hpp hP hiP
    have cp : 0 ≤ x ∧ x < w.1 2 := by rw [w2]; exact c2
    refine al_0 dX9_call_10 ?_
    refine al_0 dX9_call_11 ?_
    refine R_getfi dX9_call_12 fl_RX9_22 rfl sh_116 (Nat.le_of_ble_eq_true rfl) ?_
    refine il_1 dX9_call_15 ?_
    refine cv_2 dX9_call_16 mm_RX9_312 sh_116 (Nat.le_of_ble_eq_true rfl) ⟨_, rfl, rfl⟩ (Nat.le_of_ble_eq_true rfl) (Nat.le_of_ble_eq_true rfl) (M_has (fun c16 => ?_) (fun c16 => ?_))
    · refine R_if_eq (tgt := 26) dX9_call_19 (by decide) (fun q => absurd q (by decide)) (fun _ => ?_)
      refine R_iconst (v := 1) dX9_call_22 (by decide) ?_
      refine R_goto (tgt := 27) dX9_call_23 (by decide) ?_
      refine is_3 dX9_call_27 rfl ?_
      refine al_0 dX9_call_28 ?_
      refine al_0 dX9_call_29 ?_
      refine al_0 dX9_call_30 ?_
      refine R_getfi dX9_call_31 fl_RX9_22 rfl sh_116 (Nat.le_of_ble_eq_true rfl) ?_
      refine il_1 dX9_call_34 ?_
      refine il_2 dX9_call_35 ?_
      refine cv_3 dX9_call_36 mm_RX9_301 sh_116 (Nat.le_of_ble_eq_true rfl) ⟨_, rfl, rfl⟩ (Nat.le_of_ble_eq_true rfl) (Nat.le_of_ble_eq_true rfl) (M_with0 ?_)
      refine R_putfi dX9_call_39 fl_RX9_22 rfl (Or.inl rfl) sh_116 (Nat.le_of_ble_eq_true rfl) rfl rfl ?_
      refine al_0 dX9_call_42 ?_
      refine R_getfr (r := 121) dX9_call_43 fl_RX9_50 rfl sh_116 (Nat.le_of_ble_eq_true rfl) rf_116_13 ?_
      refine il_1 dX9_call_46 ?_
      refine il_2 dX9_call_47 ?_
      refine R_if_eq (tgt := 60) dX9_call_48 (by decide) (fun c48 => ?_) (fun c48 => ?_)
      · refine R_iconst (v := 0) dX9_call_60 (by decide) ?_
        refine R_iast dX9_call_61 sh_121 (Nat.le_of_ble_eq_true rfl) (rn_ixe hx) hi6 ?_
        refine il_3 dX9_call_62 ?_
        refine R_ireturn dX9_call_63 ⟨_, rfl, rfl⟩ ?_
        have eA : callA w x z = (w.2.2.2 i 4, callW i z w) := by unfold callA; rw [if_pos cp, hnx]
        rw [eA] at h
        refine ret_eq (h (rn_u (rn_u mi 116 4 (if z = 0 then clrB (mi 116 4) (nI i) else setB (mi 116 4) (nI i))) 121 i (if z = 0 then 0 else mi 121 i)) ml (lo_of (fun a ha => by rw [rn_u_ne (by omega), rn_u_ne (by omega)])) (hr.w (hB.call hpp hP hiP hz) (fun f f1 _ => by rw [rn_u_ne (by decide)]; simp only [rn_u, true_and]; rw [if_neg (by omega)]) (fun a a1 _ => by rw [rn_u_ne (by omega), rn_u_ne (by omega)]))) ?_ ?_
        · first | (rw [if_pos c48, if_pos c48, if_pos c48, hx] <;> rfl) | (rw [if_neg c48, if_neg c48, if_neg c48, hx] <;> rfl)
        · rw [hPi]
          show _ = bitD (mi 116 4) (nI i)
          rw [← hx]
          first | exact c16.symm | exact ((bitD_01 (s := mi 116 4) (i := i) (by omega)).resolve_right (fun q => c16 (by rw [hx]; exact q)) |> fun q => by rw [hx]; exact q.symm)
      · refine al_0 dX9_call_51 ?_
        refine R_getfr (r := 121) dX9_call_52 fl_RX9_50 rfl sh_116 (Nat.le_of_ble_eq_true rfl) rf_116_13 ?_
        refine il_1 dX9_call_55 ?_
        refine R_iald dX9_call_56 sh_121 (Nat.le_of_ble_eq_true rfl) (rn_ixe hx) hi6 ?_
        refine R_goto (tgt := 61) dX9_call_57 (by decide) ?_
        refine R_iast dX9_call_61 sh_121 (Nat.le_of_ble_eq_true rfl) (rn_ixe hx) hi6 ?_
        refine il_3 dX9_call_62 ?_
        refine R_ireturn dX9_call_63 ⟨_, rfl, rfl⟩ ?_
        have eA : callA w x z = (w.2.2.2 i 4, callW i z w) := by unfold callA; rw [if_pos cp, hnx]
        rw [eA] at h
        refine ret_eq (h (rn_u (rn_u mi 116 4 (if z = 0 then clrB (mi 116 4) (nI i) else setB (mi 116 4) (nI i))) 121 i (if z = 0 then 0 else mi 121 i)) ml (lo_of (fun a ha => by rw [rn_u_ne (by omega), rn_u_ne (by omega)])) (hr.w (hB.call hpp hP hiP hz) (fun f f1 _ => by rw [rn_u_ne (by decide)]; simp only [rn_u, true_and]; rw [if_neg (by omega)]) (fun a a1 _ => by rw [rn_u_ne (by omega), rn_u_ne (by omega)]))) ?_ ?_
        · first | (rw [if_pos c48, if_pos c48, if_pos c48, hx] <;> rfl) | (rw [if_neg c48, if_neg c48, if_neg c48, hx] <;> rfl)
        · rw [hPi]
          show _ = bitD (mi 116 4) (nI i)
          rw [← hx]
          first | exact c16.symm | exact ((bitD_01 (s := mi 116 4) (i := i) (by omega)).resolve_right (fun q => c16 (by rw [hx]; exact q)) |> fun q => by rw [hx]; exact q.symm)
    · refine R_if_eq (tgt := 26) dX9_call_19 (by decide) (fun _ => ?_) (fun q => absurd q (by decide))
      refine R_iconst (v := 0) dX9_call_26 (by decide) ?_
      refine is_3 dX9_call_27 rfl ?_
      refine al_0 dX9_call_28 ?_
      refine al_0 dX9_call_29 ?_
      refine al_0 dX9_call_30 ?_
      refine R_getfi dX9_call_31 fl_RX9_22 rfl sh_116 (Nat.le_of_ble_eq_true rfl) ?_
      refine il_1 dX9_call_34 ?_
      refine il_2 dX9_call_35 ?_
      refine cv_3 dX9_call_36 mm_RX9_301 sh_116 (Nat.le_of_ble_eq_true rfl) ⟨_, rfl, rfl⟩ (Nat.le_of_ble_eq_true rfl) (Nat.le_of_ble_eq_true rfl) (M_with0 ?_)
      refine R_putfi dX9_call_39 fl_RX9_22 rfl (Or.inl rfl) sh_116 (Nat.le_of_ble_eq_true rfl) rfl rfl ?_
      refine al_0 dX9_call_42 ?_
      refine R_getfr (r := 121) dX9_call_43 fl_RX9_50 rfl sh_116 (Nat.le_of_ble_eq_true rfl) rf_116_13 ?_
      refine il_1 dX9_call_46 ?_
      refine il_2 dX9_call_47 ?_
      refine R_if_eq (tgt := 60) dX9_call_48 (by decide) (fun c48 => ?_) (fun c48 => ?_)
      · refine R_iconst (v := 0) dX9_call_60 (by decide) ?_
        refine R_iast dX9_call_61 sh_121 (Nat.le_of_ble_eq_true rfl) (rn_ixe hx) hi6 ?_
        refine il_3 dX9_call_62 ?_
        refine R_ireturn dX9_call_63 ⟨_, rfl, rfl⟩ ?_
        have eA : callA w x z = (w.2.2.2 i 4, callW i z w) := by unfold callA; rw [if_pos cp, hnx]
        rw [eA] at h
        refine ret_eq (h (rn_u (rn_u mi 116 4 (if z = 0 then clrB (mi 116 4) (nI i) else setB (mi 116 4) (nI i))) 121 i (if z = 0 then 0 else mi 121 i)) ml (lo_of (fun a ha => by rw [rn_u_ne (by omega), rn_u_ne (by omega)])) (hr.w (hB.call hpp hP hiP hz) (fun f f1 _ => by rw [rn_u_ne (by decide)]; simp only [rn_u, true_and]; rw [if_neg (by omega)]) (fun a a1 _ => by rw [rn_u_ne (by omega), rn_u_ne (by omega)]))) ?_ ?_
        · first | (rw [if_pos c48, if_pos c48, if_pos c48, hx] <;> rfl) | (rw [if_neg c48, if_neg c48, if_neg c48, hx] <;> rfl)
        · rw [hPi]
          show _ = bitD (mi 116 4) (nI i)
          rw [← hx]
          first | exact c16.symm | exact ((bitD_01 (s := mi 116 4) (i := i) (by omega)).resolve_right (fun q => c16 (by rw [hx]; exact q)) |> fun q => by rw [hx]; exact q.symm)
      · refine al_0 dX9_call_51 ?_
        refine R_getfr (r := 121) dX9_call_52 fl_RX9_50 rfl sh_116 (Nat.le_of_ble_eq_true rfl) rf_116_13 ?_
        refine il_1 dX9_call_55 ?_
        refine R_iald dX9_call_56 sh_121 (Nat.le_of_ble_eq_true rfl) (rn_ixe hx) hi6 ?_
        refine R_goto (tgt := 61) dX9_call_57 (by decide) ?_
        refine R_iast dX9_call_61 sh_121 (Nat.le_of_ble_eq_true rfl) (rn_ixe hx) hi6 ?_
        refine il_3 dX9_call_62 ?_
        refine R_ireturn dX9_call_63 ⟨_, rfl, rfl⟩ ?_
        have eA : callA w x z = (w.2.2.2 i 4, callW i z w) := by unfold callA; rw [if_pos cp, hnx]
        rw [eA] at h
        refine ret_eq (h (rn_u (rn_u mi 116 4 (if z = 0 then clrB (mi 116 4) (nI i) else setB (mi 116 4) (nI i))) 121 i (if z = 0 then 0 else mi 121 i)) ml (lo_of (fun a ha => by rw [rn_u_ne (by omega), rn_u_ne (by omega)])) (hr.w (hB.call hpp hP hiP hz) (fun f f1 _ => by rw [rn_u_ne (by decide)]; simp only [rn_u, true_and]; rw [if_neg (by omega)]) (fun a a1 _ => by rw [rn_u_ne (by omega), rn_u_ne (by omega)]))) ?_ ?_
        · first | (rw [if_pos c48, if_pos c48, if_pos c48, hx] <;> rfl) | (rw [if_neg c48, if_neg c48, if_neg c48, hx] <;> rfl)
        · rw [hPi]
          show _ = bitD (mi 116 4) (nI i)
          rw [← hx]
          first | exact c16.symm | exact ((bitD_01 (s := mi 116 4) (i := i) (by omega)).resolve_right (fun q => c16 (by rw [hx]; exact q)) |> fun q => by rw [hx]; exact q.symm)
  · refine R_if_ne (tgt := 10) dX9_call_5 (by decide) (fun q => absurd q (by decide)) (fun _ => ?_)
    refine R_iconst (v := -1) dX9_call_8 (by decide) ?_
    refine R_ireturn dX9_call_9 ⟨_, rfl, rfl⟩ ?_
    have eA : callA w x z = (-1, w) := by unfold callA; rw [if_neg (by rw [w2]; exact c2)]
    rw [eA] at h
    exact h mi ml (LO.refl _ _) hr

theorem MB.shut {mi : Nat → Nat → Int32} {cl : CL} {w : WD} {x z : Int32} (hB : MB mi cl w) : MB (rn_u mi 116 3 (if z = 0 then clrB (mi 116 3) x else setB (mi 116 3) x)) cl (shutW x z w) := by
  obtain ⟨v, hv⟩ : ∃ v, v = (if z = 0 then clrB (mi 116 3) x else setB (mi 116 3) x) := ⟨_, rfl⟩
  rw [← hv]
  have ef : ∀ f, f ≠ 3 → rn_u mi 116 3 v 116 f = mi 116 f := fun f hf => by simp [rn_u, hf]
  have ea : ∀ a, a ≠ 116 → rn_u mi 116 3 v a = mi a := fun a a1 => rn_u_ne a1
  refine hB.of ?_ (ef 17 (by decide)) (fun a a1 a2 => ea a (by omega)) (fun j j1 j2 => by rw [ef 1 (by decide)] at j1; rw [ef 5 (by decide)]; exact hB.2.2.1 j j1 j2) (fun f f1 f2 => ef f (by omega))
  have q := wM_upS (m := mi) (M := rn_u mi 116 3 v) (cl := cl) (s := fun j => if j = 1 then v else sM mi cl j) ea (ef 0 (by decide)) (ef 1 (by decide)) (ef 8 (by decide)) (ef 4 (by decide)) (ef 5 (by decide)) (fun j => sM_up (Or.inl ⟨rfl, rfl⟩) j)
  rw [q]
  show _ = upS w 1 _
  rw [hB.cells.2.1, ← hv, ← hB.2.1]
  rfl

set_option maxHeartbeats 4000000 in
theorem MC_shut {G : rn_G} {d : Nat} {κ : Nat × Nat} {Q : Option Value → rn_S → Prop} {mi : Nat → Nat → Int32} {ml : Nat → Nat → Int64} {D : Nat → Nat} {x z : Int32} {w : WD} {c k : Nat} {ds : Nat → CL} {sl : SL} {el bl : EL} {im : IM} {T : Nat → Nat} {L : Nat} {ac : List Int32} {tp : TP} (hv : IV w c k ds sl el bl im ac tp) (hr : MR w c k ds sl el bl im T L ac tp mi ml) (h : ∀ m l, LO mi m ml l → MR (shutA w x z).2 c k ds sl el bl im T L ac tp m l → Q (some (.int (shutA w x z).1)) (m, l, RF D, 164))  : Call G (d + 2) M_X9_shut [.ref 116, .int x, .int z] (mi, ml, RF D, 164) κ Q := by
  show Run G _ M_X9_shut 0 [.ref 116, .int x, .int z, .null] [] _ _ _
  have hB := hr.1
  have hw := hv.1.1
  have hk6 := hv.2.2.1
  obtain ⟨N, P, R, ⟨hN, hP, hR, hg, hpp, hrr, hdn, hmn, hkp, hwt, hgp, htr⟩, hpc, hbits, hPJ⟩ := hB.n hw
  obtain ⟨w0, w1, w2, w3, w4, w5, w6, w10⟩ := hB.cells
  refine al_0 dX9_shut_0 ?_
  refine il_1 dX9_shut_1 ?_
  refine cv_1 dX9_shut_2 mm_RX9_316 sh_116 (Nat.le_of_ble_eq_true rfl) ⟨_, rfl, rfl⟩ (Nat.le_of_ble_eq_true rfl) (Nat.le_of_ble_eq_true rfl) (M_isGate (fun c2 => ?_) (fun c2 => ?_) ⟨N, hN, hg⟩)
  · refine R_if_ne (tgt := 10) dX9_shut_5 (by decide) (fun _ => ?_) (fun q => absurd q (by decide))
    obtain ⟨gg, hgN, hx⟩ := sm_of c2.1 (by rw [← hg]; exact c2.2) (by omega)
    have cg : 0 ≤ x ∧ x < w.1 0 := by rw [w0]; exact c2
    refine al_0 dX9_shut_10 ?_
    refine al_0 dX9_shut_11 ?_
    refine R_getfi dX9_shut_12 fl_RX9_19 rfl sh_116 (Nat.le_of_ble_eq_true rfl) ?_
    refine il_1 dX9_shut_15 ?_
    refine cv_2 dX9_shut_16 mm_RX9_312 sh_116 (Nat.le_of_ble_eq_true rfl) ⟨_, rfl, rfl⟩ (Nat.le_of_ble_eq_true rfl) (Nat.le_of_ble_eq_true rfl) (M_has (fun c16 => ?_) (fun c16 => ?_))
    · refine R_if_eq (tgt := 26) dX9_shut_19 (by decide) (fun q => absurd q (by decide)) (fun _ => ?_)
      refine R_iconst (v := 1) dX9_shut_22 (by decide) ?_
      refine R_goto (tgt := 27) dX9_shut_23 (by decide) ?_
      refine is_3 dX9_shut_27 rfl ?_
      refine al_0 dX9_shut_28 ?_
      refine al_0 dX9_shut_29 ?_
      refine al_0 dX9_shut_30 ?_
      refine R_getfi dX9_shut_31 fl_RX9_19 rfl sh_116 (Nat.le_of_ble_eq_true rfl) ?_
      refine il_1 dX9_shut_34 ?_
      refine il_2 dX9_shut_35 ?_
      refine cv_3 dX9_shut_36 mm_RX9_301 sh_116 (Nat.le_of_ble_eq_true rfl) ⟨_, rfl, rfl⟩ (Nat.le_of_ble_eq_true rfl) (Nat.le_of_ble_eq_true rfl) (M_with0 ?_)
      refine R_putfi dX9_shut_39 fl_RX9_19 rfl (Or.inl rfl) sh_116 (Nat.le_of_ble_eq_true rfl) rfl rfl ?_
      refine il_3 dX9_shut_42 ?_
      refine R_ireturn dX9_shut_43 ⟨_, rfl, rfl⟩ ?_
      have eA : shutA w x z = (bitD (w.1 1) x, shutW x z w) := by unfold shutA; rw [if_pos cg]
      rw [eA] at h
      refine ret_eq (h (rn_u mi 116 3 (if z = 0 then clrB (mi 116 3) x else setB (mi 116 3) x)) ml (lo_of (fun a ha => by rw [rn_u_ne (by omega)])) (hr.w hB.shut (fun f f1 _ => by simp only [rn_u, true_and]; rw [if_neg (by omega)]) (fun a a1 _ => by rw [rn_u_ne (by omega)]))) rfl ?_
      rw [w1]
      first | exact c16.symm | exact ((bitD_01 (s := mi 116 3) (i := gg) (by omega)).resolve_right (fun q => c16 (by rw [hx]; exact q)) |> fun q => by rw [hx]; exact q.symm)
    · refine R_if_eq (tgt := 26) dX9_shut_19 (by decide) (fun _ => ?_) (fun q => absurd q (by decide))
      refine R_iconst (v := 0) dX9_shut_26 (by decide) ?_
      refine is_3 dX9_shut_27 rfl ?_
      refine al_0 dX9_shut_28 ?_
      refine al_0 dX9_shut_29 ?_
      refine al_0 dX9_shut_30 ?_
      refine R_getfi dX9_shut_31 fl_RX9_19 rfl sh_116 (Nat.le_of_ble_eq_true rfl) ?_
      refine il_1 dX9_shut_34 ?_
      refine il_2 dX9_shut_35 ?_
      refine cv_3 dX9_shut_36 mm_RX9_301 sh_116 (Nat.le_of_ble_eq_true rfl) ⟨_, rfl, rfl⟩ (Nat.le_of_ble_eq_true rfl) (Nat.le_of_ble_eq_true rfl) (M_with0 ?_)
      refine R_putfi dX9_shut_39 fl_RX9_19 rfl (Or.inl rfl) sh_116 (Nat.le_of_ble_eq_true rfl) rfl rfl ?_
      refine il_3 dX9_shut_42 ?_
      refine R_ireturn dX9_shut_43 ⟨_, rfl, rfl⟩ ?_
      have eA : shutA w x z = (bitD (w.1 1) x, shutW x z w) := by unfold shutA; rw [if_pos cg]
      rw [eA] at h
      refine ret_eq (h (rn_u mi 116 3 (if z = 0 then clrB (mi 116 3) x else setB (mi 116 3) x)) ml (lo_of (fun a ha => by rw [rn_u_ne (by omega)])) (hr.w hB.shut (fun f f1 _ => by simp only [rn_u, true_and]; rw [if_neg (by omega)]) (fun a a1 _ => by rw [rn_u_ne (by omega)]))) rfl ?_
      rw [w1]
      first | exact c16.symm | exact ((bitD_01 (s := mi 116 3) (i := gg) (by omega)).resolve_right (fun q => c16 (by rw [hx]; exact q)) |> fun q => by rw [hx]; exact q.symm)
  · refine R_if_ne (tgt := 10) dX9_shut_5 (by decide) (fun q => absurd q (by decide)) (fun _ => ?_)
    refine R_iconst (v := -1) dX9_shut_8 (by decide) ?_
    refine R_ireturn dX9_shut_9 ⟨_, rfl, rfl⟩ ?_
    have eA : shutA w x z = (-1, w) := by unfold shutA; rw [if_neg (by rw [w0]; exact c2)]
    rw [eA] at h
    exact h mi ml (LO.refl _ _) hr

theorem MB.row {mi : Nat → Nat → Int32} {cl : CL} {w : WD} {i P part : Nat} {n : Int32} (hB : MB mi cl w) (hpp : mi 116 1 = nI P) (hP : P ≤ 6) (hiP : i < P) (h4 : part < 4) : MB (rn_u mi 122 (4 * i + part) n) cl (rowW i part n w) := by
  have ea : ∀ a, a ≠ 122 → rn_u mi 122 (4 * i + part) n a = mi a := fun a a1 => rn_u_ne a1
  refine hB.of ?_ (by rw [ea 116 (by decide)]) (fun a a1 a2 => ea a (by omega)) (fun j j1 j2 => by rw [ea 116 (by decide)] at j1 ⊢; exact hB.2.2.1 j j1 j2) (fun f f1 f2 => by rw [ea 116 (by decide)])
  refine wM_P hB.2.1 hpp hP hiP (fun f f4 f5 => by rw [ea 116 (by decide)]) (fun a h => ea a (by omega)) (fun j hj hji => by rw [ea 116 (by decide)]; exact ⟨rfl, rfl⟩) (fun j hj => by rw [ea 120 (by decide), ea 121 (by decide)]; exact ⟨rfl, rfl⟩) (fun j hj => by rw [rn_u_at]; dsimp only; rw [if_neg (by omega)]) (fun f => ?_)
  rw [hB.per hpp hP hiP]
  unfold pM
  rw [ea 116 (by decide), ea 118 (by decide), ea 119 (by decide), ea 120 (by decide), ea 121 (by decide), rn_u_at]
  dsimp only
  by_cases e : f = 6 + part
  · subst e
    rw [if_neg (by omega), if_neg (by omega), if_neg (by omega), if_neg (by omega), if_neg (by omega), if_neg (by omega), if_pos (by omega), if_pos (by omega), if_pos rfl]
  · rw [if_neg e]
    by_cases f6 : f < 6
    · have : f = 0 ∨ f = 1 ∨ f = 2 ∨ f = 3 ∨ f = 4 ∨ f = 5 := by omega
      rcases this with rfl | rfl | rfl | rfl | rfl | rfl <;> rfl
    · rw [if_neg (show ¬ 4 * i + (f - 6) = 4 * i + part by omega)]

set_option maxHeartbeats 4000000 in
theorem MC_row {G : rn_G} {d : Nat} {κ : Nat × Nat} {Q : Option Value → rn_S → Prop} {mi : Nat → Nat → Int32} {ml : Nat → Nat → Int64} {D : Nat → Nat} {x y z : Int32} {w : WD} {c k : Nat} {ds : Nat → CL} {sl : SL} {el bl : EL} {im : IM} {T : Nat → Nat} {L : Nat} {ac : List Int32} {tp : TP} (hv : IV w c k ds sl el bl im ac tp) (hr : MR w c k ds sl el bl im T L ac tp mi ml) (h : ∀ m l, LO mi m ml l → MR (rowA w x y z).2 c k ds sl el bl im T L ac tp m l → Q (some (.int (rowA w x y z).1)) (m, l, RF D, 164))  : Call G (d + 2) M_X9_row [.ref 116, .int x, .int y, .int z] (mi, ml, RF D, 164) κ Q := by
  show Run G _ M_X9_row 0 [.ref 116, .int x, .int y, .int z, .null] [] _ _ _
  have hB := hr.1
  have hw := hv.1.1
  have hk6 := hv.2.2.1
  obtain ⟨N, P, R, ⟨hN, hP, hR, hg, hpp, hrr, hdn, hmn, hkp, hwt, hgp, htr⟩, hpc, hbits, hPJ⟩ := hB.n hw
  obtain ⟨w0, w1, w2, w3, w4, w5, w6, w10⟩ := hB.cells
  refine al_0 dX9_row_0 ?_
  refine il_1 dX9_row_1 ?_
  refine cv_1 dX9_row_2 mm_RX9_305 sh_116 (Nat.le_of_ble_eq_true rfl) ⟨_, rfl, rfl⟩ (Nat.le_of_ble_eq_true rfl) (Nat.le_of_ble_eq_true rfl) (M_isPerson (fun c2 => ?_) (fun c2 => ?_) ⟨P, hP, hpp⟩)
  · refine R_if_eq (tgt := 18) dX9_row_5 (by decide) (fun q => absurd q (by decide)) (fun _ => ?_)
    refine al_0 dX9_row_8 ?_
    refine il_2 dX9_row_9 ?_
    refine R_iconst (v := 0) dX9_row_10 (by decide) ?_
    refine R_iconst (v := 3) dX9_row_11 (by decide) ?_
    refine cv_3 dX9_row_12 mm_RX9_293 sh_116 (Nat.le_of_ble_eq_true rfl) ⟨_, rfl, rfl⟩ (Nat.le_of_ble_eq_true rfl) (Nat.le_of_ble_eq_true rfl) (M_in (fun c12 => ?_) (fun c12 => ?_))
    · refine R_if_ne (tgt := 20) dX9_row_15 (by decide) (fun _ => ?_) (fun q => absurd q (by decide))
      obtain ⟨i, hiP, hx⟩ := sm_of c2.1 (by rw [← hpp]; exact c2.2) (by omega)
      have hi6 : i < 6 := by omega
      have hnx : nn x = i := by rw [hx]; exact nnI (by omega)
      have hPi : w.2.2.2 i = pM mi i := hB.per hpp hP hiP
      have cp : 0 ≤ x ∧ x < w.1 2 := by rw [w2]; exact c2
      obtain ⟨pt, hpt, hy⟩ := sm_of c12.1 ((lt_succ_iff (a := 3)).mpr c12.2) (by decide)
      have hny : nn y = pt := by rw [hy]; exact nnI (by omega)
      have exy : (4 : Int32) * x + y = nI (4 * i + pt) := by rw [hx, hy]; exact (congrArg (· + nI pt) (sm_mul 4 i)).trans (sm_add _ _)
      refine al_0 dX9_row_20 ?_
      refine il_3 dX9_row_21 ?_
      refine R_iconst (v := 0) dX9_row_22 (by decide) ?_
      refine R_bipush (v := 9) dX9_row_23 (by decide) ?_
      refine cv_3 dX9_row_25 mm_RX9_293 sh_116 (Nat.le_of_ble_eq_true rfl) ⟨_, rfl, rfl⟩ (Nat.le_of_ble_eq_true rfl) (Nat.le_of_ble_eq_true rfl) (M_in (fun c25 => ?_) (fun c25 => ?_))
      · refine R_if_ne (tgt := 34) dX9_row_28 (by decide) (fun _ => ?_) (fun q => absurd q (by decide))
        refine al_0 dX9_row_34 ?_
        refine R_getfr (r := 118) dX9_row_35 fl_RX9_41 rfl sh_116 (Nat.le_of_ble_eq_true rfl) rf_116_10 ?_
        refine il_1 dX9_row_38 ?_
        refine R_iald dX9_row_39 sh_118 (Nat.le_of_ble_eq_true rfl) (rn_ixe hx) hi6 ?_
        refine R_bipush (v := 6) dX9_row_40 (by decide) ?_
        refine R_icmp_eq (tgt := 48) dX9_row_42 (by decide) (fun c42 => ?_) (fun c42 => ?_)
        · refine al_0 dX9_row_48 ?_
          refine R_getfr (r := 122) dX9_row_49 fl_RX9_53 rfl sh_116 (Nat.le_of_ble_eq_true rfl) rf_116_14 ?_
          refine R_iconst (v := 4) dX9_row_52 (by decide) ?_
          refine il_1 dX9_row_53 ?_
          refine R_imul dX9_row_54 ?_
          refine il_2 dX9_row_55 ?_
          refine R_iadd dX9_row_56 ?_
          refine R_iald dX9_row_57 sh_122 (Nat.le_of_ble_eq_true rfl) (rn_ixe exy) (show 4 * i + pt < 24 by omega) ?_
          refine is_4 dX9_row_58 rfl ?_
          refine al_0 dX9_row_60 ?_
          refine R_getfr (r := 122) dX9_row_61 fl_RX9_53 rfl sh_116 (Nat.le_of_ble_eq_true rfl) rf_116_14 ?_
          refine R_iconst (v := 4) dX9_row_64 (by decide) ?_
          refine il_1 dX9_row_65 ?_
          refine R_imul dX9_row_66 ?_
          refine il_2 dX9_row_67 ?_
          refine R_iadd dX9_row_68 ?_
          refine il_3 dX9_row_69 ?_
          refine R_iast dX9_row_70 sh_122 (Nat.le_of_ble_eq_true rfl) (rn_ixe exy) (show 4 * i + pt < 24 by omega) ?_
          refine il_4 dX9_row_71 ?_
          refine R_ireturn dX9_row_73 ⟨_, rfl, rfl⟩ ?_
          have eA : rowA w x y z = (w.2.2.2 i (6 + pt), rowW i pt z w) := by unfold rowA; rw [if_pos ⟨cp, c12⟩, if_pos c25, if_pos (by rw [hnx, hPi]; exact c42), hnx, hny]
          rw [eA] at h
          refine ret_eq (h (rn_u mi 122 (4 * i + pt) z) ml (lo_of (fun a ha => by rw [rn_u_ne (by omega)])) (hr.w (hB.row hpp hP hiP (by omega)) (fun f f1 _ => by rw [rn_u_ne (by decide)]) (fun a a1 _ => by rw [rn_u_ne (by omega)]))) rfl ?_
          rw [hPi]
          unfold pM
          rw [if_neg (by omega), if_neg (by omega), if_neg (by omega), if_neg (by omega), if_neg (by omega), if_neg (by omega), if_pos (by omega), show 6 + pt - 6 = pt by omega]
        · refine R_bipush (v := -3) dX9_row_45 (by decide) ?_
          refine R_ireturn dX9_row_47 ⟨_, rfl, rfl⟩ ?_
          have eA : rowA w x y z = (-3, w) := by unfold rowA; rw [if_pos ⟨cp, c12⟩, if_pos c25, if_neg (fun q => c42 (by rw [hnx, hPi] at q; exact q))]
          rw [eA] at h
          exact h mi ml (LO.refl _ _) hr
      · refine R_if_ne (tgt := 34) dX9_row_28 (by decide) (fun q => absurd q (by decide)) (fun _ => ?_)
        refine R_bipush (v := -2) dX9_row_31 (by decide) ?_
        refine R_ireturn dX9_row_33 ⟨_, rfl, rfl⟩ ?_
        have eA : rowA w x y z = (-2, w) := by unfold rowA; rw [if_pos ⟨cp, c12⟩, if_neg c25]
        rw [eA] at h
        exact h mi ml (LO.refl _ _) hr
    · refine R_if_ne (tgt := 20) dX9_row_15 (by decide) (fun q => absurd q (by decide)) (fun _ => ?_)
      refine R_iconst (v := -1) dX9_row_18 (by decide) ?_
      refine R_ireturn dX9_row_19 ⟨_, rfl, rfl⟩ ?_
      have eA : rowA w x y z = (-1, w) := by unfold rowA; rw [if_neg (fun q => by first | exact c2 (by rw [← w2]; exact q.1) | exact c12 q.2)]
      rw [eA] at h
      exact h mi ml (LO.refl _ _) hr
  · refine R_if_eq (tgt := 18) dX9_row_5 (by decide) (fun _ => ?_) (fun q => absurd q (by decide))
    refine R_iconst (v := -1) dX9_row_18 (by decide) ?_
    refine R_ireturn dX9_row_19 ⟨_, rfl, rfl⟩ ?_
    have eA : rowA w x y z = (-1, w) := by unfold rowA; rw [if_neg (fun q => by first | exact c2 (by rw [← w2]; exact q.1) | exact c12 q.2)]
    rw [eA] at h
    exact h mi ml (LO.refl _ _) hr

set_option maxHeartbeats 4000000 in
theorem MC_round {G : rn_G} {d : Nat} {κ : Nat × Nat} {Q : Option Value → rn_S → Prop} {mi : Nat → Nat → Int32} {ml : Nat → Nat → Int64} {D : Nat → Nat} {x : Int32} {w : WD} {c k : Nat} {ds : Nat → CL} {sl : SL} {el bl : EL} {im : IM} {T : Nat → Nat} {L : Nat} {ac : List Int32} {tp : TP} (hv : IV w c k ds sl el bl im ac tp) (hr : MR w c k ds sl el bl im T L ac tp mi ml) (h : ∀ m l, LO mi m ml l → MR (roundA w x).2 c k ds sl el bl im T L ac tp m l → Q (some (.int (roundA w x).1)) (m, l, RF D, 164))  : Call G (d + 2) M_X9_round [.ref 116, .int x] (mi, ml, RF D, 164) κ Q := by
  show Run G _ M_X9_round 0 [.ref 116, .int x] [] _ _ _
  have hB := hr.1
  have hw := hv.1.1
  have hk6 := hv.2.2.1
  obtain ⟨N, P, R, ⟨hN, hP, hR, hg, hpp, hrr, hdn, hmn, hkp, hwt, hgp, htr⟩, hpc, hbits, hPJ⟩ := hB.n hw
  obtain ⟨w0, w1, w2, w3, w4, w5, w6, w10⟩ := hB.cells
  refine il_1 dX9_round_0 ?_
  refine R_iconst (v := -1) dX9_round_1 (by decide) ?_
  refine R_icmp_ne (tgt := 22) dX9_round_2 (by decide) (fun c2 => ?_) (fun c2 => ?_)
  · refine al_0 dX9_round_22 ?_
    refine il_1 dX9_round_23 ?_
    refine cv_1 dX9_round_24 mm_RX9_316 sh_116 (Nat.le_of_ble_eq_true rfl) ⟨_, rfl, rfl⟩ (Nat.le_of_ble_eq_true rfl) (Nat.le_of_ble_eq_true rfl) (M_isGate (fun c24 => ?_) (fun c24 => ?_) ⟨N, hN, hg⟩)
    · refine R_if_ne (tgt := 32) dX9_round_27 (by decide) (fun _ => ?_) (fun q => absurd q (by decide))
      obtain ⟨gg, hgN, hx⟩ := sm_of c24.1 (by rw [← hg]; exact c24.2) (by omega)
      have cg : 0 ≤ x ∧ x < w.1 0 := by rw [w0]; exact c24
      refine al_0 dX9_round_32 ?_
      refine R_getfi dX9_round_33 fl_RX9_34 rfl sh_116 (Nat.le_of_ble_eq_true rfl) ?_
      refine R_bipush (v := 6) dX9_round_36 (by decide) ?_
      refine R_icmp_ne (tgt := 44) dX9_round_38 (by decide) (fun c38 => ?_) (fun c38 => ?_)
      · have hR6 : R < 6 := cntI hrr c38 hR
        refine al_0 dX9_round_44 ?_
        refine R_getfr (r := 123) dX9_round_45 fl_RX9_56 rfl sh_116 (Nat.le_of_ble_eq_true rfl) rf_116_15 ?_
        refine al_0 dX9_round_48 ?_
        refine R_getfi dX9_round_49 fl_RX9_34 rfl sh_116 (Nat.le_of_ble_eq_true rfl) ?_
        refine il_1 dX9_round_52 ?_
        refine R_iast dX9_round_53 sh_123 (Nat.le_of_ble_eq_true rfl) (rn_ixe hrr) hR6 ?_
        refine al_0 dX9_round_54 ?_
        refine R_dup dX9_round_55 rfl ?_
        refine R_getfi dX9_round_56 fl_RX9_34 rfl sh_116 (Nat.le_of_ble_eq_true rfl) ?_
        refine R_iconst (v := 1) dX9_round_59 (by decide) ?_
        refine R_iadd dX9_round_60 ?_
        refine R_putfi dX9_round_61 fl_RX9_34 rfl (Or.inl rfl) sh_116 (Nat.le_of_ble_eq_true rfl) rfl rfl ?_
        refine al_0 dX9_round_64 ?_
        refine R_getfi dX9_round_65 fl_RX9_34 rfl sh_116 (Nat.le_of_ble_eq_true rfl) ?_
        refine R_ireturn dX9_round_68 ⟨_, rfl, rfl⟩ ?_
        have eA : roundA w x = (w.1 4 + 1, roundW x w) := by unfold roundA; rw [if_neg c2, if_pos cg, if_neg (fun q => c38 (w4.symm.trans q))]
        rw [eA] at h
        have eb : ∀ f, (rn_u (rn_u mi 123 R x) 116 8 (mi 116 8 + 1)) 116 f = if f = 8 then nI R + 1 else mi 116 f := fun f => by rw [hrr]; simp [rn_u]
        have ea : ∀ a, a ≠ 116 → a ≠ 123 → (rn_u (rn_u mi 123 R x) 116 8 (mi 116 8 + 1)) a = mi a := fun a a1 a2 => by rw [rn_u_ne a1, rn_u_ne a2]
        have hwm := wM_round (M := (rn_u (rn_u mi 123 R x) 116 8 (mi 116 8 + 1))) (cl := cuL ds c) (g := x) hrr hR6 eb (fun f => by simp [rn_u]) ea
        rw [hB.2.1] at hwm
        refine ret_eq (h (rn_u (rn_u mi 123 R x) 116 8 (mi 116 8 + 1)) ml (lo_of (fun a ha => ea a (by omega) (by omega))) (hr.w (hB.of hwm (by rw [eb]; rfl) (fun a a1 a2 => ea a (by omega) (by omega)) (fun i i1 i2 => by rw [eb] at i1; rw [eb]; exact hB.2.2.1 i i1 i2) (fun f f1 f2 => by rw [eb, if_neg (by omega)])) (fun f f1 f2 => by rw [eb, if_neg (by omega)]) (fun a a1 _ => ea a (by omega) (by omega)))) rfl ?_
        rw [w4]
        rfl
      · refine R_bipush (v := -4) dX9_round_41 (by decide) ?_
        refine R_ireturn dX9_round_43 ⟨_, rfl, rfl⟩ ?_
        have eA : roundA w x = (-4, w) := by unfold roundA; rw [if_neg c2, if_pos cg, if_pos (w4.trans c38)]
        rw [eA] at h
        exact h mi ml (LO.refl _ _) hr
    · refine R_if_ne (tgt := 32) dX9_round_27 (by decide) (fun q => absurd q (by decide)) (fun _ => ?_)
      refine R_iconst (v := -1) dX9_round_30 (by decide) ?_
      refine R_ireturn dX9_round_31 ⟨_, rfl, rfl⟩ ?_
      have eA : roundA w x = (-1, w) := by unfold roundA; rw [if_neg c2, if_neg (by rw [w0]; exact c24)]
      rw [eA] at h
      exact h mi ml (LO.refl _ _) hr
  · refine al_0 dX9_round_5 ?_
    refine R_iconst (v := 0) dX9_round_6 (by decide) ?_
    refine R_putfi dX9_round_7 fl_RX9_34 rfl (Or.inl rfl) sh_116 (Nat.le_of_ble_eq_true rfl) rfl rfl ?_
    refine al_0 dX9_round_10 ?_
    refine R_iconst (v := 0) dX9_round_11 (by decide) ?_
    refine R_putfi dX9_round_12 fl_RX9_31 rfl (Or.inl rfl) sh_116 (Nat.le_of_ble_eq_true rfl) rfl rfl ?_
    refine al_0 dX9_round_15 ?_
    refine R_iconst (v := 0) dX9_round_16 (by decide) ?_
    refine R_putfi dX9_round_17 fl_RX9_28 rfl (Or.inl rfl) sh_116 (Nat.le_of_ble_eq_true rfl) rfl rfl ?_
    refine R_iconst (v := 0) dX9_round_20 (by decide) ?_
    refine R_ireturn dX9_round_21 ⟨_, rfl, rfl⟩ ?_
    have eA : roundA w x = (0, endW w) := by unfold roundA; rw [if_pos c2]
    rw [eA] at h
    have eb : ∀ f, (rn_u (rn_u (rn_u mi 116 8 0) 116 7 0) 116 6 0) 116 f = if f = 6 then 0 else if f = 7 then 0 else if f = 8 then 0 else mi 116 f := fun f => by simp [rn_u]
    have ea : ∀ a, a ≠ 116 → (rn_u (rn_u (rn_u mi 116 8 0) 116 7 0) 116 6 0) a = mi a := fun a a1 => by rw [rn_u_ne a1, rn_u_ne a1, rn_u_ne a1]
    have hwm := wM_end (M := (rn_u (rn_u (rn_u mi 116 8 0) 116 7 0) 116 6 0)) (cl := cuL ds c) eb ea
    rw [hB.2.1] at hwm
    refine ret_eq (h (rn_u (rn_u (rn_u mi 116 8 0) 116 7 0) 116 6 0) ml (lo_of (fun a ha => ea a (by omega))) (hr.w (hB.of hwm (by rw [eb]; rfl) (fun a a1 a2 => ea a (by omega)) (fun i i1 i2 => by rw [eb] at i1; rw [eb]; exact hB.2.2.1 i i1 i2) (fun f f1 f2 => by rw [eb, if_neg (by omega), if_neg (by omega), if_neg (by omega)])) (fun f f1 f2 => by rw [eb, if_neg (by omega), if_neg (by omega), if_neg (by omega)]) (fun a a1 _ => ea a (by omega)))) rfl rfl
