/-! the class: rows told by hand, texts, what is looked up -/
theorem CIm.fr2 {mi mi' : Nat → Nat → Int32} {D D' : Nat → Nat} {k : Nat} {im : IM} (h : CIm mi D im) (hv : IIV k im) (hD : D' 53 = D 53) (h7 : mi' 7 = mi 7) (g : ∀ a, 52 ≤ a → a < 84 → mi' a = mi a) (g2 : ∀ j, j < k → mi' (92 + 2 * j) = mi (92 + 2 * j)) : CIm mi' D' im := by
  cases im with
  | none =>
    show mi' 52 4 = 0
    rw [g 52 (by omega) (by omega)]
    exact h
  | some q =>
    obtain ⟨a1, a2, a3, a4, a5⟩ := h
    obtain ⟨v1, v2⟩ := hv
    refine ⟨by rw [g 52 (by omega) (by omega)]; exact a1, a2.fr v1.1 hD ?_ (fun a b1 b2 _ _ _ => g a (by omega) (by omega)), a3.fr (fun x x1 x2 => g x (by omega) (by omega)), a4.fr (fun x x1 x2 => g x (by omega) (by omega)), a5.fr (fun x x1 x2 => g x (by omega) (by omega))⟩
    unfold cuA
    split
    · exact h7
    · rw [show 90 + 2 * q.1 = 92 + 2 * (q.1 - 1) by omega]; exact g2 _ (by omega)
theorem CR.rows {w : WD} {c k : Nat} {ds : Nat → CL} {sl sl' : SL} {el el' bl bl' : EL} {im : IM} {T : Nat → Nat} {L : Nat} {ac : List Int32} {tp : TP} {mi mi' : Nat → Nat → Int32} {ml : Nat → Nat → Int64} {D : Nat → Nat} (h : CR w c k ds sl el bl im T L ac tp mi ml D) (hv : IV w c k ds sl el bl im ac tp) (hs : SLC mi' 40 sl') (he : ELC mi' 44 el') (hb : BLC mi' 48 bl') (g : ∀ a, (a < 40 ∨ 52 ≤ a) → mi' a = mi a) : CR w c k ds sl' el' bl' im T L ac tp mi' ml D := by
  obtain ⟨a1, a2, a3, a4, a5, a6, a7, a8, a9, a10⟩ := h
  obtain ⟨v1, v2, v3, v4, v5, v6⟩ := hv
  have cp := cuA_pd (c := c) (by omega)
  exact ⟨a1.fr v1.1 rfl (g _ (by omega)) (fun a _ _ _ _ _ => g a (by omega)), a2.fr v3 (g 1 (by omega)) (g 7 (by omega)) (g 8 (by omega)) (fun a _ _ => g a (by omega)), hs, he, hb, a6.fr v4 v3 rfl (g 7 (by omega)) (fun a _ _ => g a (by omega)) (fun a _ _ => g a (by omega)), a7.fr (by rw [g 84 (by omega)]) (g 85 (by omega)), a8.fr (g 89 (by omega)) (g 90 (by omega)), a9.fr (fun a _ _ => ⟨g a (by omega), rfl⟩), a10⟩
theorem CR.txt {w : WD} {c k : Nat} {ds : Nat → CL} {sl : SL} {el bl : EL} {im : IM} {T T' : Nat → Nat} {L L' : Nat} {ac : List Int32} {tp : TP} {mi mi' : Nat → Nat → Int32} {ml : Nat → Nat → Int64} {D D' : Nat → Nat} (h : CR w c k ds sl el bl im T L ac tp mi ml D) (hv : IV w c k ds sl el bl im ac tp) (ht : TXC T' L' mi') (hD : D' 2 = D 2 ∧ D' 21 = D 21 ∧ D' 53 = D 53 ∧ PD (D' 84)) (g : ∀ a, a ≠ 84 → a ≠ 85 → (k < 6 → a ≠ 92 + 2 * k ∧ a ≠ 93 + 2 * k) → mi' a = mi a) : CR w c k ds sl el bl im T' L' ac tp mi' ml D' := by
  obtain ⟨a1, a2, a3, a4, a5, a6, a7, a8, a9, a10, a11, a12⟩ := h
  obtain ⟨v1, v2, v3, v4, v5, v6⟩ := hv
  have cp := cuA_pd (c := c) (by omega)
  have hcA : cuA c ≠ 92 + 2 * k ∧ cuA c ≠ 93 + 2 * k := by unfold cuA; split <;> omega
  have e : ∀ a, a < 84 → mi' a = mi a := fun a h => g a (by omega) (by omega) (fun _ => ⟨by omega, by omega⟩)
  obtain ⟨b1, b2, b3⟩ := a2
  exact ⟨a1.fr v1.1 hD.1 (g _ (by omega) (by omega) (fun _ => hcA)) (fun a _ _ _ _ _ => e a (by omega)), ⟨by rw [e 1 (by omega)]; exact b1, b2.fr (e 7 (by omega)) (e 8 (by omega)), fun j hj => (b3 j hj).fr (g _ (by omega) (by omega) (fun _ => ⟨by omega, by omega⟩)) (g _ (by omega) (by omega) (fun _ => ⟨by omega, by omega⟩))⟩, a3.fr (fun x _ _ => e x (by omega)), a4.fr (fun x _ _ => e x (by omega)), a5.fr (fun x _ _ => e x (by omega)), a6.fr2 v4 hD.2.2.1 (e 7 (by omega)) (fun a _ _ => e a (by omega)) (fun j hj => g _ (by omega) (by omega) (fun _ => ⟨by omega, by omega⟩)), ht, a8.fr (g 89 (by omega) (by omega) (fun _ => ⟨by omega, by omega⟩)) (g 90 (by omega) (by omega) (fun _ => ⟨by omega, by omega⟩)), a9.fr (fun a _ _ => ⟨g a (by omega) (by omega) (fun hk => ⟨by omega, by omega⟩), rfl⟩), by rw [hD.2.1]; exact a10, by rw [hD.2.2.1]; exact a11, hD.2.2.2⟩

set_option maxHeartbeats 4000000 in
theorem K_isFull {G : rn_G} {d : Nat} {κ : Nat × Nat} {Q : Option Value → rn_S → Prop} {mi : Nat → Nat → Int32} {ml : Nat → Nat → Int64} {D : Nat → Nat} {L r n : Nat} (hR : PR L r) (hs : mi r 3 = nI n) (hn : n ≤ L) (hL : L ≤ 10) (h1 : n = L → Q (some (.int 1)) (mi, ml, RF D, 164)) (h0 : n < L → Q (some (.int 0)) (mi, ml, RF D, 164)) : Call G (d) M_X6_isFull [.ref r] (mi, ml, RF D, 164) κ Q := by
  show Run G _ M_X6_isFull 0 [.ref r] [] _ _ _
  refine al_0 dX6_isFull_0 ?_
  refine R_getfi dX6_isFull_1 fl_RX6_19 rfl (pr_s0 hR) (show r < 164 by have := pr_n hR; omega) ?_
  refine al_0 dX6_isFull_4 ?_
  refine R_getfr (r := r + 1) dX6_isFull_5 fl_RX6_7 rfl (pr_s0 hR) (show r < 164 by have := pr_n hR; omega) (pr_r0 hR) ?_
  refine R_al dX6_isFull_8 0 (by decide) (pr_s1 hR) (show r + 1 < 164 by have := pr_n hR; omega) rfl ?_
  refine R_icmp_lt (tgt := 16) dX6_isFull_9 (by decide) (fun c9 => ?_) (fun c9 => ?_)
  · refine R_iconst (v := 0) dX6_isFull_16 (by decide) ?_
    refine R_ireturn dX6_isFull_17 ⟨_, rfl, rfl⟩ ?_
    have e : Int32.ofNat L = nI L := rfl
    exact h0 ((sm_lt_iff (a := n) (b := L) (by omega) (by omega)).mp (by rw [← hs]; first | exact c9 | exact Int32.not_le.mp c9))
  · refine R_iconst (v := 1) dX6_isFull_12 (by decide) ?_
    refine R_goto (tgt := 17) dX6_isFull_13 (by decide) ?_
    refine R_ireturn dX6_isFull_17 ⟨_, rfl, rfl⟩ ?_
    have e : Int32.ofNat L = nI L := rfl
    exact h1 (by have := (sm_le_iff (a := L) (b := n) (by omega) (by omega)).mp (by rw [← hs]; first | exact c9 | exact Int32.not_lt.mp c9); omega)

set_option maxHeartbeats 4000000 in
theorem K_addRow {G : rn_G} {d : Nat} {κ : Nat × Nat} {Q : Option Value → rn_S → Prop} {mi : Nat → Nat → Int32} {ml : Nat → Nat → Int64} {D : Nat → Nat} {L r n : Nat} {x y z : Int32} (hR : PR L r) (hs : mi r 3 = nI n) (hn : n < L) (hL : L ≤ 10) (h : Q (some (.int (nI (n + 1)))) ((rn_u (rn_u (rn_u (rn_u mi (r + 1) n x) (r + 2) n y) (r + 3) n z) r 3 (nI n + 1)), ml, RF D, 164)) : Call G (d) M_X6_addRow [.ref r, .int x, .int y, .int z] (mi, ml, RF D, 164) κ Q := by
  show Run G _ M_X6_addRow 0 [.ref r, .int x, .int y, .int z] [] _ _ _
  refine al_0 dX6_addRow_0 ?_
  refine R_getfr (r := r + 1) dX6_addRow_1 fl_RX6_7 rfl (pr_s0 hR) (show r < 164 by have := pr_n hR; omega) (pr_r0 hR) ?_
  refine al_0 dX6_addRow_4 ?_
  refine R_getfi dX6_addRow_5 fl_RX6_19 rfl (pr_s0 hR) (show r < 164 by have := pr_n hR; omega) ?_
  refine il_1 dX6_addRow_8 ?_
  refine R_iast dX6_addRow_9 (pr_s1 hR) (show r + 1 < 164 by have := pr_n hR; omega) (rn_ixe hs) hn ?_
  refine al_0 dX6_addRow_10 ?_
  refine R_getfr (r := r + 2) dX6_addRow_11 fl_RX6_13 rfl (pr_s0 hR) (show r < 164 by have := pr_n hR; omega) (pr_r1 hR) ?_
  refine al_0 dX6_addRow_14 ?_
  refine R_getfi dX6_addRow_15 fl_RX6_19 rfl (pr_s0 hR) (show r < 164 by have := pr_n hR; omega) ?_
  refine il_2 dX6_addRow_18 ?_
  refine R_iast dX6_addRow_19 (pr_s2 hR) (show r + 2 < 164 by have := pr_n hR; omega) (rn_ixe (by rw [rn_u_ne (show r ≠ r + 1 by omega)]; exact hs)) hn ?_
  refine al_0 dX6_addRow_20 ?_
  refine R_getfr (r := r + 3) dX6_addRow_21 fl_RX6_16 rfl (pr_s0 hR) (show r < 164 by have := pr_n hR; omega) (pr_r2 hR) ?_
  refine al_0 dX6_addRow_24 ?_
  refine R_getfi dX6_addRow_25 fl_RX6_19 rfl (pr_s0 hR) (show r < 164 by have := pr_n hR; omega) ?_
  refine il_3 dX6_addRow_28 ?_
  refine R_iast dX6_addRow_29 (pr_s3 hR) (show r + 3 < 164 by have := pr_n hR; omega) (rn_ixe (by rw [rn_u_ne (show r ≠ r + 2 by omega), rn_u_ne (show r ≠ r + 1 by omega)]; exact hs)) hn ?_
  refine al_0 dX6_addRow_30 ?_
  refine R_dup dX6_addRow_31 rfl ?_
  refine R_getfi dX6_addRow_32 fl_RX6_19 rfl (pr_s0 hR) (show r < 164 by have := pr_n hR; omega) ?_
  refine R_iconst (v := 1) dX6_addRow_35 (by decide) ?_
  refine R_iadd dX6_addRow_36 ?_
  refine R_putfi dX6_addRow_37 fl_RX6_19 rfl (Or.inl rfl) (pr_s0 hR) (show r < 164 by have := pr_n hR; omega) rfl rfl ?_
  refine al_0 dX6_addRow_40 ?_
  refine R_getfi dX6_addRow_41 fl_RX6_19 rfl (pr_s0 hR) (show r < 164 by have := pr_n hR; omega) ?_
  refine R_ireturn dX6_addRow_44 ⟨_, rfl, rfl⟩ ?_
  have e3 : rn_u (rn_u (rn_u mi (r + 1) n x) (r + 2) n y) (r + 3) n z r 3 = nI n := by rw [rn_u_ne (show r ≠ r + 3 by omega), rn_u_ne (show r ≠ r + 2 by omega), rn_u_ne (show r ≠ r + 1 by omega)]; exact hs
  rw [e3, rn_u_eq]
  rw [show nI (n + 1) = nI n + 1 from (sm_add n 1).symm] at h
  exact h

set_option maxHeartbeats 4000000 in
theorem KC_see {G : rn_G} {d : Nat} {κ : Nat × Nat} {Q : Option Value → rn_S → Prop} {mi : Nat → Nat → Int32} {ml : Nat → Nat → Int64} {D : Nat → Nat} {x y z : Int32} (hz : bz z) {w : WD} {c k : Nat} {ds : Nat → CL} {sl : SL} {el bl : EL} {im : IM} {T : Nat → Nat} {L : Nat} {ac : List Int32} {tp : TP} (hv : IV w c k ds sl el bl im ac tp) (hc : CR w c k ds sl el bl im T L ac tp mi ml D) (h : ∀ m l D', HI mi m ml l → CR w c k ds (seeA w sl x z y).2 el bl im T L ac tp m l D' → Q (some (.int (seeA w sl x z y).1)) (m, l, RF D', 164))  : Call G (d + 30) M_X8_see [.ref 1, .int x, .int z, .int y] (mi, ml, RF D, 164) κ Q := by
  show Run G _ M_X8_see 0 [.ref 1, .int x, .int z, .int y] [] _ _ _
  have hw := hv.1.1
  have hk6 := hv.2.2.1
  have hck := hv.2.1
  have hB : PB 2 := Or.inl rfl
  obtain ⟨hD2, hwc, z12, z13, z14⟩ := hc.1
  obtain ⟨cp1, cp2, cp3, cp4⟩ := cuA_pd (c := c) (by omega)
  have hkD : PD (D 2) := by rw [hD2]; exact cp1
  obtain ⟨N, P, R, hN, hP, hR, hg, hpp, hrr, hPJ⟩ := hc.1.n hw
  obtain ⟨w0, w1, w2, w3, w4, w5, w6⟩ := hc.1.cells
  have hl := hc.2.2.1
  have hl5 := hv.1.2.1
  refine il_1 dX8_see_0 ?_
  refine R_iconst (v := -1) dX8_see_1 (by decide) ?_
  refine R_icmp_ne (tgt := 15) dX8_see_2 (by decide) (fun c2 => ?_) (fun c2 => ?_)
  · refine al_0 dX8_see_15 ?_
    refine R_getfr (r := 2) dX8_see_16 fl_RX8_12 rfl sh_1 (Nat.le_of_ble_eq_true rfl) rf_1_0 ?_
    refine il_1 dX8_see_19 ?_
    refine cv_1 dX8_see_20 mm_RX8_93 sh_2 (Nat.le_of_ble_eq_true rfl) ⟨_, rfl, rfl⟩ (Nat.le_of_ble_eq_true rfl) (Nat.le_of_ble_eq_true rfl) (K_hasPerson hB (fun c20 => ?_) (fun c20 => ?_))
    · refine R_if_ne (tgt := 28) dX8_see_23 (by decide) (fun _ => ?_) (fun q => absurd q (by decide))
      obtain ⟨i, hiP, hx⟩ := sm_of c20.1 (by rw [← hpp]; exact c20.2) (by omega)
      have hi6 : i < 6 := by omega
      have hnx : nn x = i := by rw [hx]; exact nnI (by omega)
      have hPi : w.2.2.2 i = pC mi (2 + 7 + 2 * i) := hc.1.per hpp hP hiP
      have cp : 0 ≤ x ∧ x < w.1 2 := by rw [w2]; exact c20
      have hpq : PQ (2 + 7 + 2 * i) := pb_q hB hi6
      refine il_3 dX8_see_28 ?_
      refine R_if_lt (tgt := 38) dX8_see_29 (by decide) (fun c29 => ?_) (fun c29 => ?_)
      · refine R_bipush (v := -2) dX8_see_38 (by decide) ?_
        refine R_ireturn dX8_see_40 ⟨_, rfl, rfl⟩ ?_
        have eA : seeA w sl x z y = (-2, sl) := by unfold seeA; rw [if_neg c2, if_pos cp, if_neg (fun q => by first | exact Int32.not_lt.mpr q.1 (by first | exact c29 | exact Int32.not_le.mp c29) | exact Int32.not_lt.mpr q.2 (by first | exact c35 | exact Int32.not_le.mp c35))]
        rw [eA] at h
        exact h mi ml D (HI.refl _ _) hc
      · refine il_3 dX8_see_32 ?_
        refine R_bipush (v := 20) dX8_see_33 (by decide) ?_
        refine R_icmp_le (tgt := 41) dX8_see_35 (by decide) (fun c35 => ?_) (fun c35 => ?_)
        · have cy : 0 ≤ y ∧ y ≤ 20 := ⟨by first | exact c29 | exact Int32.not_lt.mp c29, by first | exact c35 | exact Int32.not_lt.mp c35⟩
          obtain ⟨yy, hyy, hy⟩ := sm_of cy.1 ((lt_succ_iff (a := 20)).mpr cy.2) (by decide)
          have hny : nn y = yy := by rw [hy]; exact nnI (by omega)
          have hzb : (if z = 0 then (0 : Int32) else 1) = z := by rcases hz with e | e <;> rw [e] <;> rfl
          refine al_0 dX8_see_41 ?_
          refine R_getfr (r := 40) dX8_see_42 fl_RX8_26 rfl sh_1 (Nat.le_of_ble_eq_true rfl) rf_1_2 ?_
          refine cv_0 dX8_see_45 mm_RX8_255 sh_40 (Nat.le_of_ble_eq_true rfl) ⟨_, rfl, rfl⟩ (Nat.le_of_ble_eq_true rfl) (Nat.le_of_ble_eq_true rfl) (K_isFull (L := 5) (r := 40) (Or.inl ⟨rfl, Or.inl rfl⟩) hl.1 hl5 (by decide) (fun fu => ?_) (fun fu => ?_))
          · refine R_if_eq (tgt := 56) dX8_see_48 (by decide) (fun q => absurd q (by decide)) (fun _ => ?_)
            refine R_bipush (v := -4) dX8_see_51 (by decide) ?_
            refine R_goto (tgt := 69) dX8_see_53 (by decide) ?_
            refine R_ireturn dX8_see_69 ⟨_, rfl, rfl⟩ ?_
            have eA : seeA w sl x z y = (-4, sl) := by unfold seeA; rw [if_neg c2, if_pos cp, if_pos cy, if_pos fu]
            rw [eA] at h
            exact h mi ml D (HI.refl _ _) hc
          · refine R_if_eq (tgt := 56) dX8_see_48 (by decide) (fun _ => ?_) (fun q => absurd q (by decide))
            refine al_0 dX8_see_56 ?_
            refine R_getfr (r := 40) dX8_see_57 fl_RX8_26 rfl sh_1 (Nat.le_of_ble_eq_true rfl) rf_1_2 ?_
            refine il_1 dX8_see_60 ?_
            refine il_2 dX8_see_61 ?_
            refine cs_1 dX8_see_62 mm_RX8_115 (Nat.le_of_ble_eq_true rfl) (Nat.le_of_ble_eq_true rfl) (K_bit ?_)
            rw [hzb]
            refine il_3 dX8_see_65 ?_
            refine cv_3 dX8_see_66 mm_RX8_259 sh_40 (Nat.le_of_ble_eq_true rfl) ⟨_, rfl, rfl⟩ (Nat.le_of_ble_eq_true rfl) (Nat.le_of_ble_eq_true rfl) (K_addRow (L := 5) (r := 40) (Or.inl ⟨rfl, Or.inl rfl⟩) hl.1 fu (by decide) ?_)
            refine R_ireturn dX8_see_69 ⟨_, rfl, rfl⟩ ?_
            have eA : seeA w sl x z y = (nI (sl.length + 1), sl ++ [(i, yy, decide (¬ z = 0))]) := by unfold seeA; rw [if_neg c2, if_pos cp, if_pos cy, if_neg (show ¬ sl.length = 5 by omega), hnx, hny]
            rw [eA] at h
            have ea : ∀ a, (a < 40 ∨ 43 < a) → (rn_u (rn_u (rn_u (rn_u mi (40 + 1) sl.length x) (40 + 2) sl.length z) (40 + 3) sl.length y) 40 3 (nI sl.length + 1)) a = mi a := fun a ha => by rw [rn_u_ne (by omega), rn_u_ne (by omega), rn_u_ne (by omega), rn_u_ne (by omega)]
            refine h (rn_u (rn_u (rn_u (rn_u mi (40 + 1) sl.length x) (40 + 2) sl.length z) (40 + 3) sl.length y) 40 3 (nI sl.length + 1)) ml D (hi_of (fun a ha => ea a (by omega))) (hc.rows hv ?_ (hc.2.2.2.1.fr (fun x x1 x2 => by rw [rn_u_ne (by omega), rn_u_ne (by omega), rn_u_ne (by omega), rn_u_ne (by omega)])) (hc.2.2.2.2.1.fr (fun x x1 x2 => by rw [rn_u_ne (by omega), rn_u_ne (by omega), rn_u_ne (by omega), rn_u_ne (by omega)])) (fun a ha => ea a (by omega)))
            refine ⟨by rw [List.length_append]; exact rn_u_eq.trans (sm_add _ 1), fun j q hj => ?_⟩
            rcases snoc_get hj with ⟨j1, j2⟩ | ⟨j1, j2⟩
            · obtain ⟨b1, b2, b3⟩ := hl.2 j q j2
              have jn : j ≠ sl.length := by omega
              refine ⟨?_, ?_, ?_⟩
              · rw [← b1]; simp [rn_u, jn]
              · rw [← b2]; simp [rn_u, jn]
              · rw [← b3]; simp [rn_u, jn]
            · subst j1; subst j2
              refine ⟨?_, ?_, ?_⟩
              · dsimp only; rw [← hx]; simp [rn_u]
              · dsimp only; rw [← bz_dec hz]; simp [rn_u]
              · dsimp only; rw [← hy]; simp [rn_u]
        · refine R_bipush (v := -2) dX8_see_38 (by decide) ?_
          refine R_ireturn dX8_see_40 ⟨_, rfl, rfl⟩ ?_
          have eA : seeA w sl x z y = (-2, sl) := by unfold seeA; rw [if_neg c2, if_pos cp, if_neg (fun q => by first | exact Int32.not_lt.mpr q.1 (by first | exact c29 | exact Int32.not_le.mp c29) | exact Int32.not_lt.mpr q.2 (by first | exact c35 | exact Int32.not_le.mp c35))]
          rw [eA] at h
          exact h mi ml D (HI.refl _ _) hc
    · refine R_if_ne (tgt := 28) dX8_see_23 (by decide) (fun q => absurd q (by decide)) (fun _ => ?_)
      refine R_iconst (v := -1) dX8_see_26 (by decide) ?_
      refine R_ireturn dX8_see_27 ⟨_, rfl, rfl⟩ ?_
      have eA : seeA w sl x z y = (-1, sl) := by unfold seeA; rw [if_neg c2, if_neg (by rw [w2]; exact c20)]
      rw [eA] at h
      exact h mi ml D (HI.refl _ _) hc
  · refine al_0 dX8_see_5 ?_
    refine R_getfr (r := 40) dX8_see_6 fl_RX8_26 rfl sh_1 (Nat.le_of_ble_eq_true rfl) rf_1_2 ?_
    refine R_iconst (v := 0) dX8_see_9 (by decide) ?_
    refine R_putfi dX8_see_10 fl_RX8_252 rfl (Or.inl rfl) sh_40 (Nat.le_of_ble_eq_true rfl) rfl rfl ?_
    refine R_iconst (v := 0) dX8_see_13 (by decide) ?_
    refine R_ireturn dX8_see_14 ⟨_, rfl, rfl⟩ ?_
    have eA : seeA w sl x z y = (0, []) := by unfold seeA; rw [if_pos c2]
    rw [eA] at h
    exact h (rn_u mi 40 3 0) ml D (hi_of (fun a ha => rn_u_ne (by omega))) (hc.rows hv ⟨rn_u_eq, fun j q hj => absurd hj (by simp)⟩ (hc.2.2.2.1.fr (fun x _ _ => rn_u_ne (by omega))) (hc.2.2.2.2.1.fr (fun x _ _ => rn_u_ne (by omega))) (fun a ha => rn_u_ne (by omega)))

set_option maxHeartbeats 4000000 in
theorem KC_book {G : rn_G} {d : Nat} {κ : Nat × Nat} {Q : Option Value → rn_S → Prop} {mi : Nat → Nat → Int32} {ml : Nat → Nat → Int64} {D : Nat → Nat} {x y : Int32} {w : WD} {c k : Nat} {ds : Nat → CL} {sl : SL} {el bl : EL} {im : IM} {T : Nat → Nat} {L : Nat} {ac : List Int32} {tp : TP} (hv : IV w c k ds sl el bl im ac tp) (hc : CR w c k ds sl el bl im T L ac tp mi ml D) (h : ∀ m l D', HI mi m ml l → CR w c k ds sl el (bookA w bl x y).2 im T L ac tp m l D' → Q (some (.int (bookA w bl x y).1)) (m, l, RF D', 164))  : Call G (d + 30) M_X8_book [.ref 1, .int x, .int y] (mi, ml, RF D, 164) κ Q := by
  show Run G _ M_X8_book 0 [.ref 1, .int x, .int y] [] _ _ _
  have hw := hv.1.1
  have hk6 := hv.2.2.1
  have hck := hv.2.1
  have hB : PB 2 := Or.inl rfl
  obtain ⟨hD2, hwc, z12, z13, z14⟩ := hc.1
  obtain ⟨cp1, cp2, cp3, cp4⟩ := cuA_pd (c := c) (by omega)
  have hkD : PD (D 2) := by rw [hD2]; exact cp1
  obtain ⟨N, P, R, hN, hP, hR, hg, hpp, hrr, hPJ⟩ := hc.1.n hw
  obtain ⟨w0, w1, w2, w3, w4, w5, w6⟩ := hc.1.cells
  have hl := hc.2.2.2.2.1
  have hl5 := hv.1.2.2.2.2.2.1
  refine il_1 dX8_book_0 ?_
  refine R_iconst (v := -1) dX8_book_1 (by decide) ?_
  refine R_icmp_ne (tgt := 15) dX8_book_2 (by decide) (fun c2 => ?_) (fun c2 => ?_)
  · refine al_0 dX8_book_15 ?_
    refine R_getfr (r := 2) dX8_book_16 fl_RX8_12 rfl sh_1 (Nat.le_of_ble_eq_true rfl) rf_1_0 ?_
    refine il_1 dX8_book_19 ?_
    refine cv_1 dX8_book_20 mm_RX8_93 sh_2 (Nat.le_of_ble_eq_true rfl) ⟨_, rfl, rfl⟩ (Nat.le_of_ble_eq_true rfl) (Nat.le_of_ble_eq_true rfl) (K_hasPerson hB (fun c20 => ?_) (fun c20 => ?_))
    · refine R_if_ne (tgt := 28) dX8_book_23 (by decide) (fun _ => ?_) (fun q => absurd q (by decide))
      obtain ⟨i, hiP, hx⟩ := sm_of c20.1 (by rw [← hpp]; exact c20.2) (by omega)
      have hi6 : i < 6 := by omega
      have hnx : nn x = i := by rw [hx]; exact nnI (by omega)
      have hPi : w.2.2.2 i = pC mi (2 + 7 + 2 * i) := hc.1.per hpp hP hiP
      have cp : 0 ≤ x ∧ x < w.1 2 := by rw [w2]; exact c20
      have hpq : PQ (2 + 7 + 2 * i) := pb_q hB hi6
      refine il_2 dX8_book_28 ?_
      refine cs_1 dX8_book_29 mm_RX8_71 (Nat.le_of_ble_eq_true rfl) (Nat.le_of_ble_eq_true rfl) (K_isPlace (fun c29 => ?_) (fun c29 => ?_))
      · refine R_if_ne (tgt := 38) dX8_book_32 (by decide) (fun _ => ?_) (fun q => absurd q (by decide))
        obtain ⟨yy, hyy, hy⟩ := sm_of (n := 30) c29.1 c29.2 (by decide)
        have hny : nn y = yy := by rw [hy]; exact nnI (by omega)
        refine al_0 dX8_book_38 ?_
        refine R_getfr (r := 48) dX8_book_39 fl_RX8_33 rfl sh_1 (Nat.le_of_ble_eq_true rfl) rf_1_4 ?_
        refine cv_0 dX8_book_42 mm_RX8_255 sh_48 (Nat.le_of_ble_eq_true rfl) ⟨_, rfl, rfl⟩ (Nat.le_of_ble_eq_true rfl) (Nat.le_of_ble_eq_true rfl) (K_isFull (L := 8) (r := 48) (Or.inr (Or.inr ⟨rfl, Or.inl rfl⟩)) hl.1 hl5 (by decide) (fun fu => ?_) (fun fu => ?_))
        · refine R_if_eq (tgt := 53) dX8_book_45 (by decide) (fun q => absurd q (by decide)) (fun _ => ?_)
          refine R_bipush (v := -4) dX8_book_48 (by decide) ?_
          refine R_goto (tgt := 63) dX8_book_50 (by decide) ?_
          refine R_ireturn dX8_book_63 ⟨_, rfl, rfl⟩ ?_
          have eA : bookA w bl x y = (-4, bl) := by unfold bookA; rw [if_neg c2, if_pos cp, if_pos c29, if_pos fu]
          rw [eA] at h
          exact h mi ml D (HI.refl _ _) hc
        · refine R_if_eq (tgt := 53) dX8_book_45 (by decide) (fun _ => ?_) (fun q => absurd q (by decide))
          refine al_0 dX8_book_53 ?_
          refine R_getfr (r := 48) dX8_book_54 fl_RX8_33 rfl sh_1 (Nat.le_of_ble_eq_true rfl) rf_1_4 ?_
          refine il_1 dX8_book_57 ?_
          refine il_2 dX8_book_58 ?_
          refine R_iconst (v := 0) dX8_book_59 (by decide) ?_
          refine cv_3 dX8_book_60 mm_RX8_259 sh_48 (Nat.le_of_ble_eq_true rfl) ⟨_, rfl, rfl⟩ (Nat.le_of_ble_eq_true rfl) (Nat.le_of_ble_eq_true rfl) (K_addRow (L := 8) (r := 48) (Or.inr (Or.inr ⟨rfl, Or.inl rfl⟩)) hl.1 fu (by decide) ?_)
          refine R_ireturn dX8_book_63 ⟨_, rfl, rfl⟩ ?_
          have eA : bookA w bl x y = (nI (bl.length + 1), bl ++ [(i, yy)]) := by unfold bookA; rw [if_neg c2, if_pos cp, if_pos c29, if_neg (show ¬ bl.length = 8 by omega), hnx, hny]
          rw [eA] at h
          have ea : ∀ a, (a < 48 ∨ 51 < a) → (rn_u (rn_u (rn_u (rn_u mi (48 + 1) bl.length x) (48 + 2) bl.length y) (48 + 3) bl.length 0) 48 3 (nI bl.length + 1)) a = mi a := fun a ha => by rw [rn_u_ne (by omega), rn_u_ne (by omega), rn_u_ne (by omega), rn_u_ne (by omega)]
          refine h (rn_u (rn_u (rn_u (rn_u mi (48 + 1) bl.length x) (48 + 2) bl.length y) (48 + 3) bl.length 0) 48 3 (nI bl.length + 1)) ml D (hi_of (fun a ha => ea a (by omega))) (hc.rows hv (hc.2.2.1.fr (fun x x1 x2 => by rw [rn_u_ne (by omega), rn_u_ne (by omega), rn_u_ne (by omega), rn_u_ne (by omega)])) (hc.2.2.2.1.fr (fun x x1 x2 => by rw [rn_u_ne (by omega), rn_u_ne (by omega), rn_u_ne (by omega), rn_u_ne (by omega)])) ?_ (fun a ha => ea a (by omega)))
          refine ⟨by rw [List.length_append]; exact rn_u_eq.trans (sm_add _ 1), fun j q hj => ?_⟩
          rcases snoc_get hj with ⟨j1, j2⟩ | ⟨j1, j2⟩
          · obtain ⟨b1, b2⟩ := hl.2 j q j2
            have jn : j ≠ bl.length := by omega
            refine ⟨?_, ?_⟩
            · rw [← b1]; simp [rn_u, jn]
            · rw [← b2]; simp [rn_u, jn]
          · subst j1; subst j2
            refine ⟨?_, ?_⟩
            · dsimp only; rw [← hx]; simp [rn_u]
            · dsimp only; rw [← hy]; simp [rn_u]
      · refine R_if_ne (tgt := 38) dX8_book_32 (by decide) (fun q => absurd q (by decide)) (fun _ => ?_)
        refine R_bipush (v := -2) dX8_book_35 (by decide) ?_
        refine R_ireturn dX8_book_37 ⟨_, rfl, rfl⟩ ?_
        have eA : bookA w bl x y = (-2, bl) := by unfold bookA; rw [if_neg c2, if_pos cp, if_neg c29]
        rw [eA] at h
        exact h mi ml D (HI.refl _ _) hc
    · refine R_if_ne (tgt := 28) dX8_book_23 (by decide) (fun q => absurd q (by decide)) (fun _ => ?_)
      refine R_iconst (v := -1) dX8_book_26 (by decide) ?_
      refine R_ireturn dX8_book_27 ⟨_, rfl, rfl⟩ ?_
      have eA : bookA w bl x y = (-1, bl) := by unfold bookA; rw [if_neg c2, if_neg (by rw [w2]; exact c20)]
      rw [eA] at h
      exact h mi ml D (HI.refl _ _) hc
  · refine al_0 dX8_book_5 ?_
    refine R_getfr (r := 48) dX8_book_6 fl_RX8_33 rfl sh_1 (Nat.le_of_ble_eq_true rfl) rf_1_4 ?_
    refine R_iconst (v := 0) dX8_book_9 (by decide) ?_
    refine R_putfi dX8_book_10 fl_RX8_252 rfl (Or.inl rfl) sh_48 (Nat.le_of_ble_eq_true rfl) rfl rfl ?_
    refine R_iconst (v := 0) dX8_book_13 (by decide) ?_
    refine R_ireturn dX8_book_14 ⟨_, rfl, rfl⟩ ?_
    have eA : bookA w bl x y = (0, []) := by unfold bookA; rw [if_pos c2]
    rw [eA] at h
    exact h (rn_u mi 48 3 0) ml D (hi_of (fun a ha => rn_u_ne (by omega))) (hc.rows hv (hc.2.2.1.fr (fun x _ _ => rn_u_ne (by omega))) (hc.2.2.2.1.fr (fun x _ _ => rn_u_ne (by omega))) ⟨rn_u_eq, fun j q hj => absurd hj (by simp)⟩ (fun a ha => rn_u_ne (by omega)))

theorem one_two {x : Int32} : (1 ≤ x ∧ x ≤ 2) ↔ (x = 1 ∨ x = 2) := by
  constructor
  · intro q
    obtain ⟨n, hn, e⟩ := sm_of (Int32.le_trans (show (0 : Int32) ≤ 1 by decide) q.1) ((lt_succ_iff (a := 2)).mpr q.2) (by decide)
    have h1 := q.1
    rw [e] at h1
    have := (sm_le_iff (a := 1) (by decide) (by omega)).mp h1
    have : n = 1 ∨ n = 2 := by omega
    rcases this with r | r
    · exact Or.inl (by rw [e, r]; rfl)
    · exact Or.inr (by rw [e, r]; rfl)
  · intro q
    rcases q with e | e <;> rw [e] <;> decide

set_option maxHeartbeats 4000000 in
theorem KC_evening {G : rn_G} {d : Nat} {κ : Nat × Nat} {Q : Option Value → rn_S → Prop} {mi : Nat → Nat → Int32} {ml : Nat → Nat → Int64} {D : Nat → Nat} {x y : Int32} {w : WD} {c k : Nat} {ds : Nat → CL} {sl : SL} {el bl : EL} {im : IM} {T : Nat → Nat} {L : Nat} {ac : List Int32} {tp : TP} (hv : IV w c k ds sl el bl im ac tp) (hc : CR w c k ds sl el bl im T L ac tp mi ml D) (h : ∀ m l D', HI mi m ml l → CR w c k ds sl (evenA w el x y).2 bl im T L ac tp m l D' → Q (some (.int (evenA w el x y).1)) (m, l, RF D', 164))  : Call G (d + 30) M_X8_evening [.ref 1, .int x, .int y] (mi, ml, RF D, 164) κ Q := by
  show Run G _ M_X8_evening 0 [.ref 1, .int x, .int y, .null, .null] [] _ _ _
  have hw := hv.1.1
  have hk6 := hv.2.2.1
  have hck := hv.2.1
  have hB : PB 2 := Or.inl rfl
  obtain ⟨hD2, hwc, z12, z13, z14⟩ := hc.1
  obtain ⟨cp1, cp2, cp3, cp4⟩ := cuA_pd (c := c) (by omega)
  have hkD : PD (D 2) := by rw [hD2]; exact cp1
  obtain ⟨N, P, R, hN, hP, hR, hg, hpp, hrr, hPJ⟩ := hc.1.n hw
  obtain ⟨w0, w1, w2, w3, w4, w5, w6⟩ := hc.1.cells
  have hl := hc.2.2.2.1
  have hl5 := hv.1.2.2.2.1
  refine il_1 dX8_evening_0 ?_
  refine R_iconst (v := -1) dX8_evening_1 (by decide) ?_
  refine R_icmp_ne (tgt := 15) dX8_evening_2 (by decide) (fun c2 => ?_) (fun c2 => ?_)
  · refine il_1 dX8_evening_15 ?_
    refine R_iconst (v := 1) dX8_evening_16 (by decide) ?_
    refine R_icmp_eq (tgt := 25) dX8_evening_17 (by decide) (fun c17 => ?_) (fun c17 => ?_)
    · refine al_0 dX8_evening_25 ?_
      refine R_getfr (r := 2) dX8_evening_26 fl_RX8_12 rfl sh_1 (Nat.le_of_ble_eq_true rfl) rf_1_0 ?_
      refine il_2 dX8_evening_29 ?_
      refine cv_1 dX8_evening_30 mm_RX8_142 sh_2 (Nat.le_of_ble_eq_true rfl) ⟨_, rfl, rfl⟩ (Nat.le_of_ble_eq_true rfl) (Nat.le_of_ble_eq_true rfl) (K_hasGate hB (fun c30 => ?_) (fun c30 => ?_))
      · refine R_if_ne (tgt := 40) dX8_evening_33 (by decide) (fun _ => ?_) (fun q => absurd q (by decide))
        refine R_iconst (v := 0) dX8_evening_40 (by decide) ?_
        refine is_3 dX8_evening_41 rfl ?_
        refine il_1 dX8_evening_42 ?_
        refine R_iconst (v := 3) dX8_evening_43 (by decide) ?_
        refine R_icmp_ne (tgt := 62) dX8_evening_44 (by decide) (fun c44 => ?_) (fun c44 => ?_)
        · refine R_iconst (v := 0) dX8_evening_62 (by decide) ?_
          refine is_4 dX8_evening_63 rfl ?_
          refine il_1 dX8_evening_65 ?_
          refine R_if_lt (tgt := 83) dX8_evening_66 (by decide) (fun c66 => ?_) (fun c66 => ?_)
          · refine R_iconst (v := -1) dX8_evening_83 (by decide) ?_
            refine R_ireturn dX8_evening_84 ⟨_, rfl, rfl⟩ ?_
            have eA : evenA w el x y = (-1, el) := by unfold evenA; rw [if_neg c2, if_neg (fun q => by first | exact Int32.not_lt.mpr q.1.1 (by first | exact c66 | exact Int32.not_le.mp c66) | exact Int32.not_lt.mpr q.1.2 (by first | exact c71 | exact Int32.not_le.mp c71) | (have := q.2.1 (one_two.mpr (show x = 1 ∨ x = 2 from by first | exact Or.inl c17 | exact Or.inr c22)); rw [w0] at this; exact c30 this) | (have := q.2.2 c44; rw [w2] at this; exact c52 this))]
            rw [eA] at h
            exact h mi ml D (HI.refl _ _) hc
          · refine il_1 dX8_evening_69 ?_
            refine R_iconst (v := 3) dX8_evening_70 (by decide) ?_
            refine R_icmp_gt (tgt := 83) dX8_evening_71 (by decide) (fun c71 => ?_) (fun c71 => ?_)
            · refine R_iconst (v := -1) dX8_evening_83 (by decide) ?_
              refine R_ireturn dX8_evening_84 ⟨_, rfl, rfl⟩ ?_
              have eA : evenA w el x y = (-1, el) := by unfold evenA; rw [if_neg c2, if_neg (fun q => by first | exact Int32.not_lt.mpr q.1.1 (by first | exact c66 | exact Int32.not_le.mp c66) | exact Int32.not_lt.mpr q.1.2 (by first | exact c71 | exact Int32.not_le.mp c71) | (have := q.2.1 (one_two.mpr (show x = 1 ∨ x = 2 from by first | exact Or.inl c17 | exact Or.inr c22)); rw [w0] at this; exact c30 this) | (have := q.2.2 c44; rw [w2] at this; exact c52 this))]
              rw [eA] at h
              exact h mi ml D (HI.refl _ _) hc
            · refine il_3 dX8_evening_74 ?_
              refine R_if_ne (tgt := 83) dX8_evening_75 (by decide) (fun q => absurd q (by decide)) (fun _ => ?_)
              refine il_4 dX8_evening_78 ?_
              refine R_if_eq (tgt := 85) dX8_evening_80 (by decide) (fun _ => ?_) (fun q => absurd q (by decide))
              have cE : (0 ≤ x ∧ x ≤ 3) ∧ (1 ≤ x ∧ x ≤ 2 → 0 ≤ y ∧ y < w.1 0) ∧ (x = 3 → 0 ≤ y ∧ y < w.1 2) := ⟨⟨by first | exact c66 | exact Int32.not_lt.mp c66, by first | exact c71 | exact Int32.not_lt.mp c71⟩, fun q => by rw [w0]; first | exact c30 | exact absurd (one_two.mp q) (fun q => q.elim c17 c22), fun q => by rw [w2]; first | exact c52 | exact absurd q c44⟩
              obtain ⟨xx, hxx, hx⟩ := sm_of cE.1.1 ((lt_succ_iff (a := 3)).mpr cE.1.2) (by decide)
              have hnx : nn x = xx := by rw [hx]; exact nnI (by omega)
              have hyn : 1 ≤ xx → ∃ n, n < 6 ∧ y = nI n := fun q => by
                have three : xx = 3 ∨ (1 ≤ xx ∧ xx ≤ 2) := by omega
                rcases three with t | t
                · obtain ⟨a1, a2⟩ := cE.2.2 (by rw [hx, t]; rfl)
                  rw [w2, hpp] at a2
                  obtain ⟨n, n1, n2⟩ := sm_of a1 a2 (by omega)
                  exact ⟨n, by omega, n2⟩
                · obtain ⟨a1, a2⟩ := cE.2.1 (by rw [hx]; exact ⟨(sm_le_iff (a := 1) (by decide) (by omega)).mpr t.1, (sm_le_iff (b := 2) (by omega) (by decide)).mpr t.2⟩)
                  rw [w0, hg] at a2
                  obtain ⟨n, n1, n2⟩ := sm_of a1 a2 (by omega)
                  exact ⟨n, by omega, n2⟩
              refine al_0 dX8_evening_85 ?_
              refine R_getfr (r := 44) dX8_evening_86 fl_RX8_30 rfl sh_1 (Nat.le_of_ble_eq_true rfl) rf_1_3 ?_
              refine cv_0 dX8_evening_89 mm_RX8_255 sh_44 (Nat.le_of_ble_eq_true rfl) ⟨_, rfl, rfl⟩ (Nat.le_of_ble_eq_true rfl) (Nat.le_of_ble_eq_true rfl) (K_isFull (L := 10) (r := 44) (Or.inr (Or.inl ⟨rfl, Or.inl rfl⟩)) hl.1 hl5 (by decide) (fun fu => ?_) (fun fu => ?_))
              · refine R_if_eq (tgt := 100) dX8_evening_92 (by decide) (fun q => absurd q (by decide)) (fun _ => ?_)
                refine R_bipush (v := -4) dX8_evening_95 (by decide) ?_
                refine R_goto (tgt := 110) dX8_evening_97 (by decide) ?_
                refine R_ireturn dX8_evening_110 ⟨_, rfl, rfl⟩ ?_
                have eA : evenA w el x y = (-4, el) := by unfold evenA; rw [if_neg c2, if_pos cE, if_pos fu]
                rw [eA] at h
                exact h mi ml D (HI.refl _ _) hc
              · refine R_if_eq (tgt := 100) dX8_evening_92 (by decide) (fun _ => ?_) (fun q => absurd q (by decide))
                refine al_0 dX8_evening_100 ?_
                refine R_getfr (r := 44) dX8_evening_101 fl_RX8_30 rfl sh_1 (Nat.le_of_ble_eq_true rfl) rf_1_3 ?_
                refine il_1 dX8_evening_104 ?_
                refine il_2 dX8_evening_105 ?_
                refine R_iconst (v := 0) dX8_evening_106 (by decide) ?_
                refine cv_3 dX8_evening_107 mm_RX8_259 sh_44 (Nat.le_of_ble_eq_true rfl) ⟨_, rfl, rfl⟩ (Nat.le_of_ble_eq_true rfl) (Nat.le_of_ble_eq_true rfl) (K_addRow (L := 10) (r := 44) (Or.inr (Or.inl ⟨rfl, Or.inl rfl⟩)) hl.1 fu (by decide) ?_)
                refine R_ireturn dX8_evening_110 ⟨_, rfl, rfl⟩ ?_
                have eA : evenA w el x y = (nI (el.length + 1), el ++ [(xx, nn y)]) := by unfold evenA; rw [if_neg c2, if_pos cE, if_neg (show ¬ el.length = 10 by omega), hnx]
                rw [eA] at h
                have ea : ∀ a, (a < 44 ∨ 47 < a) → (rn_u (rn_u (rn_u (rn_u mi (44 + 1) el.length x) (44 + 2) el.length y) (44 + 3) el.length 0) 44 3 (nI el.length + 1)) a = mi a := fun a ha => by rw [rn_u_ne (by omega), rn_u_ne (by omega), rn_u_ne (by omega), rn_u_ne (by omega)]
                refine h (rn_u (rn_u (rn_u (rn_u mi (44 + 1) el.length x) (44 + 2) el.length y) (44 + 3) el.length 0) 44 3 (nI el.length + 1)) ml D (hi_of (fun a ha => ea a (by omega))) (hc.rows hv (hc.2.2.1.fr (fun x x1 x2 => by rw [rn_u_ne (by omega), rn_u_ne (by omega), rn_u_ne (by omega), rn_u_ne (by omega)])) ?_ (hc.2.2.2.2.1.fr (fun x x1 x2 => by rw [rn_u_ne (by omega), rn_u_ne (by omega), rn_u_ne (by omega), rn_u_ne (by omega)])) (fun a ha => ea a (by omega)))
                refine ⟨by rw [List.length_append]; exact rn_u_eq.trans (sm_add _ 1), fun j q hj => ?_⟩
                rcases snoc_get hj with ⟨j1, j2⟩ | ⟨j1, j2⟩
                · obtain ⟨b1, b2⟩ := hl.2 j q j2
                  have jn : j ≠ el.length := by omega
                  refine ⟨?_, fun q1 => ?_⟩
                  · rw [← b1]; simp [rn_u, jn]
                  · rw [← b2 q1]; simp [rn_u, jn]
                · subst j1; subst j2
                  refine ⟨?_, fun q1 => ?_⟩
                  · dsimp only; rw [← hx]; simp [rn_u]
                  · obtain ⟨n, n1, n2⟩ := hyn q1
                    dsimp only
                    rw [n2, nnI (by omega)]; simp [rn_u]
        · refine al_0 dX8_evening_47 ?_
          refine R_getfr (r := 2) dX8_evening_48 fl_RX8_12 rfl sh_1 (Nat.le_of_ble_eq_true rfl) rf_1_0 ?_
          refine il_2 dX8_evening_51 ?_
          refine cv_1 dX8_evening_52 mm_RX8_93 sh_2 (Nat.le_of_ble_eq_true rfl) ⟨_, rfl, rfl⟩ (Nat.le_of_ble_eq_true rfl) (Nat.le_of_ble_eq_true rfl) (K_hasPerson hB (fun c52 => ?_) (fun c52 => ?_))
          · refine R_if_ne (tgt := 62) dX8_evening_55 (by decide) (fun _ => ?_) (fun q => absurd q (by decide))
            refine R_iconst (v := 0) dX8_evening_62 (by decide) ?_
            refine is_4 dX8_evening_63 rfl ?_
            refine il_1 dX8_evening_65 ?_
            refine R_if_lt (tgt := 83) dX8_evening_66 (by decide) (fun c66 => ?_) (fun c66 => ?_)
            · refine R_iconst (v := -1) dX8_evening_83 (by decide) ?_
              refine R_ireturn dX8_evening_84 ⟨_, rfl, rfl⟩ ?_
              have eA : evenA w el x y = (-1, el) := by unfold evenA; rw [if_neg c2, if_neg (fun q => by first | exact Int32.not_lt.mpr q.1.1 (by first | exact c66 | exact Int32.not_le.mp c66) | exact Int32.not_lt.mpr q.1.2 (by first | exact c71 | exact Int32.not_le.mp c71) | (have := q.2.1 (one_two.mpr (show x = 1 ∨ x = 2 from by first | exact Or.inl c17 | exact Or.inr c22)); rw [w0] at this; exact c30 this) | (have := q.2.2 c44; rw [w2] at this; exact c52 this))]
              rw [eA] at h
              exact h mi ml D (HI.refl _ _) hc
            · refine il_1 dX8_evening_69 ?_
              refine R_iconst (v := 3) dX8_evening_70 (by decide) ?_
              refine R_icmp_gt (tgt := 83) dX8_evening_71 (by decide) (fun c71 => ?_) (fun c71 => ?_)
              · refine R_iconst (v := -1) dX8_evening_83 (by decide) ?_
                refine R_ireturn dX8_evening_84 ⟨_, rfl, rfl⟩ ?_
                have eA : evenA w el x y = (-1, el) := by unfold evenA; rw [if_neg c2, if_neg (fun q => by first | exact Int32.not_lt.mpr q.1.1 (by first | exact c66 | exact Int32.not_le.mp c66) | exact Int32.not_lt.mpr q.1.2 (by first | exact c71 | exact Int32.not_le.mp c71) | (have := q.2.1 (one_two.mpr (show x = 1 ∨ x = 2 from by first | exact Or.inl c17 | exact Or.inr c22)); rw [w0] at this; exact c30 this) | (have := q.2.2 c44; rw [w2] at this; exact c52 this))]
                rw [eA] at h
                exact h mi ml D (HI.refl _ _) hc
              · refine il_3 dX8_evening_74 ?_
                refine R_if_ne (tgt := 83) dX8_evening_75 (by decide) (fun q => absurd q (by decide)) (fun _ => ?_)
                refine il_4 dX8_evening_78 ?_
                refine R_if_eq (tgt := 85) dX8_evening_80 (by decide) (fun _ => ?_) (fun q => absurd q (by decide))
                have cE : (0 ≤ x ∧ x ≤ 3) ∧ (1 ≤ x ∧ x ≤ 2 → 0 ≤ y ∧ y < w.1 0) ∧ (x = 3 → 0 ≤ y ∧ y < w.1 2) := ⟨⟨by first | exact c66 | exact Int32.not_lt.mp c66, by first | exact c71 | exact Int32.not_lt.mp c71⟩, fun q => by rw [w0]; first | exact c30 | exact absurd (one_two.mp q) (fun q => q.elim c17 c22), fun q => by rw [w2]; first | exact c52 | exact absurd q c44⟩
                obtain ⟨xx, hxx, hx⟩ := sm_of cE.1.1 ((lt_succ_iff (a := 3)).mpr cE.1.2) (by decide)
                have hnx : nn x = xx := by rw [hx]; exact nnI (by omega)
                have hyn : 1 ≤ xx → ∃ n, n < 6 ∧ y = nI n := fun q => by
                  have three : xx = 3 ∨ (1 ≤ xx ∧ xx ≤ 2) := by omega
                  rcases three with t | t
                  · obtain ⟨a1, a2⟩ := cE.2.2 (by rw [hx, t]; rfl)
                    rw [w2, hpp] at a2
                    obtain ⟨n, n1, n2⟩ := sm_of a1 a2 (by omega)
                    exact ⟨n, by omega, n2⟩
                  · obtain ⟨a1, a2⟩ := cE.2.1 (by rw [hx]; exact ⟨(sm_le_iff (a := 1) (by decide) (by omega)).mpr t.1, (sm_le_iff (b := 2) (by omega) (by decide)).mpr t.2⟩)
                    rw [w0, hg] at a2
                    obtain ⟨n, n1, n2⟩ := sm_of a1 a2 (by omega)
                    exact ⟨n, by omega, n2⟩
                refine al_0 dX8_evening_85 ?_
                refine R_getfr (r := 44) dX8_evening_86 fl_RX8_30 rfl sh_1 (Nat.le_of_ble_eq_true rfl) rf_1_3 ?_
                refine cv_0 dX8_evening_89 mm_RX8_255 sh_44 (Nat.le_of_ble_eq_true rfl) ⟨_, rfl, rfl⟩ (Nat.le_of_ble_eq_true rfl) (Nat.le_of_ble_eq_true rfl) (K_isFull (L := 10) (r := 44) (Or.inr (Or.inl ⟨rfl, Or.inl rfl⟩)) hl.1 hl5 (by decide) (fun fu => ?_) (fun fu => ?_))
                · refine R_if_eq (tgt := 100) dX8_evening_92 (by decide) (fun q => absurd q (by decide)) (fun _ => ?_)
                  refine R_bipush (v := -4) dX8_evening_95 (by decide) ?_
                  refine R_goto (tgt := 110) dX8_evening_97 (by decide) ?_
                  refine R_ireturn dX8_evening_110 ⟨_, rfl, rfl⟩ ?_
                  have eA : evenA w el x y = (-4, el) := by unfold evenA; rw [if_neg c2, if_pos cE, if_pos fu]
                  rw [eA] at h
                  exact h mi ml D (HI.refl _ _) hc
                · refine R_if_eq (tgt := 100) dX8_evening_92 (by decide) (fun _ => ?_) (fun q => absurd q (by decide))
                  refine al_0 dX8_evening_100 ?_
                  refine R_getfr (r := 44) dX8_evening_101 fl_RX8_30 rfl sh_1 (Nat.le_of_ble_eq_true rfl) rf_1_3 ?_
                  refine il_1 dX8_evening_104 ?_
                  refine il_2 dX8_evening_105 ?_
                  refine R_iconst (v := 0) dX8_evening_106 (by decide) ?_
                  refine cv_3 dX8_evening_107 mm_RX8_259 sh_44 (Nat.le_of_ble_eq_true rfl) ⟨_, rfl, rfl⟩ (Nat.le_of_ble_eq_true rfl) (Nat.le_of_ble_eq_true rfl) (K_addRow (L := 10) (r := 44) (Or.inr (Or.inl ⟨rfl, Or.inl rfl⟩)) hl.1 fu (by decide) ?_)
                  refine R_ireturn dX8_evening_110 ⟨_, rfl, rfl⟩ ?_
                  have eA : evenA w el x y = (nI (el.length + 1), el ++ [(xx, nn y)]) := by unfold evenA; rw [if_neg c2, if_pos cE, if_neg (show ¬ el.length = 10 by omega), hnx]
                  rw [eA] at h
                  have ea : ∀ a, (a < 44 ∨ 47 < a) → (rn_u (rn_u (rn_u (rn_u mi (44 + 1) el.length x) (44 + 2) el.length y) (44 + 3) el.length 0) 44 3 (nI el.length + 1)) a = mi a := fun a ha => by rw [rn_u_ne (by omega), rn_u_ne (by omega), rn_u_ne (by omega), rn_u_ne (by omega)]
                  refine h (rn_u (rn_u (rn_u (rn_u mi (44 + 1) el.length x) (44 + 2) el.length y) (44 + 3) el.length 0) 44 3 (nI el.length + 1)) ml D (hi_of (fun a ha => ea a (by omega))) (hc.rows hv (hc.2.2.1.fr (fun x x1 x2 => by rw [rn_u_ne (by omega), rn_u_ne (by omega), rn_u_ne (by omega), rn_u_ne (by omega)])) ?_ (hc.2.2.2.2.1.fr (fun x x1 x2 => by rw [rn_u_ne (by omega), rn_u_ne (by omega), rn_u_ne (by omega), rn_u_ne (by omega)])) (fun a ha => ea a (by omega)))
                  refine ⟨by rw [List.length_append]; exact rn_u_eq.trans (sm_add _ 1), fun j q hj => ?_⟩
                  rcases snoc_get hj with ⟨j1, j2⟩ | ⟨j1, j2⟩
                  · obtain ⟨b1, b2⟩ := hl.2 j q j2
                    have jn : j ≠ el.length := by omega
                    refine ⟨?_, fun q1 => ?_⟩
                    · rw [← b1]; simp [rn_u, jn]
                    · rw [← b2 q1]; simp [rn_u, jn]
                  · subst j1; subst j2
                    refine ⟨?_, fun q1 => ?_⟩
                    · dsimp only; rw [← hx]; simp [rn_u]
                    · obtain ⟨n, n1, n2⟩ := hyn q1
                      dsimp only
                      rw [n2, nnI (by omega)]; simp [rn_u]
          · refine R_if_ne (tgt := 62) dX8_evening_55 (by decide) (fun q => absurd q (by decide)) (fun _ => ?_)
            refine R_iconst (v := 1) dX8_evening_58 (by decide) ?_
            refine R_goto (tgt := 63) dX8_evening_59 (by decide) ?_
            refine is_4 dX8_evening_63 rfl ?_
            refine il_1 dX8_evening_65 ?_
            refine R_if_lt (tgt := 83) dX8_evening_66 (by decide) (fun c66 => ?_) (fun c66 => ?_)
            · refine R_iconst (v := -1) dX8_evening_83 (by decide) ?_
              refine R_ireturn dX8_evening_84 ⟨_, rfl, rfl⟩ ?_
              have eA : evenA w el x y = (-1, el) := by unfold evenA; rw [if_neg c2, if_neg (fun q => by first | exact Int32.not_lt.mpr q.1.1 (by first | exact c66 | exact Int32.not_le.mp c66) | exact Int32.not_lt.mpr q.1.2 (by first | exact c71 | exact Int32.not_le.mp c71) | (have := q.2.1 (one_two.mpr (show x = 1 ∨ x = 2 from by first | exact Or.inl c17 | exact Or.inr c22)); rw [w0] at this; exact c30 this) | (have := q.2.2 c44; rw [w2] at this; exact c52 this))]
              rw [eA] at h
              exact h mi ml D (HI.refl _ _) hc
            · refine il_1 dX8_evening_69 ?_
              refine R_iconst (v := 3) dX8_evening_70 (by decide) ?_
              refine R_icmp_gt (tgt := 83) dX8_evening_71 (by decide) (fun c71 => ?_) (fun c71 => ?_)
              · refine R_iconst (v := -1) dX8_evening_83 (by decide) ?_
                refine R_ireturn dX8_evening_84 ⟨_, rfl, rfl⟩ ?_
                have eA : evenA w el x y = (-1, el) := by unfold evenA; rw [if_neg c2, if_neg (fun q => by first | exact Int32.not_lt.mpr q.1.1 (by first | exact c66 | exact Int32.not_le.mp c66) | exact Int32.not_lt.mpr q.1.2 (by first | exact c71 | exact Int32.not_le.mp c71) | (have := q.2.1 (one_two.mpr (show x = 1 ∨ x = 2 from by first | exact Or.inl c17 | exact Or.inr c22)); rw [w0] at this; exact c30 this) | (have := q.2.2 c44; rw [w2] at this; exact c52 this))]
                rw [eA] at h
                exact h mi ml D (HI.refl _ _) hc
              · refine il_3 dX8_evening_74 ?_
                refine R_if_ne (tgt := 83) dX8_evening_75 (by decide) (fun q => absurd q (by decide)) (fun _ => ?_)
                refine il_4 dX8_evening_78 ?_
                refine R_if_eq (tgt := 85) dX8_evening_80 (by decide) (fun q => absurd q (by decide)) (fun _ => ?_)
                refine R_iconst (v := -1) dX8_evening_83 (by decide) ?_
                refine R_ireturn dX8_evening_84 ⟨_, rfl, rfl⟩ ?_
                have eA : evenA w el x y = (-1, el) := by unfold evenA; rw [if_neg c2, if_neg (fun q => by first | exact Int32.not_lt.mpr q.1.1 (by first | exact c66 | exact Int32.not_le.mp c66) | exact Int32.not_lt.mpr q.1.2 (by first | exact c71 | exact Int32.not_le.mp c71) | (have := q.2.1 (one_two.mpr (show x = 1 ∨ x = 2 from by first | exact Or.inl c17 | exact Or.inr c22)); rw [w0] at this; exact c30 this) | (have := q.2.2 c44; rw [w2] at this; exact c52 this))]
                rw [eA] at h
                exact h mi ml D (HI.refl _ _) hc
      · refine R_if_ne (tgt := 40) dX8_evening_33 (by decide) (fun q => absurd q (by decide)) (fun _ => ?_)
        refine R_iconst (v := 1) dX8_evening_36 (by decide) ?_
        refine R_goto (tgt := 41) dX8_evening_37 (by decide) ?_
        refine is_3 dX8_evening_41 rfl ?_
        refine il_1 dX8_evening_42 ?_
        refine R_iconst (v := 3) dX8_evening_43 (by decide) ?_
        refine R_icmp_ne (tgt := 62) dX8_evening_44 (by decide) (fun c44 => ?_) (fun c44 => ?_)
        · refine R_iconst (v := 0) dX8_evening_62 (by decide) ?_
          refine is_4 dX8_evening_63 rfl ?_
          refine il_1 dX8_evening_65 ?_
          refine R_if_lt (tgt := 83) dX8_evening_66 (by decide) (fun c66 => ?_) (fun c66 => ?_)
          · refine R_iconst (v := -1) dX8_evening_83 (by decide) ?_
            refine R_ireturn dX8_evening_84 ⟨_, rfl, rfl⟩ ?_
            have eA : evenA w el x y = (-1, el) := by unfold evenA; rw [if_neg c2, if_neg (fun q => by first | exact Int32.not_lt.mpr q.1.1 (by first | exact c66 | exact Int32.not_le.mp c66) | exact Int32.not_lt.mpr q.1.2 (by first | exact c71 | exact Int32.not_le.mp c71) | (have := q.2.1 (one_two.mpr (show x = 1 ∨ x = 2 from by first | exact Or.inl c17 | exact Or.inr c22)); rw [w0] at this; exact c30 this) | (have := q.2.2 c44; rw [w2] at this; exact c52 this))]
            rw [eA] at h
            exact h mi ml D (HI.refl _ _) hc
          · refine il_1 dX8_evening_69 ?_
            refine R_iconst (v := 3) dX8_evening_70 (by decide) ?_
            refine R_icmp_gt (tgt := 83) dX8_evening_71 (by decide) (fun c71 => ?_) (fun c71 => ?_)
            · refine R_iconst (v := -1) dX8_evening_83 (by decide) ?_
              refine R_ireturn dX8_evening_84 ⟨_, rfl, rfl⟩ ?_
              have eA : evenA w el x y = (-1, el) := by unfold evenA; rw [if_neg c2, if_neg (fun q => by first | exact Int32.not_lt.mpr q.1.1 (by first | exact c66 | exact Int32.not_le.mp c66) | exact Int32.not_lt.mpr q.1.2 (by first | exact c71 | exact Int32.not_le.mp c71) | (have := q.2.1 (one_two.mpr (show x = 1 ∨ x = 2 from by first | exact Or.inl c17 | exact Or.inr c22)); rw [w0] at this; exact c30 this) | (have := q.2.2 c44; rw [w2] at this; exact c52 this))]
              rw [eA] at h
              exact h mi ml D (HI.refl _ _) hc
            · refine il_3 dX8_evening_74 ?_
              refine R_if_ne (tgt := 83) dX8_evening_75 (by decide) (fun _ => ?_) (fun q => absurd q (by decide))
              refine R_iconst (v := -1) dX8_evening_83 (by decide) ?_
              refine R_ireturn dX8_evening_84 ⟨_, rfl, rfl⟩ ?_
              have eA : evenA w el x y = (-1, el) := by unfold evenA; rw [if_neg c2, if_neg (fun q => by first | exact Int32.not_lt.mpr q.1.1 (by first | exact c66 | exact Int32.not_le.mp c66) | exact Int32.not_lt.mpr q.1.2 (by first | exact c71 | exact Int32.not_le.mp c71) | (have := q.2.1 (one_two.mpr (show x = 1 ∨ x = 2 from by first | exact Or.inl c17 | exact Or.inr c22)); rw [w0] at this; exact c30 this) | (have := q.2.2 c44; rw [w2] at this; exact c52 this))]
              rw [eA] at h
              exact h mi ml D (HI.refl _ _) hc
        · refine al_0 dX8_evening_47 ?_
          refine R_getfr (r := 2) dX8_evening_48 fl_RX8_12 rfl sh_1 (Nat.le_of_ble_eq_true rfl) rf_1_0 ?_
          refine il_2 dX8_evening_51 ?_
          refine cv_1 dX8_evening_52 mm_RX8_93 sh_2 (Nat.le_of_ble_eq_true rfl) ⟨_, rfl, rfl⟩ (Nat.le_of_ble_eq_true rfl) (Nat.le_of_ble_eq_true rfl) (K_hasPerson hB (fun c52 => ?_) (fun c52 => ?_))
          · refine R_if_ne (tgt := 62) dX8_evening_55 (by decide) (fun _ => ?_) (fun q => absurd q (by decide))
            refine R_iconst (v := 0) dX8_evening_62 (by decide) ?_
            refine is_4 dX8_evening_63 rfl ?_
            refine il_1 dX8_evening_65 ?_
            refine R_if_lt (tgt := 83) dX8_evening_66 (by decide) (fun c66 => ?_) (fun c66 => ?_)
            · refine R_iconst (v := -1) dX8_evening_83 (by decide) ?_
              refine R_ireturn dX8_evening_84 ⟨_, rfl, rfl⟩ ?_
              have eA : evenA w el x y = (-1, el) := by unfold evenA; rw [if_neg c2, if_neg (fun q => by first | exact Int32.not_lt.mpr q.1.1 (by first | exact c66 | exact Int32.not_le.mp c66) | exact Int32.not_lt.mpr q.1.2 (by first | exact c71 | exact Int32.not_le.mp c71) | (have := q.2.1 (one_two.mpr (show x = 1 ∨ x = 2 from by first | exact Or.inl c17 | exact Or.inr c22)); rw [w0] at this; exact c30 this) | (have := q.2.2 c44; rw [w2] at this; exact c52 this))]
              rw [eA] at h
              exact h mi ml D (HI.refl _ _) hc
            · refine il_1 dX8_evening_69 ?_
              refine R_iconst (v := 3) dX8_evening_70 (by decide) ?_
              refine R_icmp_gt (tgt := 83) dX8_evening_71 (by decide) (fun c71 => ?_) (fun c71 => ?_)
              · refine R_iconst (v := -1) dX8_evening_83 (by decide) ?_
                refine R_ireturn dX8_evening_84 ⟨_, rfl, rfl⟩ ?_
                have eA : evenA w el x y = (-1, el) := by unfold evenA; rw [if_neg c2, if_neg (fun q => by first | exact Int32.not_lt.mpr q.1.1 (by first | exact c66 | exact Int32.not_le.mp c66) | exact Int32.not_lt.mpr q.1.2 (by first | exact c71 | exact Int32.not_le.mp c71) | (have := q.2.1 (one_two.mpr (show x = 1 ∨ x = 2 from by first | exact Or.inl c17 | exact Or.inr c22)); rw [w0] at this; exact c30 this) | (have := q.2.2 c44; rw [w2] at this; exact c52 this))]
                rw [eA] at h
                exact h mi ml D (HI.refl _ _) hc
              · refine il_3 dX8_evening_74 ?_
                refine R_if_ne (tgt := 83) dX8_evening_75 (by decide) (fun _ => ?_) (fun q => absurd q (by decide))
                refine R_iconst (v := -1) dX8_evening_83 (by decide) ?_
                refine R_ireturn dX8_evening_84 ⟨_, rfl, rfl⟩ ?_
                have eA : evenA w el x y = (-1, el) := by unfold evenA; rw [if_neg c2, if_neg (fun q => by first | exact Int32.not_lt.mpr q.1.1 (by first | exact c66 | exact Int32.not_le.mp c66) | exact Int32.not_lt.mpr q.1.2 (by first | exact c71 | exact Int32.not_le.mp c71) | (have := q.2.1 (one_two.mpr (show x = 1 ∨ x = 2 from by first | exact Or.inl c17 | exact Or.inr c22)); rw [w0] at this; exact c30 this) | (have := q.2.2 c44; rw [w2] at this; exact c52 this))]
                rw [eA] at h
                exact h mi ml D (HI.refl _ _) hc
          · refine R_if_ne (tgt := 62) dX8_evening_55 (by decide) (fun q => absurd q (by decide)) (fun _ => ?_)
            refine R_iconst (v := 1) dX8_evening_58 (by decide) ?_
            refine R_goto (tgt := 63) dX8_evening_59 (by decide) ?_
            refine is_4 dX8_evening_63 rfl ?_
            refine il_1 dX8_evening_65 ?_
            refine R_if_lt (tgt := 83) dX8_evening_66 (by decide) (fun c66 => ?_) (fun c66 => ?_)
            · refine R_iconst (v := -1) dX8_evening_83 (by decide) ?_
              refine R_ireturn dX8_evening_84 ⟨_, rfl, rfl⟩ ?_
              have eA : evenA w el x y = (-1, el) := by unfold evenA; rw [if_neg c2, if_neg (fun q => by first | exact Int32.not_lt.mpr q.1.1 (by first | exact c66 | exact Int32.not_le.mp c66) | exact Int32.not_lt.mpr q.1.2 (by first | exact c71 | exact Int32.not_le.mp c71) | (have := q.2.1 (one_two.mpr (show x = 1 ∨ x = 2 from by first | exact Or.inl c17 | exact Or.inr c22)); rw [w0] at this; exact c30 this) | (have := q.2.2 c44; rw [w2] at this; exact c52 this))]
              rw [eA] at h
              exact h mi ml D (HI.refl _ _) hc
            · refine il_1 dX8_evening_69 ?_
              refine R_iconst (v := 3) dX8_evening_70 (by decide) ?_
              refine R_icmp_gt (tgt := 83) dX8_evening_71 (by decide) (fun c71 => ?_) (fun c71 => ?_)
              · refine R_iconst (v := -1) dX8_evening_83 (by decide) ?_
                refine R_ireturn dX8_evening_84 ⟨_, rfl, rfl⟩ ?_
                have eA : evenA w el x y = (-1, el) := by unfold evenA; rw [if_neg c2, if_neg (fun q => by first | exact Int32.not_lt.mpr q.1.1 (by first | exact c66 | exact Int32.not_le.mp c66) | exact Int32.not_lt.mpr q.1.2 (by first | exact c71 | exact Int32.not_le.mp c71) | (have := q.2.1 (one_two.mpr (show x = 1 ∨ x = 2 from by first | exact Or.inl c17 | exact Or.inr c22)); rw [w0] at this; exact c30 this) | (have := q.2.2 c44; rw [w2] at this; exact c52 this))]
                rw [eA] at h
                exact h mi ml D (HI.refl _ _) hc
              · refine il_3 dX8_evening_74 ?_
                refine R_if_ne (tgt := 83) dX8_evening_75 (by decide) (fun _ => ?_) (fun q => absurd q (by decide))
                refine R_iconst (v := -1) dX8_evening_83 (by decide) ?_
                refine R_ireturn dX8_evening_84 ⟨_, rfl, rfl⟩ ?_
                have eA : evenA w el x y = (-1, el) := by unfold evenA; rw [if_neg c2, if_neg (fun q => by first | exact Int32.not_lt.mpr q.1.1 (by first | exact c66 | exact Int32.not_le.mp c66) | exact Int32.not_lt.mpr q.1.2 (by first | exact c71 | exact Int32.not_le.mp c71) | (have := q.2.1 (one_two.mpr (show x = 1 ∨ x = 2 from by first | exact Or.inl c17 | exact Or.inr c22)); rw [w0] at this; exact c30 this) | (have := q.2.2 c44; rw [w2] at this; exact c52 this))]
                rw [eA] at h
                exact h mi ml D (HI.refl _ _) hc
    · refine il_1 dX8_evening_20 ?_
      refine R_iconst (v := 2) dX8_evening_21 (by decide) ?_
      refine R_icmp_ne (tgt := 40) dX8_evening_22 (by decide) (fun c22 => ?_) (fun c22 => ?_)
      · refine R_iconst (v := 0) dX8_evening_40 (by decide) ?_
        refine is_3 dX8_evening_41 rfl ?_
        refine il_1 dX8_evening_42 ?_
        refine R_iconst (v := 3) dX8_evening_43 (by decide) ?_
        refine R_icmp_ne (tgt := 62) dX8_evening_44 (by decide) (fun c44 => ?_) (fun c44 => ?_)
        · refine R_iconst (v := 0) dX8_evening_62 (by decide) ?_
          refine is_4 dX8_evening_63 rfl ?_
          refine il_1 dX8_evening_65 ?_
          refine R_if_lt (tgt := 83) dX8_evening_66 (by decide) (fun c66 => ?_) (fun c66 => ?_)
          · refine R_iconst (v := -1) dX8_evening_83 (by decide) ?_
            refine R_ireturn dX8_evening_84 ⟨_, rfl, rfl⟩ ?_
            have eA : evenA w el x y = (-1, el) := by unfold evenA; rw [if_neg c2, if_neg (fun q => by first | exact Int32.not_lt.mpr q.1.1 (by first | exact c66 | exact Int32.not_le.mp c66) | exact Int32.not_lt.mpr q.1.2 (by first | exact c71 | exact Int32.not_le.mp c71) | (have := q.2.1 (one_two.mpr (show x = 1 ∨ x = 2 from by first | exact Or.inl c17 | exact Or.inr c22)); rw [w0] at this; exact c30 this) | (have := q.2.2 c44; rw [w2] at this; exact c52 this))]
            rw [eA] at h
            exact h mi ml D (HI.refl _ _) hc
          · refine il_1 dX8_evening_69 ?_
            refine R_iconst (v := 3) dX8_evening_70 (by decide) ?_
            refine R_icmp_gt (tgt := 83) dX8_evening_71 (by decide) (fun c71 => ?_) (fun c71 => ?_)
            · refine R_iconst (v := -1) dX8_evening_83 (by decide) ?_
              refine R_ireturn dX8_evening_84 ⟨_, rfl, rfl⟩ ?_
              have eA : evenA w el x y = (-1, el) := by unfold evenA; rw [if_neg c2, if_neg (fun q => by first | exact Int32.not_lt.mpr q.1.1 (by first | exact c66 | exact Int32.not_le.mp c66) | exact Int32.not_lt.mpr q.1.2 (by first | exact c71 | exact Int32.not_le.mp c71) | (have := q.2.1 (one_two.mpr (show x = 1 ∨ x = 2 from by first | exact Or.inl c17 | exact Or.inr c22)); rw [w0] at this; exact c30 this) | (have := q.2.2 c44; rw [w2] at this; exact c52 this))]
              rw [eA] at h
              exact h mi ml D (HI.refl _ _) hc
            · refine il_3 dX8_evening_74 ?_
              refine R_if_ne (tgt := 83) dX8_evening_75 (by decide) (fun q => absurd q (by decide)) (fun _ => ?_)
              refine il_4 dX8_evening_78 ?_
              refine R_if_eq (tgt := 85) dX8_evening_80 (by decide) (fun _ => ?_) (fun q => absurd q (by decide))
              have cE : (0 ≤ x ∧ x ≤ 3) ∧ (1 ≤ x ∧ x ≤ 2 → 0 ≤ y ∧ y < w.1 0) ∧ (x = 3 → 0 ≤ y ∧ y < w.1 2) := ⟨⟨by first | exact c66 | exact Int32.not_lt.mp c66, by first | exact c71 | exact Int32.not_lt.mp c71⟩, fun q => by rw [w0]; first | exact c30 | exact absurd (one_two.mp q) (fun q => q.elim c17 c22), fun q => by rw [w2]; first | exact c52 | exact absurd q c44⟩
              obtain ⟨xx, hxx, hx⟩ := sm_of cE.1.1 ((lt_succ_iff (a := 3)).mpr cE.1.2) (by decide)
              have hnx : nn x = xx := by rw [hx]; exact nnI (by omega)
              have hyn : 1 ≤ xx → ∃ n, n < 6 ∧ y = nI n := fun q => by
                have three : xx = 3 ∨ (1 ≤ xx ∧ xx ≤ 2) := by omega
                rcases three with t | t
                · obtain ⟨a1, a2⟩ := cE.2.2 (by rw [hx, t]; rfl)
                  rw [w2, hpp] at a2
                  obtain ⟨n, n1, n2⟩ := sm_of a1 a2 (by omega)
                  exact ⟨n, by omega, n2⟩
                · obtain ⟨a1, a2⟩ := cE.2.1 (by rw [hx]; exact ⟨(sm_le_iff (a := 1) (by decide) (by omega)).mpr t.1, (sm_le_iff (b := 2) (by omega) (by decide)).mpr t.2⟩)
                  rw [w0, hg] at a2
                  obtain ⟨n, n1, n2⟩ := sm_of a1 a2 (by omega)
                  exact ⟨n, by omega, n2⟩
              refine al_0 dX8_evening_85 ?_
              refine R_getfr (r := 44) dX8_evening_86 fl_RX8_30 rfl sh_1 (Nat.le_of_ble_eq_true rfl) rf_1_3 ?_
              refine cv_0 dX8_evening_89 mm_RX8_255 sh_44 (Nat.le_of_ble_eq_true rfl) ⟨_, rfl, rfl⟩ (Nat.le_of_ble_eq_true rfl) (Nat.le_of_ble_eq_true rfl) (K_isFull (L := 10) (r := 44) (Or.inr (Or.inl ⟨rfl, Or.inl rfl⟩)) hl.1 hl5 (by decide) (fun fu => ?_) (fun fu => ?_))
              · refine R_if_eq (tgt := 100) dX8_evening_92 (by decide) (fun q => absurd q (by decide)) (fun _ => ?_)
                refine R_bipush (v := -4) dX8_evening_95 (by decide) ?_
                refine R_goto (tgt := 110) dX8_evening_97 (by decide) ?_
                refine R_ireturn dX8_evening_110 ⟨_, rfl, rfl⟩ ?_
                have eA : evenA w el x y = (-4, el) := by unfold evenA; rw [if_neg c2, if_pos cE, if_pos fu]
                rw [eA] at h
                exact h mi ml D (HI.refl _ _) hc
              · refine R_if_eq (tgt := 100) dX8_evening_92 (by decide) (fun _ => ?_) (fun q => absurd q (by decide))
                refine al_0 dX8_evening_100 ?_
                refine R_getfr (r := 44) dX8_evening_101 fl_RX8_30 rfl sh_1 (Nat.le_of_ble_eq_true rfl) rf_1_3 ?_
                refine il_1 dX8_evening_104 ?_
                refine il_2 dX8_evening_105 ?_
                refine R_iconst (v := 0) dX8_evening_106 (by decide) ?_
                refine cv_3 dX8_evening_107 mm_RX8_259 sh_44 (Nat.le_of_ble_eq_true rfl) ⟨_, rfl, rfl⟩ (Nat.le_of_ble_eq_true rfl) (Nat.le_of_ble_eq_true rfl) (K_addRow (L := 10) (r := 44) (Or.inr (Or.inl ⟨rfl, Or.inl rfl⟩)) hl.1 fu (by decide) ?_)
                refine R_ireturn dX8_evening_110 ⟨_, rfl, rfl⟩ ?_
                have eA : evenA w el x y = (nI (el.length + 1), el ++ [(xx, nn y)]) := by unfold evenA; rw [if_neg c2, if_pos cE, if_neg (show ¬ el.length = 10 by omega), hnx]
                rw [eA] at h
                have ea : ∀ a, (a < 44 ∨ 47 < a) → (rn_u (rn_u (rn_u (rn_u mi (44 + 1) el.length x) (44 + 2) el.length y) (44 + 3) el.length 0) 44 3 (nI el.length + 1)) a = mi a := fun a ha => by rw [rn_u_ne (by omega), rn_u_ne (by omega), rn_u_ne (by omega), rn_u_ne (by omega)]
                refine h (rn_u (rn_u (rn_u (rn_u mi (44 + 1) el.length x) (44 + 2) el.length y) (44 + 3) el.length 0) 44 3 (nI el.length + 1)) ml D (hi_of (fun a ha => ea a (by omega))) (hc.rows hv (hc.2.2.1.fr (fun x x1 x2 => by rw [rn_u_ne (by omega), rn_u_ne (by omega), rn_u_ne (by omega), rn_u_ne (by omega)])) ?_ (hc.2.2.2.2.1.fr (fun x x1 x2 => by rw [rn_u_ne (by omega), rn_u_ne (by omega), rn_u_ne (by omega), rn_u_ne (by omega)])) (fun a ha => ea a (by omega)))
                refine ⟨by rw [List.length_append]; exact rn_u_eq.trans (sm_add _ 1), fun j q hj => ?_⟩
                rcases snoc_get hj with ⟨j1, j2⟩ | ⟨j1, j2⟩
                · obtain ⟨b1, b2⟩ := hl.2 j q j2
                  have jn : j ≠ el.length := by omega
                  refine ⟨?_, fun q1 => ?_⟩
                  · rw [← b1]; simp [rn_u, jn]
                  · rw [← b2 q1]; simp [rn_u, jn]
                · subst j1; subst j2
                  refine ⟨?_, fun q1 => ?_⟩
                  · dsimp only; rw [← hx]; simp [rn_u]
                  · obtain ⟨n, n1, n2⟩ := hyn q1
                    dsimp only
                    rw [n2, nnI (by omega)]; simp [rn_u]
        · refine al_0 dX8_evening_47 ?_
          refine R_getfr (r := 2) dX8_evening_48 fl_RX8_12 rfl sh_1 (Nat.le_of_ble_eq_true rfl) rf_1_0 ?_
          refine il_2 dX8_evening_51 ?_
          refine cv_1 dX8_evening_52 mm_RX8_93 sh_2 (Nat.le_of_ble_eq_true rfl) ⟨_, rfl, rfl⟩ (Nat.le_of_ble_eq_true rfl) (Nat.le_of_ble_eq_true rfl) (K_hasPerson hB (fun c52 => ?_) (fun c52 => ?_))
          · refine R_if_ne (tgt := 62) dX8_evening_55 (by decide) (fun _ => ?_) (fun q => absurd q (by decide))
            refine R_iconst (v := 0) dX8_evening_62 (by decide) ?_
            refine is_4 dX8_evening_63 rfl ?_
            refine il_1 dX8_evening_65 ?_
            refine R_if_lt (tgt := 83) dX8_evening_66 (by decide) (fun c66 => ?_) (fun c66 => ?_)
            · refine R_iconst (v := -1) dX8_evening_83 (by decide) ?_
              refine R_ireturn dX8_evening_84 ⟨_, rfl, rfl⟩ ?_
              have eA : evenA w el x y = (-1, el) := by unfold evenA; rw [if_neg c2, if_neg (fun q => by first | exact Int32.not_lt.mpr q.1.1 (by first | exact c66 | exact Int32.not_le.mp c66) | exact Int32.not_lt.mpr q.1.2 (by first | exact c71 | exact Int32.not_le.mp c71) | (have := q.2.1 (one_two.mpr (show x = 1 ∨ x = 2 from by first | exact Or.inl c17 | exact Or.inr c22)); rw [w0] at this; exact c30 this) | (have := q.2.2 c44; rw [w2] at this; exact c52 this))]
              rw [eA] at h
              exact h mi ml D (HI.refl _ _) hc
            · refine il_1 dX8_evening_69 ?_
              refine R_iconst (v := 3) dX8_evening_70 (by decide) ?_
              refine R_icmp_gt (tgt := 83) dX8_evening_71 (by decide) (fun c71 => ?_) (fun c71 => ?_)
              · refine R_iconst (v := -1) dX8_evening_83 (by decide) ?_
                refine R_ireturn dX8_evening_84 ⟨_, rfl, rfl⟩ ?_
                have eA : evenA w el x y = (-1, el) := by unfold evenA; rw [if_neg c2, if_neg (fun q => by first | exact Int32.not_lt.mpr q.1.1 (by first | exact c66 | exact Int32.not_le.mp c66) | exact Int32.not_lt.mpr q.1.2 (by first | exact c71 | exact Int32.not_le.mp c71) | (have := q.2.1 (one_two.mpr (show x = 1 ∨ x = 2 from by first | exact Or.inl c17 | exact Or.inr c22)); rw [w0] at this; exact c30 this) | (have := q.2.2 c44; rw [w2] at this; exact c52 this))]
                rw [eA] at h
                exact h mi ml D (HI.refl _ _) hc
              · refine il_3 dX8_evening_74 ?_
                refine R_if_ne (tgt := 83) dX8_evening_75 (by decide) (fun q => absurd q (by decide)) (fun _ => ?_)
                refine il_4 dX8_evening_78 ?_
                refine R_if_eq (tgt := 85) dX8_evening_80 (by decide) (fun _ => ?_) (fun q => absurd q (by decide))
                have cE : (0 ≤ x ∧ x ≤ 3) ∧ (1 ≤ x ∧ x ≤ 2 → 0 ≤ y ∧ y < w.1 0) ∧ (x = 3 → 0 ≤ y ∧ y < w.1 2) := ⟨⟨by first | exact c66 | exact Int32.not_lt.mp c66, by first | exact c71 | exact Int32.not_lt.mp c71⟩, fun q => by rw [w0]; first | exact c30 | exact absurd (one_two.mp q) (fun q => q.elim c17 c22), fun q => by rw [w2]; first | exact c52 | exact absurd q c44⟩
                obtain ⟨xx, hxx, hx⟩ := sm_of cE.1.1 ((lt_succ_iff (a := 3)).mpr cE.1.2) (by decide)
                have hnx : nn x = xx := by rw [hx]; exact nnI (by omega)
                have hyn : 1 ≤ xx → ∃ n, n < 6 ∧ y = nI n := fun q => by
                  have three : xx = 3 ∨ (1 ≤ xx ∧ xx ≤ 2) := by omega
                  rcases three with t | t
                  · obtain ⟨a1, a2⟩ := cE.2.2 (by rw [hx, t]; rfl)
                    rw [w2, hpp] at a2
                    obtain ⟨n, n1, n2⟩ := sm_of a1 a2 (by omega)
                    exact ⟨n, by omega, n2⟩
                  · obtain ⟨a1, a2⟩ := cE.2.1 (by rw [hx]; exact ⟨(sm_le_iff (a := 1) (by decide) (by omega)).mpr t.1, (sm_le_iff (b := 2) (by omega) (by decide)).mpr t.2⟩)
                    rw [w0, hg] at a2
                    obtain ⟨n, n1, n2⟩ := sm_of a1 a2 (by omega)
                    exact ⟨n, by omega, n2⟩
                refine al_0 dX8_evening_85 ?_
                refine R_getfr (r := 44) dX8_evening_86 fl_RX8_30 rfl sh_1 (Nat.le_of_ble_eq_true rfl) rf_1_3 ?_
                refine cv_0 dX8_evening_89 mm_RX8_255 sh_44 (Nat.le_of_ble_eq_true rfl) ⟨_, rfl, rfl⟩ (Nat.le_of_ble_eq_true rfl) (Nat.le_of_ble_eq_true rfl) (K_isFull (L := 10) (r := 44) (Or.inr (Or.inl ⟨rfl, Or.inl rfl⟩)) hl.1 hl5 (by decide) (fun fu => ?_) (fun fu => ?_))
                · refine R_if_eq (tgt := 100) dX8_evening_92 (by decide) (fun q => absurd q (by decide)) (fun _ => ?_)
                  refine R_bipush (v := -4) dX8_evening_95 (by decide) ?_
                  refine R_goto (tgt := 110) dX8_evening_97 (by decide) ?_
                  refine R_ireturn dX8_evening_110 ⟨_, rfl, rfl⟩ ?_
                  have eA : evenA w el x y = (-4, el) := by unfold evenA; rw [if_neg c2, if_pos cE, if_pos fu]
                  rw [eA] at h
                  exact h mi ml D (HI.refl _ _) hc
                · refine R_if_eq (tgt := 100) dX8_evening_92 (by decide) (fun _ => ?_) (fun q => absurd q (by decide))
                  refine al_0 dX8_evening_100 ?_
                  refine R_getfr (r := 44) dX8_evening_101 fl_RX8_30 rfl sh_1 (Nat.le_of_ble_eq_true rfl) rf_1_3 ?_
                  refine il_1 dX8_evening_104 ?_
                  refine il_2 dX8_evening_105 ?_
                  refine R_iconst (v := 0) dX8_evening_106 (by decide) ?_
                  refine cv_3 dX8_evening_107 mm_RX8_259 sh_44 (Nat.le_of_ble_eq_true rfl) ⟨_, rfl, rfl⟩ (Nat.le_of_ble_eq_true rfl) (Nat.le_of_ble_eq_true rfl) (K_addRow (L := 10) (r := 44) (Or.inr (Or.inl ⟨rfl, Or.inl rfl⟩)) hl.1 fu (by decide) ?_)
                  refine R_ireturn dX8_evening_110 ⟨_, rfl, rfl⟩ ?_
                  have eA : evenA w el x y = (nI (el.length + 1), el ++ [(xx, nn y)]) := by unfold evenA; rw [if_neg c2, if_pos cE, if_neg (show ¬ el.length = 10 by omega), hnx]
                  rw [eA] at h
                  have ea : ∀ a, (a < 44 ∨ 47 < a) → (rn_u (rn_u (rn_u (rn_u mi (44 + 1) el.length x) (44 + 2) el.length y) (44 + 3) el.length 0) 44 3 (nI el.length + 1)) a = mi a := fun a ha => by rw [rn_u_ne (by omega), rn_u_ne (by omega), rn_u_ne (by omega), rn_u_ne (by omega)]
                  refine h (rn_u (rn_u (rn_u (rn_u mi (44 + 1) el.length x) (44 + 2) el.length y) (44 + 3) el.length 0) 44 3 (nI el.length + 1)) ml D (hi_of (fun a ha => ea a (by omega))) (hc.rows hv (hc.2.2.1.fr (fun x x1 x2 => by rw [rn_u_ne (by omega), rn_u_ne (by omega), rn_u_ne (by omega), rn_u_ne (by omega)])) ?_ (hc.2.2.2.2.1.fr (fun x x1 x2 => by rw [rn_u_ne (by omega), rn_u_ne (by omega), rn_u_ne (by omega), rn_u_ne (by omega)])) (fun a ha => ea a (by omega)))
                  refine ⟨by rw [List.length_append]; exact rn_u_eq.trans (sm_add _ 1), fun j q hj => ?_⟩
                  rcases snoc_get hj with ⟨j1, j2⟩ | ⟨j1, j2⟩
                  · obtain ⟨b1, b2⟩ := hl.2 j q j2
                    have jn : j ≠ el.length := by omega
                    refine ⟨?_, fun q1 => ?_⟩
                    · rw [← b1]; simp [rn_u, jn]
                    · rw [← b2 q1]; simp [rn_u, jn]
                  · subst j1; subst j2
                    refine ⟨?_, fun q1 => ?_⟩
                    · dsimp only; rw [← hx]; simp [rn_u]
                    · obtain ⟨n, n1, n2⟩ := hyn q1
                      dsimp only
                      rw [n2, nnI (by omega)]; simp [rn_u]
          · refine R_if_ne (tgt := 62) dX8_evening_55 (by decide) (fun q => absurd q (by decide)) (fun _ => ?_)
            refine R_iconst (v := 1) dX8_evening_58 (by decide) ?_
            refine R_goto (tgt := 63) dX8_evening_59 (by decide) ?_
            refine is_4 dX8_evening_63 rfl ?_
            refine il_1 dX8_evening_65 ?_
            refine R_if_lt (tgt := 83) dX8_evening_66 (by decide) (fun c66 => ?_) (fun c66 => ?_)
            · refine R_iconst (v := -1) dX8_evening_83 (by decide) ?_
              refine R_ireturn dX8_evening_84 ⟨_, rfl, rfl⟩ ?_
              have eA : evenA w el x y = (-1, el) := by unfold evenA; rw [if_neg c2, if_neg (fun q => by first | exact Int32.not_lt.mpr q.1.1 (by first | exact c66 | exact Int32.not_le.mp c66) | exact Int32.not_lt.mpr q.1.2 (by first | exact c71 | exact Int32.not_le.mp c71) | (have := q.2.1 (one_two.mpr (show x = 1 ∨ x = 2 from by first | exact Or.inl c17 | exact Or.inr c22)); rw [w0] at this; exact c30 this) | (have := q.2.2 c44; rw [w2] at this; exact c52 this))]
              rw [eA] at h
              exact h mi ml D (HI.refl _ _) hc
            · refine il_1 dX8_evening_69 ?_
              refine R_iconst (v := 3) dX8_evening_70 (by decide) ?_
              refine R_icmp_gt (tgt := 83) dX8_evening_71 (by decide) (fun c71 => ?_) (fun c71 => ?_)
              · refine R_iconst (v := -1) dX8_evening_83 (by decide) ?_
                refine R_ireturn dX8_evening_84 ⟨_, rfl, rfl⟩ ?_
                have eA : evenA w el x y = (-1, el) := by unfold evenA; rw [if_neg c2, if_neg (fun q => by first | exact Int32.not_lt.mpr q.1.1 (by first | exact c66 | exact Int32.not_le.mp c66) | exact Int32.not_lt.mpr q.1.2 (by first | exact c71 | exact Int32.not_le.mp c71) | (have := q.2.1 (one_two.mpr (show x = 1 ∨ x = 2 from by first | exact Or.inl c17 | exact Or.inr c22)); rw [w0] at this; exact c30 this) | (have := q.2.2 c44; rw [w2] at this; exact c52 this))]
                rw [eA] at h
                exact h mi ml D (HI.refl _ _) hc
              · refine il_3 dX8_evening_74 ?_
                refine R_if_ne (tgt := 83) dX8_evening_75 (by decide) (fun q => absurd q (by decide)) (fun _ => ?_)
                refine il_4 dX8_evening_78 ?_
                refine R_if_eq (tgt := 85) dX8_evening_80 (by decide) (fun q => absurd q (by decide)) (fun _ => ?_)
                refine R_iconst (v := -1) dX8_evening_83 (by decide) ?_
                refine R_ireturn dX8_evening_84 ⟨_, rfl, rfl⟩ ?_
                have eA : evenA w el x y = (-1, el) := by unfold evenA; rw [if_neg c2, if_neg (fun q => by first | exact Int32.not_lt.mpr q.1.1 (by first | exact c66 | exact Int32.not_le.mp c66) | exact Int32.not_lt.mpr q.1.2 (by first | exact c71 | exact Int32.not_le.mp c71) | (have := q.2.1 (one_two.mpr (show x = 1 ∨ x = 2 from by first | exact Or.inl c17 | exact Or.inr c22)); rw [w0] at this; exact c30 this) | (have := q.2.2 c44; rw [w2] at this; exact c52 this))]
                rw [eA] at h
                exact h mi ml D (HI.refl _ _) hc
      · refine al_0 dX8_evening_25 ?_
        refine R_getfr (r := 2) dX8_evening_26 fl_RX8_12 rfl sh_1 (Nat.le_of_ble_eq_true rfl) rf_1_0 ?_
        refine il_2 dX8_evening_29 ?_
        refine cv_1 dX8_evening_30 mm_RX8_142 sh_2 (Nat.le_of_ble_eq_true rfl) ⟨_, rfl, rfl⟩ (Nat.le_of_ble_eq_true rfl) (Nat.le_of_ble_eq_true rfl) (K_hasGate hB (fun c30 => ?_) (fun c30 => ?_))
        · refine R_if_ne (tgt := 40) dX8_evening_33 (by decide) (fun _ => ?_) (fun q => absurd q (by decide))
          refine R_iconst (v := 0) dX8_evening_40 (by decide) ?_
          refine is_3 dX8_evening_41 rfl ?_
          refine il_1 dX8_evening_42 ?_
          refine R_iconst (v := 3) dX8_evening_43 (by decide) ?_
          refine R_icmp_ne (tgt := 62) dX8_evening_44 (by decide) (fun c44 => ?_) (fun c44 => ?_)
          · refine R_iconst (v := 0) dX8_evening_62 (by decide) ?_
            refine is_4 dX8_evening_63 rfl ?_
            refine il_1 dX8_evening_65 ?_
            refine R_if_lt (tgt := 83) dX8_evening_66 (by decide) (fun c66 => ?_) (fun c66 => ?_)
            · refine R_iconst (v := -1) dX8_evening_83 (by decide) ?_
              refine R_ireturn dX8_evening_84 ⟨_, rfl, rfl⟩ ?_
              have eA : evenA w el x y = (-1, el) := by unfold evenA; rw [if_neg c2, if_neg (fun q => by first | exact Int32.not_lt.mpr q.1.1 (by first | exact c66 | exact Int32.not_le.mp c66) | exact Int32.not_lt.mpr q.1.2 (by first | exact c71 | exact Int32.not_le.mp c71) | (have := q.2.1 (one_two.mpr (show x = 1 ∨ x = 2 from by first | exact Or.inl c17 | exact Or.inr c22)); rw [w0] at this; exact c30 this) | (have := q.2.2 c44; rw [w2] at this; exact c52 this))]
              rw [eA] at h
              exact h mi ml D (HI.refl _ _) hc
            · refine il_1 dX8_evening_69 ?_
              refine R_iconst (v := 3) dX8_evening_70 (by decide) ?_
              refine R_icmp_gt (tgt := 83) dX8_evening_71 (by decide) (fun c71 => ?_) (fun c71 => ?_)
              · refine R_iconst (v := -1) dX8_evening_83 (by decide) ?_
                refine R_ireturn dX8_evening_84 ⟨_, rfl, rfl⟩ ?_
                have eA : evenA w el x y = (-1, el) := by unfold evenA; rw [if_neg c2, if_neg (fun q => by first | exact Int32.not_lt.mpr q.1.1 (by first | exact c66 | exact Int32.not_le.mp c66) | exact Int32.not_lt.mpr q.1.2 (by first | exact c71 | exact Int32.not_le.mp c71) | (have := q.2.1 (one_two.mpr (show x = 1 ∨ x = 2 from by first | exact Or.inl c17 | exact Or.inr c22)); rw [w0] at this; exact c30 this) | (have := q.2.2 c44; rw [w2] at this; exact c52 this))]
                rw [eA] at h
                exact h mi ml D (HI.refl _ _) hc
              · refine il_3 dX8_evening_74 ?_
                refine R_if_ne (tgt := 83) dX8_evening_75 (by decide) (fun q => absurd q (by decide)) (fun _ => ?_)
                refine il_4 dX8_evening_78 ?_
                refine R_if_eq (tgt := 85) dX8_evening_80 (by decide) (fun _ => ?_) (fun q => absurd q (by decide))
                have cE : (0 ≤ x ∧ x ≤ 3) ∧ (1 ≤ x ∧ x ≤ 2 → 0 ≤ y ∧ y < w.1 0) ∧ (x = 3 → 0 ≤ y ∧ y < w.1 2) := ⟨⟨by first | exact c66 | exact Int32.not_lt.mp c66, by first | exact c71 | exact Int32.not_lt.mp c71⟩, fun q => by rw [w0]; first | exact c30 | exact absurd (one_two.mp q) (fun q => q.elim c17 c22), fun q => by rw [w2]; first | exact c52 | exact absurd q c44⟩
                obtain ⟨xx, hxx, hx⟩ := sm_of cE.1.1 ((lt_succ_iff (a := 3)).mpr cE.1.2) (by decide)
                have hnx : nn x = xx := by rw [hx]; exact nnI (by omega)
                have hyn : 1 ≤ xx → ∃ n, n < 6 ∧ y = nI n := fun q => by
                  have three : xx = 3 ∨ (1 ≤ xx ∧ xx ≤ 2) := by omega
                  rcases three with t | t
                  · obtain ⟨a1, a2⟩ := cE.2.2 (by rw [hx, t]; rfl)
                    rw [w2, hpp] at a2
                    obtain ⟨n, n1, n2⟩ := sm_of a1 a2 (by omega)
                    exact ⟨n, by omega, n2⟩
                  · obtain ⟨a1, a2⟩ := cE.2.1 (by rw [hx]; exact ⟨(sm_le_iff (a := 1) (by decide) (by omega)).mpr t.1, (sm_le_iff (b := 2) (by omega) (by decide)).mpr t.2⟩)
                    rw [w0, hg] at a2
                    obtain ⟨n, n1, n2⟩ := sm_of a1 a2 (by omega)
                    exact ⟨n, by omega, n2⟩
                refine al_0 dX8_evening_85 ?_
                refine R_getfr (r := 44) dX8_evening_86 fl_RX8_30 rfl sh_1 (Nat.le_of_ble_eq_true rfl) rf_1_3 ?_
                refine cv_0 dX8_evening_89 mm_RX8_255 sh_44 (Nat.le_of_ble_eq_true rfl) ⟨_, rfl, rfl⟩ (Nat.le_of_ble_eq_true rfl) (Nat.le_of_ble_eq_true rfl) (K_isFull (L := 10) (r := 44) (Or.inr (Or.inl ⟨rfl, Or.inl rfl⟩)) hl.1 hl5 (by decide) (fun fu => ?_) (fun fu => ?_))
                · refine R_if_eq (tgt := 100) dX8_evening_92 (by decide) (fun q => absurd q (by decide)) (fun _ => ?_)
                  refine R_bipush (v := -4) dX8_evening_95 (by decide) ?_
                  refine R_goto (tgt := 110) dX8_evening_97 (by decide) ?_
                  refine R_ireturn dX8_evening_110 ⟨_, rfl, rfl⟩ ?_
                  have eA : evenA w el x y = (-4, el) := by unfold evenA; rw [if_neg c2, if_pos cE, if_pos fu]
                  rw [eA] at h
                  exact h mi ml D (HI.refl _ _) hc
                · refine R_if_eq (tgt := 100) dX8_evening_92 (by decide) (fun _ => ?_) (fun q => absurd q (by decide))
                  refine al_0 dX8_evening_100 ?_
                  refine R_getfr (r := 44) dX8_evening_101 fl_RX8_30 rfl sh_1 (Nat.le_of_ble_eq_true rfl) rf_1_3 ?_
                  refine il_1 dX8_evening_104 ?_
                  refine il_2 dX8_evening_105 ?_
                  refine R_iconst (v := 0) dX8_evening_106 (by decide) ?_
                  refine cv_3 dX8_evening_107 mm_RX8_259 sh_44 (Nat.le_of_ble_eq_true rfl) ⟨_, rfl, rfl⟩ (Nat.le_of_ble_eq_true rfl) (Nat.le_of_ble_eq_true rfl) (K_addRow (L := 10) (r := 44) (Or.inr (Or.inl ⟨rfl, Or.inl rfl⟩)) hl.1 fu (by decide) ?_)
                  refine R_ireturn dX8_evening_110 ⟨_, rfl, rfl⟩ ?_
                  have eA : evenA w el x y = (nI (el.length + 1), el ++ [(xx, nn y)]) := by unfold evenA; rw [if_neg c2, if_pos cE, if_neg (show ¬ el.length = 10 by omega), hnx]
                  rw [eA] at h
                  have ea : ∀ a, (a < 44 ∨ 47 < a) → (rn_u (rn_u (rn_u (rn_u mi (44 + 1) el.length x) (44 + 2) el.length y) (44 + 3) el.length 0) 44 3 (nI el.length + 1)) a = mi a := fun a ha => by rw [rn_u_ne (by omega), rn_u_ne (by omega), rn_u_ne (by omega), rn_u_ne (by omega)]
                  refine h (rn_u (rn_u (rn_u (rn_u mi (44 + 1) el.length x) (44 + 2) el.length y) (44 + 3) el.length 0) 44 3 (nI el.length + 1)) ml D (hi_of (fun a ha => ea a (by omega))) (hc.rows hv (hc.2.2.1.fr (fun x x1 x2 => by rw [rn_u_ne (by omega), rn_u_ne (by omega), rn_u_ne (by omega), rn_u_ne (by omega)])) ?_ (hc.2.2.2.2.1.fr (fun x x1 x2 => by rw [rn_u_ne (by omega), rn_u_ne (by omega), rn_u_ne (by omega), rn_u_ne (by omega)])) (fun a ha => ea a (by omega)))
                  refine ⟨by rw [List.length_append]; exact rn_u_eq.trans (sm_add _ 1), fun j q hj => ?_⟩
                  rcases snoc_get hj with ⟨j1, j2⟩ | ⟨j1, j2⟩
                  · obtain ⟨b1, b2⟩ := hl.2 j q j2
                    have jn : j ≠ el.length := by omega
                    refine ⟨?_, fun q1 => ?_⟩
                    · rw [← b1]; simp [rn_u, jn]
                    · rw [← b2 q1]; simp [rn_u, jn]
                  · subst j1; subst j2
                    refine ⟨?_, fun q1 => ?_⟩
                    · dsimp only; rw [← hx]; simp [rn_u]
                    · obtain ⟨n, n1, n2⟩ := hyn q1
                      dsimp only
                      rw [n2, nnI (by omega)]; simp [rn_u]
          · refine al_0 dX8_evening_47 ?_
            refine R_getfr (r := 2) dX8_evening_48 fl_RX8_12 rfl sh_1 (Nat.le_of_ble_eq_true rfl) rf_1_0 ?_
            refine il_2 dX8_evening_51 ?_
            refine cv_1 dX8_evening_52 mm_RX8_93 sh_2 (Nat.le_of_ble_eq_true rfl) ⟨_, rfl, rfl⟩ (Nat.le_of_ble_eq_true rfl) (Nat.le_of_ble_eq_true rfl) (K_hasPerson hB (fun c52 => ?_) (fun c52 => ?_))
            · refine R_if_ne (tgt := 62) dX8_evening_55 (by decide) (fun _ => ?_) (fun q => absurd q (by decide))
              refine R_iconst (v := 0) dX8_evening_62 (by decide) ?_
              refine is_4 dX8_evening_63 rfl ?_
              refine il_1 dX8_evening_65 ?_
              refine R_if_lt (tgt := 83) dX8_evening_66 (by decide) (fun c66 => ?_) (fun c66 => ?_)
              · refine R_iconst (v := -1) dX8_evening_83 (by decide) ?_
                refine R_ireturn dX8_evening_84 ⟨_, rfl, rfl⟩ ?_
                have eA : evenA w el x y = (-1, el) := by unfold evenA; rw [if_neg c2, if_neg (fun q => by first | exact Int32.not_lt.mpr q.1.1 (by first | exact c66 | exact Int32.not_le.mp c66) | exact Int32.not_lt.mpr q.1.2 (by first | exact c71 | exact Int32.not_le.mp c71) | (have := q.2.1 (one_two.mpr (show x = 1 ∨ x = 2 from by first | exact Or.inl c17 | exact Or.inr c22)); rw [w0] at this; exact c30 this) | (have := q.2.2 c44; rw [w2] at this; exact c52 this))]
                rw [eA] at h
                exact h mi ml D (HI.refl _ _) hc
              · refine il_1 dX8_evening_69 ?_
                refine R_iconst (v := 3) dX8_evening_70 (by decide) ?_
                refine R_icmp_gt (tgt := 83) dX8_evening_71 (by decide) (fun c71 => ?_) (fun c71 => ?_)
                · refine R_iconst (v := -1) dX8_evening_83 (by decide) ?_
                  refine R_ireturn dX8_evening_84 ⟨_, rfl, rfl⟩ ?_
                  have eA : evenA w el x y = (-1, el) := by unfold evenA; rw [if_neg c2, if_neg (fun q => by first | exact Int32.not_lt.mpr q.1.1 (by first | exact c66 | exact Int32.not_le.mp c66) | exact Int32.not_lt.mpr q.1.2 (by first | exact c71 | exact Int32.not_le.mp c71) | (have := q.2.1 (one_two.mpr (show x = 1 ∨ x = 2 from by first | exact Or.inl c17 | exact Or.inr c22)); rw [w0] at this; exact c30 this) | (have := q.2.2 c44; rw [w2] at this; exact c52 this))]
                  rw [eA] at h
                  exact h mi ml D (HI.refl _ _) hc
                · refine il_3 dX8_evening_74 ?_
                  refine R_if_ne (tgt := 83) dX8_evening_75 (by decide) (fun q => absurd q (by decide)) (fun _ => ?_)
                  refine il_4 dX8_evening_78 ?_
                  refine R_if_eq (tgt := 85) dX8_evening_80 (by decide) (fun _ => ?_) (fun q => absurd q (by decide))
                  have cE : (0 ≤ x ∧ x ≤ 3) ∧ (1 ≤ x ∧ x ≤ 2 → 0 ≤ y ∧ y < w.1 0) ∧ (x = 3 → 0 ≤ y ∧ y < w.1 2) := ⟨⟨by first | exact c66 | exact Int32.not_lt.mp c66, by first | exact c71 | exact Int32.not_lt.mp c71⟩, fun q => by rw [w0]; first | exact c30 | exact absurd (one_two.mp q) (fun q => q.elim c17 c22), fun q => by rw [w2]; first | exact c52 | exact absurd q c44⟩
                  obtain ⟨xx, hxx, hx⟩ := sm_of cE.1.1 ((lt_succ_iff (a := 3)).mpr cE.1.2) (by decide)
                  have hnx : nn x = xx := by rw [hx]; exact nnI (by omega)
                  have hyn : 1 ≤ xx → ∃ n, n < 6 ∧ y = nI n := fun q => by
                    have three : xx = 3 ∨ (1 ≤ xx ∧ xx ≤ 2) := by omega
                    rcases three with t | t
                    · obtain ⟨a1, a2⟩ := cE.2.2 (by rw [hx, t]; rfl)
                      rw [w2, hpp] at a2
                      obtain ⟨n, n1, n2⟩ := sm_of a1 a2 (by omega)
                      exact ⟨n, by omega, n2⟩
                    · obtain ⟨a1, a2⟩ := cE.2.1 (by rw [hx]; exact ⟨(sm_le_iff (a := 1) (by decide) (by omega)).mpr t.1, (sm_le_iff (b := 2) (by omega) (by decide)).mpr t.2⟩)
                      rw [w0, hg] at a2
                      obtain ⟨n, n1, n2⟩ := sm_of a1 a2 (by omega)
                      exact ⟨n, by omega, n2⟩
                  refine al_0 dX8_evening_85 ?_
                  refine R_getfr (r := 44) dX8_evening_86 fl_RX8_30 rfl sh_1 (Nat.le_of_ble_eq_true rfl) rf_1_3 ?_
                  refine cv_0 dX8_evening_89 mm_RX8_255 sh_44 (Nat.le_of_ble_eq_true rfl) ⟨_, rfl, rfl⟩ (Nat.le_of_ble_eq_true rfl) (Nat.le_of_ble_eq_true rfl) (K_isFull (L := 10) (r := 44) (Or.inr (Or.inl ⟨rfl, Or.inl rfl⟩)) hl.1 hl5 (by decide) (fun fu => ?_) (fun fu => ?_))
                  · refine R_if_eq (tgt := 100) dX8_evening_92 (by decide) (fun q => absurd q (by decide)) (fun _ => ?_)
                    refine R_bipush (v := -4) dX8_evening_95 (by decide) ?_
                    refine R_goto (tgt := 110) dX8_evening_97 (by decide) ?_
                    refine R_ireturn dX8_evening_110 ⟨_, rfl, rfl⟩ ?_
                    have eA : evenA w el x y = (-4, el) := by unfold evenA; rw [if_neg c2, if_pos cE, if_pos fu]
                    rw [eA] at h
                    exact h mi ml D (HI.refl _ _) hc
                  · refine R_if_eq (tgt := 100) dX8_evening_92 (by decide) (fun _ => ?_) (fun q => absurd q (by decide))
                    refine al_0 dX8_evening_100 ?_
                    refine R_getfr (r := 44) dX8_evening_101 fl_RX8_30 rfl sh_1 (Nat.le_of_ble_eq_true rfl) rf_1_3 ?_
                    refine il_1 dX8_evening_104 ?_
                    refine il_2 dX8_evening_105 ?_
                    refine R_iconst (v := 0) dX8_evening_106 (by decide) ?_
                    refine cv_3 dX8_evening_107 mm_RX8_259 sh_44 (Nat.le_of_ble_eq_true rfl) ⟨_, rfl, rfl⟩ (Nat.le_of_ble_eq_true rfl) (Nat.le_of_ble_eq_true rfl) (K_addRow (L := 10) (r := 44) (Or.inr (Or.inl ⟨rfl, Or.inl rfl⟩)) hl.1 fu (by decide) ?_)
                    refine R_ireturn dX8_evening_110 ⟨_, rfl, rfl⟩ ?_
                    have eA : evenA w el x y = (nI (el.length + 1), el ++ [(xx, nn y)]) := by unfold evenA; rw [if_neg c2, if_pos cE, if_neg (show ¬ el.length = 10 by omega), hnx]
                    rw [eA] at h
                    have ea : ∀ a, (a < 44 ∨ 47 < a) → (rn_u (rn_u (rn_u (rn_u mi (44 + 1) el.length x) (44 + 2) el.length y) (44 + 3) el.length 0) 44 3 (nI el.length + 1)) a = mi a := fun a ha => by rw [rn_u_ne (by omega), rn_u_ne (by omega), rn_u_ne (by omega), rn_u_ne (by omega)]
                    refine h (rn_u (rn_u (rn_u (rn_u mi (44 + 1) el.length x) (44 + 2) el.length y) (44 + 3) el.length 0) 44 3 (nI el.length + 1)) ml D (hi_of (fun a ha => ea a (by omega))) (hc.rows hv (hc.2.2.1.fr (fun x x1 x2 => by rw [rn_u_ne (by omega), rn_u_ne (by omega), rn_u_ne (by omega), rn_u_ne (by omega)])) ?_ (hc.2.2.2.2.1.fr (fun x x1 x2 => by rw [rn_u_ne (by omega), rn_u_ne (by omega), rn_u_ne (by omega), rn_u_ne (by omega)])) (fun a ha => ea a (by omega)))
                    refine ⟨by rw [List.length_append]; exact rn_u_eq.trans (sm_add _ 1), fun j q hj => ?_⟩
                    rcases snoc_get hj with ⟨j1, j2⟩ | ⟨j1, j2⟩
                    · obtain ⟨b1, b2⟩ := hl.2 j q j2
                      have jn : j ≠ el.length := by omega
                      refine ⟨?_, fun q1 => ?_⟩
                      · rw [← b1]; simp [rn_u, jn]
                      · rw [← b2 q1]; simp [rn_u, jn]
                    · subst j1; subst j2
                      refine ⟨?_, fun q1 => ?_⟩
                      · dsimp only; rw [← hx]; simp [rn_u]
                      · obtain ⟨n, n1, n2⟩ := hyn q1
                        dsimp only
                        rw [n2, nnI (by omega)]; simp [rn_u]
            · refine R_if_ne (tgt := 62) dX8_evening_55 (by decide) (fun q => absurd q (by decide)) (fun _ => ?_)
              refine R_iconst (v := 1) dX8_evening_58 (by decide) ?_
              refine R_goto (tgt := 63) dX8_evening_59 (by decide) ?_
              refine is_4 dX8_evening_63 rfl ?_
              refine il_1 dX8_evening_65 ?_
              refine R_if_lt (tgt := 83) dX8_evening_66 (by decide) (fun c66 => ?_) (fun c66 => ?_)
              · refine R_iconst (v := -1) dX8_evening_83 (by decide) ?_
                refine R_ireturn dX8_evening_84 ⟨_, rfl, rfl⟩ ?_
                have eA : evenA w el x y = (-1, el) := by unfold evenA; rw [if_neg c2, if_neg (fun q => by first | exact Int32.not_lt.mpr q.1.1 (by first | exact c66 | exact Int32.not_le.mp c66) | exact Int32.not_lt.mpr q.1.2 (by first | exact c71 | exact Int32.not_le.mp c71) | (have := q.2.1 (one_two.mpr (show x = 1 ∨ x = 2 from by first | exact Or.inl c17 | exact Or.inr c22)); rw [w0] at this; exact c30 this) | (have := q.2.2 c44; rw [w2] at this; exact c52 this))]
                rw [eA] at h
                exact h mi ml D (HI.refl _ _) hc
              · refine il_1 dX8_evening_69 ?_
                refine R_iconst (v := 3) dX8_evening_70 (by decide) ?_
                refine R_icmp_gt (tgt := 83) dX8_evening_71 (by decide) (fun c71 => ?_) (fun c71 => ?_)
                · refine R_iconst (v := -1) dX8_evening_83 (by decide) ?_
                  refine R_ireturn dX8_evening_84 ⟨_, rfl, rfl⟩ ?_
                  have eA : evenA w el x y = (-1, el) := by unfold evenA; rw [if_neg c2, if_neg (fun q => by first | exact Int32.not_lt.mpr q.1.1 (by first | exact c66 | exact Int32.not_le.mp c66) | exact Int32.not_lt.mpr q.1.2 (by first | exact c71 | exact Int32.not_le.mp c71) | (have := q.2.1 (one_two.mpr (show x = 1 ∨ x = 2 from by first | exact Or.inl c17 | exact Or.inr c22)); rw [w0] at this; exact c30 this) | (have := q.2.2 c44; rw [w2] at this; exact c52 this))]
                  rw [eA] at h
                  exact h mi ml D (HI.refl _ _) hc
                · refine il_3 dX8_evening_74 ?_
                  refine R_if_ne (tgt := 83) dX8_evening_75 (by decide) (fun q => absurd q (by decide)) (fun _ => ?_)
                  refine il_4 dX8_evening_78 ?_
                  refine R_if_eq (tgt := 85) dX8_evening_80 (by decide) (fun q => absurd q (by decide)) (fun _ => ?_)
                  refine R_iconst (v := -1) dX8_evening_83 (by decide) ?_
                  refine R_ireturn dX8_evening_84 ⟨_, rfl, rfl⟩ ?_
                  have eA : evenA w el x y = (-1, el) := by unfold evenA; rw [if_neg c2, if_neg (fun q => by first | exact Int32.not_lt.mpr q.1.1 (by first | exact c66 | exact Int32.not_le.mp c66) | exact Int32.not_lt.mpr q.1.2 (by first | exact c71 | exact Int32.not_le.mp c71) | (have := q.2.1 (one_two.mpr (show x = 1 ∨ x = 2 from by first | exact Or.inl c17 | exact Or.inr c22)); rw [w0] at this; exact c30 this) | (have := q.2.2 c44; rw [w2] at this; exact c52 this))]
                  rw [eA] at h
                  exact h mi ml D (HI.refl _ _) hc
        · refine R_if_ne (tgt := 40) dX8_evening_33 (by decide) (fun q => absurd q (by decide)) (fun _ => ?_)
          refine R_iconst (v := 1) dX8_evening_36 (by decide) ?_
          refine R_goto (tgt := 41) dX8_evening_37 (by decide) ?_
          refine is_3 dX8_evening_41 rfl ?_
          refine il_1 dX8_evening_42 ?_
          refine R_iconst (v := 3) dX8_evening_43 (by decide) ?_
          refine R_icmp_ne (tgt := 62) dX8_evening_44 (by decide) (fun c44 => ?_) (fun c44 => ?_)
          · refine R_iconst (v := 0) dX8_evening_62 (by decide) ?_
            refine is_4 dX8_evening_63 rfl ?_
            refine il_1 dX8_evening_65 ?_
            refine R_if_lt (tgt := 83) dX8_evening_66 (by decide) (fun c66 => ?_) (fun c66 => ?_)
            · refine R_iconst (v := -1) dX8_evening_83 (by decide) ?_
              refine R_ireturn dX8_evening_84 ⟨_, rfl, rfl⟩ ?_
              have eA : evenA w el x y = (-1, el) := by unfold evenA; rw [if_neg c2, if_neg (fun q => by first | exact Int32.not_lt.mpr q.1.1 (by first | exact c66 | exact Int32.not_le.mp c66) | exact Int32.not_lt.mpr q.1.2 (by first | exact c71 | exact Int32.not_le.mp c71) | (have := q.2.1 (one_two.mpr (show x = 1 ∨ x = 2 from by first | exact Or.inl c17 | exact Or.inr c22)); rw [w0] at this; exact c30 this) | (have := q.2.2 c44; rw [w2] at this; exact c52 this))]
              rw [eA] at h
              exact h mi ml D (HI.refl _ _) hc
            · refine il_1 dX8_evening_69 ?_
              refine R_iconst (v := 3) dX8_evening_70 (by decide) ?_
              refine R_icmp_gt (tgt := 83) dX8_evening_71 (by decide) (fun c71 => ?_) (fun c71 => ?_)
              · refine R_iconst (v := -1) dX8_evening_83 (by decide) ?_
                refine R_ireturn dX8_evening_84 ⟨_, rfl, rfl⟩ ?_
                have eA : evenA w el x y = (-1, el) := by unfold evenA; rw [if_neg c2, if_neg (fun q => by first | exact Int32.not_lt.mpr q.1.1 (by first | exact c66 | exact Int32.not_le.mp c66) | exact Int32.not_lt.mpr q.1.2 (by first | exact c71 | exact Int32.not_le.mp c71) | (have := q.2.1 (one_two.mpr (show x = 1 ∨ x = 2 from by first | exact Or.inl c17 | exact Or.inr c22)); rw [w0] at this; exact c30 this) | (have := q.2.2 c44; rw [w2] at this; exact c52 this))]
                rw [eA] at h
                exact h mi ml D (HI.refl _ _) hc
              · refine il_3 dX8_evening_74 ?_
                refine R_if_ne (tgt := 83) dX8_evening_75 (by decide) (fun _ => ?_) (fun q => absurd q (by decide))
                refine R_iconst (v := -1) dX8_evening_83 (by decide) ?_
                refine R_ireturn dX8_evening_84 ⟨_, rfl, rfl⟩ ?_
                have eA : evenA w el x y = (-1, el) := by unfold evenA; rw [if_neg c2, if_neg (fun q => by first | exact Int32.not_lt.mpr q.1.1 (by first | exact c66 | exact Int32.not_le.mp c66) | exact Int32.not_lt.mpr q.1.2 (by first | exact c71 | exact Int32.not_le.mp c71) | (have := q.2.1 (one_two.mpr (show x = 1 ∨ x = 2 from by first | exact Or.inl c17 | exact Or.inr c22)); rw [w0] at this; exact c30 this) | (have := q.2.2 c44; rw [w2] at this; exact c52 this))]
                rw [eA] at h
                exact h mi ml D (HI.refl _ _) hc
          · refine al_0 dX8_evening_47 ?_
            refine R_getfr (r := 2) dX8_evening_48 fl_RX8_12 rfl sh_1 (Nat.le_of_ble_eq_true rfl) rf_1_0 ?_
            refine il_2 dX8_evening_51 ?_
            refine cv_1 dX8_evening_52 mm_RX8_93 sh_2 (Nat.le_of_ble_eq_true rfl) ⟨_, rfl, rfl⟩ (Nat.le_of_ble_eq_true rfl) (Nat.le_of_ble_eq_true rfl) (K_hasPerson hB (fun c52 => ?_) (fun c52 => ?_))
            · refine R_if_ne (tgt := 62) dX8_evening_55 (by decide) (fun _ => ?_) (fun q => absurd q (by decide))
              refine R_iconst (v := 0) dX8_evening_62 (by decide) ?_
              refine is_4 dX8_evening_63 rfl ?_
              refine il_1 dX8_evening_65 ?_
              refine R_if_lt (tgt := 83) dX8_evening_66 (by decide) (fun c66 => ?_) (fun c66 => ?_)
              · refine R_iconst (v := -1) dX8_evening_83 (by decide) ?_
                refine R_ireturn dX8_evening_84 ⟨_, rfl, rfl⟩ ?_
                have eA : evenA w el x y = (-1, el) := by unfold evenA; rw [if_neg c2, if_neg (fun q => by first | exact Int32.not_lt.mpr q.1.1 (by first | exact c66 | exact Int32.not_le.mp c66) | exact Int32.not_lt.mpr q.1.2 (by first | exact c71 | exact Int32.not_le.mp c71) | (have := q.2.1 (one_two.mpr (show x = 1 ∨ x = 2 from by first | exact Or.inl c17 | exact Or.inr c22)); rw [w0] at this; exact c30 this) | (have := q.2.2 c44; rw [w2] at this; exact c52 this))]
                rw [eA] at h
                exact h mi ml D (HI.refl _ _) hc
              · refine il_1 dX8_evening_69 ?_
                refine R_iconst (v := 3) dX8_evening_70 (by decide) ?_
                refine R_icmp_gt (tgt := 83) dX8_evening_71 (by decide) (fun c71 => ?_) (fun c71 => ?_)
                · refine R_iconst (v := -1) dX8_evening_83 (by decide) ?_
                  refine R_ireturn dX8_evening_84 ⟨_, rfl, rfl⟩ ?_
                  have eA : evenA w el x y = (-1, el) := by unfold evenA; rw [if_neg c2, if_neg (fun q => by first | exact Int32.not_lt.mpr q.1.1 (by first | exact c66 | exact Int32.not_le.mp c66) | exact Int32.not_lt.mpr q.1.2 (by first | exact c71 | exact Int32.not_le.mp c71) | (have := q.2.1 (one_two.mpr (show x = 1 ∨ x = 2 from by first | exact Or.inl c17 | exact Or.inr c22)); rw [w0] at this; exact c30 this) | (have := q.2.2 c44; rw [w2] at this; exact c52 this))]
                  rw [eA] at h
                  exact h mi ml D (HI.refl _ _) hc
                · refine il_3 dX8_evening_74 ?_
                  refine R_if_ne (tgt := 83) dX8_evening_75 (by decide) (fun _ => ?_) (fun q => absurd q (by decide))
                  refine R_iconst (v := -1) dX8_evening_83 (by decide) ?_
                  refine R_ireturn dX8_evening_84 ⟨_, rfl, rfl⟩ ?_
                  have eA : evenA w el x y = (-1, el) := by unfold evenA; rw [if_neg c2, if_neg (fun q => by first | exact Int32.not_lt.mpr q.1.1 (by first | exact c66 | exact Int32.not_le.mp c66) | exact Int32.not_lt.mpr q.1.2 (by first | exact c71 | exact Int32.not_le.mp c71) | (have := q.2.1 (one_two.mpr (show x = 1 ∨ x = 2 from by first | exact Or.inl c17 | exact Or.inr c22)); rw [w0] at this; exact c30 this) | (have := q.2.2 c44; rw [w2] at this; exact c52 this))]
                  rw [eA] at h
                  exact h mi ml D (HI.refl _ _) hc
            · refine R_if_ne (tgt := 62) dX8_evening_55 (by decide) (fun q => absurd q (by decide)) (fun _ => ?_)
              refine R_iconst (v := 1) dX8_evening_58 (by decide) ?_
              refine R_goto (tgt := 63) dX8_evening_59 (by decide) ?_
              refine is_4 dX8_evening_63 rfl ?_
              refine il_1 dX8_evening_65 ?_
              refine R_if_lt (tgt := 83) dX8_evening_66 (by decide) (fun c66 => ?_) (fun c66 => ?_)
              · refine R_iconst (v := -1) dX8_evening_83 (by decide) ?_
                refine R_ireturn dX8_evening_84 ⟨_, rfl, rfl⟩ ?_
                have eA : evenA w el x y = (-1, el) := by unfold evenA; rw [if_neg c2, if_neg (fun q => by first | exact Int32.not_lt.mpr q.1.1 (by first | exact c66 | exact Int32.not_le.mp c66) | exact Int32.not_lt.mpr q.1.2 (by first | exact c71 | exact Int32.not_le.mp c71) | (have := q.2.1 (one_two.mpr (show x = 1 ∨ x = 2 from by first | exact Or.inl c17 | exact Or.inr c22)); rw [w0] at this; exact c30 this) | (have := q.2.2 c44; rw [w2] at this; exact c52 this))]
                rw [eA] at h
                exact h mi ml D (HI.refl _ _) hc
              · refine il_1 dX8_evening_69 ?_
                refine R_iconst (v := 3) dX8_evening_70 (by decide) ?_
                refine R_icmp_gt (tgt := 83) dX8_evening_71 (by decide) (fun c71 => ?_) (fun c71 => ?_)
                · refine R_iconst (v := -1) dX8_evening_83 (by decide) ?_
                  refine R_ireturn dX8_evening_84 ⟨_, rfl, rfl⟩ ?_
                  have eA : evenA w el x y = (-1, el) := by unfold evenA; rw [if_neg c2, if_neg (fun q => by first | exact Int32.not_lt.mpr q.1.1 (by first | exact c66 | exact Int32.not_le.mp c66) | exact Int32.not_lt.mpr q.1.2 (by first | exact c71 | exact Int32.not_le.mp c71) | (have := q.2.1 (one_two.mpr (show x = 1 ∨ x = 2 from by first | exact Or.inl c17 | exact Or.inr c22)); rw [w0] at this; exact c30 this) | (have := q.2.2 c44; rw [w2] at this; exact c52 this))]
                  rw [eA] at h
                  exact h mi ml D (HI.refl _ _) hc
                · refine il_3 dX8_evening_74 ?_
                  refine R_if_ne (tgt := 83) dX8_evening_75 (by decide) (fun _ => ?_) (fun q => absurd q (by decide))
                  refine R_iconst (v := -1) dX8_evening_83 (by decide) ?_
                  refine R_ireturn dX8_evening_84 ⟨_, rfl, rfl⟩ ?_
                  have eA : evenA w el x y = (-1, el) := by unfold evenA; rw [if_neg c2, if_neg (fun q => by first | exact Int32.not_lt.mpr q.1.1 (by first | exact c66 | exact Int32.not_le.mp c66) | exact Int32.not_lt.mpr q.1.2 (by first | exact c71 | exact Int32.not_le.mp c71) | (have := q.2.1 (one_two.mpr (show x = 1 ∨ x = 2 from by first | exact Or.inl c17 | exact Or.inr c22)); rw [w0] at this; exact c30 this) | (have := q.2.2 c44; rw [w2] at this; exact c52 this))]
                  rw [eA] at h
                  exact h mi ml D (HI.refl _ _) hc
  · refine al_0 dX8_evening_5 ?_
    refine R_getfr (r := 44) dX8_evening_6 fl_RX8_30 rfl sh_1 (Nat.le_of_ble_eq_true rfl) rf_1_3 ?_
    refine R_iconst (v := 0) dX8_evening_9 (by decide) ?_
    refine R_putfi dX8_evening_10 fl_RX8_252 rfl (Or.inl rfl) sh_44 (Nat.le_of_ble_eq_true rfl) rfl rfl ?_
    refine R_iconst (v := 0) dX8_evening_13 (by decide) ?_
    refine R_ireturn dX8_evening_14 ⟨_, rfl, rfl⟩ ?_
    have eA : evenA w el x y = (0, []) := by unfold evenA; rw [if_pos c2]
    rw [eA] at h
    exact h (rn_u mi 44 3 0) ml D (hi_of (fun a ha => rn_u_ne (by omega))) (hc.rows hv (hc.2.2.1.fr (fun x _ _ => rn_u_ne (by omega))) ⟨rn_u_eq, fun j q hj => absurd hj (by simp)⟩ (hc.2.2.2.2.1.fr (fun x _ _ => rn_u_ne (by omega))) (fun a ha => rn_u_ne (by omega)))

set_option maxHeartbeats 4000000 in
theorem L_lookedC {G : rn_G} {d : Nat} {κ : Nat × Nat} {Q : Option Value → rn_S → Prop} {mi : Nat → Nat → Int32} {ml : Nat → Nat → Int64} {D : Nat → Nat} {w : WD} {c k : Nat} {ds : Nat → CL} {sl : SL} {el bl : EL} {im : IM} {T : Nat → Nat} {L : Nat} {ac : List Int32} {tp : TP} (hv : IV w c k ds sl el bl im ac tp) (hc : CR w c k ds sl el bl im T L ac tp mi ml D) {V : Int32} (h : Q (some (.int V)) (mi, ml, RF D, 164)) : ∀ (l : EL) (k0 : Nat) (x : Int32), k0 + l.length = bl.length → (∀ j q, l[j]? = some q → bl[k0 + j]? = some q) → x = nI k0 → lkF w l k0 = V → Run G (d + 30) M_X8_looked 2 [.ref 1, .int x] [] (mi, ml, RF D, 164) κ Q := by
  have hw := hv.1.1
  have hk6 := hv.2.2.1
  have hck := hv.2.1
  have hB : PB 2 := Or.inl rfl
  obtain ⟨hD2, hwc, z12, z13, z14⟩ := hc.1
  obtain ⟨cp1, cp2, cp3, cp4⟩ := cuA_pd (c := c) (by omega)
  have hkD : PD (D 2) := by rw [hD2]; exact cp1
  obtain ⟨N, P, R, hN, hP, hR, hg, hpp, hrr, hPJ⟩ := hc.1.n hw
  obtain ⟨w0, w1, w2, w3, w4, w5, w6⟩ := hc.1.cells
  have hl := hc.2.2.2.2.1
  have hl5 := hv.1.2.2.2.2.2.1
  intro l
  induction l with
  | nil =>
    intro k0 x hk hs hx hV
    have hk2 : k0 = bl.length := hk
    have hV0 : -5 = V := hV
    refine il_1 dX8_looked_2 ?_
    refine al_0 dX8_looked_3 ?_
    refine R_getfr (r := 48) dX8_looked_4 fl_RX8_33 rfl sh_1 (Nat.le_of_ble_eq_true rfl) rf_1_4 ?_
    refine R_getfi dX8_looked_7 fl_RX8_252 rfl sh_48 (Nat.le_of_ble_eq_true rfl) ?_
    refine R_icmp_ge (tgt := 53) dX8_looked_10 (by decide) (fun c10 => ?_) (fun q => absurd q (not_not_intro (by rw [hx, hk2, hl.1]; exact Int32.le_refl _)))
    refine R_bipush (v := -5) dX8_looked_53 (by decide) ?_
    refine R_ireturn dX8_looked_55 ⟨_, rfl, rfl⟩ ?_
    rw [hV0]
    exact h
  | cons q l ih =>
    intro k0 x hk hs hx hV
    rw [List.length_cons] at hk
    have hq := hs 0 q rfl
    rw [Nat.add_zero] at hq
    obtain ⟨b1, b2⟩ := hl.2 k0 q hq
    have hqP := (hv.1.2.2.2.2.2.2 q (List.mem_of_getElem? hq)).1
    rw [w2, hpp, nnI (by omega)] at hqP
    have hq6 : q.1 < 6 := by omega
    have hpq : PQ (2 + 7 + 2 * q.1) := pb_q hB hq6
    have hPi : w.2.2.2 q.1 = pC mi (2 + 7 + 2 * q.1) := hc.1.per hpp hP hqP
    have hlk : (if w.2.2.2 q.1 2 = nI q.2 then lkF w l (k0 + 1) else nI k0) = V := hV
    rw [hPi] at hlk
    have hlk : (if mi (2 + 7 + 2 * q.1) 2 = nI q.2 then lkF w l (k0 + 1) else nI k0) = V := hlk
    refine il_1 dX8_looked_2 ?_
    refine al_0 dX8_looked_3 ?_
    refine R_getfr (r := 48) dX8_looked_4 fl_RX8_33 rfl sh_1 (Nat.le_of_ble_eq_true rfl) rf_1_4 ?_
    refine R_getfi dX8_looked_7 fl_RX8_252 rfl sh_48 (Nat.le_of_ble_eq_true rfl) ?_
    refine R_icmp_ge (tgt := 53) dX8_looked_10 (by decide) (fun q => absurd q (by rw [hx, hl.1]; exact nI_ge (by omega) (by omega))) (fun c10 => ?_)
    refine al_0 dX8_looked_13 ?_
    refine R_getfr (r := 2) dX8_looked_14 fl_RX8_12 rfl sh_1 (Nat.le_of_ble_eq_true rfl) rf_1_0 ?_
    refine R_getfr (r := 4) dX8_looked_17 fl_RX8_96 rfl sh_2 (Nat.le_of_ble_eq_true rfl) rf_2_1 ?_
    refine al_0 dX8_looked_20 ?_
    refine R_getfr (r := 48) dX8_looked_21 fl_RX8_33 rfl sh_1 (Nat.le_of_ble_eq_true rfl) rf_1_4 ?_
    refine R_getfr (r := 49) dX8_looked_24 fl_RX8_284 rfl sh_48 (Nat.le_of_ble_eq_true rfl) rf_48_0 ?_
    refine il_1 dX8_looked_27 ?_
    refine R_iald dX8_looked_28 sh_49 (Nat.le_of_ble_eq_true rfl) (rn_ixe hx) (show k0 < 8 by omega) ?_
    refine R_aald (t := 4) (r := (2 + 7 + 2 * q.1)) dX8_looked_29 (by decide) sh_4 (Nat.le_of_ble_eq_true rfl) (rn_ixe b1) hq6 (pb_rq (b := 2) hB hq6) ?_
    refine R_getfi dX8_looked_30 fl_RX8_108 rfl (pq_s0 hpq) (show (2 + 7 + 2 * q.1) < 164 by have := pq_n hpq; omega) ?_
    refine al_0 dX8_looked_33 ?_
    refine R_getfr (r := 48) dX8_looked_34 fl_RX8_33 rfl sh_1 (Nat.le_of_ble_eq_true rfl) rf_1_4 ?_
    refine R_getfr (r := 50) dX8_looked_37 fl_RX8_287 rfl sh_48 (Nat.le_of_ble_eq_true rfl) rf_48_1 ?_
    refine il_1 dX8_looked_40 ?_
    refine R_iald dX8_looked_41 sh_50 (Nat.le_of_ble_eq_true rfl) (rn_ixe hx) (show k0 < 8 by omega) ?_
    refine R_icmp_eq (tgt := 47) dX8_looked_42 (by decide) (fun c42 => ?_) (fun c42 => ?_)
    · refine ii_1 (v := _ + 1) dX8_looked_47 rfl (by rfl) ?_
      refine R_goto (tgt := 2) dX8_looked_50 (by decide) ?_
      have c42 : mi (2 + 7 + 2 * q.1) 2 = nI q.2 := b2 ▸ c42
      rw [if_pos c42] at hlk
      exact ih (k0 + 1) _ (by omega) (fun j u hj => by rw [show k0 + 1 + j = k0 + (j + 1) by omega]; exact hs (j + 1) u hj) (by rw [hx]; exact sm_add k0 1) hlk
    · refine il_1 dX8_looked_45 ?_
      refine R_ireturn dX8_looked_46 ⟨_, rfl, rfl⟩ ?_
      have c42 : ¬ mi (2 + 7 + 2 * q.1) 2 = nI q.2 := b2 ▸ c42
      rw [if_neg c42, ← hx] at hlk
      rw [hlk]
      exact h

set_option maxHeartbeats 4000000 in
theorem KC_looked {G : rn_G} {d : Nat} {κ : Nat × Nat} {Q : Option Value → rn_S → Prop} {mi : Nat → Nat → Int32} {ml : Nat → Nat → Int64} {D : Nat → Nat} {w : WD} {c k : Nat} {ds : Nat → CL} {sl : SL} {el bl : EL} {im : IM} {T : Nat → Nat} {L : Nat} {ac : List Int32} {tp : TP} (hv : IV w c k ds sl el bl im ac tp) (hc : CR w c k ds sl el bl im T L ac tp mi ml D) (h : ∀ m l D', HI mi m ml l → CR w c k ds sl el bl im T L ac tp m l D' → Q (some (.int (lkF w bl 0))) (m, l, RF D', 164))  : Call G (d + 30) M_X8_looked [.ref 1] (mi, ml, RF D, 164) κ Q := by
  show Run G _ M_X8_looked 0 [.ref 1, .null] [] _ _ _
  refine R_iconst (v := 0) dX8_looked_0 (by decide) ?_
  refine is_1 dX8_looked_1 rfl ?_
  exact L_lookedC hv hc (h mi ml D (HI.refl _ _) hc) bl 0 0 (Nat.zero_add _) (fun j q hj => by rw [Nat.zero_add]; exact hj) rfl rfl

set_option maxHeartbeats 4000000 in
theorem KC_feed {G : rn_G} {d : Nat} {κ : Nat × Nat} {Q : Option Value → rn_S → Prop} {mi : Nat → Nat → Int32} {ml : Nat → Nat → Int64} {D : Nat → Nat} {x : Int32} {w : WD} {c k : Nat} {ds : Nat → CL} {sl : SL} {el bl : EL} {im : IM} {T : Nat → Nat} {L : Nat} {ac : List Int32} {tp : TP} (hv : IV w c k ds sl el bl im ac tp) (hc : CR w c k ds sl el bl im T L ac tp mi ml D) (h : ∀ m l D', HI mi m ml l → CR w c k ds sl el bl im (feedA T L x).2.1 (feedA T L x).2.2 ac tp m l D' → Q (some (.int (feedA T L x).1)) (m, l, RF D', 164))  : Call G (d + 30) M_X8_feed [.ref 1, .int x] (mi, ml, RF D, 164) κ Q := by
  show Run G _ M_X8_feed 0 [.ref 1, .int x] [] _ _ _
  have hw := hv.1.1
  have hk6 := hv.2.2.1
  have hck := hv.2.1
  have hB : PB 2 := Or.inl rfl
  obtain ⟨hD2, hwc, z12, z13, z14⟩ := hc.1
  obtain ⟨cp1, cp2, cp3, cp4⟩ := cuA_pd (c := c) (by omega)
  have hkD : PD (D 2) := by rw [hD2]; exact cp1
  obtain ⟨N, P, R, hN, hP, hR, hg, hpp, hrr, hPJ⟩ := hc.1.n hw
  obtain ⟨w0, w1, w2, w3, w4, w5, w6⟩ := hc.1.cells
  obtain ⟨hL, eL, hT⟩ := hc.2.2.2.2.2.2.1
  refine il_1 dX8_feed_0 ?_
  refine R_if_lt (tgt := 10) dX8_feed_1 (by decide) (fun c1 => ?_) (fun c1 => ?_)
  · refine R_bipush (v := -2) dX8_feed_10 (by decide) ?_
    refine R_ireturn dX8_feed_12 ⟨_, rfl, rfl⟩ ?_
    have eA : feedA T L x = (-2, T, L) := by unfold feedA; rw [if_neg (fun q => by first | exact Int32.not_lt.mpr q.1 (by first | exact c1 | exact Int32.not_le.mp c1) | exact Int32.not_lt.mpr q.2 (by first | exact c7 | exact Int32.not_le.mp c7))]
    rw [eA] at h
    exact h mi ml D (HI.refl _ _) hc
  · refine il_1 dX8_feed_4 ?_
    refine R_bipush (v := 127) dX8_feed_5 (by decide) ?_
    refine R_icmp_le (tgt := 13) dX8_feed_7 (by decide) (fun c7 => ?_) (fun c7 => ?_)
    · have cx : 0 ≤ x ∧ x ≤ 127 := ⟨by first | exact c1 | exact Int32.not_lt.mp c1, by first | exact c7 | exact Int32.not_lt.mp c7⟩
      refine al_0 dX8_feed_13 ?_
      refine R_getfr (r := 84) dX8_feed_14 fl_RX8_46 rfl sh_1 (Nat.le_of_ble_eq_true rfl) rf_1_6 ?_
      refine R_getfi dX8_feed_17 fl_RX8_165 rfl sh_84 (Nat.le_of_ble_eq_true rfl) ?_
      refine R_bipush (v := 100) dX8_feed_20 (by decide) ?_
      refine R_icmp_ne (tgt := 28) dX8_feed_22 (by decide) (fun c22 => ?_) (fun c22 => ?_)
      · have hL1 : ¬ L = 100 := fun q => c22 (by rw [eL, q]; rfl)
        have hL2 : L < 100 := by omega
        obtain ⟨t, ht, hx⟩ := sm_of cx.1 ((lt_succ_iff (a := 127)).mpr cx.2) (by decide)
        refine al_0 dX8_feed_28 ?_
        refine R_getfr (r := 84) dX8_feed_29 fl_RX8_46 rfl sh_1 (Nat.le_of_ble_eq_true rfl) rf_1_6 ?_
        refine il_1 dX8_feed_32 ?_
        refine cv_1 dX8_feed_33 mm_RX8_168 sh_84 (Nat.le_of_ble_eq_true rfl) ⟨_, rfl, rfl⟩ (Nat.le_of_ble_eq_true rfl) (Nat.le_of_ble_eq_true rfl) (K_addSign hx ht hL2 eL ?_)
        refine R_ireturn dX8_feed_36 ⟨_, rfl, rfl⟩ ?_
        have eA : feedA T L x = (nI (L + 1), fun j => if j = L then nn x else T j, L + 1) := by unfold feedA; rw [if_pos cx, if_neg hL1]
        rw [eA] at h
        refine h (rn_u (rn_u mi 85 L x) 84 1 (nI (L + 1))) ml D (hi_of (fun a ha => by rw [rn_u_ne (by omega), rn_u_ne (by omega)])) (hc.txt hv ⟨show L + 1 ≤ 100 by omega, rn_u_eq, fun j hj => ?_⟩ ⟨rfl, rfl, rfl, hc.2.2.2.2.2.2.2.2.2.2.2⟩ (fun a a1 a2 _ => by rw [rn_u_ne a1, rn_u_ne a2]))
        have hj : j < L + 1 := hj
        rw [rn_u_ne (show (85 : Nat) ≠ 84 by decide), rn_u_at]
        dsimp only
        by_cases e : j = L
        · rw [if_pos e, if_pos e, hx, nnI (by omega)]; exact ⟨ht, rfl⟩
        · rw [if_neg e, if_neg e]; exact hT j (by omega)
      · refine R_bipush (v := -4) dX8_feed_25 (by decide) ?_
        refine R_ireturn dX8_feed_27 ⟨_, rfl, rfl⟩ ?_
        have eA : feedA T L x = (-4, T, L) := by unfold feedA; rw [if_pos cx, if_pos (sm_inj (b := 100) (by omega) (by decide) (eL.symm.trans c22))]
        rw [eA] at h
        exact h mi ml D (HI.refl _ _) hc
    · refine R_bipush (v := -2) dX8_feed_10 (by decide) ?_
      refine R_ireturn dX8_feed_12 ⟨_, rfl, rfl⟩ ?_
      have eA : feedA T L x = (-2, T, L) := by unfold feedA; rw [if_neg (fun q => by first | exact Int32.not_lt.mpr q.1 (by first | exact c1 | exact Int32.not_le.mp c1) | exact Int32.not_lt.mpr q.2 (by first | exact c7 | exact Int32.not_le.mp c7))]
      rw [eA] at h
      exact h mi ml D (HI.refl _ _) hc

set_option maxHeartbeats 4000000 in
theorem KC_trace {G : rn_G} {d : Nat} {κ : Nat × Nat} {Q : Option Value → rn_S → Prop} {mi : Nat → Nat → Int32} {ml : Nat → Nat → Int64} {D : Nat → Nat} {x : Int32} {w : WD} {c k : Nat} {ds : Nat → CL} {sl : SL} {el bl : EL} {im : IM} {T : Nat → Nat} {L : Nat} {ac : List Int32} {tp : TP} (hv : IV w c k ds sl el bl im ac tp) (hc : CR w c k ds sl el bl im T L ac tp mi ml D) (h : ∀ m l D', HI mi m ml l → CR w c k ds sl el bl im T L ac tp m l D' → Q (some (.int (traceA ac x))) (m, l, RF D', 164))  : Call G (d + 30) M_X8_trace [.ref 1, .int x] (mi, ml, RF D, 164) κ Q := by
  show Run G _ M_X8_trace 0 [.ref 1, .int x] [] _ _ _
  have hw := hv.1.1
  have hk6 := hv.2.2.1
  have hck := hv.2.1
  have hB : PB 2 := Or.inl rfl
  obtain ⟨hD2, hwc, z12, z13, z14⟩ := hc.1
  obtain ⟨cp1, cp2, cp3, cp4⟩ := cuA_pd (c := c) (by omega)
  have hkD : PD (D 2) := by rw [hD2]; exact cp1
  obtain ⟨N, P, R, hN, hP, hR, hg, hpp, hrr, hPJ⟩ := hc.1.n hw
  obtain ⟨w0, w1, w2, w3, w4, w5, w6⟩ := hc.1.cells
  obtain ⟨hac1, hac2⟩ := hc.2.2.2.2.2.2.2.1
  have hac20 := hv.2.2.2.2.1
  have hmin : minJ (mi 89 1) 20 = nI ac.length := by
    unfold minJ
    rw [hac1]
    split
    · rename_i q
      exact absurd ((sm_lt_iff (a := 20) (by decide) (by omega)).mp q) (by omega)
    · rfl
  unfold traceA at h
  refine il_1 dX8_trace_0 ?_
  refine R_if_lt (tgt := 20) dX8_trace_1 (by decide) (fun c1 => ?_) (fun c1 => ?_)
  · refine R_iconst (v := -1) dX8_trace_20 (by decide) ?_
    refine R_goto (tgt := 33) dX8_trace_21 (by decide) ?_
    refine R_ireturn dX8_trace_33 ⟨_, rfl, rfl⟩ ?_
    first
      | (rw [if_pos ⟨⟨x0, by rw [hx]; exact (sm_le_iff (b := 19) (by omega) (by decide)).mpr (by omega)⟩, xl⟩, hx, nnI (by omega)] at h; refine ret_eq (h mi ml D (HI.refl _ _) hc) rfl ?_; rw [List.getD_eq_getElem?_getD, List.getElem?_eq_getElem hil]; exact hac2 i _ (List.getElem?_eq_getElem hil))
      | (rw [if_neg (fun q => by first | exact Int32.not_lt.mpr q.1.1 (by first | exact c1 | exact Int32.not_le.mp c1) | exact Int32.not_lt.mpr (by first | exact c17 | exact Int32.not_lt.mp c17) q.2)] at h; exact h mi ml D (HI.refl _ _) hc)
  · refine il_1 dX8_trace_4 ?_
    refine al_0 dX8_trace_5 ?_
    refine R_getfr (r := 89) dX8_trace_6 fl_RX8_59 rfl sh_1 (Nat.le_of_ble_eq_true rfl) rf_1_8 ?_
    refine R_getfi dX8_trace_9 fl_RX8_325 rfl sh_89 (Nat.le_of_ble_eq_true rfl) ?_
    refine R_bipush (v := 20) dX8_trace_12 (by decide) ?_
    refine cs_2 dX8_trace_14 mm_RX8_332 (Nat.le_of_ble_eq_true rfl) (Nat.le_of_ble_eq_true rfl) (K_min ?_)
    rw [hmin]
    refine R_icmp_lt (tgt := 24) dX8_trace_17 (by decide) (fun c17 => ?_) (fun c17 => ?_)
    · have x0 : 0 ≤ x := by first | exact c1 | exact Int32.not_lt.mp c1
      have xl : x < nI ac.length := by first | exact c17 | exact Int32.not_le.mp c17
      obtain ⟨i, hil, hx⟩ := sm_of x0 xl (by omega)
      refine al_0 dX8_trace_24 ?_
      refine R_getfr (r := 89) dX8_trace_25 fl_RX8_59 rfl sh_1 (Nat.le_of_ble_eq_true rfl) rf_1_8 ?_
      refine R_getfr (r := 90) dX8_trace_28 fl_RX8_335 rfl sh_89 (Nat.le_of_ble_eq_true rfl) rf_89_0 ?_
      refine il_1 dX8_trace_31 ?_
      refine R_iald dX8_trace_32 sh_90 (Nat.le_of_ble_eq_true rfl) (rn_ixe hx) (show i < 20 by omega) ?_
      refine R_ireturn dX8_trace_33 ⟨_, rfl, rfl⟩ ?_
      first
        | (rw [if_pos ⟨⟨x0, by rw [hx]; exact (sm_le_iff (b := 19) (by omega) (by decide)).mpr (by omega)⟩, xl⟩, hx, nnI (by omega)] at h; refine ret_eq (h mi ml D (HI.refl _ _) hc) rfl ?_; rw [List.getD_eq_getElem?_getD, List.getElem?_eq_getElem hil]; exact hac2 i _ (List.getElem?_eq_getElem hil))
        | (rw [if_neg (fun q => by first | exact Int32.not_lt.mpr q.1.1 (by first | exact c1 | exact Int32.not_le.mp c1) | exact Int32.not_lt.mpr (by first | exact c17 | exact Int32.not_lt.mp c17) q.2)] at h; exact h mi ml D (HI.refl _ _) hc)
    · refine R_iconst (v := -1) dX8_trace_20 (by decide) ?_
      refine R_goto (tgt := 33) dX8_trace_21 (by decide) ?_
      refine R_ireturn dX8_trace_33 ⟨_, rfl, rfl⟩ ?_
      first
        | (rw [if_pos ⟨⟨x0, by rw [hx]; exact (sm_le_iff (b := 19) (by omega) (by decide)).mpr (by omega)⟩, xl⟩, hx, nnI (by omega)] at h; refine ret_eq (h mi ml D (HI.refl _ _) hc) rfl ?_; rw [List.getD_eq_getElem?_getD, List.getElem?_eq_getElem hil]; exact hac2 i _ (List.getElem?_eq_getElem hil))
        | (rw [if_neg (fun q => by first | exact Int32.not_lt.mpr q.1.1 (by first | exact c1 | exact Int32.not_le.mp c1) | exact Int32.not_lt.mpr (by first | exact c17 | exact Int32.not_lt.mp c17) q.2)] at h; exact h mi ml D (HI.refl _ _) hc)

set_option maxHeartbeats 4000000 in
theorem KC_count {G : rn_G} {d : Nat} {κ : Nat × Nat} {Q : Option Value → rn_S → Prop} {mi : Nat → Nat → Int32} {ml : Nat → Nat → Int64} {D : Nat → Nat} {x : Int32} {w : WD} {c k : Nat} {ds : Nat → CL} {sl : SL} {el bl : EL} {im : IM} {T : Nat → Nat} {L : Nat} {ac : List Int32} {tp : TP} (hv : IV w c k ds sl el bl im ac tp) (hc : CR w c k ds sl el bl im T L ac tp mi ml D) (h : ∀ m l D', HI mi m ml l → CR w c k ds sl el bl im T L ac tp m l D' → Q (some (.int (countA w k sl el bl L ac x))) (m, l, RF D', 164))  : Call G (d + 30) M_X8_count [.ref 1, .int x] (mi, ml, RF D, 164) κ Q := by
  show Run G _ M_X8_count 0 [.ref 1, .int x] [] _ _ _
  have hw := hv.1.1
  have hk6 := hv.2.2.1
  have hck := hv.2.1
  have hB : PB 2 := Or.inl rfl
  obtain ⟨hD2, hwc, z12, z13, z14⟩ := hc.1
  obtain ⟨cp1, cp2, cp3, cp4⟩ := cuA_pd (c := c) (by omega)
  have hkD : PD (D 2) := by rw [hD2]; exact cp1
  obtain ⟨N, P, R, hN, hP, hR, hg, hpp, hrr, hPJ⟩ := hc.1.n hw
  obtain ⟨w0, wc1, w2, w3, w4, w5, w6⟩ := hc.1.cells
  refine il_1 dX8_count_0 ?_
  by_cases w1_0 : x = 0
  · refine R_tswI (tgt := 52) dX8_count_1 0 w1_0 (by decide) (by decide) rfl (by decide) ?_
    refine al_0 dX8_count_52 ?_
    refine R_getfr (r := 2) dX8_count_53 fl_RX8_12 rfl sh_1 (Nat.le_of_ble_eq_true rfl) rf_1_0 ?_
    refine R_getfi dX8_count_56 fl_RX8_86 rfl sh_2 (Nat.le_of_ble_eq_true rfl) ?_
    refine R_ireturn dX8_count_59 ⟨_, rfl, rfl⟩ ?_
    unfold countA at h
    rw [if_pos w1_0] at h
    refine ret_eq (h mi ml D (HI.refl _ _) hc) rfl ?_
    exact w2.symm
  by_cases w1_1 : x = 1
  · refine R_tswI (tgt := 60) dX8_count_1 1 w1_1 (by decide) (by decide) rfl (by decide) ?_
    refine al_0 dX8_count_60 ?_
    refine R_getfr (r := 2) dX8_count_61 fl_RX8_12 rfl sh_1 (Nat.le_of_ble_eq_true rfl) rf_1_0 ?_
    refine R_getfi dX8_count_64 fl_RX8_75 rfl sh_2 (Nat.le_of_ble_eq_true rfl) ?_
    refine R_ireturn dX8_count_67 ⟨_, rfl, rfl⟩ ?_
    unfold countA at h
    rw [if_neg w1_0, if_pos w1_1] at h
    refine ret_eq (h mi ml D (HI.refl _ _) hc) rfl ?_
    exact w0.symm
  by_cases w1_2 : x = 2
  · refine R_tswI (tgt := 68) dX8_count_1 2 w1_2 (by decide) (by decide) rfl (by decide) ?_
    refine al_0 dX8_count_68 ?_
    refine R_getfi dX8_count_69 fl_RX8_171 rfl sh_1 (Nat.le_of_ble_eq_true rfl) ?_
    refine R_ireturn dX8_count_72 ⟨_, rfl, rfl⟩ ?_
    unfold countA at h
    rw [if_neg w1_0, if_neg w1_1, if_pos w1_2] at h
    refine ret_eq (h mi ml D (HI.refl _ _) hc) rfl ?_
    exact hc.2.1.1
  by_cases w1_3 : x = 3
  · refine R_tswI (tgt := 73) dX8_count_1 3 w1_3 (by decide) (by decide) rfl (by decide) ?_
    refine al_0 dX8_count_73 ?_
    refine R_getfr (r := 2) dX8_count_74 fl_RX8_12 rfl sh_1 (Nat.le_of_ble_eq_true rfl) rf_1_0 ?_
    refine R_getfi dX8_count_77 fl_RX8_159 rfl sh_2 (Nat.le_of_ble_eq_true rfl) ?_
    refine R_ireturn dX8_count_80 ⟨_, rfl, rfl⟩ ?_
    unfold countA at h
    rw [if_neg w1_0, if_neg w1_1, if_neg w1_2, if_pos w1_3] at h
    refine ret_eq (h mi ml D (HI.refl _ _) hc) rfl ?_
    exact w4.symm
  by_cases w1_4 : x = 4
  · refine R_tswI (tgt := 81) dX8_count_1 4 w1_4 (by decide) (by decide) rfl (by decide) ?_
    refine al_0 dX8_count_81 ?_
    refine R_getfr (r := 40) dX8_count_82 fl_RX8_26 rfl sh_1 (Nat.le_of_ble_eq_true rfl) rf_1_2 ?_
    refine R_getfi dX8_count_85 fl_RX8_252 rfl sh_40 (Nat.le_of_ble_eq_true rfl) ?_
    refine R_ireturn dX8_count_88 ⟨_, rfl, rfl⟩ ?_
    unfold countA at h
    rw [if_neg w1_0, if_neg w1_1, if_neg w1_2, if_neg w1_3, if_pos w1_4] at h
    refine ret_eq (h mi ml D (HI.refl _ _) hc) rfl ?_
    exact hc.2.2.1.1
  by_cases w1_5 : x = 5
  · refine R_tswI (tgt := 89) dX8_count_1 5 w1_5 (by decide) (by decide) rfl (by decide) ?_
    refine al_0 dX8_count_89 ?_
    refine R_getfr (r := 44) dX8_count_90 fl_RX8_30 rfl sh_1 (Nat.le_of_ble_eq_true rfl) rf_1_3 ?_
    refine R_getfi dX8_count_93 fl_RX8_252 rfl sh_44 (Nat.le_of_ble_eq_true rfl) ?_
    refine R_ireturn dX8_count_96 ⟨_, rfl, rfl⟩ ?_
    unfold countA at h
    rw [if_neg w1_0, if_neg w1_1, if_neg w1_2, if_neg w1_3, if_neg w1_4, if_pos w1_5] at h
    refine ret_eq (h mi ml D (HI.refl _ _) hc) rfl ?_
    exact hc.2.2.2.1.1
  by_cases w1_6 : x = 6
  · refine R_tswI (tgt := 97) dX8_count_1 6 w1_6 (by decide) (by decide) rfl (by decide) ?_
    refine al_0 dX8_count_97 ?_
    refine R_getfr (r := 48) dX8_count_98 fl_RX8_33 rfl sh_1 (Nat.le_of_ble_eq_true rfl) rf_1_4 ?_
    refine R_getfi dX8_count_101 fl_RX8_252 rfl sh_48 (Nat.le_of_ble_eq_true rfl) ?_
    refine R_ireturn dX8_count_104 ⟨_, rfl, rfl⟩ ?_
    unfold countA at h
    rw [if_neg w1_0, if_neg w1_1, if_neg w1_2, if_neg w1_3, if_neg w1_4, if_neg w1_5, if_pos w1_6] at h
    refine ret_eq (h mi ml D (HI.refl _ _) hc) rfl ?_
    exact hc.2.2.2.2.1.1
  by_cases w1_7 : x = 7
  · refine R_tswI (tgt := 105) dX8_count_1 7 w1_7 (by decide) (by decide) rfl (by decide) ?_
    refine al_0 dX8_count_105 ?_
    refine R_getfr (r := 84) dX8_count_106 fl_RX8_46 rfl sh_1 (Nat.le_of_ble_eq_true rfl) rf_1_6 ?_
    refine R_getfi dX8_count_109 fl_RX8_165 rfl sh_84 (Nat.le_of_ble_eq_true rfl) ?_
    refine R_ireturn dX8_count_112 ⟨_, rfl, rfl⟩ ?_
    unfold countA at h
    rw [if_neg w1_0, if_neg w1_1, if_neg w1_2, if_neg w1_3, if_neg w1_4, if_neg w1_5, if_neg w1_6, if_pos w1_7] at h
    refine ret_eq (h mi ml D (HI.refl _ _) hc) rfl ?_
    exact hc.2.2.2.2.2.2.1.2.1
  by_cases w1_8 : x = 8
  · refine R_tswI (tgt := 113) dX8_count_1 8 w1_8 (by decide) (by decide) rfl (by decide) ?_
    refine al_0 dX8_count_113 ?_
    refine R_getfr (r := 89) dX8_count_114 fl_RX8_59 rfl sh_1 (Nat.le_of_ble_eq_true rfl) rf_1_8 ?_
    refine R_getfi dX8_count_117 fl_RX8_325 rfl sh_89 (Nat.le_of_ble_eq_true rfl) ?_
    refine R_ireturn dX8_count_120 ⟨_, rfl, rfl⟩ ?_
    unfold countA at h
    rw [if_neg w1_0, if_neg w1_1, if_neg w1_2, if_neg w1_3, if_neg w1_4, if_neg w1_5, if_neg w1_6, if_neg w1_7, if_pos w1_8] at h
    refine ret_eq (h mi ml D (HI.refl _ _) hc) rfl ?_
    exact hc.2.2.2.2.2.2.2.1.1
  refine R_tswO (tgt := 121) dX8_count_1 (by have w1_0' := lv_neT (a := 0) w1_0 rfl; have w1_1' := lv_neT (a := 1) w1_1 rfl; have w1_2' := lv_neT (a := 2) w1_2 rfl; have w1_3' := lv_neT (a := 3) w1_3 rfl; have w1_4' := lv_neT (a := 4) w1_4 rfl; have w1_5' := lv_neT (a := 5) w1_5 rfl; have w1_6' := lv_neT (a := 6) w1_6 rfl; have w1_7' := lv_neT (a := 7) w1_7 rfl; have w1_8' := lv_neT (a := 8) w1_8 rfl; omega) (by decide) ?_
  refine R_bipush (v := -2) dX8_count_121 (by decide) ?_
  refine R_ireturn dX8_count_123 ⟨_, rfl, rfl⟩ ?_
  unfold countA at h
  rw [if_neg w1_0, if_neg w1_1, if_neg w1_2, if_neg w1_3, if_neg w1_4, if_neg w1_5, if_neg w1_6, if_neg w1_7, if_neg w1_8] at h
  exact h mi ml D (HI.refl _ _) hc
