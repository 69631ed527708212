/-! the class: image, undo -/
theorem min_l {n L : Nat} (hn : n ≤ L) (hL : L ≤ 10) : minJ (nI n) (Int32.ofNat L) = nI n := by
  have e : Int32.ofNat L = nI L := rfl
  unfold minJ
  rw [e]
  by_cases q : nI L < nI n
  · exact absurd ((sm_lt_iff (by omega) (by omega)).mp q) (by omega)
  · rw [if_neg q]

set_option maxHeartbeats 4000000 in
theorem K_copyRows {G : rn_G} {d : Nat} {κ : Nat × Nat} {Q : Option Value → rn_S → Prop} {mi : Nat → Nat → Int32} {ml : Nat → Nat → Int64} {D : Nat → Nat} {L r q n : Nat} (hR : PR L r) (hq : PR L q) (hne : q + 4 ≤ r ∨ r + 4 ≤ q) (hs : mi q 3 = nI n) (hn : n ≤ L) (hL : L ≤ 10) (h : ∀ m, (∀ a, (a < r ∨ r + 4 ≤ a) → m a = mi a) → m r 3 = nI n → (∀ j, j < n → m (r + 1) j = mi (q + 1) j ∧ m (r + 2) j = mi (q + 2) j ∧ m (r + 3) j = mi (q + 3) j) → Q none (m, ml, RF D, 164)) : Call G (d + 1) M_X6_copyFrom [.ref r, .ref q] (mi, ml, RF D, 164) κ Q := by
  show Run G _ M_X6_copyFrom 0 [.ref r, .ref q] [] _ _ _
  have hmn : minJ (mi q 3) (Int32.ofNat L) = nI n := by rw [hs]; exact min_l hn hL
  refine al_0 dX6_copyFrom_0 ?_
  refine al_1 dX6_copyFrom_1 ?_
  refine R_getfi dX6_copyFrom_2 fl_RX6_19 rfl (pr_s0 hq) (show q < 164 by have := pr_n hq; omega) ?_
  refine al_0 dX6_copyFrom_5 ?_
  refine R_getfr (r := r + 1) dX6_copyFrom_6 fl_RX6_7 rfl (pr_s0 hR) (show r < 164 by have := pr_n hR; omega) (pr_r0 hR) ?_
  refine R_al dX6_copyFrom_9 0 (by decide) (pr_s1 hR) (show r + 1 < 164 by have := pr_n hR; omega) rfl ?_
  refine cs_2 dX6_copyFrom_10 mm_RX6_23 (Nat.le_of_ble_eq_true rfl) (Nat.le_of_ble_eq_true rfl) (K_min ?_)
  rw [hmn]
  refine R_putfi dX6_copyFrom_13 fl_RX6_19 rfl (Or.inl rfl) (pr_s0 hR) (show r < 164 by have := pr_n hR; omega) rfl rfl ?_
  refine al_1 dX6_copyFrom_16 ?_
  refine R_getfr (r := q + 1) dX6_copyFrom_17 fl_RX6_7 rfl (pr_s0 hq) (show q < 164 by have := pr_n hq; omega) (pr_r0 hq) ?_
  refine R_iconst (v := 0) dX6_copyFrom_20 (by decide) ?_
  refine al_0 dX6_copyFrom_21 ?_
  refine R_getfr (r := r + 1) dX6_copyFrom_22 fl_RX6_7 rfl (pr_s0 hR) (show r < 164 by have := pr_n hR; omega) (pr_r0 hR) ?_
  refine R_iconst (v := 0) dX6_copyFrom_25 (by decide) ?_
  refine al_0 dX6_copyFrom_26 ?_
  refine R_getfi dX6_copyFrom_27 fl_RX6_19 rfl (pr_s0 hR) (show r < 164 by have := pr_n hR; omega) ?_
  refine R_copyi dX6_copyFrom_30 ac_RX6_29 ma_nat ma_st ma_in (pr_s1 hq) (pr_s1 hR) rfl (sp := 0) (dp := 0) (len := n) (rn_ixe (show (0 : Int32) = nI 0 from rfl)) (rn_ixe (show (0 : Int32) = nI 0 from rfl)) (rn_ixe rn_u_eq) (by omega) (by omega) (Nat.le_of_ble_eq_true rfl) ?_
  refine al_1 dX6_copyFrom_33 ?_
  refine R_getfr (r := q + 2) dX6_copyFrom_34 fl_RX6_13 rfl (pr_s0 hq) (show q < 164 by have := pr_n hq; omega) (pr_r1 hq) ?_
  refine R_iconst (v := 0) dX6_copyFrom_37 (by decide) ?_
  refine al_0 dX6_copyFrom_38 ?_
  refine R_getfr (r := r + 2) dX6_copyFrom_39 fl_RX6_13 rfl (pr_s0 hR) (show r < 164 by have := pr_n hR; omega) (pr_r1 hR) ?_
  refine R_iconst (v := 0) dX6_copyFrom_42 (by decide) ?_
  refine al_0 dX6_copyFrom_43 ?_
  refine R_getfi dX6_copyFrom_44 fl_RX6_19 rfl (pr_s0 hR) (show r < 164 by have := pr_n hR; omega) ?_
  refine R_copyi dX6_copyFrom_47 ac_RX6_29 ma_nat ma_st ma_in (pr_s2 hq) (pr_s2 hR) rfl (sp := 0) (dp := 0) (len := n) (rn_ixe (show (0 : Int32) = nI 0 from rfl)) (rn_ixe (show (0 : Int32) = nI 0 from rfl)) (rn_ixe (by rw [cp_ne (show r ≠ r + 1 by omega)]; exact rn_u_eq)) (by omega) (by omega) (Nat.le_of_ble_eq_true rfl) ?_
  refine al_1 dX6_copyFrom_50 ?_
  refine R_getfr (r := q + 3) dX6_copyFrom_51 fl_RX6_16 rfl (pr_s0 hq) (show q < 164 by have := pr_n hq; omega) (pr_r2 hq) ?_
  refine R_iconst (v := 0) dX6_copyFrom_54 (by decide) ?_
  refine al_0 dX6_copyFrom_55 ?_
  refine R_getfr (r := r + 3) dX6_copyFrom_56 fl_RX6_16 rfl (pr_s0 hR) (show r < 164 by have := pr_n hR; omega) (pr_r2 hR) ?_
  refine R_iconst (v := 0) dX6_copyFrom_59 (by decide) ?_
  refine al_0 dX6_copyFrom_60 ?_
  refine R_getfi dX6_copyFrom_61 fl_RX6_19 rfl (pr_s0 hR) (show r < 164 by have := pr_n hR; omega) ?_
  refine R_copyi dX6_copyFrom_64 ac_RX6_29 ma_nat ma_st ma_in (pr_s3 hq) (pr_s3 hR) rfl (sp := 0) (dp := 0) (len := n) (rn_ixe (show (0 : Int32) = nI 0 from rfl)) (rn_ixe (show (0 : Int32) = nI 0 from rfl)) (rn_ixe (by rw [cp_ne (show r ≠ r + 2 by omega), cp_ne (show r ≠ r + 1 by omega)]; exact rn_u_eq)) (by omega) (by omega) (Nat.le_of_ble_eq_true rfl) ?_
  refine R_return dX6_copyFrom_67 rfl ?_
  have en : ∀ {f : Nat → Nat → Int32} {x y j : Nat}, j < n → rn_cp f x 0 y 0 n y j = f x j := fun hj => by unfold rn_cp; rw [if_pos ⟨rfl, Nat.zero_le _, by omega⟩, Nat.sub_zero, Nat.zero_add]
  refine h _ (fun a ha => ?_) ?_ (fun j hj => ⟨?_, ?_, ?_⟩)
  · rw [cp_ne (by omega), cp_ne (by omega), cp_ne (by omega), rn_u_ne (by omega)]
  · rw [cp_ne (by omega), cp_ne (by omega), cp_ne (by omega)]; exact rn_u_eq
  · rw [cp_ne (by omega), cp_ne (by omega), en hj, rn_u_ne (by omega)]
  · rw [cp_ne (by omega), en hj, cp_ne (by omega), rn_u_ne (by omega)]
  · rw [en hj, cp_ne (by omega), cp_ne (by omega), rn_u_ne (by omega)]

theorem get_lt {α : Type} {l : List α} {j : Nat} {q : α} (h : l[j]? = some q) : j < l.length := by
  obtain ⟨a, -⟩ := List.getElem?_eq_some_iff.mp h
  exact a
theorem SLC.cp {mi m : Nat → Nat → Int32} {r q : Nat} {sl : SL} (h : SLC mi q sl) (e : m r 3 = nI sl.length) (g : ∀ j, j < sl.length → m (r + 1) j = mi (q + 1) j ∧ m (r + 2) j = mi (q + 2) j ∧ m (r + 3) j = mi (q + 3) j) : SLC m r sl := ⟨e, fun j p hj => by obtain ⟨g1, g2, g3⟩ := g j (get_lt hj); rw [g1, g2, g3]; exact h.2 j p hj⟩
theorem ELC.cp {mi m : Nat → Nat → Int32} {r q : Nat} {sl : EL} (h : ELC mi q sl) (e : m r 3 = nI sl.length) (g : ∀ j, j < sl.length → m (r + 1) j = mi (q + 1) j ∧ m (r + 2) j = mi (q + 2) j ∧ m (r + 3) j = mi (q + 3) j) : ELC m r sl := ⟨e, fun j p hj => by obtain ⟨g1, g2, g3⟩ := g j (get_lt hj); rw [g1, g2]; exact h.2 j p hj⟩
theorem BLC.cp {mi m : Nat → Nat → Int32} {r q : Nat} {sl : EL} (h : BLC mi q sl) (e : m r 3 = nI sl.length) (g : ∀ j, j < sl.length → m (r + 1) j = mi (q + 1) j ∧ m (r + 2) j = mi (q + 2) j ∧ m (r + 3) j = mi (q + 3) j) : BLC m r sl := ⟨e, fun j p hj => by obtain ⟨g1, g2, g3⟩ := g j (get_lt hj); rw [g1, g2]; exact h.2 j p hj⟩

set_option maxHeartbeats 4000000 in
theorem KC_image {G : rn_G} {d : Nat} {κ : Nat × Nat} {Q : Option Value → rn_S → Prop} {mi : Nat → Nat → Int32} {ml : Nat → Nat → Int64} {D : Nat → Nat} {w : WD} {c k : Nat} {ds : Nat → CL} {sl : SL} {el bl : EL} {im : IM} {T : Nat → Nat} {L : Nat} {ac : List Int32} {tp : TP} (hv : IV w c k ds sl el bl im ac tp) (hc : CR w c k ds sl el bl im T L ac tp mi ml D) (h : ∀ m l D', HI mi m ml l → CR w c k ds sl el bl (some (c, w, sl, el, bl)) T L ac tp m l D' → Q (some (.int (w.1 2))) (m, l, RF D', 164)) : Call G (d + 30) M_X8_image [.ref 1] (mi, ml, RF D, 164) κ Q := by
  show Run G _ M_X8_image 0 [.ref 1] [] _ _ _
  have hw := hv.1.1
  have hk6 := hv.2.2.1
  have hck := hv.2.1
  have hB : PB 2 := Or.inl rfl
  obtain ⟨hD2, hwc, z12, z13, z14⟩ := hc.1
  obtain ⟨cp1, cp2, cp3, cp4⟩ := cuA_pd (c := c) (by omega)
  have hkD : PD (D 2) := by rw [hD2]; exact cp1
  obtain ⟨N, P, R, hN, hP, hR, hg, hpp, hrr, hPJ⟩ := hc.1.n hw
  obtain ⟨w0, w1, w2, w3, w4, w5, w6⟩ := hc.1.cells
  have hbz : ∀ i, i < P → bz (mi (2 + 7 + 2 * i) 4) ∧ bz (mi (2 + 7 + 2 * i) 5) := fun i hi => by
    obtain ⟨-, -, -, -, b4, b5, -⟩ := hPJ i hi
    rw [hc.1.per hpp hP hi] at b4 b5
    exact ⟨b4, b5⟩
  obtain ⟨k1, k2, k3, k4, k5, k6, k7, k8, k9, k10, k11, k12⟩ := hc
  obtain ⟨v1, v2, v3, v4, v5, v6⟩ := hv
  have hc : CR w c k ds sl el bl im T L ac tp mi ml D := ⟨k1, k2, k3, k4, k5, k6, k7, k8, k9, k10, k11, k12⟩
  refine al_0 dX8_image_0 ?_
  refine R_getfr (r := 52) dX8_image_1 fl_RX8_39 rfl sh_1 (Nat.le_of_ble_eq_true rfl) rf_1_5 ?_
  refine R_getfr (r := 53) dX8_image_4 fl_RX8_313 rfl sh_52 (Nat.le_of_ble_eq_true rfl) rf_52_0 ?_
  refine al_0 dX8_image_7 ?_
  refine R_getfr (r := 2) dX8_image_8 fl_RX8_12 rfl sh_1 (Nat.le_of_ble_eq_true rfl) rf_1_0 ?_
  refine cv_1 dX8_image_11 mm_RX8_210 sh_53 (Nat.le_of_ble_eq_true rfl) ⟨_, rfl, rfl⟩ (Nat.le_of_ble_eq_true rfl) (Nat.le_of_ble_eq_true rfl) (K_copyFrom (b := 53) (c := 2) (Or.inr (Or.inr rfl)) hB (Or.inr (by decide)) hkD hpp hP hbz z12 z13 z14 (by rw [hg, nnI (by omega)]; exact hN) (by rw [hrr, nnI (by omega)]; exact hR) (fun m hpf hwm e12 e13 e14 => ?_))
  have e0 : ∀ a, (a < 53 ∨ 72 ≤ a) → m a = mi a := hpf.1
  have s1 : m 40 3 = nI sl.length := by rw [e0 40 (by omega)]; exact k3.1
  refine al_0 dX8_image_14 ?_
  refine R_getfr (r := 52) dX8_image_15 fl_RX8_39 rfl sh_1 (Nat.le_of_ble_eq_true rfl) rf_1_5 ?_
  refine R_getfr (r := 72) dX8_image_18 fl_RX8_316 rfl sh_52 (Nat.le_of_ble_eq_true rfl) rf_52_1 ?_
  refine al_0 dX8_image_21 ?_
  refine R_getfr (r := 40) dX8_image_22 fl_RX8_26 rfl sh_1 (Nat.le_of_ble_eq_true rfl) rf_1_2 ?_
  refine cv_1 dX8_image_25 mm_RX8_317 sh_72 (Nat.le_of_ble_eq_true rfl) ⟨_, rfl, rfl⟩ (Nat.le_of_ble_eq_true rfl) (Nat.le_of_ble_eq_true rfl) (K_copyRows (L := 5) (r := 72) (q := 40) (Or.inl ⟨rfl, Or.inr rfl⟩) (Or.inl ⟨rfl, Or.inl rfl⟩) (by decide) s1 v1.2.1 (by decide) (fun m25 g25 e25 n25 => ?_))
  have s2 : m25 44 3 = nI el.length := by rw [g25 44 (by omega), e0 44 (by omega)]; exact k4.1
  refine al_0 dX8_image_28 ?_
  refine R_getfr (r := 52) dX8_image_29 fl_RX8_39 rfl sh_1 (Nat.le_of_ble_eq_true rfl) rf_1_5 ?_
  refine R_getfr (r := 76) dX8_image_32 fl_RX8_320 rfl sh_52 (Nat.le_of_ble_eq_true rfl) rf_52_2 ?_
  refine al_0 dX8_image_35 ?_
  refine R_getfr (r := 44) dX8_image_36 fl_RX8_30 rfl sh_1 (Nat.le_of_ble_eq_true rfl) rf_1_3 ?_
  refine cv_1 dX8_image_39 mm_RX8_317 sh_76 (Nat.le_of_ble_eq_true rfl) ⟨_, rfl, rfl⟩ (Nat.le_of_ble_eq_true rfl) (Nat.le_of_ble_eq_true rfl) (K_copyRows (L := 10) (r := 76) (q := 44) (Or.inr (Or.inl ⟨rfl, Or.inr rfl⟩)) (Or.inr (Or.inl ⟨rfl, Or.inl rfl⟩)) (by decide) s2 v1.2.2.2.1 (by decide) (fun m39 g39 e39 n39 => ?_))
  have s3 : m39 48 3 = nI bl.length := by rw [g39 48 (by omega), g25 48 (by omega), e0 48 (by omega)]; exact k5.1
  refine al_0 dX8_image_42 ?_
  refine R_getfr (r := 52) dX8_image_43 fl_RX8_39 rfl sh_1 (Nat.le_of_ble_eq_true rfl) rf_1_5 ?_
  refine R_getfr (r := 80) dX8_image_46 fl_RX8_321 rfl sh_52 (Nat.le_of_ble_eq_true rfl) rf_52_3 ?_
  refine al_0 dX8_image_49 ?_
  refine R_getfr (r := 48) dX8_image_50 fl_RX8_33 rfl sh_1 (Nat.le_of_ble_eq_true rfl) rf_1_4 ?_
  refine cv_1 dX8_image_53 mm_RX8_317 sh_80 (Nat.le_of_ble_eq_true rfl) ⟨_, rfl, rfl⟩ (Nat.le_of_ble_eq_true rfl) (Nat.le_of_ble_eq_true rfl) (K_copyRows (L := 8) (r := 80) (q := 48) (Or.inr (Or.inr ⟨rfl, Or.inr rfl⟩)) (Or.inr (Or.inr ⟨rfl, Or.inl rfl⟩)) (by decide) s3 v1.2.2.2.2.2.1 (by decide) (fun m53 g53 e53 n53 => ?_))
  refine al_0 dX8_image_56 ?_
  refine R_getfr (r := 52) dX8_image_57 fl_RX8_39 rfl sh_1 (Nat.le_of_ble_eq_true rfl) rf_1_5 ?_
  refine R_iconst (v := 1) dX8_image_60 (by decide) ?_
  refine R_putfi dX8_image_61 fl_RX8_322 rfl (Or.inl rfl) sh_52 (Nat.le_of_ble_eq_true rfl) rfl rfl ?_
  refine al_0 dX8_image_64 ?_
  refine R_getfr (r := 2) dX8_image_65 fl_RX8_12 rfl sh_1 (Nat.le_of_ble_eq_true rfl) rf_1_0 ?_
  refine R_getfi dX8_image_68 fl_RX8_86 rfl sh_2 (Nat.le_of_ble_eq_true rfl) ?_
  refine R_ireturn dX8_image_71 ⟨_, rfl, rfl⟩ ?_
  obtain ⟨M, hM⟩ : ∃ M, M = rn_u m53 52 4 1 := ⟨_, rfl⟩
  rw [← hM]
  have f1 : ∀ a, a ≠ 52 → (a < 80 ∨ 84 ≤ a) → M a = m39 a := fun a a1 a2 => by rw [hM, rn_u_ne a1, g53 a (by omega)]
  have f2 : ∀ a, a ≠ 52 → (a < 76 ∨ 84 ≤ a) → M a = m25 a := fun a a1 a2 => by rw [f1 a a1 (by omega), g39 a (by omega)]
  have f3 : ∀ a, a ≠ 52 → (a < 72 ∨ 84 ≤ a) → M a = m a := fun a a1 a2 => by rw [f2 a a1 (by omega), g25 a (by omega)]
  have f4 : ∀ a, (a < 52 ∨ 84 ≤ a) → M a = mi a := fun a a2 => by rw [f3 a (by omega) (by omega), e0 a (by omega)]
  have ecu : m (cuA c) = mi (cuA c) := e0 _ (by unfold cuA; split <;> omega)
  have w53 : CWd m (ud D 53 (D 2)) 53 c w := ⟨by rw [ud_at]; exact hD2, by rw [← hD2, hwm, hD2]; exact hwc, e12, e13, e14⟩
  have cw : M (cuA c) = m (cuA c) := f3 _ (by unfold cuA; split <;> omega) (by unfold cuA; split <;> omega)
  rw [f4 2 (by omega), ← w2]
  refine h M ml (ud D 53 (D 2)) (hi_of (fun a ha => f4 a (by omega))) ⟨k1.fr v1.1 (ud_ne (by decide)) (cw.trans ecu) (fun a _ _ _ _ _ => f4 a (by omega)), k2.fr v3 (f4 1 (by omega)) (f4 7 (by omega)) (f4 8 (by omega)) (fun a _ _ => f4 a (by omega)), k3.fr (fun x _ _ => f4 x (by omega)), k4.fr (fun x _ _ => f4 x (by omega)), k5.fr (fun x _ _ => f4 x (by omega)), ⟨by rw [hM]; exact rn_u_eq, w53.fr v1.1 rfl cw (fun a _ _ _ _ _ => f3 a (by omega) (by omega)), ?_, ?_, ?_⟩, k7.fr (by rw [f4 84 (by omega)]) (f4 85 (by omega)), k8.fr (f4 89 (by omega)) (f4 90 (by omega)), k9.fr (fun a _ _ => ⟨f4 a (by omega), rfl⟩), by rw [ud_ne (by decide)]; exact k10, by rw [ud_at]; exact hkD, by rw [ud_ne (by decide)]; exact k12⟩
  · refine k3.cp (by rw [f2 72 (by omega) (by omega)]; exact e25) (fun j hj => ?_)
    rw [f2 73 (by omega) (by omega), f2 74 (by omega) (by omega), f2 75 (by omega) (by omega), ← e0 41 (by omega), ← e0 42 (by omega), ← e0 43 (by omega)]
    exact n25 j hj
  · refine k4.cp (by rw [f1 76 (by omega) (by omega)]; exact e39) (fun j hj => ?_)
    rw [f1 77 (by omega) (by omega), f1 78 (by omega) (by omega), f1 79 (by omega) (by omega), ← e0 45 (by omega), ← e0 46 (by omega), ← e0 47 (by omega), ← g25 45 (by omega), ← g25 46 (by omega), ← g25 47 (by omega)]
    exact n39 j hj
  · refine k5.cp (by rw [hM, rn_u_ne (by omega)]; exact e53) (fun j hj => ?_)
    rw [hM, rn_u_ne (by omega), rn_u_ne (by omega), rn_u_ne (by omega), ← e0 49 (by omega), ← e0 50 (by omega), ← e0 51 (by omega), ← g25 49 (by omega), ← g25 50 (by omega), ← g25 51 (by omega), ← g39 49 (by omega), ← g39 50 (by omega), ← g39 51 (by omega)]
    exact n53 j hj

set_option maxHeartbeats 4000000 in
theorem KC_undo0 {G : rn_G} {d : Nat} {κ : Nat × Nat} {Q : Option Value → rn_S → Prop} {mi : Nat → Nat → Int32} {ml : Nat → Nat → Int64} {D : Nat → Nat} {w : WD} {c k : Nat} {ds : Nat → CL} {sl : SL} {el bl : EL} {T : Nat → Nat} {L : Nat} {ac : List Int32} {tp : TP} (hv : IV w c k ds sl el bl none ac tp) (hc : CR w c k ds sl el bl none T L ac tp mi ml D) (h : ∀ m l D', HI mi m ml l → CR (undW none w) (undC none c) k ds (undS none sl) (undE none el) (undB none bl) none T L ac tp m l D' → Q (some (.int (undV none w))) (m, l, RF D', 164)) : Call G (d + 30) M_X8_undo [.ref 1] (mi, ml, RF D, 164) κ Q := by
  show Run G _ M_X8_undo 0 [.ref 1] [] _ _ _
  have i1 : mi 52 4 = 0 := hc.2.2.2.2.2.1
  refine al_0 dX8_undo_0 ?_
  refine R_getfr (r := 52) dX8_undo_1 fl_RX8_39 rfl sh_1 (Nat.le_of_ble_eq_true rfl) rf_1_5 ?_
  refine R_getfi dX8_undo_4 fl_RX8_322 rfl sh_52 (Nat.le_of_ble_eq_true rfl) ?_
  refine R_if_ne (tgt := 13) dX8_undo_7 (by decide) (fun q => absurd q (not_not_intro i1)) (fun c7 => ?_)
  refine R_bipush (v := -3) dX8_undo_10 (by decide) ?_
  refine R_ireturn dX8_undo_12 ⟨_, rfl, rfl⟩ ?_
  exact h mi ml D (HI.refl _ _) hc

set_option maxHeartbeats 4000000 in
theorem KC_undo1 {G : rn_G} {d : Nat} {κ : Nat × Nat} {Q : Option Value → rn_S → Prop} {mi : Nat → Nat → Int32} {ml : Nat → Nat → Int64} {D : Nat → Nat} {w : WD} {c k : Nat} {ds : Nat → CL} {sl : SL} {el bl : EL} {q : Nat × WD × SL × EL × EL} {T : Nat → Nat} {L : Nat} {ac : List Int32} {tp : TP} (hv : IV w c k ds sl el bl (some q) ac tp) (hc : CR w c k ds sl el bl (some q) T L ac tp mi ml D) (h : ∀ m l D', HI mi m ml l → CR (undW (some q) w) (undC (some q) c) k ds (undS (some q) sl) (undE (some q) el) (undB (some q) bl) (some q) T L ac tp m l D' → Q (some (.int (undV (some q) w))) (m, l, RF D', 164)) : Call G (d + 30) M_X8_undo [.ref 1] (mi, ml, RF D, 164) κ Q := by
  show Run G _ M_X8_undo 0 [.ref 1] [] _ _ _
  obtain ⟨k1, k2, k3, k4, k5, k6, k7, k8, k9, k10, k11, k12⟩ := hc
  obtain ⟨v1, v2, v3, v4, v5, v6⟩ := hv
  have hB : PB 2 := Or.inl rfl
  obtain ⟨i1, i2, i3, i4, i5⟩ := k6
  obtain ⟨u1, u2⟩ := v4
  have j2 := i2
  obtain ⟨hD3, hwc3, y12, y13, y14⟩ := i2
  obtain ⟨N, P, R, hN, hP, hR, hg, hpp, hrr, hPJ⟩ := j2.n u1.1
  obtain ⟨cp1, cp2, cp3, cp4⟩ := cuA_pd (c := q.1) (by omega)
  have hbz : ∀ i, i < P → bz (mi (53 + 7 + 2 * i) 4) ∧ bz (mi (53 + 7 + 2 * i) 5) := fun i hi => by
    obtain ⟨-, -, -, -, b4, b5, -⟩ := hPJ i hi
    rw [j2.per hpp hP hi] at b4 b5
    exact ⟨b4, b5⟩
  refine al_0 dX8_undo_0 ?_
  refine R_getfr (r := 52) dX8_undo_1 fl_RX8_39 rfl sh_1 (Nat.le_of_ble_eq_true rfl) rf_1_5 ?_
  refine R_getfi dX8_undo_4 fl_RX8_322 rfl sh_52 (Nat.le_of_ble_eq_true rfl) ?_
  refine R_if_ne (tgt := 13) dX8_undo_7 (by decide) (fun c7 => ?_) (fun q => absurd q (by rw [i1]; decide))
  refine al_0 dX8_undo_13 ?_
  refine R_getfr (r := 2) dX8_undo_14 fl_RX8_12 rfl sh_1 (Nat.le_of_ble_eq_true rfl) rf_1_0 ?_
  refine al_0 dX8_undo_17 ?_
  refine R_getfr (r := 52) dX8_undo_18 fl_RX8_39 rfl sh_1 (Nat.le_of_ble_eq_true rfl) rf_1_5 ?_
  refine R_getfr (r := 53) dX8_undo_21 fl_RX8_313 rfl sh_52 (Nat.le_of_ble_eq_true rfl) rf_52_0 ?_
  refine cv_1 dX8_undo_24 mm_RX8_210 sh_2 (Nat.le_of_ble_eq_true rfl) ⟨_, rfl, rfl⟩ (Nat.le_of_ble_eq_true rfl) (Nat.le_of_ble_eq_true rfl) (K_copyFrom (b := 2) (c := 53) hB (Or.inr (Or.inr rfl)) (Or.inl (by decide)) k11 hpp hP hbz y12 y13 y14 (by rw [hg, nnI (by omega)]; exact hN) (by rw [hrr, nnI (by omega)]; exact hR) (fun m hpf hwm e12 e13 e14 => ?_))
  have e0 : ∀ a, (a < 2 ∨ 21 ≤ a) → m a = mi a := hpf.1
  have s1 : m 72 3 = nI q.2.2.1.length := by rw [e0 72 (by omega)]; exact i3.1
  refine al_0 dX8_undo_27 ?_
  refine R_getfr (r := 40) dX8_undo_28 fl_RX8_26 rfl sh_1 (Nat.le_of_ble_eq_true rfl) rf_1_2 ?_
  refine al_0 dX8_undo_31 ?_
  refine R_getfr (r := 52) dX8_undo_32 fl_RX8_39 rfl sh_1 (Nat.le_of_ble_eq_true rfl) rf_1_5 ?_
  refine R_getfr (r := 72) dX8_undo_35 fl_RX8_316 rfl sh_52 (Nat.le_of_ble_eq_true rfl) rf_52_1 ?_
  refine cv_1 dX8_undo_38 mm_RX8_317 sh_40 (Nat.le_of_ble_eq_true rfl) ⟨_, rfl, rfl⟩ (Nat.le_of_ble_eq_true rfl) (Nat.le_of_ble_eq_true rfl) (K_copyRows (L := 5) (r := 40) (q := 72) (Or.inl ⟨rfl, Or.inl rfl⟩) (Or.inl ⟨rfl, Or.inr rfl⟩) (by decide) s1 u1.2.1 (by decide) (fun m38 g38 e38 n38 => ?_))
  have s2 : m38 76 3 = nI q.2.2.2.1.length := by rw [g38 76 (by omega), e0 76 (by omega)]; exact i4.1
  refine al_0 dX8_undo_41 ?_
  refine R_getfr (r := 44) dX8_undo_42 fl_RX8_30 rfl sh_1 (Nat.le_of_ble_eq_true rfl) rf_1_3 ?_
  refine al_0 dX8_undo_45 ?_
  refine R_getfr (r := 52) dX8_undo_46 fl_RX8_39 rfl sh_1 (Nat.le_of_ble_eq_true rfl) rf_1_5 ?_
  refine R_getfr (r := 76) dX8_undo_49 fl_RX8_320 rfl sh_52 (Nat.le_of_ble_eq_true rfl) rf_52_2 ?_
  refine cv_1 dX8_undo_52 mm_RX8_317 sh_44 (Nat.le_of_ble_eq_true rfl) ⟨_, rfl, rfl⟩ (Nat.le_of_ble_eq_true rfl) (Nat.le_of_ble_eq_true rfl) (K_copyRows (L := 10) (r := 44) (q := 76) (Or.inr (Or.inl ⟨rfl, Or.inl rfl⟩)) (Or.inr (Or.inl ⟨rfl, Or.inr rfl⟩)) (by decide) s2 u1.2.2.2.1 (by decide) (fun m52 g52 e52 n52 => ?_))
  have s3 : m52 80 3 = nI q.2.2.2.2.length := by rw [g52 80 (by omega), g38 80 (by omega), e0 80 (by omega)]; exact i5.1
  refine al_0 dX8_undo_55 ?_
  refine R_getfr (r := 48) dX8_undo_56 fl_RX8_33 rfl sh_1 (Nat.le_of_ble_eq_true rfl) rf_1_4 ?_
  refine al_0 dX8_undo_59 ?_
  refine R_getfr (r := 52) dX8_undo_60 fl_RX8_39 rfl sh_1 (Nat.le_of_ble_eq_true rfl) rf_1_5 ?_
  refine R_getfr (r := 80) dX8_undo_63 fl_RX8_321 rfl sh_52 (Nat.le_of_ble_eq_true rfl) rf_52_3 ?_
  refine cv_1 dX8_undo_66 mm_RX8_317 sh_48 (Nat.le_of_ble_eq_true rfl) ⟨_, rfl, rfl⟩ (Nat.le_of_ble_eq_true rfl) (Nat.le_of_ble_eq_true rfl) (K_copyRows (L := 8) (r := 48) (q := 80) (Or.inr (Or.inr ⟨rfl, Or.inl rfl⟩)) (Or.inr (Or.inr ⟨rfl, Or.inr rfl⟩)) (by decide) s3 u1.2.2.2.2.2.1 (by decide) (fun m66 g66 e66 n66 => ?_))
  refine al_0 dX8_undo_69 ?_
  refine R_getfr (r := 2) dX8_undo_70 fl_RX8_12 rfl sh_1 (Nat.le_of_ble_eq_true rfl) rf_1_0 ?_
  refine R_getfi dX8_undo_73 fl_RX8_86 rfl sh_2 (Nat.le_of_ble_eq_true rfl) ?_
  refine R_ireturn dX8_undo_76 ⟨_, rfl, rfl⟩ ?_
  obtain ⟨M, hM⟩ : ∃ M, M = m66 := ⟨_, rfl⟩
  rw [← hM]
  have f1 : ∀ a, (a < 48 ∨ 52 ≤ a) → M a = m52 a := fun a a2 => by rw [hM, g66 a (by omega)]
  have f2 : ∀ a, (a < 44 ∨ 52 ≤ a) → M a = m38 a := fun a a2 => by rw [f1 a (by omega), g52 a (by omega)]
  have f3 : ∀ a, (a < 40 ∨ 52 ≤ a) → M a = m a := fun a a2 => by rw [f2 a (by omega), g38 a (by omega)]
  have f4 : ∀ a, (a < 2 ∨ 52 ≤ a) → M a = mi a := fun a a2 => by rw [f3 a (by omega), e0 a (by omega)]
  have f7 : M 7 = mi 7 := by rw [f3 7 (by omega)]; exact hpf.2.1
  have f8 : M 8 = mi 8 := by rw [f3 8 (by omega)]; exact hpf.2.2
  have ecu : m (cuA q.1) = mi (cuA q.1) := by
    unfold cuA
    split
    · exact hpf.2.1
    · exact e0 _ (by omega)
  have cw : M (cuA q.1) = m (cuA q.1) := f3 _ (by unfold cuA; split <;> omega)
  have w2 : CWd m (ud D 2 (D 53)) 2 q.1 q.2.1 := ⟨by rw [ud_at]; exact hD3, by rw [← hD3, hwm, hD3]; exact hwc3, e12, e13, e14⟩
  have w3 : CWd M (ud D 2 (D 53)) 2 q.1 q.2.1 := w2.fr u1.1 rfl cw (fun a _ _ _ _ _ => f3 a (by omega))
  have ev : M 2 6 = undV (some q) w := w3.cells.2.2.1.symm
  rw [ev]
  refine h M ml (ud D 2 (D 53)) (hi_of (fun a ha => f4 a (by omega))) ⟨w3, k2.fr v3 (f4 1 (by omega)) f7 f8 (fun a _ _ => f4 a (by omega)), ?_, ?_, ?_, CIm.fr ⟨i1, j2, i3, i4, i5⟩ ⟨u1, u2⟩ v3 (ud_ne (by decide)) f7 (fun a _ _ => f4 a (by omega)) (fun a _ _ => f4 a (by omega)), k7.fr (by rw [f4 84 (by omega)]) (f4 85 (by omega)), k8.fr (f4 89 (by omega)) (f4 90 (by omega)), k9.fr (fun a _ _ => ⟨f4 a (by omega), rfl⟩), by rw [ud_ne (by decide)]; exact k10, by rw [ud_ne (by decide)]; exact k11, by rw [ud_ne (by decide)]; exact k12⟩
  · refine i3.cp (by rw [f2 40 (by omega)]; exact e38) (fun j hj => ?_)
    rw [f2 41 (by omega), f2 42 (by omega), f2 43 (by omega), ← e0 73 (by omega), ← e0 74 (by omega), ← e0 75 (by omega)]
    exact n38 j hj
  · refine i4.cp (by rw [f1 44 (by omega)]; exact e52) (fun j hj => ?_)
    rw [f1 45 (by omega), f1 46 (by omega), f1 47 (by omega), ← e0 77 (by omega), ← e0 78 (by omega), ← e0 79 (by omega), ← g38 77 (by omega), ← g38 78 (by omega), ← g38 79 (by omega)]
    exact n52 j hj
  · refine i5.cp (by rw [hM]; exact e66) (fun j hj => ?_)
    rw [hM, ← e0 81 (by omega), ← e0 82 (by omega), ← e0 83 (by omega), ← g38 81 (by omega), ← g38 82 (by omega), ← g38 83 (by omega), ← g52 81 (by omega), ← g52 82 (by omega), ← g52 83 (by omega)]
    exact n66 j hj

theorem KC_undo {G : rn_G} {d : Nat} {κ : Nat × Nat} {Q : Option Value → rn_S → Prop} {mi : Nat → Nat → Int32} {ml : Nat → Nat → Int64} {D : Nat → Nat} {w : WD} {c k : Nat} {ds : Nat → CL} {sl : SL} {el bl : EL} {im : IM} {T : Nat → Nat} {L : Nat} {ac : List Int32} {tp : TP} (hv : IV w c k ds sl el bl im ac tp) (hc : CR w c k ds sl el bl im T L ac tp mi ml D) (h : ∀ m l D', HI mi m ml l → CR (undW im w) (undC im c) k ds (undS im sl) (undE im el) (undB im bl) im T L ac tp m l D' → Q (some (.int (undV im w))) (m, l, RF D', 164)) : Call G (d + 30) M_X8_undo [.ref 1] (mi, ml, RF D, 164) κ Q := by
  cases im with
  | none => exact KC_undo0 hv hc h
  | some q => exact KC_undo1 hv hc h
