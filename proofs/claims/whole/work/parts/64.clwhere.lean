/-! the class: where, can -/
theorem wC_can {mi : Nat → Nat → Int32} {k b i N n : Nat} (hB : PB b) (hk : PD k) (hp : mi b 6 = nI N) (hN : N ≤ 6) (hi : i < N) : wC (rn_u mi (b + 7 + 2 * i) 1 (nI n)) k b = canW i n (wC mi k b) := by
  have hkq : k ≠ b + 7 + 2 * i := by unfold PD at hk; unfold PB at hB; omega
  refine wC_upP hB hp hN hi (by rw [rn_u_ne hkq]) (fun a _ _ _ _ _ _ h7 h8 => by rw [rn_u_ne h7]) (fun f => ?_)
  rw [wC_P hp hN hi]
  unfold pC
  rw [rn_u_ne (show b + 7 + 2 * i + 1 ≠ b + 7 + 2 * i by omega)]
  by_cases h1 : f = 1
  · subst h1
    simp [rn_u]
  · simp [rn_u, h1]
/-- bits that stand for what holds -/
theorem bits_nat {x : Int32} {ok : Nat → Bool} {n : Nat} (hn : n ≤ 30) (h : ∀ j, j < 32 → bt x j = (decide (j < n) && ok j)) : ∃ s, s < 2 ^ 30 ∧ x = nI s ∧ ∀ j, s.testBit j = (decide (j < n) && ok j) := by
  have e : ∀ j, x.toBitVec.toNat.testBit j = (decide (j < n) && ok j) := fun j => by
    by_cases hj : j < 32
    · rw [← h j hj]; rfl
    · rw [Nat.testBit_lt_two_pow (Nat.lt_of_lt_of_le x.toBitVec.isLt (Nat.pow_le_pow_right (by decide) (by omega))), decide_eq_false (by omega)]; rfl
  refine ⟨x.toBitVec.toNat, ?_, ?_, e⟩
  · exact Nat.lt_pow_two_of_testBit _ (fun j hj => by rw [e j, decide_eq_false (by omega)]; rfl)
  · apply Int32.toBitVec_inj.mp
    show x.toBitVec = BitVec.ofNat 32 x.toBitVec.toNat
    rw [BitVec.ofNat_toNat, BitVec.setWidth_eq]
theorem cnt_pad {ok : Nat → Bool} {n k : Nat} (h : n + k = 30) : cntR (fun j => decide (j < n) && ok j) 0 30 = cntR ok 0 n := by
  rw [← h, cntR_add, Nat.zero_add]
  have e1 : cntR (fun j => decide (j < n) && ok j) 0 n = cntR ok 0 n := cntR_ext n 0 (fun j _ hj => by rw [decide_eq_true (by omega), Bool.true_and])
  have e2 : ∀ k m, n ≤ m → cntR (fun j => decide (j < n) && ok j) m k = 0 := fun k => by
    induction k with
    | zero => intro m _; rfl
    | succ k ih => intro m hm; rw [cntR_succ, ih (m + 1) (by omega), decide_eq_false (by omega)]; rfl
  rw [e1, e2 k n (Nat.le_refl n)]
  rfl
theorem fst_ext {f g : Nat → Bool} : ∀ (k n : Nat), (∀ j, n ≤ j → j < n + k → f j = g j) → fstR f n k = fstR g n k
  | 0, _, _ => rfl
  | k + 1, n, h => by rw [fstR_succ, fstR_succ, h n (Nat.le_refl n) (by omega), fst_ext k (n + 1) (fun j h1 h2 => h j (by omega) (by omega))]
theorem fst_add {f : Nat → Bool} (m : Nat) : ∀ (k n : Nat), (∀ j, n + k ≤ j → f j = false) → fstR f n (k + m) = fstR f n k
  | 0, n, h => by rw [Nat.zero_add]; exact fstR_no m n (fun j h1 _ => h j (by omega))
  | k + 1, n, h => by rw [show k + 1 + m = (k + m) + 1 by omega, fstR_succ, fstR_succ, fst_add m k (n + 1) (fun j hj => h j (by omega))]
theorem fst_pad {ok : Nat → Bool} {n k : Nat} (h : n + k = 30) : fstR (fun j => decide (j < n) && ok j) 0 30 = fstR ok 0 n := by
  rw [← h, fst_add k n 0 (fun j hj => by rw [decide_eq_false (by omega)]; rfl)]
  exact fst_ext n 0 (fun j _ hj => by rw [decide_eq_true (by omega), Bool.true_and])

set_option maxHeartbeats 4000000 in
theorem L_whereC {G : rn_G} {d : Nat} {κ : Nat × Nat} {Q : Option Value → rn_S → Prop} {mi : Nat → Nat → Int32} {ml : Nat → Nat → Int64} {D : Nat → Nat} {w : WD} {c k : Nat} {ds : Nat → CL} {sl : SL} {el bl : EL} {im : IM} {T : Nat → Nat} {L : Nat} {ac : List Int32} {tp : TP} (hv : IV w c k ds sl el bl im ac tp) (hc : CR w c k ds sl el bl im T L ac tp mi ml D) {i P : Nat} {x y : Int32} (hx : x = nI i) (hpp : mi 2 6 = nI P) (hP : P ≤ 6) (hiP : i < P) (h : ∀ m D' (se z : Int32), HI mi m ml ml → CR w c k ds sl el bl im T L ac tp m ml D' → (∀ j, j < 32 → bt se j = (decide (j < 30) && (whB (cuL ds c) sl i w) j)) → Run G (d + 29) M_X8_where 73 [.ref 1, .int x, .int y, .int se, .int z] [] (m, ml, RF D', 164) κ Q) : ∀ (n j : Nat) (z se : Int32) (M : Nat → Nat → Int32) (E : Nat → Nat), n + j = 30 → z = nI j → HI mi M ml ml → CR w c k ds sl el bl im T L ac tp M ml E → (∀ q, q < 32 → bt se q = (decide (q < j) && (whB (cuL ds c) sl i w) q)) → Run G (d + 29) M_X8_where 25 [.ref 1, .int x, .int y, .int se, .int z] [] (M, ml, RF E, 164) κ Q := by
  have hw := hv.1.1
  have hck := hv.2.1
  have hk6 := hv.2.2.1
  obtain ⟨cp1, -⟩ := cuA_pd (c := c) (by omega)
  have w2 : w.1 2 = nI P := hc.1.cells.2.2.1.trans hpp
  have hi6 : i < 6 := by omega
  have htq : PQ (21 + 7 + 2 * i) := pb_q (Or.inr (Or.inl rfl)) hi6
  intro n
  induction n with
  | zero =>
    intro j z se M E hj hz hhi hcr hb
    obtain rfl : j = 30 := by omega
    refine il_4 dX8_where_25 ?_
    refine R_bipush (v := 30) dX8_where_27 (by decide) ?_
    refine R_icmp_ge (tgt := 73) dX8_where_29 (by decide) (fun c29 => ?_) (fun q => absurd q (not_not_intro (by rw [hz]; decide)))
    exact h M E _ _ hhi hcr hb
  | succ n ih =>
    intro j z se M E hj hz hhi hcr hb
    have hj30 : j < 30 := by omega
    refine il_4 dX8_where_25 ?_
    refine R_bipush (v := 30) dX8_where_27 (by decide) ?_
    refine R_icmp_ge (tgt := 73) dX8_where_29 (by decide) (fun q => absurd q (by rw [hz]; exact nI_ge (b := 30) (by omega) (by decide))) (fun c29 => ?_)
    refine al_0 dX8_where_32 ?_
    refine R_getfr (r := 21) dX8_where_33 fl_RX8_18 rfl sh_1 (Nat.le_of_ble_eq_true rfl) rf_1_1 ?_
    refine al_0 dX8_where_36 ?_
    refine R_getfr (r := 2) dX8_where_37 fl_RX8_12 rfl sh_1 (Nat.le_of_ble_eq_true rfl) rf_1_0 ?_
    refine cv_1 dX8_where_40 mm_RX8_210 sh_21 (Nat.le_of_ble_eq_true rfl) ⟨_, rfl, rfl⟩ (Nat.le_of_ble_eq_true rfl) (Nat.le_of_ble_eq_true rfl) (K_trial hv hcr (fun m D1 ht => ?_))
    obtain ⟨P2, hP2, h26, hv2⟩ := ht.n hw
    have eP : P2 = P := sm_inj (by omega) (by omega) (hv2.symm.trans w2)
    rw [eP] at h26
    have e21 := ht.2.2.1
    refine al_0 dX8_where_43 ?_
    refine R_getfr (r := 21) dX8_where_44 fl_RX8_18 rfl sh_1 (Nat.le_of_ble_eq_true rfl) rf_1_1 ?_
    refine il_1 dX8_where_47 ?_
    refine il_4 dX8_where_48 ?_
    refine cv_2 dX8_where_50 mm_RX8_138 sh_21 (Nat.le_of_ble_eq_true rfl) ⟨_, rfl, rfl⟩ (Nat.le_of_ble_eq_true rfl) (Nat.le_of_ble_eq_true rfl) (K_setDown (b := 21) (Or.inr (Or.inl rfl)) hi6 (rn_ixe hx) ?_)
    rw [hz]
    have ht2 : TRY M (rn_u (rn_u m (21 + 7 + 2 * i) 2 (nI j)) (21 + 7 + 2 * i) 5 0) E D1 c (putW i (nI j) w) := ht.next (PF.of (fun a ha => by rw [rn_u_ne (by omega), rn_u_ne (by omega)])) (by rw [wC_put (Or.inr (Or.inl rfl)) cp1 h26 hP hiP, ht.2.1])
    have hw2 : WJ 9999 (putW i (nI j) w) := hw.put w2 hP hiP (by omega)
    refine al_0 dX8_where_53 ?_
    refine cv_0 dX8_where_54 mm_RX8_265 sh_1 (Nat.le_of_ble_eq_true rfl) ⟨_, rfl, rfl⟩ (Nat.le_of_ble_eq_true rfl) (Nat.le_of_ble_eq_true rfl) (K_seen hv hcr ht2 hw2 (by decide) rfl (fun m2 v2 ht3 hs => ?_) (fun m2 v2 ht3 hs => ?_))
    · refine R_if_eq (tgt := 67) dX8_where_57 (by decide) (fun q => absurd q (by decide)) (fun _ => ?_)
      refine il_3 dX8_where_60 ?_
      refine R_iconst (v := 1) dX8_where_61 (by decide) ?_
      refine il_4 dX8_where_62 ?_
      refine R_ishl dX8_where_64 ?_
      refine R_ior dX8_where_65 ?_
      refine is_3 dX8_where_66 rfl ?_
      refine ii_4 (v := _ + 1) dX8_where_67 rfl (by rfl) ?_
      refine R_goto (tgt := 25) dX8_where_70 (by decide) ?_
      have hcr2 := ht3.cr hv hcr
      have hhi2 : HI mi m2 ml ml := fun a ha => ⟨(ht3.1.1 a (by omega)).trans (hhi a ha).1, rfl⟩
      first
        | (refine ih (j + 1) _ (setB se (nI j)) m2 D1 (by omega) (sm_add j 1) hhi2 hcr2 (fun q hq => ?_)
           rw [bt_set (by omega) hq, hb q hq]
           by_cases e : q = j
           · rw [e, decide_eq_true (show j < j + 1 by omega), decide_eq_true (show j = j from rfl), show (whB (cuL ds c) sl i w) j = true from hs, Bool.or_true]; rfl
           · rw [decide_eq_false e, Bool.or_false, show decide (q < j + 1) = decide (q < j) by by_cases e2 : q < j; rw [decide_eq_true e2, decide_eq_true (by omega)]; rw [decide_eq_false e2, decide_eq_false (by omega)]])
        | (refine ih (j + 1) _ se m2 D1 (by omega) (sm_add j 1) hhi2 hcr2 (fun q hq => ?_)
           rw [hb q hq]
           by_cases e : q = j
           · rw [e, decide_eq_true (show j < j + 1 by omega), decide_eq_false (show ¬ j < j by omega), show (whB (cuL ds c) sl i w) j = false from hs]; rfl
           · rw [show decide (q < j + 1) = decide (q < j) by by_cases e2 : q < j; rw [decide_eq_true e2, decide_eq_true (by omega)]; rw [decide_eq_false e2, decide_eq_false (by omega)]])
    · refine R_if_eq (tgt := 67) dX8_where_57 (by decide) (fun _ => ?_) (fun q => absurd q (by decide))
      refine ii_4 (v := _ + 1) dX8_where_67 rfl (by rfl) ?_
      refine R_goto (tgt := 25) dX8_where_70 (by decide) ?_
      have hcr2 := ht3.cr hv hcr
      have hhi2 : HI mi m2 ml ml := fun a ha => ⟨(ht3.1.1 a (by omega)).trans (hhi a ha).1, rfl⟩
      first
        | (refine ih (j + 1) _ (setB se (nI j)) m2 D1 (by omega) (sm_add j 1) hhi2 hcr2 (fun q hq => ?_)
           rw [bt_set (by omega) hq, hb q hq]
           by_cases e : q = j
           · rw [e, decide_eq_true (show j < j + 1 by omega), decide_eq_true (show j = j from rfl), show (whB (cuL ds c) sl i w) j = true from hs, Bool.or_true]; rfl
           · rw [decide_eq_false e, Bool.or_false, show decide (q < j + 1) = decide (q < j) by by_cases e2 : q < j; rw [decide_eq_true e2, decide_eq_true (by omega)]; rw [decide_eq_false e2, decide_eq_false (by omega)]])
        | (refine ih (j + 1) _ se m2 D1 (by omega) (sm_add j 1) hhi2 hcr2 (fun q hq => ?_)
           rw [hb q hq]
           by_cases e : q = j
           · rw [e, decide_eq_true (show j < j + 1 by omega), decide_eq_false (show ¬ j < j by omega), show (whB (cuL ds c) sl i w) j = false from hs]; rfl
           · rw [show decide (q < j + 1) = decide (q < j) by by_cases e2 : q < j; rw [decide_eq_true e2, decide_eq_true (by omega)]; rw [decide_eq_false e2, decide_eq_false (by omega)]])

set_option maxHeartbeats 4000000 in
theorem L_whereE {G : rn_G} {d : Nat} {κ : Nat × Nat} {Q : Option Value → rn_S → Prop} {mi : Nat → Nat → Int32} {ml : Nat → Nat → Int64} {D : Nat → Nat} {x y se z : Int32} {ok : Nat → Bool} (hb : ∀ j, j < 32 → bt se j = (decide (j < 30) && ok j)) (h1 : y = 0 → Q (some (.int (nI (cntR ok 0 30)))) (mi, ml, RF D, 164)) (h2 : ¬ y = 0 → Q (some (.int (fstR ok 0 30))) (mi, ml, RF D, 164)) : Run G (d + 29) M_X8_where 73 [.ref 1, .int x, .int y, .int se, .int z] [] (mi, ml, RF D, 164) κ Q := by
  obtain ⟨s, hs30, hs, hbit⟩ := bits_nat (by decide) hb
  have e1 : popJ se = nI (cntR ok 0 30) := by rw [hs, pop_cnt hs30, cntR_ext 30 0 (fun j _ _ => hbit j), cnt_pad (k := 0) rfl]
  have e2 : fstR (fun j => s.testBit j) 0 30 = fstR ok 0 30 := by rw [fst_ext 30 0 (fun j _ _ => hbit j), fst_pad (k := 0) rfl]
  refine il_2 dX8_where_73 ?_
  refine R_if_ne (tgt := 84) dX8_where_74 (by decide) (fun c74 => ?_) (fun c74 => ?_)
  · refine il_3 dX8_where_84 ?_
    refine cs_1 dX8_where_85 mm_RX8_273 (Nat.le_of_ble_eq_true rfl) (Nat.le_of_ble_eq_true rfl) (K_least hs hs30 ?_)
    refine R_ireturn dX8_where_88 ⟨_, rfl, rfl⟩ ?_
    first
      | (rw [e1]; exact h1 c74)
      | (rw [e2]; exact h2 c74)
  · refine il_3 dX8_where_77 ?_
    refine cs_1 dX8_where_78 mm_RX8_268 (Nat.le_of_ble_eq_true rfl) (Nat.le_of_ble_eq_true rfl) (K_bitCount ?_)
    refine R_goto (tgt := 88) dX8_where_81 (by decide) ?_
    refine R_ireturn dX8_where_88 ⟨_, rfl, rfl⟩ ?_
    first
      | (rw [e1]; exact h1 c74)
      | (rw [e2]; exact h2 c74)

set_option maxHeartbeats 4000000 in
theorem KC_where {G : rn_G} {d : Nat} {κ : Nat × Nat} {Q : Option Value → rn_S → Prop} {mi : Nat → Nat → Int32} {ml : Nat → Nat → Int64} {D : Nat → Nat} {x y : Int32} {w : WD} {c k : Nat} {ds : Nat → CL} {sl : SL} {el bl : EL} {im : IM} {T : Nat → Nat} {L : Nat} {ac : List Int32} {tp : TP} (hv : IV w c k ds sl el bl im ac tp) (hc : CR w c k ds sl el bl im T L ac tp mi ml D) (h : ∀ m l D', HI mi m ml l → CR w c k ds sl el bl im T L ac tp m l D' → Q (some (.int (whereA (cuL ds c) sl w x y))) (m, l, RF D', 164))  : Call G (d + 29) M_X8_where [.ref 1, .int x, .int y] (mi, ml, RF D, 164) κ Q := by
  show Run G _ M_X8_where 0 [.ref 1, .int x, .int y, .null, .null] [] _ _ _
  have hw := hv.1.1
  have hk6 := hv.2.2.1
  have hck := hv.2.1
  have hB : PB 2 := Or.inl rfl
  obtain ⟨hD2, hwc, z12, z13, z14⟩ := hc.1
  obtain ⟨cp1, cp2, cp3, cp4⟩ := cuA_pd (c := c) (by omega)
  have hkD : PD (D 2) := by rw [hD2]; exact cp1
  obtain ⟨N, P, R, hN, hP, hR, hg, hpp, hrr, hPJ⟩ := hc.1.n hw
  obtain ⟨w0, w1, w2, w3, w4, w5, w6⟩ := hc.1.cells
  refine al_0 dX8_where_0 ?_
  refine R_getfr (r := 2) dX8_where_1 fl_RX8_12 rfl sh_1 (Nat.le_of_ble_eq_true rfl) rf_1_0 ?_
  refine il_1 dX8_where_4 ?_
  refine cv_1 dX8_where_5 mm_RX8_93 sh_2 (Nat.le_of_ble_eq_true rfl) ⟨_, rfl, rfl⟩ (Nat.le_of_ble_eq_true rfl) (Nat.le_of_ble_eq_true rfl) (K_hasPerson hB (fun c5 => ?_) (fun c5 => ?_))
  · refine R_if_eq (tgt := 18) dX8_where_8 (by decide) (fun q => absurd q (by decide)) (fun _ => ?_)
    refine il_2 dX8_where_11 ?_
    refine cs_1 dX8_where_12 mm_RX8_262 (Nat.le_of_ble_eq_true rfl) (Nat.le_of_ble_eq_true rfl) (K_isPart (fun c12 => ?_) (fun c12 => ?_))
    · refine R_if_ne (tgt := 20) dX8_where_15 (by decide) (fun _ => ?_) (fun q => absurd q (by decide))
      obtain ⟨i, hiP, hx⟩ := sm_of c5.1 (by rw [← hpp]; exact c5.2) (by omega)
      have hi6 : i < 6 := by omega
      have hnx : nn x = i := by rw [hx]; exact nnI (by omega)
      have hPi : w.2.2.2 i = pC mi (2 + 7 + 2 * i) := hc.1.per hpp hP hiP
      have cp : 0 ≤ x ∧ x < w.1 2 := by rw [w2]; exact c5
      have hpq : PQ (2 + 7 + 2 * i) := pb_q hB hi6
      have cy : 0 ≤ y ∧ y ≤ 1 := part_iff.mpr c12
      refine R_iconst (v := 0) dX8_where_20 (by decide) ?_
      refine is_3 dX8_where_21 rfl ?_
      refine R_iconst (v := 0) dX8_where_22 (by decide) ?_
      refine is_4 dX8_where_23 rfl ?_
      refine L_whereC hv hc hx hpp hP hiP (fun m D2 se z hhi hcr hb => ?_) 30 0 0 0 mi D rfl rfl (HI.refl _ _) hc (fun q hq => ?_)
      · refine L_whereE hb (fun y0 => ?_) (fun y0 => ?_)
        · have eA : whereA (cuL ds c) sl w x y = nI (cntR (whB (cuL ds c) sl i w) 0 30) := by unfold whereA; rw [if_pos ⟨cp, cy⟩, if_pos y0, hnx]
          rw [eA] at h
          exact h m ml D2 hhi hcr
        · have eA : whereA (cuL ds c) sl w x y = fstR (whB (cuL ds c) sl i w) 0 30 := by unfold whereA; rw [if_pos ⟨cp, cy⟩, if_neg y0, hnx]
          rw [eA] at h
          exact h m ml D2 hhi hcr
      · rw [decide_eq_false (Nat.not_lt_zero q), Bool.false_and]
        show (0#32).getLsbD q = false
        exact BitVec.getLsbD_zero
    · refine R_if_ne (tgt := 20) dX8_where_15 (by decide) (fun q => absurd q (by decide)) (fun _ => ?_)
      refine R_iconst (v := -1) dX8_where_18 (by decide) ?_
      refine R_ireturn dX8_where_19 ⟨_, rfl, rfl⟩ ?_
      have eA : whereA (cuL ds c) sl w x y = -1 := by unfold whereA; rw [if_neg (fun q => by first | exact c5 (by have := q.1; rw [w2] at this; exact this) | exact c12 (part_iff.mp q.2))]
      rw [eA] at h
      exact h mi ml D (HI.refl _ _) hc
  · refine R_if_eq (tgt := 18) dX8_where_8 (by decide) (fun _ => ?_) (fun q => absurd q (by decide))
    refine R_iconst (v := -1) dX8_where_18 (by decide) ?_
    refine R_ireturn dX8_where_19 ⟨_, rfl, rfl⟩ ?_
    have eA : whereA (cuL ds c) sl w x y = -1 := by unfold whereA; rw [if_neg (fun q => by first | exact c5 (by have := q.1; rw [w2] at this; exact this) | exact c12 (part_iff.mp q.2))]
    rw [eA] at h
    exact h mi ml D (HI.refl _ _) hc

set_option maxHeartbeats 4000000 in
theorem L_canC {G : rn_G} {d : Nat} {κ : Nat × Nat} {Q : Option Value → rn_S → Prop} {mi : Nat → Nat → Int32} {ml : Nat → Nat → Int64} {D : Nat → Nat} {w : WD} {c k : Nat} {ds : Nat → CL} {sl : SL} {el bl : EL} {im : IM} {T : Nat → Nat} {L : Nat} {ac : List Int32} {tp : TP} (hv : IV w c k ds sl el bl im ac tp) (hc : CR w c k ds sl el bl im T L ac tp mi ml D) {i P : Nat} {x y : Int32} (hx : x = nI i) (hpp : mi 2 6 = nI P) (hP : P ≤ 6) (hiP : i < P) (h : ∀ m D' (se z : Int32), HI mi m ml ml → CR w c k ds sl el bl im T L ac tp m ml D' → (∀ j, j < 32 → bt se j = (decide (j < 10) && (caB (cuL ds c) sl i w) j)) → Run G (d + 29) M_X8_can 77 [.ref 1, .int x, .int y, .int se, .int z] [] (m, ml, RF D', 164) κ Q) : ∀ (n j : Nat) (z se : Int32) (M : Nat → Nat → Int32) (E : Nat → Nat), n + j = 10 → z = nI j → HI mi M ml ml → CR w c k ds sl el bl im T L ac tp M ml E → (∀ q, q < 32 → bt se q = (decide (q < j) && (caB (cuL ds c) sl i w) q)) → Run G (d + 29) M_X8_can 25 [.ref 1, .int x, .int y, .int se, .int z] [] (M, ml, RF E, 164) κ Q := by
  have hw := hv.1.1
  have hck := hv.2.1
  have hk6 := hv.2.2.1
  obtain ⟨cp1, -⟩ := cuA_pd (c := c) (by omega)
  have w2 : w.1 2 = nI P := hc.1.cells.2.2.1.trans hpp
  have hi6 : i < 6 := by omega
  have htq : PQ (21 + 7 + 2 * i) := pb_q (Or.inr (Or.inl rfl)) hi6
  intro n
  induction n with
  | zero =>
    intro j z se M E hj hz hhi hcr hb
    obtain rfl : j = 10 := by omega
    refine il_4 dX8_can_25 ?_
    refine R_bipush (v := 10) dX8_can_27 (by decide) ?_
    refine R_icmp_ge (tgt := 77) dX8_can_29 (by decide) (fun c29 => ?_) (fun q => absurd q (not_not_intro (by rw [hz]; decide)))
    exact h M E _ _ hhi hcr hb
  | succ n ih =>
    intro j z se M E hj hz hhi hcr hb
    have hj30 : j < 10 := by omega
    refine il_4 dX8_can_25 ?_
    refine R_bipush (v := 10) dX8_can_27 (by decide) ?_
    refine R_icmp_ge (tgt := 77) dX8_can_29 (by decide) (fun q => absurd q (by rw [hz]; exact nI_ge (b := 10) (by omega) (by decide))) (fun c29 => ?_)
    refine al_0 dX8_can_32 ?_
    refine R_getfr (r := 21) dX8_can_33 fl_RX8_18 rfl sh_1 (Nat.le_of_ble_eq_true rfl) rf_1_1 ?_
    refine al_0 dX8_can_36 ?_
    refine R_getfr (r := 2) dX8_can_37 fl_RX8_12 rfl sh_1 (Nat.le_of_ble_eq_true rfl) rf_1_0 ?_
    refine cv_1 dX8_can_40 mm_RX8_210 sh_21 (Nat.le_of_ble_eq_true rfl) ⟨_, rfl, rfl⟩ (Nat.le_of_ble_eq_true rfl) (Nat.le_of_ble_eq_true rfl) (K_trial hv hcr (fun m D1 ht => ?_))
    obtain ⟨P2, hP2, h26, hv2⟩ := ht.n hw
    have eP : P2 = P := sm_inj (by omega) (by omega) (hv2.symm.trans w2)
    rw [eP] at h26
    have e21 := ht.2.2.1
    refine al_0 dX8_can_43 ?_
    refine R_getfr (r := 21) dX8_can_44 fl_RX8_18 rfl sh_1 (Nat.le_of_ble_eq_true rfl) rf_1_1 ?_
    refine R_getfr (r := 23) dX8_can_47 fl_RX8_96 rfl sh_21 (Nat.le_of_ble_eq_true rfl) rf_21_1 ?_
    refine il_1 dX8_can_50 ?_
    refine R_aald (t := 4) (r := (21 + 7 + 2 * i)) dX8_can_51 (by decide) sh_23 (Nat.le_of_ble_eq_true rfl) (rn_ixe hx) hi6 (pb_rq (b := 21) (Or.inr (Or.inl rfl)) hi6) ?_
    refine il_4 dX8_can_52 ?_
    refine R_putfi dX8_can_54 fl_RX8_105 rfl (Or.inl rfl) (pq_s0 htq) (show (21 + 7 + 2 * i) < 164 by have := pq_n htq; omega) rfl rfl ?_
    rw [hz]
    have ht2 : TRY M (rn_u m (21 + 7 + 2 * i) 1 (nI j)) E D1 c (canW i j w) := ht.next (PF.of (fun a ha => by rw [rn_u_ne (by omega)])) (by rw [wC_can (Or.inr (Or.inl rfl)) cp1 h26 hP hiP, ht.2.1])
    have hw2 : WJ 9999 (canW i j w) := hw.can w2 hP hiP (by omega)
    refine al_0 dX8_can_57 ?_
    refine cv_0 dX8_can_58 mm_RX8_265 sh_1 (Nat.le_of_ble_eq_true rfl) ⟨_, rfl, rfl⟩ (Nat.le_of_ble_eq_true rfl) (Nat.le_of_ble_eq_true rfl) (K_seen hv hcr ht2 hw2 (by decide) rfl (fun m2 v2 ht3 hs => ?_) (fun m2 v2 ht3 hs => ?_))
    · refine R_if_eq (tgt := 71) dX8_can_61 (by decide) (fun q => absurd q (by decide)) (fun _ => ?_)
      refine il_3 dX8_can_64 ?_
      refine R_iconst (v := 1) dX8_can_65 (by decide) ?_
      refine il_4 dX8_can_66 ?_
      refine R_ishl dX8_can_68 ?_
      refine R_ior dX8_can_69 ?_
      refine is_3 dX8_can_70 rfl ?_
      refine ii_4 (v := _ + 1) dX8_can_71 rfl (by rfl) ?_
      refine R_goto (tgt := 25) dX8_can_74 (by decide) ?_
      have hcr2 := ht3.cr hv hcr
      have hhi2 : HI mi m2 ml ml := fun a ha => ⟨(ht3.1.1 a (by omega)).trans (hhi a ha).1, rfl⟩
      first
        | (refine ih (j + 1) _ (setB se (nI j)) m2 D1 (by omega) (sm_add j 1) hhi2 hcr2 (fun q hq => ?_)
           rw [bt_set (by omega) hq, hb q hq]
           by_cases e : q = j
           · rw [e, decide_eq_true (show j < j + 1 by omega), decide_eq_true (show j = j from rfl), show (caB (cuL ds c) sl i w) j = true from hs, Bool.or_true]; rfl
           · rw [decide_eq_false e, Bool.or_false, show decide (q < j + 1) = decide (q < j) by by_cases e2 : q < j; rw [decide_eq_true e2, decide_eq_true (by omega)]; rw [decide_eq_false e2, decide_eq_false (by omega)]])
        | (refine ih (j + 1) _ se m2 D1 (by omega) (sm_add j 1) hhi2 hcr2 (fun q hq => ?_)
           rw [hb q hq]
           by_cases e : q = j
           · rw [e, decide_eq_true (show j < j + 1 by omega), decide_eq_false (show ¬ j < j by omega), show (caB (cuL ds c) sl i w) j = false from hs]; rfl
           · rw [show decide (q < j + 1) = decide (q < j) by by_cases e2 : q < j; rw [decide_eq_true e2, decide_eq_true (by omega)]; rw [decide_eq_false e2, decide_eq_false (by omega)]])
    · refine R_if_eq (tgt := 71) dX8_can_61 (by decide) (fun _ => ?_) (fun q => absurd q (by decide))
      refine ii_4 (v := _ + 1) dX8_can_71 rfl (by rfl) ?_
      refine R_goto (tgt := 25) dX8_can_74 (by decide) ?_
      have hcr2 := ht3.cr hv hcr
      have hhi2 : HI mi m2 ml ml := fun a ha => ⟨(ht3.1.1 a (by omega)).trans (hhi a ha).1, rfl⟩
      first
        | (refine ih (j + 1) _ (setB se (nI j)) m2 D1 (by omega) (sm_add j 1) hhi2 hcr2 (fun q hq => ?_)
           rw [bt_set (by omega) hq, hb q hq]
           by_cases e : q = j
           · rw [e, decide_eq_true (show j < j + 1 by omega), decide_eq_true (show j = j from rfl), show (caB (cuL ds c) sl i w) j = true from hs, Bool.or_true]; rfl
           · rw [decide_eq_false e, Bool.or_false, show decide (q < j + 1) = decide (q < j) by by_cases e2 : q < j; rw [decide_eq_true e2, decide_eq_true (by omega)]; rw [decide_eq_false e2, decide_eq_false (by omega)]])
        | (refine ih (j + 1) _ se m2 D1 (by omega) (sm_add j 1) hhi2 hcr2 (fun q hq => ?_)
           rw [hb q hq]
           by_cases e : q = j
           · rw [e, decide_eq_true (show j < j + 1 by omega), decide_eq_false (show ¬ j < j by omega), show (caB (cuL ds c) sl i w) j = false from hs]; rfl
           · rw [show decide (q < j + 1) = decide (q < j) by by_cases e2 : q < j; rw [decide_eq_true e2, decide_eq_true (by omega)]; rw [decide_eq_false e2, decide_eq_false (by omega)]])

set_option maxHeartbeats 4000000 in
theorem L_canE {G : rn_G} {d : Nat} {κ : Nat × Nat} {Q : Option Value → rn_S → Prop} {mi : Nat → Nat → Int32} {ml : Nat → Nat → Int64} {D : Nat → Nat} {x y se z : Int32} {ok : Nat → Bool} (hb : ∀ j, j < 32 → bt se j = (decide (j < 10) && ok j)) (h1 : y = 0 → Q (some (.int (nI (cntR ok 0 10)))) (mi, ml, RF D, 164)) (h2 : ¬ y = 0 → Q (some (.int (fstR ok 0 10))) (mi, ml, RF D, 164)) : Run G (d + 29) M_X8_can 77 [.ref 1, .int x, .int y, .int se, .int z] [] (mi, ml, RF D, 164) κ Q := by
  obtain ⟨s, hs30, hs, hbit⟩ := bits_nat (by decide) hb
  have e1 : popJ se = nI (cntR ok 0 10) := by rw [hs, pop_cnt hs30, cntR_ext 30 0 (fun j _ _ => hbit j), cnt_pad (k := 20) rfl]
  have e2 : fstR (fun j => s.testBit j) 0 30 = fstR ok 0 10 := by rw [fst_ext 30 0 (fun j _ _ => hbit j), fst_pad (k := 20) rfl]
  refine il_2 dX8_can_77 ?_
  refine R_if_ne (tgt := 88) dX8_can_78 (by decide) (fun c78 => ?_) (fun c78 => ?_)
  · refine il_3 dX8_can_88 ?_
    refine cs_1 dX8_can_89 mm_RX8_273 (Nat.le_of_ble_eq_true rfl) (Nat.le_of_ble_eq_true rfl) (K_least hs hs30 ?_)
    refine R_ireturn dX8_can_92 ⟨_, rfl, rfl⟩ ?_
    first
      | (rw [e1]; exact h1 c78)
      | (rw [e2]; exact h2 c78)
  · refine il_3 dX8_can_81 ?_
    refine cs_1 dX8_can_82 mm_RX8_268 (Nat.le_of_ble_eq_true rfl) (Nat.le_of_ble_eq_true rfl) (K_bitCount ?_)
    refine R_goto (tgt := 92) dX8_can_85 (by decide) ?_
    refine R_ireturn dX8_can_92 ⟨_, rfl, rfl⟩ ?_
    first
      | (rw [e1]; exact h1 c78)
      | (rw [e2]; exact h2 c78)

set_option maxHeartbeats 4000000 in
theorem KC_can {G : rn_G} {d : Nat} {κ : Nat × Nat} {Q : Option Value → rn_S → Prop} {mi : Nat → Nat → Int32} {ml : Nat → Nat → Int64} {D : Nat → Nat} {x y : Int32} {w : WD} {c k : Nat} {ds : Nat → CL} {sl : SL} {el bl : EL} {im : IM} {T : Nat → Nat} {L : Nat} {ac : List Int32} {tp : TP} (hv : IV w c k ds sl el bl im ac tp) (hc : CR w c k ds sl el bl im T L ac tp mi ml D) (h : ∀ m l D', HI mi m ml l → CR w c k ds sl el bl im T L ac tp m l D' → Q (some (.int (canA (cuL ds c) sl w x y))) (m, l, RF D', 164))  : Call G (d + 29) M_X8_can [.ref 1, .int x, .int y] (mi, ml, RF D, 164) κ Q := by
  show Run G _ M_X8_can 0 [.ref 1, .int x, .int y, .null, .null] [] _ _ _
  have hw := hv.1.1
  have hk6 := hv.2.2.1
  have hck := hv.2.1
  have hB : PB 2 := Or.inl rfl
  obtain ⟨hD2, hwc, z12, z13, z14⟩ := hc.1
  obtain ⟨cp1, cp2, cp3, cp4⟩ := cuA_pd (c := c) (by omega)
  have hkD : PD (D 2) := by rw [hD2]; exact cp1
  obtain ⟨N, P, R, hN, hP, hR, hg, hpp, hrr, hPJ⟩ := hc.1.n hw
  obtain ⟨w0, w1, w2, w3, w4, w5, w6⟩ := hc.1.cells
  refine al_0 dX8_can_0 ?_
  refine R_getfr (r := 2) dX8_can_1 fl_RX8_12 rfl sh_1 (Nat.le_of_ble_eq_true rfl) rf_1_0 ?_
  refine il_1 dX8_can_4 ?_
  refine cv_1 dX8_can_5 mm_RX8_93 sh_2 (Nat.le_of_ble_eq_true rfl) ⟨_, rfl, rfl⟩ (Nat.le_of_ble_eq_true rfl) (Nat.le_of_ble_eq_true rfl) (K_hasPerson hB (fun c5 => ?_) (fun c5 => ?_))
  · refine R_if_eq (tgt := 18) dX8_can_8 (by decide) (fun q => absurd q (by decide)) (fun _ => ?_)
    refine il_2 dX8_can_11 ?_
    refine cs_1 dX8_can_12 mm_RX8_262 (Nat.le_of_ble_eq_true rfl) (Nat.le_of_ble_eq_true rfl) (K_isPart (fun c12 => ?_) (fun c12 => ?_))
    · refine R_if_ne (tgt := 20) dX8_can_15 (by decide) (fun _ => ?_) (fun q => absurd q (by decide))
      obtain ⟨i, hiP, hx⟩ := sm_of c5.1 (by rw [← hpp]; exact c5.2) (by omega)
      have hi6 : i < 6 := by omega
      have hnx : nn x = i := by rw [hx]; exact nnI (by omega)
      have hPi : w.2.2.2 i = pC mi (2 + 7 + 2 * i) := hc.1.per hpp hP hiP
      have cp : 0 ≤ x ∧ x < w.1 2 := by rw [w2]; exact c5
      have hpq : PQ (2 + 7 + 2 * i) := pb_q hB hi6
      have cy : 0 ≤ y ∧ y ≤ 1 := part_iff.mpr c12
      refine R_iconst (v := 0) dX8_can_20 (by decide) ?_
      refine is_3 dX8_can_21 rfl ?_
      refine R_iconst (v := 0) dX8_can_22 (by decide) ?_
      refine is_4 dX8_can_23 rfl ?_
      refine L_canC hv hc hx hpp hP hiP (fun m D2 se z hhi hcr hb => ?_) 10 0 0 0 mi D rfl rfl (HI.refl _ _) hc (fun q hq => ?_)
      · refine L_canE hb (fun y0 => ?_) (fun y0 => ?_)
        · have eA : canA (cuL ds c) sl w x y = nI (cntR (caB (cuL ds c) sl i w) 0 10) := by unfold canA; rw [if_pos ⟨cp, cy⟩, if_pos y0, hnx]
          rw [eA] at h
          exact h m ml D2 hhi hcr
        · have eA : canA (cuL ds c) sl w x y = fstR (caB (cuL ds c) sl i w) 0 10 := by unfold canA; rw [if_pos ⟨cp, cy⟩, if_neg y0, hnx]
          rw [eA] at h
          exact h m ml D2 hhi hcr
      · rw [decide_eq_false (Nat.not_lt_zero q), Bool.false_and]
        show (0#32).getLsbD q = false
        exact BitVec.getLsbD_zero
    · refine R_if_ne (tgt := 20) dX8_can_15 (by decide) (fun q => absurd q (by decide)) (fun _ => ?_)
      refine R_iconst (v := -1) dX8_can_18 (by decide) ?_
      refine R_ireturn dX8_can_19 ⟨_, rfl, rfl⟩ ?_
      have eA : canA (cuL ds c) sl w x y = -1 := by unfold canA; rw [if_neg (fun q => by first | exact c5 (by have := q.1; rw [w2] at this; exact this) | exact c12 (part_iff.mp q.2))]
      rw [eA] at h
      exact h mi ml D (HI.refl _ _) hc
  · refine R_if_eq (tgt := 18) dX8_can_8 (by decide) (fun _ => ?_) (fun q => absurd q (by decide))
    refine R_iconst (v := -1) dX8_can_18 (by decide) ?_
    refine R_ireturn dX8_can_19 ⟨_, rfl, rfl⟩ ?_
    have eA : canA (cuL ds c) sl w x y = -1 := by unfold canA; rw [if_neg (fun q => by first | exact c5 (by have := q.1; rw [w2] at this; exact this) | exact c12 (part_iff.mp q.2))]
    rw [eA] at h
    exact h mi ml D (HI.refl _ _) hc
