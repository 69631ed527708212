/-! the reference: odds, mean, gone -/
theorem sub_sub_i (a b : Int32) : a - (a - b) = b := Int32.toBitVec_inj.mp (by rw [Int32.toBitVec_sub, Int32.toBitVec_sub]; bv_omega)
noncomputable def odB (er : (Nat → Int32) → Int32) (n : Nat) (w : WD) (p : Nat) : Bool := decide (insW (minsW er n (callW p 1 w)) = 0)
def outN (w : WD) : Nat := nn (w.1 2) - cntZ (fun i => w.2.2.2 i 5) (nn (w.1 2))
noncomputable def meanN (er : (Nat → Int32) → Int32) : Nat → WD → Nat
  | 0, _ => 0
  | n + 1, w => outN (minuteW er w) + meanN er n (minuteW er w)
theorem outN_le {T : Nat} {w : WD} (h : WJ T w) : outN w ≤ 6 := by
  obtain ⟨N, P, R, hN, hP, hR, h0, h2, -⟩ := h
  unfold outN
  rw [h2, nnI (by omega)]
  omega
theorem popJ_out {T : Nat} {w : WD} (h : WJ T w) : popJ (outW w) = nI (outN w) := by
  obtain ⟨N, P, R, hN, hP, hR, h0, h2, -⟩ := h
  have q := ins_cnt h2 hP
  unfold insW at q
  have hc := cntZ_le (fun i => w.2.2.2 i 5) P
  unfold outN
  rw [h2, nnI (by omega), ← sm_sub hc, ← q, h2]
  exact (sub_sub_i _ _).symm
theorem meanN_le {er : (Nat → Int32) → Int32} : ∀ (n T : Nat) (w : WD), WJ T w → T + n < 2 ^ 30 → meanN er n w ≤ 6 * n
  | 0, _, _, _, _ => Nat.zero_le _
  | n + 1, T, w, h, hT => by
    have h1 : WJ (T + 1) (minuteW er w) := h.minute (by omega)
    have q := meanN_le (er := er) n (T + 1) _ h1 (by omega)
    have r := outN_le h1
    unfold meanN
    omega
/-- the evening's rows: what and number -/
abbrev EL : Type := List (Nat × Nat)
def ELM (mi : Nat → Nat → Int32) (N P : Nat) (el : EL) : Prop := el.length ≤ 10 ∧ mi 116 53 = nI el.length ∧ ∀ j q, el[j]? = some q → mi 141 j = nI q.1 ∧ q.1 ≤ 3 ∧ (1 ≤ q.1 → mi 142 j = nI q.2) ∧ (q.1 = 1 ∨ q.1 = 2 → q.2 < N) ∧ (q.1 = 3 → q.2 < P)
noncomputable def evW (er : (Nat → Int32) → Int32) (q : Nat × Nat) (w : WD) : WD := if q.1 = 0 then minuteW er w else if q.1 = 1 then shutW (nI q.2) 0 w else if q.1 = 2 then shutW (nI q.2) 1 w else callW q.2 1 w
noncomputable def evF (er : (Nat → Int32) → Int32) : EL → WD → WD
  | [], w => w
  | q :: el, w => evF er el (evW er q w)
theorem WJ.shut {T N g : Nat} {z : Int32} {w : WD} (h : WJ T w) (h0 : w.1 0 = nI N) (hN6 : N ≤ 6) (hg : g < N) : WJ T (shutW (nI g) z w) := by
  obtain ⟨N', P', R, hN, hP', hR, h0', h2, h4, h5, h6, h3, h7, h8, h1, hgp, hr, hp⟩ := h
  have e : N = N' := sm_inj (by omega) (by omega) (h0.symm.trans h0')
  subst e
  refine ⟨N, P', R, hN, hP', hR, h0', h2, h4, h5, h6, h3, h7, h8, ?_, hgp, hr, hp⟩
  show ∀ i, N ≤ i → i < 32 → bt (if z = 0 then clrB (w.1 1) (nI g) else setB (w.1 1) (nI g)) i = false
  split
  · intro i hi h32
    rw [bt_clr (by omega) h32, h1 i hi h32]; rfl
  · exact bt_set_hi h1 hg hN6

set_option maxHeartbeats 4000000 in
theorem L_odds9 {G : rn_G} {d : Nat} {κ : Nat × Nat} {Q : Option Value → rn_S → Prop} {mi : Nat → Nat → Int32} {ml : Nat → Nat → Int64} {D : Nat → Nat} {x z : Int32} {T : Nat} {cl : CL} {w : WD} (hB : MB mi cl w) (hw : WJ T w) (hT : T + 200 < 2 ^ 30) {P : Nat} (hpp : mi 116 1 = nI P) (hP : P ≤ 6) {n : Nat} (hx : x = nI n) (hn : n ≤ 99) (hP0 : 0 < P) (h : ∀ m, ME mi m → Q (some (.long (fracA (cntR (odB (erA cl) n w) 0 P) P z))) (m, ml, RF D, 164)) : ∀ (r k c : Nat) (y gd : Int32) (m : Nat → Nat → Int32), k + r = P → y = nI k → gd = nI c → c ≤ k → c + cntR (odB (erA cl) n w) k r = cntR (odB (erA cl) n w) 0 P → ME mi m → Run G (d + 8) M_X9_odds 34 [.ref 116, .int x, .int z, .int gd, .int y] [] (m, ml, RF D, 164) κ Q := by
  have h2 : w.1 2 = nI P := by rw [← hB.2.1]; exact hpp
  intro r
  induction r with
  | zero =>
    intro k c y gd m hkr hy hgd hck hc hm
    have em1 : m 116 1 = nI P := by rw [hm.2.1 1 (by omega)]; exact hpp
    have hpm : m 116 1 = nI P := em1
    have hkP : k = P := by omega
    rw [show cntR (odB (erA cl) n w) k 0 = 0 from rfl, Nat.add_zero] at hc
    rw [← hc] at h
    refine il_4 dX9_odds_34 ?_
    refine al_0 dX9_odds_36 ?_
    refine R_getfi dX9_odds_37 fl_RX9_13 rfl sh_116 (Nat.le_of_ble_eq_true rfl) ?_
    refine R_icmp_ge (tgt := 96) dX9_odds_40 (by decide) (fun c40 => ?_) (fun q => absurd q (not_not_intro (by rw [hy, hkP, em1]; exact Int32.le_refl _)))
    refine al_0 dX9_odds_96 ?_
    refine il_3 dX9_odds_97 ?_
    refine al_0 dX9_odds_98 ?_
    refine R_getfi dX9_odds_99 fl_RX9_13 rfl sh_116 (Nat.le_of_ble_eq_true rfl) ?_
    refine il_2 dX9_odds_102 ?_
    refine cv_3 dX9_odds_103 mm_RX9_465 sh_116 (Nat.le_of_ble_eq_true rfl) ⟨_, rfl, rfl⟩ (Nat.le_of_ble_eq_true rfl) (Nat.le_of_ble_eq_true rfl) (M_lowest hgd hpm (by omega) (by omega) (by omega) ?_)
    refine R_lreturn dX9_odds_106 rfl ?_
    exact h m hm
  | succ r ih =>
    intro k c y gd m hkr hy hgd hck hc hm
    have hBm := hB.me hw hm
    have em1 : m 116 1 = nI P := by rw [hm.2.1 1 (by omega)]; exact hpp
    have hkP : k < P := by omega
    rw [cntR_succ] at hc
    refine il_4 dX9_odds_34 ?_
    refine al_0 dX9_odds_36 ?_
    refine R_getfi dX9_odds_37 fl_RX9_13 rfl sh_116 (Nat.le_of_ble_eq_true rfl) ?_
    refine R_icmp_ge (tgt := 96) dX9_odds_40 (by decide) (fun q => absurd q (by rw [hy, em1]; exact nI_ge (by omega) (by omega))) (fun c40 => ?_)
    refine al_0 dX9_odds_43 ?_
    refine cv_0 dX9_odds_44 mm_RX9_424 sh_116 (Nat.le_of_ble_eq_true rfl) ⟨_, rfl, rfl⟩ (Nat.le_of_ble_eq_true rfl) (Nat.le_of_ble_eq_true rfl) (M_save (fun ms g1 g2 g3 => ?_))
    obtain ⟨htr, gf, ga⟩ := save_tr hBm hw g1 g2 g3
    have eps : ms 116 1 = nI P := by rw [gf 1 (by omega)]; exact em1
    refine al_0 dX9_odds_47 ?_
    refine al_0 dX9_odds_48 ?_
    refine al_0 dX9_odds_49 ?_
    refine R_getfi dX9_odds_50 fl_RX9_22 rfl sh_116 (Nat.le_of_ble_eq_true rfl) ?_
    refine il_4 dX9_odds_53 ?_
    refine R_iconst (v := 1) dX9_odds_55 (by decide) ?_
    refine cv_3 dX9_odds_56 mm_RX9_301 sh_116 (Nat.le_of_ble_eq_true rfl) ⟨_, rfl, rfl⟩ (Nat.le_of_ble_eq_true rfl) (Nat.le_of_ble_eq_true rfl) (M_with0 ?_)
    rw [if_neg (show ¬ (1 : Int32) = 0 by decide)]
    rw [hy]
    have htp := htr.call eps hP hkP
    have hwp : WJ T (callW k 1 w) := hw.call h2 hP hkP (Or.inr rfl)
    refine R_putfi dX9_odds_59 fl_RX9_22 rfl (Or.inl rfl) sh_116 (Nat.le_of_ble_eq_true rfl) rfl rfl ?_
    refine al_0 dX9_odds_62 ?_
    refine il_1 dX9_odds_63 ?_
    refine cv_1 dX9_odds_64 mm_RX9_418 sh_116 (Nat.le_of_ble_eq_true rfl) ⟨_, rfl, rfl⟩ (Nat.le_of_ble_eq_true rfl) (Nat.le_of_ble_eq_true rfl) (M_goMinutes (T := T) (N := n) (htp.1.cm hBm.1) (by rw [htp.2.1]; exact hwp) hx (by omega) (fun m2 hm2 => ?_))
    have ht2 := htp.ms hm2
    have e1 : m2 116 1 = nI P := by rw [ht2.1.2.1 1 (by omega)]; exact em1
    have hw2 := hwp.mins (er := erA cl) n T (callW k 1 w) (by omega)
    have hgo := (ht2.gone hw2).1
    have h22 : (minsW (erA cl) n (callW k 1 w)).1 2 = nI P := by rw [← ht2.2.1]; exact e1
    have hall := all_ins h22 hP
    rw [← e1, ← hgo] at hall
    refine il_3 dX9_odds_67 ?_
    refine al_0 dX9_odds_68 ?_
    refine R_getfi dX9_odds_69 fl_RX9_25 rfl sh_116 (Nat.le_of_ble_eq_true rfl) ?_
    refine al_0 dX9_odds_72 ?_
    refine cv_0 dX9_odds_73 mm_RX9_430 sh_116 (Nat.le_of_ble_eq_true rfl) ⟨_, rfl, rfl⟩ (Nat.le_of_ble_eq_true rfl) (Nat.le_of_ble_eq_true rfl) (M_all ?_)
    refine R_icmp_ne (tgt := 83) dX9_odds_76 (by decide) (fun c76 => ?_) (fun c76 => ?_)
    · refine R_iconst (v := 0) dX9_odds_83 (by decide) ?_
      refine R_iadd dX9_odds_84 ?_
      refine is_3 dX9_odds_85 rfl ?_
      refine al_0 dX9_odds_86 ?_
      refine cv_0 dX9_odds_87 mm_RX9_427 sh_116 (Nat.le_of_ble_eq_true rfl) ⟨_, rfl, rfl⟩ (Nat.le_of_ble_eq_true rfl) (Nat.le_of_ble_eq_true rfl) (M_putBack ht2.1 hBm.2.2.2.1 hBm.2.2.2.2.1 hBm.2.2.2.2.2 (fun m3 hm3 => ?_))
      refine ii_4 (v := _ + 1) dX9_odds_90 rfl (by rfl) ?_
      refine R_goto (tgt := 34) dX9_odds_93 (by decide) ?_
      have hob : (odB (erA cl) n w) k = decide (insW (minsW (erA cl) n (callW k 1 w)) = 0) := rfl
      first
        | (rw [hob, decide_eq_true (hall.mp c76), if_pos rfl] at hc; exact ih (k + 1) (c + 1) _ _ m3 (by omega) (sm_add k 1) (by rw [hgd]; exact sm_add c 1) (by omega) (by omega) (hm.trans hm3))
        | (rw [hob, decide_eq_false (fun q => c76 (hall.mpr q)), if_neg (by decide)] at hc; exact ih (k + 1) c _ _ m3 (by omega) (sm_add k 1) (by rw [hgd]; exact sm_add c 0) (by omega) (by omega) (hm.trans hm3))
    · refine R_iconst (v := 1) dX9_odds_79 (by decide) ?_
      refine R_goto (tgt := 84) dX9_odds_80 (by decide) ?_
      refine R_iadd dX9_odds_84 ?_
      refine is_3 dX9_odds_85 rfl ?_
      refine al_0 dX9_odds_86 ?_
      refine cv_0 dX9_odds_87 mm_RX9_427 sh_116 (Nat.le_of_ble_eq_true rfl) ⟨_, rfl, rfl⟩ (Nat.le_of_ble_eq_true rfl) (Nat.le_of_ble_eq_true rfl) (M_putBack ht2.1 hBm.2.2.2.1 hBm.2.2.2.2.1 hBm.2.2.2.2.2 (fun m3 hm3 => ?_))
      refine ii_4 (v := _ + 1) dX9_odds_90 rfl (by rfl) ?_
      refine R_goto (tgt := 34) dX9_odds_93 (by decide) ?_
      have hob : (odB (erA cl) n w) k = decide (insW (minsW (erA cl) n (callW k 1 w)) = 0) := rfl
      first
        | (rw [hob, decide_eq_true (hall.mp c76), if_pos rfl] at hc; exact ih (k + 1) (c + 1) _ _ m3 (by omega) (sm_add k 1) (by rw [hgd]; exact sm_add c 1) (by omega) (by omega) (hm.trans hm3))
        | (rw [hob, decide_eq_false (fun q => c76 (hall.mpr q)), if_neg (by decide)] at hc; exact ih (k + 1) c _ _ m3 (by omega) (sm_add k 1) (by rw [hgd]; exact sm_add c 0) (by omega) (by omega) (hm.trans hm3))

set_option maxHeartbeats 4000000 in
theorem M_odds {G : rn_G} {d : Nat} {κ : Nat × Nat} {Q : Option Value → rn_S → Prop} {mi : Nat → Nat → Int32} {ml : Nat → Nat → Int64} {D : Nat → Nat} {x z : Int32} {T : Nat} {cl : CL} {w : WD} (hB : MB mi cl w) (hw : WJ T w) (hT : T + 200 < 2 ^ 30) {P : Nat} (hpp : mi 116 1 = nI P) (hP : P ≤ 6) (h0 : ¬ ((0 ≤ x ∧ x ≤ 99) ∧ (0 ≤ z ∧ z ≤ 1) ∧ 0 < P) → Q (some (.long (-9223372036854775808))) (mi, ml, RF D, 164)) (h : ∀ n m, x = nI n → n ≤ 99 → (0 ≤ z ∧ z ≤ 1) → 0 < P → ME mi m → Q (some (.long (fracA (cntR (odB (erA cl) n w) 0 P) P z))) (m, ml, RF D, 164)) : Call G (d + 8) M_X9_odds [.ref 116, .int x, .int z] (mi, ml, RF D, 164) κ Q := by
  show Run G _ M_X9_odds 0 [.ref 116, .int x, .int z, .null, .null] [] _ _ _
  refine al_0 dX9_odds_0 ?_
  refine il_1 dX9_odds_1 ?_
  refine cv_1 dX9_odds_2 mm_RX9_421 sh_116 (Nat.le_of_ble_eq_true rfl) ⟨_, rfl, rfl⟩ (Nat.le_of_ble_eq_true rfl) (Nat.le_of_ble_eq_true rfl) (M_isMinutes (fun c2 => ?_) (fun c2 => ?_))
  · refine R_if_eq (tgt := 25) dX9_odds_5 (by decide) (fun q => absurd q (by decide)) (fun _ => ?_)
    refine al_0 dX9_odds_8 ?_
    refine il_2 dX9_odds_9 ?_
    refine R_iconst (v := 0) dX9_odds_10 (by decide) ?_
    refine R_iconst (v := 1) dX9_odds_11 (by decide) ?_
    refine cv_3 dX9_odds_12 mm_RX9_293 sh_116 (Nat.le_of_ble_eq_true rfl) ⟨_, rfl, rfl⟩ (Nat.le_of_ble_eq_true rfl) (Nat.le_of_ble_eq_true rfl) (M_in (fun c12 => ?_) (fun c12 => ?_))
    · refine R_if_eq (tgt := 25) dX9_odds_15 (by decide) (fun q => absurd q (by decide)) (fun _ => ?_)
      refine al_0 dX9_odds_18 ?_
      refine R_getfi dX9_odds_19 fl_RX9_13 rfl sh_116 (Nat.le_of_ble_eq_true rfl) ?_
      refine R_if_ne (tgt := 29) dX9_odds_22 (by decide) (fun c22 => ?_) (fun c22 => ?_)
      · refine R_iconst (v := 0) dX9_odds_29 (by decide) ?_
        refine is_3 dX9_odds_30 rfl ?_
        refine R_iconst (v := 0) dX9_odds_31 (by decide) ?_
        refine is_4 dX9_odds_32 rfl ?_
        have hP0 : 0 < P := by rcases Nat.eq_zero_or_pos P with e | e; exact absurd (by rw [hpp, e]; rfl) c22; exact e
        obtain ⟨n, hn, hx⟩ := sm_of c2.1 ((lt_succ_iff (a := 99)).mpr c2.2) (by decide)
        exact L_odds9 hB hw hT hpp hP hx (by omega) hP0 (fun m hm => h n m hx (by omega) c12 hP0 hm) P 0 0 0 0 mi (by omega) rfl rfl (Nat.le_refl 0) (Nat.zero_add _) (ME.refl mi)
      · refine R_ldc2 dX9_odds_25 kl_RX9_463 ?_
        refine R_lreturn dX9_odds_28 rfl ?_
        first | exact h0 (fun q => c2 q.1) | exact h0 (fun q => c12 q.2.1) | exact h0 (fun q => by rw [hpp] at c22; have := sm_inj (b := 0) (by omega) (by decide) c22; omega)
    · refine R_if_eq (tgt := 25) dX9_odds_15 (by decide) (fun _ => ?_) (fun q => absurd q (by decide))
      refine R_ldc2 dX9_odds_25 kl_RX9_463 ?_
      refine R_lreturn dX9_odds_28 rfl ?_
      first | exact h0 (fun q => c2 q.1) | exact h0 (fun q => c12 q.2.1) | exact h0 (fun q => by rw [hpp] at c22; have := sm_inj (b := 0) (by omega) (by decide) c22; omega)
  · refine R_if_eq (tgt := 25) dX9_odds_5 (by decide) (fun _ => ?_) (fun q => absurd q (by decide))
    refine R_ldc2 dX9_odds_25 kl_RX9_463 ?_
    refine R_lreturn dX9_odds_28 rfl ?_
    first | exact h0 (fun q => c2 q.1) | exact h0 (fun q => c12 q.2.1) | exact h0 (fun q => by rw [hpp] at c22; have := sm_inj (b := 0) (by omega) (by decide) c22; omega)

set_option maxHeartbeats 4000000 in
theorem L_mean9 {G : rn_G} {d : Nat} {κ : Nat × Nat} {Q : Option Value → rn_S → Prop} {mi : Nat → Nat → Int32} {ml : Nat → Nat → Int64} {D : Nat → Nat} {x z : Int32} {T : Nat} {cl : CL} {w : WD} (hB : MB mi cl w) (hw : WJ T w) (hT : T + 200 < 2 ^ 30) {n : Nat} (hx : x = nI n) (hn0 : 1 ≤ n) (hn : n ≤ 60) (h : ∀ m, ME mi m → Q (some (.long (fracA (meanN (erA cl) n w) n z))) (m, ml, RF D, 164)) : ∀ (r k c : Nat) (y gd : Int32) (m : Nat → Nat → Int32) (v : WD), k + r = n → y = nI k → gd = nI c → c ≤ 6 * k → c + meanN (erA cl) r v = meanN (erA cl) n w → TR mi m cl v → WJ (T + k) v → Run G (d + 7) M_X9_mean 34 [.ref 116, .int x, .int z, .int gd, .int y] [] (m, ml, RF D, 164) κ Q := by
  intro r
  induction r with
  | zero =>
    intro k c y gd m v hkr hy hgd hck hc ht hwv
    have hkn : k = n := by omega
    rw [show meanN (erA cl) 0 v = 0 from rfl, Nat.add_zero] at hc
    rw [← hc] at h
    refine il_4 dX9_mean_34 ?_
    refine il_1 dX9_mean_36 ?_
    refine R_icmp_ge (tgt := 61) dX9_mean_37 (by decide) (fun c37 => ?_) (fun q => absurd q (not_not_intro (by rw [hy, hkn, hx]; exact Int32.le_refl _)))
    refine al_0 dX9_mean_61 ?_
    refine cv_0 dX9_mean_62 mm_RX9_427 sh_116 (Nat.le_of_ble_eq_true rfl) ⟨_, rfl, rfl⟩ (Nat.le_of_ble_eq_true rfl) (Nat.le_of_ble_eq_true rfl) (M_putBack ht.1 hB.2.2.2.1 hB.2.2.2.2.1 hB.2.2.2.2.2 (fun m3 hm3 => ?_))
    refine al_0 dX9_mean_65 ?_
    refine il_3 dX9_mean_66 ?_
    refine il_1 dX9_mean_67 ?_
    refine il_2 dX9_mean_68 ?_
    refine cv_3 dX9_mean_69 mm_RX9_465 sh_116 (Nat.le_of_ble_eq_true rfl) ⟨_, rfl, rfl⟩ (Nat.le_of_ble_eq_true rfl) (Nat.le_of_ble_eq_true rfl) (M_lowest hgd hx (by omega) (by omega) (by omega) ?_)
    refine R_lreturn dX9_mean_72 rfl ?_
    exact h m3 hm3
  | succ r ih =>
    intro k c y gd m v hkr hy hgd hck hc ht hwv
    rw [show meanN (erA cl) (r + 1) v = outN (minuteW (erA cl) v) + meanN (erA cl) r (minuteW (erA cl) v) from rfl] at hc
    refine il_4 dX9_mean_34 ?_
    refine il_1 dX9_mean_36 ?_
    refine R_icmp_ge (tgt := 61) dX9_mean_37 (by decide) (fun q => absurd q (by rw [hy, hx]; exact nI_ge (by omega) (by omega))) (fun c37 => ?_)
    refine al_0 dX9_mean_40 ?_
    refine cv_0 dX9_mean_41 mm_RX9_415 sh_116 (Nat.le_of_ble_eq_true rfl) ⟨_, rfl, rfl⟩ (Nat.le_of_ble_eq_true rfl) (Nat.le_of_ble_eq_true rfl) (M_goMinute (T := T + k) (ht.1.cm hB.1) (by rw [ht.2.1]; exact hwv) (by omega) (fun m2 q1 q2 q3 => ?_))
    have ht2 : TR mi m2 cl (minuteW (erA cl) v) := ⟨ht.1.mf q1, by rw [q2, ht.2.1], fun j hj h32 => by rw [q1.2 1 (by omega)] at hj; rw [q3 j hj h32]; exact ht.2.2 j hj h32⟩
    have hw2 : WJ (T + (k + 1)) (minuteW (erA cl) v) := hwv.minute (by omega)
    obtain ⟨hgo, ga, ga1, ga2⟩ := ht2.gone hw2
    refine il_3 dX9_mean_44 ?_
    refine al_0 dX9_mean_45 ?_
    refine al_0 dX9_mean_46 ?_
    refine R_getfi dX9_mean_47 fl_RX9_25 rfl sh_116 (Nat.le_of_ble_eq_true rfl) ?_
    refine cv_1 dX9_mean_50 mm_RX9_375 sh_116 (Nat.le_of_ble_eq_true rfl) ⟨_, rfl, rfl⟩ (Nat.le_of_ble_eq_true rfl) (Nat.le_of_ble_eq_true rfl) (M_ones ga2 ga1 ?_)
    rw [hgo, popJ_out hw2]
    refine R_iadd dX9_mean_53 ?_
    refine is_3 dX9_mean_54 rfl ?_
    refine ii_4 (v := _ + 1) dX9_mean_55 rfl (by rfl) ?_
    refine R_goto (tgt := 34) dX9_mean_58 (by decide) ?_
    have := outN_le hw2
    exact ih (k + 1) (c + outN (minuteW (erA cl) v)) _ _ m2 _ (by omega) (by rw [hy]; exact sm_add k 1) (by rw [hgd]; exact sm_add _ _) (by omega) (by rw [← hc]; omega) ht2 hw2

set_option maxHeartbeats 4000000 in
theorem M_mean {G : rn_G} {d : Nat} {κ : Nat × Nat} {Q : Option Value → rn_S → Prop} {mi : Nat → Nat → Int32} {ml : Nat → Nat → Int64} {D : Nat → Nat} {x z : Int32} {T : Nat} {cl : CL} {w : WD} (hB : MB mi cl w) (hw : WJ T w) (hT : T + 200 < 2 ^ 30) (h0 : ¬ ((1 ≤ x ∧ x ≤ 60) ∧ (0 ≤ z ∧ z ≤ 1)) → Q (some (.long (-9223372036854775808))) (mi, ml, RF D, 164)) (h : ∀ n m, x = nI n → 1 ≤ n → n ≤ 60 → (0 ≤ z ∧ z ≤ 1) → ME mi m → Q (some (.long (fracA (meanN (erA cl) n w) n z))) (m, ml, RF D, 164)) : Call G (d + 7) M_X9_mean [.ref 116, .int x, .int z] (mi, ml, RF D, 164) κ Q := by
  show Run G _ M_X9_mean 0 [.ref 116, .int x, .int z, .null, .null] [] _ _ _
  refine al_0 dX9_mean_0 ?_
  refine il_1 dX9_mean_1 ?_
  refine R_iconst (v := 1) dX9_mean_2 (by decide) ?_
  refine R_bipush (v := 60) dX9_mean_3 (by decide) ?_
  refine cv_3 dX9_mean_5 mm_RX9_293 sh_116 (Nat.le_of_ble_eq_true rfl) ⟨_, rfl, rfl⟩ (Nat.le_of_ble_eq_true rfl) (Nat.le_of_ble_eq_true rfl) (M_in (fun c5 => ?_) (fun c5 => ?_))
  · refine R_if_eq (tgt := 21) dX9_mean_8 (by decide) (fun q => absurd q (by decide)) (fun _ => ?_)
    refine al_0 dX9_mean_11 ?_
    refine il_2 dX9_mean_12 ?_
    refine R_iconst (v := 0) dX9_mean_13 (by decide) ?_
    refine R_iconst (v := 1) dX9_mean_14 (by decide) ?_
    refine cv_3 dX9_mean_15 mm_RX9_293 sh_116 (Nat.le_of_ble_eq_true rfl) ⟨_, rfl, rfl⟩ (Nat.le_of_ble_eq_true rfl) (Nat.le_of_ble_eq_true rfl) (M_in (fun c15 => ?_) (fun c15 => ?_))
    · refine R_if_ne (tgt := 25) dX9_mean_18 (by decide) (fun _ => ?_) (fun q => absurd q (by decide))
      refine al_0 dX9_mean_25 ?_
      refine cv_0 dX9_mean_26 mm_RX9_424 sh_116 (Nat.le_of_ble_eq_true rfl) ⟨_, rfl, rfl⟩ (Nat.le_of_ble_eq_true rfl) (Nat.le_of_ble_eq_true rfl) (M_save (fun ms g1 g2 g3 => ?_))
      obtain ⟨htr, -, -⟩ := save_tr hB hw g1 g2 g3
      refine R_iconst (v := 0) dX9_mean_29 (by decide) ?_
      refine is_3 dX9_mean_30 rfl ?_
      refine R_iconst (v := 0) dX9_mean_31 (by decide) ?_
      refine is_4 dX9_mean_32 rfl ?_
      obtain ⟨n, hn, hx⟩ := sm_of (Int32.le_trans (show (0 : Int32) ≤ 1 by decide) c5.1) ((lt_succ_iff (a := 60)).mpr c5.2) (by decide)
      have hn1 : 1 ≤ n := by have q := c5.1; rw [hx] at q; exact (sm_le_iff (a := 1) (by decide) (by omega)).mp q
      exact L_mean9 hB hw hT hx hn1 (by omega) (fun m hm => h n m hx hn1 (by omega) c15 hm) n 0 0 0 0 ms w (by omega) rfl rfl (Nat.le_refl 0) (Nat.zero_add _) htr hw
    · refine R_if_ne (tgt := 25) dX9_mean_18 (by decide) (fun q => absurd q (by decide)) (fun _ => ?_)
      refine R_ldc2 dX9_mean_21 kl_RX9_463 ?_
      refine R_lreturn dX9_mean_24 rfl ?_
      first | exact h0 (fun q => c5 q.1) | exact h0 (fun q => c15 q.2)
  · refine R_if_eq (tgt := 21) dX9_mean_8 (by decide) (fun _ => ?_) (fun q => absurd q (by decide))
    refine R_ldc2 dX9_mean_21 kl_RX9_463 ?_
    refine R_lreturn dX9_mean_24 rfl ?_
    first | exact h0 (fun q => c5 q.1) | exact h0 (fun q => c15 q.2)

theorem shl_1 {z : Int32} : ((if (1 : Int32) = 0 then clrB z z else setB z z) = setB z z) := if_neg (by decide)
theorem WJ.mono {T U : Nat} {w : WD} (h : WJ T w) (hTU : T ≤ U) : WJ U w := by
  obtain ⟨N, P, R, hN, hP, hR, h0, h2, h4, h5, ⟨a, ha, e⟩, hr⟩ := h
  exact ⟨N, P, R, hN, hP, hR, h0, h2, h4, h5, ⟨a, by omega, e⟩, hr⟩

set_option maxHeartbeats 4000000 in
theorem L_gone9 {G : rn_G} {d : Nat} {κ : Nat × Nat} {Q : Option Value → rn_S → Prop} {mi : Nat → Nat → Int32} {ml : Nat → Nat → Int64} {D : Nat → Nat} {x : Int32} {T : Nat} {cl : CL} {w : WD} (hB : MB mi cl w) (hw : WJ T w) (hT : T + 200 < 2 ^ 30) {P : Nat} (hpp : mi 116 1 = nI P) (hP : P ≤ 6) {N L : Nat} (hgg : mi 116 0 = nI N) (hN6 : N ≤ 6) (hL : L ≤ 10) (hc : mi 116 53 = nI L) (V : WD) (h : ∀ m, ME mi m → Q (some (.int (if x = 0 then outW V else V.1 1))) (m, ml, RF D, 164)) : ∀ (el : EL) (k : Nat) (y : Int32) (m : Nat → Nat → Int32) (v : WD), k + el.length = L → y = nI k → TR mi m cl v → WJ (T + k) v → (∀ j q, el[j]? = some q → mi 141 (k + j) = nI q.1 ∧ q.1 ≤ 3 ∧ (1 ≤ q.1 → mi 142 (k + j) = nI q.2) ∧ (q.1 = 1 ∨ q.1 = 2 → q.2 < N) ∧ (q.1 = 3 → q.2 < P)) → evF (erA cl) el v = V → Run G (d + 7) M_X9_gone 18 [.ref 116, .int x, .int y] [] (m, ml, RF D, 164) κ Q := by
  intro el
  induction el with
  | nil =>
    intro k y m v hkl hy ht hwv hs hV
    have ec : m 116 53 = nI L := by rw [ht.1.2.1 53 (by omega)]; exact hc
    have hkL : k = L := hkl
    have hV0 : v = V := hV
    subst hV0
    have hgo := (ht.gone hwv).1
    have h3 : m 116 3 = v.1 1 := by rw [← ht.2.1]; rfl
    refine il_2 dX9_gone_18 ?_
    refine al_0 dX9_gone_19 ?_
    refine R_getfi dX9_gone_20 fl_RX9_171 rfl sh_116 (Nat.le_of_ble_eq_true rfl) ?_
    refine R_icmp_ge (tgt := 122) dX9_gone_23 (by decide) (fun c23 => ?_) (fun q => absurd q (not_not_intro (by rw [hy, hkL, ec]; exact Int32.le_refl _)))
    refine il_1 dX9_gone_122 ?_
    refine R_if_ne (tgt := 133) dX9_gone_123 (by decide) (fun c123 => ?_) (fun c123 => ?_)
    · refine al_0 dX9_gone_133 ?_
      refine R_getfi dX9_gone_134 fl_RX9_19 rfl sh_116 (Nat.le_of_ble_eq_true rfl) ?_
      refine is_2 dX9_gone_137 rfl ?_
      refine al_0 dX9_gone_138 ?_
      refine cv_0 dX9_gone_139 mm_RX9_427 sh_116 (Nat.le_of_ble_eq_true rfl) ⟨_, rfl, rfl⟩ (Nat.le_of_ble_eq_true rfl) (Nat.le_of_ble_eq_true rfl) (M_putBack ht.1 hB.2.2.2.1 hB.2.2.2.2.1 hB.2.2.2.2.2 (fun m3 hm3 => ?_))
      refine il_2 dX9_gone_142 ?_
      refine R_ireturn dX9_gone_143 ⟨_, rfl, rfl⟩ ?_
      first | (rw [if_pos c123, ← hgo] at h; exact h m3 hm3) | (rw [if_neg c123, ← h3] at h; exact h m3 hm3)
    · refine al_0 dX9_gone_126 ?_
      refine R_getfi dX9_gone_127 fl_RX9_25 rfl sh_116 (Nat.le_of_ble_eq_true rfl) ?_
      refine R_goto (tgt := 137) dX9_gone_130 (by decide) ?_
      refine is_2 dX9_gone_137 rfl ?_
      refine al_0 dX9_gone_138 ?_
      refine cv_0 dX9_gone_139 mm_RX9_427 sh_116 (Nat.le_of_ble_eq_true rfl) ⟨_, rfl, rfl⟩ (Nat.le_of_ble_eq_true rfl) (Nat.le_of_ble_eq_true rfl) (M_putBack ht.1 hB.2.2.2.1 hB.2.2.2.2.1 hB.2.2.2.2.2 (fun m3 hm3 => ?_))
      refine il_2 dX9_gone_142 ?_
      refine R_ireturn dX9_gone_143 ⟨_, rfl, rfl⟩ ?_
      first | (rw [if_pos c123, ← hgo] at h; exact h m3 hm3) | (rw [if_neg c123, ← h3] at h; exact h m3 hm3)
  | cons q el ih =>
    intro k y m v hkl hy ht hwv hs hV
    rw [List.length_cons] at hkl
    have ec : m 116 53 = nI L := by rw [ht.1.2.1 53 (by omega)]; exact hc
    have em1 : m 116 1 = nI P := by rw [ht.1.2.1 1 (by omega)]; exact hpp
    have em0 : m 116 0 = nI N := by rw [ht.1.2.1 0 (by omega)]; exact hgg
    have v0 : v.1 0 = nI N := by rw [← ht.2.1]; exact em0
    have v2 : v.1 2 = nI P := by rw [← ht.2.1]; exact em1
    have v1 : v.1 1 = m 116 3 := by rw [← ht.2.1]; rfl
    obtain ⟨eq1, hq3, eq2, hqg, hqp⟩ := hs 0 q rfl
    rw [Nat.add_zero, ← ht.1.1 141 (by omega)] at eq1
    rw [Nat.add_zero, ← ht.1.1 142 (by omega)] at eq2
    have hk10 : k < 10 := by omega
    have hs2 : ∀ j u, el[j]? = some u → mi 141 (k + 1 + j) = nI u.1 ∧ u.1 ≤ 3 ∧ (1 ≤ u.1 → mi 142 (k + 1 + j) = nI u.2) ∧ (u.1 = 1 ∨ u.1 = 2 → u.2 < N) ∧ (u.1 = 3 → u.2 < P) := fun j u hj => by rw [show k + 1 + j = k + (j + 1) by omega]; exact hs (j + 1) u hj
    have hVc : evF (erA cl) el (evW (erA cl) q v) = V := hV
    have cases4 : q.1 = 0 ∨ q.1 = 1 ∨ q.1 = 2 ∨ q.1 = 3 := by omega
    rcases cases4 with e | e | e | e
    · rw [e] at eq1
      have hev : evW (erA cl) q v = minuteW (erA cl) v := by unfold evW; rw [if_pos e]
      rw [hev] at hVc
      refine il_2 dX9_gone_18 ?_
      refine al_0 dX9_gone_19 ?_
      refine R_getfi dX9_gone_20 fl_RX9_171 rfl sh_116 (Nat.le_of_ble_eq_true rfl) ?_
      refine R_icmp_ge (tgt := 122) dX9_gone_23 (by decide) (fun q => absurd q (by rw [hy, ec]; exact nI_ge (by omega) (by omega))) (fun c23 => ?_)
      refine al_0 dX9_gone_26 ?_
      refine R_getfr (r := 141) dX9_gone_27 fl_RX9_177 rfl sh_116 (Nat.le_of_ble_eq_true rfl) rf_116_55 ?_
      refine il_2 dX9_gone_30 ?_
      refine R_iald dX9_gone_31 sh_141 (Nat.le_of_ble_eq_true rfl) (rn_ixe hy) hk10 ?_
      refine R_if_ne (tgt := 39) dX9_gone_32 (by decide) (fun q => absurd q (not_not_intro eq1)) (fun c32 => ?_)
      refine al_0 dX9_gone_35 ?_
      refine cv_0 dX9_gone_36 mm_RX9_415 sh_116 (Nat.le_of_ble_eq_true rfl) ⟨_, rfl, rfl⟩ (Nat.le_of_ble_eq_true rfl) (Nat.le_of_ble_eq_true rfl) (M_goMinute (T := T + k) (ht.1.cm hB.1) (by rw [ht.2.1]; exact hwv) (by omega) (fun m2 q1 q2 q3 => ?_))
      have ht2 : TR mi m2 cl (minuteW (erA cl) v) := ⟨ht.1.mf q1, by rw [q2, ht.2.1], fun j hj h32 => by rw [q1.2 1 (by omega)] at hj; rw [q3 j hj h32]; exact ht.2.2 j hj h32⟩
      have hw2 : WJ (T + (k + 1)) (minuteW (erA cl) v) := hwv.minute (by omega)
      have e141 : m2 141 = m 141 := q1.1 141 (by decide) (by decide) (by decide) (by decide) (by decide)
      rw [← e141] at eq1
      refine al_0 dX9_gone_39 ?_
      refine al_0 dX9_gone_40 ?_
      refine R_getfr (r := 141) dX9_gone_41 fl_RX9_177 rfl sh_116 (Nat.le_of_ble_eq_true rfl) rf_116_55 ?_
      refine il_2 dX9_gone_44 ?_
      refine R_iald dX9_gone_45 sh_141 (Nat.le_of_ble_eq_true rfl) (rn_ixe hy) hk10 ?_
      refine R_iconst (v := 1) dX9_gone_46 (by decide) ?_
      refine R_iconst (v := 2) dX9_gone_47 (by decide) ?_
      refine cv_3 dX9_gone_48 mm_RX9_293 sh_116 (Nat.le_of_ble_eq_true rfl) ⟨_, rfl, rfl⟩ (Nat.le_of_ble_eq_true rfl) (Nat.le_of_ble_eq_true rfl) (M_in (fun c => absurd c (by rw [eq1]; decide)) (fun _ => ?_))
      refine R_if_eq (tgt := 87) dX9_gone_51 (by decide) (fun _ => ?_) (fun q => absurd q (by decide))
      refine al_0 dX9_gone_87 ?_
      refine R_getfr (r := 141) dX9_gone_88 fl_RX9_177 rfl sh_116 (Nat.le_of_ble_eq_true rfl) rf_116_55 ?_
      refine il_2 dX9_gone_91 ?_
      refine R_iald dX9_gone_92 sh_141 (Nat.le_of_ble_eq_true rfl) (rn_ixe hy) hk10 ?_
      refine R_iconst (v := 3) dX9_gone_93 (by decide) ?_
      refine R_icmp_ne (tgt := 116) dX9_gone_94 (by decide) (fun c94 => ?_) (fun q => absurd q (by rw [eq1]; decide))
      refine ii_2 (v := _ + 1) dX9_gone_116 rfl (by rfl) ?_
      refine R_goto (tgt := 18) dX9_gone_119 (by decide) ?_
      exact ih (k + 1) _ m2 _ (by omega) (by rw [hy]; exact sm_add k 1) ht2 hw2 hs2 hVc
    · rw [e] at eq1
      have hev : evW (erA cl) q v = shutW (nI q.2) 0 v := by unfold evW; rw [if_neg (by omega), if_pos e]
      rw [hev] at hVc
      have eq2 := eq2 (by omega)
      refine il_2 dX9_gone_18 ?_
      refine al_0 dX9_gone_19 ?_
      refine R_getfi dX9_gone_20 fl_RX9_171 rfl sh_116 (Nat.le_of_ble_eq_true rfl) ?_
      refine R_icmp_ge (tgt := 122) dX9_gone_23 (by decide) (fun q => absurd q (by rw [hy, ec]; exact nI_ge (by omega) (by omega))) (fun c23 => ?_)
      refine al_0 dX9_gone_26 ?_
      refine R_getfr (r := 141) dX9_gone_27 fl_RX9_177 rfl sh_116 (Nat.le_of_ble_eq_true rfl) rf_116_55 ?_
      refine il_2 dX9_gone_30 ?_
      refine R_iald dX9_gone_31 sh_141 (Nat.le_of_ble_eq_true rfl) (rn_ixe hy) hk10 ?_
      refine R_if_ne (tgt := 39) dX9_gone_32 (by decide) (fun c32 => ?_) (fun q => absurd q (by rw [eq1]; decide))
      refine al_0 dX9_gone_39 ?_
      refine al_0 dX9_gone_40 ?_
      refine R_getfr (r := 141) dX9_gone_41 fl_RX9_177 rfl sh_116 (Nat.le_of_ble_eq_true rfl) rf_116_55 ?_
      refine il_2 dX9_gone_44 ?_
      refine R_iald dX9_gone_45 sh_141 (Nat.le_of_ble_eq_true rfl) (rn_ixe hy) hk10 ?_
      refine R_iconst (v := 1) dX9_gone_46 (by decide) ?_
      refine R_iconst (v := 2) dX9_gone_47 (by decide) ?_
      refine cv_3 dX9_gone_48 mm_RX9_293 sh_116 (Nat.le_of_ble_eq_true rfl) ⟨_, rfl, rfl⟩ (Nat.le_of_ble_eq_true rfl) (Nat.le_of_ble_eq_true rfl) (M_in (fun _ => ?_) (fun c => absurd ⟨by rw [eq1]; decide, by rw [eq1]; decide⟩ c))
      refine R_if_eq (tgt := 87) dX9_gone_51 (by decide) (fun q => absurd q (by decide)) (fun _ => ?_)
      refine al_0 dX9_gone_54 ?_
      refine al_0 dX9_gone_55 ?_
      refine al_0 dX9_gone_56 ?_
      refine R_getfi dX9_gone_57 fl_RX9_19 rfl sh_116 (Nat.le_of_ble_eq_true rfl) ?_
      refine al_0 dX9_gone_60 ?_
      refine R_getfr (r := 142) dX9_gone_61 fl_RX9_180 rfl sh_116 (Nat.le_of_ble_eq_true rfl) rf_116_56 ?_
      refine il_2 dX9_gone_64 ?_
      refine R_iald dX9_gone_65 sh_142 (Nat.le_of_ble_eq_true rfl) (rn_ixe hy) hk10 ?_
      refine al_0 dX9_gone_66 ?_
      refine R_getfr (r := 141) dX9_gone_67 fl_RX9_177 rfl sh_116 (Nat.le_of_ble_eq_true rfl) rf_116_55 ?_
      refine il_2 dX9_gone_70 ?_
      refine R_iald dX9_gone_71 sh_141 (Nat.le_of_ble_eq_true rfl) (rn_ixe hy) hk10 ?_
      refine R_iconst (v := 2) dX9_gone_72 (by decide) ?_
      refine R_icmp_ne (tgt := 80) dX9_gone_73 (by decide) (fun c73 => ?_) (fun q => absurd q (by rw [eq1]; decide))
      refine R_iconst (v := 0) dX9_gone_80 (by decide) ?_
      refine cv_3 dX9_gone_81 mm_RX9_301 sh_116 (Nat.le_of_ble_eq_true rfl) ⟨_, rfl, rfl⟩ (Nat.le_of_ble_eq_true rfl) (Nat.le_of_ble_eq_true rfl) (M_with0 ?_)
      rw [if_pos (show (0 : Int32) = 0 from rfl), eq2]
      refine R_putfi dX9_gone_84 fl_RX9_19 rfl (Or.inl rfl) sh_116 (Nat.le_of_ble_eq_true rfl) rfl rfl ?_
      refine al_0 dX9_gone_87 ?_
      refine R_getfr (r := 141) dX9_gone_88 fl_RX9_177 rfl sh_116 (Nat.le_of_ble_eq_true rfl) rf_116_55 ?_
      refine il_2 dX9_gone_91 ?_
      refine R_iald dX9_gone_92 sh_141 (Nat.le_of_ble_eq_true rfl) (rn_ixe hy) hk10 ?_
      refine R_iconst (v := 3) dX9_gone_93 (by decide) ?_
      refine R_icmp_ne (tgt := 116) dX9_gone_94 (by decide) (fun c94 => ?_) (fun q => absurd q (by rw [rn_u_ne (show (141 : Nat) ≠ 116 by decide), eq1]; decide))
      refine ii_2 (v := _ + 1) dX9_gone_116 rfl (by rfl) ?_
      refine R_goto (tgt := 18) dX9_gone_119 (by decide) ?_
      have ht2 := ht.up (f := 3) (k := 1) (v := clrB (m 116 3) (nI q.2)) (Or.inl ⟨rfl, rfl⟩)
      rw [show upS v 1 (clrB (m 116 3) (nI q.2)) = shutW (nI q.2) 0 v by unfold shutW; rw [v1, if_pos rfl]] at ht2
      exact ih (k + 1) _ _ _ (by omega) (by rw [hy]; exact sm_add k 1) ht2 ((hwv.shut v0 hN6 (hqg (by omega))).mono (by omega)) hs2 hVc
    · rw [e] at eq1
      have hev : evW (erA cl) q v = shutW (nI q.2) 1 v := by unfold evW; rw [if_neg (by omega), if_neg (by omega), if_pos e]
      rw [hev] at hVc
      have eq2 := eq2 (by omega)
      refine il_2 dX9_gone_18 ?_
      refine al_0 dX9_gone_19 ?_
      refine R_getfi dX9_gone_20 fl_RX9_171 rfl sh_116 (Nat.le_of_ble_eq_true rfl) ?_
      refine R_icmp_ge (tgt := 122) dX9_gone_23 (by decide) (fun q => absurd q (by rw [hy, ec]; exact nI_ge (by omega) (by omega))) (fun c23 => ?_)
      refine al_0 dX9_gone_26 ?_
      refine R_getfr (r := 141) dX9_gone_27 fl_RX9_177 rfl sh_116 (Nat.le_of_ble_eq_true rfl) rf_116_55 ?_
      refine il_2 dX9_gone_30 ?_
      refine R_iald dX9_gone_31 sh_141 (Nat.le_of_ble_eq_true rfl) (rn_ixe hy) hk10 ?_
      refine R_if_ne (tgt := 39) dX9_gone_32 (by decide) (fun c32 => ?_) (fun q => absurd q (by rw [eq1]; decide))
      refine al_0 dX9_gone_39 ?_
      refine al_0 dX9_gone_40 ?_
      refine R_getfr (r := 141) dX9_gone_41 fl_RX9_177 rfl sh_116 (Nat.le_of_ble_eq_true rfl) rf_116_55 ?_
      refine il_2 dX9_gone_44 ?_
      refine R_iald dX9_gone_45 sh_141 (Nat.le_of_ble_eq_true rfl) (rn_ixe hy) hk10 ?_
      refine R_iconst (v := 1) dX9_gone_46 (by decide) ?_
      refine R_iconst (v := 2) dX9_gone_47 (by decide) ?_
      refine cv_3 dX9_gone_48 mm_RX9_293 sh_116 (Nat.le_of_ble_eq_true rfl) ⟨_, rfl, rfl⟩ (Nat.le_of_ble_eq_true rfl) (Nat.le_of_ble_eq_true rfl) (M_in (fun _ => ?_) (fun c => absurd ⟨by rw [eq1]; decide, by rw [eq1]; decide⟩ c))
      refine R_if_eq (tgt := 87) dX9_gone_51 (by decide) (fun q => absurd q (by decide)) (fun _ => ?_)
      refine al_0 dX9_gone_54 ?_
      refine al_0 dX9_gone_55 ?_
      refine al_0 dX9_gone_56 ?_
      refine R_getfi dX9_gone_57 fl_RX9_19 rfl sh_116 (Nat.le_of_ble_eq_true rfl) ?_
      refine al_0 dX9_gone_60 ?_
      refine R_getfr (r := 142) dX9_gone_61 fl_RX9_180 rfl sh_116 (Nat.le_of_ble_eq_true rfl) rf_116_56 ?_
      refine il_2 dX9_gone_64 ?_
      refine R_iald dX9_gone_65 sh_142 (Nat.le_of_ble_eq_true rfl) (rn_ixe hy) hk10 ?_
      refine al_0 dX9_gone_66 ?_
      refine R_getfr (r := 141) dX9_gone_67 fl_RX9_177 rfl sh_116 (Nat.le_of_ble_eq_true rfl) rf_116_55 ?_
      refine il_2 dX9_gone_70 ?_
      refine R_iald dX9_gone_71 sh_141 (Nat.le_of_ble_eq_true rfl) (rn_ixe hy) hk10 ?_
      refine R_iconst (v := 2) dX9_gone_72 (by decide) ?_
      refine R_icmp_ne (tgt := 80) dX9_gone_73 (by decide) (fun q => absurd q (not_not_intro eq1)) (fun c73 => ?_)
      refine R_iconst (v := 1) dX9_gone_76 (by decide) ?_
      refine R_goto (tgt := 81) dX9_gone_77 (by decide) ?_
      refine cv_3 dX9_gone_81 mm_RX9_301 sh_116 (Nat.le_of_ble_eq_true rfl) ⟨_, rfl, rfl⟩ (Nat.le_of_ble_eq_true rfl) (Nat.le_of_ble_eq_true rfl) (M_with0 ?_)
      rw [if_neg (show ¬ (1 : Int32) = 0 by decide), eq2]
      refine R_putfi dX9_gone_84 fl_RX9_19 rfl (Or.inl rfl) sh_116 (Nat.le_of_ble_eq_true rfl) rfl rfl ?_
      refine al_0 dX9_gone_87 ?_
      refine R_getfr (r := 141) dX9_gone_88 fl_RX9_177 rfl sh_116 (Nat.le_of_ble_eq_true rfl) rf_116_55 ?_
      refine il_2 dX9_gone_91 ?_
      refine R_iald dX9_gone_92 sh_141 (Nat.le_of_ble_eq_true rfl) (rn_ixe hy) hk10 ?_
      refine R_iconst (v := 3) dX9_gone_93 (by decide) ?_
      refine R_icmp_ne (tgt := 116) dX9_gone_94 (by decide) (fun c94 => ?_) (fun q => absurd q (by rw [rn_u_ne (show (141 : Nat) ≠ 116 by decide), eq1]; decide))
      refine ii_2 (v := _ + 1) dX9_gone_116 rfl (by rfl) ?_
      refine R_goto (tgt := 18) dX9_gone_119 (by decide) ?_
      have ht2 := ht.up (f := 3) (k := 1) (v := setB (m 116 3) (nI q.2)) (Or.inl ⟨rfl, rfl⟩)
      rw [show upS v 1 (setB (m 116 3) (nI q.2)) = shutW (nI q.2) 1 v by unfold shutW; rw [v1, if_neg (show ¬ (1 : Int32) = 0 by decide)]] at ht2
      exact ih (k + 1) _ _ _ (by omega) (by rw [hy]; exact sm_add k 1) ht2 ((hwv.shut v0 hN6 (hqg (by omega))).mono (by omega)) hs2 hVc
    · rw [e] at eq1
      have hev : evW (erA cl) q v = callW q.2 1 v := by unfold evW; rw [if_neg (by omega), if_neg (by omega), if_neg (by omega)]
      rw [hev] at hVc
      have eq2 := eq2 (by omega)
      refine il_2 dX9_gone_18 ?_
      refine al_0 dX9_gone_19 ?_
      refine R_getfi dX9_gone_20 fl_RX9_171 rfl sh_116 (Nat.le_of_ble_eq_true rfl) ?_
      refine R_icmp_ge (tgt := 122) dX9_gone_23 (by decide) (fun q => absurd q (by rw [hy, ec]; exact nI_ge (by omega) (by omega))) (fun c23 => ?_)
      refine al_0 dX9_gone_26 ?_
      refine R_getfr (r := 141) dX9_gone_27 fl_RX9_177 rfl sh_116 (Nat.le_of_ble_eq_true rfl) rf_116_55 ?_
      refine il_2 dX9_gone_30 ?_
      refine R_iald dX9_gone_31 sh_141 (Nat.le_of_ble_eq_true rfl) (rn_ixe hy) hk10 ?_
      refine R_if_ne (tgt := 39) dX9_gone_32 (by decide) (fun c32 => ?_) (fun q => absurd q (by rw [eq1]; decide))
      refine al_0 dX9_gone_39 ?_
      refine al_0 dX9_gone_40 ?_
      refine R_getfr (r := 141) dX9_gone_41 fl_RX9_177 rfl sh_116 (Nat.le_of_ble_eq_true rfl) rf_116_55 ?_
      refine il_2 dX9_gone_44 ?_
      refine R_iald dX9_gone_45 sh_141 (Nat.le_of_ble_eq_true rfl) (rn_ixe hy) hk10 ?_
      refine R_iconst (v := 1) dX9_gone_46 (by decide) ?_
      refine R_iconst (v := 2) dX9_gone_47 (by decide) ?_
      refine cv_3 dX9_gone_48 mm_RX9_293 sh_116 (Nat.le_of_ble_eq_true rfl) ⟨_, rfl, rfl⟩ (Nat.le_of_ble_eq_true rfl) (Nat.le_of_ble_eq_true rfl) (M_in (fun c => absurd c (by rw [eq1]; decide)) (fun _ => ?_))
      refine R_if_eq (tgt := 87) dX9_gone_51 (by decide) (fun _ => ?_) (fun q => absurd q (by decide))
      refine al_0 dX9_gone_87 ?_
      refine R_getfr (r := 141) dX9_gone_88 fl_RX9_177 rfl sh_116 (Nat.le_of_ble_eq_true rfl) rf_116_55 ?_
      refine il_2 dX9_gone_91 ?_
      refine R_iald dX9_gone_92 sh_141 (Nat.le_of_ble_eq_true rfl) (rn_ixe hy) hk10 ?_
      refine R_iconst (v := 3) dX9_gone_93 (by decide) ?_
      refine R_icmp_ne (tgt := 116) dX9_gone_94 (by decide) (fun q => absurd q (not_not_intro eq1)) (fun c94 => ?_)
      refine al_0 dX9_gone_97 ?_
      refine al_0 dX9_gone_98 ?_
      refine al_0 dX9_gone_99 ?_
      refine R_getfi dX9_gone_100 fl_RX9_22 rfl sh_116 (Nat.le_of_ble_eq_true rfl) ?_
      refine al_0 dX9_gone_103 ?_
      refine R_getfr (r := 142) dX9_gone_104 fl_RX9_180 rfl sh_116 (Nat.le_of_ble_eq_true rfl) rf_116_56 ?_
      refine il_2 dX9_gone_107 ?_
      refine R_iald dX9_gone_108 sh_142 (Nat.le_of_ble_eq_true rfl) (rn_ixe hy) hk10 ?_
      refine R_iconst (v := 1) dX9_gone_109 (by decide) ?_
      refine cv_3 dX9_gone_110 mm_RX9_301 sh_116 (Nat.le_of_ble_eq_true rfl) ⟨_, rfl, rfl⟩ (Nat.le_of_ble_eq_true rfl) (Nat.le_of_ble_eq_true rfl) (M_with0 ?_)
      rw [if_neg (show ¬ (1 : Int32) = 0 by decide), eq2]
      refine R_putfi dX9_gone_113 fl_RX9_22 rfl (Or.inl rfl) sh_116 (Nat.le_of_ble_eq_true rfl) rfl rfl ?_
      refine ii_2 (v := _ + 1) dX9_gone_116 rfl (by rfl) ?_
      refine R_goto (tgt := 18) dX9_gone_119 (by decide) ?_
      exact ih (k + 1) _ _ _ (by omega) (by rw [hy]; exact sm_add k 1) (ht.call em1 hP (hqp e)) ((hwv.call v2 hP (hqp e) (Or.inr rfl)).mono (by omega)) hs2 hVc

set_option maxHeartbeats 4000000 in
theorem M_gone {G : rn_G} {d : Nat} {κ : Nat × Nat} {Q : Option Value → rn_S → Prop} {mi : Nat → Nat → Int32} {ml : Nat → Nat → Int64} {D : Nat → Nat} {x : Int32} {T : Nat} {cl : CL} {w : WD} (hB : MB mi cl w) (hw : WJ T w) (hT : T + 200 < 2 ^ 30) {P : Nat} (hpp : mi 116 1 = nI P) (hP : P ≤ 6) {N : Nat} (hgg : mi 116 0 = nI N) (hN6 : N ≤ 6) {el : EL} (hel : ELM mi N P el) (h0 : ¬ (0 ≤ x ∧ x ≤ 1) → Q (some (.int (-1))) (mi, ml, RF D, 164)) (h : ∀ m, (0 ≤ x ∧ x ≤ 1) → ME mi m → Q (some (.int (if x = 0 then outW (evF (erA cl) el w) else (evF (erA cl) el w).1 1))) (m, ml, RF D, 164)) : Call G (d + 7) M_X9_gone [.ref 116, .int x] (mi, ml, RF D, 164) κ Q := by
  show Run G _ M_X9_gone 0 [.ref 116, .int x, .null] [] _ _ _
  refine al_0 dX9_gone_0 ?_
  refine il_1 dX9_gone_1 ?_
  refine R_iconst (v := 0) dX9_gone_2 (by decide) ?_
  refine R_iconst (v := 1) dX9_gone_3 (by decide) ?_
  refine cv_3 dX9_gone_4 mm_RX9_293 sh_116 (Nat.le_of_ble_eq_true rfl) ⟨_, rfl, rfl⟩ (Nat.le_of_ble_eq_true rfl) (Nat.le_of_ble_eq_true rfl) (M_in (fun c4 => ?_) (fun c4 => ?_))
  · refine R_if_ne (tgt := 12) dX9_gone_7 (by decide) (fun _ => ?_) (fun q => absurd q (by decide))
    refine al_0 dX9_gone_12 ?_
    refine cv_0 dX9_gone_13 mm_RX9_424 sh_116 (Nat.le_of_ble_eq_true rfl) ⟨_, rfl, rfl⟩ (Nat.le_of_ble_eq_true rfl) (Nat.le_of_ble_eq_true rfl) (M_save (fun ms g1 g2 g3 => ?_))
    obtain ⟨htr, -, -⟩ := save_tr hB hw g1 g2 g3
    refine R_iconst (v := 0) dX9_gone_16 (by decide) ?_
    refine is_2 dX9_gone_17 rfl ?_
    obtain ⟨l1, l2, l3⟩ := hel
    exact L_gone9 hB hw hT hpp hP hgg hN6 l1 l2 _ (fun m hm => h m c4 hm) el 0 0 ms w (by omega) rfl htr hw (fun j q hj => by rw [Nat.zero_add]; exact l3 j q hj) rfl
  · refine R_if_ne (tgt := 12) dX9_gone_7 (by decide) (fun q => absurd q (by decide)) (fun _ => ?_)
    refine R_iconst (v := -1) dX9_gone_10 (by decide) ?_
    refine R_ireturn dX9_gone_11 ⟨_, rfl, rfl⟩ ?_
    exact h0 c4
