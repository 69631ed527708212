/-! the class: clear, stay, hides, odds, mean, gone -/
theorem rf_40_0 {D : Nat → Nat} : RF D 40 0 = 41 := rfl
theorem rf_40_1 {D : Nat → Nat} : RF D 40 1 = 42 := rfl
theorem rf_40_2 {D : Nat → Nat} : RF D 40 2 = 43 := rfl
theorem rf_44_0 {D : Nat → Nat} : RF D 44 0 = 45 := rfl
theorem rf_44_1 {D : Nat → Nat} : RF D 44 1 = 46 := rfl
theorem rf_44_2 {D : Nat → Nat} : RF D 44 2 = 47 := rfl
theorem rf_48_0 {D : Nat → Nat} : RF D 48 0 = 49 := rfl
theorem rf_48_1 {D : Nat → Nat} : RF D 48 1 = 50 := rfl
theorem rf_48_2 {D : Nat → Nat} : RF D 48 2 = 51 := rfl

set_option maxHeartbeats 4000000 in
theorem L_clearC {G : rn_G} {d : Nat} {κ : Nat × Nat} {Q : Option Value → rn_S → Prop} {mi : Nat → Nat → Int32} {ml : Nat → Nat → Int64} {D : Nat → Nat} {w : WD} {c k : Nat} {ds : Nat → CL} {sl : SL} {el bl : EL} {im : IM} {T : Nat → Nat} {L : Nat} {ac : List Int32} {tp : TP} (hv : IV w c k ds sl el bl im ac tp) (hc : CR w c k ds sl el bl im T L ac tp mi ml D) {V : Int32} (h : ∀ m l D', HI mi m ml l → CR w c k ds sl el bl im T L ac tp m l D' → Q (some (.int V)) (m, l, RF D', 164)) : ∀ (n i : Nat) (x : Int32) (m : Nat → Nat → Int32) (D' : Nat → Nat) (v : WD), n + i = 100 → x = nI i → TRY mi m D D' c v → WJ (9999 + i) v → clF (erA (cuL ds c)) n i v = V → Run G (d + 29) M_X8_clear 13 [.ref 1, .int x] [] (m, ml, RF D', 164) κ Q := by
  intro n
  induction n with
  | zero =>
    intro i x m D' v hni hx ht hwv hV
    have hV0 : -5 = V := hV
    obtain rfl : i = 100 := by omega
    refine il_1 dX8_clear_13 ?_
    refine R_bipush (v := 99) dX8_clear_14 (by decide) ?_
    refine R_icmp_gt (tgt := 44) dX8_clear_16 (by decide) (fun c16 => ?_) (fun q => absurd q (not_not_intro (by rw [hx]; decide)))
    refine R_bipush (v := -5) dX8_clear_44 (by decide) ?_
    refine R_ireturn dX8_clear_46 ⟨_, rfl, rfl⟩ ?_
    rw [hV0]
    exact h m ml D' (ht.hi ml) (ht.cr hv hc)
  | succ n ih =>
    intro i x m D' v hni hx ht hwv hV
    unfold clF at hV
    refine il_1 dX8_clear_13 ?_
    refine R_bipush (v := 99) dX8_clear_14 (by decide) ?_
    refine R_icmp_gt (tgt := 44) dX8_clear_16 (by decide) (fun q => absurd q (Int32.not_lt.mpr (by rw [hx]; exact (sm_le_iff (b := 99) (by omega) (by decide)).mpr (by omega)))) (fun c16 => ?_)
    refine al_0 dX8_clear_19 ?_
    refine R_getfr (r := 21) dX8_clear_20 fl_RX8_18 rfl sh_1 (Nat.le_of_ble_eq_true rfl) rf_1_1 ?_
    refine cv_0 dX8_clear_23 mm_RX8_214 sh_21 (Nat.le_of_ble_eq_true rfl) ⟨_, rfl, rfl⟩ (Nat.le_of_ble_eq_true rfl) (Nat.le_of_ble_eq_true rfl) (K_tins hv hc ht hwv ?_)
    refine R_if_ne (tgt := 31) dX8_clear_26 (by decide) (fun c26 => ?_) (fun c26 => ?_)
    · refine al_0 dX8_clear_31 ?_
      refine R_getfr (r := 21) dX8_clear_32 fl_RX8_18 rfl sh_1 (Nat.le_of_ble_eq_true rfl) rf_1_1 ?_
      refine cv_0 dX8_clear_35 mm_RX8_217 sh_21 (Nat.le_of_ble_eq_true rfl) ⟨_, rfl, rfl⟩ (Nat.le_of_ble_eq_true rfl) (Nat.le_of_ble_eq_true rfl) (K_tmin hv hc ht hwv (by omega) (fun m2 ht2 => ?_))
      refine ii_1 (v := _ + 1) dX8_clear_38 rfl (by rfl) ?_
      refine R_goto (tgt := 13) dX8_clear_41 (by decide) ?_
      rw [if_neg c26] at hV
      exact ih (i + 1) _ m2 _ _ (by omega) (by rw [hx]; exact sm_add i 1) ht2 (hwv.minute (by omega)) hV
    · refine il_1 dX8_clear_29 ?_
      refine R_ireturn dX8_clear_30 ⟨_, rfl, rfl⟩ ?_
      rw [if_pos c26, ← hx] at hV
      rw [hV]
      exact h m ml D' (ht.hi ml) (ht.cr hv hc)

set_option maxHeartbeats 4000000 in
theorem KC_clear {G : rn_G} {d : Nat} {κ : Nat × Nat} {Q : Option Value → rn_S → Prop} {mi : Nat → Nat → Int32} {ml : Nat → Nat → Int64} {D : Nat → Nat} {w : WD} {c k : Nat} {ds : Nat → CL} {sl : SL} {el bl : EL} {im : IM} {T : Nat → Nat} {L : Nat} {ac : List Int32} {tp : TP} (hv : IV w c k ds sl el bl im ac tp) (hc : CR w c k ds sl el bl im T L ac tp mi ml D) (h : ∀ m l D', HI mi m ml l → CR w c k ds sl el bl im T L ac tp m l D' → Q (some (.int (clF (erA (cuL ds c)) 100 0 w))) (m, l, RF D', 164))  : Call G (d + 29) M_X8_clear [.ref 1] (mi, ml, RF D, 164) κ Q := by
  show Run G _ M_X8_clear 0 [.ref 1, .null] [] _ _ _
  refine al_0 dX8_clear_0 ?_
  refine R_getfr (r := 21) dX8_clear_1 fl_RX8_18 rfl sh_1 (Nat.le_of_ble_eq_true rfl) rf_1_1 ?_
  refine al_0 dX8_clear_4 ?_
  refine R_getfr (r := 2) dX8_clear_5 fl_RX8_12 rfl sh_1 (Nat.le_of_ble_eq_true rfl) rf_1_0 ?_
  refine cv_1 dX8_clear_8 mm_RX8_210 sh_21 (Nat.le_of_ble_eq_true rfl) ⟨_, rfl, rfl⟩ (Nat.le_of_ble_eq_true rfl) (Nat.le_of_ble_eq_true rfl) (K_trial hv hc (fun m1 D1 ht1 => ?_))
  refine R_iconst (v := 0) dX8_clear_11 (by decide) ?_
  refine is_1 dX8_clear_12 rfl ?_
  exact L_clearC hv hc h 100 0 0 m1 D1 w rfl rfl ht1 hv.1.1 rfl

set_option maxHeartbeats 4000000 in
theorem KC_stay {G : rn_G} {d : Nat} {κ : Nat × Nat} {Q : Option Value → rn_S → Prop} {mi : Nat → Nat → Int32} {ml : Nat → Nat → Int64} {D : Nat → Nat} {w : WD} {c k : Nat} {ds : Nat → CL} {sl : SL} {el bl : EL} {im : IM} {T : Nat → Nat} {L : Nat} {ac : List Int32} {tp : TP} (hv : IV w c k ds sl el bl im ac tp) (hc : CR w c k ds sl el bl im T L ac tp mi ml D) (h : ∀ m l D', HI mi m ml l → CR w c k ds sl el bl im T L ac tp m l D' → Q (some (.int (stayA (erA (cuL ds c)) w))) (m, l, RF D', 164))  : Call G (d + 30) M_X8_stay [.ref 1] (mi, ml, RF D, 164) κ Q := by
  show Run G _ M_X8_stay 0 [.ref 1, .null] [] _ _ _
  have hw := hv.1.1
  have hk6 := hv.2.2.1
  have hck := hv.2.1
  have hB : PB 2 := Or.inl rfl
  obtain ⟨hD2, hwc, z12, z13, z14⟩ := hc.1
  obtain ⟨cp1, cp2, cp3, cp4⟩ := cuA_pd (c := c) (by omega)
  have hkD : PD (D 2) := by rw [hD2]; exact cp1
  obtain ⟨N, P, R, hN, hP, hR, hg, hpp, hrr, hPJ⟩ := hc.1.n hw
  obtain ⟨w0, w1, w2, w3, w4, w5, w6⟩ := hc.1.cells
  refine al_0 dX8_stay_0 ?_
  refine R_getfr (r := 21) dX8_stay_1 fl_RX8_18 rfl sh_1 (Nat.le_of_ble_eq_true rfl) rf_1_1 ?_
  refine al_0 dX8_stay_4 ?_
  refine R_getfr (r := 2) dX8_stay_5 fl_RX8_12 rfl sh_1 (Nat.le_of_ble_eq_true rfl) rf_1_0 ?_
  refine cv_1 dX8_stay_8 mm_RX8_210 sh_21 (Nat.le_of_ble_eq_true rfl) ⟨_, rfl, rfl⟩ (Nat.le_of_ble_eq_true rfl) (Nat.le_of_ble_eq_true rfl) (K_trial hv hc (fun m1 D1 ht1 => ?_))
  refine al_0 dX8_stay_11 ?_
  refine R_getfr (r := 21) dX8_stay_12 fl_RX8_18 rfl sh_1 (Nat.le_of_ble_eq_true rfl) rf_1_1 ?_
  refine R_bipush (v := 99) dX8_stay_15 (by decide) ?_
  refine cv_1 dX8_stay_17 mm_RX8_207 sh_21 (Nat.le_of_ble_eq_true rfl) ⟨_, rfl, rfl⟩ (Nat.le_of_ble_eq_true rfl) (Nat.le_of_ble_eq_true rfl) (K_tmins hv hc ht1 (n := 99) rfl hw (by decide) (fun m2 ht2 => ?_))
  have hw2 := hw.mins (er := erA (cuL ds c)) 99 9999 w (by decide)
  have e26 : m2 21 6 = w.1 2 := by
    have q : (minsW (erA (cuL ds c)) 99 w).1 2 = m2 21 6 := by rw [← ht2.2.1]; rfl
    rw [← q]; exact mins_2 99 w
  refine R_iconst (v := 1) dX8_stay_20 (by decide) ?_
  refine al_0 dX8_stay_21 ?_
  refine R_getfr (r := 21) dX8_stay_22 fl_RX8_18 rfl sh_1 (Nat.le_of_ble_eq_true rfl) rf_1_1 ?_
  refine R_getfi dX8_stay_25 fl_RX8_86 rfl sh_21 (Nat.le_of_ble_eq_true rfl) ?_
  refine R_ishl dX8_stay_28 ?_
  refine R_iconst (v := 1) dX8_stay_29 (by decide) ?_
  refine R_isub dX8_stay_30 ?_
  refine is_1 dX8_stay_31 rfl ?_
  refine il_1 dX8_stay_32 ?_
  refine al_0 dX8_stay_33 ?_
  refine R_getfr (r := 21) dX8_stay_34 fl_RX8_18 rfl sh_1 (Nat.le_of_ble_eq_true rfl) rf_1_1 ?_
  refine cv_0 dX8_stay_37 mm_RX8_203 sh_21 (Nat.le_of_ble_eq_true rfl) ⟨_, rfl, rfl⟩ (Nat.le_of_ble_eq_true rfl) (Nat.le_of_ble_eq_true rfl) (K_tout hv hc ht2 hw2 ?_)
  refine R_iconst (v := -1) dX8_stay_40 (by decide) ?_
  refine R_ixor dX8_stay_41 ?_
  refine R_iand dX8_stay_42 ?_
  refine R_ireturn dX8_stay_43 ⟨_, rfl, rfl⟩ ?_
  unfold stayA at h
  rw [e26]
  exact h m2 ml D1 (ht2.hi ml) (ht2.cr hv hc)

def EQP (i : Nat) (v u : WD) : Prop := v.1 = u.1 ∧ v.2.1 = u.2.1 ∧ v.2.2.1 = u.2.2.1 ∧ v.2.2.2 i = u.2.2.2 i
theorem EQP.minute {er : (Nat → Int32) → Int32} {i : Nat} {v u : WD} (h : EQP i v u) : EQP i (minuteW er v) (minuteW er u) := by
  obtain ⟨h1, h2, h3, h4⟩ := h
  unfold minuteW
  rw [h1, h2, h3]
  refine ⟨rfl, rfl, rfl, ?_⟩
  show (if i < nn (u.1 2) then pstepF er u.1 u.2.1 (v.2.2.2 i) i else fun _ => 0) = if i < nn (u.1 2) then pstepF er u.1 u.2.1 (u.2.2.2 i) i else fun _ => 0
  rw [h4]
theorem EQP.mins {er : (Nat → Int32) → Int32} {i : Nat} : ∀ (n : Nat) {v u : WD}, EQP i v u → EQP i (minsW er n v) (minsW er n u)
  | 0, _, _, h => h
  | n + 1, _, _, h => EQP.mins n h.minute
theorem solo_put {i : Nat} {n : Int32} {w : WD} (hi : i < nn (w.1 2)) : EQP i (putW i n (soloW i w)) (putW i n w) := by
  refine ⟨rfl, rfl, rfl, ?_⟩
  funext f
  show (if i = i then _ else _ : Nat → Int32) f = (if i = i then _ else _ : Nat → Int32) f
  rw [if_pos rfl, if_pos rfl]
  show (if f = 2 then n else if f = 5 then 0 else (soloW i w).2.2.2 i f) = if f = 2 then n else if f = 5 then 0 else w.2.2.2 i f
  by_cases f2 : f = 2
  · rw [if_pos f2, if_pos f2]
  · rw [if_neg f2, if_neg f2]
    by_cases f5 : f = 5
    · rw [if_pos f5, if_pos f5]
    · rw [if_neg f5, if_neg f5]
      show (if i < nn (w.1 2) then fun f => if f = 5 then (if i = i then 0 else 1) else w.2.2.2 i f else fun _ => 0) f = _
      rw [if_pos hi]
      show (if f = 5 then (if i = i then 0 else 1) else w.2.2.2 i f) = _
      rw [if_neg f5]
theorem WJ.solo {T i : Nat} {w : WD} (h : WJ T w) : WJ T (soloW i w) := by
  obtain ⟨N, P, R, hN, hP, hR, h0, h2, h4, h5, hm, h3, h7, h8, h1, hg, hr, hp⟩ := h
  refine ⟨N, P, R, hN, hP, hR, h0, h2, h4, h5, hm, h3, h7, h8, h1, hg, hr, fun j hj => ?_⟩
  show PJ (if j < nn (w.1 2) then fun f => if f = 5 then (if j = i then 0 else 1) else w.2.2.2 j f else fun _ => 0)
  rw [h2, nnI (by omega), if_pos hj]
  obtain ⟨a1, a2, a3, a4, a5, a6, a7⟩ := hp j hj
  refine ⟨a1, a2, a3, a4, a5, ?_, fun q hq => by dsimp only; rw [if_neg (by omega)]; exact a7 q hq⟩
  show bz (if j = i then 0 else 1)
  split
  · exact Or.inl rfl
  · exact Or.inr rfl
theorem wC_solo {mi M : Nat → Nat → Int32} {k b i N : Nat} (hB : PB b) (hk : PD k) (hp : mi b 6 = nI N) (hN : N ≤ 6) (h1 : ∀ a, (∀ j, j < N → a ≠ b + 7 + 2 * j) → M a = mi a) (h2 : ∀ j, j < N → ∀ f, M (b + 7 + 2 * j) f = if f = 5 then (if j = i then 0 else 1) else mi (b + 7 + 2 * j) f) : wC M k b = soloW i (wC mi k b) := by
  have hn : nn (mi b 6) = N := by rw [hp]; exact nnI (by omega)
  have eb : M b = mi b := h1 b (fun j _ => by omega)
  have ek : M k = mi k := h1 k (fun j hj => by unfold PD at hk; unfold PB at hB; omega)
  refine Prod.ext (funext fun j => ?_) (Prod.ext (funext fun j => ?_) (Prod.ext (funext fun j => ?_) (funext fun u => ?_)))
  · show sC M k b j = sC mi k b j
    unfold sC
    rw [eb, ek]
  · show (if j < nn (M b 4) then M (b + 1) j else 0) = if j < nn (mi b 4) then mi (b + 1) j else 0
    rw [eb, h1 (b + 1) (fun j _ => by omega)]
  · show (if j < nn (M b 8) then M (b + 3) j else 0) = if j < nn (mi b 8) then mi (b + 3) j else 0
    rw [eb, h1 (b + 3) (fun j _ => by omega)]
  · show (if u < nn (M b 6) then pC M (b + 7 + 2 * u) else fun _ => 0) = if u < nn (mi b 6) then (fun f => if f = 5 then (if u = i then 0 else 1) else (if u < nn (mi b 6) then pC mi (b + 7 + 2 * u) else fun _ => 0) f) else fun _ => 0
    rw [eb, hn]
    by_cases hu : u < N
    · rw [if_pos hu, if_pos hu, if_pos hu]
      funext f
      unfold pC
      rw [h2 u hu f, h1 (b + 7 + 2 * u + 1) (fun j _ => by omega)]
      by_cases f6 : f < 6
      · rw [if_pos f6, if_pos f6]
      · rw [if_neg f6, if_neg (show ¬ f = 5 by omega), if_neg f6]
    · rw [if_neg hu, if_neg hu]

set_option maxHeartbeats 4000000 in
theorem L_hidesC {G : rn_G} {d : Nat} {κ : Nat × Nat} {Q : Option Value → rn_S → Prop} {mi : Nat → Nat → Int32} {ml : Nat → Nat → Int64} {D : Nat → Nat} {w : WD} {c k : Nat} {ds : Nat → CL} {sl : SL} {el bl : EL} {im : IM} {T : Nat → Nat} {L : Nat} {ac : List Int32} {tp : TP} (hv : IV w c k ds sl el bl im ac tp) (hc : CR w c k ds sl el bl im T L ac tp mi ml D) {V : Int32} {i P : Nat} {x : Int32} (hx : x = nI i) (hpp : mi 2 6 = nI P) (hP : P ≤ 6) (hiP : i < P) (h : ∀ m l D', HI mi m ml l → CR w c k ds sl el bl im T L ac tp m l D' → Q (some (.int V)) (m, l, RF D', 164)) : ∀ (n j : Nat) (y se : Int32) (M : Nat → Nat → Int32) (E : Nat → Nat), n + j = 30 → y = nI j → HI mi M ml ml → CR w c k ds sl el bl im T L ac tp M ml E → hdF (fun n => (minsW (erA (cuL ds c)) 30 (putW i (nI n) w)).2.2.2 i 5) n j se = V → Run G (d + 29) M_X8_hides 17 [.ref 1, .int x, .int se, .int y] [] (M, ml, RF E, 164) κ Q := by
  have hw := hv.1.1
  have hck := hv.2.1
  have hk6 := hv.2.2.1
  obtain ⟨cp1, -⟩ := cuA_pd (c := c) (by omega)
  have w2 : w.1 2 = nI P := hc.1.cells.2.2.1.trans hpp
  have hi6 : i < 6 := by omega
  have htq : PQ (21 + 7 + 2 * i) := pb_q (Or.inr (Or.inl rfl)) hi6
  have hs2 : (soloW i w).1 2 = nI P := w2
  intro n
  induction n with
  | zero =>
    intro j y se M E hj hy hhi hcr hV
    have hV0 : se = V := hV
    obtain rfl : j = 30 := by omega
    refine il_3 dX8_hides_17 ?_
    refine R_bipush (v := 30) dX8_hides_18 (by decide) ?_
    refine R_icmp_ge (tgt := 87) dX8_hides_20 (by decide) (fun c20 => ?_) (fun q => absurd q (not_not_intro (by rw [hy]; decide)))
    refine il_2 dX8_hides_87 ?_
    refine R_ireturn dX8_hides_88 ⟨_, rfl, rfl⟩ ?_
    rw [hV0]
    exact h M ml E hhi hcr
  | succ n ih =>
    intro j y se M E hj hy hhi hcr hV
    unfold hdF at hV
    refine il_3 dX8_hides_17 ?_
    refine R_bipush (v := 30) dX8_hides_18 (by decide) ?_
    refine R_icmp_ge (tgt := 87) dX8_hides_20 (by decide) (fun q => absurd q (by rw [hy]; exact nI_ge (b := 30) (by omega) (by decide))) (fun c20 => ?_)
    refine al_0 dX8_hides_23 ?_
    refine R_getfr (r := 21) dX8_hides_24 fl_RX8_18 rfl sh_1 (Nat.le_of_ble_eq_true rfl) rf_1_1 ?_
    refine al_0 dX8_hides_27 ?_
    refine R_getfr (r := 2) dX8_hides_28 fl_RX8_12 rfl sh_1 (Nat.le_of_ble_eq_true rfl) rf_1_0 ?_
    refine cv_1 dX8_hides_31 mm_RX8_210 sh_21 (Nat.le_of_ble_eq_true rfl) ⟨_, rfl, rfl⟩ (Nat.le_of_ble_eq_true rfl) (Nat.le_of_ble_eq_true rfl) (K_trial hv hcr (fun m1 D1 ht1 => ?_))
    have h16 : m1 21 6 = nI P := by
      obtain ⟨P1, _, q1, q2⟩ := ht1.n hw
      rw [q1, ← q2, w2]
    refine al_0 dX8_hides_34 ?_
    refine R_getfr (r := 21) dX8_hides_35 fl_RX8_18 rfl sh_1 (Nat.le_of_ble_eq_true rfl) rf_1_1 ?_
    refine il_1 dX8_hides_38 ?_
    refine cv_1 dX8_hides_39 mm_RX8_249 sh_21 (Nat.le_of_ble_eq_true rfl) ⟨_, rfl, rfl⟩ (Nat.le_of_ble_eq_true rfl) (Nat.le_of_ble_eq_true rfl) (K_sendOthersOut (b := 21) (Or.inr (Or.inl rfl)) h16 hP hx (by omega) (fun m2 g1 g2 => ?_))
    have ht2 : TRY M m2 E D1 c (soloW i w) := ht1.next (PF.of (fun a ha => g1 a (fun j hj => by omega))) (by rw [wC_solo (Or.inr (Or.inl rfl)) cp1 h16 hP g1 g2, ht1.2.1])
    have h26 : m2 21 6 = nI P := by rw [g1 21 (fun j _ => by omega)]; exact h16
    refine al_0 dX8_hides_42 ?_
    refine R_getfr (r := 21) dX8_hides_43 fl_RX8_18 rfl sh_1 (Nat.le_of_ble_eq_true rfl) rf_1_1 ?_
    refine il_1 dX8_hides_46 ?_
    refine il_3 dX8_hides_47 ?_
    refine cv_2 dX8_hides_48 mm_RX8_138 sh_21 (Nat.le_of_ble_eq_true rfl) ⟨_, rfl, rfl⟩ (Nat.le_of_ble_eq_true rfl) (Nat.le_of_ble_eq_true rfl) (K_setDown (b := 21) (Or.inr (Or.inl rfl)) hi6 (rn_ixe hx) ?_)
    have ht3 : TRY M (rn_u (rn_u m2 (21 + 7 + 2 * i) 2 y) (21 + 7 + 2 * i) 5 0) E D1 c (putW i y (soloW i w)) := ht2.next (PF.of (fun a ha => by rw [rn_u_ne (by omega), rn_u_ne (by omega)])) (by rw [wC_put (Or.inr (Or.inl rfl)) cp1 h26 hP hiP, ht2.2.1])
    have hw3 : WJ 9999 (putW i y (soloW i w)) := by rw [hy]; exact hw.solo.put hs2 hP hiP (by omega)
    refine al_0 dX8_hides_51 ?_
    refine R_getfr (r := 21) dX8_hides_52 fl_RX8_18 rfl sh_1 (Nat.le_of_ble_eq_true rfl) rf_1_1 ?_
    refine R_bipush (v := 30) dX8_hides_55 (by decide) ?_
    refine cv_1 dX8_hides_57 mm_RX8_207 sh_21 (Nat.le_of_ble_eq_true rfl) ⟨_, rfl, rfl⟩ (Nat.le_of_ble_eq_true rfl) (Nat.le_of_ble_eq_true rfl) (K_tmins hv hcr ht3 (n := 30) rfl hw3 (by decide) (fun m4 ht4 => ?_))
    have h46 : m4 21 6 = nI P := by
      have q : (minsW (erA (cuL ds c)) 30 (putW i y (soloW i w))).1 2 = m4 21 6 := by rw [← ht4.2.1]; rfl
      rw [← q, mins_2]; exact hs2
    refine al_0 dX8_hides_60 ?_
    refine R_getfr (r := 21) dX8_hides_61 fl_RX8_18 rfl sh_1 (Nat.le_of_ble_eq_true rfl) rf_1_1 ?_
    refine R_getfr (r := 23) dX8_hides_64 fl_RX8_96 rfl sh_21 (Nat.le_of_ble_eq_true rfl) rf_21_1 ?_
    refine il_1 dX8_hides_67 ?_
    refine R_aald (t := 4) (r := (21 + 7 + 2 * i)) dX8_hides_68 (by decide) sh_23 (Nat.le_of_ble_eq_true rfl) (rn_ixe hx) hi6 (pb_rq (b := 21) (Or.inr (Or.inl rfl)) hi6) ?_
    refine R_getfi dX8_hides_69 fl_RX8_122 rfl (pq_s0 htq) (show (21 + 7 + 2 * i) < 164 by have := pq_n htq; omega) ?_
    refine R_if_ne (tgt := 81) dX8_hides_72 (by decide) (fun c72 => ?_) (fun c72 => ?_)
    · refine ii_3 (v := _ + 1) dX8_hides_81 rfl (by rfl) ?_
      refine R_goto (tgt := 17) dX8_hides_84 (by decide) ?_
      have hp5 : (minsW (erA (cuL ds c)) 30 (putW i (nI j) w)).2.2.2 i 5 = m4 (21 + 7 + 2 * i) 5 := by
        have q := (EQP.mins (er := erA (cuL ds c)) 30 (solo_put (i := i) (n := nI j) (w := w) (by rw [w2, nnI (by omega)]; exact hiP))).2.2.2
        rw [← hy] at q ⊢
        rw [← q, ht4.per (U := 0) h46 hP hiP]
        rfl
      rw [hp5, ← hy] at hV
      refine ih (j + 1) _ _ m4 D1 (by omega) (by rw [hy]; exact sm_add j 1) (fun a ha => ⟨((ht4.hi ml) a ha).1.trans (hhi a ha).1, rfl⟩) (ht4.cr hv hcr) ?_
      first
        | (rw [if_neg c72] at hV; exact hV)
        | (rw [if_pos c72] at hV; exact hV)
    · refine il_2 dX8_hides_75 ?_
      refine R_iconst (v := 1) dX8_hides_76 (by decide) ?_
      refine il_3 dX8_hides_77 ?_
      refine R_ishl dX8_hides_78 ?_
      refine R_ior dX8_hides_79 ?_
      refine is_2 dX8_hides_80 rfl ?_
      refine ii_3 (v := _ + 1) dX8_hides_81 rfl (by rfl) ?_
      refine R_goto (tgt := 17) dX8_hides_84 (by decide) ?_
      have hp5 : (minsW (erA (cuL ds c)) 30 (putW i (nI j) w)).2.2.2 i 5 = m4 (21 + 7 + 2 * i) 5 := by
        have q := (EQP.mins (er := erA (cuL ds c)) 30 (solo_put (i := i) (n := nI j) (w := w) (by rw [w2, nnI (by omega)]; exact hiP))).2.2.2
        rw [← hy] at q ⊢
        rw [← q, ht4.per (U := 0) h46 hP hiP]
        rfl
      rw [hp5, ← hy] at hV
      refine ih (j + 1) _ _ m4 D1 (by omega) (by rw [hy]; exact sm_add j 1) (fun a ha => ⟨((ht4.hi ml) a ha).1.trans (hhi a ha).1, rfl⟩) (ht4.cr hv hcr) ?_
      first
        | (rw [if_neg c72] at hV; exact hV)
        | (rw [if_pos c72] at hV; exact hV)

set_option maxHeartbeats 4000000 in
theorem KC_hides {G : rn_G} {d : Nat} {κ : Nat × Nat} {Q : Option Value → rn_S → Prop} {mi : Nat → Nat → Int32} {ml : Nat → Nat → Int64} {D : Nat → Nat} {x : Int32} {w : WD} {c k : Nat} {ds : Nat → CL} {sl : SL} {el bl : EL} {im : IM} {T : Nat → Nat} {L : Nat} {ac : List Int32} {tp : TP} (hv : IV w c k ds sl el bl im ac tp) (hc : CR w c k ds sl el bl im T L ac tp mi ml D) (h : ∀ m l D', HI mi m ml l → CR w c k ds sl el bl im T L ac tp m l D' → Q (some (.int (hidesA (erA (cuL ds c)) w x))) (m, l, RF D', 164))  : Call G (d + 29) M_X8_hides [.ref 1, .int x] (mi, ml, RF D, 164) κ Q := by
  show Run G _ M_X8_hides 0 [.ref 1, .int x, .null, .null] [] _ _ _
  have hw := hv.1.1
  have hk6 := hv.2.2.1
  have hck := hv.2.1
  have hB : PB 2 := Or.inl rfl
  obtain ⟨hD2, hwc, z12, z13, z14⟩ := hc.1
  obtain ⟨cp1, cp2, cp3, cp4⟩ := cuA_pd (c := c) (by omega)
  have hkD : PD (D 2) := by rw [hD2]; exact cp1
  obtain ⟨N, P, R, hN, hP, hR, hg, hpp, hrr, hPJ⟩ := hc.1.n hw
  obtain ⟨w0, w1, w2, w3, w4, w5, w6⟩ := hc.1.cells
  refine al_0 dX8_hides_0 ?_
  refine R_getfr (r := 2) dX8_hides_1 fl_RX8_12 rfl sh_1 (Nat.le_of_ble_eq_true rfl) rf_1_0 ?_
  refine il_1 dX8_hides_4 ?_
  refine cv_1 dX8_hides_5 mm_RX8_93 sh_2 (Nat.le_of_ble_eq_true rfl) ⟨_, rfl, rfl⟩ (Nat.le_of_ble_eq_true rfl) (Nat.le_of_ble_eq_true rfl) (K_hasPerson hB (fun c5 => ?_) (fun c5 => ?_))
  · refine R_if_ne (tgt := 13) dX8_hides_8 (by decide) (fun _ => ?_) (fun q => absurd q (by decide))
    obtain ⟨i, hiP, hx⟩ := sm_of c5.1 (by rw [← hpp]; exact c5.2) (by omega)
    have hi6 : i < 6 := by omega
    have hnx : nn x = i := by rw [hx]; exact nnI (by omega)
    have hPi : w.2.2.2 i = pC mi (2 + 7 + 2 * i) := hc.1.per hpp hP hiP
    have cp : 0 ≤ x ∧ x < w.1 2 := by rw [w2]; exact c5
    have hpq : PQ (2 + 7 + 2 * i) := pb_q hB hi6
    refine R_iconst (v := 0) dX8_hides_13 (by decide) ?_
    refine is_2 dX8_hides_14 rfl ?_
    refine R_iconst (v := 0) dX8_hides_15 (by decide) ?_
    refine is_3 dX8_hides_16 rfl ?_
    unfold hidesA at h
    rw [if_pos cp, hnx] at h
    exact L_hidesC hv hc hx hpp hP hiP h 30 0 0 0 mi D rfl rfl (HI.refl _ _) hc rfl
  · refine R_if_ne (tgt := 13) dX8_hides_8 (by decide) (fun q => absurd q (by decide)) (fun _ => ?_)
    refine R_iconst (v := -1) dX8_hides_11 (by decide) ?_
    refine R_ireturn dX8_hides_12 ⟨_, rfl, rfl⟩ ?_
    unfold hidesA at h
    rw [if_neg (by rw [w2]; exact c5)] at h
    exact h mi ml D (HI.refl _ _) hc

set_option maxHeartbeats 4000000 in
theorem L_commonC {G : rn_G} {d : Nat} {κ : Nat × Nat} {Q : Option Value → rn_S → Prop} {σ : rn_S} {a b : Nat} {x y : Int32} (h : Q (some (.int (nI (Nat.gcd a b)))) σ) : ∀ (n u v e : Nat) (p q z : Int32) (v5 : Value), v ≤ n → n + e < 100 → u < 2 ^ 31 → p = nI u → q = nI v → z = nI e → Nat.gcd u v = Nat.gcd a b → Run G d M_X8_commonDivisor 7 [.int x, .int y, .int p, .int q, .int z, v5] [] σ κ Q := by
  intro n
  induction n with
  | zero =>
    intro u v e p q z v5 hvn he hu hp hq hz hg
    obtain rfl : v = 0 := by omega
    refine il_4 dX8_commonDivisor_7 ?_
    refine R_bipush (v := 100) dX8_commonDivisor_9 (by decide) ?_
    refine R_icmp_ge (tgt := 34) dX8_commonDivisor_11 (by decide) (fun q => absurd q (by rw [hz]; exact nI_ge (b := 100) (by omega) (by decide))) (fun c11 => ?_)
    refine il_3 dX8_commonDivisor_14 ?_
    refine R_if_eq (tgt := 34) dX8_commonDivisor_15 (by decide) (fun c15 => ?_) (fun q => absurd q (not_not_intro hq))
    refine il_2 dX8_commonDivisor_34 ?_
    refine R_ireturn dX8_commonDivisor_35 ⟨_, rfl, rfl⟩ ?_
    rw [hp, show u = Nat.gcd a b by rw [← hg, Nat.gcd_zero_right]]
    exact h
  | succ n ih =>
    intro u v e p q z v5 hvn he hu hp hq hz hg
    by_cases v0 : v = 0
    · subst v0
      refine il_4 dX8_commonDivisor_7 ?_
      refine R_bipush (v := 100) dX8_commonDivisor_9 (by decide) ?_
      refine R_icmp_ge (tgt := 34) dX8_commonDivisor_11 (by decide) (fun q => absurd q (by rw [hz]; exact nI_ge (b := 100) (by omega) (by decide))) (fun c11 => ?_)
      refine il_3 dX8_commonDivisor_14 ?_
      refine R_if_eq (tgt := 34) dX8_commonDivisor_15 (by decide) (fun c15 => ?_) (fun q => absurd q (not_not_intro hq))
      refine il_2 dX8_commonDivisor_34 ?_
      refine R_ireturn dX8_commonDivisor_35 ⟨_, rfl, rfl⟩ ?_
      rw [hp, show u = Nat.gcd a b by rw [← hg, Nat.gcd_zero_right]]
      exact h
    · have q0 : ¬ q = 0 := by rw [hq]; exact fun e => v0 (sm_inj (b := 0) (by omega) (by decide) e)
      have hlt : u % v < v := Nat.mod_lt _ (by omega)
      refine il_4 dX8_commonDivisor_7 ?_
      refine R_bipush (v := 100) dX8_commonDivisor_9 (by decide) ?_
      refine R_icmp_ge (tgt := 34) dX8_commonDivisor_11 (by decide) (fun q => absurd q (by rw [hz]; exact nI_ge (b := 100) (by omega) (by decide))) (fun c11 => ?_)
      refine il_3 dX8_commonDivisor_14 ?_
      refine R_if_eq (tgt := 34) dX8_commonDivisor_15 (by decide) (fun q => absurd q (q0)) (fun c15 => ?_)
      refine il_2 dX8_commonDivisor_18 ?_
      refine il_3 dX8_commonDivisor_19 ?_
      refine R_irem dX8_commonDivisor_20 q0 ?_
      refine is_5 dX8_commonDivisor_21 rfl ?_
      refine il_3 dX8_commonDivisor_23 ?_
      refine is_2 dX8_commonDivisor_24 rfl ?_
      refine il_5 dX8_commonDivisor_25 ?_
      refine is_3 dX8_commonDivisor_27 rfl ?_
      refine ii_4 (v := _ + 1) dX8_commonDivisor_28 rfl (by rfl) ?_
      refine R_goto (tgt := 7) dX8_commonDivisor_31 (by decide) ?_
      exact ih v (u % v) (e + 1) _ _ _ _ (by omega) (by omega) (by omega) hq (by rw [hp, hq]; exact sm_rem hu (by omega)) (by rw [hz]; exact sm_add e 1) (by rw [← hg, Nat.gcd_comm u v, Nat.gcd_rec v u, Nat.gcd_comm])

set_option maxHeartbeats 4000000 in
theorem K_common {G : rn_G} {d : Nat} {κ : Nat × Nat} {Q : Option Value → rn_S → Prop} {σ : rn_S} {x y : Int32} {a b : Nat} (hx : x = nI a) (hy : y = nI b) (ha : a < 2 ^ 31) (hb : b < 100) (h : Q (some (.int (nI (Nat.gcd a b)))) σ) : Call G (d) M_X8_commonDivisor [.int x, .int y] σ κ Q := by
  show Run G _ M_X8_commonDivisor 0 [.int x, .int y, .null, .null, .null, .null] [] _ _ _
  refine il_0 dX8_commonDivisor_0 ?_
  refine is_2 dX8_commonDivisor_1 rfl ?_
  refine il_1 dX8_commonDivisor_2 ?_
  refine is_3 dX8_commonDivisor_3 rfl ?_
  refine R_iconst (v := 0) dX8_commonDivisor_4 (by decide) ?_
  refine is_4 dX8_commonDivisor_5 rfl ?_
  exact L_commonC h b a b 0 _ _ _ _ (Nat.le_refl _) (by omega) ha hx hy rfl rfl

set_option maxHeartbeats 4000000 in
theorem K_fraction {G : rn_G} {d : Nat} {κ : Nat × Nat} {Q : Option Value → rn_S → Prop} {σ : rn_S} {x y z : Int32} {a b : Nat} (hx : x = nI a) (hy : y = nI b) (ha : a < 2 ^ 31) (hb : b < 100) (hb1 : 1 ≤ b) (h : Q (some (.long (fracA a b z))) σ) : Call G (d + 1) M_X8_fractionPart [.int x, .int y, .int z] σ κ Q := by
  show Run G _ M_X8_fractionPart 0 [.int x, .int y, .int z, .null] [] _ _ _
  obtain ⟨hg1, hg2⟩ := gcd_bnd (a := a) hb1 (by omega)
  unfold fracA at h
  refine il_0 dX8_fractionPart_0 ?_
  refine il_1 dX8_fractionPart_1 ?_
  refine cs_2 dX8_fractionPart_2 mm_RX8_299 (Nat.le_of_ble_eq_true rfl) (Nat.le_of_ble_eq_true rfl) (K_common hx hy ha hb (nmr (fun gg hgg => ?_)))
  have g0 : ¬ gg = 0 := by rw [hgg]; exact fun e => by have := sm_inj (b := 0) hg2 (by decide) e; omega
  have g1 : 1 ≤ gg := by rw [hgg]; exact (sm_le_iff (a := 1) (by decide) hg2).mpr hg1
  refine is_3 dX8_fractionPart_5 rfl ?_
  refine il_3 dX8_fractionPart_6 ?_
  refine R_iconst (v := 1) dX8_fractionPart_7 (by decide) ?_
  refine R_icmp_ge (tgt := 15) dX8_fractionPart_8 (by decide) (fun c8 => ?_) (fun q => absurd q (not_not_intro g1))
  refine il_2 dX8_fractionPart_15 ?_
  refine R_if_ne (tgt := 26) dX8_fractionPart_16 (by decide) (fun c16 => ?_) (fun c16 => ?_)
  · refine il_1 dX8_fractionPart_26 ?_
    refine il_3 dX8_fractionPart_27 ?_
    refine R_idiv dX8_fractionPart_28 g0 ?_
    refine R_i2l dX8_fractionPart_29 ?_
    refine R_lreturn dX8_fractionPart_30 rfl ?_
    first
      | (rw [if_pos c16, ← sm_div ha hg1 hg2, ← hx, ← hgg] at h; exact h)
      | (rw [if_neg c16, ← sm_div (by omega) hg1 hg2, ← hy, ← hgg] at h; exact h)
  · refine il_0 dX8_fractionPart_19 ?_
    refine il_3 dX8_fractionPart_20 ?_
    refine R_idiv dX8_fractionPart_21 g0 ?_
    refine R_i2l dX8_fractionPart_22 ?_
    refine R_goto (tgt := 30) dX8_fractionPart_23 (by decide) ?_
    refine R_lreturn dX8_fractionPart_30 rfl ?_
    first
      | (rw [if_pos c16, ← sm_div ha hg1 hg2, ← hx, ← hgg] at h; exact h)
      | (rw [if_neg c16, ← sm_div (by omega) hg1 hg2, ← hy, ← hgg] at h; exact h)

set_option maxHeartbeats 4000000 in
theorem L_oddsC {G : rn_G} {d : Nat} {κ : Nat × Nat} {Q : Option Value → rn_S → Prop} {mi : Nat → Nat → Int32} {ml : Nat → Nat → Int64} {D : Nat → Nat} {w : WD} {c k : Nat} {ds : Nat → CL} {sl : SL} {el bl : EL} {im : IM} {T : Nat → Nat} {L : Nat} {ac : List Int32} {tp : TP} (hv : IV w c k ds sl el bl im ac tp) (hc : CR w c k ds sl el bl im T L ac tp mi ml D) {x z : Int32} {n P : Nat} (hx : x = nI n) (hn : n ≤ 99) (hpp : mi 2 6 = nI P) (hP : P ≤ 6) (hP0 : 0 < P) (h : ∀ m l D', HI mi m ml l → CR w c k ds sl el bl im T L ac tp m l D' → Q (some (.long (fracA (cntR (odB (erA (cuL ds c)) n w) 0 P) P z))) (m, l, RF D', 164)) : ∀ (r j e : Nat) (y gd : Int32) (M : Nat → Nat → Int32) (E : Nat → Nat), j + r = P → y = nI j → gd = nI e → e ≤ j → e + cntR (odB (erA (cuL ds c)) n w) j r = cntR (odB (erA (cuL ds c)) n w) 0 P → HI mi M ml ml → CR w c k ds sl el bl im T L ac tp M ml E → Run G (d + 29) M_X8_odds 36 [.ref 1, .int x, .int z, .int gd, .int y] [] (M, ml, RF E, 164) κ Q := by
  have hw := hv.1.1
  have hck := hv.2.1
  have hk6 := hv.2.2.1
  obtain ⟨cp1, -⟩ := cuA_pd (c := c) (by omega)
  have w2 : w.1 2 = nI P := hc.1.cells.2.2.1.trans hpp
  intro r
  induction r with
  | zero =>
    intro j e y gd M E hj hy hgd hej he hhi hcr
    have hMP : M 2 6 = nI P := hcr.1.cells.2.2.1.symm.trans w2
    have hjP : j = P := by omega
    rw [show cntR (odB (erA (cuL ds c)) n w) j 0 = 0 from rfl, Nat.add_zero] at he
    rw [← he] at h
    refine il_4 dX8_odds_36 ?_
    refine al_0 dX8_odds_38 ?_
    refine R_getfr (r := 2) dX8_odds_39 fl_RX8_12 rfl sh_1 (Nat.le_of_ble_eq_true rfl) rf_1_0 ?_
    refine R_getfi dX8_odds_42 fl_RX8_86 rfl sh_2 (Nat.le_of_ble_eq_true rfl) ?_
    refine R_icmp_ge (tgt := 100) dX8_odds_45 (by decide) (fun c45 => ?_) (fun q => absurd q (not_not_intro (by rw [hy, hMP, hjP]; exact Int32.le_refl _)))
    refine il_3 dX8_odds_100 ?_
    refine al_0 dX8_odds_101 ?_
    refine R_getfr (r := 2) dX8_odds_102 fl_RX8_12 rfl sh_1 (Nat.le_of_ble_eq_true rfl) rf_1_0 ?_
    refine R_getfi dX8_odds_105 fl_RX8_86 rfl sh_2 (Nat.le_of_ble_eq_true rfl) ?_
    refine il_2 dX8_odds_108 ?_
    refine cs_3 dX8_odds_109 mm_RX8_295 (Nat.le_of_ble_eq_true rfl) (Nat.le_of_ble_eq_true rfl) (K_fraction hgd hMP (by omega) (by omega) (by omega) ?_)
    refine R_lreturn dX8_odds_112 rfl ?_
    exact h M ml E hhi hcr
  | succ r ih =>
    intro j e y gd M E hj hy hgd hej he hhi hcr
    have hMP : M 2 6 = nI P := hcr.1.cells.2.2.1.symm.trans w2
    have hj6 : j < 6 := by omega
    have htq : PQ (21 + 7 + 2 * j) := pb_q (Or.inr (Or.inl rfl)) hj6
    rw [cntR_succ] at he
    have hob : (odB (erA (cuL ds c)) n w) j = decide (insW (minsW (erA (cuL ds c)) n (callW j 1 w)) = 0) := rfl
    refine il_4 dX8_odds_36 ?_
    refine al_0 dX8_odds_38 ?_
    refine R_getfr (r := 2) dX8_odds_39 fl_RX8_12 rfl sh_1 (Nat.le_of_ble_eq_true rfl) rf_1_0 ?_
    refine R_getfi dX8_odds_42 fl_RX8_86 rfl sh_2 (Nat.le_of_ble_eq_true rfl) ?_
    refine R_icmp_ge (tgt := 100) dX8_odds_45 (by decide) (fun q => absurd q (by rw [hy, hMP]; exact nI_ge (by omega) (by omega))) (fun c45 => ?_)
    refine al_0 dX8_odds_48 ?_
    refine R_getfr (r := 21) dX8_odds_49 fl_RX8_18 rfl sh_1 (Nat.le_of_ble_eq_true rfl) rf_1_1 ?_
    refine al_0 dX8_odds_52 ?_
    refine R_getfr (r := 2) dX8_odds_53 fl_RX8_12 rfl sh_1 (Nat.le_of_ble_eq_true rfl) rf_1_0 ?_
    refine cv_1 dX8_odds_56 mm_RX8_210 sh_21 (Nat.le_of_ble_eq_true rfl) ⟨_, rfl, rfl⟩ (Nat.le_of_ble_eq_true rfl) (Nat.le_of_ble_eq_true rfl) (K_trial hv hcr (fun m1 D1 ht1 => ?_))
    have h16 : m1 21 6 = nI P := by
      obtain ⟨P1, _, q1, q2⟩ := ht1.n hw
      rw [q1, ← q2, w2]
    refine al_0 dX8_odds_59 ?_
    refine R_getfr (r := 21) dX8_odds_60 fl_RX8_18 rfl sh_1 (Nat.le_of_ble_eq_true rfl) rf_1_1 ?_
    refine R_getfr (r := 23) dX8_odds_63 fl_RX8_96 rfl sh_21 (Nat.le_of_ble_eq_true rfl) rf_21_1 ?_
    refine il_4 dX8_odds_66 ?_
    refine R_aald (t := 4) (r := (21 + 7 + 2 * j)) dX8_odds_68 (by decide) sh_23 (Nat.le_of_ble_eq_true rfl) (rn_ixe hy) hj6 (pb_rq (b := 21) (Or.inr (Or.inl rfl)) hj6) ?_
    refine R_iconst (v := 1) dX8_odds_69 (by decide) ?_
    refine R_putfi dX8_odds_70 fl_RX8_111 rfl (Or.inl rfl) (pq_s0 htq) (show (21 + 7 + 2 * j) < 164 by have := pq_n htq; omega) rfl rfl ?_
    have ht3 : TRY M (rn_u m1 (21 + 7 + 2 * j) 4 1) E D1 c (callW j 1 w) := ht1.next (PF.of (fun a ha => by rw [rn_u_ne (by omega)])) (by have q := wC_call (mi := m1) (k := cuA c) (z := 1) (Or.inr (Or.inl rfl)) cp1 h16 hP (show j < P by omega); rw [if_neg (show ¬ (1 : Int32) = 0 by decide)] at q; rw [q, ht1.2.1])
    have hw3 : WJ 9999 (callW j 1 w) := hw.call w2 hP (by omega) (Or.inr rfl)
    refine al_0 dX8_odds_73 ?_
    refine R_getfr (r := 21) dX8_odds_74 fl_RX8_18 rfl sh_1 (Nat.le_of_ble_eq_true rfl) rf_1_1 ?_
    refine il_1 dX8_odds_77 ?_
    refine cv_1 dX8_odds_78 mm_RX8_207 sh_21 (Nat.le_of_ble_eq_true rfl) ⟨_, rfl, rfl⟩ (Nat.le_of_ble_eq_true rfl) (Nat.le_of_ble_eq_true rfl) (K_tmins hv hcr ht3 hx hw3 (by omega) (fun m4 ht4 => ?_))
    have hw4 := hw3.mins (er := erA (cuL ds c)) n 9999 _ (by omega)
    refine al_0 dX8_odds_81 ?_
    refine R_getfr (r := 21) dX8_odds_82 fl_RX8_18 rfl sh_1 (Nat.le_of_ble_eq_true rfl) rf_1_1 ?_
    refine cv_0 dX8_odds_85 mm_RX8_214 sh_21 (Nat.le_of_ble_eq_true rfl) ⟨_, rfl, rfl⟩ (Nat.le_of_ble_eq_true rfl) (Nat.le_of_ble_eq_true rfl) (K_tins hv hcr ht4 hw4 ?_)
    refine R_if_ne (tgt := 94) dX8_odds_88 (by decide) (fun c88 => ?_) (fun c88 => ?_)
    · refine ii_4 (v := _ + 1) dX8_odds_94 rfl (by rfl) ?_
      refine R_goto (tgt := 36) dX8_odds_97 (by decide) ?_
      first
        | (rw [hob, decide_eq_true c88, if_pos rfl] at he; exact ih (j + 1) (e + 1) _ _ m4 D1 (by omega) (by rw [hy]; exact sm_add j 1) (by rw [hgd]; exact sm_add e 1) (by omega) (by omega) (fun a ha => ⟨((ht4.hi ml) a ha).1.trans (hhi a ha).1, rfl⟩) (ht4.cr hv hcr))
        | (rw [hob, decide_eq_false c88, if_neg (by decide), Nat.zero_add] at he; exact ih (j + 1) e _ _ m4 D1 (by omega) (by rw [hy]; exact sm_add j 1) hgd (by omega) (by omega) (fun a ha => ⟨((ht4.hi ml) a ha).1.trans (hhi a ha).1, rfl⟩) (ht4.cr hv hcr))
    · refine ii_3 (v := _ + 1) dX8_odds_91 rfl (by rfl) ?_
      refine ii_4 (v := _ + 1) dX8_odds_94 rfl (by rfl) ?_
      refine R_goto (tgt := 36) dX8_odds_97 (by decide) ?_
      first
        | (rw [hob, decide_eq_true c88, if_pos rfl] at he; exact ih (j + 1) (e + 1) _ _ m4 D1 (by omega) (by rw [hy]; exact sm_add j 1) (by rw [hgd]; exact sm_add e 1) (by omega) (by omega) (fun a ha => ⟨((ht4.hi ml) a ha).1.trans (hhi a ha).1, rfl⟩) (ht4.cr hv hcr))
        | (rw [hob, decide_eq_false c88, if_neg (by decide), Nat.zero_add] at he; exact ih (j + 1) e _ _ m4 D1 (by omega) (by rw [hy]; exact sm_add j 1) hgd (by omega) (by omega) (fun a ha => ⟨((ht4.hi ml) a ha).1.trans (hhi a ha).1, rfl⟩) (ht4.cr hv hcr))

theorem part_iff {z : Int32} : (0 ≤ z ∧ z ≤ 1) ↔ (z = 0 ∨ z = 1) := by
  constructor
  · intro q
    obtain ⟨n, hn, e⟩ := sm_of q.1 ((lt_succ_iff (a := 1)).mpr q.2) (by decide)
    have : n = 0 ∨ n = 1 := by omega
    rcases this with r | r
    · exact Or.inl (by rw [e, r]; rfl)
    · exact Or.inr (by rw [e, r]; rfl)
  · intro q
    rcases q with e | e <;> rw [e] <;> decide

set_option maxHeartbeats 4000000 in
theorem KC_odds {G : rn_G} {d : Nat} {κ : Nat × Nat} {Q : Option Value → rn_S → Prop} {mi : Nat → Nat → Int32} {ml : Nat → Nat → Int64} {D : Nat → Nat} {x z : Int32} {w : WD} {c k : Nat} {ds : Nat → CL} {sl : SL} {el bl : EL} {im : IM} {T : Nat → Nat} {L : Nat} {ac : List Int32} {tp : TP} (hv : IV w c k ds sl el bl im ac tp) (hc : CR w c k ds sl el bl im T L ac tp mi ml D) (h : ∀ m l D', HI mi m ml l → CR w c k ds sl el bl im T L ac tp m l D' → Q (some (.long (oddsA (erA (cuL ds c)) w x z))) (m, l, RF D', 164))  : Call G (d + 29) M_X8_odds [.ref 1, .int x, .int z] (mi, ml, RF D, 164) κ Q := by
  show Run G _ M_X8_odds 0 [.ref 1, .int x, .int z, .null, .null] [] _ _ _
  have hw := hv.1.1
  have hk6 := hv.2.2.1
  have hck := hv.2.1
  have hB : PB 2 := Or.inl rfl
  obtain ⟨hD2, hwc, z12, z13, z14⟩ := hc.1
  obtain ⟨cp1, cp2, cp3, cp4⟩ := cuA_pd (c := c) (by omega)
  have hkD : PD (D 2) := by rw [hD2]; exact cp1
  obtain ⟨N, P, R, hN, hP, hR, hg, hpp, hrr, hPJ⟩ := hc.1.n hw
  obtain ⟨w0, w1, w2, w3, w4, w5, w6⟩ := hc.1.cells
  have nP : nn (w.1 2) = P := by rw [w2, hpp]; exact nnI (by omega)
  unfold oddsA at h
  rw [nP] at h
  refine il_1 dX8_odds_0 ?_
  refine R_if_lt (tgt := 27) dX8_odds_1 (by decide) (fun c1 => ?_) (fun c1 => ?_)
  · refine R_ldc2 dX8_odds_27 kl_RX8_293 ?_
    refine R_lreturn dX8_odds_30 rfl ?_
    rw [if_neg (fun q => by first | exact Int32.not_lt.mpr q.1.1 (by first | exact c1 | exact Int32.not_le.mp c1) | exact Int32.not_lt.mpr q.1.2 (by first | exact c7 | exact Int32.not_le.mp c7) | exact c11 (part_iff.mp q.2.1) | (have := sm_inj (b := 0) (by omega) (by decide) (hpp.symm.trans c24); omega))] at h
    exact h mi ml D (HI.refl _ _) hc
  · refine il_1 dX8_odds_4 ?_
    refine R_bipush (v := 99) dX8_odds_5 (by decide) ?_
    refine R_icmp_gt (tgt := 27) dX8_odds_7 (by decide) (fun c7 => ?_) (fun c7 => ?_)
    · refine R_ldc2 dX8_odds_27 kl_RX8_293 ?_
      refine R_lreturn dX8_odds_30 rfl ?_
      rw [if_neg (fun q => by first | exact Int32.not_lt.mpr q.1.1 (by first | exact c1 | exact Int32.not_le.mp c1) | exact Int32.not_lt.mpr q.1.2 (by first | exact c7 | exact Int32.not_le.mp c7) | exact c11 (part_iff.mp q.2.1) | (have := sm_inj (b := 0) (by omega) (by decide) (hpp.symm.trans c24); omega))] at h
      exact h mi ml D (HI.refl _ _) hc
    · refine il_2 dX8_odds_10 ?_
      refine cs_1 dX8_odds_11 mm_RX8_262 (Nat.le_of_ble_eq_true rfl) (Nat.le_of_ble_eq_true rfl) (K_isPart (fun c11 => ?_) (fun c11 => ?_))
      · refine R_if_eq (tgt := 27) dX8_odds_14 (by decide) (fun q => absurd q (by decide)) (fun _ => ?_)
        refine al_0 dX8_odds_17 ?_
        refine R_getfr (r := 2) dX8_odds_18 fl_RX8_12 rfl sh_1 (Nat.le_of_ble_eq_true rfl) rf_1_0 ?_
        refine R_getfi dX8_odds_21 fl_RX8_86 rfl sh_2 (Nat.le_of_ble_eq_true rfl) ?_
        refine R_if_ne (tgt := 31) dX8_odds_24 (by decide) (fun c24 => ?_) (fun c24 => ?_)
        · refine R_iconst (v := 0) dX8_odds_31 (by decide) ?_
          refine is_3 dX8_odds_32 rfl ?_
          refine R_iconst (v := 0) dX8_odds_33 (by decide) ?_
          refine is_4 dX8_odds_34 rfl ?_
          have cx : 0 ≤ x ∧ x ≤ 99 := ⟨by first | exact c1 | exact Int32.not_lt.mp c1, by first | exact c7 | exact Int32.not_lt.mp c7⟩
          have hP0 : 0 < P := by rcases Nat.eq_zero_or_pos P with e | e; exact absurd (by rw [hpp, e]; rfl) c24; exact e
          obtain ⟨n, hn, hx⟩ := sm_of cx.1 ((lt_succ_iff (a := 99)).mpr cx.2) (by decide)
          rw [if_pos ⟨cx, part_iff.mpr c11, hP0⟩, hx, nnI (by omega)] at h
          exact L_oddsC hv hc hx (by omega) hpp hP hP0 h P 0 0 0 0 mi D (Nat.zero_add P) rfl rfl (Nat.le_refl 0) (Nat.zero_add _) (HI.refl _ _) hc
        · refine R_ldc2 dX8_odds_27 kl_RX8_293 ?_
          refine R_lreturn dX8_odds_30 rfl ?_
          rw [if_neg (fun q => by first | exact Int32.not_lt.mpr q.1.1 (by first | exact c1 | exact Int32.not_le.mp c1) | exact Int32.not_lt.mpr q.1.2 (by first | exact c7 | exact Int32.not_le.mp c7) | exact c11 (part_iff.mp q.2.1) | (have := sm_inj (b := 0) (by omega) (by decide) (hpp.symm.trans c24); omega))] at h
          exact h mi ml D (HI.refl _ _) hc
      · refine R_if_eq (tgt := 27) dX8_odds_14 (by decide) (fun _ => ?_) (fun q => absurd q (by decide))
        refine R_ldc2 dX8_odds_27 kl_RX8_293 ?_
        refine R_lreturn dX8_odds_30 rfl ?_
        rw [if_neg (fun q => by first | exact Int32.not_lt.mpr q.1.1 (by first | exact c1 | exact Int32.not_le.mp c1) | exact Int32.not_lt.mpr q.1.2 (by first | exact c7 | exact Int32.not_le.mp c7) | exact c11 (part_iff.mp q.2.1) | (have := sm_inj (b := 0) (by omega) (by decide) (hpp.symm.trans c24); omega))] at h
        exact h mi ml D (HI.refl _ _) hc

set_option maxHeartbeats 4000000 in
theorem L_meanC {G : rn_G} {d : Nat} {κ : Nat × Nat} {Q : Option Value → rn_S → Prop} {mi : Nat → Nat → Int32} {ml : Nat → Nat → Int64} {D : Nat → Nat} {w : WD} {c k : Nat} {ds : Nat → CL} {sl : SL} {el bl : EL} {im : IM} {T : Nat → Nat} {L : Nat} {ac : List Int32} {tp : TP} (hv : IV w c k ds sl el bl im ac tp) (hc : CR w c k ds sl el bl im T L ac tp mi ml D) {x z : Int32} {n : Nat} (hx : x = nI n) (hn0 : 1 ≤ n) (hn : n ≤ 60) (h : ∀ m l D', HI mi m ml l → CR w c k ds sl el bl im T L ac tp m l D' → Q (some (.long (fracA (meanN (erA (cuL ds c)) n w) n z))) (m, l, RF D', 164)) : ∀ (r j e : Nat) (y gd : Int32) (m : Nat → Nat → Int32) (D' : Nat → Nat) (v : WD), j + r = n → y = nI (j + 1) → gd = nI e → e ≤ 6 * j → e + meanN (erA (cuL ds c)) r v = meanN (erA (cuL ds c)) n w → TRY mi m D D' c v → WJ (9999 + j) v → Run G (d + 29) M_X8_mean 38 [.ref 1, .int x, .int z, .int gd, .int y] [] (m, ml, RF D', 164) κ Q := by
  intro r
  induction r with
  | zero =>
    intro j e y gd m D' v hj hy hgd hej he ht hwv
    have hjn : j = n := by omega
    rw [show meanN (erA (cuL ds c)) 0 v = 0 from rfl, Nat.add_zero] at he
    rw [← he] at h
    refine il_4 dX8_mean_38 ?_
    refine il_1 dX8_mean_40 ?_
    refine R_icmp_gt (tgt := 75) dX8_mean_41 (by decide) (fun c41 => ?_) (fun q => absurd q (not_not_intro (by rw [hy, hx]; exact (sm_lt_iff (by omega) (by omega)).mpr (by omega))))
    refine il_3 dX8_mean_75 ?_
    refine il_1 dX8_mean_76 ?_
    refine il_2 dX8_mean_77 ?_
    refine cs_3 dX8_mean_78 mm_RX8_295 (Nat.le_of_ble_eq_true rfl) (Nat.le_of_ble_eq_true rfl) (K_fraction hgd hx (by omega) (by omega) (by omega) ?_)
    refine R_lreturn dX8_mean_81 rfl ?_
    exact h m ml D' (ht.hi ml) (ht.cr hv hc)
  | succ r ih =>
    intro j e y gd m D' v hj hy hgd hej he ht hwv
    rw [show meanN (erA (cuL ds c)) (r + 1) v = outN (minuteW (erA (cuL ds c)) v) + meanN (erA (cuL ds c)) r (minuteW (erA (cuL ds c)) v) from rfl] at he
    refine il_4 dX8_mean_38 ?_
    refine il_1 dX8_mean_40 ?_
    refine R_icmp_gt (tgt := 75) dX8_mean_41 (by decide) (fun q => absurd q (Int32.not_lt.mpr (by rw [hy, hx]; exact (sm_le_iff (by omega) (by omega)).mpr (by omega)))) (fun c41 => ?_)
    refine al_0 dX8_mean_44 ?_
    refine R_getfr (r := 21) dX8_mean_45 fl_RX8_18 rfl sh_1 (Nat.le_of_ble_eq_true rfl) rf_1_1 ?_
    refine cv_0 dX8_mean_48 mm_RX8_217 sh_21 (Nat.le_of_ble_eq_true rfl) ⟨_, rfl, rfl⟩ (Nat.le_of_ble_eq_true rfl) (Nat.le_of_ble_eq_true rfl) (K_tmin hv hc ht hwv (by omega) (fun m2 ht2 => ?_))
    have hw2 : WJ (9999 + (j + 1)) (minuteW (erA (cuL ds c)) v) := hwv.minute (by omega)
    have e26 : m2 21 6 = (minuteW (erA (cuL ds c)) v).1 2 := by rw [← ht2.2.1]; rfl
    refine il_3 dX8_mean_51 ?_
    refine al_0 dX8_mean_52 ?_
    refine R_getfr (r := 21) dX8_mean_53 fl_RX8_18 rfl sh_1 (Nat.le_of_ble_eq_true rfl) rf_1_1 ?_
    refine R_getfi dX8_mean_56 fl_RX8_86 rfl sh_21 (Nat.le_of_ble_eq_true rfl) ?_
    refine al_0 dX8_mean_59 ?_
    refine R_getfr (r := 21) dX8_mean_60 fl_RX8_18 rfl sh_1 (Nat.le_of_ble_eq_true rfl) rf_1_1 ?_
    refine cv_0 dX8_mean_63 mm_RX8_214 sh_21 (Nat.le_of_ble_eq_true rfl) ⟨_, rfl, rfl⟩ (Nat.le_of_ble_eq_true rfl) (Nat.le_of_ble_eq_true rfl) (K_tins hv hc ht2 hw2 ?_)
    have eN : m2 21 6 - insW (minuteW (erA (cuL ds c)) v) = nI (outN (minuteW (erA (cuL ds c)) v)) := by rw [e26, ← popJ_out hw2]; exact sub_sub_i _ _
    refine R_isub dX8_mean_66 ?_
    refine R_iadd dX8_mean_67 ?_
    refine is_3 dX8_mean_68 rfl ?_
    refine ii_4 (v := _ + 1) dX8_mean_69 rfl (by rfl) ?_
    refine R_goto (tgt := 38) dX8_mean_72 (by decide) ?_
    have := outN_le hw2
    rw [eN]
    exact ih (j + 1) (e + outN (minuteW (erA (cuL ds c)) v)) _ _ m2 _ _ (by omega) (by rw [hy]; exact sm_add (j + 1) 1) (by rw [hgd]; exact sm_add _ _) (by omega) (by rw [← he]; omega) ht2 hw2

set_option maxHeartbeats 4000000 in
theorem KC_mean {G : rn_G} {d : Nat} {κ : Nat × Nat} {Q : Option Value → rn_S → Prop} {mi : Nat → Nat → Int32} {ml : Nat → Nat → Int64} {D : Nat → Nat} {x z : Int32} {w : WD} {c k : Nat} {ds : Nat → CL} {sl : SL} {el bl : EL} {im : IM} {T : Nat → Nat} {L : Nat} {ac : List Int32} {tp : TP} (hv : IV w c k ds sl el bl im ac tp) (hc : CR w c k ds sl el bl im T L ac tp mi ml D) (h : ∀ m l D', HI mi m ml l → CR w c k ds sl el bl im T L ac tp m l D' → Q (some (.long (meanA (erA (cuL ds c)) w x z))) (m, l, RF D', 164))  : Call G (d + 29) M_X8_mean [.ref 1, .int x, .int z] (mi, ml, RF D, 164) κ Q := by
  show Run G _ M_X8_mean 0 [.ref 1, .int x, .int z, .null, .null] [] _ _ _
  have hw := hv.1.1
  have hk6 := hv.2.2.1
  have hck := hv.2.1
  have hB : PB 2 := Or.inl rfl
  obtain ⟨hD2, hwc, z12, z13, z14⟩ := hc.1
  obtain ⟨cp1, cp2, cp3, cp4⟩ := cuA_pd (c := c) (by omega)
  have hkD : PD (D 2) := by rw [hD2]; exact cp1
  obtain ⟨N, P, R, hN, hP, hR, hg, hpp, hrr, hPJ⟩ := hc.1.n hw
  obtain ⟨w0, w1, w2, w3, w4, w5, w6⟩ := hc.1.cells
  unfold meanA at h
  refine il_1 dX8_mean_0 ?_
  refine R_iconst (v := 1) dX8_mean_1 (by decide) ?_
  refine R_icmp_lt (tgt := 18) dX8_mean_2 (by decide) (fun c2 => ?_) (fun c2 => ?_)
  · refine R_ldc2 dX8_mean_18 kl_RX8_293 ?_
    refine R_lreturn dX8_mean_21 rfl ?_
    rw [if_neg (fun q => by first | exact Int32.not_lt.mpr q.1.1 (by first | exact c2 | exact Int32.not_le.mp c2) | exact Int32.not_lt.mpr q.1.2 (by first | exact c8 | exact Int32.not_le.mp c8) | exact c12 (part_iff.mp q.2))] at h
    exact h mi ml D (HI.refl _ _) hc
  · refine il_1 dX8_mean_5 ?_
    refine R_bipush (v := 60) dX8_mean_6 (by decide) ?_
    refine R_icmp_gt (tgt := 18) dX8_mean_8 (by decide) (fun c8 => ?_) (fun c8 => ?_)
    · refine R_ldc2 dX8_mean_18 kl_RX8_293 ?_
      refine R_lreturn dX8_mean_21 rfl ?_
      rw [if_neg (fun q => by first | exact Int32.not_lt.mpr q.1.1 (by first | exact c2 | exact Int32.not_le.mp c2) | exact Int32.not_lt.mpr q.1.2 (by first | exact c8 | exact Int32.not_le.mp c8) | exact c12 (part_iff.mp q.2))] at h
      exact h mi ml D (HI.refl _ _) hc
    · refine il_2 dX8_mean_11 ?_
      refine cs_1 dX8_mean_12 mm_RX8_262 (Nat.le_of_ble_eq_true rfl) (Nat.le_of_ble_eq_true rfl) (K_isPart (fun c12 => ?_) (fun c12 => ?_))
      · refine R_if_ne (tgt := 22) dX8_mean_15 (by decide) (fun _ => ?_) (fun q => absurd q (by decide))
        refine al_0 dX8_mean_22 ?_
        refine R_getfr (r := 21) dX8_mean_23 fl_RX8_18 rfl sh_1 (Nat.le_of_ble_eq_true rfl) rf_1_1 ?_
        refine al_0 dX8_mean_26 ?_
        refine R_getfr (r := 2) dX8_mean_27 fl_RX8_12 rfl sh_1 (Nat.le_of_ble_eq_true rfl) rf_1_0 ?_
        refine cv_1 dX8_mean_30 mm_RX8_210 sh_21 (Nat.le_of_ble_eq_true rfl) ⟨_, rfl, rfl⟩ (Nat.le_of_ble_eq_true rfl) (Nat.le_of_ble_eq_true rfl) (K_trial hv hc (fun m1 D1 ht1 => ?_))
        refine R_iconst (v := 0) dX8_mean_33 (by decide) ?_
        refine is_3 dX8_mean_34 rfl ?_
        refine R_iconst (v := 1) dX8_mean_35 (by decide) ?_
        refine is_4 dX8_mean_36 rfl ?_
        have cx : 1 ≤ x ∧ x ≤ 60 := ⟨by first | exact c2 | exact Int32.not_lt.mp c2, by first | exact c8 | exact Int32.not_lt.mp c8⟩
        obtain ⟨n, hn, hx⟩ := sm_of (Int32.le_trans (show (0 : Int32) ≤ 1 by decide) cx.1) ((lt_succ_iff (a := 60)).mpr cx.2) (by decide)
        have hn1 : 1 ≤ n := by have q := cx.1; rw [hx] at q; exact (sm_le_iff (a := 1) (by decide) (by omega)).mp q
        rw [if_pos ⟨cx, part_iff.mpr c12⟩, hx, nnI (by omega)] at h
        exact L_meanC hv hc hx hn1 (by omega) h n 0 0 1 0 m1 D1 w (Nat.zero_add n) rfl rfl (Nat.le_refl 0) (Nat.zero_add _) ht1 hw
      · refine R_if_ne (tgt := 22) dX8_mean_15 (by decide) (fun q => absurd q (by decide)) (fun _ => ?_)
        refine R_ldc2 dX8_mean_18 kl_RX8_293 ?_
        refine R_lreturn dX8_mean_21 rfl ?_
        rw [if_neg (fun q => by first | exact Int32.not_lt.mpr q.1.1 (by first | exact c2 | exact Int32.not_le.mp c2) | exact Int32.not_lt.mpr q.1.2 (by first | exact c8 | exact Int32.not_le.mp c8) | exact c12 (part_iff.mp q.2))] at h
        exact h mi ml D (HI.refl _ _) hc
