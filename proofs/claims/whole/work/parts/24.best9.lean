/-! the reference: what is best -/
def blF (val : Nat → Int32) : List Nat → Int32 → Int32 → Int32
  | [], b, _ => b
  | c :: l, b, le => if val c < le then blF val l (nI c) (val c) else blF val l b le
theorem WJ.s7 {T a : Nat} {w : WD} (h : WJ T w) (ha : a ≤ 9) : WJ T (upS w 7 (nI a)) := by
  obtain ⟨N, P, R, hN, hP, hR, h0, h2, h4, h5, h6, h3, h7, h8, h1, hg, hr, hp⟩ := h
  exact ⟨N, P, R, hN, hP, hR, h0, h2, h4, h5, h6, h3, ⟨a, ha, rfl⟩, h8, h1, hg, hr, hp⟩
theorem WJ.s8 {T a : Nat} {w : WD} (h : WJ T w) (ha : a ≤ 15) : WJ T (upS w 8 (nI a)) := by
  obtain ⟨N, P, R, hN, hP, hR, h0, h2, h4, h5, h6, h3, h7, h8, h1, hg, hr, hp⟩ := h
  exact ⟨N, P, R, hN, hP, hR, h0, h2, h4, h5, h6, h3, h7, ⟨a, ha, rfl⟩, h1, hg, hr, hp⟩
theorem WJ.opn {T g : Nat} {w : WD} (h : WJ T w) (hg6 : g < 32) : WJ T (openW (nI g) w) := by
  obtain ⟨N, P, R, hN, hP, hR, h0, h2, h4, h5, h6, h3, h7, h8, h1, hg, hr, hp⟩ := h
  refine ⟨N, P, R, hN, hP, hR, h0, h2, h4, h5, h6, h3, h7, h8, fun i h1' h2' => ?_, hg, hr, hp⟩
  show bt (clrB (w.1 1) (nI g)) i = false
  rw [bt_clr hg6 h2', h1 i h1' h2']
  rfl
theorem WJ.first {T c : Nat} {w : WD} (h : WJ T w) : WJ T (firstW c w) := by
  obtain ⟨N, P, R, hN, hP, hR, h0, h2, h4, h5, h6, h3, h7, h8, h1, hg, hr, hp⟩ := h
  refine ⟨N, P, R, hN, hP, hR, h0, h2, h4, ⟨0, Nat.zero_le _, rfl⟩, h6, h3, h7, h8, h1, hg, fun j hj => ?_, hp⟩
  show ∃ g, g < N ∧ (if j < nn (w.1 4) then w.2.2.1 ((j + c) % nn (w.1 4)) else 0) = nI g
  rw [h4, nnI (by omega), if_pos hj]
  exact hr _ (Nat.mod_lt _ (by omega))
theorem WJ.swp {T a c R : Nat} {w : WD} (h : WJ T w) (h4 : w.1 4 = nI R) (hR6 : R ≤ 6) (ha : a < R) (hc : c < R) : WJ T (swapW a c w) := by
  obtain ⟨N, P, R', hN, hP, hR, h0, h2, h4', h5, h6, h3, h7, h8, h1, hg, hr, hp⟩ := h
  obtain rfl : R = R' := sm_inj (by omega) (by omega) (h4.symm.trans h4')
  refine ⟨N, P, R, hN, hP, hR, h0, h2, h4, h5, h6, h3, h7, h8, h1, hg, fun j hj => ?_, hp⟩
  show ∃ g, g < N ∧ (if j = c then w.2.2.1 a else if j = a then w.2.2.1 c else w.2.2.1 j) = nI g
  split
  · exact hr a ha
  · split
    · exact hr c hc
    · exact hr j hj
theorem clampP_n {a : Nat} (h1 : 1 ≤ a) (h9 : a ≤ 9) : clampP (nI a) = nI a := by
  unfold clampP
  rw [if_neg (fun q => by have := (sm_lt_iff (b := 1) (by omega) (by decide)).mp q; omega), if_neg (fun q => by have := (sm_lt_iff (a := 9) (by decide) (by omega)).mp q; omega)]
theorem paceA_n {a : Nat} {cl : CL} (h1 : 1 ≤ a) (h9 : a ≤ 9) : paceA (nI a) cl = nI a := by
  unfold paceA
  rw [if_pos (Int32.not_lt.mp (nI_pos (by omega))), clampP_n h1 h9]
theorem TR.tour {m0 m M : Nat → Nat → Int32} {cl : CL} {w : WD} {r : Nat → Int32} (h : TR m0 m cl w) (ha : ∀ a, a ≠ 123 → M a = m a) (hr : ∀ j, (if j < nn (m 116 8) then M 123 j else 0) = r j) : TR m0 M cl (w.1, w.2.1, r, w.2.2.2) := by
  obtain ⟨⟨g1, g2, g3, g4⟩, e, hg⟩ := h
  have e116 := ha 116 (by decide)
  refine ⟨⟨fun a a1 => (ha a (by omega)).trans (g1 a a1), fun f f1 => by rw [e116]; exact g2 f f1, fun f f1 => by rw [e116]; exact g3 f f1, fun j hj => by rw [ha 135 (by decide), ha 136 (by decide), ha 137 (by decide)]; exact g4 j hj⟩, ?_, by rw [e116]; exact hg⟩
  rw [← e]
  refine Prod.ext (sM_ext (fun f _ _ => by rw [e116])) (Prod.ext (funext fun j => ?_) (Prod.ext (funext fun j => ?_) (funext fun i => ?_)))
  · show (if j < nn (M 116 0) then M 117 j else 0) = if j < nn (m 116 0) then m 117 j else 0
    rw [e116, ha 117 (by decide)]
  · show (if j < nn (M 116 8) then M 123 j else 0) = r j
    rw [e116]; exact hr j
  · show (if i < nn (M 116 1) then pM M i else fun _ => 0) = if i < nn (m 116 1) then pM m i else fun _ => 0
    rw [e116, pM_ext (by rw [e116]) (by rw [e116]) (fun a a1 a2 _ => ha a (by omega)) (by rw [ha 121 (by decide)])]

set_option maxHeartbeats 4000000 in
theorem L_quickOf {G : rn_G} {d : Nat} {κ : Nat × Nat} {Q : Option Value → rn_S → Prop} {mi : Nat → Nat → Int32} {ml : Nat → Nat → Int64} {D : Nat → Nat} {T : Nat} {cl : CL} {w : WD} (hB : MB mi cl w) (hw : WJ T w) (hT : T + 200 < 2 ^ 30) (V : Int32) (h : ∀ m, ME mi m → Q (some (.int V)) (m, ml, RF D, 164)) : ∀ (n i : Nat) (x bs le : Int32) (v4 : Value) (m : Nat → Nat → Int32), n + i = 10 → 1 ≤ i → x = nI i → ME mi m → blF (fun c => leftW (erA cl) (upS w 7 (nI c))) (List.range' i n) bs le = V → Run G (d + 9) M_X9_quickOf 7 [.ref 116, .int bs, .int le, .int x, v4] [] (m, ml, RF D, 164) κ Q := by
  intro n
  induction n with
  | zero =>
    intro i x bs le v4 m hni hi1 hx hm hV
    have hV0 : bs = V := hV
    have hiN : i = 10 := by omega
    refine il_3 dX9_quickOf_7 ?_
    refine R_bipush (v := 10) dX9_quickOf_8 (by decide) ?_
    refine R_icmp_ge (tgt := 48) dX9_quickOf_10 (by decide) (fun c10 => ?_) (fun q => absurd q (not_not_intro (by rw [hx, hiN]; decide)))
    refine il_1 dX9_quickOf_48 ?_
    refine R_ireturn dX9_quickOf_49 ⟨_, rfl, rfl⟩ ?_
    rw [hV0]
    exact h m hm
  | succ n ih =>
    intro i x bs le v4 m hni hi1 hx hm hV
    have hBm := hB.me hw hm

    rw [List.range'_succ] at hV
    unfold blF at hV
    refine il_3 dX9_quickOf_7 ?_
    refine R_bipush (v := 10) dX9_quickOf_8 (by decide) ?_
    refine R_icmp_ge (tgt := 48) dX9_quickOf_10 (by decide) (fun q => absurd q (by rw [hx]; exact nI_ge (b := 10) (by omega) (by decide))) (fun c10 => ?_)
    refine al_0 dX9_quickOf_13 ?_
    refine cv_0 dX9_quickOf_14 mm_RX9_424 sh_116 (Nat.le_of_ble_eq_true rfl) ⟨_, rfl, rfl⟩ (Nat.le_of_ble_eq_true rfl) (Nat.le_of_ble_eq_true rfl) (M_save (fun ms g1 g2 g3 => ?_))
    obtain ⟨htr, gf, ga⟩ := save_tr hBm hw g1 g2 g3
    refine al_0 dX9_quickOf_17 ?_
    refine il_3 dX9_quickOf_18 ?_
    refine R_putfi dX9_quickOf_19 fl_RX9_110 rfl (Or.inl rfl) sh_116 (Nat.le_of_ble_eq_true rfl) rfl rfl ?_
    refine al_0 dX9_quickOf_22 ?_
    refine cv_0 dX9_quickOf_23 mm_RX9_436 sh_116 (Nat.le_of_ble_eq_true rfl) ⟨_, rfl, rfl⟩ (Nat.le_of_ble_eq_true rfl) (Nat.le_of_ble_eq_true rfl) (M_leftThen (T := T) (w := upS w 7 x) hBm (by have q := htr.up33 (v := x); rw [hx, paceA_n hi1 (by omega), ← hx] at q; exact q) (by rw [hx]; exact hw.s7 (by omega)) (by omega) (fun m4 hm4 => nmr (fun yy hyy => ?_)))
    have hyy : leftW (erA cl) (upS w 7 (nI i)) = yy := by rw [hyy, hx]
    refine is_4 dX9_quickOf_26 rfl ?_
    refine il_4 dX9_quickOf_28 ?_
    refine il_2 dX9_quickOf_30 ?_
    refine R_icmp_lt (tgt := 37) dX9_quickOf_31 (by decide) (fun c31 => ?_) (fun c31 => ?_)
    · refine il_3 dX9_quickOf_37 ?_
      refine is_1 dX9_quickOf_38 rfl ?_
      refine il_4 dX9_quickOf_39 ?_
      refine is_2 dX9_quickOf_41 rfl ?_
      refine ii_3 (v := _ + 1) dX9_quickOf_42 rfl (by rfl) ?_
      refine R_goto (tgt := 7) dX9_quickOf_45 (by decide) ?_
      refine ih (i + 1) _ _ _ _ m4 (by omega) (by omega) (by rw [hx]; exact sm_add i 1) (hm.trans hm4) ?_
      rw [hyy, ← hx] at hV
      first | (rw [if_pos c31] at hV; exact hV) | (rw [if_neg c31] at hV; exact hV)
    · refine R_goto (tgt := 42) dX9_quickOf_34 (by decide) ?_
      refine ii_3 (v := _ + 1) dX9_quickOf_42 rfl (by rfl) ?_
      refine R_goto (tgt := 7) dX9_quickOf_45 (by decide) ?_
      refine ih (i + 1) _ _ _ _ m4 (by omega) (by omega) (by rw [hx]; exact sm_add i 1) (hm.trans hm4) ?_
      rw [hyy, ← hx] at hV
      first | (rw [if_pos c31] at hV; exact hV) | (rw [if_neg c31] at hV; exact hV)

set_option maxHeartbeats 4000000 in
theorem M_quickOf {G : rn_G} {d : Nat} {κ : Nat × Nat} {Q : Option Value → rn_S → Prop} {mi : Nat → Nat → Int32} {ml : Nat → Nat → Int64} {D : Nat → Nat} {T : Nat} {cl : CL} {w : WD} (hB : MB mi cl w) (hw : WJ T w) (hT : T + 200 < 2 ^ 30) (h : ∀ m, ME mi m → Q (some (.int (blF (fun c => leftW (erA cl) (upS w 7 (nI c))) (List.range' 1 9) 0 7))) (m, ml, RF D, 164)) : Call G (d + 9) M_X9_quickOf [.ref 116] (mi, ml, RF D, 164) κ Q := by
  show Run G _ M_X9_quickOf 0 [.ref 116, .null, .null, .null, .null] [] _ _ _
  refine R_iconst (v := 0) dX9_quickOf_0 (by decide) ?_
  refine is_1 dX9_quickOf_1 rfl ?_
  refine R_bipush (v := 7) dX9_quickOf_2 (by decide) ?_
  refine is_2 dX9_quickOf_4 rfl ?_
  refine R_iconst (v := 1) dX9_quickOf_5 (by decide) ?_
  refine is_3 dX9_quickOf_6 rfl ?_
  exact L_quickOf hB hw hT _ h 9 1 1 0 7 _ mi (by omega) (by omega) rfl (ME.refl mi) rfl

set_option maxHeartbeats 4000000 in
theorem L_waitOf {G : rn_G} {d : Nat} {κ : Nat × Nat} {Q : Option Value → rn_S → Prop} {mi : Nat → Nat → Int32} {ml : Nat → Nat → Int64} {D : Nat → Nat} {T : Nat} {cl : CL} {w : WD} (hB : MB mi cl w) (hw : WJ T w) (hT : T + 200 < 2 ^ 30) (V : Int32) (h : ∀ m, ME mi m → Q (some (.int V)) (m, ml, RF D, 164)) : ∀ (n i : Nat) (x bs le : Int32) (v4 : Value) (m : Nat → Nat → Int32), n + i = 16 → 0 ≤ i → x = nI i → ME mi m → blF (fun c => leftW (erA cl) (upS w 8 (nI c))) (List.range' i n) bs le = V → Run G (d + 9) M_X9_waitOf 7 [.ref 116, .int bs, .int le, .int x, v4] [] (m, ml, RF D, 164) κ Q := by
  intro n
  induction n with
  | zero =>
    intro i x bs le v4 m hni hi1 hx hm hV
    have hV0 : bs = V := hV
    have hiN : i = 16 := by omega
    refine il_3 dX9_waitOf_7 ?_
    refine R_bipush (v := 16) dX9_waitOf_8 (by decide) ?_
    refine R_icmp_ge (tgt := 48) dX9_waitOf_10 (by decide) (fun c10 => ?_) (fun q => absurd q (not_not_intro (by rw [hx, hiN]; decide)))
    refine il_1 dX9_waitOf_48 ?_
    refine R_ireturn dX9_waitOf_49 ⟨_, rfl, rfl⟩ ?_
    rw [hV0]
    exact h m hm
  | succ n ih =>
    intro i x bs le v4 m hni hi1 hx hm hV
    have hBm := hB.me hw hm

    rw [List.range'_succ] at hV
    unfold blF at hV
    refine il_3 dX9_waitOf_7 ?_
    refine R_bipush (v := 16) dX9_waitOf_8 (by decide) ?_
    refine R_icmp_ge (tgt := 48) dX9_waitOf_10 (by decide) (fun q => absurd q (by rw [hx]; exact nI_ge (b := 16) (by omega) (by decide))) (fun c10 => ?_)
    refine al_0 dX9_waitOf_13 ?_
    refine cv_0 dX9_waitOf_14 mm_RX9_424 sh_116 (Nat.le_of_ble_eq_true rfl) ⟨_, rfl, rfl⟩ (Nat.le_of_ble_eq_true rfl) (Nat.le_of_ble_eq_true rfl) (M_save (fun ms g1 g2 g3 => ?_))
    obtain ⟨htr, gf, ga⟩ := save_tr hBm hw g1 g2 g3
    refine al_0 dX9_waitOf_17 ?_
    refine il_3 dX9_waitOf_18 ?_
    refine R_putfi dX9_waitOf_19 fl_RX9_113 rfl (Or.inl rfl) sh_116 (Nat.le_of_ble_eq_true rfl) rfl rfl ?_
    refine al_0 dX9_waitOf_22 ?_
    refine cv_0 dX9_waitOf_23 mm_RX9_436 sh_116 (Nat.le_of_ble_eq_true rfl) ⟨_, rfl, rfl⟩ (Nat.le_of_ble_eq_true rfl) (Nat.le_of_ble_eq_true rfl) (M_leftThen (T := T) (w := upS w 8 x) hBm (htr.up (f := 34) (k := 8) (v := x) (by omega)) (by rw [hx]; exact hw.s8 (by omega)) (by omega) (fun m4 hm4 => nmr (fun yy hyy => ?_)))
    have hyy : leftW (erA cl) (upS w 8 (nI i)) = yy := by rw [hyy, hx]
    refine is_4 dX9_waitOf_26 rfl ?_
    refine il_4 dX9_waitOf_28 ?_
    refine il_2 dX9_waitOf_30 ?_
    refine R_icmp_lt (tgt := 37) dX9_waitOf_31 (by decide) (fun c31 => ?_) (fun c31 => ?_)
    · refine il_3 dX9_waitOf_37 ?_
      refine is_1 dX9_waitOf_38 rfl ?_
      refine il_4 dX9_waitOf_39 ?_
      refine is_2 dX9_waitOf_41 rfl ?_
      refine ii_3 (v := _ + 1) dX9_waitOf_42 rfl (by rfl) ?_
      refine R_goto (tgt := 7) dX9_waitOf_45 (by decide) ?_
      refine ih (i + 1) _ _ _ _ m4 (by omega) (by omega) (by rw [hx]; exact sm_add i 1) (hm.trans hm4) ?_
      rw [hyy, ← hx] at hV
      first | (rw [if_pos c31] at hV; exact hV) | (rw [if_neg c31] at hV; exact hV)
    · refine R_goto (tgt := 42) dX9_waitOf_34 (by decide) ?_
      refine ii_3 (v := _ + 1) dX9_waitOf_42 rfl (by rfl) ?_
      refine R_goto (tgt := 7) dX9_waitOf_45 (by decide) ?_
      refine ih (i + 1) _ _ _ _ m4 (by omega) (by omega) (by rw [hx]; exact sm_add i 1) (hm.trans hm4) ?_
      rw [hyy, ← hx] at hV
      first | (rw [if_pos c31] at hV; exact hV) | (rw [if_neg c31] at hV; exact hV)

set_option maxHeartbeats 4000000 in
theorem M_waitOf {G : rn_G} {d : Nat} {κ : Nat × Nat} {Q : Option Value → rn_S → Prop} {mi : Nat → Nat → Int32} {ml : Nat → Nat → Int64} {D : Nat → Nat} {T : Nat} {cl : CL} {w : WD} (hB : MB mi cl w) (hw : WJ T w) (hT : T + 200 < 2 ^ 30) (h : ∀ m, ME mi m → Q (some (.int (blF (fun c => leftW (erA cl) (upS w 8 (nI c))) (List.range' 0 16) 0 7))) (m, ml, RF D, 164)) : Call G (d + 9) M_X9_waitOf [.ref 116] (mi, ml, RF D, 164) κ Q := by
  show Run G _ M_X9_waitOf 0 [.ref 116, .null, .null, .null, .null] [] _ _ _
  refine R_iconst (v := 0) dX9_waitOf_0 (by decide) ?_
  refine is_1 dX9_waitOf_1 rfl ?_
  refine R_bipush (v := 7) dX9_waitOf_2 (by decide) ?_
  refine is_2 dX9_waitOf_4 rfl ?_
  refine R_iconst (v := 0) dX9_waitOf_5 (by decide) ?_
  refine is_3 dX9_waitOf_6 rfl ?_
  exact L_waitOf hB hw hT _ h 16 0 0 0 7 _ mi (by omega) (by omega) nI_0.symm (ME.refl mi) rfl

set_option maxHeartbeats 4000000 in
theorem L_openOf {G : rn_G} {d : Nat} {κ : Nat × Nat} {Q : Option Value → rn_S → Prop} {mi : Nat → Nat → Int32} {ml : Nat → Nat → Int64} {D : Nat → Nat} {T : Nat} {cl : CL} {w : WD} (hB : MB mi cl w) (hw : WJ T w) (hT : T + 200 < 2 ^ 30) {N : Nat} (hN : mi 116 0 = nI N) (hN6 : N ≤ 6) (V : Int32) (h : ∀ m, ME mi m → Q (some (.int V)) (m, ml, RF D, 164)) : ∀ (n i : Nat) (x bs le : Int32) (v4 : Value) (m : Nat → Nat → Int32), n + i = N → 0 ≤ i → x = nI i → ME mi m → blF (fun c => leftW (erA cl) (openW (nI c) w)) (List.range' i n) bs le = V → Run G (d + 9) M_X9_openOf 10 [.ref 116, .int bs, .int le, .int x, v4] [] (m, ml, RF D, 164) κ Q := by
  intro n
  induction n with
  | zero =>
    intro i x bs le v4 m hni hi1 hx hm hV
    have hV0 : bs = V := hV
    have hiN : i = N := by omega
    have hN0 : m 116 0 = nI N := by rw [hm.2.1 0 (by omega)]; exact hN
    refine il_3 dX9_openOf_10 ?_
    refine al_0 dX9_openOf_11 ?_
    refine R_getfi dX9_openOf_12 fl_RX9_7 rfl sh_116 (Nat.le_of_ble_eq_true rfl) ?_
    refine R_icmp_ge (tgt := 67) dX9_openOf_15 (by decide) (fun c15 => ?_) (fun q => absurd q (not_not_intro (by rw [hN0, hx]; exact nI_le (by omega) (by omega))))
    refine il_1 dX9_openOf_67 ?_
    refine R_ireturn dX9_openOf_68 ⟨_, rfl, rfl⟩ ?_
    rw [hV0]
    exact h m hm
  | succ n ih =>
    intro i x bs le v4 m hni hi1 hx hm hV
    have hBm := hB.me hw hm
    have hN0 : m 116 0 = nI N := by rw [hm.2.1 0 (by omega)]; exact hN

    rw [List.range'_succ] at hV
    unfold blF at hV
    refine il_3 dX9_openOf_10 ?_
    refine al_0 dX9_openOf_11 ?_
    refine R_getfi dX9_openOf_12 fl_RX9_7 rfl sh_116 (Nat.le_of_ble_eq_true rfl) ?_
    refine R_icmp_ge (tgt := 67) dX9_openOf_15 (by decide) (fun q => absurd q (by rw [hN0, hx]; exact nI_ge (by omega) (by omega))) (fun c15 => ?_)
    refine al_0 dX9_openOf_18 ?_
    refine cv_0 dX9_openOf_19 mm_RX9_424 sh_116 (Nat.le_of_ble_eq_true rfl) ⟨_, rfl, rfl⟩ (Nat.le_of_ble_eq_true rfl) (Nat.le_of_ble_eq_true rfl) (M_save (fun ms g1 g2 g3 => ?_))
    obtain ⟨htr, gf, ga⟩ := save_tr hBm hw g1 g2 g3
    refine al_0 dX9_openOf_22 ?_
    refine al_0 dX9_openOf_23 ?_
    refine al_0 dX9_openOf_24 ?_
    refine R_getfi dX9_openOf_25 fl_RX9_19 rfl sh_116 (Nat.le_of_ble_eq_true rfl) ?_
    refine il_3 dX9_openOf_28 ?_
    refine R_iconst (v := 0) dX9_openOf_29 (by decide) ?_
    refine cv_3 dX9_openOf_30 mm_RX9_301 sh_116 (Nat.le_of_ble_eq_true rfl) ⟨_, rfl, rfl⟩ (Nat.le_of_ble_eq_true rfl) (Nat.le_of_ble_eq_true rfl) (M_with0 ?_)
    refine R_putfi dX9_openOf_33 fl_RX9_19 rfl (Or.inl rfl) sh_116 (Nat.le_of_ble_eq_true rfl) rfl rfl ?_
    refine al_0 dX9_openOf_36 ?_
    refine il_3 dX9_openOf_37 ?_
    refine R_putfi dX9_openOf_38 fl_RX9_116 rfl (Or.inl rfl) sh_116 (Nat.le_of_ble_eq_true rfl) rfl rfl ?_
    refine al_0 dX9_openOf_41 ?_
    refine cv_0 dX9_openOf_42 mm_RX9_436 sh_116 (Nat.le_of_ble_eq_true rfl) ⟨_, rfl, rfl⟩ (Nat.le_of_ble_eq_true rfl) (Nat.le_of_ble_eq_true rfl) (M_leftThen (T := T) (w := openW x w) hBm (by have q := (htr.up (f := 3) (k := 1) (v := clrB (w.1 1) x) (by omega)).up (f := 35) (k := 9) (v := x) (by omega); have e : ms 116 3 = w.1 1 := (by rw [← htr.2.1]; rfl); rw [e, if_pos rfl]; exact q) (by have q := hw.opn (g := i) (by omega); rw [← hx] at q; exact q) (by omega) (fun m4 hm4 => nmr (fun yy hyy => ?_)))
    have hyy : leftW (erA cl) (openW (nI i) w) = yy := by rw [hyy, hx]
    refine is_4 dX9_openOf_45 rfl ?_
    refine il_4 dX9_openOf_47 ?_
    refine il_2 dX9_openOf_49 ?_
    refine R_icmp_lt (tgt := 56) dX9_openOf_50 (by decide) (fun c50 => ?_) (fun c50 => ?_)
    · refine il_3 dX9_openOf_56 ?_
      refine is_1 dX9_openOf_57 rfl ?_
      refine il_4 dX9_openOf_58 ?_
      refine is_2 dX9_openOf_60 rfl ?_
      refine ii_3 (v := _ + 1) dX9_openOf_61 rfl (by rfl) ?_
      refine R_goto (tgt := 10) dX9_openOf_64 (by decide) ?_
      refine ih (i + 1) _ _ _ _ m4 (by omega) (by omega) (by rw [hx]; exact sm_add i 1) (hm.trans hm4) ?_
      rw [hyy, ← hx] at hV
      first | (rw [if_pos c50] at hV; exact hV) | (rw [if_neg c50] at hV; exact hV)
    · refine R_goto (tgt := 61) dX9_openOf_53 (by decide) ?_
      refine ii_3 (v := _ + 1) dX9_openOf_61 rfl (by rfl) ?_
      refine R_goto (tgt := 10) dX9_openOf_64 (by decide) ?_
      refine ih (i + 1) _ _ _ _ m4 (by omega) (by omega) (by rw [hx]; exact sm_add i 1) (hm.trans hm4) ?_
      rw [hyy, ← hx] at hV
      first | (rw [if_pos c50] at hV; exact hV) | (rw [if_neg c50] at hV; exact hV)

set_option maxHeartbeats 4000000 in
theorem M_openOf {G : rn_G} {d : Nat} {κ : Nat × Nat} {Q : Option Value → rn_S → Prop} {mi : Nat → Nat → Int32} {ml : Nat → Nat → Int64} {D : Nat → Nat} {T : Nat} {cl : CL} {w : WD} (hB : MB mi cl w) (hw : WJ T w) (hT : T + 200 < 2 ^ 30) {N : Nat} (hN : mi 116 0 = nI N) (hN6 : N ≤ 6) (h : ∀ m, ME mi m → Q (some (.int (blF (fun c => leftW (erA cl) (openW (nI c) w)) (List.range' 0 N) (-5) (leftW (erA cl) w)))) (m, ml, RF D, 164)) : Call G (d + 10) M_X9_openOf [.ref 116] (mi, ml, RF D, 164) κ Q := by
  show Run G _ M_X9_openOf 0 [.ref 116, .null, .null, .null, .null] [] _ _ _
  refine R_bipush (v := -5) dX9_openOf_0 (by decide) ?_
  refine is_1 dX9_openOf_2 rfl ?_
  refine al_0 dX9_openOf_3 ?_
  refine cv_0 dX9_openOf_4 mm_RX9_439 sh_116 (Nat.le_of_ble_eq_true rfl) ⟨_, rfl, rfl⟩ (Nat.le_of_ble_eq_true rfl) (Nat.le_of_ble_eq_true rfl) (M_left hB hw (by omega) (fun m1 hm1 => ?_))
  refine is_2 dX9_openOf_7 rfl ?_
  refine R_iconst (v := 0) dX9_openOf_8 (by decide) ?_
  refine is_3 dX9_openOf_9 rfl ?_
  exact L_openOf hB hw hT hN hN6 _ h N 0 0 (-5) _ _ m1 (by omega) (by omega) nI_0.symm hm1 rfl
