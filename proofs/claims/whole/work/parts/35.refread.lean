/-! the reference reads its text: signs, numbers, tests, what waits -/
def TXM (T : Nat → Nat) (L : Nat) (mi : Nat → Nat → Int32) : Prop := L ≤ 100 ∧ mi 116 18 = nI L ∧ ∀ j, j < L → T j < 128 ∧ mi 124 j = nI (T j)
def nxI (T : Nat → Nat) (L p : Nat) : Int32 := if p < L then nI (T p) else -1
theorem nxI_c {T : Nat → Nat} {L p c : Nat} (ht : ∀ j, j < L → T j < 128) (hc : c < 128) : nxI T L p = nI c ↔ nxT T L p = c := by
  unfold nxI nxT
  split
  · rename_i h
    have := ht p h
    exact ⟨fun e => sm_inj (by omega) (by omega) e, fun e => by rw [e]⟩
  · exact ⟨fun e => absurd e.symm (fun q => absurd (show nI c < 0 by rw [q]; decide) (nI_pos (by omega))), fun e => by omega⟩
theorem TXM.u {T : Nat → Nat} {L f : Nat} {mi : Nat → Nat → Int32} {v : Int32} (h : TXM T L mi) (hf : f ≠ 18) : TXM T L (rn_u mi 116 f v) := by
  refine ⟨h.1, ?_, fun j hj => by rw [rn_u_ne (by decide)]; exact h.2.2 j hj⟩
  rw [← h.2.1]
  unfold rn_u
  rw [if_neg (fun q => hf q.2.symm)]
theorem TXM.lt {T : Nat → Nat} {L : Nat} {mi : Nat → Nat → Int32} (h : TXM T L mi) : ∀ j, j < L → T j < 128 := fun j hj => (h.2.2 j hj).1

set_option maxHeartbeats 4000000 in
theorem M_next {G : rn_G} {d : Nat} {κ : Nat × Nat} {Q : Option Value → rn_S → Prop} {mi : Nat → Nat → Int32} {ml : Nat → Nat → Int64} {D : Nat → Nat} {T : Nat → Nat} {L p : Nat} (htx : TXM T L mi) (hat : mi 116 19 = nI p) (hpL : p ≤ L) (h : Q (some (.int (nxI T L p))) (mi, ml, RF D, 164)) : Call G (d) M_X9_next [.ref 116] (mi, ml, RF D, 164) κ Q := by
  show Run G _ M_X9_next 0 [.ref 116] [] _ _ _
  obtain ⟨hL, eL, htxt⟩ := htx
  refine al_0 dX9_next_0 ?_
  refine R_getfi dX9_next_1 fl_RX9_68 rfl sh_116 (Nat.le_of_ble_eq_true rfl) ?_
  refine al_0 dX9_next_4 ?_
  refine R_getfi dX9_next_5 fl_RX9_65 rfl sh_116 (Nat.le_of_ble_eq_true rfl) ?_
  refine R_icmp_ge (tgt := 23) dX9_next_8 (by decide) (fun c8 => ?_) (fun c8 => ?_)
  · refine R_iconst (v := -1) dX9_next_23 (by decide) ?_
    refine R_ireturn dX9_next_24 ⟨_, rfl, rfl⟩ ?_
    unfold nxI at h
    first
      | (rw [if_pos hp, ← ht2] at h; exact h)
      | (rw [if_neg (fun q => Int32.not_le.mpr ((sm_lt_iff (by omega) (by omega)).mpr q) (by rw [← hat, ← eL]; exact c8))] at h; exact h)
  · refine al_0 dX9_next_11 ?_
    refine R_getfr (r := 124) dX9_next_12 fl_RX9_74 rfl sh_116 (Nat.le_of_ble_eq_true rfl) rf_116_21 ?_
    refine al_0 dX9_next_15 ?_
    refine R_getfi dX9_next_16 fl_RX9_68 rfl sh_116 (Nat.le_of_ble_eq_true rfl) ?_
    have hp : p < L := (sm_lt_iff (by omega) (by omega)).mp (by rw [← hat, ← eL]; exact Int32.not_le.mp c8)
    obtain ⟨ht1, ht2⟩ := htxt p hp
    refine R_iald dX9_next_19 sh_124 (Nat.le_of_ble_eq_true rfl) (rn_ixe hat) (show p < 100 by omega) ?_
    refine R_goto (tgt := 24) dX9_next_20 (by decide) ?_
    refine R_ireturn dX9_next_24 ⟨_, rfl, rfl⟩ ?_
    unfold nxI at h
    first
      | (rw [if_pos hp, ← ht2] at h; exact h)
      | (rw [if_neg (fun q => Int32.not_le.mpr ((sm_lt_iff (by omega) (by omega)).mpr q) (by rw [← hat, ← eL]; exact c8))] at h; exact h)

set_option maxHeartbeats 4000000 in
theorem M_takes {G : rn_G} {d : Nat} {κ : Nat × Nat} {Q : Option Value → rn_S → Prop} {mi : Nat → Nat → Int32} {ml : Nat → Nat → Int64} {D : Nat → Nat} {T : Nat → Nat} {L p : Nat} (htx : TXM T L mi) (hat : mi 116 19 = nI p) (hpL : p ≤ L) {x : Int32} {c : Nat} (hx : x = nI c) (hc : c < 128) (h1 : nxT T L p = c → p < L → Q (some (.int 1)) (rn_u mi 116 19 (nI (p + 1)), ml, RF D, 164)) (h0 : ¬ nxT T L p = c → Q (some (.int 0)) (mi, ml, RF D, 164)) : Call G (d + 1) M_X9_takes [.ref 116, .int x] (mi, ml, RF D, 164) κ Q := by
  show Run G _ M_X9_takes 0 [.ref 116, .int x] [] _ _ _
  refine al_0 dX9_takes_0 ?_
  refine cv_0 dX9_takes_1 mm_RX9_319 sh_116 (Nat.le_of_ble_eq_true rfl) ⟨_, rfl, rfl⟩ (Nat.le_of_ble_eq_true rfl) (Nat.le_of_ble_eq_true rfl) (M_next htx hat hpL (nmr (fun nx hnx => ?_)))
  refine il_1 dX9_takes_4 ?_
  refine R_icmp_eq (tgt := 10) dX9_takes_5 (by decide) (fun c5 => ?_) (fun c5 => ?_)
  · refine al_0 dX9_takes_10 ?_
    refine R_dup dX9_takes_11 rfl ?_
    refine R_getfi dX9_takes_12 fl_RX9_68 rfl sh_116 (Nat.le_of_ble_eq_true rfl) ?_
    refine R_iconst (v := 1) dX9_takes_15 (by decide) ?_
    refine R_iadd dX9_takes_16 ?_
    refine R_putfi dX9_takes_17 fl_RX9_68 rfl (Or.inl rfl) sh_116 (Nat.le_of_ble_eq_true rfl) rfl rfl ?_
    refine R_iconst (v := 1) dX9_takes_20 (by decide) ?_
    refine R_ireturn dX9_takes_21 ⟨_, rfl, rfl⟩ ?_
    have key := nxI_c (p := p) htx.lt hc
    rw [← hnx, ← hx] at key
    first
      | exact h0 (fun q => c5 (key.mpr q))
      | (rw [show mi 116 19 + 1 = nI (p + 1) by rw [hat]; exact sm_add p 1]; exact h1 (key.mp c5) (nxT_lt (T := T) (by rw [key.mp c5]; omega)))
  · refine R_iconst (v := 0) dX9_takes_8 (by decide) ?_
    refine R_ireturn dX9_takes_9 ⟨_, rfl, rfl⟩ ?_
    have key := nxI_c (p := p) htx.lt hc
    rw [← hnx, ← hx] at key
    first
      | exact h0 (fun q => c5 (key.mpr q))
      | (rw [show mi 116 19 + 1 = nI (p + 1) by rw [hat]; exact sm_add p 1]; exact h1 (key.mp c5) (nxT_lt (T := T) (by rw [key.mp c5]; omega)))

theorem nxI_d {T : Nat → Nat} {L p : Nat} (ht : ∀ j, j < L → T j < 128) : (48 ≤ nxI T L p ∧ nxI T L p ≤ 57) ↔ isD (nxT T L p) = true := by
  rw [isD_iff]
  unfold nxI nxT
  split
  · rename_i h
    have := ht p h
    rw [show (48 : Int32) = nI 48 from rfl, show (57 : Int32) = nI 57 from rfl, sm_le_iff (by decide) (by omega), sm_le_iff (by omega) (by decide)]
  · exact ⟨fun e => absurd e.1 (by decide), fun e => by omega⟩
theorem nxI_s {T : Nat → Nat} {L p : Nat} (ht : ∀ j, j < L → T j < 128) : (60 ≤ nxI T L p ∧ nxI T L p ≤ 62) ↔ 60 ≤ nxT T L p ∧ nxT T L p ≤ 62 := by
  unfold nxI nxT
  split
  · rename_i h
    have := ht p h
    rw [show (60 : Int32) = nI 60 from rfl, show (62 : Int32) = nI 62 from rfl, sm_le_iff (by decide) (by omega), sm_le_iff (by omega) (by decide)]
  · exact ⟨fun e => absurd e.1 (by decide), fun e => by omega⟩
theorem dig_m : ∀ s : Fin 10, ∀ t : Fin 58, 48 ≤ t.1 → 10 * nI s.1 + nI t.1 - 48 = nI (10 * s.1 + (t.1 - 48)) := by decide +kernel

set_option maxHeartbeats 4000000 in
theorem M_isDigit {G : rn_G} {d : Nat} {κ : Nat × Nat} {Q : Option Value → rn_S → Prop} {mi : Nat → Nat → Int32} {ml : Nat → Nat → Int64} {D : Nat → Nat} {T : Nat → Nat} {L p : Nat} (htx : TXM T L mi) (hat : mi 116 19 = nI p) (hpL : p ≤ L) (h1 : isD (nxT T L p) = true → Q (some (.int 1)) (mi, ml, RF D, 164)) (h0 : ¬ isD (nxT T L p) = true → Q (some (.int 0)) (mi, ml, RF D, 164)) : Call G (d + 1) M_X9_isDigit [.ref 116] (mi, ml, RF D, 164) κ Q := by
  show Run G _ M_X9_isDigit 0 [.ref 116] [] _ _ _
  refine al_0 dX9_isDigit_0 ?_
  refine al_0 dX9_isDigit_1 ?_
  refine cv_0 dX9_isDigit_2 mm_RX9_319 sh_116 (Nat.le_of_ble_eq_true rfl) ⟨_, rfl, rfl⟩ (Nat.le_of_ble_eq_true rfl) (Nat.le_of_ble_eq_true rfl) (M_next htx hat hpL (nmr (fun nx hnx => ?_)))
  refine R_bipush (v := 48) dX9_isDigit_5 (by decide) ?_
  refine R_bipush (v := 57) dX9_isDigit_7 (by decide) ?_
  refine cv_3 dX9_isDigit_9 mm_RX9_293 sh_116 (Nat.le_of_ble_eq_true rfl) ⟨_, rfl, rfl⟩ (Nat.le_of_ble_eq_true rfl) (Nat.le_of_ble_eq_true rfl) (M_in (fun c9 => ?_) (fun c9 => ?_))
  · refine R_ireturn dX9_isDigit_12 ⟨_, rfl, rfl⟩ ?_
    rw [hnx, nxI_d htx.lt] at c9
    first | exact h1 c9 | exact h0 c9
  · refine R_ireturn dX9_isDigit_12 ⟨_, rfl, rfl⟩ ?_
    rw [hnx, nxI_d htx.lt] at c9
    first | exact h1 c9 | exact h0 c9

set_option maxHeartbeats 4000000 in
theorem M_takesNumber {G : rn_G} {d : Nat} {κ : Nat × Nat} {Q : Option Value → rn_S → Prop} {mi : Nat → Nat → Int32} {ml : Nat → Nat → Int64} {D : Nat → Nat} {T : Nat → Nat} {L p : Nat} (htx : TXM T L mi) (hat : mi 116 19 = nI p) (hpL : p ≤ L) (h0 : numR T L p = none → Q (some (.int 0)) (mi, ml, RF D, 164)) (h1 : ∀ n q m, numR T L p = some (n, q) → (∀ a, a ≠ 116 → m a = mi a) → (∀ f, f ≠ 19 → f ≠ 20 → m 116 f = mi 116 f) → m 116 19 = nI q → m 116 20 = nI n → Q (some (.int 1)) (m, ml, RF D, 164)) : Call G (d + 2) M_X9_takesNumber [.ref 116] (mi, ml, RF D, 164) κ Q := by
  show Run G _ M_X9_takesNumber 0 [.ref 116, .null] [] _ _ _
  have hlt := htx.lt
  by_cases d1 : isD (nxT T L p) = true
  · have hp : p < L := isD_lt d1
    have d1' := isD_iff.mp d1
    rw [nxT_l hp] at d1'
    have htx1 : TXM T L (rn_u mi 116 20 0) := htx.u (by decide)
    have hat1 : rn_u mi 116 20 0 116 19 = nI p := hat
    have fr : ∀ (u v : Int32), (∀ a, a ≠ 116 → rn_u (rn_u mi 116 20 u) 116 19 v a = mi a) ∧ (∀ f, f ≠ 19 → f ≠ 20 → rn_u (rn_u mi 116 20 u) 116 19 v 116 f = mi 116 f) ∧ rn_u (rn_u mi 116 20 u) 116 19 v 116 19 = v ∧ rn_u (rn_u mi 116 20 u) 116 19 v 116 20 = u := fun u v => ⟨fun a ha => by rw [rn_u_ne ha, rn_u_ne ha], fun f h1 h2 => by simp [rn_u, h1, h2], rn_u_eq, by simp [rn_u]⟩
    have htx2 : TXM T L (rn_u (rn_u mi 116 20 (nI (T p - 48))) 116 19 (nI (p + 1))) := (htx.u (by decide)).u (by decide)
    have hat2 : rn_u (rn_u mi 116 20 (nI (T p - 48))) 116 19 (nI (p + 1)) 116 19 = nI (p + 1) := rn_u_eq
    have hTp := hlt p hp
    have hdg : ∀ v : Int32, v = nxI T L p → (10 : Int32) * 0 + v - 48 = nI (T p - 48) := fun v hv => by
      rw [hv, nxI, if_pos hp]
      exact (dig_m ⟨0, by decide⟩ ⟨T p, by omega⟩ d1'.1).trans (congrArg nI (Nat.zero_add _))
    by_cases d2 : isD (nxT T L (p + 1)) = true
    · have hp2 : p + 1 < L := isD_lt d2
      have d2' := isD_iff.mp d2
      rw [nxT_l hp2] at d2'
      have hTp2 := hlt (p + 1) hp2
      have hdg2 : ∀ v : Int32, v = nxI T L (p + 1) → (10 : Int32) * nI (T p - 48) + v - 48 = nI (10 * (T p - 48) + (T (p + 1) - 48)) := fun v hv => by
        rw [hv, nxI, if_pos hp2]
        exact dig_m ⟨T p - 48, by omega⟩ ⟨T (p + 1), by omega⟩ d2'.1
      have hnum := numR_2 d1 d2
      rw [nxT_l hp, nxT_l hp2] at hnum
      refine al_0 dX9_takesNumber_0 ?_
      refine cv_0 dX9_takesNumber_1 mm_RX9_326 sh_116 (Nat.le_of_ble_eq_true rfl) ⟨_, rfl, rfl⟩ (Nat.le_of_ble_eq_true rfl) (Nat.le_of_ble_eq_true rfl) (M_isDigit htx hat hpL (fun _ => ?_) (fun q => absurd d1 q))
      refine R_if_ne (tgt := 9) dX9_takesNumber_4 (by decide) (fun _ => ?_) (fun q => absurd q (by decide))
      refine al_0 dX9_takesNumber_9 ?_
      refine R_iconst (v := 0) dX9_takesNumber_10 (by decide) ?_
      refine R_putfi dX9_takesNumber_11 fl_RX9_71 rfl (Or.inl rfl) sh_116 (Nat.le_of_ble_eq_true rfl) rfl rfl ?_
      refine R_iconst (v := 0) dX9_takesNumber_14 (by decide) ?_
      refine is_1 dX9_takesNumber_15 rfl ?_
      refine il_1 dX9_takesNumber_16 ?_
      refine R_iconst (v := 2) dX9_takesNumber_17 (by decide) ?_
      refine R_icmp_ge (tgt := 63) dX9_takesNumber_18 (by decide) (fun q => absurd q (by decide)) (fun _ => ?_)
      refine al_0 dX9_takesNumber_21 ?_
      refine cv_0 dX9_takesNumber_22 mm_RX9_326 sh_116 (Nat.le_of_ble_eq_true rfl) ⟨_, rfl, rfl⟩ (Nat.le_of_ble_eq_true rfl) (Nat.le_of_ble_eq_true rfl) (M_isDigit htx1 hat1 hpL (fun _ => ?_) (fun q => absurd d1 q))
      refine R_if_eq (tgt := 63) dX9_takesNumber_25 (by decide) (fun q => absurd q (by decide)) (fun _ => ?_)
      refine al_0 dX9_takesNumber_28 ?_
      refine R_bipush (v := 10) dX9_takesNumber_29 (by decide) ?_
      refine al_0 dX9_takesNumber_31 ?_
      refine R_getfi dX9_takesNumber_32 fl_RX9_71 rfl sh_116 (Nat.le_of_ble_eq_true rfl) ?_
      refine R_imul dX9_takesNumber_35 ?_
      refine al_0 dX9_takesNumber_36 ?_
      refine cv_0 dX9_takesNumber_37 mm_RX9_319 sh_116 (Nat.le_of_ble_eq_true rfl) ⟨_, rfl, rfl⟩ (Nat.le_of_ble_eq_true rfl) (Nat.le_of_ble_eq_true rfl) (M_next htx1 hat1 hpL (nmr (fun nx0 hnx0 => ?_)))
      refine R_iadd dX9_takesNumber_40 ?_
      refine R_bipush (v := 48) dX9_takesNumber_41 (by decide) ?_
      refine R_isub dX9_takesNumber_43 ?_
      refine R_putfi dX9_takesNumber_44 fl_RX9_71 rfl (Or.inl rfl) sh_116 (Nat.le_of_ble_eq_true rfl) rfl rfl ?_
      refine al_0 dX9_takesNumber_47 ?_
      refine R_dup dX9_takesNumber_48 rfl ?_
      refine R_getfi dX9_takesNumber_49 fl_RX9_68 rfl sh_116 (Nat.le_of_ble_eq_true rfl) ?_
      refine R_iconst (v := 1) dX9_takesNumber_52 (by decide) ?_
      refine R_iadd dX9_takesNumber_53 ?_
      refine R_putfi dX9_takesNumber_54 fl_RX9_68 rfl (Or.inl rfl) sh_116 (Nat.le_of_ble_eq_true rfl) rfl rfl ?_
      rw [show rn_u (rn_u mi 116 20 0) 116 20 (10 * rn_u mi 116 20 0 116 20 + nx0 - 48) = rn_u mi 116 20 (nI (T p - 48)) by rw [rn_u_u, rn_u_eq, hdg nx0 hnx0]]
      rw [show rn_u mi 116 20 (nI (T p - 48)) 116 19 + 1 = nI (p + 1) by rw [show rn_u mi 116 20 (nI (T p - 48)) 116 19 = nI p from hat]; exact sm_add p 1]
      refine ii_1 (v := 1) dX9_takesNumber_57 rfl (by decide) ?_
      refine R_goto (tgt := 16) dX9_takesNumber_60 (by decide) ?_
      refine il_1 dX9_takesNumber_16 ?_
      refine R_iconst (v := 2) dX9_takesNumber_17 (by decide) ?_
      refine R_icmp_ge (tgt := 63) dX9_takesNumber_18 (by decide) (fun q => absurd q (by decide)) (fun _ => ?_)
      refine al_0 dX9_takesNumber_21 ?_
      refine cv_0 dX9_takesNumber_22 mm_RX9_326 sh_116 (Nat.le_of_ble_eq_true rfl) ⟨_, rfl, rfl⟩ (Nat.le_of_ble_eq_true rfl) (Nat.le_of_ble_eq_true rfl) (M_isDigit htx2 hat2 (show p + 1 ≤ L by omega) (fun _ => ?_) (fun q => absurd d2 q))
      refine R_if_eq (tgt := 63) dX9_takesNumber_25 (by decide) (fun q => absurd q (by decide)) (fun _ => ?_)
      refine al_0 dX9_takesNumber_28 ?_
      refine R_bipush (v := 10) dX9_takesNumber_29 (by decide) ?_
      refine al_0 dX9_takesNumber_31 ?_
      refine R_getfi dX9_takesNumber_32 fl_RX9_71 rfl sh_116 (Nat.le_of_ble_eq_true rfl) ?_
      refine R_imul dX9_takesNumber_35 ?_
      refine al_0 dX9_takesNumber_36 ?_
      refine cv_0 dX9_takesNumber_37 mm_RX9_319 sh_116 (Nat.le_of_ble_eq_true rfl) ⟨_, rfl, rfl⟩ (Nat.le_of_ble_eq_true rfl) (Nat.le_of_ble_eq_true rfl) (M_next htx2 hat2 (show p + 1 ≤ L by omega) (nmr (fun nx1 hnx1 => ?_)))
      refine R_iadd dX9_takesNumber_40 ?_
      refine R_bipush (v := 48) dX9_takesNumber_41 (by decide) ?_
      refine R_isub dX9_takesNumber_43 ?_
      refine R_putfi dX9_takesNumber_44 fl_RX9_71 rfl (Or.inl rfl) sh_116 (Nat.le_of_ble_eq_true rfl) rfl rfl ?_
      refine al_0 dX9_takesNumber_47 ?_
      refine R_dup dX9_takesNumber_48 rfl ?_
      refine R_getfi dX9_takesNumber_49 fl_RX9_68 rfl sh_116 (Nat.le_of_ble_eq_true rfl) ?_
      refine R_iconst (v := 1) dX9_takesNumber_52 (by decide) ?_
      refine R_iadd dX9_takesNumber_53 ?_
      refine R_putfi dX9_takesNumber_54 fl_RX9_68 rfl (Or.inl rfl) sh_116 (Nat.le_of_ble_eq_true rfl) rfl rfl ?_
      have e20 : rn_u (rn_u mi 116 20 (nI (T p - 48))) 116 19 (nI (p + 1)) 116 20 = nI (T p - 48) := (fr _ _).2.2.2
      rw [e20, hdg2 nx1 hnx1]
      rw [show rn_u (rn_u (rn_u mi 116 20 (nI (T p - 48))) 116 19 (nI (p + 1))) 116 20 (nI (10 * (T p - 48) + (T (p + 1) - 48))) 116 19 + 1 = nI (p + 2) by rw [show rn_u (rn_u (rn_u mi 116 20 (nI (T p - 48))) 116 19 (nI (p + 1))) 116 20 (nI (10 * (T p - 48) + (T (p + 1) - 48))) 116 19 = nI (p + 1) from hat2]; exact sm_add (p + 1) 1]
      rw [show rn_u (rn_u (rn_u (rn_u mi 116 20 (nI (T p - 48))) 116 19 (nI (p + 1))) 116 20 (nI (10 * (T p - 48) + (T (p + 1) - 48)))) 116 19 (nI (p + 2)) = rn_u (rn_u mi 116 20 (nI (10 * (T p - 48) + (T (p + 1) - 48)))) 116 19 (nI (p + 2)) from by funext b j; unfold rn_u; by_cases h19 : b = 116 ∧ j = 19; simp [h19]; by_cases h20 : b = 116 ∧ j = 20; simp [h19, h20]; simp [h19, h20]]
      refine ii_1 (v := 2) dX9_takesNumber_57 rfl (by decide) ?_
      refine R_goto (tgt := 16) dX9_takesNumber_60 (by decide) ?_
      refine il_1 dX9_takesNumber_16 ?_
      refine R_iconst (v := 2) dX9_takesNumber_17 (by decide) ?_
      refine R_icmp_ge (tgt := 63) dX9_takesNumber_18 (by decide) (fun _ => ?_) (fun q => absurd q (by decide))
      refine R_iconst (v := 1) dX9_takesNumber_63 (by decide) ?_
      refine R_ireturn dX9_takesNumber_64 ⟨_, rfl, rfl⟩ ?_
      exact h1 _ _ _ hnum (fr _ _).1 (fr _ _).2.1 (fr _ _).2.2.1 (fr _ _).2.2.2
    · have hnum := numR_1 d1 d2
      rw [nxT_l hp] at hnum
      refine al_0 dX9_takesNumber_0 ?_
      refine cv_0 dX9_takesNumber_1 mm_RX9_326 sh_116 (Nat.le_of_ble_eq_true rfl) ⟨_, rfl, rfl⟩ (Nat.le_of_ble_eq_true rfl) (Nat.le_of_ble_eq_true rfl) (M_isDigit htx hat hpL (fun _ => ?_) (fun q => absurd d1 q))
      refine R_if_ne (tgt := 9) dX9_takesNumber_4 (by decide) (fun _ => ?_) (fun q => absurd q (by decide))
      refine al_0 dX9_takesNumber_9 ?_
      refine R_iconst (v := 0) dX9_takesNumber_10 (by decide) ?_
      refine R_putfi dX9_takesNumber_11 fl_RX9_71 rfl (Or.inl rfl) sh_116 (Nat.le_of_ble_eq_true rfl) rfl rfl ?_
      refine R_iconst (v := 0) dX9_takesNumber_14 (by decide) ?_
      refine is_1 dX9_takesNumber_15 rfl ?_
      refine il_1 dX9_takesNumber_16 ?_
      refine R_iconst (v := 2) dX9_takesNumber_17 (by decide) ?_
      refine R_icmp_ge (tgt := 63) dX9_takesNumber_18 (by decide) (fun q => absurd q (by decide)) (fun _ => ?_)
      refine al_0 dX9_takesNumber_21 ?_
      refine cv_0 dX9_takesNumber_22 mm_RX9_326 sh_116 (Nat.le_of_ble_eq_true rfl) ⟨_, rfl, rfl⟩ (Nat.le_of_ble_eq_true rfl) (Nat.le_of_ble_eq_true rfl) (M_isDigit htx1 hat1 hpL (fun _ => ?_) (fun q => absurd d1 q))
      refine R_if_eq (tgt := 63) dX9_takesNumber_25 (by decide) (fun q => absurd q (by decide)) (fun _ => ?_)
      refine al_0 dX9_takesNumber_28 ?_
      refine R_bipush (v := 10) dX9_takesNumber_29 (by decide) ?_
      refine al_0 dX9_takesNumber_31 ?_
      refine R_getfi dX9_takesNumber_32 fl_RX9_71 rfl sh_116 (Nat.le_of_ble_eq_true rfl) ?_
      refine R_imul dX9_takesNumber_35 ?_
      refine al_0 dX9_takesNumber_36 ?_
      refine cv_0 dX9_takesNumber_37 mm_RX9_319 sh_116 (Nat.le_of_ble_eq_true rfl) ⟨_, rfl, rfl⟩ (Nat.le_of_ble_eq_true rfl) (Nat.le_of_ble_eq_true rfl) (M_next htx1 hat1 hpL (nmr (fun nx0 hnx0 => ?_)))
      refine R_iadd dX9_takesNumber_40 ?_
      refine R_bipush (v := 48) dX9_takesNumber_41 (by decide) ?_
      refine R_isub dX9_takesNumber_43 ?_
      refine R_putfi dX9_takesNumber_44 fl_RX9_71 rfl (Or.inl rfl) sh_116 (Nat.le_of_ble_eq_true rfl) rfl rfl ?_
      refine al_0 dX9_takesNumber_47 ?_
      refine R_dup dX9_takesNumber_48 rfl ?_
      refine R_getfi dX9_takesNumber_49 fl_RX9_68 rfl sh_116 (Nat.le_of_ble_eq_true rfl) ?_
      refine R_iconst (v := 1) dX9_takesNumber_52 (by decide) ?_
      refine R_iadd dX9_takesNumber_53 ?_
      refine R_putfi dX9_takesNumber_54 fl_RX9_68 rfl (Or.inl rfl) sh_116 (Nat.le_of_ble_eq_true rfl) rfl rfl ?_
      rw [show rn_u (rn_u mi 116 20 0) 116 20 (10 * rn_u mi 116 20 0 116 20 + nx0 - 48) = rn_u mi 116 20 (nI (T p - 48)) by rw [rn_u_u, rn_u_eq, hdg nx0 hnx0]]
      rw [show rn_u mi 116 20 (nI (T p - 48)) 116 19 + 1 = nI (p + 1) by rw [show rn_u mi 116 20 (nI (T p - 48)) 116 19 = nI p from hat]; exact sm_add p 1]
      refine ii_1 (v := 1) dX9_takesNumber_57 rfl (by decide) ?_
      refine R_goto (tgt := 16) dX9_takesNumber_60 (by decide) ?_
      refine il_1 dX9_takesNumber_16 ?_
      refine R_iconst (v := 2) dX9_takesNumber_17 (by decide) ?_
      refine R_icmp_ge (tgt := 63) dX9_takesNumber_18 (by decide) (fun q => absurd q (by decide)) (fun _ => ?_)
      refine al_0 dX9_takesNumber_21 ?_
      refine cv_0 dX9_takesNumber_22 mm_RX9_326 sh_116 (Nat.le_of_ble_eq_true rfl) ⟨_, rfl, rfl⟩ (Nat.le_of_ble_eq_true rfl) (Nat.le_of_ble_eq_true rfl) (M_isDigit htx2 hat2 (show p + 1 ≤ L by omega) (fun q => absurd q d2) (fun _ => ?_))
      refine R_if_eq (tgt := 63) dX9_takesNumber_25 (by decide) (fun _ => ?_) (fun q => absurd q (by decide))
      refine R_iconst (v := 1) dX9_takesNumber_63 (by decide) ?_
      refine R_ireturn dX9_takesNumber_64 ⟨_, rfl, rfl⟩ ?_
      exact h1 _ _ _ hnum (fr _ _).1 (fr _ _).2.1 (fr _ _).2.2.1 (fr _ _).2.2.2
  · have hnum := numR_0 d1
    refine al_0 dX9_takesNumber_0 ?_
    refine cv_0 dX9_takesNumber_1 mm_RX9_326 sh_116 (Nat.le_of_ble_eq_true rfl) ⟨_, rfl, rfl⟩ (Nat.le_of_ble_eq_true rfl) (Nat.le_of_ble_eq_true rfl) (M_isDigit htx hat hpL (fun q => absurd q d1) (fun _ => ?_))
    refine R_if_ne (tgt := 9) dX9_takesNumber_4 (by decide) (fun q => absurd q (by decide)) (fun _ => ?_)
    refine R_iconst (v := 0) dX9_takesNumber_7 (by decide) ?_
    refine R_ireturn dX9_takesNumber_8 ⟨_, rfl, rfl⟩ ?_
    exact h0 hnum

set_option maxHeartbeats 4000000 in
theorem M_emits {G : rn_G} {d : Nat} {κ : Nat × Nat} {Q : Option Value → rn_S → Prop} {mi : Nat → Nat → Int32} {ml : Nat → Nat → Int64} {D : Nat → Nat} {s : Nat} {x : Int32} (hs : mi 116 29 = nI s) (hs6 : s < 600) (h : Q none (rn_u (rn_u mi 130 s x) 116 29 (nI (s + 1)), ml, RF D, 164)) : Call G (d) M_X9_emits [.ref 116, .int x] (mi, ml, RF D, 164) κ Q := by
  show Run G _ M_X9_emits 0 [.ref 116, .int x] [] _ _ _
  refine al_0 dX9_emits_0 ?_
  refine R_getfr (r := 130) dX9_emits_1 fl_RX9_92 rfl sh_116 (Nat.le_of_ble_eq_true rfl) rf_116_27 ?_
  refine al_0 dX9_emits_4 ?_
  refine R_getfi dX9_emits_5 fl_RX9_98 rfl sh_116 (Nat.le_of_ble_eq_true rfl) ?_
  refine il_1 dX9_emits_8 ?_
  refine R_iast dX9_emits_9 sh_130 (Nat.le_of_ble_eq_true rfl) (rn_ixe hs) hs6 ?_
  refine al_0 dX9_emits_10 ?_
  refine R_dup dX9_emits_11 rfl ?_
  refine R_getfi dX9_emits_12 fl_RX9_98 rfl sh_116 (Nat.le_of_ble_eq_true rfl) ?_
  refine R_iconst (v := 1) dX9_emits_15 (by decide) ?_
  refine R_iadd dX9_emits_16 ?_
  refine R_putfi dX9_emits_17 fl_RX9_98 rfl (Or.inl rfl) sh_116 (Nat.le_of_ble_eq_true rfl) rfl rfl ?_
  refine R_return dX9_emits_20 rfl ?_
  rw [rn_u_ne (show 116 ≠ 130 by decide), show mi 116 29 + 1 = nI (s + 1) by rw [hs]; exact sm_add s 1]
  exact h

/-- so far read: sign p, these tokens from sign B on, these waiting (the newest first), so many not yet closed -/
def SY (m0 m : Nat → Nat → Int32) (c0 B p : Nat) (ts : List TK) (s : List Nat) (o : Nat) : Prop :=
  (∀ a, a ≠ 116 → a ≠ 129 → a ≠ 130 → a ≠ 131 → m a = m0 a) ∧ (∀ j, j ≠ c0 → m 129 j = m0 129 j) ∧ (∀ j, j < B → m 130 j = m0 130 j) ∧ (∀ f, (f < 19 ∨ (20 < f ∧ f < 29) ∨ 31 < f) → m 116 f = m0 116 f) ∧ m 116 19 = nI p ∧ m 116 29 = nI (B + ts.length) ∧ m 116 30 = nI s.length ∧ m 116 31 = nI o ∧ (∀ j t, ts[j]? = some t → m 130 (B + j) = tM t) ∧ (∀ j c, s[j]? = some c → m 131 (s.length - 1 - j) = nI c)
/-- where it went wrong -/
def SF (m0 m : Nat → Nat → Int32) (c0 B p : Nat) : Prop :=
  (∀ a, a ≠ 116 → a ≠ 129 → a ≠ 130 → a ≠ 131 → m a = m0 a) ∧ (∀ j, j ≠ c0 → m 129 j = m0 129 j) ∧ (∀ j, j < B → m 130 j = m0 130 j) ∧ (∀ f, (f < 19 ∨ (20 < f ∧ f < 29) ∨ 31 < f) → m 116 f = m0 116 f) ∧ m 116 19 = nI p
theorem SY.f {m0 m : Nat → Nat → Int32} {c0 B p o : Nat} {ts : List TK} {s : List Nat} (h : SY m0 m c0 B p ts s o) : SF m0 m c0 B p := ⟨h.1, h.2.1, h.2.2.1, h.2.2.2.1, h.2.2.2.2.1⟩
theorem SF.tx {m0 m : Nat → Nat → Int32} {c0 B p L : Nat} {T : Nat → Nat} (h : SF m0 m c0 B p) (ht : TXM T L m0) : TXM T L m := by
  refine ⟨ht.1, by rw [h.2.2.2.1 18 (by omega)]; exact ht.2.1, fun j hj => ?_⟩
  rw [h.1 124 (by decide) (by decide) (by decide) (by decide)]
  exact ht.2.2 j hj
theorem SY.num {m0 m M : Nat → Nat → Int32} {c0 B p q o : Nat} {ts : List TK} {s : List Nat} (h : SY m0 m c0 B p ts s o) (ha : ∀ a, a ≠ 116 → M a = m a) (hf : ∀ f, f ≠ 19 → f ≠ 20 → M 116 f = m 116 f) (h19 : M 116 19 = nI q) : SY m0 M c0 B q ts s o := by
  obtain ⟨a1, a2, a3, a4, a5, a6, a7, a8, a9, a10⟩ := h
  exact ⟨fun a b1 b2 b3 b4 => by rw [ha a b1]; exact a1 a b1 b2 b3 b4, fun j hj => by rw [ha 129 (by decide)]; exact a2 j hj, fun j hj => by rw [ha 130 (by decide)]; exact a3 j hj, fun f f1 => by rw [hf f (by omega) (by omega)]; exact a4 f f1, h19, by rw [hf 29 (by decide) (by decide)]; exact a6, by rw [hf 30 (by decide) (by decide)]; exact a7, by rw [hf 31 (by decide) (by decide)]; exact a8, by rw [ha 130 (by decide)]; exact a9, by rw [ha 131 (by decide)]; exact a10⟩
theorem SY.at {m0 m : Nat → Nat → Int32} {c0 B p q o : Nat} {ts : List TK} {s : List Nat} (h : SY m0 m c0 B p ts s o) : SY m0 (rn_u m 116 19 (nI q)) c0 B q ts s o := h.num (fun a ha => rn_u_ne ha) (fun f h1 _ => by simp [rn_u, h1]) rn_u_eq
theorem SY.opn {m0 m : Nat → Nat → Int32} {c0 B p o n : Nat} {ts : List TK} {s : List Nat} (h : SY m0 m c0 B p ts s o) : SY m0 (rn_u m 116 31 (nI n)) c0 B p ts s n := by
  obtain ⟨a1, a2, a3, a4, a5, a6, a7, a8, a9, a10⟩ := h
  have ha : ∀ a, a ≠ 116 → rn_u m 116 31 (nI n) a = m a := fun a h => rn_u_ne h
  have hf : ∀ f, f ≠ 31 → rn_u m 116 31 (nI n) 116 f = m 116 f := fun f h => by simp [rn_u, h]
  exact ⟨fun a b1 b2 b3 b4 => by rw [ha a b1]; exact a1 a b1 b2 b3 b4, fun j hj => by rw [ha 129 (by decide)]; exact a2 j hj, fun j hj => by rw [ha 130 (by decide)]; exact a3 j hj, fun f f1 => by rw [hf f (by omega)]; exact a4 f f1, by rw [hf 19 (by decide)]; exact a5, by rw [hf 29 (by decide)]; exact a6, by rw [hf 30 (by decide)]; exact a7, rn_u_eq, by rw [ha 130 (by decide)]; exact a9, by rw [ha 131 (by decide)]; exact a10⟩
theorem SY.emit {m0 m : Nat → Nat → Int32} {c0 B p o : Nat} {ts : List TK} {s : List Nat} {t : TK} (h : SY m0 m c0 B p ts s o) : SY m0 (rn_u (rn_u m 130 (B + ts.length) (tM t)) 116 29 (nI (B + ts.length + 1))) c0 B p (ts ++ [t]) s o := by
  obtain ⟨a1, a2, a3, a4, a5, a6, a7, a8, a9, a10⟩ := h
  have ha : ∀ a, a ≠ 116 → a ≠ 130 → rn_u (rn_u m 130 (B + ts.length) (tM t)) 116 29 (nI (B + ts.length + 1)) a = m a := fun a h g => by rw [rn_u_ne h, rn_u_ne g]
  have hf : ∀ f, f ≠ 29 → rn_u (rn_u m 130 (B + ts.length) (tM t)) 116 29 (nI (B + ts.length + 1)) 116 f = m 116 f := fun f h => by simp [rn_u, h]
  have h130 : ∀ j, rn_u (rn_u m 130 (B + ts.length) (tM t)) 116 29 (nI (B + ts.length + 1)) 130 j = if j = B + ts.length then tM t else m 130 j := fun j => by rw [rn_u_ne (by decide), rn_u_at]
  refine ⟨fun a b1 b2 b3 b4 => by rw [ha a b1 b3]; exact a1 a b1 b2 b3 b4, fun j hj => by rw [ha 129 (by decide) (by decide)]; exact a2 j hj, fun j hj => by rw [h130, if_neg (by omega)]; exact a3 j hj, fun f f1 => by rw [hf f (by omega)]; exact a4 f f1, by rw [hf 19 (by decide)]; exact a5, ?_, by rw [hf 30 (by decide)]; exact a7, by rw [hf 31 (by decide)]; exact a8, fun j v hj => ?_, by rw [ha 131 (by decide) (by decide)]; exact a10⟩
  · rw [List.length_append]; exact rn_u_eq
  · rw [h130]
    rcases Nat.lt_trichotomy j ts.length with q | q | q
    · rw [List.getElem?_append_left q] at hj
      rw [if_neg (by omega)]; exact a9 j v hj
    · subst q
      rw [List.getElem?_append_right (Nat.le_refl _), Nat.sub_self] at hj
      obtain rfl := Option.some.inj hj
      exact if_pos rfl
    · rw [List.getElem?_eq_none (by rw [List.length_append, List.length_cons, List.length_nil]; omega)] at hj
      exact absurd hj (by simp)
theorem SY.push {m0 m : Nat → Nat → Int32} {c0 B p o c : Nat} {ts : List TK} {s : List Nat} (h : SY m0 m c0 B p ts s o) : SY m0 (rn_u (rn_u m 131 s.length (nI c)) 116 30 (nI (s.length + 1))) c0 B p ts (c :: s) o := by
  obtain ⟨a1, a2, a3, a4, a5, a6, a7, a8, a9, a10⟩ := h
  have ha : ∀ a, a ≠ 116 → a ≠ 131 → rn_u (rn_u m 131 s.length (nI c)) 116 30 (nI (s.length + 1)) a = m a := fun a h g => by rw [rn_u_ne h, rn_u_ne g]
  have hf : ∀ f, f ≠ 30 → rn_u (rn_u m 131 s.length (nI c)) 116 30 (nI (s.length + 1)) 116 f = m 116 f := fun f h => by simp [rn_u, h]
  have h131 : ∀ j, rn_u (rn_u m 131 s.length (nI c)) 116 30 (nI (s.length + 1)) 131 j = if j = s.length then nI c else m 131 j := fun j => by rw [rn_u_ne (by decide), rn_u_at]
  refine ⟨fun a b1 b2 b3 b4 => by rw [ha a b1 b4]; exact a1 a b1 b2 b3 b4, fun j hj => by rw [ha 129 (by decide) (by decide)]; exact a2 j hj, fun j hj => by rw [ha 130 (by decide) (by decide)]; exact a3 j hj, fun f f1 => by rw [hf f (by omega)]; exact a4 f f1, by rw [hf 19 (by decide)]; exact a5, by rw [hf 29 (by decide)]; exact a6, ?_, by rw [hf 31 (by decide)]; exact a8, by rw [ha 130 (by decide) (by decide)]; exact a9, fun j v hj => ?_⟩
  · rw [List.length_cons]; exact rn_u_eq
  · rw [h131, List.length_cons]
    cases j with
    | zero =>
      obtain rfl := Option.some.inj hj
      exact if_pos (by omega)
    | succ j =>
      have hj2 : s[j]? = some v := hj
      have hlt := (List.getElem?_eq_some_iff.mp hj2).1
      rw [if_neg (by omega), show s.length + 1 - 1 - (j + 1) = s.length - 1 - j by omega]
      exact a10 j v hj2
theorem SY.pop {m0 m : Nat → Nat → Int32} {c0 B p o c : Nat} {ts : List TK} {s : List Nat} (h : SY m0 m c0 B p ts (c :: s) o) : SY m0 (rn_u m 116 30 (nI s.length)) c0 B p ts s o := by
  obtain ⟨a1, a2, a3, a4, a5, a6, a7, a8, a9, a10⟩ := h
  have ha : ∀ a, a ≠ 116 → rn_u m 116 30 (nI s.length) a = m a := fun a h => rn_u_ne h
  have hf : ∀ f, f ≠ 30 → rn_u m 116 30 (nI s.length) 116 f = m 116 f := fun f h => by simp [rn_u, h]
  refine ⟨fun a b1 b2 b3 b4 => by rw [ha a b1]; exact a1 a b1 b2 b3 b4, fun j hj => by rw [ha 129 (by decide)]; exact a2 j hj, fun j hj => by rw [ha 130 (by decide)]; exact a3 j hj, fun f f1 => by rw [hf f (by omega)]; exact a4 f f1, by rw [hf 19 (by decide)]; exact a5, by rw [hf 29 (by decide)]; exact a6, rn_u_eq, by rw [hf 31 (by decide)]; exact a8, by rw [ha 130 (by decide)]; exact a9, fun j v hj => ?_⟩
  rw [ha 131 (by decide)]
  have q := a10 (j + 1) v hj
  have hlt := (List.getElem?_eq_some_iff.mp hj).1
  rw [List.length_cons, show s.length + 1 - 1 - (j + 1) = s.length - 1 - j by omega] at q
  exact q
theorem SY.to {m0 m : Nat → Nat → Int32} {c0 B p o : Nat} {v : Int32} {ts : List TK} {s : List Nat} (h : SY m0 m c0 B p ts s o) : SY m0 (rn_u m 129 c0 v) c0 B p ts s o := by
  obtain ⟨a1, a2, a3, a4, a5, a6, a7, a8, a9, a10⟩ := h
  have ha : ∀ a, a ≠ 129 → rn_u m 129 c0 v a = m a := fun a h => rn_u_ne h
  exact ⟨fun a b1 b2 b3 b4 => by rw [ha a b2]; exact a1 a b1 b2 b3 b4, fun j hj => by rw [rn_u_at]; dsimp only; rw [if_neg hj]; exact a2 j hj, fun j hj => by rw [ha 130 (by decide)]; exact a3 j hj, fun f f1 => by rw [ha 116 (by decide)]; exact a4 f f1, by rw [ha 116 (by decide)]; exact a5, by rw [ha 116 (by decide)]; exact a6, by rw [ha 116 (by decide)]; exact a7, by rw [ha 116 (by decide)]; exact a8, by rw [ha 130 (by decide)]; exact a9, by rw [ha 131 (by decide)]; exact a10⟩
theorem SY.top {m0 m : Nat → Nat → Int32} {c0 B p o c : Nat} {ts : List TK} {s : List Nat} (h : SY m0 m c0 B p ts (c :: s) o) : m 116 30 - 1 = nI s.length ∧ m 131 s.length = nI c := by
  obtain ⟨a1, a2, a3, a4, a5, a6, a7, a8, a9, a10⟩ := h
  refine ⟨by rw [a7]; exact sm_sub (a := s.length + 1) (b := 1) (by omega), ?_⟩
  have q := a10 0 c rfl
  rw [List.length_cons] at q
  exact q

set_option maxHeartbeats 4000000 in
theorem L_whole {G : rn_G} {d : Nat} {κ : Nat × Nat} {Q : Option Value → rn_S → Prop} {ml : Nat → Nat → Int64} {D : Nat → Nat} {m0 : Nat → Nat → Int32} {c0 B p : Nat} {s0 : List Nat} (hs0 : s0.head? ≠ some 33) (hb : ∀ c ∈ s0, c < 128) : ∀ (k o : Nat) (ts : List TK) (mi : Nat → Nat → Int32), SY m0 mi c0 B p ts (List.replicate k 33 ++ s0) (o + k) → B + ts.length + k + s0.length ≤ 600 → k + s0.length ≤ 101 → (∀ m, SY m0 m c0 B p (ts ++ List.replicate k (0, 0, 0, 0)) s0 o → Q none (m, ml, RF D, 164)) → Run G (d + 1) M_X9_whole 0 [.ref 116] [] (mi, ml, RF D, 164) κ Q := by
  intro k
  induction k with
  | zero =>
    intro o ts mi hsy hsz hs1 h
    have hsy : SY m0 mi c0 B p ts s0 o := hsy
    have hq := h mi (by rw [List.replicate_zero, List.append_nil]; exact hsy)
    cases s0 with
    | nil =>
      have e30 : mi 116 30 = 0 := hsy.2.2.2.2.2.2.1
      refine al_0 dX9_whole_0 ?_
      refine R_getfi dX9_whole_1 fl_RX9_101 rfl sh_116 (Nat.le_of_ble_eq_true rfl) ?_
      refine R_if_le (tgt := 52) dX9_whole_4 (by decide) (fun c4 => ?_) (fun q => absurd q (not_not_intro (by rw [e30]; exact Int32.le_refl _)))
      refine R_return dX9_whole_52 rfl ?_
      exact hq
    | cons c s =>
      obtain ⟨e1, e2⟩ := hsy.top
      rw [List.length_cons] at hs1
      have e30 : 0 < mi 116 30 := by rw [hsy.2.2.2.2.2.2.1]; exact (sm_lt_iff (a := 0) (by decide) (by rw [List.length_cons]; omega)).mpr (Nat.succ_pos _)
      have hc : ¬ nI c = 33 := fun q => hs0 (by rw [sm_inj (b := 33) (by have := hb c List.mem_cons_self; omega) (by decide) q]; rfl)
      refine al_0 dX9_whole_0 ?_
      refine R_getfi dX9_whole_1 fl_RX9_101 rfl sh_116 (Nat.le_of_ble_eq_true rfl) ?_
      refine R_if_le (tgt := 52) dX9_whole_4 (by decide) (fun q => absurd q (Int32.not_le.mpr e30)) (fun c4 => ?_)
      refine al_0 dX9_whole_7 ?_
      refine R_getfr (r := 131) dX9_whole_8 fl_RX9_95 rfl sh_116 (Nat.le_of_ble_eq_true rfl) rf_116_28 ?_
      refine al_0 dX9_whole_11 ?_
      refine R_getfi dX9_whole_12 fl_RX9_101 rfl sh_116 (Nat.le_of_ble_eq_true rfl) ?_
      refine R_iconst (v := 1) dX9_whole_15 (by decide) ?_
      refine R_isub dX9_whole_16 ?_
      refine R_iald dX9_whole_17 sh_131 (Nat.le_of_ble_eq_true rfl) (rn_ixe e1) (show s.length < 101 by omega) ?_
      refine R_bipush (v := 33) dX9_whole_18 (by decide) ?_
      refine R_icmp_ne (tgt := 52) dX9_whole_20 (by decide) (fun c20 => ?_) (fun q => absurd q (by rw [e2]; exact hc))
      refine R_return dX9_whole_52 rfl ?_
      exact hq
  | succ k ih =>
    intro o ts mi hsy hsz hs1 h
    rw [List.replicate_succ, List.cons_append] at hsy
    obtain ⟨e1, e2⟩ := hsy.top
    have hll : (List.replicate k 33 ++ s0 : List Nat).length = k + s0.length := by rw [List.length_append, List.length_replicate]
    have e30 : 0 < mi 116 30 := by rw [hsy.2.2.2.2.2.2.1]; exact (sm_lt_iff (a := 0) (by decide) (by rw [List.length_cons, hll]; omega)).mpr (Nat.succ_pos _)
    refine al_0 dX9_whole_0 ?_
    refine R_getfi dX9_whole_1 fl_RX9_101 rfl sh_116 (Nat.le_of_ble_eq_true rfl) ?_
    refine R_if_le (tgt := 52) dX9_whole_4 (by decide) (fun q => absurd q (Int32.not_le.mpr e30)) (fun c4 => ?_)
    refine al_0 dX9_whole_7 ?_
    refine R_getfr (r := 131) dX9_whole_8 fl_RX9_95 rfl sh_116 (Nat.le_of_ble_eq_true rfl) rf_116_28 ?_
    refine al_0 dX9_whole_11 ?_
    refine R_getfi dX9_whole_12 fl_RX9_101 rfl sh_116 (Nat.le_of_ble_eq_true rfl) ?_
    refine R_iconst (v := 1) dX9_whole_15 (by decide) ?_
    refine R_isub dX9_whole_16 ?_
    refine R_iald dX9_whole_17 sh_131 (Nat.le_of_ble_eq_true rfl) (rn_ixe e1) (show _ < 101 by rw [hll]; omega) ?_
    refine R_bipush (v := 33) dX9_whole_18 (by decide) ?_
    refine R_icmp_ne (tgt := 52) dX9_whole_20 (by decide) (fun q => absurd q (not_not_intro e2)) (fun c20 => ?_)
    refine al_0 dX9_whole_23 ?_
    refine R_bipush (v := -33) dX9_whole_24 (by decide) ?_
    refine cv_1 dX9_whole_26 mm_RX9_330 sh_116 (Nat.le_of_ble_eq_true rfl) ⟨_, rfl, rfl⟩ (Nat.le_of_ble_eq_true rfl) (Nat.le_of_ble_eq_true rfl) (M_emits hsy.2.2.2.2.2.1 (by omega) ?_)
    have e1_ := hsy.emit (t := ((0, 0, 0, 0) : TK))
    rw [show tM (0, 0, 0, 0) = -33 from rfl] at e1_
    refine al_0 dX9_whole_29 ?_
    refine R_dup dX9_whole_30 rfl ?_
    refine R_getfi dX9_whole_31 fl_RX9_101 rfl sh_116 (Nat.le_of_ble_eq_true rfl) ?_
    refine R_iconst (v := 1) dX9_whole_34 (by decide) ?_
    refine R_isub dX9_whole_35 ?_
    refine R_putfi dX9_whole_36 fl_RX9_101 rfl (Or.inl rfl) sh_116 (Nat.le_of_ble_eq_true rfl) rfl rfl ?_
    rw [show rn_u (rn_u mi 130 (B + ts.length) (-33)) 116 29 (nI (B + ts.length + 1)) 116 30 - 1 = nI (List.replicate k 33 ++ s0 : List Nat).length by rw [show rn_u (rn_u mi 130 (B + ts.length) (-33)) 116 29 (nI (B + ts.length + 1)) 116 30 = mi 116 30 from rfl]; exact e1]
    have p1 := e1_.pop
    refine al_0 dX9_whole_39 ?_
    refine R_dup dX9_whole_40 rfl ?_
    refine R_getfi dX9_whole_41 fl_RX9_104 rfl sh_116 (Nat.le_of_ble_eq_true rfl) ?_
    refine R_iconst (v := 1) dX9_whole_44 (by decide) ?_
    refine R_isub dX9_whole_45 ?_
    refine R_putfi dX9_whole_46 fl_RX9_104 rfl (Or.inl rfl) sh_116 (Nat.le_of_ble_eq_true rfl) rfl rfl ?_
    refine R_goto (tgt := 0) dX9_whole_49 (by decide) ?_
    have p2 := p1.opn (n := o + k)
    rw [show rn_u (rn_u (rn_u mi 130 (B + ts.length) (-33)) 116 29 (nI (B + ts.length + 1))) 116 30 (nI (List.replicate k 33 ++ s0 : List Nat).length) 116 31 - 1 = nI (o + k) by rw [show rn_u (rn_u (rn_u mi 130 (B + ts.length) (-33)) 116 29 (nI (B + ts.length + 1))) 116 30 (nI (List.replicate k 33 ++ s0 : List Nat).length) 116 31 = nI (o + (k + 1)) from hsy.2.2.2.2.2.2.2.1]; exact sm_sub (a := o + (k + 1)) (b := 1) (by omega)]
    refine ih o (ts ++ [(0, 0, 0, 0)]) _ p2 (by rw [List.length_append]; show _ + (_ + (0 + 1)) + _ + _ ≤ _; omega) (by omega) (fun m hm => ?_)
    rw [List.append_assoc] at hm
    exact h m hm

theorem M_whole {G : rn_G} {d : Nat} {κ : Nat × Nat} {Q : Option Value → rn_S → Prop} {ml : Nat → Nat → Int64} {D : Nat → Nat} {m0 : Nat → Nat → Int32} {c0 B p : Nat} {s0 : List Nat} {k o : Nat} {ts : List TK} {mi : Nat → Nat → Int32} (hs0 : s0.head? ≠ some 33) (hb : ∀ c ∈ s0, c < 128) (hsy : SY m0 mi c0 B p ts (List.replicate k 33 ++ s0) (o + k)) (hsz : B + ts.length + k + s0.length ≤ 600) (hs1 : k + s0.length ≤ 101) (h : ∀ m, SY m0 m c0 B p (ts ++ List.replicate k (0, 0, 0, 0)) s0 o → Q none (m, ml, RF D, 164)) : Call G (d + 1) M_X9_whole [.ref 116] (mi, ml, RF D, 164) κ Q := L_whole hs0 hb k o ts mi hsy hsz hs1 h

/-- what an operator that waits is told as -/
def opT (c : Nat) : TK := if c = 38 then (1, 0, 0, 0) else (2, 0, 0, 0)
theorem opT_m {c : Nat} (h : c = 38 ∨ c = 124) : tM (opT c) = -nI c := by rcases h with rfl | rfl <;> rfl
set_option maxHeartbeats 4000000 in
theorem L_settle {G : rn_G} {d : Nat} {κ : Nat × Nat} {Q : Option Value → rn_S → Prop} {ml : Nat → Nat → Int64} {D : Nat → Nat} {m0 : Nat → Nat → Int32} {c0 B p : Nat} {x : Int32} {s0 : List Nat} {o : Nat} (hb : ∀ c ∈ s0, c < 128) (hs0 : s0.head? ≠ some 38) (hs1 : s0.head? = some 124 → x = 38) : ∀ (ops : List Nat) (ts : List TK) (mi : Nat → Nat → Int32), (∀ c ∈ ops, c = 38 ∨ (c = 124 ∧ ¬ x = 38)) → SY m0 mi c0 B p ts (ops ++ s0) o → B + ts.length + ops.length + s0.length ≤ 600 → ops.length + s0.length ≤ 101 → (∀ m, SY m0 m c0 B p (ts ++ ops.map opT) s0 o → Q none (m, ml, RF D, 164)) → Run G (d + 1) M_X9_settle 0 [.ref 116, .int x] [] (mi, ml, RF D, 164) κ Q := by
  intro ops
  induction ops with
  | nil =>
    intro ts mi hops hsy hsz hz1 h
    have hsy : SY m0 mi c0 B p ts s0 o := hsy
    have hq := h mi (by rw [List.map_nil, List.append_nil]; exact hsy)
    cases s0 with
    | nil =>
      have e30 : mi 116 30 = 0 := hsy.2.2.2.2.2.2.1
      refine al_0 dX9_settle_0 ?_
      refine R_getfi dX9_settle_1 fl_RX9_101 rfl sh_116 (Nat.le_of_ble_eq_true rfl) ?_
      refine R_if_le (tgt := 72) dX9_settle_4 (by decide) (fun c4 => ?_) (fun q => absurd q (not_not_intro (by rw [e30]; exact Int32.le_refl _)))
      refine R_return dX9_settle_72 rfl ?_
      exact hq
    | cons c s =>
      obtain ⟨e1, e2⟩ := hsy.top
      rw [List.length_cons] at hz1
      have hc128 := hb c List.mem_cons_self
      have e30 : 0 < mi 116 30 := by rw [hsy.2.2.2.2.2.2.1]; exact (sm_lt_iff (a := 0) (by decide) (by rw [List.length_cons]; omega)).mpr (Nat.succ_pos _)
      have hc : ¬ nI c = 38 := fun q => hs0 (by rw [sm_inj (b := 38) (by omega) (by decide) q]; rfl)
      have hc2 : nI c = 124 → x = 38 := fun q => hs1 (by rw [sm_inj (b := 124) (by omega) (by decide) q]; rfl)
      refine al_0 dX9_settle_0 ?_
      refine R_getfi dX9_settle_1 fl_RX9_101 rfl sh_116 (Nat.le_of_ble_eq_true rfl) ?_
      refine R_if_le (tgt := 72) dX9_settle_4 (by decide) (fun q => absurd q (Int32.not_le.mpr e30)) (fun c4 => ?_)
      refine al_0 dX9_settle_7 ?_
      refine R_getfr (r := 131) dX9_settle_8 fl_RX9_95 rfl sh_116 (Nat.le_of_ble_eq_true rfl) rf_116_28 ?_
      refine al_0 dX9_settle_11 ?_
      refine R_getfi dX9_settle_12 fl_RX9_101 rfl sh_116 (Nat.le_of_ble_eq_true rfl) ?_
      refine R_iconst (v := 1) dX9_settle_15 (by decide) ?_
      refine R_isub dX9_settle_16 ?_
      refine R_iald dX9_settle_17 sh_131 (Nat.le_of_ble_eq_true rfl) (rn_ixe e1) (show s.length < 101 by omega) ?_
      refine R_bipush (v := 38) dX9_settle_18 (by decide) ?_
      refine R_icmp_eq (tgt := 45) dX9_settle_20 (by decide) (fun q => absurd q (by rw [e2]; exact hc)) (fun c20 => ?_)
      refine al_0 dX9_settle_23 ?_
      refine R_getfr (r := 131) dX9_settle_24 fl_RX9_95 rfl sh_116 (Nat.le_of_ble_eq_true rfl) rf_116_28 ?_
      refine al_0 dX9_settle_27 ?_
      refine R_getfi dX9_settle_28 fl_RX9_101 rfl sh_116 (Nat.le_of_ble_eq_true rfl) ?_
      refine R_iconst (v := 1) dX9_settle_31 (by decide) ?_
      refine R_isub dX9_settle_32 ?_
      refine R_iald dX9_settle_33 sh_131 (Nat.le_of_ble_eq_true rfl) (rn_ixe e1) (show s.length < 101 by omega) ?_
      refine R_bipush (v := 124) dX9_settle_34 (by decide) ?_
      refine R_icmp_ne (tgt := 72) dX9_settle_36 (by decide) (fun c36 => ?_) (fun c36 => ?_)
      · refine R_return dX9_settle_72 rfl ?_
        exact hq
      · refine il_1 dX9_settle_39 ?_
        refine R_bipush (v := 38) dX9_settle_40 (by decide) ?_
        refine R_icmp_eq (tgt := 72) dX9_settle_42 (by decide) (fun c42 => ?_) (fun q => absurd q (not_not_intro (hc2 (by rw [← e2]; exact c36))))
        refine R_return dX9_settle_72 rfl ?_
        exact hq
  | cons c ops ih =>
    intro ts mi hops hsy hsz hz1 h
    rw [List.cons_append] at hsy
    rw [List.length_cons] at hsz hz1
    obtain ⟨e1, e2⟩ := hsy.top
    have hll : (ops ++ s0).length = ops.length + s0.length := List.length_append
    have hcc := hops c List.mem_cons_self
    have e30 : 0 < mi 116 30 := by rw [hsy.2.2.2.2.2.2.1]; exact (sm_lt_iff (a := 0) (by decide) (by rw [List.length_cons, hll]; omega)).mpr (Nat.succ_pos _)
    have hp := hsy.pop
    have e2b : rn_u mi 116 30 (nI (ops ++ s0).length) 131 (ops ++ s0).length = nI c := e2
    have e30b : rn_u mi 116 30 (nI (ops ++ s0).length) 116 30 = nI (ops ++ s0).length := rn_u_eq
    have em := opT_m (c := c) (by rcases hcc with e | e; exact Or.inl e; exact Or.inr e.1)
    have hrest : ∀ m, SY m0 m c0 B p (ts ++ [opT c]) (ops ++ s0) o → Run G (d + 1) M_X9_settle 0 [.ref 116, .int x] [] (m, ml, RF D, 164) κ Q := fun m hm => ih (ts ++ [opT c]) m (fun a ha => hops a (List.mem_cons_of_mem c ha)) hm (by rw [List.length_append]; show _ + (_ + (0 + 1)) + _ + _ ≤ _; omega) (by omega) (fun m' hm' => h m' (by rw [List.map_cons]; rw [List.append_assoc] at hm'; exact hm'))
    rcases hcc with hcc | ⟨hcc, hcx⟩
    · have c38 : mi 131 (ops ++ s0).length = 38 := by rw [e2, hcc]; rfl
      refine al_0 dX9_settle_0 ?_
      refine R_getfi dX9_settle_1 fl_RX9_101 rfl sh_116 (Nat.le_of_ble_eq_true rfl) ?_
      refine R_if_le (tgt := 72) dX9_settle_4 (by decide) (fun q => absurd q (Int32.not_le.mpr e30)) (fun c4 => ?_)
      refine al_0 dX9_settle_7 ?_
      refine R_getfr (r := 131) dX9_settle_8 fl_RX9_95 rfl sh_116 (Nat.le_of_ble_eq_true rfl) rf_116_28 ?_
      refine al_0 dX9_settle_11 ?_
      refine R_getfi dX9_settle_12 fl_RX9_101 rfl sh_116 (Nat.le_of_ble_eq_true rfl) ?_
      refine R_iconst (v := 1) dX9_settle_15 (by decide) ?_
      refine R_isub dX9_settle_16 ?_
      refine R_iald dX9_settle_17 sh_131 (Nat.le_of_ble_eq_true rfl) (rn_ixe e1) (show _ < 101 by rw [hll]; omega) ?_
      refine R_bipush (v := 38) dX9_settle_18 (by decide) ?_
      refine R_icmp_eq (tgt := 45) dX9_settle_20 (by decide) (fun c20 => ?_) (fun q => absurd q (not_not_intro c38))
      refine al_0 dX9_settle_45 ?_
      refine R_dup dX9_settle_46 rfl ?_
      refine R_getfi dX9_settle_47 fl_RX9_101 rfl sh_116 (Nat.le_of_ble_eq_true rfl) ?_
      refine R_iconst (v := 1) dX9_settle_50 (by decide) ?_
      refine R_isub dX9_settle_51 ?_
      refine R_putfi dX9_settle_52 fl_RX9_101 rfl (Or.inl rfl) sh_116 (Nat.le_of_ble_eq_true rfl) rfl rfl ?_
      rw [e1]
      refine al_0 dX9_settle_55 ?_
      refine al_0 dX9_settle_56 ?_
      refine R_getfr (r := 131) dX9_settle_57 fl_RX9_95 rfl sh_116 (Nat.le_of_ble_eq_true rfl) rf_116_28 ?_
      refine al_0 dX9_settle_60 ?_
      refine R_getfi dX9_settle_61 fl_RX9_101 rfl sh_116 (Nat.le_of_ble_eq_true rfl) ?_
      refine R_iald dX9_settle_64 sh_131 (Nat.le_of_ble_eq_true rfl) (rn_ixe e30b) (show _ < 101 by rw [hll]; omega) ?_
      refine R_ineg dX9_settle_65 ?_
      rw [e2b, ← em]
      refine cv_1 dX9_settle_66 mm_RX9_330 sh_116 (Nat.le_of_ble_eq_true rfl) ⟨_, rfl, rfl⟩ (Nat.le_of_ble_eq_true rfl) (Nat.le_of_ble_eq_true rfl) (M_emits (s := B + ts.length) (hp.2.2.2.2.2.1) (by omega) ?_)
      refine R_goto (tgt := 0) dX9_settle_69 (by decide) ?_
      exact hrest _ hp.emit
    · have c124 : mi 131 (ops ++ s0).length = 124 := by rw [e2, hcc]; rfl
      have n38 : ¬ mi 131 (ops ++ s0).length = 38 := by rw [c124]; decide
      refine al_0 dX9_settle_0 ?_
      refine R_getfi dX9_settle_1 fl_RX9_101 rfl sh_116 (Nat.le_of_ble_eq_true rfl) ?_
      refine R_if_le (tgt := 72) dX9_settle_4 (by decide) (fun q => absurd q (Int32.not_le.mpr e30)) (fun c4 => ?_)
      refine al_0 dX9_settle_7 ?_
      refine R_getfr (r := 131) dX9_settle_8 fl_RX9_95 rfl sh_116 (Nat.le_of_ble_eq_true rfl) rf_116_28 ?_
      refine al_0 dX9_settle_11 ?_
      refine R_getfi dX9_settle_12 fl_RX9_101 rfl sh_116 (Nat.le_of_ble_eq_true rfl) ?_
      refine R_iconst (v := 1) dX9_settle_15 (by decide) ?_
      refine R_isub dX9_settle_16 ?_
      refine R_iald dX9_settle_17 sh_131 (Nat.le_of_ble_eq_true rfl) (rn_ixe e1) (show _ < 101 by rw [hll]; omega) ?_
      refine R_bipush (v := 38) dX9_settle_18 (by decide) ?_
      refine R_icmp_eq (tgt := 45) dX9_settle_20 (by decide) (fun q => absurd q (n38)) (fun c20 => ?_)
      refine al_0 dX9_settle_23 ?_
      refine R_getfr (r := 131) dX9_settle_24 fl_RX9_95 rfl sh_116 (Nat.le_of_ble_eq_true rfl) rf_116_28 ?_
      refine al_0 dX9_settle_27 ?_
      refine R_getfi dX9_settle_28 fl_RX9_101 rfl sh_116 (Nat.le_of_ble_eq_true rfl) ?_
      refine R_iconst (v := 1) dX9_settle_31 (by decide) ?_
      refine R_isub dX9_settle_32 ?_
      refine R_iald dX9_settle_33 sh_131 (Nat.le_of_ble_eq_true rfl) (rn_ixe e1) (show _ < 101 by rw [hll]; omega) ?_
      refine R_bipush (v := 124) dX9_settle_34 (by decide) ?_
      refine R_icmp_ne (tgt := 72) dX9_settle_36 (by decide) (fun q => absurd q (not_not_intro c124)) (fun c36 => ?_)
      refine il_1 dX9_settle_39 ?_
      refine R_bipush (v := 38) dX9_settle_40 (by decide) ?_
      refine R_icmp_eq (tgt := 72) dX9_settle_42 (by decide) (fun q => absurd q (hcx)) (fun c42 => ?_)
      refine al_0 dX9_settle_45 ?_
      refine R_dup dX9_settle_46 rfl ?_
      refine R_getfi dX9_settle_47 fl_RX9_101 rfl sh_116 (Nat.le_of_ble_eq_true rfl) ?_
      refine R_iconst (v := 1) dX9_settle_50 (by decide) ?_
      refine R_isub dX9_settle_51 ?_
      refine R_putfi dX9_settle_52 fl_RX9_101 rfl (Or.inl rfl) sh_116 (Nat.le_of_ble_eq_true rfl) rfl rfl ?_
      rw [e1]
      refine al_0 dX9_settle_55 ?_
      refine al_0 dX9_settle_56 ?_
      refine R_getfr (r := 131) dX9_settle_57 fl_RX9_95 rfl sh_116 (Nat.le_of_ble_eq_true rfl) rf_116_28 ?_
      refine al_0 dX9_settle_60 ?_
      refine R_getfi dX9_settle_61 fl_RX9_101 rfl sh_116 (Nat.le_of_ble_eq_true rfl) ?_
      refine R_iald dX9_settle_64 sh_131 (Nat.le_of_ble_eq_true rfl) (rn_ixe e30b) (show _ < 101 by rw [hll]; omega) ?_
      refine R_ineg dX9_settle_65 ?_
      rw [e2b, ← em]
      refine cv_1 dX9_settle_66 mm_RX9_330 sh_116 (Nat.le_of_ble_eq_true rfl) ⟨_, rfl, rfl⟩ (Nat.le_of_ble_eq_true rfl) (Nat.le_of_ble_eq_true rfl) (M_emits (s := B + ts.length) (hp.2.2.2.2.2.1) (by omega) ?_)
      refine R_goto (tgt := 0) dX9_settle_69 (by decide) ?_
      exact hrest _ hp.emit

theorem M_settle {G : rn_G} {d : Nat} {κ : Nat × Nat} {Q : Option Value → rn_S → Prop} {ml : Nat → Nat → Int64} {D : Nat → Nat} {m0 : Nat → Nat → Int32} {c0 B p : Nat} {x : Int32} {s0 : List Nat} {o : Nat} {ops : List Nat} {ts : List TK} {mi : Nat → Nat → Int32} (hb : ∀ c ∈ s0, c < 128) (hs0 : s0.head? ≠ some 38) (hs1 : s0.head? = some 124 → x = 38) (hops : ∀ c ∈ ops, c = 38 ∨ (c = 124 ∧ ¬ x = 38)) (hsy : SY m0 mi c0 B p ts (ops ++ s0) o) (hsz : B + ts.length + ops.length + s0.length ≤ 600) (hz1 : ops.length + s0.length ≤ 101) (h : ∀ m, SY m0 m c0 B p (ts ++ ops.map opT) s0 o → Q none (m, ml, RF D, 164)) : Call G (d + 1) M_X9_settle [.ref 116, .int x] (mi, ml, RF D, 164) κ Q := L_settle hb hs0 hs1 ops ts mi hops hsy hsz hz1 h

def plJ (x : Int32) : Int32 := if x = 112 then 0 else if x = 107 then 1 else if x = 118 then 2 else if x = 119 then 3 else if x = 102 then 4 else if x = 109 then 5 else -1
theorem pl_let : ∀ t : Fin 128, plJ (nI t.1) = if letR t.1 = 6 then -1 else nI (letR t.1) := by decide +kernel
theorem plJ_nx {T : Nat → Nat} {L p : Nat} (ht : ∀ j, j < L → T j < 128) : plJ (nxI T L p) = if letR (nxT T L p) = 6 then -1 else nI (letR (nxT T L p)) := by
  unfold nxI nxT
  split
  · rename_i h
    exact pl_let ⟨T p, ht p h⟩
  · rfl

set_option maxHeartbeats 4000000 in
theorem M_place {G : rn_G} {d : Nat} {κ : Nat × Nat} {Q : Option Value → rn_S → Prop} {σ : rn_S} {x : Int32} (h : Q (some (.int (plJ x))) σ) : Call G (d) M_X9_place [.ref 116, .int x] σ κ Q := by
  show Run G _ M_X9_place 0 [.ref 116, .int x] [] _ _ _
  refine il_1 dX9_place_0 ?_
  by_cases w1_102 : x = 102
  · refine R_tswI (tgt := 96) dX9_place_1 102 w1_102 (by decide) (by decide) rfl (by decide) ?_
    refine R_iconst (v := 4) dX9_place_96 (by decide) ?_
    refine R_ireturn dX9_place_97 ⟨_, rfl, rfl⟩ ?_
    unfold plJ at h
    first
      | (rw [w1_102] at h; exact h)
      | (rw [w1_103] at h; exact h)
      | (rw [w1_104] at h; exact h)
      | (rw [w1_105] at h; exact h)
      | (rw [w1_106] at h; exact h)
      | (rw [w1_107] at h; exact h)
      | (rw [w1_108] at h; exact h)
      | (rw [w1_109] at h; exact h)
      | (rw [w1_110] at h; exact h)
      | (rw [w1_111] at h; exact h)
      | (rw [w1_112] at h; exact h)
      | (rw [w1_113] at h; exact h)
      | (rw [w1_114] at h; exact h)
      | (rw [w1_115] at h; exact h)
      | (rw [w1_116] at h; exact h)
      | (rw [w1_117] at h; exact h)
      | (rw [w1_118] at h; exact h)
      | (rw [w1_119] at h; exact h)
      | (rw [if_neg w1_112, if_neg w1_107, if_neg w1_118, if_neg w1_119, if_neg w1_102, if_neg w1_109] at h; exact h)
  by_cases w1_103 : x = 103
  · refine R_tswI (tgt := 100) dX9_place_1 103 w1_103 (by decide) (by decide) rfl (by decide) ?_
    refine R_iconst (v := -1) dX9_place_100 (by decide) ?_
    refine R_ireturn dX9_place_101 ⟨_, rfl, rfl⟩ ?_
    unfold plJ at h
    first
      | (rw [w1_102] at h; exact h)
      | (rw [w1_103] at h; exact h)
      | (rw [w1_104] at h; exact h)
      | (rw [w1_105] at h; exact h)
      | (rw [w1_106] at h; exact h)
      | (rw [w1_107] at h; exact h)
      | (rw [w1_108] at h; exact h)
      | (rw [w1_109] at h; exact h)
      | (rw [w1_110] at h; exact h)
      | (rw [w1_111] at h; exact h)
      | (rw [w1_112] at h; exact h)
      | (rw [w1_113] at h; exact h)
      | (rw [w1_114] at h; exact h)
      | (rw [w1_115] at h; exact h)
      | (rw [w1_116] at h; exact h)
      | (rw [w1_117] at h; exact h)
      | (rw [w1_118] at h; exact h)
      | (rw [w1_119] at h; exact h)
      | (rw [if_neg w1_112, if_neg w1_107, if_neg w1_118, if_neg w1_119, if_neg w1_102, if_neg w1_109] at h; exact h)
  by_cases w1_104 : x = 104
  · refine R_tswI (tgt := 100) dX9_place_1 104 w1_104 (by decide) (by decide) rfl (by decide) ?_
    refine R_iconst (v := -1) dX9_place_100 (by decide) ?_
    refine R_ireturn dX9_place_101 ⟨_, rfl, rfl⟩ ?_
    unfold plJ at h
    first
      | (rw [w1_102] at h; exact h)
      | (rw [w1_103] at h; exact h)
      | (rw [w1_104] at h; exact h)
      | (rw [w1_105] at h; exact h)
      | (rw [w1_106] at h; exact h)
      | (rw [w1_107] at h; exact h)
      | (rw [w1_108] at h; exact h)
      | (rw [w1_109] at h; exact h)
      | (rw [w1_110] at h; exact h)
      | (rw [w1_111] at h; exact h)
      | (rw [w1_112] at h; exact h)
      | (rw [w1_113] at h; exact h)
      | (rw [w1_114] at h; exact h)
      | (rw [w1_115] at h; exact h)
      | (rw [w1_116] at h; exact h)
      | (rw [w1_117] at h; exact h)
      | (rw [w1_118] at h; exact h)
      | (rw [w1_119] at h; exact h)
      | (rw [if_neg w1_112, if_neg w1_107, if_neg w1_118, if_neg w1_119, if_neg w1_102, if_neg w1_109] at h; exact h)
  by_cases w1_105 : x = 105
  · refine R_tswI (tgt := 100) dX9_place_1 105 w1_105 (by decide) (by decide) rfl (by decide) ?_
    refine R_iconst (v := -1) dX9_place_100 (by decide) ?_
    refine R_ireturn dX9_place_101 ⟨_, rfl, rfl⟩ ?_
    unfold plJ at h
    first
      | (rw [w1_102] at h; exact h)
      | (rw [w1_103] at h; exact h)
      | (rw [w1_104] at h; exact h)
      | (rw [w1_105] at h; exact h)
      | (rw [w1_106] at h; exact h)
      | (rw [w1_107] at h; exact h)
      | (rw [w1_108] at h; exact h)
      | (rw [w1_109] at h; exact h)
      | (rw [w1_110] at h; exact h)
      | (rw [w1_111] at h; exact h)
      | (rw [w1_112] at h; exact h)
      | (rw [w1_113] at h; exact h)
      | (rw [w1_114] at h; exact h)
      | (rw [w1_115] at h; exact h)
      | (rw [w1_116] at h; exact h)
      | (rw [w1_117] at h; exact h)
      | (rw [w1_118] at h; exact h)
      | (rw [w1_119] at h; exact h)
      | (rw [if_neg w1_112, if_neg w1_107, if_neg w1_118, if_neg w1_119, if_neg w1_102, if_neg w1_109] at h; exact h)
  by_cases w1_106 : x = 106
  · refine R_tswI (tgt := 100) dX9_place_1 106 w1_106 (by decide) (by decide) rfl (by decide) ?_
    refine R_iconst (v := -1) dX9_place_100 (by decide) ?_
    refine R_ireturn dX9_place_101 ⟨_, rfl, rfl⟩ ?_
    unfold plJ at h
    first
      | (rw [w1_102] at h; exact h)
      | (rw [w1_103] at h; exact h)
      | (rw [w1_104] at h; exact h)
      | (rw [w1_105] at h; exact h)
      | (rw [w1_106] at h; exact h)
      | (rw [w1_107] at h; exact h)
      | (rw [w1_108] at h; exact h)
      | (rw [w1_109] at h; exact h)
      | (rw [w1_110] at h; exact h)
      | (rw [w1_111] at h; exact h)
      | (rw [w1_112] at h; exact h)
      | (rw [w1_113] at h; exact h)
      | (rw [w1_114] at h; exact h)
      | (rw [w1_115] at h; exact h)
      | (rw [w1_116] at h; exact h)
      | (rw [w1_117] at h; exact h)
      | (rw [w1_118] at h; exact h)
      | (rw [w1_119] at h; exact h)
      | (rw [if_neg w1_112, if_neg w1_107, if_neg w1_118, if_neg w1_119, if_neg w1_102, if_neg w1_109] at h; exact h)
  by_cases w1_107 : x = 107
  · refine R_tswI (tgt := 90) dX9_place_1 107 w1_107 (by decide) (by decide) rfl (by decide) ?_
    refine R_iconst (v := 1) dX9_place_90 (by decide) ?_
    refine R_ireturn dX9_place_91 ⟨_, rfl, rfl⟩ ?_
    unfold plJ at h
    first
      | (rw [w1_102] at h; exact h)
      | (rw [w1_103] at h; exact h)
      | (rw [w1_104] at h; exact h)
      | (rw [w1_105] at h; exact h)
      | (rw [w1_106] at h; exact h)
      | (rw [w1_107] at h; exact h)
      | (rw [w1_108] at h; exact h)
      | (rw [w1_109] at h; exact h)
      | (rw [w1_110] at h; exact h)
      | (rw [w1_111] at h; exact h)
      | (rw [w1_112] at h; exact h)
      | (rw [w1_113] at h; exact h)
      | (rw [w1_114] at h; exact h)
      | (rw [w1_115] at h; exact h)
      | (rw [w1_116] at h; exact h)
      | (rw [w1_117] at h; exact h)
      | (rw [w1_118] at h; exact h)
      | (rw [w1_119] at h; exact h)
      | (rw [if_neg w1_112, if_neg w1_107, if_neg w1_118, if_neg w1_119, if_neg w1_102, if_neg w1_109] at h; exact h)
  by_cases w1_108 : x = 108
  · refine R_tswI (tgt := 100) dX9_place_1 108 w1_108 (by decide) (by decide) rfl (by decide) ?_
    refine R_iconst (v := -1) dX9_place_100 (by decide) ?_
    refine R_ireturn dX9_place_101 ⟨_, rfl, rfl⟩ ?_
    unfold plJ at h
    first
      | (rw [w1_102] at h; exact h)
      | (rw [w1_103] at h; exact h)
      | (rw [w1_104] at h; exact h)
      | (rw [w1_105] at h; exact h)
      | (rw [w1_106] at h; exact h)
      | (rw [w1_107] at h; exact h)
      | (rw [w1_108] at h; exact h)
      | (rw [w1_109] at h; exact h)
      | (rw [w1_110] at h; exact h)
      | (rw [w1_111] at h; exact h)
      | (rw [w1_112] at h; exact h)
      | (rw [w1_113] at h; exact h)
      | (rw [w1_114] at h; exact h)
      | (rw [w1_115] at h; exact h)
      | (rw [w1_116] at h; exact h)
      | (rw [w1_117] at h; exact h)
      | (rw [w1_118] at h; exact h)
      | (rw [w1_119] at h; exact h)
      | (rw [if_neg w1_112, if_neg w1_107, if_neg w1_118, if_neg w1_119, if_neg w1_102, if_neg w1_109] at h; exact h)
  by_cases w1_109 : x = 109
  · refine R_tswI (tgt := 98) dX9_place_1 109 w1_109 (by decide) (by decide) rfl (by decide) ?_
    refine R_iconst (v := 5) dX9_place_98 (by decide) ?_
    refine R_ireturn dX9_place_99 ⟨_, rfl, rfl⟩ ?_
    unfold plJ at h
    first
      | (rw [w1_102] at h; exact h)
      | (rw [w1_103] at h; exact h)
      | (rw [w1_104] at h; exact h)
      | (rw [w1_105] at h; exact h)
      | (rw [w1_106] at h; exact h)
      | (rw [w1_107] at h; exact h)
      | (rw [w1_108] at h; exact h)
      | (rw [w1_109] at h; exact h)
      | (rw [w1_110] at h; exact h)
      | (rw [w1_111] at h; exact h)
      | (rw [w1_112] at h; exact h)
      | (rw [w1_113] at h; exact h)
      | (rw [w1_114] at h; exact h)
      | (rw [w1_115] at h; exact h)
      | (rw [w1_116] at h; exact h)
      | (rw [w1_117] at h; exact h)
      | (rw [w1_118] at h; exact h)
      | (rw [w1_119] at h; exact h)
      | (rw [if_neg w1_112, if_neg w1_107, if_neg w1_118, if_neg w1_119, if_neg w1_102, if_neg w1_109] at h; exact h)
  by_cases w1_110 : x = 110
  · refine R_tswI (tgt := 100) dX9_place_1 110 w1_110 (by decide) (by decide) rfl (by decide) ?_
    refine R_iconst (v := -1) dX9_place_100 (by decide) ?_
    refine R_ireturn dX9_place_101 ⟨_, rfl, rfl⟩ ?_
    unfold plJ at h
    first
      | (rw [w1_102] at h; exact h)
      | (rw [w1_103] at h; exact h)
      | (rw [w1_104] at h; exact h)
      | (rw [w1_105] at h; exact h)
      | (rw [w1_106] at h; exact h)
      | (rw [w1_107] at h; exact h)
      | (rw [w1_108] at h; exact h)
      | (rw [w1_109] at h; exact h)
      | (rw [w1_110] at h; exact h)
      | (rw [w1_111] at h; exact h)
      | (rw [w1_112] at h; exact h)
      | (rw [w1_113] at h; exact h)
      | (rw [w1_114] at h; exact h)
      | (rw [w1_115] at h; exact h)
      | (rw [w1_116] at h; exact h)
      | (rw [w1_117] at h; exact h)
      | (rw [w1_118] at h; exact h)
      | (rw [w1_119] at h; exact h)
      | (rw [if_neg w1_112, if_neg w1_107, if_neg w1_118, if_neg w1_119, if_neg w1_102, if_neg w1_109] at h; exact h)
  by_cases w1_111 : x = 111
  · refine R_tswI (tgt := 100) dX9_place_1 111 w1_111 (by decide) (by decide) rfl (by decide) ?_
    refine R_iconst (v := -1) dX9_place_100 (by decide) ?_
    refine R_ireturn dX9_place_101 ⟨_, rfl, rfl⟩ ?_
    unfold plJ at h
    first
      | (rw [w1_102] at h; exact h)
      | (rw [w1_103] at h; exact h)
      | (rw [w1_104] at h; exact h)
      | (rw [w1_105] at h; exact h)
      | (rw [w1_106] at h; exact h)
      | (rw [w1_107] at h; exact h)
      | (rw [w1_108] at h; exact h)
      | (rw [w1_109] at h; exact h)
      | (rw [w1_110] at h; exact h)
      | (rw [w1_111] at h; exact h)
      | (rw [w1_112] at h; exact h)
      | (rw [w1_113] at h; exact h)
      | (rw [w1_114] at h; exact h)
      | (rw [w1_115] at h; exact h)
      | (rw [w1_116] at h; exact h)
      | (rw [w1_117] at h; exact h)
      | (rw [w1_118] at h; exact h)
      | (rw [w1_119] at h; exact h)
      | (rw [if_neg w1_112, if_neg w1_107, if_neg w1_118, if_neg w1_119, if_neg w1_102, if_neg w1_109] at h; exact h)
  by_cases w1_112 : x = 112
  · refine R_tswI (tgt := 88) dX9_place_1 112 w1_112 (by decide) (by decide) rfl (by decide) ?_
    refine R_iconst (v := 0) dX9_place_88 (by decide) ?_
    refine R_ireturn dX9_place_89 ⟨_, rfl, rfl⟩ ?_
    unfold plJ at h
    first
      | (rw [w1_102] at h; exact h)
      | (rw [w1_103] at h; exact h)
      | (rw [w1_104] at h; exact h)
      | (rw [w1_105] at h; exact h)
      | (rw [w1_106] at h; exact h)
      | (rw [w1_107] at h; exact h)
      | (rw [w1_108] at h; exact h)
      | (rw [w1_109] at h; exact h)
      | (rw [w1_110] at h; exact h)
      | (rw [w1_111] at h; exact h)
      | (rw [w1_112] at h; exact h)
      | (rw [w1_113] at h; exact h)
      | (rw [w1_114] at h; exact h)
      | (rw [w1_115] at h; exact h)
      | (rw [w1_116] at h; exact h)
      | (rw [w1_117] at h; exact h)
      | (rw [w1_118] at h; exact h)
      | (rw [w1_119] at h; exact h)
      | (rw [if_neg w1_112, if_neg w1_107, if_neg w1_118, if_neg w1_119, if_neg w1_102, if_neg w1_109] at h; exact h)
  by_cases w1_113 : x = 113
  · refine R_tswI (tgt := 100) dX9_place_1 113 w1_113 (by decide) (by decide) rfl (by decide) ?_
    refine R_iconst (v := -1) dX9_place_100 (by decide) ?_
    refine R_ireturn dX9_place_101 ⟨_, rfl, rfl⟩ ?_
    unfold plJ at h
    first
      | (rw [w1_102] at h; exact h)
      | (rw [w1_103] at h; exact h)
      | (rw [w1_104] at h; exact h)
      | (rw [w1_105] at h; exact h)
      | (rw [w1_106] at h; exact h)
      | (rw [w1_107] at h; exact h)
      | (rw [w1_108] at h; exact h)
      | (rw [w1_109] at h; exact h)
      | (rw [w1_110] at h; exact h)
      | (rw [w1_111] at h; exact h)
      | (rw [w1_112] at h; exact h)
      | (rw [w1_113] at h; exact h)
      | (rw [w1_114] at h; exact h)
      | (rw [w1_115] at h; exact h)
      | (rw [w1_116] at h; exact h)
      | (rw [w1_117] at h; exact h)
      | (rw [w1_118] at h; exact h)
      | (rw [w1_119] at h; exact h)
      | (rw [if_neg w1_112, if_neg w1_107, if_neg w1_118, if_neg w1_119, if_neg w1_102, if_neg w1_109] at h; exact h)
  by_cases w1_114 : x = 114
  · refine R_tswI (tgt := 100) dX9_place_1 114 w1_114 (by decide) (by decide) rfl (by decide) ?_
    refine R_iconst (v := -1) dX9_place_100 (by decide) ?_
    refine R_ireturn dX9_place_101 ⟨_, rfl, rfl⟩ ?_
    unfold plJ at h
    first
      | (rw [w1_102] at h; exact h)
      | (rw [w1_103] at h; exact h)
      | (rw [w1_104] at h; exact h)
      | (rw [w1_105] at h; exact h)
      | (rw [w1_106] at h; exact h)
      | (rw [w1_107] at h; exact h)
      | (rw [w1_108] at h; exact h)
      | (rw [w1_109] at h; exact h)
      | (rw [w1_110] at h; exact h)
      | (rw [w1_111] at h; exact h)
      | (rw [w1_112] at h; exact h)
      | (rw [w1_113] at h; exact h)
      | (rw [w1_114] at h; exact h)
      | (rw [w1_115] at h; exact h)
      | (rw [w1_116] at h; exact h)
      | (rw [w1_117] at h; exact h)
      | (rw [w1_118] at h; exact h)
      | (rw [w1_119] at h; exact h)
      | (rw [if_neg w1_112, if_neg w1_107, if_neg w1_118, if_neg w1_119, if_neg w1_102, if_neg w1_109] at h; exact h)
  by_cases w1_115 : x = 115
  · refine R_tswI (tgt := 100) dX9_place_1 115 w1_115 (by decide) (by decide) rfl (by decide) ?_
    refine R_iconst (v := -1) dX9_place_100 (by decide) ?_
    refine R_ireturn dX9_place_101 ⟨_, rfl, rfl⟩ ?_
    unfold plJ at h
    first
      | (rw [w1_102] at h; exact h)
      | (rw [w1_103] at h; exact h)
      | (rw [w1_104] at h; exact h)
      | (rw [w1_105] at h; exact h)
      | (rw [w1_106] at h; exact h)
      | (rw [w1_107] at h; exact h)
      | (rw [w1_108] at h; exact h)
      | (rw [w1_109] at h; exact h)
      | (rw [w1_110] at h; exact h)
      | (rw [w1_111] at h; exact h)
      | (rw [w1_112] at h; exact h)
      | (rw [w1_113] at h; exact h)
      | (rw [w1_114] at h; exact h)
      | (rw [w1_115] at h; exact h)
      | (rw [w1_116] at h; exact h)
      | (rw [w1_117] at h; exact h)
      | (rw [w1_118] at h; exact h)
      | (rw [w1_119] at h; exact h)
      | (rw [if_neg w1_112, if_neg w1_107, if_neg w1_118, if_neg w1_119, if_neg w1_102, if_neg w1_109] at h; exact h)
  by_cases w1_116 : x = 116
  · refine R_tswI (tgt := 100) dX9_place_1 116 w1_116 (by decide) (by decide) rfl (by decide) ?_
    refine R_iconst (v := -1) dX9_place_100 (by decide) ?_
    refine R_ireturn dX9_place_101 ⟨_, rfl, rfl⟩ ?_
    unfold plJ at h
    first
      | (rw [w1_102] at h; exact h)
      | (rw [w1_103] at h; exact h)
      | (rw [w1_104] at h; exact h)
      | (rw [w1_105] at h; exact h)
      | (rw [w1_106] at h; exact h)
      | (rw [w1_107] at h; exact h)
      | (rw [w1_108] at h; exact h)
      | (rw [w1_109] at h; exact h)
      | (rw [w1_110] at h; exact h)
      | (rw [w1_111] at h; exact h)
      | (rw [w1_112] at h; exact h)
      | (rw [w1_113] at h; exact h)
      | (rw [w1_114] at h; exact h)
      | (rw [w1_115] at h; exact h)
      | (rw [w1_116] at h; exact h)
      | (rw [w1_117] at h; exact h)
      | (rw [w1_118] at h; exact h)
      | (rw [w1_119] at h; exact h)
      | (rw [if_neg w1_112, if_neg w1_107, if_neg w1_118, if_neg w1_119, if_neg w1_102, if_neg w1_109] at h; exact h)
  by_cases w1_117 : x = 117
  · refine R_tswI (tgt := 100) dX9_place_1 117 w1_117 (by decide) (by decide) rfl (by decide) ?_
    refine R_iconst (v := -1) dX9_place_100 (by decide) ?_
    refine R_ireturn dX9_place_101 ⟨_, rfl, rfl⟩ ?_
    unfold plJ at h
    first
      | (rw [w1_102] at h; exact h)
      | (rw [w1_103] at h; exact h)
      | (rw [w1_104] at h; exact h)
      | (rw [w1_105] at h; exact h)
      | (rw [w1_106] at h; exact h)
      | (rw [w1_107] at h; exact h)
      | (rw [w1_108] at h; exact h)
      | (rw [w1_109] at h; exact h)
      | (rw [w1_110] at h; exact h)
      | (rw [w1_111] at h; exact h)
      | (rw [w1_112] at h; exact h)
      | (rw [w1_113] at h; exact h)
      | (rw [w1_114] at h; exact h)
      | (rw [w1_115] at h; exact h)
      | (rw [w1_116] at h; exact h)
      | (rw [w1_117] at h; exact h)
      | (rw [w1_118] at h; exact h)
      | (rw [w1_119] at h; exact h)
      | (rw [if_neg w1_112, if_neg w1_107, if_neg w1_118, if_neg w1_119, if_neg w1_102, if_neg w1_109] at h; exact h)
  by_cases w1_118 : x = 118
  · refine R_tswI (tgt := 92) dX9_place_1 118 w1_118 (by decide) (by decide) rfl (by decide) ?_
    refine R_iconst (v := 2) dX9_place_92 (by decide) ?_
    refine R_ireturn dX9_place_93 ⟨_, rfl, rfl⟩ ?_
    unfold plJ at h
    first
      | (rw [w1_102] at h; exact h)
      | (rw [w1_103] at h; exact h)
      | (rw [w1_104] at h; exact h)
      | (rw [w1_105] at h; exact h)
      | (rw [w1_106] at h; exact h)
      | (rw [w1_107] at h; exact h)
      | (rw [w1_108] at h; exact h)
      | (rw [w1_109] at h; exact h)
      | (rw [w1_110] at h; exact h)
      | (rw [w1_111] at h; exact h)
      | (rw [w1_112] at h; exact h)
      | (rw [w1_113] at h; exact h)
      | (rw [w1_114] at h; exact h)
      | (rw [w1_115] at h; exact h)
      | (rw [w1_116] at h; exact h)
      | (rw [w1_117] at h; exact h)
      | (rw [w1_118] at h; exact h)
      | (rw [w1_119] at h; exact h)
      | (rw [if_neg w1_112, if_neg w1_107, if_neg w1_118, if_neg w1_119, if_neg w1_102, if_neg w1_109] at h; exact h)
  by_cases w1_119 : x = 119
  · refine R_tswI (tgt := 94) dX9_place_1 119 w1_119 (by decide) (by decide) rfl (by decide) ?_
    refine R_iconst (v := 3) dX9_place_94 (by decide) ?_
    refine R_ireturn dX9_place_95 ⟨_, rfl, rfl⟩ ?_
    unfold plJ at h
    first
      | (rw [w1_102] at h; exact h)
      | (rw [w1_103] at h; exact h)
      | (rw [w1_104] at h; exact h)
      | (rw [w1_105] at h; exact h)
      | (rw [w1_106] at h; exact h)
      | (rw [w1_107] at h; exact h)
      | (rw [w1_108] at h; exact h)
      | (rw [w1_109] at h; exact h)
      | (rw [w1_110] at h; exact h)
      | (rw [w1_111] at h; exact h)
      | (rw [w1_112] at h; exact h)
      | (rw [w1_113] at h; exact h)
      | (rw [w1_114] at h; exact h)
      | (rw [w1_115] at h; exact h)
      | (rw [w1_116] at h; exact h)
      | (rw [w1_117] at h; exact h)
      | (rw [w1_118] at h; exact h)
      | (rw [w1_119] at h; exact h)
      | (rw [if_neg w1_112, if_neg w1_107, if_neg w1_118, if_neg w1_119, if_neg w1_102, if_neg w1_109] at h; exact h)
  refine R_tswO (tgt := 100) dX9_place_1 (by have w1_102' := lv_neT (a := 102) w1_102 rfl; have w1_103' := lv_neT (a := 103) w1_103 rfl; have w1_104' := lv_neT (a := 104) w1_104 rfl; have w1_105' := lv_neT (a := 105) w1_105 rfl; have w1_106' := lv_neT (a := 106) w1_106 rfl; have w1_107' := lv_neT (a := 107) w1_107 rfl; have w1_108' := lv_neT (a := 108) w1_108 rfl; have w1_109' := lv_neT (a := 109) w1_109 rfl; have w1_110' := lv_neT (a := 110) w1_110 rfl; have w1_111' := lv_neT (a := 111) w1_111 rfl; have w1_112' := lv_neT (a := 112) w1_112 rfl; have w1_113' := lv_neT (a := 113) w1_113 rfl; have w1_114' := lv_neT (a := 114) w1_114 rfl; have w1_115' := lv_neT (a := 115) w1_115 rfl; have w1_116' := lv_neT (a := 116) w1_116 rfl; have w1_117' := lv_neT (a := 117) w1_117 rfl; have w1_118' := lv_neT (a := 118) w1_118 rfl; have w1_119' := lv_neT (a := 119) w1_119 rfl; omega) (by decide) ?_
  refine R_iconst (v := -1) dX9_place_100 (by decide) ?_
  refine R_ireturn dX9_place_101 ⟨_, rfl, rfl⟩ ?_
  unfold plJ at h
  first
    | (rw [w1_102] at h; exact h)
    | (rw [w1_103] at h; exact h)
    | (rw [w1_104] at h; exact h)
    | (rw [w1_105] at h; exact h)
    | (rw [w1_106] at h; exact h)
    | (rw [w1_107] at h; exact h)
    | (rw [w1_108] at h; exact h)
    | (rw [w1_109] at h; exact h)
    | (rw [w1_110] at h; exact h)
    | (rw [w1_111] at h; exact h)
    | (rw [w1_112] at h; exact h)
    | (rw [w1_113] at h; exact h)
    | (rw [w1_114] at h; exact h)
    | (rw [w1_115] at h; exact h)
    | (rw [w1_116] at h; exact h)
    | (rw [w1_117] at h; exact h)
    | (rw [w1_118] at h; exact h)
    | (rw [w1_119] at h; exact h)
    | (rw [if_neg w1_112, if_neg w1_107, if_neg w1_118, if_neg w1_119, if_neg w1_102, if_neg w1_109] at h; exact h)
