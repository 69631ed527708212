/-! the reference reads clauses and texts -/
def LT (mi : Nat → Nat → Int32) : Prop := ∀ k, k < 4 → ∀ j, j < 4 → mi 132 (4 * k + j) = nI ((wdC k).getD j 0)
theorem wd_drop : ∀ k : Fin 4, ∀ j : Fin 5, (wdC k.1).drop j.1 = (wdC k.1).getD j.1 0 :: (wdC k.1).drop (j.1 + 1) := by decide
theorem wd_4 : ∀ k : Fin 4, (wdC k.1).getD 4 0 = 32 ∧ (wdC k.1).drop 5 = [] := by decide
theorem wd_128 : ∀ k : Fin 4, ∀ j : Fin 5, (wdC k.1).getD j.1 0 < 128 := by decide
theorem LT.u {mi : Nat → Nat → Int32} {a j : Nat} {v : Int32} (h : LT mi) (ha : a ≠ 132) : LT (rn_u mi a j v) := fun k hk j hj => by
  rw [rn_u_ne (Ne.symm ha)]; exact h k hk j hj
theorem wordR_1 {T : Nat → Nat} {L p c : Nat} {ws : List Nat} (h : nxT T L p = c) : wordR T L (c :: ws) p = wordR T L ws (p + 1) := if_pos h
theorem wordR_0 {T : Nat → Nat} {L p c : Nat} {ws : List Nat} (h : ¬ nxT T L p = c) : wordR T L (c :: ws) p = (false, p) := if_neg h
theorem nx_of {T : Nat → Nat} {L p c : Nat} {nx : Int32} (ht : ∀ j, j < L → T j < 128) (h : nx = nxI T L p) (hc : c < 128) : nx = nI c ↔ nxT T L p = c := by rw [h]; exact nxI_c ht hc

set_option maxHeartbeats 4000000 in
theorem L_takesWord {G : rn_G} {d : Nat} {κ : Nat × Nat} {Q : Option Value → rn_S → Prop} {ml : Nat → Nat → Int64} {D : Nat → Nat} {T : Nat → Nat} {L k : Nat} {x y : Int32} (hk : k < 4) (hx : x = nI (4 * k)) (hy : y = nI 4) : ∀ (n j p : Nat) (z : Int32) (mi : Nat → Nat → Int32), j + n = 4 → z = nI j → TXM T L mi → LT mi → mi 116 19 = nI p → p ≤ L → ((wordR T L ((wdC k).drop j) p).1 = true → Q (some (.int 1)) (rn_u mi 116 19 (nI (wordR T L ((wdC k).drop j) p).2), ml, RF D, 164)) → ((wordR T L ((wdC k).drop j) p).1 = false → Q (some (.int 0)) (rn_u mi 116 19 (nI (wordR T L ((wdC k).drop j) p).2), ml, RF D, 164)) → Run G (d + 2) M_X9_takesWord 2 [.ref 116, .int x, .int y, .int z] [] (mi, ml, RF D, 164) κ Q := by
  intro n
  induction n with
  | zero =>
    intro j p z mi hj hz htx hlt hat hpL h1 h0
    obtain rfl : j = 4 := by omega
    have ed := wd_drop ⟨k, hk⟩ ⟨4, by decide⟩
    have e4 := wd_4 ⟨k, hk⟩
    dsimp only at ed e4
    rw [e4.1, show (4 : Nat) + 1 = 5 from rfl, e4.2] at ed
    rw [ed] at h1 h0
    refine il_3 dX9_takesWord_2 ?_
    refine il_2 dX9_takesWord_3 ?_
    refine R_icmp_ge (tgt := 30) dX9_takesWord_4 (by decide) (fun c4 => ?_) (fun q => absurd q (not_not_intro (by rw [hz, hy]; exact Int32.le_refl _)))
    refine al_0 dX9_takesWord_30 ?_
    refine R_bipush (v := 32) dX9_takesWord_31 (by decide) ?_
    refine cv_1 dX9_takesWord_33 mm_RX9_323 sh_116 (Nat.le_of_ble_eq_true rfl) ⟨_, rfl, rfl⟩ (Nat.le_of_ble_eq_true rfl) (Nat.le_of_ble_eq_true rfl) (M_takes htx hat hpL (c := 32) rfl (by decide) (fun s2 l2 => ?_) (fun s2 => ?_))
    · rw [wordR_1 s2] at h1
      refine R_ireturn dX9_takesWord_36 ⟨_, rfl, rfl⟩ ?_
      first
        | exact h1 rfl
        | (have q := h0 rfl; rw [show nI ((false, p) : Bool × Nat).2 = mi 116 19 from hat.symm, rn_u_self] at q; exact q)
    · rw [wordR_0 s2] at h0
      refine R_ireturn dX9_takesWord_36 ⟨_, rfl, rfl⟩ ?_
      first
        | exact h1 rfl
        | (have q := h0 rfl; rw [show nI ((false, p) : Bool × Nat).2 = mi 116 19 from hat.symm, rn_u_self] at q; exact q)
  | succ n ih =>
    intro j p z mi hj hz htx hlt hat hpL h1 h0
    have hj4 : j < 4 := by omega
    have ed := wd_drop ⟨k, hk⟩ ⟨j, by omega⟩
    have el := hlt k hk j hj4
    have e128 := wd_128 ⟨k, hk⟩ ⟨j, by omega⟩
    dsimp only at ed e128
    rw [ed] at h1 h0
    have exz : x + z = nI (4 * k + j) := by rw [hx, hz]; exact sm_add _ _
    refine il_3 dX9_takesWord_2 ?_
    refine il_2 dX9_takesWord_3 ?_
    refine R_icmp_ge (tgt := 30) dX9_takesWord_4 (by decide) (fun q => absurd q (by rw [hz, hy]; exact nI_ge hj4 (by decide))) (fun c4 => ?_)
    refine al_0 dX9_takesWord_7 ?_
    refine al_0 dX9_takesWord_8 ?_
    refine R_getfr (r := 132) dX9_takesWord_9 fl_RX9_107 rfl sh_116 (Nat.le_of_ble_eq_true rfl) rf_116_32 ?_
    refine il_1 dX9_takesWord_12 ?_
    refine il_3 dX9_takesWord_13 ?_
    refine R_iadd dX9_takesWord_14 ?_
    refine R_iald dX9_takesWord_15 sh_132 (Nat.le_of_ble_eq_true rfl) (rn_ixe exz) (show 4 * k + j < 16 by omega) ?_
    refine cv_1 dX9_takesWord_16 mm_RX9_323 sh_116 (Nat.le_of_ble_eq_true rfl) ⟨_, rfl, rfl⟩ (Nat.le_of_ble_eq_true rfl) (Nat.le_of_ble_eq_true rfl) (M_takes htx hat hpL (c := (wdC k).getD j 0) el e128 (fun s2 l2 => ?_) (fun s2 => ?_))
    · rw [wordR_1 s2] at h1 h0
      refine R_if_ne (tgt := 24) dX9_takesWord_19 (by decide) (fun _ => ?_) (fun q => absurd q (by decide))
      refine ii_3 (v := _ + 1) dX9_takesWord_24 rfl (by rfl) ?_
      refine R_goto (tgt := 2) dX9_takesWord_27 (by decide) ?_
      refine ih (j + 1) (p + 1) _ _ (by omega) (by rw [hz]; exact sm_add j 1) (htx.u (by decide)) (hlt.u (by decide)) rn_u_eq l2 ?_ ?_
      · rw [rn_u_u]; exact h1
      · rw [rn_u_u]; exact h0
    · rw [wordR_0 s2] at h0
      refine R_if_ne (tgt := 24) dX9_takesWord_19 (by decide) (fun q => absurd q (by decide)) (fun _ => ?_)
      refine R_iconst (v := 0) dX9_takesWord_22 (by decide) ?_
      refine R_ireturn dX9_takesWord_23 ⟨_, rfl, rfl⟩ ?_
      have q := h0 rfl
      rw [show nI ((false, p) : Bool × Nat).2 = mi 116 19 from hat.symm, rn_u_self] at q
      exact q

set_option maxHeartbeats 4000000 in
theorem M_takesWord {G : rn_G} {d : Nat} {κ : Nat × Nat} {Q : Option Value → rn_S → Prop} {mi : Nat → Nat → Int32} {ml : Nat → Nat → Int64} {D : Nat → Nat} {x y : Int32} {T : Nat → Nat} {L p : Nat} (htx : TXM T L mi) (hlt : LT mi) (hat : mi 116 19 = nI p) (hpL : p ≤ L) {k : Nat} (hk : k < 4) (hx : x = nI (4 * k)) (hy : y = nI 4) (h1 : (wordR T L (wdC k) p).1 = true → Q (some (.int 1)) (rn_u mi 116 19 (nI (wordR T L (wdC k) p).2), ml, RF D, 164)) (h0 : (wordR T L (wdC k) p).1 = false → Q (some (.int 0)) (rn_u mi 116 19 (nI (wordR T L (wdC k) p).2), ml, RF D, 164)) : Call G (d + 2) M_X9_takesWord [.ref 116, .int x, .int y] (mi, ml, RF D, 164) κ Q := by
  show Run G _ M_X9_takesWord 0 [.ref 116, .int x, .int y, .null] [] _ _ _
  refine R_iconst (v := 0) dX9_takesWord_0 (by decide) ?_
  refine is_3 dX9_takesWord_1 rfl ?_
  exact L_takesWord hk hx hy 4 0 p 0 mi rfl rfl htx hlt hat hpL h1 h0

theorem TXM.a {T : Nat → Nat} {L a j : Nat} {mi : Nat → Nat → Int32} {v : Int32} (h : TXM T L mi) (ha : a ≠ 116) (hb : a ≠ 124) : TXM T L (rn_u mi a j v) := ⟨h.1, by rw [rn_u_ne (Ne.symm ha)]; exact h.2.1, fun j hj => by rw [rn_u_ne (Ne.symm hb)]; exact h.2.2 j hj⟩

set_option maxHeartbeats 4000000 in
theorem M_takesHead {G : rn_G} {d : Nat} {κ : Nat × Nat} {Q : Option Value → rn_S → Prop} {mi : Nat → Nat → Int32} {ml : Nat → Nat → Int64} {D : Nat → Nat} {x : Int32} {c0 : Nat} (hx : x = nI c0) (hc0 : c0 < 60) {T : Nat → Nat} {L p : Nat} (htx : TXM T L mi) (hlt : LT mi) (hat : mi 116 19 = nI p) (hpL : p ≤ L) (h1 : (wordR T L (wdC (hdK (nxT T L p))) p).1 = true → Q (some (.int 1)) (rn_u (rn_u mi 126 c0 (nI (hdK (nxT T L p)))) 116 19 (nI (wordR T L (wdC (hdK (nxT T L p))) p).2), ml, RF D, 164)) (h0 : (wordR T L (wdC (hdK (nxT T L p))) p).1 = false → Q (some (.int 0)) (rn_u (rn_u mi 126 c0 (nI (hdK (nxT T L p)))) 116 19 (nI (wordR T L (wdC (hdK (nxT T L p))) p).2), ml, RF D, 164)) : Call G (d + 3) M_X9_takesHead [.ref 116, .int x] (mi, ml, RF D, 164) κ Q := by
  show Run G _ M_X9_takesHead 0 [.ref 116, .int x] [] _ _ _
  refine al_0 dX9_takesHead_0 ?_
  refine cv_0 dX9_takesHead_1 mm_RX9_319 sh_116 (Nat.le_of_ble_eq_true rfl) ⟨_, rfl, rfl⟩ (Nat.le_of_ble_eq_true rfl) (Nat.le_of_ble_eq_true rfl) (M_next htx hat hpL (nmr (fun nx hnx => ?_)))
  by_cases w4_98 : nx = 98
  · rw [w4_98]
    refine R_lsw (off := 64) (tgt := 68) dX9_takesHead_4 (by decide) (by decide) (by decide) ?_
    refine al_0 dX9_takesHead_68 ?_
    refine R_getfr (r := 126) dX9_takesHead_69 fl_RX9_80 rfl sh_116 (Nat.le_of_ble_eq_true rfl) rf_116_23 ?_
    refine il_1 dX9_takesHead_72 ?_
    refine R_iconst (v := 2) dX9_takesHead_73 (by decide) ?_
    refine R_iast dX9_takesHead_74 sh_126 (Nat.le_of_ble_eq_true rfl) (rn_ixe hx) hc0 ?_
    refine al_0 dX9_takesHead_75 ?_
    refine R_bipush (v := 8) dX9_takesHead_76 (by decide) ?_
    refine R_iconst (v := 4) dX9_takesHead_78 (by decide) ?_
    refine cv_2 dX9_takesHead_79 mm_RX9_350 sh_116 (Nat.le_of_ble_eq_true rfl) ⟨_, rfl, rfl⟩ (Nat.le_of_ble_eq_true rfl) (Nat.le_of_ble_eq_true rfl) (M_takesWord (k := 2) (htx.a (a := 126) (by decide) (by decide)) (hlt.u (by decide)) hat hpL (by decide) rfl rfl (fun hw => ?_) (fun hw => ?_))
    · refine R_ireturn dX9_takesHead_82 ⟨_, rfl, rfl⟩ ?_
      have en : nxT T L p = 98 := (nx_of htx.lt hnx (by decide)).mp w4_98
      have ek : hdK (nxT T L p) = 2 := by rw [en]; rfl
      rw [ek] at h1 h0
      first | exact h1 hw | exact h0 hw
    · refine R_ireturn dX9_takesHead_82 ⟨_, rfl, rfl⟩ ?_
      have en : nxT T L p = 98 := (nx_of htx.lt hnx (by decide)).mp w4_98
      have ek : hdK (nxT T L p) = 2 := by rw [en]; rfl
      rw [ek] at h1 h0
      first | exact h1 hw | exact h0 hw
  by_cases w4_100 : nx = 100
  · rw [w4_100]
    refine R_lsw (off := 50) (tgt := 54) dX9_takesHead_4 (by decide) (by decide) (by decide) ?_
    refine al_0 dX9_takesHead_54 ?_
    refine R_getfr (r := 126) dX9_takesHead_55 fl_RX9_80 rfl sh_116 (Nat.le_of_ble_eq_true rfl) rf_116_23 ?_
    refine il_1 dX9_takesHead_58 ?_
    refine R_iconst (v := 1) dX9_takesHead_59 (by decide) ?_
    refine R_iast dX9_takesHead_60 sh_126 (Nat.le_of_ble_eq_true rfl) (rn_ixe hx) hc0 ?_
    refine al_0 dX9_takesHead_61 ?_
    refine R_iconst (v := 4) dX9_takesHead_62 (by decide) ?_
    refine R_iconst (v := 4) dX9_takesHead_63 (by decide) ?_
    refine cv_2 dX9_takesHead_64 mm_RX9_350 sh_116 (Nat.le_of_ble_eq_true rfl) ⟨_, rfl, rfl⟩ (Nat.le_of_ble_eq_true rfl) (Nat.le_of_ble_eq_true rfl) (M_takesWord (k := 1) (htx.a (a := 126) (by decide) (by decide)) (hlt.u (by decide)) hat hpL (by decide) rfl rfl (fun hw => ?_) (fun hw => ?_))
    · refine R_ireturn dX9_takesHead_67 ⟨_, rfl, rfl⟩ ?_
      have en : nxT T L p = 100 := (nx_of htx.lt hnx (by decide)).mp w4_100
      have ek : hdK (nxT T L p) = 1 := by rw [en]; rfl
      rw [ek] at h1 h0
      first | exact h1 hw | exact h0 hw
    · refine R_ireturn dX9_takesHead_67 ⟨_, rfl, rfl⟩ ?_
      have en : nxT T L p = 100 := (nx_of htx.lt hnx (by decide)).mp w4_100
      have ek : hdK (nxT T L p) = 1 := by rw [en]; rfl
      rw [ek] at h1 h0
      first | exact h1 hw | exact h0 hw
  by_cases w4_107 : nx = 107
  · rw [w4_107]
    refine R_lsw (off := 36) (tgt := 40) dX9_takesHead_4 (by decide) (by decide) (by decide) ?_
    refine al_0 dX9_takesHead_40 ?_
    refine R_getfr (r := 126) dX9_takesHead_41 fl_RX9_80 rfl sh_116 (Nat.le_of_ble_eq_true rfl) rf_116_23 ?_
    refine il_1 dX9_takesHead_44 ?_
    refine R_iconst (v := 0) dX9_takesHead_45 (by decide) ?_
    refine R_iast dX9_takesHead_46 sh_126 (Nat.le_of_ble_eq_true rfl) (rn_ixe hx) hc0 ?_
    refine al_0 dX9_takesHead_47 ?_
    refine R_iconst (v := 0) dX9_takesHead_48 (by decide) ?_
    refine R_iconst (v := 4) dX9_takesHead_49 (by decide) ?_
    refine cv_2 dX9_takesHead_50 mm_RX9_350 sh_116 (Nat.le_of_ble_eq_true rfl) ⟨_, rfl, rfl⟩ (Nat.le_of_ble_eq_true rfl) (Nat.le_of_ble_eq_true rfl) (M_takesWord (k := 0) (htx.a (a := 126) (by decide) (by decide)) (hlt.u (by decide)) hat hpL (by decide) rfl rfl (fun hw => ?_) (fun hw => ?_))
    · refine R_ireturn dX9_takesHead_53 ⟨_, rfl, rfl⟩ ?_
      have en : nxT T L p = 107 := (nx_of htx.lt hnx (by decide)).mp w4_107
      have ek : hdK (nxT T L p) = 0 := by rw [en]; rfl
      rw [ek] at h1 h0
      first | exact h1 hw | exact h0 hw
    · refine R_ireturn dX9_takesHead_53 ⟨_, rfl, rfl⟩ ?_
      have en : nxT T L p = 107 := (nx_of htx.lt hnx (by decide)).mp w4_107
      have ek : hdK (nxT T L p) = 0 := by rw [en]; rfl
      rw [ek] at h1 h0
      first | exact h1 hw | exact h0 hw
  refine R_lsw (off := 79) (tgt := 83) dX9_takesHead_4 (by decide) ((lv_osw w4_98 rfl).trans ((lv_osw w4_100 rfl).trans ((lv_osw w4_107 rfl).trans (rfl)))) (by decide) ?_
  refine al_0 dX9_takesHead_83 ?_
  refine R_getfr (r := 126) dX9_takesHead_84 fl_RX9_80 rfl sh_116 (Nat.le_of_ble_eq_true rfl) rf_116_23 ?_
  refine il_1 dX9_takesHead_87 ?_
  refine R_iconst (v := 3) dX9_takesHead_88 (by decide) ?_
  refine R_iast dX9_takesHead_89 sh_126 (Nat.le_of_ble_eq_true rfl) (rn_ixe hx) hc0 ?_
  refine al_0 dX9_takesHead_90 ?_
  refine R_bipush (v := 12) dX9_takesHead_91 (by decide) ?_
  refine R_iconst (v := 4) dX9_takesHead_93 (by decide) ?_
  refine cv_2 dX9_takesHead_94 mm_RX9_350 sh_116 (Nat.le_of_ble_eq_true rfl) ⟨_, rfl, rfl⟩ (Nat.le_of_ble_eq_true rfl) (Nat.le_of_ble_eq_true rfl) (M_takesWord (k := 3) (htx.a (a := 126) (by decide) (by decide)) (hlt.u (by decide)) hat hpL (by decide) rfl rfl (fun hw => ?_) (fun hw => ?_))
  · refine R_ireturn dX9_takesHead_97 ⟨_, rfl, rfl⟩ ?_
    have ek : hdK (nxT T L p) = 3 := by unfold hdK; rw [if_neg (fun q => w4_107 ((nx_of htx.lt hnx (by decide)).mpr q)), if_neg (fun q => w4_100 ((nx_of htx.lt hnx (by decide)).mpr q)), if_neg (fun q => w4_98 ((nx_of htx.lt hnx (by decide)).mpr q))]
    rw [ek] at h1 h0
    first | exact h1 hw | exact h0 hw
  · refine R_ireturn dX9_takesHead_97 ⟨_, rfl, rfl⟩ ?_
    have ek : hdK (nxT T L p) = 3 := by unfold hdK; rw [if_neg (fun q => w4_107 ((nx_of htx.lt hnx (by decide)).mpr q)), if_neg (fun q => w4_100 ((nx_of htx.lt hnx (by decide)).mpr q)), if_neg (fun q => w4_98 ((nx_of htx.lt hnx (by decide)).mpr q))]
    rw [ek] at h1 h0
    first | exact h1 hw | exact h0 hw

set_option maxHeartbeats 4000000 in
theorem M_takesE {G : rn_G} {d : Nat} {κ : Nat × Nat} {Q : Option Value → rn_S → Prop} {mi : Nat → Nat → Int32} {ml : Nat → Nat → Int64} {D : Nat → Nat} {T : Nat → Nat} {L p c0 B F0 : Nat} {r : Bool × Nat × List TK} (htx : TXM T L mi) (hat : mi 116 19 = nI p) (hpL : p ≤ L) (hc0 : c0 < 60) (hB : mi 116 29 = nI B) (hF0 : F0 ≤ 500) (hBF : B ≤ F0 + p) (hr : rd T L 404 3 0 p [] = some r) (h1 : r.1 = true → ∀ m, SY (rn_u (rn_u (rn_u mi 116 30 0) 116 31 0) 128 c0 (nI B)) m c0 B r.2.1 r.2.2 [] 0 → m 129 c0 = nI (B + r.2.2.length) → Q (some (.int 1)) (m, ml, RF D, 164)) (h0 : r.1 = false → ∀ m, SF (rn_u (rn_u (rn_u mi 116 30 0) 116 31 0) 128 c0 (nI B)) m c0 B r.2.1 → Q (some (.int 0)) (m, ml, RF D, 164)) : Call G (d + 4) M_X9_takesE [.ref 116, .int (nI c0)] (mi, ml, RF D, 164) κ Q := by
  show Run G _ M_X9_takesE 0 [.ref 116, .int (nI c0), .null, .null] [] _ _ _
  have hL := htx.1
  have hlt := htx.lt
  have okr := rd_ok T L 404 3 0 p [] r (by decide) hpL hr
  unfold okR at okr
  simp only [List.length_nil] at okr
  refine al_0 dX9_takesE_0 ?_
  refine R_iconst (v := 0) dX9_takesE_1 (by decide) ?_
  refine R_putfi dX9_takesE_2 fl_RX9_101 rfl (Or.inl rfl) sh_116 (Nat.le_of_ble_eq_true rfl) rfl rfl ?_
  refine al_0 dX9_takesE_5 ?_
  refine R_iconst (v := 0) dX9_takesE_6 (by decide) ?_
  refine R_putfi dX9_takesE_7 fl_RX9_104 rfl (Or.inl rfl) sh_116 (Nat.le_of_ble_eq_true rfl) rfl rfl ?_
  refine al_0 dX9_takesE_10 ?_
  refine R_getfr (r := 128) dX9_takesE_11 fl_RX9_86 rfl sh_116 (Nat.le_of_ble_eq_true rfl) rf_116_25 ?_
  refine il_1 dX9_takesE_14 ?_
  refine al_0 dX9_takesE_15 ?_
  refine R_getfi dX9_takesE_16 fl_RX9_98 rfl sh_116 (Nat.le_of_ble_eq_true rfl) ?_
  refine R_iast dX9_takesE_19 sh_128 (Nat.le_of_ble_eq_true rfl) (rn_ixe rfl) hc0 ?_
  rw [show rn_u (rn_u mi 116 30 0) 116 31 0 116 29 = nI B from hB]
  have hsy0 : SY (rn_u (rn_u (rn_u mi 116 30 0) 116 31 0) 128 c0 (nI B)) (rn_u (rn_u (rn_u mi 116 30 0) 116 31 0) 128 c0 (nI B)) c0 B p [] [] 0 := ⟨fun _ _ _ _ _ => rfl, fun _ _ => rfl, fun _ _ => rfl, fun _ _ => rfl, hat, hB, rfl, rfl, fun j t h => absurd h (by simp), fun j t h => absurd h (by simp)⟩
  have htx0 : TXM T L (rn_u (rn_u (rn_u mi 116 30 0) 116 31 0) 128 c0 (nI B)) := ((htx.u (by decide)).u (by decide)).a (by decide) (by decide)
  obtain ⟨m0, hm0⟩ : ∃ m0, m0 = rn_u (rn_u (rn_u mi 116 30 0) 116 31 0) 128 c0 (nI B) := ⟨_, rfl⟩
  rw [← hm0] at hsy0 htx0 h1 h0 ⊢
  refine R_iconst (v := 1) dX9_takesE_20 (by decide) ?_
  refine is_2 dX9_takesE_21 rfl ?_
  obtain ⟨-, -, -, pr3, -⟩ := pr_all (ml := ml) (D := D) (B := B) htx0 hF0 hc0 404
  refine pr3 G _ κ Q _ 0 p [] [] _ r hr (by decide) hpL (fun a ha => absurd ha List.not_mem_nil) (by simp) (by simp) (by simp) hsy0 (by simp only [List.length_nil]; omega) (Nat.zero_le _) (fun b m v3 e a a2 ha ha2 hc hm n38 n124 hbd => ?_) h0
  have htxm := hm.f.tx htx0
  have hatm := hm.2.2.2.2.1
  rw [← List.append_assoc] at hm
  have hlc : r.2.2.length = e.length + a + a2 := by rw [hc]; simp only [List.length_append, List.length_replicate]
  have hlo : (List.replicate a 38 ++ List.replicate a2 124).length = a + a2 := by rw [List.length_append, List.length_replicate, List.length_replicate]
  have hops : ∀ c ∈ List.replicate a 38 ++ List.replicate a2 124, c = 38 ∨ (c = 124 ∧ ¬ (124 : Int32) = 38) := fun c hc => by
    rcases List.mem_append.mp hc with q | q
    · exact Or.inl (List.mem_replicate.mp q).2
    · exact Or.inr ⟨(List.mem_replicate.mp q).2, by decide⟩
  refine al_0 dX9_takesE_22 ?_
  refine cv_0 dX9_takesE_23 mm_RX9_319 sh_116 (Nat.le_of_ble_eq_true rfl) ⟨_, rfl, rfl⟩ (Nat.le_of_ble_eq_true rfl) (Nat.le_of_ble_eq_true rfl) (M_next htxm hatm okr.2.1 (nmr (fun nx hnx => ?_)))
  refine is_3 dX9_takesE_26 rfl ?_
  refine il_2 dX9_takesE_27 ?_
  refine R_if_eq (tgt := 110) dX9_takesE_28 (by decide) (fun _ => ?_) (fun q => absurd q (by decide))
  refine il_3 dX9_takesE_110 ?_
  refine R_bipush (v := 38) dX9_takesE_111 (by decide) ?_
  refine R_icmp_eq (tgt := 122) dX9_takesE_113 (by decide) (fun q => absurd q (fun q => absurd ((nx_of hlt hnx (c := 38) (by decide)).mp q) n38)) (fun c113 => ?_)
  refine il_3 dX9_takesE_116 ?_
  refine R_bipush (v := 124) dX9_takesE_117 (by decide) ?_
  refine R_icmp_ne (tgt := 162) dX9_takesE_119 (by decide) (fun c119 => ?_) (fun q => absurd q (fun q => absurd ((nx_of hlt hnx (c := 124) (by decide)).mp q) n124))
  refine al_0 dX9_takesE_162 ?_
  refine R_bipush (v := 124) dX9_takesE_163 (by decide) ?_
  refine cv_1 dX9_takesE_165 mm_RX9_347 sh_116 (Nat.le_of_ble_eq_true rfl) ⟨_, rfl, rfl⟩ (Nat.le_of_ble_eq_true rfl) (Nat.le_of_ble_eq_true rfl) (M_settle (x := 124) (s0 := []) (fun a ha => absurd ha List.not_mem_nil) (by simp) (by simp) hops hm (by rw [hlo, List.length_nil]; omega) (by rw [hlo, List.length_nil]; omega) (fun m5 hm5 => ?_))
  rw [map_opT, ← List.append_assoc, ← hc] at hm5
  have hm6 := hm5.to (v := nI (B + r.2.2.length))
  have e129 : rn_u m5 129 c0 (nI (B + r.2.2.length)) 129 c0 = nI (B + r.2.2.length) := rn_u_eq
  rw [show nI (B + r.2.2.length) = m5 116 29 from hm5.2.2.2.2.2.1.symm] at hm6
  have h630 : rn_u m5 129 c0 (m5 116 29) 116 30 = 0 := hm6.2.2.2.2.2.2.1
  refine al_0 dX9_takesE_168 ?_
  refine R_getfr (r := 129) dX9_takesE_169 fl_RX9_89 rfl sh_116 (Nat.le_of_ble_eq_true rfl) rf_116_26 ?_
  refine il_1 dX9_takesE_172 ?_
  refine al_0 dX9_takesE_173 ?_
  refine R_getfi dX9_takesE_174 fl_RX9_98 rfl sh_116 (Nat.le_of_ble_eq_true rfl) ?_
  refine R_iast dX9_takesE_177 sh_129 (Nat.le_of_ble_eq_true rfl) (rn_ixe rfl) hc0 ?_
  refine al_0 dX9_takesE_178 ?_
  refine R_getfi dX9_takesE_179 fl_RX9_101 rfl sh_116 (Nat.le_of_ble_eq_true rfl) ?_
  refine R_if_ne (tgt := 187) dX9_takesE_182 (by decide) (fun q => absurd q (not_not_intro h630)) (fun c182 => ?_)
  refine R_iconst (v := 1) dX9_takesE_185 (by decide) ?_
  refine R_ireturn dX9_takesE_186 ⟨_, rfl, rfl⟩ ?_
  rw [hm5.2.2.2.2.2.1] at hm6 ⊢
  exact h1 b _ hm6 e129

def CLM (m : Nat → Nat → Int32) (lo hi c0 : Nat) (q : Nat × Nat × List TK) : Prop := m 126 c0 = nI q.1 ∧ m 127 c0 = nI q.2.1 ∧ (q.1 ≤ 1 → ∃ f, lo ≤ f ∧ f + q.2.2.length ≤ hi ∧ m 128 c0 = nI f ∧ m 129 c0 = nI (f + q.2.2.length) ∧ ∀ j t, q.2.2[j]? = some t → m 130 (f + j) = tM t)
/-- what stays while dusk f is read -/
def GF (m0 m : Nat → Nat → Int32) (f : Nat) : Prop := (∀ x, x ≠ 116 → (x < 125 ∨ 131 < x) → m x = m0 x) ∧ (∀ g, (g < 19 ∨ (20 < g ∧ g < 29) ∨ 31 < g) → m 116 g = m0 116 g) ∧ (∀ j, j ≠ f → m 125 j = m0 125 j) ∧ (∀ j, (j < 10 * f ∨ 10 * f + 10 ≤ j) → m 126 j = m0 126 j ∧ m 127 j = m0 127 j ∧ m 128 j = m0 128 j ∧ m 129 j = m0 129 j) ∧ (∀ j, j < 100 * f → m 130 j = m0 130 j)
def GS (m0 m : Nat → Nat → Int32) (f p S : Nat) (a : CL) : Prop := GF m0 m f ∧ m 116 19 = nI p ∧ m 116 29 = nI S ∧ 100 * f ≤ S ∧ S ≤ 100 * f + p ∧ ∀ c q, a[c]? = some q → CLM m (100 * f) S (10 * f + c) q
theorem CLM.fr {m M : Nat → Nat → Int32} {lo hi hi2 c0 : Nat} {q : Nat × Nat × List TK} (h : CLM m lo hi c0 q) (hh : hi ≤ hi2) (h1 : M 126 c0 = m 126 c0) (h2 : M 127 c0 = m 127 c0) (h3 : M 128 c0 = m 128 c0) (h4 : M 129 c0 = m 129 c0) (h5 : ∀ j, j < hi → M 130 j = m 130 j) : CLM M lo hi2 c0 q := by
  obtain ⟨a1, a2, a3⟩ := h
  refine ⟨by rw [h1]; exact a1, by rw [h2]; exact a2, fun hq => ?_⟩
  obtain ⟨f, f1, f2, f3, f4, f5⟩ := a3 hq
  refine ⟨f, f1, by omega, by rw [h3]; exact f3, by rw [h4]; exact f4, fun j t hj => ?_⟩
  have := (List.getElem?_eq_some_iff.mp hj).1
  rw [h5 (f + j) (by omega)]
  exact f5 j t hj
/-- one clause more: only row c0 of the arrays and tokens from B on have changed -/
theorem GS.more {m0 m M : Nat → Nat → Int32} {f p S q S2 : Nat} {a : CL} {c : Nat × Nat × List TK} (h : GS m0 m f p S a) (ha10 : a.length < 10) (g1 : ∀ x, x ≠ 116 → (x < 126 ∨ 130 < x) → x ≠ 131 → M x = m x) (g2 : ∀ g, (g < 19 ∨ (20 < g ∧ g < 29) ∨ 31 < g) → M 116 g = m 116 g) (g3 : ∀ j, j ≠ 10 * f + a.length → M 126 j = m 126 j ∧ M 127 j = m 127 j ∧ M 128 j = m 128 j ∧ M 129 j = m 129 j) (g4 : ∀ j, j < S → M 130 j = m 130 j) (h19 : M 116 19 = nI q) (h29 : M 116 29 = nI S2) (hS : S ≤ S2) (hS2 : S2 ≤ 100 * f + q) (hc : CLM M (100 * f) S2 (10 * f + a.length) c) : GS m0 M f q S2 (a ++ [c]) := by
  obtain ⟨⟨b1, b2, b3, b4, b5⟩, h2, h3, h4, h5, h6⟩ := h
  refine ⟨⟨fun x x1 x2 => (g1 x x1 (by omega) (by omega)).trans (b1 x x1 x2), fun g hg => (g2 g hg).trans (b2 g hg), fun j hj => by rw [g1 125 (by decide) (by decide) (by decide)]; exact b3 j hj, fun j hj => ?_, fun j hj => (g4 j (by omega)).trans (b5 j hj)⟩, h19, h29, by omega, hS2, fun k qk hk => ?_⟩
  · obtain ⟨e1, e2, e3, e4⟩ := g3 j (by omega)
    obtain ⟨d1, d2, d3, d4⟩ := b4 j hj
    exact ⟨e1.trans d1, e2.trans d2, e3.trans d3, e4.trans d4⟩
  · rcases Nat.lt_trichotomy k a.length with w | w | w
    · rw [List.getElem?_append_left w] at hk
      obtain ⟨e1, e2, e3, e4⟩ := g3 (10 * f + k) (by omega)
      exact (h6 k qk hk).fr hS e1 e2 e3 e4 (fun j hj => g4 j hj)
    · subst w
      rw [List.getElem?_append_right (Nat.le_refl _), Nat.sub_self] at hk
      obtain rfl := Option.some.inj hk
      exact hc
    · rw [List.getElem?_eq_none (by rw [List.length_append, List.length_cons, List.length_nil]; omega)] at hk
      exact absurd hk (by simp)
/-- it went wrong in this clause -/
theorem GS.bad {m0 m M : Nat → Nat → Int32} {f p S : Nat} {a : CL} (h : GS m0 m f p S a) (ha10 : a.length < 10) (g1 : ∀ x, x ≠ 116 → (x < 126 ∨ 130 < x) → x ≠ 131 → M x = m x) (g2 : ∀ g, (g < 19 ∨ (20 < g ∧ g < 29) ∨ 31 < g) → M 116 g = m 116 g) (g3 : ∀ j, j ≠ 10 * f + a.length → M 126 j = m 126 j ∧ M 127 j = m 127 j ∧ M 128 j = m 128 j ∧ M 129 j = m 129 j) (g4 : ∀ j, j < S → M 130 j = m 130 j) : GF m0 M f := by
  obtain ⟨⟨b1, b2, b3, b4, b5⟩, h2, h3, h4, h5, h6⟩ := h
  refine ⟨fun x x1 x2 => (g1 x x1 (by omega) (by omega)).trans (b1 x x1 x2), fun g hg => (g2 g hg).trans (b2 g hg), fun j hj => by rw [g1 125 (by decide) (by decide) (by decide)]; exact b3 j hj, fun j hj => ?_, fun j hj => (g4 j (by omega)).trans (b5 j hj)⟩
  obtain ⟨e1, e2, e3, e4⟩ := g3 j (by omega)
  obtain ⟨d1, d2, d3, d4⟩ := b4 j hj
  exact ⟨e1.trans d1, e2.trans d2, e3.trans d3, e4.trans d4⟩
theorem GS.tx {m0 m : Nat → Nat → Int32} {f p S L : Nat} {T : Nat → Nat} {a : CL} (h : GS m0 m f p S a) (ht : TXM T L m0) : TXM T L m := ⟨ht.1, by rw [h.1.2.1 18 (by omega)]; exact ht.2.1, fun j hj => by rw [h.1.1 124 (by decide) (by decide)]; exact ht.2.2 j hj⟩
theorem GS.lt {m0 m : Nat → Nat → Int32} {f p S : Nat} {a : CL} (h : GS m0 m f p S a) (ht : LT m0) : LT m := fun k hk j hj => by rw [h.1.1 132 (by decide) (by decide)]; exact ht k hk j hj

set_option maxHeartbeats 4000000 in
theorem M_takesClause {G : rn_G} {d : Nat} {κ : Nat × Nat} {Q : Option Value → rn_S → Prop} {mi : Nat → Nat → Int32} {ml : Nat → Nat → Int64} {D : Nat → Nat} {T : Nat → Nat} {L p f S : Nat} {m0 : Nat → Nat → Int32} {a : CL} {r : Bool × Nat × (Nat × Nat × List TK)} (htx : TXM T L m0) (hlt0 : LT m0) (hpL : p ≤ L) (hgs : GS m0 mi f p S a) (hf : f < 6) (ha10 : a.length < 10) {x : Int32} (hx : x = nI (10 * f + a.length)) (hr : clR T L p = some r) (h1 : r.1 = true → ∀ m S2, GS m0 m f r.2.1 S2 (a ++ [r.2.2]) → Q (some (.int 1)) (m, ml, RF D, 164)) (h0 : r.1 = false → ∀ m, GF m0 m f → m 116 19 = nI r.2.1 → Q (some (.int 0)) (m, ml, RF D, 164)) : Call G (d + 5) M_X9_takesClause [.ref 116, .int x] (mi, ml, RF D, 164) κ Q := by
  show Run G _ M_X9_takesClause 0 [.ref 116, .int x] [] _ _ _
  subst hx
  have hL := htx.1
  have htx1 := hgs.tx htx
  have hlt1 := hgs.lt hlt0
  have hat := hgs.2.1
  have h29 := hgs.2.2.1
  have hS1 := hgs.2.2.2.2.1
  have hc0 : 10 * f + a.length < 60 := by omega
  unfold clR at hr
  have wp := wordR_pos (T := T) (wdC (hdK (nxT T L p))) p hpL wdC_ne
  have hk3 : hdK (nxT T L p) ≤ 3 := by unfold hdK; (repeat' split) <;> decide
  obtain ⟨kk, hkk⟩ : ∃ kk, kk = hdK (nxT T L p) := ⟨_, rfl⟩
  rw [← hkk] at hr wp hk3
  obtain ⟨wq, hwq⟩ : ∃ wq, wq = (wordR T L (wdC kk) p).2 := ⟨_, rfl⟩
  rw [← hwq] at hr wp
  refine al_0 dX9_takesClause_0 ?_
  refine il_1 dX9_takesClause_1 ?_
  refine cv_1 dX9_takesClause_2 mm_RX9_353 sh_116 (Nat.le_of_ble_eq_true rfl) ⟨_, rfl, rfl⟩ (Nat.le_of_ble_eq_true rfl) (Nat.le_of_ble_eq_true rfl) (M_takesHead rfl hc0 htx1 hlt1 hat hpL (fun hw => ?_) (fun hw => ?_))
  · rw [← hkk] at hw ⊢
    rw [← hwq]
    rw [if_pos hw] at hr
    have g1 : ∀ x, x ≠ 116 → x ≠ 126 → (rn_u (rn_u mi 126 (10 * f + a.length) (nI kk)) 116 19 (nI wq)) x = mi x := fun x x1 x2 => by rw [rn_u_ne x1, rn_u_ne x2]
    have g2 : ∀ g, g ≠ 19 → (rn_u (rn_u mi 126 (10 * f + a.length) (nI kk)) 116 19 (nI wq)) 116 g = mi 116 g := fun g hg => by simp [rn_u, hg]
    have g3 : ∀ j, j ≠ 10 * f + a.length → (rn_u (rn_u mi 126 (10 * f + a.length) (nI kk)) 116 19 (nI wq)) 126 j = mi 126 j := fun j hj => by simp [rn_u, hj]
    refine R_if_eq (tgt := 15) dX9_takesClause_5 (by decide) (fun q => absurd q (by decide)) (fun _ => ?_)
    refine al_0 dX9_takesClause_8 ?_
    refine cv_0 dX9_takesClause_9 mm_RX9_338 sh_116 (Nat.le_of_ble_eq_true rfl) ⟨_, rfl, rfl⟩ (Nat.le_of_ble_eq_true rfl) (Nat.le_of_ble_eq_true rfl) (M_takesNumber (p := wq) ((htx1.a (by decide) (by decide)).u (by decide)) rn_u_eq wp.2 (fun hn => ?_) (fun n q m3 hn f1 f2 f3 f4 => ?_))
    · rw [hn] at hr
      obtain rfl := Option.some.inj hr
      refine R_if_ne (tgt := 17) dX9_takesClause_12 (by decide) (fun q => absurd q (by decide)) (fun _ => ?_)
      refine R_iconst (v := 0) dX9_takesClause_15 (by decide) ?_
      refine R_ireturn dX9_takesClause_16 ⟨_, rfl, rfl⟩ ?_
      first
        | exact h0 rfl _ (hgs.bad ha10 (fun x x1 x2 x3 => g1 x x1 (by omega)) (fun g hg => g2 g (by omega)) (fun j hj => ⟨g3 j hj, by rw [g1 127 (by decide) (by decide)], by rw [g1 128 (by decide) (by decide)], by rw [g1 129 (by decide) (by decide)]⟩) (fun j hj => by rw [g1 130 (by decide) (by decide)])) rn_u_eq
        | exact h0 rfl _ (hgs.bad ha10 (fun x x1 x2 x3 => k1 x x1 (by omega) (by omega)) (fun g hg => k2 g (by omega) (by omega)) (fun j hj => ⟨(k3 j hj).1, (k3 j hj).2, by rw [k1 128 (by decide) (by decide) (by decide)], by rw [k1 129 (by decide) (by decide) (by decide)]⟩) (fun j hj => by rw [k1 130 (by decide) (by decide) (by decide)])) k6
        | (have hr2 := Option.some.inj hr; subst hr2; exact h0 b5 _ (hgs.bad ha10 (fun x x1 x2 x3 => t1 x x1 (by omega) (by omega) (by omega) (by omega) (by omega) (by omega)) t2 t3 t130) hm5.2.2.2.2)
    · rw [hn] at hr
      dsimp only at hr
      have hns := numR_some hn
      dsimp only at hns
      obtain ⟨m4, hm4⟩ : ∃ m4, m4 = rn_u m3 127 (10 * f + a.length) (nI n) := ⟨_, rfl⟩
      have k1 : ∀ x, x ≠ 116 → x ≠ 126 → x ≠ 127 → m4 x = mi x := fun x x1 x2 x3 => by rw [hm4, rn_u_ne x3, f1 x x1, g1 x x1 x2]
      have k2 : ∀ g, g ≠ 19 → g ≠ 20 → m4 116 g = mi 116 g := fun g x1 x2 => by rw [hm4, rn_u_ne (by decide), f2 g x1 x2, g2 g x1]
      have k3 : ∀ j, j ≠ 10 * f + a.length → m4 126 j = mi 126 j ∧ m4 127 j = mi 127 j := fun j hj => ⟨by rw [hm4, rn_u_ne (by decide), f1 126 (by decide), g3 j hj], by rw [hm4, rn_u_at]; dsimp only; rw [if_neg hj, f1 127 (by decide), g1 127 (by decide) (by decide)]⟩
      have k4 : m4 126 (10 * f + a.length) = nI kk := by rw [hm4, rn_u_ne (by decide), f1 126 (by decide), rn_u_ne (by decide)]; exact rn_u_eq
      have k5 : m4 127 (10 * f + a.length) = nI n := by rw [hm4]; exact rn_u_eq
      have k6 : m4 116 19 = nI q := by rw [hm4, rn_u_ne (by decide)]; exact f3
      have htx4 : TXM T L m4 := ⟨htx1.1, by rw [k2 18 (by decide) (by decide)]; exact htx1.2.1, fun j hj => by rw [k1 124 (by decide) (by decide) (by decide)]; exact htx1.2.2 j hj⟩
      refine R_if_ne (tgt := 17) dX9_takesClause_12 (by decide) (fun _ => ?_) (fun q => absurd q (by decide))
      refine al_0 dX9_takesClause_17 ?_
      refine R_getfr (r := 127) dX9_takesClause_18 fl_RX9_83 rfl sh_116 (Nat.le_of_ble_eq_true rfl) rf_116_24 ?_
      refine il_1 dX9_takesClause_21 ?_
      refine al_0 dX9_takesClause_22 ?_
      refine R_getfi dX9_takesClause_23 fl_RX9_71 rfl sh_116 (Nat.le_of_ble_eq_true rfl) ?_
      refine R_iast dX9_takesClause_26 sh_127 (Nat.le_of_ble_eq_true rfl) (rn_ixe rfl) hc0 ?_
      rw [f4, ← hm4]
      refine al_0 dX9_takesClause_27 ?_
      refine R_getfr (r := 126) dX9_takesClause_28 fl_RX9_80 rfl sh_116 (Nat.le_of_ble_eq_true rfl) rf_116_23 ?_
      refine il_1 dX9_takesClause_31 ?_
      refine R_iald dX9_takesClause_32 sh_126 (Nat.le_of_ble_eq_true rfl) (rn_ixe rfl) hc0 ?_
      rw [k4]
      refine R_iconst (v := 2) dX9_takesClause_33 (by decide) ?_
      refine R_icmp_ge (tgt := 54) dX9_takesClause_34 (by decide) (fun c34 => ?_) (fun c34 => ?_)
      · refine R_iconst (v := 1) dX9_takesClause_54 (by decide) ?_
        refine R_goto (tgt := 59) dX9_takesClause_55 (by decide) ?_
        refine R_ireturn dX9_takesClause_59 ⟨_, rfl, rfl⟩ ?_
        first
          | (have hk2 : 2 ≤ kk := (sm_le_iff (a := 2) (by decide) (by omega)).mp (by first | exact c34 | exact Int32.not_lt.mp c34); rw [if_pos hk2] at hr; obtain rfl := Option.some.inj hr; exact h1 rfl _ S (hgs.more ha10 (fun x x1 x2 x3 => k1 x x1 (by omega) (by omega)) (fun g hg => k2 g (by omega) (by omega)) (fun j hj => ⟨(k3 j hj).1, (k3 j hj).2, by rw [k1 128 (by decide) (by decide) (by decide)], by rw [k1 129 (by decide) (by decide) (by decide)]⟩) (fun j hj => by rw [k1 130 (by decide) (by decide) (by decide)]) k6 (by rw [k2 29 (by decide) (by decide)]; exact h29) (Nat.le_refl S) (by dsimp only; omega) ⟨k4, k5, fun q => absurd q (show ¬ kk ≤ 1 by omega)⟩))
          | (have hr2 := Option.some.inj hr; subst hr2; exact h1 b5 _ (S + s.2.2.length) (hgs.more ha10 (fun x x1 x2 x3 => t1 x x1 (by omega) (by omega) (by omega) (by omega) (by omega) (by omega)) t2 t3 t130 hm5.2.2.2.2 hsf.2.2.2.2.2.1 (Nat.le_add_right _ _) (by dsimp only; omega) ⟨by rw [t126]; exact k4, by rw [t127]; exact k5, fun _ => ⟨S, hgs.2.2.2.1, Nat.le_refl _, by rw [t128, if_pos rfl], e129, hsf.2.2.2.2.2.2.2.2.1⟩⟩))
      · have hk1 : kk < 2 := by first | exact (sm_lt_iff (b := 2) (by omega) (by decide)).mp c34 | exact (sm_lt_iff (b := 2) (by omega) (by decide)).mp (Int32.not_le.mp c34)
        refine al_0 dX9_takesClause_37 ?_
        refine R_bipush (v := 32) dX9_takesClause_38 (by decide) ?_
        refine cv_1 dX9_takesClause_40 mm_RX9_323 sh_116 (Nat.le_of_ble_eq_true rfl) ⟨_, rfl, rfl⟩ (Nat.le_of_ble_eq_true rfl) (Nat.le_of_ble_eq_true rfl) (M_takes htx4 k6 hns.2.1 (c := 32) rfl (by decide) (fun s2 l2 => ?_) (fun s2 => ?_))
        · rw [if_neg (show ¬ 2 ≤ kk by omega), if_pos s2] at hr
          obtain ⟨s, es, hr⟩ := bind_of hr
          have okr := rd_ok T L 404 3 0 (q + 1) [] s (by decide) l2 es
          unfold okR at okr
          simp only [List.length_nil] at okr
          refine R_if_eq (tgt := 58) dX9_takesClause_43 (by decide) (fun q => absurd q (by decide)) (fun _ => ?_)
          refine al_0 dX9_takesClause_46 ?_
          refine il_1 dX9_takesClause_47 ?_
          refine cv_1 dX9_takesClause_48 mm_RX9_356 sh_116 (Nat.le_of_ble_eq_true rfl) ⟨_, rfl, rfl⟩ (Nat.le_of_ble_eq_true rfl) (Nat.le_of_ble_eq_true rfl) (M_takesE (B := S) (F0 := 100 * f) (htx4.u (by decide)) rn_u_eq l2 hc0 (by rw [← h29, ← k2 29 (by decide) (by decide)]; simp [rn_u]) (by omega) (by omega) es (fun b5 m5 hm5 e129 => ?_) (fun b5 m5 hm5 => ?_))
          · have hsf := hm5
            have hm5 := hm5.f
            have t1 : ∀ x, x ≠ 116 → x ≠ 126 → x ≠ 127 → x ≠ 128 → x ≠ 129 → x ≠ 130 → x ≠ 131 → m5 x = mi x := fun x x1 x2 x3 x4 x5 x6 x7 => by rw [hm5.1 x x1 x5 x6 x7, rn_u_ne x4, rn_u_ne x1, rn_u_ne x1, rn_u_ne x1, k1 x x1 x2 x3]
            have t2 : ∀ g, (g < 19 ∨ (20 < g ∧ g < 29) ∨ 31 < g) → m5 116 g = mi 116 g := fun g hg => by rw [hm5.2.2.2.1 g hg, rn_u_ne (by decide), ← k2 g (by omega) (by omega)]; simp only [rn_u, true_and]; rw [if_neg (by omega), if_neg (by omega), if_neg (by omega)]
            have t126 : m5 126 = m4 126 := by rw [hm5.1 126 (by decide) (by decide) (by decide) (by decide)]; rfl
            have t127 : m5 127 = m4 127 := by rw [hm5.1 127 (by decide) (by decide) (by decide) (by decide)]; rfl
            have t128 : ∀ j, m5 128 j = if j = 10 * f + a.length then nI S else mi 128 j := fun j => by rw [hm5.1 128 (by decide) (by decide) (by decide) (by decide), rn_u_at]; dsimp only; rw [rn_u_ne (show (128 : Nat) ≠ 116 by decide), rn_u_ne (show (128 : Nat) ≠ 116 by decide), rn_u_ne (show (128 : Nat) ≠ 116 by decide), k1 128 (by decide) (by decide) (by decide)]
            have t129 : ∀ j, j ≠ 10 * f + a.length → m5 129 j = mi 129 j := fun j hj => by rw [hm5.2.1 j hj, rn_u_ne (by decide), rn_u_ne (by decide), rn_u_ne (by decide), rn_u_ne (by decide), k1 129 (by decide) (by decide) (by decide)]
            have t130 : ∀ j, j < S → m5 130 j = mi 130 j := fun j hj => by rw [hm5.2.2.1 j hj, rn_u_ne (by decide), rn_u_ne (by decide), rn_u_ne (by decide), rn_u_ne (by decide), k1 130 (by decide) (by decide) (by decide)]
            have t3 : ∀ j, j ≠ 10 * f + a.length → m5 126 j = mi 126 j ∧ m5 127 j = mi 127 j ∧ m5 128 j = mi 128 j ∧ m5 129 j = mi 129 j := fun j hj => ⟨by rw [t126]; exact (k3 j hj).1, by rw [t127]; exact (k3 j hj).2, by rw [t128, if_neg hj], t129 j hj⟩
            refine R_if_eq (tgt := 58) dX9_takesClause_51 (by decide) (fun q => absurd q (by decide)) (fun _ => ?_)
            refine R_iconst (v := 1) dX9_takesClause_54 (by decide) ?_
            refine R_goto (tgt := 59) dX9_takesClause_55 (by decide) ?_
            refine R_ireturn dX9_takesClause_59 ⟨_, rfl, rfl⟩ ?_
            first
              | (have hk2 : 2 ≤ kk := (sm_le_iff (a := 2) (by decide) (by omega)).mp (by first | exact c34 | exact Int32.not_lt.mp c34); rw [if_pos hk2] at hr; obtain rfl := Option.some.inj hr; exact h1 rfl _ S (hgs.more ha10 (fun x x1 x2 x3 => k1 x x1 (by omega) (by omega)) (fun g hg => k2 g (by omega) (by omega)) (fun j hj => ⟨(k3 j hj).1, (k3 j hj).2, by rw [k1 128 (by decide) (by decide) (by decide)], by rw [k1 129 (by decide) (by decide) (by decide)]⟩) (fun j hj => by rw [k1 130 (by decide) (by decide) (by decide)]) k6 (by rw [k2 29 (by decide) (by decide)]; exact h29) (Nat.le_refl S) (by dsimp only; omega) ⟨k4, k5, fun q => absurd q (show ¬ kk ≤ 1 by omega)⟩))
              | (have hr2 := Option.some.inj hr; subst hr2; exact h1 b5 _ (S + s.2.2.length) (hgs.more ha10 (fun x x1 x2 x3 => t1 x x1 (by omega) (by omega) (by omega) (by omega) (by omega) (by omega)) t2 t3 t130 hm5.2.2.2.2 hsf.2.2.2.2.2.1 (Nat.le_add_right _ _) (by dsimp only; omega) ⟨by rw [t126]; exact k4, by rw [t127]; exact k5, fun _ => ⟨S, hgs.2.2.2.1, Nat.le_refl _, by rw [t128, if_pos rfl], e129, hsf.2.2.2.2.2.2.2.2.1⟩⟩))
          · have t1 : ∀ x, x ≠ 116 → x ≠ 126 → x ≠ 127 → x ≠ 128 → x ≠ 129 → x ≠ 130 → x ≠ 131 → m5 x = mi x := fun x x1 x2 x3 x4 x5 x6 x7 => by rw [hm5.1 x x1 x5 x6 x7, rn_u_ne x4, rn_u_ne x1, rn_u_ne x1, rn_u_ne x1, k1 x x1 x2 x3]
            have t2 : ∀ g, (g < 19 ∨ (20 < g ∧ g < 29) ∨ 31 < g) → m5 116 g = mi 116 g := fun g hg => by rw [hm5.2.2.2.1 g hg, rn_u_ne (by decide), ← k2 g (by omega) (by omega)]; simp only [rn_u, true_and]; rw [if_neg (by omega), if_neg (by omega), if_neg (by omega)]
            have t126 : m5 126 = m4 126 := by rw [hm5.1 126 (by decide) (by decide) (by decide) (by decide)]; rfl
            have t127 : m5 127 = m4 127 := by rw [hm5.1 127 (by decide) (by decide) (by decide) (by decide)]; rfl
            have t128 : ∀ j, m5 128 j = if j = 10 * f + a.length then nI S else mi 128 j := fun j => by rw [hm5.1 128 (by decide) (by decide) (by decide) (by decide), rn_u_at]; dsimp only; rw [rn_u_ne (show (128 : Nat) ≠ 116 by decide), rn_u_ne (show (128 : Nat) ≠ 116 by decide), rn_u_ne (show (128 : Nat) ≠ 116 by decide), k1 128 (by decide) (by decide) (by decide)]
            have t129 : ∀ j, j ≠ 10 * f + a.length → m5 129 j = mi 129 j := fun j hj => by rw [hm5.2.1 j hj, rn_u_ne (by decide), rn_u_ne (by decide), rn_u_ne (by decide), rn_u_ne (by decide), k1 129 (by decide) (by decide) (by decide)]
            have t130 : ∀ j, j < S → m5 130 j = mi 130 j := fun j hj => by rw [hm5.2.2.1 j hj, rn_u_ne (by decide), rn_u_ne (by decide), rn_u_ne (by decide), rn_u_ne (by decide), k1 130 (by decide) (by decide) (by decide)]
            have t3 : ∀ j, j ≠ 10 * f + a.length → m5 126 j = mi 126 j ∧ m5 127 j = mi 127 j ∧ m5 128 j = mi 128 j ∧ m5 129 j = mi 129 j := fun j hj => ⟨by rw [t126]; exact (k3 j hj).1, by rw [t127]; exact (k3 j hj).2, by rw [t128, if_neg hj], t129 j hj⟩
            refine R_if_eq (tgt := 58) dX9_takesClause_51 (by decide) (fun _ => ?_) (fun q => absurd q (by decide))
            refine R_iconst (v := 0) dX9_takesClause_58 (by decide) ?_
            refine R_ireturn dX9_takesClause_59 ⟨_, rfl, rfl⟩ ?_
            first
              | exact h0 rfl _ (hgs.bad ha10 (fun x x1 x2 x3 => g1 x x1 (by omega)) (fun g hg => g2 g (by omega)) (fun j hj => ⟨g3 j hj, by rw [g1 127 (by decide) (by decide)], by rw [g1 128 (by decide) (by decide)], by rw [g1 129 (by decide) (by decide)]⟩) (fun j hj => by rw [g1 130 (by decide) (by decide)])) rn_u_eq
              | exact h0 rfl _ (hgs.bad ha10 (fun x x1 x2 x3 => k1 x x1 (by omega) (by omega)) (fun g hg => k2 g (by omega) (by omega)) (fun j hj => ⟨(k3 j hj).1, (k3 j hj).2, by rw [k1 128 (by decide) (by decide) (by decide)], by rw [k1 129 (by decide) (by decide) (by decide)]⟩) (fun j hj => by rw [k1 130 (by decide) (by decide) (by decide)])) k6
              | (have hr2 := Option.some.inj hr; subst hr2; exact h0 b5 _ (hgs.bad ha10 (fun x x1 x2 x3 => t1 x x1 (by omega) (by omega) (by omega) (by omega) (by omega) (by omega)) t2 t3 t130) hm5.2.2.2.2)
        · rw [if_neg (show ¬ 2 ≤ kk by omega), if_neg s2] at hr
          obtain rfl := Option.some.inj hr
          refine R_if_eq (tgt := 58) dX9_takesClause_43 (by decide) (fun _ => ?_) (fun q => absurd q (by decide))
          refine R_iconst (v := 0) dX9_takesClause_58 (by decide) ?_
          refine R_ireturn dX9_takesClause_59 ⟨_, rfl, rfl⟩ ?_
          first
            | exact h0 rfl _ (hgs.bad ha10 (fun x x1 x2 x3 => g1 x x1 (by omega)) (fun g hg => g2 g (by omega)) (fun j hj => ⟨g3 j hj, by rw [g1 127 (by decide) (by decide)], by rw [g1 128 (by decide) (by decide)], by rw [g1 129 (by decide) (by decide)]⟩) (fun j hj => by rw [g1 130 (by decide) (by decide)])) rn_u_eq
            | exact h0 rfl _ (hgs.bad ha10 (fun x x1 x2 x3 => k1 x x1 (by omega) (by omega)) (fun g hg => k2 g (by omega) (by omega)) (fun j hj => ⟨(k3 j hj).1, (k3 j hj).2, by rw [k1 128 (by decide) (by decide) (by decide)], by rw [k1 129 (by decide) (by decide) (by decide)]⟩) (fun j hj => by rw [k1 130 (by decide) (by decide) (by decide)])) k6
            | (have hr2 := Option.some.inj hr; subst hr2; exact h0 b5 _ (hgs.bad ha10 (fun x x1 x2 x3 => t1 x x1 (by omega) (by omega) (by omega) (by omega) (by omega) (by omega)) t2 t3 t130) hm5.2.2.2.2)
  · rw [← hkk] at hw ⊢
    rw [← hwq]
    rw [if_neg (fun q => by rw [hw] at q; exact absurd q (by decide))] at hr
    obtain rfl := Option.some.inj hr
    have g1 : ∀ x, x ≠ 116 → x ≠ 126 → (rn_u (rn_u mi 126 (10 * f + a.length) (nI kk)) 116 19 (nI wq)) x = mi x := fun x x1 x2 => by rw [rn_u_ne x1, rn_u_ne x2]
    have g2 : ∀ g, g ≠ 19 → (rn_u (rn_u mi 126 (10 * f + a.length) (nI kk)) 116 19 (nI wq)) 116 g = mi 116 g := fun g hg => by simp [rn_u, hg]
    have g3 : ∀ j, j ≠ 10 * f + a.length → (rn_u (rn_u mi 126 (10 * f + a.length) (nI kk)) 116 19 (nI wq)) 126 j = mi 126 j := fun j hj => by simp [rn_u, hj]
    refine R_if_eq (tgt := 15) dX9_takesClause_5 (by decide) (fun _ => ?_) (fun q => absurd q (by decide))
    refine R_iconst (v := 0) dX9_takesClause_15 (by decide) ?_
    refine R_ireturn dX9_takesClause_16 ⟨_, rfl, rfl⟩ ?_
    first
      | exact h0 rfl _ (hgs.bad ha10 (fun x x1 x2 x3 => g1 x x1 (by omega)) (fun g hg => g2 g (by omega)) (fun j hj => ⟨g3 j hj, by rw [g1 127 (by decide) (by decide)], by rw [g1 128 (by decide) (by decide)], by rw [g1 129 (by decide) (by decide)]⟩) (fun j hj => by rw [g1 130 (by decide) (by decide)])) rn_u_eq
      | exact h0 rfl _ (hgs.bad ha10 (fun x x1 x2 x3 => k1 x x1 (by omega) (by omega)) (fun g hg => k2 g (by omega) (by omega)) (fun j hj => ⟨(k3 j hj).1, (k3 j hj).2, by rw [k1 128 (by decide) (by decide) (by decide)], by rw [k1 129 (by decide) (by decide) (by decide)]⟩) (fun j hj => by rw [k1 130 (by decide) (by decide) (by decide)])) k6
      | (have hr2 := Option.some.inj hr; subst hr2; exact h0 b5 _ (hgs.bad ha10 (fun x x1 x2 x3 => t1 x x1 (by omega) (by omega) (by omega) (by omega) (by omega) (by omega)) t2 t3 t130) hm5.2.2.2.2)
