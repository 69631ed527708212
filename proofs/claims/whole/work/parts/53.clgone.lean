/-! the class: gone, best -/
theorem mins_0 {er : (Nat → Int32) → Int32} : ∀ (n : Nat) (w : WD), (minsW er n w).1 0 = w.1 0
  | 0, w => rfl
  | n + 1, w => by
    refine (mins_0 n (minuteW er w)).trans ?_
    show (if (0 : Nat) = 6 then w.1 6 + 1 else roundF w.1 w.2.1 w.2.2.1 0) = w.1 0
    rw [if_neg (by decide)]
    unfold roundF
    split
    · rw [if_neg (by decide)]
    · split
      · split
        · rw [if_neg (by decide), if_neg (by decide), if_neg (by decide)]
        · rw [if_neg (by decide)]
      · rfl

set_option maxHeartbeats 4000000 in
theorem L_goneC {G : rn_G} {d : Nat} {κ : Nat × Nat} {Q : Option Value → rn_S → Prop} {mi : Nat → Nat → Int32} {ml : Nat → Nat → Int64} {D : Nat → Nat} {w : WD} {c k : Nat} {ds : Nat → CL} {sl : SL} {el bl : EL} {im : IM} {T : Nat → Nat} {L : Nat} {ac : List Int32} {tp : TP} (hv : IV w c k ds sl el bl im ac tp) (hc : CR w c k ds sl el bl im T L ac tp mi ml D) {x : Int32} {N P : Nat} (hg : mi 2 4 = nI N) (hN : N ≤ 6) (hpp : mi 2 6 = nI P) (hP : P ≤ 6) {V : WD} (h : ∀ m l D', HI mi m ml l → CR w c k ds sl el bl im T L ac tp m l D' → Q (some (.int (if x = 0 then outW V else V.1 1))) (m, l, RF D', 164)) : ∀ (l : EL) (j : Nat) (y : Int32) (v3 : Value) (m : Nat → Nat → Int32) (D' : Nat → Nat) (v : WD), j + l.length = el.length → (∀ i q, l[i]? = some q → el[j + i]? = some q) → y = nI j → TRY mi m D D' c v → WJ (9999 + j) v → v.1 0 = nI N → v.1 2 = nI P → evF (erA (cuL ds c)) l v = V → Run G (d + 29) M_X8_gone 22 [.ref 1, .int x, .int y, v3] [] (m, ml, RF D', 164) κ Q := by
  have hck := hv.2.1
  have hk6 := hv.2.2.1
  obtain ⟨cp1, -⟩ := cuA_pd (c := c) (by omega)
  have hel := hc.2.2.2.1
  have hel10 := hv.1.2.2.2.1
  have hw0 : w.1 0 = nI N := hc.1.cells.1.trans hg
  have hw2 : w.1 2 = nI P := hc.1.cells.2.2.1.trans hpp
  intro l
  induction l with
  | nil =>
    intro j y v3 m D' v hj hs hy ht hwv v0 v2 hV
    have hjl : j = el.length := hj
    have hV0 : v = V := hV
    have e44 : m 44 3 = nI el.length := by rw [ht.1.1 44 (by omega)]; exact hel.1
    subst hV0
    refine il_2 dX8_gone_22 ?_
    refine al_0 dX8_gone_23 ?_
    refine R_getfr (r := 44) dX8_gone_24 fl_RX8_30 rfl sh_1 (Nat.le_of_ble_eq_true rfl) rf_1_3 ?_
    refine R_getfi dX8_gone_27 fl_RX8_252 rfl sh_44 (Nat.le_of_ble_eq_true rfl) ?_
    refine R_icmp_ge (tgt := 133) dX8_gone_30 (by decide) (fun c30 => ?_) (fun q => absurd q (not_not_intro (by rw [hy, hjl, e44]; exact Int32.le_refl _)))
    refine il_1 dX8_gone_133 ?_
    refine R_if_ne (tgt := 147) dX8_gone_134 (by decide) (fun c134 => ?_) (fun c134 => ?_)
    · refine al_0 dX8_gone_147 ?_
      refine R_getfr (r := 21) dX8_gone_148 fl_RX8_18 rfl sh_1 (Nat.le_of_ble_eq_true rfl) rf_1_1 ?_
      refine R_getfi dX8_gone_151 fl_RX8_200 rfl sh_21 (Nat.le_of_ble_eq_true rfl) ?_
      refine R_ireturn dX8_gone_154 ⟨_, rfl, rfl⟩ ?_
      first | (rw [if_pos c134] at h; exact h m ml D' (ht.hi ml) (ht.cr hv hc)) | (rw [if_neg c134, ← ht.2.1] at h; exact h m ml D' (ht.hi ml) (ht.cr hv hc))
    · refine al_0 dX8_gone_137 ?_
      refine R_getfr (r := 21) dX8_gone_138 fl_RX8_18 rfl sh_1 (Nat.le_of_ble_eq_true rfl) rf_1_1 ?_
      refine cv_0 dX8_gone_141 mm_RX8_203 sh_21 (Nat.le_of_ble_eq_true rfl) ⟨_, rfl, rfl⟩ (Nat.le_of_ble_eq_true rfl) (Nat.le_of_ble_eq_true rfl) (K_tout hv hc ht hwv ?_)
      refine R_goto (tgt := 154) dX8_gone_144 (by decide) ?_
      refine R_ireturn dX8_gone_154 ⟨_, rfl, rfl⟩ ?_
      first | (rw [if_pos c134] at h; exact h m ml D' (ht.hi ml) (ht.cr hv hc)) | (rw [if_neg c134, ← ht.2.1] at h; exact h m ml D' (ht.hi ml) (ht.cr hv hc))
  | cons q l ih =>
    intro j y v3 m D' v hj hs hy ht hwv v0 v2 hV
    rw [List.length_cons] at hj
    have hq := hs 0 q rfl
    rw [Nat.add_zero] at hq
    obtain ⟨b1, b2⟩ := hel.2 j q hq
    obtain ⟨r1, r2, r3⟩ := hv.1.2.2.2.2.1 q (List.mem_of_getElem? hq)
    rw [hw0, nnI (by omega)] at r2
    rw [hw2, nnI (by omega)] at r3
    have e44 : m 44 3 = nI el.length := by rw [ht.1.1 44 (by omega)]; exact hel.1
    have e45 : m 45 j = nI q.1 := by rw [ht.1.1 45 (by omega)]; exact b1
    have e46 : 1 ≤ q.1 → m 46 j = nI q.2 := fun q1 => by rw [ht.1.1 46 (by omega)]; exact b2 q1
    have hj10 : j < 10 := by omega
    have hs2 : ∀ i u, l[i]? = some u → el[j + 1 + i]? = some u := fun i u hi => by rw [show j + 1 + i = j + (i + 1) by omega]; exact hs (i + 1) u hi
    have hVc : evF (erA (cuL ds c)) l (evW (erA (cuL ds c)) q v) = V := hV
    obtain ⟨P1, hP1, h16, v2'⟩ := ht.n hwv
    have h16 : m 21 6 = nI P := by rw [h16, ← v2', v2]
    have cases4 : q.1 = 0 ∨ q.1 = 1 ∨ q.1 = 2 ∨ q.1 = 3 := by omega
    rcases cases4 with e | e | e | e
    · rw [e] at e45
      have hev : evW (erA (cuL ds c)) q v = minuteW (erA (cuL ds c)) v := by unfold evW; rw [if_pos e]
      rw [hev] at hVc
      refine il_2 dX8_gone_22 ?_
      refine al_0 dX8_gone_23 ?_
      refine R_getfr (r := 44) dX8_gone_24 fl_RX8_30 rfl sh_1 (Nat.le_of_ble_eq_true rfl) rf_1_3 ?_
      refine R_getfi dX8_gone_27 fl_RX8_252 rfl sh_44 (Nat.le_of_ble_eq_true rfl) ?_
      refine R_icmp_ge (tgt := 133) dX8_gone_30 (by decide) (fun q => absurd q (by rw [hy, e44]; exact nI_ge (by omega) (by omega))) (fun c30 => ?_)
      refine al_0 dX8_gone_33 ?_
      refine R_getfr (r := 44) dX8_gone_34 fl_RX8_30 rfl sh_1 (Nat.le_of_ble_eq_true rfl) rf_1_3 ?_
      refine R_getfr (r := 46) dX8_gone_37 fl_RX8_287 rfl sh_44 (Nat.le_of_ble_eq_true rfl) rf_44_1 ?_
      refine il_2 dX8_gone_40 ?_
      refine R_iald dX8_gone_41 sh_46 (Nat.le_of_ble_eq_true rfl) (rn_ixe hy) hj10 ?_
      refine is_3 dX8_gone_42 rfl ?_
      refine al_0 dX8_gone_43 ?_
      refine R_getfr (r := 44) dX8_gone_44 fl_RX8_30 rfl sh_1 (Nat.le_of_ble_eq_true rfl) rf_1_3 ?_
      refine R_getfr (r := 45) dX8_gone_47 fl_RX8_284 rfl sh_44 (Nat.le_of_ble_eq_true rfl) rf_44_0 ?_
      refine il_2 dX8_gone_50 ?_
      refine R_iald dX8_gone_51 sh_45 (Nat.le_of_ble_eq_true rfl) (rn_ixe hy) hj10 ?_
      refine R_tswI (tgt := 80) dX8_gone_52 0 e45 (by decide) (by decide) rfl (by decide) ?_
      refine al_0 dX8_gone_80 ?_
      refine R_getfr (r := 21) dX8_gone_81 fl_RX8_18 rfl sh_1 (Nat.le_of_ble_eq_true rfl) rf_1_1 ?_
      refine cv_0 dX8_gone_84 mm_RX8_217 sh_21 (Nat.le_of_ble_eq_true rfl) ⟨_, rfl, rfl⟩ (Nat.le_of_ble_eq_true rfl) (Nat.le_of_ble_eq_true rfl) (K_tmin hv hc ht hwv (by omega) (fun m2 ht2 => ?_))
      refine R_goto (tgt := 127) dX8_gone_87 (by decide) ?_
      refine ii_2 (v := _ + 1) dX8_gone_127 rfl (by rfl) ?_
      refine R_goto (tgt := 22) dX8_gone_130 (by decide) ?_
      exact ih (j + 1) _ _ m2 D' _ (by omega) hs2 (by rw [hy]; exact sm_add j 1) ht2 (hwv.minute (by omega)) ((mins_0 1 v).trans v0) ((mins_2 1 v).trans v2) hVc
    · rw [e] at e45
      have hev : evW (erA (cuL ds c)) q v = shutW (nI q.2) 0 v := by unfold evW; rw [if_neg (by omega), if_pos e]
      rw [hev] at hVc
      have e46 := e46 (by omega)
      refine il_2 dX8_gone_22 ?_
      refine al_0 dX8_gone_23 ?_
      refine R_getfr (r := 44) dX8_gone_24 fl_RX8_30 rfl sh_1 (Nat.le_of_ble_eq_true rfl) rf_1_3 ?_
      refine R_getfi dX8_gone_27 fl_RX8_252 rfl sh_44 (Nat.le_of_ble_eq_true rfl) ?_
      refine R_icmp_ge (tgt := 133) dX8_gone_30 (by decide) (fun q => absurd q (by rw [hy, e44]; exact nI_ge (by omega) (by omega))) (fun c30 => ?_)
      refine al_0 dX8_gone_33 ?_
      refine R_getfr (r := 44) dX8_gone_34 fl_RX8_30 rfl sh_1 (Nat.le_of_ble_eq_true rfl) rf_1_3 ?_
      refine R_getfr (r := 46) dX8_gone_37 fl_RX8_287 rfl sh_44 (Nat.le_of_ble_eq_true rfl) rf_44_1 ?_
      refine il_2 dX8_gone_40 ?_
      refine R_iald dX8_gone_41 sh_46 (Nat.le_of_ble_eq_true rfl) (rn_ixe hy) hj10 ?_
      refine is_3 dX8_gone_42 rfl ?_
      refine al_0 dX8_gone_43 ?_
      refine R_getfr (r := 44) dX8_gone_44 fl_RX8_30 rfl sh_1 (Nat.le_of_ble_eq_true rfl) rf_1_3 ?_
      refine R_getfr (r := 45) dX8_gone_47 fl_RX8_284 rfl sh_44 (Nat.le_of_ble_eq_true rfl) rf_44_0 ?_
      refine il_2 dX8_gone_50 ?_
      refine R_iald dX8_gone_51 sh_45 (Nat.le_of_ble_eq_true rfl) (rn_ixe hy) hj10 ?_
      refine R_tswI (tgt := 90) dX8_gone_52 1 e45 (by decide) (by decide) rfl (by decide) ?_
      refine al_0 dX8_gone_90 ?_
      refine R_getfr (r := 21) dX8_gone_91 fl_RX8_18 rfl sh_1 (Nat.le_of_ble_eq_true rfl) rf_1_1 ?_
      refine il_3 dX8_gone_94 ?_
      refine R_iconst (v := 0) dX8_gone_95 (by decide) ?_
      refine cv_2 dX8_gone_96 mm_RX8_148 sh_21 (Nat.le_of_ble_eq_true rfl) ⟨_, rfl, rfl⟩ (Nat.le_of_ble_eq_true rfl) (Nat.le_of_ble_eq_true rfl) (K_setShut (b := 21) (Or.inr (Or.inl rfl)) ?_)
      rw [if_pos rfl, e46]
      refine R_goto (tgt := 127) dX8_gone_99 (by decide) ?_
      refine ii_2 (v := _ + 1) dX8_gone_127 rfl (by rfl) ?_
      refine R_goto (tgt := 22) dX8_gone_130 (by decide) ?_
      have ht2 : TRY mi (rn_u m 21 5 (clrB (m 21 5) (nI q.2))) D D' c (shutW (nI q.2) 0 v) := ht.next (PF.of (fun a ha => by rw [rn_u_ne (by omega)])) (by have z := wC_shut (mi := m) (k := cuA c) (g := nI q.2) (z := 0) (Or.inr (Or.inl rfl)) cp1 (by rw [h16, nnI (by omega)]; exact hP); rw [if_pos rfl] at z; rw [z, ht.2.1])
      exact ih (j + 1) _ _ _ D' _ (by omega) hs2 (by rw [hy]; exact sm_add j 1) ht2 ((hwv.shut v0 hN (r2 (by omega))).mono (by omega)) v0 v2 hVc
    · rw [e] at e45
      have hev : evW (erA (cuL ds c)) q v = shutW (nI q.2) 1 v := by unfold evW; rw [if_neg (by omega), if_neg (by omega), if_pos e]
      rw [hev] at hVc
      have e46 := e46 (by omega)
      refine il_2 dX8_gone_22 ?_
      refine al_0 dX8_gone_23 ?_
      refine R_getfr (r := 44) dX8_gone_24 fl_RX8_30 rfl sh_1 (Nat.le_of_ble_eq_true rfl) rf_1_3 ?_
      refine R_getfi dX8_gone_27 fl_RX8_252 rfl sh_44 (Nat.le_of_ble_eq_true rfl) ?_
      refine R_icmp_ge (tgt := 133) dX8_gone_30 (by decide) (fun q => absurd q (by rw [hy, e44]; exact nI_ge (by omega) (by omega))) (fun c30 => ?_)
      refine al_0 dX8_gone_33 ?_
      refine R_getfr (r := 44) dX8_gone_34 fl_RX8_30 rfl sh_1 (Nat.le_of_ble_eq_true rfl) rf_1_3 ?_
      refine R_getfr (r := 46) dX8_gone_37 fl_RX8_287 rfl sh_44 (Nat.le_of_ble_eq_true rfl) rf_44_1 ?_
      refine il_2 dX8_gone_40 ?_
      refine R_iald dX8_gone_41 sh_46 (Nat.le_of_ble_eq_true rfl) (rn_ixe hy) hj10 ?_
      refine is_3 dX8_gone_42 rfl ?_
      refine al_0 dX8_gone_43 ?_
      refine R_getfr (r := 44) dX8_gone_44 fl_RX8_30 rfl sh_1 (Nat.le_of_ble_eq_true rfl) rf_1_3 ?_
      refine R_getfr (r := 45) dX8_gone_47 fl_RX8_284 rfl sh_44 (Nat.le_of_ble_eq_true rfl) rf_44_0 ?_
      refine il_2 dX8_gone_50 ?_
      refine R_iald dX8_gone_51 sh_45 (Nat.le_of_ble_eq_true rfl) (rn_ixe hy) hj10 ?_
      refine R_tswI (tgt := 102) dX8_gone_52 2 e45 (by decide) (by decide) rfl (by decide) ?_
      refine al_0 dX8_gone_102 ?_
      refine R_getfr (r := 21) dX8_gone_103 fl_RX8_18 rfl sh_1 (Nat.le_of_ble_eq_true rfl) rf_1_1 ?_
      refine il_3 dX8_gone_106 ?_
      refine R_iconst (v := 1) dX8_gone_107 (by decide) ?_
      refine cv_2 dX8_gone_108 mm_RX8_148 sh_21 (Nat.le_of_ble_eq_true rfl) ⟨_, rfl, rfl⟩ (Nat.le_of_ble_eq_true rfl) (Nat.le_of_ble_eq_true rfl) (K_setShut (b := 21) (Or.inr (Or.inl rfl)) ?_)
      rw [if_neg (show ¬ (1 : Int32) = 0 by decide), e46]
      refine R_goto (tgt := 127) dX8_gone_111 (by decide) ?_
      refine ii_2 (v := _ + 1) dX8_gone_127 rfl (by rfl) ?_
      refine R_goto (tgt := 22) dX8_gone_130 (by decide) ?_
      have ht2 : TRY mi (rn_u m 21 5 (setB (m 21 5) (nI q.2))) D D' c (shutW (nI q.2) 1 v) := ht.next (PF.of (fun a ha => by rw [rn_u_ne (by omega)])) (by have z := wC_shut (mi := m) (k := cuA c) (g := nI q.2) (z := 1) (Or.inr (Or.inl rfl)) cp1 (by rw [h16, nnI (by omega)]; exact hP); rw [if_neg (show ¬ (1 : Int32) = 0 by decide)] at z; rw [z, ht.2.1])
      exact ih (j + 1) _ _ _ D' _ (by omega) hs2 (by rw [hy]; exact sm_add j 1) ht2 ((hwv.shut v0 hN (r2 (by omega))).mono (by omega)) v0 v2 hVc
    · rw [e] at e45
      have hev : evW (erA (cuL ds c)) q v = callW q.2 1 v := by unfold evW; rw [if_neg (by omega), if_neg (by omega), if_neg (by omega)]
      rw [hev] at hVc
      have e46 := e46 (by omega)
      have hq6 : q.2 < 6 := by have := r3 e; omega
      have htq : PQ (21 + 7 + 2 * q.2) := pb_q (Or.inr (Or.inl rfl)) hq6
      refine il_2 dX8_gone_22 ?_
      refine al_0 dX8_gone_23 ?_
      refine R_getfr (r := 44) dX8_gone_24 fl_RX8_30 rfl sh_1 (Nat.le_of_ble_eq_true rfl) rf_1_3 ?_
      refine R_getfi dX8_gone_27 fl_RX8_252 rfl sh_44 (Nat.le_of_ble_eq_true rfl) ?_
      refine R_icmp_ge (tgt := 133) dX8_gone_30 (by decide) (fun q => absurd q (by rw [hy, e44]; exact nI_ge (by omega) (by omega))) (fun c30 => ?_)
      refine al_0 dX8_gone_33 ?_
      refine R_getfr (r := 44) dX8_gone_34 fl_RX8_30 rfl sh_1 (Nat.le_of_ble_eq_true rfl) rf_1_3 ?_
      refine R_getfr (r := 46) dX8_gone_37 fl_RX8_287 rfl sh_44 (Nat.le_of_ble_eq_true rfl) rf_44_1 ?_
      refine il_2 dX8_gone_40 ?_
      refine R_iald dX8_gone_41 sh_46 (Nat.le_of_ble_eq_true rfl) (rn_ixe hy) hj10 ?_
      refine is_3 dX8_gone_42 rfl ?_
      refine al_0 dX8_gone_43 ?_
      refine R_getfr (r := 44) dX8_gone_44 fl_RX8_30 rfl sh_1 (Nat.le_of_ble_eq_true rfl) rf_1_3 ?_
      refine R_getfr (r := 45) dX8_gone_47 fl_RX8_284 rfl sh_44 (Nat.le_of_ble_eq_true rfl) rf_44_0 ?_
      refine il_2 dX8_gone_50 ?_
      refine R_iald dX8_gone_51 sh_45 (Nat.le_of_ble_eq_true rfl) (rn_ixe hy) hj10 ?_
      refine R_tswO (tgt := 114) dX8_gone_52 (by rw [e45]; decide) (by decide) ?_
      refine al_0 dX8_gone_114 ?_
      refine R_getfr (r := 21) dX8_gone_115 fl_RX8_18 rfl sh_1 (Nat.le_of_ble_eq_true rfl) rf_1_1 ?_
      refine R_getfr (r := 23) dX8_gone_118 fl_RX8_96 rfl sh_21 (Nat.le_of_ble_eq_true rfl) rf_21_1 ?_
      refine il_3 dX8_gone_121 ?_
      refine R_aald (t := 4) (r := (21 + 7 + 2 * q.2)) dX8_gone_122 (by decide) sh_23 (Nat.le_of_ble_eq_true rfl) (rn_ixe e46) hq6 (pb_rq (b := 21) (Or.inr (Or.inl rfl)) hq6) ?_
      refine R_iconst (v := 1) dX8_gone_123 (by decide) ?_
      refine R_putfi dX8_gone_124 fl_RX8_111 rfl (Or.inl rfl) (pq_s0 htq) (show (21 + 7 + 2 * q.2) < 164 by have := pq_n htq; omega) rfl rfl ?_
      refine ii_2 (v := _ + 1) dX8_gone_127 rfl (by rfl) ?_
      refine R_goto (tgt := 22) dX8_gone_130 (by decide) ?_
      have ht2 : TRY mi (rn_u m (21 + 7 + 2 * q.2) 4 1) D D' c (callW q.2 1 v) := ht.next (PF.of (fun a ha => by rw [rn_u_ne (by omega)])) (by have z := wC_call (mi := m) (k := cuA c) (z := 1) (Or.inr (Or.inl rfl)) cp1 h16 hP (r3 e); rw [if_neg (show ¬ (1 : Int32) = 0 by decide)] at z; rw [z, ht.2.1])
      exact ih (j + 1) _ _ _ D' _ (by omega) hs2 (by rw [hy]; exact sm_add j 1) ht2 ((hwv.call v2 hP (r3 e) (Or.inr rfl)).mono (by omega)) v0 v2 hVc


set_option maxHeartbeats 4000000 in
theorem KC_gone {G : rn_G} {d : Nat} {κ : Nat × Nat} {Q : Option Value → rn_S → Prop} {mi : Nat → Nat → Int32} {ml : Nat → Nat → Int64} {D : Nat → Nat} {x : Int32} {w : WD} {c k : Nat} {ds : Nat → CL} {sl : SL} {el bl : EL} {im : IM} {T : Nat → Nat} {L : Nat} {ac : List Int32} {tp : TP} (hv : IV w c k ds sl el bl im ac tp) (hc : CR w c k ds sl el bl im T L ac tp mi ml D) (h : ∀ m l D', HI mi m ml l → CR w c k ds sl el bl im T L ac tp m l D' → Q (some (.int (goneA (erA (cuL ds c)) el w x))) (m, l, RF D', 164))  : Call G (d + 29) M_X8_gone [.ref 1, .int x] (mi, ml, RF D, 164) κ Q := by
  show Run G _ M_X8_gone 0 [.ref 1, .int x, .null, .null] [] _ _ _
  have hw := hv.1.1
  have hk6 := hv.2.2.1
  have hck := hv.2.1
  have hB : PB 2 := Or.inl rfl
  obtain ⟨hD2, hwc, z12, z13, z14⟩ := hc.1
  obtain ⟨cp1, cp2, cp3, cp4⟩ := cuA_pd (c := c) (by omega)
  have hkD : PD (D 2) := by rw [hD2]; exact cp1
  obtain ⟨N, P, R, hN, hP, hR, hg, hpp, hrr, hPJ⟩ := hc.1.n hw
  obtain ⟨w0, w1, w2, w3, w4, w5, w6⟩ := hc.1.cells
  unfold goneA at h
  refine il_1 dX8_gone_0 ?_
  refine cs_1 dX8_gone_1 mm_RX8_262 (Nat.le_of_ble_eq_true rfl) (Nat.le_of_ble_eq_true rfl) (K_isPart (fun c1 => ?_) (fun c1 => ?_))
  · refine R_if_ne (tgt := 9) dX8_gone_4 (by decide) (fun _ => ?_) (fun q => absurd q (by decide))
    refine al_0 dX8_gone_9 ?_
    refine R_getfr (r := 21) dX8_gone_10 fl_RX8_18 rfl sh_1 (Nat.le_of_ble_eq_true rfl) rf_1_1 ?_
    refine al_0 dX8_gone_13 ?_
    refine R_getfr (r := 2) dX8_gone_14 fl_RX8_12 rfl sh_1 (Nat.le_of_ble_eq_true rfl) rf_1_0 ?_
    refine cv_1 dX8_gone_17 mm_RX8_210 sh_21 (Nat.le_of_ble_eq_true rfl) ⟨_, rfl, rfl⟩ (Nat.le_of_ble_eq_true rfl) (Nat.le_of_ble_eq_true rfl) (K_trial hv hc (fun m1 D1 ht1 => ?_))
    refine R_iconst (v := 0) dX8_gone_20 (by decide) ?_
    refine is_2 dX8_gone_21 rfl ?_
    rw [if_pos (part_iff.mpr c1)] at h
    exact L_goneC hv hc hg hN hpp hP h el 0 0 _ m1 D1 w (Nat.zero_add _) (fun i q hi => by rw [Nat.zero_add]; exact hi) rfl ht1 hw (w0.trans hg) (w2.trans hpp) rfl
  · refine R_if_ne (tgt := 9) dX8_gone_4 (by decide) (fun q => absurd q (by decide)) (fun _ => ?_)
    refine R_iconst (v := -1) dX8_gone_7 (by decide) ?_
    refine R_ireturn dX8_gone_8 ⟨_, rfl, rfl⟩ ?_
    rw [if_neg (fun q => c1 (part_iff.mp q))] at h
    exact h mi ml D (HI.refl _ _) hc
