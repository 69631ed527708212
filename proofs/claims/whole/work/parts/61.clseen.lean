/-! the class: is the trial as was seen -/
theorem max_n {a b : Nat} (ha : a < 2 ^ 31) (hb : b < 2 ^ 31) : maxJ (nI a) (nI b) = nI (max a b) := by
  unfold maxJ
  by_cases q : nI a < nI b
  · rw [if_pos q, Nat.max_eq_right (Nat.le_of_lt ((sm_lt_iff ha hb).mp q))]
  · rw [if_neg q, Nat.max_eq_left (Nat.le_of_not_lt (fun r => q ((sm_lt_iff ha hb).mpr r)))]
set_option maxHeartbeats 4000000 in
theorem L_seen1 {G : rn_G} {d : Nat} {κ : Nat × Nat} {Q : Option Value → rn_S → Prop} {m : Nat → Nat → Int32} {ml : Nat → Nat → Int64} {D : Nat → Nat} {sl : SL} (e40 : m 40 3 = nI sl.length) (e4 : ∀ j q, sl[j]? = some q → m 41 j = nI q.1 ∧ m 42 j = bi q.2.2 ∧ m 43 j = nI q.2.1) (hl5 : sl.length ≤ 5) (h20 : ∀ q ∈ sl, q.2.1 ≤ 20) (h : ∀ U, U ≤ 20 → (∀ q ∈ sl, q.2.1 ≤ U) → Run G (d + 5) M_X8_trialIsAsSeen 37 [.ref 1, .int (nI U), .int 0, .null] [] (m, ml, RF D, 164) κ Q) : ∀ (n j U : Nat) (z : Int32), j + n = sl.length → z = nI j → U ≤ 20 → (∀ i q, i < j → sl[i]? = some q → q.2.1 ≤ U) → Run G (d + 5) M_X8_trialIsAsSeen 4 [.ref 1, .int (nI U), .int z, .null] [] (m, ml, RF D, 164) κ Q := by
  intro n
  induction n with
  | zero =>
    intro j U z hj hz hU hall
    refine il_2 dX8_trialIsAsSeen_4 ?_
    refine al_0 dX8_trialIsAsSeen_5 ?_
    refine R_getfr (r := 40) dX8_trialIsAsSeen_6 fl_RX8_26 rfl sh_1 (Nat.le_of_ble_eq_true rfl) rf_1_2 ?_
    refine R_getfi dX8_trialIsAsSeen_9 fl_RX8_252 rfl sh_40 (Nat.le_of_ble_eq_true rfl) ?_
    refine R_icmp_ge (tgt := 35) dX8_trialIsAsSeen_12 (by decide) (fun c12 => ?_) (fun q => absurd q (not_not_intro (by rw [hz, e40, show j = sl.length by omega]; exact Int32.le_refl _)))
    refine R_iconst (v := 0) dX8_trialIsAsSeen_35 (by decide) ?_
    refine is_2 dX8_trialIsAsSeen_36 rfl ?_
    refine h U hU (fun q hq => ?_)
    obtain ⟨i, hi⟩ := List.getElem?_of_mem hq
    exact hall i q (by have := get_lt hi; omega) hi
  | succ n ih =>
    intro j U z hj hz hU hall
    have hjl : j < sl.length := by omega
    obtain ⟨q, hq⟩ : ∃ q, sl[j]? = some q := ⟨_, List.getElem?_eq_getElem hjl⟩
    have hq20 := h20 q (List.mem_of_getElem? hq)
    have hmx : maxJ (nI U) (m 43 j) = nI (max U q.2.1) := by rw [(e4 j q hq).2.2]; exact max_n (by omega) (by omega)
    refine il_2 dX8_trialIsAsSeen_4 ?_
    refine al_0 dX8_trialIsAsSeen_5 ?_
    refine R_getfr (r := 40) dX8_trialIsAsSeen_6 fl_RX8_26 rfl sh_1 (Nat.le_of_ble_eq_true rfl) rf_1_2 ?_
    refine R_getfi dX8_trialIsAsSeen_9 fl_RX8_252 rfl sh_40 (Nat.le_of_ble_eq_true rfl) ?_
    refine R_icmp_ge (tgt := 35) dX8_trialIsAsSeen_12 (by decide) (fun q => absurd q (by rw [hz, e40]; exact nI_ge (by omega) (by omega))) (fun c12 => ?_)
    refine il_1 dX8_trialIsAsSeen_15 ?_
    refine al_0 dX8_trialIsAsSeen_16 ?_
    refine R_getfr (r := 40) dX8_trialIsAsSeen_17 fl_RX8_26 rfl sh_1 (Nat.le_of_ble_eq_true rfl) rf_1_2 ?_
    refine R_getfr (r := 43) dX8_trialIsAsSeen_20 fl_RX8_276 rfl sh_40 (Nat.le_of_ble_eq_true rfl) rf_40_2 ?_
    refine il_2 dX8_trialIsAsSeen_23 ?_
    refine R_iald dX8_trialIsAsSeen_24 sh_43 (Nat.le_of_ble_eq_true rfl) (rn_ixe hz) (show j < 5 by omega) ?_
    refine cs_2 dX8_trialIsAsSeen_25 mm_RX8_279 (Nat.le_of_ble_eq_true rfl) (Nat.le_of_ble_eq_true rfl) (K_max ?_)
    rw [hmx]
    refine is_1 dX8_trialIsAsSeen_28 rfl ?_
    refine ii_2 (v := _ + 1) dX8_trialIsAsSeen_29 rfl (by rfl) ?_
    refine R_goto (tgt := 4) dX8_trialIsAsSeen_32 (by decide) ?_
    refine ih (j + 1) (max U q.2.1) _ (by omega) (by rw [hz]; exact sm_add j 1) (by omega) (fun i r hi hr => ?_)
    by_cases e : i = j
    · subst e; rw [hq] at hr; injection hr with hr; rw [← hr]; omega
    · have := hall i r (by omega) hr; omega

set_option maxHeartbeats 4000000 in
theorem L_seen2 {G : rn_G} {d : Nat} {κ : Nat × Nat} {Q : Option Value → rn_S → Prop} {mi : Nat → Nat → Int32} {ml : Nat → Nat → Int64} {D : Nat → Nat} {w v : WD} {c k : Nat} {ds : Nat → CL} {sl : SL} {el bl : EL} {im : IM} {T : Nat → Nat} {L : Nat} {ac : List Int32} {tp : TP} {m : Nat → Nat → Int32} {D' : Nat → Nat} (hv : IV w c k ds sl el bl im ac tp) (hc : CR w c k ds sl el bl im T L ac tp mi ml D) (ht : TRY mi m D D' c v) {V t U : Nat} (hvw : WJ V v) (e40 : m 40 3 = nI sl.length) (e4 : ∀ j q, sl[j]? = some q → m 41 j = nI q.1 ∧ m 42 j = bi q.2.2 ∧ m 43 j = nI q.2.1) (hl5 : sl.length ≤ 5) (hP : ∀ q ∈ sl, q.1 < nn (v.1 2)) (ht20 : t ≤ 20) (h20 : ∀ q ∈ sl, q.2.1 ≤ 20) (hno : ∀ q ∈ sl, q.2.1 = t → ¬ v.2.2.2 q.1 5 = bi q.2.2 → Q (some (.int 0)) (m, ml, RF D', 164)) (hyes : ∀ x, (∀ q ∈ sl, q.2.1 = t → v.2.2.2 q.1 5 = bi q.2.2) → Run G (d + 5) M_X8_trialIsAsSeen 111 [.ref 1, .int (nI U), .int (nI t), .int x] [] (m, ml, RF D', 164) κ Q) : ∀ (n j : Nat) (z : Int32), j + n = sl.length → z = nI j → (∀ i q, i < j → sl[i]? = some q → q.2.1 = t → v.2.2.2 q.1 5 = bi q.2.2) → Run G (d + 5) M_X8_trialIsAsSeen 44 [.ref 1, .int (nI U), .int (nI t), .int z] [] (m, ml, RF D', 164) κ Q := by
  obtain ⟨P, hP6, h6, hv2⟩ := ht.n hvw
  have hB21 : PB 21 := Or.inr (Or.inl rfl)
  intro n
  induction n with
  | zero =>
    intro j z hj hz hall
    refine il_3 dX8_trialIsAsSeen_44 ?_
    refine al_0 dX8_trialIsAsSeen_45 ?_
    refine R_getfr (r := 40) dX8_trialIsAsSeen_46 fl_RX8_26 rfl sh_1 (Nat.le_of_ble_eq_true rfl) rf_1_2 ?_
    refine R_getfi dX8_trialIsAsSeen_49 fl_RX8_252 rfl sh_40 (Nat.le_of_ble_eq_true rfl) ?_
    refine R_icmp_ge (tgt := 111) dX8_trialIsAsSeen_52 (by decide) (fun c52 => ?_) (fun q => absurd q (not_not_intro (by rw [hz, e40, show j = sl.length by omega]; exact Int32.le_refl _)))
    refine hyes _ (fun q hq => ?_)
    obtain ⟨i, hi⟩ := List.getElem?_of_mem hq
    exact hall i q (by have := get_lt hi; omega) hi
  | succ n ih =>
    intro j z hj hz hall
    have hjl : j < sl.length := by omega
    obtain ⟨q, hq⟩ : ∃ q, sl[j]? = some q := ⟨_, List.getElem?_eq_getElem hjl⟩
    have hmem := List.mem_of_getElem? hq
    have hq20 := h20 q hmem
    have hqP : q.1 < P := by have := hP q hmem; rw [hv2, nnI (by omega)] at this; exact this
    have hq6 : q.1 < 6 := by omega
    have hpq : PQ (21 + 7 + 2 * q.1) := pb_q hB21 hq6
    obtain ⟨f1, f2, f3⟩ := e4 j q hq
    have evp : v.2.2.2 q.1 5 = m (21 + 7 + 2 * q.1) 5 := by rw [ht.per (U := V) h6 hP6 hqP]; rfl
    have hbz : bz (m (21 + 7 + 2 * q.1) 5) := by rw [← evp]; exact (hvw.pj hv2 hP6 hqP).2.2.2.2.2.1
    have hbi : (if m (21 + 7 + 2 * q.1) 5 = 0 then (0 : Int32) else 1) = m (21 + 7 + 2 * q.1) 5 := by rcases hbz with e | e <;> rw [e] <;> rfl
    refine il_3 dX8_trialIsAsSeen_44 ?_
    refine al_0 dX8_trialIsAsSeen_45 ?_
    refine R_getfr (r := 40) dX8_trialIsAsSeen_46 fl_RX8_26 rfl sh_1 (Nat.le_of_ble_eq_true rfl) rf_1_2 ?_
    refine R_getfi dX8_trialIsAsSeen_49 fl_RX8_252 rfl sh_40 (Nat.le_of_ble_eq_true rfl) ?_
    refine R_icmp_ge (tgt := 111) dX8_trialIsAsSeen_52 (by decide) (fun q => absurd q (by rw [hz, e40]; exact nI_ge (by omega) (by omega))) (fun c52 => ?_)
    refine al_0 dX8_trialIsAsSeen_55 ?_
    refine R_getfr (r := 40) dX8_trialIsAsSeen_56 fl_RX8_26 rfl sh_1 (Nat.le_of_ble_eq_true rfl) rf_1_2 ?_
    refine R_getfr (r := 43) dX8_trialIsAsSeen_59 fl_RX8_276 rfl sh_40 (Nat.le_of_ble_eq_true rfl) rf_40_2 ?_
    refine il_3 dX8_trialIsAsSeen_62 ?_
    refine R_iald dX8_trialIsAsSeen_63 sh_43 (Nat.le_of_ble_eq_true rfl) (rn_ixe hz) (show j < 5 by omega) ?_
    refine il_2 dX8_trialIsAsSeen_64 ?_
    refine R_icmp_ne (tgt := 105) dX8_trialIsAsSeen_65 (by decide) (fun c65 => ?_) (fun c65 => ?_)
    · refine ii_3 (v := _ + 1) dX8_trialIsAsSeen_105 rfl (by rfl) ?_
      refine R_goto (tgt := 44) dX8_trialIsAsSeen_108 (by decide) ?_
      refine ih (j + 1) _ (by omega) (by rw [hz]; exact sm_add j 1) (fun i r hi hr ht2 => ?_)
      by_cases e : i = j
      · subst e; rw [hq] at hr; injection hr with hr; rw [← hr] at ht2 ⊢
        rw [f3] at c65
        first
        | exact absurd (congrArg nI ht2) c65
        | (rw [evp, ← f2]; exact c100)
      · exact hall i r (by omega) hr ht2
    · refine al_0 dX8_trialIsAsSeen_68 ?_
      refine R_getfr (r := 21) dX8_trialIsAsSeen_69 fl_RX8_18 rfl sh_1 (Nat.le_of_ble_eq_true rfl) rf_1_1 ?_
      refine R_getfr (r := 23) dX8_trialIsAsSeen_72 fl_RX8_96 rfl sh_21 (Nat.le_of_ble_eq_true rfl) rf_21_1 ?_
      refine al_0 dX8_trialIsAsSeen_75 ?_
      refine R_getfr (r := 40) dX8_trialIsAsSeen_76 fl_RX8_26 rfl sh_1 (Nat.le_of_ble_eq_true rfl) rf_1_2 ?_
      refine R_getfr (r := 41) dX8_trialIsAsSeen_79 fl_RX8_284 rfl sh_40 (Nat.le_of_ble_eq_true rfl) rf_40_0 ?_
      refine il_3 dX8_trialIsAsSeen_82 ?_
      refine R_iald dX8_trialIsAsSeen_83 sh_41 (Nat.le_of_ble_eq_true rfl) (rn_ixe hz) (show j < 5 by omega) ?_
      refine R_aald (t := 4) (r := (21 + 7 + 2 * q.1)) dX8_trialIsAsSeen_84 (by decide) sh_23 (Nat.le_of_ble_eq_true rfl) (rn_ixe f1) hq6 (pb_rq (b := 21) hB21 hq6) ?_
      refine R_getfi dX8_trialIsAsSeen_85 fl_RX8_122 rfl (pq_s0 hpq) (show (21 + 7 + 2 * q.1) < 164 by have := pq_n hpq; omega) ?_
      refine cs_1 dX8_trialIsAsSeen_88 mm_RX8_115 (Nat.le_of_ble_eq_true rfl) (Nat.le_of_ble_eq_true rfl) (K_bit ?_)
      rw [hbi]
      refine al_0 dX8_trialIsAsSeen_91 ?_
      refine R_getfr (r := 40) dX8_trialIsAsSeen_92 fl_RX8_26 rfl sh_1 (Nat.le_of_ble_eq_true rfl) rf_1_2 ?_
      refine R_getfr (r := 42) dX8_trialIsAsSeen_95 fl_RX8_287 rfl sh_40 (Nat.le_of_ble_eq_true rfl) rf_40_1 ?_
      refine il_3 dX8_trialIsAsSeen_98 ?_
      refine R_iald dX8_trialIsAsSeen_99 sh_42 (Nat.le_of_ble_eq_true rfl) (rn_ixe hz) (show j < 5 by omega) ?_
      refine R_icmp_eq (tgt := 105) dX8_trialIsAsSeen_100 (by decide) (fun c100 => ?_) (fun c100 => ?_)
      · refine ii_3 (v := _ + 1) dX8_trialIsAsSeen_105 rfl (by rfl) ?_
        refine R_goto (tgt := 44) dX8_trialIsAsSeen_108 (by decide) ?_
        refine ih (j + 1) _ (by omega) (by rw [hz]; exact sm_add j 1) (fun i r hi hr ht2 => ?_)
        by_cases e : i = j
        · subst e; rw [hq] at hr; injection hr with hr; rw [← hr] at ht2 ⊢
          rw [f3] at c65
          first
          | exact absurd (congrArg nI ht2) c65
          | (rw [evp, ← f2]; exact c100)
        · exact hall i r (by omega) hr ht2
      · refine R_iconst (v := 0) dX8_trialIsAsSeen_103 (by decide) ?_
        refine R_ireturn dX8_trialIsAsSeen_104 ⟨_, rfl, rfl⟩ ?_
        refine hno q hmem ?_ (by rw [evp, ← f2]; exact c100)
        rw [f3] at c65
        first
          | exact sm_inj (by omega) (by omega) c65
          | exact sm_inj (by omega) (by omega) (Classical.not_not.mp c65)

set_option maxHeartbeats 4000000 in
theorem L_seen3 {G : rn_G} {d : Nat} {κ : Nat × Nat} {Q : Option Value → rn_S → Prop} {mi : Nat → Nat → Int32} {ml : Nat → Nat → Int64} {D : Nat → Nat} {w : WD} {c k : Nat} {ds : Nat → CL} {sl : SL} {el bl : EL} {im : IM} {T : Nat → Nat} {L : Nat} {ac : List Int32} {tp : TP} {D' : Nat → Nat} (hv : IV w c k ds sl el bl im ac tp) (hc : CR w c k ds sl el bl im T L ac tp mi ml D) {V U : Nat} {v0 : WD} (hl5 : sl.length ≤ 5) (hsl : SLC mi 40 sl) (h20 : ∀ q ∈ sl, q.2.1 ≤ 20) (hP : ∀ q ∈ sl, q.1 < nn (v0.1 2)) (hU20 : U ≤ 20) (hUa : ∀ q ∈ sl, q.2.1 ≤ U) (hw0 : WJ V v0) (hV : V < 2 ^ 29) (h1 : ∀ m2 v2, TRY mi m2 D D' c v2 → seenA (erA (cuL ds c)) v0 sl = true → Q (some (.int 1)) (m2, ml, RF D', 164)) (h0 : ∀ m2 v2, TRY mi m2 D D' c v2 → seenA (erA (cuL ds c)) v0 sl = false → Q (some (.int 0)) (m2, ml, RF D', 164)) : ∀ (n t : Nat) (m : Nat → Nat → Int32) (y : Value), t + n = U + 1 → TRY mi m D D' c (minsW (erA (cuL ds c)) t v0) → (∀ q ∈ sl, q.2.1 < t → seenB (erA (cuL ds c)) v0 q = true) → Run G (d + 5) M_X8_trialIsAsSeen 37 [.ref 1, .int (nI U), .int (nI t), y] [] (m, ml, RF D', 164) κ Q := by
  intro n
  induction n with
  | zero =>
    intro t m y htn ht hall
    refine il_2 dX8_trialIsAsSeen_37 ?_
    refine il_1 dX8_trialIsAsSeen_38 ?_
    refine R_icmp_gt (tgt := 124) dX8_trialIsAsSeen_39 (by decide) (fun c39 => ?_) (fun q => absurd q (not_not_intro (by rw [show t = U + 1 by omega]; exact (sm_lt_iff (by omega) (by omega)).mpr (Nat.lt_succ_self U))))
    refine R_iconst (v := 1) dX8_trialIsAsSeen_124 (by decide) ?_
    refine R_ireturn dX8_trialIsAsSeen_125 ⟨_, rfl, rfl⟩ ?_
    refine h1 m _ ht (List.all_eq_true.mpr (fun q hq => hall q hq (by have := hUa q hq; omega)))
  | succ n ih =>
    intro t m y htn ht hall
    have hvw : WJ (V + t) (minsW (erA (cuL ds c)) t v0) := WJ.mins t V v0 hw0 (by omega)
    have e0 : ∀ a, (a < 21 ∨ 40 ≤ a) → m a = mi a := ht.1.1
    have e40 : m 40 3 = nI sl.length := by rw [e0 40 (by omega)]; exact hsl.1
    have e4 : ∀ j q, sl[j]? = some q → m 41 j = nI q.1 ∧ m 42 j = bi q.2.2 ∧ m 43 j = nI q.2.1 := fun j q hq => by rw [e0 41 (by omega), e0 42 (by omega), e0 43 (by omega)]; exact hsl.2 j q hq
    have hP2 : ∀ q ∈ sl, q.1 < nn ((minsW (erA (cuL ds c)) t v0).1 2) := fun q hq => by rw [mins_2]; exact hP q hq
    refine il_2 dX8_trialIsAsSeen_37 ?_
    refine il_1 dX8_trialIsAsSeen_38 ?_
    refine R_icmp_gt (tgt := 124) dX8_trialIsAsSeen_39 (by decide) (fun q => absurd q (Int32.not_lt.mpr ((sm_le_iff (by omega) (by omega)).mpr (by omega)))) (fun c39 => ?_)
    refine R_iconst (v := 0) dX8_trialIsAsSeen_42 (by decide) ?_
    refine is_3 dX8_trialIsAsSeen_43 rfl ?_
    refine L_seen2 hv hc ht hvw e40 e4 hl5 hP2 (by omega) h20 (fun q hq hqt hne => h0 m _ ht ?_) (fun x hag => ?_) sl.length 0 0 (Nat.zero_add _) rfl (fun i q hi => absurd hi (Nat.not_lt_zero i))
    · refine Bool.eq_false_iff.mpr (fun q2 => hne ?_)
      have := List.all_eq_true.mp q2 q hq
      unfold seenB at this
      rw [hqt] at this
      exact of_decide_eq_true this
    · skip
      refine al_0 dX8_trialIsAsSeen_111 ?_
      refine R_getfr (r := 21) dX8_trialIsAsSeen_112 fl_RX8_18 rfl sh_1 (Nat.le_of_ble_eq_true rfl) rf_1_1 ?_
      refine cv_0 dX8_trialIsAsSeen_115 mm_RX8_217 sh_21 (Nat.le_of_ble_eq_true rfl) ⟨_, rfl, rfl⟩ (Nat.le_of_ble_eq_true rfl) (Nat.le_of_ble_eq_true rfl) (K_tmin hv hc ht hvw (by omega) (fun m2 ht2 => ?_))
      refine ii_2 (v := _ + 1) dX8_trialIsAsSeen_118 rfl (by rfl) ?_
      refine R_goto (tgt := 37) dX8_trialIsAsSeen_121 (by decide) ?_
      rw [← minsW_succ] at ht2
      rw [show nI t + 1 = nI (t + 1) from sm_add t 1]
      refine ih (t + 1) m2 _ (by omega) ht2 (fun q hq hqt => ?_)
      by_cases e : q.2.1 < t
      · exact hall q hq e
      · have e2 : q.2.1 = t := by omega
        have := hag q hq e2
        unfold seenB
        rw [e2]
        exact decide_eq_true this

set_option maxHeartbeats 4000000 in
theorem K_seen {G : rn_G} {d : Nat} {κ : Nat × Nat} {Q : Option Value → rn_S → Prop} {mi : Nat → Nat → Int32} {ml : Nat → Nat → Int64} {D : Nat → Nat} {w : WD} {c k : Nat} {ds : Nat → CL} {sl : SL} {el bl : EL} {im : IM} {T : Nat → Nat} {L : Nat} {ac : List Int32} {tp : TP} {m : Nat → Nat → Int32} {D' : Nat → Nat} (hv : IV w c k ds sl el bl im ac tp) (hc : CR w c k ds sl el bl im T L ac tp mi ml D) {V : Nat} {v0 : WD} (ht : TRY mi m D D' c v0) (hw0 : WJ V v0) (hV : V < 2 ^ 29) (e2 : v0.1 2 = w.1 2) (h1 : ∀ m2 v2, TRY mi m2 D D' c v2 → seenA (erA (cuL ds c)) v0 sl = true → Q (some (.int 1)) (m2, ml, RF D', 164)) (h0 : ∀ m2 v2, TRY mi m2 D D' c v2 → seenA (erA (cuL ds c)) v0 sl = false → Q (some (.int 0)) (m2, ml, RF D', 164)) : Call G (d + 5) M_X8_trialIsAsSeen [.ref 1] (m, ml, RF D', 164) κ Q := by
  show Run G _ M_X8_trialIsAsSeen 0 [.ref 1, .null, .null, .null] [] _ _ _
  have hsl : SLC mi 40 sl := hc.2.2.1
  have hl5 := hv.1.2.1
  have hq := hv.1.2.2.1
  have e0 : ∀ a, (a < 21 ∨ 40 ≤ a) → m a = mi a := ht.1.1
  have e40 : m 40 3 = nI sl.length := by rw [e0 40 (by omega)]; exact hsl.1
  have e4 : ∀ j q, sl[j]? = some q → m 41 j = nI q.1 ∧ m 42 j = bi q.2.2 ∧ m 43 j = nI q.2.1 := fun j q hq => by rw [e0 41 (by omega), e0 42 (by omega), e0 43 (by omega)]; exact hsl.2 j q hq
  refine R_iconst (v := 0) dX8_trialIsAsSeen_0 (by decide) ?_
  refine is_1 dX8_trialIsAsSeen_1 rfl ?_
  refine R_iconst (v := 0) dX8_trialIsAsSeen_2 (by decide) ?_
  refine is_2 dX8_trialIsAsSeen_3 rfl ?_
  refine L_seen1 e40 e4 hl5 (fun q h => (hq q h).2) (fun U hU hUa => ?_) sl.length 0 0 0 (Nat.zero_add _) rfl (Nat.zero_le _) (fun i q hi => absurd hi (Nat.not_lt_zero i))
  exact L_seen3 hv hc hl5 hsl (fun q h => (hq q h).2) (fun q h => by rw [e2]; exact (hq q h).1) hU hUa hw0 hV h1 h0 (U + 1) 0 m _ (Nat.zero_add _) ht (fun q _ h => absurd h (Nat.not_lt_zero _))
