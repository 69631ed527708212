/-! the reference: act -/
def wtV (kd : Nat) (v i x : Int32) : Int32 := if kd = 2 ∨ kd = 5 then x * 3 + i else if kd = 4 then -(x + i) else if kd = 6 then (x + i) ^^^ v else x + i
def wtT (kd : Nat) : List Int32 := if kd = 2 ∨ kd = 5 then [30, 10] else if kd = 4 then [50, 10] else if kd = 6 then [71, 10] else [10]
def pkV (kd : Nat) (v i x : Int32) : Int32 := wtV kd v i x - v
def pkT (kd : Nat) : List Int32 := 11 :: wtT kd
def okV (kd : Nat) (v i x : Int32) : Int32 := pkV kd v i x ^^^ 6
def okT0 (kd : Nat) : List Int32 := 20 :: pkT kd
def wkV (kd : Nat) (v i x : Int32) : Int32 := if kd = 1 then okV kd v i x else if kd = 4 then okV kd v i (x + 1) else if kd = 6 then pkV kd v i x + (2 + i) else pkV kd v i x
def wkT (kd : Nat) : List Int32 := if kd = 1 then okT0 kd else if kd = 4 then 51 :: okT0 kd else if kd = 6 then 70 :: (pkT kd ++ [10]) else pkT kd
def ptV (kd : Nat) (v i x : Int32) : Int32 := wkV kd v i x * 2
def ptT (kd : Nat) : List Int32 := 12 :: wkT kd
def ttV (kd : Nat) (v i x : Int32) : Int32 := if kd = 3 ∨ kd = 6 then ptV kd v i x + wkV kd v i 1 else if kd = 5 then ptV kd v i (x - i) else ptV kd v i x
def ttT (kd : Nat) : List Int32 := if kd = 3 ∨ kd = 6 then 40 :: (ptT kd ++ wkT kd) else if kd = 5 then 60 :: ptT kd else ptT kd
def actA (w : WD) (x y z : Int32) : Int32 × List Int32 := if (0 ≤ x ∧ x < w.1 2) ∧ (0 ≤ y ∧ y ≤ 2) then
    (if y = 0 then (wtV (nn (w.2.2.2 (nn x) 0)) (w.2.2.2 (nn x) 1) x z, wtT (nn (w.2.2.2 (nn x) 0))) else if y = 1 then (wkV (nn (w.2.2.2 (nn x) 0)) (w.2.2.2 (nn x) 1) x z, wkT (nn (w.2.2.2 (nn x) 0))) else (ttV (nn (w.2.2.2 (nn x) 0)) (w.2.2.2 (nn x) 1) x z, ttT (nn (w.2.2.2 (nn x) 0)))) else (0, [])
theorem wt_l (kd : Nat) : (wtT kd).length ≤ 2 := by unfold wtT; (repeat' split) <;> decide
theorem pk_l (kd : Nat) : (pkT kd).length ≤ 3 := by have := wt_l kd; unfold pkT; rw [List.length_cons]; omega
theorem ok_l (kd : Nat) : (okT0 kd).length ≤ 4 := by have := pk_l kd; unfold okT0; rw [List.length_cons]; omega
theorem wk_l (kd : Nat) : (wkT kd).length ≤ 5 := by
  have := pk_l kd
  have := ok_l kd
  unfold wkT
  (repeat' split) <;> (try simp only [List.length_cons, List.length_append, List.length_nil]) <;> omega
theorem pt_l (kd : Nat) : (ptT kd).length ≤ 6 := by have := wk_l kd; unfold ptT; rw [List.length_cons]; omega
theorem tt_l (kd : Nat) : (ttT kd).length ≤ 12 := by
  have := pt_l kd
  have := wk_l kd
  unfold ttT
  (repeat' split) <;> (try simp only [List.length_cons, List.length_append]) <;> omega
/-- only the trace has changed since -/
def AC (m0 m : Nat → Nat → Int32) (l : List Int32) : Prop := (∀ a, a ≠ 116 → a ≠ 159 → m a = m0 a) ∧ (∀ f, f ≠ 87 → m 116 f = m0 116 f) ∧ MAc m l
theorem AC.add {m0 m : Nat → Nat → Int32} {l : List Int32} {b : Int32} (h : AC m0 m l) : AC m0 (rn_u (rn_u m 159 l.length b) 116 87 (nI (l.length + 1))) (l ++ [b]) := by
  obtain ⟨h1, h2, h3, h4⟩ := h
  refine ⟨fun a a1 a2 => by rw [rn_u_ne a1, rn_u_ne a2]; exact h1 a a1 a2, fun f hf => ?_, ?_, fun j v hj => ?_⟩
  · rw [← h2 f hf]; simp [rn_u, hf]
  · rw [List.length_append]; exact rn_u_eq
  · rw [rn_u_ne (show (159 : Nat) ≠ 116 by decide), rn_u_at]
    dsimp only
    rcases snoc_get hj with ⟨j1, j2⟩ | ⟨j1, j2⟩
    · rw [if_neg (by omega)]; exact h4 j v j2
    · rw [if_pos j1, j2]

set_option maxHeartbeats 4000000 in
theorem M_body {G : rn_G} {d : Nat} {κ : Nat × Nat} {Q : Option Value → rn_S → Prop} {mi : Nat → Nat → Int32} {ml : Nat → Nat → Int64} {D : Nat → Nat} {x : Int32} {m0 : Nat → Nat → Int32} {l : List Int32} (hac : AC m0 mi l) (hl : l.length < 20) (h : ∀ m, AC m0 m (l ++ [x]) → Q none (m, ml, RF D, 164)) : Call G (d) M_X9_body [.ref 116, .int x] (mi, ml, RF D, 164) κ Q := by
  show Run G _ M_X9_body 0 [.ref 116, .int x] [] _ _ _
  have e87 := hac.2.2.1
  refine al_0 dX9_body_0 ?_
  refine R_getfi dX9_body_1 fl_RX9_274 rfl sh_116 (Nat.le_of_ble_eq_true rfl) ?_
  refine R_bipush (v := 20) dX9_body_4 (by decide) ?_
  refine R_icmp_ge (tgt := 19) dX9_body_6 (by decide) (fun q => absurd q (by rw [e87]; exact nI_ge (b := 20) hl (by decide))) (fun c6 => ?_)
  refine al_0 dX9_body_9 ?_
  refine R_getfr (r := 159) dX9_body_10 fl_RX9_277 rfl sh_116 (Nat.le_of_ble_eq_true rfl) rf_116_88 ?_
  refine al_0 dX9_body_13 ?_
  refine R_getfi dX9_body_14 fl_RX9_274 rfl sh_116 (Nat.le_of_ble_eq_true rfl) ?_
  refine il_1 dX9_body_17 ?_
  refine R_iast dX9_body_18 sh_159 (Nat.le_of_ble_eq_true rfl) (rn_ixe e87) hl ?_
  refine al_0 dX9_body_19 ?_
  refine R_dup dX9_body_20 rfl ?_
  refine R_getfi dX9_body_21 fl_RX9_274 rfl sh_116 (Nat.le_of_ble_eq_true rfl) ?_
  refine R_iconst (v := 1) dX9_body_24 (by decide) ?_
  refine R_iadd dX9_body_25 ?_
  refine R_putfi dX9_body_26 fl_RX9_274 rfl (Or.inl rfl) sh_116 (Nat.le_of_ble_eq_true rfl) rfl rfl ?_
  refine R_return dX9_body_29 rfl ?_
  rw [rn_u_ne (show (116 : Nat) ≠ 159 by decide), show mi 116 87 + 1 = nI (l.length + 1) by rw [e87]; exact sm_add _ 1]
  exact h _ hac.add

set_option maxHeartbeats 4000000 in
theorem M_pw {G : rn_G} {d : Nat} {κ : Nat × Nat} {Q : Option Value → rn_S → Prop} {mi : Nat → Nat → Int32} {ml : Nat → Nat → Int64} {D : Nat → Nat} {m0 : Nat → Nat → Int32} {l : List Int32} (hac : AC m0 mi l) {i kd : Nat} {v : Int32} (hi6 : i < 6) (hkd : m0 118 i = nI kd) (hkd6 : kd ≤ 6) (hv : m0 119 i = v) {x z : Int32} (hx : x = nI i) (hl : l.length + 1 ≤ 20) (h : ∀ m, AC m0 m (l ++ [10]) → Q (some (.int (z + x))) (m, ml, RF D, 164)) : Call G (d + 1) M_X9_personWaits [.ref 116, .int x, .int z] (mi, ml, RF D, 164) κ Q := by
  show Run G _ M_X9_personWaits 0 [.ref 116, .int x, .int z] [] _ _ _
  have e118 : mi 118 i = nI kd := by rw [hac.1 118 (by decide) (by decide)]; exact hkd
  have e119 : mi 119 i = v := by rw [hac.1 119 (by decide) (by decide)]; exact hv
  refine al_0 dX9_personWaits_0 ?_
  refine R_bipush (v := 10) dX9_personWaits_1 (by decide) ?_
  refine cv_1 dX9_personWaits_3 mm_RX9_472 sh_116 (Nat.le_of_ble_eq_true rfl) ⟨_, rfl, rfl⟩ (Nat.le_of_ble_eq_true rfl) (Nat.le_of_ble_eq_true rfl) (M_body hac (by omega) (fun m3 hm3 => ?_))
  refine il_2 dX9_personWaits_6 ?_
  refine il_1 dX9_personWaits_7 ?_
  refine R_iadd dX9_personWaits_8 ?_
  refine R_ireturn dX9_personWaits_9 ⟨_, rfl, rfl⟩ ?_
  exact h m3 hm3

set_option maxHeartbeats 4000000 in
theorem M_wt {G : rn_G} {d : Nat} {κ : Nat × Nat} {Q : Option Value → rn_S → Prop} {mi : Nat → Nat → Int32} {ml : Nat → Nat → Int64} {D : Nat → Nat} {m0 : Nat → Nat → Int32} {l : List Int32} (hac : AC m0 mi l) {i kd : Nat} {v : Int32} (hi6 : i < 6) (hkd : m0 118 i = nI kd) (hkd6 : kd ≤ 6) (hv : m0 119 i = v) {x z : Int32} (hx : x = nI i) (hl : l.length + 2 ≤ 20) (h : ∀ m, AC m0 m (l ++ wtT kd) → Q (some (.int (wtV kd v x z))) (m, ml, RF D, 164)) : Call G (d + 2) M_X9_waitsAct [.ref 116, .int x, .int z] (mi, ml, RF D, 164) κ Q := by
  show Run G _ M_X9_waitsAct 0 [.ref 116, .int x, .int z] [] _ _ _
  have e118 : mi 118 i = nI kd := by rw [hac.1 118 (by decide) (by decide)]; exact hkd
  have e119 : mi 119 i = v := by rw [hac.1 119 (by decide) (by decide)]; exact hv
  refine al_0 dX9_waitsAct_0 ?_
  refine R_getfr (r := 118) dX9_waitsAct_1 fl_RX9_41 rfl sh_116 (Nat.le_of_ble_eq_true rfl) rf_116_10 ?_
  refine il_1 dX9_waitsAct_4 ?_
  refine R_iald dX9_waitsAct_5 sh_118 (Nat.le_of_ble_eq_true rfl) (rn_ixe hx) hi6 ?_
  by_cases w6_2 : mi 118 i = 2
  · refine R_tswI (tgt := 40) dX9_waitsAct_6 2 w6_2 (by decide) (by decide) rfl (by decide) ?_
    refine al_0 dX9_waitsAct_40 ?_
    refine R_bipush (v := 30) dX9_waitsAct_41 (by decide) ?_
    refine cv_1 dX9_waitsAct_43 mm_RX9_472 sh_116 (Nat.le_of_ble_eq_true rfl) ⟨_, rfl, rfl⟩ (Nat.le_of_ble_eq_true rfl) (Nat.le_of_ble_eq_true rfl) (M_body hac (by omega) (fun m43 hm43 => ?_))
    have hb := hm43
    have e119 : m43 119 i = v := by rw [hm43.1 119 (by decide) (by decide)]; exact hv
    refine al_0 dX9_waitsAct_46 ?_
    refine il_1 dX9_waitsAct_47 ?_
    refine il_2 dX9_waitsAct_48 ?_
    refine R_iconst (v := 3) dX9_waitsAct_49 (by decide) ?_
    refine R_imul dX9_waitsAct_50 ?_
    refine cv_2 dX9_waitsAct_51 mm_RX9_475 sh_116 (Nat.le_of_ble_eq_true rfl) ⟨_, rfl, rfl⟩ (Nat.le_of_ble_eq_true rfl) (Nat.le_of_ble_eq_true rfl) (M_pw hb hi6 hkd hkd6 hv hx (by simp only [List.length_append, List.length_cons, List.length_nil]; omega) (fun m51 hm51 => ?_))
    have e119 : m51 119 i = v := by rw [hm51.1 119 (by decide) (by decide)]; exact hv
    refine R_ireturn dX9_waitsAct_54 ⟨_, rfl, rfl⟩ ?_
    have ek : kd = 2 ∨ kd = 5 := by first | exact Or.inl (sm_inj (b := 2) (by omega) (by decide) (e118.symm.trans w6_2)) | exact Or.inr (sm_inj (b := 5) (by omega) (by decide) (e118.symm.trans w6_5))
    have eV : wtV kd v x z = z * 3 + x := by unfold wtV; rw [if_pos ek]
    have eT : wtT kd = [30, 10] := by unfold wtT; rw [if_pos ek]
    rw [eV, eT] at h
    refine h m51 ?_
    try simp only [List.append_assoc, List.cons_append, List.nil_append] at hm51
    exact hm51
  by_cases w6_3 : mi 118 i = 3
  · refine R_tswI (tgt := 89) dX9_waitsAct_6 3 w6_3 (by decide) (by decide) rfl (by decide) ?_
    refine al_0 dX9_waitsAct_89 ?_
    refine il_1 dX9_waitsAct_90 ?_
    refine il_2 dX9_waitsAct_91 ?_
    refine cv_2 dX9_waitsAct_92 mm_RX9_475 sh_116 (Nat.le_of_ble_eq_true rfl) ⟨_, rfl, rfl⟩ (Nat.le_of_ble_eq_true rfl) (Nat.le_of_ble_eq_true rfl) (M_pw hac hi6 hkd hkd6 hv hx (by omega) (fun m92 hm92 => ?_))
    have e119 : m92 119 i = v := by rw [hm92.1 119 (by decide) (by decide)]; exact hv
    refine R_ireturn dX9_waitsAct_95 ⟨_, rfl, rfl⟩ ?_
    have nk : ¬ (kd = 2 ∨ kd = 5) ∧ ¬ kd = 4 ∧ ¬ kd = 6 := by
      first
      | (have ek : kd = 3 := sm_inj (b := 3) (by omega) (by decide) (e118.symm.trans w6_3); omega)
      | (refine ⟨fun q => ?_, fun q => w6_4 (by rw [e118, q]; rfl), fun q => w6_6 (by rw [e118, q]; rfl)⟩; rcases q with q | q; exact w6_2 (by rw [e118, q]; rfl); exact w6_5 (by rw [e118, q]; rfl))
    have eV : wtV kd v x z = z + x := by unfold wtV; rw [if_neg nk.1, if_neg nk.2.1, if_neg nk.2.2]
    have eT : wtT kd = [10] := by unfold wtT; rw [if_neg nk.1, if_neg nk.2.1, if_neg nk.2.2]
    rw [eV, eT] at h
    refine h m92 ?_
    try simp only [List.append_assoc, List.cons_append, List.nil_append] at hm92
    exact hm92
  by_cases w6_4 : mi 118 i = 4
  · refine R_tswI (tgt := 55) dX9_waitsAct_6 4 w6_4 (by decide) (by decide) rfl (by decide) ?_
    refine al_0 dX9_waitsAct_55 ?_
    refine R_bipush (v := 50) dX9_waitsAct_56 (by decide) ?_
    refine cv_1 dX9_waitsAct_58 mm_RX9_472 sh_116 (Nat.le_of_ble_eq_true rfl) ⟨_, rfl, rfl⟩ (Nat.le_of_ble_eq_true rfl) (Nat.le_of_ble_eq_true rfl) (M_body hac (by omega) (fun m58 hm58 => ?_))
    have hb := hm58
    have e119 : m58 119 i = v := by rw [hm58.1 119 (by decide) (by decide)]; exact hv
    refine al_0 dX9_waitsAct_61 ?_
    refine il_1 dX9_waitsAct_62 ?_
    refine il_2 dX9_waitsAct_63 ?_
    refine cv_2 dX9_waitsAct_64 mm_RX9_475 sh_116 (Nat.le_of_ble_eq_true rfl) ⟨_, rfl, rfl⟩ (Nat.le_of_ble_eq_true rfl) (Nat.le_of_ble_eq_true rfl) (M_pw hb hi6 hkd hkd6 hv hx (by simp only [List.length_append, List.length_cons, List.length_nil]; omega) (fun m64 hm64 => ?_))
    have e119 : m64 119 i = v := by rw [hm64.1 119 (by decide) (by decide)]; exact hv
    refine R_ineg dX9_waitsAct_67 ?_
    refine R_ireturn dX9_waitsAct_68 ⟨_, rfl, rfl⟩ ?_
    have ek : kd = 4 := sm_inj (b := 4) (by omega) (by decide) (e118.symm.trans w6_4)
    have eV : wtV kd v x z = -(z + x) := by unfold wtV; rw [if_neg (by omega), if_pos ek]
    have eT : wtT kd = [50, 10] := by unfold wtT; rw [if_neg (by omega), if_pos ek]
    rw [eV, eT] at h
    refine h m64 ?_
    try simp only [List.append_assoc, List.cons_append, List.nil_append] at hm64
    exact hm64
  by_cases w6_5 : mi 118 i = 5
  · refine R_tswI (tgt := 40) dX9_waitsAct_6 5 w6_5 (by decide) (by decide) rfl (by decide) ?_
    refine al_0 dX9_waitsAct_40 ?_
    refine R_bipush (v := 30) dX9_waitsAct_41 (by decide) ?_
    refine cv_1 dX9_waitsAct_43 mm_RX9_472 sh_116 (Nat.le_of_ble_eq_true rfl) ⟨_, rfl, rfl⟩ (Nat.le_of_ble_eq_true rfl) (Nat.le_of_ble_eq_true rfl) (M_body hac (by omega) (fun m43 hm43 => ?_))
    have hb := hm43
    have e119 : m43 119 i = v := by rw [hm43.1 119 (by decide) (by decide)]; exact hv
    refine al_0 dX9_waitsAct_46 ?_
    refine il_1 dX9_waitsAct_47 ?_
    refine il_2 dX9_waitsAct_48 ?_
    refine R_iconst (v := 3) dX9_waitsAct_49 (by decide) ?_
    refine R_imul dX9_waitsAct_50 ?_
    refine cv_2 dX9_waitsAct_51 mm_RX9_475 sh_116 (Nat.le_of_ble_eq_true rfl) ⟨_, rfl, rfl⟩ (Nat.le_of_ble_eq_true rfl) (Nat.le_of_ble_eq_true rfl) (M_pw hb hi6 hkd hkd6 hv hx (by simp only [List.length_append, List.length_cons, List.length_nil]; omega) (fun m51 hm51 => ?_))
    have e119 : m51 119 i = v := by rw [hm51.1 119 (by decide) (by decide)]; exact hv
    refine R_ireturn dX9_waitsAct_54 ⟨_, rfl, rfl⟩ ?_
    have ek : kd = 2 ∨ kd = 5 := by first | exact Or.inl (sm_inj (b := 2) (by omega) (by decide) (e118.symm.trans w6_2)) | exact Or.inr (sm_inj (b := 5) (by omega) (by decide) (e118.symm.trans w6_5))
    have eV : wtV kd v x z = z * 3 + x := by unfold wtV; rw [if_pos ek]
    have eT : wtT kd = [30, 10] := by unfold wtT; rw [if_pos ek]
    rw [eV, eT] at h
    refine h m51 ?_
    try simp only [List.append_assoc, List.cons_append, List.nil_append] at hm51
    exact hm51
  by_cases w6_6 : mi 118 i = 6
  · refine R_tswI (tgt := 69) dX9_waitsAct_6 6 w6_6 (by decide) (by decide) rfl (by decide) ?_
    refine al_0 dX9_waitsAct_69 ?_
    refine R_bipush (v := 71) dX9_waitsAct_70 (by decide) ?_
    refine cv_1 dX9_waitsAct_72 mm_RX9_472 sh_116 (Nat.le_of_ble_eq_true rfl) ⟨_, rfl, rfl⟩ (Nat.le_of_ble_eq_true rfl) (Nat.le_of_ble_eq_true rfl) (M_body hac (by omega) (fun m72 hm72 => ?_))
    have hb := hm72
    have e119 : m72 119 i = v := by rw [hm72.1 119 (by decide) (by decide)]; exact hv
    refine al_0 dX9_waitsAct_75 ?_
    refine il_1 dX9_waitsAct_76 ?_
    refine il_2 dX9_waitsAct_77 ?_
    refine cv_2 dX9_waitsAct_78 mm_RX9_475 sh_116 (Nat.le_of_ble_eq_true rfl) ⟨_, rfl, rfl⟩ (Nat.le_of_ble_eq_true rfl) (Nat.le_of_ble_eq_true rfl) (M_pw hb hi6 hkd hkd6 hv hx (by simp only [List.length_append, List.length_cons, List.length_nil]; omega) (fun m78 hm78 => ?_))
    have e119 : m78 119 i = v := by rw [hm78.1 119 (by decide) (by decide)]; exact hv
    refine al_0 dX9_waitsAct_81 ?_
    refine R_getfr (r := 119) dX9_waitsAct_82 fl_RX9_44 rfl sh_116 (Nat.le_of_ble_eq_true rfl) rf_116_11 ?_
    refine il_1 dX9_waitsAct_85 ?_
    refine R_iald dX9_waitsAct_86 sh_119 (Nat.le_of_ble_eq_true rfl) (rn_ixe hx) hi6 ?_
    refine R_ixor dX9_waitsAct_87 ?_
    refine R_ireturn dX9_waitsAct_88 ⟨_, rfl, rfl⟩ ?_
    have ek : kd = 6 := sm_inj (b := 6) (by omega) (by decide) (e118.symm.trans w6_6)
    have eV : wtV kd v x z = (z + x) ^^^ v := by unfold wtV; rw [if_neg (by omega), if_neg (by omega), if_pos ek]
    have eT : wtT kd = [71, 10] := by unfold wtT; rw [if_neg (by omega), if_neg (by omega), if_pos ek]
    rw [eV, eT] at h
    rw [e119]
    refine h m78 ?_
    try simp only [List.append_assoc, List.cons_append, List.nil_append] at hm78
    exact hm78
  refine R_tswO (tgt := 89) dX9_waitsAct_6 (by have w6_2' := lv_neT (a := 2) w6_2 rfl; have w6_3' := lv_neT (a := 3) w6_3 rfl; have w6_4' := lv_neT (a := 4) w6_4 rfl; have w6_5' := lv_neT (a := 5) w6_5 rfl; have w6_6' := lv_neT (a := 6) w6_6 rfl; omega) (by decide) ?_
  refine al_0 dX9_waitsAct_89 ?_
  refine il_1 dX9_waitsAct_90 ?_
  refine il_2 dX9_waitsAct_91 ?_
  refine cv_2 dX9_waitsAct_92 mm_RX9_475 sh_116 (Nat.le_of_ble_eq_true rfl) ⟨_, rfl, rfl⟩ (Nat.le_of_ble_eq_true rfl) (Nat.le_of_ble_eq_true rfl) (M_pw hac hi6 hkd hkd6 hv hx (by omega) (fun m92 hm92 => ?_))
  have e119 : m92 119 i = v := by rw [hm92.1 119 (by decide) (by decide)]; exact hv
  refine R_ireturn dX9_waitsAct_95 ⟨_, rfl, rfl⟩ ?_
  have nk : ¬ (kd = 2 ∨ kd = 5) ∧ ¬ kd = 4 ∧ ¬ kd = 6 := by
    first
    | (have ek : kd = 3 := sm_inj (b := 3) (by omega) (by decide) (e118.symm.trans w6_3); omega)
    | (refine ⟨fun q => ?_, fun q => w6_4 (by rw [e118, q]; rfl), fun q => w6_6 (by rw [e118, q]; rfl)⟩; rcases q with q | q; exact w6_2 (by rw [e118, q]; rfl); exact w6_5 (by rw [e118, q]; rfl))
  have eV : wtV kd v x z = z + x := by unfold wtV; rw [if_neg nk.1, if_neg nk.2.1, if_neg nk.2.2]
  have eT : wtT kd = [10] := by unfold wtT; rw [if_neg nk.1, if_neg nk.2.1, if_neg nk.2.2]
  rw [eV, eT] at h
  refine h m92 ?_
  try simp only [List.append_assoc, List.cons_append, List.nil_append] at hm92
  exact hm92

set_option maxHeartbeats 4000000 in
theorem M_pk {G : rn_G} {d : Nat} {κ : Nat × Nat} {Q : Option Value → rn_S → Prop} {mi : Nat → Nat → Int32} {ml : Nat → Nat → Int64} {D : Nat → Nat} {m0 : Nat → Nat → Int32} {l : List Int32} (hac : AC m0 mi l) {i kd : Nat} {v : Int32} (hi6 : i < 6) (hkd : m0 118 i = nI kd) (hkd6 : kd ≤ 6) (hv : m0 119 i = v) {x z : Int32} (hx : x = nI i) (hl : l.length + 3 ≤ 20) (h : ∀ m, AC m0 m (l ++ pkT kd) → Q (some (.int (pkV kd v x z))) (m, ml, RF D, 164)) : Call G (d + 3) M_X9_personWalks [.ref 116, .int x, .int z] (mi, ml, RF D, 164) κ Q := by
  show Run G _ M_X9_personWalks 0 [.ref 116, .int x, .int z] [] _ _ _
  have e118 : mi 118 i = nI kd := by rw [hac.1 118 (by decide) (by decide)]; exact hkd
  have e119 : mi 119 i = v := by rw [hac.1 119 (by decide) (by decide)]; exact hv
  refine al_0 dX9_personWalks_0 ?_
  refine R_bipush (v := 11) dX9_personWalks_1 (by decide) ?_
  refine cv_1 dX9_personWalks_3 mm_RX9_472 sh_116 (Nat.le_of_ble_eq_true rfl) ⟨_, rfl, rfl⟩ (Nat.le_of_ble_eq_true rfl) (Nat.le_of_ble_eq_true rfl) (M_body hac (by omega) (fun m3 hm3 => ?_))
  have hb := hm3
  have e119 : m3 119 i = v := by rw [hm3.1 119 (by decide) (by decide)]; exact hv
  refine al_0 dX9_personWalks_6 ?_
  refine il_1 dX9_personWalks_7 ?_
  refine il_2 dX9_personWalks_8 ?_
  refine cv_2 dX9_personWalks_9 mm_RX9_478 sh_116 (Nat.le_of_ble_eq_true rfl) ⟨_, rfl, rfl⟩ (Nat.le_of_ble_eq_true rfl) (Nat.le_of_ble_eq_true rfl) (M_wt hb hi6 hkd hkd6 hv hx (by simp only [List.length_append, List.length_cons, List.length_nil]; omega) (fun m9 hm9 => ?_))
  have e119 : m9 119 i = v := by rw [hm9.1 119 (by decide) (by decide)]; exact hv
  refine al_0 dX9_personWalks_12 ?_
  refine R_getfr (r := 119) dX9_personWalks_13 fl_RX9_44 rfl sh_116 (Nat.le_of_ble_eq_true rfl) rf_116_11 ?_
  refine il_1 dX9_personWalks_16 ?_
  refine R_iald dX9_personWalks_17 sh_119 (Nat.le_of_ble_eq_true rfl) (rn_ixe hx) hi6 ?_
  refine R_isub dX9_personWalks_18 ?_
  refine R_ireturn dX9_personWalks_19 ⟨_, rfl, rfl⟩ ?_
  rw [e119]
  unfold pkV pkT at h
  refine h m9 ?_
  try simp only [List.append_assoc, List.cons_append, List.nil_append] at hm9
  exact hm9

set_option maxHeartbeats 4000000 in
theorem M_ok {G : rn_G} {d : Nat} {κ : Nat × Nat} {Q : Option Value → rn_S → Prop} {mi : Nat → Nat → Int32} {ml : Nat → Nat → Int64} {D : Nat → Nat} {m0 : Nat → Nat → Int32} {l : List Int32} (hac : AC m0 mi l) {i kd : Nat} {v : Int32} (hi6 : i < 6) (hkd : m0 118 i = nI kd) (hkd6 : kd ≤ 6) (hv : m0 119 i = v) {x z : Int32} (hx : x = nI i) (hl : l.length + 4 ≤ 20) (h : ∀ m, AC m0 m (l ++ okT0 kd) → Q (some (.int (okV kd v x z))) (m, ml, RF D, 164)) : Call G (d + 4) M_X9_oldWalks [.ref 116, .int x, .int z] (mi, ml, RF D, 164) κ Q := by
  show Run G _ M_X9_oldWalks 0 [.ref 116, .int x, .int z] [] _ _ _
  have e118 : mi 118 i = nI kd := by rw [hac.1 118 (by decide) (by decide)]; exact hkd
  have e119 : mi 119 i = v := by rw [hac.1 119 (by decide) (by decide)]; exact hv
  refine al_0 dX9_oldWalks_0 ?_
  refine R_bipush (v := 20) dX9_oldWalks_1 (by decide) ?_
  refine cv_1 dX9_oldWalks_3 mm_RX9_472 sh_116 (Nat.le_of_ble_eq_true rfl) ⟨_, rfl, rfl⟩ (Nat.le_of_ble_eq_true rfl) (Nat.le_of_ble_eq_true rfl) (M_body hac (by omega) (fun m3 hm3 => ?_))
  have hb := hm3
  have e119 : m3 119 i = v := by rw [hm3.1 119 (by decide) (by decide)]; exact hv
  refine al_0 dX9_oldWalks_6 ?_
  refine il_1 dX9_oldWalks_7 ?_
  refine il_2 dX9_oldWalks_8 ?_
  refine cv_2 dX9_oldWalks_9 mm_RX9_481 sh_116 (Nat.le_of_ble_eq_true rfl) ⟨_, rfl, rfl⟩ (Nat.le_of_ble_eq_true rfl) (Nat.le_of_ble_eq_true rfl) (M_pk hb hi6 hkd hkd6 hv hx (by simp only [List.length_append, List.length_cons, List.length_nil]; omega) (fun m9 hm9 => ?_))
  have e119 : m9 119 i = v := by rw [hm9.1 119 (by decide) (by decide)]; exact hv
  refine R_bipush (v := 6) dX9_oldWalks_12 (by decide) ?_
  refine R_ixor dX9_oldWalks_14 ?_
  refine R_ireturn dX9_oldWalks_15 ⟨_, rfl, rfl⟩ ?_
  unfold okV okT0 at h
  refine h m9 ?_
  try simp only [List.append_assoc, List.cons_append, List.nil_append] at hm9
  exact hm9

set_option maxHeartbeats 4000000 in
theorem M_wk {G : rn_G} {d : Nat} {κ : Nat × Nat} {Q : Option Value → rn_S → Prop} {mi : Nat → Nat → Int32} {ml : Nat → Nat → Int64} {D : Nat → Nat} {m0 : Nat → Nat → Int32} {l : List Int32} (hac : AC m0 mi l) {i kd : Nat} {v : Int32} (hi6 : i < 6) (hkd : m0 118 i = nI kd) (hkd6 : kd ≤ 6) (hv : m0 119 i = v) {x z : Int32} (hx : x = nI i) (hl : l.length + 5 ≤ 20) (h : ∀ m, AC m0 m (l ++ wkT kd) → Q (some (.int (wkV kd v x z))) (m, ml, RF D, 164)) : Call G (d + 5) M_X9_walksAct [.ref 116, .int x, .int z] (mi, ml, RF D, 164) κ Q := by
  show Run G _ M_X9_walksAct 0 [.ref 116, .int x, .int z, .null] [] _ _ _
  have e118 : mi 118 i = nI kd := by rw [hac.1 118 (by decide) (by decide)]; exact hkd
  have e119 : mi 119 i = v := by rw [hac.1 119 (by decide) (by decide)]; exact hv
  refine al_0 dX9_walksAct_0 ?_
  refine R_getfr (r := 118) dX9_walksAct_1 fl_RX9_41 rfl sh_116 (Nat.le_of_ble_eq_true rfl) rf_116_10 ?_
  refine il_1 dX9_walksAct_4 ?_
  refine R_iald dX9_walksAct_5 sh_118 (Nat.le_of_ble_eq_true rfl) (rn_ixe hx) hi6 ?_
  obtain ⟨kq, hkq⟩ : ∃ kq, kq = mi 118 i := ⟨_, rfl⟩
  rw [← hkq] at e118 ⊢
  by_cases w6_1 : kq = 1
  · rw [w6_1]
    refine R_lsw (off := 34) (tgt := 40) dX9_walksAct_6 (by decide) (by decide) (by decide) ?_
    refine al_0 dX9_walksAct_40 ?_
    refine il_1 dX9_walksAct_41 ?_
    refine il_2 dX9_walksAct_42 ?_
    refine cv_2 dX9_walksAct_43 mm_RX9_484 sh_116 (Nat.le_of_ble_eq_true rfl) ⟨_, rfl, rfl⟩ (Nat.le_of_ble_eq_true rfl) (Nat.le_of_ble_eq_true rfl) (M_ok hac hi6 hkd hkd6 hv hx (by omega) (fun m43 hm43 => ?_))
    refine R_ireturn dX9_walksAct_46 ⟨_, rfl, rfl⟩ ?_
    have ek : kd = 1 := sm_inj (b := 1) (by omega) (by decide) (e118.symm.trans w6_1)
    have eV : wkV kd v x z = okV kd v x z := by unfold wkV; rw [if_pos ek]
    have eT : wkT kd = okT0 kd := by unfold wkT; rw [if_pos ek]
    rw [eV, eT] at h
    exact h m43 hm43
  by_cases w6_4 : kq = 4
  · rw [w6_4]
    refine R_lsw (off := 41) (tgt := 47) dX9_walksAct_6 (by decide) (by decide) (by decide) ?_
    refine al_0 dX9_walksAct_47 ?_
    refine R_bipush (v := 51) dX9_walksAct_48 (by decide) ?_
    refine cv_1 dX9_walksAct_50 mm_RX9_472 sh_116 (Nat.le_of_ble_eq_true rfl) ⟨_, rfl, rfl⟩ (Nat.le_of_ble_eq_true rfl) (Nat.le_of_ble_eq_true rfl) (M_body hac (by omega) (fun m50 hm50 => ?_))
    have hb := hm50
    have e119 : m50 119 i = v := by rw [hm50.1 119 (by decide) (by decide)]; exact hv
    refine al_0 dX9_walksAct_53 ?_
    refine il_1 dX9_walksAct_54 ?_
    refine il_2 dX9_walksAct_55 ?_
    refine R_iconst (v := 1) dX9_walksAct_56 (by decide) ?_
    refine R_iadd dX9_walksAct_57 ?_
    refine cv_2 dX9_walksAct_58 mm_RX9_484 sh_116 (Nat.le_of_ble_eq_true rfl) ⟨_, rfl, rfl⟩ (Nat.le_of_ble_eq_true rfl) (Nat.le_of_ble_eq_true rfl) (M_ok hb hi6 hkd hkd6 hv hx (by simp only [List.length_append, List.length_cons, List.length_nil]; omega) (fun m58 hm58 => ?_))
    refine R_ireturn dX9_walksAct_61 ⟨_, rfl, rfl⟩ ?_
    have ek : kd = 4 := sm_inj (b := 4) (by omega) (by decide) (e118.symm.trans w6_4)
    have eV : wkV kd v x z = okV kd v x (z + 1) := by unfold wkV; rw [if_neg (by omega), if_pos ek]
    have eT : wkT kd = 51 :: okT0 kd := by unfold wkT; rw [if_neg (by omega), if_pos ek]
    rw [eV, eT] at h
    refine h m58 ?_
    try simp only [List.append_assoc, List.cons_append, List.nil_append] at hm58
    exact hm58
  by_cases w6_6 : kq = 6
  · rw [w6_6]
    refine R_lsw (off := 56) (tgt := 62) dX9_walksAct_6 (by decide) (by decide) (by decide) ?_
    refine al_0 dX9_walksAct_62 ?_
    refine R_bipush (v := 70) dX9_walksAct_63 (by decide) ?_
    refine cv_1 dX9_walksAct_65 mm_RX9_472 sh_116 (Nat.le_of_ble_eq_true rfl) ⟨_, rfl, rfl⟩ (Nat.le_of_ble_eq_true rfl) (Nat.le_of_ble_eq_true rfl) (M_body hac (by omega) (fun m65 hm65 => ?_))
    have hb := hm65
    have e119 : m65 119 i = v := by rw [hm65.1 119 (by decide) (by decide)]; exact hv
    refine al_0 dX9_walksAct_68 ?_
    refine il_1 dX9_walksAct_69 ?_
    refine il_2 dX9_walksAct_70 ?_
    refine cv_2 dX9_walksAct_71 mm_RX9_481 sh_116 (Nat.le_of_ble_eq_true rfl) ⟨_, rfl, rfl⟩ (Nat.le_of_ble_eq_true rfl) (Nat.le_of_ble_eq_true rfl) (M_pk hb hi6 hkd hkd6 hv hx (by simp only [List.length_append, List.length_cons, List.length_nil]; omega) (fun m71 hm71 => ?_))
    refine is_3 dX9_walksAct_74 rfl ?_
    refine il_3 dX9_walksAct_75 ?_
    refine al_0 dX9_walksAct_76 ?_
    refine il_1 dX9_walksAct_77 ?_
    refine R_iconst (v := 2) dX9_walksAct_78 (by decide) ?_
    refine cv_2 dX9_walksAct_79 mm_RX9_475 sh_116 (Nat.le_of_ble_eq_true rfl) ⟨_, rfl, rfl⟩ (Nat.le_of_ble_eq_true rfl) (Nat.le_of_ble_eq_true rfl) (M_pw hm71 hi6 hkd hkd6 hv hx (by have := pk_l kd; simp only [List.length_append, List.length_cons, List.length_nil]; omega) (fun m79 hm79 => ?_))
    refine R_iadd dX9_walksAct_82 ?_
    refine R_ireturn dX9_walksAct_83 ⟨_, rfl, rfl⟩ ?_
    have ek : kd = 6 := sm_inj (b := 6) (by omega) (by decide) (e118.symm.trans w6_6)
    have eV : wkV kd v x z = pkV kd v x z + (2 + x) := by unfold wkV; rw [if_neg (by omega), if_neg (by omega), if_pos ek]
    have eT : wkT kd = 70 :: (pkT kd ++ [10]) := by unfold wkT; rw [if_neg (by omega), if_neg (by omega), if_pos ek]
    rw [eV, eT] at h
    refine h m79 ?_
    try simp only [List.append_assoc, List.cons_append, List.nil_append] at hm79
    exact hm79
  refine R_lsw (off := 78) (tgt := 84) dX9_walksAct_6 (by decide) ((lv_osw w6_1 rfl).trans ((lv_osw w6_4 rfl).trans ((lv_osw w6_6 rfl).trans (rfl)))) (by decide) ?_
  refine al_0 dX9_walksAct_84 ?_
  refine il_1 dX9_walksAct_85 ?_
  refine il_2 dX9_walksAct_86 ?_
  refine cv_2 dX9_walksAct_87 mm_RX9_481 sh_116 (Nat.le_of_ble_eq_true rfl) ⟨_, rfl, rfl⟩ (Nat.le_of_ble_eq_true rfl) (Nat.le_of_ble_eq_true rfl) (M_pk hac hi6 hkd hkd6 hv hx (by omega) (fun m87 hm87 => ?_))
  refine R_ireturn dX9_walksAct_90 ⟨_, rfl, rfl⟩ ?_
  have eV : wkV kd v x z = pkV kd v x z := by unfold wkV; rw [if_neg (fun q => w6_1 (by rw [e118, q]; rfl)), if_neg (fun q => w6_4 (by rw [e118, q]; rfl)), if_neg (fun q => w6_6 (by rw [e118, q]; rfl))]
  have eT : wkT kd = pkT kd := by unfold wkT; rw [if_neg (fun q => w6_1 (by rw [e118, q]; rfl)), if_neg (fun q => w6_4 (by rw [e118, q]; rfl)), if_neg (fun q => w6_6 (by rw [e118, q]; rfl))]
  rw [eV, eT] at h
  exact h m87 hm87

set_option maxHeartbeats 4000000 in
theorem M_pt {G : rn_G} {d : Nat} {κ : Nat × Nat} {Q : Option Value → rn_S → Prop} {mi : Nat → Nat → Int32} {ml : Nat → Nat → Int64} {D : Nat → Nat} {m0 : Nat → Nat → Int32} {l : List Int32} (hac : AC m0 mi l) {i kd : Nat} {v : Int32} (hi6 : i < 6) (hkd : m0 118 i = nI kd) (hkd6 : kd ≤ 6) (hv : m0 119 i = v) {x z : Int32} (hx : x = nI i) (hl : l.length + 6 ≤ 20) (h : ∀ m, AC m0 m (l ++ ptT kd) → Q (some (.int (ptV kd v x z))) (m, ml, RF D, 164)) : Call G (d + 6) M_X9_personTells [.ref 116, .int x, .int z] (mi, ml, RF D, 164) κ Q := by
  show Run G _ M_X9_personTells 0 [.ref 116, .int x, .int z] [] _ _ _
  have e118 : mi 118 i = nI kd := by rw [hac.1 118 (by decide) (by decide)]; exact hkd
  have e119 : mi 119 i = v := by rw [hac.1 119 (by decide) (by decide)]; exact hv
  refine al_0 dX9_personTells_0 ?_
  refine R_bipush (v := 12) dX9_personTells_1 (by decide) ?_
  refine cv_1 dX9_personTells_3 mm_RX9_472 sh_116 (Nat.le_of_ble_eq_true rfl) ⟨_, rfl, rfl⟩ (Nat.le_of_ble_eq_true rfl) (Nat.le_of_ble_eq_true rfl) (M_body hac (by omega) (fun m3 hm3 => ?_))
  have hb := hm3
  have e119 : m3 119 i = v := by rw [hm3.1 119 (by decide) (by decide)]; exact hv
  refine al_0 dX9_personTells_6 ?_
  refine il_1 dX9_personTells_7 ?_
  refine il_2 dX9_personTells_8 ?_
  refine cv_2 dX9_personTells_9 mm_RX9_487 sh_116 (Nat.le_of_ble_eq_true rfl) ⟨_, rfl, rfl⟩ (Nat.le_of_ble_eq_true rfl) (Nat.le_of_ble_eq_true rfl) (M_wk hb hi6 hkd hkd6 hv hx (by simp only [List.length_append, List.length_cons, List.length_nil]; omega) (fun m9 hm9 => ?_))
  have e119 : m9 119 i = v := by rw [hm9.1 119 (by decide) (by decide)]; exact hv
  refine R_iconst (v := 2) dX9_personTells_12 (by decide) ?_
  refine R_imul dX9_personTells_13 ?_
  refine R_ireturn dX9_personTells_14 ⟨_, rfl, rfl⟩ ?_
  unfold ptV ptT at h
  refine h m9 ?_
  try simp only [List.append_assoc, List.cons_append, List.nil_append] at hm9
  exact hm9

set_option maxHeartbeats 4000000 in
theorem M_tt {G : rn_G} {d : Nat} {κ : Nat × Nat} {Q : Option Value → rn_S → Prop} {mi : Nat → Nat → Int32} {ml : Nat → Nat → Int64} {D : Nat → Nat} {m0 : Nat → Nat → Int32} {l : List Int32} (hac : AC m0 mi l) {i kd : Nat} {v : Int32} (hi6 : i < 6) (hkd : m0 118 i = nI kd) (hkd6 : kd ≤ 6) (hv : m0 119 i = v) {x z : Int32} (hx : x = nI i) (hl : l.length + 12 ≤ 20) (h : ∀ m, AC m0 m (l ++ ttT kd) → Q (some (.int (ttV kd v x z))) (m, ml, RF D, 164)) : Call G (d + 7) M_X9_tellsAct [.ref 116, .int x, .int z] (mi, ml, RF D, 164) κ Q := by
  show Run G _ M_X9_tellsAct 0 [.ref 116, .int x, .int z, .null] [] _ _ _
  have e118 : mi 118 i = nI kd := by rw [hac.1 118 (by decide) (by decide)]; exact hkd
  have e119 : mi 119 i = v := by rw [hac.1 119 (by decide) (by decide)]; exact hv
  refine al_0 dX9_tellsAct_0 ?_
  refine R_getfr (r := 118) dX9_tellsAct_1 fl_RX9_41 rfl sh_116 (Nat.le_of_ble_eq_true rfl) rf_116_10 ?_
  refine il_1 dX9_tellsAct_4 ?_
  refine R_iald dX9_tellsAct_5 sh_118 (Nat.le_of_ble_eq_true rfl) (rn_ixe hx) hi6 ?_
  by_cases w6_3 : mi 118 i = 3
  · refine R_tswI (tgt := 36) dX9_tellsAct_6 3 w6_3 (by decide) (by decide) rfl (by decide) ?_
    refine al_0 dX9_tellsAct_36 ?_
    refine R_bipush (v := 40) dX9_tellsAct_37 (by decide) ?_
    refine cv_1 dX9_tellsAct_39 mm_RX9_472 sh_116 (Nat.le_of_ble_eq_true rfl) ⟨_, rfl, rfl⟩ (Nat.le_of_ble_eq_true rfl) (Nat.le_of_ble_eq_true rfl) (M_body hac (by omega) (fun m39 hm39 => ?_))
    have hb := hm39
    have e119 : m39 119 i = v := by rw [hm39.1 119 (by decide) (by decide)]; exact hv
    refine al_0 dX9_tellsAct_42 ?_
    refine il_1 dX9_tellsAct_43 ?_
    refine il_2 dX9_tellsAct_44 ?_
    refine cv_2 dX9_tellsAct_45 mm_RX9_490 sh_116 (Nat.le_of_ble_eq_true rfl) ⟨_, rfl, rfl⟩ (Nat.le_of_ble_eq_true rfl) (Nat.le_of_ble_eq_true rfl) (M_pt hb hi6 hkd hkd6 hv hx (by simp only [List.length_append, List.length_cons, List.length_nil]; omega) (fun m45 hm45 => ?_))
    refine is_3 dX9_tellsAct_48 rfl ?_
    refine il_3 dX9_tellsAct_49 ?_
    refine al_0 dX9_tellsAct_50 ?_
    refine il_1 dX9_tellsAct_51 ?_
    refine R_iconst (v := 1) dX9_tellsAct_52 (by decide) ?_
    refine cv_2 dX9_tellsAct_53 mm_RX9_487 sh_116 (Nat.le_of_ble_eq_true rfl) ⟨_, rfl, rfl⟩ (Nat.le_of_ble_eq_true rfl) (Nat.le_of_ble_eq_true rfl) (M_wk hm45 hi6 hkd hkd6 hv hx (by have := pt_l kd; simp only [List.length_append, List.length_cons, List.length_nil]; omega) (fun m53 hm53 => ?_))
    refine R_iadd dX9_tellsAct_56 ?_
    refine R_ireturn dX9_tellsAct_57 ⟨_, rfl, rfl⟩ ?_
    have ek : kd = 3 ∨ kd = 6 := by first | exact Or.inl (sm_inj (b := 3) (by omega) (by decide) (e118.symm.trans w6_3)) | exact Or.inr (sm_inj (b := 6) (by omega) (by decide) (e118.symm.trans w6_6))
    have eV : ttV kd v x z = ptV kd v x z + wkV kd v x 1 := by unfold ttV; rw [if_pos ek]
    have eT : ttT kd = 40 :: (ptT kd ++ wkT kd) := by unfold ttT; rw [if_pos ek]
    rw [eV, eT] at h
    refine h m53 ?_
    try simp only [List.append_assoc, List.cons_append, List.nil_append] at hm53
    exact hm53
  by_cases w6_4 : mi 118 i = 4
  · refine R_tswI (tgt := 73) dX9_tellsAct_6 4 w6_4 (by decide) (by decide) rfl (by decide) ?_
    refine al_0 dX9_tellsAct_73 ?_
    refine il_1 dX9_tellsAct_74 ?_
    refine il_2 dX9_tellsAct_75 ?_
    refine cv_2 dX9_tellsAct_76 mm_RX9_490 sh_116 (Nat.le_of_ble_eq_true rfl) ⟨_, rfl, rfl⟩ (Nat.le_of_ble_eq_true rfl) (Nat.le_of_ble_eq_true rfl) (M_pt hac hi6 hkd hkd6 hv hx (by omega) (fun m76 hm76 => ?_))
    refine R_ireturn dX9_tellsAct_79 ⟨_, rfl, rfl⟩ ?_
    have nk : ¬ (kd = 3 ∨ kd = 6) ∧ ¬ kd = 5 := by
      first
      | (have ek : kd = 4 := sm_inj (b := 4) (by omega) (by decide) (e118.symm.trans w6_4); omega)
      | (refine ⟨fun q => ?_, fun q => w6_5 (by rw [e118, q]; rfl)⟩; rcases q with q | q; exact w6_3 (by rw [e118, q]; rfl); exact w6_6 (by rw [e118, q]; rfl))
    have eV : ttV kd v x z = ptV kd v x z := by unfold ttV; rw [if_neg nk.1, if_neg nk.2]
    have eT : ttT kd = ptT kd := by unfold ttT; rw [if_neg nk.1, if_neg nk.2]
    rw [eV, eT] at h
    exact h m76 hm76
  by_cases w6_5 : mi 118 i = 5
  · refine R_tswI (tgt := 58) dX9_tellsAct_6 5 w6_5 (by decide) (by decide) rfl (by decide) ?_
    refine al_0 dX9_tellsAct_58 ?_
    refine R_bipush (v := 60) dX9_tellsAct_59 (by decide) ?_
    refine cv_1 dX9_tellsAct_61 mm_RX9_472 sh_116 (Nat.le_of_ble_eq_true rfl) ⟨_, rfl, rfl⟩ (Nat.le_of_ble_eq_true rfl) (Nat.le_of_ble_eq_true rfl) (M_body hac (by omega) (fun m61 hm61 => ?_))
    have hb := hm61
    have e119 : m61 119 i = v := by rw [hm61.1 119 (by decide) (by decide)]; exact hv
    refine al_0 dX9_tellsAct_64 ?_
    refine il_1 dX9_tellsAct_65 ?_
    refine il_2 dX9_tellsAct_66 ?_
    refine il_1 dX9_tellsAct_67 ?_
    refine R_isub dX9_tellsAct_68 ?_
    refine cv_2 dX9_tellsAct_69 mm_RX9_490 sh_116 (Nat.le_of_ble_eq_true rfl) ⟨_, rfl, rfl⟩ (Nat.le_of_ble_eq_true rfl) (Nat.le_of_ble_eq_true rfl) (M_pt hb hi6 hkd hkd6 hv hx (by simp only [List.length_append, List.length_cons, List.length_nil]; omega) (fun m69 hm69 => ?_))
    refine R_ireturn dX9_tellsAct_72 ⟨_, rfl, rfl⟩ ?_
    have ek : kd = 5 := sm_inj (b := 5) (by omega) (by decide) (e118.symm.trans w6_5)
    have eV : ttV kd v x z = ptV kd v x (z - x) := by unfold ttV; rw [if_neg (by omega), if_pos ek]
    have eT : ttT kd = 60 :: ptT kd := by unfold ttT; rw [if_neg (by omega), if_pos ek]
    rw [eV, eT] at h
    refine h m69 ?_
    try simp only [List.append_assoc, List.cons_append, List.nil_append] at hm69
    exact hm69
  by_cases w6_6 : mi 118 i = 6
  · refine R_tswI (tgt := 36) dX9_tellsAct_6 6 w6_6 (by decide) (by decide) rfl (by decide) ?_
    refine al_0 dX9_tellsAct_36 ?_
    refine R_bipush (v := 40) dX9_tellsAct_37 (by decide) ?_
    refine cv_1 dX9_tellsAct_39 mm_RX9_472 sh_116 (Nat.le_of_ble_eq_true rfl) ⟨_, rfl, rfl⟩ (Nat.le_of_ble_eq_true rfl) (Nat.le_of_ble_eq_true rfl) (M_body hac (by omega) (fun m39 hm39 => ?_))
    have hb := hm39
    have e119 : m39 119 i = v := by rw [hm39.1 119 (by decide) (by decide)]; exact hv
    refine al_0 dX9_tellsAct_42 ?_
    refine il_1 dX9_tellsAct_43 ?_
    refine il_2 dX9_tellsAct_44 ?_
    refine cv_2 dX9_tellsAct_45 mm_RX9_490 sh_116 (Nat.le_of_ble_eq_true rfl) ⟨_, rfl, rfl⟩ (Nat.le_of_ble_eq_true rfl) (Nat.le_of_ble_eq_true rfl) (M_pt hb hi6 hkd hkd6 hv hx (by simp only [List.length_append, List.length_cons, List.length_nil]; omega) (fun m45 hm45 => ?_))
    refine is_3 dX9_tellsAct_48 rfl ?_
    refine il_3 dX9_tellsAct_49 ?_
    refine al_0 dX9_tellsAct_50 ?_
    refine il_1 dX9_tellsAct_51 ?_
    refine R_iconst (v := 1) dX9_tellsAct_52 (by decide) ?_
    refine cv_2 dX9_tellsAct_53 mm_RX9_487 sh_116 (Nat.le_of_ble_eq_true rfl) ⟨_, rfl, rfl⟩ (Nat.le_of_ble_eq_true rfl) (Nat.le_of_ble_eq_true rfl) (M_wk hm45 hi6 hkd hkd6 hv hx (by have := pt_l kd; simp only [List.length_append, List.length_cons, List.length_nil]; omega) (fun m53 hm53 => ?_))
    refine R_iadd dX9_tellsAct_56 ?_
    refine R_ireturn dX9_tellsAct_57 ⟨_, rfl, rfl⟩ ?_
    have ek : kd = 3 ∨ kd = 6 := by first | exact Or.inl (sm_inj (b := 3) (by omega) (by decide) (e118.symm.trans w6_3)) | exact Or.inr (sm_inj (b := 6) (by omega) (by decide) (e118.symm.trans w6_6))
    have eV : ttV kd v x z = ptV kd v x z + wkV kd v x 1 := by unfold ttV; rw [if_pos ek]
    have eT : ttT kd = 40 :: (ptT kd ++ wkT kd) := by unfold ttT; rw [if_pos ek]
    rw [eV, eT] at h
    refine h m53 ?_
    try simp only [List.append_assoc, List.cons_append, List.nil_append] at hm53
    exact hm53
  refine R_tswO (tgt := 73) dX9_tellsAct_6 (by have w6_3' := lv_neT (a := 3) w6_3 rfl; have w6_4' := lv_neT (a := 4) w6_4 rfl; have w6_5' := lv_neT (a := 5) w6_5 rfl; have w6_6' := lv_neT (a := 6) w6_6 rfl; omega) (by decide) ?_
  refine al_0 dX9_tellsAct_73 ?_
  refine il_1 dX9_tellsAct_74 ?_
  refine il_2 dX9_tellsAct_75 ?_
  refine cv_2 dX9_tellsAct_76 mm_RX9_490 sh_116 (Nat.le_of_ble_eq_true rfl) ⟨_, rfl, rfl⟩ (Nat.le_of_ble_eq_true rfl) (Nat.le_of_ble_eq_true rfl) (M_pt hac hi6 hkd hkd6 hv hx (by omega) (fun m76 hm76 => ?_))
  refine R_ireturn dX9_tellsAct_79 ⟨_, rfl, rfl⟩ ?_
  have nk : ¬ (kd = 3 ∨ kd = 6) ∧ ¬ kd = 5 := by
    first
    | (have ek : kd = 4 := sm_inj (b := 4) (by omega) (by decide) (e118.symm.trans w6_4); omega)
    | (refine ⟨fun q => ?_, fun q => w6_5 (by rw [e118, q]; rfl)⟩; rcases q with q | q; exact w6_3 (by rw [e118, q]; rfl); exact w6_6 (by rw [e118, q]; rfl))
  have eV : ttV kd v x z = ptV kd v x z := by unfold ttV; rw [if_neg nk.1, if_neg nk.2]
  have eT : ttT kd = ptT kd := by unfold ttT; rw [if_neg nk.1, if_neg nk.2]
  rw [eV, eT] at h
  exact h m76 hm76

theorem MR.act {w : WD} {c k : Nat} {ds : Nat → CL} {sl : SL} {el bl : EL} {im : IM} {T : Nat → Nat} {L : Nat} {ac l : List Int32} {tp : TP} {mi m : Nat → Nat → Int32} {ml : Nat → Nat → Int64} (h : MR w c k ds sl el bl im T L ac tp mi ml) (g : AC mi m l) : MR w c k ds sl el bl im T L l tp m ml := by
  obtain ⟨a1, a2, a3, a4, a5, a6, a7, a8, a9, a10⟩ := h
  obtain ⟨g1, g2, g3⟩ := g
  exact ⟨a1.ext (fun f _ => g2 f (by omega)) (fun a _ _ => g1 a (by omega) (by omega)) (fun a _ _ => g1 a (by omega) (by omega)), a2.fr (g2 16 (by omega)) (g2 17 (by omega)) (fun a _ _ => g1 a (by omega) (by omega)), a3.fr (g2 49 (by omega)) (g1 138 (by omega) (by omega)) (g1 139 (by omega) (by omega)) (g1 140 (by omega) (by omega)), a4.fr (g2 53 (by omega)) (g1 141 (by omega) (by omega)) (g1 142 (by omega) (by omega)), a5.fr (g2 54 (by omega)) (g1 143 (by omega) (by omega)) (g1 144 (by omega) (by omega)), a6.fr (fun f _ => g2 f (by omega)) (fun a _ _ => g1 a (by omega) (by omega)), a7.fr (g2 18 (by omega)) (g1 124 (by omega) (by omega)), a8.fr (g1 132 (by omega) (by omega)), g3, a10.fr (g1 160 (by omega) (by omega)) (g1 161 (by omega) (by omega)) rfl⟩

set_option maxHeartbeats 4000000 in
theorem MC_act {G : rn_G} {d : Nat} {κ : Nat × Nat} {Q : Option Value → rn_S → Prop} {mi : Nat → Nat → Int32} {ml : Nat → Nat → Int64} {D : Nat → Nat} {x y z : Int32} {w : WD} {c k : Nat} {ds : Nat → CL} {sl : SL} {el bl : EL} {im : IM} {T : Nat → Nat} {L : Nat} {ac : List Int32} {tp : TP} (hv : IV w c k ds sl el bl im ac tp) (hr : MR w c k ds sl el bl im T L ac tp mi ml) (h : ∀ m l, LO mi m ml l → MR w c k ds sl el bl im T L (actA w x y z).2 tp m l → Q (some (.int (actA w x y z).1)) (m, l, RF D, 164))  : Call G (d + 30) M_X9_act [.ref 116, .int x, .int y, .int z] (mi, ml, RF D, 164) κ Q := by
  show Run G _ M_X9_act 0 [.ref 116, .int x, .int y, .int z] [] _ _ _
  have hB := hr.1
  have hw := hv.1.1
  have hk6 := hv.2.2.1
  obtain ⟨N, P, R, ⟨hN, hP, hR, hg, hpp, hrr, hdn, hmn, hkp, hwt, hgp, htr⟩, hpc, hbits, hPJ⟩ := hB.n hw
  obtain ⟨w0, w1, w2, w3, w4, w5, w6, w10⟩ := hB.cells
  have hac : AC mi (rn_u mi 116 87 0) [] := ⟨fun a a1 _ => rn_u_ne a1, fun f hf => by simp [rn_u, hf], rn_u_eq, fun j v hj => absurd hj (by simp)⟩
  refine al_0 dX9_act_0 ?_
  refine R_iconst (v := 0) dX9_act_1 (by decide) ?_
  refine R_putfi dX9_act_2 fl_RX9_274 rfl (Or.inl rfl) sh_116 (Nat.le_of_ble_eq_true rfl) rfl rfl ?_
  refine al_0 dX9_act_5 ?_
  refine il_1 dX9_act_6 ?_
  refine cv_1 dX9_act_7 mm_RX9_305 sh_116 (Nat.le_of_ble_eq_true rfl) ⟨_, rfl, rfl⟩ (Nat.le_of_ble_eq_true rfl) (Nat.le_of_ble_eq_true rfl) (M_isPerson (fun c7 => ?_) (fun c7 => ?_) ⟨P, hP, hpp⟩)
  · refine R_if_eq (tgt := 23) dX9_act_10 (by decide) (fun q => absurd q (by decide)) (fun _ => ?_)
    refine al_0 dX9_act_13 ?_
    refine il_2 dX9_act_14 ?_
    refine R_iconst (v := 0) dX9_act_15 (by decide) ?_
    refine R_iconst (v := 2) dX9_act_16 (by decide) ?_
    refine cv_3 dX9_act_17 mm_RX9_293 sh_116 (Nat.le_of_ble_eq_true rfl) ⟨_, rfl, rfl⟩ (Nat.le_of_ble_eq_true rfl) (Nat.le_of_ble_eq_true rfl) (M_in (fun c17 => ?_) (fun c17 => ?_))
    · refine R_if_ne (tgt := 25) dX9_act_20 (by decide) (fun _ => ?_) (fun q => absurd q (by decide))
      obtain ⟨i, hiP, hx⟩ := sm_of c7.1 (by rw [← hpp]; exact c7.2) (by omega)
      have hi6 : i < 6 := by omega
      have hnx : nn x = i := by rw [hx]; exact nnI (by omega)
      have hPi : w.2.2.2 i = pM mi i := hB.per hpp hP hiP
      have cp : 0 ≤ x ∧ x < w.1 2 := by rw [w2]; exact c7
      obtain ⟨⟨kd, hkd6, hkd⟩, -⟩ := hPJ i hiP
      have hkd : mi 118 i = nI kd := hkd
      have hvv : mi 119 i = mi 119 i := rfl
      have hnk : nn (mi 118 i) = kd := by rw [hkd]; exact nnI (by omega)
      refine il_2 dX9_act_25 ?_
      refine R_if_ne (tgt := 38) dX9_act_26 (by decide) (fun c26 => ?_) (fun c26 => ?_)
      · refine il_2 dX9_act_38 ?_
        refine R_iconst (v := 1) dX9_act_39 (by decide) ?_
        refine R_icmp_ne (tgt := 52) dX9_act_40 (by decide) (fun c40 => ?_) (fun c40 => ?_)
        · refine al_0 dX9_act_52 ?_
          refine il_1 dX9_act_53 ?_
          refine il_3 dX9_act_54 ?_
          refine cv_2 dX9_act_55 mm_RX9_493 sh_116 (Nat.le_of_ble_eq_true rfl) ⟨_, rfl, rfl⟩ (Nat.le_of_ble_eq_true rfl) (Nat.le_of_ble_eq_true rfl) (M_tt hac hi6 hkd hkd6 hvv hx (by simp only [List.length_nil]; omega) (fun m5 hm5 => ?_))
          refine R_ireturn dX9_act_58 ⟨_, rfl, rfl⟩ ?_
          unfold actA at h
          rw [if_pos ⟨cp, c17⟩, hnx, hPi, show pM mi i 0 = mi 118 i from rfl, show pM mi i 1 = mi 119 i from rfl, hnk] at h
          first
            | (rw [if_pos c26] at h; exact h m5 ml (lo_of (fun a ha => hm5.1 a (by omega) (by omega))) (hr.act hm5))
            | (rw [if_neg c26, if_pos c40] at h; exact h m5 ml (lo_of (fun a ha => hm5.1 a (by omega) (by omega))) (hr.act hm5))
            | (rw [if_neg c26, if_neg c40] at h; exact h m5 ml (lo_of (fun a ha => hm5.1 a (by omega) (by omega))) (hr.act hm5))
        · refine al_0 dX9_act_43 ?_
          refine il_1 dX9_act_44 ?_
          refine il_3 dX9_act_45 ?_
          refine cv_2 dX9_act_46 mm_RX9_487 sh_116 (Nat.le_of_ble_eq_true rfl) ⟨_, rfl, rfl⟩ (Nat.le_of_ble_eq_true rfl) (Nat.le_of_ble_eq_true rfl) (M_wk hac hi6 hkd hkd6 hvv hx (by simp only [List.length_nil]; omega) (fun m5 hm5 => ?_))
          refine R_goto (tgt := 58) dX9_act_49 (by decide) ?_
          refine R_ireturn dX9_act_58 ⟨_, rfl, rfl⟩ ?_
          unfold actA at h
          rw [if_pos ⟨cp, c17⟩, hnx, hPi, show pM mi i 0 = mi 118 i from rfl, show pM mi i 1 = mi 119 i from rfl, hnk] at h
          first
            | (rw [if_pos c26] at h; exact h m5 ml (lo_of (fun a ha => hm5.1 a (by omega) (by omega))) (hr.act hm5))
            | (rw [if_neg c26, if_pos c40] at h; exact h m5 ml (lo_of (fun a ha => hm5.1 a (by omega) (by omega))) (hr.act hm5))
            | (rw [if_neg c26, if_neg c40] at h; exact h m5 ml (lo_of (fun a ha => hm5.1 a (by omega) (by omega))) (hr.act hm5))
      · refine al_0 dX9_act_29 ?_
        refine il_1 dX9_act_30 ?_
        refine il_3 dX9_act_31 ?_
        refine cv_2 dX9_act_32 mm_RX9_478 sh_116 (Nat.le_of_ble_eq_true rfl) ⟨_, rfl, rfl⟩ (Nat.le_of_ble_eq_true rfl) (Nat.le_of_ble_eq_true rfl) (M_wt hac hi6 hkd hkd6 hvv hx (by simp only [List.length_nil]; omega) (fun m5 hm5 => ?_))
        refine R_goto (tgt := 58) dX9_act_35 (by decide) ?_
        refine R_ireturn dX9_act_58 ⟨_, rfl, rfl⟩ ?_
        unfold actA at h
        rw [if_pos ⟨cp, c17⟩, hnx, hPi, show pM mi i 0 = mi 118 i from rfl, show pM mi i 1 = mi 119 i from rfl, hnk] at h
        first
          | (rw [if_pos c26] at h; exact h m5 ml (lo_of (fun a ha => hm5.1 a (by omega) (by omega))) (hr.act hm5))
          | (rw [if_neg c26, if_pos c40] at h; exact h m5 ml (lo_of (fun a ha => hm5.1 a (by omega) (by omega))) (hr.act hm5))
          | (rw [if_neg c26, if_neg c40] at h; exact h m5 ml (lo_of (fun a ha => hm5.1 a (by omega) (by omega))) (hr.act hm5))
    · refine R_if_ne (tgt := 25) dX9_act_20 (by decide) (fun q => absurd q (by decide)) (fun _ => ?_)
      refine R_iconst (v := 0) dX9_act_23 (by decide) ?_
      refine R_ireturn dX9_act_24 ⟨_, rfl, rfl⟩ ?_
      unfold actA at h
      rw [if_neg (fun q => by first | exact c7 (by have := q.1; rw [w2] at this; exact this) | exact c17 q.2)] at h
      exact h _ ml (lo_of (fun a ha => rn_u_ne (by omega))) (hr.act hac)
  · refine R_if_eq (tgt := 23) dX9_act_10 (by decide) (fun _ => ?_) (fun q => absurd q (by decide))
    refine R_iconst (v := 0) dX9_act_23 (by decide) ?_
    refine R_ireturn dX9_act_24 ⟨_, rfl, rfl⟩ ?_
    unfold actA at h
    rw [if_neg (fun q => by first | exact c7 (by have := q.1; rw [w2] at this; exact this) | exact c17 q.2)] at h
    exact h _ ml (lo_of (fun a ha => rn_u_ne (by omega))) (hr.act hac)
