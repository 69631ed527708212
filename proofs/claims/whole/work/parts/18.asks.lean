/-! the reference: ears, steps, goals -/
theorem DMB.tail {mi : Nat → Nat → Int32} {B : Nat} {q : Nat × Nat × List TK} {l : CL} (h : DMB mi B (q :: l)) : DMB mi (B + 1) l := fun c u hc => by
  rw [show B + 1 + c = B + (c + 1) by omega]
  exact h (c + 1) u hc

set_option maxHeartbeats 4000000 in
theorem L_ears9 {G : rn_G} {d : Nat} {κ : Nat × Nat} {Q : Option Value → rn_S → Prop} {mi : Nat → Nat → Int32} {ml : Nat → Nat → Int64} {D : Nat → Nat} {E p : Nat} {x : Int32} (ht : okThe mi) (hE : E ≤ 60) (hb : behM mi = nI E) (hy : x = nI p) (hp : p < 6) (hfd : ∃ a, a < 64 ∧ mi 121 p = nI a) (V : Int32) (h : ∀ m, (∀ a, a ≠ 133 → m a = mi a) → Q (some (.int V)) (m, ml, RF D, 164)) :
  ∀ (l : CL) (c : Nat) (s cc : Int32) (m : Nat → Nat → Int32), cc = nI c → c + l.length = E → (∀ q ∈ l, okC q) → DMB mi c l → (∀ a, a ≠ 133 → m a = mi a) → earsA ((factF x (mi 118 p) (mi 119 p) (mi 120 p) (mi 121 p) (mi 116 2))) l s = V → Run G (d + 3) M_X9_ears 7 [.ref 116, .int x, .int s, .int cc] [] (m, ml, RF D, 164) κ Q := by
  intro l
  induction l with
  | nil =>
    intro c s cc m hc he hok hD hm hv
    have ht2 : okThe m := by unfold okThe; rw [hm 116 (by decide)]; exact ht
    have hb2 : behM m = nI E := by unfold behM; rw [hm 116 (by decide), hm 125 (by decide)]; exact hb
    refine il_3 dX9_ears_7 ?_
    refine al_0 dX9_ears_8 ?_
    refine cv_0 dX9_ears_9 mm_RX9_368 sh_116 (Nat.le_of_ble_eq_true rfl) ⟨_, rfl, rfl⟩ (Nat.le_of_ble_eq_true rfl) (Nat.le_of_ble_eq_true rfl) (M_behind ht2 ?_)
    refine R_icmp_ge (tgt := 71) dX9_ears_12 (by decide) (fun c12 => ?_) (fun q => absurd q (not_not_intro (by rw [hc, hb2]; exact nI_le (by simp at he; omega) (by omega))))
    refine il_2 dX9_ears_71 ?_
    refine R_ireturn dX9_ears_72 ⟨_, rfl, rfl⟩ ?_
    have hv : s = V := hv
    rw [hv]
    exact h m hm
  | cons q l ih =>
    intro c s cc m hc he hok hD hm hv
    rw [List.length_cons] at he
    have ht2 : okThe m := by unfold okThe; rw [hm 116 (by decide)]; exact ht
    have hb2 : behM m = nI E := by unfold behM; rw [hm 116 (by decide), hm 125 (by decide)]; exact hb
    obtain ⟨g1, g2, g3⟩ := hD 0 q rfl
    rw [Nat.add_zero] at g1 g2 g3
    have hq := hok q List.mem_cons_self
    have hc6 : c < 60 := by omega
    have hcx : rn_ix cc c := rn_ixe hc
    have hcc2 : cc + 1 = nI (c + 1) := by rw [hc]; exact sm_add c 1
    have eFF : (factF x (m 118 p) (m 119 p) (m 120 p) (m 121 p) (m 116 2)) = (factF x (mi 118 p) (mi 119 p) (mi 120 p) (mi 121 p) (mi 116 2)) := by rw [hm 118 (by decide), hm 119 (by decide), hm 120 (by decide), hm 121 (by decide), hm 116 (by decide)]
    have ew : m 126 c = nI q.1 := by rw [hm 126 (by decide)]; exact g1
    have ne : m 127 c = nI q.2.1 := by rw [hm 127 (by decide)]; exact g2
    unfold earsA at hv
    have hoks : ∀ u ∈ l, okC u := fun u hu => hok u (List.mem_cons_of_mem _ hu)
    have hq3 := hq.1
    have le1 : m 126 c ≤ 1 ↔ q.1 ≤ 1 := by rw [ew]; exact sm_le_iff (b := 1) (by omega) (by decide)
    have z0 : m 126 c = 0 ↔ q.1 = 0 := by rw [ew]; exact ⟨fun e => sm_inj (b := 0) (by omega) (by decide) e, fun e => by rw [e]; rfl⟩
    refine il_3 dX9_ears_7 ?_
    refine al_0 dX9_ears_8 ?_
    refine cv_0 dX9_ears_9 mm_RX9_368 sh_116 (Nat.le_of_ble_eq_true rfl) ⟨_, rfl, rfl⟩ (Nat.le_of_ble_eq_true rfl) (Nat.le_of_ble_eq_true rfl) (M_behind ht2 ?_)
    refine R_icmp_ge (tgt := 71) dX9_ears_12 (by decide) (fun q => absurd q (by rw [hc, hb2]; exact nI_ge (by omega) (by omega))) (fun c12 => ?_)
    refine al_0 dX9_ears_15 ?_
    refine R_getfr (r := 126) dX9_ears_16 fl_RX9_80 rfl sh_116 (Nat.le_of_ble_eq_true rfl) rf_116_23 ?_
    refine il_3 dX9_ears_19 ?_
    refine R_iald dX9_ears_20 sh_126 (Nat.le_of_ble_eq_true rfl) hcx hc6 ?_
    refine R_iconst (v := 1) dX9_ears_21 (by decide) ?_
    refine R_icmp_gt (tgt := 65) dX9_ears_22 (by decide) (fun c22 => ?_) (fun c22 => ?_)
    · refine ii_3 (v := _ + 1) dX9_ears_65 rfl (by rfl) ?_
      refine R_goto (tgt := 7) dX9_ears_68 (by decide) ?_
      first
        | (have n1 : ¬ q.1 ≤ 1 := fun e => Int32.not_lt.mpr (le1.mpr e) (Int32.not_le.mp (fun z => absurd c22 (by first | exact not_not_intro z | exact Int32.not_lt.mpr z)))
           rw [if_neg n1] at hv
           exact ih (c + 1) _ _ m hcc2 (by omega) hoks hD.tail hm hv)
        | (rw [if_pos hq1, c28, if_neg (by decide)] at hv
           exact ih (c + 1) _ _ m2 hcc2 (by omega) hoks hD.tail (fun a ha => (hm2 a ha).trans (hm a ha)) hv)
        | (rw [if_pos hq1, c28, if_pos rfl] at hv
           rw [hm2 126 (by decide)] at c44
           rw [hm2 127 (by decide), ne]
           first
           | (rw [if_pos (z0.mp c44)] at hv; exact ih (c + 1) _ _ m2 hcc2 (by omega) hoks hD.tail (fun a ha => (hm2 a ha).trans (hm a ha)) hv)
           | (rw [if_neg (fun e => c44 (z0.mpr e)), Int32.sub_eq_add_neg] at hv; exact ih (c + 1) _ _ m2 hcc2 (by omega) hoks hD.tail (fun a ha => (hm2 a ha).trans (hm a ha)) hv))
    · have hq1 : q.1 ≤ 1 := le1.mp (Int32.not_lt.mp c22)
      obtain ⟨f0, hf600, hfr, hto, hsg⟩ := g3 hq1
      have hwf := hq.2.2 hq1
      refine al_0 dX9_ears_25 ?_
      refine il_3 dX9_ears_26 ?_
      refine il_1 dX9_ears_27 ?_
      refine cv_2 dX9_ears_28 mm_RX9_381 sh_116 (Nat.le_of_ble_eq_true rfl) ⟨_, rfl, rfl⟩ (Nat.le_of_ble_eq_true rfl) (Nat.le_of_ble_eq_true rfl) (M_holds (l := q.2.2) hcx hc6 hf600 (by rw [hm 128 (by decide)]; exact hfr) (by rw [hm 129 (by decide)]; exact hto) hwf (by rw [hm 130 (by decide)]; exact hsg) hy hp (by rw [hm 121 (by decide)]; exact hfd) (fun m2 hm2 c28 => ?_) (fun m2 hm2 c28 => ?_))
      · rw [eFF] at c28
        refine R_if_ne (tgt := 37) dX9_ears_31 (by decide) (fun _ => ?_) (fun q => absurd q (by decide))
        refine il_2 dX9_ears_37 ?_
        refine al_0 dX9_ears_38 ?_
        refine R_getfr (r := 126) dX9_ears_39 fl_RX9_80 rfl sh_116 (Nat.le_of_ble_eq_true rfl) rf_116_23 ?_
        refine il_3 dX9_ears_42 ?_
        refine R_iald dX9_ears_43 sh_126 (Nat.le_of_ble_eq_true rfl) hcx hc6 ?_
        refine R_if_ne (tgt := 56) dX9_ears_44 (by decide) (fun c44 => ?_) (fun c44 => ?_)
        · refine al_0 dX9_ears_56 ?_
          refine R_getfr (r := 127) dX9_ears_57 fl_RX9_83 rfl sh_116 (Nat.le_of_ble_eq_true rfl) rf_116_24 ?_
          refine il_3 dX9_ears_60 ?_
          refine R_iald dX9_ears_61 sh_127 (Nat.le_of_ble_eq_true rfl) hcx hc6 ?_
          refine R_ineg dX9_ears_62 ?_
          refine R_iadd dX9_ears_63 ?_
          refine is_2 dX9_ears_64 rfl ?_
          refine ii_3 (v := _ + 1) dX9_ears_65 rfl (by rfl) ?_
          refine R_goto (tgt := 7) dX9_ears_68 (by decide) ?_
          first
            | (have n1 : ¬ q.1 ≤ 1 := fun e => Int32.not_lt.mpr (le1.mpr e) (Int32.not_le.mp (fun z => absurd c22 (by first | exact not_not_intro z | exact Int32.not_lt.mpr z)))
               rw [if_neg n1] at hv
               exact ih (c + 1) _ _ m hcc2 (by omega) hoks hD.tail hm hv)
            | (rw [if_pos hq1, c28, if_neg (by decide)] at hv
               exact ih (c + 1) _ _ m2 hcc2 (by omega) hoks hD.tail (fun a ha => (hm2 a ha).trans (hm a ha)) hv)
            | (rw [if_pos hq1, c28, if_pos rfl] at hv
               rw [hm2 126 (by decide)] at c44
               rw [hm2 127 (by decide), ne]
               first
               | (rw [if_pos (z0.mp c44)] at hv; exact ih (c + 1) _ _ m2 hcc2 (by omega) hoks hD.tail (fun a ha => (hm2 a ha).trans (hm a ha)) hv)
               | (rw [if_neg (fun e => c44 (z0.mpr e)), Int32.sub_eq_add_neg] at hv; exact ih (c + 1) _ _ m2 hcc2 (by omega) hoks hD.tail (fun a ha => (hm2 a ha).trans (hm a ha)) hv))
        · refine al_0 dX9_ears_47 ?_
          refine R_getfr (r := 127) dX9_ears_48 fl_RX9_83 rfl sh_116 (Nat.le_of_ble_eq_true rfl) rf_116_24 ?_
          refine il_3 dX9_ears_51 ?_
          refine R_iald dX9_ears_52 sh_127 (Nat.le_of_ble_eq_true rfl) hcx hc6 ?_
          refine R_goto (tgt := 63) dX9_ears_53 (by decide) ?_
          refine R_iadd dX9_ears_63 ?_
          refine is_2 dX9_ears_64 rfl ?_
          refine ii_3 (v := _ + 1) dX9_ears_65 rfl (by rfl) ?_
          refine R_goto (tgt := 7) dX9_ears_68 (by decide) ?_
          first
            | (have n1 : ¬ q.1 ≤ 1 := fun e => Int32.not_lt.mpr (le1.mpr e) (Int32.not_le.mp (fun z => absurd c22 (by first | exact not_not_intro z | exact Int32.not_lt.mpr z)))
               rw [if_neg n1] at hv
               exact ih (c + 1) _ _ m hcc2 (by omega) hoks hD.tail hm hv)
            | (rw [if_pos hq1, c28, if_neg (by decide)] at hv
               exact ih (c + 1) _ _ m2 hcc2 (by omega) hoks hD.tail (fun a ha => (hm2 a ha).trans (hm a ha)) hv)
            | (rw [if_pos hq1, c28, if_pos rfl] at hv
               rw [hm2 126 (by decide)] at c44
               rw [hm2 127 (by decide), ne]
               first
               | (rw [if_pos (z0.mp c44)] at hv; exact ih (c + 1) _ _ m2 hcc2 (by omega) hoks hD.tail (fun a ha => (hm2 a ha).trans (hm a ha)) hv)
               | (rw [if_neg (fun e => c44 (z0.mpr e)), Int32.sub_eq_add_neg] at hv; exact ih (c + 1) _ _ m2 hcc2 (by omega) hoks hD.tail (fun a ha => (hm2 a ha).trans (hm a ha)) hv))
      · rw [eFF] at c28
        refine R_if_ne (tgt := 37) dX9_ears_31 (by decide) (fun q => absurd q (by decide)) (fun _ => ?_)
        refine R_goto (tgt := 65) dX9_ears_34 (by decide) ?_
        refine ii_3 (v := _ + 1) dX9_ears_65 rfl (by rfl) ?_
        refine R_goto (tgt := 7) dX9_ears_68 (by decide) ?_
        first
          | (have n1 : ¬ q.1 ≤ 1 := fun e => Int32.not_lt.mpr (le1.mpr e) (Int32.not_le.mp (fun z => absurd c22 (by first | exact not_not_intro z | exact Int32.not_lt.mpr z)))
             rw [if_neg n1] at hv
             exact ih (c + 1) _ _ m hcc2 (by omega) hoks hD.tail hm hv)
          | (rw [if_pos hq1, c28, if_neg (by decide)] at hv
             exact ih (c + 1) _ _ m2 hcc2 (by omega) hoks hD.tail (fun a ha => (hm2 a ha).trans (hm a ha)) hv)
          | (rw [if_pos hq1, c28, if_pos rfl] at hv
             rw [hm2 126 (by decide)] at c44
             rw [hm2 127 (by decide), ne]
             first
             | (rw [if_pos (z0.mp c44)] at hv; exact ih (c + 1) _ _ m2 hcc2 (by omega) hoks hD.tail (fun a ha => (hm2 a ha).trans (hm a ha)) hv)
             | (rw [if_neg (fun e => c44 (z0.mpr e)), Int32.sub_eq_add_neg] at hv; exact ih (c + 1) _ _ m2 hcc2 (by omega) hoks hD.tail (fun a ha => (hm2 a ha).trans (hm a ha)) hv))

set_option maxHeartbeats 4000000 in
theorem M_ears {G : rn_G} {d : Nat} {κ : Nat × Nat} {Q : Option Value → rn_S → Prop} {mi : Nat → Nat → Int32} {ml : Nat → Nat → Int64} {D : Nat → Nat} {p : Nat} {x : Int32} {cl : CL} (hcm : CM mi cl) (hy : x = nI p) (hp : p < 6) (hfd : ∃ a, a < 64 ∧ mi 121 p = nI a) (h : ∀ m, (∀ a, a ≠ 133 → m a = mi a) → Q (some (.int (earsA (factF x (mi 118 p) (mi 119 p) (mi 120 p) (mi 121 p) (mi 116 2)) cl 0))) (m, ml, RF D, 164)) : Call G (d + 3) M_X9_ears [.ref 116, .int x] (mi, ml, RF D, 164) κ Q := by
  show Run G _ M_X9_ears 0 [.ref 116, .int x, .null, .null] [] _ _ _
  refine R_iconst (v := 0) dX9_ears_0 (by decide) ?_
  refine is_2 dX9_ears_1 rfl ?_
  refine al_0 dX9_ears_2 ?_
  refine cv_0 dX9_ears_3 mm_RX9_365 sh_116 (Nat.le_of_ble_eq_true rfl) ⟨_, rfl, rfl⟩ (Nat.le_of_ble_eq_true rfl) (Nat.le_of_ble_eq_true rfl) (M_begin ?_)
  refine is_3 dX9_ears_6 rfl ?_
  obtain ⟨ht, hok, B, hB6, e1, e2, hD⟩ := hcm
  exact L_ears9 ht hB6 e2 hy hp hfd _ h cl B 0 _ mi e1 rfl hok hD (fun _ _ => rfl) rfl

set_option maxHeartbeats 4000000 in
theorem M_hears {G : rn_G} {d : Nat} {κ : Nat × Nat} {Q : Option Value → rn_S → Prop} {mi : Nat → Nat → Int32} {ml : Nat → Nat → Int64} {D : Nat → Nat} {p : Nat} {x : Int32} {cl : CL} (hcm : CM mi cl) (hy : x = nI p) (hp : p < 6) (hfd : ∃ a, a < 64 ∧ mi 121 p = nI a) (hpl : ∃ a, a < 30 ∧ mi 120 p = nI a) (hkp : ∃ a, a < 30 ∧ mi 116 6 = nI a) (h1 : ∀ m, (∀ a, a ≠ 133 → m a = mi a) → wayC (mi 120 p) (mi 116 6) ≤ lastA 2 cl 8 + earsA (factF x (mi 118 p) (mi 119 p) (mi 120 p) (mi 121 p) (mi 116 2)) cl 0 → Q (some (.int 1)) (m, ml, RF D, 164)) (h0 : ∀ m, (∀ a, a ≠ 133 → m a = mi a) → ¬ (wayC (mi 120 p) (mi 116 6) ≤ lastA 2 cl 8 + earsA (factF x (mi 118 p) (mi 119 p) (mi 120 p) (mi 121 p) (mi 116 2)) cl 0) → Q (some (.int 0)) (m, ml, RF D, 164)) : Call G (d + 4) M_X9_hears [.ref 116, .int x] (mi, ml, RF D, 164) κ Q := by
  show Run G _ M_X9_hears 0 [.ref 116, .int x] [] _ _ _
  have ew : wayM (mi 120 p) (mi 116 6) = wayC (mi 120 p) (mi 116 6) := by obtain ⟨a, ha, ea⟩ := hpl; obtain ⟨b, hb, eb⟩ := hkp; rw [ea, eb]; exact wayM_eq ha hb
  rw [← ew] at h1 h0
  refine al_0 dX9_hears_0 ?_
  refine al_0 dX9_hears_1 ?_
  refine R_getfr (r := 120) dX9_hears_2 fl_RX9_47 rfl sh_116 (Nat.le_of_ble_eq_true rfl) rf_116_12 ?_
  refine il_1 dX9_hears_5 ?_
  refine R_iald dX9_hears_6 sh_120 (Nat.le_of_ble_eq_true rfl) (rn_ixe hy) hp ?_
  refine al_0 dX9_hears_7 ?_
  refine R_getfi dX9_hears_8 fl_RX9_28 rfl sh_116 (Nat.le_of_ble_eq_true rfl) ?_
  refine cv_2 dX9_hears_11 mm_RX9_387 sh_116 (Nat.le_of_ble_eq_true rfl) ⟨_, rfl, rfl⟩ (Nat.le_of_ble_eq_true rfl) (Nat.le_of_ble_eq_true rfl) (M_way ?_)
  refine al_0 dX9_hears_14 ?_
  refine R_iconst (v := 2) dX9_hears_15 (by decide) ?_
  refine R_bipush (v := 8) dX9_hears_16 (by decide) ?_
  refine cv_2 dX9_hears_18 mm_RX9_371 sh_116 (Nat.le_of_ble_eq_true rfl) ⟨_, rfl, rfl⟩ (Nat.le_of_ble_eq_true rfl) (Nat.le_of_ble_eq_true rfl) (M_lastOf (W := 2) (by decide) hcm ?_)
  refine al_0 dX9_hears_21 ?_
  refine il_1 dX9_hears_22 ?_
  refine cv_1 dX9_hears_23 mm_RX9_390 sh_116 (Nat.le_of_ble_eq_true rfl) ⟨_, rfl, rfl⟩ (Nat.le_of_ble_eq_true rfl) (Nat.le_of_ble_eq_true rfl) (M_ears hcm hy hp hfd (fun m2 hm2 => ?_))
  refine R_iadd dX9_hears_26 ?_
  refine R_icmp_gt (tgt := 34) dX9_hears_27 (by decide) (fun c27 => ?_) (fun c27 => ?_)
  · refine R_iconst (v := 0) dX9_hears_34 (by decide) ?_
    refine R_ireturn dX9_hears_35 ⟨_, rfl, rfl⟩ ?_
    exact h0 m2 hm2 (fun q => absurd c27 (by first | exact Int32.not_lt.mpr q | exact not_not_intro q))
  · refine R_iconst (v := 1) dX9_hears_30 (by decide) ?_
    refine R_goto (tgt := 35) dX9_hears_31 (by decide) ?_
    refine R_ireturn dX9_hears_35 ⟨_, rfl, rfl⟩ ?_
    exact h1 m2 hm2 (Int32.not_lt.mp c27)

set_option maxHeartbeats 4000000 in
theorem M_steps {G : rn_G} {d : Nat} {κ : Nat × Nat} {Q : Option Value → rn_S → Prop} {mi : Nat → Nat → Int32} {ml : Nat → Nat → Int64} {D : Nat → Nat} {p : Nat} {x : Int32} (hy : x = nI p) (hp : p < 6) (hm : ∃ a, a < 2 ^ 30 ∧ mi 116 2 = nI a) (h : Q (some (.int (stepsC (mi 118 p) (mi 116 2) (mi 122 (4 * p + nn (remJ (mi 116 2) 4)))))) (mi, ml, RF D, 164)) : Call G (d) M_X9_steps [.ref 116, .int x] (mi, ml, RF D, 164) κ Q := by
  show Run G _ M_X9_steps 0 [.ref 116, .int x, .null] [] _ _ _
  unfold stepsC at h
  obtain ⟨M4, hM2, hM⟩ := hm
  have h4 : remJ (nI M4) 4 = nI (M4 % 4) := sm_rem (a := M4) (c := 4) (by omega) (by decide)
  have hix4 : rn_ix (4 * x + (mi 116 2 - mi 116 2 / 4 * 4)) (4 * p + M4 % 4) := by
    rw [hM, hy, show (4 : Int32) = nI 4 from rfl]
    have : nI M4 - nI M4 / nI 4 * nI 4 = nI (M4 % 4) := h4
    rw [this, sm_mul, sm_add]
    exact rn_ix_nI (by omega)
  have hl4 : 4 * p + M4 % 4 < 24 := by omega
  rw [hM, h4, nnI (show M4 % 4 < 2 ^ 31 by omega), ← hM] at h
  unfold remJ at h
  refine al_0 dX9_steps_0 ?_
  refine R_getfi dX9_steps_1 fl_RX9_16 rfl sh_116 (Nat.le_of_ble_eq_true rfl) ?_
  refine R_iconst (v := 3) dX9_steps_4 (by decide) ?_
  refine R_irem dX9_steps_5 (by decide) ?_
  refine R_if_ne (tgt := 13) dX9_steps_6 (by decide) (fun c6 => ?_) (fun c6 => ?_)
  · refine R_iconst (v := 3) dX9_steps_13 (by decide) ?_
    refine is_2 dX9_steps_14 rfl ?_
    refine al_0 dX9_steps_15 ?_
    refine R_getfr (r := 118) dX9_steps_16 fl_RX9_41 rfl sh_116 (Nat.le_of_ble_eq_true rfl) rf_116_10 ?_
    refine il_1 dX9_steps_19 ?_
    refine R_iald dX9_steps_20 sh_118 (Nat.le_of_ble_eq_true rfl) (rn_ixe hy) hp ?_
    by_cases w21_1 : mi 118 p = 1
    · refine R_tswI (tgt := 60) dX9_steps_21 1 w21_1 (by decide) (by decide) rfl (by decide) ?_
      refine R_iconst (v := 1) dX9_steps_60 (by decide) ?_
      refine R_ireturn dX9_steps_61 ⟨_, rfl, rfl⟩ ?_
      rw [if_pos w21_1] at h
      exact h
    by_cases w21_2 : mi 118 p = 2
    · refine R_tswI (tgt := 62) dX9_steps_21 2 w21_2 (by decide) (by decide) rfl (by decide) ?_
      refine il_2 dX9_steps_62 ?_
      refine R_ireturn dX9_steps_63 ⟨_, rfl, rfl⟩ ?_
      rw [if_neg w21_1, if_pos w21_2] at h
      first | (rw [if_pos c6] at h; exact h) | (rw [if_neg c6] at h; exact h)
    by_cases w21_3 : mi 118 p = 3
    · refine R_tswI (tgt := 102) dX9_steps_21 3 w21_3 (by decide) (by decide) rfl (by decide) ?_
      refine R_iconst (v := 2) dX9_steps_102 (by decide) ?_
      refine R_ireturn dX9_steps_103 ⟨_, rfl, rfl⟩ ?_
      first | (rw [if_neg w21_1, if_neg w21_2, if_pos w21_3] at h; exact h) | (rw [if_neg w21_1, if_neg w21_2, if_neg w21_3, if_neg w21_4, if_neg w21_5, if_neg w21_6] at h; exact h)
    by_cases w21_4 : mi 118 p = 4
    · refine R_tswI (tgt := 64) dX9_steps_21 4 w21_4 (by decide) (by decide) rfl (by decide) ?_
      refine al_0 dX9_steps_64 ?_
      refine R_getfi dX9_steps_65 fl_RX9_16 rfl sh_116 (Nat.le_of_ble_eq_true rfl) ?_
      refine R_iconst (v := 2) dX9_steps_68 (by decide) ?_
      refine R_irem dX9_steps_69 (by decide) ?_
      refine R_iconst (v := 1) dX9_steps_70 (by decide) ?_
      refine R_icmp_ne (tgt := 78) dX9_steps_71 (by decide) (fun c71 => ?_) (fun c71 => ?_)
      · refine R_iconst (v := 1) dX9_steps_78 (by decide) ?_
        refine R_ireturn dX9_steps_79 ⟨_, rfl, rfl⟩ ?_
        rw [if_neg w21_1, if_neg w21_2, if_neg w21_3, if_pos w21_4] at h
        first | (rw [if_pos c71] at h; exact h) | (rw [if_neg c71] at h; exact h)
      · refine R_iconst (v := 0) dX9_steps_74 (by decide) ?_
        refine R_goto (tgt := 79) dX9_steps_75 (by decide) ?_
        refine R_ireturn dX9_steps_79 ⟨_, rfl, rfl⟩ ?_
        rw [if_neg w21_1, if_neg w21_2, if_neg w21_3, if_pos w21_4] at h
        first | (rw [if_pos c71] at h; exact h) | (rw [if_neg c71] at h; exact h)
    by_cases w21_5 : mi 118 p = 5
    · refine R_tswI (tgt := 80) dX9_steps_21 5 w21_5 (by decide) (by decide) rfl (by decide) ?_
      refine il_2 dX9_steps_80 ?_
      refine R_iconst (v := 1) dX9_steps_81 (by decide) ?_
      refine R_iadd dX9_steps_82 ?_
      refine R_ireturn dX9_steps_83 ⟨_, rfl, rfl⟩ ?_
      rw [if_neg w21_1, if_neg w21_2, if_neg w21_3, if_neg w21_4, if_pos w21_5] at h
      first | (rw [if_pos c6] at h; exact h) | (rw [if_neg c6] at h; exact h)
    by_cases w21_6 : mi 118 p = 6
    · refine R_tswI (tgt := 84) dX9_steps_21 6 w21_6 (by decide) (by decide) rfl (by decide) ?_
      refine R_iconst (v := 2) dX9_steps_84 (by decide) ?_
      refine al_0 dX9_steps_85 ?_
      refine R_getfr (r := 122) dX9_steps_86 fl_RX9_53 rfl sh_116 (Nat.le_of_ble_eq_true rfl) rf_116_14 ?_
      refine R_iconst (v := 4) dX9_steps_89 (by decide) ?_
      refine il_1 dX9_steps_90 ?_
      refine R_imul dX9_steps_91 ?_
      refine al_0 dX9_steps_92 ?_
      refine R_getfi dX9_steps_93 fl_RX9_16 rfl sh_116 (Nat.le_of_ble_eq_true rfl) ?_
      refine R_iconst (v := 4) dX9_steps_96 (by decide) ?_
      refine R_irem dX9_steps_97 (by decide) ?_
      refine R_iadd dX9_steps_98 ?_
      refine R_iald dX9_steps_99 sh_122 (Nat.le_of_ble_eq_true rfl) hix4 hl4 ?_
      refine R_iadd dX9_steps_100 ?_
      refine R_ireturn dX9_steps_101 ⟨_, rfl, rfl⟩ ?_
      rw [if_neg w21_1, if_neg w21_2, if_neg w21_3, if_neg w21_4, if_neg w21_5, if_pos w21_6] at h
      exact h
    refine R_tswO (tgt := 102) dX9_steps_21 (by have w21_1' := lv_neT (a := 1) w21_1 rfl; have w21_2' := lv_neT (a := 2) w21_2 rfl; have w21_3' := lv_neT (a := 3) w21_3 rfl; have w21_4' := lv_neT (a := 4) w21_4 rfl; have w21_5' := lv_neT (a := 5) w21_5 rfl; have w21_6' := lv_neT (a := 6) w21_6 rfl; omega) (by decide) ?_
    refine R_iconst (v := 2) dX9_steps_102 (by decide) ?_
    refine R_ireturn dX9_steps_103 ⟨_, rfl, rfl⟩ ?_
    first | (rw [if_neg w21_1, if_neg w21_2, if_pos w21_3] at h; exact h) | (rw [if_neg w21_1, if_neg w21_2, if_neg w21_3, if_neg w21_4, if_neg w21_5, if_neg w21_6] at h; exact h)
  · refine R_iconst (v := 0) dX9_steps_9 (by decide) ?_
    refine R_goto (tgt := 14) dX9_steps_10 (by decide) ?_
    refine is_2 dX9_steps_14 rfl ?_
    refine al_0 dX9_steps_15 ?_
    refine R_getfr (r := 118) dX9_steps_16 fl_RX9_41 rfl sh_116 (Nat.le_of_ble_eq_true rfl) rf_116_10 ?_
    refine il_1 dX9_steps_19 ?_
    refine R_iald dX9_steps_20 sh_118 (Nat.le_of_ble_eq_true rfl) (rn_ixe hy) hp ?_
    by_cases w21_1 : mi 118 p = 1
    · refine R_tswI (tgt := 60) dX9_steps_21 1 w21_1 (by decide) (by decide) rfl (by decide) ?_
      refine R_iconst (v := 1) dX9_steps_60 (by decide) ?_
      refine R_ireturn dX9_steps_61 ⟨_, rfl, rfl⟩ ?_
      rw [if_pos w21_1] at h
      exact h
    by_cases w21_2 : mi 118 p = 2
    · refine R_tswI (tgt := 62) dX9_steps_21 2 w21_2 (by decide) (by decide) rfl (by decide) ?_
      refine il_2 dX9_steps_62 ?_
      refine R_ireturn dX9_steps_63 ⟨_, rfl, rfl⟩ ?_
      rw [if_neg w21_1, if_pos w21_2] at h
      first | (rw [if_pos c6] at h; exact h) | (rw [if_neg c6] at h; exact h)
    by_cases w21_3 : mi 118 p = 3
    · refine R_tswI (tgt := 102) dX9_steps_21 3 w21_3 (by decide) (by decide) rfl (by decide) ?_
      refine R_iconst (v := 2) dX9_steps_102 (by decide) ?_
      refine R_ireturn dX9_steps_103 ⟨_, rfl, rfl⟩ ?_
      first | (rw [if_neg w21_1, if_neg w21_2, if_pos w21_3] at h; exact h) | (rw [if_neg w21_1, if_neg w21_2, if_neg w21_3, if_neg w21_4, if_neg w21_5, if_neg w21_6] at h; exact h)
    by_cases w21_4 : mi 118 p = 4
    · refine R_tswI (tgt := 64) dX9_steps_21 4 w21_4 (by decide) (by decide) rfl (by decide) ?_
      refine al_0 dX9_steps_64 ?_
      refine R_getfi dX9_steps_65 fl_RX9_16 rfl sh_116 (Nat.le_of_ble_eq_true rfl) ?_
      refine R_iconst (v := 2) dX9_steps_68 (by decide) ?_
      refine R_irem dX9_steps_69 (by decide) ?_
      refine R_iconst (v := 1) dX9_steps_70 (by decide) ?_
      refine R_icmp_ne (tgt := 78) dX9_steps_71 (by decide) (fun c71 => ?_) (fun c71 => ?_)
      · refine R_iconst (v := 1) dX9_steps_78 (by decide) ?_
        refine R_ireturn dX9_steps_79 ⟨_, rfl, rfl⟩ ?_
        rw [if_neg w21_1, if_neg w21_2, if_neg w21_3, if_pos w21_4] at h
        first | (rw [if_pos c71] at h; exact h) | (rw [if_neg c71] at h; exact h)
      · refine R_iconst (v := 0) dX9_steps_74 (by decide) ?_
        refine R_goto (tgt := 79) dX9_steps_75 (by decide) ?_
        refine R_ireturn dX9_steps_79 ⟨_, rfl, rfl⟩ ?_
        rw [if_neg w21_1, if_neg w21_2, if_neg w21_3, if_pos w21_4] at h
        first | (rw [if_pos c71] at h; exact h) | (rw [if_neg c71] at h; exact h)
    by_cases w21_5 : mi 118 p = 5
    · refine R_tswI (tgt := 80) dX9_steps_21 5 w21_5 (by decide) (by decide) rfl (by decide) ?_
      refine il_2 dX9_steps_80 ?_
      refine R_iconst (v := 1) dX9_steps_81 (by decide) ?_
      refine R_iadd dX9_steps_82 ?_
      refine R_ireturn dX9_steps_83 ⟨_, rfl, rfl⟩ ?_
      rw [if_neg w21_1, if_neg w21_2, if_neg w21_3, if_neg w21_4, if_pos w21_5] at h
      first | (rw [if_pos c6] at h; exact h) | (rw [if_neg c6] at h; exact h)
    by_cases w21_6 : mi 118 p = 6
    · refine R_tswI (tgt := 84) dX9_steps_21 6 w21_6 (by decide) (by decide) rfl (by decide) ?_
      refine R_iconst (v := 2) dX9_steps_84 (by decide) ?_
      refine al_0 dX9_steps_85 ?_
      refine R_getfr (r := 122) dX9_steps_86 fl_RX9_53 rfl sh_116 (Nat.le_of_ble_eq_true rfl) rf_116_14 ?_
      refine R_iconst (v := 4) dX9_steps_89 (by decide) ?_
      refine il_1 dX9_steps_90 ?_
      refine R_imul dX9_steps_91 ?_
      refine al_0 dX9_steps_92 ?_
      refine R_getfi dX9_steps_93 fl_RX9_16 rfl sh_116 (Nat.le_of_ble_eq_true rfl) ?_
      refine R_iconst (v := 4) dX9_steps_96 (by decide) ?_
      refine R_irem dX9_steps_97 (by decide) ?_
      refine R_iadd dX9_steps_98 ?_
      refine R_iald dX9_steps_99 sh_122 (Nat.le_of_ble_eq_true rfl) hix4 hl4 ?_
      refine R_iadd dX9_steps_100 ?_
      refine R_ireturn dX9_steps_101 ⟨_, rfl, rfl⟩ ?_
      rw [if_neg w21_1, if_neg w21_2, if_neg w21_3, if_neg w21_4, if_neg w21_5, if_pos w21_6] at h
      exact h
    refine R_tswO (tgt := 102) dX9_steps_21 (by have w21_1' := lv_neT (a := 1) w21_1 rfl; have w21_2' := lv_neT (a := 2) w21_2 rfl; have w21_3' := lv_neT (a := 3) w21_3 rfl; have w21_4' := lv_neT (a := 4) w21_4 rfl; have w21_5' := lv_neT (a := 5) w21_5 rfl; have w21_6' := lv_neT (a := 6) w21_6 rfl; omega) (by decide) ?_
    refine R_iconst (v := 2) dX9_steps_102 (by decide) ?_
    refine R_ireturn dX9_steps_103 ⟨_, rfl, rfl⟩ ?_
    first | (rw [if_neg w21_1, if_neg w21_2, if_pos w21_3] at h; exact h) | (rw [if_neg w21_1, if_neg w21_2, if_neg w21_3, if_neg w21_4, if_neg w21_5, if_neg w21_6] at h; exact h)

set_option maxHeartbeats 4000000 in
theorem L_goal9 {G : rn_G} {d : Nat} {κ : Nat × Nat} {Q : Option Value → rn_S → Prop} {mi : Nat → Nat → Int32} {ml : Nat → Nat → Int64} {D : Nat → Nat} {p N : Nat} {x : Int32} (hy : x = nI p) (hp : p < 6) (hg : mi 116 0 = nI N) (hN : N ≤ 6) (hgp : ∀ j, j < N → ∃ a, a < 30 ∧ mi 117 j = nI a) (hpl : ∃ a, a < 30 ∧ mi 120 p = nI a) (hkp : ∃ a, a < 30 ∧ mi 116 6 = nI a) (fl : Int32) : ∀ (n g : Nat) (x3 x4 x5 : Int32) (v6 : Value), n + g = N → x5 = nI g → Q (some (.int (goalF fl (mi 116 6) (mi 120 p) (mi 121 p) (mi 117) n g x3 x4))) (mi, ml, RF D, 164) → Run G (d + 2) M_X9_goal 36 [.ref 116, .int x, .int fl, .int x3, .int x4, .int x5, v6] [] (mi, ml, RF D, 164) κ Q := by
  intro n
  induction n with
  | zero =>
    intro g x3 x4 x5 v6 hng hx h
    refine il_5 dX9_goal_36 ?_
    refine al_0 dX9_goal_38 ?_
    refine R_getfi dX9_goal_39 fl_RX9_7 rfl sh_116 (Nat.le_of_ble_eq_true rfl) ?_
    refine R_icmp_ge (tgt := 132) dX9_goal_42 (by decide) (fun c42 => ?_) (fun q => absurd q (not_not_intro (by rw [hg, hx]; exact nI_le (by omega) (by omega))))
    refine il_3 dX9_goal_132 ?_
    refine R_ireturn dX9_goal_133 ⟨_, rfl, rfl⟩ ?_
    exact h
  | succ n ih =>
    intro g x3 x4 x5 v6 hng hx h
    have hlt : g < 6 := by omega
    have hix : rn_ix x5 g := rn_ixe hx
    obtain ⟨ga, hga, ega⟩ := hgp g (by omega)
    have ew1 : wayM (mi 120 p) (mi 117 g) = wayC (mi 120 p) (mi 117 g) := by obtain ⟨a, ha, ea⟩ := hpl; rw [ea, ega]; exact wayM_eq ha hga
    have ew2 : wayM (mi 116 6) (mi 117 g) = wayC (mi 116 6) (mi 117 g) := by obtain ⟨a, ha, ea⟩ := hkp; rw [ea, ega]; exact wayM_eq ha hga
    unfold goalF at h
    rw [← hx, ← ew1, ← ew2] at h
    have hb01 : bitD (mi 121 p) x5 = 0 ∨ bitD (mi 121 p) x5 = 1 := by
      rw [hx, bitD_bt (by omega)]
      cases bt (mi 121 p) g
      · exact Or.inl rfl
      · exact Or.inr rfl
    refine il_5 dX9_goal_36 ?_
    refine al_0 dX9_goal_38 ?_
    refine R_getfi dX9_goal_39 fl_RX9_7 rfl sh_116 (Nat.le_of_ble_eq_true rfl) ?_
    refine R_icmp_ge (tgt := 132) dX9_goal_42 (by decide) (fun q => absurd q (by rw [hg, hx]; exact nI_ge (by omega) (by omega))) (fun c42 => ?_)
    refine al_0 dX9_goal_45 ?_
    refine al_0 dX9_goal_46 ?_
    refine R_getfr (r := 121) dX9_goal_47 fl_RX9_50 rfl sh_116 (Nat.le_of_ble_eq_true rfl) rf_116_13 ?_
    refine il_1 dX9_goal_50 ?_
    refine R_iald dX9_goal_51 sh_121 (Nat.le_of_ble_eq_true rfl) (rn_ixe hy) hp ?_
    refine il_5 dX9_goal_52 ?_
    refine cv_2 dX9_goal_54 mm_RX9_312 sh_116 (Nat.le_of_ble_eq_true rfl) ⟨_, rfl, rfl⟩ (Nat.le_of_ble_eq_true rfl) (Nat.le_of_ble_eq_true rfl) (M_has (fun c54 => ?_) (fun c54 => ?_))
    · refine R_if_eq (tgt := 63) dX9_goal_57 (by decide) (fun q => absurd q (by decide)) (fun _ => ?_)
      refine R_goto (tgt := 126) dX9_goal_60 (by decide) ?_
      refine ii_5 (v := _ + 1) dX9_goal_126 rfl (by rfl) ?_
      refine R_goto (tgt := 36) dX9_goal_129 (by decide) ?_
      refine ih (g + 1) _ _ _ _ (by omega) (by rw [hx]; exact (sm_add g 1)) ?_
      first | (rw [if_neg (show ¬ bitD (mi 121 p) x5 = 0 by rw [c54]; decide)] at h; exact h) | (rw [if_pos (hb01.resolve_right c54)] at h; first | (rw [if_pos c106, if_pos c64] at h; exact h) | (rw [if_pos c106, if_neg c64] at h; exact h) | (rw [if_neg c106, if_pos c64, if_pos c113] at h; exact h) | (rw [if_neg c106, if_neg c64, if_pos c113] at h; exact h) | (rw [if_neg c106, if_pos c64, if_neg c113] at h; exact h) | (rw [if_neg c106, if_neg c64, if_neg c113] at h; exact h))
    · refine R_if_eq (tgt := 63) dX9_goal_57 (by decide) (fun _ => ?_) (fun q => absurd q (by decide))
      refine il_2 dX9_goal_63 ?_
      refine R_if_eq (tgt := 86) dX9_goal_64 (by decide) (fun c64 => ?_) (fun c64 => ?_)
      · refine al_0 dX9_goal_86 ?_
        refine al_0 dX9_goal_87 ?_
        refine R_getfr (r := 120) dX9_goal_88 fl_RX9_47 rfl sh_116 (Nat.le_of_ble_eq_true rfl) rf_116_12 ?_
        refine il_1 dX9_goal_91 ?_
        refine R_iald dX9_goal_92 sh_120 (Nat.le_of_ble_eq_true rfl) (rn_ixe hy) hp ?_
        refine al_0 dX9_goal_93 ?_
        refine R_getfr (r := 117) dX9_goal_94 fl_RX9_37 rfl sh_116 (Nat.le_of_ble_eq_true rfl) rf_116_9 ?_
        refine il_5 dX9_goal_97 ?_
        refine R_iald dX9_goal_99 sh_117 (Nat.le_of_ble_eq_true rfl) hix hlt ?_
        refine cv_2 dX9_goal_100 mm_RX9_387 sh_116 (Nat.le_of_ble_eq_true rfl) ⟨_, rfl, rfl⟩ (Nat.le_of_ble_eq_true rfl) (Nat.le_of_ble_eq_true rfl) (M_way ?_)
        refine is_6 dX9_goal_103 rfl ?_
        refine il_3 dX9_goal_105 ?_
        refine R_if_lt (tgt := 119) dX9_goal_106 (by decide) (fun c106 => ?_) (fun c106 => ?_)
        · refine il_5 dX9_goal_119 ?_
          refine is_3 dX9_goal_121 rfl ?_
          refine il_6 dX9_goal_122 ?_
          refine is_4 dX9_goal_124 rfl ?_
          refine ii_5 (v := _ + 1) dX9_goal_126 rfl (by rfl) ?_
          refine R_goto (tgt := 36) dX9_goal_129 (by decide) ?_
          refine ih (g + 1) _ _ _ _ (by omega) (by rw [hx]; exact (sm_add g 1)) ?_
          first | (rw [if_neg (show ¬ bitD (mi 121 p) x5 = 0 by rw [c54]; decide)] at h; exact h) | (rw [if_pos (hb01.resolve_right c54)] at h; first | (rw [if_pos c106, if_pos c64] at h; exact h) | (rw [if_pos c106, if_neg c64] at h; exact h) | (rw [if_neg c106, if_pos c64, if_pos c113] at h; exact h) | (rw [if_neg c106, if_neg c64, if_pos c113] at h; exact h) | (rw [if_neg c106, if_pos c64, if_neg c113] at h; exact h) | (rw [if_neg c106, if_neg c64, if_neg c113] at h; exact h))
        · refine il_6 dX9_goal_109 ?_
          refine il_4 dX9_goal_111 ?_
          refine R_icmp_lt (tgt := 119) dX9_goal_113 (by decide) (fun c113 => ?_) (fun c113 => ?_)
          · refine il_5 dX9_goal_119 ?_
            refine is_3 dX9_goal_121 rfl ?_
            refine il_6 dX9_goal_122 ?_
            refine is_4 dX9_goal_124 rfl ?_
            refine ii_5 (v := _ + 1) dX9_goal_126 rfl (by rfl) ?_
            refine R_goto (tgt := 36) dX9_goal_129 (by decide) ?_
            refine ih (g + 1) _ _ _ _ (by omega) (by rw [hx]; exact (sm_add g 1)) ?_
            first | (rw [if_neg (show ¬ bitD (mi 121 p) x5 = 0 by rw [c54]; decide)] at h; exact h) | (rw [if_pos (hb01.resolve_right c54)] at h; first | (rw [if_pos c106, if_pos c64] at h; exact h) | (rw [if_pos c106, if_neg c64] at h; exact h) | (rw [if_neg c106, if_pos c64, if_pos c113] at h; exact h) | (rw [if_neg c106, if_neg c64, if_pos c113] at h; exact h) | (rw [if_neg c106, if_pos c64, if_neg c113] at h; exact h) | (rw [if_neg c106, if_neg c64, if_neg c113] at h; exact h))
          · refine R_goto (tgt := 126) dX9_goal_116 (by decide) ?_
            refine ii_5 (v := _ + 1) dX9_goal_126 rfl (by rfl) ?_
            refine R_goto (tgt := 36) dX9_goal_129 (by decide) ?_
            refine ih (g + 1) _ _ _ _ (by omega) (by rw [hx]; exact (sm_add g 1)) ?_
            first | (rw [if_neg (show ¬ bitD (mi 121 p) x5 = 0 by rw [c54]; decide)] at h; exact h) | (rw [if_pos (hb01.resolve_right c54)] at h; first | (rw [if_pos c106, if_pos c64] at h; exact h) | (rw [if_pos c106, if_neg c64] at h; exact h) | (rw [if_neg c106, if_pos c64, if_pos c113] at h; exact h) | (rw [if_neg c106, if_neg c64, if_pos c113] at h; exact h) | (rw [if_neg c106, if_pos c64, if_neg c113] at h; exact h) | (rw [if_neg c106, if_neg c64, if_neg c113] at h; exact h))
      · refine al_0 dX9_goal_67 ?_
        refine al_0 dX9_goal_68 ?_
        refine R_getfi dX9_goal_69 fl_RX9_28 rfl sh_116 (Nat.le_of_ble_eq_true rfl) ?_
        refine al_0 dX9_goal_72 ?_
        refine R_getfr (r := 117) dX9_goal_73 fl_RX9_37 rfl sh_116 (Nat.le_of_ble_eq_true rfl) rf_116_9 ?_
        refine il_5 dX9_goal_76 ?_
        refine R_iald dX9_goal_78 sh_117 (Nat.le_of_ble_eq_true rfl) hix hlt ?_
        refine cv_2 dX9_goal_79 mm_RX9_387 sh_116 (Nat.le_of_ble_eq_true rfl) ⟨_, rfl, rfl⟩ (Nat.le_of_ble_eq_true rfl) (Nat.le_of_ble_eq_true rfl) (M_way ?_)
        refine R_ineg dX9_goal_82 ?_
        refine R_goto (tgt := 103) dX9_goal_83 (by decide) ?_
        refine is_6 dX9_goal_103 rfl ?_
        refine il_3 dX9_goal_105 ?_
        refine R_if_lt (tgt := 119) dX9_goal_106 (by decide) (fun c106 => ?_) (fun c106 => ?_)
        · refine il_5 dX9_goal_119 ?_
          refine is_3 dX9_goal_121 rfl ?_
          refine il_6 dX9_goal_122 ?_
          refine is_4 dX9_goal_124 rfl ?_
          refine ii_5 (v := _ + 1) dX9_goal_126 rfl (by rfl) ?_
          refine R_goto (tgt := 36) dX9_goal_129 (by decide) ?_
          refine ih (g + 1) _ _ _ _ (by omega) (by rw [hx]; exact (sm_add g 1)) ?_
          first | (rw [if_neg (show ¬ bitD (mi 121 p) x5 = 0 by rw [c54]; decide)] at h; exact h) | (rw [if_pos (hb01.resolve_right c54)] at h; first | (rw [if_pos c106, if_pos c64] at h; exact h) | (rw [if_pos c106, if_neg c64] at h; exact h) | (rw [if_neg c106, if_pos c64, if_pos c113] at h; exact h) | (rw [if_neg c106, if_neg c64, if_pos c113] at h; exact h) | (rw [if_neg c106, if_pos c64, if_neg c113] at h; exact h) | (rw [if_neg c106, if_neg c64, if_neg c113] at h; exact h))
        · refine il_6 dX9_goal_109 ?_
          refine il_4 dX9_goal_111 ?_
          refine R_icmp_lt (tgt := 119) dX9_goal_113 (by decide) (fun c113 => ?_) (fun c113 => ?_)
          · refine il_5 dX9_goal_119 ?_
            refine is_3 dX9_goal_121 rfl ?_
            refine il_6 dX9_goal_122 ?_
            refine is_4 dX9_goal_124 rfl ?_
            refine ii_5 (v := _ + 1) dX9_goal_126 rfl (by rfl) ?_
            refine R_goto (tgt := 36) dX9_goal_129 (by decide) ?_
            refine ih (g + 1) _ _ _ _ (by omega) (by rw [hx]; exact (sm_add g 1)) ?_
            first | (rw [if_neg (show ¬ bitD (mi 121 p) x5 = 0 by rw [c54]; decide)] at h; exact h) | (rw [if_pos (hb01.resolve_right c54)] at h; first | (rw [if_pos c106, if_pos c64] at h; exact h) | (rw [if_pos c106, if_neg c64] at h; exact h) | (rw [if_neg c106, if_pos c64, if_pos c113] at h; exact h) | (rw [if_neg c106, if_neg c64, if_pos c113] at h; exact h) | (rw [if_neg c106, if_pos c64, if_neg c113] at h; exact h) | (rw [if_neg c106, if_neg c64, if_neg c113] at h; exact h))
          · refine R_goto (tgt := 126) dX9_goal_116 (by decide) ?_
            refine ii_5 (v := _ + 1) dX9_goal_126 rfl (by rfl) ?_
            refine R_goto (tgt := 36) dX9_goal_129 (by decide) ?_
            refine ih (g + 1) _ _ _ _ (by omega) (by rw [hx]; exact (sm_add g 1)) ?_
            first | (rw [if_neg (show ¬ bitD (mi 121 p) x5 = 0 by rw [c54]; decide)] at h; exact h) | (rw [if_pos (hb01.resolve_right c54)] at h; first | (rw [if_pos c106, if_pos c64] at h; exact h) | (rw [if_pos c106, if_neg c64] at h; exact h) | (rw [if_neg c106, if_pos c64, if_pos c113] at h; exact h) | (rw [if_neg c106, if_neg c64, if_pos c113] at h; exact h) | (rw [if_neg c106, if_pos c64, if_neg c113] at h; exact h) | (rw [if_neg c106, if_neg c64, if_neg c113] at h; exact h))

set_option maxHeartbeats 4000000 in
theorem M_goal {G : rn_G} {d : Nat} {κ : Nat × Nat} {Q : Option Value → rn_S → Prop} {mi : Nat → Nat → Int32} {ml : Nat → Nat → Int64} {D : Nat → Nat} {p N : Nat} {x : Int32} (hy : x = nI p) (hp : p < 6) (hg : mi 116 0 = nI N) (hN : N ≤ 6) (hgp : ∀ j, j < N → ∃ a, a < 30 ∧ mi 117 j = nI a) (hpl : ∃ a, a < 30 ∧ mi 120 p = nI a) (hkp : ∃ a, a < 30 ∧ mi 116 6 = nI a) (h : Q (some (.int (goalF (fleeC (mi 118 p)) (mi 116 6) (mi 120 p) (mi 121 p) (mi 117) N 0 (-5) 0))) (mi, ml, RF D, 164)) : Call G (d + 2) M_X9_goal [.ref 116, .int x] (mi, ml, RF D, 164) κ Q := by
  show Run G _ M_X9_goal 0 [.ref 116, .int x, .null, .null, .null, .null, .null] [] _ _ _
  unfold fleeC at h
  refine al_0 dX9_goal_0 ?_
  refine R_getfr (r := 118) dX9_goal_1 fl_RX9_41 rfl sh_116 (Nat.le_of_ble_eq_true rfl) rf_116_10 ?_
  refine il_1 dX9_goal_4 ?_
  refine R_iald dX9_goal_5 sh_118 (Nat.le_of_ble_eq_true rfl) (rn_ixe hy) hp ?_
  refine R_iconst (v := 3) dX9_goal_6 (by decide) ?_
  refine R_icmp_eq (tgt := 21) dX9_goal_7 (by decide) (fun c7 => ?_) (fun c7 => ?_)
  · refine R_iconst (v := 1) dX9_goal_21 (by decide) ?_
    refine R_goto (tgt := 26) dX9_goal_22 (by decide) ?_
    refine is_2 dX9_goal_26 rfl ?_
    refine R_bipush (v := -5) dX9_goal_27 (by decide) ?_
    refine is_3 dX9_goal_29 rfl ?_
    refine R_iconst (v := 0) dX9_goal_30 (by decide) ?_
    refine is_4 dX9_goal_31 rfl ?_
    refine R_iconst (v := 0) dX9_goal_33 (by decide) ?_
    refine is_5 dX9_goal_34 rfl ?_
    refine L_goal9 hy hp hg hN hgp hpl hkp _ N 0 (-5) 0 0 _ (by omega) nI_0.symm ?_
    first | (rw [if_pos c7] at h; exact h) | (rw [if_neg c7, if_pos c18] at h; exact h) | (rw [if_neg c7, if_neg c18] at h; exact h)
  · refine al_0 dX9_goal_10 ?_
    refine R_getfr (r := 118) dX9_goal_11 fl_RX9_41 rfl sh_116 (Nat.le_of_ble_eq_true rfl) rf_116_10 ?_
    refine il_1 dX9_goal_14 ?_
    refine R_iald dX9_goal_15 sh_118 (Nat.le_of_ble_eq_true rfl) (rn_ixe hy) hp ?_
    refine R_bipush (v := 6) dX9_goal_16 (by decide) ?_
    refine R_icmp_ne (tgt := 25) dX9_goal_18 (by decide) (fun c18 => ?_) (fun c18 => ?_)
    · refine R_iconst (v := 0) dX9_goal_25 (by decide) ?_
      refine is_2 dX9_goal_26 rfl ?_
      refine R_bipush (v := -5) dX9_goal_27 (by decide) ?_
      refine is_3 dX9_goal_29 rfl ?_
      refine R_iconst (v := 0) dX9_goal_30 (by decide) ?_
      refine is_4 dX9_goal_31 rfl ?_
      refine R_iconst (v := 0) dX9_goal_33 (by decide) ?_
      refine is_5 dX9_goal_34 rfl ?_
      refine L_goal9 hy hp hg hN hgp hpl hkp _ N 0 (-5) 0 0 _ (by omega) nI_0.symm ?_
      first | (rw [if_pos c7] at h; exact h) | (rw [if_neg c7, if_pos c18] at h; exact h) | (rw [if_neg c7, if_neg c18] at h; exact h)
    · refine R_iconst (v := 1) dX9_goal_21 (by decide) ?_
      refine R_goto (tgt := 26) dX9_goal_22 (by decide) ?_
      refine is_2 dX9_goal_26 rfl ?_
      refine R_bipush (v := -5) dX9_goal_27 (by decide) ?_
      refine is_3 dX9_goal_29 rfl ?_
      refine R_iconst (v := 0) dX9_goal_30 (by decide) ?_
      refine is_4 dX9_goal_31 rfl ?_
      refine R_iconst (v := 0) dX9_goal_33 (by decide) ?_
      refine is_5 dX9_goal_34 rfl ?_
      refine L_goal9 hy hp hg hN hgp hpl hkp _ N 0 (-5) 0 0 _ (by omega) nI_0.symm ?_
      first | (rw [if_pos c7] at h; exact h) | (rw [if_neg c7, if_pos c18] at h; exact h) | (rw [if_neg c7, if_neg c18] at h; exact h)
