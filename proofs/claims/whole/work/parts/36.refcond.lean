/-! the reference reads tests and conditions -/
set_option maxHeartbeats 4000000 in
theorem M_takesTest {G : rn_G} {d : Nat} {κ : Nat × Nat} {Q : Option Value → rn_S → Prop} {ml : Nat → Nat → Int64} {D : Nat → Nat} {m0 : Nat → Nat → Int32} {c0 B p : Nat} {T : Nat → Nat} {L : Nat} {s0 : List Nat} {k o : Nat} {c : List TK} {mi : Nat → Nat → Int32} (htx : TXM T L m0) (hpL : p ≤ L) (hs0 : s0.head? ≠ some 33) (hb : ∀ a ∈ s0, a < 128) (hsy : SY m0 mi c0 B p c (List.replicate k 33 ++ s0) (o + k)) (hsz : p < L → B + c.length + (k + s0.length) + 1 ≤ 600) (hz1 : k + s0.length ≤ 101) (h1 : (tstR T L p c).1 = true → ∀ m, SY m0 m c0 B (tstR T L p c).2.1 ((tstR T L p c).2.2 ++ List.replicate k (0, 0, 0, 0)) s0 o → Q (some (.int 1)) (m, ml, RF D, 164)) (h0 : (tstR T L p c).1 = false → ∀ m, SF m0 m c0 B (tstR T L p c).2.1 → Q (some (.int 0)) (m, ml, RF D, 164)) : Call G (d + 3) M_X9_takesTest [.ref 116] (mi, ml, RF D, 164) κ Q := by
  show Run G _ M_X9_takesTest 0 [.ref 116, .null, .null] [] _ _ _
  have htx1 := hsy.f.tx htx
  have hat := hsy.2.2.2.2.1
  have hlt := htx.lt
  have hpl := plJ_nx (p := p) hlt
  have hL := htx.1
  by_cases el : letR (nxT T L p) = 6
  · rw [if_pos el] at hpl
    have er : tstR T L p c = (false, p, c) := by unfold tstR; rw [if_pos el]
    rw [er] at h0
    refine al_0 dX9_takesTest_0 ?_
    refine al_0 dX9_takesTest_1 ?_
    refine cv_0 dX9_takesTest_2 mm_RX9_319 sh_116 (Nat.le_of_ble_eq_true rfl) ⟨_, rfl, rfl⟩ (Nat.le_of_ble_eq_true rfl) (Nat.le_of_ble_eq_true rfl) (M_next htx1 hat hpL (nmr (fun nx0 hnx0 => ?_)))
    refine cv_1 dX9_takesTest_5 mm_RX9_334 sh_116 (Nat.le_of_ble_eq_true rfl) ⟨_, rfl, rfl⟩ (Nat.le_of_ble_eq_true rfl) (Nat.le_of_ble_eq_true rfl) (M_place (nmr (fun pl hpl2 => ?_)))
    rw [hnx0, hpl] at hpl2
    refine is_1 dX9_takesTest_8 rfl ?_
    refine il_1 dX9_takesTest_9 ?_
    refine R_if_ge (tgt := 15) dX9_takesTest_10 (by decide) (fun q => absurd q (by rw [hpl2]; decide)) (fun c10 => ?_)
    refine R_iconst (v := 0) dX9_takesTest_13 (by decide) ?_
    refine R_ireturn dX9_takesTest_14 ⟨_, rfl, rfl⟩ ?_
    exact h0 rfl mi hsy.f
  · rw [if_neg el] at hpl
    have hl5 := letR_lt el
    have l1 := nxT_lt hl5.1
    have hsy2 := hsy.at (q := p + 1)
    have htx2 := hsy2.f.tx htx
    have hat2 := hsy2.2.2.2.2.1
    have hsg := nxI_s (p := p + 1) hlt
    by_cases es : 60 ≤ nxT T L (p + 1) ∧ nxT T L (p + 1) ≤ 62
    · have hsz := hsz l1
      have l2 : p + 1 < L := nxT_lt (T := T) (show nxT T L (p + 1) ≠ 128 by omega)
      have hsy3 := hsy.at (q := p + 2)
      have htx3 := hsy3.f.tx htx
      have hat3 := hsy3.2.2.2.2.1
      refine al_0 dX9_takesTest_0 ?_
      refine al_0 dX9_takesTest_1 ?_
      refine cv_0 dX9_takesTest_2 mm_RX9_319 sh_116 (Nat.le_of_ble_eq_true rfl) ⟨_, rfl, rfl⟩ (Nat.le_of_ble_eq_true rfl) (Nat.le_of_ble_eq_true rfl) (M_next htx1 hat hpL (nmr (fun nx0 hnx0 => ?_)))
      refine cv_1 dX9_takesTest_5 mm_RX9_334 sh_116 (Nat.le_of_ble_eq_true rfl) ⟨_, rfl, rfl⟩ (Nat.le_of_ble_eq_true rfl) (Nat.le_of_ble_eq_true rfl) (M_place (nmr (fun pl hpl2 => ?_)))
      rw [hnx0, hpl] at hpl2
      refine is_1 dX9_takesTest_8 rfl ?_
      refine il_1 dX9_takesTest_9 ?_
      refine R_if_ge (tgt := 15) dX9_takesTest_10 (by decide) (fun c10 => ?_) (fun q => absurd q (not_not_intro (by rw [hpl2]; exact Int32.not_lt.mp (nI_pos (by omega)))))
      refine al_0 dX9_takesTest_15 ?_
      refine R_dup dX9_takesTest_16 rfl ?_
      refine R_getfi dX9_takesTest_17 fl_RX9_68 rfl sh_116 (Nat.le_of_ble_eq_true rfl) ?_
      refine R_iconst (v := 1) dX9_takesTest_20 (by decide) ?_
      refine R_iadd dX9_takesTest_21 ?_
      refine R_putfi dX9_takesTest_22 fl_RX9_68 rfl (Or.inl rfl) sh_116 (Nat.le_of_ble_eq_true rfl) rfl rfl ?_
      rw [show mi 116 19 + 1 = nI (p + 1) by rw [hat]; exact sm_add p 1]
      refine al_0 dX9_takesTest_25 ?_
      refine cv_0 dX9_takesTest_26 mm_RX9_319 sh_116 (Nat.le_of_ble_eq_true rfl) ⟨_, rfl, rfl⟩ (Nat.le_of_ble_eq_true rfl) (Nat.le_of_ble_eq_true rfl) (M_next htx2 hat2 (show p + 1 ≤ L by omega) (nmr (fun nx1 hnx1 => ?_)))
      refine is_2 dX9_takesTest_29 rfl ?_
      refine al_0 dX9_takesTest_30 ?_
      refine il_2 dX9_takesTest_31 ?_
      refine R_bipush (v := 60) dX9_takesTest_32 (by decide) ?_
      refine R_bipush (v := 62) dX9_takesTest_34 (by decide) ?_
      refine cv_3 dX9_takesTest_36 mm_RX9_293 sh_116 (Nat.le_of_ble_eq_true rfl) ⟨_, rfl, rfl⟩ (Nat.le_of_ble_eq_true rfl) (Nat.le_of_ble_eq_true rfl) (M_in (fun _ => ?_) (fun q => absurd (by rw [hnx1]; exact hsg.mpr es) q))
      refine R_if_ne (tgt := 44) dX9_takesTest_39 (by decide) (fun _ => ?_) (fun q => absurd q (by decide))
      refine al_0 dX9_takesTest_44 ?_
      refine R_dup dX9_takesTest_45 rfl ?_
      refine R_getfi dX9_takesTest_46 fl_RX9_68 rfl sh_116 (Nat.le_of_ble_eq_true rfl) ?_
      refine R_iconst (v := 1) dX9_takesTest_49 (by decide) ?_
      refine R_iadd dX9_takesTest_50 ?_
      refine R_putfi dX9_takesTest_51 fl_RX9_68 rfl (Or.inl rfl) sh_116 (Nat.le_of_ble_eq_true rfl) rfl rfl ?_
      rw [show rn_u mi 116 19 (nI (p + 1)) 116 19 + 1 = nI (p + 2) by rw [rn_u_eq]; exact sm_add (p + 1) 1, rn_u_u]
      refine al_0 dX9_takesTest_54 ?_
      refine cv_0 dX9_takesTest_55 mm_RX9_338 sh_116 (Nat.le_of_ble_eq_true rfl) ⟨_, rfl, rfl⟩ (Nat.le_of_ble_eq_true rfl) (Nat.le_of_ble_eq_true rfl) (M_takesNumber htx3 hat3 (show p + 2 ≤ L by omega) (fun hn => ?_) (fun n q m3 hn f1 f2 f3 f4 => ?_))
      · have er : tstR T L p c = (false, p + 2, c) := by unfold tstR; rw [if_neg el, if_pos es, hn]
        rw [er] at h0
        refine R_if_ne (tgt := 63) dX9_takesTest_58 (by decide) (fun q => absurd q (by decide)) (fun _ => ?_)
        refine R_iconst (v := 0) dX9_takesTest_61 (by decide) ?_
        refine R_ireturn dX9_takesTest_62 ⟨_, rfl, rfl⟩ ?_
        exact h0 rfl _ hsy3.f
      · have hns := numR_some hn
        dsimp only at hns
        have er : tstR T L p c = (true, q, c ++ [(3, letR (nxT T L p), nxT T L (p + 1) - 60, n)]) := by unfold tstR; rw [if_neg el, if_pos es, hn]
        rw [er] at h1
        have hsy4 := hsy3.num (q := q) f1 f2 f3
        have htok : (1000 : Int32) * pl + 100 * (nx1 - 60) + m3 116 20 = tM (3, letR (nxT T L p), nxT T L (p + 1) - 60, n) := by
          have e1 : nx1 = nI (nxT T L (p + 1)) := by rw [hnx1, nxI, if_pos l2, nxT_l l2]
          unfold tM
          dsimp only
          rw [if_neg (by decide), if_neg (by decide), if_neg (by decide), f4, hpl2, e1, show (1000 : Int32) = nI 1000 from rfl, show (100 : Int32) = nI 100 from rfl, show (60 : Int32) = nI 60 from rfl, sm_sub es.1, sm_mul, sm_mul, sm_add, sm_add]
        refine R_if_ne (tgt := 63) dX9_takesTest_58 (by decide) (fun _ => ?_) (fun q => absurd q (by decide))
        refine al_0 dX9_takesTest_63 ?_
        refine R_sipush (v := 1000) dX9_takesTest_64 (by decide) ?_
        refine il_1 dX9_takesTest_67 ?_
        refine R_imul dX9_takesTest_68 ?_
        refine R_bipush (v := 100) dX9_takesTest_69 (by decide) ?_
        refine il_2 dX9_takesTest_71 ?_
        refine R_bipush (v := 60) dX9_takesTest_72 (by decide) ?_
        refine R_isub dX9_takesTest_74 ?_
        refine R_imul dX9_takesTest_75 ?_
        refine R_iadd dX9_takesTest_76 ?_
        refine al_0 dX9_takesTest_77 ?_
        refine R_getfi dX9_takesTest_78 fl_RX9_71 rfl sh_116 (Nat.le_of_ble_eq_true rfl) ?_
        refine R_iadd dX9_takesTest_81 ?_
        refine cv_1 dX9_takesTest_82 mm_RX9_330 sh_116 (Nat.le_of_ble_eq_true rfl) ⟨_, rfl, rfl⟩ (Nat.le_of_ble_eq_true rfl) (Nat.le_of_ble_eq_true rfl) (M_emits hsy4.2.2.2.2.2.1 (by omega) ?_)
        rw [htok]
        have hsy5 := hsy4.emit (t := ((3, letR (nxT T L p), nxT T L (p + 1) - 60, n) : TK))
        refine al_0 dX9_takesTest_85 ?_
        refine cv_0 dX9_takesTest_86 mm_RX9_341 sh_116 (Nat.le_of_ble_eq_true rfl) ⟨_, rfl, rfl⟩ (Nat.le_of_ble_eq_true rfl) (Nat.le_of_ble_eq_true rfl) (M_whole hs0 hb hsy5 (by rw [List.length_append]; show _ + (_ + (0 + 1)) + _ + _ ≤ _; omega) hz1 (fun m6 hsy6 => ?_))
        refine R_iconst (v := 1) dX9_takesTest_89 (by decide) ?_
        refine R_ireturn dX9_takesTest_90 ⟨_, rfl, rfl⟩ ?_
        exact h1 rfl m6 hsy6
    · have er : tstR T L p c = (false, p + 1, c) := by unfold tstR; rw [if_neg el, if_neg es]
      rw [er] at h0
      refine al_0 dX9_takesTest_0 ?_
      refine al_0 dX9_takesTest_1 ?_
      refine cv_0 dX9_takesTest_2 mm_RX9_319 sh_116 (Nat.le_of_ble_eq_true rfl) ⟨_, rfl, rfl⟩ (Nat.le_of_ble_eq_true rfl) (Nat.le_of_ble_eq_true rfl) (M_next htx1 hat hpL (nmr (fun nx0 hnx0 => ?_)))
      refine cv_1 dX9_takesTest_5 mm_RX9_334 sh_116 (Nat.le_of_ble_eq_true rfl) ⟨_, rfl, rfl⟩ (Nat.le_of_ble_eq_true rfl) (Nat.le_of_ble_eq_true rfl) (M_place (nmr (fun pl hpl2 => ?_)))
      rw [hnx0, hpl] at hpl2
      refine is_1 dX9_takesTest_8 rfl ?_
      refine il_1 dX9_takesTest_9 ?_
      refine R_if_ge (tgt := 15) dX9_takesTest_10 (by decide) (fun c10 => ?_) (fun q => absurd q (not_not_intro (by rw [hpl2]; exact Int32.not_lt.mp (nI_pos (by omega)))))
      refine al_0 dX9_takesTest_15 ?_
      refine R_dup dX9_takesTest_16 rfl ?_
      refine R_getfi dX9_takesTest_17 fl_RX9_68 rfl sh_116 (Nat.le_of_ble_eq_true rfl) ?_
      refine R_iconst (v := 1) dX9_takesTest_20 (by decide) ?_
      refine R_iadd dX9_takesTest_21 ?_
      refine R_putfi dX9_takesTest_22 fl_RX9_68 rfl (Or.inl rfl) sh_116 (Nat.le_of_ble_eq_true rfl) rfl rfl ?_
      rw [show mi 116 19 + 1 = nI (p + 1) by rw [hat]; exact sm_add p 1]
      refine al_0 dX9_takesTest_25 ?_
      refine cv_0 dX9_takesTest_26 mm_RX9_319 sh_116 (Nat.le_of_ble_eq_true rfl) ⟨_, rfl, rfl⟩ (Nat.le_of_ble_eq_true rfl) (Nat.le_of_ble_eq_true rfl) (M_next htx2 hat2 (show p + 1 ≤ L by omega) (nmr (fun nx1 hnx1 => ?_)))
      refine is_2 dX9_takesTest_29 rfl ?_
      refine al_0 dX9_takesTest_30 ?_
      refine il_2 dX9_takesTest_31 ?_
      refine R_bipush (v := 60) dX9_takesTest_32 (by decide) ?_
      refine R_bipush (v := 62) dX9_takesTest_34 (by decide) ?_
      refine cv_3 dX9_takesTest_36 mm_RX9_293 sh_116 (Nat.le_of_ble_eq_true rfl) ⟨_, rfl, rfl⟩ (Nat.le_of_ble_eq_true rfl) (Nat.le_of_ble_eq_true rfl) (M_in (fun q => absurd (hsg.mp (by rw [← hnx1]; exact q)) es) (fun _ => ?_))
      refine R_if_ne (tgt := 44) dX9_takesTest_39 (by decide) (fun q => absurd q (by decide)) (fun _ => ?_)
      refine R_iconst (v := 0) dX9_takesTest_42 (by decide) ?_
      refine R_ireturn dX9_takesTest_43 ⟨_, rfl, rfl⟩ ?_
      exact h0 rfl _ hsy2.f

def PR0 (T : Nat → Nat) (L : Nat) (m0 : Nat → Nat → Int32) (c0 B F0 : Nat) (ml : Nat → Nat → Int64) (D : Nat → Nat) (n : Nat) : Prop := ∀ (G : rn_G) (d : Nat) (κ : Nat × Nat) (Q : Option Value → rn_S → Prop) (mi : Nat → Nat → Int32) (wi p : Nat) (c : List TK) (s0 : List Nat) (v3 : Value) (r : Bool × Nat × List TK), rd T L n 0 wi p c = some r → wi ≤ 4 → p ≤ L → (∀ a ∈ s0, a < 128) → s0.head? ≠ some 33 → ∀ (k o : Nat), SY m0 mi c0 B p c (List.replicate k 33 ++ s0) wi → wi = o + k → B + c.length + (k + s0.length) ≤ F0 + p → k + s0.length ≤ p → (r.1 = true → ∀ (m : Nat → Nat → Int32) (v3 : Value), SY m0 m c0 B r.2.1 (r.2.2 ++ List.replicate k (0, 0, 0, 0)) s0 o → Run G (d + 4) M_X9_takesE 22 [.ref 116, .int (nI c0), .int 0, v3] [] (m, ml, RF D, 164) κ Q) → (r.1 = false → ∀ m, SF m0 m c0 B r.2.1 → Q (some (.int 0)) (m, ml, RF D, 164)) → Run G (d + 4) M_X9_takesE 22 [.ref 116, .int (nI c0), .int 1, v3] [] (mi, ml, RF D, 164) κ Q
def PR1 (T : Nat → Nat) (L : Nat) (m0 : Nat → Nat → Int32) (c0 B F0 : Nat) (ml : Nat → Nat → Int64) (D : Nat → Nat) (n : Nat) : Prop := ∀ (G : rn_G) (d : Nat) (κ : Nat × Nat) (Q : Option Value → rn_S → Prop) (mi : Nat → Nat → Int32) (wi p : Nat) (c : List TK) (s0 : List Nat) (v3 : Value) (r : Bool × Nat × List TK), rd T L n 1 wi p c = some r → wi ≤ 4 → p ≤ L → (∀ a ∈ s0, a < 128) → s0.head? ≠ some 33 → s0.head? ≠ some 38 → SY m0 mi c0 B p c s0 wi → B + c.length + s0.length ≤ F0 + p → s0.length ≤ p → (r.1 = true → ∀ (m : Nat → Nat → Int32) (v3 : Value) (e : List TK) (a : Nat), a ≤ 1 → r.2.2 = e ++ List.replicate a (1, 0, 0, 0) → SY m0 m c0 B r.2.1 e (List.replicate a 38 ++ s0) wi → nxT T L r.2.1 ≠ 38 → a + s0.length ≤ r.2.1 → Run G (d + 4) M_X9_takesE 22 [.ref 116, .int (nI c0), .int 0, v3] [] (m, ml, RF D, 164) κ Q) → (r.1 = false → ∀ m, SF m0 m c0 B r.2.1 → Q (some (.int 0)) (m, ml, RF D, 164)) → Run G (d + 4) M_X9_takesE 22 [.ref 116, .int (nI c0), .int 1, v3] [] (mi, ml, RF D, 164) κ Q
def PR2 (T : Nat → Nat) (L : Nat) (m0 : Nat → Nat → Int32) (c0 B F0 : Nat) (ml : Nat → Nat → Int64) (D : Nat → Nat) (n : Nat) : Prop := ∀ (G : rn_G) (d : Nat) (κ : Nat × Nat) (Q : Option Value → rn_S → Prop) (mi : Nat → Nat → Int32) (wi p : Nat) (c : List TK) (s0 : List Nat) (v3 : Value) (r : Bool × Nat × List TK), rd T L n 2 wi p c = some r → wi ≤ 4 → p ≤ L → (∀ a ∈ s0, a < 128) → s0.head? ≠ some 33 → s0.head? ≠ some 38 → ∀ (e : List TK) (a : Nat), a ≤ 1 → c = e ++ List.replicate a (1, 0, 0, 0) → SY m0 mi c0 B p e (List.replicate a 38 ++ s0) wi → B + c.length + s0.length ≤ F0 + p → a + s0.length ≤ p → (r.1 = true → ∀ (m : Nat → Nat → Int32) (v3 : Value) (e : List TK) (a : Nat), a ≤ 1 → r.2.2 = e ++ List.replicate a (1, 0, 0, 0) → SY m0 m c0 B r.2.1 e (List.replicate a 38 ++ s0) wi → nxT T L r.2.1 ≠ 38 → a + s0.length ≤ r.2.1 → Run G (d + 4) M_X9_takesE 22 [.ref 116, .int (nI c0), .int 0, v3] [] (m, ml, RF D, 164) κ Q) → (r.1 = false → ∀ m, SF m0 m c0 B r.2.1 → Q (some (.int 0)) (m, ml, RF D, 164)) → Run G (d + 4) M_X9_takesE 22 [.ref 116, .int (nI c0), .int 0, v3] [] (mi, ml, RF D, 164) κ Q
def PR3 (T : Nat → Nat) (L : Nat) (m0 : Nat → Nat → Int32) (c0 B F0 : Nat) (ml : Nat → Nat → Int64) (D : Nat → Nat) (n : Nat) : Prop := ∀ (G : rn_G) (d : Nat) (κ : Nat × Nat) (Q : Option Value → rn_S → Prop) (mi : Nat → Nat → Int32) (wi p : Nat) (c : List TK) (s0 : List Nat) (v3 : Value) (r : Bool × Nat × List TK), rd T L n 3 wi p c = some r → wi ≤ 4 → p ≤ L → (∀ a ∈ s0, a < 128) → s0.head? ≠ some 33 → s0.head? ≠ some 38 → s0.head? ≠ some 124 → SY m0 mi c0 B p c s0 wi → B + c.length + s0.length ≤ F0 + p → s0.length ≤ p → (r.1 = true → ∀ (m : Nat → Nat → Int32) (v3 : Value) (e : List TK) (a b : Nat), a ≤ 1 → b ≤ 1 → r.2.2 = e ++ List.replicate a (1, 0, 0, 0) ++ List.replicate b (2, 0, 0, 0) → SY m0 m c0 B r.2.1 e (List.replicate a 38 ++ (List.replicate b 124 ++ s0)) wi → nxT T L r.2.1 ≠ 38 → nxT T L r.2.1 ≠ 124 → a + b + s0.length ≤ r.2.1 → Run G (d + 4) M_X9_takesE 22 [.ref 116, .int (nI c0), .int 0, v3] [] (m, ml, RF D, 164) κ Q) → (r.1 = false → ∀ m, SF m0 m c0 B r.2.1 → Q (some (.int 0)) (m, ml, RF D, 164)) → Run G (d + 4) M_X9_takesE 22 [.ref 116, .int (nI c0), .int 1, v3] [] (mi, ml, RF D, 164) κ Q
def PR4 (T : Nat → Nat) (L : Nat) (m0 : Nat → Nat → Int32) (c0 B F0 : Nat) (ml : Nat → Nat → Int64) (D : Nat → Nat) (n : Nat) : Prop := ∀ (G : rn_G) (d : Nat) (κ : Nat × Nat) (Q : Option Value → rn_S → Prop) (mi : Nat → Nat → Int32) (wi p : Nat) (c : List TK) (s0 : List Nat) (v3 : Value) (r : Bool × Nat × List TK), rd T L n 4 wi p c = some r → wi ≤ 4 → p ≤ L → (∀ a ∈ s0, a < 128) → s0.head? ≠ some 33 → s0.head? ≠ some 38 → s0.head? ≠ some 124 → ∀ (e : List TK) (a b : Nat), a ≤ 1 → b ≤ 1 → c = e ++ List.replicate a (1, 0, 0, 0) ++ List.replicate b (2, 0, 0, 0) → SY m0 mi c0 B p e (List.replicate a 38 ++ (List.replicate b 124 ++ s0)) wi → nxT T L p ≠ 38 → B + c.length + s0.length ≤ F0 + p → a + b + s0.length ≤ p → (r.1 = true → ∀ (m : Nat → Nat → Int32) (v3 : Value) (e : List TK) (a b : Nat), a ≤ 1 → b ≤ 1 → r.2.2 = e ++ List.replicate a (1, 0, 0, 0) ++ List.replicate b (2, 0, 0, 0) → SY m0 m c0 B r.2.1 e (List.replicate a 38 ++ (List.replicate b 124 ++ s0)) wi → nxT T L r.2.1 ≠ 38 → nxT T L r.2.1 ≠ 124 → a + b + s0.length ≤ r.2.1 → Run G (d + 4) M_X9_takesE 22 [.ref 116, .int (nI c0), .int 0, v3] [] (m, ml, RF D, 164) κ Q) → (r.1 = false → ∀ m, SF m0 m c0 B r.2.1 → Q (some (.int 0)) (m, ml, RF D, 164)) → Run G (d + 4) M_X9_takesE 22 [.ref 116, .int (nI c0), .int 0, v3] [] (mi, ml, RF D, 164) κ Q
theorem map_opT {a b : Nat} : (List.replicate a 38 ++ List.replicate b 124).map opT = List.replicate a (1, 0, 0, 0) ++ List.replicate b (2, 0, 0, 0) := by
  rw [List.map_append, List.map_replicate, List.map_replicate]; rfl
theorem rep1 {α : Type} {a : Nat} {v : α} : v :: List.replicate a v = List.replicate (a + 1) v := rfl

set_option maxHeartbeats 4000000 in
theorem L_pr0 {T : Nat → Nat} {L : Nat} {m0 : Nat → Nat → Int32} {c0 B F0 : Nat} {ml : Nat → Nat → Int64} {D : Nat → Nat} {n : Nat} (htx : TXM T L m0) (hF0 : F0 ≤ 500) (hc0 : c0 < 60) (ih0 : PR0 T L m0 c0 B F0 ml D n) (ih1 : PR1 T L m0 c0 B F0 ml D n) (ih2 : PR2 T L m0 c0 B F0 ml D n) (ih3 : PR3 T L m0 c0 B F0 ml D n) (ih4 : PR4 T L m0 c0 B F0 ml D n) : PR0 T L m0 c0 B F0 ml D (n + 1) := by
  intro G d κ Q mi wi p c s0 v3 r hr hwi hpL hb hs0 k o hsy hwk hsz hz1 h1 h0
  have hL := htx.1
  have hlt := htx.lt
  have htx1 := hsy.f.tx htx
  have hat := hsy.2.2.2.2.1
  have hop := hsy.2.2.2.2.2.2.2.1
  have hll : (List.replicate k 33 ++ s0).length = k + s0.length := by rw [List.length_append, List.length_replicate]
  have h30 := hsy.2.2.2.2.2.2.1
  rw [hll] at h30
  rw [rd_0] at hr
  by_cases en : nxT T L p = 33
  · rw [if_pos en] at hr
    have l1 := nxT_lt (T := T) (p := p) (L := L) (by omega)
    by_cases hw4 : 4 ≤ wi
    · rw [if_pos hw4] at hr
      obtain rfl := Option.some.inj hr
      refine al_0 dX9_takesE_22 ?_
      refine cv_0 dX9_takesE_23 mm_RX9_319 sh_116 (Nat.le_of_ble_eq_true rfl) ⟨_, rfl, rfl⟩ (Nat.le_of_ble_eq_true rfl) (Nat.le_of_ble_eq_true rfl) (M_next htx1 hat hpL (nmr (fun nx hnx => ?_)))
      refine is_3 dX9_takesE_26 rfl ?_
      refine il_2 dX9_takesE_27 ?_
      refine R_if_eq (tgt := 110) dX9_takesE_28 (by decide) (fun q => absurd q (by decide)) (fun _ => ?_)
      refine il_3 dX9_takesE_31 ?_
      refine R_bipush (v := 33) dX9_takesE_32 (by decide) ?_
      refine R_icmp_eq (tgt := 43) dX9_takesE_34 (by decide) (fun c34 => ?_) (fun q => absurd q (not_not_intro (by rw [hnx]; exact (nxI_c hlt (c := 33) (by decide)).mpr en)))
      refine al_0 dX9_takesE_43 ?_
      refine R_getfi dX9_takesE_44 fl_RX9_104 rfl sh_116 (Nat.le_of_ble_eq_true rfl) ?_
      refine R_iconst (v := 4) dX9_takesE_47 (by decide) ?_
      refine R_icmp_ne (tgt := 53) dX9_takesE_48 (by decide) (fun q => absurd q (not_not_intro (by rw [hop]; exact congrArg nI (show wi = 4 by omega)))) (fun c48 => ?_)
      refine R_iconst (v := 0) dX9_takesE_51 (by decide) ?_
      refine R_ireturn dX9_takesE_52 ⟨_, rfl, rfl⟩ ?_
      exact h0 rfl mi hsy.f
    · rw [if_neg hw4] at hr
      obtain ⟨r1, e1, hr⟩ := bind_of hr
      have okr := rd_ok T L n 0 (wi + 1) (p + 1) c r1 (by decide) (by omega) e1
      unfold okR at okr
      refine al_0 dX9_takesE_22 ?_
      refine cv_0 dX9_takesE_23 mm_RX9_319 sh_116 (Nat.le_of_ble_eq_true rfl) ⟨_, rfl, rfl⟩ (Nat.le_of_ble_eq_true rfl) (Nat.le_of_ble_eq_true rfl) (M_next htx1 hat hpL (nmr (fun nx hnx => ?_)))
      refine is_3 dX9_takesE_26 rfl ?_
      refine il_2 dX9_takesE_27 ?_
      refine R_if_eq (tgt := 110) dX9_takesE_28 (by decide) (fun q => absurd q (by decide)) (fun _ => ?_)
      refine il_3 dX9_takesE_31 ?_
      refine R_bipush (v := 33) dX9_takesE_32 (by decide) ?_
      refine R_icmp_eq (tgt := 43) dX9_takesE_34 (by decide) (fun c34 => ?_) (fun q => absurd q (not_not_intro (by rw [hnx]; exact (nxI_c hlt (c := 33) (by decide)).mpr en)))
      refine al_0 dX9_takesE_43 ?_
      refine R_getfi dX9_takesE_44 fl_RX9_104 rfl sh_116 (Nat.le_of_ble_eq_true rfl) ?_
      refine R_iconst (v := 4) dX9_takesE_47 (by decide) ?_
      refine R_icmp_ne (tgt := 53) dX9_takesE_48 (by decide) (fun c48 => ?_) (fun q => absurd q (by rw [hop]; exact fun q => by have := sm_inj (b := 4) (by omega) (by decide) q; omega))
      refine al_0 dX9_takesE_53 ?_
      refine R_dup dX9_takesE_54 rfl ?_
      refine R_getfi dX9_takesE_55 fl_RX9_104 rfl sh_116 (Nat.le_of_ble_eq_true rfl) ?_
      refine R_iconst (v := 1) dX9_takesE_58 (by decide) ?_
      refine R_iadd dX9_takesE_59 ?_
      refine R_putfi dX9_takesE_60 fl_RX9_104 rfl (Or.inl rfl) sh_116 (Nat.le_of_ble_eq_true rfl) rfl rfl ?_
      rw [show mi 116 31 + 1 = nI (wi + 1) by rw [hop]; exact sm_add wi 1]
      have hsy1 := hsy.opn (n := wi + 1)
      have e30 : rn_u mi 116 31 (nI (wi + 1)) 116 30 = nI (k + s0.length) := h30
      refine al_0 dX9_takesE_63 ?_
      refine R_getfr (r := 131) dX9_takesE_64 fl_RX9_95 rfl sh_116 (Nat.le_of_ble_eq_true rfl) rf_116_28 ?_
      refine al_0 dX9_takesE_67 ?_
      refine R_getfi dX9_takesE_68 fl_RX9_101 rfl sh_116 (Nat.le_of_ble_eq_true rfl) ?_
      refine il_3 dX9_takesE_71 ?_
      refine R_iast dX9_takesE_72 sh_131 (Nat.le_of_ble_eq_true rfl) (rn_ixe e30) (show k + s0.length < 101 by omega) ?_
      refine al_0 dX9_takesE_73 ?_
      refine R_dup dX9_takesE_74 rfl ?_
      refine R_getfi dX9_takesE_75 fl_RX9_101 rfl sh_116 (Nat.le_of_ble_eq_true rfl) ?_
      refine R_iconst (v := 1) dX9_takesE_78 (by decide) ?_
      refine R_iadd dX9_takesE_79 ?_
      refine R_putfi dX9_takesE_80 fl_RX9_101 rfl (Or.inl rfl) sh_116 (Nat.le_of_ble_eq_true rfl) rfl rfl ?_
      rw [show nx = nI 33 by rw [hnx]; exact (nxI_c hlt (c := 33) (by decide)).mpr en]
      have hsy2 := hsy1.push (c := 33)
      rw [hll] at hsy2
      rw [show rn_u (rn_u mi 116 31 (nI (wi + 1))) 131 (k + s0.length) (nI 33) 116 30 + 1 = nI (k + s0.length + 1) by rw [rn_u_ne (show (116 : Nat) ≠ 131 by decide), e30]; exact sm_add _ 1]
      have hsy3 := hsy2.at (q := p + 1)
      refine al_0 dX9_takesE_83 ?_
      refine R_dup dX9_takesE_84 rfl ?_
      refine R_getfi dX9_takesE_85 fl_RX9_68 rfl sh_116 (Nat.le_of_ble_eq_true rfl) ?_
      refine R_iconst (v := 1) dX9_takesE_88 (by decide) ?_
      refine R_iadd dX9_takesE_89 ?_
      refine R_putfi dX9_takesE_90 fl_RX9_68 rfl (Or.inl rfl) sh_116 (Nat.le_of_ble_eq_true rfl) rfl rfl ?_
      refine R_goto (tgt := 22) dX9_takesE_93 (by decide) ?_
      rw [show rn_u (rn_u (rn_u mi 116 31 (nI (wi + 1))) 131 (k + s0.length) (nI 33)) 116 30 (nI (k + s0.length + 1)) 116 19 + 1 = nI (p + 1) by rw [show rn_u (rn_u (rn_u mi 116 31 (nI (wi + 1))) 131 (k + s0.length) (nI 33)) 116 30 (nI (k + s0.length + 1)) 116 19 = nI p from hat]; exact sm_add p 1]
      refine ih0 G d κ Q _ (wi + 1) (p + 1) c s0 _ r1 e1 (by omega) (by omega) hb hs0 (k + 1) o hsy3 (by omega) (by omega) (by omega) (fun b m v3 hm => ?_) (fun b m hm => ?_)
      · rw [if_pos b] at hr
        obtain rfl := Option.some.inj hr
        refine h1 rfl m v3 ?_
        show SY m0 m c0 B r1.2.1 (r1.2.2 ++ [(0, 0, 0, 0)] ++ List.replicate k (0, 0, 0, 0)) s0 o
        rw [List.append_assoc]
        exact hm
      · rw [if_neg (fun q => by rw [b] at q; exact absurd q (by decide))] at hr
        obtain rfl := Option.some.inj hr
        exact h0 b m hm
  have en33 := en
  clear en
  rw [if_neg en33] at hr
  by_cases en : nxT T L p = 40
  · rw [if_pos en] at hr
    have l1 := nxT_lt (T := T) (p := p) (L := L) (by omega)
    by_cases hw4 : 4 ≤ wi
    · rw [if_pos hw4] at hr
      obtain rfl := Option.some.inj hr
      refine al_0 dX9_takesE_22 ?_
      refine cv_0 dX9_takesE_23 mm_RX9_319 sh_116 (Nat.le_of_ble_eq_true rfl) ⟨_, rfl, rfl⟩ (Nat.le_of_ble_eq_true rfl) (Nat.le_of_ble_eq_true rfl) (M_next htx1 hat hpL (nmr (fun nx hnx => ?_)))
      refine is_3 dX9_takesE_26 rfl ?_
      refine il_2 dX9_takesE_27 ?_
      refine R_if_eq (tgt := 110) dX9_takesE_28 (by decide) (fun q => absurd q (by decide)) (fun _ => ?_)
      refine il_3 dX9_takesE_31 ?_
      refine R_bipush (v := 33) dX9_takesE_32 (by decide) ?_
      refine R_icmp_eq (tgt := 43) dX9_takesE_34 (by decide) (fun q => absurd q (fun q => absurd ((nxI_c hlt (c := 33) (by decide)).mp (by rw [← hnx]; exact q)) (by omega))) (fun c34 => ?_)
      refine il_3 dX9_takesE_37 ?_
      refine R_bipush (v := 40) dX9_takesE_38 (by decide) ?_
      refine R_icmp_ne (tgt := 96) dX9_takesE_40 (by decide) (fun q => absurd q (not_not_intro (by rw [hnx]; exact (nxI_c hlt (c := 40) (by decide)).mpr en))) (fun c40 => ?_)
      refine al_0 dX9_takesE_43 ?_
      refine R_getfi dX9_takesE_44 fl_RX9_104 rfl sh_116 (Nat.le_of_ble_eq_true rfl) ?_
      refine R_iconst (v := 4) dX9_takesE_47 (by decide) ?_
      refine R_icmp_ne (tgt := 53) dX9_takesE_48 (by decide) (fun q => absurd q (not_not_intro (by rw [hop]; exact congrArg nI (show wi = 4 by omega)))) (fun c48 => ?_)
      refine R_iconst (v := 0) dX9_takesE_51 (by decide) ?_
      refine R_ireturn dX9_takesE_52 ⟨_, rfl, rfl⟩ ?_
      exact h0 rfl mi hsy.f
    · rw [if_neg hw4] at hr
      obtain ⟨r1, e1, hr⟩ := bind_of hr
      have okr := rd_ok T L n 3 (wi + 1) (p + 1) c r1 (by decide) (by omega) e1
      unfold okR at okr
      have hb4 : ∀ a ∈ 40 :: (List.replicate k 33 ++ s0), a < 128 := fun a ha => by
        rcases List.mem_cons.mp ha with q | q
        · omega
        · rcases List.mem_append.mp q with q | q
          · rw [(List.mem_replicate.mp q).2]; decide
          · exact hb a q
      have hpar : ∀ (m : Nat → Nat → Int32) (v3 : Value) (e : List TK) (a a2 : Nat), a ≤ 1 → a2 ≤ 1 → r1.2.2 = e ++ List.replicate a (1, 0, 0, 0) ++ List.replicate a2 (2, 0, 0, 0) → SY m0 m c0 B r1.2.1 e (List.replicate a 38 ++ (List.replicate a2 124 ++ 40 :: (List.replicate k 33 ++ s0))) (wi + 1) → nxT T L r1.2.1 ≠ 38 → nxT T L r1.2.1 ≠ 124 → a + a2 + (40 :: (List.replicate k 33 ++ s0) : List Nat).length ≤ r1.2.1 → (if nxT T L r1.2.1 = 41 then some (true, r1.2.1 + 1, r1.2.2) else some (false, r1.2.1, r1.2.2)) = some r → Run G (d + 4) M_X9_takesE 22 [.ref 116, .int (nI c0), .int 0, v3] [] (m, ml, RF D, 164) κ Q := by
        intro m v3 e a a2 ha ha2 hc hm n38 n124 hbd hr
        rw [List.length_cons, hll] at hbd
        have htxm := hm.f.tx htx
        have hatm := hm.2.2.2.2.1
        rw [← List.append_assoc] at hm
        have hlc : r1.2.2.length = e.length + a + a2 := by rw [hc]; simp only [List.length_append, List.length_replicate]
        have hlo : (List.replicate a 38 ++ List.replicate a2 124).length = a + a2 := by rw [List.length_append, List.length_replicate, List.length_replicate]
        have hops : ∀ c ∈ List.replicate a 38 ++ List.replicate a2 124, c = 38 ∨ (c = 124 ∧ ¬ (124 : Int32) = 38) := fun c hc => by
          rcases List.mem_append.mp hc with q | q
          · exact Or.inl (List.mem_replicate.mp q).2
          · exact Or.inr ⟨(List.mem_replicate.mp q).2, by decide⟩
        by_cases e41 : nxT T L r1.2.1 = 41
        · rw [if_pos e41] at hr
          obtain rfl := Option.some.inj hr
          refine al_0 dX9_takesE_22 ?_
          refine cv_0 dX9_takesE_23 mm_RX9_319 sh_116 (Nat.le_of_ble_eq_true rfl) ⟨_, rfl, rfl⟩ (Nat.le_of_ble_eq_true rfl) (Nat.le_of_ble_eq_true rfl) (M_next htxm hatm okr.2.1 (nmr (fun nx hnx => ?_)))
          refine is_3 dX9_takesE_26 rfl ?_
          refine il_2 dX9_takesE_27 ?_
          refine R_if_eq (tgt := 110) dX9_takesE_28 (by decide) (fun _ => ?_) (fun q => absurd q (by decide))
          refine il_3 dX9_takesE_110 ?_
          refine R_bipush (v := 38) dX9_takesE_111 (by decide) ?_
          refine R_icmp_eq (tgt := 122) dX9_takesE_113 (by decide) (fun q => absurd q (fun q => absurd ((nxI_c hlt (c := 38) (by decide)).mp (by rw [← hnx]; exact q)) n38)) (fun c113 => ?_)
          refine il_3 dX9_takesE_116 ?_
          refine R_bipush (v := 124) dX9_takesE_117 (by decide) ?_
          refine R_icmp_ne (tgt := 162) dX9_takesE_119 (by decide) (fun c119 => ?_) (fun q => absurd q (fun q => absurd ((nxI_c hlt (c := 124) (by decide)).mp (by rw [← hnx]; exact q)) n124))
          refine al_0 dX9_takesE_162 ?_
          refine R_bipush (v := 124) dX9_takesE_163 (by decide) ?_
          refine cv_1 dX9_takesE_165 mm_RX9_347 sh_116 (Nat.le_of_ble_eq_true rfl) ⟨_, rfl, rfl⟩ (Nat.le_of_ble_eq_true rfl) (Nat.le_of_ble_eq_true rfl) (M_settle (x := 124) hb4 (by simp) (by simp) hops hm (by rw [hlo, List.length_cons, hll]; omega) (by rw [hlo, List.length_cons, hll]; omega) (fun m5 hm5 => ?_))
          rw [map_opT, ← List.append_assoc, ← hc] at hm5
          have hm6 := hm5.to (v := nI (B + r1.2.2.length))
          rw [show nI (B + r1.2.2.length) = m5 116 29 from hm5.2.2.2.2.2.1.symm] at hm6
          refine al_0 dX9_takesE_168 ?_
          refine R_getfr (r := 129) dX9_takesE_169 fl_RX9_89 rfl sh_116 (Nat.le_of_ble_eq_true rfl) rf_116_26 ?_
          refine il_1 dX9_takesE_172 ?_
          refine al_0 dX9_takesE_173 ?_
          refine R_getfi dX9_takesE_174 fl_RX9_98 rfl sh_116 (Nat.le_of_ble_eq_true rfl) ?_
          refine R_iast dX9_takesE_177 sh_129 (Nat.le_of_ble_eq_true rfl) (rn_ixe rfl) hc0 ?_
          refine al_0 dX9_takesE_178 ?_
          have h630 : rn_u m5 129 c0 (m5 116 29) 116 30 = nI (40 :: (List.replicate k 33 ++ s0) : List Nat).length := hm6.2.2.2.2.2.2.1
          refine R_getfi dX9_takesE_179 fl_RX9_101 rfl sh_116 (Nat.le_of_ble_eq_true rfl) ?_
          refine R_if_ne (tgt := 187) dX9_takesE_182 (by decide) (fun c182 => ?_) (fun q => absurd q (by rw [h630, List.length_cons]; exact fun q => absurd q (fun q => by have := sm_inj (b := 0) (by rw [hll]; omega) (by decide) q; omega)))
          refine il_3 dX9_takesE_187 ?_
          refine R_bipush (v := 41) dX9_takesE_188 (by decide) ?_
          refine R_icmp_eq (tgt := 195) dX9_takesE_190 (by decide) (fun c190 => ?_) (fun q => absurd q (not_not_intro (by rw [hnx]; exact (nxI_c hlt (c := 41) (by decide)).mpr e41)))
          refine al_0 dX9_takesE_195 ?_
          refine R_dup dX9_takesE_196 rfl ?_
          refine R_getfi dX9_takesE_197 fl_RX9_101 rfl sh_116 (Nat.le_of_ble_eq_true rfl) ?_
          refine R_iconst (v := 1) dX9_takesE_200 (by decide) ?_
          refine R_isub dX9_takesE_201 ?_
          refine R_putfi dX9_takesE_202 fl_RX9_101 rfl (Or.inl rfl) sh_116 (Nat.le_of_ble_eq_true rfl) rfl rfl ?_
          rw [show (rn_u m5 129 c0 (m5 116 29)) 116 30 - 1 = nI (List.replicate k 33 ++ s0 : List Nat).length from hm6.top.1]
          have hm7 := hm6.pop
          refine al_0 dX9_takesE_205 ?_
          refine R_dup dX9_takesE_206 rfl ?_
          refine R_getfi dX9_takesE_207 fl_RX9_104 rfl sh_116 (Nat.le_of_ble_eq_true rfl) ?_
          refine R_iconst (v := 1) dX9_takesE_210 (by decide) ?_
          refine R_isub dX9_takesE_211 ?_
          refine R_putfi dX9_takesE_212 fl_RX9_104 rfl (Or.inl rfl) sh_116 (Nat.le_of_ble_eq_true rfl) rfl rfl ?_
          rw [show (rn_u (rn_u m5 129 c0 (m5 116 29)) 116 30 (nI (List.replicate k 33 ++ s0 : List Nat).length)) 116 31 - 1 = nI wi by rw [show (rn_u (rn_u m5 129 c0 (m5 116 29)) 116 30 (nI (List.replicate k 33 ++ s0 : List Nat).length)) 116 31 = nI (wi + 1) from hm7.2.2.2.2.2.2.2.1]; exact sm_sub (a := wi + 1) (b := 1) (by omega)]
          have hm8 := hm7.opn (n := wi)
          refine al_0 dX9_takesE_215 ?_
          refine R_dup dX9_takesE_216 rfl ?_
          refine R_getfi dX9_takesE_217 fl_RX9_68 rfl sh_116 (Nat.le_of_ble_eq_true rfl) ?_
          refine R_iconst (v := 1) dX9_takesE_220 (by decide) ?_
          refine R_iadd dX9_takesE_221 ?_
          refine R_putfi dX9_takesE_222 fl_RX9_68 rfl (Or.inl rfl) sh_116 (Nat.le_of_ble_eq_true rfl) rfl rfl ?_
          rw [show (rn_u (rn_u (rn_u m5 129 c0 (m5 116 29)) 116 30 (nI (List.replicate k 33 ++ s0 : List Nat).length)) 116 31 (nI wi)) 116 19 + 1 = nI (r1.2.1 + 1) by rw [show (rn_u (rn_u (rn_u m5 129 c0 (m5 116 29)) 116 30 (nI (List.replicate k 33 ++ s0 : List Nat).length)) 116 31 (nI wi)) 116 19 = nI r1.2.1 from hm8.2.2.2.2.1]; exact sm_add _ 1]
          have hm9 := hm8.at (q := r1.2.1 + 1)
          refine al_0 dX9_takesE_225 ?_
          refine cv_0 dX9_takesE_226 mm_RX9_341 sh_116 (Nat.le_of_ble_eq_true rfl) ⟨_, rfl, rfl⟩ (Nat.le_of_ble_eq_true rfl) (Nat.le_of_ble_eq_true rfl) (M_whole (m0 := m0) (c0 := c0) (p := r1.2.1 + 1) (B := B) (ts := r1.2.2) hs0 hb (k := k) (o := o) (by rw [← hwk]; exact hm9) (by omega) (by omega) (fun m10 hm10 => ?_))
          refine R_goto (tgt := 22) dX9_takesE_229 (by decide) ?_
          exact h1 rfl m10 _ hm10
        · rw [if_neg e41] at hr
          obtain rfl := Option.some.inj hr
          refine al_0 dX9_takesE_22 ?_
          refine cv_0 dX9_takesE_23 mm_RX9_319 sh_116 (Nat.le_of_ble_eq_true rfl) ⟨_, rfl, rfl⟩ (Nat.le_of_ble_eq_true rfl) (Nat.le_of_ble_eq_true rfl) (M_next htxm hatm okr.2.1 (nmr (fun nx hnx => ?_)))
          refine is_3 dX9_takesE_26 rfl ?_
          refine il_2 dX9_takesE_27 ?_
          refine R_if_eq (tgt := 110) dX9_takesE_28 (by decide) (fun _ => ?_) (fun q => absurd q (by decide))
          refine il_3 dX9_takesE_110 ?_
          refine R_bipush (v := 38) dX9_takesE_111 (by decide) ?_
          refine R_icmp_eq (tgt := 122) dX9_takesE_113 (by decide) (fun q => absurd q (fun q => absurd ((nxI_c hlt (c := 38) (by decide)).mp (by rw [← hnx]; exact q)) n38)) (fun c113 => ?_)
          refine il_3 dX9_takesE_116 ?_
          refine R_bipush (v := 124) dX9_takesE_117 (by decide) ?_
          refine R_icmp_ne (tgt := 162) dX9_takesE_119 (by decide) (fun c119 => ?_) (fun q => absurd q (fun q => absurd ((nxI_c hlt (c := 124) (by decide)).mp (by rw [← hnx]; exact q)) n124))
          refine al_0 dX9_takesE_162 ?_
          refine R_bipush (v := 124) dX9_takesE_163 (by decide) ?_
          refine cv_1 dX9_takesE_165 mm_RX9_347 sh_116 (Nat.le_of_ble_eq_true rfl) ⟨_, rfl, rfl⟩ (Nat.le_of_ble_eq_true rfl) (Nat.le_of_ble_eq_true rfl) (M_settle (x := 124) hb4 (by simp) (by simp) hops hm (by rw [hlo, List.length_cons, hll]; omega) (by rw [hlo, List.length_cons, hll]; omega) (fun m5 hm5 => ?_))
          rw [map_opT, ← List.append_assoc, ← hc] at hm5
          have hm6 := hm5.to (v := nI (B + r1.2.2.length))
          rw [show nI (B + r1.2.2.length) = m5 116 29 from hm5.2.2.2.2.2.1.symm] at hm6
          refine al_0 dX9_takesE_168 ?_
          refine R_getfr (r := 129) dX9_takesE_169 fl_RX9_89 rfl sh_116 (Nat.le_of_ble_eq_true rfl) rf_116_26 ?_
          refine il_1 dX9_takesE_172 ?_
          refine al_0 dX9_takesE_173 ?_
          refine R_getfi dX9_takesE_174 fl_RX9_98 rfl sh_116 (Nat.le_of_ble_eq_true rfl) ?_
          refine R_iast dX9_takesE_177 sh_129 (Nat.le_of_ble_eq_true rfl) (rn_ixe rfl) hc0 ?_
          refine al_0 dX9_takesE_178 ?_
          have h630 : rn_u m5 129 c0 (m5 116 29) 116 30 = nI (40 :: (List.replicate k 33 ++ s0) : List Nat).length := hm6.2.2.2.2.2.2.1
          refine R_getfi dX9_takesE_179 fl_RX9_101 rfl sh_116 (Nat.le_of_ble_eq_true rfl) ?_
          refine R_if_ne (tgt := 187) dX9_takesE_182 (by decide) (fun c182 => ?_) (fun q => absurd q (by rw [h630, List.length_cons]; exact fun q => absurd q (fun q => by have := sm_inj (b := 0) (by rw [hll]; omega) (by decide) q; omega)))
          refine il_3 dX9_takesE_187 ?_
          refine R_bipush (v := 41) dX9_takesE_188 (by decide) ?_
          refine R_icmp_eq (tgt := 195) dX9_takesE_190 (by decide) (fun q => absurd q (fun q => absurd ((nxI_c hlt (c := 41) (by decide)).mp (by rw [← hnx]; exact q)) e41)) (fun c190 => ?_)
          refine R_iconst (v := 0) dX9_takesE_193 (by decide) ?_
          refine R_ireturn dX9_takesE_194 ⟨_, rfl, rfl⟩ ?_
          exact h0 rfl _ hm6.f
      refine al_0 dX9_takesE_22 ?_
      refine cv_0 dX9_takesE_23 mm_RX9_319 sh_116 (Nat.le_of_ble_eq_true rfl) ⟨_, rfl, rfl⟩ (Nat.le_of_ble_eq_true rfl) (Nat.le_of_ble_eq_true rfl) (M_next htx1 hat hpL (nmr (fun nx hnx => ?_)))
      refine is_3 dX9_takesE_26 rfl ?_
      refine il_2 dX9_takesE_27 ?_
      refine R_if_eq (tgt := 110) dX9_takesE_28 (by decide) (fun q => absurd q (by decide)) (fun _ => ?_)
      refine il_3 dX9_takesE_31 ?_
      refine R_bipush (v := 33) dX9_takesE_32 (by decide) ?_
      refine R_icmp_eq (tgt := 43) dX9_takesE_34 (by decide) (fun q => absurd q (fun q => absurd ((nxI_c hlt (c := 33) (by decide)).mp (by rw [← hnx]; exact q)) (by omega))) (fun c34 => ?_)
      refine il_3 dX9_takesE_37 ?_
      refine R_bipush (v := 40) dX9_takesE_38 (by decide) ?_
      refine R_icmp_ne (tgt := 96) dX9_takesE_40 (by decide) (fun q => absurd q (not_not_intro (by rw [hnx]; exact (nxI_c hlt (c := 40) (by decide)).mpr en))) (fun c40 => ?_)
      refine al_0 dX9_takesE_43 ?_
      refine R_getfi dX9_takesE_44 fl_RX9_104 rfl sh_116 (Nat.le_of_ble_eq_true rfl) ?_
      refine R_iconst (v := 4) dX9_takesE_47 (by decide) ?_
      refine R_icmp_ne (tgt := 53) dX9_takesE_48 (by decide) (fun c48 => ?_) (fun q => absurd q (by rw [hop]; exact fun q => by have := sm_inj (b := 4) (by omega) (by decide) q; omega))
      refine al_0 dX9_takesE_53 ?_
      refine R_dup dX9_takesE_54 rfl ?_
      refine R_getfi dX9_takesE_55 fl_RX9_104 rfl sh_116 (Nat.le_of_ble_eq_true rfl) ?_
      refine R_iconst (v := 1) dX9_takesE_58 (by decide) ?_
      refine R_iadd dX9_takesE_59 ?_
      refine R_putfi dX9_takesE_60 fl_RX9_104 rfl (Or.inl rfl) sh_116 (Nat.le_of_ble_eq_true rfl) rfl rfl ?_
      rw [show mi 116 31 + 1 = nI (wi + 1) by rw [hop]; exact sm_add wi 1]
      have hsy1 := hsy.opn (n := wi + 1)
      have e30 : rn_u mi 116 31 (nI (wi + 1)) 116 30 = nI (k + s0.length) := h30
      refine al_0 dX9_takesE_63 ?_
      refine R_getfr (r := 131) dX9_takesE_64 fl_RX9_95 rfl sh_116 (Nat.le_of_ble_eq_true rfl) rf_116_28 ?_
      refine al_0 dX9_takesE_67 ?_
      refine R_getfi dX9_takesE_68 fl_RX9_101 rfl sh_116 (Nat.le_of_ble_eq_true rfl) ?_
      refine il_3 dX9_takesE_71 ?_
      refine R_iast dX9_takesE_72 sh_131 (Nat.le_of_ble_eq_true rfl) (rn_ixe e30) (show k + s0.length < 101 by omega) ?_
      refine al_0 dX9_takesE_73 ?_
      refine R_dup dX9_takesE_74 rfl ?_
      refine R_getfi dX9_takesE_75 fl_RX9_101 rfl sh_116 (Nat.le_of_ble_eq_true rfl) ?_
      refine R_iconst (v := 1) dX9_takesE_78 (by decide) ?_
      refine R_iadd dX9_takesE_79 ?_
      refine R_putfi dX9_takesE_80 fl_RX9_101 rfl (Or.inl rfl) sh_116 (Nat.le_of_ble_eq_true rfl) rfl rfl ?_
      rw [show nx = nI 40 by rw [hnx]; exact (nxI_c hlt (c := 40) (by decide)).mpr en]
      have hsy2 := hsy1.push (c := 40)
      rw [hll] at hsy2
      rw [show rn_u (rn_u mi 116 31 (nI (wi + 1))) 131 (k + s0.length) (nI 40) 116 30 + 1 = nI (k + s0.length + 1) by rw [rn_u_ne (show (116 : Nat) ≠ 131 by decide), e30]; exact sm_add _ 1]
      have hsy3 := hsy2.at (q := p + 1)
      refine al_0 dX9_takesE_83 ?_
      refine R_dup dX9_takesE_84 rfl ?_
      refine R_getfi dX9_takesE_85 fl_RX9_68 rfl sh_116 (Nat.le_of_ble_eq_true rfl) ?_
      refine R_iconst (v := 1) dX9_takesE_88 (by decide) ?_
      refine R_iadd dX9_takesE_89 ?_
      refine R_putfi dX9_takesE_90 fl_RX9_68 rfl (Or.inl rfl) sh_116 (Nat.le_of_ble_eq_true rfl) rfl rfl ?_
      refine R_goto (tgt := 22) dX9_takesE_93 (by decide) ?_
      rw [show rn_u (rn_u (rn_u mi 116 31 (nI (wi + 1))) 131 (k + s0.length) (nI 40)) 116 30 (nI (k + s0.length + 1)) 116 19 + 1 = nI (p + 1) by rw [show rn_u (rn_u (rn_u mi 116 31 (nI (wi + 1))) 131 (k + s0.length) (nI 40)) 116 30 (nI (k + s0.length + 1)) 116 19 = nI p from hat]; exact sm_add p 1]
      refine ih3 G d κ Q _ (wi + 1) (p + 1) c (40 :: (List.replicate k 33 ++ s0)) _ r1 e1 (by omega) (by omega) hb4 (by simp) (by simp) (by simp) hsy3 (by rw [List.length_cons, hll]; omega) (by rw [List.length_cons, hll]; omega) (fun b m v3 e a a2 ha ha2 hc hm n38 n124 hbd => ?_) (fun b m hm => ?_)
      · rw [if_pos b] at hr
        exact hpar m v3 e a a2 ha ha2 hc hm n38 n124 hbd hr
      · rw [if_neg (fun q => by rw [b] at q; exact absurd q (by decide))] at hr
        obtain rfl := Option.some.inj hr
        exact h0 b m hm
  rw [if_neg en] at hr
  obtain rfl := Option.some.inj hr
  have hsyk := hsy
  rw [hwk] at hsyk
  refine al_0 dX9_takesE_22 ?_
  refine cv_0 dX9_takesE_23 mm_RX9_319 sh_116 (Nat.le_of_ble_eq_true rfl) ⟨_, rfl, rfl⟩ (Nat.le_of_ble_eq_true rfl) (Nat.le_of_ble_eq_true rfl) (M_next htx1 hat hpL (nmr (fun nx hnx => ?_)))
  refine is_3 dX9_takesE_26 rfl ?_
  refine il_2 dX9_takesE_27 ?_
  refine R_if_eq (tgt := 110) dX9_takesE_28 (by decide) (fun q => absurd q (by decide)) (fun _ => ?_)
  refine il_3 dX9_takesE_31 ?_
  refine R_bipush (v := 33) dX9_takesE_32 (by decide) ?_
  refine R_icmp_eq (tgt := 43) dX9_takesE_34 (by decide) (fun q => absurd q (fun q => absurd ((nxI_c hlt (c := 33) (by decide)).mp (by rw [← hnx]; exact q)) en33)) (fun c34 => ?_)
  refine il_3 dX9_takesE_37 ?_
  refine R_bipush (v := 40) dX9_takesE_38 (by decide) ?_
  refine R_icmp_ne (tgt := 96) dX9_takesE_40 (by decide) (fun c40 => ?_) (fun q => absurd q (fun q => absurd ((nxI_c hlt (c := 40) (by decide)).mp (by rw [← hnx]; exact q)) en))
  refine al_0 dX9_takesE_96 ?_
  refine cv_0 dX9_takesE_97 mm_RX9_344 sh_116 (Nat.le_of_ble_eq_true rfl) ⟨_, rfl, rfl⟩ (Nat.le_of_ble_eq_true rfl) (Nat.le_of_ble_eq_true rfl) (M_takesTest htx hpL hs0 hb hsyk (fun _ => by omega) (by omega) (fun b m5 hm5 => ?_) (fun b m5 hm5 => ?_))
  · refine R_if_eq (tgt := 108) dX9_takesE_100 (by decide) (fun q => absurd q (by decide)) (fun _ => ?_)
    refine R_iconst (v := 0) dX9_takesE_103 (by decide) ?_
    refine is_2 dX9_takesE_104 rfl ?_
    refine R_goto (tgt := 22) dX9_takesE_105 (by decide) ?_
    exact h1 b m5 _ hm5
  · refine R_if_eq (tgt := 108) dX9_takesE_100 (by decide) (fun _ => ?_) (fun q => absurd q (by decide))
    refine R_iconst (v := 0) dX9_takesE_108 (by decide) ?_
    refine R_ireturn dX9_takesE_109 ⟨_, rfl, rfl⟩ ?_
    exact h0 b m5 hm5

set_option maxHeartbeats 4000000 in
theorem L_pr1 {T : Nat → Nat} {L : Nat} {m0 : Nat → Nat → Int32} {c0 B F0 : Nat} {ml : Nat → Nat → Int64} {D : Nat → Nat} {n : Nat} (htx : TXM T L m0) (hF0 : F0 ≤ 500) (hc0 : c0 < 60) (ih0 : PR0 T L m0 c0 B F0 ml D n) (ih1 : PR1 T L m0 c0 B F0 ml D n) (ih2 : PR2 T L m0 c0 B F0 ml D n) (ih3 : PR3 T L m0 c0 B F0 ml D n) (ih4 : PR4 T L m0 c0 B F0 ml D n) : PR1 T L m0 c0 B F0 ml D (n + 1) := by
  intro G d κ Q mi wi p c s0 v3 r hr hwi hpL hb hs0 hs38 hsy hsz hz1 h1 h0
  have hL := htx.1
  have hlt := htx.lt
  rw [rd_1] at hr
  obtain ⟨r1, e1, hr⟩ := bind_of hr
  have okr := rd_ok T L n 0 wi p c r1 (by decide) hpL e1
  unfold okR at okr
  refine ih0 G d κ Q mi wi p c s0 v3 r1 e1 hwi hpL hb hs0 0 wi hsy rfl (by omega) (by omega) (fun b m v3 hm => ?_) (fun b m hm => ?_)
  · rw [if_pos b] at hr
    rw [List.replicate_zero, List.append_nil] at hm
    exact ih2 G d κ Q m wi r1.2.1 r1.2.2 s0 v3 r hr hwi okr.2.1 hb hs0 hs38 r1.2.2 0 (by decide) (by rw [List.replicate_zero, List.append_nil]) hm (by omega) (by omega) h1 h0
  · rw [if_neg (fun q => by rw [b] at q; exact absurd q (by decide))] at hr
    obtain rfl := Option.some.inj hr
    exact h0 b m hm

set_option maxHeartbeats 4000000 in
theorem L_pr3 {T : Nat → Nat} {L : Nat} {m0 : Nat → Nat → Int32} {c0 B F0 : Nat} {ml : Nat → Nat → Int64} {D : Nat → Nat} {n : Nat} (htx : TXM T L m0) (hF0 : F0 ≤ 500) (hc0 : c0 < 60) (ih0 : PR0 T L m0 c0 B F0 ml D n) (ih1 : PR1 T L m0 c0 B F0 ml D n) (ih2 : PR2 T L m0 c0 B F0 ml D n) (ih3 : PR3 T L m0 c0 B F0 ml D n) (ih4 : PR4 T L m0 c0 B F0 ml D n) : PR3 T L m0 c0 B F0 ml D (n + 1) := by
  intro G d κ Q mi wi p c s0 v3 r hr hwi hpL hb hs0 hs38 hs124 hsy hsz hz1 h1 h0
  have hL := htx.1
  have hlt := htx.lt
  rw [rd_3] at hr
  obtain ⟨r1, e1, hr⟩ := bind_of hr
  have okr := rd_ok T L n 1 wi p c r1 (by decide) hpL e1
  unfold okR at okr
  refine ih1 G d κ Q mi wi p c s0 v3 r1 e1 hwi hpL hb hs0 hs38 hsy hsz hz1 (fun b m v3 e a ha hc hm n38 hbd => ?_) (fun b m hm => ?_)
  · rw [if_pos b] at hr
    have hp1 := okr.2.2.1 b (Or.inr (Or.inl rfl))
    exact ih4 G d κ Q m wi r1.2.1 r1.2.2 s0 v3 r hr hwi okr.2.1 hb hs0 hs38 hs124 e a 0 ha (by decide) (by rw [List.replicate_zero, List.append_nil]; exact hc) hm n38 (by omega) (by omega) h1 h0
  · rw [if_neg (fun q => by rw [b] at q; exact absurd q (by decide))] at hr
    obtain rfl := Option.some.inj hr
    exact h0 b m hm

set_option maxHeartbeats 4000000 in
theorem L_pr2 {T : Nat → Nat} {L : Nat} {m0 : Nat → Nat → Int32} {c0 B F0 : Nat} {ml : Nat → Nat → Int64} {D : Nat → Nat} {n : Nat} (htx : TXM T L m0) (hF0 : F0 ≤ 500) (hc0 : c0 < 60) (ih0 : PR0 T L m0 c0 B F0 ml D n) (ih1 : PR1 T L m0 c0 B F0 ml D n) (ih2 : PR2 T L m0 c0 B F0 ml D n) (ih3 : PR3 T L m0 c0 B F0 ml D n) (ih4 : PR4 T L m0 c0 B F0 ml D n) : PR2 T L m0 c0 B F0 ml D (n + 1) := by
  intro G d κ Q mi wi p c s0 v3 r hr hwi hpL hb hs0 hs38 e a ha hc hsy hsz hz1 h1 h0
  have hL := htx.1
  have hlt := htx.lt
  have htx1 := hsy.f.tx htx
  have hat := hsy.2.2.2.2.1
  rw [rd_2] at hr
  by_cases en : nxT T L p = 38
  · rw [if_pos en] at hr
    have l1 := nxT_lt (T := T) (p := p) (L := L) (by omega)
    obtain ⟨r1, e1, hr⟩ := bind_of hr
    have okr := rd_ok T L n 0 wi (p + 1) c r1 (by decide) (by omega) e1
    unfold okR at okr
    have hlc : c.length = e.length + a := by rw [hc]; simp only [List.length_append, List.length_replicate]
    have hlo : (List.replicate a 38).length = a := List.length_replicate
    have hops : ∀ c ∈ List.replicate a 38, c = 38 ∨ (c = 124 ∧ ¬ (nI 38 : Int32) = 38) := fun c hc => Or.inl (List.mem_replicate.mp hc).2
    have hcm : e ++ (List.replicate a 38).map opT = c := by rw [hc, List.map_replicate]; rfl
    refine al_0 dX9_takesE_22 ?_
    refine cv_0 dX9_takesE_23 mm_RX9_319 sh_116 (Nat.le_of_ble_eq_true rfl) ⟨_, rfl, rfl⟩ (Nat.le_of_ble_eq_true rfl) (Nat.le_of_ble_eq_true rfl) (M_next htx1 hat hpL (nmr (fun nx hnx => ?_)))
    refine is_3 dX9_takesE_26 rfl ?_
    refine il_2 dX9_takesE_27 ?_
    refine R_if_eq (tgt := 110) dX9_takesE_28 (by decide) (fun _ => ?_) (fun q => absurd q (by decide))
    refine il_3 dX9_takesE_110 ?_
    refine R_bipush (v := 38) dX9_takesE_111 (by decide) ?_
    refine R_icmp_eq (tgt := 122) dX9_takesE_113 (by decide) (fun c113 => ?_) (fun q => absurd q (not_not_intro (by rw [hnx]; exact (nxI_c hlt (c := 38) (by decide)).mpr en)))
    have enx : nx = nI 38 := by rw [hnx]; exact (nxI_c hlt (c := 38) (by decide)).mpr en
    refine al_0 dX9_takesE_122 ?_
    refine il_3 dX9_takesE_123 ?_
    refine cv_1 dX9_takesE_124 mm_RX9_347 sh_116 (Nat.le_of_ble_eq_true rfl) ⟨_, rfl, rfl⟩ (Nat.le_of_ble_eq_true rfl) (Nat.le_of_ble_eq_true rfl) (M_settle (x := nx) hb hs38 (fun _ => by rw [enx]; rfl) (by rw [enx]; exact hops) hsy (by rw [hlo]; omega) (by rw [hlo]; omega) (fun m5 hm5 => ?_))
    rw [hcm] at hm5
    have h530 := hm5.2.2.2.2.2.2.1
    refine al_0 dX9_takesE_127 ?_
    refine R_getfr (r := 131) dX9_takesE_128 fl_RX9_95 rfl sh_116 (Nat.le_of_ble_eq_true rfl) rf_116_28 ?_
    refine al_0 dX9_takesE_131 ?_
    refine R_getfi dX9_takesE_132 fl_RX9_101 rfl sh_116 (Nat.le_of_ble_eq_true rfl) ?_
    refine il_3 dX9_takesE_135 ?_
    refine R_iast dX9_takesE_136 sh_131 (Nat.le_of_ble_eq_true rfl) (rn_ixe h530) (show s0.length < 101 by omega) ?_
    rw [enx]
    refine al_0 dX9_takesE_137 ?_
    refine R_dup dX9_takesE_138 rfl ?_
    refine R_getfi dX9_takesE_139 fl_RX9_101 rfl sh_116 (Nat.le_of_ble_eq_true rfl) ?_
    refine R_iconst (v := 1) dX9_takesE_142 (by decide) ?_
    refine R_iadd dX9_takesE_143 ?_
    refine R_putfi dX9_takesE_144 fl_RX9_101 rfl (Or.inl rfl) sh_116 (Nat.le_of_ble_eq_true rfl) rfl rfl ?_
    have hm6 := hm5.push (c := 38)
    rw [show rn_u m5 131 s0.length (nI 38) 116 30 + 1 = nI (s0.length + 1) by rw [rn_u_ne (show (116 : Nat) ≠ 131 by decide), h530]; exact sm_add _ 1]
    have hm7 := hm6.at (q := p + 1)
    refine R_iconst (v := 1) dX9_takesE_147 (by decide) ?_
    refine is_2 dX9_takesE_148 rfl ?_
    refine al_0 dX9_takesE_149 ?_
    refine R_dup dX9_takesE_150 rfl ?_
    refine R_getfi dX9_takesE_151 fl_RX9_68 rfl sh_116 (Nat.le_of_ble_eq_true rfl) ?_
    refine R_iconst (v := 1) dX9_takesE_154 (by decide) ?_
    refine R_iadd dX9_takesE_155 ?_
    refine R_putfi dX9_takesE_156 fl_RX9_68 rfl (Or.inl rfl) sh_116 (Nat.le_of_ble_eq_true rfl) rfl rfl ?_
    refine R_goto (tgt := 22) dX9_takesE_159 (by decide) ?_
    rw [show rn_u (rn_u m5 131 s0.length (nI 38)) 116 30 (nI (s0.length + 1)) 116 19 + 1 = nI (p + 1) by rw [show rn_u (rn_u m5 131 s0.length (nI 38)) 116 30 (nI (s0.length + 1)) 116 19 = nI p from hm5.2.2.2.2.1]; exact sm_add p 1]
    refine ih0 G d κ Q _ wi (p + 1) c (38 :: s0) _ r1 e1 hwi (by omega) (fun q hq => by rcases List.mem_cons.mp hq with w | w; omega; exact hb q w) (by simp) 0 wi hm7 rfl (by rw [List.length_cons]; omega) (by rw [List.length_cons]; omega) (fun b m v3 hm => ?_) (fun b m hm => ?_)
    · rw [if_pos b] at hr
      rw [List.replicate_zero, List.append_nil] at hm
      have hp1 := okr.2.2.1 b (Or.inl rfl)
      exact ih2 G d κ Q m wi r1.2.1 _ s0 v3 r hr hwi okr.2.1 hb hs0 hs38 r1.2.2 1 (by decide) rfl hm (by rw [List.length_append]; show _ + (_ + (0 + 1)) + _ ≤ _; omega) (by omega) h1 h0
    · rw [if_neg (fun q => by rw [b] at q; exact absurd q (by decide))] at hr
      obtain rfl := Option.some.inj hr
      exact h0 b m hm
  · rw [if_neg en] at hr
    obtain rfl := Option.some.inj hr
    exact h1 rfl mi v3 e a ha hc hsy en hz1

set_option maxHeartbeats 4000000 in
theorem L_pr4 {T : Nat → Nat} {L : Nat} {m0 : Nat → Nat → Int32} {c0 B F0 : Nat} {ml : Nat → Nat → Int64} {D : Nat → Nat} {n : Nat} (htx : TXM T L m0) (hF0 : F0 ≤ 500) (hc0 : c0 < 60) (ih0 : PR0 T L m0 c0 B F0 ml D n) (ih1 : PR1 T L m0 c0 B F0 ml D n) (ih2 : PR2 T L m0 c0 B F0 ml D n) (ih3 : PR3 T L m0 c0 B F0 ml D n) (ih4 : PR4 T L m0 c0 B F0 ml D n) : PR4 T L m0 c0 B F0 ml D (n + 1) := by
  intro G d κ Q mi wi p c s0 v3 r hr hwi hpL hb hs0 hs38 hs124 e a b ha hbb hc hsy n38 hsz hz1 h1 h0
  have hL := htx.1
  have hlt := htx.lt
  have htx1 := hsy.f.tx htx
  have hat := hsy.2.2.2.2.1
  rw [rd_4] at hr
  by_cases en : nxT T L p = 124
  · rw [if_pos en] at hr
    have l1 := nxT_lt (T := T) (p := p) (L := L) (by omega)
    obtain ⟨r1, e1, hr⟩ := bind_of hr
    have okr := rd_ok T L n 1 wi (p + 1) c r1 (by decide) (by omega) e1
    unfold okR at okr
    rw [← List.append_assoc] at hsy
    have hlc : c.length = e.length + a + b := by rw [hc]; simp only [List.length_append, List.length_replicate]
    have hlo : (List.replicate a 38 ++ List.replicate b 124).length = a + b := by rw [List.length_append, List.length_replicate, List.length_replicate]
    have hops : ∀ c ∈ List.replicate a 38 ++ List.replicate b 124, c = 38 ∨ (c = 124 ∧ ¬ (nI 124 : Int32) = 38) := fun c hc => by
      rcases List.mem_append.mp hc with q | q
      · exact Or.inl (List.mem_replicate.mp q).2
      · exact Or.inr ⟨(List.mem_replicate.mp q).2, by decide⟩
    have hcm : e ++ (List.replicate a 38 ++ List.replicate b 124).map opT = c := by rw [hc, map_opT, List.append_assoc]
    refine al_0 dX9_takesE_22 ?_
    refine cv_0 dX9_takesE_23 mm_RX9_319 sh_116 (Nat.le_of_ble_eq_true rfl) ⟨_, rfl, rfl⟩ (Nat.le_of_ble_eq_true rfl) (Nat.le_of_ble_eq_true rfl) (M_next htx1 hat hpL (nmr (fun nx hnx => ?_)))
    refine is_3 dX9_takesE_26 rfl ?_
    refine il_2 dX9_takesE_27 ?_
    refine R_if_eq (tgt := 110) dX9_takesE_28 (by decide) (fun _ => ?_) (fun q => absurd q (by decide))
    refine il_3 dX9_takesE_110 ?_
    refine R_bipush (v := 38) dX9_takesE_111 (by decide) ?_
    refine R_icmp_eq (tgt := 122) dX9_takesE_113 (by decide) (fun q => absurd q (fun q => absurd ((nxI_c hlt (c := 38) (by decide)).mp (by rw [← hnx]; exact q)) n38)) (fun c113 => ?_)
    refine il_3 dX9_takesE_116 ?_
    refine R_bipush (v := 124) dX9_takesE_117 (by decide) ?_
    refine R_icmp_ne (tgt := 162) dX9_takesE_119 (by decide) (fun q => absurd q (not_not_intro (by rw [hnx]; exact (nxI_c hlt (c := 124) (by decide)).mpr en))) (fun c119 => ?_)
    have enx : nx = nI 124 := by rw [hnx]; exact (nxI_c hlt (c := 124) (by decide)).mpr en
    refine al_0 dX9_takesE_122 ?_
    refine il_3 dX9_takesE_123 ?_
    refine cv_1 dX9_takesE_124 mm_RX9_347 sh_116 (Nat.le_of_ble_eq_true rfl) ⟨_, rfl, rfl⟩ (Nat.le_of_ble_eq_true rfl) (Nat.le_of_ble_eq_true rfl) (M_settle (x := nx) hb hs38 (fun q => absurd q hs124) (by rw [enx]; exact hops) hsy (by rw [hlo]; omega) (by rw [hlo]; omega) (fun m5 hm5 => ?_))
    rw [hcm] at hm5
    have h530 := hm5.2.2.2.2.2.2.1
    refine al_0 dX9_takesE_127 ?_
    refine R_getfr (r := 131) dX9_takesE_128 fl_RX9_95 rfl sh_116 (Nat.le_of_ble_eq_true rfl) rf_116_28 ?_
    refine al_0 dX9_takesE_131 ?_
    refine R_getfi dX9_takesE_132 fl_RX9_101 rfl sh_116 (Nat.le_of_ble_eq_true rfl) ?_
    refine il_3 dX9_takesE_135 ?_
    refine R_iast dX9_takesE_136 sh_131 (Nat.le_of_ble_eq_true rfl) (rn_ixe h530) (show s0.length < 101 by omega) ?_
    rw [enx]
    refine al_0 dX9_takesE_137 ?_
    refine R_dup dX9_takesE_138 rfl ?_
    refine R_getfi dX9_takesE_139 fl_RX9_101 rfl sh_116 (Nat.le_of_ble_eq_true rfl) ?_
    refine R_iconst (v := 1) dX9_takesE_142 (by decide) ?_
    refine R_iadd dX9_takesE_143 ?_
    refine R_putfi dX9_takesE_144 fl_RX9_101 rfl (Or.inl rfl) sh_116 (Nat.le_of_ble_eq_true rfl) rfl rfl ?_
    have hm6 := hm5.push (c := 124)
    rw [show rn_u m5 131 s0.length (nI 124) 116 30 + 1 = nI (s0.length + 1) by rw [rn_u_ne (show (116 : Nat) ≠ 131 by decide), h530]; exact sm_add _ 1]
    have hm7 := hm6.at (q := p + 1)
    refine R_iconst (v := 1) dX9_takesE_147 (by decide) ?_
    refine is_2 dX9_takesE_148 rfl ?_
    refine al_0 dX9_takesE_149 ?_
    refine R_dup dX9_takesE_150 rfl ?_
    refine R_getfi dX9_takesE_151 fl_RX9_68 rfl sh_116 (Nat.le_of_ble_eq_true rfl) ?_
    refine R_iconst (v := 1) dX9_takesE_154 (by decide) ?_
    refine R_iadd dX9_takesE_155 ?_
    refine R_putfi dX9_takesE_156 fl_RX9_68 rfl (Or.inl rfl) sh_116 (Nat.le_of_ble_eq_true rfl) rfl rfl ?_
    refine R_goto (tgt := 22) dX9_takesE_159 (by decide) ?_
    rw [show rn_u (rn_u m5 131 s0.length (nI 124)) 116 30 (nI (s0.length + 1)) 116 19 + 1 = nI (p + 1) by rw [show rn_u (rn_u m5 131 s0.length (nI 124)) 116 30 (nI (s0.length + 1)) 116 19 = nI p from hm5.2.2.2.2.1]; exact sm_add p 1]
    refine ih1 G d κ Q _ wi (p + 1) c (124 :: s0) _ r1 e1 hwi (by omega) (fun q hq => by rcases List.mem_cons.mp hq with w | w; omega; exact hb q w) (by simp) (by simp) hm7 (by rw [List.length_cons]; omega) (by rw [List.length_cons]; omega) (fun b m v3 e a ha hc hm n38 hbd => ?_) (fun b m hm => ?_)
    · rw [if_pos b] at hr
      have hp1 := okr.2.2.1 b (Or.inr (Or.inl rfl))
      exact ih4 G d κ Q m wi r1.2.1 _ s0 v3 r hr hwi okr.2.1 hb hs0 hs38 hs124 e a 1 ha (by decide) (by rw [hc]; rfl) hm n38 (by rw [List.length_append]; show _ + (_ + (0 + 1)) + _ ≤ _; omega) (by omega) h1 h0
    · rw [if_neg (fun q => by rw [b] at q; exact absurd q (by decide))] at hr
      obtain rfl := Option.some.inj hr
      exact h0 b m hm
  · rw [if_neg en] at hr
    obtain rfl := Option.some.inj hr
    exact h1 rfl mi v3 e a b ha hbb hc hsy n38 en hz1

theorem pr_all {T : Nat → Nat} {L : Nat} {m0 : Nat → Nat → Int32} {c0 B F0 : Nat} {ml : Nat → Nat → Int64} {D : Nat → Nat} (htx : TXM T L m0) (hF0 : F0 ≤ 500) (hc0 : c0 < 60) : ∀ n, PR0 T L m0 c0 B F0 ml D n ∧ PR1 T L m0 c0 B F0 ml D n ∧ PR2 T L m0 c0 B F0 ml D n ∧ PR3 T L m0 c0 B F0 ml D n ∧ PR4 T L m0 c0 B F0 ml D n
  | 0 => ⟨fun _ _ _ _ _ _ _ _ _ _ _ h => absurd h (by simp [rd]), fun _ _ _ _ _ _ _ _ _ _ _ h => absurd h (by simp [rd]), fun _ _ _ _ _ _ _ _ _ _ _ h => absurd h (by simp [rd]), fun _ _ _ _ _ _ _ _ _ _ _ h => absurd h (by simp [rd]), fun _ _ _ _ _ _ _ _ _ _ _ h => absurd h (by simp [rd])⟩
  | n + 1 => by
    obtain ⟨i0, i1, i2, i3, i4⟩ := pr_all htx hF0 hc0 n
    exact ⟨L_pr0 htx hF0 hc0 i0 i1 i2 i3 i4, L_pr1 htx hF0 hc0 i0 i1 i2 i3 i4, L_pr2 htx hF0 hc0 i0 i1 i2 i3 i4, L_pr3 htx hF0 hc0 i0 i1 i2 i3 i4, L_pr4 htx hF0 hc0 i0 i1 i2 i3 i4⟩
