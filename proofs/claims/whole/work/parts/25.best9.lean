/-! the reference: rounds that are begun otherwise; the best of all -/
set_option maxHeartbeats 4000000 in
theorem L_firstIn {G : rn_G} {d : Nat} {κ : Nat × Nat} {Q : Option Value → rn_S → Prop} {mi : Nat → Nat → Int32} {ml : Nat → Nat → Int64} {D : Nat → Nat} {R K : Nat} (hR : mi 116 8 = nI R) (hR6 : R ≤ 6) (hK : K < R) {z bs le : Int32} (hz : z = nI K) (h : ∀ m x, (∀ a, a ≠ 123 → m a = mi a) → (∀ j, j < R → m 123 j = mi 137 ((j + K) % R)) → Run G d M_X9_firstOf 58 [.ref 116, .int bs, .int le, .int z, .int x] [] (m, ml, RF D, 164) κ Q) : ∀ (n i : Nat) (x : Int32) (m : Nat → Nat → Int32), n + i = R → x = nI i → (∀ a, a ≠ 123 → m a = mi a) → (∀ j, j < i → m 123 j = mi 137 ((j + K) % R)) → Run G d M_X9_firstOf 22 [.ref 116, .int bs, .int le, .int z, .int x] [] (m, ml, RF D, 164) κ Q := by
  intro n
  induction n with
  | zero =>
    intro i x m hni hx h1 h2
    have e8 : m 116 8 = nI R := by rw [h1 116 (by decide)]; exact hR
    obtain rfl : i = R := by omega
    refine il_4 dX9_firstOf_22 ?_
    refine al_0 dX9_firstOf_24 ?_
    refine R_getfi dX9_firstOf_25 fl_RX9_34 rfl sh_116 (Nat.le_of_ble_eq_true rfl) ?_
    refine R_icmp_ge (tgt := 58) dX9_firstOf_28 (by decide) (fun c28 => ?_) (fun q => absurd q (not_not_intro (by rw [e8, hx]; exact nI_le (by omega) (by omega))))
    exact h m x h1 h2
  | succ n ih =>
    intro i x m hni hx h1 h2
    have e8 : m 116 8 = nI R := by rw [h1 116 (by decide)]; exact hR
    have hi : i < 6 := by omega
    have hr0 : ¬ m 116 8 = 0 := by rw [e8]; exact fun q => by have := sm_inj (b := 0) (by omega) (by decide) q; omega
    have hrem : x + z - (x + z) / m 116 8 * m 116 8 = nI ((i + K) % R) := by
      rw [e8, hx, hz, sm_add]
      exact sm_rem (by omega) (by omega)
    have hrl : (i + K) % R < 6 := Nat.lt_of_lt_of_le (Nat.mod_lt _ (by omega)) hR6
    refine il_4 dX9_firstOf_22 ?_
    refine al_0 dX9_firstOf_24 ?_
    refine R_getfi dX9_firstOf_25 fl_RX9_34 rfl sh_116 (Nat.le_of_ble_eq_true rfl) ?_
    refine R_icmp_ge (tgt := 58) dX9_firstOf_28 (by decide) (fun q => absurd q (by rw [e8, hx]; exact nI_ge (by omega) (by omega))) (fun c28 => ?_)
    refine al_0 dX9_firstOf_31 ?_
    refine R_getfr (r := 123) dX9_firstOf_32 fl_RX9_56 rfl sh_116 (Nat.le_of_ble_eq_true rfl) rf_116_15 ?_
    refine il_4 dX9_firstOf_35 ?_
    refine al_0 dX9_firstOf_37 ?_
    refine R_getfr (r := 137) dX9_firstOf_38 fl_RX9_156 rfl sh_116 (Nat.le_of_ble_eq_true rfl) rf_116_48 ?_
    refine il_4 dX9_firstOf_41 ?_
    refine il_3 dX9_firstOf_43 ?_
    refine R_iadd dX9_firstOf_44 ?_
    refine al_0 dX9_firstOf_45 ?_
    refine R_getfi dX9_firstOf_46 fl_RX9_34 rfl sh_116 (Nat.le_of_ble_eq_true rfl) ?_
    refine R_irem dX9_firstOf_49 hr0 ?_
    refine R_iald dX9_firstOf_50 sh_137 (Nat.le_of_ble_eq_true rfl) (rn_ixe hrem) hrl ?_
    refine R_iast dX9_firstOf_51 sh_123 (Nat.le_of_ble_eq_true rfl) (rn_ixe hx) hi ?_
    refine ii_4 (v := _ + 1) dX9_firstOf_52 rfl (by rfl) ?_
    refine R_goto (tgt := 22) dX9_firstOf_55 (by decide) ?_
    refine ih (i + 1) _ _ (by omega) (by rw [hx]; exact sm_add i 1) (fun a ha => by rw [rn_u_ne ha]; exact h1 a ha) (fun j hj => ?_)
    by_cases e : j = i
    · subst e; simp only [rn_u, and_self, if_true]; rw [h1 137 (by decide)]
    · simp only [rn_u, e, and_false, if_false]; exact h2 j (by omega)

theorem left_lt7 {er : (Nat → Int32) → Int32} {T : Nat} {w : WD} (hw : WJ T w) (hT : T + 60 < 2 ^ 30) : leftW er w < 7 := by
  have h := hw.mins (er := er) 60 T w hT
  obtain ⟨N, P, R, hN, hP, hR, h0, h2, -⟩ := h
  unfold leftW
  rw [ins_cnt h2 hP]
  have := cntZ_le (fun i => (minsW er 60 w).2.2.2 i 5) P
  exact (sm_lt_iff (b := 7) (by omega) (by decide)).mpr (by omega)
theorem left_ge0 {er : (Nat → Int32) → Int32} {T : Nat} {w : WD} (hw : WJ T w) (hT : T + 60 < 2 ^ 30) : 0 ≤ leftW er w := by
  have h := hw.mins (er := er) 60 T w hT
  obtain ⟨N, P, R, hN, hP, hR, h0, h2, -⟩ := h
  unfold leftW
  rw [ins_cnt h2 hP]
  have := cntZ_le (fun i => (minsW er 60 w).2.2.2 i 5) P
  exact Int32.not_lt.mp (nI_pos (by omega))

set_option maxHeartbeats 4000000 in
theorem L_firstOf {G : rn_G} {d : Nat} {κ : Nat × Nat} {Q : Option Value → rn_S → Prop} {mi : Nat → Nat → Int32} {ml : Nat → Nat → Int64} {D : Nat → Nat} {T : Nat} {cl : CL} {w : WD} (hB : MB mi cl w) (hw : WJ T w) (hT : T + 200 < 2 ^ 30) {R : Nat} (hR : mi 116 8 = nI R) (hR6 : R ≤ 6) (V : Int32) (h : ∀ m, ME mi m → Q (some (.int V)) (m, ml, RF D, 164)) : ∀ (n i : Nat) (x bs le : Int32) (v4 : Value) (m : Nat → Nat → Int32), n + i = R → x = nI i → ME mi m → ((i = 0 ∧ bs = -5 ∧ blF (fun c => leftW (erA cl) (firstW c w)) (List.range' i n) (-5) 7 = V) ∨ (0 ≤ bs ∧ blF (fun c => leftW (erA cl) (firstW c w)) (List.range' i n) bs le = V)) → Run G (d + 9) M_X9_firstOf 7 [.ref 116, .int bs, .int le, .int x, v4] [] (m, ml, RF D, 164) κ Q := by
  intro n
  induction n with
  | zero =>
    intro i x bs le v4 m hni hx hm hV
    have hV0 : bs = V := by
      rcases hV with ⟨-, e, q⟩ | ⟨-, q⟩
      · rw [e]; exact q
      · exact q
    have e8 : m 116 8 = nI R := by rw [hm.2.1 8 (by omega)]; exact hR
    have hiN : i = R := by omega
    refine il_3 dX9_firstOf_7 ?_
    refine al_0 dX9_firstOf_8 ?_
    refine R_getfi dX9_firstOf_9 fl_RX9_34 rfl sh_116 (Nat.le_of_ble_eq_true rfl) ?_
    refine R_icmp_ge (tgt := 93) dX9_firstOf_12 (by decide) (fun c12 => ?_) (fun q => absurd q (not_not_intro (by rw [e8, hx]; exact nI_le (by omega) (by omega))))
    refine il_1 dX9_firstOf_93 ?_
    refine R_ireturn dX9_firstOf_94 ⟨_, rfl, rfl⟩ ?_
    rw [hV0]
    exact h m hm
  | succ n ih =>
    intro i x bs le v4 m hni hx hm hV
    have hBm := hB.me hw hm
    have e8 : m 116 8 = nI R := by rw [hm.2.1 8 (by omega)]; exact hR
    have h4 : w.1 4 = nI R := by rw [← hB.2.1]; exact hR
    rw [List.range'_succ] at hV
    unfold blF at hV
    refine il_3 dX9_firstOf_7 ?_
    refine al_0 dX9_firstOf_8 ?_
    refine R_getfi dX9_firstOf_9 fl_RX9_34 rfl sh_116 (Nat.le_of_ble_eq_true rfl) ?_
    refine R_icmp_ge (tgt := 93) dX9_firstOf_12 (by decide) (fun q => absurd q (by rw [e8, hx]; exact nI_ge (by omega) (by omega))) (fun c12 => ?_)
    refine al_0 dX9_firstOf_15 ?_
    refine cv_0 dX9_firstOf_16 mm_RX9_424 sh_116 (Nat.le_of_ble_eq_true rfl) ⟨_, rfl, rfl⟩ (Nat.le_of_ble_eq_true rfl) (Nat.le_of_ble_eq_true rfl) (M_save (fun ms g1 g2 g3 => ?_))
    obtain ⟨htr, gf, ga⟩ := save_tr hBm hw g1 g2 g3
    refine R_iconst (v := 0) dX9_firstOf_19 (by decide) ?_
    refine is_4 dX9_firstOf_20 rfl ?_
    have es8 : ms 116 8 = nI R := by rw [gf 8 (by omega)]; exact e8
    refine L_firstIn es8 hR6 (show i < R by omega) hx (fun mt x4 t1 t2 => ?_) R 0 0 ms (by omega) nI_0.symm (fun _ _ => rfl) (fun j hj => absurd hj (Nat.not_lt_zero j))
    have hft : TR m (rn_u mt 116 7 0) cl (firstW i w) := by
      have q := (htr.tour (r := (firstW i w).2.2.1) t1 (fun j => ?_)).up (f := 7) (k := 5) (v := 0) (by omega)
      · exact q
      · show (if j < nn (ms 116 8) then mt 123 j else 0) = (if j < nn (w.1 4) then w.2.2.1 ((j + i) % nn (w.1 4)) else 0)
        rw [es8, h4, nnI (by omega)]
        by_cases hj : j < R
        · rw [if_pos hj, if_pos hj, t2 j hj, (g3.2 _ (Nat.lt_of_lt_of_le (Nat.mod_lt _ (by omega)) hR6)).2.2, ← hBm.2.1, wM_r e8 hR6 (Nat.mod_lt _ (by omega))]
        · rw [if_neg hj, if_neg hj]
    refine al_0 dX9_firstOf_58 ?_
    refine R_iconst (v := 0) dX9_firstOf_59 (by decide) ?_
    refine R_putfi dX9_firstOf_60 fl_RX9_31 rfl (Or.inl rfl) sh_116 (Nat.le_of_ble_eq_true rfl) rfl rfl ?_
    refine al_0 dX9_firstOf_63 ?_
    refine cv_0 dX9_firstOf_64 mm_RX9_436 sh_116 (Nat.le_of_ble_eq_true rfl) ⟨_, rfl, rfl⟩ (Nat.le_of_ble_eq_true rfl) (Nat.le_of_ble_eq_true rfl) (M_leftThen (T := T) (w := firstW i w) hBm hft hw.first (by omega) (fun m4 hm4 => nmr (fun yy hyy => ?_)))
    have hyy := hyy.symm
    refine is_4 dX9_firstOf_67 rfl ?_
    refine il_1 dX9_firstOf_69 ?_
    refine R_if_lt (tgt := 82) dX9_firstOf_70 (by decide) (fun c70 => ?_) (fun c70 => ?_)
    · refine il_3 dX9_firstOf_82 ?_
      refine is_1 dX9_firstOf_83 rfl ?_
      refine il_4 dX9_firstOf_84 ?_
      refine is_2 dX9_firstOf_86 rfl ?_
      refine ii_3 (v := _ + 1) dX9_firstOf_87 rfl (by rfl) ?_
      refine R_goto (tgt := 7) dX9_firstOf_90 (by decide) ?_
      rw [hyy] at hV
      refine ih (i + 1) _ _ _ _ m4 (by omega) (by rw [hx]; exact sm_add i 1) (hm.trans hm4) (Or.inr ?_)
      rcases hV with ⟨-, e, q⟩ | ⟨e, q⟩
      · rw [if_pos (by rw [← hyy]; exact left_lt7 hw.first (by omega)), ← hx] at q
        first
        | exact ⟨by rw [hx]; exact Int32.not_lt.mp (nI_pos (by omega)), q⟩
        | exact absurd c70 (by rw [e]; decide)
      · first
        | exact absurd e (Int32.not_le.mpr c70)
        | (rw [if_pos c76, ← hx] at q; exact ⟨by rw [hx]; exact Int32.not_lt.mp (nI_pos (by omega)), q⟩)
        | (rw [if_neg c76] at q; exact ⟨e, q⟩)
    · refine il_4 dX9_firstOf_73 ?_
      refine il_2 dX9_firstOf_75 ?_
      refine R_icmp_lt (tgt := 82) dX9_firstOf_76 (by decide) (fun c76 => ?_) (fun c76 => ?_)
      · refine il_3 dX9_firstOf_82 ?_
        refine is_1 dX9_firstOf_83 rfl ?_
        refine il_4 dX9_firstOf_84 ?_
        refine is_2 dX9_firstOf_86 rfl ?_
        refine ii_3 (v := _ + 1) dX9_firstOf_87 rfl (by rfl) ?_
        refine R_goto (tgt := 7) dX9_firstOf_90 (by decide) ?_
        rw [hyy] at hV
        refine ih (i + 1) _ _ _ _ m4 (by omega) (by rw [hx]; exact sm_add i 1) (hm.trans hm4) (Or.inr ?_)
        rcases hV with ⟨-, e, q⟩ | ⟨e, q⟩
        · rw [if_pos (by rw [← hyy]; exact left_lt7 hw.first (by omega)), ← hx] at q
          first
          | exact ⟨by rw [hx]; exact Int32.not_lt.mp (nI_pos (by omega)), q⟩
          | exact absurd c70 (by rw [e]; decide)
        · first
          | exact absurd e (Int32.not_le.mpr c70)
          | (rw [if_pos c76, ← hx] at q; exact ⟨by rw [hx]; exact Int32.not_lt.mp (nI_pos (by omega)), q⟩)
          | (rw [if_neg c76] at q; exact ⟨e, q⟩)
      · refine R_goto (tgt := 87) dX9_firstOf_79 (by decide) ?_
        refine ii_3 (v := _ + 1) dX9_firstOf_87 rfl (by rfl) ?_
        refine R_goto (tgt := 7) dX9_firstOf_90 (by decide) ?_
        rw [hyy] at hV
        refine ih (i + 1) _ _ _ _ m4 (by omega) (by rw [hx]; exact sm_add i 1) (hm.trans hm4) (Or.inr ?_)
        rcases hV with ⟨-, e, q⟩ | ⟨e, q⟩
        · rw [if_pos (by rw [← hyy]; exact left_lt7 hw.first (by omega)), ← hx] at q
          first
          | exact ⟨by rw [hx]; exact Int32.not_lt.mp (nI_pos (by omega)), q⟩
          | exact absurd c70 (by rw [e]; decide)
        · first
          | exact absurd e (Int32.not_le.mpr c70)
          | (rw [if_pos c76, ← hx] at q; exact ⟨by rw [hx]; exact Int32.not_lt.mp (nI_pos (by omega)), q⟩)
          | (rw [if_neg c76] at q; exact ⟨e, q⟩)

set_option maxHeartbeats 4000000 in
theorem M_firstOf {G : rn_G} {d : Nat} {κ : Nat × Nat} {Q : Option Value → rn_S → Prop} {mi : Nat → Nat → Int32} {ml : Nat → Nat → Int64} {D : Nat → Nat} {T : Nat} {cl : CL} {w : WD} (hB : MB mi cl w) (hw : WJ T w) (hT : T + 200 < 2 ^ 30) {R : Nat} (hR : mi 116 8 = nI R) (hR6 : R ≤ 6) (h : ∀ m, ME mi m → Q (some (.int (blF (fun c => leftW (erA cl) (firstW c w)) (List.range' 0 R) (-5) 7))) (m, ml, RF D, 164)) : Call G (d + 9) M_X9_firstOf [.ref 116] (mi, ml, RF D, 164) κ Q := by
  show Run G _ M_X9_firstOf 0 [.ref 116, .null, .null, .null, .null] [] _ _ _
  refine R_bipush (v := -5) dX9_firstOf_0 (by decide) ?_
  refine is_1 dX9_firstOf_2 rfl ?_
  refine R_iconst (v := 0) dX9_firstOf_3 (by decide) ?_
  refine is_2 dX9_firstOf_4 rfl ?_
  refine R_iconst (v := 0) dX9_firstOf_5 (by decide) ?_
  refine is_3 dX9_firstOf_6 rfl ?_
  exact L_firstOf hB hw hT hR hR6 _ h R 0 0 (-5) 0 _ mi (by omega) nI_0.symm (ME.refl mi) (Or.inl ⟨rfl, rfl, rfl⟩)

def swI (a b k : Nat) : List Nat := (List.range' b k).map (fun b => 10 * a + b)
def swO (R a : Nat) : Nat → List Nat
  | 0 => []
  | n + 1 => swI a (a + 1) (R - (a + 1)) ++ swO R (a + 1) n
theorem swI_succ (a b k : Nat) : swI a b (k + 1) = (10 * a + b) :: swI a (b + 1) k := by
  unfold swI
  rw [List.range'_succ]
  rfl

set_option maxHeartbeats 4000000 in
theorem L_swapIn {G : rn_G} {d : Nat} {κ : Nat × Nat} {Q : Option Value → rn_S → Prop} {mi : Nat → Nat → Int32} {ml : Nat → Nat → Int64} {D : Nat → Nat} {T : Nat} {cl : CL} {w : WD} (hB : MB mi cl w) (hw : WJ T w) (hT : T + 200 < 2 ^ 30) {R : Nat} (hR : mi 116 8 = nI R) (hR6 : R ≤ 6) {ai : Nat} {z : Int32} (hz : z = nI ai) (V : Int32) (rest : List Nat) (h : ∀ bs le m x v5, ME mi m → blF (fun c => leftW (erA cl) (swapW (c / 10) (c % 10) w)) rest bs le = V → Run G (d + 9) M_X9_swapOf 94 [.ref 116, .int bs, .int le, .int z, .int x, v5] [] (m, ml, RF D, 164) κ Q) : ∀ (k b : Nat) (x bs le : Int32) (v5 : Value) (m : Nat → Nat → Int32), b + k = R → ai < b → x = nI b → ME mi m → blF (fun c => leftW (erA cl) (swapW (c / 10) (c % 10) w)) (swI ai b k ++ rest) bs le = V → Run G (d + 9) M_X9_swapOf 23 [.ref 116, .int bs, .int le, .int z, .int x, v5] [] (m, ml, RF D, 164) κ Q := by
  intro k
  induction k with
  | zero =>
    intro b x bs le v5 m hni hab hx hm hV
    have e8 : m 116 8 = nI R := by rw [hm.2.1 8 (by omega)]; exact hR
    have hbR : b = R := by omega
    refine il_4 dX9_swapOf_23 ?_
    refine al_0 dX9_swapOf_25 ?_
    refine R_getfi dX9_swapOf_26 fl_RX9_34 rfl sh_116 (Nat.le_of_ble_eq_true rfl) ?_
    refine R_icmp_ge (tgt := 94) dX9_swapOf_29 (by decide) (fun c29 => ?_) (fun q => absurd q (not_not_intro (by rw [e8, hx]; exact nI_le (by omega) (by omega))))
    exact h bs le m x v5 hm hV
  | succ k ih =>
    intro b x bs le v5 m hni hab hx hm hV
    have hBm := hB.me hw hm
    have e8 : m 116 8 = nI R := by rw [hm.2.1 8 (by omega)]; exact hR
    have h4 : w.1 4 = nI R := by rw [← hB.2.1]; exact hR
    have hb6 : b < 6 := by omega
    have ha6 : ai < 6 := by omega
    rw [swI_succ, List.cons_append] at hV
    unfold blF at hV
    have d1 : (10 * ai + b) / 10 = ai := by omega
    have d2 : (10 * ai + b) % 10 = b := by omega
    rw [d1, d2] at hV
    refine il_4 dX9_swapOf_23 ?_
    refine al_0 dX9_swapOf_25 ?_
    refine R_getfi dX9_swapOf_26 fl_RX9_34 rfl sh_116 (Nat.le_of_ble_eq_true rfl) ?_
    refine R_icmp_ge (tgt := 94) dX9_swapOf_29 (by decide) (fun q => absurd q (by rw [e8, hx]; exact nI_ge (by omega) (by omega))) (fun c29 => ?_)
    refine al_0 dX9_swapOf_32 ?_
    refine cv_0 dX9_swapOf_33 mm_RX9_424 sh_116 (Nat.le_of_ble_eq_true rfl) ⟨_, rfl, rfl⟩ (Nat.le_of_ble_eq_true rfl) (Nat.le_of_ble_eq_true rfl) (M_save (fun ms g1 g2 g3 => ?_))
    obtain ⟨htr, gf, ga⟩ := save_tr hBm hw g1 g2 g3
    refine al_0 dX9_swapOf_36 ?_
    refine R_getfr (r := 123) dX9_swapOf_37 fl_RX9_56 rfl sh_116 (Nat.le_of_ble_eq_true rfl) rf_116_15 ?_
    refine il_3 dX9_swapOf_40 ?_
    refine al_0 dX9_swapOf_41 ?_
    refine R_getfr (r := 137) dX9_swapOf_42 fl_RX9_156 rfl sh_116 (Nat.le_of_ble_eq_true rfl) rf_116_48 ?_
    refine il_4 dX9_swapOf_45 ?_
    refine R_iald dX9_swapOf_47 sh_137 (Nat.le_of_ble_eq_true rfl) (rn_ixe hx) hb6 ?_
    refine R_iast dX9_swapOf_48 sh_123 (Nat.le_of_ble_eq_true rfl) (rn_ixe hz) ha6 ?_
    refine al_0 dX9_swapOf_49 ?_
    refine R_getfr (r := 123) dX9_swapOf_50 fl_RX9_56 rfl sh_116 (Nat.le_of_ble_eq_true rfl) rf_116_15 ?_
    refine il_4 dX9_swapOf_53 ?_
    refine al_0 dX9_swapOf_55 ?_
    refine R_getfr (r := 137) dX9_swapOf_56 fl_RX9_156 rfl sh_116 (Nat.le_of_ble_eq_true rfl) rf_116_48 ?_
    refine il_3 dX9_swapOf_59 ?_
    refine R_iald dX9_swapOf_60 sh_137 (Nat.le_of_ble_eq_true rfl) (rn_ixe hz) ha6 ?_
    refine R_iast dX9_swapOf_61 sh_123 (Nat.le_of_ble_eq_true rfl) (rn_ixe hx) hb6 ?_
    have hft : TR m (rn_u (rn_u ms 123 ai (ms 137 b)) 123 b (rn_u ms 123 ai (ms 137 b) 137 ai)) cl (swapW ai b w) := by
      refine htr.tour (r := (swapW ai b w).2.2.1) (fun a ha => by rw [rn_u_ne ha, rn_u_ne ha]) (fun j => ?_)
      rw [rn_u_ne (show (137 : Nat) ≠ 123 by decide)]
      have kb := (g3.2 b hb6).2.2
      have ka := (g3.2 ai ha6).2.2
      have r : ∀ j, j < R → w.2.2.1 j = m 123 j := fun j hj => by rw [← hBm.2.1]; exact wM_r e8 hR6 hj
      have r0 : ∀ j, R ≤ j → w.2.2.1 j = 0 := fun j hj => by
        rw [← hBm.2.1]
        show (if j < nn (m 116 8) then m 123 j else 0) = 0
        rw [e8, nnI (by omega), if_neg (by omega)]
      show (if j < nn (ms 116 8) then _ else 0) = (if j = b then w.2.2.1 ai else if j = ai then w.2.2.1 b else w.2.2.1 j)
      rw [gf 8 (by omega), e8, nnI (by omega), ka, kb, r ai (by omega), r b (by omega)]
      by_cases hj : j < R
      · rw [if_pos hj, r j hj]
        by_cases h1 : j = b
        · subst h1; simp [rn_u]
        · by_cases h2 : j = ai
          · subst h2; simp [rn_u, h1]
          · simp only [rn_u, h1, h2, and_false, if_false]; rw [ga 123 (by decide) (by decide)]
      · rw [if_neg hj, if_neg (by omega), if_neg (by omega), r0 j (by omega)]
    refine al_0 dX9_swapOf_62 ?_
    refine cv_0 dX9_swapOf_63 mm_RX9_436 sh_116 (Nat.le_of_ble_eq_true rfl) ⟨_, rfl, rfl⟩ (Nat.le_of_ble_eq_true rfl) (Nat.le_of_ble_eq_true rfl) (M_leftThen (T := T) (w := swapW ai b w) hBm hft (hw.swp h4 hR6 (by omega) (by omega)) (by omega) (fun m4 hm4 => nmr (fun yy hyy => ?_)))
    have hyy := hyy.symm
    refine is_5 dX9_swapOf_66 rfl ?_
    refine il_5 dX9_swapOf_68 ?_
    refine il_2 dX9_swapOf_70 ?_
    refine R_icmp_lt (tgt := 77) dX9_swapOf_71 (by decide) (fun c71 => ?_) (fun c71 => ?_)
    · refine R_bipush (v := 10) dX9_swapOf_77 (by decide) ?_
      refine il_3 dX9_swapOf_79 ?_
      refine R_imul dX9_swapOf_80 ?_
      refine il_4 dX9_swapOf_81 ?_
      refine R_iadd dX9_swapOf_83 ?_
      refine is_1 dX9_swapOf_84 rfl ?_
      refine il_5 dX9_swapOf_85 ?_
      refine is_2 dX9_swapOf_87 rfl ?_
      refine ii_4 (v := _ + 1) dX9_swapOf_88 rfl (by rfl) ?_
      refine R_goto (tgt := 23) dX9_swapOf_91 (by decide) ?_
      rw [hyy] at hV
      refine ih (b + 1) _ _ _ _ m4 (by omega) (by omega) (by rw [hx]; exact sm_add b 1) (hm.trans hm4) ?_
      have ec : 10 * z + x = nI (10 * ai + b) := by rw [hz, hx, show (10 : Int32) = nI 10 from rfl, sm_mul, sm_add]
      first
        | (rw [if_pos c71, ← ec] at hV; exact hV)
        | (rw [if_neg c71] at hV; exact hV)
    · refine R_goto (tgt := 88) dX9_swapOf_74 (by decide) ?_
      refine ii_4 (v := _ + 1) dX9_swapOf_88 rfl (by rfl) ?_
      refine R_goto (tgt := 23) dX9_swapOf_91 (by decide) ?_
      rw [hyy] at hV
      refine ih (b + 1) _ _ _ _ m4 (by omega) (by omega) (by rw [hx]; exact sm_add b 1) (hm.trans hm4) ?_
      have ec : 10 * z + x = nI (10 * ai + b) := by rw [hz, hx, show (10 : Int32) = nI 10 from rfl, sm_mul, sm_add]
      first
        | (rw [if_pos c71, ← ec] at hV; exact hV)
        | (rw [if_neg c71] at hV; exact hV)

set_option maxHeartbeats 4000000 in
theorem L_swapOf {G : rn_G} {d : Nat} {κ : Nat × Nat} {Q : Option Value → rn_S → Prop} {mi : Nat → Nat → Int32} {ml : Nat → Nat → Int64} {D : Nat → Nat} {T : Nat} {cl : CL} {w : WD} (hB : MB mi cl w) (hw : WJ T w) (hT : T + 200 < 2 ^ 30) {R : Nat} (hR : mi 116 8 = nI R) (hR6 : R ≤ 6) (V : Int32) (h : ∀ m, ME mi m → Q (some (.int V)) (m, ml, RF D, 164)) : ∀ (n a : Nat) (z bs le : Int32) (v4 v5 : Value) (m : Nat → Nat → Int32), n + a = R → z = nI a → ME mi m → blF (fun c => leftW (erA cl) (swapW (c / 10) (c % 10) w)) (swO R a n) bs le = V → Run G (d + 9) M_X9_swapOf 10 [.ref 116, .int bs, .int le, .int z, v4, v5] [] (m, ml, RF D, 164) κ Q := by
  intro n
  induction n with
  | zero =>
    intro a z bs le v4 v5 m hni hz hm hV
    have hV0 : bs = V := hV
    have e8 : m 116 8 = nI R := by rw [hm.2.1 8 (by omega)]; exact hR
    have haR : a = R := by omega
    refine il_3 dX9_swapOf_10 ?_
    refine al_0 dX9_swapOf_11 ?_
    refine R_getfi dX9_swapOf_12 fl_RX9_34 rfl sh_116 (Nat.le_of_ble_eq_true rfl) ?_
    refine R_icmp_ge (tgt := 100) dX9_swapOf_15 (by decide) (fun c15 => ?_) (fun q => absurd q (not_not_intro (by rw [e8, hz]; exact nI_le (by omega) (by omega))))
    refine il_1 dX9_swapOf_100 ?_
    refine R_ireturn dX9_swapOf_101 ⟨_, rfl, rfl⟩ ?_
    rw [hV0]
    exact h m hm
  | succ n ih =>
    intro a z bs le v4 v5 m hni hz hm hV
    have e8 : m 116 8 = nI R := by rw [hm.2.1 8 (by omega)]; exact hR
    refine il_3 dX9_swapOf_10 ?_
    refine al_0 dX9_swapOf_11 ?_
    refine R_getfi dX9_swapOf_12 fl_RX9_34 rfl sh_116 (Nat.le_of_ble_eq_true rfl) ?_
    refine R_icmp_ge (tgt := 100) dX9_swapOf_15 (by decide) (fun q => absurd q (by rw [e8, hz]; exact nI_ge (by omega) (by omega))) (fun c15 => ?_)
    refine il_3 dX9_swapOf_18 ?_
    refine R_iconst (v := 1) dX9_swapOf_19 (by decide) ?_
    refine R_iadd dX9_swapOf_20 ?_
    refine is_4 dX9_swapOf_21 rfl ?_
    refine L_swapIn hB hw hT hR hR6 hz V (swO R (a + 1) n) (fun bs2 le2 m2 x2 v5 hm2 hV2 => ?_) (R - (a + 1)) (a + 1) _ _ _ _ m (by omega) (by omega) (by rw [hz]; exact sm_add a 1) hm hV
    refine ii_3 (v := _ + 1) dX9_swapOf_94 rfl (by rfl) ?_
    refine R_goto (tgt := 10) dX9_swapOf_97 (by decide) ?_
    exact ih (a + 1) _ _ _ _ _ m2 (by omega) (by rw [hz]; exact sm_add a 1) hm2 hV2

set_option maxHeartbeats 4000000 in
theorem M_swapOf {G : rn_G} {d : Nat} {κ : Nat × Nat} {Q : Option Value → rn_S → Prop} {mi : Nat → Nat → Int32} {ml : Nat → Nat → Int64} {D : Nat → Nat} {T : Nat} {cl : CL} {w : WD} (hB : MB mi cl w) (hw : WJ T w) (hT : T + 200 < 2 ^ 30) {R : Nat} (hR : mi 116 8 = nI R) (hR6 : R ≤ 6) (h : ∀ m, ME mi m → Q (some (.int (blF (fun c => leftW (erA cl) (swapW (c / 10) (c % 10) w)) (swO R 0 R) (-5) (leftW (erA cl) w)))) (m, ml, RF D, 164)) : Call G (d + 10) M_X9_swapOf [.ref 116] (mi, ml, RF D, 164) κ Q := by
  show Run G _ M_X9_swapOf 0 [.ref 116, .null, .null, .null, .null, .null] [] _ _ _
  refine R_bipush (v := -5) dX9_swapOf_0 (by decide) ?_
  refine is_1 dX9_swapOf_2 rfl ?_
  refine al_0 dX9_swapOf_3 ?_
  refine cv_0 dX9_swapOf_4 mm_RX9_439 sh_116 (Nat.le_of_ble_eq_true rfl) ⟨_, rfl, rfl⟩ (Nat.le_of_ble_eq_true rfl) (Nat.le_of_ble_eq_true rfl) (M_left hB hw (by omega) (fun m1 hm1 => ?_))
  refine is_2 dX9_swapOf_7 rfl ?_
  refine R_iconst (v := 0) dX9_swapOf_8 (by decide) ?_
  refine is_3 dX9_swapOf_9 rfl ?_
  exact L_swapOf hB hw hT hR hR6 _ h R 0 0 (-5) _ _ _ m1 (by omega) nI_0.symm hm1 rfl

/-- the answers to 'best' -/
noncomputable def bestA (cl : CL) (w : WD) (x : Int32) : Int32 :=
  if x = 0 then blF (fun c => leftW (erA cl) (firstW c w)) (List.range' 0 (nn (w.1 4))) (-5) 7
  else if x = 1 then blF (fun c => leftW (erA cl) (swapW (c / 10) (c % 10) w)) (swO (nn (w.1 4)) 0 (nn (w.1 4))) (-5) (leftW (erA cl) w)
  else if x = 2 then blF (fun c => leftW (erA cl) (upS w 7 (nI c))) (List.range' 1 9) 0 7
  else if x = 3 then blF (fun c => leftW (erA cl) (upS w 8 (nI c))) (List.range' 0 16) 0 7
  else if x = 4 then blF (fun c => leftW (erA cl) (openW (nI c) w)) (List.range' 0 (nn (w.1 0))) (-5) (leftW (erA cl) w)
  else if x = 5 then leftW (erA cl) w
  else -1

set_option maxHeartbeats 4000000 in
theorem M_best {G : rn_G} {d : Nat} {κ : Nat × Nat} {Q : Option Value → rn_S → Prop} {mi : Nat → Nat → Int32} {ml : Nat → Nat → Int64} {D : Nat → Nat} {x : Int32} {T : Nat} {cl : CL} {w : WD} (hB : MB mi cl w) (hw : WJ T w) (hT : T + 200 < 2 ^ 30) {R : Nat} (hR : mi 116 8 = nI R) (hR6 : R ≤ 6) {N : Nat} (hN : mi 116 0 = nI N) (hN6 : N ≤ 6) (h : ∀ m, ME mi m → Q (some (.int (bestA cl w x))) (m, ml, RF D, 164)) : Call G (d + 11) M_X9_best [.ref 116, .int x] (mi, ml, RF D, 164) κ Q := by
  show Run G _ M_X9_best 0 [.ref 116, .int x] [] _ _ _
  unfold bestA at h
  rw [show nn (w.1 4) = R from by rw [← hB.2.1]; show nn (mi 116 8) = R; rw [hR]; exact nnI (by omega), show nn (w.1 0) = N from by rw [← hB.2.1]; show nn (mi 116 0) = N; rw [hN]; exact nnI (by omega)] at h
  refine il_1 dX9_best_0 ?_
  by_cases w1_0 : x = 0
  · refine R_tswI (tgt := 40) dX9_best_1 0 w1_0 (by decide) (by decide) rfl (by decide) ?_
    refine al_0 dX9_best_40 ?_
    refine cv_0 dX9_best_41 mm_RX9_442 sh_116 (Nat.le_of_ble_eq_true rfl) ⟨_, rfl, rfl⟩ (Nat.le_of_ble_eq_true rfl) (Nat.le_of_ble_eq_true rfl) (M_firstOf hB hw hT hR hR6 (fun m hm => nmr (fun yy hyy => ?_)))
    refine R_ireturn dX9_best_44 ⟨_, rfl, rfl⟩ ?_
    rw [if_pos w1_0] at h
    rw [hyy]
    exact h m hm
  by_cases w1_1 : x = 1
  · refine R_tswI (tgt := 45) dX9_best_1 1 w1_1 (by decide) (by decide) rfl (by decide) ?_
    refine al_0 dX9_best_45 ?_
    refine cv_0 dX9_best_46 mm_RX9_445 sh_116 (Nat.le_of_ble_eq_true rfl) ⟨_, rfl, rfl⟩ (Nat.le_of_ble_eq_true rfl) (Nat.le_of_ble_eq_true rfl) (M_swapOf hB hw hT hR hR6 (fun m hm => nmr (fun yy hyy => ?_)))
    refine R_ireturn dX9_best_49 ⟨_, rfl, rfl⟩ ?_
    rw [if_neg w1_0, if_pos w1_1] at h
    rw [hyy]
    exact h m hm
  by_cases w1_2 : x = 2
  · refine R_tswI (tgt := 50) dX9_best_1 2 w1_2 (by decide) (by decide) rfl (by decide) ?_
    refine al_0 dX9_best_50 ?_
    refine cv_0 dX9_best_51 mm_RX9_448 sh_116 (Nat.le_of_ble_eq_true rfl) ⟨_, rfl, rfl⟩ (Nat.le_of_ble_eq_true rfl) (Nat.le_of_ble_eq_true rfl) (M_quickOf hB hw hT (fun m hm => nmr (fun yy hyy => ?_)))
    refine R_ireturn dX9_best_54 ⟨_, rfl, rfl⟩ ?_
    rw [if_neg w1_0, if_neg w1_1, if_pos w1_2] at h
    rw [hyy]
    exact h m hm
  by_cases w1_3 : x = 3
  · refine R_tswI (tgt := 55) dX9_best_1 3 w1_3 (by decide) (by decide) rfl (by decide) ?_
    refine al_0 dX9_best_55 ?_
    refine cv_0 dX9_best_56 mm_RX9_451 sh_116 (Nat.le_of_ble_eq_true rfl) ⟨_, rfl, rfl⟩ (Nat.le_of_ble_eq_true rfl) (Nat.le_of_ble_eq_true rfl) (M_waitOf hB hw hT (fun m hm => nmr (fun yy hyy => ?_)))
    refine R_ireturn dX9_best_59 ⟨_, rfl, rfl⟩ ?_
    rw [if_neg w1_0, if_neg w1_1, if_neg w1_2, if_pos w1_3] at h
    rw [hyy]
    exact h m hm
  by_cases w1_4 : x = 4
  · refine R_tswI (tgt := 60) dX9_best_1 4 w1_4 (by decide) (by decide) rfl (by decide) ?_
    refine al_0 dX9_best_60 ?_
    refine cv_0 dX9_best_61 mm_RX9_454 sh_116 (Nat.le_of_ble_eq_true rfl) ⟨_, rfl, rfl⟩ (Nat.le_of_ble_eq_true rfl) (Nat.le_of_ble_eq_true rfl) (M_openOf hB hw hT hN hN6 (fun m hm => nmr (fun yy hyy => ?_)))
    refine R_ireturn dX9_best_64 ⟨_, rfl, rfl⟩ ?_
    rw [if_neg w1_0, if_neg w1_1, if_neg w1_2, if_neg w1_3, if_pos w1_4] at h
    rw [hyy]
    exact h m hm
  by_cases w1_5 : x = 5
  · refine R_tswI (tgt := 65) dX9_best_1 5 w1_5 (by decide) (by decide) rfl (by decide) ?_
    refine al_0 dX9_best_65 ?_
    refine cv_0 dX9_best_66 mm_RX9_439 sh_116 (Nat.le_of_ble_eq_true rfl) ⟨_, rfl, rfl⟩ (Nat.le_of_ble_eq_true rfl) (Nat.le_of_ble_eq_true rfl) (M_left hB hw (by omega) (fun m hm => nmr (fun yy hyy => ?_)))
    refine R_ireturn dX9_best_69 ⟨_, rfl, rfl⟩ ?_
    rw [if_neg w1_0, if_neg w1_1, if_neg w1_2, if_neg w1_3, if_neg w1_4, if_pos w1_5] at h
    rw [hyy]
    exact h m hm
  refine R_tswO (tgt := 70) dX9_best_1 (by have w1_0' := lv_neT (a := 0) w1_0 rfl; have w1_1' := lv_neT (a := 1) w1_1 rfl; have w1_2' := lv_neT (a := 2) w1_2 rfl; have w1_3' := lv_neT (a := 3) w1_3 rfl; have w1_4' := lv_neT (a := 4) w1_4 rfl; have w1_5' := lv_neT (a := 5) w1_5 rfl; omega) (by decide) ?_
  refine R_iconst (v := -1) dX9_best_70 (by decide) ?_
  refine R_ireturn dX9_best_71 ⟨_, rfl, rfl⟩ ?_
  rw [if_neg w1_0, if_neg w1_1, if_neg w1_2, if_neg w1_3, if_neg w1_4, if_neg w1_5] at h
  exact h mi (ME.refl mi)
