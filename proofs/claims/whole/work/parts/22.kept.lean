/-! the reference: what is kept and put back; who is left -/
/-- the reference's memory is the same but for what is made anew each time -/
def ME (mi m : Nat → Nat → Int32) : Prop := (∀ a, (a < 116 ∨ (116 < a ∧ a < 120) ∨ a = 122 ∨ (123 < a ∧ a < 133) ∨ 137 < a) → m a = mi a) ∧ (∀ f, (f < 38 ∨ 45 < f) → m 116 f = mi 116 f) ∧ ∀ j, j < 6 → m 120 j = mi 120 j ∧ m 121 j = mi 121 j ∧ m 123 j = mi 123 j
def KEPT (mi m : Nat → Nat → Int32) : Prop := (∀ f, f < 6 → m 116 (40 + f) = mi 116 (2 + f)) ∧ ∀ j, j < 6 → m 135 j = mi 120 j ∧ m 136 j = mi 121 j ∧ m 137 j = mi 123 j
def FR (mi m : Nat → Nat → Int32) : Prop := (∀ a, (a < 116 ∨ (116 < a ∧ a < 120) ∨ a = 122 ∨ (123 < a ∧ a < 133) ∨ 137 < a) → m a = mi a) ∧ (∀ f, (f < 2 ∨ (7 < f ∧ f < 33) ∨ (35 < f ∧ f < 38) ∨ 45 < f) → m 116 f = mi 116 f) ∧ KEPT mi m
theorem ME.refl (mi : Nat → Nat → Int32) : ME mi mi := ⟨fun _ _ => rfl, fun _ _ => rfl, fun _ _ => ⟨rfl, rfl, rfl⟩⟩
theorem ME.trans {m1 m2 m3 : Nat → Nat → Int32} (h : ME m1 m2) (g : ME m2 m3) : ME m1 m3 := ⟨fun a ha => (g.1 a ha).trans (h.1 a ha), fun f hf => (g.2.1 f hf).trans (h.2.1 f hf), fun j hj => ⟨((g.2.2 j hj).1).trans (h.2.2 j hj).1, ((g.2.2 j hj).2.1).trans (h.2.2 j hj).2.1, ((g.2.2 j hj).2.2).trans (h.2.2 j hj).2.2⟩⟩
theorem FR.mf {mi m m' : Nat → Nat → Int32} (h : FR mi m) (g : MF m m') : FR mi m' := by
  refine ⟨fun a ha => (g.1 a (by omega) (by omega) (by omega) (by omega) (by omega)).trans (h.1 a ha), fun f hf => (g.2 f (by omega)).trans (h.2.1 f hf), fun f hf => (g.2 _ (by omega)).trans (h.2.2.1 f hf), fun j hj => ?_⟩
  rw [g.1 135 (by decide) (by decide) (by decide) (by decide) (by decide), g.1 136 (by decide) (by decide) (by decide) (by decide) (by decide), g.1 137 (by decide) (by decide) (by decide) (by decide) (by decide)]
  exact h.2.2.2 j hj
theorem FR.cm {mi m : Nat → Nat → Int32} {cl : CL} (h : FR mi m) (hc : CM mi cl) : CM m cl := hc.ext (h.2.1 17 (by omega)) (fun a a1 a2 => h.1 a (by omega))
/-- what the reference's park is between two calls -/
def MB (mi : Nat → Nat → Int32) (cl : CL) (w : WD) : Prop := CM mi cl ∧ wM mi cl = w ∧ (∀ i, nn (mi 116 1) ≤ i → i < 32 → bt (mi 116 5) i = false) ∧ mi 116 33 = -1 ∧ mi 116 34 = 0 ∧ mi 116 35 = -1
theorem wM_ext {mi m : Nat → Nat → Int32} {cl : CL} (hf : ∀ f, (f < 9 ∨ (32 < f ∧ f < 36)) → m 116 f = mi 116 f) (ha : ∀ a, ((116 < a ∧ a < 120) ∨ a = 122) → m a = mi a) (hj : ∀ j, j < 6 → m 120 j = mi 120 j ∧ m 121 j = mi 121 j ∧ m 123 j = mi 123 j) (h1 : nn (mi 116 1) ≤ 6) (h8 : nn (mi 116 8) ≤ 6) : wM m cl = wM mi cl := by
  refine Prod.ext (funext fun j => ?_) (Prod.ext (funext fun j => ?_) (Prod.ext (funext fun j => ?_) (funext fun i => ?_)))
  · show sM m cl j = sM mi cl j
    by_cases h6 : j = 6
    · subst h6; exact hf 2 (by omega)
    · exact sM_ext6 h6 (hf 0 (by omega)) (hf 3 (by omega)) (hf 1 (by omega)) (hf 6 (by omega)) (hf 8 (by omega)) (hf 7 (by omega)) (hf 33 (by omega)) (hf 34 (by omega)) (hf 35 (by omega))
  · show (if j < nn (m 116 0) then m 117 j else 0) = if j < nn (mi 116 0) then mi 117 j else 0
    rw [hf 0 (by omega), ha 117 (by omega)]
  · show (if j < nn (m 116 8) then m 123 j else 0) = if j < nn (mi 116 8) then mi 123 j else 0
    rw [hf 8 (by omega)]
    by_cases h : j < nn (mi 116 8)
    · rw [if_pos h, if_pos h, (hj j (by omega)).2.2]
    · rw [if_neg h, if_neg h]
  · show (if i < nn (m 116 1) then pM m i else fun _ => 0) = if i < nn (mi 116 1) then pM mi i else fun _ => 0
    rw [hf 1 (by omega)]
    by_cases h : i < nn (mi 116 1)
    · rw [if_pos h, if_pos h]
      funext f
      unfold pM
      rw [hf 4 (by omega), hf 5 (by omega), ha 118 (by omega), ha 119 (by omega), ha 122 (by omega), (hj i (by omega)).1, (hj i (by omega)).2.1]
    · rw [if_neg h, if_neg h]
theorem MB.me {mi m : Nat → Nat → Int32} {cl : CL} {w : WD} {T : Nat} (h : MB mi cl w) (hw : WJ T w) (g : ME mi m) : MB m cl w := by
  obtain ⟨h1, h2, h3, h4, h5, h6⟩ := h
  obtain ⟨N, P, R, hJ, -⟩ := WJ.mj (mi := mi) (cl := cl) (T := T) (by rw [h2]; exact hw)
  obtain ⟨hN, hP6, hR, hg, hpp, hrr, -⟩ := hJ
  refine ⟨h1.ext (g.2.1 17 (by omega)) (fun a a1 a2 => g.1 a (by omega)), ?_, ?_, by rw [g.2.1 33 (by omega)]; exact h4, by rw [g.2.1 34 (by omega)]; exact h5, by rw [g.2.1 35 (by omega)]; exact h6⟩
  · rw [← h2]
    exact wM_ext (fun f hf => g.2.1 f (by omega)) (fun a ha => g.1 a (by omega)) g.2.2 (by rw [hpp, nnI (by omega)]; exact hP6) (by rw [hrr, nnI (by omega)]; exact hR)
  · rw [g.2.1 1 (by omega), g.2.1 5 (by omega)]; exact h3
/-- while something is tried from there: what stands in mi is kept -/
def TR (mi m : Nat → Nat → Int32) (cl : CL) (w : WD) : Prop := FR mi m ∧ wM m cl = w ∧ (∀ i, nn (m 116 1) ≤ i → i < 32 → bt (m 116 5) i = false)
theorem TR.ms {n : Nat} {mi m m' : Nat → Nat → Int32} {cl : CL} {w : WD} (h : TR mi m cl w) (g : MSr n cl m m') : TR mi m' cl (minsW (erA cl) n w) := by
  refine ⟨h.1.mf g.1, by rw [g.2.1, h.2.1], fun i hi h32 => ?_⟩
  rw [g.1.2 1 (by omega)] at hi
  rw [g.2.2 i hi h32]
  exact h.2.2 i hi h32
theorem bt_outF {g : Nat → Int32} {j : Nat} (hj : j < 32) : ∀ (n i : Nat) (x : Int32), i + n ≤ 32 → bt (outF g n i x) j = (bt x j || (decide (i ≤ j ∧ j < i + n) && !decide (g j = 0)))
  | 0, i, x, _ => by
    show bt x j = _
    simp; omega
  | n + 1, i, x, h => by
    show bt (outF g n (i + 1) _) j = _
    rw [bt_outF hj n (i + 1) _ (by omega)]
    have e : bt (if g i = 0 then x else x ||| ((1 : Int32) <<< (nI i &&& 31))) j = (bt x j || (decide (j = i) && !decide (g i = 0))) := by
      by_cases hg : g i = 0
      · rw [if_pos hg]; simp [hg]
      · rw [if_neg hg, b_or, bt_sh (by omega) hj]; simp [hg]
    rw [e]
    by_cases hji : j = i
    · subst hji
      have e1 : decide (j + 1 ≤ j ∧ j < j + 1 + n) = false := decide_eq_false (by omega)
      have e2 : decide (j ≤ j ∧ j < j + (n + 1)) = true := decide_eq_true (by omega)
      rw [e1, e2]
      simp
    · have e1 : decide (i + 1 ≤ j ∧ j < i + 1 + n) = decide (i ≤ j ∧ j < i + (n + 1)) := by
        apply decide_eq_decide.mpr
        omega
      rw [e1]
      simp [hji]
/-- who has gone, as one number -/
theorem gone_out {mi : Nat → Nat → Int32} {cl : CL} {P : Nat} (hpp : mi 116 1 = nI P) (hP : P ≤ 6) (h : ∀ i, nn (mi 116 1) ≤ i → i < 32 → bt (mi 116 5) i = false) : mi 116 5 = outW (wM mi cl) := by
  have nP : nn (mi 116 1) = P := by rw [hpp]; exact nnI (by omega)
  rw [nP] at h
  refine b_ext (fun j hj => ?_)
  show _ = bt (outF (fun i => (if i < nn (mi 116 1) then pM mi i else fun _ => 0) 5) (nn (mi 116 1)) 0 0) j
  rw [nP, bt_outF hj P 0 0 (by omega), b_0]
  by_cases hjP : j < P
  · rw [if_pos hjP]
    show _ = (false || (decide (0 ≤ j ∧ j < 0 + P) && !decide (bitD (mi 116 5) (nI j) = 0)))
    rw [bitD_bt hj]
    cases bt (mi 116 5) j <;> simp [hjP]
  · rw [h j (by omega) hj]
    simp; omega
theorem six_d : ∀ b0 b1 b2 b3 b4 b5 : Bool, ∀ i : Fin 32, bt (nI (b0.toNat + 2 * b1.toNat + 4 * b2.toNat + 8 * b3.toNat + 16 * b4.toNat + 32 * b5.toNat)) i = (if i.1 = 0 then b0 else if i.1 = 1 then b1 else if i.1 = 2 then b2 else if i.1 = 3 then b3 else if i.1 = 4 then b4 else if i.1 = 5 then b5 else false) := by decide +kernel
theorem six_of {x : Int32} (h : ∀ i, 6 ≤ i → i < 32 → bt x i = false) : ∃ a, a < 64 ∧ x = nI a := by
  have hle : ∀ b : Bool, b.toNat ≤ 1 := by decide
  refine ⟨(bt x 0).toNat + 2 * (bt x 1).toNat + 4 * (bt x 2).toNat + 8 * (bt x 3).toNat + 16 * (bt x 4).toNat + 32 * (bt x 5).toNat, ?_, b_ext (fun i hi => ?_)⟩
  · have := hle (bt x 0); have := hle (bt x 1); have := hle (bt x 2); have := hle (bt x 3); have := hle (bt x 4); have := hle (bt x 5)
    omega
  · rw [six_d (bt x 0) (bt x 1) (bt x 2) (bt x 3) (bt x 4) (bt x 5) ⟨i, hi⟩]
    dsimp only
    by_cases h0 : i = 0
    · rw [if_pos h0, h0]
    · rw [if_neg h0]
      by_cases h1 : i = 1
      · rw [if_pos h1, h1]
      · rw [if_neg h1]
        by_cases h2 : i = 2
        · rw [if_pos h2, h2]
        · rw [if_neg h2]
          by_cases h3 : i = 3
          · rw [if_pos h3, h3]
          · rw [if_neg h3]
            by_cases h4 : i = 4
            · rw [if_pos h4, h4]
            · rw [if_neg h4]
              by_cases h5 : i = 5
              · rw [if_pos h5, h5]
              · rw [if_neg h5]
                exact h i (by omega) hi

set_option maxHeartbeats 4000000 in
theorem L_save {G : rn_G} {d : Nat} {κ : Nat × Nat} {Q : Option Value → rn_S → Prop} {mi : Nat → Nat → Int32} {ml : Nat → Nat → Int64} {D : Nat → Nat} (h : ∀ m, (∀ a, a ≠ 135 → a ≠ 136 → a ≠ 137 → m a = mi a) → (∀ j, j < 6 → m 135 j = mi 120 j ∧ m 136 j = mi 121 j ∧ m 137 j = mi 123 j) → Q none (m, ml, RF D, 164)) : ∀ (n i : Nat) (x : Int32) (m : Nat → Nat → Int32), n + i = 6 → x = nI i → (∀ a, a ≠ 135 → a ≠ 136 → a ≠ 137 → m a = mi a) → (∀ j, j < i → m 135 j = mi 120 j ∧ m 136 j = mi 121 j ∧ m 137 j = mi 123 j) → Run G d M_X9_save 50 [.ref 116, .int x] [] (m, ml, RF D, 164) κ Q := by
  intro n
  induction n with
  | zero =>
    intro i x m hni hx h1 h2
    obtain rfl : i = 6 := by omega
    refine il_1 dX9_save_50 ?_
    refine R_bipush (v := 6) dX9_save_51 (by decide) ?_
    refine R_icmp_ge (tgt := 98) dX9_save_53 (by decide) (fun c53 => ?_) (fun q => absurd q (not_not_intro (by rw [hx]; decide)))
    refine R_return dX9_save_98 rfl ?_
    exact h m h1 h2
  | succ n ih =>
    intro i x m hni hx h1 h2
    have hi : i < 6 := by omega
    refine il_1 dX9_save_50 ?_
    refine R_bipush (v := 6) dX9_save_51 (by decide) ?_
    refine R_icmp_ge (tgt := 98) dX9_save_53 (by decide) (fun q => absurd q (by rw [hx]; exact nI_ge (b := 6) (by omega) (by decide))) (fun c53 => ?_)
    refine al_0 dX9_save_56 ?_
    refine R_getfr (r := 135) dX9_save_57 fl_RX9_150 rfl sh_116 (Nat.le_of_ble_eq_true rfl) rf_116_46 ?_
    refine il_1 dX9_save_60 ?_
    refine al_0 dX9_save_61 ?_
    refine R_getfr (r := 120) dX9_save_62 fl_RX9_47 rfl sh_116 (Nat.le_of_ble_eq_true rfl) rf_116_12 ?_
    refine il_1 dX9_save_65 ?_
    refine R_iald dX9_save_66 sh_120 (Nat.le_of_ble_eq_true rfl) (rn_ixe hx) hi ?_
    refine R_iast dX9_save_67 sh_135 (Nat.le_of_ble_eq_true rfl) (rn_ixe hx) hi ?_
    refine al_0 dX9_save_68 ?_
    refine R_getfr (r := 136) dX9_save_69 fl_RX9_153 rfl sh_116 (Nat.le_of_ble_eq_true rfl) rf_116_47 ?_
    refine il_1 dX9_save_72 ?_
    refine al_0 dX9_save_73 ?_
    refine R_getfr (r := 121) dX9_save_74 fl_RX9_50 rfl sh_116 (Nat.le_of_ble_eq_true rfl) rf_116_13 ?_
    refine il_1 dX9_save_77 ?_
    refine R_iald dX9_save_78 sh_121 (Nat.le_of_ble_eq_true rfl) (rn_ixe hx) hi ?_
    refine R_iast dX9_save_79 sh_136 (Nat.le_of_ble_eq_true rfl) (rn_ixe hx) hi ?_
    refine al_0 dX9_save_80 ?_
    refine R_getfr (r := 137) dX9_save_81 fl_RX9_156 rfl sh_116 (Nat.le_of_ble_eq_true rfl) rf_116_48 ?_
    refine il_1 dX9_save_84 ?_
    refine al_0 dX9_save_85 ?_
    refine R_getfr (r := 123) dX9_save_86 fl_RX9_56 rfl sh_116 (Nat.le_of_ble_eq_true rfl) rf_116_15 ?_
    refine il_1 dX9_save_89 ?_
    refine R_iald dX9_save_90 sh_123 (Nat.le_of_ble_eq_true rfl) (rn_ixe hx) hi ?_
    refine R_iast dX9_save_91 sh_137 (Nat.le_of_ble_eq_true rfl) (rn_ixe hx) hi ?_
    refine ii_1 (v := _ + 1) dX9_save_92 rfl (by rfl) ?_
    refine R_goto (tgt := 50) dX9_save_95 (by decide) ?_
    refine ih (i + 1) _ _ (by omega) (by rw [hx]; exact sm_add i 1) (fun a a1 a2 a3 => by rw [rn_u_ne a3, rn_u_ne a2, rn_u_ne a1]; exact h1 a a1 a2 a3) (fun j hj => ?_)
    have e0 := h1 120 (by decide) (by decide) (by decide)
    have e1 := h1 121 (by decide) (by decide) (by decide)
    have e3 := h1 123 (by decide) (by decide) (by decide)
    by_cases e : j = i
    · subst e; simp [rn_u, e0, e1, e3]
    · simp only [rn_u, e, and_false, if_false]; exact h2 j (by omega)

set_option maxHeartbeats 4000000 in
theorem M_save {G : rn_G} {d : Nat} {κ : Nat × Nat} {Q : Option Value → rn_S → Prop} {mi : Nat → Nat → Int32} {ml : Nat → Nat → Int64} {D : Nat → Nat} (h : ∀ m, (∀ a, a ≠ 116 → a ≠ 135 → a ≠ 136 → a ≠ 137 → m a = mi a) → (∀ f, (f < 40 ∨ 45 < f) → m 116 f = mi 116 f) → KEPT mi m → Q none (m, ml, RF D, 164)) : Call G (d) M_X9_save [.ref 116] (mi, ml, RF D, 164) κ Q := by
  show Run G _ M_X9_save 0 [.ref 116, .null] [] _ _ _
  refine al_0 dX9_save_0 ?_
  refine al_0 dX9_save_1 ?_
  refine R_getfi dX9_save_2 fl_RX9_16 rfl sh_116 (Nat.le_of_ble_eq_true rfl) ?_
  refine R_putfi dX9_save_5 fl_RX9_132 rfl (Or.inl rfl) sh_116 (Nat.le_of_ble_eq_true rfl) rfl rfl ?_
  refine al_0 dX9_save_8 ?_
  refine al_0 dX9_save_9 ?_
  refine R_getfi dX9_save_10 fl_RX9_19 rfl sh_116 (Nat.le_of_ble_eq_true rfl) ?_
  refine R_putfi dX9_save_13 fl_RX9_135 rfl (Or.inl rfl) sh_116 (Nat.le_of_ble_eq_true rfl) rfl rfl ?_
  refine al_0 dX9_save_16 ?_
  refine al_0 dX9_save_17 ?_
  refine R_getfi dX9_save_18 fl_RX9_22 rfl sh_116 (Nat.le_of_ble_eq_true rfl) ?_
  refine R_putfi dX9_save_21 fl_RX9_138 rfl (Or.inl rfl) sh_116 (Nat.le_of_ble_eq_true rfl) rfl rfl ?_
  refine al_0 dX9_save_24 ?_
  refine al_0 dX9_save_25 ?_
  refine R_getfi dX9_save_26 fl_RX9_25 rfl sh_116 (Nat.le_of_ble_eq_true rfl) ?_
  refine R_putfi dX9_save_29 fl_RX9_141 rfl (Or.inl rfl) sh_116 (Nat.le_of_ble_eq_true rfl) rfl rfl ?_
  refine al_0 dX9_save_32 ?_
  refine al_0 dX9_save_33 ?_
  refine R_getfi dX9_save_34 fl_RX9_28 rfl sh_116 (Nat.le_of_ble_eq_true rfl) ?_
  refine R_putfi dX9_save_37 fl_RX9_144 rfl (Or.inl rfl) sh_116 (Nat.le_of_ble_eq_true rfl) rfl rfl ?_
  refine al_0 dX9_save_40 ?_
  refine al_0 dX9_save_41 ?_
  refine R_getfi dX9_save_42 fl_RX9_31 rfl sh_116 (Nat.le_of_ble_eq_true rfl) ?_
  refine R_putfi dX9_save_45 fl_RX9_147 rfl (Or.inl rfl) sh_116 (Nat.le_of_ble_eq_true rfl) rfl rfl ?_
  refine R_iconst (v := 0) dX9_save_48 (by decide) ?_
  refine is_1 dX9_save_49 rfl ?_
  generalize hM : rn_u _ 116 45 _ = M
  have f1 : ∀ a, a ≠ 116 → M a = mi a := fun a ha => by rw [← hM]; simp only [rn_u_ne ha]
  have f2 : ∀ f, M 116 f = if f = 45 then mi 116 7 else if f = 44 then mi 116 6 else if f = 43 then mi 116 5 else if f = 42 then mi 116 4 else if f = 41 then mi 116 3 else if f = 40 then mi 116 2 else mi 116 f := fun f => by rw [← hM]; simp [rn_u]
  refine L_save (fun m h1 h2 => ?_) 6 0 0 M (by decide) nI_0.symm (fun _ _ _ _ => rfl) (fun j hj => absurd hj (Nat.not_lt_zero j))
  have e116 := h1 116 (by decide) (by decide) (by decide)
  refine h m (fun a a1 a2 a3 a4 => (h1 a a2 a3 a4).trans (f1 a a1)) (fun f hf => ?_) ⟨fun f hf => ?_, fun j hj => ?_⟩
  · rw [e116, f2, if_neg (by omega), if_neg (by omega), if_neg (by omega), if_neg (by omega), if_neg (by omega), if_neg (by omega)]
  · rw [e116, f2]
    match f, hf with
    | 0, _ | 1, _ | 2, _ | 3, _ | 4, _ | 5, _ => rfl
  · have q := h2 j hj
    rw [f1 120 (by decide), f1 121 (by decide), f1 123 (by decide)] at q
    exact q

set_option maxHeartbeats 4000000 in
theorem L_putBack {G : rn_G} {d : Nat} {κ : Nat × Nat} {Q : Option Value → rn_S → Prop} {mi : Nat → Nat → Int32} {ml : Nat → Nat → Int64} {D : Nat → Nat} (h : ∀ m, (∀ a, a ≠ 120 → a ≠ 121 → a ≠ 123 → m a = mi a) → (∀ j, j < 6 → m 120 j = mi 135 j ∧ m 121 j = mi 136 j ∧ m 123 j = mi 137 j) → Q none (m, ml, RF D, 164)) : ∀ (n i : Nat) (x : Int32) (m : Nat → Nat → Int32), n + i = 6 → x = nI i → (∀ a, a ≠ 120 → a ≠ 121 → a ≠ 123 → m a = mi a) → (∀ j, j < i → m 120 j = mi 135 j ∧ m 121 j = mi 136 j ∧ m 123 j = mi 137 j) → Run G d M_X9_putBack 65 [.ref 116, .int x] [] (m, ml, RF D, 164) κ Q := by
  intro n
  induction n with
  | zero =>
    intro i x m hni hx h1 h2
    obtain rfl : i = 6 := by omega
    refine il_1 dX9_putBack_65 ?_
    refine R_bipush (v := 6) dX9_putBack_66 (by decide) ?_
    refine R_icmp_ge (tgt := 113) dX9_putBack_68 (by decide) (fun c68 => ?_) (fun q => absurd q (not_not_intro (by rw [hx]; decide)))
    refine R_return dX9_putBack_113 rfl ?_
    exact h m h1 h2
  | succ n ih =>
    intro i x m hni hx h1 h2
    have hi : i < 6 := by omega
    refine il_1 dX9_putBack_65 ?_
    refine R_bipush (v := 6) dX9_putBack_66 (by decide) ?_
    refine R_icmp_ge (tgt := 113) dX9_putBack_68 (by decide) (fun q => absurd q (by rw [hx]; exact nI_ge (b := 6) (by omega) (by decide))) (fun c68 => ?_)
    refine al_0 dX9_putBack_71 ?_
    refine R_getfr (r := 120) dX9_putBack_72 fl_RX9_47 rfl sh_116 (Nat.le_of_ble_eq_true rfl) rf_116_12 ?_
    refine il_1 dX9_putBack_75 ?_
    refine al_0 dX9_putBack_76 ?_
    refine R_getfr (r := 135) dX9_putBack_77 fl_RX9_150 rfl sh_116 (Nat.le_of_ble_eq_true rfl) rf_116_46 ?_
    refine il_1 dX9_putBack_80 ?_
    refine R_iald dX9_putBack_81 sh_135 (Nat.le_of_ble_eq_true rfl) (rn_ixe hx) hi ?_
    refine R_iast dX9_putBack_82 sh_120 (Nat.le_of_ble_eq_true rfl) (rn_ixe hx) hi ?_
    refine al_0 dX9_putBack_83 ?_
    refine R_getfr (r := 121) dX9_putBack_84 fl_RX9_50 rfl sh_116 (Nat.le_of_ble_eq_true rfl) rf_116_13 ?_
    refine il_1 dX9_putBack_87 ?_
    refine al_0 dX9_putBack_88 ?_
    refine R_getfr (r := 136) dX9_putBack_89 fl_RX9_153 rfl sh_116 (Nat.le_of_ble_eq_true rfl) rf_116_47 ?_
    refine il_1 dX9_putBack_92 ?_
    refine R_iald dX9_putBack_93 sh_136 (Nat.le_of_ble_eq_true rfl) (rn_ixe hx) hi ?_
    refine R_iast dX9_putBack_94 sh_121 (Nat.le_of_ble_eq_true rfl) (rn_ixe hx) hi ?_
    refine al_0 dX9_putBack_95 ?_
    refine R_getfr (r := 123) dX9_putBack_96 fl_RX9_56 rfl sh_116 (Nat.le_of_ble_eq_true rfl) rf_116_15 ?_
    refine il_1 dX9_putBack_99 ?_
    refine al_0 dX9_putBack_100 ?_
    refine R_getfr (r := 137) dX9_putBack_101 fl_RX9_156 rfl sh_116 (Nat.le_of_ble_eq_true rfl) rf_116_48 ?_
    refine il_1 dX9_putBack_104 ?_
    refine R_iald dX9_putBack_105 sh_137 (Nat.le_of_ble_eq_true rfl) (rn_ixe hx) hi ?_
    refine R_iast dX9_putBack_106 sh_123 (Nat.le_of_ble_eq_true rfl) (rn_ixe hx) hi ?_
    refine ii_1 (v := _ + 1) dX9_putBack_107 rfl (by rfl) ?_
    refine R_goto (tgt := 65) dX9_putBack_110 (by decide) ?_
    refine ih (i + 1) _ _ (by omega) (by rw [hx]; exact sm_add i 1) (fun a a1 a2 a3 => by rw [rn_u_ne a3, rn_u_ne a2, rn_u_ne a1]; exact h1 a a1 a2 a3) (fun j hj => ?_)
    have e0 := h1 135 (by decide) (by decide) (by decide)
    have e1 := h1 136 (by decide) (by decide) (by decide)
    have e3 := h1 137 (by decide) (by decide) (by decide)
    by_cases e : j = i
    · subst e; simp [rn_u, e0, e1, e3]
    · simp only [rn_u, e, and_false, if_false]; exact h2 j (by omega)

set_option maxHeartbeats 4000000 in
theorem M_putBack {G : rn_G} {d : Nat} {κ : Nat × Nat} {Q : Option Value → rn_S → Prop} {mi : Nat → Nat → Int32} {ml : Nat → Nat → Int64} {D : Nat → Nat} {m0 : Nat → Nat → Int32} (hF : FR m0 mi) (h33 : m0 116 33 = -1) (h34 : m0 116 34 = 0) (h35 : m0 116 35 = -1) (h : ∀ m, ME m0 m → Q none (m, ml, RF D, 164)) : Call G (d) M_X9_putBack [.ref 116] (mi, ml, RF D, 164) κ Q := by
  show Run G _ M_X9_putBack 0 [.ref 116, .null] [] _ _ _
  refine al_0 dX9_putBack_0 ?_
  refine al_0 dX9_putBack_1 ?_
  refine R_getfi dX9_putBack_2 fl_RX9_132 rfl sh_116 (Nat.le_of_ble_eq_true rfl) ?_
  refine R_putfi dX9_putBack_5 fl_RX9_16 rfl (Or.inl rfl) sh_116 (Nat.le_of_ble_eq_true rfl) rfl rfl ?_
  refine al_0 dX9_putBack_8 ?_
  refine al_0 dX9_putBack_9 ?_
  refine R_getfi dX9_putBack_10 fl_RX9_135 rfl sh_116 (Nat.le_of_ble_eq_true rfl) ?_
  refine R_putfi dX9_putBack_13 fl_RX9_19 rfl (Or.inl rfl) sh_116 (Nat.le_of_ble_eq_true rfl) rfl rfl ?_
  refine al_0 dX9_putBack_16 ?_
  refine al_0 dX9_putBack_17 ?_
  refine R_getfi dX9_putBack_18 fl_RX9_138 rfl sh_116 (Nat.le_of_ble_eq_true rfl) ?_
  refine R_putfi dX9_putBack_21 fl_RX9_22 rfl (Or.inl rfl) sh_116 (Nat.le_of_ble_eq_true rfl) rfl rfl ?_
  refine al_0 dX9_putBack_24 ?_
  refine al_0 dX9_putBack_25 ?_
  refine R_getfi dX9_putBack_26 fl_RX9_141 rfl sh_116 (Nat.le_of_ble_eq_true rfl) ?_
  refine R_putfi dX9_putBack_29 fl_RX9_25 rfl (Or.inl rfl) sh_116 (Nat.le_of_ble_eq_true rfl) rfl rfl ?_
  refine al_0 dX9_putBack_32 ?_
  refine al_0 dX9_putBack_33 ?_
  refine R_getfi dX9_putBack_34 fl_RX9_144 rfl sh_116 (Nat.le_of_ble_eq_true rfl) ?_
  refine R_putfi dX9_putBack_37 fl_RX9_28 rfl (Or.inl rfl) sh_116 (Nat.le_of_ble_eq_true rfl) rfl rfl ?_
  refine al_0 dX9_putBack_40 ?_
  refine al_0 dX9_putBack_41 ?_
  refine R_getfi dX9_putBack_42 fl_RX9_147 rfl sh_116 (Nat.le_of_ble_eq_true rfl) ?_
  refine R_putfi dX9_putBack_45 fl_RX9_31 rfl (Or.inl rfl) sh_116 (Nat.le_of_ble_eq_true rfl) rfl rfl ?_
  refine al_0 dX9_putBack_48 ?_
  refine R_iconst (v := -1) dX9_putBack_49 (by decide) ?_
  refine R_putfi dX9_putBack_50 fl_RX9_110 rfl (Or.inl rfl) sh_116 (Nat.le_of_ble_eq_true rfl) rfl rfl ?_
  refine al_0 dX9_putBack_53 ?_
  refine R_iconst (v := 0) dX9_putBack_54 (by decide) ?_
  refine R_putfi dX9_putBack_55 fl_RX9_113 rfl (Or.inl rfl) sh_116 (Nat.le_of_ble_eq_true rfl) rfl rfl ?_
  refine al_0 dX9_putBack_58 ?_
  refine R_iconst (v := -1) dX9_putBack_59 (by decide) ?_
  refine R_putfi dX9_putBack_60 fl_RX9_116 rfl (Or.inl rfl) sh_116 (Nat.le_of_ble_eq_true rfl) rfl rfl ?_
  refine R_iconst (v := 0) dX9_putBack_63 (by decide) ?_
  refine is_1 dX9_putBack_64 rfl ?_
  generalize hM : rn_u _ 116 35 _ = M
  have f1 : ∀ a, a ≠ 116 → M a = mi a := fun a ha => by rw [← hM]; simp only [rn_u_ne ha]
  have f2 : ∀ f, M 116 f = if f = 35 then -1 else if f = 34 then 0 else if f = 33 then -1 else if f = 7 then mi 116 45 else if f = 6 then mi 116 44 else if f = 5 then mi 116 43 else if f = 4 then mi 116 42 else if f = 3 then mi 116 41 else if f = 2 then mi 116 40 else mi 116 f := fun f => by rw [← hM]; simp [rn_u]
  refine L_putBack (fun m h1 h2 => ?_) 6 0 0 M (by decide) nI_0.symm (fun _ _ _ _ => rfl) (fun j hj => absurd hj (Nat.not_lt_zero j))
  have e116 := h1 116 (by decide) (by decide) (by decide)
  obtain ⟨g1, g2, g3, g4⟩ := hF
  refine h m ⟨fun a ha => ?_, fun f hf => ?_, fun j hj => ?_⟩
  · rw [h1 a (by omega) (by omega) (by omega), f1 a (by omega), g1 a ha]
  · rw [e116, f2]
    by_cases b : f < 2 ∨ (7 < f ∧ f < 33) ∨ (35 < f ∧ f < 38) ∨ 45 < f
    · rw [if_neg (by omega), if_neg (by omega), if_neg (by omega), if_neg (by omega), if_neg (by omega), if_neg (by omega), if_neg (by omega), if_neg (by omega), if_neg (by omega), g2 f b]
    · have k0 := g3 0 (by decide)
      have k1 := g3 1 (by decide)
      have k2 := g3 2 (by decide)
      have k3 := g3 3 (by decide)
      have k4 := g3 4 (by decide)
      have k5 := g3 5 (by decide)
      by_cases e35 : f = 35
      · subst e35; exact h35.symm
      · by_cases e34 : f = 34
        · subst e34; exact h34.symm
        · by_cases e33 : f = 33
          · subst e33; exact h33.symm
          · rw [if_neg e35, if_neg e34, if_neg e33]
            have : f = 2 ∨ f = 3 ∨ f = 4 ∨ f = 5 ∨ f = 6 ∨ f = 7 := by omega
            rcases this with rfl | rfl | rfl | rfl | rfl | rfl
            · exact k0
            · exact k1
            · exact k2
            · exact k3
            · exact k4
            · exact k5
  · have q := h2 j hj
    rw [f1 135 (by decide), f1 136 (by decide), f1 137 (by decide), (g4 j hj).1, (g4 j hj).2.1, (g4 j hj).2.2] at q
    exact q

theorem save_tr {mi m : Nat → Nat → Int32} {cl : CL} {w : WD} {T : Nat} (hB : MB mi cl w) (hw : WJ T w) (h1 : ∀ a, a ≠ 116 → a ≠ 135 → a ≠ 136 → a ≠ 137 → m a = mi a) (h2 : ∀ f, (f < 40 ∨ 45 < f) → m 116 f = mi 116 f) (h3 : KEPT mi m) : TR mi m cl w ∧ (∀ f, (f < 40 ∨ 45 < f) → m 116 f = mi 116 f) ∧ (∀ a, 116 < a → a < 124 → m a = mi a) := by
  obtain ⟨hc, e, hg, -⟩ := hB
  obtain ⟨N, P, R, hJ, -⟩ := WJ.mj (mi := mi) (cl := cl) (T := T) (by rw [e]; exact hw)
  obtain ⟨hN, hP6, hR, hgg, hpp, hrr, -⟩ := hJ
  refine ⟨⟨⟨fun a ha => h1 a (by omega) (by omega) (by omega) (by omega), fun f hf => h2 f (by omega), h3⟩, ?_, ?_⟩, h2, fun a a1 a2 => h1 a (by omega) (by omega) (by omega) (by omega)⟩
  · rw [← e]
    exact wM_ext (fun f hf => h2 f (by omega)) (fun a ha => h1 a (by omega) (by omega) (by omega) (by omega)) (fun j _ => ⟨by rw [h1 120 (by decide) (by decide) (by decide) (by decide)], by rw [h1 121 (by decide) (by decide) (by decide) (by decide)], by rw [h1 123 (by decide) (by decide) (by decide) (by decide)]⟩) (by rw [hpp, nnI (by omega)]; exact hP6) (by rw [hrr, nnI (by omega)]; exact hR)
  · rw [h2 1 (by omega), h2 5 (by omega)]; exact hg
theorem ME.of_save {mi m : Nat → Nat → Int32} (h1 : ∀ a, a ≠ 116 → a ≠ 135 → a ≠ 136 → a ≠ 137 → m a = mi a) (h2 : ∀ f, (f < 40 ∨ 45 < f) → m 116 f = mi 116 f) : ME mi m := ⟨fun a ha => h1 a (by omega) (by omega) (by omega) (by omega), fun f hf => h2 f (by omega), fun j _ => ⟨by rw [h1 120 (by decide) (by decide) (by decide) (by decide)], by rw [h1 121 (by decide) (by decide) (by decide) (by decide)], by rw [h1 123 (by decide) (by decide) (by decide) (by decide)]⟩⟩

set_option maxHeartbeats 4000000 in
theorem M_leftThen {G : rn_G} {d : Nat} {κ : Nat × Nat} {Q : Option Value → rn_S → Prop} {mi : Nat → Nat → Int32} {ml : Nat → Nat → Int64} {D : Nat → Nat} {m0 : Nat → Nat → Int32} {w0 w : WD} {T : Nat} {cl : CL} (hB : MB m0 cl w0) (ht : TR m0 mi cl w) (hw : WJ T w) (hT : T + 60 < 2 ^ 30) (h : ∀ m, ME m0 m → Q (some (.int (leftW (erA cl) w))) (m, ml, RF D, 164)) : Call G (d + 8) M_X9_leftThen [.ref 116] (mi, ml, RF D, 164) κ Q := by
  show Run G _ M_X9_leftThen 0 [.ref 116, .null] [] _ _ _
  refine al_0 dX9_leftThen_0 ?_
  refine R_bipush (v := 60) dX9_leftThen_1 (by decide) ?_
  refine cv_1 dX9_leftThen_3 mm_RX9_418 sh_116 (Nat.le_of_ble_eq_true rfl) ⟨_, rfl, rfl⟩ (Nat.le_of_ble_eq_true rfl) (Nat.le_of_ble_eq_true rfl) (M_goMinutes (T := T) (N := 60) (ht.1.cm hB.1) (by rw [ht.2.1]; exact hw) rfl (by omega) (fun m2 hm2 => ?_))
  have ht2 := ht.ms hm2
  have hw2 : WJ (T + 60) (wM m2 cl) := by rw [ht2.2.1]; exact hw.mins 60 T _ (by omega)
  obtain ⟨N, P, R, hJ, -⟩ := hw2.mj
  obtain ⟨hN, hP6, hR, hgg, hpp, hrr, -⟩ := hJ
  have nP : nn (m2 116 1) = P := by rw [hpp]; exact nnI (by omega)
  have eo := gone_out (cl := cl) hpp hP6 ht2.2.2
  obtain ⟨a, ha, ea⟩ := six_of (x := m2 116 5) (fun i h6 h32 => ht2.2.2 i (by omega) h32)
  refine al_0 dX9_leftThen_6 ?_
  refine R_getfi dX9_leftThen_7 fl_RX9_13 rfl sh_116 (Nat.le_of_ble_eq_true rfl) ?_
  refine al_0 dX9_leftThen_10 ?_
  refine al_0 dX9_leftThen_11 ?_
  refine R_getfi dX9_leftThen_12 fl_RX9_25 rfl sh_116 (Nat.le_of_ble_eq_true rfl) ?_
  refine cv_1 dX9_leftThen_15 mm_RX9_375 sh_116 (Nat.le_of_ble_eq_true rfl) ⟨_, rfl, rfl⟩ (Nat.le_of_ble_eq_true rfl) (Nat.le_of_ble_eq_true rfl) (M_ones ea ha ?_)
  refine R_isub dX9_leftThen_18 ?_
  refine is_1 dX9_leftThen_19 rfl ?_
  refine al_0 dX9_leftThen_20 ?_
  refine cv_0 dX9_leftThen_21 mm_RX9_427 sh_116 (Nat.le_of_ble_eq_true rfl) ⟨_, rfl, rfl⟩ (Nat.le_of_ble_eq_true rfl) (Nat.le_of_ble_eq_true rfl) (M_putBack ht2.1 hB.2.2.2.1 hB.2.2.2.2.1 hB.2.2.2.2.2 (fun m3 hm3 => ?_))
  refine il_1 dX9_leftThen_24 ?_
  refine R_ireturn dX9_leftThen_25 ⟨_, rfl, rfl⟩ ?_
  refine Eq.mp (congrArg (fun v => Q (some (.int v)) _) ?_) (h m3 hm3)
  unfold leftW insW
  rw [← ht2.2.1, ← eo]
  rfl

set_option maxHeartbeats 4000000 in
theorem M_left {G : rn_G} {d : Nat} {κ : Nat × Nat} {Q : Option Value → rn_S → Prop} {mi : Nat → Nat → Int32} {ml : Nat → Nat → Int64} {D : Nat → Nat} {w : WD} {T : Nat} {cl : CL} (hB : MB mi cl w) (hw : WJ T w) (hT : T + 60 < 2 ^ 30) (h : ∀ m, ME mi m → Q (some (.int (leftW (erA cl) w))) (m, ml, RF D, 164)) : Call G (d + 9) M_X9_left [.ref 116] (mi, ml, RF D, 164) κ Q := by
  show Run G _ M_X9_left 0 [.ref 116] [] _ _ _
  refine al_0 dX9_left_0 ?_
  refine cv_0 dX9_left_1 mm_RX9_424 sh_116 (Nat.le_of_ble_eq_true rfl) ⟨_, rfl, rfl⟩ (Nat.le_of_ble_eq_true rfl) (Nat.le_of_ble_eq_true rfl) (M_save (fun ms g1 g2 g3 => ?_))
  obtain ⟨htr, -, -⟩ := save_tr hB hw g1 g2 g3
  refine al_0 dX9_left_4 ?_
  refine cv_0 dX9_left_5 mm_RX9_436 sh_116 (Nat.le_of_ble_eq_true rfl) ⟨_, rfl, rfl⟩ (Nat.le_of_ble_eq_true rfl) (Nat.le_of_ble_eq_true rfl) (M_leftThen hB htr hw hT (fun m4 hm4 => ?_))
  refine R_ireturn dX9_left_8 ⟨_, rfl, rfl⟩ ?_
  exact h m4 hm4
