/-! the class: best -/
theorem rf_b8 : True := trivial
def canB (a R N e : Nat) : Bool := if a = 0 then decide (e < R) else if a = 1 then decide (e / 10 < e % 10 ∧ e % 10 < R) else if a = 2 then decide (1 ≤ e ∧ e ≤ 9) else if a = 3 then decide (e ≤ 15) else decide (e < N)
def chW (a e : Nat) (w : WD) : WD := if a = 0 then firstW e w else if a = 1 then swapW (e / 10) (e % 10) w else if a = 2 then upS w 7 (nI e) else if a = 3 then upS w 8 (nI e) else openW (nI e) w
theorem canB_0 {R N e : Nat} : canB 0 R N e = true ↔ e < R := by unfold canB; rw [if_pos rfl]; exact decide_eq_true_iff
theorem canB_1 {R N e : Nat} : canB 1 R N e = true ↔ e / 10 < e % 10 ∧ e % 10 < R := by unfold canB; rw [if_neg (by decide), if_pos rfl]; exact decide_eq_true_iff
theorem canB_2 {R N e : Nat} : canB 2 R N e = true ↔ 1 ≤ e ∧ e ≤ 9 := by unfold canB; rw [if_neg (by decide), if_neg (by decide), if_pos rfl]; exact decide_eq_true_iff
theorem canB_3 {R N e : Nat} : canB 3 R N e = true ↔ e ≤ 15 := by unfold canB; rw [if_neg (by decide), if_neg (by decide), if_neg (by decide), if_pos rfl]; exact decide_eq_true_iff
theorem canB_4 {R N e : Nat} : canB 4 R N e = true ↔ e < N := by unfold canB; rw [if_neg (by decide), if_neg (by decide), if_neg (by decide), if_neg (by decide)]; exact decide_eq_true_iff
theorem chW_0 {e : Nat} {w : WD} : chW 0 e w = firstW e w := if_pos rfl
theorem chW_1 {e : Nat} {w : WD} : chW 1 e w = swapW (e / 10) (e % 10) w := by unfold chW; rw [if_neg (by decide), if_pos rfl]
theorem chW_2 {e : Nat} {w : WD} : chW 2 e w = upS w 7 (nI e) := by unfold chW; rw [if_neg (by decide), if_neg (by decide), if_pos rfl]
theorem chW_3 {e : Nat} {w : WD} : chW 3 e w = upS w 8 (nI e) := by unfold chW; rw [if_neg (by decide), if_neg (by decide), if_neg (by decide), if_pos rfl]
theorem chW_4 {e : Nat} {w : WD} : chW 4 e w = openW (nI e) w := by unfold chW; rw [if_neg (by decide), if_neg (by decide), if_neg (by decide), if_neg (by decide)]
theorem ten_div {e : Nat} (he : e < 46) : nI e / 10 = nI (e / 10) := sm_div (c := 10) (by omega) (by decide) (by decide)
theorem ten_rem {e : Nat} (he : e < 46) : nI e - nI e / 10 * 10 = nI (e % 10) := sm_rem (c := 10) (by omega) (by decide)

set_option maxHeartbeats 4000000 in
theorem K_canChange {G : rn_G} {d : Nat} {κ : Nat × Nat} {Q : Option Value → rn_S → Prop} {mi : Nat → Nat → Int32} {ml : Nat → Nat → Int64} {D : Nat → Nat} {a e N R : Nat} {x y : Int32} (hx : x = nI a) (ha : a ≤ 4) (hy : y = nI e) (he : e < 46) (hg : mi 2 4 = nI N) (hN : N ≤ 6) (hrr : mi 2 8 = nI R) (hR : R ≤ 6) (h1 : canB a R N e = true → Q (some (.int 1)) (mi, ml, RF D, 164)) (h0 : ¬ canB a R N e = true → Q (some (.int 0)) (mi, ml, RF D, 164)) : Call G (d) M_X8_canChange [.ref 1, .int x, .int y] (mi, ml, RF D, 164) κ Q := by
  show Run G _ M_X8_canChange 0 [.ref 1, .int x, .int y] [] _ _ _
  refine il_1 dX8_canChange_0 ?_
  by_cases w1_0 : x = 0
  · refine R_tswI (tgt := 32) dX8_canChange_1 0 w1_0 (by decide) (by decide) rfl (by decide) ?_
    refine il_2 dX8_canChange_32 ?_
    refine al_0 dX8_canChange_33 ?_
    refine R_getfr (r := 2) dX8_canChange_34 fl_RX8_12 rfl sh_1 (Nat.le_of_ble_eq_true rfl) rf_1_0 ?_
    refine R_getfi dX8_canChange_37 fl_RX8_159 rfl sh_2 (Nat.le_of_ble_eq_true rfl) ?_
    refine R_icmp_ge (tgt := 47) dX8_canChange_40 (by decide) (fun c40 => ?_) (fun c40 => ?_)
    · refine R_iconst (v := 0) dX8_canChange_47 (by decide) ?_
      refine R_ireturn dX8_canChange_48 ⟨_, rfl, rfl⟩ ?_
      have ea : a = 0 := sm_inj (b := 0) (by omega) (by decide) (hx.symm.trans w1_0)
      exact h0 (fun q => by rw [ea] at q; exact Int32.not_lt.mpr (by first | exact c40 | exact Int32.not_lt.mp c40) (by rw [hy, hrr]; exact (sm_lt_iff (by omega) (by omega)).mpr (canB_0.mp q)))
    · refine R_iconst (v := 1) dX8_canChange_43 (by decide) ?_
      refine R_goto (tgt := 48) dX8_canChange_44 (by decide) ?_
      refine R_ireturn dX8_canChange_48 ⟨_, rfl, rfl⟩ ?_
      have ea : a = 0 := sm_inj (b := 0) (by omega) (by decide) (hx.symm.trans w1_0)
      exact h1 (by rw [ea]; exact canB_0.mpr ((sm_lt_iff (by omega) (by omega)).mp (by rw [← hy, ← hrr]; first | exact c40 | exact Int32.not_le.mp c40)))
  by_cases w1_1 : x = 1
  · refine R_tswI (tgt := 49) dX8_canChange_1 1 w1_1 (by decide) (by decide) rfl (by decide) ?_
    refine il_2 dX8_canChange_49 ?_
    refine R_bipush (v := 10) dX8_canChange_50 (by decide) ?_
    refine R_idiv dX8_canChange_52 (by decide) ?_
    refine il_2 dX8_canChange_53 ?_
    refine R_bipush (v := 10) dX8_canChange_54 (by decide) ?_
    refine R_irem dX8_canChange_56 (by decide) ?_
    refine R_icmp_ge (tgt := 78) dX8_canChange_57 (by decide) (fun c57 => ?_) (fun c57 => ?_)
    · refine R_iconst (v := 0) dX8_canChange_78 (by decide) ?_
      refine R_ireturn dX8_canChange_79 ⟨_, rfl, rfl⟩ ?_
      have ea : a = 1 := sm_inj (b := 1) (by omega) (by decide) (hx.symm.trans w1_1)
      exact h0 (fun q => by rw [ea] at q; exact by first | exact absurd (show y / 10 < y - y / 10 * 10 by rw [hy, ten_rem he, ten_div he]; exact (sm_lt_iff (by omega) (by omega)).mpr (canB_1.mp q).1) (Int32.not_lt.mpr (by first | exact c57 | exact Int32.not_lt.mp c57)) | exact absurd (show y - y / 10 * 10 < mi 2 8 by rw [hy, ten_rem he, hrr]; exact (sm_lt_iff (by omega) (by omega)).mpr (canB_1.mp q).2) (Int32.not_lt.mpr (by first | exact c71 | exact Int32.not_lt.mp c71)))
    · refine il_2 dX8_canChange_60 ?_
      refine R_bipush (v := 10) dX8_canChange_61 (by decide) ?_
      refine R_irem dX8_canChange_63 (by decide) ?_
      refine al_0 dX8_canChange_64 ?_
      refine R_getfr (r := 2) dX8_canChange_65 fl_RX8_12 rfl sh_1 (Nat.le_of_ble_eq_true rfl) rf_1_0 ?_
      refine R_getfi dX8_canChange_68 fl_RX8_159 rfl sh_2 (Nat.le_of_ble_eq_true rfl) ?_
      refine R_icmp_ge (tgt := 78) dX8_canChange_71 (by decide) (fun c71 => ?_) (fun c71 => ?_)
      · refine R_iconst (v := 0) dX8_canChange_78 (by decide) ?_
        refine R_ireturn dX8_canChange_79 ⟨_, rfl, rfl⟩ ?_
        have ea : a = 1 := sm_inj (b := 1) (by omega) (by decide) (hx.symm.trans w1_1)
        exact h0 (fun q => by rw [ea] at q; exact by first | exact absurd (show y / 10 < y - y / 10 * 10 by rw [hy, ten_rem he, ten_div he]; exact (sm_lt_iff (by omega) (by omega)).mpr (canB_1.mp q).1) (Int32.not_lt.mpr (by first | exact c57 | exact Int32.not_lt.mp c57)) | exact absurd (show y - y / 10 * 10 < mi 2 8 by rw [hy, ten_rem he, hrr]; exact (sm_lt_iff (by omega) (by omega)).mpr (canB_1.mp q).2) (Int32.not_lt.mpr (by first | exact c71 | exact Int32.not_lt.mp c71)))
      · refine R_iconst (v := 1) dX8_canChange_74 (by decide) ?_
        refine R_goto (tgt := 79) dX8_canChange_75 (by decide) ?_
        refine R_ireturn dX8_canChange_79 ⟨_, rfl, rfl⟩ ?_
        have ea : a = 1 := sm_inj (b := 1) (by omega) (by decide) (hx.symm.trans w1_1)
        exact h1 (by rw [ea]; exact canB_1.mpr ⟨(sm_lt_iff (by omega) (by omega)).mp (by rw [← ten_div he, ← ten_rem he, ← hy]; first | exact c57 | exact Int32.not_le.mp c57), (sm_lt_iff (by omega) (by omega)).mp (by rw [← ten_rem he, ← hy, ← hrr]; first | exact c71 | exact Int32.not_le.mp c71)⟩)
  by_cases w1_2 : x = 2
  · refine R_tswI (tgt := 80) dX8_canChange_1 2 w1_2 (by decide) (by decide) rfl (by decide) ?_
    refine il_2 dX8_canChange_80 ?_
    refine R_iconst (v := 1) dX8_canChange_81 (by decide) ?_
    refine R_icmp_lt (tgt := 95) dX8_canChange_82 (by decide) (fun c82 => ?_) (fun c82 => ?_)
    · refine R_iconst (v := 0) dX8_canChange_95 (by decide) ?_
      refine R_ireturn dX8_canChange_96 ⟨_, rfl, rfl⟩ ?_
      have ea : a = 2 := sm_inj (b := 2) (by omega) (by decide) (hx.symm.trans w1_2)
      exact h0 (fun q => by rw [ea] at q; exact by first | exact Int32.not_lt.mpr ((sm_le_iff (a := 1) (by decide) (by omega)).mpr (canB_2.mp q).1) (by rw [← hy]; first | exact c82 | exact Int32.not_le.mp c82) | exact Int32.not_lt.mpr ((sm_le_iff (b := 9) (by omega) (by decide)).mpr (canB_2.mp q).2) (by rw [← hy]; first | exact c88 | exact Int32.not_le.mp c88))
    · refine il_2 dX8_canChange_85 ?_
      refine R_bipush (v := 9) dX8_canChange_86 (by decide) ?_
      refine R_icmp_gt (tgt := 95) dX8_canChange_88 (by decide) (fun c88 => ?_) (fun c88 => ?_)
      · refine R_iconst (v := 0) dX8_canChange_95 (by decide) ?_
        refine R_ireturn dX8_canChange_96 ⟨_, rfl, rfl⟩ ?_
        have ea : a = 2 := sm_inj (b := 2) (by omega) (by decide) (hx.symm.trans w1_2)
        exact h0 (fun q => by rw [ea] at q; exact by first | exact Int32.not_lt.mpr ((sm_le_iff (a := 1) (by decide) (by omega)).mpr (canB_2.mp q).1) (by rw [← hy]; first | exact c82 | exact Int32.not_le.mp c82) | exact Int32.not_lt.mpr ((sm_le_iff (b := 9) (by omega) (by decide)).mpr (canB_2.mp q).2) (by rw [← hy]; first | exact c88 | exact Int32.not_le.mp c88))
      · refine R_iconst (v := 1) dX8_canChange_91 (by decide) ?_
        refine R_goto (tgt := 96) dX8_canChange_92 (by decide) ?_
        refine R_ireturn dX8_canChange_96 ⟨_, rfl, rfl⟩ ?_
        have ea : a = 2 := sm_inj (b := 2) (by omega) (by decide) (hx.symm.trans w1_2)
        exact h1 (by rw [ea]; exact canB_2.mpr ⟨(sm_le_iff (a := 1) (by decide) (by omega)).mp (by rw [← hy]; first | exact c82 | exact Int32.not_lt.mp c82), (sm_le_iff (b := 9) (by omega) (by decide)).mp (by rw [← hy]; first | exact c88 | exact Int32.not_lt.mp c88)⟩)
  by_cases w1_3 : x = 3
  · refine R_tswI (tgt := 97) dX8_canChange_1 3 w1_3 (by decide) (by decide) rfl (by decide) ?_
    refine il_2 dX8_canChange_97 ?_
    refine R_bipush (v := 15) dX8_canChange_98 (by decide) ?_
    refine R_icmp_gt (tgt := 107) dX8_canChange_100 (by decide) (fun c100 => ?_) (fun c100 => ?_)
    · refine R_iconst (v := 0) dX8_canChange_107 (by decide) ?_
      refine R_ireturn dX8_canChange_108 ⟨_, rfl, rfl⟩ ?_
      have ea : a = 3 := sm_inj (b := 3) (by omega) (by decide) (hx.symm.trans w1_3)
      exact h0 (fun q => by rw [ea] at q; exact Int32.not_lt.mpr ((sm_le_iff (b := 15) (by omega) (by decide)).mpr (canB_3.mp q)) (by rw [← hy]; first | exact c100 | exact Int32.not_le.mp c100))
    · refine R_iconst (v := 1) dX8_canChange_103 (by decide) ?_
      refine R_goto (tgt := 108) dX8_canChange_104 (by decide) ?_
      refine R_ireturn dX8_canChange_108 ⟨_, rfl, rfl⟩ ?_
      have ea : a = 3 := sm_inj (b := 3) (by omega) (by decide) (hx.symm.trans w1_3)
      exact h1 (by rw [ea]; exact canB_3.mpr ((sm_le_iff (b := 15) (by omega) (by decide)).mp (by rw [← hy]; first | exact c100 | exact Int32.not_lt.mp c100)))
  refine R_tswO (tgt := 109) dX8_canChange_1 (by have w1_0' := lv_neT (a := 0) w1_0 rfl; have w1_1' := lv_neT (a := 1) w1_1 rfl; have w1_2' := lv_neT (a := 2) w1_2 rfl; have w1_3' := lv_neT (a := 3) w1_3 rfl; omega) (by decide) ?_
  refine il_2 dX8_canChange_109 ?_
  refine al_0 dX8_canChange_110 ?_
  refine R_getfr (r := 2) dX8_canChange_111 fl_RX8_12 rfl sh_1 (Nat.le_of_ble_eq_true rfl) rf_1_0 ?_
  refine R_getfi dX8_canChange_114 fl_RX8_75 rfl sh_2 (Nat.le_of_ble_eq_true rfl) ?_
  refine R_icmp_ge (tgt := 124) dX8_canChange_117 (by decide) (fun c117 => ?_) (fun c117 => ?_)
  · refine R_iconst (v := 0) dX8_canChange_124 (by decide) ?_
    refine R_ireturn dX8_canChange_125 ⟨_, rfl, rfl⟩ ?_
    have ea : a = 4 := by
      have : a = 0 ∨ a = 1 ∨ a = 2 ∨ a = 3 ∨ a = 4 := by omega
      rcases this with r | r | r | r | r
      · exact absurd (by rw [hx, r]; rfl) w1_0
      · exact absurd (by rw [hx, r]; rfl) w1_1
      · exact absurd (by rw [hx, r]; rfl) w1_2
      · exact absurd (by rw [hx, r]; rfl) w1_3
      · exact r
    exact h0 (fun q => by rw [ea] at q; exact Int32.not_lt.mpr (by first | exact c117 | exact Int32.not_lt.mp c117) (by rw [hy, hg]; exact (sm_lt_iff (by omega) (by omega)).mpr (canB_4.mp q)))
  · refine R_iconst (v := 1) dX8_canChange_120 (by decide) ?_
    refine R_goto (tgt := 125) dX8_canChange_121 (by decide) ?_
    refine R_ireturn dX8_canChange_125 ⟨_, rfl, rfl⟩ ?_
    have ea : a = 4 := by
      have : a = 0 ∨ a = 1 ∨ a = 2 ∨ a = 3 ∨ a = 4 := by omega
      rcases this with r | r | r | r | r
      · exact absurd (by rw [hx, r]; rfl) w1_0
      · exact absurd (by rw [hx, r]; rfl) w1_1
      · exact absurd (by rw [hx, r]; rfl) w1_2
      · exact absurd (by rw [hx, r]; rfl) w1_3
      · exact r
    exact h1 (by rw [ea]; exact canB_4.mpr ((sm_lt_iff (by omega) (by omega)).mp (by rw [← hy, ← hg]; first | exact c117 | exact Int32.not_le.mp c117)))

theorem wC_first {mi M : Nat → Nat → Int32} {k b R C : Nat} (hB : PB b) (hk : PD k) (h6 : nn (mi b 6) ≤ 6) (hr : mi b 8 = nI R) (hR1 : 1 ≤ R) (hR : R ≤ 6) (g1 : ∀ a, a ≠ b → a ≠ b + 3 → M a = mi a) (g2 : ∀ f, M b f = if f = 9 then 0 else mi b f) (g3 : ∀ j, M (b + 3) j = rotN R C (mi (b + 3)) j) : wC M k b = firstW C (wC mi k b) := by
  have hn : nn (mi b 8) = R := by rw [hr]; exact nnI (by omega)
  have ek : M k = mi k := g1 k (by unfold PD at hk; unfold PB at hB; omega) (by unfold PD at hk; unfold PB at hB; omega)
  refine Prod.ext (funext fun j => ?_) (Prod.ext (funext fun j => ?_) (Prod.ext (funext fun j => ?_) (funext fun u => ?_)))
  · show sC M k b j = if j = 5 then 0 else sC mi k b j
    unfold sC
    rw [ek]
    match j with
    | 0 | 1 | 2 | 3 | 4 | 5 | 6 | 7 | 8 | 9 => simp [g2]
    | n + 10 => simp
  · show (if j < nn (M b 4) then M (b + 1) j else 0) = if j < nn (mi b 4) then mi (b + 1) j else 0
    rw [g2, if_neg (show ¬ (4 : Nat) = 9 by decide), g1 (b + 1) (by omega) (by omega)]
  · show (if j < nn (M b 8) then M (b + 3) j else 0) = if j < nn (mi b 8) then (if (j + C) % nn (mi b 8) < nn (mi b 8) then mi (b + 3) ((j + C) % nn (mi b 8)) else 0) else 0
    rw [g2, if_neg (show ¬ (8 : Nat) = 9 by decide), hn]
    by_cases h : j < R
    · rw [if_pos h, if_pos h, g3, rotN_get hR1 C _ j h, if_pos (Nat.mod_lt _ (by omega))]
    · rw [if_neg h, if_neg h]
  · show (if u < nn (M b 6) then pC M (b + 7 + 2 * u) else fun _ => 0) = if u < nn (mi b 6) then pC mi (b + 7 + 2 * u) else fun _ => 0
    rw [g2, if_neg (show ¬ (6 : Nat) = 9 by decide)]
    by_cases hu : u < nn (mi b 6)
    · rw [if_pos hu, if_pos hu]
      exact pC_ext (fun f _ => by rw [g1 _ (by omega) (by omega)]) (g1 _ (by omega) (by omega))
    · rw [if_neg hu, if_neg hu]
theorem wC_swap {mi : Nat → Nat → Int32} {k b R i j : Nat} (hB : PB b) (hk : PD k) (h6 : nn (mi b 6) ≤ 6) (hr : mi b 8 = nI R) (hR : R ≤ 6) (hi : i < R) (hj : j < R) : wC (rn_u (rn_u mi (b + 3) i (mi (b + 3) j)) (b + 3) j (mi (b + 3) i)) k b = swapW i j (wC mi k b) := by
  have hn : nn (mi b 8) = R := by rw [hr]; exact nnI (by omega)
  obtain ⟨M, hM⟩ : ∃ M, M = rn_u (rn_u mi (b + 3) i (mi (b + 3) j)) (b + 3) j (mi (b + 3) i) := ⟨_, rfl⟩
  rw [← hM]
  have ea : ∀ a, a ≠ b + 3 → M a = mi a := fun a h => by rw [hM, rn_u_ne h, rn_u_ne h]
  have e3 : ∀ q, M (b + 3) q = if q = j then mi (b + 3) i else if q = i then mi (b + 3) j else mi (b + 3) q := fun q => by rw [hM, rn_u_at]; dsimp only; rw [rn_u_at]
  have ek : M k = mi k := ea k (by unfold PD at hk; unfold PB at hB; omega)
  refine Prod.ext (funext fun q => ?_) (Prod.ext (funext fun q => ?_) (Prod.ext (funext fun q => ?_) (funext fun u => ?_)))
  · show sC M k b q = sC mi k b q
    unfold sC
    rw [ek, ea b (by omega)]
  · show (if q < nn (M b 4) then M (b + 1) q else 0) = if q < nn (mi b 4) then mi (b + 1) q else 0
    rw [ea b (by omega), ea (b + 1) (by omega)]
  · show (if q < nn (M b 8) then M (b + 3) q else 0) = if q = j then (if i < nn (mi b 8) then mi (b + 3) i else 0) else if q = i then (if j < nn (mi b 8) then mi (b + 3) j else 0) else if q < nn (mi b 8) then mi (b + 3) q else 0
    rw [ea b (by omega), hn, e3, if_pos hi, if_pos hj]
    by_cases h1 : q = j
    · rw [if_pos h1, if_pos h1, if_pos (by omega)]
    · rw [if_neg h1, if_neg h1]
      by_cases h2 : q = i
      · rw [if_pos h2, if_pos h2, if_pos (by omega)]
      · rw [if_neg h2, if_neg h2]
  · show (if u < nn (M b 6) then pC M (b + 7 + 2 * u) else fun _ => 0) = if u < nn (mi b 6) then pC mi (b + 7 + 2 * u) else fun _ => 0
    rw [ea b (by omega)]
    by_cases hu : u < nn (mi b 6)
    · rw [if_pos hu, if_pos hu]
      exact pC_ext (fun f _ => by rw [ea _ (by omega)]) (ea _ (by omega))
    · rw [if_neg hu, if_neg hu]
theorem wC_s12 {mi : Nat → Nat → Int32} {k b e : Nat} (hB : PB b) (hk : PD k) (h6 : nn (mi b 6) ≤ 6) (he : 1 ≤ e) (he9 : e ≤ 9) : wC (rn_u mi b 12 (nI e)) k b = upS (wC mi k b) 7 (nI e) := by
  have hkb : k ≠ b := by unfold PD at hk; unfold PB at hB; omega
  refine wC_upS (rn_u_ne hkb) (fun a a1 a2 => rn_u_ne (by omega)) (by simp [rn_u]) (by simp [rn_u]) (by simp [rn_u]) h6 (fun j => ?_)
  show sC (rn_u mi b 12 (nI e)) k b j = if j = 7 then nI e else sC mi k b j
  unfold sC
  rw [rn_u_ne hkb]
  have hp : 0 < nI e := (sm_lt_iff (a := 0) (by decide) (by omega)).mpr (by omega)
  match j with
  | 0 | 1 | 2 | 3 | 4 | 5 | 6 | 7 | 8 | 9 => simp [rn_u, hp]
  | n + 10 => simp
theorem wC_s13 {mi : Nat → Nat → Int32} {k b : Nat} {v : Int32} (hB : PB b) (hk : PD k) (h6 : nn (mi b 6) ≤ 6) : wC (rn_u mi b 13 v) k b = upS (wC mi k b) 8 v := by
  have hkb : k ≠ b := by unfold PD at hk; unfold PB at hB; omega
  refine wC_upS (rn_u_ne hkb) (fun a a1 a2 => rn_u_ne (by omega)) (by simp [rn_u]) (by simp [rn_u]) (by simp [rn_u]) h6 (fun j => ?_)
  show sC (rn_u mi b 13 v) k b j = if j = 8 then v else sC mi k b j
  unfold sC
  rw [rn_u_ne hkb]
  match j with
  | 0 | 1 | 2 | 3 | 4 | 5 | 6 | 7 | 8 | 9 => simp [rn_u]
  | n + 10 => simp
theorem wC_opn {mi : Nat → Nat → Int32} {k b : Nat} {x : Int32} (hB : PB b) (hk : PD k) (h6 : nn (mi b 6) ≤ 6) : wC (rn_u (rn_u mi b 5 (clrB (mi b 5) x)) b 14 x) k b = openW x (wC mi k b) := by
  have hkb : k ≠ b := by unfold PD at hk; unfold PB at hB; omega
  refine wC_upS (mi := mi) (by rw [rn_u_ne hkb, rn_u_ne hkb]) (fun a a1 a2 => by rw [rn_u_ne (by omega), rn_u_ne (by omega)]) (by simp [rn_u]) (by simp [rn_u]) (by simp [rn_u]) h6 (fun j => ?_)
  show sC (rn_u (rn_u mi b 5 (clrB (mi b 5) x)) b 14 x) k b j = if j = 9 then x else if j = 1 then clrB (mi b 5) x else sC mi k b j
  unfold sC
  rw [rn_u_ne hkb, rn_u_ne hkb]
  match j with
  | 0 | 1 | 2 | 3 | 4 | 5 | 6 | 7 | 8 | 9 => simp [rn_u]
  | n + 10 => simp
theorem chW_wj {T a e N R : Nat} {w : WD} (h : WJ T w) (h4 : w.1 4 = nI R) (hR : R ≤ 6) (hN : N ≤ 6) (ha : a ≤ 4) (hc : canB a R N e = true) : WJ T (chW a e w) := by
  have : a = 0 ∨ a = 1 ∨ a = 2 ∨ a = 3 ∨ a = 4 := by omega
  rcases this with rfl | rfl | rfl | rfl | rfl
  · exact h.first
  · have q := canB_1.mp hc
    exact h.swp h4 hR (by omega) q.2
  · have q := canB_2.mp hc
    exact h.s7 (by omega)
  · have q := canB_3.mp hc
    exact h.s8 (by omega)
  · have q := canB_4.mp hc
    exact h.opn (by omega)

set_option maxHeartbeats 4000000 in
theorem K_makeChange {G : rn_G} {d : Nat} {κ : Nat × Nat} {Q : Option Value → rn_S → Prop} {ml : Nat → Nat → Int64} {mi m : Nat → Nat → Int32} {D D' : Nat → Nat} {c U : Nat} {v : WD} (hck : c ≤ 6) (ht : TRY mi m D D' c v) (hvw : WJ U v) {a e N R : Nat} {x y : Int32} (hx : x = nI a) (ha : a ≤ 4) (hy : y = nI e) (he : e < 46) (hR : R ≤ 6) (v4 : v.1 4 = nI R) (hN : N ≤ 6) (hcan : canB a R N e = true) (h : ∀ m2, TRY mi m2 D D' c (chW a e v) → Q none (m2, ml, RF D', 164)) : Call G (d + 3) M_X8_makeChange [.ref 1, .int x, .int y] (m, ml, RF D', 164) κ Q := by
  show Run G _ M_X8_makeChange 0 [.ref 1, .int x, .int y] [] _ _ _
  obtain ⟨cp1, -⟩ := cuA_pd (c := c) hck
  obtain ⟨P, hP, h16, -⟩ := ht.n hvw
  have h66 : nn (m 21 6) ≤ 6 := by rw [h16, nnI (by omega)]; exact hP
  have h18 : m 21 8 = nI R := by
    have q : v.1 4 = m 21 8 := by rw [← ht.2.1]; rfl
    exact q.symm.trans v4
  have five : a = 0 ∨ a = 1 ∨ a = 2 ∨ a = 3 ∨ a = 4 := by omega
  rcases five with rfl | rfl | rfl | rfl | rfl
  · have hcn := canB_0.mp hcan
    refine il_1 dX8_makeChange_0 ?_
    refine R_tswI (tgt := 32) dX8_makeChange_1 0 hx (by decide) (by decide) rfl (by decide) ?_
    refine al_0 dX8_makeChange_32 ?_
    refine R_getfr (r := 21) dX8_makeChange_33 fl_RX8_18 rfl sh_1 (Nat.le_of_ble_eq_true rfl) rf_1_1 ?_
    refine il_2 dX8_makeChange_36 ?_
    refine cv_1 dX8_makeChange_37 mm_RX8_234 sh_21 (Nat.le_of_ble_eq_true rfl) ⟨_, rfl, rfl⟩ (Nat.le_of_ble_eq_true rfl) (Nat.le_of_ble_eq_true rfl) (K_beginRoundWith (b := 21) (Or.inr (Or.inl rfl)) h18 (by omega) hR hy (by omega) (fun m2 g1 g2 g3 => ?_))
    refine R_goto (tgt := 91) dX8_makeChange_40 (by decide) ?_
    refine R_return dX8_makeChange_91 rfl ?_
    refine h m2 (ht.next (PF.of (fun q hq => g1 q (by omega) (by omega))) ?_)
    rw [wC_first (Or.inr (Or.inl rfl)) cp1 h66 h18 (by omega) hR g1 g2 g3, ht.2.1]
    rfl
  · have hcn := canB_1.mp hcan
    refine il_1 dX8_makeChange_0 ?_
    refine R_tswI (tgt := 43) dX8_makeChange_1 1 hx (by decide) (by decide) rfl (by decide) ?_
    refine al_0 dX8_makeChange_43 ?_
    refine R_getfr (r := 21) dX8_makeChange_44 fl_RX8_18 rfl sh_1 (Nat.le_of_ble_eq_true rfl) rf_1_1 ?_
    refine il_2 dX8_makeChange_47 ?_
    refine R_bipush (v := 10) dX8_makeChange_48 (by decide) ?_
    refine R_idiv dX8_makeChange_50 (by decide) ?_
    refine il_2 dX8_makeChange_51 ?_
    refine R_bipush (v := 10) dX8_makeChange_52 (by decide) ?_
    refine R_irem dX8_makeChange_54 (by decide) ?_
    refine cv_2 dX8_makeChange_55 mm_RX8_237 sh_21 (Nat.le_of_ble_eq_true rfl) ⟨_, rfl, rfl⟩ (Nat.le_of_ble_eq_true rfl) (Nat.le_of_ble_eq_true rfl) (K_swapInRound (b := 21) (Or.inr (Or.inl rfl)) (i := e / 10) (j := e % 10) (by rw [hy]; exact ten_div he) (by omega) (by rw [hy]; exact ten_rem he) (by omega) ?_)
    refine R_goto (tgt := 91) dX8_makeChange_58 (by decide) ?_
    refine R_return dX8_makeChange_91 rfl ?_
    refine h (rn_u (rn_u m (21 + 3) (e / 10) (m (21 + 3) (e % 10))) (21 + 3) (e % 10) (m (21 + 3) (e / 10))) (ht.next (PF.of (fun q hq => by rw [rn_u_ne (by omega), rn_u_ne (by omega)])) ?_)
    rw [wC_swap (Or.inr (Or.inl rfl)) cp1 h66 h18 hR (by omega) (by omega), ht.2.1]
    rfl
  · have hcn := canB_2.mp hcan
    refine il_1 dX8_makeChange_0 ?_
    refine R_tswI (tgt := 61) dX8_makeChange_1 2 hx (by decide) (by decide) rfl (by decide) ?_
    refine al_0 dX8_makeChange_61 ?_
    refine R_getfr (r := 21) dX8_makeChange_62 fl_RX8_18 rfl sh_1 (Nat.le_of_ble_eq_true rfl) rf_1_1 ?_
    refine il_2 dX8_makeChange_65 ?_
    refine R_putfi dX8_makeChange_66 fl_RX8_240 rfl (Or.inl rfl) sh_21 (Nat.le_of_ble_eq_true rfl) rfl rfl ?_
    refine R_goto (tgt := 91) dX8_makeChange_69 (by decide) ?_
    refine R_return dX8_makeChange_91 rfl ?_
    rw [hy]
    refine h (rn_u m 21 12 (nI e)) (ht.next (PF.of (fun q hq => rn_u_ne (by omega))) ?_)
    rw [wC_s12 (Or.inr (Or.inl rfl)) cp1 h66 (by omega) (by omega), ht.2.1]
    rfl
  · have hcn := canB_3.mp hcan
    refine il_1 dX8_makeChange_0 ?_
    refine R_tswI (tgt := 72) dX8_makeChange_1 3 hx (by decide) (by decide) rfl (by decide) ?_
    refine al_0 dX8_makeChange_72 ?_
    refine R_getfr (r := 21) dX8_makeChange_73 fl_RX8_18 rfl sh_1 (Nat.le_of_ble_eq_true rfl) rf_1_1 ?_
    refine il_2 dX8_makeChange_76 ?_
    refine R_putfi dX8_makeChange_77 fl_RX8_243 rfl (Or.inl rfl) sh_21 (Nat.le_of_ble_eq_true rfl) rfl rfl ?_
    refine R_goto (tgt := 91) dX8_makeChange_80 (by decide) ?_
    refine R_return dX8_makeChange_91 rfl ?_
    rw [hy]
    refine h (rn_u m 21 13 (nI e)) (ht.next (PF.of (fun q hq => rn_u_ne (by omega))) ?_)
    rw [wC_s13 (Or.inr (Or.inl rfl)) cp1 h66, ht.2.1]
    rfl
  · have hcn := canB_4.mp hcan
    refine il_1 dX8_makeChange_0 ?_
    refine R_tswO (tgt := 83) dX8_makeChange_1 (by rw [hx]; decide) (by decide) ?_
    refine al_0 dX8_makeChange_83 ?_
    refine R_getfr (r := 21) dX8_makeChange_84 fl_RX8_18 rfl sh_1 (Nat.le_of_ble_eq_true rfl) rf_1_1 ?_
    refine il_2 dX8_makeChange_87 ?_
    refine cv_1 dX8_makeChange_88 mm_RX8_246 sh_21 (Nat.le_of_ble_eq_true rfl) ⟨_, rfl, rfl⟩ (Nat.le_of_ble_eq_true rfl) (Nat.le_of_ble_eq_true rfl) (K_keepOpen (b := 21) (Or.inr (Or.inl rfl)) ?_)
    refine R_return dX8_makeChange_91 rfl ?_
    rw [hy]
    refine h (rn_u (rn_u m 21 5 (clrB (m 21 5) (nI e))) 21 14 (nI e)) (ht.next (PF.of (fun q hq => by rw [rn_u_ne (by omega), rn_u_ne (by omega)])) ?_)
    rw [wC_opn (Or.inr (Or.inl rfl)) cp1 h66, ht.2.1]
    rfl

theorem blF_stop {val : Nat → Int32} : ∀ (l : List Nat) (b le : Int32), (∀ e ∈ l, 0 ≤ val e) → le ≤ 0 → blF val l b le = b
  | [], _, _, _, _ => rfl
  | e :: l, b, le, h, hl => by
    unfold blF
    rw [if_neg (Int32.not_lt.mpr (Int32.le_trans hl (h e List.mem_cons_self)))]
    exact blF_stop l b le (fun q hq => h q (List.mem_cons_of_mem e hq)) hl
theorem blF_congr {val val' : Nat → Int32} : ∀ (l : List Nat) (b le : Int32), (∀ e ∈ l, val e = val' e) → blF val l b le = blF val' l b le
  | [], _, _, _ => rfl
  | e :: l, b, le, h => by
    unfold blF
    rw [h e List.mem_cons_self]
    split
    · exact blF_congr l _ _ (fun q hq => h q (List.mem_cons_of_mem e hq))
    · exact blF_congr l _ _ (fun q hq => h q (List.mem_cons_of_mem e hq))
theorem blF_lt {val : Nat → Int32} {e : Nat} {l : List Nat} {b le : Int32} (h : val e < le) : blF val (e :: l) b le = blF val l (nI e) (val e) := if_pos h
theorem blF_ge {val : Nat → Int32} {e : Nat} {l : List Nat} {b le : Int32} (h : ¬ val e < le) : blF val (e :: l) b le = blF val l b le := if_neg h
theorem blF_b {val : Nat → Int32} {e : Nat} {l : List Nat} {b b' le : Int32} (h : val e < le) : blF val (e :: l) b le = blF val (e :: l) b' le := by
  unfold blF
  rw [if_pos h, if_pos h]
theorem ls_0 : ∀ R : Fin 7, ∀ N : Fin 7, (List.range' 0 46).filter (canB 0 R.1 N.1) = List.range' 0 R.1 := by decide +kernel
theorem ls_1 : ∀ R : Fin 7, ∀ N : Fin 7, (List.range' 0 46).filter (canB 1 R.1 N.1) = swO R.1 0 R.1 := by decide +kernel
theorem ls_2 : ∀ R : Fin 7, ∀ N : Fin 7, (List.range' 0 46).filter (canB 2 R.1 N.1) = List.range' 1 9 := by decide +kernel
theorem ls_3 : ∀ R : Fin 7, ∀ N : Fin 7, (List.range' 0 46).filter (canB 3 R.1 N.1) = List.range' 0 16 := by decide +kernel
theorem ls_4 : ∀ R : Fin 7, ∀ N : Fin 7, (List.range' 0 46).filter (canB 4 R.1 N.1) = List.range' 0 N.1 := by decide +kernel

set_option maxHeartbeats 4000000 in
theorem L_bestC {G : rn_G} {d : Nat} {κ : Nat × Nat} {Q : Option Value → rn_S → Prop} {mi : Nat → Nat → Int32} {ml : Nat → Nat → Int64} {D : Nat → Nat} {w : WD} {c k : Nat} {ds : Nat → CL} {sl : SL} {el bl : EL} {im : IM} {T : Nat → Nat} {L : Nat} {ac : List Int32} {tp : TP} (hv : IV w c k ds sl el bl im ac tp) (hc : CR w c k ds sl el bl im T L ac tp mi ml D) {V : Int32} {a N R : Nat} {x y : Int32} (hx : x = nI a) (ha : a ≤ 4) (h0 : w.1 0 = nI N) (hN : N ≤ 6) (h4 : w.1 4 = nI R) (hR : R ≤ 6) (h : ∀ m l D', HI mi m ml l → CR w c k ds sl el bl im T L ac tp m l D' → Q (some (.int V)) (m, l, RF D', 164)) : ∀ (n j : Nat) (z b u : Int32) (v6 : Value) (M : Nat → Nat → Int32) (E : Nat → Nat), j + n = 46 → u = nI j → HI mi M ml ml → CR w c k ds sl el bl im T L ac tp M ml E → blF (fun e => leftW (erA (cuL ds c)) (chW a e w)) ((List.range' j n).filter (canB a R N)) b z = V → Run G (d + 28) M_X8_bestChange 9 [.ref 1, .int x, .int y, .int z, .int b, .int u, v6] [] (M, ml, RF E, 164) κ Q := by
  have hw := hv.1.1
  have hck := hv.2.1
  have hk6 := hv.2.2.1
  intro n
  induction n with
  | zero =>
    intro j z b u v6 M E hj hu hhi hcr hV
    have hV0 : b = V := hV
    obtain rfl : j = 46 := by omega
    refine il_5 dX8_bestChange_9 ?_
    refine R_bipush (v := 46) dX8_bestChange_11 (by decide) ?_
    refine R_icmp_ge (tgt := 76) dX8_bestChange_13 (by decide) (fun c13 => ?_) (fun q => absurd q (not_not_intro (by rw [hu]; decide)))
    refine il_4 dX8_bestChange_76 ?_
    refine R_ireturn dX8_bestChange_78 ⟨_, rfl, rfl⟩ ?_
    rw [hV0]
    exact h M ml E hhi hcr
  | succ n ih =>
    intro j z b u v6 M E hj hu hhi hcr hV
    have hMg : M 2 4 = nI N := hcr.1.cells.1.symm.trans h0
    have hMr : M 2 8 = nI R := hcr.1.cells.2.2.2.2.1.symm.trans h4
    have hpos : ∀ e ∈ (List.range' j (n + 1)).filter (canB a R N), 0 ≤ leftW (erA (cuL ds c)) (chW a e w) := fun e he => left_ge0 (chW_wj hw h4 hR hN ha (List.mem_filter.mp he).2) (by decide)
    refine il_5 dX8_bestChange_9 ?_
    refine R_bipush (v := 46) dX8_bestChange_11 (by decide) ?_
    refine R_icmp_ge (tgt := 76) dX8_bestChange_13 (by decide) (fun q => absurd q (by rw [hu]; exact nI_ge (b := 46) (by omega) (by decide))) (fun c13 => ?_)
    refine il_3 dX8_bestChange_16 ?_
    refine R_if_le (tgt := 76) dX8_bestChange_17 (by decide) (fun c17 => ?_) (fun c17 => ?_)
    · refine il_4 dX8_bestChange_76 ?_
      refine R_ireturn dX8_bestChange_78 ⟨_, rfl, rfl⟩ ?_
      rw [blF_stop _ b z hpos (by first | exact c17 | exact Int32.not_lt.mp c17)] at hV
      rw [hV]
      exact h M ml E hhi hcr
    · rw [List.range'_succ] at hV
      refine al_0 dX8_bestChange_20 ?_
      refine il_1 dX8_bestChange_21 ?_
      refine il_5 dX8_bestChange_22 ?_
      refine cv_2 dX8_bestChange_24 mm_RX8_227 sh_1 (Nat.le_of_ble_eq_true rfl) ⟨_, rfl, rfl⟩ (Nat.le_of_ble_eq_true rfl) (Nat.le_of_ble_eq_true rfl) (K_canChange hx ha hu (by omega) hMg hN hMr hR (fun c24 => ?_) (fun c24 => ?_))
      · rw [List.filter_cons_of_pos c24] at hV
        have hwj : WJ 9999 (chW a j w) := chW_wj hw h4 hR hN ha c24
        refine R_if_eq (tgt := 70) dX8_bestChange_27 (by decide) (fun q => absurd q (by decide)) (fun _ => ?_)
        refine al_0 dX8_bestChange_30 ?_
        refine R_getfr (r := 21) dX8_bestChange_31 fl_RX8_18 rfl sh_1 (Nat.le_of_ble_eq_true rfl) rf_1_1 ?_
        refine al_0 dX8_bestChange_34 ?_
        refine R_getfr (r := 2) dX8_bestChange_35 fl_RX8_12 rfl sh_1 (Nat.le_of_ble_eq_true rfl) rf_1_0 ?_
        refine cv_1 dX8_bestChange_38 mm_RX8_210 sh_21 (Nat.le_of_ble_eq_true rfl) ⟨_, rfl, rfl⟩ (Nat.le_of_ble_eq_true rfl) (Nat.le_of_ble_eq_true rfl) (K_trial hv hcr (fun m1 D1 ht1 => ?_))
        refine al_0 dX8_bestChange_41 ?_
        refine il_1 dX8_bestChange_42 ?_
        refine il_5 dX8_bestChange_43 ?_
        refine cv_2 dX8_bestChange_45 mm_RX8_231 sh_1 (Nat.le_of_ble_eq_true rfl) ⟨_, rfl, rfl⟩ (Nat.le_of_ble_eq_true rfl) (Nat.le_of_ble_eq_true rfl) (K_makeChange (by omega) ht1 hw hx ha hu (by omega) hR h4 hN c24 (fun m2 ht2 => ?_))
        refine al_0 dX8_bestChange_48 ?_
        refine R_getfr (r := 21) dX8_bestChange_49 fl_RX8_18 rfl sh_1 (Nat.le_of_ble_eq_true rfl) rf_1_1 ?_
        refine cv_0 dX8_bestChange_52 mm_RX8_220 sh_21 (Nat.le_of_ble_eq_true rfl) ⟨_, rfl, rfl⟩ (Nat.le_of_ble_eq_true rfl) (Nat.le_of_ble_eq_true rfl) (K_tleft hv hcr ht2 hwj (by decide) (fun m3 hpf => ?_))
        have ht3 := ht2.next (v2 := wC m3 (cuA c) 21) hpf rfl
        refine is_6 dX8_bestChange_55 rfl ?_
        refine il_6 dX8_bestChange_57 ?_
        refine il_3 dX8_bestChange_59 ?_
        refine R_icmp_ge (tgt := 70) dX8_bestChange_60 (by decide) (fun c60 => ?_) (fun c60 => ?_)
        · refine ii_5 (v := _ + 1) dX8_bestChange_70 rfl (by rfl) ?_
          refine R_goto (tgt := 9) dX8_bestChange_73 (by decide) ?_
          first
            | (rw [blF_lt (val := (fun e => leftW (erA (cuL ds c)) (chW a e w))) hlt, ← hu] at hV; exact ih (j + 1) _ _ _ _ m3 D1 (by omega) (by rw [hu]; exact sm_add j 1) (fun q hq => ⟨((ht3.hi ml) q hq).1.trans (hhi q hq).1, rfl⟩) (ht3.cr hv hcr) hV)
            | (have hge : ¬ leftW (erA (cuL ds c)) (chW a j w) < z := by first | exact Int32.not_lt.mpr c60 | exact c60
               rw [blF_ge (val := (fun e => leftW (erA (cuL ds c)) (chW a e w))) hge] at hV; exact ih (j + 1) _ _ _ _ m3 D1 (by omega) (by rw [hu]; exact sm_add j 1) (fun q hq => ⟨((ht3.hi ml) q hq).1.trans (hhi q hq).1, rfl⟩) (ht3.cr hv hcr) hV)
            | exact ih (j + 1) _ _ _ _ M E (by omega) (by rw [hu]; exact sm_add j 1) hhi hcr hV
        · have hlt : leftW (erA (cuL ds c)) (chW a j w) < z := by first | exact c60 | exact Int32.not_le.mp c60
          refine il_6 dX8_bestChange_63 ?_
          refine is_3 dX8_bestChange_65 rfl ?_
          refine il_5 dX8_bestChange_66 ?_
          refine is_4 dX8_bestChange_68 rfl ?_
          refine ii_5 (v := _ + 1) dX8_bestChange_70 rfl (by rfl) ?_
          refine R_goto (tgt := 9) dX8_bestChange_73 (by decide) ?_
          first
            | (rw [blF_lt (val := (fun e => leftW (erA (cuL ds c)) (chW a e w))) hlt, ← hu] at hV; exact ih (j + 1) _ _ _ _ m3 D1 (by omega) (by rw [hu]; exact sm_add j 1) (fun q hq => ⟨((ht3.hi ml) q hq).1.trans (hhi q hq).1, rfl⟩) (ht3.cr hv hcr) hV)
            | (have hge : ¬ leftW (erA (cuL ds c)) (chW a j w) < z := by first | exact Int32.not_lt.mpr c60 | exact c60
               rw [blF_ge (val := (fun e => leftW (erA (cuL ds c)) (chW a e w))) hge] at hV; exact ih (j + 1) _ _ _ _ m3 D1 (by omega) (by rw [hu]; exact sm_add j 1) (fun q hq => ⟨((ht3.hi ml) q hq).1.trans (hhi q hq).1, rfl⟩) (ht3.cr hv hcr) hV)
            | exact ih (j + 1) _ _ _ _ M E (by omega) (by rw [hu]; exact sm_add j 1) hhi hcr hV
      · rw [List.filter_cons_of_neg c24] at hV
        refine R_if_eq (tgt := 70) dX8_bestChange_27 (by decide) (fun _ => ?_) (fun q => absurd q (by decide))
        refine ii_5 (v := _ + 1) dX8_bestChange_70 rfl (by rfl) ?_
        refine R_goto (tgt := 9) dX8_bestChange_73 (by decide) ?_
        first
          | (rw [blF_lt (val := (fun e => leftW (erA (cuL ds c)) (chW a e w))) hlt, ← hu] at hV; exact ih (j + 1) _ _ _ _ m3 D1 (by omega) (by rw [hu]; exact sm_add j 1) (fun q hq => ⟨((ht3.hi ml) q hq).1.trans (hhi q hq).1, rfl⟩) (ht3.cr hv hcr) hV)
          | (have hge : ¬ leftW (erA (cuL ds c)) (chW a j w) < z := by first | exact Int32.not_lt.mpr c60 | exact c60
             rw [blF_ge (val := (fun e => leftW (erA (cuL ds c)) (chW a e w))) hge] at hV; exact ih (j + 1) _ _ _ _ m3 D1 (by omega) (by rw [hu]; exact sm_add j 1) (fun q hq => ⟨((ht3.hi ml) q hq).1.trans (hhi q hq).1, rfl⟩) (ht3.cr hv hcr) hV)
          | exact ih (j + 1) _ _ _ _ M E (by omega) (by rw [hu]; exact sm_add j 1) hhi hcr hV

set_option maxHeartbeats 4000000 in
theorem K_bestChange {G : rn_G} {d : Nat} {κ : Nat × Nat} {Q : Option Value → rn_S → Prop} {mi : Nat → Nat → Int32} {ml : Nat → Nat → Int64} {D : Nat → Nat} {w : WD} {c k : Nat} {ds : Nat → CL} {sl : SL} {el bl : EL} {im : IM} {T : Nat → Nat} {L : Nat} {ac : List Int32} {tp : TP} (hv : IV w c k ds sl el bl im ac tp) (hc : CR w c k ds sl el bl im T L ac tp mi ml D) {V : Int32} {a N R : Nat} {x y : Int32} (hx : x = nI a) (ha : a ≤ 4) (h0 : w.1 0 = nI N) (hN : N ≤ 6) (h4 : w.1 4 = nI R) (hR : R ≤ 6) (hV : blF (fun e => leftW (erA (cuL ds c)) (chW a e w)) ((List.range' 0 46).filter (canB a R N)) (-5) y = V) (h : ∀ m l D', HI mi m ml l → CR w c k ds sl el bl im T L ac tp m l D' → Q (some (.int V)) (m, l, RF D', 164)) : Call G (d + 28) M_X8_bestChange [.ref 1, .int x, .int y] (mi, ml, RF D, 164) κ Q := by
  show Run G _ M_X8_bestChange 0 [.ref 1, .int x, .int y, .null, .null, .null, .null] [] _ _ _
  refine il_2 dX8_bestChange_0 ?_
  refine is_3 dX8_bestChange_1 rfl ?_
  refine R_bipush (v := -5) dX8_bestChange_2 (by decide) ?_
  refine is_4 dX8_bestChange_4 rfl ?_
  refine R_iconst (v := 0) dX8_bestChange_6 (by decide) ?_
  refine is_5 dX8_bestChange_7 rfl ?_
  exact L_bestC hv hc hx ha h0 hN h4 hR h 46 0 _ _ _ _ mi D rfl rfl (HI.refl _ _) hc hV

set_option maxHeartbeats 4000000 in
theorem KC_best {G : rn_G} {d : Nat} {κ : Nat × Nat} {Q : Option Value → rn_S → Prop} {mi : Nat → Nat → Int32} {ml : Nat → Nat → Int64} {D : Nat → Nat} {x : Int32} {w : WD} {c k : Nat} {ds : Nat → CL} {sl : SL} {el bl : EL} {im : IM} {T : Nat → Nat} {L : Nat} {ac : List Int32} {tp : TP} (hv : IV w c k ds sl el bl im ac tp) (hc : CR w c k ds sl el bl im T L ac tp mi ml D) (h : ∀ m l D', HI mi m ml l → CR w c k ds sl el bl im T L ac tp m l D' → Q (some (.int (bestA (cuL ds c) w x))) (m, l, RF D', 164))  : Call G (d + 29) M_X8_best [.ref 1, .int x] (mi, ml, RF D, 164) κ Q := by
  show Run G _ M_X8_best 0 [.ref 1, .int x, .null, .null] [] _ _ _
  have hw := hv.1.1
  have hk6 := hv.2.2.1
  have hck := hv.2.1
  have hB : PB 2 := Or.inl rfl
  obtain ⟨hD2, hwc, z12, z13, z14⟩ := hc.1
  obtain ⟨cp1, cp2, cp3, cp4⟩ := cuA_pd (c := c) (by omega)
  have hkD : PD (D 2) := by rw [hD2]; exact cp1
  obtain ⟨N, P, R, hN, hP, hR, hg, hpp, hrr, hPJ⟩ := hc.1.n hw
  obtain ⟨w0, w1, w2, w3, w4, w5, w6⟩ := hc.1.cells
  have nR : nn (w.1 4) = R := by rw [w4, hrr]; exact nnI (by omega)
  have nN : nn (w.1 0) = N := by rw [w0, hg]; exact nnI (by omega)
  refine il_1 dX8_best_0 ?_
  refine R_if_lt (tgt := 9) dX8_best_1 (by decide) (fun c1 => ?_) (fun c1 => ?_)
  · have nx : ∀ {q : Int32}, x = q → ¬ (0 ≤ q ∧ q ≤ 5) := fun e q => by first | exact Int32.not_lt.mpr q.1 (by rw [← e]; first | exact c1 | exact Int32.not_le.mp c1) | exact Int32.not_lt.mpr q.2 (by rw [← e]; first | exact c6 | exact Int32.not_le.mp c6)
    refine R_iconst (v := -1) dX8_best_9 (by decide) ?_
    refine R_ireturn dX8_best_10 ⟨_, rfl, rfl⟩ ?_
    unfold bestA at h
    rw [if_neg (fun q => nx q (by decide)), if_neg (fun q => nx q (by decide)), if_neg (fun q => nx q (by decide)), if_neg (fun q => nx q (by decide)), if_neg (fun q => nx q (by decide)), if_neg (fun q => nx q (by decide))] at h
    exact h mi ml D (HI.refl _ _) hc
  · refine il_1 dX8_best_4 ?_
    refine R_iconst (v := 5) dX8_best_5 (by decide) ?_
    refine R_icmp_le (tgt := 11) dX8_best_6 (by decide) (fun c6 => ?_) (fun c6 => ?_)
    · refine al_0 dX8_best_11 ?_
      refine R_getfr (r := 21) dX8_best_12 fl_RX8_18 rfl sh_1 (Nat.le_of_ble_eq_true rfl) rf_1_1 ?_
      refine al_0 dX8_best_15 ?_
      refine R_getfr (r := 2) dX8_best_16 fl_RX8_12 rfl sh_1 (Nat.le_of_ble_eq_true rfl) rf_1_0 ?_
      refine cv_1 dX8_best_19 mm_RX8_210 sh_21 (Nat.le_of_ble_eq_true rfl) ⟨_, rfl, rfl⟩ (Nat.le_of_ble_eq_true rfl) (Nat.le_of_ble_eq_true rfl) (K_trial hv hc (fun m1 D1 ht1 => ?_))
      refine al_0 dX8_best_22 ?_
      refine R_getfr (r := 21) dX8_best_23 fl_RX8_18 rfl sh_1 (Nat.le_of_ble_eq_true rfl) rf_1_1 ?_
      refine cv_0 dX8_best_26 mm_RX8_220 sh_21 (Nat.le_of_ble_eq_true rfl) ⟨_, rfl, rfl⟩ (Nat.le_of_ble_eq_true rfl) (Nat.le_of_ble_eq_true rfl) (K_tleft hv hc ht1 hw (by decide) (fun m3 hpf => ?_))
      have ht3 := ht1.next (v2 := wC m3 (cuA c) 21) hpf rfl
      have hc3 := ht3.cr hv hc
      have hi3 := ht3.hi ml
      refine is_2 dX8_best_29 rfl ?_
      refine il_1 dX8_best_30 ?_
      refine R_iconst (v := 5) dX8_best_31 (by decide) ?_
      refine R_icmp_ne (tgt := 37) dX8_best_32 (by decide) (fun c32 => ?_) (fun c32 => ?_)
      · obtain ⟨a, ha6, hx⟩ := sm_of (show 0 ≤ x by first | exact c1 | exact Int32.not_lt.mp c1) ((lt_succ_iff (a := 5)).mpr (by first | exact c6 | exact Int32.not_lt.mp c6)) (by decide)
        have ha5 : ¬ a = 5 := fun q => c32 (by rw [hx, q]; rfl)
        refine il_1 dX8_best_37 ?_
        refine R_iconst (v := 1) dX8_best_38 (by decide) ?_
        refine R_icmp_eq (tgt := 47) dX8_best_39 (by decide) (fun c39 => ?_) (fun c39 => ?_)
        · refine R_iconst (v := 1) dX8_best_47 (by decide) ?_
          refine R_goto (tgt := 52) dX8_best_48 (by decide) ?_
          refine is_3 dX8_best_52 rfl ?_
          refine al_0 dX8_best_53 ?_
          refine il_1 dX8_best_54 ?_
          refine il_3 dX8_best_55 ?_
          refine R_if_eq (tgt := 63) dX8_best_56 (by decide) (fun q => absurd q (by decide)) (fun _ => ?_)
          refine il_2 dX8_best_59 ?_
          refine R_goto (tgt := 65) dX8_best_60 (by decide) ?_
          refine cv_2 dX8_best_65 mm_RX8_223 sh_1 (Nat.le_of_ble_eq_true rfl) ⟨_, rfl, rfl⟩ (Nat.le_of_ble_eq_true rfl) (Nat.le_of_ble_eq_true rfl) (K_bestChange hv hc3 hx (by omega) (w0.trans hg) hN (w4.trans hrr) hR rfl (fun m l D2 hh hcc => ?_))
          refine R_ireturn dX8_best_68 ⟨_, rfl, rfl⟩ ?_
          unfold bestA at h
          refine ret_eq (h m l D2 (fun q hq => ⟨(hh q hq).1.trans (hi3 q hq).1, (hh q hq).2.trans (hi3 q hq).2⟩) hcc) rfl ?_
          rw [nR, nN]
          have l0 : (List.range' 0 46).filter (canB 0 R N) = List.range' 0 R := ls_0 ⟨R, by omega⟩ ⟨N, by omega⟩
          have l1 : (List.range' 0 46).filter (canB 1 R N) = swO R 0 R := ls_1 ⟨R, by omega⟩ ⟨N, by omega⟩
          have l2 : (List.range' 0 46).filter (canB 2 R N) = List.range' 1 9 := ls_2 ⟨R, by omega⟩ ⟨N, by omega⟩
          have l3 : (List.range' 0 46).filter (canB 3 R N) = List.range' 0 16 := ls_3 ⟨R, by omega⟩ ⟨N, by omega⟩
          have l4 : (List.range' 0 46).filter (canB 4 R N) = List.range' 0 N := ls_4 ⟨R, by omega⟩ ⟨N, by omega⟩
          have five : a = 0 ∨ a = 1 ∨ a = 2 ∨ a = 3 ∨ a = 4 := by omega
          rcases five with rfl | rfl | rfl | rfl | rfl
          · first
            | exact absurd (show x = 1 from by first | exact c39 | exact Classical.not_not.mp c39) (by rw [hx]; decide)
            | exact absurd (show x = 4 from by first | exact c44 | exact Classical.not_not.mp c44) (by rw [hx]; decide)
            | (rw [if_pos (show x = 0 from hx)]; rw [l0]; exact blF_congr _ _ _ (fun e _ => congrArg (leftW (erA (cuL ds c))) chW_0))
          · first
            | exact absurd (show x = 1 from hx) (by first | exact c39 | exact fun q => c39 q)
            | (rw [if_neg (show ¬ x = 0 by rw [hx]; decide), if_pos (show x = 1 from hx)]; rw [l1]; exact blF_congr _ _ _ (fun e _ => congrArg (leftW (erA (cuL ds c))) chW_1))
          · first
            | exact absurd (show x = 1 from by first | exact c39 | exact Classical.not_not.mp c39) (by rw [hx]; decide)
            | exact absurd (show x = 4 from by first | exact c44 | exact Classical.not_not.mp c44) (by rw [hx]; decide)
            | (rw [if_neg (show ¬ x = 0 by rw [hx]; decide), if_neg (show ¬ x = 1 by rw [hx]; decide), if_pos (show x = 2 from hx)]; rw [l2]; exact (blF_congr _ _ _ (fun e _ => congrArg (leftW (erA (cuL ds c))) chW_2)).trans (blF_b (left_lt7 (hw.s7 (a := 1) (by decide)) (by decide))))
          · first
            | exact absurd (show x = 1 from by first | exact c39 | exact Classical.not_not.mp c39) (by rw [hx]; decide)
            | exact absurd (show x = 4 from by first | exact c44 | exact Classical.not_not.mp c44) (by rw [hx]; decide)
            | (rw [if_neg (show ¬ x = 0 by rw [hx]; decide), if_neg (show ¬ x = 1 by rw [hx]; decide), if_neg (show ¬ x = 2 by rw [hx]; decide), if_pos (show x = 3 from hx)]; rw [l3]; exact (blF_congr _ _ _ (fun e _ => congrArg (leftW (erA (cuL ds c))) chW_3)).trans (blF_b (left_lt7 (hw.s8 (a := 0) (by decide)) (by decide))))
          · first
            | exact absurd (show x = 4 from hx) (by first | exact c44 | exact fun q => c44 q)
            | exact absurd (show x = 1 from by first | exact c39 | exact Classical.not_not.mp c39) (by rw [hx]; decide)
            | (rw [if_neg (show ¬ x = 0 by rw [hx]; decide), if_neg (show ¬ x = 1 by rw [hx]; decide), if_neg (show ¬ x = 2 by rw [hx]; decide), if_neg (show ¬ x = 3 by rw [hx]; decide), if_pos (show x = 4 from hx)]; rw [l4]; exact blF_congr _ _ _ (fun e _ => congrArg (leftW (erA (cuL ds c))) chW_4))
        · refine il_1 dX8_best_42 ?_
          refine R_iconst (v := 4) dX8_best_43 (by decide) ?_
          refine R_icmp_ne (tgt := 51) dX8_best_44 (by decide) (fun c44 => ?_) (fun c44 => ?_)
          · refine R_iconst (v := 0) dX8_best_51 (by decide) ?_
            refine is_3 dX8_best_52 rfl ?_
            refine al_0 dX8_best_53 ?_
            refine il_1 dX8_best_54 ?_
            refine il_3 dX8_best_55 ?_
            refine R_if_eq (tgt := 63) dX8_best_56 (by decide) (fun _ => ?_) (fun q => absurd q (by decide))
            refine R_bipush (v := 7) dX8_best_63 (by decide) ?_
            refine cv_2 dX8_best_65 mm_RX8_223 sh_1 (Nat.le_of_ble_eq_true rfl) ⟨_, rfl, rfl⟩ (Nat.le_of_ble_eq_true rfl) (Nat.le_of_ble_eq_true rfl) (K_bestChange hv hc3 hx (by omega) (w0.trans hg) hN (w4.trans hrr) hR rfl (fun m l D2 hh hcc => ?_))
            refine R_ireturn dX8_best_68 ⟨_, rfl, rfl⟩ ?_
            unfold bestA at h
            refine ret_eq (h m l D2 (fun q hq => ⟨(hh q hq).1.trans (hi3 q hq).1, (hh q hq).2.trans (hi3 q hq).2⟩) hcc) rfl ?_
            rw [nR, nN]
            have l0 : (List.range' 0 46).filter (canB 0 R N) = List.range' 0 R := ls_0 ⟨R, by omega⟩ ⟨N, by omega⟩
            have l1 : (List.range' 0 46).filter (canB 1 R N) = swO R 0 R := ls_1 ⟨R, by omega⟩ ⟨N, by omega⟩
            have l2 : (List.range' 0 46).filter (canB 2 R N) = List.range' 1 9 := ls_2 ⟨R, by omega⟩ ⟨N, by omega⟩
            have l3 : (List.range' 0 46).filter (canB 3 R N) = List.range' 0 16 := ls_3 ⟨R, by omega⟩ ⟨N, by omega⟩
            have l4 : (List.range' 0 46).filter (canB 4 R N) = List.range' 0 N := ls_4 ⟨R, by omega⟩ ⟨N, by omega⟩
            have five : a = 0 ∨ a = 1 ∨ a = 2 ∨ a = 3 ∨ a = 4 := by omega
            rcases five with rfl | rfl | rfl | rfl | rfl
            · first
              | exact absurd (show x = 1 from by first | exact c39 | exact Classical.not_not.mp c39) (by rw [hx]; decide)
              | exact absurd (show x = 4 from by first | exact c44 | exact Classical.not_not.mp c44) (by rw [hx]; decide)
              | (rw [if_pos (show x = 0 from hx)]; rw [l0]; exact blF_congr _ _ _ (fun e _ => congrArg (leftW (erA (cuL ds c))) chW_0))
            · first
              | exact absurd (show x = 1 from hx) (by first | exact c39 | exact fun q => c39 q)
              | (rw [if_neg (show ¬ x = 0 by rw [hx]; decide), if_pos (show x = 1 from hx)]; rw [l1]; exact blF_congr _ _ _ (fun e _ => congrArg (leftW (erA (cuL ds c))) chW_1))
            · first
              | exact absurd (show x = 1 from by first | exact c39 | exact Classical.not_not.mp c39) (by rw [hx]; decide)
              | exact absurd (show x = 4 from by first | exact c44 | exact Classical.not_not.mp c44) (by rw [hx]; decide)
              | (rw [if_neg (show ¬ x = 0 by rw [hx]; decide), if_neg (show ¬ x = 1 by rw [hx]; decide), if_pos (show x = 2 from hx)]; rw [l2]; exact (blF_congr _ _ _ (fun e _ => congrArg (leftW (erA (cuL ds c))) chW_2)).trans (blF_b (left_lt7 (hw.s7 (a := 1) (by decide)) (by decide))))
            · first
              | exact absurd (show x = 1 from by first | exact c39 | exact Classical.not_not.mp c39) (by rw [hx]; decide)
              | exact absurd (show x = 4 from by first | exact c44 | exact Classical.not_not.mp c44) (by rw [hx]; decide)
              | (rw [if_neg (show ¬ x = 0 by rw [hx]; decide), if_neg (show ¬ x = 1 by rw [hx]; decide), if_neg (show ¬ x = 2 by rw [hx]; decide), if_pos (show x = 3 from hx)]; rw [l3]; exact (blF_congr _ _ _ (fun e _ => congrArg (leftW (erA (cuL ds c))) chW_3)).trans (blF_b (left_lt7 (hw.s8 (a := 0) (by decide)) (by decide))))
            · first
              | exact absurd (show x = 4 from hx) (by first | exact c44 | exact fun q => c44 q)
              | exact absurd (show x = 1 from by first | exact c39 | exact Classical.not_not.mp c39) (by rw [hx]; decide)
              | (rw [if_neg (show ¬ x = 0 by rw [hx]; decide), if_neg (show ¬ x = 1 by rw [hx]; decide), if_neg (show ¬ x = 2 by rw [hx]; decide), if_neg (show ¬ x = 3 by rw [hx]; decide), if_pos (show x = 4 from hx)]; rw [l4]; exact blF_congr _ _ _ (fun e _ => congrArg (leftW (erA (cuL ds c))) chW_4))
          · refine R_iconst (v := 1) dX8_best_47 (by decide) ?_
            refine R_goto (tgt := 52) dX8_best_48 (by decide) ?_
            refine is_3 dX8_best_52 rfl ?_
            refine al_0 dX8_best_53 ?_
            refine il_1 dX8_best_54 ?_
            refine il_3 dX8_best_55 ?_
            refine R_if_eq (tgt := 63) dX8_best_56 (by decide) (fun q => absurd q (by decide)) (fun _ => ?_)
            refine il_2 dX8_best_59 ?_
            refine R_goto (tgt := 65) dX8_best_60 (by decide) ?_
            refine cv_2 dX8_best_65 mm_RX8_223 sh_1 (Nat.le_of_ble_eq_true rfl) ⟨_, rfl, rfl⟩ (Nat.le_of_ble_eq_true rfl) (Nat.le_of_ble_eq_true rfl) (K_bestChange hv hc3 hx (by omega) (w0.trans hg) hN (w4.trans hrr) hR rfl (fun m l D2 hh hcc => ?_))
            refine R_ireturn dX8_best_68 ⟨_, rfl, rfl⟩ ?_
            unfold bestA at h
            refine ret_eq (h m l D2 (fun q hq => ⟨(hh q hq).1.trans (hi3 q hq).1, (hh q hq).2.trans (hi3 q hq).2⟩) hcc) rfl ?_
            rw [nR, nN]
            have l0 : (List.range' 0 46).filter (canB 0 R N) = List.range' 0 R := ls_0 ⟨R, by omega⟩ ⟨N, by omega⟩
            have l1 : (List.range' 0 46).filter (canB 1 R N) = swO R 0 R := ls_1 ⟨R, by omega⟩ ⟨N, by omega⟩
            have l2 : (List.range' 0 46).filter (canB 2 R N) = List.range' 1 9 := ls_2 ⟨R, by omega⟩ ⟨N, by omega⟩
            have l3 : (List.range' 0 46).filter (canB 3 R N) = List.range' 0 16 := ls_3 ⟨R, by omega⟩ ⟨N, by omega⟩
            have l4 : (List.range' 0 46).filter (canB 4 R N) = List.range' 0 N := ls_4 ⟨R, by omega⟩ ⟨N, by omega⟩
            have five : a = 0 ∨ a = 1 ∨ a = 2 ∨ a = 3 ∨ a = 4 := by omega
            rcases five with rfl | rfl | rfl | rfl | rfl
            · first
              | exact absurd (show x = 1 from by first | exact c39 | exact Classical.not_not.mp c39) (by rw [hx]; decide)
              | exact absurd (show x = 4 from by first | exact c44 | exact Classical.not_not.mp c44) (by rw [hx]; decide)
              | (rw [if_pos (show x = 0 from hx)]; rw [l0]; exact blF_congr _ _ _ (fun e _ => congrArg (leftW (erA (cuL ds c))) chW_0))
            · first
              | exact absurd (show x = 1 from hx) (by first | exact c39 | exact fun q => c39 q)
              | (rw [if_neg (show ¬ x = 0 by rw [hx]; decide), if_pos (show x = 1 from hx)]; rw [l1]; exact blF_congr _ _ _ (fun e _ => congrArg (leftW (erA (cuL ds c))) chW_1))
            · first
              | exact absurd (show x = 1 from by first | exact c39 | exact Classical.not_not.mp c39) (by rw [hx]; decide)
              | exact absurd (show x = 4 from by first | exact c44 | exact Classical.not_not.mp c44) (by rw [hx]; decide)
              | (rw [if_neg (show ¬ x = 0 by rw [hx]; decide), if_neg (show ¬ x = 1 by rw [hx]; decide), if_pos (show x = 2 from hx)]; rw [l2]; exact (blF_congr _ _ _ (fun e _ => congrArg (leftW (erA (cuL ds c))) chW_2)).trans (blF_b (left_lt7 (hw.s7 (a := 1) (by decide)) (by decide))))
            · first
              | exact absurd (show x = 1 from by first | exact c39 | exact Classical.not_not.mp c39) (by rw [hx]; decide)
              | exact absurd (show x = 4 from by first | exact c44 | exact Classical.not_not.mp c44) (by rw [hx]; decide)
              | (rw [if_neg (show ¬ x = 0 by rw [hx]; decide), if_neg (show ¬ x = 1 by rw [hx]; decide), if_neg (show ¬ x = 2 by rw [hx]; decide), if_pos (show x = 3 from hx)]; rw [l3]; exact (blF_congr _ _ _ (fun e _ => congrArg (leftW (erA (cuL ds c))) chW_3)).trans (blF_b (left_lt7 (hw.s8 (a := 0) (by decide)) (by decide))))
            · first
              | exact absurd (show x = 4 from hx) (by first | exact c44 | exact fun q => c44 q)
              | exact absurd (show x = 1 from by first | exact c39 | exact Classical.not_not.mp c39) (by rw [hx]; decide)
              | (rw [if_neg (show ¬ x = 0 by rw [hx]; decide), if_neg (show ¬ x = 1 by rw [hx]; decide), if_neg (show ¬ x = 2 by rw [hx]; decide), if_neg (show ¬ x = 3 by rw [hx]; decide), if_pos (show x = 4 from hx)]; rw [l4]; exact blF_congr _ _ _ (fun e _ => congrArg (leftW (erA (cuL ds c))) chW_4))
      · refine il_2 dX8_best_35 ?_
        refine R_ireturn dX8_best_36 ⟨_, rfl, rfl⟩ ?_
        unfold bestA at h
        rw [c32, if_neg (by decide), if_neg (by decide), if_neg (by decide), if_neg (by decide), if_neg (by decide), if_pos rfl] at h
        exact h m3 ml D1 hi3 hc3
    · have nx : ∀ {q : Int32}, x = q → ¬ (0 ≤ q ∧ q ≤ 5) := fun e q => by first | exact Int32.not_lt.mpr q.1 (by rw [← e]; first | exact c1 | exact Int32.not_le.mp c1) | exact Int32.not_lt.mpr q.2 (by rw [← e]; first | exact c6 | exact Int32.not_le.mp c6)
      refine R_iconst (v := -1) dX8_best_9 (by decide) ?_
      refine R_ireturn dX8_best_10 ⟨_, rfl, rfl⟩ ?_
      unfold bestA at h
      rw [if_neg (fun q => nx q (by decide)), if_neg (fun q => nx q (by decide)), if_neg (fun q => nx q (by decide)), if_neg (fun q => nx q (by decide)), if_neg (fun q => nx q (by decide)), if_neg (fun q => nx q (by decide))] at h
      exact h mi ml D (HI.refl _ _) hc
