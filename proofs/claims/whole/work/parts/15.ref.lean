/-! the reference: small functions; ways; the clauses that hold -/
def upM (a b : Int32) : Int32 := if b < a then b - a + 30 else b - a
def wayM (a b : Int32) : Int32 := if 15 < upM a b then 30 - upM a b else upM a b
def minM (s w : Int32) : Int32 := if s < w then s else w
def towM (a b s : Int32) : Int32 := if 15 < upM a b then remJ (a - minM s (wayM a b) + 30) 30 else remJ (a + minM s (wayM a b)) 30
theorem wayM_d : ∀ a : Fin 30, ∀ b : Fin 30, wayM (nI a) (nI b) = wayC (nI a) (nI b) := by decide +kernel
theorem wayM_eq {a b : Nat} (ha : a < 30) (hb : b < 30) : wayM (nI a) (nI b) = wayC (nI a) (nI b) := wayM_d ⟨a, ha⟩ ⟨b, hb⟩
set_option maxRecDepth 100000 in
theorem towM_d : ∀ s : Fin 12, ∀ a : Fin 30, ∀ b : Fin 30, towM (nI a) (nI b) (nI s) = towC (nI a) (nI b) (nI s) ∧ towC (nI a) (nI b) (nI s) < 30 ∧ 0 ≤ towC (nI a) (nI b) (nI s) := by decide +kernel
theorem towM_eq {a b s : Nat} (ha : a < 30) (hb : b < 30) (hs : s < 12) : towM (nI a) (nI b) (nI s) = towC (nI a) (nI b) (nI s) := (towM_d ⟨s, hs⟩ ⟨a, ha⟩ ⟨b, hb⟩).1
theorem towC_rng {a b s : Nat} (ha : a < 30) (hb : b < 30) (hs : s < 12) : ∃ m, m < 30 ∧ towC (nI a) (nI b) (nI s) = nI m := by
  obtain ⟨-, h1, h2⟩ := towM_d ⟨s, hs⟩ ⟨a, ha⟩ ⟨b, hb⟩
  exact sm_of h2 (show _ < nI 30 from h1) (by decide)
def onJ : Nat → Int32 → Int32 → Int32
  | 0, _, n => n
  | k + 1, l, n => if l = 0 then n else onJ k (l &&& (l - 1)) (n + 1)
def onZ : Nat → Int32 → Bool
  | 0, l => l == 0
  | k + 1, l => l == 0 || onZ k (l &&& (l - 1))
theorem onJ_d : ∀ m : Fin 64, onZ 6 (nI m) = true ∧ onJ 6 (nI m) 0 = popJ (nI m) := by decide +kernel
def begM (mi : Nat → Nat → Int32) : Int32 := if mi 116 17 < 0 then 0 else 10 * mi 116 17
def behM (mi : Nat → Nat → Int32) : Int32 := if mi 116 17 < 0 then 0 else 10 * mi 116 17 + mi 125 (nn (mi 116 17))
def okThe (mi : Nat → Nat → Int32) : Prop := mi 116 17 < 0 ∨ ∃ t, t < 6 ∧ mi 116 17 = nI t
/-- the reference's rows from B on hold these clauses -/
def DMB (mi : Nat → Nat → Int32) (B : Nat) (cl : CL) : Prop := ∀ c q, cl[c]? = some q → mi 126 (B + c) = nI q.1 ∧ mi 127 (B + c) = nI q.2.1 ∧ (q.1 ≤ 1 → ∃ f, f + q.2.2.length ≤ 600 ∧ mi 128 (B + c) = nI f ∧ mi 129 (B + c) = nI (f + q.2.2.length) ∧ ∀ j t, q.2.2[j]? = some t → mi 130 (f + j) = tM t)
def CM (mi : Nat → Nat → Int32) (cl : CL) : Prop := okThe mi ∧ (∀ q ∈ cl, okC q) ∧ ∃ B, B + cl.length ≤ 60 ∧ begM mi = nI B ∧ behM mi = nI (B + cl.length) ∧ DMB mi B cl
def paceA (p : Int32) (cl : CL) : Int32 := clampP (if 0 ≤ p then p else lastA 3 cl 3)

set_option maxHeartbeats 4000000 in
theorem M_in {G : rn_G} {d : Nat} {κ : Nat × Nat} {Q : Option Value → rn_S → Prop} {mi : Nat → Nat → Int32} {ml : Nat → Nat → Int64} {D : Nat → Nat} {x y z : Int32} (h1 : y ≤ x ∧ x ≤ z → Q (some (.int 1)) (mi, ml, RF D, 164)) (h0 : ¬ (y ≤ x ∧ x ≤ z) → Q (some (.int 0)) (mi, ml, RF D, 164)) : Call G (d) M_X9_in [.ref 116, .int x, .int y, .int z] (mi, ml, RF D, 164) κ Q := by
  show Run G _ M_X9_in 0 [.ref 116, .int x, .int y, .int z] [] _ _ _
  refine il_1 dX9_in_0 ?_
  refine il_2 dX9_in_1 ?_
  refine R_icmp_lt (tgt := 14) dX9_in_2 (by decide) (fun c2 => ?_) (fun c2 => ?_)
  · refine R_iconst (v := 0) dX9_in_14 (by decide) ?_
    refine R_ireturn dX9_in_15 ⟨_, rfl, rfl⟩ ?_
    exact h0 (fun q => by first | exact Int32.not_lt.mpr q.1 c2 | exact Int32.not_lt.mpr q.2 c7)
  · refine il_1 dX9_in_5 ?_
    refine il_3 dX9_in_6 ?_
    refine R_icmp_gt (tgt := 14) dX9_in_7 (by decide) (fun c7 => ?_) (fun c7 => ?_)
    · refine R_iconst (v := 0) dX9_in_14 (by decide) ?_
      refine R_ireturn dX9_in_15 ⟨_, rfl, rfl⟩ ?_
      exact h0 (fun q => by first | exact Int32.not_lt.mpr q.1 c2 | exact Int32.not_lt.mpr q.2 c7)
    · refine R_iconst (v := 1) dX9_in_10 (by decide) ?_
      refine R_goto (tgt := 15) dX9_in_11 (by decide) ?_
      refine R_ireturn dX9_in_15 ⟨_, rfl, rfl⟩ ?_
      exact h1 ⟨Int32.not_lt.mp c2, Int32.not_lt.mp c7⟩

set_option maxHeartbeats 4000000 in
theorem M_has {G : rn_G} {d : Nat} {κ : Nat × Nat} {Q : Option Value → rn_S → Prop} {mi : Nat → Nat → Int32} {ml : Nat → Nat → Int64} {D : Nat → Nat} {x y : Int32} (h1 : bitD x y = 1 → Q (some (.int 1)) (mi, ml, RF D, 164)) (h0 : ¬ (bitD x y = 1) → Q (some (.int 0)) (mi, ml, RF D, 164)) : Call G (d) M_X9_has [.ref 116, .int x, .int y] (mi, ml, RF D, 164) κ Q := by
  show Run G _ M_X9_has 0 [.ref 116, .int x, .int y] [] _ _ _
  refine il_1 dX9_has_0 ?_
  refine il_2 dX9_has_1 ?_
  refine R_ishr dX9_has_2 ?_
  refine R_iconst (v := 1) dX9_has_3 (by decide) ?_
  refine R_iand dX9_has_4 ?_
  refine R_iconst (v := 1) dX9_has_5 (by decide) ?_
  refine R_icmp_ne (tgt := 13) dX9_has_6 (by decide) (fun c6 => ?_) (fun c6 => ?_)
  · refine R_iconst (v := 0) dX9_has_13 (by decide) ?_
    refine R_ireturn dX9_has_14 ⟨_, rfl, rfl⟩ ?_
    exact h0 c6
  · refine R_iconst (v := 1) dX9_has_9 (by decide) ?_
    refine R_goto (tgt := 14) dX9_has_10 (by decide) ?_
    refine R_ireturn dX9_has_14 ⟨_, rfl, rfl⟩ ?_
    exact h1 c6

set_option maxHeartbeats 4000000 in
theorem M_with0 {G : rn_G} {d : Nat} {κ : Nat × Nat} {Q : Option Value → rn_S → Prop} {mi : Nat → Nat → Int32} {ml : Nat → Nat → Int64} {D : Nat → Nat} {x y z : Int32} (h : Q (some (.int (if z = 0 then clrB x y else setB x y))) (mi, ml, RF D, 164)) : Call G (d) M_X9_with0 [.ref 116, .int x, .int y, .int z] (mi, ml, RF D, 164) κ Q := by
  show Run G _ M_X9_with0 0 [.ref 116, .int x, .int y, .int z] [] _ _ _
  refine il_3 dX9_with0_0 ?_
  refine R_if_eq (tgt := 12) dX9_with0_1 (by decide) (fun c1 => ?_) (fun c1 => ?_)
  · refine il_1 dX9_with0_12 ?_
    refine R_iconst (v := 1) dX9_with0_13 (by decide) ?_
    refine il_2 dX9_with0_14 ?_
    refine R_ishl dX9_with0_15 ?_
    refine R_iconst (v := -1) dX9_with0_16 (by decide) ?_
    refine R_ixor dX9_with0_17 ?_
    refine R_iand dX9_with0_18 ?_
    refine R_ireturn dX9_with0_19 ⟨_, rfl, rfl⟩ ?_
    first | (rw [if_pos c1] at h; exact h) | (rw [if_neg c1] at h; exact h)
  · refine il_1 dX9_with0_4 ?_
    refine R_iconst (v := 1) dX9_with0_5 (by decide) ?_
    refine il_2 dX9_with0_6 ?_
    refine R_ishl dX9_with0_7 ?_
    refine R_ior dX9_with0_8 ?_
    refine R_goto (tgt := 19) dX9_with0_9 (by decide) ?_
    refine R_ireturn dX9_with0_19 ⟨_, rfl, rfl⟩ ?_
    first | (rw [if_pos c1] at h; exact h) | (rw [if_neg c1] at h; exact h)

set_option maxHeartbeats 4000000 in
theorem L_ones {G : rn_G} {d : Nat} {κ : Nat × Nat} {Q : Option Value → rn_S → Prop} {mi : Nat → Nat → Int32} {ml : Nat → Nat → Int64} {D : Nat → Nat} {x : Int32} : ∀ (k : Nat) (n l : Int32), onZ k l = true → Q (some (.int (onJ k l n))) (mi, ml, RF D, 164) → Run G d M_X9_ones 4 [.ref 116, .int x, .int n, .int l] [] (mi, ml, RF D, 164) κ Q := by
  intro k
  induction k with
  | zero =>
    intro n l hz h
    have hl : l = 0 := by simpa [onZ] using hz
    refine il_3 dX9_ones_4 ?_
    refine R_if_eq (tgt := 20) dX9_ones_5 (by decide) (fun c5 => ?_) (fun q => absurd q (not_not_intro hl))
    refine il_2 dX9_ones_20 ?_
    refine R_ireturn dX9_ones_21 ⟨_, rfl, rfl⟩ ?_
    exact h
  | succ k ih =>
    intro n l hz h
    unfold onZ at hz
    unfold onJ at h
    by_cases hl : l = 0
    · rw [if_pos hl] at h
      refine il_3 dX9_ones_4 ?_
      refine R_if_eq (tgt := 20) dX9_ones_5 (by decide) (fun c5 => ?_) (fun q => absurd q (not_not_intro hl))
      refine il_2 dX9_ones_20 ?_
      refine R_ireturn dX9_ones_21 ⟨_, rfl, rfl⟩ ?_
      exact h
    · rw [if_neg hl] at h
      have hz2 : onZ k (l &&& (l - 1)) = true := by simpa [hl] using hz
      refine il_3 dX9_ones_4 ?_
      refine R_if_eq (tgt := 20) dX9_ones_5 (by decide) (fun q => absurd q (hl)) (fun c5 => ?_)
      refine ii_2 (v := _ + 1) dX9_ones_8 rfl (by rfl) ?_
      refine il_3 dX9_ones_11 ?_
      refine il_3 dX9_ones_12 ?_
      refine R_iconst (v := 1) dX9_ones_13 (by decide) ?_
      refine R_isub dX9_ones_14 ?_
      refine R_iand dX9_ones_15 ?_
      refine is_3 dX9_ones_16 rfl ?_
      refine R_goto (tgt := 4) dX9_ones_17 (by decide) ?_
      exact ih _ _ hz2 h

set_option maxHeartbeats 4000000 in
theorem M_ones {G : rn_G} {d : Nat} {κ : Nat × Nat} {Q : Option Value → rn_S → Prop} {mi : Nat → Nat → Int32} {ml : Nat → Nat → Int64} {D : Nat → Nat} {x : Int32} {m : Nat} (hx : x = nI m) (hm : m < 64) (h : Q (some (.int (popJ x))) (mi, ml, RF D, 164)) : Call G (d) M_X9_ones [.ref 116, .int x] (mi, ml, RF D, 164) κ Q := by
  show Run G _ M_X9_ones 0 [.ref 116, .int x, .null, .null] [] _ _ _
  refine R_iconst (v := 0) dX9_ones_0 (by decide) ?_
  refine is_2 dX9_ones_1 rfl ?_
  refine il_1 dX9_ones_2 ?_
  refine is_3 dX9_ones_3 rfl ?_
  obtain ⟨g1, g2⟩ := onJ_d ⟨m, hm⟩
  have g2 : onJ 6 x 0 = popJ x := by rw [hx]; exact g2
  exact L_ones 6 0 x (by rw [hx]; exact g1) (by rw [g2]; exact h)

theorem le_pred_iff {x : Int32} {N : Nat} (h : N ≤ 6) : (0 ≤ x ∧ x ≤ nI N - 1) ↔ (0 ≤ x ∧ x < nI N) := by
  have e : (nI N - 1).toInt = (N : Int) - 1 := by
    have : ∀ k : Fin 7, (nI k - 1).toInt = (k.1 : Int) - 1 := by decide +kernel
    exact this ⟨N, by omega⟩
  rw [Int32.le_iff_toInt_le, Int32.le_iff_toInt_le, Int32.lt_iff_toInt_lt, e, nI_toInt (show N < 2 ^ 31 by omega)]
  omega

set_option maxHeartbeats 4000000 in
theorem M_isGate {G : rn_G} {d : Nat} {κ : Nat × Nat} {Q : Option Value → rn_S → Prop} {mi : Nat → Nat → Int32} {ml : Nat → Nat → Int64} {D : Nat → Nat} {x : Int32} (h1 : 0 ≤ x ∧ x < mi 116 0 → Q (some (.int 1)) (mi, ml, RF D, 164)) (h0 : ¬ (0 ≤ x ∧ x < mi 116 0) → Q (some (.int 0)) (mi, ml, RF D, 164)) (hN : ∃ N, N ≤ 6 ∧ mi 116 0 = nI N) : Call G (d + 1) M_X9_isGate [.ref 116, .int x] (mi, ml, RF D, 164) κ Q := by
  show Run G _ M_X9_isGate 0 [.ref 116, .int x] [] _ _ _
  have key : ∀ x : Int32, (0 ≤ x ∧ x ≤ mi 116 0 - 1) ↔ (0 ≤ x ∧ x < mi 116 0) := by obtain ⟨N, h6, e⟩ := hN; rw [e]; exact fun x => le_pred_iff h6
  refine al_0 dX9_isGate_0 ?_
  refine il_1 dX9_isGate_1 ?_
  refine R_iconst (v := 0) dX9_isGate_2 (by decide) ?_
  refine al_0 dX9_isGate_3 ?_
  refine R_getfi dX9_isGate_4 fl_RX9_7 rfl sh_116 (Nat.le_of_ble_eq_true rfl) ?_
  refine R_iconst (v := 1) dX9_isGate_7 (by decide) ?_
  refine R_isub dX9_isGate_8 ?_
  refine cv_3 dX9_isGate_9 mm_RX9_293 sh_116 (Nat.le_of_ble_eq_true rfl) ⟨_, rfl, rfl⟩ (Nat.le_of_ble_eq_true rfl) (Nat.le_of_ble_eq_true rfl) (M_in (fun c9 => ?_) (fun c9 => ?_))
  · refine R_ireturn dX9_isGate_12 ⟨_, rfl, rfl⟩ ?_
    exact h1 ((key x).mp c9)
  · refine R_ireturn dX9_isGate_12 ⟨_, rfl, rfl⟩ ?_
    exact h0 (fun q => c9 ((key x).mpr q))

set_option maxHeartbeats 4000000 in
theorem M_isPerson {G : rn_G} {d : Nat} {κ : Nat × Nat} {Q : Option Value → rn_S → Prop} {mi : Nat → Nat → Int32} {ml : Nat → Nat → Int64} {D : Nat → Nat} {x : Int32} (h1 : 0 ≤ x ∧ x < mi 116 1 → Q (some (.int 1)) (mi, ml, RF D, 164)) (h0 : ¬ (0 ≤ x ∧ x < mi 116 1) → Q (some (.int 0)) (mi, ml, RF D, 164)) (hN : ∃ N, N ≤ 6 ∧ mi 116 1 = nI N) : Call G (d + 1) M_X9_isPerson [.ref 116, .int x] (mi, ml, RF D, 164) κ Q := by
  show Run G _ M_X9_isPerson 0 [.ref 116, .int x] [] _ _ _
  have key : ∀ x : Int32, (0 ≤ x ∧ x ≤ mi 116 1 - 1) ↔ (0 ≤ x ∧ x < mi 116 1) := by obtain ⟨N, h6, e⟩ := hN; rw [e]; exact fun x => le_pred_iff h6
  refine al_0 dX9_isPerson_0 ?_
  refine il_1 dX9_isPerson_1 ?_
  refine R_iconst (v := 0) dX9_isPerson_2 (by decide) ?_
  refine al_0 dX9_isPerson_3 ?_
  refine R_getfi dX9_isPerson_4 fl_RX9_13 rfl sh_116 (Nat.le_of_ble_eq_true rfl) ?_
  refine R_iconst (v := 1) dX9_isPerson_7 (by decide) ?_
  refine R_isub dX9_isPerson_8 ?_
  refine cv_3 dX9_isPerson_9 mm_RX9_293 sh_116 (Nat.le_of_ble_eq_true rfl) ⟨_, rfl, rfl⟩ (Nat.le_of_ble_eq_true rfl) (Nat.le_of_ble_eq_true rfl) (M_in (fun c9 => ?_) (fun c9 => ?_))
  · refine R_ireturn dX9_isPerson_12 ⟨_, rfl, rfl⟩ ?_
    exact h1 ((key x).mp c9)
  · refine R_ireturn dX9_isPerson_12 ⟨_, rfl, rfl⟩ ?_
    exact h0 (fun q => c9 ((key x).mpr q))

theorem lt_succ_iff {x : Int32} {a : Nat} (ha : a + 1 < 2 ^ 31 := by decide) : x < nI (a + 1) ↔ x ≤ nI a := by
  rw [Int32.le_iff_toInt_le, Int32.lt_iff_toInt_lt, nI_toInt ha, nI_toInt (show a < 2 ^ 31 by omega)]
  omega
set_option maxHeartbeats 4000000 in
theorem M_isPlace {G : rn_G} {d : Nat} {κ : Nat × Nat} {Q : Option Value → rn_S → Prop} {mi : Nat → Nat → Int32} {ml : Nat → Nat → Int64} {D : Nat → Nat} {x : Int32} (h1 : 0 ≤ x ∧ x < 30 → Q (some (.int 1)) (mi, ml, RF D, 164)) (h0 : ¬ (0 ≤ x ∧ x < 30) → Q (some (.int 0)) (mi, ml, RF D, 164)) : Call G (d + 1) M_X9_isPlace [.ref 116, .int x] (mi, ml, RF D, 164) κ Q := by
  show Run G _ M_X9_isPlace 0 [.ref 116, .int x] [] _ _ _
  refine al_0 dX9_isPlace_0 ?_
  refine il_1 dX9_isPlace_1 ?_
  refine R_iconst (v := 0) dX9_isPlace_2 (by decide) ?_
  refine R_bipush (v := 29) dX9_isPlace_3 (by decide) ?_
  refine cv_3 dX9_isPlace_5 mm_RX9_293 sh_116 (Nat.le_of_ble_eq_true rfl) ⟨_, rfl, rfl⟩ (Nat.le_of_ble_eq_true rfl) (Nat.le_of_ble_eq_true rfl) (M_in (fun c5 => ?_) (fun c5 => ?_))
  · refine R_ireturn dX9_isPlace_8 ⟨_, rfl, rfl⟩ ?_
    exact h1 ⟨c5.1, (lt_succ_iff (a := 29)).mpr c5.2⟩
  · refine R_ireturn dX9_isPlace_8 ⟨_, rfl, rfl⟩ ?_
    exact h0 (fun q => c5 ⟨q.1, (lt_succ_iff (a := 29)).mp q.2⟩)

set_option maxHeartbeats 4000000 in
theorem M_isMinutes {G : rn_G} {d : Nat} {κ : Nat × Nat} {Q : Option Value → rn_S → Prop} {mi : Nat → Nat → Int32} {ml : Nat → Nat → Int64} {D : Nat → Nat} {x : Int32} (h1 : 0 ≤ x ∧ x ≤ 99 → Q (some (.int 1)) (mi, ml, RF D, 164)) (h0 : ¬ (0 ≤ x ∧ x ≤ 99) → Q (some (.int 0)) (mi, ml, RF D, 164)) : Call G (d + 1) M_X9_isMinutes [.ref 116, .int x] (mi, ml, RF D, 164) κ Q := by
  show Run G _ M_X9_isMinutes 0 [.ref 116, .int x] [] _ _ _
  refine al_0 dX9_isMinutes_0 ?_
  refine il_1 dX9_isMinutes_1 ?_
  refine R_iconst (v := 0) dX9_isMinutes_2 (by decide) ?_
  refine R_bipush (v := 99) dX9_isMinutes_3 (by decide) ?_
  refine cv_3 dX9_isMinutes_5 mm_RX9_293 sh_116 (Nat.le_of_ble_eq_true rfl) ⟨_, rfl, rfl⟩ (Nat.le_of_ble_eq_true rfl) (Nat.le_of_ble_eq_true rfl) (M_in (fun c5 => ?_) (fun c5 => ?_))
  · refine R_ireturn dX9_isMinutes_8 ⟨_, rfl, rfl⟩ ?_
    exact h1 c5
  · refine R_ireturn dX9_isMinutes_8 ⟨_, rfl, rfl⟩ ?_
    exact h0 c5

set_option maxHeartbeats 4000000 in
theorem M_all {G : rn_G} {d : Nat} {κ : Nat × Nat} {Q : Option Value → rn_S → Prop} {mi : Nat → Nat → Int32} {ml : Nat → Nat → Int64} {D : Nat → Nat} (h : Q (some (.int (((1 : Int32) <<< (mi 116 1 &&& 31)) - 1))) (mi, ml, RF D, 164)) : Call G (d) M_X9_all [.ref 116] (mi, ml, RF D, 164) κ Q := by
  show Run G _ M_X9_all 0 [.ref 116] [] _ _ _
  refine R_iconst (v := 1) dX9_all_0 (by decide) ?_
  refine al_0 dX9_all_1 ?_
  refine R_getfi dX9_all_2 fl_RX9_13 rfl sh_116 (Nat.le_of_ble_eq_true rfl) ?_
  refine R_ishl dX9_all_5 ?_
  refine R_iconst (v := 1) dX9_all_6 (by decide) ?_
  refine R_isub dX9_all_7 ?_
  refine R_ireturn dX9_all_8 ⟨_, rfl, rfl⟩ ?_
  exact h

set_option maxHeartbeats 4000000 in
theorem M_begin {G : rn_G} {d : Nat} {κ : Nat × Nat} {Q : Option Value → rn_S → Prop} {mi : Nat → Nat → Int32} {ml : Nat → Nat → Int64} {D : Nat → Nat} (h : Q (some (.int (begM mi))) (mi, ml, RF D, 164)) : Call G (d) M_X9_begin [.ref 116] (mi, ml, RF D, 164) κ Q := by
  show Run G _ M_X9_begin 0 [.ref 116] [] _ _ _
  unfold begM at h
  refine al_0 dX9_begin_0 ?_
  refine R_getfi dX9_begin_1 fl_RX9_62 rfl sh_116 (Nat.le_of_ble_eq_true rfl) ?_
  refine R_if_ge (tgt := 11) dX9_begin_4 (by decide) (fun c4 => ?_) (fun c4 => ?_)
  · refine R_bipush (v := 10) dX9_begin_11 (by decide) ?_
    refine al_0 dX9_begin_13 ?_
    refine R_getfi dX9_begin_14 fl_RX9_62 rfl sh_116 (Nat.le_of_ble_eq_true rfl) ?_
    refine R_imul dX9_begin_17 ?_
    refine R_ireturn dX9_begin_18 ⟨_, rfl, rfl⟩ ?_
    first | (rw [if_neg c4] at h; exact h) | (rw [if_neg (Int32.not_lt.mpr c4)] at h; exact h) | (rw [if_pos (Int32.not_le.mp c4)] at h; exact h)
  · refine R_iconst (v := 0) dX9_begin_7 (by decide) ?_
    refine R_goto (tgt := 18) dX9_begin_8 (by decide) ?_
    refine R_ireturn dX9_begin_18 ⟨_, rfl, rfl⟩ ?_
    first | (rw [if_neg c4] at h; exact h) | (rw [if_neg (Int32.not_lt.mpr c4)] at h; exact h) | (rw [if_pos (Int32.not_le.mp c4)] at h; exact h)

set_option maxHeartbeats 4000000 in
theorem M_behind {G : rn_G} {d : Nat} {κ : Nat × Nat} {Q : Option Value → rn_S → Prop} {mi : Nat → Nat → Int32} {ml : Nat → Nat → Int64} {D : Nat → Nat} (ht : okThe mi) (h : Q (some (.int (behM mi))) (mi, ml, RF D, 164)) : Call G (d) M_X9_behind [.ref 116] (mi, ml, RF D, 164) κ Q := by
  show Run G _ M_X9_behind 0 [.ref 116] [] _ _ _
  unfold behM at h
  refine al_0 dX9_behind_0 ?_
  refine R_getfi dX9_behind_1 fl_RX9_62 rfl sh_116 (Nat.le_of_ble_eq_true rfl) ?_
  refine R_if_ge (tgt := 11) dX9_behind_4 (by decide) (fun c4 => ?_) (fun c4 => ?_)
  · rw [if_neg (Int32.not_lt.mpr c4)] at h
    obtain ⟨t, ht6, et⟩ := ht.resolve_left (Int32.not_lt.mpr c4)
    rw [show nn (mi 116 17) = t by rw [et]; exact nI_clamp (by omega)] at h
    refine R_bipush (v := 10) dX9_behind_11 (by decide) ?_
    refine al_0 dX9_behind_13 ?_
    refine R_getfi dX9_behind_14 fl_RX9_62 rfl sh_116 (Nat.le_of_ble_eq_true rfl) ?_
    refine R_imul dX9_behind_17 ?_
    refine al_0 dX9_behind_18 ?_
    refine R_getfr (r := 125) dX9_behind_19 fl_RX9_77 rfl sh_116 (Nat.le_of_ble_eq_true rfl) rf_116_22 ?_
    refine al_0 dX9_behind_22 ?_
    refine R_getfi dX9_behind_23 fl_RX9_62 rfl sh_116 (Nat.le_of_ble_eq_true rfl) ?_
    refine R_iald dX9_behind_26 sh_125 (Nat.le_of_ble_eq_true rfl) (rn_ixe et) ht6 ?_
    refine R_iadd dX9_behind_27 ?_
    refine R_ireturn dX9_behind_28 ⟨_, rfl, rfl⟩ ?_
    first | exact h | (rw [if_pos (Int32.not_le.mp c4)] at h; exact h)
  · refine R_iconst (v := 0) dX9_behind_7 (by decide) ?_
    refine R_goto (tgt := 28) dX9_behind_8 (by decide) ?_
    refine R_ireturn dX9_behind_28 ⟨_, rfl, rfl⟩ ?_
    first | exact h | (rw [if_pos (Int32.not_le.mp c4)] at h; exact h)

set_option maxHeartbeats 4000000 in
theorem L_lastOf {G : rn_G} {d : Nat} {κ : Nat × Nat} {Q : Option Value → rn_S → Prop} {mi : Nat → Nat → Int32} {ml : Nat → Nat → Int64} {D : Nat → Nat} {W E : Nat} {x : Int32} (hW : W ≤ 3) (ht : okThe mi) (hE : E ≤ 60) (hb : behM mi = nI E) : ∀ (l : CL) (c : Nat) (n cc : Int32), cc = nI c → c + l.length = E → (∀ j q, l[j]? = some q → mi 126 (c + j) = nI q.1 ∧ mi 127 (c + j) = nI q.2.1 ∧ q.1 ≤ 3) → Q (some (.int (lastA W l n))) (mi, ml, RF D, 164) → Run G (d + 1) M_X9_lastOf 8 [.ref 116, .int (nI W), .int x, .int n, .int cc] [] (mi, ml, RF D, 164) κ Q := by
  intro l
  induction l with
  | nil =>
    intro c n cc hc he hl h
    refine il_4 dX9_lastOf_8 ?_
    refine al_0 dX9_lastOf_10 ?_
    refine cv_0 dX9_lastOf_11 mm_RX9_368 sh_116 (Nat.le_of_ble_eq_true rfl) ⟨_, rfl, rfl⟩ (Nat.le_of_ble_eq_true rfl) (Nat.le_of_ble_eq_true rfl) (M_behind ht ?_)
    refine R_icmp_ge (tgt := 46) dX9_lastOf_14 (by decide) (fun c14 => ?_) (fun q => absurd q (not_not_intro (by rw [hc, hb]; exact nI_le (by simp at he; omega) (by omega))))
    refine il_3 dX9_lastOf_46 ?_
    refine R_ireturn dX9_lastOf_47 ⟨_, rfl, rfl⟩ ?_
    exact h
  | cons q l ih =>
    intro c n cc hc he hl h
    rw [List.length_cons] at he
    obtain ⟨h1, h2, h3⟩ := hl 0 q rfl
    rw [Nat.add_zero] at h1 h2
    have hcl : c < 60 := by omega
    have hix : rn_ix cc c := rn_ixe hc
    unfold lastA at h
    refine il_4 dX9_lastOf_8 ?_
    refine al_0 dX9_lastOf_10 ?_
    refine cv_0 dX9_lastOf_11 mm_RX9_368 sh_116 (Nat.le_of_ble_eq_true rfl) ⟨_, rfl, rfl⟩ (Nat.le_of_ble_eq_true rfl) (Nat.le_of_ble_eq_true rfl) (M_behind ht ?_)
    refine R_icmp_ge (tgt := 46) dX9_lastOf_14 (by decide) (fun q => absurd q (by rw [hc, hb]; exact nI_ge (by omega) (by omega))) (fun c14 => ?_)
    refine al_0 dX9_lastOf_17 ?_
    refine R_getfr (r := 126) dX9_lastOf_18 fl_RX9_80 rfl sh_116 (Nat.le_of_ble_eq_true rfl) rf_116_23 ?_
    refine il_4 dX9_lastOf_21 ?_
    refine R_iald dX9_lastOf_23 sh_126 (Nat.le_of_ble_eq_true rfl) hix hcl ?_
    refine il_1 dX9_lastOf_24 ?_
    refine R_icmp_ne (tgt := 38) dX9_lastOf_25 (by decide) (fun c25 => ?_) (fun c25 => ?_)
    · refine il_3 dX9_lastOf_38 ?_
      refine is_3 dX9_lastOf_39 rfl ?_
      refine ii_4 (v := _ + 1) dX9_lastOf_40 rfl (by rfl) ?_
      refine R_goto (tgt := 8) dX9_lastOf_43 (by decide) ?_
      refine ih (c + 1) _ _ (by rw [hc]; exact sm_add c 1) (by omega) (fun j u hj => by rw [show c + 1 + j = c + (j + 1) by omega]; exact hl (j + 1) u hj) ?_
      first | (rw [if_pos (sm_inj (by omega) (by omega) (by rw [← h1]; exact c25))] at h; rw [h2]; exact h) | (rw [if_neg (fun e => c25 (by rw [h1, e]))] at h; exact h)
    · refine al_0 dX9_lastOf_28 ?_
      refine R_getfr (r := 127) dX9_lastOf_29 fl_RX9_83 rfl sh_116 (Nat.le_of_ble_eq_true rfl) rf_116_24 ?_
      refine il_4 dX9_lastOf_32 ?_
      refine R_iald dX9_lastOf_34 sh_127 (Nat.le_of_ble_eq_true rfl) hix hcl ?_
      refine R_goto (tgt := 39) dX9_lastOf_35 (by decide) ?_
      refine is_3 dX9_lastOf_39 rfl ?_
      refine ii_4 (v := _ + 1) dX9_lastOf_40 rfl (by rfl) ?_
      refine R_goto (tgt := 8) dX9_lastOf_43 (by decide) ?_
      refine ih (c + 1) _ _ (by rw [hc]; exact sm_add c 1) (by omega) (fun j u hj => by rw [show c + 1 + j = c + (j + 1) by omega]; exact hl (j + 1) u hj) ?_
      first | (rw [if_pos (sm_inj (by omega) (by omega) (by rw [← h1]; exact c25))] at h; rw [h2]; exact h) | (rw [if_neg (fun e => c25 (by rw [h1, e]))] at h; exact h)

set_option maxHeartbeats 4000000 in
theorem M_lastOf {G : rn_G} {d : Nat} {κ : Nat × Nat} {Q : Option Value → rn_S → Prop} {mi : Nat → Nat → Int32} {ml : Nat → Nat → Int64} {D : Nat → Nat} {W : Nat} {x : Int32} (hW : W ≤ 3) {cl : CL} (hcm : CM mi cl) (h : Q (some (.int (lastA W cl x))) (mi, ml, RF D, 164)) : Call G (d + 1) M_X9_lastOf [.ref 116, .int ((nI W)), .int x] (mi, ml, RF D, 164) κ Q := by
  show Run G _ M_X9_lastOf 0 [.ref 116, .int ((nI W)), .int x, .null, .null] [] _ _ _
  refine il_2 dX9_lastOf_0 ?_
  refine is_3 dX9_lastOf_1 rfl ?_
  refine al_0 dX9_lastOf_2 ?_
  refine cv_0 dX9_lastOf_3 mm_RX9_365 sh_116 (Nat.le_of_ble_eq_true rfl) ⟨_, rfl, rfl⟩ (Nat.le_of_ble_eq_true rfl) (Nat.le_of_ble_eq_true rfl) (M_begin ?_)
  refine is_4 dX9_lastOf_6 rfl ?_
  obtain ⟨ht, hok, B, hB6, e1, e2, hD⟩ := hcm
  exact L_lastOf hW ht hB6 e2 cl B x _ e1 rfl (fun j q hj => ⟨(hD j q hj).1, (hD j q hj).2.1, (hok q (List.mem_of_getElem? hj)).1⟩) h

set_option maxHeartbeats 4000000 in
theorem M_pace {G : rn_G} {d : Nat} {κ : Nat × Nat} {Q : Option Value → rn_S → Prop} {mi : Nat → Nat → Int32} {ml : Nat → Nat → Int64} {D : Nat → Nat} {cl : CL} (hcm : CM mi cl) (h : Q (some (.int (paceA (mi 116 33) cl))) (mi, ml, RF D, 164)) : Call G (d + 2) M_X9_pace [.ref 116] (mi, ml, RF D, 164) κ Q := by
  show Run G _ M_X9_pace 0 [.ref 116, .null] [] _ _ _
  unfold paceA clampP at h
  refine al_0 dX9_pace_0 ?_
  refine R_getfi dX9_pace_1 fl_RX9_110 rfl sh_116 (Nat.le_of_ble_eq_true rfl) ?_
  refine R_if_lt (tgt := 14) dX9_pace_4 (by decide) (fun c4 => ?_) (fun c4 => ?_)
  · refine al_0 dX9_pace_14 ?_
    refine R_iconst (v := 3) dX9_pace_15 (by decide) ?_
    refine R_iconst (v := 3) dX9_pace_16 (by decide) ?_
    refine cv_2 dX9_pace_17 mm_RX9_371 sh_116 (Nat.le_of_ble_eq_true rfl) ⟨_, rfl, rfl⟩ (Nat.le_of_ble_eq_true rfl) (Nat.le_of_ble_eq_true rfl) (M_lastOf (W := 3) (by decide) hcm ?_)
    refine is_1 dX9_pace_20 rfl ?_
    refine il_1 dX9_pace_21 ?_
    refine R_iconst (v := 1) dX9_pace_22 (by decide) ?_
    refine R_icmp_ge (tgt := 30) dX9_pace_23 (by decide) (fun c23 => ?_) (fun c23 => ?_)
    · refine il_1 dX9_pace_30 ?_
      refine R_bipush (v := 9) dX9_pace_31 (by decide) ?_
      refine R_icmp_le (tgt := 41) dX9_pace_33 (by decide) (fun c33 => ?_) (fun c33 => ?_)
      · refine il_1 dX9_pace_41 ?_
        refine R_ireturn dX9_pace_42 ⟨_, rfl, rfl⟩ ?_
        first | rw [if_neg (Int32.not_le.mpr c4)] at h | rw [if_pos (Int32.not_lt.mp c4)] at h
        first | (rw [if_pos (Int32.not_le.mp c23)] at h; exact h) | (rw [if_neg (Int32.not_lt.mpr c23)] at h; first | (rw [if_neg (Int32.not_lt.mpr c33)] at h; exact h) | (rw [if_pos (Int32.not_le.mp c33)] at h; exact h))
      · refine R_bipush (v := 9) dX9_pace_36 (by decide) ?_
        refine R_goto (tgt := 42) dX9_pace_38 (by decide) ?_
        refine R_ireturn dX9_pace_42 ⟨_, rfl, rfl⟩ ?_
        first | rw [if_neg (Int32.not_le.mpr c4)] at h | rw [if_pos (Int32.not_lt.mp c4)] at h
        first | (rw [if_pos (Int32.not_le.mp c23)] at h; exact h) | (rw [if_neg (Int32.not_lt.mpr c23)] at h; first | (rw [if_neg (Int32.not_lt.mpr c33)] at h; exact h) | (rw [if_pos (Int32.not_le.mp c33)] at h; exact h))
    · refine R_iconst (v := 1) dX9_pace_26 (by decide) ?_
      refine R_goto (tgt := 42) dX9_pace_27 (by decide) ?_
      refine R_ireturn dX9_pace_42 ⟨_, rfl, rfl⟩ ?_
      first | rw [if_neg (Int32.not_le.mpr c4)] at h | rw [if_pos (Int32.not_lt.mp c4)] at h
      first | (rw [if_pos (Int32.not_le.mp c23)] at h; exact h) | (rw [if_neg (Int32.not_lt.mpr c23)] at h; first | (rw [if_neg (Int32.not_lt.mpr c33)] at h; exact h) | (rw [if_pos (Int32.not_le.mp c33)] at h; exact h))
  · refine al_0 dX9_pace_7 ?_
    refine R_getfi dX9_pace_8 fl_RX9_110 rfl sh_116 (Nat.le_of_ble_eq_true rfl) ?_
    refine R_goto (tgt := 20) dX9_pace_11 (by decide) ?_
    refine is_1 dX9_pace_20 rfl ?_
    refine il_1 dX9_pace_21 ?_
    refine R_iconst (v := 1) dX9_pace_22 (by decide) ?_
    refine R_icmp_ge (tgt := 30) dX9_pace_23 (by decide) (fun c23 => ?_) (fun c23 => ?_)
    · refine il_1 dX9_pace_30 ?_
      refine R_bipush (v := 9) dX9_pace_31 (by decide) ?_
      refine R_icmp_le (tgt := 41) dX9_pace_33 (by decide) (fun c33 => ?_) (fun c33 => ?_)
      · refine il_1 dX9_pace_41 ?_
        refine R_ireturn dX9_pace_42 ⟨_, rfl, rfl⟩ ?_
        first | rw [if_neg (Int32.not_le.mpr c4)] at h | rw [if_pos (Int32.not_lt.mp c4)] at h
        first | (rw [if_pos (Int32.not_le.mp c23)] at h; exact h) | (rw [if_neg (Int32.not_lt.mpr c23)] at h; first | (rw [if_neg (Int32.not_lt.mpr c33)] at h; exact h) | (rw [if_pos (Int32.not_le.mp c33)] at h; exact h))
      · refine R_bipush (v := 9) dX9_pace_36 (by decide) ?_
        refine R_goto (tgt := 42) dX9_pace_38 (by decide) ?_
        refine R_ireturn dX9_pace_42 ⟨_, rfl, rfl⟩ ?_
        first | rw [if_neg (Int32.not_le.mpr c4)] at h | rw [if_pos (Int32.not_lt.mp c4)] at h
        first | (rw [if_pos (Int32.not_le.mp c23)] at h; exact h) | (rw [if_neg (Int32.not_lt.mpr c23)] at h; first | (rw [if_neg (Int32.not_lt.mpr c33)] at h; exact h) | (rw [if_pos (Int32.not_le.mp c33)] at h; exact h))
    · refine R_iconst (v := 1) dX9_pace_26 (by decide) ?_
      refine R_goto (tgt := 42) dX9_pace_27 (by decide) ?_
      refine R_ireturn dX9_pace_42 ⟨_, rfl, rfl⟩ ?_
      first | rw [if_neg (Int32.not_le.mpr c4)] at h | rw [if_pos (Int32.not_lt.mp c4)] at h
      first | (rw [if_pos (Int32.not_le.mp c23)] at h; exact h) | (rw [if_neg (Int32.not_lt.mpr c23)] at h; first | (rw [if_neg (Int32.not_lt.mpr c33)] at h; exact h) | (rw [if_pos (Int32.not_le.mp c33)] at h; exact h))

set_option maxHeartbeats 4000000 in
theorem M_up {G : rn_G} {d : Nat} {κ : Nat × Nat} {Q : Option Value → rn_S → Prop} {mi : Nat → Nat → Int32} {ml : Nat → Nat → Int64} {D : Nat → Nat} {x y : Int32} (h : Q (some (.int (upM x y))) (mi, ml, RF D, 164)) : Call G (d) M_X9_up [.ref 116, .int x, .int y] (mi, ml, RF D, 164) κ Q := by
  show Run G _ M_X9_up 0 [.ref 116, .int x, .int y] [] _ _ _
  unfold upM at h
  refine il_2 dX9_up_0 ?_
  refine il_1 dX9_up_1 ?_
  refine R_icmp_ge (tgt := 14) dX9_up_2 (by decide) (fun c2 => ?_) (fun c2 => ?_)
  · refine il_2 dX9_up_14 ?_
    refine il_1 dX9_up_15 ?_
    refine R_isub dX9_up_16 ?_
    refine R_ireturn dX9_up_17 ⟨_, rfl, rfl⟩ ?_
    first | (rw [if_pos (Int32.not_le.mp c2)] at h; exact h) | (rw [if_neg (Int32.not_lt.mpr c2)] at h; exact h)
  · refine il_2 dX9_up_5 ?_
    refine il_1 dX9_up_6 ?_
    refine R_isub dX9_up_7 ?_
    refine R_bipush (v := 30) dX9_up_8 (by decide) ?_
    refine R_iadd dX9_up_10 ?_
    refine R_goto (tgt := 17) dX9_up_11 (by decide) ?_
    refine R_ireturn dX9_up_17 ⟨_, rfl, rfl⟩ ?_
    first | (rw [if_pos (Int32.not_le.mp c2)] at h; exact h) | (rw [if_neg (Int32.not_lt.mpr c2)] at h; exact h)

set_option maxHeartbeats 4000000 in
theorem M_way {G : rn_G} {d : Nat} {κ : Nat × Nat} {Q : Option Value → rn_S → Prop} {mi : Nat → Nat → Int32} {ml : Nat → Nat → Int64} {D : Nat → Nat} {x y : Int32} (h : Q (some (.int (wayM x y))) (mi, ml, RF D, 164)) : Call G (d + 1) M_X9_way [.ref 116, .int x, .int y] (mi, ml, RF D, 164) κ Q := by
  show Run G _ M_X9_way 0 [.ref 116, .int x, .int y, .null] [] _ _ _
  unfold wayM at h
  refine al_0 dX9_way_0 ?_
  refine il_1 dX9_way_1 ?_
  refine il_2 dX9_way_2 ?_
  refine cv_2 dX9_way_3 mm_RX9_384 sh_116 (Nat.le_of_ble_eq_true rfl) ⟨_, rfl, rfl⟩ (Nat.le_of_ble_eq_true rfl) (Nat.le_of_ble_eq_true rfl) (M_up ?_)
  refine is_3 dX9_way_6 rfl ?_
  refine il_3 dX9_way_7 ?_
  refine R_bipush (v := 15) dX9_way_8 (by decide) ?_
  refine R_icmp_le (tgt := 20) dX9_way_10 (by decide) (fun c10 => ?_) (fun c10 => ?_)
  · refine il_3 dX9_way_20 ?_
    refine R_ireturn dX9_way_21 ⟨_, rfl, rfl⟩ ?_
    first | (rw [if_pos (Int32.not_le.mp c10)] at h; exact h) | (rw [if_neg (Int32.not_lt.mpr c10)] at h; exact h)
  · refine R_bipush (v := 30) dX9_way_13 (by decide) ?_
    refine il_3 dX9_way_15 ?_
    refine R_isub dX9_way_16 ?_
    refine R_goto (tgt := 21) dX9_way_17 (by decide) ?_
    refine R_ireturn dX9_way_21 ⟨_, rfl, rfl⟩ ?_
    first | (rw [if_pos (Int32.not_le.mp c10)] at h; exact h) | (rw [if_neg (Int32.not_lt.mpr c10)] at h; exact h)

set_option maxHeartbeats 4000000 in
theorem M_toward {G : rn_G} {d : Nat} {κ : Nat × Nat} {Q : Option Value → rn_S → Prop} {mi : Nat → Nat → Int32} {ml : Nat → Nat → Int64} {D : Nat → Nat} {x y z : Int32} (h : Q (some (.int (towM x y z))) (mi, ml, RF D, 164)) : Call G (d + 2) M_X9_toward [.ref 116, .int x, .int y, .int z] (mi, ml, RF D, 164) κ Q := by
  show Run G _ M_X9_toward 0 [.ref 116, .int x, .int y, .int z, .null, .null] [] _ _ _
  unfold towM minM remJ at h
  refine al_0 dX9_toward_0 ?_
  refine il_1 dX9_toward_1 ?_
  refine il_2 dX9_toward_2 ?_
  refine cv_2 dX9_toward_3 mm_RX9_387 sh_116 (Nat.le_of_ble_eq_true rfl) ⟨_, rfl, rfl⟩ (Nat.le_of_ble_eq_true rfl) (Nat.le_of_ble_eq_true rfl) (M_way ?_)
  refine is_4 dX9_toward_6 rfl ?_
  refine il_3 dX9_toward_8 ?_
  refine il_4 dX9_toward_9 ?_
  refine R_icmp_ge (tgt := 18) dX9_toward_11 (by decide) (fun c11 => ?_) (fun c11 => ?_)
  · refine il_4 dX9_toward_18 ?_
    refine is_5 dX9_toward_20 rfl ?_
    refine al_0 dX9_toward_22 ?_
    refine il_1 dX9_toward_23 ?_
    refine il_2 dX9_toward_24 ?_
    refine cv_2 dX9_toward_25 mm_RX9_384 sh_116 (Nat.le_of_ble_eq_true rfl) ⟨_, rfl, rfl⟩ (Nat.le_of_ble_eq_true rfl) (Nat.le_of_ble_eq_true rfl) (M_up ?_)
    refine R_bipush (v := 15) dX9_toward_28 (by decide) ?_
    refine R_icmp_gt (tgt := 43) dX9_toward_30 (by decide) (fun c30 => ?_) (fun c30 => ?_)
    · refine il_1 dX9_toward_43 ?_
      refine il_5 dX9_toward_44 ?_
      refine R_isub dX9_toward_46 ?_
      refine R_bipush (v := 30) dX9_toward_47 (by decide) ?_
      refine R_iadd dX9_toward_49 ?_
      refine R_bipush (v := 30) dX9_toward_50 (by decide) ?_
      refine R_irem dX9_toward_52 (by decide) ?_
      refine R_ireturn dX9_toward_53 ⟨_, rfl, rfl⟩ ?_
      first | rw [if_pos (Int32.not_le.mp c11)] at h | rw [if_neg (Int32.not_lt.mpr c11)] at h
      first | (rw [if_pos c30] at h; exact h) | (rw [if_neg c30] at h; exact h)
    · refine il_1 dX9_toward_33 ?_
      refine il_5 dX9_toward_34 ?_
      refine R_iadd dX9_toward_36 ?_
      refine R_bipush (v := 30) dX9_toward_37 (by decide) ?_
      refine R_irem dX9_toward_39 (by decide) ?_
      refine R_goto (tgt := 53) dX9_toward_40 (by decide) ?_
      refine R_ireturn dX9_toward_53 ⟨_, rfl, rfl⟩ ?_
      first | rw [if_pos (Int32.not_le.mp c11)] at h | rw [if_neg (Int32.not_lt.mpr c11)] at h
      first | (rw [if_pos c30] at h; exact h) | (rw [if_neg c30] at h; exact h)
  · refine il_3 dX9_toward_14 ?_
    refine R_goto (tgt := 20) dX9_toward_15 (by decide) ?_
    refine is_5 dX9_toward_20 rfl ?_
    refine al_0 dX9_toward_22 ?_
    refine il_1 dX9_toward_23 ?_
    refine il_2 dX9_toward_24 ?_
    refine cv_2 dX9_toward_25 mm_RX9_384 sh_116 (Nat.le_of_ble_eq_true rfl) ⟨_, rfl, rfl⟩ (Nat.le_of_ble_eq_true rfl) (Nat.le_of_ble_eq_true rfl) (M_up ?_)
    refine R_bipush (v := 15) dX9_toward_28 (by decide) ?_
    refine R_icmp_gt (tgt := 43) dX9_toward_30 (by decide) (fun c30 => ?_) (fun c30 => ?_)
    · refine il_1 dX9_toward_43 ?_
      refine il_5 dX9_toward_44 ?_
      refine R_isub dX9_toward_46 ?_
      refine R_bipush (v := 30) dX9_toward_47 (by decide) ?_
      refine R_iadd dX9_toward_49 ?_
      refine R_bipush (v := 30) dX9_toward_50 (by decide) ?_
      refine R_irem dX9_toward_52 (by decide) ?_
      refine R_ireturn dX9_toward_53 ⟨_, rfl, rfl⟩ ?_
      first | rw [if_pos (Int32.not_le.mp c11)] at h | rw [if_neg (Int32.not_lt.mpr c11)] at h
      first | (rw [if_pos c30] at h; exact h) | (rw [if_neg c30] at h; exact h)
    · refine il_1 dX9_toward_33 ?_
      refine il_5 dX9_toward_34 ?_
      refine R_iadd dX9_toward_36 ?_
      refine R_bipush (v := 30) dX9_toward_37 (by decide) ?_
      refine R_irem dX9_toward_39 (by decide) ?_
      refine R_goto (tgt := 53) dX9_toward_40 (by decide) ?_
      refine R_ireturn dX9_toward_53 ⟨_, rfl, rfl⟩ ?_
      first | rw [if_pos (Int32.not_le.mp c11)] at h | rw [if_neg (Int32.not_lt.mpr c11)] at h
      first | (rw [if_pos c30] at h; exact h) | (rw [if_neg c30] at h; exact h)
