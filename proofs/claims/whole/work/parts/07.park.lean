/-! the park: small functions over raw memory -/
theorem sm_rem {a c : Nat} (ha : a < 2 ^ 31) (hc : c < 2 ^ 31) : remJ (nI a) (nI c) = nI (a % c) := by
  have hlt : a % c < 2 ^ 31 := Nat.lt_of_le_of_lt (Nat.mod_le a c) ha
  apply Int32.toInt_inj.mp
  unfold remJ
  rw [rem_toInt, nI_toInt ha, nI_toInt hc, nI_toInt hlt, Int.tmod_eq_emod_of_nonneg (by omega)]
  exact (Int.natCast_emod a c).symm
def wayC (a b : Int32) : Int32 := minJ (fmodJ (b - a) 30) (30 - fmodJ (b - a) 30)
def towC (a b s : Int32) : Int32 := fmodJ (if 30 < fmodJ (b - a) 30 * 2 then a - minJ s (minJ (fmodJ (b - a) 30) (30 - fmodJ (b - a) 30)) else a + minJ s (minJ (fmodJ (b - a) 30) (30 - fmodJ (b - a) 30))) 30
def stepsC (k m r : Int32) : Int32 := if k = 1 then 1 else if k = 2 then (if remJ m 3 = 0 then 0 else 3) else if k = 3 then 2 else if k = 4 then (if remJ m 2 = 1 then 0 else 1) else if k = 5 then (if remJ m 3 = 0 then 1 else 4) else if k = 6 then 2 + r else 2
def bitD (s x : Int32) : Int32 := (s >>> (x &&& 31)) &&& 1
def setB (s x : Int32) : Int32 := s ||| ((1 : Int32) <<< (x &&& 31))
def clrB (s x : Int32) : Int32 := s &&& (((1 : Int32) <<< (x &&& 31)) ^^^ -1)
/-- the gate to go to: of n gates from g on, best so far and how far -/
def goalF (fl : Int32) (kp pl fo : Int32) (gp : Nat → Int32) : Nat → Nat → Int32 → Int32 → Int32
  | 0, _, best, _ => best
  | n + 1, g, best, bw =>
    if bitD fo (nI g) = 0 then
      (if best < 0 then goalF fl kp pl fo gp n (g + 1) (nI g) (if fl = 0 then wayC pl (gp g) else -wayC kp (gp g))
       else if (if fl = 0 then wayC pl (gp g) else -wayC kp (gp g)) < bw then goalF fl kp pl fo gp n (g + 1) (nI g) (if fl = 0 then wayC pl (gp g) else -wayC kp (gp g))
       else goalF fl kp pl fo gp n (g + 1) best bw)
    else goalF fl kp pl fo gp n (g + 1) best bw
def fleeC (k : Int32) : Int32 := if k = 3 then 1 else if k = 6 then 1 else 0
/-- what a dusk is asked of one -/
def factF (i kd v pl fo m : Int32) : Nat → Int32 := fun j => match j with
  | 0 => i | 1 => kd | 2 => v | 3 => pl | 4 => popJ fo | _ => remJ m 10
def erD (mi : Nat → Nat → Int32) (k : Nat) (F : Nat → Int32) : Int32 := erF (mi (k + 1)) F (mi k 1).toNatClampNeg 0 0 0
/-- a dusk's codes are not too many -/
def DKI (mi : Nat → Nat → Int32) (k : Nat) : Prop := ∃ S, S ≤ 100 ∧ mi k 1 = nI S
/-- all but the facts of a park is as it was -/
def Ag (b : Nat) (mi mi' : Nat → Nat → Int32) : Prop := ∀ a, a ≠ b + 4 → mi' a = mi a

set_option maxHeartbeats 4000000 in
theorem K_way {G : rn_G} {d : Nat} {κ : Nat × Nat} {Q : Option Value → rn_S → Prop} {σ : rn_S} {x y : Int32} (h : Q (some (.int (wayC x y))) σ) : Call G (d + 1) M_X3_way [.int x, .int y] σ κ Q := by
  show Run G _ M_X3_way 0 [.int x, .int y, .null] [] _ _ _
  refine il_1 dX3_way_0 ?_
  refine il_0 dX3_way_1 ?_
  refine R_isub dX3_way_2 ?_
  refine R_bipush (v := 30) dX3_way_3 (by decide) ?_
  refine cs_2 dX3_way_5 mm_RX3_166 (Nat.le_of_ble_eq_true rfl) (Nat.le_of_ble_eq_true rfl) (K_floorMod (by decide) ?_)
  refine is_2 dX3_way_8 rfl ?_
  refine il_2 dX3_way_9 ?_
  refine R_bipush (v := 30) dX3_way_10 (by decide) ?_
  refine il_2 dX3_way_12 ?_
  refine R_isub dX3_way_13 ?_
  refine cs_2 dX3_way_14 mm_RX3_171 (Nat.le_of_ble_eq_true rfl) (Nat.le_of_ble_eq_true rfl) (K_min ?_)
  refine R_ireturn dX3_way_17 ⟨_, rfl, rfl⟩ ?_
  exact h

set_option maxHeartbeats 4000000 in
theorem K_toward {G : rn_G} {d : Nat} {κ : Nat × Nat} {Q : Option Value → rn_S → Prop} {σ : rn_S} {x y z : Int32} (h : Q (some (.int (towC x y z))) σ) : Call G (d + 1) M_X3_toward [.int x, .int y, .int z] σ κ Q := by
  show Run G _ M_X3_toward 0 [.int x, .int y, .int z, .null, .null] [] _ _ _
  unfold towC at h
  refine il_1 dX3_toward_0 ?_
  refine il_0 dX3_toward_1 ?_
  refine R_isub dX3_toward_2 ?_
  refine R_bipush (v := 30) dX3_toward_3 (by decide) ?_
  refine cs_2 dX3_toward_5 mm_RX3_166 (Nat.le_of_ble_eq_true rfl) (Nat.le_of_ble_eq_true rfl) (K_floorMod (by decide) ?_)
  refine is_3 dX3_toward_8 rfl ?_
  refine il_2 dX3_toward_9 ?_
  refine il_3 dX3_toward_10 ?_
  refine R_bipush (v := 30) dX3_toward_11 (by decide) ?_
  refine il_3 dX3_toward_13 ?_
  refine R_isub dX3_toward_14 ?_
  refine cs_2 dX3_toward_15 mm_RX3_171 (Nat.le_of_ble_eq_true rfl) (Nat.le_of_ble_eq_true rfl) (K_min ?_)
  refine cs_2 dX3_toward_18 mm_RX3_171 (Nat.le_of_ble_eq_true rfl) (Nat.le_of_ble_eq_true rfl) (K_min ?_)
  refine is_4 dX3_toward_21 rfl ?_
  refine il_3 dX3_toward_23 ?_
  refine R_iconst (v := 2) dX3_toward_24 (by decide) ?_
  refine R_imul dX3_toward_25 ?_
  refine R_bipush (v := 30) dX3_toward_26 (by decide) ?_
  refine R_icmp_gt (tgt := 38) dX3_toward_28 (by decide) (fun c28 => ?_) (fun c28 => ?_)
  · refine il_0 dX3_toward_38 ?_
    refine il_4 dX3_toward_39 ?_
    refine R_isub dX3_toward_41 ?_
    refine R_bipush (v := 30) dX3_toward_42 (by decide) ?_
    refine cs_2 dX3_toward_44 mm_RX3_166 (Nat.le_of_ble_eq_true rfl) (Nat.le_of_ble_eq_true rfl) (K_floorMod (by decide) ?_)
    refine R_ireturn dX3_toward_47 ⟨_, rfl, rfl⟩ ?_
    first | (rw [if_pos c28] at h; exact h) | (rw [if_neg c28] at h; exact h)
  · refine il_0 dX3_toward_31 ?_
    refine il_4 dX3_toward_32 ?_
    refine R_iadd dX3_toward_34 ?_
    refine R_goto (tgt := 42) dX3_toward_35 (by decide) ?_
    refine R_bipush (v := 30) dX3_toward_42 (by decide) ?_
    refine cs_2 dX3_toward_44 mm_RX3_166 (Nat.le_of_ble_eq_true rfl) (Nat.le_of_ble_eq_true rfl) (K_floorMod (by decide) ?_)
    refine R_ireturn dX3_toward_47 ⟨_, rfl, rfl⟩ ?_
    first | (rw [if_pos c28] at h; exact h) | (rw [if_neg c28] at h; exact h)

set_option maxHeartbeats 4000000 in
theorem K_hasGate {G : rn_G} {d : Nat} {κ : Nat × Nat} {Q : Option Value → rn_S → Prop} {mi : Nat → Nat → Int32} {ml : Nat → Nat → Int64} {D : Nat → Nat} {b : Nat} (hB : PB b) {x : Int32} (h1 : 0 ≤ x ∧ x < mi b 4 → Q (some (.int 1)) (mi, ml, RF D, 164)) (h0 : ¬ (0 ≤ x ∧ x < mi b 4) → Q (some (.int 0)) (mi, ml, RF D, 164)) : Call G (d) M_X3_hasGate [.ref b, .int x] (mi, ml, RF D, 164) κ Q := by
  show Run G _ M_X3_hasGate 0 [.ref b, .int x] [] _ _ _
  refine il_1 dX3_hasGate_0 ?_
  refine R_if_lt (tgt := 16) dX3_hasGate_1 (by decide) (fun c1 => ?_) (fun c1 => ?_)
  · refine R_iconst (v := 0) dX3_hasGate_16 (by decide) ?_
    refine R_ireturn dX3_hasGate_17 ⟨_, rfl, rfl⟩ ?_
    exact h0 (fun q => by first | exact Int32.not_lt.mpr q.1 c1 | exact Int32.not_le.mpr q.2 c9)
  · refine il_1 dX3_hasGate_4 ?_
    refine al_0 dX3_hasGate_5 ?_
    refine R_getfi dX3_hasGate_6 fl_RX3_52 rfl (pb_s0 hB) (show b < 164 by have := pb_n hB; omega) ?_
    refine R_icmp_ge (tgt := 16) dX3_hasGate_9 (by decide) (fun c9 => ?_) (fun c9 => ?_)
    · refine R_iconst (v := 0) dX3_hasGate_16 (by decide) ?_
      refine R_ireturn dX3_hasGate_17 ⟨_, rfl, rfl⟩ ?_
      exact h0 (fun q => by first | exact Int32.not_lt.mpr q.1 c1 | exact Int32.not_le.mpr q.2 c9)
    · refine R_iconst (v := 1) dX3_hasGate_12 (by decide) ?_
      refine R_goto (tgt := 17) dX3_hasGate_13 (by decide) ?_
      refine R_ireturn dX3_hasGate_17 ⟨_, rfl, rfl⟩ ?_
      exact h1 ⟨Int32.not_lt.mp c1, Int32.not_le.mp c9⟩

set_option maxHeartbeats 4000000 in
theorem K_hasPerson {G : rn_G} {d : Nat} {κ : Nat × Nat} {Q : Option Value → rn_S → Prop} {mi : Nat → Nat → Int32} {ml : Nat → Nat → Int64} {D : Nat → Nat} {b : Nat} (hB : PB b) {x : Int32} (h1 : 0 ≤ x ∧ x < mi b 6 → Q (some (.int 1)) (mi, ml, RF D, 164)) (h0 : ¬ (0 ≤ x ∧ x < mi b 6) → Q (some (.int 0)) (mi, ml, RF D, 164)) : Call G (d) M_X3_hasPerson [.ref b, .int x] (mi, ml, RF D, 164) κ Q := by
  show Run G _ M_X3_hasPerson 0 [.ref b, .int x] [] _ _ _
  refine il_1 dX3_hasPerson_0 ?_
  refine R_if_lt (tgt := 16) dX3_hasPerson_1 (by decide) (fun c1 => ?_) (fun c1 => ?_)
  · refine R_iconst (v := 0) dX3_hasPerson_16 (by decide) ?_
    refine R_ireturn dX3_hasPerson_17 ⟨_, rfl, rfl⟩ ?_
    exact h0 (fun q => by first | exact Int32.not_lt.mpr q.1 c1 | exact Int32.not_le.mpr q.2 c9)
  · refine il_1 dX3_hasPerson_4 ?_
    refine al_0 dX3_hasPerson_5 ?_
    refine R_getfi dX3_hasPerson_6 fl_RX3_45 rfl (pb_s0 hB) (show b < 164 by have := pb_n hB; omega) ?_
    refine R_icmp_ge (tgt := 16) dX3_hasPerson_9 (by decide) (fun c9 => ?_) (fun c9 => ?_)
    · refine R_iconst (v := 0) dX3_hasPerson_16 (by decide) ?_
      refine R_ireturn dX3_hasPerson_17 ⟨_, rfl, rfl⟩ ?_
      exact h0 (fun q => by first | exact Int32.not_lt.mpr q.1 c1 | exact Int32.not_le.mpr q.2 c9)
    · refine R_iconst (v := 1) dX3_hasPerson_12 (by decide) ?_
      refine R_goto (tgt := 17) dX3_hasPerson_13 (by decide) ?_
      refine R_ireturn dX3_hasPerson_17 ⟨_, rfl, rfl⟩ ?_
      exact h1 ⟨Int32.not_lt.mp c1, Int32.not_le.mp c9⟩

set_option maxHeartbeats 4000000 in
theorem K_isShut {G : rn_G} {d : Nat} {κ : Nat × Nat} {Q : Option Value → rn_S → Prop} {mi : Nat → Nat → Int32} {ml : Nat → Nat → Int64} {D : Nat → Nat} {b : Nat} (hB : PB b) {x : Int32} (h1 : bitD (mi b 5) x = 1 → Q (some (.int 1)) (mi, ml, RF D, 164)) (h0 : ¬ (bitD (mi b 5) x = 1) → Q (some (.int 0)) (mi, ml, RF D, 164)) : Call G (d) M_X3_isShut [.ref b, .int x] (mi, ml, RF D, 164) κ Q := by
  show Run G _ M_X3_isShut 0 [.ref b, .int x] [] _ _ _
  refine al_0 dX3_isShut_0 ?_
  refine R_getfi dX3_isShut_1 fl_RX3_55 rfl (pb_s0 hB) (show b < 164 by have := pb_n hB; omega) ?_
  refine il_1 dX3_isShut_4 ?_
  refine R_ishr dX3_isShut_5 ?_
  refine R_iconst (v := 1) dX3_isShut_6 (by decide) ?_
  refine R_iand dX3_isShut_7 ?_
  refine R_iconst (v := 1) dX3_isShut_8 (by decide) ?_
  refine R_icmp_ne (tgt := 16) dX3_isShut_9 (by decide) (fun c9 => ?_) (fun c9 => ?_)
  · refine R_iconst (v := 0) dX3_isShut_16 (by decide) ?_
    refine R_ireturn dX3_isShut_17 ⟨_, rfl, rfl⟩ ?_
    exact h0 c9
  · refine R_iconst (v := 1) dX3_isShut_12 (by decide) ?_
    refine R_goto (tgt := 17) dX3_isShut_13 (by decide) ?_
    refine R_ireturn dX3_isShut_17 ⟨_, rfl, rfl⟩ ?_
    exact h1 c9

set_option maxHeartbeats 4000000 in
theorem K_setShut {G : rn_G} {d : Nat} {κ : Nat × Nat} {Q : Option Value → rn_S → Prop} {mi : Nat → Nat → Int32} {ml : Nat → Nat → Int64} {D : Nat → Nat} {b : Nat} (hB : PB b) {x z : Int32} (h : Q none (rn_u mi b 5 (if z = 0 then clrB (mi b 5) x else setB (mi b 5) x), ml, RF D, 164)) : Call G (d) M_X3_setShut [.ref b, .int x, .int z] (mi, ml, RF D, 164) κ Q := by
  show Run G _ M_X3_setShut 0 [.ref b, .int x, .int z] [] _ _ _
  refine al_0 dX3_setShut_0 ?_
  refine il_2 dX3_setShut_1 ?_
  refine R_if_eq (tgt := 16) dX3_setShut_2 (by decide) (fun c2 => ?_) (fun c2 => ?_)
  · refine al_0 dX3_setShut_16 ?_
    refine R_getfi dX3_setShut_17 fl_RX3_55 rfl (pb_s0 hB) (show b < 164 by have := pb_n hB; omega) ?_
    refine R_iconst (v := 1) dX3_setShut_20 (by decide) ?_
    refine il_1 dX3_setShut_21 ?_
    refine R_ishl dX3_setShut_22 ?_
    refine R_iconst (v := -1) dX3_setShut_23 (by decide) ?_
    refine R_ixor dX3_setShut_24 ?_
    refine R_iand dX3_setShut_25 ?_
    refine R_putfi dX3_setShut_26 fl_RX3_55 rfl (Or.inl rfl) (pb_s0 hB) (show b < 164 by have := pb_n hB; omega) rfl rfl ?_
    refine R_return dX3_setShut_29 rfl ?_
    first | (rw [if_pos c2] at h; exact h) | (rw [if_neg c2] at h; exact h)
  · refine al_0 dX3_setShut_5 ?_
    refine R_getfi dX3_setShut_6 fl_RX3_55 rfl (pb_s0 hB) (show b < 164 by have := pb_n hB; omega) ?_
    refine R_iconst (v := 1) dX3_setShut_9 (by decide) ?_
    refine il_1 dX3_setShut_10 ?_
    refine R_ishl dX3_setShut_11 ?_
    refine R_ior dX3_setShut_12 ?_
    refine R_goto (tgt := 26) dX3_setShut_13 (by decide) ?_
    refine R_putfi dX3_setShut_26 fl_RX3_55 rfl (Or.inl rfl) (pb_s0 hB) (show b < 164 by have := pb_n hB; omega) rfl rfl ?_
    refine R_return dX3_setShut_29 rfl ?_
    first | (rw [if_pos c2] at h; exact h) | (rw [if_neg c2] at h; exact h)

set_option maxHeartbeats 4000000 in
theorem K_setDown {G : rn_G} {d : Nat} {κ : Nat × Nat} {Q : Option Value → rn_S → Prop} {mi : Nat → Nat → Int32} {ml : Nat → Nat → Int64} {D : Nat → Nat} {b : Nat} (hB : PB b) {x y : Int32} {i : Nat} (hi : i < 6) (hix : rn_ix x i) (h : Q none (rn_u (rn_u mi (b + 7 + 2 * i) 2 y) (b + 7 + 2 * i) 5 0, ml, RF D, 164)) : Call G (d) M_X3_setDown [.ref b, .int x, .int y] (mi, ml, RF D, 164) κ Q := by
  show Run G _ M_X3_setDown 0 [.ref b, .int x, .int y] [] _ _ _
  refine al_0 dX3_setDown_0 ?_
  refine R_getfr (r := b + 2) dX3_setDown_1 fl_RX3_17 rfl (pb_s0 hB) (show b < 164 by have := pb_n hB; omega) (pb_r1 hB) ?_
  refine il_1 dX3_setDown_4 ?_
  refine R_aald (t := 4) (r := (b + 7 + 2 * i)) dX3_setDown_5 (by decide) (pb_s2 hB) (show b + 2 < 164 by have := pb_n hB; omega) hix hi (pb_rq hB hi) ?_
  refine il_2 dX3_setDown_6 ?_
  refine R_putfi dX3_setDown_7 fl_RX3_80 rfl (Or.inl rfl) (pq_s0 (pb_q hB hi)) (show (b + 7 + 2 * i) < 164 by have := pq_n (pb_q hB hi); omega) rfl rfl ?_
  refine al_0 dX3_setDown_10 ?_
  refine R_getfr (r := b + 2) dX3_setDown_11 fl_RX3_17 rfl (pb_s0 hB) (show b < 164 by have := pb_n hB; omega) (pb_r1 hB) ?_
  refine il_1 dX3_setDown_14 ?_
  refine R_aald (t := 4) (r := (b + 7 + 2 * i)) dX3_setDown_15 (by decide) (pb_s2 hB) (show b + 2 < 164 by have := pb_n hB; omega) hix hi (pb_rq hB hi) ?_
  refine R_iconst (v := 0) dX3_setDown_16 (by decide) ?_
  refine R_putfi dX3_setDown_17 fl_RX3_83 rfl (Or.inl rfl) (pq_s0 (pb_q hB hi)) (show (b + 7 + 2 * i) < 164 by have := pq_n (pb_q hB hi); omega) rfl rfl ?_
  refine R_return dX3_setDown_20 rfl ?_
  exact h

set_option maxHeartbeats 4000000 in
theorem K_endRound {G : rn_G} {d : Nat} {κ : Nat × Nat} {Q : Option Value → rn_S → Prop} {mi : Nat → Nat → Int32} {ml : Nat → Nat → Int64} {D : Nat → Nat} {b : Nat} (hB : PB b) (h : Q none (rn_u (rn_u (rn_u mi b 8 0) b 9 0) b 7 0, ml, RF D, 164)) : Call G (d) M_X3_endRound [.ref b] (mi, ml, RF D, 164) κ Q := by
  show Run G _ M_X3_endRound 0 [.ref b] [] _ _ _
  refine al_0 dX3_endRound_0 ?_
  refine R_iconst (v := 0) dX3_endRound_1 (by decide) ?_
  refine R_putfi dX3_endRound_2 fl_RX3_61 rfl (Or.inl rfl) (pb_s0 hB) (show b < 164 by have := pb_n hB; omega) rfl rfl ?_
  refine al_0 dX3_endRound_5 ?_
  refine R_iconst (v := 0) dX3_endRound_6 (by decide) ?_
  refine R_putfi dX3_endRound_7 fl_RX3_64 rfl (Or.inl rfl) (pb_s0 hB) (show b < 164 by have := pb_n hB; omega) rfl rfl ?_
  refine al_0 dX3_endRound_10 ?_
  refine R_iconst (v := 0) dX3_endRound_11 (by decide) ?_
  refine R_putfi dX3_endRound_12 fl_RX3_58 rfl (Or.inl rfl) (pb_s0 hB) (show b < 164 by have := pb_n hB; omega) rfl rfl ?_
  refine R_return dX3_endRound_15 rfl ?_
  exact h

set_option maxHeartbeats 4000000 in
theorem K_steps {G : rn_G} {d : Nat} {κ : Nat × Nat} {Q : Option Value → rn_S → Prop} {mi : Nat → Nat → Int32} {ml : Nat → Nat → Int64} {D : Nat → Nat} {b : Nat} (hB : PB b) {q : Nat} (hq : PQ q) (hm : ∃ m, mi b 10 = nI m ∧ m < 2 ^ 31) (h : Q (some (.int (stepsC (mi q 0) (mi b 10) (mi (q + 1) (remJ (mi b 10) 4).toNatClampNeg)))) (mi, ml, RF D, 164)) : Call G (d) M_X3_steps [.ref b, .ref q] (mi, ml, RF D, 164) κ Q := by
  show Run G _ M_X3_steps 0 [.ref b, .ref q] [] _ _ _
  unfold stepsC at h
  obtain ⟨M4, hM, hM2⟩ := hm
  have hix4 : rn_ix (mi b 10 - mi b 10 / 4 * 4) (M4 % 4) := by
    have h4 := sm_rem (a := M4) (c := 4) hM2 (by decide)
    rw [hM]
    show rn_ix (remJ (nI M4) (nI 4)) _
    rw [h4]
    exact rn_ix_nI (by omega)
  have hrm : (remJ (mi b 10) 4).toNatClampNeg = M4 % 4 := hix4.2
  rw [hrm] at h
  have hl4 : M4 % 4 < 4 := Nat.mod_lt _ (by decide)
  unfold remJ at h
  refine al_1 dX3_steps_0 ?_
  refine R_getfi dX3_steps_1 fl_RX3_143 rfl (pq_s0 hq) (show q < 164 by have := pq_n hq; omega) ?_
  by_cases w4_1 : mi q 0 = 1
  · refine R_tswI (tgt := 44) dX3_steps_4 1 w4_1 (by decide) (by decide) rfl (by decide) ?_
    refine R_iconst (v := 1) dX3_steps_44 (by decide) ?_
    refine R_ireturn dX3_steps_45 ⟨_, rfl, rfl⟩ ?_
    rw [if_pos w4_1] at h
    exact h
  by_cases w4_2 : mi q 0 = 2
  · refine R_tswI (tgt := 46) dX3_steps_4 2 w4_2 (by decide) (by decide) rfl (by decide) ?_
    refine al_0 dX3_steps_46 ?_
    refine R_getfi dX3_steps_47 fl_RX3_67 rfl (pb_s0 hB) (show b < 164 by have := pb_n hB; omega) ?_
    refine R_iconst (v := 3) dX3_steps_50 (by decide) ?_
    refine R_irem dX3_steps_51 (by decide) ?_
    refine R_if_ne (tgt := 59) dX3_steps_52 (by decide) (fun c52 => ?_) (fun c52 => ?_)
    · refine R_iconst (v := 3) dX3_steps_59 (by decide) ?_
      refine R_ireturn dX3_steps_60 ⟨_, rfl, rfl⟩ ?_
      rw [if_neg w4_1, if_pos w4_2] at h
      first | (rw [if_pos c52] at h; exact h) | (rw [if_neg c52] at h; exact h)
    · refine R_iconst (v := 0) dX3_steps_55 (by decide) ?_
      refine R_goto (tgt := 60) dX3_steps_56 (by decide) ?_
      refine R_ireturn dX3_steps_60 ⟨_, rfl, rfl⟩ ?_
      rw [if_neg w4_1, if_pos w4_2] at h
      first | (rw [if_pos c52] at h; exact h) | (rw [if_neg c52] at h; exact h)
  by_cases w4_3 : mi q 0 = 3
  · refine R_tswI (tgt := 106) dX3_steps_4 3 w4_3 (by decide) (by decide) rfl (by decide) ?_
    refine R_iconst (v := 2) dX3_steps_106 (by decide) ?_
    refine R_ireturn dX3_steps_107 ⟨_, rfl, rfl⟩ ?_
    first | (rw [if_neg w4_1, if_neg w4_2, if_pos w4_3] at h; exact h) | (rw [if_neg w4_1, if_neg w4_2, if_neg w4_3, if_neg w4_4, if_neg w4_5, if_neg w4_6] at h; exact h)
  by_cases w4_4 : mi q 0 = 4
  · refine R_tswI (tgt := 61) dX3_steps_4 4 w4_4 (by decide) (by decide) rfl (by decide) ?_
    refine al_0 dX3_steps_61 ?_
    refine R_getfi dX3_steps_62 fl_RX3_67 rfl (pb_s0 hB) (show b < 164 by have := pb_n hB; omega) ?_
    refine R_iconst (v := 2) dX3_steps_65 (by decide) ?_
    refine R_irem dX3_steps_66 (by decide) ?_
    refine R_iconst (v := 1) dX3_steps_67 (by decide) ?_
    refine R_icmp_ne (tgt := 75) dX3_steps_68 (by decide) (fun c68 => ?_) (fun c68 => ?_)
    · refine R_iconst (v := 1) dX3_steps_75 (by decide) ?_
      refine R_ireturn dX3_steps_76 ⟨_, rfl, rfl⟩ ?_
      rw [if_neg w4_1, if_neg w4_2, if_neg w4_3, if_pos w4_4] at h
      first | (rw [if_pos c68] at h; exact h) | (rw [if_neg c68] at h; exact h)
    · refine R_iconst (v := 0) dX3_steps_71 (by decide) ?_
      refine R_goto (tgt := 76) dX3_steps_72 (by decide) ?_
      refine R_ireturn dX3_steps_76 ⟨_, rfl, rfl⟩ ?_
      rw [if_neg w4_1, if_neg w4_2, if_neg w4_3, if_pos w4_4] at h
      first | (rw [if_pos c68] at h; exact h) | (rw [if_neg c68] at h; exact h)
  by_cases w4_5 : mi q 0 = 5
  · refine R_tswI (tgt := 77) dX3_steps_4 5 w4_5 (by decide) (by decide) rfl (by decide) ?_
    refine al_0 dX3_steps_77 ?_
    refine R_getfi dX3_steps_78 fl_RX3_67 rfl (pb_s0 hB) (show b < 164 by have := pb_n hB; omega) ?_
    refine R_iconst (v := 3) dX3_steps_81 (by decide) ?_
    refine R_irem dX3_steps_82 (by decide) ?_
    refine R_if_ne (tgt := 90) dX3_steps_83 (by decide) (fun c83 => ?_) (fun c83 => ?_)
    · refine R_iconst (v := 4) dX3_steps_90 (by decide) ?_
      refine R_ireturn dX3_steps_91 ⟨_, rfl, rfl⟩ ?_
      rw [if_neg w4_1, if_neg w4_2, if_neg w4_3, if_neg w4_4, if_pos w4_5] at h
      first | (rw [if_pos c83] at h; exact h) | (rw [if_neg c83] at h; exact h)
    · refine R_iconst (v := 1) dX3_steps_86 (by decide) ?_
      refine R_goto (tgt := 91) dX3_steps_87 (by decide) ?_
      refine R_ireturn dX3_steps_91 ⟨_, rfl, rfl⟩ ?_
      rw [if_neg w4_1, if_neg w4_2, if_neg w4_3, if_neg w4_4, if_pos w4_5] at h
      first | (rw [if_pos c83] at h; exact h) | (rw [if_neg c83] at h; exact h)
  by_cases w4_6 : mi q 0 = 6
  · refine R_tswI (tgt := 92) dX3_steps_4 6 w4_6 (by decide) (by decide) rfl (by decide) ?_
    refine R_iconst (v := 2) dX3_steps_92 (by decide) ?_
    refine al_1 dX3_steps_93 ?_
    refine R_getfr (r := q + 1) dX3_steps_94 fl_RX3_163 rfl (pq_s0 hq) (show q < 164 by have := pq_n hq; omega) (pq_r6 hq) ?_
    refine al_0 dX3_steps_97 ?_
    refine R_getfi dX3_steps_98 fl_RX3_67 rfl (pb_s0 hB) (show b < 164 by have := pb_n hB; omega) ?_
    refine R_iconst (v := 4) dX3_steps_101 (by decide) ?_
    refine R_irem dX3_steps_102 (by decide) ?_
    refine R_iald dX3_steps_103 (pq_s1 hq) (show q + 1 < 164 by have := pq_n hq; omega) hix4 hl4 ?_
    refine R_iadd dX3_steps_104 ?_
    refine R_ireturn dX3_steps_105 ⟨_, rfl, rfl⟩ ?_
    rw [if_neg w4_1, if_neg w4_2, if_neg w4_3, if_neg w4_4, if_neg w4_5, if_pos w4_6] at h
    exact h
  refine R_tswO (tgt := 106) dX3_steps_4 (by have w4_1' := lv_neT (a := 1) w4_1 rfl; have w4_2' := lv_neT (a := 2) w4_2 rfl; have w4_3' := lv_neT (a := 3) w4_3 rfl; have w4_4' := lv_neT (a := 4) w4_4 rfl; have w4_5' := lv_neT (a := 5) w4_5 rfl; have w4_6' := lv_neT (a := 6) w4_6 rfl; omega) (by decide) ?_
  refine R_iconst (v := 2) dX3_steps_106 (by decide) ?_
  refine R_ireturn dX3_steps_107 ⟨_, rfl, rfl⟩ ?_
  first | (rw [if_neg w4_1, if_neg w4_2, if_pos w4_3] at h; exact h) | (rw [if_neg w4_1, if_neg w4_2, if_neg w4_3, if_neg w4_4, if_neg w4_5, if_neg w4_6] at h; exact h)

set_option maxHeartbeats 4000000 in
theorem L_goal {G : rn_G} {d : Nat} {κ : Nat × Nat} {Q : Option Value → rn_S → Prop} {mi : Nat → Nat → Int32} {ml : Nat → Nat → Int64} {D : Nat → Nat} {b : Nat} (hB : PB b) {q N : Nat} (hq : PQ q) (hg : mi b 4 = nI N) (hN : N ≤ 6) (fl : Int32) : ∀ (n g : Nat) (x3 x4 x5 : Int32) (v6 : Value), n + g = N → x5 = nI g → Q (some (.int (goalF fl (mi b 7) (mi q 2) (mi q 3) (mi (b + 1)) n g x3 x4))) (mi, ml, RF D, 164) → Run G (d + 2) M_X3_goal 32 [.ref b, .ref q, .int fl, .int x3, .int x4, .int x5, v6] [] (mi, ml, RF D, 164) κ Q := by
  intro n
  induction n with
  | zero =>
    intro g x3 x4 x5 v6 hng hx h
    refine il_5 dX3_goal_32 ?_
    refine al_0 dX3_goal_34 ?_
    refine R_getfi dX3_goal_35 fl_RX3_52 rfl (pb_s0 hB) (show b < 164 by have := pb_n hB; omega) ?_
    refine R_icmp_ge (tgt := 115) dX3_goal_38 (by decide) (fun c38 => ?_) (fun q => absurd q (not_not_intro (by rw [hg, hx]; exact nI_le (by omega) (by omega))))
    refine il_3 dX3_goal_115 ?_
    refine R_ireturn dX3_goal_116 ⟨_, rfl, rfl⟩ ?_
    exact h
  | succ n ih =>
    intro g x3 x4 x5 v6 hng hx h
    have hlt : g < 6 := by omega
    have hix : rn_ix x5 g := by rw [hx]; exact rn_ix_nI (by omega)
    unfold goalF bitD at h
    rw [← hx] at h
    refine il_5 dX3_goal_32 ?_
    refine al_0 dX3_goal_34 ?_
    refine R_getfi dX3_goal_35 fl_RX3_52 rfl (pb_s0 hB) (show b < 164 by have := pb_n hB; omega) ?_
    refine R_icmp_ge (tgt := 115) dX3_goal_38 (by decide) (fun q => absurd q (by rw [hg, hx]; exact nI_ge (by omega) (by omega))) (fun c38 => ?_)
    refine al_1 dX3_goal_41 ?_
    refine R_getfi dX3_goal_42 fl_RX3_137 rfl (pq_s0 hq) (show q < 164 by have := pq_n hq; omega) ?_
    refine il_5 dX3_goal_45 ?_
    refine R_ishr dX3_goal_47 ?_
    refine R_iconst (v := 1) dX3_goal_48 (by decide) ?_
    refine R_iand dX3_goal_49 ?_
    refine R_if_ne (tgt := 109) dX3_goal_50 (by decide) (fun c50 => ?_) (fun c50 => ?_)
    · refine ii_5 (v := _ + 1) dX3_goal_109 rfl (by rfl) ?_
      refine R_goto (tgt := 32) dX3_goal_112 (by decide) ?_
      refine ih (g + 1) _ _ _ _ (by omega) (by rw [hx]; exact (sm_add g 1)) ?_
      first | (rw [if_neg c50] at h; exact h) | (rw [if_pos c50] at h; first | (rw [if_pos c92, if_pos c54] at h; exact h) | (rw [if_pos c92, if_neg c54] at h; exact h) | (rw [if_neg c92, if_pos c54, if_pos (Int32.not_le.mp c99)] at h; exact h) | (rw [if_neg c92, if_neg c54, if_pos (Int32.not_le.mp c99)] at h; exact h) | (rw [if_neg c92, if_pos c54, if_neg (Int32.not_lt.mpr c99)] at h; exact h) | (rw [if_neg c92, if_neg c54, if_neg (Int32.not_lt.mpr c99)] at h; exact h))
    · refine il_2 dX3_goal_53 ?_
      refine R_if_eq (tgt := 75) dX3_goal_54 (by decide) (fun c54 => ?_) (fun c54 => ?_)
      · refine al_1 dX3_goal_75 ?_
        refine R_getfi dX3_goal_76 fl_RX3_80 rfl (pq_s0 hq) (show q < 164 by have := pq_n hq; omega) ?_
        refine al_0 dX3_goal_79 ?_
        refine R_getfr (r := b + 1) dX3_goal_80 fl_RX3_9 rfl (pb_s0 hB) (show b < 164 by have := pb_n hB; omega) (pb_r0 hB) ?_
        refine il_5 dX3_goal_83 ?_
        refine R_iald dX3_goal_85 (pb_s1 hB) (show b + 1 < 164 by have := pb_n hB; omega) hix hlt ?_
        refine cs_2 dX3_goal_86 mm_RX3_153 (Nat.le_of_ble_eq_true rfl) (Nat.le_of_ble_eq_true rfl) (K_way ?_)
        refine is_6 dX3_goal_89 rfl ?_
        refine il_3 dX3_goal_91 ?_
        refine R_if_lt (tgt := 102) dX3_goal_92 (by decide) (fun c92 => ?_) (fun c92 => ?_)
        · refine il_5 dX3_goal_102 ?_
          refine is_3 dX3_goal_104 rfl ?_
          refine il_6 dX3_goal_105 ?_
          refine is_4 dX3_goal_107 rfl ?_
          refine ii_5 (v := _ + 1) dX3_goal_109 rfl (by rfl) ?_
          refine R_goto (tgt := 32) dX3_goal_112 (by decide) ?_
          refine ih (g + 1) _ _ _ _ (by omega) (by rw [hx]; exact (sm_add g 1)) ?_
          first | (rw [if_neg c50] at h; exact h) | (rw [if_pos c50] at h; first | (rw [if_pos c92, if_pos c54] at h; exact h) | (rw [if_pos c92, if_neg c54] at h; exact h) | (rw [if_neg c92, if_pos c54, if_pos (Int32.not_le.mp c99)] at h; exact h) | (rw [if_neg c92, if_neg c54, if_pos (Int32.not_le.mp c99)] at h; exact h) | (rw [if_neg c92, if_pos c54, if_neg (Int32.not_lt.mpr c99)] at h; exact h) | (rw [if_neg c92, if_neg c54, if_neg (Int32.not_lt.mpr c99)] at h; exact h))
        · refine il_6 dX3_goal_95 ?_
          refine il_4 dX3_goal_97 ?_
          refine R_icmp_ge (tgt := 109) dX3_goal_99 (by decide) (fun c99 => ?_) (fun c99 => ?_)
          · refine ii_5 (v := _ + 1) dX3_goal_109 rfl (by rfl) ?_
            refine R_goto (tgt := 32) dX3_goal_112 (by decide) ?_
            refine ih (g + 1) _ _ _ _ (by omega) (by rw [hx]; exact (sm_add g 1)) ?_
            first | (rw [if_neg c50] at h; exact h) | (rw [if_pos c50] at h; first | (rw [if_pos c92, if_pos c54] at h; exact h) | (rw [if_pos c92, if_neg c54] at h; exact h) | (rw [if_neg c92, if_pos c54, if_pos (Int32.not_le.mp c99)] at h; exact h) | (rw [if_neg c92, if_neg c54, if_pos (Int32.not_le.mp c99)] at h; exact h) | (rw [if_neg c92, if_pos c54, if_neg (Int32.not_lt.mpr c99)] at h; exact h) | (rw [if_neg c92, if_neg c54, if_neg (Int32.not_lt.mpr c99)] at h; exact h))
          · refine il_5 dX3_goal_102 ?_
            refine is_3 dX3_goal_104 rfl ?_
            refine il_6 dX3_goal_105 ?_
            refine is_4 dX3_goal_107 rfl ?_
            refine ii_5 (v := _ + 1) dX3_goal_109 rfl (by rfl) ?_
            refine R_goto (tgt := 32) dX3_goal_112 (by decide) ?_
            refine ih (g + 1) _ _ _ _ (by omega) (by rw [hx]; exact (sm_add g 1)) ?_
            first | (rw [if_neg c50] at h; exact h) | (rw [if_pos c50] at h; first | (rw [if_pos c92, if_pos c54] at h; exact h) | (rw [if_pos c92, if_neg c54] at h; exact h) | (rw [if_neg c92, if_pos c54, if_pos (Int32.not_le.mp c99)] at h; exact h) | (rw [if_neg c92, if_neg c54, if_pos (Int32.not_le.mp c99)] at h; exact h) | (rw [if_neg c92, if_pos c54, if_neg (Int32.not_lt.mpr c99)] at h; exact h) | (rw [if_neg c92, if_neg c54, if_neg (Int32.not_lt.mpr c99)] at h; exact h))
      · refine al_0 dX3_goal_57 ?_
        refine R_getfi dX3_goal_58 fl_RX3_58 rfl (pb_s0 hB) (show b < 164 by have := pb_n hB; omega) ?_
        refine al_0 dX3_goal_61 ?_
        refine R_getfr (r := b + 1) dX3_goal_62 fl_RX3_9 rfl (pb_s0 hB) (show b < 164 by have := pb_n hB; omega) (pb_r0 hB) ?_
        refine il_5 dX3_goal_65 ?_
        refine R_iald dX3_goal_67 (pb_s1 hB) (show b + 1 < 164 by have := pb_n hB; omega) hix hlt ?_
        refine cs_2 dX3_goal_68 mm_RX3_153 (Nat.le_of_ble_eq_true rfl) (Nat.le_of_ble_eq_true rfl) (K_way ?_)
        refine R_ineg dX3_goal_71 ?_
        refine R_goto (tgt := 89) dX3_goal_72 (by decide) ?_
        refine is_6 dX3_goal_89 rfl ?_
        refine il_3 dX3_goal_91 ?_
        refine R_if_lt (tgt := 102) dX3_goal_92 (by decide) (fun c92 => ?_) (fun c92 => ?_)
        · refine il_5 dX3_goal_102 ?_
          refine is_3 dX3_goal_104 rfl ?_
          refine il_6 dX3_goal_105 ?_
          refine is_4 dX3_goal_107 rfl ?_
          refine ii_5 (v := _ + 1) dX3_goal_109 rfl (by rfl) ?_
          refine R_goto (tgt := 32) dX3_goal_112 (by decide) ?_
          refine ih (g + 1) _ _ _ _ (by omega) (by rw [hx]; exact (sm_add g 1)) ?_
          first | (rw [if_neg c50] at h; exact h) | (rw [if_pos c50] at h; first | (rw [if_pos c92, if_pos c54] at h; exact h) | (rw [if_pos c92, if_neg c54] at h; exact h) | (rw [if_neg c92, if_pos c54, if_pos (Int32.not_le.mp c99)] at h; exact h) | (rw [if_neg c92, if_neg c54, if_pos (Int32.not_le.mp c99)] at h; exact h) | (rw [if_neg c92, if_pos c54, if_neg (Int32.not_lt.mpr c99)] at h; exact h) | (rw [if_neg c92, if_neg c54, if_neg (Int32.not_lt.mpr c99)] at h; exact h))
        · refine il_6 dX3_goal_95 ?_
          refine il_4 dX3_goal_97 ?_
          refine R_icmp_ge (tgt := 109) dX3_goal_99 (by decide) (fun c99 => ?_) (fun c99 => ?_)
          · refine ii_5 (v := _ + 1) dX3_goal_109 rfl (by rfl) ?_
            refine R_goto (tgt := 32) dX3_goal_112 (by decide) ?_
            refine ih (g + 1) _ _ _ _ (by omega) (by rw [hx]; exact (sm_add g 1)) ?_
            first | (rw [if_neg c50] at h; exact h) | (rw [if_pos c50] at h; first | (rw [if_pos c92, if_pos c54] at h; exact h) | (rw [if_pos c92, if_neg c54] at h; exact h) | (rw [if_neg c92, if_pos c54, if_pos (Int32.not_le.mp c99)] at h; exact h) | (rw [if_neg c92, if_neg c54, if_pos (Int32.not_le.mp c99)] at h; exact h) | (rw [if_neg c92, if_pos c54, if_neg (Int32.not_lt.mpr c99)] at h; exact h) | (rw [if_neg c92, if_neg c54, if_neg (Int32.not_lt.mpr c99)] at h; exact h))
          · refine il_5 dX3_goal_102 ?_
            refine is_3 dX3_goal_104 rfl ?_
            refine il_6 dX3_goal_105 ?_
            refine is_4 dX3_goal_107 rfl ?_
            refine ii_5 (v := _ + 1) dX3_goal_109 rfl (by rfl) ?_
            refine R_goto (tgt := 32) dX3_goal_112 (by decide) ?_
            refine ih (g + 1) _ _ _ _ (by omega) (by rw [hx]; exact (sm_add g 1)) ?_
            first | (rw [if_neg c50] at h; exact h) | (rw [if_pos c50] at h; first | (rw [if_pos c92, if_pos c54] at h; exact h) | (rw [if_pos c92, if_neg c54] at h; exact h) | (rw [if_neg c92, if_pos c54, if_pos (Int32.not_le.mp c99)] at h; exact h) | (rw [if_neg c92, if_neg c54, if_pos (Int32.not_le.mp c99)] at h; exact h) | (rw [if_neg c92, if_pos c54, if_neg (Int32.not_lt.mpr c99)] at h; exact h) | (rw [if_neg c92, if_neg c54, if_neg (Int32.not_lt.mpr c99)] at h; exact h))

set_option maxHeartbeats 4000000 in
theorem K_goal {G : rn_G} {d : Nat} {κ : Nat × Nat} {Q : Option Value → rn_S → Prop} {mi : Nat → Nat → Int32} {ml : Nat → Nat → Int64} {D : Nat → Nat} {b : Nat} (hB : PB b) {q N : Nat} (hq : PQ q) (hg : mi b 4 = nI N) (hN : N ≤ 6) (h : Q (some (.int (goalF (fleeC (mi q 0)) (mi b 7) (mi q 2) (mi q 3) (mi (b + 1)) N 0 (-5) 0))) (mi, ml, RF D, 164)) : Call G (d + 2) M_X3_goal [.ref b, .ref q] (mi, ml, RF D, 164) κ Q := by
  show Run G _ M_X3_goal 0 [.ref b, .ref q, .null, .null, .null, .null, .null] [] _ _ _
  unfold fleeC at h
  refine al_1 dX3_goal_0 ?_
  refine R_getfi dX3_goal_1 fl_RX3_143 rfl (pq_s0 hq) (show q < 164 by have := pq_n hq; omega) ?_
  refine R_iconst (v := 3) dX3_goal_4 (by decide) ?_
  refine R_icmp_eq (tgt := 17) dX3_goal_5 (by decide) (fun c5 => ?_) (fun c5 => ?_)
  · refine R_iconst (v := 1) dX3_goal_17 (by decide) ?_
    refine R_goto (tgt := 22) dX3_goal_18 (by decide) ?_
    refine is_2 dX3_goal_22 rfl ?_
    refine R_bipush (v := -5) dX3_goal_23 (by decide) ?_
    refine is_3 dX3_goal_25 rfl ?_
    refine R_iconst (v := 0) dX3_goal_26 (by decide) ?_
    refine is_4 dX3_goal_27 rfl ?_
    refine R_iconst (v := 0) dX3_goal_29 (by decide) ?_
    refine is_5 dX3_goal_30 rfl ?_
    refine L_goal hB hq hg hN _ N 0 (-5) 0 0 _ (by omega) nI_0.symm ?_
    first | (rw [if_pos c5] at h; exact h) | (rw [if_neg c5, if_pos c14] at h; exact h) | (rw [if_neg c5, if_neg c14] at h; exact h)
  · refine al_1 dX3_goal_8 ?_
    refine R_getfi dX3_goal_9 fl_RX3_143 rfl (pq_s0 hq) (show q < 164 by have := pq_n hq; omega) ?_
    refine R_bipush (v := 6) dX3_goal_12 (by decide) ?_
    refine R_icmp_ne (tgt := 21) dX3_goal_14 (by decide) (fun c14 => ?_) (fun c14 => ?_)
    · refine R_iconst (v := 0) dX3_goal_21 (by decide) ?_
      refine is_2 dX3_goal_22 rfl ?_
      refine R_bipush (v := -5) dX3_goal_23 (by decide) ?_
      refine is_3 dX3_goal_25 rfl ?_
      refine R_iconst (v := 0) dX3_goal_26 (by decide) ?_
      refine is_4 dX3_goal_27 rfl ?_
      refine R_iconst (v := 0) dX3_goal_29 (by decide) ?_
      refine is_5 dX3_goal_30 rfl ?_
      refine L_goal hB hq hg hN _ N 0 (-5) 0 0 _ (by omega) nI_0.symm ?_
      first | (rw [if_pos c5] at h; exact h) | (rw [if_neg c5, if_pos c14] at h; exact h) | (rw [if_neg c5, if_neg c14] at h; exact h)
    · refine R_iconst (v := 1) dX3_goal_17 (by decide) ?_
      refine R_goto (tgt := 22) dX3_goal_18 (by decide) ?_
      refine is_2 dX3_goal_22 rfl ?_
      refine R_bipush (v := -5) dX3_goal_23 (by decide) ?_
      refine is_3 dX3_goal_25 rfl ?_
      refine R_iconst (v := 0) dX3_goal_26 (by decide) ?_
      refine is_4 dX3_goal_27 rfl ?_
      refine R_iconst (v := 0) dX3_goal_29 (by decide) ?_
      refine is_5 dX3_goal_30 rfl ?_
      refine L_goal hB hq hg hN _ N 0 (-5) 0 0 _ (by omega) nI_0.symm ?_
      first | (rw [if_pos c5] at h; exact h) | (rw [if_neg c5, if_pos c14] at h; exact h) | (rw [if_neg c5, if_neg c14] at h; exact h)

theorem thC_congr {F F' : Nat → Int32} (h : ∀ j, j < 6 → F j = F' j) (c : Int32) : thC c F = thC c F' := by
  unfold thC
  by_cases h1 : c / 300 < 0
  · rw [if_pos h1, if_pos h1]
  · rw [if_neg h1, if_neg h1]
    by_cases h2 : c / 300 < 6
    · rw [if_pos h2, if_pos h2, h _ (clamp_lt h1 h2 (by decide))]
    · rw [if_neg h2, if_neg h2]
theorem erF_congr {cd F F' : Nat → Int32} (h : ∀ j, j < 6 → F j = F' j) : ∀ (n i : Nat) (e k : Int32), erF cd F n i e k = erF cd F' n i e k
  | 0, _, _, _ => rfl
  | n + 1, i, e, k => by
    unfold erF
    rw [thC_congr h]
    simp only [erF_congr h n]
theorem ears_fin {Q : Option Value → rn_S → Prop} {b : Nat} {mi M' : Nat → Nat → Int32} {ml : Nat → Nat → Int64} {D : Nat → Nat} {v w : Int32} (h : ∀ mi', Ag b mi mi' → Q (some (.int w)) (mi', ml, RF D, 164)) (hA : Ag b mi M') (hv : v = w) : Q (some (.int v)) (M', ml, RF D, 164) := by
  rw [hv]
  exact h M' hA

theorem pd_ne {k b : Nat} (hk : PD k) (hB : PB b) : k ≠ b + 4 ∧ k + 1 ≠ b + 4 := by
  unfold PD at hk
  unfold PB at hB
  omega

set_option maxHeartbeats 4000000 in
theorem K_ears {G : rn_G} {d : Nat} {κ : Nat × Nat} {Q : Option Value → rn_S → Prop} {mi : Nat → Nat → Int32} {ml : Nat → Nat → Int64} {D : Nat → Nat} {b : Nat} (hB : PB b) {i : Nat} (hi : i < 6) {x : Int32} (hx : x = nI i) (hk : PD (D b)) (hdk : DKI mi (D b)) (h : ∀ mi', Ag b mi mi' → Q (some (.int (erD mi (D b) (factF x (mi (b + 7 + 2 * i) 0) (mi (b + 7 + 2 * i) 1) (mi (b + 7 + 2 * i) 2) (mi (b + 7 + 2 * i) 3) (mi b 10))))) (mi', ml, RF D, 164)) : Call G (d + 2) M_X3_ears [.ref b, .int x] (mi, ml, RF D, 164) κ Q := by
  show Run G _ M_X3_ears 0 [.ref b, .int x, .null] [] _ _ _
  have hix : rn_ix x i := by rw [hx]; exact rn_ix_nI (by omega)
  obtain ⟨S, hS2, hS⟩ := hdk
  obtain ⟨hkn, hkn1⟩ := pd_ne hk hB
  have hbn := pb_n hB
  have hqb : b + 7 + 2 * i ≠ b + 4 := by omega
  have hbb : b ≠ b + 4 := by omega
  refine al_0 dX3_ears_0 ?_
  refine R_getfr (r := b + 2) dX3_ears_1 fl_RX3_17 rfl (pb_s0 hB) (show b < 164 by have := pb_n hB; omega) (pb_r1 hB) ?_
  refine il_1 dX3_ears_4 ?_
  refine R_aald (t := 4) (r := (b + 7 + 2 * i)) dX3_ears_5 (by decide) (pb_s2 hB) (show b + 2 < 164 by have := pb_n hB; omega) hix hi (pb_rq hB hi) ?_
  refine as_2 dX3_ears_6 rfl ?_
  refine al_0 dX3_ears_7 ?_
  refine R_getfr (r := b + 4) dX3_ears_8 fl_RX3_26 rfl (pb_s0 hB) (show b < 164 by have := pb_n hB; omega) (pb_r3 hB) ?_
  refine R_iconst (v := 0) dX3_ears_11 (by decide) ?_
  refine il_1 dX3_ears_12 ?_
  refine R_iast dX3_ears_13 (pb_s4 hB) (show b + 4 < 164 by have := pb_n hB; omega) (j := 0) ⟨by decide, by decide⟩ (by decide) ?_
  refine al_0 dX3_ears_14 ?_
  refine R_getfr (r := b + 4) dX3_ears_15 fl_RX3_26 rfl (pb_s0 hB) (show b < 164 by have := pb_n hB; omega) (pb_r3 hB) ?_
  refine R_iconst (v := 1) dX3_ears_18 (by decide) ?_
  refine al_2 dX3_ears_19 ?_
  refine R_getfi dX3_ears_20 fl_RX3_143 rfl (pq_s0 (pb_q hB hi)) (show (b + 7 + 2 * i) < 164 by have := pq_n (pb_q hB hi); omega) ?_
  refine R_iast dX3_ears_23 (pb_s4 hB) (show b + 4 < 164 by have := pb_n hB; omega) (j := 1) ⟨by decide, by decide⟩ (by decide) ?_
  refine al_0 dX3_ears_24 ?_
  refine R_getfr (r := b + 4) dX3_ears_25 fl_RX3_26 rfl (pb_s0 hB) (show b < 164 by have := pb_n hB; omega) (pb_r3 hB) ?_
  refine R_iconst (v := 2) dX3_ears_28 (by decide) ?_
  refine al_2 dX3_ears_29 ?_
  refine R_getfi dX3_ears_30 fl_RX3_146 rfl (pq_s0 (pb_q hB hi)) (show (b + 7 + 2 * i) < 164 by have := pq_n (pb_q hB hi); omega) ?_
  refine R_iast dX3_ears_33 (pb_s4 hB) (show b + 4 < 164 by have := pb_n hB; omega) (j := 2) ⟨by decide, by decide⟩ (by decide) ?_
  refine al_0 dX3_ears_34 ?_
  refine R_getfr (r := b + 4) dX3_ears_35 fl_RX3_26 rfl (pb_s0 hB) (show b < 164 by have := pb_n hB; omega) (pb_r3 hB) ?_
  refine R_iconst (v := 3) dX3_ears_38 (by decide) ?_
  refine al_2 dX3_ears_39 ?_
  refine R_getfi dX3_ears_40 fl_RX3_80 rfl (pq_s0 (pb_q hB hi)) (show (b + 7 + 2 * i) < 164 by have := pq_n (pb_q hB hi); omega) ?_
  refine R_iast dX3_ears_43 (pb_s4 hB) (show b + 4 < 164 by have := pb_n hB; omega) (j := 3) ⟨by decide, by decide⟩ (by decide) ?_
  refine al_0 dX3_ears_44 ?_
  refine R_getfr (r := b + 4) dX3_ears_45 fl_RX3_26 rfl (pb_s0 hB) (show b < 164 by have := pb_n hB; omega) (pb_r3 hB) ?_
  refine R_iconst (v := 4) dX3_ears_48 (by decide) ?_
  refine al_2 dX3_ears_49 ?_
  refine R_getfi dX3_ears_50 fl_RX3_137 rfl (pq_s0 (pb_q hB hi)) (show (b + 7 + 2 * i) < 164 by have := pq_n (pb_q hB hi); omega) ?_
  refine cs_1 dX3_ears_53 mm_RX3_95 (Nat.le_of_ble_eq_true rfl) (Nat.le_of_ble_eq_true rfl) (K_bitCount ?_)
  refine R_iast dX3_ears_56 (pb_s4 hB) (show b + 4 < 164 by have := pb_n hB; omega) (j := 4) ⟨by decide, by decide⟩ (by decide) ?_
  refine al_0 dX3_ears_57 ?_
  refine R_getfr (r := b + 4) dX3_ears_58 fl_RX3_26 rfl (pb_s0 hB) (show b < 164 by have := pb_n hB; omega) (pb_r3 hB) ?_
  refine R_iconst (v := 5) dX3_ears_61 (by decide) ?_
  refine al_0 dX3_ears_62 ?_
  refine R_getfi dX3_ears_63 fl_RX3_67 rfl (pb_s0 hB) (show b < 164 by have := pb_n hB; omega) ?_
  refine R_bipush (v := 10) dX3_ears_66 (by decide) ?_
  refine R_irem dX3_ears_68 (by decide) ?_
  refine R_iast dX3_ears_69 (pb_s4 hB) (show b + 4 < 164 by have := pb_n hB; omega) (j := 5) ⟨by decide, by decide⟩ (by decide) ?_
  refine al_0 dX3_ears_70 ?_
  refine R_getfr (r := (D b)) dX3_ears_71 fl_RX3_30 rfl (pb_s0 hB) (show b < 164 by have := pb_n hB; omega) (pb_r11 hB) ?_
  refine al_0 dX3_ears_74 ?_
  refine R_getfr (r := b + 4) dX3_ears_75 fl_RX3_26 rfl (pb_s0 hB) (show b < 164 by have := pb_n hB; omega) (pb_r3 hB) ?_
  refine cv_1 dX3_ears_78 mm_RX3_149 (pd_s0 hk) (show (D b) < 164 by have := pd_n hk; omega) ⟨_, rfl, rfl⟩ (Nat.le_of_ble_eq_true rfl) (Nat.le_of_ble_eq_true rfl) (K_earsBy (S := S) hk (pb_s4 hB) (by omega) (by simp [rn_u, hkn, hS]) hS2 ?_)
  refine R_ireturn dX3_ears_81 ⟨_, rfl, rfl⟩ ?_
  refine ears_fin h ?_ ?_
  · intro a ha
    simp only [rn_u_ne ha]
  · unfold erD
    rw [hS, nI_clamp (by omega)]
    simp only [rn_u_ne hkn1, rn_u_ne hqb, rn_u_ne hbb]
    refine erF_congr (fun j hj => ?_) _ _ _ _
    match j, hj with
    | 0, _ => simp [rn_u, factF]
    | 1, _ => simp [rn_u, factF]
    | 2, _ => simp [rn_u, factF]
    | 3, _ => simp [rn_u, factF]
    | 4, _ => simp [rn_u, factF]
    | 5, _ => simp [rn_u, factF, remJ]

set_option maxHeartbeats 4000000 in
theorem K_hears {G : rn_G} {d : Nat} {κ : Nat × Nat} {Q : Option Value → rn_S → Prop} {mi : Nat → Nat → Int32} {ml : Nat → Nat → Int64} {D : Nat → Nat} {b : Nat} (hB : PB b) {i : Nat} (hi : i < 6) {x : Int32} (hx : x = nI i) (hk : PD (D b)) (hdk : DKI mi (D b)) (h1 : ∀ mi', Ag b mi mi' → wayC (mi (b + 7 + 2 * i) 2) (mi b 7) ≤ mi (D b) 2 + erD mi (D b) (factF x (mi (b + 7 + 2 * i) 0) (mi (b + 7 + 2 * i) 1) (mi (b + 7 + 2 * i) 2) (mi (b + 7 + 2 * i) 3) (mi b 10)) → Q (some (.int 1)) (mi', ml, RF D, 164)) (h0 : ∀ mi', Ag b mi mi' → ¬ (wayC (mi (b + 7 + 2 * i) 2) (mi b 7) ≤ mi (D b) 2 + erD mi (D b) (factF x (mi (b + 7 + 2 * i) 0) (mi (b + 7 + 2 * i) 1) (mi (b + 7 + 2 * i) 2) (mi (b + 7 + 2 * i) 3) (mi b 10))) → Q (some (.int 0)) (mi', ml, RF D, 164)) : Call G (d + 3) M_X3_hears [.ref b, .int x] (mi, ml, RF D, 164) κ Q := by
  show Run G _ M_X3_hears 0 [.ref b, .int x] [] _ _ _
  have hix : rn_ix x i := by rw [hx]; exact rn_ix_nI (by omega)
  refine al_0 dX3_hears_0 ?_
  refine R_getfr (r := b + 2) dX3_hears_1 fl_RX3_17 rfl (pb_s0 hB) (show b < 164 by have := pb_n hB; omega) (pb_r1 hB) ?_
  refine il_1 dX3_hears_4 ?_
  refine R_aald (t := 4) (r := (b + 7 + 2 * i)) dX3_hears_5 (by decide) (pb_s2 hB) (show b + 2 < 164 by have := pb_n hB; omega) hix hi (pb_rq hB hi) ?_
  refine R_getfi dX3_hears_6 fl_RX3_80 rfl (pq_s0 (pb_q hB hi)) (show (b + 7 + 2 * i) < 164 by have := pq_n (pb_q hB hi); omega) ?_
  refine al_0 dX3_hears_9 ?_
  refine R_getfi dX3_hears_10 fl_RX3_58 rfl (pb_s0 hB) (show b < 164 by have := pb_n hB; omega) ?_
  refine cs_2 dX3_hears_13 mm_RX3_153 (Nat.le_of_ble_eq_true rfl) (Nat.le_of_ble_eq_true rfl) (K_way ?_)
  refine al_0 dX3_hears_16 ?_
  refine R_getfr (r := (D b)) dX3_hears_17 fl_RX3_30 rfl (pb_s0 hB) (show b < 164 by have := pb_n hB; omega) (pb_r11 hB) ?_
  refine R_getfi dX3_hears_20 fl_RX3_157 rfl (pd_s0 hk) (show (D b) < 164 by have := pd_n hk; omega) ?_
  refine al_0 dX3_hears_23 ?_
  refine il_1 dX3_hears_24 ?_
  refine cv_1 dX3_hears_25 mm_RX3_160 (pb_s0 hB) (show b < 164 by have := pb_n hB; omega) ⟨_, rfl, rfl⟩ (Nat.le_of_ble_eq_true rfl) (Nat.le_of_ble_eq_true rfl) (K_ears hB hi hx hk hdk (fun mi2 hA => ?_))
  refine R_iadd dX3_hears_28 ?_
  refine R_icmp_gt (tgt := 36) dX3_hears_29 (by decide) (fun c29 => ?_) (fun c29 => ?_)
  · refine R_iconst (v := 0) dX3_hears_36 (by decide) ?_
    refine R_ireturn dX3_hears_37 ⟨_, rfl, rfl⟩ ?_
    exact h0 _ hA (Int32.not_le.mpr c29)
  · refine R_iconst (v := 1) dX3_hears_32 (by decide) ?_
    refine R_goto (tgt := 37) dX3_hears_33 (by decide) ?_
    refine R_ireturn dX3_hears_37 ⟨_, rfl, rfl⟩ ?_
    exact h1 _ hA (Int32.not_lt.mp c29)
