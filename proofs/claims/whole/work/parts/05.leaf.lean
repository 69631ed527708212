/-! small functions: the numbers that they answer -/
def fmodJ (x y : Int32) : Int32 := if 0 ≤ x ^^^ y then x - x / y * y else if x - x / y * y = 0 then x - x / y * y else x - x / y * y + y
def minJ (x y : Int32) : Int32 := if y < x then y else x
def maxJ (x y : Int32) : Int32 := if x < y then y else x
def shrJ (x y : Int32) : Int32 := (x.toUInt32 >>> (y.toUInt32 &&& Int32.toUInt32 31)).toInt32
def popJ (x : Int32) : Int32 :=
  let a := x - (shrJ x 1 &&& 1431655765)
  let b := (a &&& 858993459) + (shrJ a 2 &&& 858993459)
  let c := (b + shrJ b 4) &&& 252645135
  let e := c + shrJ c 8
  let f := e + shrJ e 16
  f &&& 63

set_option maxHeartbeats 4000000 in
theorem K_floorMod {G : rn_G} {d : Nat} {κ : Nat × Nat} {Q : Option Value → rn_S → Prop} {σ : rn_S} {x y : Int32} (hy : ¬ y = 0) (h : Q (some (.int (fmodJ x y))) σ) : Call G (d) M_J9_floorMod_7cf53 [.int x, .int y] σ κ Q := by
  show Run G _ M_J9_floorMod_7cf53 0 [.int x, .int y, .null] [] _ _ _
  unfold fmodJ at h
  refine il_0 dJ9_floorMod_7cf53_0 ?_
  refine il_1 dJ9_floorMod_7cf53_1 ?_
  refine R_irem dJ9_floorMod_7cf53_2 hy ?_
  refine is_2 dJ9_floorMod_7cf53_3 rfl ?_
  refine il_0 dJ9_floorMod_7cf53_4 ?_
  refine il_1 dJ9_floorMod_7cf53_5 ?_
  refine R_ixor dJ9_floorMod_7cf53_6 ?_
  refine R_if_ge (tgt := 18) dJ9_floorMod_7cf53_7 (by decide) (fun c7 => ?_) (fun c7 => ?_)
  · refine il_2 dJ9_floorMod_7cf53_18 ?_
    refine R_ireturn dJ9_floorMod_7cf53_19 ⟨_, rfl, rfl⟩ ?_
    first | (rw [if_pos c7] at h; exact h) | (rw [if_neg c7, if_pos c11] at h; exact h)
  · refine il_2 dJ9_floorMod_7cf53_10 ?_
    refine R_if_eq (tgt := 18) dJ9_floorMod_7cf53_11 (by decide) (fun c11 => ?_) (fun c11 => ?_)
    · refine il_2 dJ9_floorMod_7cf53_18 ?_
      refine R_ireturn dJ9_floorMod_7cf53_19 ⟨_, rfl, rfl⟩ ?_
      first | (rw [if_pos c7] at h; exact h) | (rw [if_neg c7, if_pos c11] at h; exact h)
    · refine il_2 dJ9_floorMod_7cf53_14 ?_
      refine il_1 dJ9_floorMod_7cf53_15 ?_
      refine R_iadd dJ9_floorMod_7cf53_16 ?_
      refine R_ireturn dJ9_floorMod_7cf53_17 ⟨_, rfl, rfl⟩ ?_
      rw [if_neg c7, if_neg c11] at h; exact h

set_option maxHeartbeats 4000000 in
theorem K_min {G : rn_G} {d : Nat} {κ : Nat × Nat} {Q : Option Value → rn_S → Prop} {σ : rn_S} {x y : Int32} (h : Q (some (.int (minJ x y))) σ) : Call G (d) M_J9_min_7cf53 [.int x, .int y] σ κ Q := by
  show Run G _ M_J9_min_7cf53 0 [.int x, .int y] [] _ _ _
  unfold minJ at h
  refine il_0 dJ9_min_7cf53_0 ?_
  refine il_1 dJ9_min_7cf53_1 ?_
  refine R_icmp_gt (tgt := 9) dJ9_min_7cf53_2 (by decide) (fun c2 => ?_) (fun c2 => ?_)
  · refine il_1 dJ9_min_7cf53_9 ?_
    refine R_ireturn dJ9_min_7cf53_10 ⟨_, rfl, rfl⟩ ?_
    first | (rw [if_pos c2] at h; exact h) | (rw [if_neg c2] at h; exact h)
  · refine il_0 dJ9_min_7cf53_5 ?_
    refine R_goto (tgt := 10) dJ9_min_7cf53_6 (by decide) ?_
    refine R_ireturn dJ9_min_7cf53_10 ⟨_, rfl, rfl⟩ ?_
    first | (rw [if_pos c2] at h; exact h) | (rw [if_neg c2] at h; exact h)

set_option maxHeartbeats 4000000 in
theorem K_max {G : rn_G} {d : Nat} {κ : Nat × Nat} {Q : Option Value → rn_S → Prop} {σ : rn_S} {x y : Int32} (h : Q (some (.int (maxJ x y))) σ) : Call G (d) M_J9_max_7cf53 [.int x, .int y] σ κ Q := by
  show Run G _ M_J9_max_7cf53 0 [.int x, .int y] [] _ _ _
  unfold maxJ at h
  refine il_0 dJ9_max_7cf53_0 ?_
  refine il_1 dJ9_max_7cf53_1 ?_
  refine R_icmp_lt (tgt := 9) dJ9_max_7cf53_2 (by decide) (fun c2 => ?_) (fun c2 => ?_)
  · refine il_1 dJ9_max_7cf53_9 ?_
    refine R_ireturn dJ9_max_7cf53_10 ⟨_, rfl, rfl⟩ ?_
    first | (rw [if_pos c2] at h; exact h) | (rw [if_neg c2] at h; exact h)
  · refine il_0 dJ9_max_7cf53_5 ?_
    refine R_goto (tgt := 10) dJ9_max_7cf53_6 (by decide) ?_
    refine R_ireturn dJ9_max_7cf53_10 ⟨_, rfl, rfl⟩ ?_
    first | (rw [if_pos c2] at h; exact h) | (rw [if_neg c2] at h; exact h)

set_option maxHeartbeats 4000000 in
theorem K_bitCount {G : rn_G} {d : Nat} {κ : Nat × Nat} {Q : Option Value → rn_S → Prop} {σ : rn_S} {x : Int32} (h : Q (some (.int (popJ x))) σ) : Call G (d) M_J6_bitCount_0f7a4 [.int x] σ κ Q := by
  show Run G _ M_J6_bitCount_0f7a4 0 [.int x] [] _ _ _
  refine il_0 dJ6_bitCount_0f7a4_0 ?_
  refine il_0 dJ6_bitCount_0f7a4_1 ?_
  refine R_iconst (v := 1) dJ6_bitCount_0f7a4_2 (by decide) ?_
  refine R_iushr dJ6_bitCount_0f7a4_3 ?_
  refine R_ldcw dJ6_bitCount_0f7a4_4 kc_RJ6_265 ?_
  refine R_iand dJ6_bitCount_0f7a4_7 ?_
  refine R_isub dJ6_bitCount_0f7a4_8 ?_
  refine is_0 dJ6_bitCount_0f7a4_9 ?_
  refine il_0 dJ6_bitCount_0f7a4_10 ?_
  refine R_ldcw dJ6_bitCount_0f7a4_11 kc_RJ6_266 ?_
  refine R_iand dJ6_bitCount_0f7a4_14 ?_
  refine il_0 dJ6_bitCount_0f7a4_15 ?_
  refine R_iconst (v := 2) dJ6_bitCount_0f7a4_16 (by decide) ?_
  refine R_iushr dJ6_bitCount_0f7a4_17 ?_
  refine R_ldcw dJ6_bitCount_0f7a4_18 kc_RJ6_266 ?_
  refine R_iand dJ6_bitCount_0f7a4_21 ?_
  refine R_iadd dJ6_bitCount_0f7a4_22 ?_
  refine is_0 dJ6_bitCount_0f7a4_23 ?_
  refine il_0 dJ6_bitCount_0f7a4_24 ?_
  refine il_0 dJ6_bitCount_0f7a4_25 ?_
  refine R_iconst (v := 4) dJ6_bitCount_0f7a4_26 (by decide) ?_
  refine R_iushr dJ6_bitCount_0f7a4_27 ?_
  refine R_iadd dJ6_bitCount_0f7a4_28 ?_
  refine R_ldcw dJ6_bitCount_0f7a4_29 kc_RJ6_267 ?_
  refine R_iand dJ6_bitCount_0f7a4_32 ?_
  refine is_0 dJ6_bitCount_0f7a4_33 ?_
  refine il_0 dJ6_bitCount_0f7a4_34 ?_
  refine il_0 dJ6_bitCount_0f7a4_35 ?_
  refine R_bipush (v := 8) dJ6_bitCount_0f7a4_36 (by decide) ?_
  refine R_iushr dJ6_bitCount_0f7a4_38 ?_
  refine R_iadd dJ6_bitCount_0f7a4_39 ?_
  refine is_0 dJ6_bitCount_0f7a4_40 ?_
  refine il_0 dJ6_bitCount_0f7a4_41 ?_
  refine il_0 dJ6_bitCount_0f7a4_42 ?_
  refine R_bipush (v := 16) dJ6_bitCount_0f7a4_43 (by decide) ?_
  refine R_iushr dJ6_bitCount_0f7a4_45 ?_
  refine R_iadd dJ6_bitCount_0f7a4_46 ?_
  refine is_0 dJ6_bitCount_0f7a4_47 ?_
  refine il_0 dJ6_bitCount_0f7a4_48 ?_
  refine R_bipush (v := 63) dJ6_bitCount_0f7a4_49 (by decide) ?_
  refine R_iand dJ6_bitCount_0f7a4_51 ?_
  refine R_ireturn dJ6_bitCount_0f7a4_52 ⟨_, rfl, rfl⟩ ?_
  exact h

set_option maxHeartbeats 4000000 in
theorem K_isPlace {G : rn_G} {d : Nat} {κ : Nat × Nat} {Q : Option Value → rn_S → Prop} {σ : rn_S} {x : Int32} (h1 : 0 ≤ x ∧ x < 30 → Q (some (.int 1)) σ) (h0 : ¬ (0 ≤ x ∧ x < 30) → Q (some (.int 0)) σ) : Call G (d) M_X8_isPlace [.int x] σ κ Q := by
  show Run G _ M_X8_isPlace 0 [.int x] [] _ _ _
  refine il_0 dX8_isPlace_0 ?_
  refine R_if_lt (tgt := 14) dX8_isPlace_1 (by decide) (fun c1 => ?_) (fun c1 => ?_)
  · refine R_iconst (v := 0) dX8_isPlace_14 (by decide) ?_
    refine R_ireturn dX8_isPlace_15 ⟨_, rfl, rfl⟩ ?_
    exact h0 (fun q => by first | exact Int32.not_lt.mpr q.1 c1 | exact Int32.not_le.mpr q.2 c7)
  · refine il_0 dX8_isPlace_4 ?_
    refine R_bipush (v := 30) dX8_isPlace_5 (by decide) ?_
    refine R_icmp_ge (tgt := 14) dX8_isPlace_7 (by decide) (fun c7 => ?_) (fun c7 => ?_)
    · refine R_iconst (v := 0) dX8_isPlace_14 (by decide) ?_
      refine R_ireturn dX8_isPlace_15 ⟨_, rfl, rfl⟩ ?_
      exact h0 (fun q => by first | exact Int32.not_lt.mpr q.1 c1 | exact Int32.not_le.mpr q.2 c7)
    · refine R_iconst (v := 1) dX8_isPlace_10 (by decide) ?_
      refine R_goto (tgt := 15) dX8_isPlace_11 (by decide) ?_
      refine R_ireturn dX8_isPlace_15 ⟨_, rfl, rfl⟩ ?_
      exact h1 ⟨Int32.not_lt.mp c1, Int32.not_le.mp c7⟩

set_option maxHeartbeats 4000000 in
theorem K_isDigit {G : rn_G} {d : Nat} {κ : Nat × Nat} {Q : Option Value → rn_S → Prop} {σ : rn_S} {x : Int32} (h1 : 0 ≤ x ∧ x ≤ 9 → Q (some (.int 1)) σ) (h0 : ¬ (0 ≤ x ∧ x ≤ 9) → Q (some (.int 0)) σ) : Call G (d) M_X8_isDigit [.int x] σ κ Q := by
  show Run G _ M_X8_isDigit 0 [.int x] [] _ _ _
  refine il_0 dX8_isDigit_0 ?_
  refine R_if_lt (tgt := 14) dX8_isDigit_1 (by decide) (fun c1 => ?_) (fun c1 => ?_)
  · refine R_iconst (v := 0) dX8_isDigit_14 (by decide) ?_
    refine R_ireturn dX8_isDigit_15 ⟨_, rfl, rfl⟩ ?_
    exact h0 (fun q => by first | exact Int32.not_lt.mpr q.1 c1 | exact Int32.not_lt.mpr q.2 c7)
  · refine il_0 dX8_isDigit_4 ?_
    refine R_bipush (v := 9) dX8_isDigit_5 (by decide) ?_
    refine R_icmp_gt (tgt := 14) dX8_isDigit_7 (by decide) (fun c7 => ?_) (fun c7 => ?_)
    · refine R_iconst (v := 0) dX8_isDigit_14 (by decide) ?_
      refine R_ireturn dX8_isDigit_15 ⟨_, rfl, rfl⟩ ?_
      exact h0 (fun q => by first | exact Int32.not_lt.mpr q.1 c1 | exact Int32.not_lt.mpr q.2 c7)
    · refine R_iconst (v := 1) dX8_isDigit_10 (by decide) ?_
      refine R_goto (tgt := 15) dX8_isDigit_11 (by decide) ?_
      refine R_ireturn dX8_isDigit_15 ⟨_, rfl, rfl⟩ ?_
      exact h1 ⟨Int32.not_lt.mp c1, Int32.not_lt.mp c7⟩

set_option maxHeartbeats 4000000 in
theorem K_isTape {G : rn_G} {d : Nat} {κ : Nat × Nat} {Q : Option Value → rn_S → Prop} {σ : rn_S} {x : Int32} (h1 : 0 ≤ x ∧ x < 6 → Q (some (.int 1)) σ) (h0 : ¬ (0 ≤ x ∧ x < 6) → Q (some (.int 0)) σ) : Call G (d) M_X8_isTape [.int x] σ κ Q := by
  show Run G _ M_X8_isTape 0 [.int x] [] _ _ _
  refine il_0 dX8_isTape_0 ?_
  refine R_if_lt (tgt := 14) dX8_isTape_1 (by decide) (fun c1 => ?_) (fun c1 => ?_)
  · refine R_iconst (v := 0) dX8_isTape_14 (by decide) ?_
    refine R_ireturn dX8_isTape_15 ⟨_, rfl, rfl⟩ ?_
    exact h0 (fun q => by first | exact Int32.not_lt.mpr q.1 c1 | exact Int32.not_le.mpr q.2 c7)
  · refine il_0 dX8_isTape_4 ?_
    refine R_bipush (v := 6) dX8_isTape_5 (by decide) ?_
    refine R_icmp_ge (tgt := 14) dX8_isTape_7 (by decide) (fun c7 => ?_) (fun c7 => ?_)
    · refine R_iconst (v := 0) dX8_isTape_14 (by decide) ?_
      refine R_ireturn dX8_isTape_15 ⟨_, rfl, rfl⟩ ?_
      exact h0 (fun q => by first | exact Int32.not_lt.mpr q.1 c1 | exact Int32.not_le.mpr q.2 c7)
    · refine R_iconst (v := 1) dX8_isTape_10 (by decide) ?_
      refine R_goto (tgt := 15) dX8_isTape_11 (by decide) ?_
      refine R_ireturn dX8_isTape_15 ⟨_, rfl, rfl⟩ ?_
      exact h1 ⟨Int32.not_lt.mp c1, Int32.not_le.mp c7⟩

set_option maxHeartbeats 4000000 in
theorem K_isPart {G : rn_G} {d : Nat} {κ : Nat × Nat} {Q : Option Value → rn_S → Prop} {σ : rn_S} {x : Int32} (h1 : x = 0 ∨ x = 1 → Q (some (.int 1)) σ) (h0 : ¬ (x = 0 ∨ x = 1) → Q (some (.int 0)) σ) : Call G (d) M_X8_isPart [.int x] σ κ Q := by
  show Run G _ M_X8_isPart 0 [.int x] [] _ _ _
  refine il_0 dX8_isPart_0 ?_
  refine R_if_eq (tgt := 9) dX8_isPart_1 (by decide) (fun c1 => ?_) (fun c1 => ?_)
  · refine R_iconst (v := 1) dX8_isPart_9 (by decide) ?_
    refine R_goto (tgt := 14) dX8_isPart_10 (by decide) ?_
    refine R_ireturn dX8_isPart_14 ⟨_, rfl, rfl⟩ ?_
    first | exact h1 (Or.inl c1) | exact h1 (Or.inr c6)
  · refine il_0 dX8_isPart_4 ?_
    refine R_iconst (v := 1) dX8_isPart_5 (by decide) ?_
    refine R_icmp_ne (tgt := 13) dX8_isPart_6 (by decide) (fun c6 => ?_) (fun c6 => ?_)
    · refine R_iconst (v := 0) dX8_isPart_13 (by decide) ?_
      refine R_ireturn dX8_isPart_14 ⟨_, rfl, rfl⟩ ?_
      exact h0 (fun q => q.elim c1 c6)
    · refine R_iconst (v := 1) dX8_isPart_9 (by decide) ?_
      refine R_goto (tgt := 14) dX8_isPart_10 (by decide) ?_
      refine R_ireturn dX8_isPart_14 ⟨_, rfl, rfl⟩ ?_
      first | exact h1 (Or.inl c1) | exact h1 (Or.inr c6)

set_option maxHeartbeats 4000000 in
theorem K_bit {G : rn_G} {d : Nat} {κ : Nat × Nat} {Q : Option Value → rn_S → Prop} {σ : rn_S} {x : Int32} (h : Q (some (.int (if x = 0 then 0 else 1))) σ) : Call G (d) M_X8_bit [.int x] σ κ Q := by
  show Run G _ M_X8_bit 0 [.int x] [] _ _ _
  refine il_0 dX8_bit_0 ?_
  refine R_if_eq (tgt := 8) dX8_bit_1 (by decide) (fun c1 => ?_) (fun c1 => ?_)
  · refine R_iconst (v := 0) dX8_bit_8 (by decide) ?_
    refine R_ireturn dX8_bit_9 ⟨_, rfl, rfl⟩ ?_
    first | (rw [if_pos c1] at h; exact h) | (rw [if_neg c1] at h; exact h)
  · refine R_iconst (v := 1) dX8_bit_4 (by decide) ?_
    refine R_goto (tgt := 9) dX8_bit_5 (by decide) ?_
    refine R_ireturn dX8_bit_9 ⟨_, rfl, rfl⟩ ?_
    first | (rw [if_pos c1] at h; exact h) | (rw [if_neg c1] at h; exact h)
