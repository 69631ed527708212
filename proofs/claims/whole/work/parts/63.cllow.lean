/-! the least bit -/
theorem ret_q {Q : Option Value → rn_S → Prop} {v w : Int32} {σ : rn_S} (h : Q (some (.int w)) σ) (e : v = w) : Q (some (.int v)) σ := by rw [e]; exact h
theorem odd_of : ∀ (n s : Nat), s ≤ n → 0 < s → ∃ k t, s = 2 ^ (k + 1) * t + 2 ^ k
  | 0, s, h, h0 => by omega
  | n + 1, s, h, h0 => by
    by_cases e : s % 2 = 1
    · exact ⟨0, s / 2, by rw [Nat.zero_add, Nat.pow_one, Nat.pow_zero]; omega⟩
    · obtain ⟨k, t, q⟩ := odd_of n (s / 2) (by omega) (by omega)
      refine ⟨k + 1, t, ?_⟩
      have e1 : 2 ^ (k + 1 + 1) * t = 2 * (2 ^ (k + 1) * t) := by rw [Nat.pow_succ 2 (k + 1), Nat.mul_comm (2 ^ (k + 1)) 2, Nat.mul_assoc]
      have e2 : 2 ^ (k + 1) = 2 * 2 ^ k := by rw [Nat.pow_succ, Nat.mul_comm]
      rw [e1, show s = 2 * (s / 2) by omega]
      omega
theorem low_bits {k t : Nat} {j : Nat} : (2 ^ (k + 1) * t + 2 ^ k).testBit j = (if j < k + 1 then decide (j = k) else t.testBit (j - (k + 1))) ∧ (2 ^ (k + 1) * t + (2 ^ k - 1)).testBit j = (if j < k + 1 then decide (j < k) else t.testBit (j - (k + 1))) := by
  have p : 2 ^ k < 2 ^ (k + 1) := Nat.pow_lt_pow_right (by decide) (by omega)
  rw [Nat.testBit_two_pow_mul_add t p, Nat.testBit_two_pow_mul_add t (show 2 ^ k - 1 < 2 ^ (k + 1) by omega), Nat.testBit_two_pow, Nat.testBit_two_pow_sub_one]
  refine ⟨?_, rfl⟩
  by_cases e : j = k
  · subst e; rfl
  · rw [decide_eq_false e, decide_eq_false (fun q => e q.symm)]
theorem low_J {k t : Nat} (hs : 2 ^ (k + 1) * t + 2 ^ k < 2 ^ 30) : (nI (2 ^ (k + 1) * t + 2 ^ k) ^^^ -1) &&& (nI (2 ^ (k + 1) * t + 2 ^ k) - 1) = nI (2 ^ k - 1) := by
  have p : 0 < 2 ^ k := Nat.two_pow_pos k
  have e1 : nI (2 ^ (k + 1) * t + 2 ^ k) - 1 = nI (2 ^ (k + 1) * t + (2 ^ k - 1)) := by
    rw [show (1 : Int32) = nI 1 from rfl, nI_sub (by omega), show 2 ^ (k + 1) * t + 2 ^ k - 1 = 2 ^ (k + 1) * t + (2 ^ k - 1) by omega]
  rw [e1]
  apply Int32.toBitVec_inj.mp
  rw [Int32.toBitVec_and, Int32.toBitVec_xor]
  apply BitVec.eq_of_getLsbD_eq
  intro j hj
  rw [BitVec.getLsbD_and, BitVec.getLsbD_xor]
  have g : ∀ n : Nat, (nI n).toBitVec.getLsbD j = n.testBit j := fun n => by
    show (BitVec.ofNat 32 n).getLsbD j = _
    rw [BitVec.getLsbD_ofNat, decide_eq_true hj, Bool.true_and]
  have m1 : (-1 : Int32).toBitVec.getLsbD j = true := by
    show (BitVec.allOnes 32).getLsbD j = true
    rw [BitVec.getLsbD_allOnes, decide_eq_true hj]
  rw [g, g, g, m1, low_bits.1, low_bits.2, Nat.testBit_two_pow_sub_one]
  by_cases h1 : j < k + 1
  · rw [if_pos h1, if_pos h1]
    by_cases h2 : j < k
    · rw [decide_eq_true h2, decide_eq_false (show ¬ j = k by omega)]; rfl
    · rw [decide_eq_false h2, Bool.and_false]
  · rw [if_neg h1, if_neg h1, decide_eq_false (show ¬ j < k by omega)]
    cases t.testBit (j - (k + 1)) <;> rfl

set_option maxHeartbeats 4000000 in
theorem K_ntz {G : rn_G} {d : Nat} {κ : Nat × Nat} {Q : Option Value → rn_S → Prop} {σ : rn_S} (k : Nat) {x : Int32} (hk : k < 30) (hv : (x ^^^ -1) &&& (x - 1) = nI (2 ^ k - 1)) (h : Q (some (.int (nI k))) σ) : Call G (d) M_J6_numberOfTrailingZeros_0f7a4 [.int x] σ κ Q := by
  show Run G _ M_J6_numberOfTrailingZeros_0f7a4 0 [.int x, .null] [] _ _ _
  refine il_0 dJ6_numberOfTrailingZeros_0f7a4_0 ?_
  refine R_iconst (v := -1) dJ6_numberOfTrailingZeros_0f7a4_1 (by decide) ?_
  refine R_ixor dJ6_numberOfTrailingZeros_0f7a4_2 ?_
  refine il_0 dJ6_numberOfTrailingZeros_0f7a4_3 ?_
  refine R_iconst (v := 1) dJ6_numberOfTrailingZeros_0f7a4_4 (by decide) ?_
  refine R_isub dJ6_numberOfTrailingZeros_0f7a4_5 ?_
  refine R_iand dJ6_numberOfTrailingZeros_0f7a4_6 ?_
  refine is_0 dJ6_numberOfTrailingZeros_0f7a4_7 ?_
  rw [hv]
  refine il_0 dJ6_numberOfTrailingZeros_0f7a4_8 ?_
  refine R_if_gt (tgt := 17) dJ6_numberOfTrailingZeros_0f7a4_9 (by decide) (fun c9 => ?_) (fun c9 => ?_)
  · refine R_iconst (v := 1) dJ6_numberOfTrailingZeros_0f7a4_17 (by decide) ?_
    refine is_1 dJ6_numberOfTrailingZeros_0f7a4_18 rfl ?_
    refine il_0 dJ6_numberOfTrailingZeros_0f7a4_19 ?_
    refine R_ldcw dJ6_numberOfTrailingZeros_0f7a4_20 kc_RJ6_264 ?_
    refine R_icmp_le (tgt := 34) dJ6_numberOfTrailingZeros_0f7a4_23 (by decide) (fun c23 => ?_) (fun c23 => ?_)
    · refine il_0 dJ6_numberOfTrailingZeros_0f7a4_34 ?_
      refine R_sipush (v := 256) dJ6_numberOfTrailingZeros_0f7a4_35 (by decide) ?_
      refine R_icmp_le (tgt := 49) dJ6_numberOfTrailingZeros_0f7a4_38 (by decide) (fun c38 => ?_) (fun c38 => ?_)
      · refine il_0 dJ6_numberOfTrailingZeros_0f7a4_49 ?_
        refine R_bipush (v := 16) dJ6_numberOfTrailingZeros_0f7a4_50 (by decide) ?_
        refine R_icmp_le (tgt := 62) dJ6_numberOfTrailingZeros_0f7a4_52 (by decide) (fun c52 => ?_) (fun c52 => ?_)
        · refine il_0 dJ6_numberOfTrailingZeros_0f7a4_62 ?_
          refine R_iconst (v := 4) dJ6_numberOfTrailingZeros_0f7a4_63 (by decide) ?_
          refine R_icmp_le (tgt := 74) dJ6_numberOfTrailingZeros_0f7a4_64 (by decide) (fun c64 => ?_) (fun c64 => ?_)
          · refine il_1 dJ6_numberOfTrailingZeros_0f7a4_74 ?_
            refine il_0 dJ6_numberOfTrailingZeros_0f7a4_75 ?_
            refine R_iconst (v := 1) dJ6_numberOfTrailingZeros_0f7a4_76 (by decide) ?_
            refine R_iushr dJ6_numberOfTrailingZeros_0f7a4_77 ?_
            refine R_iadd dJ6_numberOfTrailingZeros_0f7a4_78 ?_
            refine R_ireturn dJ6_numberOfTrailingZeros_0f7a4_79 ⟨_, rfl, rfl⟩ ?_
            refine ret_q h ?_
            clear h hv
            have hh := And.intro c9 (And.intro c23 (And.intro c38 (And.intro c52 c64)))
            clear c9 c23 c38 c52 c64
            revert hh
            revert k
            decide +kernel
          · refine ii_1 (v := 3) dJ6_numberOfTrailingZeros_0f7a4_67 rfl (by decide) ?_
            refine il_0 dJ6_numberOfTrailingZeros_0f7a4_70 ?_
            refine R_iconst (v := 2) dJ6_numberOfTrailingZeros_0f7a4_71 (by decide) ?_
            refine R_iushr dJ6_numberOfTrailingZeros_0f7a4_72 ?_
            refine is_0 dJ6_numberOfTrailingZeros_0f7a4_73 ?_
            refine il_1 dJ6_numberOfTrailingZeros_0f7a4_74 ?_
            refine il_0 dJ6_numberOfTrailingZeros_0f7a4_75 ?_
            refine R_iconst (v := 1) dJ6_numberOfTrailingZeros_0f7a4_76 (by decide) ?_
            refine R_iushr dJ6_numberOfTrailingZeros_0f7a4_77 ?_
            refine R_iadd dJ6_numberOfTrailingZeros_0f7a4_78 ?_
            refine R_ireturn dJ6_numberOfTrailingZeros_0f7a4_79 ⟨_, rfl, rfl⟩ ?_
            refine ret_q h ?_
            clear h hv
            have hh := And.intro c9 (And.intro c23 (And.intro c38 (And.intro c52 c64)))
            clear c9 c23 c38 c52 c64
            revert hh
            revert k
            decide +kernel
        · refine ii_1 (v := 5) dJ6_numberOfTrailingZeros_0f7a4_55 rfl (by decide) ?_
          refine il_0 dJ6_numberOfTrailingZeros_0f7a4_58 ?_
          refine R_iconst (v := 4) dJ6_numberOfTrailingZeros_0f7a4_59 (by decide) ?_
          refine R_iushr dJ6_numberOfTrailingZeros_0f7a4_60 ?_
          refine is_0 dJ6_numberOfTrailingZeros_0f7a4_61 ?_
          refine il_0 dJ6_numberOfTrailingZeros_0f7a4_62 ?_
          refine R_iconst (v := 4) dJ6_numberOfTrailingZeros_0f7a4_63 (by decide) ?_
          refine R_icmp_le (tgt := 74) dJ6_numberOfTrailingZeros_0f7a4_64 (by decide) (fun c64 => ?_) (fun c64 => ?_)
          · refine il_1 dJ6_numberOfTrailingZeros_0f7a4_74 ?_
            refine il_0 dJ6_numberOfTrailingZeros_0f7a4_75 ?_
            refine R_iconst (v := 1) dJ6_numberOfTrailingZeros_0f7a4_76 (by decide) ?_
            refine R_iushr dJ6_numberOfTrailingZeros_0f7a4_77 ?_
            refine R_iadd dJ6_numberOfTrailingZeros_0f7a4_78 ?_
            refine R_ireturn dJ6_numberOfTrailingZeros_0f7a4_79 ⟨_, rfl, rfl⟩ ?_
            refine ret_q h ?_
            clear h hv
            have hh := And.intro c9 (And.intro c23 (And.intro c38 (And.intro c52 c64)))
            clear c9 c23 c38 c52 c64
            revert hh
            revert k
            decide +kernel
          · refine ii_1 (v := 7) dJ6_numberOfTrailingZeros_0f7a4_67 rfl (by decide) ?_
            refine il_0 dJ6_numberOfTrailingZeros_0f7a4_70 ?_
            refine R_iconst (v := 2) dJ6_numberOfTrailingZeros_0f7a4_71 (by decide) ?_
            refine R_iushr dJ6_numberOfTrailingZeros_0f7a4_72 ?_
            refine is_0 dJ6_numberOfTrailingZeros_0f7a4_73 ?_
            refine il_1 dJ6_numberOfTrailingZeros_0f7a4_74 ?_
            refine il_0 dJ6_numberOfTrailingZeros_0f7a4_75 ?_
            refine R_iconst (v := 1) dJ6_numberOfTrailingZeros_0f7a4_76 (by decide) ?_
            refine R_iushr dJ6_numberOfTrailingZeros_0f7a4_77 ?_
            refine R_iadd dJ6_numberOfTrailingZeros_0f7a4_78 ?_
            refine R_ireturn dJ6_numberOfTrailingZeros_0f7a4_79 ⟨_, rfl, rfl⟩ ?_
            refine ret_q h ?_
            clear h hv
            have hh := And.intro c9 (And.intro c23 (And.intro c38 (And.intro c52 c64)))
            clear c9 c23 c38 c52 c64
            revert hh
            revert k
            decide +kernel
      · refine ii_1 (v := 9) dJ6_numberOfTrailingZeros_0f7a4_41 rfl (by decide) ?_
        refine il_0 dJ6_numberOfTrailingZeros_0f7a4_44 ?_
        refine R_bipush (v := 8) dJ6_numberOfTrailingZeros_0f7a4_45 (by decide) ?_
        refine R_iushr dJ6_numberOfTrailingZeros_0f7a4_47 ?_
        refine is_0 dJ6_numberOfTrailingZeros_0f7a4_48 ?_
        refine il_0 dJ6_numberOfTrailingZeros_0f7a4_49 ?_
        refine R_bipush (v := 16) dJ6_numberOfTrailingZeros_0f7a4_50 (by decide) ?_
        refine R_icmp_le (tgt := 62) dJ6_numberOfTrailingZeros_0f7a4_52 (by decide) (fun c52 => ?_) (fun c52 => ?_)
        · refine il_0 dJ6_numberOfTrailingZeros_0f7a4_62 ?_
          refine R_iconst (v := 4) dJ6_numberOfTrailingZeros_0f7a4_63 (by decide) ?_
          refine R_icmp_le (tgt := 74) dJ6_numberOfTrailingZeros_0f7a4_64 (by decide) (fun c64 => ?_) (fun c64 => ?_)
          · refine il_1 dJ6_numberOfTrailingZeros_0f7a4_74 ?_
            refine il_0 dJ6_numberOfTrailingZeros_0f7a4_75 ?_
            refine R_iconst (v := 1) dJ6_numberOfTrailingZeros_0f7a4_76 (by decide) ?_
            refine R_iushr dJ6_numberOfTrailingZeros_0f7a4_77 ?_
            refine R_iadd dJ6_numberOfTrailingZeros_0f7a4_78 ?_
            refine R_ireturn dJ6_numberOfTrailingZeros_0f7a4_79 ⟨_, rfl, rfl⟩ ?_
            refine ret_q h ?_
            clear h hv
            have hh := And.intro c9 (And.intro c23 (And.intro c38 (And.intro c52 c64)))
            clear c9 c23 c38 c52 c64
            revert hh
            revert k
            decide +kernel
          · refine ii_1 (v := 11) dJ6_numberOfTrailingZeros_0f7a4_67 rfl (by decide) ?_
            refine il_0 dJ6_numberOfTrailingZeros_0f7a4_70 ?_
            refine R_iconst (v := 2) dJ6_numberOfTrailingZeros_0f7a4_71 (by decide) ?_
            refine R_iushr dJ6_numberOfTrailingZeros_0f7a4_72 ?_
            refine is_0 dJ6_numberOfTrailingZeros_0f7a4_73 ?_
            refine il_1 dJ6_numberOfTrailingZeros_0f7a4_74 ?_
            refine il_0 dJ6_numberOfTrailingZeros_0f7a4_75 ?_
            refine R_iconst (v := 1) dJ6_numberOfTrailingZeros_0f7a4_76 (by decide) ?_
            refine R_iushr dJ6_numberOfTrailingZeros_0f7a4_77 ?_
            refine R_iadd dJ6_numberOfTrailingZeros_0f7a4_78 ?_
            refine R_ireturn dJ6_numberOfTrailingZeros_0f7a4_79 ⟨_, rfl, rfl⟩ ?_
            refine ret_q h ?_
            clear h hv
            have hh := And.intro c9 (And.intro c23 (And.intro c38 (And.intro c52 c64)))
            clear c9 c23 c38 c52 c64
            revert hh
            revert k
            decide +kernel
        · refine ii_1 (v := 13) dJ6_numberOfTrailingZeros_0f7a4_55 rfl (by decide) ?_
          refine il_0 dJ6_numberOfTrailingZeros_0f7a4_58 ?_
          refine R_iconst (v := 4) dJ6_numberOfTrailingZeros_0f7a4_59 (by decide) ?_
          refine R_iushr dJ6_numberOfTrailingZeros_0f7a4_60 ?_
          refine is_0 dJ6_numberOfTrailingZeros_0f7a4_61 ?_
          refine il_0 dJ6_numberOfTrailingZeros_0f7a4_62 ?_
          refine R_iconst (v := 4) dJ6_numberOfTrailingZeros_0f7a4_63 (by decide) ?_
          refine R_icmp_le (tgt := 74) dJ6_numberOfTrailingZeros_0f7a4_64 (by decide) (fun c64 => ?_) (fun c64 => ?_)
          · refine il_1 dJ6_numberOfTrailingZeros_0f7a4_74 ?_
            refine il_0 dJ6_numberOfTrailingZeros_0f7a4_75 ?_
            refine R_iconst (v := 1) dJ6_numberOfTrailingZeros_0f7a4_76 (by decide) ?_
            refine R_iushr dJ6_numberOfTrailingZeros_0f7a4_77 ?_
            refine R_iadd dJ6_numberOfTrailingZeros_0f7a4_78 ?_
            refine R_ireturn dJ6_numberOfTrailingZeros_0f7a4_79 ⟨_, rfl, rfl⟩ ?_
            refine ret_q h ?_
            clear h hv
            have hh := And.intro c9 (And.intro c23 (And.intro c38 (And.intro c52 c64)))
            clear c9 c23 c38 c52 c64
            revert hh
            revert k
            decide +kernel
          · refine ii_1 (v := 15) dJ6_numberOfTrailingZeros_0f7a4_67 rfl (by decide) ?_
            refine il_0 dJ6_numberOfTrailingZeros_0f7a4_70 ?_
            refine R_iconst (v := 2) dJ6_numberOfTrailingZeros_0f7a4_71 (by decide) ?_
            refine R_iushr dJ6_numberOfTrailingZeros_0f7a4_72 ?_
            refine is_0 dJ6_numberOfTrailingZeros_0f7a4_73 ?_
            refine il_1 dJ6_numberOfTrailingZeros_0f7a4_74 ?_
            refine il_0 dJ6_numberOfTrailingZeros_0f7a4_75 ?_
            refine R_iconst (v := 1) dJ6_numberOfTrailingZeros_0f7a4_76 (by decide) ?_
            refine R_iushr dJ6_numberOfTrailingZeros_0f7a4_77 ?_
            refine R_iadd dJ6_numberOfTrailingZeros_0f7a4_78 ?_
            refine R_ireturn dJ6_numberOfTrailingZeros_0f7a4_79 ⟨_, rfl, rfl⟩ ?_
            refine ret_q h ?_
            clear h hv
            have hh := And.intro c9 (And.intro c23 (And.intro c38 (And.intro c52 c64)))
            clear c9 c23 c38 c52 c64
            revert hh
            revert k
            decide +kernel
    · refine ii_1 (v := 17) dJ6_numberOfTrailingZeros_0f7a4_26 rfl (by decide) ?_
      refine il_0 dJ6_numberOfTrailingZeros_0f7a4_29 ?_
      refine R_bipush (v := 16) dJ6_numberOfTrailingZeros_0f7a4_30 (by decide) ?_
      refine R_iushr dJ6_numberOfTrailingZeros_0f7a4_32 ?_
      refine is_0 dJ6_numberOfTrailingZeros_0f7a4_33 ?_
      refine il_0 dJ6_numberOfTrailingZeros_0f7a4_34 ?_
      refine R_sipush (v := 256) dJ6_numberOfTrailingZeros_0f7a4_35 (by decide) ?_
      refine R_icmp_le (tgt := 49) dJ6_numberOfTrailingZeros_0f7a4_38 (by decide) (fun c38 => ?_) (fun c38 => ?_)
      · refine il_0 dJ6_numberOfTrailingZeros_0f7a4_49 ?_
        refine R_bipush (v := 16) dJ6_numberOfTrailingZeros_0f7a4_50 (by decide) ?_
        refine R_icmp_le (tgt := 62) dJ6_numberOfTrailingZeros_0f7a4_52 (by decide) (fun c52 => ?_) (fun c52 => ?_)
        · refine il_0 dJ6_numberOfTrailingZeros_0f7a4_62 ?_
          refine R_iconst (v := 4) dJ6_numberOfTrailingZeros_0f7a4_63 (by decide) ?_
          refine R_icmp_le (tgt := 74) dJ6_numberOfTrailingZeros_0f7a4_64 (by decide) (fun c64 => ?_) (fun c64 => ?_)
          · refine il_1 dJ6_numberOfTrailingZeros_0f7a4_74 ?_
            refine il_0 dJ6_numberOfTrailingZeros_0f7a4_75 ?_
            refine R_iconst (v := 1) dJ6_numberOfTrailingZeros_0f7a4_76 (by decide) ?_
            refine R_iushr dJ6_numberOfTrailingZeros_0f7a4_77 ?_
            refine R_iadd dJ6_numberOfTrailingZeros_0f7a4_78 ?_
            refine R_ireturn dJ6_numberOfTrailingZeros_0f7a4_79 ⟨_, rfl, rfl⟩ ?_
            refine ret_q h ?_
            clear h hv
            have hh := And.intro c9 (And.intro c23 (And.intro c38 (And.intro c52 c64)))
            clear c9 c23 c38 c52 c64
            revert hh
            revert k
            decide +kernel
          · refine ii_1 (v := 19) dJ6_numberOfTrailingZeros_0f7a4_67 rfl (by decide) ?_
            refine il_0 dJ6_numberOfTrailingZeros_0f7a4_70 ?_
            refine R_iconst (v := 2) dJ6_numberOfTrailingZeros_0f7a4_71 (by decide) ?_
            refine R_iushr dJ6_numberOfTrailingZeros_0f7a4_72 ?_
            refine is_0 dJ6_numberOfTrailingZeros_0f7a4_73 ?_
            refine il_1 dJ6_numberOfTrailingZeros_0f7a4_74 ?_
            refine il_0 dJ6_numberOfTrailingZeros_0f7a4_75 ?_
            refine R_iconst (v := 1) dJ6_numberOfTrailingZeros_0f7a4_76 (by decide) ?_
            refine R_iushr dJ6_numberOfTrailingZeros_0f7a4_77 ?_
            refine R_iadd dJ6_numberOfTrailingZeros_0f7a4_78 ?_
            refine R_ireturn dJ6_numberOfTrailingZeros_0f7a4_79 ⟨_, rfl, rfl⟩ ?_
            refine ret_q h ?_
            clear h hv
            have hh := And.intro c9 (And.intro c23 (And.intro c38 (And.intro c52 c64)))
            clear c9 c23 c38 c52 c64
            revert hh
            revert k
            decide +kernel
        · refine ii_1 (v := 21) dJ6_numberOfTrailingZeros_0f7a4_55 rfl (by decide) ?_
          refine il_0 dJ6_numberOfTrailingZeros_0f7a4_58 ?_
          refine R_iconst (v := 4) dJ6_numberOfTrailingZeros_0f7a4_59 (by decide) ?_
          refine R_iushr dJ6_numberOfTrailingZeros_0f7a4_60 ?_
          refine is_0 dJ6_numberOfTrailingZeros_0f7a4_61 ?_
          refine il_0 dJ6_numberOfTrailingZeros_0f7a4_62 ?_
          refine R_iconst (v := 4) dJ6_numberOfTrailingZeros_0f7a4_63 (by decide) ?_
          refine R_icmp_le (tgt := 74) dJ6_numberOfTrailingZeros_0f7a4_64 (by decide) (fun c64 => ?_) (fun c64 => ?_)
          · refine il_1 dJ6_numberOfTrailingZeros_0f7a4_74 ?_
            refine il_0 dJ6_numberOfTrailingZeros_0f7a4_75 ?_
            refine R_iconst (v := 1) dJ6_numberOfTrailingZeros_0f7a4_76 (by decide) ?_
            refine R_iushr dJ6_numberOfTrailingZeros_0f7a4_77 ?_
            refine R_iadd dJ6_numberOfTrailingZeros_0f7a4_78 ?_
            refine R_ireturn dJ6_numberOfTrailingZeros_0f7a4_79 ⟨_, rfl, rfl⟩ ?_
            refine ret_q h ?_
            clear h hv
            have hh := And.intro c9 (And.intro c23 (And.intro c38 (And.intro c52 c64)))
            clear c9 c23 c38 c52 c64
            revert hh
            revert k
            decide +kernel
          · refine ii_1 (v := 23) dJ6_numberOfTrailingZeros_0f7a4_67 rfl (by decide) ?_
            refine il_0 dJ6_numberOfTrailingZeros_0f7a4_70 ?_
            refine R_iconst (v := 2) dJ6_numberOfTrailingZeros_0f7a4_71 (by decide) ?_
            refine R_iushr dJ6_numberOfTrailingZeros_0f7a4_72 ?_
            refine is_0 dJ6_numberOfTrailingZeros_0f7a4_73 ?_
            refine il_1 dJ6_numberOfTrailingZeros_0f7a4_74 ?_
            refine il_0 dJ6_numberOfTrailingZeros_0f7a4_75 ?_
            refine R_iconst (v := 1) dJ6_numberOfTrailingZeros_0f7a4_76 (by decide) ?_
            refine R_iushr dJ6_numberOfTrailingZeros_0f7a4_77 ?_
            refine R_iadd dJ6_numberOfTrailingZeros_0f7a4_78 ?_
            refine R_ireturn dJ6_numberOfTrailingZeros_0f7a4_79 ⟨_, rfl, rfl⟩ ?_
            refine ret_q h ?_
            clear h hv
            have hh := And.intro c9 (And.intro c23 (And.intro c38 (And.intro c52 c64)))
            clear c9 c23 c38 c52 c64
            revert hh
            revert k
            decide +kernel
      · refine ii_1 (v := 25) dJ6_numberOfTrailingZeros_0f7a4_41 rfl (by decide) ?_
        refine il_0 dJ6_numberOfTrailingZeros_0f7a4_44 ?_
        refine R_bipush (v := 8) dJ6_numberOfTrailingZeros_0f7a4_45 (by decide) ?_
        refine R_iushr dJ6_numberOfTrailingZeros_0f7a4_47 ?_
        refine is_0 dJ6_numberOfTrailingZeros_0f7a4_48 ?_
        refine il_0 dJ6_numberOfTrailingZeros_0f7a4_49 ?_
        refine R_bipush (v := 16) dJ6_numberOfTrailingZeros_0f7a4_50 (by decide) ?_
        refine R_icmp_le (tgt := 62) dJ6_numberOfTrailingZeros_0f7a4_52 (by decide) (fun c52 => ?_) (fun c52 => ?_)
        · refine il_0 dJ6_numberOfTrailingZeros_0f7a4_62 ?_
          refine R_iconst (v := 4) dJ6_numberOfTrailingZeros_0f7a4_63 (by decide) ?_
          refine R_icmp_le (tgt := 74) dJ6_numberOfTrailingZeros_0f7a4_64 (by decide) (fun c64 => ?_) (fun c64 => ?_)
          · refine il_1 dJ6_numberOfTrailingZeros_0f7a4_74 ?_
            refine il_0 dJ6_numberOfTrailingZeros_0f7a4_75 ?_
            refine R_iconst (v := 1) dJ6_numberOfTrailingZeros_0f7a4_76 (by decide) ?_
            refine R_iushr dJ6_numberOfTrailingZeros_0f7a4_77 ?_
            refine R_iadd dJ6_numberOfTrailingZeros_0f7a4_78 ?_
            refine R_ireturn dJ6_numberOfTrailingZeros_0f7a4_79 ⟨_, rfl, rfl⟩ ?_
            refine ret_q h ?_
            clear h hv
            have hh := And.intro c9 (And.intro c23 (And.intro c38 (And.intro c52 c64)))
            clear c9 c23 c38 c52 c64
            revert hh
            revert k
            decide +kernel
          · refine ii_1 (v := 27) dJ6_numberOfTrailingZeros_0f7a4_67 rfl (by decide) ?_
            refine il_0 dJ6_numberOfTrailingZeros_0f7a4_70 ?_
            refine R_iconst (v := 2) dJ6_numberOfTrailingZeros_0f7a4_71 (by decide) ?_
            refine R_iushr dJ6_numberOfTrailingZeros_0f7a4_72 ?_
            refine is_0 dJ6_numberOfTrailingZeros_0f7a4_73 ?_
            refine il_1 dJ6_numberOfTrailingZeros_0f7a4_74 ?_
            refine il_0 dJ6_numberOfTrailingZeros_0f7a4_75 ?_
            refine R_iconst (v := 1) dJ6_numberOfTrailingZeros_0f7a4_76 (by decide) ?_
            refine R_iushr dJ6_numberOfTrailingZeros_0f7a4_77 ?_
            refine R_iadd dJ6_numberOfTrailingZeros_0f7a4_78 ?_
            refine R_ireturn dJ6_numberOfTrailingZeros_0f7a4_79 ⟨_, rfl, rfl⟩ ?_
            refine ret_q h ?_
            clear h hv
            have hh := And.intro c9 (And.intro c23 (And.intro c38 (And.intro c52 c64)))
            clear c9 c23 c38 c52 c64
            revert hh
            revert k
            decide +kernel
        · refine ii_1 (v := 29) dJ6_numberOfTrailingZeros_0f7a4_55 rfl (by decide) ?_
          refine il_0 dJ6_numberOfTrailingZeros_0f7a4_58 ?_
          refine R_iconst (v := 4) dJ6_numberOfTrailingZeros_0f7a4_59 (by decide) ?_
          refine R_iushr dJ6_numberOfTrailingZeros_0f7a4_60 ?_
          refine is_0 dJ6_numberOfTrailingZeros_0f7a4_61 ?_
          refine il_0 dJ6_numberOfTrailingZeros_0f7a4_62 ?_
          refine R_iconst (v := 4) dJ6_numberOfTrailingZeros_0f7a4_63 (by decide) ?_
          refine R_icmp_le (tgt := 74) dJ6_numberOfTrailingZeros_0f7a4_64 (by decide) (fun c64 => ?_) (fun c64 => ?_)
          · refine il_1 dJ6_numberOfTrailingZeros_0f7a4_74 ?_
            refine il_0 dJ6_numberOfTrailingZeros_0f7a4_75 ?_
            refine R_iconst (v := 1) dJ6_numberOfTrailingZeros_0f7a4_76 (by decide) ?_
            refine R_iushr dJ6_numberOfTrailingZeros_0f7a4_77 ?_
            refine R_iadd dJ6_numberOfTrailingZeros_0f7a4_78 ?_
            refine R_ireturn dJ6_numberOfTrailingZeros_0f7a4_79 ⟨_, rfl, rfl⟩ ?_
            refine ret_q h ?_
            clear h hv
            have hh := And.intro c9 (And.intro c23 (And.intro c38 (And.intro c52 c64)))
            clear c9 c23 c38 c52 c64
            revert hh
            revert k
            decide +kernel
          · refine ii_1 (v := 31) dJ6_numberOfTrailingZeros_0f7a4_67 rfl (by decide) ?_
            refine il_0 dJ6_numberOfTrailingZeros_0f7a4_70 ?_
            refine R_iconst (v := 2) dJ6_numberOfTrailingZeros_0f7a4_71 (by decide) ?_
            refine R_iushr dJ6_numberOfTrailingZeros_0f7a4_72 ?_
            refine is_0 dJ6_numberOfTrailingZeros_0f7a4_73 ?_
            refine il_1 dJ6_numberOfTrailingZeros_0f7a4_74 ?_
            refine il_0 dJ6_numberOfTrailingZeros_0f7a4_75 ?_
            refine R_iconst (v := 1) dJ6_numberOfTrailingZeros_0f7a4_76 (by decide) ?_
            refine R_iushr dJ6_numberOfTrailingZeros_0f7a4_77 ?_
            refine R_iadd dJ6_numberOfTrailingZeros_0f7a4_78 ?_
            refine R_ireturn dJ6_numberOfTrailingZeros_0f7a4_79 ⟨_, rfl, rfl⟩ ?_
            refine ret_q h ?_
            clear h hv
            have hh := And.intro c9 (And.intro c23 (And.intro c38 (And.intro c52 c64)))
            clear c9 c23 c38 c52 c64
            revert hh
            revert k
            decide +kernel
  · refine il_0 dJ6_numberOfTrailingZeros_0f7a4_12 ?_
    refine R_bipush (v := 32) dJ6_numberOfTrailingZeros_0f7a4_13 (by decide) ?_
    refine R_iand dJ6_numberOfTrailingZeros_0f7a4_15 ?_
    refine R_ireturn dJ6_numberOfTrailingZeros_0f7a4_16 ⟨_, rfl, rfl⟩ ?_
    refine ret_q h ?_
    clear h hv
    revert c9
    revert k
    decide +kernel

theorem K_least {G : rn_G} {d : Nat} {κ : Nat × Nat} {Q : Option Value → rn_S → Prop} {σ : rn_S} {s : Nat} {x : Int32} (hx : x = nI s) (hs : s < 2 ^ 30) (h : Q (some (.int (fstR (fun j => s.testBit j) 0 30))) σ) : Call G (d + 1) M_X8_leastOf [.int x] σ κ Q := by
  show Run G _ M_X8_leastOf 0 [.int x] [] _ _ _
  by_cases s0 : s = 0
  · have x0 : x = 0 := by rw [hx, s0]; rfl
    rw [fstR_no 30 0 (fun j _ _ => by rw [s0]; exact Nat.zero_testBit j)] at h
    refine il_0 dX8_leastOf_0 ?_
    refine R_if_ne (tgt := 9) dX8_leastOf_1 (by decide) (fun q => absurd q (not_not_intro x0)) (fun c1 => ?_)
    refine R_bipush (v := -5) dX8_leastOf_4 (by decide) ?_
    refine R_goto (tgt := 13) dX8_leastOf_6 (by decide) ?_
    refine R_ireturn dX8_leastOf_13 ⟨_, rfl, rfl⟩ ?_
    exact h
  · have x0 : ¬ x = 0 := fun q => s0 (sm_inj (b := 0) (by omega) (by decide) (hx.symm.trans q))
    obtain ⟨k, t, e⟩ := odd_of s s (Nat.le_refl s) (by omega)
    have k30 : k < 30 := by
      rcases Nat.lt_or_ge k 30 with q | q
      · exact q
      · have := Nat.pow_le_pow_right (show 0 < 2 by decide) q
        omega
    have hv : (x ^^^ -1) &&& (x - 1) = nI (2 ^ k - 1) := by rw [hx, e]; exact low_J (by omega)
    rw [fstR_hit (m := k) (by rw [e, low_bits.1, if_pos (by omega)]; exact decide_eq_true rfl) 30 0 (Nat.zero_le k) (by omega) (fun j _ hj => by rw [e, low_bits.1, if_pos (by omega)]; exact decide_eq_false (by omega))] at h
    refine il_0 dX8_leastOf_0 ?_
    refine R_if_ne (tgt := 9) dX8_leastOf_1 (by decide) (fun c1 => ?_) (fun q => absurd q (x0))
    refine il_0 dX8_leastOf_9 ?_
    refine cs_1 dX8_leastOf_10 mm_RX8_290 (Nat.le_of_ble_eq_true rfl) (Nat.le_of_ble_eq_true rfl) (K_ntz _ k30 hv ?_)
    refine R_ireturn dX8_leastOf_13 ⟨_, rfl, rfl⟩ ?_
    exact h
