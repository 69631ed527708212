/-! texts of the library; the class reads its text: signs, numbers, tests -/
theorem shr_0 (x : Int32) : x >>> ((0 : Int32) &&& 31) = x := by
  rw [show (0 : Int32) &&& 31 = 0 from by decide]
  exact Int32.shiftRight_zero
theorem chv_all : ∀ i : Fin 6, ∀ j : Fin 6, ((((rn_sb.getD i.1 []).getD j.1 0 &&& 255).toUInt32 % 65536).toInt32 = (rn_sb.getD i.1 []).getD j.1 0) ∧ (((rn_sb.getD i.1 []).getD j.1 0).toUInt32.toUInt16.toUInt32.toInt32 = (rn_sb.getD i.1 []).getD j.1 0) := by decide +kernel
theorem sl_le : ∀ i : Fin 6, rn_sl.getD i.1 0 ≤ 6 := by decide
theorem chv {i j : Nat} (hi : i < 6) (hj : j < rn_sl.getD i 0) : ((((rn_sb.getD i []).getD j 0 &&& 255).toUInt32 % 65536).toInt32 = (rn_sb.getD i []).getD j 0) ∧ (((rn_sb.getD i []).getD j 0).toUInt32.toUInt16.toUInt32.toInt32 = (rn_sb.getD i []).getD j 0) := chv_all ⟨i, hi⟩ ⟨j, Nat.lt_of_lt_of_le hj (sl_le ⟨i, hi⟩)⟩
def ixF (i : Nat) : Nat → Nat → Int32 → Int32
  | 0, _, _ => -1
  | n + 1, k, c => if (rn_sb.getD i []).getD k 0 = c then nI k else ixF i n (k + 1) c
theorem ix_let : ∀ t : Fin 128, ixF 4 6 0 (nI t.1) = if letR t.1 = 6 then -1 else nI (letR t.1) := by decide +kernel
theorem ix_sgn : ∀ t : Fin 128, ixF 5 3 0 (nI t.1) = if 60 ≤ t.1 ∧ t.1 ≤ 62 then nI (t.1 - 60) else -1 := by decide +kernel
theorem i2c_t : ∀ t : Fin 128, ((nI t.1).toUInt32 % 65536).toInt32 = nI t.1 := by decide +kernel
theorem i2b_t : ∀ t : Fin 128, (nI t.1).toInt8.toInt32 = nI t.1 := by decide +kernel
theorem len_min {i : Nat} : (if nI (rn_sl.getD i 0) < nI (rn_sl.getD i 0) then nI (rn_sl.getD i 0) else nI (rn_sl.getD i 0)) = nI (rn_sl.getD i 0) := by split <;> rfl
theorem nI_lt128 {t : Nat} (h : t < 128) : ¬ nI t < 0 ∧ ¬ 255 < nI t := ⟨nI_pos (by omega), Int32.not_lt.mpr ((sm_le_iff (b := 255) (by omega) (by decide)).mpr (by omega))⟩

set_option maxHeartbeats 4000000 in
theorem K_coder {G : rn_G} {d : Nat} {κ : Nat × Nat} {Q : Option Value → rn_S → Prop} {σ : rn_S} {i : Nat} (hi : i < 6) (h : Q (some (.int 0)) σ) : Call G (d) M_J0_coder_7d493 [.ref (1000 + (10 + i))] σ κ Q := by
  show Run G _ M_J0_coder_7d493 0 [.ref (1000 + (10 + i))] [] _ _ _
  refine R_gets (v := .int 1) dJ0_coder_7d493_0 gs_RJ0_38 (by decide) ?_
  refine R_if_eq (tgt := 13) dJ0_coder_7d493_3 (by decide) (fun q => absurd q (by decide)) (fun _ => ?_)
  refine al_0 dJ0_coder_7d493_6 ?_
  refine R_getcT dJ0_coder_7d493_7 (by first | assumption | decide) fs_RJ0_15 ?_
  refine R_goto (tgt := 14) dJ0_coder_7d493_10 (by decide) ?_
  refine R_ireturn dJ0_coder_7d493_14 ⟨_, rfl, rfl⟩ ?_
  exact h

set_option maxHeartbeats 4000000 in
theorem K_isLatin1 {G : rn_G} {d : Nat} {κ : Nat × Nat} {Q : Option Value → rn_S → Prop} {σ : rn_S} {i : Nat} (hi : i < 6) (h : Q (some (.int 1)) σ) : Call G (d) M_J0_isLatin1_aae02 [.ref (1000 + (10 + i))] σ κ Q := by
  show Run G _ M_J0_isLatin1_aae02 0 [.ref (1000 + (10 + i))] [] _ _ _
  refine R_gets (v := .int 1) dJ0_isLatin1_aae02_0 gs_RJ0_38 (by decide) ?_
  refine R_if_eq (tgt := 17) dJ0_isLatin1_aae02_3 (by decide) (fun q => absurd q (by decide)) (fun _ => ?_)
  refine al_0 dJ0_isLatin1_aae02_6 ?_
  refine R_getcT dJ0_isLatin1_aae02_7 (by first | assumption | decide) fs_RJ0_15 ?_
  refine R_if_ne (tgt := 17) dJ0_isLatin1_aae02_10 (by decide) (fun q => absurd q (by decide)) (fun _ => ?_)
  refine R_iconst (v := 1) dJ0_isLatin1_aae02_13 (by decide) ?_
  refine R_goto (tgt := 18) dJ0_isLatin1_aae02_14 (by decide) ?_
  refine R_ireturn dJ0_isLatin1_aae02_18 ⟨_, rfl, rfl⟩ ?_
  exact h

set_option maxHeartbeats 4000000 in
theorem K_length {G : rn_G} {d : Nat} {κ : Nat × Nat} {Q : Option Value → rn_S → Prop} {σ : rn_S} {i : Nat} (hi : i < 6) (h : Q (some (.int (nI (rn_sl.getD i 0)))) σ) : Call G (d + 1) M_J0_length_8abf5 [.ref (1000 + (10 + i))] σ κ Q := by
  show Run G _ M_J0_length_8abf5 0 [.ref (1000 + (10 + i))] [] _ _ _
  refine al_0 dJ0_length_8abf5_0 ?_
  refine R_getvT dJ0_length_8abf5_1 (by first | assumption | decide) fs_RJ0_9 ?_
  refine R_alenT dJ0_length_8abf5_4 (by first | assumption | decide) rfl ?_
  refine al_0 dJ0_length_8abf5_5 ?_
  refine ct_0 dJ0_length_8abf5_6 mm_RJ0_335 (by first | assumption | decide) rfl (Nat.le_of_ble_eq_true rfl) (Nat.le_of_ble_eq_true rfl) (K_coder hi ?_)
  refine R_ishr dJ0_length_8abf5_9 ?_
  refine R_ireturn dJ0_length_8abf5_10 ⟨_, rfl, rfl⟩ ?_
  rw [shr_0]; exact h

set_option maxHeartbeats 4000000 in
theorem K_chk3 {G : rn_G} {d : Nat} {κ : Nat × Nat} {Q : Option Value → rn_S → Prop} {σ : rn_S} {x y : Int32} (h0 : ¬ x < 0) (h1 : x < y) (h : Q (some (.int x)) σ) : Call G (d) M_J3_checkIndex_8e157 [.int x, .int y, .ref 1030] σ κ Q := by
  show Run G _ M_J3_checkIndex_8e157 0 [.int x, .int y, .ref 1030] [] _ _ _
  refine il_0 dJ3_checkIndex_8e157_0 ?_
  refine R_if_lt (tgt := 9) dJ3_checkIndex_8e157_1 (by decide) (fun q => absurd q (h0)) (fun c1 => ?_)
  refine il_0 dJ3_checkIndex_8e157_4 ?_
  refine il_1 dJ3_checkIndex_8e157_5 ?_
  refine R_icmp_lt (tgt := 16) dJ3_checkIndex_8e157_6 (by decide) (fun c6 => ?_) (fun q => absurd q (not_not_intro h1))
  refine il_0 dJ3_checkIndex_8e157_16 ?_
  refine R_ireturn dJ3_checkIndex_8e157_17 ⟨_, rfl, rfl⟩ ?_
  exact h

set_option maxHeartbeats 4000000 in
theorem K_chk0 {G : rn_G} {d : Nat} {κ : Nat × Nat} {Q : Option Value → rn_S → Prop} {σ : rn_S} {x y : Int32} (h0 : ¬ x < 0) (h1 : x < y) (h : Q none σ) : Call G (d + 1) M_J0_checkIndex_df160 [.int x, .int y] σ κ Q := by
  show Run G _ M_J0_checkIndex_df160 0 [.int x, .int y] [] _ _ _
  refine il_0 dJ0_checkIndex_df160_0 ?_
  refine il_1 dJ0_checkIndex_df160_1 ?_
  refine R_gets (v := .ref 1030) dJ0_checkIndex_df160_2 gs_RJ0_1053 (by decide) ?_
  refine cs_3 dJ0_checkIndex_df160_5 mm_RJ0_1059 (Nat.le_of_ble_eq_true rfl) (Nat.le_of_ble_eq_true rfl) (K_chk3 h0 h1 ?_)
  refine R_pop dJ0_checkIndex_df160_8 rfl ?_
  refine R_return dJ0_checkIndex_df160_9 rfl ?_
  exact h

set_option maxHeartbeats 4000000 in
theorem K_charAtL {G : rn_G} {d : Nat} {κ : Nat × Nat} {Q : Option Value → rn_S → Prop} {σ : rn_S} {i : Nat} (hi : i < 6) {j : Nat} {x : Int32} (hxj : x = nI j) (hj : j < rn_sl.getD i 0) (h : Q (some (.int ((rn_sb.getD i []).getD j 0))) σ) : Call G (d + 2) M_J1_charAt_3b067 [.ref (1000 + (20 + i)), .int x] σ κ Q := by
  show Run G _ M_J1_charAt_3b067 0 [.ref (1000 + (20 + i)), .int x] [] _ _ _
  have hj6 : j < 6 := Nat.lt_of_lt_of_le hj (sl_le ⟨i, hi⟩)
  have hx : rn_ix x j := rn_ixe hxj
  refine il_1 dJ1_charAt_3b067_0 ?_
  refine al_0 dJ1_charAt_3b067_1 ?_
  refine R_alenT dJ1_charAt_3b067_2 (by first | assumption | decide) rfl ?_
  refine cs_2 dJ1_charAt_3b067_3 mm_RJ1_9 (Nat.le_of_ble_eq_true rfl) (Nat.le_of_ble_eq_true rfl) (K_chk0 hx.1 (by rw [show x = nI j from hxj]; exact (sm_lt_iff (by omega) (by have := sl_le ⟨i, hi⟩; dsimp only at this; omega)).mpr hj) ?_)
  refine al_0 dJ1_charAt_3b067_6 ?_
  refine il_1 dJ1_charAt_3b067_7 ?_
  refine R_baldT dJ1_charAt_3b067_8 (by first | assumption | decide) hx hj rfl ?_
  refine R_sipush (v := 255) dJ1_charAt_3b067_9 (by decide) ?_
  refine R_iand dJ1_charAt_3b067_12 ?_
  refine R_i2c dJ1_charAt_3b067_13 ?_
  refine R_ireturn dJ1_charAt_3b067_14 ⟨_, rfl, (by rw [(chv hi hj).1]; show Value.int _ = _; rw [(chv hi hj).2])⟩ ?_
  rw [(chv hi hj).1]; exact h

set_option maxHeartbeats 4000000 in
theorem K_charAt {G : rn_G} {d : Nat} {κ : Nat × Nat} {Q : Option Value → rn_S → Prop} {σ : rn_S} {i : Nat} (hi : i < 6) {j : Nat} {x : Int32} (hxj : x = nI j) (hj : j < rn_sl.getD i 0) (h : Q (some (.int ((rn_sb.getD i []).getD j 0))) σ) : Call G (d + 3) M_J0_charAt_5068e [.ref (1000 + (10 + i)), .int x] σ κ Q := by
  show Run G _ M_J0_charAt_5068e 0 [.ref (1000 + (10 + i)), .int x] [] _ _ _
  refine al_0 dJ0_charAt_5068e_0 ?_
  refine ct_0 dJ0_charAt_5068e_1 mm_RJ0_492 (by first | assumption | decide) rfl (Nat.le_of_ble_eq_true rfl) (Nat.le_of_ble_eq_true rfl) (K_isLatin1 hi ?_)
  refine R_if_eq (tgt := 16) dJ0_charAt_5068e_4 (by decide) (fun q => absurd q (by decide)) (fun _ => ?_)
  refine al_0 dJ0_charAt_5068e_7 ?_
  refine R_getvT dJ0_charAt_5068e_8 (by first | assumption | decide) fs_RJ0_9 ?_
  refine il_1 dJ0_charAt_5068e_11 ?_
  refine cs_2 dJ0_charAt_5068e_12 mm_RJ0_495 (Nat.le_of_ble_eq_true rfl) (Nat.le_of_ble_eq_true rfl) (K_charAtL hi hxj hj ?_)
  refine R_ireturn dJ0_charAt_5068e_15 ⟨_, rfl, (by show Value.int _ = _; rw [(chv hi hj).2])⟩ ?_
  exact h

set_option maxHeartbeats 4000000 in
theorem K_canEncode {G : rn_G} {d : Nat} {κ : Nat × Nat} {Q : Option Value → rn_S → Prop} {σ : rn_S} {x : Int32} {t : Nat} (hx : x = nI t) (ht : t < 128) (h : Q (some (.int 1)) σ) : Call G (d) M_J1_canEncode_9a6ad [.int x] σ κ Q := by
  show Run G _ M_J1_canEncode_9a6ad 0 [.int x] [] _ _ _
  obtain ⟨n0, n1⟩ := nI_lt128 ht
  rw [← hx] at n0 n1
  refine il_0 dJ1_canEncode_9a6ad_0 ?_
  refine R_if_lt (tgt := 15) dJ1_canEncode_9a6ad_1 (by decide) (fun q => absurd q (n0)) (fun c1 => ?_)
  refine il_0 dJ1_canEncode_9a6ad_4 ?_
  refine R_sipush (v := 255) dJ1_canEncode_9a6ad_5 (by decide) ?_
  refine R_icmp_gt (tgt := 15) dJ1_canEncode_9a6ad_8 (by decide) (fun q => absurd q (n1)) (fun c8 => ?_)
  refine R_iconst (v := 1) dJ1_canEncode_9a6ad_11 (by decide) ?_
  refine R_goto (tgt := 16) dJ1_canEncode_9a6ad_12 (by decide) ?_
  refine R_ireturn dJ1_canEncode_9a6ad_16 ⟨_, rfl, rfl⟩ ?_
  exact h

set_option maxHeartbeats 4000000 in
theorem L_indexOfChar {G : rn_G} {d : Nat} {κ : Nat × Nat} {Q : Option Value → rn_S → Prop} {σ : rn_S} {i : Nat} (hi : i < 6) {t : Nat} {x z b : Int32} (hz : z = nI (rn_sl.getD i 0)) (hb : b = nI t) : ∀ (n k : Nat) (y : Int32), n + k = rn_sl.getD i 0 → y = nI k → Q (some (.int (ixF i n k (nI t)))) σ → Run G d M_J1_indexOfChar_4cfef 7 [.ref (1000 + (20 + i)), .int x, .int 0, .int z, .int b, .int y] [] σ κ Q := by
  have hl6 : rn_sl.getD i 0 ≤ 6 := sl_le ⟨i, hi⟩
  intro n
  induction n with
  | zero =>
    intro k y hk hy h
    have hk2 : k = rn_sl.getD i 0 := by omega
    refine il_5 dJ1_indexOfChar_4cfef_7 ?_
    refine il_3 dJ1_indexOfChar_4cfef_9 ?_
    refine R_icmp_ge (tgt := 31) dJ1_indexOfChar_4cfef_10 (by decide) (fun c10 => ?_) (fun q => absurd q (not_not_intro (by rw [hy, hz, hk2]; exact Int32.le_refl _)))
    refine R_iconst (v := -1) dJ1_indexOfChar_4cfef_31 (by decide) ?_
    refine R_ireturn dJ1_indexOfChar_4cfef_32 ⟨_, rfl, rfl⟩ ?_
    exact h
  | succ n ih =>
    intro k y hk hy h
    have hkl : k < rn_sl.getD i 0 := by omega
    unfold ixF at h
    refine il_5 dJ1_indexOfChar_4cfef_7 ?_
    refine il_3 dJ1_indexOfChar_4cfef_9 ?_
    refine R_icmp_ge (tgt := 31) dJ1_indexOfChar_4cfef_10 (by decide) (fun q => absurd q (by rw [hy, hz]; exact nI_ge hkl (by omega))) (fun c10 => ?_)
    refine al_0 dJ1_indexOfChar_4cfef_13 ?_
    refine il_5 dJ1_indexOfChar_4cfef_14 ?_
    refine R_baldT dJ1_indexOfChar_4cfef_16 (by first | assumption | decide) (rn_ixe hy) hkl rfl ?_
    refine il_4 dJ1_indexOfChar_4cfef_17 ?_
    refine R_icmp_ne (tgt := 25) dJ1_indexOfChar_4cfef_19 (by decide) (fun c19 => ?_) (fun c19 => ?_)
    · refine ii_5 (v := _ + 1) dJ1_indexOfChar_4cfef_25 rfl (by rfl) ?_
      refine R_goto (tgt := 7) dJ1_indexOfChar_4cfef_28 (by decide) ?_
      rw [hb] at c19
      rw [if_neg (show ¬ (rn_sb.getD i []).getD k 0 = nI t from c19)] at h
      exact ih (k + 1) _ (by omega) (by rw [hy]; exact sm_add k 1) h
    · refine il_5 dJ1_indexOfChar_4cfef_22 ?_
      refine R_ireturn dJ1_indexOfChar_4cfef_24 ⟨_, rfl, rfl⟩ ?_
      rw [hb] at c19
      rw [if_pos (show (rn_sb.getD i []).getD k 0 = nI t from c19), ← hy] at h
      exact h

set_option maxHeartbeats 4000000 in
theorem K_indexOfChar {G : rn_G} {d : Nat} {κ : Nat × Nat} {Q : Option Value → rn_S → Prop} {σ : rn_S} {i : Nat} (hi : i < 6) {t : Nat} {x y z : Int32} (hx : x = nI t) (ht : t < 128) (hy : y = 0) (hz : z = nI (rn_sl.getD i 0)) (h : Q (some (.int (ixF i (rn_sl.getD i 0) 0 (nI t)))) σ) : Call G (d) M_J1_indexOfChar_4cfef [.ref (1000 + (20 + i)), .int x, .int y, .int z] σ κ Q := by
  show Run G _ M_J1_indexOfChar_4cfef 0 [.ref (1000 + (20 + i)), .int x, .int y, .int z, .null, .null] [] _ _ _
  subst hy
  refine il_1 dJ1_indexOfChar_4cfef_0 ?_
  refine R_i2b dJ1_indexOfChar_4cfef_1 ?_
  refine is_4 dJ1_indexOfChar_4cfef_2 rfl ?_
  refine il_2 dJ1_indexOfChar_4cfef_4 ?_
  refine is_5 dJ1_indexOfChar_4cfef_5 rfl ?_
  have hb : x.toInt8.toInt32 = nI t := by rw [hx]; exact i2b_t ⟨t, ht⟩
  exact L_indexOfChar hi hz hb _ 0 0 (Nat.add_zero _) nI_0.symm h

set_option maxHeartbeats 4000000 in
theorem K_indexOfL {G : rn_G} {d : Nat} {κ : Nat × Nat} {Q : Option Value → rn_S → Prop} {σ : rn_S} {i : Nat} (hi : i < 6) {t : Nat} {x z : Int32} (hx : x = nI t) (ht : t < 128) (hz : z = nI (rn_sl.getD i 0)) (hl : 0 < rn_sl.getD i 0) (h : Q (some (.int (ixF i (rn_sl.getD i 0) 0 (nI t)))) σ) : Call G (d + 1) M_J1_indexOf_4cfef [.ref (1000 + (20 + i)), .int x, .int 0, .int z] σ κ Q := by
  show Run G _ M_J1_indexOf_4cfef 0 [.ref (1000 + (20 + i)), .int x, .int 0, .int z] [] _ _ _
  have hl6 : rn_sl.getD i 0 ≤ 6 := sl_le ⟨i, hi⟩
  refine il_1 dJ1_indexOf_4cfef_0 ?_
  refine cs_1 dJ1_indexOf_4cfef_1 mm_RJ1_88 (Nat.le_of_ble_eq_true rfl) (Nat.le_of_ble_eq_true rfl) (K_canEncode hx ht ?_)
  refine R_if_ne (tgt := 9) dJ1_indexOf_4cfef_4 (by decide) (fun _ => ?_) (fun q => absurd q (by decide))
  refine il_2 dJ1_indexOf_4cfef_9 ?_
  refine R_iconst (v := 0) dJ1_indexOf_4cfef_10 (by decide) ?_
  refine cs_2 dJ1_indexOf_4cfef_11 mm_RJ1_92 (Nat.le_of_ble_eq_true rfl) (Nat.le_of_ble_eq_true rfl) (K_max (nmr (fun y0 hy0 => ?_)))
  have hy0 : y0 = 0 := hy0
  refine is_2 dJ1_indexOf_4cfef_14 rfl ?_
  refine il_3 dJ1_indexOf_4cfef_15 ?_
  refine al_0 dJ1_indexOf_4cfef_16 ?_
  refine R_alenT dJ1_indexOf_4cfef_17 (by first | assumption | decide) rfl ?_
  refine cs_2 dJ1_indexOf_4cfef_18 mm_RJ1_38 (Nat.le_of_ble_eq_true rfl) (Nat.le_of_ble_eq_true rfl) (K_min (nmr (fun z0 hz0 => ?_)))
  have hz0 : z0 = nI (rn_sl.getD i 0) := by rw [hz0, hz]; exact len_min
  refine is_3 dJ1_indexOf_4cfef_21 rfl ?_
  refine il_2 dJ1_indexOf_4cfef_22 ?_
  refine il_3 dJ1_indexOf_4cfef_23 ?_
  refine R_icmp_lt (tgt := 29) dJ1_indexOf_4cfef_24 (by decide) (fun c24 => ?_) (fun q => absurd q (not_not_intro (by rw [hy0, hz0]; exact (sm_lt_iff (a := 0) (by decide) (by omega)).mpr hl)))
  refine al_0 dJ1_indexOf_4cfef_29 ?_
  refine il_1 dJ1_indexOf_4cfef_30 ?_
  refine il_2 dJ1_indexOf_4cfef_31 ?_
  refine il_3 dJ1_indexOf_4cfef_32 ?_
  refine cs_4 dJ1_indexOf_4cfef_33 mm_RJ1_95 (Nat.le_of_ble_eq_true rfl) (Nat.le_of_ble_eq_true rfl) (K_indexOfChar hi hx ht (by first | exact hy0 | rw [hy0]) (by first | exact hz0 | rw [hz0]) ?_)
  refine R_ireturn dJ1_indexOf_4cfef_36 ⟨_, rfl, rfl⟩ ?_
  exact h

set_option maxHeartbeats 4000000 in
theorem K_indexOf2 {G : rn_G} {d : Nat} {κ : Nat × Nat} {Q : Option Value → rn_S → Prop} {σ : rn_S} {i : Nat} (hi : i < 6) {t : Nat} {x : Int32} (hx : x = nI t) (ht : t < 128) (hl : 0 < rn_sl.getD i 0) (h : Q (some (.int (ixF i (rn_sl.getD i 0) 0 (nI t)))) σ) : Call G (d + 2) M_J0_indexOf_7cf53 [.ref (1000 + (10 + i)), .int x, .int 0] σ κ Q := by
  show Run G _ M_J0_indexOf_7cf53 0 [.ref (1000 + (10 + i)), .int x, .int 0] [] _ _ _
  refine al_0 dJ0_indexOf_7cf53_0 ?_
  refine ct_0 dJ0_indexOf_7cf53_1 mm_RJ0_492 (by first | assumption | decide) rfl (Nat.le_of_ble_eq_true rfl) (Nat.le_of_ble_eq_true rfl) (K_isLatin1 hi ?_)
  refine R_if_eq (tgt := 23) dJ0_indexOf_7cf53_4 (by decide) (fun q => absurd q (by decide)) (fun _ => ?_)
  refine al_0 dJ0_indexOf_7cf53_7 ?_
  refine R_getvT dJ0_indexOf_7cf53_8 (by first | assumption | decide) fs_RJ0_9 ?_
  refine il_1 dJ0_indexOf_7cf53_11 ?_
  refine il_2 dJ0_indexOf_7cf53_12 ?_
  refine al_0 dJ0_indexOf_7cf53_13 ?_
  refine ct_0 dJ0_indexOf_7cf53_14 mm_RJ0_505 (by first | assumption | decide) rfl (Nat.le_of_ble_eq_true rfl) (Nat.le_of_ble_eq_true rfl) (K_length hi ?_)
  refine cs_4 dJ0_indexOf_7cf53_17 mm_RJ0_637 (Nat.le_of_ble_eq_true rfl) (Nat.le_of_ble_eq_true rfl) (K_indexOfL hi hx ht rfl hl ?_)
  refine R_goto (tgt := 36) dJ0_indexOf_7cf53_20 (by decide) ?_
  refine R_ireturn dJ0_indexOf_7cf53_36 ⟨_, rfl, rfl⟩ ?_
  exact h

set_option maxHeartbeats 4000000 in
theorem K_indexOf {G : rn_G} {d : Nat} {κ : Nat × Nat} {Q : Option Value → rn_S → Prop} {σ : rn_S} {i : Nat} (hi : i < 6) {t : Nat} {x : Int32} (hx : x = nI t) (ht : t < 128) (hl : 0 < rn_sl.getD i 0) (h : Q (some (.int (ixF i (rn_sl.getD i 0) 0 (nI t)))) σ) : Call G (d + 3) M_J0_indexOf_0f7a4 [.ref (1000 + (10 + i)), .int x] σ κ Q := by
  show Run G _ M_J0_indexOf_0f7a4 0 [.ref (1000 + (10 + i)), .int x] [] _ _ _
  refine al_0 dJ0_indexOf_0f7a4_0 ?_
  refine il_1 dJ0_indexOf_0f7a4_1 ?_
  refine R_iconst (v := 0) dJ0_indexOf_0f7a4_2 (by decide) ?_
  refine ct_2 dJ0_indexOf_0f7a4_3 mm_RJ0_633 (by first | assumption | decide) rfl (Nat.le_of_ble_eq_true rfl) (Nat.le_of_ble_eq_true rfl) (K_indexOf2 hi hx ht hl ?_)
  refine R_ireturn dJ0_indexOf_0f7a4_6 ⟨_, rfl, rfl⟩ ?_
  exact h

def TXC (T : Nat → Nat) (L : Nat) (mi : Nat → Nat → Int32) : Prop := L ≤ 100 ∧ mi 84 1 = nI L ∧ ∀ j, j < L → T j < 128 ∧ mi 85 j = nI (T j)
theorem rn_u_eq {α : Type} {f : Nat → Nat → α} {a k : Nat} {v : α} : rn_u f a k v a k = v := if_pos ⟨rfl, rfl⟩
theorem nxT_l {T : Nat → Nat} {L p : Nat} (h : p < L) : nxT T L p = T p := if_pos h
theorem nxT_g {T : Nat → Nat} {L p : Nat} (h : ¬ p < L) : nxT T L p = 128 := if_neg h

set_option maxHeartbeats 4000000 in
theorem K_isNext {G : rn_G} {d : Nat} {κ : Nat × Nat} {Q : Option Value → rn_S → Prop} {mi : Nat → Nat → Int32} {ml : Nat → Nat → Int64} {D : Nat → Nat} {T : Nat → Nat} {L p : Nat} (htx : TXC T L mi) (hat : mi 84 2 = nI p) (hpL : p ≤ L) {x : Int32} {c : Nat} (hx : x = nI c) (hc : c < 128) (h1 : nxT T L p = c → Q (some (.int 1)) (mi, ml, RF D, 164)) (h0 : ¬ nxT T L p = c → Q (some (.int 0)) (mi, ml, RF D, 164)) : Call G (d) M_X5_isNext [.ref 84, .int x] (mi, ml, RF D, 164) κ Q := by
  show Run G _ M_X5_isNext 0 [.ref 84, .int x] [] _ _ _
  obtain ⟨hL, eL, htxt⟩ := htx
  refine al_0 dX5_isNext_0 ?_
  refine R_getfi dX5_isNext_1 fl_RX5_29 rfl sh_84 (Nat.le_of_ble_eq_true rfl) ?_
  refine al_0 dX5_isNext_4 ?_
  refine R_getfi dX5_isNext_5 fl_RX5_22 rfl sh_84 (Nat.le_of_ble_eq_true rfl) ?_
  refine R_icmp_ge (tgt := 28) dX5_isNext_8 (by decide) (fun c8 => ?_) (fun c8 => ?_)
  · refine R_iconst (v := 0) dX5_isNext_28 (by decide) ?_
    refine R_ireturn dX5_isNext_29 ⟨_, rfl, rfl⟩ ?_
    first
      | exact h0 (fun q => by rw [nxT_l hp] at q; exact c21 (by rw [ht2, hx, q]))
      | exact h1 (by rw [nxT_l hp]; exact sm_inj (by omega) (by omega) (by rw [← ht2, ← hx]; exact c21))
      | exact h0 (fun q => by rw [nxT_g (fun q => Int32.not_le.mpr ((sm_lt_iff (by omega) (by omega)).mpr q) (by rw [← hat, ← eL]; exact c8))] at q; omega)
  · refine al_0 dX5_isNext_11 ?_
    refine R_getfr (r := 85) dX5_isNext_12 fl_RX5_9 rfl sh_84 (Nat.le_of_ble_eq_true rfl) rf_84_0 ?_
    refine al_0 dX5_isNext_15 ?_
    refine R_getfi dX5_isNext_16 fl_RX5_29 rfl sh_84 (Nat.le_of_ble_eq_true rfl) ?_
    have hp : p < L := (sm_lt_iff (by omega) (by omega)).mp (by rw [← hat, ← eL]; exact Int32.not_le.mp c8)
    obtain ⟨ht1, ht2⟩ := htxt p hp
    refine R_bald dX5_isNext_19 sh_85 (Nat.le_of_ble_eq_true rfl) (rn_ixe hat) (show p < 100 by omega) ?_
    refine il_1 dX5_isNext_20 ?_
    refine R_icmp_ne (tgt := 28) dX5_isNext_21 (by decide) (fun c21 => ?_) (fun c21 => ?_)
    · refine R_iconst (v := 0) dX5_isNext_28 (by decide) ?_
      refine R_ireturn dX5_isNext_29 ⟨_, rfl, rfl⟩ ?_
      first
        | exact h0 (fun q => by rw [nxT_l hp] at q; exact c21 (by rw [ht2, hx, q]))
        | exact h1 (by rw [nxT_l hp]; exact sm_inj (by omega) (by omega) (by rw [← ht2, ← hx]; exact c21))
        | exact h0 (fun q => by rw [nxT_g (fun q => Int32.not_le.mpr ((sm_lt_iff (by omega) (by omega)).mpr q) (by rw [← hat, ← eL]; exact c8))] at q; omega)
    · refine R_iconst (v := 1) dX5_isNext_24 (by decide) ?_
      refine R_goto (tgt := 29) dX5_isNext_25 (by decide) ?_
      refine R_ireturn dX5_isNext_29 ⟨_, rfl, rfl⟩ ?_
      first
        | exact h0 (fun q => by rw [nxT_l hp] at q; exact c21 (by rw [ht2, hx, q]))
        | exact h1 (by rw [nxT_l hp]; exact sm_inj (by omega) (by omega) (by rw [← ht2, ← hx]; exact c21))
        | exact h0 (fun q => by rw [nxT_g (fun q => Int32.not_le.mpr ((sm_lt_iff (by omega) (by omega)).mpr q) (by rw [← hat, ← eL]; exact c8))] at q; omega)

set_option maxHeartbeats 4000000 in
theorem K_skip {G : rn_G} {d : Nat} {κ : Nat × Nat} {Q : Option Value → rn_S → Prop} {mi : Nat → Nat → Int32} {ml : Nat → Nat → Int64} {D : Nat → Nat} {T : Nat → Nat} {L p : Nat} (htx : TXC T L mi) (hat : mi 84 2 = nI p) (hpL : p ≤ L) {x : Int32} {c : Nat} (hx : x = nI c) (hc : c < 128) (h1 : nxT T L p = c → p < L → Q (some (.int 1)) (rn_u mi 84 2 (nI (p + 1)), ml, RF D, 164)) (h0 : ¬ nxT T L p = c → Q (some (.int 0)) (mi, ml, RF D, 164)) : Call G (d + 1) M_X5_skip [.ref 84, .int x] (mi, ml, RF D, 164) κ Q := by
  show Run G _ M_X5_skip 0 [.ref 84, .int x] [] _ _ _
  refine al_0 dX5_skip_0 ?_
  refine il_1 dX5_skip_1 ?_
  refine cv_1 dX5_skip_2 mm_RX5_40 sh_84 (Nat.le_of_ble_eq_true rfl) ⟨_, rfl, rfl⟩ (Nat.le_of_ble_eq_true rfl) (Nat.le_of_ble_eq_true rfl) (K_isNext htx hat hpL hx hc (fun c2 => ?_) (fun c2 => ?_))
  · refine R_if_ne (tgt := 10) dX5_skip_5 (by decide) (fun _ => ?_) (fun q => absurd q (by decide))
    refine al_0 dX5_skip_10 ?_
    refine R_dup dX5_skip_11 rfl ?_
    refine R_getfi dX5_skip_12 fl_RX5_29 rfl sh_84 (Nat.le_of_ble_eq_true rfl) ?_
    refine R_iconst (v := 1) dX5_skip_15 (by decide) ?_
    refine R_iadd dX5_skip_16 ?_
    refine R_putfi dX5_skip_17 fl_RX5_29 rfl (Or.inl rfl) sh_84 (Nat.le_of_ble_eq_true rfl) rfl rfl ?_
    refine R_iconst (v := 1) dX5_skip_20 (by decide) ?_
    refine R_ireturn dX5_skip_21 ⟨_, rfl, rfl⟩ ?_
    first
      | exact h0 c2
      | (rw [show mi 84 2 + 1 = nI (p + 1) by rw [hat]; exact sm_add p 1]; exact h1 c2 (nxT_lt (T := T) (by omega)))
  · refine R_if_ne (tgt := 10) dX5_skip_5 (by decide) (fun q => absurd q (by decide)) (fun _ => ?_)
    refine R_iconst (v := 0) dX5_skip_8 (by decide) ?_
    refine R_ireturn dX5_skip_9 ⟨_, rfl, rfl⟩ ?_
    first
      | exact h0 c2
      | (rw [show mi 84 2 + 1 = nI (p + 1) by rw [hat]; exact sm_add p 1]; exact h1 c2 (nxT_lt (T := T) (by omega)))

set_option maxHeartbeats 4000000 in
theorem K_addCode {G : rn_G} {d : Nat} {κ : Nat × Nat} {Q : Option Value → rn_S → Prop} {mi : Nat → Nat → Int32} {ml : Nat → Nat → Int64} {D : Nat → Nat} {k s : Nat} {x : Int32} (hk : PD k) (hs : mi k 1 = nI s) (hs1 : s < 100) (h : Q none (rn_u (rn_u mi (k + 1) s x) k 1 (nI (s + 1)), ml, RF D, 164)) : Call G (d) M_X1_addCode [.ref k, .int x] (mi, ml, RF D, 164) κ Q := by
  show Run G _ M_X1_addCode 0 [.ref k, .int x] [] _ _ _
  refine al_0 dX1_addCode_0 ?_
  refine R_getfi dX1_addCode_1 fl_RX1_22 rfl (pd_s0 hk) (show k < 164 by have := pd_n hk; omega) ?_
  refine al_0 dX1_addCode_4 ?_
  refine R_getfr (r := k + 1) dX1_addCode_5 fl_RX1_9 rfl (pd_s0 hk) (show k < 164 by have := pd_n hk; omega) (pd_r0 hk) ?_
  refine R_al (v := 100) dX1_addCode_8 0 (by decide) (pd_s1 hk) (show k + 1 < 164 by have := pd_n hk; omega) (by decide) ?_
  refine R_icmp_ge (tgt := 32) dX1_addCode_9 (by decide) (fun q => absurd q (by rw [hs]; exact nI_ge (b := 100) hs1 (by decide))) (fun c9 => ?_)
  refine al_0 dX1_addCode_12 ?_
  refine R_getfr (r := k + 1) dX1_addCode_13 fl_RX1_9 rfl (pd_s0 hk) (show k < 164 by have := pd_n hk; omega) (pd_r0 hk) ?_
  refine al_0 dX1_addCode_16 ?_
  refine R_getfi dX1_addCode_17 fl_RX1_22 rfl (pd_s0 hk) (show k < 164 by have := pd_n hk; omega) ?_
  refine il_1 dX1_addCode_20 ?_
  refine R_iast dX1_addCode_21 (pd_s1 hk) (show k + 1 < 164 by have := pd_n hk; omega) (rn_ixe hs) hs1 ?_
  refine al_0 dX1_addCode_22 ?_
  refine R_dup dX1_addCode_23 rfl ?_
  refine R_getfi dX1_addCode_24 fl_RX1_22 rfl (pd_s0 hk) (show k < 164 by have := pd_n hk; omega) ?_
  refine R_iconst (v := 1) dX1_addCode_27 (by decide) ?_
  refine R_iadd dX1_addCode_28 ?_
  refine R_putfi dX1_addCode_29 fl_RX1_22 rfl (Or.inl rfl) (pd_s0 hk) (show k < 164 by have := pd_n hk; omega) rfl rfl ?_
  refine R_return dX1_addCode_32 rfl ?_
  rw [rn_u_ne (show k ≠ k + 1 by omega), show mi k 1 + 1 = nI (s + 1) by rw [hs]; exact sm_add s 1]
  exact h

set_option maxHeartbeats 4000000 in
theorem K_empty {G : rn_G} {d : Nat} {κ : Nat × Nat} {Q : Option Value → rn_S → Prop} {mi : Nat → Nat → Int32} {ml : Nat → Nat → Int64} {D : Nat → Nat} {k : Nat} (hk : PD k) (h : Q none (rn_u (rn_u (rn_u mi k 1 0) k 2 8) k 3 3, ml, RF D, 164)) : Call G (d) M_X1_empty [.ref k] (mi, ml, RF D, 164) κ Q := by
  show Run G _ M_X1_empty 0 [.ref k] [] _ _ _
  refine al_0 dX1_empty_0 ?_
  refine R_iconst (v := 0) dX1_empty_1 (by decide) ?_
  refine R_putfi dX1_empty_2 fl_RX1_22 rfl (Or.inl rfl) (pd_s0 hk) (show k < 164 by have := pd_n hk; omega) rfl rfl ?_
  refine al_0 dX1_empty_5 ?_
  refine R_bipush (v := 8) dX1_empty_6 (by decide) ?_
  refine R_putfi dX1_empty_8 fl_RX1_15 rfl (Or.inl rfl) (pd_s0 hk) (show k < 164 by have := pd_n hk; omega) rfl rfl ?_
  refine al_0 dX1_empty_11 ?_
  refine R_iconst (v := 3) dX1_empty_12 (by decide) ?_
  refine R_putfi dX1_empty_13 fl_RX1_19 rfl (Or.inl rfl) (pd_s0 hk) (show k < 164 by have := pd_n hk; omega) rfl rfl ?_
  refine R_return dX1_empty_16 rfl ?_
  exact h

set_option maxHeartbeats 4000000 in
theorem K_addSign {G : rn_G} {d : Nat} {κ : Nat × Nat} {Q : Option Value → rn_S → Prop} {mi : Nat → Nat → Int32} {ml : Nat → Nat → Int64} {D : Nat → Nat} {x : Int32} {L t : Nat} (hx : x = nI t) (ht : t < 128) (hL : L < 100) (eL : mi 84 1 = nI L) (h : Q (some (.int (nI (L + 1)))) (rn_u (rn_u mi 85 L x) 84 1 (nI (L + 1)), ml, RF D, 164)) : Call G (d) M_X5_addSign [.ref 84, .int x] (mi, ml, RF D, 164) κ Q := by
  show Run G _ M_X5_addSign 0 [.ref 84, .int x] [] _ _ _
  refine al_0 dX5_addSign_0 ?_
  refine R_getfr (r := 85) dX5_addSign_1 fl_RX5_9 rfl sh_84 (Nat.le_of_ble_eq_true rfl) rf_84_0 ?_
  refine al_0 dX5_addSign_4 ?_
  refine R_getfi dX5_addSign_5 fl_RX5_22 rfl sh_84 (Nat.le_of_ble_eq_true rfl) ?_
  refine il_1 dX5_addSign_8 ?_
  refine R_i2b dX5_addSign_9 ?_
  refine R_bast dX5_addSign_10 sh_85 (Nat.le_of_ble_eq_true rfl) (rn_ixe eL) hL (y := x) (by show Value.int _ = _; rw [hx, i2b_t ⟨t, ht⟩, i2b_t ⟨t, ht⟩]) ?_
  refine al_0 dX5_addSign_11 ?_
  refine R_dup dX5_addSign_12 rfl ?_
  refine R_getfi dX5_addSign_13 fl_RX5_22 rfl sh_84 (Nat.le_of_ble_eq_true rfl) ?_
  refine R_iconst (v := 1) dX5_addSign_16 (by decide) ?_
  refine R_iadd dX5_addSign_17 ?_
  refine R_putfi dX5_addSign_18 fl_RX5_22 rfl (Or.inl rfl) sh_84 (Nat.le_of_ble_eq_true rfl) rfl rfl ?_
  refine al_0 dX5_addSign_21 ?_
  refine R_getfi dX5_addSign_22 fl_RX5_22 rfl sh_84 (Nat.le_of_ble_eq_true rfl) ?_
  refine R_ireturn dX5_addSign_25 ⟨_, rfl, rfl⟩ ?_
  rw [rn_u_ne (show 84 ≠ 85 by decide), show mi 84 1 + 1 = nI (L + 1) by rw [eL]; exact sm_add L 1]
  rw [rn_u_eq]
  exact h
