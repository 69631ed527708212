/-! the constructors -/
theorem nw_RX4 : Cond.instantiable RX4 7 ∈ rn_WS := rn_ws 144 (by decide +kernel) rfl
theorem nw_RX7 : Cond.instantiable RX7 3 ∈ rn_WS := rn_ws 351 (by decide +kernel) rfl
set_option maxHeartbeats 4000000 in
theorem I1_7 {G : rn_G} {d : Nat} {Q : Option Value → rn_S → Prop} {mi : Nat → Nat → Int32} {ml : Nat → Nat → Int64} {rf : Nat → Nat → Nat} (h : Q none ((rn_u (rn_u (rn_z mi 8 0) 7 2 8) 7 3 3), (rn_z ml 8 0), (rn_u (rn_z rf 8 0) 7 0 8), 9)) : Call G (d + 1) M_X1_init [.ref 7] (mi, ml, rf, 8) (1, 100) Q := by
  show Run G _ M_X1_init 0 [.ref 7] [] _ _ _
  refine al_0 dX1_init_0 ?_
  refine R_objInit dX1_init_1 ob_RX1_3 mi_obj mi_objc ⟨by decide, by decide⟩ (Nat.le_of_ble_eq_true rfl) ?_
  refine al_0 dX1_init_4 ?_
  refine R_bipush (v := 100) dX1_init_5 (by decide) ?_
  refine R_newaI (L := 100) (κ' := (0, 0)) dX1_init_7 mk_int (rn_ixe (show (100 : Int32) = nI 100 from rfl)) (by decide) rfl (Nat.le_of_ble_eq_true rfl) ⟨by decide, by decide⟩ ?_
  refine R_putfr dX1_init_9 fl_RX1_9 rfl (Or.inr ⟨rfl, rfl, rfl⟩) rfl (Nat.le_of_ble_eq_true rfl) ?_
  refine al_0 dX1_init_12 ?_
  refine R_bipush (v := 8) dX1_init_13 (by decide) ?_
  refine R_putfi dX1_init_15 fl_RX1_15 rfl (Or.inl rfl) rfl (Nat.le_of_ble_eq_true rfl) rfl rfl ?_
  refine al_0 dX1_init_18 ?_
  refine R_iconst (v := 3) dX1_init_19 (by decide) ?_
  refine R_putfi dX1_init_20 fl_RX1_19 rfl (Or.inl rfl) rfl (Nat.le_of_ble_eq_true rfl) rfl rfl ?_
  exact R_return dX1_init_23 rfl h

set_option maxHeartbeats 4000000 in
theorem I4_9 {G : rn_G} {d : Nat} {Q : Option Value → rn_S → Prop} {mi : Nat → Nat → Int32} {ml : Nat → Nat → Int64} {rf : Nat → Nat → Nat} (h : Q none ((rn_z mi 10 0), (rn_z ml 10 0), (rn_u (rn_z rf 10 0) 9 6 10), 11)) : Call G (d + 1) M_X4_init [.ref 9] (mi, ml, rf, 10) (1, 4) Q := by
  show Run G _ M_X4_init 0 [.ref 9] [] _ _ _
  refine al_0 dX4_init_0 ?_
  refine R_objInit dX4_init_1 ob_RX4_3 mi_obj mi_objc ⟨by decide, by decide⟩ (Nat.le_of_ble_eq_true rfl) ?_
  refine al_0 dX4_init_4 ?_
  refine R_iconst (v := 4) dX4_init_5 (by decide) ?_
  refine R_newaI (L := 4) (κ' := (0, 0)) dX4_init_6 mk_int (rn_ixe (show (4 : Int32) = nI 4 from rfl)) (by decide) rfl (Nat.le_of_ble_eq_true rfl) ⟨by decide, by decide⟩ ?_
  refine R_putfr dX4_init_8 fl_RX4_9 rfl (Or.inr ⟨rfl, rfl, rfl⟩) rfl (Nat.le_of_ble_eq_true rfl) ?_
  exact R_return dX4_init_11 rfl h

set_option maxHeartbeats 4000000 in
theorem I4_11 {G : rn_G} {d : Nat} {Q : Option Value → rn_S → Prop} {mi : Nat → Nat → Int32} {ml : Nat → Nat → Int64} {rf : Nat → Nat → Nat} (h : Q none ((rn_z mi 12 0), (rn_z ml 12 0), (rn_u (rn_z rf 12 0) 11 6 12), 13)) : Call G (d + 1) M_X4_init [.ref 11] (mi, ml, rf, 12) (1, 4) Q := by
  show Run G _ M_X4_init 0 [.ref 11] [] _ _ _
  refine al_0 dX4_init_0 ?_
  refine R_objInit dX4_init_1 ob_RX4_3 mi_obj mi_objc ⟨by decide, by decide⟩ (Nat.le_of_ble_eq_true rfl) ?_
  refine al_0 dX4_init_4 ?_
  refine R_iconst (v := 4) dX4_init_5 (by decide) ?_
  refine R_newaI (L := 4) (κ' := (0, 0)) dX4_init_6 mk_int (rn_ixe (show (4 : Int32) = nI 4 from rfl)) (by decide) rfl (Nat.le_of_ble_eq_true rfl) ⟨by decide, by decide⟩ ?_
  refine R_putfr dX4_init_8 fl_RX4_9 rfl (Or.inr ⟨rfl, rfl, rfl⟩) rfl (Nat.le_of_ble_eq_true rfl) ?_
  exact R_return dX4_init_11 rfl h

set_option maxHeartbeats 4000000 in
theorem I4_13 {G : rn_G} {d : Nat} {Q : Option Value → rn_S → Prop} {mi : Nat → Nat → Int32} {ml : Nat → Nat → Int64} {rf : Nat → Nat → Nat} (h : Q none ((rn_z mi 14 0), (rn_z ml 14 0), (rn_u (rn_z rf 14 0) 13 6 14), 15)) : Call G (d + 1) M_X4_init [.ref 13] (mi, ml, rf, 14) (1, 4) Q := by
  show Run G _ M_X4_init 0 [.ref 13] [] _ _ _
  refine al_0 dX4_init_0 ?_
  refine R_objInit dX4_init_1 ob_RX4_3 mi_obj mi_objc ⟨by decide, by decide⟩ (Nat.le_of_ble_eq_true rfl) ?_
  refine al_0 dX4_init_4 ?_
  refine R_iconst (v := 4) dX4_init_5 (by decide) ?_
  refine R_newaI (L := 4) (κ' := (0, 0)) dX4_init_6 mk_int (rn_ixe (show (4 : Int32) = nI 4 from rfl)) (by decide) rfl (Nat.le_of_ble_eq_true rfl) ⟨by decide, by decide⟩ ?_
  refine R_putfr dX4_init_8 fl_RX4_9 rfl (Or.inr ⟨rfl, rfl, rfl⟩) rfl (Nat.le_of_ble_eq_true rfl) ?_
  exact R_return dX4_init_11 rfl h

set_option maxHeartbeats 4000000 in
theorem I4_15 {G : rn_G} {d : Nat} {Q : Option Value → rn_S → Prop} {mi : Nat → Nat → Int32} {ml : Nat → Nat → Int64} {rf : Nat → Nat → Nat} (h : Q none ((rn_z mi 16 0), (rn_z ml 16 0), (rn_u (rn_z rf 16 0) 15 6 16), 17)) : Call G (d + 1) M_X4_init [.ref 15] (mi, ml, rf, 16) (1, 4) Q := by
  show Run G _ M_X4_init 0 [.ref 15] [] _ _ _
  refine al_0 dX4_init_0 ?_
  refine R_objInit dX4_init_1 ob_RX4_3 mi_obj mi_objc ⟨by decide, by decide⟩ (Nat.le_of_ble_eq_true rfl) ?_
  refine al_0 dX4_init_4 ?_
  refine R_iconst (v := 4) dX4_init_5 (by decide) ?_
  refine R_newaI (L := 4) (κ' := (0, 0)) dX4_init_6 mk_int (rn_ixe (show (4 : Int32) = nI 4 from rfl)) (by decide) rfl (Nat.le_of_ble_eq_true rfl) ⟨by decide, by decide⟩ ?_
  refine R_putfr dX4_init_8 fl_RX4_9 rfl (Or.inr ⟨rfl, rfl, rfl⟩) rfl (Nat.le_of_ble_eq_true rfl) ?_
  exact R_return dX4_init_11 rfl h

set_option maxHeartbeats 4000000 in
theorem I4_17 {G : rn_G} {d : Nat} {Q : Option Value → rn_S → Prop} {mi : Nat → Nat → Int32} {ml : Nat → Nat → Int64} {rf : Nat → Nat → Nat} (h : Q none ((rn_z mi 18 0), (rn_z ml 18 0), (rn_u (rn_z rf 18 0) 17 6 18), 19)) : Call G (d + 1) M_X4_init [.ref 17] (mi, ml, rf, 18) (1, 4) Q := by
  show Run G _ M_X4_init 0 [.ref 17] [] _ _ _
  refine al_0 dX4_init_0 ?_
  refine R_objInit dX4_init_1 ob_RX4_3 mi_obj mi_objc ⟨by decide, by decide⟩ (Nat.le_of_ble_eq_true rfl) ?_
  refine al_0 dX4_init_4 ?_
  refine R_iconst (v := 4) dX4_init_5 (by decide) ?_
  refine R_newaI (L := 4) (κ' := (0, 0)) dX4_init_6 mk_int (rn_ixe (show (4 : Int32) = nI 4 from rfl)) (by decide) rfl (Nat.le_of_ble_eq_true rfl) ⟨by decide, by decide⟩ ?_
  refine R_putfr dX4_init_8 fl_RX4_9 rfl (Or.inr ⟨rfl, rfl, rfl⟩) rfl (Nat.le_of_ble_eq_true rfl) ?_
  exact R_return dX4_init_11 rfl h

set_option maxHeartbeats 4000000 in
theorem I4_19 {G : rn_G} {d : Nat} {Q : Option Value → rn_S → Prop} {mi : Nat → Nat → Int32} {ml : Nat → Nat → Int64} {rf : Nat → Nat → Nat} (h : Q none ((rn_z mi 20 0), (rn_z ml 20 0), (rn_u (rn_z rf 20 0) 19 6 20), 21)) : Call G (d + 1) M_X4_init [.ref 19] (mi, ml, rf, 20) (1, 4) Q := by
  show Run G _ M_X4_init 0 [.ref 19] [] _ _ _
  refine al_0 dX4_init_0 ?_
  refine R_objInit dX4_init_1 ob_RX4_3 mi_obj mi_objc ⟨by decide, by decide⟩ (Nat.le_of_ble_eq_true rfl) ?_
  refine al_0 dX4_init_4 ?_
  refine R_iconst (v := 4) dX4_init_5 (by decide) ?_
  refine R_newaI (L := 4) (κ' := (0, 0)) dX4_init_6 mk_int (rn_ixe (show (4 : Int32) = nI 4 from rfl)) (by decide) rfl (Nat.le_of_ble_eq_true rfl) ⟨by decide, by decide⟩ ?_
  refine R_putfr dX4_init_8 fl_RX4_9 rfl (Or.inr ⟨rfl, rfl, rfl⟩) rfl (Nat.le_of_ble_eq_true rfl) ?_
  exact R_return dX4_init_11 rfl h

set_option maxHeartbeats 4000000 in
theorem I3_2 {G : rn_G} {d : Nat} {Q : Option Value → rn_S → Prop} {mi : Nat → Nat → Int32} {ml : Nat → Nat → Int64} {rf : Nat → Nat → Nat} (h : Q none ((rn_z (rn_z (rn_z (rn_z (rn_z (rn_z (rn_z (rn_z (rn_z (rn_z (rn_z (rn_z (rn_u (rn_u (rn_u (rn_z (rn_z (rn_z (rn_z (rn_z (rn_z mi 3 0) 4 0) 5 0) 6 0) 7 0) 8 0) 7 2 8) 7 3 3) 2 14 (-1)) 9 0) 10 0) 11 0) 12 0) 13 0) 14 0) 15 0) 16 0) 17 0) 18 0) 19 0) 20 0), (rn_z (rn_z (rn_z (rn_z (rn_z (rn_z (rn_z (rn_z (rn_z (rn_z (rn_z (rn_z (rn_z (rn_z (rn_z (rn_z (rn_z (rn_z ml 3 0) 4 0) 5 0) 6 0) 7 0) 8 0) 9 0) 10 0) 11 0) 12 0) 13 0) 14 0) 15 0) 16 0) 17 0) 18 0) 19 0) 20 0), (rn_u (rn_u (rn_z (rn_z (rn_u (rn_u (rn_z (rn_z (rn_u (rn_u (rn_z (rn_z (rn_u (rn_u (rn_z (rn_z (rn_u (rn_u (rn_z (rn_z (rn_u (rn_u (rn_z (rn_z (rn_u (rn_u (rn_z (rn_z (rn_u (rn_z (rn_u (rn_z (rn_u (rn_z (rn_u (rn_z rf 3 0) 2 0 3) 4 0) 2 1 4) 5 0) 2 2 5) 6 0) 2 3 6) 7 0) 8 0) 7 0 8) 2 11 7) 9 0) 10 0) 9 6 10) 4 0 9) 11 0) 12 0) 11 6 12) 4 1 11) 13 0) 14 0) 13 6 14) 4 2 13) 15 0) 16 0) 15 6 16) 4 3 15) 17 0) 18 0) 17 6 18) 4 4 17) 19 0) 20 0) 19 6 20) 4 5 19), 21)) : Call G (d + 2) M_X3_init [.ref 2] (mi, ml, rf, 3) (18, 194) Q := by
  show Run G _ M_X3_init 0 [.ref 2, .null] [] _ _ _
  refine al_0 dX3_init_0 ?_
  refine R_objInit dX3_init_1 ob_RX3_3 mi_obj mi_objc ⟨by decide, by decide⟩ (Nat.le_of_ble_eq_true rfl) ?_
  refine al_0 dX3_init_4 ?_
  refine R_bipush (v := 6) dX3_init_5 (by decide) ?_
  refine R_newaI (L := 6) (κ' := (17, 188)) dX3_init_7 mk_int (rn_ixe (show (6 : Int32) = nI 6 from rfl)) (by decide) rfl (Nat.le_of_ble_eq_true rfl) ⟨by decide, by decide⟩ ?_
  refine R_putfr dX3_init_9 fl_RX3_9 rfl (Or.inr ⟨rfl, rfl, rfl⟩) rfl (Nat.le_of_ble_eq_true rfl) ?_
  refine al_0 dX3_init_12 ?_
  refine R_bipush (v := 6) dX3_init_13 (by decide) ?_
  refine R_newq (t := 4) (L := 6) (κ' := (16, 182)) dX3_init_15 (by decide) cl_RX3_15 (rn_ixe (show (6 : Int32) = nI 6 from rfl)) (by decide) rfl (Nat.le_of_ble_eq_true rfl) ⟨by decide, by decide⟩ ?_
  refine R_putfr dX3_init_18 fl_RX3_17 rfl (Or.inr ⟨rfl, rfl, rfl⟩) rfl (Nat.le_of_ble_eq_true rfl) ?_
  refine al_0 dX3_init_21 ?_
  refine R_bipush (v := 6) dX3_init_22 (by decide) ?_
  refine R_newaI (L := 6) (κ' := (15, 176)) dX3_init_24 mk_int (rn_ixe (show (6 : Int32) = nI 6 from rfl)) (by decide) rfl (Nat.le_of_ble_eq_true rfl) ⟨by decide, by decide⟩ ?_
  refine R_putfr dX3_init_26 fl_RX3_21 rfl (Or.inr ⟨rfl, rfl, rfl⟩) rfl (Nat.le_of_ble_eq_true rfl) ?_
  refine al_0 dX3_init_29 ?_
  refine R_bipush (v := 6) dX3_init_30 (by decide) ?_
  refine R_newaI (L := 6) (κ' := (14, 170)) dX3_init_32 mk_int (rn_ixe (show (6 : Int32) = nI 6 from rfl)) (by decide) rfl (Nat.le_of_ble_eq_true rfl) ⟨by decide, by decide⟩ ?_
  refine R_putfr dX3_init_34 fl_RX3_26 rfl (Or.inr ⟨rfl, rfl, rfl⟩) rfl (Nat.le_of_ble_eq_true rfl) ?_
  refine al_0 dX3_init_37 ?_
  refine R_new (ci := 1) (κ' := (13, 166)) dX3_init_38 rfl cl_RX3_24 nw_RX1 mz_RX1 (by decide +kernel) rfl (Nat.le_of_ble_eq_true rfl) ⟨by decide, by decide⟩ ?_
  refine R_dup dX3_init_41 rfl ?_
  refine R_callIN (as := []) (κ' := (1, 100)) (κ'' := (12, 66)) dX3_init_42 mm_RX3_29 ⟨by decide, by decide⟩ rfl (Nat.le_of_ble_eq_true rfl) (Nat.le_of_ble_eq_true rfl) ⟨by decide, by decide⟩ (I1_7 ?_)
  refine R_putfr dX3_init_45 fl_RX3_30 rfl (Or.inl rfl) rfl (Nat.le_of_ble_eq_true rfl) ?_
  refine al_0 dX3_init_48 ?_
  refine R_iconst (v := -1) dX3_init_49 (by decide) ?_
  refine R_putfi dX3_init_50 fl_RX3_34 rfl (Or.inl rfl) rfl (Nat.le_of_ble_eq_true rfl) rfl rfl ?_
  refine R_iconst (v := 0) dX3_init_53 (by decide) ?_
  refine is_1 dX3_init_54 rfl ?_
  refine il_1 dX3_init_55 ?_
  refine R_bipush (v := 6) dX3_init_56 (by decide) ?_
  refine R_icmp_ge (tgt := 80) dX3_init_58 (by decide) (fun q => absurd q (by decide)) (fun _ => ?_)
  refine al_0 dX3_init_61 ?_
  refine R_getfr (r := 4) dX3_init_62 fl_RX3_17 rfl rfl (Nat.le_of_ble_eq_true rfl) rfl ?_
  refine il_1 dX3_init_65 ?_
  refine R_new (ci := 4) (κ' := (11, 59)) dX3_init_66 rfl cl_RX3_15 nw_RX4 mz_RX4 (by decide +kernel) rfl (Nat.le_of_ble_eq_true rfl) ⟨by decide, by decide⟩ ?_
  refine R_dup dX3_init_69 rfl ?_
  refine R_callIN (as := []) (κ' := (1, 4)) (κ'' := (10, 55)) dX3_init_70 mm_RX3_38 ⟨by decide, by decide⟩ rfl (Nat.le_of_ble_eq_true rfl) (Nat.le_of_ble_eq_true rfl) ⟨by decide, by decide⟩ (I4_9 ?_)
  refine R_aast (t := 4) (ci := 4) dX3_init_73 (by decide) rfl (Nat.le_of_ble_eq_true rfl) (rn_ixe (show (0 : Int32) = nI 0 from rfl)) (by decide) rfl rfl rfl (Nat.le_of_ble_eq_true rfl) ?_
  refine ii_1 (v := 1) dX3_init_74 rfl (by decide) ?_
  refine R_goto (tgt := 55) dX3_init_77 (by decide) ?_
  refine il_1 dX3_init_55 ?_
  refine R_bipush (v := 6) dX3_init_56 (by decide) ?_
  refine R_icmp_ge (tgt := 80) dX3_init_58 (by decide) (fun q => absurd q (by decide)) (fun _ => ?_)
  refine al_0 dX3_init_61 ?_
  refine R_getfr (r := 4) dX3_init_62 fl_RX3_17 rfl rfl (Nat.le_of_ble_eq_true rfl) rfl ?_
  refine il_1 dX3_init_65 ?_
  refine R_new (ci := 4) (κ' := (9, 48)) dX3_init_66 rfl cl_RX3_15 nw_RX4 mz_RX4 (by decide +kernel) rfl (Nat.le_of_ble_eq_true rfl) ⟨by decide, by decide⟩ ?_
  refine R_dup dX3_init_69 rfl ?_
  refine R_callIN (as := []) (κ' := (1, 4)) (κ'' := (8, 44)) dX3_init_70 mm_RX3_38 ⟨by decide, by decide⟩ rfl (Nat.le_of_ble_eq_true rfl) (Nat.le_of_ble_eq_true rfl) ⟨by decide, by decide⟩ (I4_11 ?_)
  refine R_aast (t := 4) (ci := 4) dX3_init_73 (by decide) rfl (Nat.le_of_ble_eq_true rfl) (rn_ixe (show (1 : Int32) = nI 1 from rfl)) (by decide) rfl rfl rfl (Nat.le_of_ble_eq_true rfl) ?_
  refine ii_1 (v := 2) dX3_init_74 rfl (by decide) ?_
  refine R_goto (tgt := 55) dX3_init_77 (by decide) ?_
  refine il_1 dX3_init_55 ?_
  refine R_bipush (v := 6) dX3_init_56 (by decide) ?_
  refine R_icmp_ge (tgt := 80) dX3_init_58 (by decide) (fun q => absurd q (by decide)) (fun _ => ?_)
  refine al_0 dX3_init_61 ?_
  refine R_getfr (r := 4) dX3_init_62 fl_RX3_17 rfl rfl (Nat.le_of_ble_eq_true rfl) rfl ?_
  refine il_1 dX3_init_65 ?_
  refine R_new (ci := 4) (κ' := (7, 37)) dX3_init_66 rfl cl_RX3_15 nw_RX4 mz_RX4 (by decide +kernel) rfl (Nat.le_of_ble_eq_true rfl) ⟨by decide, by decide⟩ ?_
  refine R_dup dX3_init_69 rfl ?_
  refine R_callIN (as := []) (κ' := (1, 4)) (κ'' := (6, 33)) dX3_init_70 mm_RX3_38 ⟨by decide, by decide⟩ rfl (Nat.le_of_ble_eq_true rfl) (Nat.le_of_ble_eq_true rfl) ⟨by decide, by decide⟩ (I4_13 ?_)
  refine R_aast (t := 4) (ci := 4) dX3_init_73 (by decide) rfl (Nat.le_of_ble_eq_true rfl) (rn_ixe (show (2 : Int32) = nI 2 from rfl)) (by decide) rfl rfl rfl (Nat.le_of_ble_eq_true rfl) ?_
  refine ii_1 (v := 3) dX3_init_74 rfl (by decide) ?_
  refine R_goto (tgt := 55) dX3_init_77 (by decide) ?_
  refine il_1 dX3_init_55 ?_
  refine R_bipush (v := 6) dX3_init_56 (by decide) ?_
  refine R_icmp_ge (tgt := 80) dX3_init_58 (by decide) (fun q => absurd q (by decide)) (fun _ => ?_)
  refine al_0 dX3_init_61 ?_
  refine R_getfr (r := 4) dX3_init_62 fl_RX3_17 rfl rfl (Nat.le_of_ble_eq_true rfl) rfl ?_
  refine il_1 dX3_init_65 ?_
  refine R_new (ci := 4) (κ' := (5, 26)) dX3_init_66 rfl cl_RX3_15 nw_RX4 mz_RX4 (by decide +kernel) rfl (Nat.le_of_ble_eq_true rfl) ⟨by decide, by decide⟩ ?_
  refine R_dup dX3_init_69 rfl ?_
  refine R_callIN (as := []) (κ' := (1, 4)) (κ'' := (4, 22)) dX3_init_70 mm_RX3_38 ⟨by decide, by decide⟩ rfl (Nat.le_of_ble_eq_true rfl) (Nat.le_of_ble_eq_true rfl) ⟨by decide, by decide⟩ (I4_15 ?_)
  refine R_aast (t := 4) (ci := 4) dX3_init_73 (by decide) rfl (Nat.le_of_ble_eq_true rfl) (rn_ixe (show (3 : Int32) = nI 3 from rfl)) (by decide) rfl rfl rfl (Nat.le_of_ble_eq_true rfl) ?_
  refine ii_1 (v := 4) dX3_init_74 rfl (by decide) ?_
  refine R_goto (tgt := 55) dX3_init_77 (by decide) ?_
  refine il_1 dX3_init_55 ?_
  refine R_bipush (v := 6) dX3_init_56 (by decide) ?_
  refine R_icmp_ge (tgt := 80) dX3_init_58 (by decide) (fun q => absurd q (by decide)) (fun _ => ?_)
  refine al_0 dX3_init_61 ?_
  refine R_getfr (r := 4) dX3_init_62 fl_RX3_17 rfl rfl (Nat.le_of_ble_eq_true rfl) rfl ?_
  refine il_1 dX3_init_65 ?_
  refine R_new (ci := 4) (κ' := (3, 15)) dX3_init_66 rfl cl_RX3_15 nw_RX4 mz_RX4 (by decide +kernel) rfl (Nat.le_of_ble_eq_true rfl) ⟨by decide, by decide⟩ ?_
  refine R_dup dX3_init_69 rfl ?_
  refine R_callIN (as := []) (κ' := (1, 4)) (κ'' := (2, 11)) dX3_init_70 mm_RX3_38 ⟨by decide, by decide⟩ rfl (Nat.le_of_ble_eq_true rfl) (Nat.le_of_ble_eq_true rfl) ⟨by decide, by decide⟩ (I4_17 ?_)
  refine R_aast (t := 4) (ci := 4) dX3_init_73 (by decide) rfl (Nat.le_of_ble_eq_true rfl) (rn_ixe (show (4 : Int32) = nI 4 from rfl)) (by decide) rfl rfl rfl (Nat.le_of_ble_eq_true rfl) ?_
  refine ii_1 (v := 5) dX3_init_74 rfl (by decide) ?_
  refine R_goto (tgt := 55) dX3_init_77 (by decide) ?_
  refine il_1 dX3_init_55 ?_
  refine R_bipush (v := 6) dX3_init_56 (by decide) ?_
  refine R_icmp_ge (tgt := 80) dX3_init_58 (by decide) (fun q => absurd q (by decide)) (fun _ => ?_)
  refine al_0 dX3_init_61 ?_
  refine R_getfr (r := 4) dX3_init_62 fl_RX3_17 rfl rfl (Nat.le_of_ble_eq_true rfl) rfl ?_
  refine il_1 dX3_init_65 ?_
  refine R_new (ci := 4) (κ' := (1, 4)) dX3_init_66 rfl cl_RX3_15 nw_RX4 mz_RX4 (by decide +kernel) rfl (Nat.le_of_ble_eq_true rfl) ⟨by decide, by decide⟩ ?_
  refine R_dup dX3_init_69 rfl ?_
  refine R_callIN (as := []) (κ' := (1, 4)) (κ'' := (0, 0)) dX3_init_70 mm_RX3_38 ⟨by decide, by decide⟩ rfl (Nat.le_of_ble_eq_true rfl) (Nat.le_of_ble_eq_true rfl) ⟨by decide, by decide⟩ (I4_19 ?_)
  refine R_aast (t := 4) (ci := 4) dX3_init_73 (by decide) rfl (Nat.le_of_ble_eq_true rfl) (rn_ixe (show (5 : Int32) = nI 5 from rfl)) (by decide) rfl rfl rfl (Nat.le_of_ble_eq_true rfl) ?_
  refine ii_1 (v := 6) dX3_init_74 rfl (by decide) ?_
  refine R_goto (tgt := 55) dX3_init_77 (by decide) ?_
  refine il_1 dX3_init_55 ?_
  refine R_bipush (v := 6) dX3_init_56 (by decide) ?_
  refine R_icmp_ge (tgt := 80) dX3_init_58 (by decide) (fun _ => ?_) (fun q => absurd q (by decide))
  exact R_return dX3_init_80 rfl h

set_option maxHeartbeats 4000000 in
theorem I1_26 {G : rn_G} {d : Nat} {Q : Option Value → rn_S → Prop} {mi : Nat → Nat → Int32} {ml : Nat → Nat → Int64} {rf : Nat → Nat → Nat} (h : Q none ((rn_u (rn_u (rn_z mi 27 0) 26 2 8) 26 3 3), (rn_z ml 27 0), (rn_u (rn_z rf 27 0) 26 0 27), 28)) : Call G (d + 1) M_X1_init [.ref 26] (mi, ml, rf, 27) (1, 100) Q := by
  show Run G _ M_X1_init 0 [.ref 26] [] _ _ _
  refine al_0 dX1_init_0 ?_
  refine R_objInit dX1_init_1 ob_RX1_3 mi_obj mi_objc ⟨by decide, by decide⟩ (Nat.le_of_ble_eq_true rfl) ?_
  refine al_0 dX1_init_4 ?_
  refine R_bipush (v := 100) dX1_init_5 (by decide) ?_
  refine R_newaI (L := 100) (κ' := (0, 0)) dX1_init_7 mk_int (rn_ixe (show (100 : Int32) = nI 100 from rfl)) (by decide) rfl (Nat.le_of_ble_eq_true rfl) ⟨by decide, by decide⟩ ?_
  refine R_putfr dX1_init_9 fl_RX1_9 rfl (Or.inr ⟨rfl, rfl, rfl⟩) rfl (Nat.le_of_ble_eq_true rfl) ?_
  refine al_0 dX1_init_12 ?_
  refine R_bipush (v := 8) dX1_init_13 (by decide) ?_
  refine R_putfi dX1_init_15 fl_RX1_15 rfl (Or.inl rfl) rfl (Nat.le_of_ble_eq_true rfl) rfl rfl ?_
  refine al_0 dX1_init_18 ?_
  refine R_iconst (v := 3) dX1_init_19 (by decide) ?_
  refine R_putfi dX1_init_20 fl_RX1_19 rfl (Or.inl rfl) rfl (Nat.le_of_ble_eq_true rfl) rfl rfl ?_
  exact R_return dX1_init_23 rfl h

set_option maxHeartbeats 4000000 in
theorem I4_28 {G : rn_G} {d : Nat} {Q : Option Value → rn_S → Prop} {mi : Nat → Nat → Int32} {ml : Nat → Nat → Int64} {rf : Nat → Nat → Nat} (h : Q none ((rn_z mi 29 0), (rn_z ml 29 0), (rn_u (rn_z rf 29 0) 28 6 29), 30)) : Call G (d + 1) M_X4_init [.ref 28] (mi, ml, rf, 29) (1, 4) Q := by
  show Run G _ M_X4_init 0 [.ref 28] [] _ _ _
  refine al_0 dX4_init_0 ?_
  refine R_objInit dX4_init_1 ob_RX4_3 mi_obj mi_objc ⟨by decide, by decide⟩ (Nat.le_of_ble_eq_true rfl) ?_
  refine al_0 dX4_init_4 ?_
  refine R_iconst (v := 4) dX4_init_5 (by decide) ?_
  refine R_newaI (L := 4) (κ' := (0, 0)) dX4_init_6 mk_int (rn_ixe (show (4 : Int32) = nI 4 from rfl)) (by decide) rfl (Nat.le_of_ble_eq_true rfl) ⟨by decide, by decide⟩ ?_
  refine R_putfr dX4_init_8 fl_RX4_9 rfl (Or.inr ⟨rfl, rfl, rfl⟩) rfl (Nat.le_of_ble_eq_true rfl) ?_
  exact R_return dX4_init_11 rfl h

set_option maxHeartbeats 4000000 in
theorem I4_30 {G : rn_G} {d : Nat} {Q : Option Value → rn_S → Prop} {mi : Nat → Nat → Int32} {ml : Nat → Nat → Int64} {rf : Nat → Nat → Nat} (h : Q none ((rn_z mi 31 0), (rn_z ml 31 0), (rn_u (rn_z rf 31 0) 30 6 31), 32)) : Call G (d + 1) M_X4_init [.ref 30] (mi, ml, rf, 31) (1, 4) Q := by
  show Run G _ M_X4_init 0 [.ref 30] [] _ _ _
  refine al_0 dX4_init_0 ?_
  refine R_objInit dX4_init_1 ob_RX4_3 mi_obj mi_objc ⟨by decide, by decide⟩ (Nat.le_of_ble_eq_true rfl) ?_
  refine al_0 dX4_init_4 ?_
  refine R_iconst (v := 4) dX4_init_5 (by decide) ?_
  refine R_newaI (L := 4) (κ' := (0, 0)) dX4_init_6 mk_int (rn_ixe (show (4 : Int32) = nI 4 from rfl)) (by decide) rfl (Nat.le_of_ble_eq_true rfl) ⟨by decide, by decide⟩ ?_
  refine R_putfr dX4_init_8 fl_RX4_9 rfl (Or.inr ⟨rfl, rfl, rfl⟩) rfl (Nat.le_of_ble_eq_true rfl) ?_
  exact R_return dX4_init_11 rfl h

set_option maxHeartbeats 4000000 in
theorem I4_32 {G : rn_G} {d : Nat} {Q : Option Value → rn_S → Prop} {mi : Nat → Nat → Int32} {ml : Nat → Nat → Int64} {rf : Nat → Nat → Nat} (h : Q none ((rn_z mi 33 0), (rn_z ml 33 0), (rn_u (rn_z rf 33 0) 32 6 33), 34)) : Call G (d + 1) M_X4_init [.ref 32] (mi, ml, rf, 33) (1, 4) Q := by
  show Run G _ M_X4_init 0 [.ref 32] [] _ _ _
  refine al_0 dX4_init_0 ?_
  refine R_objInit dX4_init_1 ob_RX4_3 mi_obj mi_objc ⟨by decide, by decide⟩ (Nat.le_of_ble_eq_true rfl) ?_
  refine al_0 dX4_init_4 ?_
  refine R_iconst (v := 4) dX4_init_5 (by decide) ?_
  refine R_newaI (L := 4) (κ' := (0, 0)) dX4_init_6 mk_int (rn_ixe (show (4 : Int32) = nI 4 from rfl)) (by decide) rfl (Nat.le_of_ble_eq_true rfl) ⟨by decide, by decide⟩ ?_
  refine R_putfr dX4_init_8 fl_RX4_9 rfl (Or.inr ⟨rfl, rfl, rfl⟩) rfl (Nat.le_of_ble_eq_true rfl) ?_
  exact R_return dX4_init_11 rfl h

set_option maxHeartbeats 4000000 in
theorem I4_34 {G : rn_G} {d : Nat} {Q : Option Value → rn_S → Prop} {mi : Nat → Nat → Int32} {ml : Nat → Nat → Int64} {rf : Nat → Nat → Nat} (h : Q none ((rn_z mi 35 0), (rn_z ml 35 0), (rn_u (rn_z rf 35 0) 34 6 35), 36)) : Call G (d + 1) M_X4_init [.ref 34] (mi, ml, rf, 35) (1, 4) Q := by
  show Run G _ M_X4_init 0 [.ref 34] [] _ _ _
  refine al_0 dX4_init_0 ?_
  refine R_objInit dX4_init_1 ob_RX4_3 mi_obj mi_objc ⟨by decide, by decide⟩ (Nat.le_of_ble_eq_true rfl) ?_
  refine al_0 dX4_init_4 ?_
  refine R_iconst (v := 4) dX4_init_5 (by decide) ?_
  refine R_newaI (L := 4) (κ' := (0, 0)) dX4_init_6 mk_int (rn_ixe (show (4 : Int32) = nI 4 from rfl)) (by decide) rfl (Nat.le_of_ble_eq_true rfl) ⟨by decide, by decide⟩ ?_
  refine R_putfr dX4_init_8 fl_RX4_9 rfl (Or.inr ⟨rfl, rfl, rfl⟩) rfl (Nat.le_of_ble_eq_true rfl) ?_
  exact R_return dX4_init_11 rfl h

set_option maxHeartbeats 4000000 in
theorem I4_36 {G : rn_G} {d : Nat} {Q : Option Value → rn_S → Prop} {mi : Nat → Nat → Int32} {ml : Nat → Nat → Int64} {rf : Nat → Nat → Nat} (h : Q none ((rn_z mi 37 0), (rn_z ml 37 0), (rn_u (rn_z rf 37 0) 36 6 37), 38)) : Call G (d + 1) M_X4_init [.ref 36] (mi, ml, rf, 37) (1, 4) Q := by
  show Run G _ M_X4_init 0 [.ref 36] [] _ _ _
  refine al_0 dX4_init_0 ?_
  refine R_objInit dX4_init_1 ob_RX4_3 mi_obj mi_objc ⟨by decide, by decide⟩ (Nat.le_of_ble_eq_true rfl) ?_
  refine al_0 dX4_init_4 ?_
  refine R_iconst (v := 4) dX4_init_5 (by decide) ?_
  refine R_newaI (L := 4) (κ' := (0, 0)) dX4_init_6 mk_int (rn_ixe (show (4 : Int32) = nI 4 from rfl)) (by decide) rfl (Nat.le_of_ble_eq_true rfl) ⟨by decide, by decide⟩ ?_
  refine R_putfr dX4_init_8 fl_RX4_9 rfl (Or.inr ⟨rfl, rfl, rfl⟩) rfl (Nat.le_of_ble_eq_true rfl) ?_
  exact R_return dX4_init_11 rfl h

set_option maxHeartbeats 4000000 in
theorem I4_38 {G : rn_G} {d : Nat} {Q : Option Value → rn_S → Prop} {mi : Nat → Nat → Int32} {ml : Nat → Nat → Int64} {rf : Nat → Nat → Nat} (h : Q none ((rn_z mi 39 0), (rn_z ml 39 0), (rn_u (rn_z rf 39 0) 38 6 39), 40)) : Call G (d + 1) M_X4_init [.ref 38] (mi, ml, rf, 39) (1, 4) Q := by
  show Run G _ M_X4_init 0 [.ref 38] [] _ _ _
  refine al_0 dX4_init_0 ?_
  refine R_objInit dX4_init_1 ob_RX4_3 mi_obj mi_objc ⟨by decide, by decide⟩ (Nat.le_of_ble_eq_true rfl) ?_
  refine al_0 dX4_init_4 ?_
  refine R_iconst (v := 4) dX4_init_5 (by decide) ?_
  refine R_newaI (L := 4) (κ' := (0, 0)) dX4_init_6 mk_int (rn_ixe (show (4 : Int32) = nI 4 from rfl)) (by decide) rfl (Nat.le_of_ble_eq_true rfl) ⟨by decide, by decide⟩ ?_
  refine R_putfr dX4_init_8 fl_RX4_9 rfl (Or.inr ⟨rfl, rfl, rfl⟩) rfl (Nat.le_of_ble_eq_true rfl) ?_
  exact R_return dX4_init_11 rfl h

set_option maxHeartbeats 4000000 in
theorem I3_21 {G : rn_G} {d : Nat} {Q : Option Value → rn_S → Prop} {mi : Nat → Nat → Int32} {ml : Nat → Nat → Int64} {rf : Nat → Nat → Nat} (h : Q none ((rn_z (rn_z (rn_z (rn_z (rn_z (rn_z (rn_z (rn_z (rn_z (rn_z (rn_z (rn_z (rn_u (rn_u (rn_u (rn_z (rn_z (rn_z (rn_z (rn_z (rn_z mi 22 0) 23 0) 24 0) 25 0) 26 0) 27 0) 26 2 8) 26 3 3) 21 14 (-1)) 28 0) 29 0) 30 0) 31 0) 32 0) 33 0) 34 0) 35 0) 36 0) 37 0) 38 0) 39 0), (rn_z (rn_z (rn_z (rn_z (rn_z (rn_z (rn_z (rn_z (rn_z (rn_z (rn_z (rn_z (rn_z (rn_z (rn_z (rn_z (rn_z (rn_z ml 22 0) 23 0) 24 0) 25 0) 26 0) 27 0) 28 0) 29 0) 30 0) 31 0) 32 0) 33 0) 34 0) 35 0) 36 0) 37 0) 38 0) 39 0), (rn_u (rn_u (rn_z (rn_z (rn_u (rn_u (rn_z (rn_z (rn_u (rn_u (rn_z (rn_z (rn_u (rn_u (rn_z (rn_z (rn_u (rn_u (rn_z (rn_z (rn_u (rn_u (rn_z (rn_z (rn_u (rn_u (rn_z (rn_z (rn_u (rn_z (rn_u (rn_z (rn_u (rn_z (rn_u (rn_z rf 22 0) 21 0 22) 23 0) 21 1 23) 24 0) 21 2 24) 25 0) 21 3 25) 26 0) 27 0) 26 0 27) 21 11 26) 28 0) 29 0) 28 6 29) 23 0 28) 30 0) 31 0) 30 6 31) 23 1 30) 32 0) 33 0) 32 6 33) 23 2 32) 34 0) 35 0) 34 6 35) 23 3 34) 36 0) 37 0) 36 6 37) 23 4 36) 38 0) 39 0) 38 6 39) 23 5 38), 40)) : Call G (d + 2) M_X3_init [.ref 21] (mi, ml, rf, 22) (18, 194) Q := by
  show Run G _ M_X3_init 0 [.ref 21, .null] [] _ _ _
  refine al_0 dX3_init_0 ?_
  refine R_objInit dX3_init_1 ob_RX3_3 mi_obj mi_objc ⟨by decide, by decide⟩ (Nat.le_of_ble_eq_true rfl) ?_
  refine al_0 dX3_init_4 ?_
  refine R_bipush (v := 6) dX3_init_5 (by decide) ?_
  refine R_newaI (L := 6) (κ' := (17, 188)) dX3_init_7 mk_int (rn_ixe (show (6 : Int32) = nI 6 from rfl)) (by decide) rfl (Nat.le_of_ble_eq_true rfl) ⟨by decide, by decide⟩ ?_
  refine R_putfr dX3_init_9 fl_RX3_9 rfl (Or.inr ⟨rfl, rfl, rfl⟩) rfl (Nat.le_of_ble_eq_true rfl) ?_
  refine al_0 dX3_init_12 ?_
  refine R_bipush (v := 6) dX3_init_13 (by decide) ?_
  refine R_newq (t := 4) (L := 6) (κ' := (16, 182)) dX3_init_15 (by decide) cl_RX3_15 (rn_ixe (show (6 : Int32) = nI 6 from rfl)) (by decide) rfl (Nat.le_of_ble_eq_true rfl) ⟨by decide, by decide⟩ ?_
  refine R_putfr dX3_init_18 fl_RX3_17 rfl (Or.inr ⟨rfl, rfl, rfl⟩) rfl (Nat.le_of_ble_eq_true rfl) ?_
  refine al_0 dX3_init_21 ?_
  refine R_bipush (v := 6) dX3_init_22 (by decide) ?_
  refine R_newaI (L := 6) (κ' := (15, 176)) dX3_init_24 mk_int (rn_ixe (show (6 : Int32) = nI 6 from rfl)) (by decide) rfl (Nat.le_of_ble_eq_true rfl) ⟨by decide, by decide⟩ ?_
  refine R_putfr dX3_init_26 fl_RX3_21 rfl (Or.inr ⟨rfl, rfl, rfl⟩) rfl (Nat.le_of_ble_eq_true rfl) ?_
  refine al_0 dX3_init_29 ?_
  refine R_bipush (v := 6) dX3_init_30 (by decide) ?_
  refine R_newaI (L := 6) (κ' := (14, 170)) dX3_init_32 mk_int (rn_ixe (show (6 : Int32) = nI 6 from rfl)) (by decide) rfl (Nat.le_of_ble_eq_true rfl) ⟨by decide, by decide⟩ ?_
  refine R_putfr dX3_init_34 fl_RX3_26 rfl (Or.inr ⟨rfl, rfl, rfl⟩) rfl (Nat.le_of_ble_eq_true rfl) ?_
  refine al_0 dX3_init_37 ?_
  refine R_new (ci := 1) (κ' := (13, 166)) dX3_init_38 rfl cl_RX3_24 nw_RX1 mz_RX1 (by decide +kernel) rfl (Nat.le_of_ble_eq_true rfl) ⟨by decide, by decide⟩ ?_
  refine R_dup dX3_init_41 rfl ?_
  refine R_callIN (as := []) (κ' := (1, 100)) (κ'' := (12, 66)) dX3_init_42 mm_RX3_29 ⟨by decide, by decide⟩ rfl (Nat.le_of_ble_eq_true rfl) (Nat.le_of_ble_eq_true rfl) ⟨by decide, by decide⟩ (I1_26 ?_)
  refine R_putfr dX3_init_45 fl_RX3_30 rfl (Or.inl rfl) rfl (Nat.le_of_ble_eq_true rfl) ?_
  refine al_0 dX3_init_48 ?_
  refine R_iconst (v := -1) dX3_init_49 (by decide) ?_
  refine R_putfi dX3_init_50 fl_RX3_34 rfl (Or.inl rfl) rfl (Nat.le_of_ble_eq_true rfl) rfl rfl ?_
  refine R_iconst (v := 0) dX3_init_53 (by decide) ?_
  refine is_1 dX3_init_54 rfl ?_
  refine il_1 dX3_init_55 ?_
  refine R_bipush (v := 6) dX3_init_56 (by decide) ?_
  refine R_icmp_ge (tgt := 80) dX3_init_58 (by decide) (fun q => absurd q (by decide)) (fun _ => ?_)
  refine al_0 dX3_init_61 ?_
  refine R_getfr (r := 23) dX3_init_62 fl_RX3_17 rfl rfl (Nat.le_of_ble_eq_true rfl) rfl ?_
  refine il_1 dX3_init_65 ?_
  refine R_new (ci := 4) (κ' := (11, 59)) dX3_init_66 rfl cl_RX3_15 nw_RX4 mz_RX4 (by decide +kernel) rfl (Nat.le_of_ble_eq_true rfl) ⟨by decide, by decide⟩ ?_
  refine R_dup dX3_init_69 rfl ?_
  refine R_callIN (as := []) (κ' := (1, 4)) (κ'' := (10, 55)) dX3_init_70 mm_RX3_38 ⟨by decide, by decide⟩ rfl (Nat.le_of_ble_eq_true rfl) (Nat.le_of_ble_eq_true rfl) ⟨by decide, by decide⟩ (I4_28 ?_)
  refine R_aast (t := 4) (ci := 4) dX3_init_73 (by decide) rfl (Nat.le_of_ble_eq_true rfl) (rn_ixe (show (0 : Int32) = nI 0 from rfl)) (by decide) rfl rfl rfl (Nat.le_of_ble_eq_true rfl) ?_
  refine ii_1 (v := 1) dX3_init_74 rfl (by decide) ?_
  refine R_goto (tgt := 55) dX3_init_77 (by decide) ?_
  refine il_1 dX3_init_55 ?_
  refine R_bipush (v := 6) dX3_init_56 (by decide) ?_
  refine R_icmp_ge (tgt := 80) dX3_init_58 (by decide) (fun q => absurd q (by decide)) (fun _ => ?_)
  refine al_0 dX3_init_61 ?_
  refine R_getfr (r := 23) dX3_init_62 fl_RX3_17 rfl rfl (Nat.le_of_ble_eq_true rfl) rfl ?_
  refine il_1 dX3_init_65 ?_
  refine R_new (ci := 4) (κ' := (9, 48)) dX3_init_66 rfl cl_RX3_15 nw_RX4 mz_RX4 (by decide +kernel) rfl (Nat.le_of_ble_eq_true rfl) ⟨by decide, by decide⟩ ?_
  refine R_dup dX3_init_69 rfl ?_
  refine R_callIN (as := []) (κ' := (1, 4)) (κ'' := (8, 44)) dX3_init_70 mm_RX3_38 ⟨by decide, by decide⟩ rfl (Nat.le_of_ble_eq_true rfl) (Nat.le_of_ble_eq_true rfl) ⟨by decide, by decide⟩ (I4_30 ?_)
  refine R_aast (t := 4) (ci := 4) dX3_init_73 (by decide) rfl (Nat.le_of_ble_eq_true rfl) (rn_ixe (show (1 : Int32) = nI 1 from rfl)) (by decide) rfl rfl rfl (Nat.le_of_ble_eq_true rfl) ?_
  refine ii_1 (v := 2) dX3_init_74 rfl (by decide) ?_
  refine R_goto (tgt := 55) dX3_init_77 (by decide) ?_
  refine il_1 dX3_init_55 ?_
  refine R_bipush (v := 6) dX3_init_56 (by decide) ?_
  refine R_icmp_ge (tgt := 80) dX3_init_58 (by decide) (fun q => absurd q (by decide)) (fun _ => ?_)
  refine al_0 dX3_init_61 ?_
  refine R_getfr (r := 23) dX3_init_62 fl_RX3_17 rfl rfl (Nat.le_of_ble_eq_true rfl) rfl ?_
  refine il_1 dX3_init_65 ?_
  refine R_new (ci := 4) (κ' := (7, 37)) dX3_init_66 rfl cl_RX3_15 nw_RX4 mz_RX4 (by decide +kernel) rfl (Nat.le_of_ble_eq_true rfl) ⟨by decide, by decide⟩ ?_
  refine R_dup dX3_init_69 rfl ?_
  refine R_callIN (as := []) (κ' := (1, 4)) (κ'' := (6, 33)) dX3_init_70 mm_RX3_38 ⟨by decide, by decide⟩ rfl (Nat.le_of_ble_eq_true rfl) (Nat.le_of_ble_eq_true rfl) ⟨by decide, by decide⟩ (I4_32 ?_)
  refine R_aast (t := 4) (ci := 4) dX3_init_73 (by decide) rfl (Nat.le_of_ble_eq_true rfl) (rn_ixe (show (2 : Int32) = nI 2 from rfl)) (by decide) rfl rfl rfl (Nat.le_of_ble_eq_true rfl) ?_
  refine ii_1 (v := 3) dX3_init_74 rfl (by decide) ?_
  refine R_goto (tgt := 55) dX3_init_77 (by decide) ?_
  refine il_1 dX3_init_55 ?_
  refine R_bipush (v := 6) dX3_init_56 (by decide) ?_
  refine R_icmp_ge (tgt := 80) dX3_init_58 (by decide) (fun q => absurd q (by decide)) (fun _ => ?_)
  refine al_0 dX3_init_61 ?_
  refine R_getfr (r := 23) dX3_init_62 fl_RX3_17 rfl rfl (Nat.le_of_ble_eq_true rfl) rfl ?_
  refine il_1 dX3_init_65 ?_
  refine R_new (ci := 4) (κ' := (5, 26)) dX3_init_66 rfl cl_RX3_15 nw_RX4 mz_RX4 (by decide +kernel) rfl (Nat.le_of_ble_eq_true rfl) ⟨by decide, by decide⟩ ?_
  refine R_dup dX3_init_69 rfl ?_
  refine R_callIN (as := []) (κ' := (1, 4)) (κ'' := (4, 22)) dX3_init_70 mm_RX3_38 ⟨by decide, by decide⟩ rfl (Nat.le_of_ble_eq_true rfl) (Nat.le_of_ble_eq_true rfl) ⟨by decide, by decide⟩ (I4_34 ?_)
  refine R_aast (t := 4) (ci := 4) dX3_init_73 (by decide) rfl (Nat.le_of_ble_eq_true rfl) (rn_ixe (show (3 : Int32) = nI 3 from rfl)) (by decide) rfl rfl rfl (Nat.le_of_ble_eq_true rfl) ?_
  refine ii_1 (v := 4) dX3_init_74 rfl (by decide) ?_
  refine R_goto (tgt := 55) dX3_init_77 (by decide) ?_
  refine il_1 dX3_init_55 ?_
  refine R_bipush (v := 6) dX3_init_56 (by decide) ?_
  refine R_icmp_ge (tgt := 80) dX3_init_58 (by decide) (fun q => absurd q (by decide)) (fun _ => ?_)
  refine al_0 dX3_init_61 ?_
  refine R_getfr (r := 23) dX3_init_62 fl_RX3_17 rfl rfl (Nat.le_of_ble_eq_true rfl) rfl ?_
  refine il_1 dX3_init_65 ?_
  refine R_new (ci := 4) (κ' := (3, 15)) dX3_init_66 rfl cl_RX3_15 nw_RX4 mz_RX4 (by decide +kernel) rfl (Nat.le_of_ble_eq_true rfl) ⟨by decide, by decide⟩ ?_
  refine R_dup dX3_init_69 rfl ?_
  refine R_callIN (as := []) (κ' := (1, 4)) (κ'' := (2, 11)) dX3_init_70 mm_RX3_38 ⟨by decide, by decide⟩ rfl (Nat.le_of_ble_eq_true rfl) (Nat.le_of_ble_eq_true rfl) ⟨by decide, by decide⟩ (I4_36 ?_)
  refine R_aast (t := 4) (ci := 4) dX3_init_73 (by decide) rfl (Nat.le_of_ble_eq_true rfl) (rn_ixe (show (4 : Int32) = nI 4 from rfl)) (by decide) rfl rfl rfl (Nat.le_of_ble_eq_true rfl) ?_
  refine ii_1 (v := 5) dX3_init_74 rfl (by decide) ?_
  refine R_goto (tgt := 55) dX3_init_77 (by decide) ?_
  refine il_1 dX3_init_55 ?_
  refine R_bipush (v := 6) dX3_init_56 (by decide) ?_
  refine R_icmp_ge (tgt := 80) dX3_init_58 (by decide) (fun q => absurd q (by decide)) (fun _ => ?_)
  refine al_0 dX3_init_61 ?_
  refine R_getfr (r := 23) dX3_init_62 fl_RX3_17 rfl rfl (Nat.le_of_ble_eq_true rfl) rfl ?_
  refine il_1 dX3_init_65 ?_
  refine R_new (ci := 4) (κ' := (1, 4)) dX3_init_66 rfl cl_RX3_15 nw_RX4 mz_RX4 (by decide +kernel) rfl (Nat.le_of_ble_eq_true rfl) ⟨by decide, by decide⟩ ?_
  refine R_dup dX3_init_69 rfl ?_
  refine R_callIN (as := []) (κ' := (1, 4)) (κ'' := (0, 0)) dX3_init_70 mm_RX3_38 ⟨by decide, by decide⟩ rfl (Nat.le_of_ble_eq_true rfl) (Nat.le_of_ble_eq_true rfl) ⟨by decide, by decide⟩ (I4_38 ?_)
  refine R_aast (t := 4) (ci := 4) dX3_init_73 (by decide) rfl (Nat.le_of_ble_eq_true rfl) (rn_ixe (show (5 : Int32) = nI 5 from rfl)) (by decide) rfl rfl rfl (Nat.le_of_ble_eq_true rfl) ?_
  refine ii_1 (v := 6) dX3_init_74 rfl (by decide) ?_
  refine R_goto (tgt := 55) dX3_init_77 (by decide) ?_
  refine il_1 dX3_init_55 ?_
  refine R_bipush (v := 6) dX3_init_56 (by decide) ?_
  refine R_icmp_ge (tgt := 80) dX3_init_58 (by decide) (fun _ => ?_) (fun q => absurd q (by decide))
  exact R_return dX3_init_80 rfl h

set_option maxHeartbeats 4000000 in
theorem I6_40 {G : rn_G} {d : Nat} {Q : Option Value → rn_S → Prop} {mi : Nat → Nat → Int32} {ml : Nat → Nat → Int64} {rf : Nat → Nat → Nat} (h : Q none ((rn_z (rn_z (rn_z mi 41 0) 42 0) 43 0), (rn_z (rn_z (rn_z ml 41 0) 42 0) 43 0), (rn_u (rn_z (rn_u (rn_z (rn_u (rn_z rf 41 0) 40 0 41) 42 0) 40 1 42) 43 0) 40 2 43), 44)) : Call G (d + 1) M_X6_init [.ref 40, .int 5] (mi, ml, rf, 41) (3, 15) Q := by
  show Run G _ M_X6_init 0 [.ref 40, .int 5] [] _ _ _
  refine al_0 dX6_init_0 ?_
  refine R_objInit dX6_init_1 ob_RX6_1 mi_obj mi_objc ⟨by decide, by decide⟩ (Nat.le_of_ble_eq_true rfl) ?_
  refine al_0 dX6_init_4 ?_
  refine il_1 dX6_init_5 ?_
  refine R_newaI (L := 5) (κ' := (2, 10)) dX6_init_6 mk_int (rn_ixe (show (5 : Int32) = nI 5 from rfl)) (by decide) rfl (Nat.le_of_ble_eq_true rfl) ⟨by decide, by decide⟩ ?_
  refine R_putfr dX6_init_8 fl_RX6_7 rfl (Or.inr ⟨rfl, rfl, rfl⟩) rfl (Nat.le_of_ble_eq_true rfl) ?_
  refine al_0 dX6_init_11 ?_
  refine il_1 dX6_init_12 ?_
  refine R_newaI (L := 5) (κ' := (1, 5)) dX6_init_13 mk_int (rn_ixe (show (5 : Int32) = nI 5 from rfl)) (by decide) rfl (Nat.le_of_ble_eq_true rfl) ⟨by decide, by decide⟩ ?_
  refine R_putfr dX6_init_15 fl_RX6_13 rfl (Or.inr ⟨rfl, rfl, rfl⟩) rfl (Nat.le_of_ble_eq_true rfl) ?_
  refine al_0 dX6_init_18 ?_
  refine il_1 dX6_init_19 ?_
  refine R_newaI (L := 5) (κ' := (0, 0)) dX6_init_20 mk_int (rn_ixe (show (5 : Int32) = nI 5 from rfl)) (by decide) rfl (Nat.le_of_ble_eq_true rfl) ⟨by decide, by decide⟩ ?_
  refine R_putfr dX6_init_22 fl_RX6_16 rfl (Or.inr ⟨rfl, rfl, rfl⟩) rfl (Nat.le_of_ble_eq_true rfl) ?_
  exact R_return dX6_init_25 rfl h

set_option maxHeartbeats 4000000 in
theorem I6_44 {G : rn_G} {d : Nat} {Q : Option Value → rn_S → Prop} {mi : Nat → Nat → Int32} {ml : Nat → Nat → Int64} {rf : Nat → Nat → Nat} (h : Q none ((rn_z (rn_z (rn_z mi 45 0) 46 0) 47 0), (rn_z (rn_z (rn_z ml 45 0) 46 0) 47 0), (rn_u (rn_z (rn_u (rn_z (rn_u (rn_z rf 45 0) 44 0 45) 46 0) 44 1 46) 47 0) 44 2 47), 48)) : Call G (d + 1) M_X6_init [.ref 44, .int 10] (mi, ml, rf, 45) (3, 30) Q := by
  show Run G _ M_X6_init 0 [.ref 44, .int 10] [] _ _ _
  refine al_0 dX6_init_0 ?_
  refine R_objInit dX6_init_1 ob_RX6_1 mi_obj mi_objc ⟨by decide, by decide⟩ (Nat.le_of_ble_eq_true rfl) ?_
  refine al_0 dX6_init_4 ?_
  refine il_1 dX6_init_5 ?_
  refine R_newaI (L := 10) (κ' := (2, 20)) dX6_init_6 mk_int (rn_ixe (show (10 : Int32) = nI 10 from rfl)) (by decide) rfl (Nat.le_of_ble_eq_true rfl) ⟨by decide, by decide⟩ ?_
  refine R_putfr dX6_init_8 fl_RX6_7 rfl (Or.inr ⟨rfl, rfl, rfl⟩) rfl (Nat.le_of_ble_eq_true rfl) ?_
  refine al_0 dX6_init_11 ?_
  refine il_1 dX6_init_12 ?_
  refine R_newaI (L := 10) (κ' := (1, 10)) dX6_init_13 mk_int (rn_ixe (show (10 : Int32) = nI 10 from rfl)) (by decide) rfl (Nat.le_of_ble_eq_true rfl) ⟨by decide, by decide⟩ ?_
  refine R_putfr dX6_init_15 fl_RX6_13 rfl (Or.inr ⟨rfl, rfl, rfl⟩) rfl (Nat.le_of_ble_eq_true rfl) ?_
  refine al_0 dX6_init_18 ?_
  refine il_1 dX6_init_19 ?_
  refine R_newaI (L := 10) (κ' := (0, 0)) dX6_init_20 mk_int (rn_ixe (show (10 : Int32) = nI 10 from rfl)) (by decide) rfl (Nat.le_of_ble_eq_true rfl) ⟨by decide, by decide⟩ ?_
  refine R_putfr dX6_init_22 fl_RX6_16 rfl (Or.inr ⟨rfl, rfl, rfl⟩) rfl (Nat.le_of_ble_eq_true rfl) ?_
  exact R_return dX6_init_25 rfl h

set_option maxHeartbeats 4000000 in
theorem I6_48 {G : rn_G} {d : Nat} {Q : Option Value → rn_S → Prop} {mi : Nat → Nat → Int32} {ml : Nat → Nat → Int64} {rf : Nat → Nat → Nat} (h : Q none ((rn_z (rn_z (rn_z mi 49 0) 50 0) 51 0), (rn_z (rn_z (rn_z ml 49 0) 50 0) 51 0), (rn_u (rn_z (rn_u (rn_z (rn_u (rn_z rf 49 0) 48 0 49) 50 0) 48 1 50) 51 0) 48 2 51), 52)) : Call G (d + 1) M_X6_init [.ref 48, .int 8] (mi, ml, rf, 49) (3, 24) Q := by
  show Run G _ M_X6_init 0 [.ref 48, .int 8] [] _ _ _
  refine al_0 dX6_init_0 ?_
  refine R_objInit dX6_init_1 ob_RX6_1 mi_obj mi_objc ⟨by decide, by decide⟩ (Nat.le_of_ble_eq_true rfl) ?_
  refine al_0 dX6_init_4 ?_
  refine il_1 dX6_init_5 ?_
  refine R_newaI (L := 8) (κ' := (2, 16)) dX6_init_6 mk_int (rn_ixe (show (8 : Int32) = nI 8 from rfl)) (by decide) rfl (Nat.le_of_ble_eq_true rfl) ⟨by decide, by decide⟩ ?_
  refine R_putfr dX6_init_8 fl_RX6_7 rfl (Or.inr ⟨rfl, rfl, rfl⟩) rfl (Nat.le_of_ble_eq_true rfl) ?_
  refine al_0 dX6_init_11 ?_
  refine il_1 dX6_init_12 ?_
  refine R_newaI (L := 8) (κ' := (1, 8)) dX6_init_13 mk_int (rn_ixe (show (8 : Int32) = nI 8 from rfl)) (by decide) rfl (Nat.le_of_ble_eq_true rfl) ⟨by decide, by decide⟩ ?_
  refine R_putfr dX6_init_15 fl_RX6_13 rfl (Or.inr ⟨rfl, rfl, rfl⟩) rfl (Nat.le_of_ble_eq_true rfl) ?_
  refine al_0 dX6_init_18 ?_
  refine il_1 dX6_init_19 ?_
  refine R_newaI (L := 8) (κ' := (0, 0)) dX6_init_20 mk_int (rn_ixe (show (8 : Int32) = nI 8 from rfl)) (by decide) rfl (Nat.le_of_ble_eq_true rfl) ⟨by decide, by decide⟩ ?_
  refine R_putfr dX6_init_22 fl_RX6_16 rfl (Or.inr ⟨rfl, rfl, rfl⟩) rfl (Nat.le_of_ble_eq_true rfl) ?_
  exact R_return dX6_init_25 rfl h

set_option maxHeartbeats 4000000 in
theorem I1_58 {G : rn_G} {d : Nat} {Q : Option Value → rn_S → Prop} {mi : Nat → Nat → Int32} {ml : Nat → Nat → Int64} {rf : Nat → Nat → Nat} (h : Q none ((rn_u (rn_u (rn_z mi 59 0) 58 2 8) 58 3 3), (rn_z ml 59 0), (rn_u (rn_z rf 59 0) 58 0 59), 60)) : Call G (d + 1) M_X1_init [.ref 58] (mi, ml, rf, 59) (1, 100) Q := by
  show Run G _ M_X1_init 0 [.ref 58] [] _ _ _
  refine al_0 dX1_init_0 ?_
  refine R_objInit dX1_init_1 ob_RX1_3 mi_obj mi_objc ⟨by decide, by decide⟩ (Nat.le_of_ble_eq_true rfl) ?_
  refine al_0 dX1_init_4 ?_
  refine R_bipush (v := 100) dX1_init_5 (by decide) ?_
  refine R_newaI (L := 100) (κ' := (0, 0)) dX1_init_7 mk_int (rn_ixe (show (100 : Int32) = nI 100 from rfl)) (by decide) rfl (Nat.le_of_ble_eq_true rfl) ⟨by decide, by decide⟩ ?_
  refine R_putfr dX1_init_9 fl_RX1_9 rfl (Or.inr ⟨rfl, rfl, rfl⟩) rfl (Nat.le_of_ble_eq_true rfl) ?_
  refine al_0 dX1_init_12 ?_
  refine R_bipush (v := 8) dX1_init_13 (by decide) ?_
  refine R_putfi dX1_init_15 fl_RX1_15 rfl (Or.inl rfl) rfl (Nat.le_of_ble_eq_true rfl) rfl rfl ?_
  refine al_0 dX1_init_18 ?_
  refine R_iconst (v := 3) dX1_init_19 (by decide) ?_
  refine R_putfi dX1_init_20 fl_RX1_19 rfl (Or.inl rfl) rfl (Nat.le_of_ble_eq_true rfl) rfl rfl ?_
  exact R_return dX1_init_23 rfl h

set_option maxHeartbeats 4000000 in
theorem I4_60 {G : rn_G} {d : Nat} {Q : Option Value → rn_S → Prop} {mi : Nat → Nat → Int32} {ml : Nat → Nat → Int64} {rf : Nat → Nat → Nat} (h : Q none ((rn_z mi 61 0), (rn_z ml 61 0), (rn_u (rn_z rf 61 0) 60 6 61), 62)) : Call G (d + 1) M_X4_init [.ref 60] (mi, ml, rf, 61) (1, 4) Q := by
  show Run G _ M_X4_init 0 [.ref 60] [] _ _ _
  refine al_0 dX4_init_0 ?_
  refine R_objInit dX4_init_1 ob_RX4_3 mi_obj mi_objc ⟨by decide, by decide⟩ (Nat.le_of_ble_eq_true rfl) ?_
  refine al_0 dX4_init_4 ?_
  refine R_iconst (v := 4) dX4_init_5 (by decide) ?_
  refine R_newaI (L := 4) (κ' := (0, 0)) dX4_init_6 mk_int (rn_ixe (show (4 : Int32) = nI 4 from rfl)) (by decide) rfl (Nat.le_of_ble_eq_true rfl) ⟨by decide, by decide⟩ ?_
  refine R_putfr dX4_init_8 fl_RX4_9 rfl (Or.inr ⟨rfl, rfl, rfl⟩) rfl (Nat.le_of_ble_eq_true rfl) ?_
  exact R_return dX4_init_11 rfl h

set_option maxHeartbeats 4000000 in
theorem I4_62 {G : rn_G} {d : Nat} {Q : Option Value → rn_S → Prop} {mi : Nat → Nat → Int32} {ml : Nat → Nat → Int64} {rf : Nat → Nat → Nat} (h : Q none ((rn_z mi 63 0), (rn_z ml 63 0), (rn_u (rn_z rf 63 0) 62 6 63), 64)) : Call G (d + 1) M_X4_init [.ref 62] (mi, ml, rf, 63) (1, 4) Q := by
  show Run G _ M_X4_init 0 [.ref 62] [] _ _ _
  refine al_0 dX4_init_0 ?_
  refine R_objInit dX4_init_1 ob_RX4_3 mi_obj mi_objc ⟨by decide, by decide⟩ (Nat.le_of_ble_eq_true rfl) ?_
  refine al_0 dX4_init_4 ?_
  refine R_iconst (v := 4) dX4_init_5 (by decide) ?_
  refine R_newaI (L := 4) (κ' := (0, 0)) dX4_init_6 mk_int (rn_ixe (show (4 : Int32) = nI 4 from rfl)) (by decide) rfl (Nat.le_of_ble_eq_true rfl) ⟨by decide, by decide⟩ ?_
  refine R_putfr dX4_init_8 fl_RX4_9 rfl (Or.inr ⟨rfl, rfl, rfl⟩) rfl (Nat.le_of_ble_eq_true rfl) ?_
  exact R_return dX4_init_11 rfl h

set_option maxHeartbeats 4000000 in
theorem I4_64 {G : rn_G} {d : Nat} {Q : Option Value → rn_S → Prop} {mi : Nat → Nat → Int32} {ml : Nat → Nat → Int64} {rf : Nat → Nat → Nat} (h : Q none ((rn_z mi 65 0), (rn_z ml 65 0), (rn_u (rn_z rf 65 0) 64 6 65), 66)) : Call G (d + 1) M_X4_init [.ref 64] (mi, ml, rf, 65) (1, 4) Q := by
  show Run G _ M_X4_init 0 [.ref 64] [] _ _ _
  refine al_0 dX4_init_0 ?_
  refine R_objInit dX4_init_1 ob_RX4_3 mi_obj mi_objc ⟨by decide, by decide⟩ (Nat.le_of_ble_eq_true rfl) ?_
  refine al_0 dX4_init_4 ?_
  refine R_iconst (v := 4) dX4_init_5 (by decide) ?_
  refine R_newaI (L := 4) (κ' := (0, 0)) dX4_init_6 mk_int (rn_ixe (show (4 : Int32) = nI 4 from rfl)) (by decide) rfl (Nat.le_of_ble_eq_true rfl) ⟨by decide, by decide⟩ ?_
  refine R_putfr dX4_init_8 fl_RX4_9 rfl (Or.inr ⟨rfl, rfl, rfl⟩) rfl (Nat.le_of_ble_eq_true rfl) ?_
  exact R_return dX4_init_11 rfl h

set_option maxHeartbeats 4000000 in
theorem I4_66 {G : rn_G} {d : Nat} {Q : Option Value → rn_S → Prop} {mi : Nat → Nat → Int32} {ml : Nat → Nat → Int64} {rf : Nat → Nat → Nat} (h : Q none ((rn_z mi 67 0), (rn_z ml 67 0), (rn_u (rn_z rf 67 0) 66 6 67), 68)) : Call G (d + 1) M_X4_init [.ref 66] (mi, ml, rf, 67) (1, 4) Q := by
  show Run G _ M_X4_init 0 [.ref 66] [] _ _ _
  refine al_0 dX4_init_0 ?_
  refine R_objInit dX4_init_1 ob_RX4_3 mi_obj mi_objc ⟨by decide, by decide⟩ (Nat.le_of_ble_eq_true rfl) ?_
  refine al_0 dX4_init_4 ?_
  refine R_iconst (v := 4) dX4_init_5 (by decide) ?_
  refine R_newaI (L := 4) (κ' := (0, 0)) dX4_init_6 mk_int (rn_ixe (show (4 : Int32) = nI 4 from rfl)) (by decide) rfl (Nat.le_of_ble_eq_true rfl) ⟨by decide, by decide⟩ ?_
  refine R_putfr dX4_init_8 fl_RX4_9 rfl (Or.inr ⟨rfl, rfl, rfl⟩) rfl (Nat.le_of_ble_eq_true rfl) ?_
  exact R_return dX4_init_11 rfl h

set_option maxHeartbeats 4000000 in
theorem I4_68 {G : rn_G} {d : Nat} {Q : Option Value → rn_S → Prop} {mi : Nat → Nat → Int32} {ml : Nat → Nat → Int64} {rf : Nat → Nat → Nat} (h : Q none ((rn_z mi 69 0), (rn_z ml 69 0), (rn_u (rn_z rf 69 0) 68 6 69), 70)) : Call G (d + 1) M_X4_init [.ref 68] (mi, ml, rf, 69) (1, 4) Q := by
  show Run G _ M_X4_init 0 [.ref 68] [] _ _ _
  refine al_0 dX4_init_0 ?_
  refine R_objInit dX4_init_1 ob_RX4_3 mi_obj mi_objc ⟨by decide, by decide⟩ (Nat.le_of_ble_eq_true rfl) ?_
  refine al_0 dX4_init_4 ?_
  refine R_iconst (v := 4) dX4_init_5 (by decide) ?_
  refine R_newaI (L := 4) (κ' := (0, 0)) dX4_init_6 mk_int (rn_ixe (show (4 : Int32) = nI 4 from rfl)) (by decide) rfl (Nat.le_of_ble_eq_true rfl) ⟨by decide, by decide⟩ ?_
  refine R_putfr dX4_init_8 fl_RX4_9 rfl (Or.inr ⟨rfl, rfl, rfl⟩) rfl (Nat.le_of_ble_eq_true rfl) ?_
  exact R_return dX4_init_11 rfl h

set_option maxHeartbeats 4000000 in
theorem I4_70 {G : rn_G} {d : Nat} {Q : Option Value → rn_S → Prop} {mi : Nat → Nat → Int32} {ml : Nat → Nat → Int64} {rf : Nat → Nat → Nat} (h : Q none ((rn_z mi 71 0), (rn_z ml 71 0), (rn_u (rn_z rf 71 0) 70 6 71), 72)) : Call G (d + 1) M_X4_init [.ref 70] (mi, ml, rf, 71) (1, 4) Q := by
  show Run G _ M_X4_init 0 [.ref 70] [] _ _ _
  refine al_0 dX4_init_0 ?_
  refine R_objInit dX4_init_1 ob_RX4_3 mi_obj mi_objc ⟨by decide, by decide⟩ (Nat.le_of_ble_eq_true rfl) ?_
  refine al_0 dX4_init_4 ?_
  refine R_iconst (v := 4) dX4_init_5 (by decide) ?_
  refine R_newaI (L := 4) (κ' := (0, 0)) dX4_init_6 mk_int (rn_ixe (show (4 : Int32) = nI 4 from rfl)) (by decide) rfl (Nat.le_of_ble_eq_true rfl) ⟨by decide, by decide⟩ ?_
  refine R_putfr dX4_init_8 fl_RX4_9 rfl (Or.inr ⟨rfl, rfl, rfl⟩) rfl (Nat.le_of_ble_eq_true rfl) ?_
  exact R_return dX4_init_11 rfl h

set_option maxHeartbeats 4000000 in
theorem I3_53 {G : rn_G} {d : Nat} {Q : Option Value → rn_S → Prop} {mi : Nat → Nat → Int32} {ml : Nat → Nat → Int64} {rf : Nat → Nat → Nat} (h : Q none ((rn_z (rn_z (rn_z (rn_z (rn_z (rn_z (rn_z (rn_z (rn_z (rn_z (rn_z (rn_z (rn_u (rn_u (rn_u (rn_z (rn_z (rn_z (rn_z (rn_z (rn_z mi 54 0) 55 0) 56 0) 57 0) 58 0) 59 0) 58 2 8) 58 3 3) 53 14 (-1)) 60 0) 61 0) 62 0) 63 0) 64 0) 65 0) 66 0) 67 0) 68 0) 69 0) 70 0) 71 0), (rn_z (rn_z (rn_z (rn_z (rn_z (rn_z (rn_z (rn_z (rn_z (rn_z (rn_z (rn_z (rn_z (rn_z (rn_z (rn_z (rn_z (rn_z ml 54 0) 55 0) 56 0) 57 0) 58 0) 59 0) 60 0) 61 0) 62 0) 63 0) 64 0) 65 0) 66 0) 67 0) 68 0) 69 0) 70 0) 71 0), (rn_u (rn_u (rn_z (rn_z (rn_u (rn_u (rn_z (rn_z (rn_u (rn_u (rn_z (rn_z (rn_u (rn_u (rn_z (rn_z (rn_u (rn_u (rn_z (rn_z (rn_u (rn_u (rn_z (rn_z (rn_u (rn_u (rn_z (rn_z (rn_u (rn_z (rn_u (rn_z (rn_u (rn_z (rn_u (rn_z rf 54 0) 53 0 54) 55 0) 53 1 55) 56 0) 53 2 56) 57 0) 53 3 57) 58 0) 59 0) 58 0 59) 53 11 58) 60 0) 61 0) 60 6 61) 55 0 60) 62 0) 63 0) 62 6 63) 55 1 62) 64 0) 65 0) 64 6 65) 55 2 64) 66 0) 67 0) 66 6 67) 55 3 66) 68 0) 69 0) 68 6 69) 55 4 68) 70 0) 71 0) 70 6 71) 55 5 70), 72)) : Call G (d + 2) M_X3_init [.ref 53] (mi, ml, rf, 54) (18, 194) Q := by
  show Run G _ M_X3_init 0 [.ref 53, .null] [] _ _ _
  refine al_0 dX3_init_0 ?_
  refine R_objInit dX3_init_1 ob_RX3_3 mi_obj mi_objc ⟨by decide, by decide⟩ (Nat.le_of_ble_eq_true rfl) ?_
  refine al_0 dX3_init_4 ?_
  refine R_bipush (v := 6) dX3_init_5 (by decide) ?_
  refine R_newaI (L := 6) (κ' := (17, 188)) dX3_init_7 mk_int (rn_ixe (show (6 : Int32) = nI 6 from rfl)) (by decide) rfl (Nat.le_of_ble_eq_true rfl) ⟨by decide, by decide⟩ ?_
  refine R_putfr dX3_init_9 fl_RX3_9 rfl (Or.inr ⟨rfl, rfl, rfl⟩) rfl (Nat.le_of_ble_eq_true rfl) ?_
  refine al_0 dX3_init_12 ?_
  refine R_bipush (v := 6) dX3_init_13 (by decide) ?_
  refine R_newq (t := 4) (L := 6) (κ' := (16, 182)) dX3_init_15 (by decide) cl_RX3_15 (rn_ixe (show (6 : Int32) = nI 6 from rfl)) (by decide) rfl (Nat.le_of_ble_eq_true rfl) ⟨by decide, by decide⟩ ?_
  refine R_putfr dX3_init_18 fl_RX3_17 rfl (Or.inr ⟨rfl, rfl, rfl⟩) rfl (Nat.le_of_ble_eq_true rfl) ?_
  refine al_0 dX3_init_21 ?_
  refine R_bipush (v := 6) dX3_init_22 (by decide) ?_
  refine R_newaI (L := 6) (κ' := (15, 176)) dX3_init_24 mk_int (rn_ixe (show (6 : Int32) = nI 6 from rfl)) (by decide) rfl (Nat.le_of_ble_eq_true rfl) ⟨by decide, by decide⟩ ?_
  refine R_putfr dX3_init_26 fl_RX3_21 rfl (Or.inr ⟨rfl, rfl, rfl⟩) rfl (Nat.le_of_ble_eq_true rfl) ?_
  refine al_0 dX3_init_29 ?_
  refine R_bipush (v := 6) dX3_init_30 (by decide) ?_
  refine R_newaI (L := 6) (κ' := (14, 170)) dX3_init_32 mk_int (rn_ixe (show (6 : Int32) = nI 6 from rfl)) (by decide) rfl (Nat.le_of_ble_eq_true rfl) ⟨by decide, by decide⟩ ?_
  refine R_putfr dX3_init_34 fl_RX3_26 rfl (Or.inr ⟨rfl, rfl, rfl⟩) rfl (Nat.le_of_ble_eq_true rfl) ?_
  refine al_0 dX3_init_37 ?_
  refine R_new (ci := 1) (κ' := (13, 166)) dX3_init_38 rfl cl_RX3_24 nw_RX1 mz_RX1 (by decide +kernel) rfl (Nat.le_of_ble_eq_true rfl) ⟨by decide, by decide⟩ ?_
  refine R_dup dX3_init_41 rfl ?_
  refine R_callIN (as := []) (κ' := (1, 100)) (κ'' := (12, 66)) dX3_init_42 mm_RX3_29 ⟨by decide, by decide⟩ rfl (Nat.le_of_ble_eq_true rfl) (Nat.le_of_ble_eq_true rfl) ⟨by decide, by decide⟩ (I1_58 ?_)
  refine R_putfr dX3_init_45 fl_RX3_30 rfl (Or.inl rfl) rfl (Nat.le_of_ble_eq_true rfl) ?_
  refine al_0 dX3_init_48 ?_
  refine R_iconst (v := -1) dX3_init_49 (by decide) ?_
  refine R_putfi dX3_init_50 fl_RX3_34 rfl (Or.inl rfl) rfl (Nat.le_of_ble_eq_true rfl) rfl rfl ?_
  refine R_iconst (v := 0) dX3_init_53 (by decide) ?_
  refine is_1 dX3_init_54 rfl ?_
  refine il_1 dX3_init_55 ?_
  refine R_bipush (v := 6) dX3_init_56 (by decide) ?_
  refine R_icmp_ge (tgt := 80) dX3_init_58 (by decide) (fun q => absurd q (by decide)) (fun _ => ?_)
  refine al_0 dX3_init_61 ?_
  refine R_getfr (r := 55) dX3_init_62 fl_RX3_17 rfl rfl (Nat.le_of_ble_eq_true rfl) rfl ?_
  refine il_1 dX3_init_65 ?_
  refine R_new (ci := 4) (κ' := (11, 59)) dX3_init_66 rfl cl_RX3_15 nw_RX4 mz_RX4 (by decide +kernel) rfl (Nat.le_of_ble_eq_true rfl) ⟨by decide, by decide⟩ ?_
  refine R_dup dX3_init_69 rfl ?_
  refine R_callIN (as := []) (κ' := (1, 4)) (κ'' := (10, 55)) dX3_init_70 mm_RX3_38 ⟨by decide, by decide⟩ rfl (Nat.le_of_ble_eq_true rfl) (Nat.le_of_ble_eq_true rfl) ⟨by decide, by decide⟩ (I4_60 ?_)
  refine R_aast (t := 4) (ci := 4) dX3_init_73 (by decide) rfl (Nat.le_of_ble_eq_true rfl) (rn_ixe (show (0 : Int32) = nI 0 from rfl)) (by decide) rfl rfl rfl (Nat.le_of_ble_eq_true rfl) ?_
  refine ii_1 (v := 1) dX3_init_74 rfl (by decide) ?_
  refine R_goto (tgt := 55) dX3_init_77 (by decide) ?_
  refine il_1 dX3_init_55 ?_
  refine R_bipush (v := 6) dX3_init_56 (by decide) ?_
  refine R_icmp_ge (tgt := 80) dX3_init_58 (by decide) (fun q => absurd q (by decide)) (fun _ => ?_)
  refine al_0 dX3_init_61 ?_
  refine R_getfr (r := 55) dX3_init_62 fl_RX3_17 rfl rfl (Nat.le_of_ble_eq_true rfl) rfl ?_
  refine il_1 dX3_init_65 ?_
  refine R_new (ci := 4) (κ' := (9, 48)) dX3_init_66 rfl cl_RX3_15 nw_RX4 mz_RX4 (by decide +kernel) rfl (Nat.le_of_ble_eq_true rfl) ⟨by decide, by decide⟩ ?_
  refine R_dup dX3_init_69 rfl ?_
  refine R_callIN (as := []) (κ' := (1, 4)) (κ'' := (8, 44)) dX3_init_70 mm_RX3_38 ⟨by decide, by decide⟩ rfl (Nat.le_of_ble_eq_true rfl) (Nat.le_of_ble_eq_true rfl) ⟨by decide, by decide⟩ (I4_62 ?_)
  refine R_aast (t := 4) (ci := 4) dX3_init_73 (by decide) rfl (Nat.le_of_ble_eq_true rfl) (rn_ixe (show (1 : Int32) = nI 1 from rfl)) (by decide) rfl rfl rfl (Nat.le_of_ble_eq_true rfl) ?_
  refine ii_1 (v := 2) dX3_init_74 rfl (by decide) ?_
  refine R_goto (tgt := 55) dX3_init_77 (by decide) ?_
  refine il_1 dX3_init_55 ?_
  refine R_bipush (v := 6) dX3_init_56 (by decide) ?_
  refine R_icmp_ge (tgt := 80) dX3_init_58 (by decide) (fun q => absurd q (by decide)) (fun _ => ?_)
  refine al_0 dX3_init_61 ?_
  refine R_getfr (r := 55) dX3_init_62 fl_RX3_17 rfl rfl (Nat.le_of_ble_eq_true rfl) rfl ?_
  refine il_1 dX3_init_65 ?_
  refine R_new (ci := 4) (κ' := (7, 37)) dX3_init_66 rfl cl_RX3_15 nw_RX4 mz_RX4 (by decide +kernel) rfl (Nat.le_of_ble_eq_true rfl) ⟨by decide, by decide⟩ ?_
  refine R_dup dX3_init_69 rfl ?_
  refine R_callIN (as := []) (κ' := (1, 4)) (κ'' := (6, 33)) dX3_init_70 mm_RX3_38 ⟨by decide, by decide⟩ rfl (Nat.le_of_ble_eq_true rfl) (Nat.le_of_ble_eq_true rfl) ⟨by decide, by decide⟩ (I4_64 ?_)
  refine R_aast (t := 4) (ci := 4) dX3_init_73 (by decide) rfl (Nat.le_of_ble_eq_true rfl) (rn_ixe (show (2 : Int32) = nI 2 from rfl)) (by decide) rfl rfl rfl (Nat.le_of_ble_eq_true rfl) ?_
  refine ii_1 (v := 3) dX3_init_74 rfl (by decide) ?_
  refine R_goto (tgt := 55) dX3_init_77 (by decide) ?_
  refine il_1 dX3_init_55 ?_
  refine R_bipush (v := 6) dX3_init_56 (by decide) ?_
  refine R_icmp_ge (tgt := 80) dX3_init_58 (by decide) (fun q => absurd q (by decide)) (fun _ => ?_)
  refine al_0 dX3_init_61 ?_
  refine R_getfr (r := 55) dX3_init_62 fl_RX3_17 rfl rfl (Nat.le_of_ble_eq_true rfl) rfl ?_
  refine il_1 dX3_init_65 ?_
  refine R_new (ci := 4) (κ' := (5, 26)) dX3_init_66 rfl cl_RX3_15 nw_RX4 mz_RX4 (by decide +kernel) rfl (Nat.le_of_ble_eq_true rfl) ⟨by decide, by decide⟩ ?_
  refine R_dup dX3_init_69 rfl ?_
  refine R_callIN (as := []) (κ' := (1, 4)) (κ'' := (4, 22)) dX3_init_70 mm_RX3_38 ⟨by decide, by decide⟩ rfl (Nat.le_of_ble_eq_true rfl) (Nat.le_of_ble_eq_true rfl) ⟨by decide, by decide⟩ (I4_66 ?_)
  refine R_aast (t := 4) (ci := 4) dX3_init_73 (by decide) rfl (Nat.le_of_ble_eq_true rfl) (rn_ixe (show (3 : Int32) = nI 3 from rfl)) (by decide) rfl rfl rfl (Nat.le_of_ble_eq_true rfl) ?_
  refine ii_1 (v := 4) dX3_init_74 rfl (by decide) ?_
  refine R_goto (tgt := 55) dX3_init_77 (by decide) ?_
  refine il_1 dX3_init_55 ?_
  refine R_bipush (v := 6) dX3_init_56 (by decide) ?_
  refine R_icmp_ge (tgt := 80) dX3_init_58 (by decide) (fun q => absurd q (by decide)) (fun _ => ?_)
  refine al_0 dX3_init_61 ?_
  refine R_getfr (r := 55) dX3_init_62 fl_RX3_17 rfl rfl (Nat.le_of_ble_eq_true rfl) rfl ?_
  refine il_1 dX3_init_65 ?_
  refine R_new (ci := 4) (κ' := (3, 15)) dX3_init_66 rfl cl_RX3_15 nw_RX4 mz_RX4 (by decide +kernel) rfl (Nat.le_of_ble_eq_true rfl) ⟨by decide, by decide⟩ ?_
  refine R_dup dX3_init_69 rfl ?_
  refine R_callIN (as := []) (κ' := (1, 4)) (κ'' := (2, 11)) dX3_init_70 mm_RX3_38 ⟨by decide, by decide⟩ rfl (Nat.le_of_ble_eq_true rfl) (Nat.le_of_ble_eq_true rfl) ⟨by decide, by decide⟩ (I4_68 ?_)
  refine R_aast (t := 4) (ci := 4) dX3_init_73 (by decide) rfl (Nat.le_of_ble_eq_true rfl) (rn_ixe (show (4 : Int32) = nI 4 from rfl)) (by decide) rfl rfl rfl (Nat.le_of_ble_eq_true rfl) ?_
  refine ii_1 (v := 5) dX3_init_74 rfl (by decide) ?_
  refine R_goto (tgt := 55) dX3_init_77 (by decide) ?_
  refine il_1 dX3_init_55 ?_
  refine R_bipush (v := 6) dX3_init_56 (by decide) ?_
  refine R_icmp_ge (tgt := 80) dX3_init_58 (by decide) (fun q => absurd q (by decide)) (fun _ => ?_)
  refine al_0 dX3_init_61 ?_
  refine R_getfr (r := 55) dX3_init_62 fl_RX3_17 rfl rfl (Nat.le_of_ble_eq_true rfl) rfl ?_
  refine il_1 dX3_init_65 ?_
  refine R_new (ci := 4) (κ' := (1, 4)) dX3_init_66 rfl cl_RX3_15 nw_RX4 mz_RX4 (by decide +kernel) rfl (Nat.le_of_ble_eq_true rfl) ⟨by decide, by decide⟩ ?_
  refine R_dup dX3_init_69 rfl ?_
  refine R_callIN (as := []) (κ' := (1, 4)) (κ'' := (0, 0)) dX3_init_70 mm_RX3_38 ⟨by decide, by decide⟩ rfl (Nat.le_of_ble_eq_true rfl) (Nat.le_of_ble_eq_true rfl) ⟨by decide, by decide⟩ (I4_70 ?_)
  refine R_aast (t := 4) (ci := 4) dX3_init_73 (by decide) rfl (Nat.le_of_ble_eq_true rfl) (rn_ixe (show (5 : Int32) = nI 5 from rfl)) (by decide) rfl rfl rfl (Nat.le_of_ble_eq_true rfl) ?_
  refine ii_1 (v := 6) dX3_init_74 rfl (by decide) ?_
  refine R_goto (tgt := 55) dX3_init_77 (by decide) ?_
  refine il_1 dX3_init_55 ?_
  refine R_bipush (v := 6) dX3_init_56 (by decide) ?_
  refine R_icmp_ge (tgt := 80) dX3_init_58 (by decide) (fun _ => ?_) (fun q => absurd q (by decide))
  exact R_return dX3_init_80 rfl h

set_option maxHeartbeats 4000000 in
theorem I6_72 {G : rn_G} {d : Nat} {Q : Option Value → rn_S → Prop} {mi : Nat → Nat → Int32} {ml : Nat → Nat → Int64} {rf : Nat → Nat → Nat} (h : Q none ((rn_z (rn_z (rn_z mi 73 0) 74 0) 75 0), (rn_z (rn_z (rn_z ml 73 0) 74 0) 75 0), (rn_u (rn_z (rn_u (rn_z (rn_u (rn_z rf 73 0) 72 0 73) 74 0) 72 1 74) 75 0) 72 2 75), 76)) : Call G (d + 1) M_X6_init [.ref 72, .int 5] (mi, ml, rf, 73) (3, 15) Q := by
  show Run G _ M_X6_init 0 [.ref 72, .int 5] [] _ _ _
  refine al_0 dX6_init_0 ?_
  refine R_objInit dX6_init_1 ob_RX6_1 mi_obj mi_objc ⟨by decide, by decide⟩ (Nat.le_of_ble_eq_true rfl) ?_
  refine al_0 dX6_init_4 ?_
  refine il_1 dX6_init_5 ?_
  refine R_newaI (L := 5) (κ' := (2, 10)) dX6_init_6 mk_int (rn_ixe (show (5 : Int32) = nI 5 from rfl)) (by decide) rfl (Nat.le_of_ble_eq_true rfl) ⟨by decide, by decide⟩ ?_
  refine R_putfr dX6_init_8 fl_RX6_7 rfl (Or.inr ⟨rfl, rfl, rfl⟩) rfl (Nat.le_of_ble_eq_true rfl) ?_
  refine al_0 dX6_init_11 ?_
  refine il_1 dX6_init_12 ?_
  refine R_newaI (L := 5) (κ' := (1, 5)) dX6_init_13 mk_int (rn_ixe (show (5 : Int32) = nI 5 from rfl)) (by decide) rfl (Nat.le_of_ble_eq_true rfl) ⟨by decide, by decide⟩ ?_
  refine R_putfr dX6_init_15 fl_RX6_13 rfl (Or.inr ⟨rfl, rfl, rfl⟩) rfl (Nat.le_of_ble_eq_true rfl) ?_
  refine al_0 dX6_init_18 ?_
  refine il_1 dX6_init_19 ?_
  refine R_newaI (L := 5) (κ' := (0, 0)) dX6_init_20 mk_int (rn_ixe (show (5 : Int32) = nI 5 from rfl)) (by decide) rfl (Nat.le_of_ble_eq_true rfl) ⟨by decide, by decide⟩ ?_
  refine R_putfr dX6_init_22 fl_RX6_16 rfl (Or.inr ⟨rfl, rfl, rfl⟩) rfl (Nat.le_of_ble_eq_true rfl) ?_
  exact R_return dX6_init_25 rfl h

set_option maxHeartbeats 4000000 in
theorem I6_76 {G : rn_G} {d : Nat} {Q : Option Value → rn_S → Prop} {mi : Nat → Nat → Int32} {ml : Nat → Nat → Int64} {rf : Nat → Nat → Nat} (h : Q none ((rn_z (rn_z (rn_z mi 77 0) 78 0) 79 0), (rn_z (rn_z (rn_z ml 77 0) 78 0) 79 0), (rn_u (rn_z (rn_u (rn_z (rn_u (rn_z rf 77 0) 76 0 77) 78 0) 76 1 78) 79 0) 76 2 79), 80)) : Call G (d + 1) M_X6_init [.ref 76, .int 10] (mi, ml, rf, 77) (3, 30) Q := by
  show Run G _ M_X6_init 0 [.ref 76, .int 10] [] _ _ _
  refine al_0 dX6_init_0 ?_
  refine R_objInit dX6_init_1 ob_RX6_1 mi_obj mi_objc ⟨by decide, by decide⟩ (Nat.le_of_ble_eq_true rfl) ?_
  refine al_0 dX6_init_4 ?_
  refine il_1 dX6_init_5 ?_
  refine R_newaI (L := 10) (κ' := (2, 20)) dX6_init_6 mk_int (rn_ixe (show (10 : Int32) = nI 10 from rfl)) (by decide) rfl (Nat.le_of_ble_eq_true rfl) ⟨by decide, by decide⟩ ?_
  refine R_putfr dX6_init_8 fl_RX6_7 rfl (Or.inr ⟨rfl, rfl, rfl⟩) rfl (Nat.le_of_ble_eq_true rfl) ?_
  refine al_0 dX6_init_11 ?_
  refine il_1 dX6_init_12 ?_
  refine R_newaI (L := 10) (κ' := (1, 10)) dX6_init_13 mk_int (rn_ixe (show (10 : Int32) = nI 10 from rfl)) (by decide) rfl (Nat.le_of_ble_eq_true rfl) ⟨by decide, by decide⟩ ?_
  refine R_putfr dX6_init_15 fl_RX6_13 rfl (Or.inr ⟨rfl, rfl, rfl⟩) rfl (Nat.le_of_ble_eq_true rfl) ?_
  refine al_0 dX6_init_18 ?_
  refine il_1 dX6_init_19 ?_
  refine R_newaI (L := 10) (κ' := (0, 0)) dX6_init_20 mk_int (rn_ixe (show (10 : Int32) = nI 10 from rfl)) (by decide) rfl (Nat.le_of_ble_eq_true rfl) ⟨by decide, by decide⟩ ?_
  refine R_putfr dX6_init_22 fl_RX6_16 rfl (Or.inr ⟨rfl, rfl, rfl⟩) rfl (Nat.le_of_ble_eq_true rfl) ?_
  exact R_return dX6_init_25 rfl h

set_option maxHeartbeats 4000000 in
theorem I6_80 {G : rn_G} {d : Nat} {Q : Option Value → rn_S → Prop} {mi : Nat → Nat → Int32} {ml : Nat → Nat → Int64} {rf : Nat → Nat → Nat} (h : Q none ((rn_z (rn_z (rn_z mi 81 0) 82 0) 83 0), (rn_z (rn_z (rn_z ml 81 0) 82 0) 83 0), (rn_u (rn_z (rn_u (rn_z (rn_u (rn_z rf 81 0) 80 0 81) 82 0) 80 1 82) 83 0) 80 2 83), 84)) : Call G (d + 1) M_X6_init [.ref 80, .int 8] (mi, ml, rf, 81) (3, 24) Q := by
  show Run G _ M_X6_init 0 [.ref 80, .int 8] [] _ _ _
  refine al_0 dX6_init_0 ?_
  refine R_objInit dX6_init_1 ob_RX6_1 mi_obj mi_objc ⟨by decide, by decide⟩ (Nat.le_of_ble_eq_true rfl) ?_
  refine al_0 dX6_init_4 ?_
  refine il_1 dX6_init_5 ?_
  refine R_newaI (L := 8) (κ' := (2, 16)) dX6_init_6 mk_int (rn_ixe (show (8 : Int32) = nI 8 from rfl)) (by decide) rfl (Nat.le_of_ble_eq_true rfl) ⟨by decide, by decide⟩ ?_
  refine R_putfr dX6_init_8 fl_RX6_7 rfl (Or.inr ⟨rfl, rfl, rfl⟩) rfl (Nat.le_of_ble_eq_true rfl) ?_
  refine al_0 dX6_init_11 ?_
  refine il_1 dX6_init_12 ?_
  refine R_newaI (L := 8) (κ' := (1, 8)) dX6_init_13 mk_int (rn_ixe (show (8 : Int32) = nI 8 from rfl)) (by decide) rfl (Nat.le_of_ble_eq_true rfl) ⟨by decide, by decide⟩ ?_
  refine R_putfr dX6_init_15 fl_RX6_13 rfl (Or.inr ⟨rfl, rfl, rfl⟩) rfl (Nat.le_of_ble_eq_true rfl) ?_
  refine al_0 dX6_init_18 ?_
  refine il_1 dX6_init_19 ?_
  refine R_newaI (L := 8) (κ' := (0, 0)) dX6_init_20 mk_int (rn_ixe (show (8 : Int32) = nI 8 from rfl)) (by decide) rfl (Nat.le_of_ble_eq_true rfl) ⟨by decide, by decide⟩ ?_
  refine R_putfr dX6_init_22 fl_RX6_16 rfl (Or.inr ⟨rfl, rfl, rfl⟩) rfl (Nat.le_of_ble_eq_true rfl) ?_
  exact R_return dX6_init_25 rfl h

set_option maxHeartbeats 4000000 in
theorem I2_52 {G : rn_G} {d : Nat} {Q : Option Value → rn_S → Prop} {mi : Nat → Nat → Int32} {ml : Nat → Nat → Int64} {rf : Nat → Nat → Nat} (h : Q none ((rn_z (rn_z (rn_z (rn_z (rn_z (rn_z (rn_z (rn_z (rn_z (rn_z (rn_z (rn_z (rn_z (rn_z (rn_z (rn_z (rn_z (rn_z (rn_z (rn_z (rn_z (rn_z (rn_z (rn_z (rn_u (rn_u (rn_u (rn_z (rn_z (rn_z (rn_z (rn_z (rn_z (rn_z mi 53 0) 54 0) 55 0) 56 0) 57 0) 58 0) 59 0) 58 2 8) 58 3 3) 53 14 (-1)) 60 0) 61 0) 62 0) 63 0) 64 0) 65 0) 66 0) 67 0) 68 0) 69 0) 70 0) 71 0) 72 0) 73 0) 74 0) 75 0) 76 0) 77 0) 78 0) 79 0) 80 0) 81 0) 82 0) 83 0), (rn_z (rn_z (rn_z (rn_z (rn_z (rn_z (rn_z (rn_z (rn_z (rn_z (rn_z (rn_z (rn_z (rn_z (rn_z (rn_z (rn_z (rn_z (rn_z (rn_z (rn_z (rn_z (rn_z (rn_z (rn_z (rn_z (rn_z (rn_z (rn_z (rn_z (rn_z ml 53 0) 54 0) 55 0) 56 0) 57 0) 58 0) 59 0) 60 0) 61 0) 62 0) 63 0) 64 0) 65 0) 66 0) 67 0) 68 0) 69 0) 70 0) 71 0) 72 0) 73 0) 74 0) 75 0) 76 0) 77 0) 78 0) 79 0) 80 0) 81 0) 82 0) 83 0), (rn_u (rn_u (rn_z (rn_u (rn_z (rn_u (rn_z (rn_z (rn_u (rn_u (rn_z (rn_u (rn_z (rn_u (rn_z (rn_z (rn_u (rn_u (rn_z (rn_u (rn_z (rn_u (rn_z (rn_z (rn_u (rn_u (rn_u (rn_z (rn_z (rn_u (rn_u (rn_z (rn_z (rn_u (rn_u (rn_z (rn_z (rn_u (rn_u (rn_z (rn_z (rn_u (rn_u (rn_z (rn_z (rn_u (rn_u (rn_z (rn_z (rn_u (rn_u (rn_z (rn_z (rn_u (rn_z (rn_u (rn_z (rn_u (rn_z (rn_u (rn_z (rn_z rf 53 0) 54 0) 53 0 54) 55 0) 53 1 55) 56 0) 53 2 56) 57 0) 53 3 57) 58 0) 59 0) 58 0 59) 53 11 58) 60 0) 61 0) 60 6 61) 55 0 60) 62 0) 63 0) 62 6 63) 55 1 62) 64 0) 65 0) 64 6 65) 55 2 64) 66 0) 67 0) 66 6 67) 55 3 66) 68 0) 69 0) 68 6 69) 55 4 68) 70 0) 71 0) 70 6 71) 55 5 70) 52 0 53) 72 0) 73 0) 72 0 73) 74 0) 72 1 74) 75 0) 72 2 75) 52 1 72) 76 0) 77 0) 76 0 77) 78 0) 76 1 78) 79 0) 76 2 79) 52 2 76) 80 0) 81 0) 80 0 81) 82 0) 80 1 82) 83 0) 80 2 83) 52 3 80), 84)) : Call G (d + 3) M_X2_init [.ref 52] (mi, ml, rf, 53) (31, 290) Q := by
  show Run G _ M_X2_init 0 [.ref 52] [] _ _ _
  refine al_0 dX2_init_0 ?_
  refine R_objInit dX2_init_1 ob_RX2_3 mi_obj mi_objc ⟨by decide, by decide⟩ (Nat.le_of_ble_eq_true rfl) ?_
  refine al_0 dX2_init_4 ?_
  refine R_new (ci := 3) (κ' := (30, 275)) dX2_init_5 rfl cl_RX2_9 nw_RX3 mz_RX3 (by decide +kernel) rfl (Nat.le_of_ble_eq_true rfl) ⟨by decide, by decide⟩ ?_
  refine R_dup dX2_init_8 rfl ?_
  refine R_callI (as := []) (κ' := (18, 194)) (κ'' := (12, 81)) dX2_init_9 mm_RX2_11 ⟨by decide, by decide⟩ rfl (Nat.le_of_ble_eq_true rfl) (Nat.le_of_ble_eq_true rfl) ⟨by decide, by decide⟩ (I3_53 ?_)
  refine R_putfr dX2_init_12 fl_RX2_12 rfl (Or.inr ⟨rfl, rfl, rfl⟩) rfl (Nat.le_of_ble_eq_true rfl) ?_
  refine al_0 dX2_init_15 ?_
  refine R_new (ci := 6) (κ' := (11, 77)) dX2_init_16 rfl cl_RX2_18 nw_RX6 mz_RX6 (by decide +kernel) rfl (Nat.le_of_ble_eq_true rfl) ⟨by decide, by decide⟩ ?_
  refine R_dup dX2_init_19 rfl ?_
  refine R_iconst (v := 5) dX2_init_20 (by decide) ?_
  refine R_callI (as := [.int 5]) (κ' := (3, 15)) (κ'' := (8, 62)) dX2_init_21 mm_RX2_20 ⟨by decide, by decide⟩ rfl (Nat.le_of_ble_eq_true rfl) (Nat.le_of_ble_eq_true rfl) ⟨by decide, by decide⟩ (I6_72 ?_)
  refine R_putfr dX2_init_24 fl_RX2_23 rfl (Or.inr ⟨rfl, rfl, rfl⟩) rfl (Nat.le_of_ble_eq_true rfl) ?_
  refine al_0 dX2_init_27 ?_
  refine R_new (ci := 6) (κ' := (7, 58)) dX2_init_28 rfl cl_RX2_18 nw_RX6 mz_RX6 (by decide +kernel) rfl (Nat.le_of_ble_eq_true rfl) ⟨by decide, by decide⟩ ?_
  refine R_dup dX2_init_31 rfl ?_
  refine R_bipush (v := 10) dX2_init_32 (by decide) ?_
  refine R_callI (as := [.int 10]) (κ' := (3, 30)) (κ'' := (4, 28)) dX2_init_34 mm_RX2_20 ⟨by decide, by decide⟩ rfl (Nat.le_of_ble_eq_true rfl) (Nat.le_of_ble_eq_true rfl) ⟨by decide, by decide⟩ (I6_76 ?_)
  refine R_putfr dX2_init_37 fl_RX2_27 rfl (Or.inr ⟨rfl, rfl, rfl⟩) rfl (Nat.le_of_ble_eq_true rfl) ?_
  refine al_0 dX2_init_40 ?_
  refine R_new (ci := 6) (κ' := (3, 24)) dX2_init_41 rfl cl_RX2_18 nw_RX6 mz_RX6 (by decide +kernel) rfl (Nat.le_of_ble_eq_true rfl) ⟨by decide, by decide⟩ ?_
  refine R_dup dX2_init_44 rfl ?_
  refine R_bipush (v := 8) dX2_init_45 (by decide) ?_
  refine R_callI (as := [.int 8]) (κ' := (3, 24)) (κ'' := (0, 0)) dX2_init_47 mm_RX2_20 ⟨by decide, by decide⟩ rfl (Nat.le_of_ble_eq_true rfl) (Nat.le_of_ble_eq_true rfl) ⟨by decide, by decide⟩ (I6_80 ?_)
  refine R_putfr dX2_init_50 fl_RX2_30 rfl (Or.inr ⟨rfl, rfl, rfl⟩) rfl (Nat.le_of_ble_eq_true rfl) ?_
  exact R_return dX2_init_53 rfl h

set_option maxHeartbeats 4000000 in
theorem I1_86 {G : rn_G} {d : Nat} {Q : Option Value → rn_S → Prop} {mi : Nat → Nat → Int32} {ml : Nat → Nat → Int64} {rf : Nat → Nat → Nat} (h : Q none ((rn_u (rn_u (rn_z mi 87 0) 86 2 8) 86 3 3), (rn_z ml 87 0), (rn_u (rn_z rf 87 0) 86 0 87), 88)) : Call G (d + 1) M_X1_init [.ref 86] (mi, ml, rf, 87) (1, 100) Q := by
  show Run G _ M_X1_init 0 [.ref 86] [] _ _ _
  refine al_0 dX1_init_0 ?_
  refine R_objInit dX1_init_1 ob_RX1_3 mi_obj mi_objc ⟨by decide, by decide⟩ (Nat.le_of_ble_eq_true rfl) ?_
  refine al_0 dX1_init_4 ?_
  refine R_bipush (v := 100) dX1_init_5 (by decide) ?_
  refine R_newaI (L := 100) (κ' := (0, 0)) dX1_init_7 mk_int (rn_ixe (show (100 : Int32) = nI 100 from rfl)) (by decide) rfl (Nat.le_of_ble_eq_true rfl) ⟨by decide, by decide⟩ ?_
  refine R_putfr dX1_init_9 fl_RX1_9 rfl (Or.inr ⟨rfl, rfl, rfl⟩) rfl (Nat.le_of_ble_eq_true rfl) ?_
  refine al_0 dX1_init_12 ?_
  refine R_bipush (v := 8) dX1_init_13 (by decide) ?_
  refine R_putfi dX1_init_15 fl_RX1_15 rfl (Or.inl rfl) rfl (Nat.le_of_ble_eq_true rfl) rfl rfl ?_
  refine al_0 dX1_init_18 ?_
  refine R_iconst (v := 3) dX1_init_19 (by decide) ?_
  refine R_putfi dX1_init_20 fl_RX1_19 rfl (Or.inl rfl) rfl (Nat.le_of_ble_eq_true rfl) rfl rfl ?_
  exact R_return dX1_init_23 rfl h

set_option maxHeartbeats 4000000 in
theorem I5_84 {G : rn_G} {d : Nat} {Q : Option Value → rn_S → Prop} {mi : Nat → Nat → Int32} {ml : Nat → Nat → Int64} {rf : Nat → Nat → Nat} (h : Q none ((rn_u (rn_u (rn_z (rn_z (rn_z mi 85 0) 86 0) 87 0) 86 2 8) 86 3 3), (rn_z (rn_z (rn_z ml 85 0) 86 0) 87 0), (rn_u (rn_u (rn_z (rn_z (rn_u (rn_z rf 85 0) 84 0 85) 86 0) 87 0) 86 0 87) 84 3 86), 88)) : Call G (d + 2) M_X5_init [.ref 84] (mi, ml, rf, 85) (3, 204) Q := by
  show Run G _ M_X5_init 0 [.ref 84] [] _ _ _
  refine al_0 dX5_init_0 ?_
  refine R_objInit dX5_init_1 ob_RX5_3 mi_obj mi_objc ⟨by decide, by decide⟩ (Nat.le_of_ble_eq_true rfl) ?_
  refine al_0 dX5_init_4 ?_
  refine R_bipush (v := 100) dX5_init_5 (by decide) ?_
  refine R_newaB (L := 100) (κ' := (2, 104)) dX5_init_7 mk_byte (rn_ixe (show (100 : Int32) = nI 100 from rfl)) (by decide) rfl (Nat.le_of_ble_eq_true rfl) ⟨by decide, by decide⟩ ?_
  refine R_putfr dX5_init_9 fl_RX5_9 rfl (Or.inr ⟨rfl, rfl, rfl⟩) rfl (Nat.le_of_ble_eq_true rfl) ?_
  refine al_0 dX5_init_12 ?_
  refine R_new (ci := 1) (κ' := (1, 100)) dX5_init_13 rfl cl_RX5_15 nw_RX1 mz_RX1 (by decide +kernel) rfl (Nat.le_of_ble_eq_true rfl) ⟨by decide, by decide⟩ ?_
  refine R_dup dX5_init_16 rfl ?_
  refine R_callIN (as := []) (κ' := (1, 100)) (κ'' := (0, 0)) dX5_init_17 mm_RX5_17 ⟨by decide, by decide⟩ rfl (Nat.le_of_ble_eq_true rfl) (Nat.le_of_ble_eq_true rfl) ⟨by decide, by decide⟩ (I1_86 ?_)
  refine R_putfr dX5_init_20 fl_RX5_18 rfl (Or.inl rfl) rfl (Nat.le_of_ble_eq_true rfl) ?_
  exact R_return dX5_init_23 rfl h

set_option maxHeartbeats 4000000 in
theorem I0_89 {G : rn_G} {d : Nat} {Q : Option Value → rn_S → Prop} {mi : Nat → Nat → Int32} {ml : Nat → Nat → Int64} {rf : Nat → Nat → Nat} (h : Q none ((rn_z mi 90 0), (rn_z ml 90 0), (rn_u (rn_z rf 90 0) 89 0 90), 91)) : Call G (d + 1) M_X0_init [.ref 89] (mi, ml, rf, 90) (1, 20) Q := by
  show Run G _ M_X0_init 0 [.ref 89] [] _ _ _
  refine al_0 dX0_init_0 ?_
  refine R_objInit dX0_init_1 ob_RX0_3 mi_obj mi_objc ⟨by decide, by decide⟩ (Nat.le_of_ble_eq_true rfl) ?_
  refine al_0 dX0_init_4 ?_
  refine R_bipush (v := 20) dX0_init_5 (by decide) ?_
  refine R_newaI (L := 20) (κ' := (0, 0)) dX0_init_7 mk_int (rn_ixe (show (20 : Int32) = nI 20 from rfl)) (by decide) rfl (Nat.le_of_ble_eq_true rfl) ⟨by decide, by decide⟩ ?_
  refine R_putfr dX0_init_9 fl_RX0_9 rfl (Or.inr ⟨rfl, rfl, rfl⟩) rfl (Nat.le_of_ble_eq_true rfl) ?_
  exact R_return dX0_init_12 rfl h

set_option maxHeartbeats 4000000 in
theorem I1_92 {G : rn_G} {d : Nat} {Q : Option Value → rn_S → Prop} {mi : Nat → Nat → Int32} {ml : Nat → Nat → Int64} {rf : Nat → Nat → Nat} (h : Q none ((rn_u (rn_u (rn_z mi 93 0) 92 2 8) 92 3 3), (rn_z ml 93 0), (rn_u (rn_z rf 93 0) 92 0 93), 94)) : Call G (d + 1) M_X1_init [.ref 92] (mi, ml, rf, 93) (1, 100) Q := by
  show Run G _ M_X1_init 0 [.ref 92] [] _ _ _
  refine al_0 dX1_init_0 ?_
  refine R_objInit dX1_init_1 ob_RX1_3 mi_obj mi_objc ⟨by decide, by decide⟩ (Nat.le_of_ble_eq_true rfl) ?_
  refine al_0 dX1_init_4 ?_
  refine R_bipush (v := 100) dX1_init_5 (by decide) ?_
  refine R_newaI (L := 100) (κ' := (0, 0)) dX1_init_7 mk_int (rn_ixe (show (100 : Int32) = nI 100 from rfl)) (by decide) rfl (Nat.le_of_ble_eq_true rfl) ⟨by decide, by decide⟩ ?_
  refine R_putfr dX1_init_9 fl_RX1_9 rfl (Or.inr ⟨rfl, rfl, rfl⟩) rfl (Nat.le_of_ble_eq_true rfl) ?_
  refine al_0 dX1_init_12 ?_
  refine R_bipush (v := 8) dX1_init_13 (by decide) ?_
  refine R_putfi dX1_init_15 fl_RX1_15 rfl (Or.inl rfl) rfl (Nat.le_of_ble_eq_true rfl) rfl rfl ?_
  refine al_0 dX1_init_18 ?_
  refine R_iconst (v := 3) dX1_init_19 (by decide) ?_
  refine R_putfi dX1_init_20 fl_RX1_19 rfl (Or.inl rfl) rfl (Nat.le_of_ble_eq_true rfl) rfl rfl ?_
  exact R_return dX1_init_23 rfl h

set_option maxHeartbeats 4000000 in
theorem I1_94 {G : rn_G} {d : Nat} {Q : Option Value → rn_S → Prop} {mi : Nat → Nat → Int32} {ml : Nat → Nat → Int64} {rf : Nat → Nat → Nat} (h : Q none ((rn_u (rn_u (rn_z mi 95 0) 94 2 8) 94 3 3), (rn_z ml 95 0), (rn_u (rn_z rf 95 0) 94 0 95), 96)) : Call G (d + 1) M_X1_init [.ref 94] (mi, ml, rf, 95) (1, 100) Q := by
  show Run G _ M_X1_init 0 [.ref 94] [] _ _ _
  refine al_0 dX1_init_0 ?_
  refine R_objInit dX1_init_1 ob_RX1_3 mi_obj mi_objc ⟨by decide, by decide⟩ (Nat.le_of_ble_eq_true rfl) ?_
  refine al_0 dX1_init_4 ?_
  refine R_bipush (v := 100) dX1_init_5 (by decide) ?_
  refine R_newaI (L := 100) (κ' := (0, 0)) dX1_init_7 mk_int (rn_ixe (show (100 : Int32) = nI 100 from rfl)) (by decide) rfl (Nat.le_of_ble_eq_true rfl) ⟨by decide, by decide⟩ ?_
  refine R_putfr dX1_init_9 fl_RX1_9 rfl (Or.inr ⟨rfl, rfl, rfl⟩) rfl (Nat.le_of_ble_eq_true rfl) ?_
  refine al_0 dX1_init_12 ?_
  refine R_bipush (v := 8) dX1_init_13 (by decide) ?_
  refine R_putfi dX1_init_15 fl_RX1_15 rfl (Or.inl rfl) rfl (Nat.le_of_ble_eq_true rfl) rfl rfl ?_
  refine al_0 dX1_init_18 ?_
  refine R_iconst (v := 3) dX1_init_19 (by decide) ?_
  refine R_putfi dX1_init_20 fl_RX1_19 rfl (Or.inl rfl) rfl (Nat.le_of_ble_eq_true rfl) rfl rfl ?_
  exact R_return dX1_init_23 rfl h

set_option maxHeartbeats 4000000 in
theorem I1_96 {G : rn_G} {d : Nat} {Q : Option Value → rn_S → Prop} {mi : Nat → Nat → Int32} {ml : Nat → Nat → Int64} {rf : Nat → Nat → Nat} (h : Q none ((rn_u (rn_u (rn_z mi 97 0) 96 2 8) 96 3 3), (rn_z ml 97 0), (rn_u (rn_z rf 97 0) 96 0 97), 98)) : Call G (d + 1) M_X1_init [.ref 96] (mi, ml, rf, 97) (1, 100) Q := by
  show Run G _ M_X1_init 0 [.ref 96] [] _ _ _
  refine al_0 dX1_init_0 ?_
  refine R_objInit dX1_init_1 ob_RX1_3 mi_obj mi_objc ⟨by decide, by decide⟩ (Nat.le_of_ble_eq_true rfl) ?_
  refine al_0 dX1_init_4 ?_
  refine R_bipush (v := 100) dX1_init_5 (by decide) ?_
  refine R_newaI (L := 100) (κ' := (0, 0)) dX1_init_7 mk_int (rn_ixe (show (100 : Int32) = nI 100 from rfl)) (by decide) rfl (Nat.le_of_ble_eq_true rfl) ⟨by decide, by decide⟩ ?_
  refine R_putfr dX1_init_9 fl_RX1_9 rfl (Or.inr ⟨rfl, rfl, rfl⟩) rfl (Nat.le_of_ble_eq_true rfl) ?_
  refine al_0 dX1_init_12 ?_
  refine R_bipush (v := 8) dX1_init_13 (by decide) ?_
  refine R_putfi dX1_init_15 fl_RX1_15 rfl (Or.inl rfl) rfl (Nat.le_of_ble_eq_true rfl) rfl rfl ?_
  refine al_0 dX1_init_18 ?_
  refine R_iconst (v := 3) dX1_init_19 (by decide) ?_
  refine R_putfi dX1_init_20 fl_RX1_19 rfl (Or.inl rfl) rfl (Nat.le_of_ble_eq_true rfl) rfl rfl ?_
  exact R_return dX1_init_23 rfl h

set_option maxHeartbeats 4000000 in
theorem I1_98 {G : rn_G} {d : Nat} {Q : Option Value → rn_S → Prop} {mi : Nat → Nat → Int32} {ml : Nat → Nat → Int64} {rf : Nat → Nat → Nat} (h : Q none ((rn_u (rn_u (rn_z mi 99 0) 98 2 8) 98 3 3), (rn_z ml 99 0), (rn_u (rn_z rf 99 0) 98 0 99), 100)) : Call G (d + 1) M_X1_init [.ref 98] (mi, ml, rf, 99) (1, 100) Q := by
  show Run G _ M_X1_init 0 [.ref 98] [] _ _ _
  refine al_0 dX1_init_0 ?_
  refine R_objInit dX1_init_1 ob_RX1_3 mi_obj mi_objc ⟨by decide, by decide⟩ (Nat.le_of_ble_eq_true rfl) ?_
  refine al_0 dX1_init_4 ?_
  refine R_bipush (v := 100) dX1_init_5 (by decide) ?_
  refine R_newaI (L := 100) (κ' := (0, 0)) dX1_init_7 mk_int (rn_ixe (show (100 : Int32) = nI 100 from rfl)) (by decide) rfl (Nat.le_of_ble_eq_true rfl) ⟨by decide, by decide⟩ ?_
  refine R_putfr dX1_init_9 fl_RX1_9 rfl (Or.inr ⟨rfl, rfl, rfl⟩) rfl (Nat.le_of_ble_eq_true rfl) ?_
  refine al_0 dX1_init_12 ?_
  refine R_bipush (v := 8) dX1_init_13 (by decide) ?_
  refine R_putfi dX1_init_15 fl_RX1_15 rfl (Or.inl rfl) rfl (Nat.le_of_ble_eq_true rfl) rfl rfl ?_
  refine al_0 dX1_init_18 ?_
  refine R_iconst (v := 3) dX1_init_19 (by decide) ?_
  refine R_putfi dX1_init_20 fl_RX1_19 rfl (Or.inl rfl) rfl (Nat.le_of_ble_eq_true rfl) rfl rfl ?_
  exact R_return dX1_init_23 rfl h

set_option maxHeartbeats 4000000 in
theorem I1_100 {G : rn_G} {d : Nat} {Q : Option Value → rn_S → Prop} {mi : Nat → Nat → Int32} {ml : Nat → Nat → Int64} {rf : Nat → Nat → Nat} (h : Q none ((rn_u (rn_u (rn_z mi 101 0) 100 2 8) 100 3 3), (rn_z ml 101 0), (rn_u (rn_z rf 101 0) 100 0 101), 102)) : Call G (d + 1) M_X1_init [.ref 100] (mi, ml, rf, 101) (1, 100) Q := by
  show Run G _ M_X1_init 0 [.ref 100] [] _ _ _
  refine al_0 dX1_init_0 ?_
  refine R_objInit dX1_init_1 ob_RX1_3 mi_obj mi_objc ⟨by decide, by decide⟩ (Nat.le_of_ble_eq_true rfl) ?_
  refine al_0 dX1_init_4 ?_
  refine R_bipush (v := 100) dX1_init_5 (by decide) ?_
  refine R_newaI (L := 100) (κ' := (0, 0)) dX1_init_7 mk_int (rn_ixe (show (100 : Int32) = nI 100 from rfl)) (by decide) rfl (Nat.le_of_ble_eq_true rfl) ⟨by decide, by decide⟩ ?_
  refine R_putfr dX1_init_9 fl_RX1_9 rfl (Or.inr ⟨rfl, rfl, rfl⟩) rfl (Nat.le_of_ble_eq_true rfl) ?_
  refine al_0 dX1_init_12 ?_
  refine R_bipush (v := 8) dX1_init_13 (by decide) ?_
  refine R_putfi dX1_init_15 fl_RX1_15 rfl (Or.inl rfl) rfl (Nat.le_of_ble_eq_true rfl) rfl rfl ?_
  refine al_0 dX1_init_18 ?_
  refine R_iconst (v := 3) dX1_init_19 (by decide) ?_
  refine R_putfi dX1_init_20 fl_RX1_19 rfl (Or.inl rfl) rfl (Nat.le_of_ble_eq_true rfl) rfl rfl ?_
  exact R_return dX1_init_23 rfl h

set_option maxHeartbeats 4000000 in
theorem I1_102 {G : rn_G} {d : Nat} {Q : Option Value → rn_S → Prop} {mi : Nat → Nat → Int32} {ml : Nat → Nat → Int64} {rf : Nat → Nat → Nat} (h : Q none ((rn_u (rn_u (rn_z mi 103 0) 102 2 8) 102 3 3), (rn_z ml 103 0), (rn_u (rn_z rf 103 0) 102 0 103), 104)) : Call G (d + 1) M_X1_init [.ref 102] (mi, ml, rf, 103) (1, 100) Q := by
  show Run G _ M_X1_init 0 [.ref 102] [] _ _ _
  refine al_0 dX1_init_0 ?_
  refine R_objInit dX1_init_1 ob_RX1_3 mi_obj mi_objc ⟨by decide, by decide⟩ (Nat.le_of_ble_eq_true rfl) ?_
  refine al_0 dX1_init_4 ?_
  refine R_bipush (v := 100) dX1_init_5 (by decide) ?_
  refine R_newaI (L := 100) (κ' := (0, 0)) dX1_init_7 mk_int (rn_ixe (show (100 : Int32) = nI 100 from rfl)) (by decide) rfl (Nat.le_of_ble_eq_true rfl) ⟨by decide, by decide⟩ ?_
  refine R_putfr dX1_init_9 fl_RX1_9 rfl (Or.inr ⟨rfl, rfl, rfl⟩) rfl (Nat.le_of_ble_eq_true rfl) ?_
  refine al_0 dX1_init_12 ?_
  refine R_bipush (v := 8) dX1_init_13 (by decide) ?_
  refine R_putfi dX1_init_15 fl_RX1_15 rfl (Or.inl rfl) rfl (Nat.le_of_ble_eq_true rfl) rfl rfl ?_
  refine al_0 dX1_init_18 ?_
  refine R_iconst (v := 3) dX1_init_19 (by decide) ?_
  refine R_putfi dX1_init_20 fl_RX1_19 rfl (Or.inl rfl) rfl (Nat.le_of_ble_eq_true rfl) rfl rfl ?_
  exact R_return dX1_init_23 rfl h

set_option maxHeartbeats 4000000 in
theorem I7_104 {G : rn_G} {d : Nat} {Q : Option Value → rn_S → Prop} {mi : Nat → Nat → Int32} {ml : Nat → Nat → Int64} {rf : Nat → Nat → Nat} (h : Q none ((rn_u (rn_z mi 105 0) 104 1 (-1)), (rn_z ml 105 0), (rn_u (rn_z rf 105 0) 104 0 105), 106)) : Call G (d + 1) M_X7_init [.ref 104] (mi, ml, rf, 105) (1, 60) Q := by
  show Run G _ M_X7_init 0 [.ref 104] [] _ _ _
  refine al_0 dX7_init_0 ?_
  refine R_objInit dX7_init_1 ob_RX7_3 mi_obj mi_objc ⟨by decide, by decide⟩ (Nat.le_of_ble_eq_true rfl) ?_
  refine al_0 dX7_init_4 ?_
  refine R_bipush (v := 60) dX7_init_5 (by decide) ?_
  refine R_newaL (L := 60) (κ' := (0, 0)) dX7_init_7 mk_long (rn_ixe (show (60 : Int32) = nI 60 from rfl)) (by decide) rfl (Nat.le_of_ble_eq_true rfl) ⟨by decide, by decide⟩ ?_
  refine R_putfr dX7_init_9 fl_RX7_9 rfl (Or.inr ⟨rfl, rfl, rfl⟩) rfl (Nat.le_of_ble_eq_true rfl) ?_
  refine al_0 dX7_init_12 ?_
  refine R_iconst (v := -1) dX7_init_13 (by decide) ?_
  refine R_putfi dX7_init_14 fl_RX7_15 rfl (Or.inl rfl) rfl (Nat.le_of_ble_eq_true rfl) rfl rfl ?_
  exact R_return dX7_init_17 rfl h

set_option maxHeartbeats 4000000 in
theorem I7_106 {G : rn_G} {d : Nat} {Q : Option Value → rn_S → Prop} {mi : Nat → Nat → Int32} {ml : Nat → Nat → Int64} {rf : Nat → Nat → Nat} (h : Q none ((rn_u (rn_z mi 107 0) 106 1 (-1)), (rn_z ml 107 0), (rn_u (rn_z rf 107 0) 106 0 107), 108)) : Call G (d + 1) M_X7_init [.ref 106] (mi, ml, rf, 107) (1, 60) Q := by
  show Run G _ M_X7_init 0 [.ref 106] [] _ _ _
  refine al_0 dX7_init_0 ?_
  refine R_objInit dX7_init_1 ob_RX7_3 mi_obj mi_objc ⟨by decide, by decide⟩ (Nat.le_of_ble_eq_true rfl) ?_
  refine al_0 dX7_init_4 ?_
  refine R_bipush (v := 60) dX7_init_5 (by decide) ?_
  refine R_newaL (L := 60) (κ' := (0, 0)) dX7_init_7 mk_long (rn_ixe (show (60 : Int32) = nI 60 from rfl)) (by decide) rfl (Nat.le_of_ble_eq_true rfl) ⟨by decide, by decide⟩ ?_
  refine R_putfr dX7_init_9 fl_RX7_9 rfl (Or.inr ⟨rfl, rfl, rfl⟩) rfl (Nat.le_of_ble_eq_true rfl) ?_
  refine al_0 dX7_init_12 ?_
  refine R_iconst (v := -1) dX7_init_13 (by decide) ?_
  refine R_putfi dX7_init_14 fl_RX7_15 rfl (Or.inl rfl) rfl (Nat.le_of_ble_eq_true rfl) rfl rfl ?_
  exact R_return dX7_init_17 rfl h

set_option maxHeartbeats 4000000 in
theorem I7_108 {G : rn_G} {d : Nat} {Q : Option Value → rn_S → Prop} {mi : Nat → Nat → Int32} {ml : Nat → Nat → Int64} {rf : Nat → Nat → Nat} (h : Q none ((rn_u (rn_z mi 109 0) 108 1 (-1)), (rn_z ml 109 0), (rn_u (rn_z rf 109 0) 108 0 109), 110)) : Call G (d + 1) M_X7_init [.ref 108] (mi, ml, rf, 109) (1, 60) Q := by
  show Run G _ M_X7_init 0 [.ref 108] [] _ _ _
  refine al_0 dX7_init_0 ?_
  refine R_objInit dX7_init_1 ob_RX7_3 mi_obj mi_objc ⟨by decide, by decide⟩ (Nat.le_of_ble_eq_true rfl) ?_
  refine al_0 dX7_init_4 ?_
  refine R_bipush (v := 60) dX7_init_5 (by decide) ?_
  refine R_newaL (L := 60) (κ' := (0, 0)) dX7_init_7 mk_long (rn_ixe (show (60 : Int32) = nI 60 from rfl)) (by decide) rfl (Nat.le_of_ble_eq_true rfl) ⟨by decide, by decide⟩ ?_
  refine R_putfr dX7_init_9 fl_RX7_9 rfl (Or.inr ⟨rfl, rfl, rfl⟩) rfl (Nat.le_of_ble_eq_true rfl) ?_
  refine al_0 dX7_init_12 ?_
  refine R_iconst (v := -1) dX7_init_13 (by decide) ?_
  refine R_putfi dX7_init_14 fl_RX7_15 rfl (Or.inl rfl) rfl (Nat.le_of_ble_eq_true rfl) rfl rfl ?_
  exact R_return dX7_init_17 rfl h

set_option maxHeartbeats 4000000 in
theorem I7_110 {G : rn_G} {d : Nat} {Q : Option Value → rn_S → Prop} {mi : Nat → Nat → Int32} {ml : Nat → Nat → Int64} {rf : Nat → Nat → Nat} (h : Q none ((rn_u (rn_z mi 111 0) 110 1 (-1)), (rn_z ml 111 0), (rn_u (rn_z rf 111 0) 110 0 111), 112)) : Call G (d + 1) M_X7_init [.ref 110] (mi, ml, rf, 111) (1, 60) Q := by
  show Run G _ M_X7_init 0 [.ref 110] [] _ _ _
  refine al_0 dX7_init_0 ?_
  refine R_objInit dX7_init_1 ob_RX7_3 mi_obj mi_objc ⟨by decide, by decide⟩ (Nat.le_of_ble_eq_true rfl) ?_
  refine al_0 dX7_init_4 ?_
  refine R_bipush (v := 60) dX7_init_5 (by decide) ?_
  refine R_newaL (L := 60) (κ' := (0, 0)) dX7_init_7 mk_long (rn_ixe (show (60 : Int32) = nI 60 from rfl)) (by decide) rfl (Nat.le_of_ble_eq_true rfl) ⟨by decide, by decide⟩ ?_
  refine R_putfr dX7_init_9 fl_RX7_9 rfl (Or.inr ⟨rfl, rfl, rfl⟩) rfl (Nat.le_of_ble_eq_true rfl) ?_
  refine al_0 dX7_init_12 ?_
  refine R_iconst (v := -1) dX7_init_13 (by decide) ?_
  refine R_putfi dX7_init_14 fl_RX7_15 rfl (Or.inl rfl) rfl (Nat.le_of_ble_eq_true rfl) rfl rfl ?_
  exact R_return dX7_init_17 rfl h

set_option maxHeartbeats 4000000 in
theorem I7_112 {G : rn_G} {d : Nat} {Q : Option Value → rn_S → Prop} {mi : Nat → Nat → Int32} {ml : Nat → Nat → Int64} {rf : Nat → Nat → Nat} (h : Q none ((rn_u (rn_z mi 113 0) 112 1 (-1)), (rn_z ml 113 0), (rn_u (rn_z rf 113 0) 112 0 113), 114)) : Call G (d + 1) M_X7_init [.ref 112] (mi, ml, rf, 113) (1, 60) Q := by
  show Run G _ M_X7_init 0 [.ref 112] [] _ _ _
  refine al_0 dX7_init_0 ?_
  refine R_objInit dX7_init_1 ob_RX7_3 mi_obj mi_objc ⟨by decide, by decide⟩ (Nat.le_of_ble_eq_true rfl) ?_
  refine al_0 dX7_init_4 ?_
  refine R_bipush (v := 60) dX7_init_5 (by decide) ?_
  refine R_newaL (L := 60) (κ' := (0, 0)) dX7_init_7 mk_long (rn_ixe (show (60 : Int32) = nI 60 from rfl)) (by decide) rfl (Nat.le_of_ble_eq_true rfl) ⟨by decide, by decide⟩ ?_
  refine R_putfr dX7_init_9 fl_RX7_9 rfl (Or.inr ⟨rfl, rfl, rfl⟩) rfl (Nat.le_of_ble_eq_true rfl) ?_
  refine al_0 dX7_init_12 ?_
  refine R_iconst (v := -1) dX7_init_13 (by decide) ?_
  refine R_putfi dX7_init_14 fl_RX7_15 rfl (Or.inl rfl) rfl (Nat.le_of_ble_eq_true rfl) rfl rfl ?_
  exact R_return dX7_init_17 rfl h

set_option maxHeartbeats 4000000 in
theorem I7_114 {G : rn_G} {d : Nat} {Q : Option Value → rn_S → Prop} {mi : Nat → Nat → Int32} {ml : Nat → Nat → Int64} {rf : Nat → Nat → Nat} (h : Q none ((rn_u (rn_z mi 115 0) 114 1 (-1)), (rn_z ml 115 0), (rn_u (rn_z rf 115 0) 114 0 115), 116)) : Call G (d + 1) M_X7_init [.ref 114] (mi, ml, rf, 115) (1, 60) Q := by
  show Run G _ M_X7_init 0 [.ref 114] [] _ _ _
  refine al_0 dX7_init_0 ?_
  refine R_objInit dX7_init_1 ob_RX7_3 mi_obj mi_objc ⟨by decide, by decide⟩ (Nat.le_of_ble_eq_true rfl) ?_
  refine al_0 dX7_init_4 ?_
  refine R_bipush (v := 60) dX7_init_5 (by decide) ?_
  refine R_newaL (L := 60) (κ' := (0, 0)) dX7_init_7 mk_long (rn_ixe (show (60 : Int32) = nI 60 from rfl)) (by decide) rfl (Nat.le_of_ble_eq_true rfl) ⟨by decide, by decide⟩ ?_
  refine R_putfr dX7_init_9 fl_RX7_9 rfl (Or.inr ⟨rfl, rfl, rfl⟩) rfl (Nat.le_of_ble_eq_true rfl) ?_
  refine al_0 dX7_init_12 ?_
  refine R_iconst (v := -1) dX7_init_13 (by decide) ?_
  refine R_putfi dX7_init_14 fl_RX7_15 rfl (Or.inl rfl) rfl (Nat.le_of_ble_eq_true rfl) rfl rfl ?_
  exact R_return dX7_init_17 rfl h

set_option maxHeartbeats 4000000 in
theorem I8_1 {G : rn_G} {d : Nat} {Q : Option Value → rn_S → Prop} {mi : Nat → Nat → Int32} {ml : Nat → Nat → Int64} {rf : Nat → Nat → Nat} (h : Q none ((rn_u (rn_z (rn_z (rn_u (rn_z (rn_z (rn_u (rn_z (rn_z (rn_u (rn_z (rn_z (rn_u (rn_z (rn_z (rn_u (rn_z (rn_z (rn_u (rn_u (rn_z (rn_z (rn_u (rn_u (rn_z (rn_z (rn_u (rn_u (rn_z (rn_z (rn_u (rn_u (rn_z (rn_z (rn_u (rn_u (rn_z (rn_z (rn_u (rn_u (rn_z (rn_z (rn_z (rn_z (rn_z (rn_z (rn_u (rn_u (rn_z (rn_z (rn_z (rn_z (rn_z (rn_z (rn_z (rn_z (rn_z (rn_z (rn_z (rn_z (rn_z (rn_z (rn_z (rn_z (rn_z (rn_z (rn_z (rn_z (rn_z (rn_z (rn_z (rn_z (rn_z (rn_z (rn_z (rn_z (rn_u (rn_u (rn_u (rn_z (rn_z (rn_z (rn_z (rn_z (rn_z (rn_z (rn_z (rn_z (rn_z (rn_z (rn_z (rn_z (rn_z (rn_z (rn_z (rn_z (rn_z (rn_z (rn_z (rn_z (rn_z (rn_z (rn_z (rn_z (rn_z (rn_z (rn_z (rn_z (rn_z (rn_z (rn_z (rn_u (rn_u (rn_u (rn_z (rn_z (rn_z (rn_z (rn_z (rn_z (rn_z (rn_z (rn_z (rn_z (rn_z (rn_z (rn_z (rn_z (rn_z (rn_z (rn_z (rn_z (rn_z (rn_u (rn_u (rn_u (rn_z (rn_z (rn_z (rn_z (rn_z (rn_z (rn_z mi 2 0) 3 0) 4 0) 5 0) 6 0) 7 0) 8 0) 7 2 8) 7 3 3) 2 14 (-1)) 9 0) 10 0) 11 0) 12 0) 13 0) 14 0) 15 0) 16 0) 17 0) 18 0) 19 0) 20 0) 21 0) 22 0) 23 0) 24 0) 25 0) 26 0) 27 0) 26 2 8) 26 3 3) 21 14 (-1)) 28 0) 29 0) 30 0) 31 0) 32 0) 33 0) 34 0) 35 0) 36 0) 37 0) 38 0) 39 0) 40 0) 41 0) 42 0) 43 0) 44 0) 45 0) 46 0) 47 0) 48 0) 49 0) 50 0) 51 0) 52 0) 53 0) 54 0) 55 0) 56 0) 57 0) 58 0) 59 0) 58 2 8) 58 3 3) 53 14 (-1)) 60 0) 61 0) 62 0) 63 0) 64 0) 65 0) 66 0) 67 0) 68 0) 69 0) 70 0) 71 0) 72 0) 73 0) 74 0) 75 0) 76 0) 77 0) 78 0) 79 0) 80 0) 81 0) 82 0) 83 0) 84 0) 85 0) 86 0) 87 0) 86 2 8) 86 3 3) 88 0) 89 0) 90 0) 91 0) 92 0) 93 0) 92 2 8) 92 3 3) 94 0) 95 0) 94 2 8) 94 3 3) 96 0) 97 0) 96 2 8) 96 3 3) 98 0) 99 0) 98 2 8) 98 3 3) 100 0) 101 0) 100 2 8) 100 3 3) 102 0) 103 0) 102 2 8) 102 3 3) 104 0) 105 0) 104 1 (-1)) 106 0) 107 0) 106 1 (-1)) 108 0) 109 0) 108 1 (-1)) 110 0) 111 0) 110 1 (-1)) 112 0) 113 0) 112 1 (-1)) 114 0) 115 0) 114 1 (-1)), (rn_z (rn_z (rn_z (rn_z (rn_z (rn_z (rn_z (rn_z (rn_z (rn_z (rn_z (rn_z (rn_z (rn_z (rn_z (rn_z (rn_z (rn_z (rn_z (rn_z (rn_z (rn_z (rn_z (rn_z (rn_z (rn_z (rn_z (rn_z (rn_z (rn_z (rn_z (rn_z (rn_z (rn_z (rn_z (rn_z (rn_z (rn_z (rn_z (rn_z (rn_z (rn_z (rn_z (rn_z (rn_z (rn_z (rn_z (rn_z (rn_z (rn_z (rn_z (rn_z (rn_z (rn_z (rn_z (rn_z (rn_z (rn_z (rn_z (rn_z (rn_z (rn_z (rn_z (rn_z (rn_z (rn_z (rn_z (rn_z (rn_z (rn_z (rn_z (rn_z (rn_z (rn_z (rn_z (rn_z (rn_z (rn_z (rn_z (rn_z (rn_z (rn_z (rn_z (rn_z (rn_z (rn_z (rn_z (rn_z (rn_z (rn_z (rn_z (rn_z (rn_z (rn_z (rn_z (rn_z (rn_z (rn_z (rn_z (rn_z (rn_z (rn_z (rn_z (rn_z (rn_z (rn_z (rn_z (rn_z (rn_z (rn_z (rn_z (rn_z (rn_z (rn_z ml 2 0) 3 0) 4 0) 5 0) 6 0) 7 0) 8 0) 9 0) 10 0) 11 0) 12 0) 13 0) 14 0) 15 0) 16 0) 17 0) 18 0) 19 0) 20 0) 21 0) 22 0) 23 0) 24 0) 25 0) 26 0) 27 0) 28 0) 29 0) 30 0) 31 0) 32 0) 33 0) 34 0) 35 0) 36 0) 37 0) 38 0) 39 0) 40 0) 41 0) 42 0) 43 0) 44 0) 45 0) 46 0) 47 0) 48 0) 49 0) 50 0) 51 0) 52 0) 53 0) 54 0) 55 0) 56 0) 57 0) 58 0) 59 0) 60 0) 61 0) 62 0) 63 0) 64 0) 65 0) 66 0) 67 0) 68 0) 69 0) 70 0) 71 0) 72 0) 73 0) 74 0) 75 0) 76 0) 77 0) 78 0) 79 0) 80 0) 81 0) 82 0) 83 0) 84 0) 85 0) 86 0) 87 0) 88 0) 89 0) 90 0) 91 0) 92 0) 93 0) 94 0) 95 0) 96 0) 97 0) 98 0) 99 0) 100 0) 101 0) 102 0) 103 0) 104 0) 105 0) 106 0) 107 0) 108 0) 109 0) 110 0) 111 0) 112 0) 113 0) 114 0) 115 0), (rn_u (rn_u (rn_z (rn_z (rn_u (rn_u (rn_z (rn_z (rn_u (rn_u (rn_z (rn_z (rn_u (rn_u (rn_z (rn_z (rn_u (rn_u (rn_z (rn_z (rn_u (rn_u (rn_z (rn_z (rn_u (rn_u (rn_z (rn_z (rn_u (rn_u (rn_z (rn_z (rn_u (rn_u (rn_z (rn_z (rn_u (rn_u (rn_z (rn_z (rn_u (rn_u (rn_z (rn_z (rn_u (rn_u (rn_z (rn_z (rn_u (rn_z (rn_u (rn_u (rn_z (rn_z (rn_u (rn_z (rn_u (rn_u (rn_u (rn_z (rn_z (rn_u (rn_z (rn_z (rn_u (rn_u (rn_u (rn_z (rn_u (rn_z (rn_u (rn_z (rn_z (rn_u (rn_u (rn_z (rn_u (rn_z (rn_u (rn_z (rn_z (rn_u (rn_u (rn_z (rn_u (rn_z (rn_u (rn_z (rn_z (rn_u (rn_u (rn_u (rn_z (rn_z (rn_u (rn_u (rn_z (rn_z (rn_u (rn_u (rn_z (rn_z (rn_u (rn_u (rn_z (rn_z (rn_u (rn_u (rn_z (rn_z (rn_u (rn_u (rn_z (rn_z (rn_u (rn_u (rn_z (rn_z (rn_u (rn_z (rn_u (rn_z (rn_u (rn_z (rn_u (rn_z (rn_z (rn_z (rn_u (rn_u (rn_z (rn_u (rn_z (rn_u (rn_z (rn_z (rn_u (rn_u (rn_z (rn_u (rn_z (rn_u (rn_z (rn_z (rn_u (rn_u (rn_z (rn_u (rn_z (rn_u (rn_z (rn_z (rn_u (rn_u (rn_u (rn_z (rn_z (rn_u (rn_u (rn_z (rn_z (rn_u (rn_u (rn_z (rn_z (rn_u (rn_u (rn_z (rn_z (rn_u (rn_u (rn_z (rn_z (rn_u (rn_u (rn_z (rn_z (rn_u (rn_u (rn_z (rn_z (rn_u (rn_z (rn_u (rn_z (rn_u (rn_z (rn_u (rn_z (rn_z (rn_u (rn_u (rn_u (rn_z (rn_z (rn_u (rn_u (rn_z (rn_z (rn_u (rn_u (rn_z (rn_z (rn_u (rn_u (rn_z (rn_z (rn_u (rn_u (rn_z (rn_z (rn_u (rn_u (rn_z (rn_z (rn_u (rn_u (rn_z (rn_z (rn_u (rn_z (rn_u (rn_z (rn_u (rn_z (rn_u (rn_z (rn_z rf 2 0) 3 0) 2 0 3) 4 0) 2 1 4) 5 0) 2 2 5) 6 0) 2 3 6) 7 0) 8 0) 7 0 8) 2 11 7) 9 0) 10 0) 9 6 10) 4 0 9) 11 0) 12 0) 11 6 12) 4 1 11) 13 0) 14 0) 13 6 14) 4 2 13) 15 0) 16 0) 15 6 16) 4 3 15) 17 0) 18 0) 17 6 18) 4 4 17) 19 0) 20 0) 19 6 20) 4 5 19) 1 0 2) 21 0) 22 0) 21 0 22) 23 0) 21 1 23) 24 0) 21 2 24) 25 0) 21 3 25) 26 0) 27 0) 26 0 27) 21 11 26) 28 0) 29 0) 28 6 29) 23 0 28) 30 0) 31 0) 30 6 31) 23 1 30) 32 0) 33 0) 32 6 33) 23 2 32) 34 0) 35 0) 34 6 35) 23 3 34) 36 0) 37 0) 36 6 37) 23 4 36) 38 0) 39 0) 38 6 39) 23 5 38) 1 1 21) 40 0) 41 0) 40 0 41) 42 0) 40 1 42) 43 0) 40 2 43) 1 2 40) 44 0) 45 0) 44 0 45) 46 0) 44 1 46) 47 0) 44 2 47) 1 3 44) 48 0) 49 0) 48 0 49) 50 0) 48 1 50) 51 0) 48 2 51) 1 4 48) 52 0) 53 0) 54 0) 53 0 54) 55 0) 53 1 55) 56 0) 53 2 56) 57 0) 53 3 57) 58 0) 59 0) 58 0 59) 53 11 58) 60 0) 61 0) 60 6 61) 55 0 60) 62 0) 63 0) 62 6 63) 55 1 62) 64 0) 65 0) 64 6 65) 55 2 64) 66 0) 67 0) 66 6 67) 55 3 66) 68 0) 69 0) 68 6 69) 55 4 68) 70 0) 71 0) 70 6 71) 55 5 70) 52 0 53) 72 0) 73 0) 72 0 73) 74 0) 72 1 74) 75 0) 72 2 75) 52 1 72) 76 0) 77 0) 76 0 77) 78 0) 76 1 78) 79 0) 76 2 79) 52 2 76) 80 0) 81 0) 80 0 81) 82 0) 80 1 82) 83 0) 80 2 83) 52 3 80) 1 5 52) 84 0) 85 0) 84 0 85) 86 0) 87 0) 86 0 87) 84 3 86) 1 6 84) 88 0) 1 7 88) 89 0) 90 0) 89 0 90) 1 8 89) 91 0) 1 9 91) 92 0) 93 0) 92 0 93) 88 0 92) 94 0) 95 0) 94 0 95) 88 1 94) 96 0) 97 0) 96 0 97) 88 2 96) 98 0) 99 0) 98 0 99) 88 3 98) 100 0) 101 0) 100 0 101) 88 4 100) 102 0) 103 0) 102 0 103) 88 5 102) 104 0) 105 0) 104 0 105) 91 0 104) 106 0) 107 0) 106 0 107) 91 1 106) 108 0) 109 0) 108 0 109) 91 2 108) 110 0) 111 0) 110 0 111) 91 3 110) 112 0) 113 0) 112 0 113) 91 4 112) 114 0) 115 0) 114 0 115) 91 5 114), 116)) : Call G (d + 4) M_X8_init [.ref 1] (mi, ml, rf, 2) (114, 2041) Q := by
  show Run G _ M_X8_init 0 [.ref 1, .null] [] _ _ _
  refine al_0 dX8_init_0 ?_
  refine R_objInit dX8_init_1 ob_RX8_3 mi_obj mi_objc ⟨by decide, by decide⟩ (Nat.le_of_ble_eq_true rfl) ?_
  refine al_0 dX8_init_4 ?_
  refine R_new (ci := 3) (κ' := (113, 2026)) dX8_init_5 rfl cl_RX8_9 nw_RX3 mz_RX3 (by decide +kernel) rfl (Nat.le_of_ble_eq_true rfl) ⟨by decide, by decide⟩ ?_
  refine R_dup dX8_init_8 rfl ?_
  refine R_callI (as := []) (κ' := (18, 194)) (κ'' := (95, 1832)) dX8_init_9 mm_RX8_11 ⟨by decide, by decide⟩ rfl (Nat.le_of_ble_eq_true rfl) (Nat.le_of_ble_eq_true rfl) ⟨by decide, by decide⟩ (I3_2 ?_)
  refine R_putfr dX8_init_12 fl_RX8_12 rfl (Or.inr ⟨rfl, rfl, rfl⟩) rfl (Nat.le_of_ble_eq_true rfl) ?_
  refine al_0 dX8_init_15 ?_
  refine R_new (ci := 3) (κ' := (94, 1817)) dX8_init_16 rfl cl_RX8_9 nw_RX3 mz_RX3 (by decide +kernel) rfl (Nat.le_of_ble_eq_true rfl) ⟨by decide, by decide⟩ ?_
  refine R_dup dX8_init_19 rfl ?_
  refine R_callI (as := []) (κ' := (18, 194)) (κ'' := (76, 1623)) dX8_init_20 mm_RX8_11 ⟨by decide, by decide⟩ rfl (Nat.le_of_ble_eq_true rfl) (Nat.le_of_ble_eq_true rfl) ⟨by decide, by decide⟩ (I3_21 ?_)
  refine R_putfr dX8_init_23 fl_RX8_18 rfl (Or.inr ⟨rfl, rfl, rfl⟩) rfl (Nat.le_of_ble_eq_true rfl) ?_
  refine al_0 dX8_init_26 ?_
  refine R_new (ci := 6) (κ' := (75, 1619)) dX8_init_27 rfl cl_RX8_21 nw_RX6 mz_RX6 (by decide +kernel) rfl (Nat.le_of_ble_eq_true rfl) ⟨by decide, by decide⟩ ?_
  refine R_dup dX8_init_30 rfl ?_
  refine R_iconst (v := 5) dX8_init_31 (by decide) ?_
  refine R_callI (as := [.int 5]) (κ' := (3, 15)) (κ'' := (72, 1604)) dX8_init_32 mm_RX8_23 ⟨by decide, by decide⟩ rfl (Nat.le_of_ble_eq_true rfl) (Nat.le_of_ble_eq_true rfl) ⟨by decide, by decide⟩ (I6_40 ?_)
  refine R_putfr dX8_init_35 fl_RX8_26 rfl (Or.inr ⟨rfl, rfl, rfl⟩) rfl (Nat.le_of_ble_eq_true rfl) ?_
  refine al_0 dX8_init_38 ?_
  refine R_new (ci := 6) (κ' := (71, 1600)) dX8_init_39 rfl cl_RX8_21 nw_RX6 mz_RX6 (by decide +kernel) rfl (Nat.le_of_ble_eq_true rfl) ⟨by decide, by decide⟩ ?_
  refine R_dup dX8_init_42 rfl ?_
  refine R_bipush (v := 10) dX8_init_43 (by decide) ?_
  refine R_callI (as := [.int 10]) (κ' := (3, 30)) (κ'' := (68, 1570)) dX8_init_45 mm_RX8_23 ⟨by decide, by decide⟩ rfl (Nat.le_of_ble_eq_true rfl) (Nat.le_of_ble_eq_true rfl) ⟨by decide, by decide⟩ (I6_44 ?_)
  refine R_putfr dX8_init_48 fl_RX8_30 rfl (Or.inr ⟨rfl, rfl, rfl⟩) rfl (Nat.le_of_ble_eq_true rfl) ?_
  refine al_0 dX8_init_51 ?_
  refine R_new (ci := 6) (κ' := (67, 1566)) dX8_init_52 rfl cl_RX8_21 nw_RX6 mz_RX6 (by decide +kernel) rfl (Nat.le_of_ble_eq_true rfl) ⟨by decide, by decide⟩ ?_
  refine R_dup dX8_init_55 rfl ?_
  refine R_bipush (v := 8) dX8_init_56 (by decide) ?_
  refine R_callI (as := [.int 8]) (κ' := (3, 24)) (κ'' := (64, 1542)) dX8_init_58 mm_RX8_23 ⟨by decide, by decide⟩ rfl (Nat.le_of_ble_eq_true rfl) (Nat.le_of_ble_eq_true rfl) ⟨by decide, by decide⟩ (I6_48 ?_)
  refine R_putfr dX8_init_61 fl_RX8_33 rfl (Or.inr ⟨rfl, rfl, rfl⟩) rfl (Nat.le_of_ble_eq_true rfl) ?_
  refine al_0 dX8_init_64 ?_
  refine R_new (ci := 2) (κ' := (63, 1537)) dX8_init_65 rfl cl_RX8_36 nw_RX2 mz_RX2 (by decide +kernel) rfl (Nat.le_of_ble_eq_true rfl) ⟨by decide, by decide⟩ ?_
  refine R_dup dX8_init_68 rfl ?_
  refine R_callIN (as := []) (κ' := (31, 290)) (κ'' := (32, 1247)) dX8_init_69 mm_RX8_38 ⟨by decide, by decide⟩ rfl (Nat.le_of_ble_eq_true rfl) (Nat.le_of_ble_eq_true rfl) ⟨by decide, by decide⟩ (I2_52 ?_)
  refine R_putfr dX8_init_72 fl_RX8_39 rfl (Or.inr ⟨rfl, rfl, rfl⟩) rfl (Nat.le_of_ble_eq_true rfl) ?_
  refine al_0 dX8_init_75 ?_
  refine R_new (ci := 5) (κ' := (31, 1243)) dX8_init_76 rfl cl_RX8_43 nw_RX5 mz_RX5 (by decide +kernel) rfl (Nat.le_of_ble_eq_true rfl) ⟨by decide, by decide⟩ ?_
  refine R_dup dX8_init_79 rfl ?_
  refine R_callIN (as := []) (κ' := (3, 204)) (κ'' := (28, 1039)) dX8_init_80 mm_RX8_45 ⟨by decide, by decide⟩ rfl (Nat.le_of_ble_eq_true rfl) (Nat.le_of_ble_eq_true rfl) ⟨by decide, by decide⟩ (I5_84 ?_)
  refine R_putfr dX8_init_83 fl_RX8_46 rfl (Or.inr ⟨rfl, rfl, rfl⟩) rfl (Nat.le_of_ble_eq_true rfl) ?_
  refine al_0 dX8_init_86 ?_
  refine R_bipush (v := 6) dX8_init_87 (by decide) ?_
  refine R_newq (t := 5) (L := 6) (κ' := (27, 1033)) dX8_init_89 (by decide) cl_RX8_50 (rn_ixe (show (6 : Int32) = nI 6 from rfl)) (by decide) rfl (Nat.le_of_ble_eq_true rfl) ⟨by decide, by decide⟩ ?_
  refine R_putfr dX8_init_92 fl_RX8_52 rfl (Or.inr ⟨rfl, rfl, rfl⟩) rfl (Nat.le_of_ble_eq_true rfl) ?_
  refine al_0 dX8_init_95 ?_
  refine R_new (ci := 0) (κ' := (26, 1028)) dX8_init_96 rfl cl_RX8_56 nw_RX0 mz_RX0 (by decide +kernel) rfl (Nat.le_of_ble_eq_true rfl) ⟨by decide, by decide⟩ ?_
  refine R_dup dX8_init_99 rfl ?_
  refine R_callIN (as := []) (κ' := (1, 20)) (κ'' := (25, 1008)) dX8_init_100 mm_RX8_58 ⟨by decide, by decide⟩ rfl (Nat.le_of_ble_eq_true rfl) (Nat.le_of_ble_eq_true rfl) ⟨by decide, by decide⟩ (I0_89 ?_)
  refine R_putfr dX8_init_103 fl_RX8_59 rfl (Or.inr ⟨rfl, rfl, rfl⟩) rfl (Nat.le_of_ble_eq_true rfl) ?_
  refine al_0 dX8_init_106 ?_
  refine R_bipush (v := 6) dX8_init_107 (by decide) ?_
  refine R_newq (t := 6) (L := 6) (κ' := (24, 1002)) dX8_init_109 (by decide) cl_RX8_63 (rn_ixe (show (6 : Int32) = nI 6 from rfl)) (by decide) rfl (Nat.le_of_ble_eq_true rfl) ⟨by decide, by decide⟩ ?_
  refine R_putfr dX8_init_112 fl_RX8_65 rfl (Or.inr ⟨rfl, rfl, rfl⟩) rfl (Nat.le_of_ble_eq_true rfl) ?_
  refine R_iconst (v := 0) dX8_init_115 (by decide) ?_
  refine is_1 dX8_init_116 rfl ?_
  refine il_1 dX8_init_117 ?_
  refine R_bipush (v := 6) dX8_init_118 (by decide) ?_
  refine R_icmp_ge (tgt := 142) dX8_init_120 (by decide) (fun q => absurd q (by decide)) (fun _ => ?_)
  refine al_0 dX8_init_123 ?_
  refine R_getfr (r := 88) dX8_init_124 fl_RX8_52 rfl rfl (Nat.le_of_ble_eq_true rfl) rfl ?_
  refine il_1 dX8_init_127 ?_
  refine R_new (ci := 1) (κ' := (23, 998)) dX8_init_128 rfl cl_RX8_50 nw_RX1 mz_RX1 (by decide +kernel) rfl (Nat.le_of_ble_eq_true rfl) ⟨by decide, by decide⟩ ?_
  refine R_dup dX8_init_131 rfl ?_
  refine R_callIN (as := []) (κ' := (1, 100)) (κ'' := (22, 898)) dX8_init_132 mm_RX8_69 ⟨by decide, by decide⟩ rfl (Nat.le_of_ble_eq_true rfl) (Nat.le_of_ble_eq_true rfl) ⟨by decide, by decide⟩ (I1_92 ?_)
  refine R_aast (t := 5) (ci := 1) dX8_init_135 (by decide) rfl (Nat.le_of_ble_eq_true rfl) (rn_ixe (show (0 : Int32) = nI 0 from rfl)) (by decide) rfl rfl rfl (Nat.le_of_ble_eq_true rfl) ?_
  refine ii_1 (v := 1) dX8_init_136 rfl (by decide) ?_
  refine R_goto (tgt := 117) dX8_init_139 (by decide) ?_
  refine il_1 dX8_init_117 ?_
  refine R_bipush (v := 6) dX8_init_118 (by decide) ?_
  refine R_icmp_ge (tgt := 142) dX8_init_120 (by decide) (fun q => absurd q (by decide)) (fun _ => ?_)
  refine al_0 dX8_init_123 ?_
  refine R_getfr (r := 88) dX8_init_124 fl_RX8_52 rfl rfl (Nat.le_of_ble_eq_true rfl) rfl ?_
  refine il_1 dX8_init_127 ?_
  refine R_new (ci := 1) (κ' := (21, 894)) dX8_init_128 rfl cl_RX8_50 nw_RX1 mz_RX1 (by decide +kernel) rfl (Nat.le_of_ble_eq_true rfl) ⟨by decide, by decide⟩ ?_
  refine R_dup dX8_init_131 rfl ?_
  refine R_callIN (as := []) (κ' := (1, 100)) (κ'' := (20, 794)) dX8_init_132 mm_RX8_69 ⟨by decide, by decide⟩ rfl (Nat.le_of_ble_eq_true rfl) (Nat.le_of_ble_eq_true rfl) ⟨by decide, by decide⟩ (I1_94 ?_)
  refine R_aast (t := 5) (ci := 1) dX8_init_135 (by decide) rfl (Nat.le_of_ble_eq_true rfl) (rn_ixe (show (1 : Int32) = nI 1 from rfl)) (by decide) rfl rfl rfl (Nat.le_of_ble_eq_true rfl) ?_
  refine ii_1 (v := 2) dX8_init_136 rfl (by decide) ?_
  refine R_goto (tgt := 117) dX8_init_139 (by decide) ?_
  refine il_1 dX8_init_117 ?_
  refine R_bipush (v := 6) dX8_init_118 (by decide) ?_
  refine R_icmp_ge (tgt := 142) dX8_init_120 (by decide) (fun q => absurd q (by decide)) (fun _ => ?_)
  refine al_0 dX8_init_123 ?_
  refine R_getfr (r := 88) dX8_init_124 fl_RX8_52 rfl rfl (Nat.le_of_ble_eq_true rfl) rfl ?_
  refine il_1 dX8_init_127 ?_
  refine R_new (ci := 1) (κ' := (19, 790)) dX8_init_128 rfl cl_RX8_50 nw_RX1 mz_RX1 (by decide +kernel) rfl (Nat.le_of_ble_eq_true rfl) ⟨by decide, by decide⟩ ?_
  refine R_dup dX8_init_131 rfl ?_
  refine R_callIN (as := []) (κ' := (1, 100)) (κ'' := (18, 690)) dX8_init_132 mm_RX8_69 ⟨by decide, by decide⟩ rfl (Nat.le_of_ble_eq_true rfl) (Nat.le_of_ble_eq_true rfl) ⟨by decide, by decide⟩ (I1_96 ?_)
  refine R_aast (t := 5) (ci := 1) dX8_init_135 (by decide) rfl (Nat.le_of_ble_eq_true rfl) (rn_ixe (show (2 : Int32) = nI 2 from rfl)) (by decide) rfl rfl rfl (Nat.le_of_ble_eq_true rfl) ?_
  refine ii_1 (v := 3) dX8_init_136 rfl (by decide) ?_
  refine R_goto (tgt := 117) dX8_init_139 (by decide) ?_
  refine il_1 dX8_init_117 ?_
  refine R_bipush (v := 6) dX8_init_118 (by decide) ?_
  refine R_icmp_ge (tgt := 142) dX8_init_120 (by decide) (fun q => absurd q (by decide)) (fun _ => ?_)
  refine al_0 dX8_init_123 ?_
  refine R_getfr (r := 88) dX8_init_124 fl_RX8_52 rfl rfl (Nat.le_of_ble_eq_true rfl) rfl ?_
  refine il_1 dX8_init_127 ?_
  refine R_new (ci := 1) (κ' := (17, 686)) dX8_init_128 rfl cl_RX8_50 nw_RX1 mz_RX1 (by decide +kernel) rfl (Nat.le_of_ble_eq_true rfl) ⟨by decide, by decide⟩ ?_
  refine R_dup dX8_init_131 rfl ?_
  refine R_callIN (as := []) (κ' := (1, 100)) (κ'' := (16, 586)) dX8_init_132 mm_RX8_69 ⟨by decide, by decide⟩ rfl (Nat.le_of_ble_eq_true rfl) (Nat.le_of_ble_eq_true rfl) ⟨by decide, by decide⟩ (I1_98 ?_)
  refine R_aast (t := 5) (ci := 1) dX8_init_135 (by decide) rfl (Nat.le_of_ble_eq_true rfl) (rn_ixe (show (3 : Int32) = nI 3 from rfl)) (by decide) rfl rfl rfl (Nat.le_of_ble_eq_true rfl) ?_
  refine ii_1 (v := 4) dX8_init_136 rfl (by decide) ?_
  refine R_goto (tgt := 117) dX8_init_139 (by decide) ?_
  refine il_1 dX8_init_117 ?_
  refine R_bipush (v := 6) dX8_init_118 (by decide) ?_
  refine R_icmp_ge (tgt := 142) dX8_init_120 (by decide) (fun q => absurd q (by decide)) (fun _ => ?_)
  refine al_0 dX8_init_123 ?_
  refine R_getfr (r := 88) dX8_init_124 fl_RX8_52 rfl rfl (Nat.le_of_ble_eq_true rfl) rfl ?_
  refine il_1 dX8_init_127 ?_
  refine R_new (ci := 1) (κ' := (15, 582)) dX8_init_128 rfl cl_RX8_50 nw_RX1 mz_RX1 (by decide +kernel) rfl (Nat.le_of_ble_eq_true rfl) ⟨by decide, by decide⟩ ?_
  refine R_dup dX8_init_131 rfl ?_
  refine R_callIN (as := []) (κ' := (1, 100)) (κ'' := (14, 482)) dX8_init_132 mm_RX8_69 ⟨by decide, by decide⟩ rfl (Nat.le_of_ble_eq_true rfl) (Nat.le_of_ble_eq_true rfl) ⟨by decide, by decide⟩ (I1_100 ?_)
  refine R_aast (t := 5) (ci := 1) dX8_init_135 (by decide) rfl (Nat.le_of_ble_eq_true rfl) (rn_ixe (show (4 : Int32) = nI 4 from rfl)) (by decide) rfl rfl rfl (Nat.le_of_ble_eq_true rfl) ?_
  refine ii_1 (v := 5) dX8_init_136 rfl (by decide) ?_
  refine R_goto (tgt := 117) dX8_init_139 (by decide) ?_
  refine il_1 dX8_init_117 ?_
  refine R_bipush (v := 6) dX8_init_118 (by decide) ?_
  refine R_icmp_ge (tgt := 142) dX8_init_120 (by decide) (fun q => absurd q (by decide)) (fun _ => ?_)
  refine al_0 dX8_init_123 ?_
  refine R_getfr (r := 88) dX8_init_124 fl_RX8_52 rfl rfl (Nat.le_of_ble_eq_true rfl) rfl ?_
  refine il_1 dX8_init_127 ?_
  refine R_new (ci := 1) (κ' := (13, 478)) dX8_init_128 rfl cl_RX8_50 nw_RX1 mz_RX1 (by decide +kernel) rfl (Nat.le_of_ble_eq_true rfl) ⟨by decide, by decide⟩ ?_
  refine R_dup dX8_init_131 rfl ?_
  refine R_callIN (as := []) (κ' := (1, 100)) (κ'' := (12, 378)) dX8_init_132 mm_RX8_69 ⟨by decide, by decide⟩ rfl (Nat.le_of_ble_eq_true rfl) (Nat.le_of_ble_eq_true rfl) ⟨by decide, by decide⟩ (I1_102 ?_)
  refine R_aast (t := 5) (ci := 1) dX8_init_135 (by decide) rfl (Nat.le_of_ble_eq_true rfl) (rn_ixe (show (5 : Int32) = nI 5 from rfl)) (by decide) rfl rfl rfl (Nat.le_of_ble_eq_true rfl) ?_
  refine ii_1 (v := 6) dX8_init_136 rfl (by decide) ?_
  refine R_goto (tgt := 117) dX8_init_139 (by decide) ?_
  refine il_1 dX8_init_117 ?_
  refine R_bipush (v := 6) dX8_init_118 (by decide) ?_
  refine R_icmp_ge (tgt := 142) dX8_init_120 (by decide) (fun _ => ?_) (fun q => absurd q (by decide))
  refine R_iconst (v := 0) dX8_init_142 (by decide) ?_
  refine is_1 dX8_init_143 rfl ?_
  refine il_1 dX8_init_144 ?_
  refine R_bipush (v := 6) dX8_init_145 (by decide) ?_
  refine R_icmp_ge (tgt := 169) dX8_init_147 (by decide) (fun q => absurd q (by decide)) (fun _ => ?_)
  refine al_0 dX8_init_150 ?_
  refine R_getfr (r := 91) dX8_init_151 fl_RX8_65 rfl rfl (Nat.le_of_ble_eq_true rfl) rfl ?_
  refine il_1 dX8_init_154 ?_
  refine R_new (ci := 7) (κ' := (11, 375)) dX8_init_155 rfl cl_RX8_63 nw_RX7 mz_RX7 (by decide +kernel) rfl (Nat.le_of_ble_eq_true rfl) ⟨by decide, by decide⟩ ?_
  refine R_dup dX8_init_158 rfl ?_
  refine R_callIN (as := []) (κ' := (1, 60)) (κ'' := (10, 315)) dX8_init_159 mm_RX8_70 ⟨by decide, by decide⟩ rfl (Nat.le_of_ble_eq_true rfl) (Nat.le_of_ble_eq_true rfl) ⟨by decide, by decide⟩ (I7_104 ?_)
  refine R_aast (t := 6) (ci := 7) dX8_init_162 (by decide) rfl (Nat.le_of_ble_eq_true rfl) (rn_ixe (show (0 : Int32) = nI 0 from rfl)) (by decide) rfl rfl rfl (Nat.le_of_ble_eq_true rfl) ?_
  refine ii_1 (v := 1) dX8_init_163 rfl (by decide) ?_
  refine R_goto (tgt := 144) dX8_init_166 (by decide) ?_
  refine il_1 dX8_init_144 ?_
  refine R_bipush (v := 6) dX8_init_145 (by decide) ?_
  refine R_icmp_ge (tgt := 169) dX8_init_147 (by decide) (fun q => absurd q (by decide)) (fun _ => ?_)
  refine al_0 dX8_init_150 ?_
  refine R_getfr (r := 91) dX8_init_151 fl_RX8_65 rfl rfl (Nat.le_of_ble_eq_true rfl) rfl ?_
  refine il_1 dX8_init_154 ?_
  refine R_new (ci := 7) (κ' := (9, 312)) dX8_init_155 rfl cl_RX8_63 nw_RX7 mz_RX7 (by decide +kernel) rfl (Nat.le_of_ble_eq_true rfl) ⟨by decide, by decide⟩ ?_
  refine R_dup dX8_init_158 rfl ?_
  refine R_callIN (as := []) (κ' := (1, 60)) (κ'' := (8, 252)) dX8_init_159 mm_RX8_70 ⟨by decide, by decide⟩ rfl (Nat.le_of_ble_eq_true rfl) (Nat.le_of_ble_eq_true rfl) ⟨by decide, by decide⟩ (I7_106 ?_)
  refine R_aast (t := 6) (ci := 7) dX8_init_162 (by decide) rfl (Nat.le_of_ble_eq_true rfl) (rn_ixe (show (1 : Int32) = nI 1 from rfl)) (by decide) rfl rfl rfl (Nat.le_of_ble_eq_true rfl) ?_
  refine ii_1 (v := 2) dX8_init_163 rfl (by decide) ?_
  refine R_goto (tgt := 144) dX8_init_166 (by decide) ?_
  refine il_1 dX8_init_144 ?_
  refine R_bipush (v := 6) dX8_init_145 (by decide) ?_
  refine R_icmp_ge (tgt := 169) dX8_init_147 (by decide) (fun q => absurd q (by decide)) (fun _ => ?_)
  refine al_0 dX8_init_150 ?_
  refine R_getfr (r := 91) dX8_init_151 fl_RX8_65 rfl rfl (Nat.le_of_ble_eq_true rfl) rfl ?_
  refine il_1 dX8_init_154 ?_
  refine R_new (ci := 7) (κ' := (7, 249)) dX8_init_155 rfl cl_RX8_63 nw_RX7 mz_RX7 (by decide +kernel) rfl (Nat.le_of_ble_eq_true rfl) ⟨by decide, by decide⟩ ?_
  refine R_dup dX8_init_158 rfl ?_
  refine R_callIN (as := []) (κ' := (1, 60)) (κ'' := (6, 189)) dX8_init_159 mm_RX8_70 ⟨by decide, by decide⟩ rfl (Nat.le_of_ble_eq_true rfl) (Nat.le_of_ble_eq_true rfl) ⟨by decide, by decide⟩ (I7_108 ?_)
  refine R_aast (t := 6) (ci := 7) dX8_init_162 (by decide) rfl (Nat.le_of_ble_eq_true rfl) (rn_ixe (show (2 : Int32) = nI 2 from rfl)) (by decide) rfl rfl rfl (Nat.le_of_ble_eq_true rfl) ?_
  refine ii_1 (v := 3) dX8_init_163 rfl (by decide) ?_
  refine R_goto (tgt := 144) dX8_init_166 (by decide) ?_
  refine il_1 dX8_init_144 ?_
  refine R_bipush (v := 6) dX8_init_145 (by decide) ?_
  refine R_icmp_ge (tgt := 169) dX8_init_147 (by decide) (fun q => absurd q (by decide)) (fun _ => ?_)
  refine al_0 dX8_init_150 ?_
  refine R_getfr (r := 91) dX8_init_151 fl_RX8_65 rfl rfl (Nat.le_of_ble_eq_true rfl) rfl ?_
  refine il_1 dX8_init_154 ?_
  refine R_new (ci := 7) (κ' := (5, 186)) dX8_init_155 rfl cl_RX8_63 nw_RX7 mz_RX7 (by decide +kernel) rfl (Nat.le_of_ble_eq_true rfl) ⟨by decide, by decide⟩ ?_
  refine R_dup dX8_init_158 rfl ?_
  refine R_callIN (as := []) (κ' := (1, 60)) (κ'' := (4, 126)) dX8_init_159 mm_RX8_70 ⟨by decide, by decide⟩ rfl (Nat.le_of_ble_eq_true rfl) (Nat.le_of_ble_eq_true rfl) ⟨by decide, by decide⟩ (I7_110 ?_)
  refine R_aast (t := 6) (ci := 7) dX8_init_162 (by decide) rfl (Nat.le_of_ble_eq_true rfl) (rn_ixe (show (3 : Int32) = nI 3 from rfl)) (by decide) rfl rfl rfl (Nat.le_of_ble_eq_true rfl) ?_
  refine ii_1 (v := 4) dX8_init_163 rfl (by decide) ?_
  refine R_goto (tgt := 144) dX8_init_166 (by decide) ?_
  refine il_1 dX8_init_144 ?_
  refine R_bipush (v := 6) dX8_init_145 (by decide) ?_
  refine R_icmp_ge (tgt := 169) dX8_init_147 (by decide) (fun q => absurd q (by decide)) (fun _ => ?_)
  refine al_0 dX8_init_150 ?_
  refine R_getfr (r := 91) dX8_init_151 fl_RX8_65 rfl rfl (Nat.le_of_ble_eq_true rfl) rfl ?_
  refine il_1 dX8_init_154 ?_
  refine R_new (ci := 7) (κ' := (3, 123)) dX8_init_155 rfl cl_RX8_63 nw_RX7 mz_RX7 (by decide +kernel) rfl (Nat.le_of_ble_eq_true rfl) ⟨by decide, by decide⟩ ?_
  refine R_dup dX8_init_158 rfl ?_
  refine R_callIN (as := []) (κ' := (1, 60)) (κ'' := (2, 63)) dX8_init_159 mm_RX8_70 ⟨by decide, by decide⟩ rfl (Nat.le_of_ble_eq_true rfl) (Nat.le_of_ble_eq_true rfl) ⟨by decide, by decide⟩ (I7_112 ?_)
  refine R_aast (t := 6) (ci := 7) dX8_init_162 (by decide) rfl (Nat.le_of_ble_eq_true rfl) (rn_ixe (show (4 : Int32) = nI 4 from rfl)) (by decide) rfl rfl rfl (Nat.le_of_ble_eq_true rfl) ?_
  refine ii_1 (v := 5) dX8_init_163 rfl (by decide) ?_
  refine R_goto (tgt := 144) dX8_init_166 (by decide) ?_
  refine il_1 dX8_init_144 ?_
  refine R_bipush (v := 6) dX8_init_145 (by decide) ?_
  refine R_icmp_ge (tgt := 169) dX8_init_147 (by decide) (fun q => absurd q (by decide)) (fun _ => ?_)
  refine al_0 dX8_init_150 ?_
  refine R_getfr (r := 91) dX8_init_151 fl_RX8_65 rfl rfl (Nat.le_of_ble_eq_true rfl) rfl ?_
  refine il_1 dX8_init_154 ?_
  refine R_new (ci := 7) (κ' := (1, 60)) dX8_init_155 rfl cl_RX8_63 nw_RX7 mz_RX7 (by decide +kernel) rfl (Nat.le_of_ble_eq_true rfl) ⟨by decide, by decide⟩ ?_
  refine R_dup dX8_init_158 rfl ?_
  refine R_callIN (as := []) (κ' := (1, 60)) (κ'' := (0, 0)) dX8_init_159 mm_RX8_70 ⟨by decide, by decide⟩ rfl (Nat.le_of_ble_eq_true rfl) (Nat.le_of_ble_eq_true rfl) ⟨by decide, by decide⟩ (I7_114 ?_)
  refine R_aast (t := 6) (ci := 7) dX8_init_162 (by decide) rfl (Nat.le_of_ble_eq_true rfl) (rn_ixe (show (5 : Int32) = nI 5 from rfl)) (by decide) rfl rfl rfl (Nat.le_of_ble_eq_true rfl) ?_
  refine ii_1 (v := 6) dX8_init_163 rfl (by decide) ?_
  refine R_goto (tgt := 144) dX8_init_166 (by decide) ?_
  refine il_1 dX8_init_144 ?_
  refine R_bipush (v := 6) dX8_init_145 (by decide) ?_
  refine R_icmp_ge (tgt := 169) dX8_init_147 (by decide) (fun _ => ?_) (fun q => absurd q (by decide))
  exact R_return dX8_init_169 rfl h

set_option maxHeartbeats 4000000 in
theorem I9_116 {G : rn_G} {d : Nat} {Q : Option Value → rn_S → Prop} {mi : Nat → Nat → Int32} {ml : Nat → Nat → Int64} {rf : Nat → Nat → Nat} (h : Q none ((rn_z (rn_z (rn_z (rn_u (rn_u (rn_u (rn_u (rn_u (rn_u (rn_z (rn_z (rn_u (rn_z (rn_z (rn_z (rn_z (rn_z (rn_z (rn_z (rn_z (rn_z (rn_z (rn_z (rn_z (rn_z (rn_z (rn_u (rn_u (rn_u (rn_u (rn_u (rn_u (rn_u (rn_u (rn_u (rn_u (rn_u (rn_u (rn_u (rn_u (rn_z (rn_z (rn_z (rn_z (rn_u (rn_u (rn_z (rn_z (rn_z (rn_u (rn_z (rn_z (rn_z (rn_u (rn_u (rn_u (rn_u (rn_u (rn_u (rn_u (rn_u (rn_z (rn_z (rn_u (rn_u (rn_u (rn_u (rn_u (rn_u (rn_u (rn_u (rn_u (rn_u (rn_u (rn_u (rn_u (rn_u (rn_u (rn_u (rn_u (rn_u (rn_u (rn_z (rn_u (rn_u (rn_u (rn_z (rn_z (rn_z (rn_z (rn_z (rn_z (rn_z (rn_z (rn_u (rn_u (rn_u (rn_u (rn_u (rn_z (rn_z (rn_z (rn_z (rn_z (rn_z (rn_z (rn_u (rn_u (rn_u (rn_u (rn_u (rn_u (rn_u (rn_u (rn_u mi 116 0 0) 116 1 0) 116 2 0) 116 3 0) 116 4 0) 116 5 0) 116 6 0) 116 7 0) 116 8 0) 117 0) 118 0) 119 0) 120 0) 121 0) 122 0) 123 0) 116 16 0) 116 17 (-1)) 116 18 0) 116 19 0) 116 20 0) 124 0) 125 0) 126 0) 127 0) 128 0) 129 0) 130 0) 131 0) 116 29 0) 116 30 0) 116 31 0) 132 0) 132 0 107) 132 1 101) 132 2 101) 132 3 110) 132 4 100) 132 5 101) 132 6 97) 132 7 102) 132 8 98) 132 9 101) 132 10 108) 132 11 108) 132 12 112) 132 13 97) 132 14 99) 132 15 101) 116 33 (-1)) 116 34 0) 116 35 (-1)) 133 0) 134 0) 116 38 0) 116 39 0) 116 40 0) 116 41 0) 116 42 0) 116 43 0) 116 44 0) 116 45 0) 135 0) 136 0) 137 0) 116 49 0) 138 0) 139 0) 140 0) 116 53 0) 116 54 0) 141 0) 142 0) 143 0) 144 0) 116 59 0) 116 60 (-1)) 116 61 0) 116 62 0) 116 63 0) 116 64 0) 116 65 0) 116 66 0) 116 67 0) 116 68 0) 116 69 0) 116 70 0) 116 71 0) 116 72 0) 145 0) 146 0) 147 0) 148 0) 149 0) 150 0) 151 0) 152 0) 153 0) 154 0) 155 0) 156 0) 157 0) 158 0) 116 87 0) 159 0) 160 0) 160 0 (-1)) 160 1 (-1)) 160 2 (-1)) 160 3 (-1)) 160 4 (-1)) 160 5 (-1)) 161 0) 162 0) 163 0), (rn_z (rn_z (rn_z (rn_z (rn_z (rn_z (rn_z (rn_z (rn_z (rn_z (rn_z (rn_z (rn_z (rn_z (rn_z (rn_z (rn_z (rn_z (rn_z (rn_z (rn_z (rn_z (rn_z (rn_z (rn_z (rn_z (rn_z (rn_z (rn_z (rn_z (rn_z (rn_z (rn_z (rn_z (rn_z (rn_z (rn_z (rn_z (rn_z (rn_z (rn_z (rn_z (rn_z (rn_z (rn_z (rn_z (rn_z ml 117 0) 118 0) 119 0) 120 0) 121 0) 122 0) 123 0) 124 0) 125 0) 126 0) 127 0) 128 0) 129 0) 130 0) 131 0) 132 0) 133 0) 134 0) 135 0) 136 0) 137 0) 138 0) 139 0) 140 0) 141 0) 142 0) 143 0) 144 0) 145 0) 146 0) 147 0) 148 0) 149 0) 150 0) 151 0) 152 0) 153 0) 154 0) 155 0) 156 0) 157 0) 158 0) 159 0) 160 0) 161 0) 162 0) 163 0), (rn_u (rn_z (rn_u (rn_z (rn_u (rn_z (rn_u (rn_z (rn_u (rn_z (rn_u (rn_z (rn_u (rn_z (rn_u (rn_z (rn_u (rn_z (rn_u (rn_z (rn_u (rn_z (rn_u (rn_z (rn_u (rn_z (rn_u (rn_z (rn_u (rn_z (rn_u (rn_z (rn_u (rn_z (rn_u (rn_z (rn_u (rn_z (rn_u (rn_z (rn_u (rn_z (rn_u (rn_z (rn_u (rn_z (rn_u (rn_z (rn_u (rn_z (rn_u (rn_z (rn_u (rn_z (rn_u (rn_z (rn_u (rn_z (rn_u (rn_z (rn_u (rn_z (rn_u (rn_z (rn_u (rn_z (rn_u (rn_z (rn_u (rn_z (rn_u (rn_z (rn_u (rn_z (rn_u (rn_z (rn_u (rn_z (rn_u (rn_z (rn_u (rn_z (rn_u (rn_z (rn_u (rn_z (rn_u (rn_z (rn_u (rn_z (rn_u (rn_z (rn_u (rn_z rf 117 0) 116 9 117) 118 0) 116 10 118) 119 0) 116 11 119) 120 0) 116 12 120) 121 0) 116 13 121) 122 0) 116 14 122) 123 0) 116 15 123) 124 0) 116 21 124) 125 0) 116 22 125) 126 0) 116 23 126) 127 0) 116 24 127) 128 0) 116 25 128) 129 0) 116 26 129) 130 0) 116 27 130) 131 0) 116 28 131) 132 0) 116 32 132) 133 0) 116 36 133) 134 0) 116 37 134) 135 0) 116 46 135) 136 0) 116 47 136) 137 0) 116 48 137) 138 0) 116 50 138) 139 0) 116 51 139) 140 0) 116 52 140) 141 0) 116 55 141) 142 0) 116 56 142) 143 0) 116 57 143) 144 0) 116 58 144) 145 0) 116 73 145) 146 0) 116 74 146) 147 0) 116 75 147) 148 0) 116 76 148) 149 0) 116 77 149) 150 0) 116 78 150) 151 0) 116 79 151) 152 0) 116 80 152) 153 0) 116 81 153) 154 0) 116 82 154) 155 0) 116 83 155) 156 0) 116 84 156) 157 0) 116 85 157) 158 0) 116 86 158) 159 0) 116 88 159) 160 0) 116 89 160) 161 0) 116 90 161) 162 0) 116 91 162) 163 0) 116 92 163), 164)) : Call G (d + 1) M_X9_init [.ref 116] (mi, ml, rf, 117) (47, 1861) Q := by
  show Run G _ M_X9_init 0 [.ref 116] [] _ _ _
  refine al_0 dX9_init_0 ?_
  refine R_objInit dX9_init_1 ob_RX9_1 mi_obj mi_objc ⟨by decide, by decide⟩ (Nat.le_of_ble_eq_true rfl) ?_
  refine al_0 dX9_init_4 ?_
  refine R_iconst (v := 0) dX9_init_5 (by decide) ?_
  refine R_putfi dX9_init_6 fl_RX9_7 rfl (Or.inl rfl) rfl (Nat.le_of_ble_eq_true rfl) rfl rfl ?_
  refine al_0 dX9_init_9 ?_
  refine R_iconst (v := 0) dX9_init_10 (by decide) ?_
  refine R_putfi dX9_init_11 fl_RX9_13 rfl (Or.inl rfl) rfl (Nat.le_of_ble_eq_true rfl) rfl rfl ?_
  refine al_0 dX9_init_14 ?_
  refine R_iconst (v := 0) dX9_init_15 (by decide) ?_
  refine R_putfi dX9_init_16 fl_RX9_16 rfl (Or.inl rfl) rfl (Nat.le_of_ble_eq_true rfl) rfl rfl ?_
  refine al_0 dX9_init_19 ?_
  refine R_iconst (v := 0) dX9_init_20 (by decide) ?_
  refine R_putfi dX9_init_21 fl_RX9_19 rfl (Or.inl rfl) rfl (Nat.le_of_ble_eq_true rfl) rfl rfl ?_
  refine al_0 dX9_init_24 ?_
  refine R_iconst (v := 0) dX9_init_25 (by decide) ?_
  refine R_putfi dX9_init_26 fl_RX9_22 rfl (Or.inl rfl) rfl (Nat.le_of_ble_eq_true rfl) rfl rfl ?_
  refine al_0 dX9_init_29 ?_
  refine R_iconst (v := 0) dX9_init_30 (by decide) ?_
  refine R_putfi dX9_init_31 fl_RX9_25 rfl (Or.inl rfl) rfl (Nat.le_of_ble_eq_true rfl) rfl rfl ?_
  refine al_0 dX9_init_34 ?_
  refine R_iconst (v := 0) dX9_init_35 (by decide) ?_
  refine R_putfi dX9_init_36 fl_RX9_28 rfl (Or.inl rfl) rfl (Nat.le_of_ble_eq_true rfl) rfl rfl ?_
  refine al_0 dX9_init_39 ?_
  refine R_iconst (v := 0) dX9_init_40 (by decide) ?_
  refine R_putfi dX9_init_41 fl_RX9_31 rfl (Or.inl rfl) rfl (Nat.le_of_ble_eq_true rfl) rfl rfl ?_
  refine al_0 dX9_init_44 ?_
  refine R_iconst (v := 0) dX9_init_45 (by decide) ?_
  refine R_putfi dX9_init_46 fl_RX9_34 rfl (Or.inl rfl) rfl (Nat.le_of_ble_eq_true rfl) rfl rfl ?_
  refine al_0 dX9_init_49 ?_
  refine R_bipush (v := 6) dX9_init_50 (by decide) ?_
  refine R_newaI (L := 6) (κ' := (46, 1855)) dX9_init_52 mk_int (rn_ixe (show (6 : Int32) = nI 6 from rfl)) (by decide) rfl (Nat.le_of_ble_eq_true rfl) ⟨by decide, by decide⟩ ?_
  refine R_putfr dX9_init_54 fl_RX9_37 rfl (Or.inr ⟨rfl, rfl, rfl⟩) rfl (Nat.le_of_ble_eq_true rfl) ?_
  refine al_0 dX9_init_57 ?_
  refine R_bipush (v := 6) dX9_init_58 (by decide) ?_
  refine R_newaI (L := 6) (κ' := (45, 1849)) dX9_init_60 mk_int (rn_ixe (show (6 : Int32) = nI 6 from rfl)) (by decide) rfl (Nat.le_of_ble_eq_true rfl) ⟨by decide, by decide⟩ ?_
  refine R_putfr dX9_init_62 fl_RX9_41 rfl (Or.inr ⟨rfl, rfl, rfl⟩) rfl (Nat.le_of_ble_eq_true rfl) ?_
  refine al_0 dX9_init_65 ?_
  refine R_bipush (v := 6) dX9_init_66 (by decide) ?_
  refine R_newaI (L := 6) (κ' := (44, 1843)) dX9_init_68 mk_int (rn_ixe (show (6 : Int32) = nI 6 from rfl)) (by decide) rfl (Nat.le_of_ble_eq_true rfl) ⟨by decide, by decide⟩ ?_
  refine R_putfr dX9_init_70 fl_RX9_44 rfl (Or.inr ⟨rfl, rfl, rfl⟩) rfl (Nat.le_of_ble_eq_true rfl) ?_
  refine al_0 dX9_init_73 ?_
  refine R_bipush (v := 6) dX9_init_74 (by decide) ?_
  refine R_newaI (L := 6) (κ' := (43, 1837)) dX9_init_76 mk_int (rn_ixe (show (6 : Int32) = nI 6 from rfl)) (by decide) rfl (Nat.le_of_ble_eq_true rfl) ⟨by decide, by decide⟩ ?_
  refine R_putfr dX9_init_78 fl_RX9_47 rfl (Or.inr ⟨rfl, rfl, rfl⟩) rfl (Nat.le_of_ble_eq_true rfl) ?_
  refine al_0 dX9_init_81 ?_
  refine R_bipush (v := 6) dX9_init_82 (by decide) ?_
  refine R_newaI (L := 6) (κ' := (42, 1831)) dX9_init_84 mk_int (rn_ixe (show (6 : Int32) = nI 6 from rfl)) (by decide) rfl (Nat.le_of_ble_eq_true rfl) ⟨by decide, by decide⟩ ?_
  refine R_putfr dX9_init_86 fl_RX9_50 rfl (Or.inr ⟨rfl, rfl, rfl⟩) rfl (Nat.le_of_ble_eq_true rfl) ?_
  refine al_0 dX9_init_89 ?_
  refine R_bipush (v := 24) dX9_init_90 (by decide) ?_
  refine R_newaI (L := 24) (κ' := (41, 1807)) dX9_init_92 mk_int (rn_ixe (show (24 : Int32) = nI 24 from rfl)) (by decide) rfl (Nat.le_of_ble_eq_true rfl) ⟨by decide, by decide⟩ ?_
  refine R_putfr dX9_init_94 fl_RX9_53 rfl (Or.inr ⟨rfl, rfl, rfl⟩) rfl (Nat.le_of_ble_eq_true rfl) ?_
  refine al_0 dX9_init_97 ?_
  refine R_bipush (v := 6) dX9_init_98 (by decide) ?_
  refine R_newaI (L := 6) (κ' := (40, 1801)) dX9_init_100 mk_int (rn_ixe (show (6 : Int32) = nI 6 from rfl)) (by decide) rfl (Nat.le_of_ble_eq_true rfl) ⟨by decide, by decide⟩ ?_
  refine R_putfr dX9_init_102 fl_RX9_56 rfl (Or.inr ⟨rfl, rfl, rfl⟩) rfl (Nat.le_of_ble_eq_true rfl) ?_
  refine al_0 dX9_init_105 ?_
  refine R_iconst (v := 0) dX9_init_106 (by decide) ?_
  refine R_putfi dX9_init_107 fl_RX9_59 rfl (Or.inl rfl) rfl (Nat.le_of_ble_eq_true rfl) rfl rfl ?_
  refine al_0 dX9_init_110 ?_
  refine R_iconst (v := -1) dX9_init_111 (by decide) ?_
  refine R_putfi dX9_init_112 fl_RX9_62 rfl (Or.inl rfl) rfl (Nat.le_of_ble_eq_true rfl) rfl rfl ?_
  refine al_0 dX9_init_115 ?_
  refine R_iconst (v := 0) dX9_init_116 (by decide) ?_
  refine R_putfi dX9_init_117 fl_RX9_65 rfl (Or.inl rfl) rfl (Nat.le_of_ble_eq_true rfl) rfl rfl ?_
  refine al_0 dX9_init_120 ?_
  refine R_iconst (v := 0) dX9_init_121 (by decide) ?_
  refine R_putfi dX9_init_122 fl_RX9_68 rfl (Or.inl rfl) rfl (Nat.le_of_ble_eq_true rfl) rfl rfl ?_
  refine al_0 dX9_init_125 ?_
  refine R_iconst (v := 0) dX9_init_126 (by decide) ?_
  refine R_putfi dX9_init_127 fl_RX9_71 rfl (Or.inl rfl) rfl (Nat.le_of_ble_eq_true rfl) rfl rfl ?_
  refine al_0 dX9_init_130 ?_
  refine R_bipush (v := 100) dX9_init_131 (by decide) ?_
  refine R_newaI (L := 100) (κ' := (39, 1701)) dX9_init_133 mk_int (rn_ixe (show (100 : Int32) = nI 100 from rfl)) (by decide) rfl (Nat.le_of_ble_eq_true rfl) ⟨by decide, by decide⟩ ?_
  refine R_putfr dX9_init_135 fl_RX9_74 rfl (Or.inr ⟨rfl, rfl, rfl⟩) rfl (Nat.le_of_ble_eq_true rfl) ?_
  refine al_0 dX9_init_138 ?_
  refine R_bipush (v := 6) dX9_init_139 (by decide) ?_
  refine R_newaI (L := 6) (κ' := (38, 1695)) dX9_init_141 mk_int (rn_ixe (show (6 : Int32) = nI 6 from rfl)) (by decide) rfl (Nat.le_of_ble_eq_true rfl) ⟨by decide, by decide⟩ ?_
  refine R_putfr dX9_init_143 fl_RX9_77 rfl (Or.inr ⟨rfl, rfl, rfl⟩) rfl (Nat.le_of_ble_eq_true rfl) ?_
  refine al_0 dX9_init_146 ?_
  refine R_bipush (v := 60) dX9_init_147 (by decide) ?_
  refine R_newaI (L := 60) (κ' := (37, 1635)) dX9_init_149 mk_int (rn_ixe (show (60 : Int32) = nI 60 from rfl)) (by decide) rfl (Nat.le_of_ble_eq_true rfl) ⟨by decide, by decide⟩ ?_
  refine R_putfr dX9_init_151 fl_RX9_80 rfl (Or.inr ⟨rfl, rfl, rfl⟩) rfl (Nat.le_of_ble_eq_true rfl) ?_
  refine al_0 dX9_init_154 ?_
  refine R_bipush (v := 60) dX9_init_155 (by decide) ?_
  refine R_newaI (L := 60) (κ' := (36, 1575)) dX9_init_157 mk_int (rn_ixe (show (60 : Int32) = nI 60 from rfl)) (by decide) rfl (Nat.le_of_ble_eq_true rfl) ⟨by decide, by decide⟩ ?_
  refine R_putfr dX9_init_159 fl_RX9_83 rfl (Or.inr ⟨rfl, rfl, rfl⟩) rfl (Nat.le_of_ble_eq_true rfl) ?_
  refine al_0 dX9_init_162 ?_
  refine R_bipush (v := 60) dX9_init_163 (by decide) ?_
  refine R_newaI (L := 60) (κ' := (35, 1515)) dX9_init_165 mk_int (rn_ixe (show (60 : Int32) = nI 60 from rfl)) (by decide) rfl (Nat.le_of_ble_eq_true rfl) ⟨by decide, by decide⟩ ?_
  refine R_putfr dX9_init_167 fl_RX9_86 rfl (Or.inr ⟨rfl, rfl, rfl⟩) rfl (Nat.le_of_ble_eq_true rfl) ?_
  refine al_0 dX9_init_170 ?_
  refine R_bipush (v := 60) dX9_init_171 (by decide) ?_
  refine R_newaI (L := 60) (κ' := (34, 1455)) dX9_init_173 mk_int (rn_ixe (show (60 : Int32) = nI 60 from rfl)) (by decide) rfl (Nat.le_of_ble_eq_true rfl) ⟨by decide, by decide⟩ ?_
  refine R_putfr dX9_init_175 fl_RX9_89 rfl (Or.inr ⟨rfl, rfl, rfl⟩) rfl (Nat.le_of_ble_eq_true rfl) ?_
  refine al_0 dX9_init_178 ?_
  refine R_sipush (v := 600) dX9_init_179 (by decide) ?_
  refine R_newaI (L := 600) (κ' := (33, 855)) dX9_init_182 mk_int (rn_ixe (show (600 : Int32) = nI 600 from rfl)) (by decide) rfl (Nat.le_of_ble_eq_true rfl) ⟨by decide, by decide⟩ ?_
  refine R_putfr dX9_init_184 fl_RX9_92 rfl (Or.inr ⟨rfl, rfl, rfl⟩) rfl (Nat.le_of_ble_eq_true rfl) ?_
  refine al_0 dX9_init_187 ?_
  refine R_bipush (v := 101) dX9_init_188 (by decide) ?_
  refine R_newaI (L := 101) (κ' := (32, 754)) dX9_init_190 mk_int (rn_ixe (show (101 : Int32) = nI 101 from rfl)) (by decide) rfl (Nat.le_of_ble_eq_true rfl) ⟨by decide, by decide⟩ ?_
  refine R_putfr dX9_init_192 fl_RX9_95 rfl (Or.inr ⟨rfl, rfl, rfl⟩) rfl (Nat.le_of_ble_eq_true rfl) ?_
  refine al_0 dX9_init_195 ?_
  refine R_iconst (v := 0) dX9_init_196 (by decide) ?_
  refine R_putfi dX9_init_197 fl_RX9_98 rfl (Or.inl rfl) rfl (Nat.le_of_ble_eq_true rfl) rfl rfl ?_
  refine al_0 dX9_init_200 ?_
  refine R_iconst (v := 0) dX9_init_201 (by decide) ?_
  refine R_putfi dX9_init_202 fl_RX9_101 rfl (Or.inl rfl) rfl (Nat.le_of_ble_eq_true rfl) rfl rfl ?_
  refine al_0 dX9_init_205 ?_
  refine R_iconst (v := 0) dX9_init_206 (by decide) ?_
  refine R_putfi dX9_init_207 fl_RX9_104 rfl (Or.inl rfl) rfl (Nat.le_of_ble_eq_true rfl) rfl rfl ?_
  refine al_0 dX9_init_210 ?_
  refine R_bipush (v := 16) dX9_init_211 (by decide) ?_
  refine R_newaI (L := 16) (κ' := (31, 738)) dX9_init_213 mk_int (rn_ixe (show (16 : Int32) = nI 16 from rfl)) (by decide) rfl (Nat.le_of_ble_eq_true rfl) ⟨by decide, by decide⟩ ?_
  refine R_dup dX9_init_215 rfl ?_
  refine R_iconst (v := 0) dX9_init_216 (by decide) ?_
  refine R_bipush (v := 107) dX9_init_217 (by decide) ?_
  refine R_iast dX9_init_219 rfl (Nat.le_of_ble_eq_true rfl) (rn_ixe (show (0 : Int32) = nI 0 from rfl)) (by decide) ?_
  refine R_dup dX9_init_220 rfl ?_
  refine R_iconst (v := 1) dX9_init_221 (by decide) ?_
  refine R_bipush (v := 101) dX9_init_222 (by decide) ?_
  refine R_iast dX9_init_224 rfl (Nat.le_of_ble_eq_true rfl) (rn_ixe (show (1 : Int32) = nI 1 from rfl)) (by decide) ?_
  refine R_dup dX9_init_225 rfl ?_
  refine R_iconst (v := 2) dX9_init_226 (by decide) ?_
  refine R_bipush (v := 101) dX9_init_227 (by decide) ?_
  refine R_iast dX9_init_229 rfl (Nat.le_of_ble_eq_true rfl) (rn_ixe (show (2 : Int32) = nI 2 from rfl)) (by decide) ?_
  refine R_dup dX9_init_230 rfl ?_
  refine R_iconst (v := 3) dX9_init_231 (by decide) ?_
  refine R_bipush (v := 110) dX9_init_232 (by decide) ?_
  refine R_iast dX9_init_234 rfl (Nat.le_of_ble_eq_true rfl) (rn_ixe (show (3 : Int32) = nI 3 from rfl)) (by decide) ?_
  refine R_dup dX9_init_235 rfl ?_
  refine R_iconst (v := 4) dX9_init_236 (by decide) ?_
  refine R_bipush (v := 100) dX9_init_237 (by decide) ?_
  refine R_iast dX9_init_239 rfl (Nat.le_of_ble_eq_true rfl) (rn_ixe (show (4 : Int32) = nI 4 from rfl)) (by decide) ?_
  refine R_dup dX9_init_240 rfl ?_
  refine R_iconst (v := 5) dX9_init_241 (by decide) ?_
  refine R_bipush (v := 101) dX9_init_242 (by decide) ?_
  refine R_iast dX9_init_244 rfl (Nat.le_of_ble_eq_true rfl) (rn_ixe (show (5 : Int32) = nI 5 from rfl)) (by decide) ?_
  refine R_dup dX9_init_245 rfl ?_
  refine R_bipush (v := 6) dX9_init_246 (by decide) ?_
  refine R_bipush (v := 97) dX9_init_248 (by decide) ?_
  refine R_iast dX9_init_250 rfl (Nat.le_of_ble_eq_true rfl) (rn_ixe (show (6 : Int32) = nI 6 from rfl)) (by decide) ?_
  refine R_dup dX9_init_251 rfl ?_
  refine R_bipush (v := 7) dX9_init_252 (by decide) ?_
  refine R_bipush (v := 102) dX9_init_254 (by decide) ?_
  refine R_iast dX9_init_256 rfl (Nat.le_of_ble_eq_true rfl) (rn_ixe (show (7 : Int32) = nI 7 from rfl)) (by decide) ?_
  refine R_dup dX9_init_257 rfl ?_
  refine R_bipush (v := 8) dX9_init_258 (by decide) ?_
  refine R_bipush (v := 98) dX9_init_260 (by decide) ?_
  refine R_iast dX9_init_262 rfl (Nat.le_of_ble_eq_true rfl) (rn_ixe (show (8 : Int32) = nI 8 from rfl)) (by decide) ?_
  refine R_dup dX9_init_263 rfl ?_
  refine R_bipush (v := 9) dX9_init_264 (by decide) ?_
  refine R_bipush (v := 101) dX9_init_266 (by decide) ?_
  refine R_iast dX9_init_268 rfl (Nat.le_of_ble_eq_true rfl) (rn_ixe (show (9 : Int32) = nI 9 from rfl)) (by decide) ?_
  refine R_dup dX9_init_269 rfl ?_
  refine R_bipush (v := 10) dX9_init_270 (by decide) ?_
  refine R_bipush (v := 108) dX9_init_272 (by decide) ?_
  refine R_iast dX9_init_274 rfl (Nat.le_of_ble_eq_true rfl) (rn_ixe (show (10 : Int32) = nI 10 from rfl)) (by decide) ?_
  refine R_dup dX9_init_275 rfl ?_
  refine R_bipush (v := 11) dX9_init_276 (by decide) ?_
  refine R_bipush (v := 108) dX9_init_278 (by decide) ?_
  refine R_iast dX9_init_280 rfl (Nat.le_of_ble_eq_true rfl) (rn_ixe (show (11 : Int32) = nI 11 from rfl)) (by decide) ?_
  refine R_dup dX9_init_281 rfl ?_
  refine R_bipush (v := 12) dX9_init_282 (by decide) ?_
  refine R_bipush (v := 112) dX9_init_284 (by decide) ?_
  refine R_iast dX9_init_286 rfl (Nat.le_of_ble_eq_true rfl) (rn_ixe (show (12 : Int32) = nI 12 from rfl)) (by decide) ?_
  refine R_dup dX9_init_287 rfl ?_
  refine R_bipush (v := 13) dX9_init_288 (by decide) ?_
  refine R_bipush (v := 97) dX9_init_290 (by decide) ?_
  refine R_iast dX9_init_292 rfl (Nat.le_of_ble_eq_true rfl) (rn_ixe (show (13 : Int32) = nI 13 from rfl)) (by decide) ?_
  refine R_dup dX9_init_293 rfl ?_
  refine R_bipush (v := 14) dX9_init_294 (by decide) ?_
  refine R_bipush (v := 99) dX9_init_296 (by decide) ?_
  refine R_iast dX9_init_298 rfl (Nat.le_of_ble_eq_true rfl) (rn_ixe (show (14 : Int32) = nI 14 from rfl)) (by decide) ?_
  refine R_dup dX9_init_299 rfl ?_
  refine R_bipush (v := 15) dX9_init_300 (by decide) ?_
  refine R_bipush (v := 101) dX9_init_302 (by decide) ?_
  refine R_iast dX9_init_304 rfl (Nat.le_of_ble_eq_true rfl) (rn_ixe (show (15 : Int32) = nI 15 from rfl)) (by decide) ?_
  refine R_putfr dX9_init_305 fl_RX9_107 rfl (Or.inr ⟨rfl, rfl, rfl⟩) rfl (Nat.le_of_ble_eq_true rfl) ?_
  refine al_0 dX9_init_308 ?_
  refine R_iconst (v := -1) dX9_init_309 (by decide) ?_
  refine R_putfi dX9_init_310 fl_RX9_110 rfl (Or.inl rfl) rfl (Nat.le_of_ble_eq_true rfl) rfl rfl ?_
  refine al_0 dX9_init_313 ?_
  refine R_iconst (v := 0) dX9_init_314 (by decide) ?_
  refine R_putfi dX9_init_315 fl_RX9_113 rfl (Or.inl rfl) rfl (Nat.le_of_ble_eq_true rfl) rfl rfl ?_
  refine al_0 dX9_init_318 ?_
  refine R_iconst (v := -1) dX9_init_319 (by decide) ?_
  refine R_putfi dX9_init_320 fl_RX9_116 rfl (Or.inl rfl) rfl (Nat.le_of_ble_eq_true rfl) rfl rfl ?_
  refine al_0 dX9_init_323 ?_
  refine R_bipush (v := 100) dX9_init_324 (by decide) ?_
  refine R_newaZ (L := 100) (κ' := (30, 638)) dX9_init_326 mk_boolean (rn_ixe (show (100 : Int32) = nI 100 from rfl)) (by decide) rfl (Nat.le_of_ble_eq_true rfl) ⟨by decide, by decide⟩ ?_
  refine R_putfr dX9_init_328 fl_RX9_119 rfl (Or.inr ⟨rfl, rfl, rfl⟩) rfl (Nat.le_of_ble_eq_true rfl) ?_
  refine al_0 dX9_init_331 ?_
  refine R_bipush (v := 6) dX9_init_332 (by decide) ?_
  refine R_newaI (L := 6) (κ' := (29, 632)) dX9_init_334 mk_int (rn_ixe (show (6 : Int32) = nI 6 from rfl)) (by decide) rfl (Nat.le_of_ble_eq_true rfl) ⟨by decide, by decide⟩ ?_
  refine R_putfr dX9_init_336 fl_RX9_123 rfl (Or.inr ⟨rfl, rfl, rfl⟩) rfl (Nat.le_of_ble_eq_true rfl) ?_
  refine al_0 dX9_init_339 ?_
  refine R_iconst (v := 0) dX9_init_340 (by decide) ?_
  refine R_putfi dX9_init_341 fl_RX9_126 rfl (Or.inl rfl) rfl (Nat.le_of_ble_eq_true rfl) rfl rfl ?_
  refine al_0 dX9_init_344 ?_
  refine R_iconst (v := 0) dX9_init_345 (by decide) ?_
  refine R_putfi dX9_init_346 fl_RX9_129 rfl (Or.inl rfl) rfl (Nat.le_of_ble_eq_true rfl) rfl rfl ?_
  refine al_0 dX9_init_349 ?_
  refine R_iconst (v := 0) dX9_init_350 (by decide) ?_
  refine R_putfi dX9_init_351 fl_RX9_132 rfl (Or.inl rfl) rfl (Nat.le_of_ble_eq_true rfl) rfl rfl ?_
  refine al_0 dX9_init_354 ?_
  refine R_iconst (v := 0) dX9_init_355 (by decide) ?_
  refine R_putfi dX9_init_356 fl_RX9_135 rfl (Or.inl rfl) rfl (Nat.le_of_ble_eq_true rfl) rfl rfl ?_
  refine al_0 dX9_init_359 ?_
  refine R_iconst (v := 0) dX9_init_360 (by decide) ?_
  refine R_putfi dX9_init_361 fl_RX9_138 rfl (Or.inl rfl) rfl (Nat.le_of_ble_eq_true rfl) rfl rfl ?_
  refine al_0 dX9_init_364 ?_
  refine R_iconst (v := 0) dX9_init_365 (by decide) ?_
  refine R_putfi dX9_init_366 fl_RX9_141 rfl (Or.inl rfl) rfl (Nat.le_of_ble_eq_true rfl) rfl rfl ?_
  refine al_0 dX9_init_369 ?_
  refine R_iconst (v := 0) dX9_init_370 (by decide) ?_
  refine R_putfi dX9_init_371 fl_RX9_144 rfl (Or.inl rfl) rfl (Nat.le_of_ble_eq_true rfl) rfl rfl ?_
  refine al_0 dX9_init_374 ?_
  refine R_iconst (v := 0) dX9_init_375 (by decide) ?_
  refine R_putfi dX9_init_376 fl_RX9_147 rfl (Or.inl rfl) rfl (Nat.le_of_ble_eq_true rfl) rfl rfl ?_
  refine al_0 dX9_init_379 ?_
  refine R_bipush (v := 6) dX9_init_380 (by decide) ?_
  refine R_newaI (L := 6) (κ' := (28, 626)) dX9_init_382 mk_int (rn_ixe (show (6 : Int32) = nI 6 from rfl)) (by decide) rfl (Nat.le_of_ble_eq_true rfl) ⟨by decide, by decide⟩ ?_
  refine R_putfr dX9_init_384 fl_RX9_150 rfl (Or.inr ⟨rfl, rfl, rfl⟩) rfl (Nat.le_of_ble_eq_true rfl) ?_
  refine al_0 dX9_init_387 ?_
  refine R_bipush (v := 6) dX9_init_388 (by decide) ?_
  refine R_newaI (L := 6) (κ' := (27, 620)) dX9_init_390 mk_int (rn_ixe (show (6 : Int32) = nI 6 from rfl)) (by decide) rfl (Nat.le_of_ble_eq_true rfl) ⟨by decide, by decide⟩ ?_
  refine R_putfr dX9_init_392 fl_RX9_153 rfl (Or.inr ⟨rfl, rfl, rfl⟩) rfl (Nat.le_of_ble_eq_true rfl) ?_
  refine al_0 dX9_init_395 ?_
  refine R_bipush (v := 6) dX9_init_396 (by decide) ?_
  refine R_newaI (L := 6) (κ' := (26, 614)) dX9_init_398 mk_int (rn_ixe (show (6 : Int32) = nI 6 from rfl)) (by decide) rfl (Nat.le_of_ble_eq_true rfl) ⟨by decide, by decide⟩ ?_
  refine R_putfr dX9_init_400 fl_RX9_156 rfl (Or.inr ⟨rfl, rfl, rfl⟩) rfl (Nat.le_of_ble_eq_true rfl) ?_
  refine al_0 dX9_init_403 ?_
  refine R_iconst (v := 0) dX9_init_404 (by decide) ?_
  refine R_putfi dX9_init_405 fl_RX9_159 rfl (Or.inl rfl) rfl (Nat.le_of_ble_eq_true rfl) rfl rfl ?_
  refine al_0 dX9_init_408 ?_
  refine R_iconst (v := 5) dX9_init_409 (by decide) ?_
  refine R_newaI (L := 5) (κ' := (25, 609)) dX9_init_410 mk_int (rn_ixe (show (5 : Int32) = nI 5 from rfl)) (by decide) rfl (Nat.le_of_ble_eq_true rfl) ⟨by decide, by decide⟩ ?_
  refine R_putfr dX9_init_412 fl_RX9_162 rfl (Or.inr ⟨rfl, rfl, rfl⟩) rfl (Nat.le_of_ble_eq_true rfl) ?_
  refine al_0 dX9_init_415 ?_
  refine R_iconst (v := 5) dX9_init_416 (by decide) ?_
  refine R_newaI (L := 5) (κ' := (24, 604)) dX9_init_417 mk_int (rn_ixe (show (5 : Int32) = nI 5 from rfl)) (by decide) rfl (Nat.le_of_ble_eq_true rfl) ⟨by decide, by decide⟩ ?_
  refine R_putfr dX9_init_419 fl_RX9_165 rfl (Or.inr ⟨rfl, rfl, rfl⟩) rfl (Nat.le_of_ble_eq_true rfl) ?_
  refine al_0 dX9_init_422 ?_
  refine R_iconst (v := 5) dX9_init_423 (by decide) ?_
  refine R_newaZ (L := 5) (κ' := (23, 599)) dX9_init_424 mk_boolean (rn_ixe (show (5 : Int32) = nI 5 from rfl)) (by decide) rfl (Nat.le_of_ble_eq_true rfl) ⟨by decide, by decide⟩ ?_
  refine R_putfr dX9_init_426 fl_RX9_168 rfl (Or.inr ⟨rfl, rfl, rfl⟩) rfl (Nat.le_of_ble_eq_true rfl) ?_
  refine al_0 dX9_init_429 ?_
  refine R_iconst (v := 0) dX9_init_430 (by decide) ?_
  refine R_putfi dX9_init_431 fl_RX9_171 rfl (Or.inl rfl) rfl (Nat.le_of_ble_eq_true rfl) rfl rfl ?_
  refine al_0 dX9_init_434 ?_
  refine R_iconst (v := 0) dX9_init_435 (by decide) ?_
  refine R_putfi dX9_init_436 fl_RX9_174 rfl (Or.inl rfl) rfl (Nat.le_of_ble_eq_true rfl) rfl rfl ?_
  refine al_0 dX9_init_439 ?_
  refine R_bipush (v := 10) dX9_init_440 (by decide) ?_
  refine R_newaI (L := 10) (κ' := (22, 589)) dX9_init_442 mk_int (rn_ixe (show (10 : Int32) = nI 10 from rfl)) (by decide) rfl (Nat.le_of_ble_eq_true rfl) ⟨by decide, by decide⟩ ?_
  refine R_putfr dX9_init_444 fl_RX9_177 rfl (Or.inr ⟨rfl, rfl, rfl⟩) rfl (Nat.le_of_ble_eq_true rfl) ?_
  refine al_0 dX9_init_447 ?_
  refine R_bipush (v := 10) dX9_init_448 (by decide) ?_
  refine R_newaI (L := 10) (κ' := (21, 579)) dX9_init_450 mk_int (rn_ixe (show (10 : Int32) = nI 10 from rfl)) (by decide) rfl (Nat.le_of_ble_eq_true rfl) ⟨by decide, by decide⟩ ?_
  refine R_putfr dX9_init_452 fl_RX9_180 rfl (Or.inr ⟨rfl, rfl, rfl⟩) rfl (Nat.le_of_ble_eq_true rfl) ?_
  refine al_0 dX9_init_455 ?_
  refine R_bipush (v := 8) dX9_init_456 (by decide) ?_
  refine R_newaI (L := 8) (κ' := (20, 571)) dX9_init_458 mk_int (rn_ixe (show (8 : Int32) = nI 8 from rfl)) (by decide) rfl (Nat.le_of_ble_eq_true rfl) ⟨by decide, by decide⟩ ?_
  refine R_putfr dX9_init_460 fl_RX9_183 rfl (Or.inr ⟨rfl, rfl, rfl⟩) rfl (Nat.le_of_ble_eq_true rfl) ?_
  refine al_0 dX9_init_463 ?_
  refine R_bipush (v := 8) dX9_init_464 (by decide) ?_
  refine R_newaI (L := 8) (κ' := (19, 563)) dX9_init_466 mk_int (rn_ixe (show (8 : Int32) = nI 8 from rfl)) (by decide) rfl (Nat.le_of_ble_eq_true rfl) ⟨by decide, by decide⟩ ?_
  refine R_putfr dX9_init_468 fl_RX9_186 rfl (Or.inr ⟨rfl, rfl, rfl⟩) rfl (Nat.le_of_ble_eq_true rfl) ?_
  refine al_0 dX9_init_471 ?_
  refine R_iconst (v := 0) dX9_init_472 (by decide) ?_
  refine R_putfi dX9_init_473 fl_RX9_189 rfl (Or.inl rfl) rfl (Nat.le_of_ble_eq_true rfl) rfl rfl ?_
  refine al_0 dX9_init_476 ?_
  refine R_iconst (v := -1) dX9_init_477 (by decide) ?_
  refine R_putfi dX9_init_478 fl_RX9_193 rfl (Or.inl rfl) rfl (Nat.le_of_ble_eq_true rfl) rfl rfl ?_
  refine al_0 dX9_init_481 ?_
  refine R_iconst (v := 0) dX9_init_482 (by decide) ?_
  refine R_putfi dX9_init_483 fl_RX9_196 rfl (Or.inl rfl) rfl (Nat.le_of_ble_eq_true rfl) rfl rfl ?_
  refine al_0 dX9_init_486 ?_
  refine R_iconst (v := 0) dX9_init_487 (by decide) ?_
  refine R_putfi dX9_init_488 fl_RX9_199 rfl (Or.inl rfl) rfl (Nat.le_of_ble_eq_true rfl) rfl rfl ?_
  refine al_0 dX9_init_491 ?_
  refine R_iconst (v := 0) dX9_init_492 (by decide) ?_
  refine R_putfi dX9_init_493 fl_RX9_202 rfl (Or.inl rfl) rfl (Nat.le_of_ble_eq_true rfl) rfl rfl ?_
  refine al_0 dX9_init_496 ?_
  refine R_iconst (v := 0) dX9_init_497 (by decide) ?_
  refine R_putfi dX9_init_498 fl_RX9_205 rfl (Or.inl rfl) rfl (Nat.le_of_ble_eq_true rfl) rfl rfl ?_
  refine al_0 dX9_init_501 ?_
  refine R_iconst (v := 0) dX9_init_502 (by decide) ?_
  refine R_putfi dX9_init_503 fl_RX9_208 rfl (Or.inl rfl) rfl (Nat.le_of_ble_eq_true rfl) rfl rfl ?_
  refine al_0 dX9_init_506 ?_
  refine R_iconst (v := 0) dX9_init_507 (by decide) ?_
  refine R_putfi dX9_init_508 fl_RX9_211 rfl (Or.inl rfl) rfl (Nat.le_of_ble_eq_true rfl) rfl rfl ?_
  refine al_0 dX9_init_511 ?_
  refine R_iconst (v := 0) dX9_init_512 (by decide) ?_
  refine R_putfi dX9_init_513 fl_RX9_214 rfl (Or.inl rfl) rfl (Nat.le_of_ble_eq_true rfl) rfl rfl ?_
  refine al_0 dX9_init_516 ?_
  refine R_iconst (v := 0) dX9_init_517 (by decide) ?_
  refine R_putfi dX9_init_518 fl_RX9_217 rfl (Or.inl rfl) rfl (Nat.le_of_ble_eq_true rfl) rfl rfl ?_
  refine al_0 dX9_init_521 ?_
  refine R_iconst (v := 0) dX9_init_522 (by decide) ?_
  refine R_putfi dX9_init_523 fl_RX9_220 rfl (Or.inl rfl) rfl (Nat.le_of_ble_eq_true rfl) rfl rfl ?_
  refine al_0 dX9_init_526 ?_
  refine R_iconst (v := 0) dX9_init_527 (by decide) ?_
  refine R_putfi dX9_init_528 fl_RX9_223 rfl (Or.inl rfl) rfl (Nat.le_of_ble_eq_true rfl) rfl rfl ?_
  refine al_0 dX9_init_531 ?_
  refine R_iconst (v := 0) dX9_init_532 (by decide) ?_
  refine R_putfi dX9_init_533 fl_RX9_226 rfl (Or.inl rfl) rfl (Nat.le_of_ble_eq_true rfl) rfl rfl ?_
  refine al_0 dX9_init_536 ?_
  refine R_iconst (v := 0) dX9_init_537 (by decide) ?_
  refine R_putfi dX9_init_538 fl_RX9_229 rfl (Or.inl rfl) rfl (Nat.le_of_ble_eq_true rfl) rfl rfl ?_
  refine al_0 dX9_init_541 ?_
  refine R_bipush (v := 6) dX9_init_542 (by decide) ?_
  refine R_newaI (L := 6) (κ' := (18, 557)) dX9_init_544 mk_int (rn_ixe (show (6 : Int32) = nI 6 from rfl)) (by decide) rfl (Nat.le_of_ble_eq_true rfl) ⟨by decide, by decide⟩ ?_
  refine R_putfr dX9_init_546 fl_RX9_232 rfl (Or.inr ⟨rfl, rfl, rfl⟩) rfl (Nat.le_of_ble_eq_true rfl) ?_
  refine al_0 dX9_init_549 ?_
  refine R_bipush (v := 6) dX9_init_550 (by decide) ?_
  refine R_newaI (L := 6) (κ' := (17, 551)) dX9_init_552 mk_int (rn_ixe (show (6 : Int32) = nI 6 from rfl)) (by decide) rfl (Nat.le_of_ble_eq_true rfl) ⟨by decide, by decide⟩ ?_
  refine R_putfr dX9_init_554 fl_RX9_235 rfl (Or.inr ⟨rfl, rfl, rfl⟩) rfl (Nat.le_of_ble_eq_true rfl) ?_
  refine al_0 dX9_init_557 ?_
  refine R_bipush (v := 6) dX9_init_558 (by decide) ?_
  refine R_newaI (L := 6) (κ' := (16, 545)) dX9_init_560 mk_int (rn_ixe (show (6 : Int32) = nI 6 from rfl)) (by decide) rfl (Nat.le_of_ble_eq_true rfl) ⟨by decide, by decide⟩ ?_
  refine R_putfr dX9_init_562 fl_RX9_238 rfl (Or.inr ⟨rfl, rfl, rfl⟩) rfl (Nat.le_of_ble_eq_true rfl) ?_
  refine al_0 dX9_init_565 ?_
  refine R_bipush (v := 6) dX9_init_566 (by decide) ?_
  refine R_newaI (L := 6) (κ' := (15, 539)) dX9_init_568 mk_int (rn_ixe (show (6 : Int32) = nI 6 from rfl)) (by decide) rfl (Nat.le_of_ble_eq_true rfl) ⟨by decide, by decide⟩ ?_
  refine R_putfr dX9_init_570 fl_RX9_241 rfl (Or.inr ⟨rfl, rfl, rfl⟩) rfl (Nat.le_of_ble_eq_true rfl) ?_
  refine al_0 dX9_init_573 ?_
  refine R_bipush (v := 6) dX9_init_574 (by decide) ?_
  refine R_newaI (L := 6) (κ' := (14, 533)) dX9_init_576 mk_int (rn_ixe (show (6 : Int32) = nI 6 from rfl)) (by decide) rfl (Nat.le_of_ble_eq_true rfl) ⟨by decide, by decide⟩ ?_
  refine R_putfr dX9_init_578 fl_RX9_244 rfl (Or.inr ⟨rfl, rfl, rfl⟩) rfl (Nat.le_of_ble_eq_true rfl) ?_
  refine al_0 dX9_init_581 ?_
  refine R_bipush (v := 6) dX9_init_582 (by decide) ?_
  refine R_newaI (L := 6) (κ' := (13, 527)) dX9_init_584 mk_int (rn_ixe (show (6 : Int32) = nI 6 from rfl)) (by decide) rfl (Nat.le_of_ble_eq_true rfl) ⟨by decide, by decide⟩ ?_
  refine R_putfr dX9_init_586 fl_RX9_247 rfl (Or.inr ⟨rfl, rfl, rfl⟩) rfl (Nat.le_of_ble_eq_true rfl) ?_
  refine al_0 dX9_init_589 ?_
  refine R_bipush (v := 24) dX9_init_590 (by decide) ?_
  refine R_newaI (L := 24) (κ' := (12, 503)) dX9_init_592 mk_int (rn_ixe (show (24 : Int32) = nI 24 from rfl)) (by decide) rfl (Nat.le_of_ble_eq_true rfl) ⟨by decide, by decide⟩ ?_
  refine R_putfr dX9_init_594 fl_RX9_250 rfl (Or.inr ⟨rfl, rfl, rfl⟩) rfl (Nat.le_of_ble_eq_true rfl) ?_
  refine al_0 dX9_init_597 ?_
  refine R_iconst (v := 5) dX9_init_598 (by decide) ?_
  refine R_newaI (L := 5) (κ' := (11, 498)) dX9_init_599 mk_int (rn_ixe (show (5 : Int32) = nI 5 from rfl)) (by decide) rfl (Nat.le_of_ble_eq_true rfl) ⟨by decide, by decide⟩ ?_
  refine R_putfr dX9_init_601 fl_RX9_253 rfl (Or.inr ⟨rfl, rfl, rfl⟩) rfl (Nat.le_of_ble_eq_true rfl) ?_
  refine al_0 dX9_init_604 ?_
  refine R_iconst (v := 5) dX9_init_605 (by decide) ?_
  refine R_newaI (L := 5) (κ' := (10, 493)) dX9_init_606 mk_int (rn_ixe (show (5 : Int32) = nI 5 from rfl)) (by decide) rfl (Nat.le_of_ble_eq_true rfl) ⟨by decide, by decide⟩ ?_
  refine R_putfr dX9_init_608 fl_RX9_256 rfl (Or.inr ⟨rfl, rfl, rfl⟩) rfl (Nat.le_of_ble_eq_true rfl) ?_
  refine al_0 dX9_init_611 ?_
  refine R_bipush (v := 10) dX9_init_612 (by decide) ?_
  refine R_newaI (L := 10) (κ' := (9, 483)) dX9_init_614 mk_int (rn_ixe (show (10 : Int32) = nI 10 from rfl)) (by decide) rfl (Nat.le_of_ble_eq_true rfl) ⟨by decide, by decide⟩ ?_
  refine R_putfr dX9_init_616 fl_RX9_259 rfl (Or.inr ⟨rfl, rfl, rfl⟩) rfl (Nat.le_of_ble_eq_true rfl) ?_
  refine al_0 dX9_init_619 ?_
  refine R_bipush (v := 10) dX9_init_620 (by decide) ?_
  refine R_newaI (L := 10) (κ' := (8, 473)) dX9_init_622 mk_int (rn_ixe (show (10 : Int32) = nI 10 from rfl)) (by decide) rfl (Nat.le_of_ble_eq_true rfl) ⟨by decide, by decide⟩ ?_
  refine R_putfr dX9_init_624 fl_RX9_262 rfl (Or.inr ⟨rfl, rfl, rfl⟩) rfl (Nat.le_of_ble_eq_true rfl) ?_
  refine al_0 dX9_init_627 ?_
  refine R_bipush (v := 8) dX9_init_628 (by decide) ?_
  refine R_newaI (L := 8) (κ' := (7, 465)) dX9_init_630 mk_int (rn_ixe (show (8 : Int32) = nI 8 from rfl)) (by decide) rfl (Nat.le_of_ble_eq_true rfl) ⟨by decide, by decide⟩ ?_
  refine R_putfr dX9_init_632 fl_RX9_265 rfl (Or.inr ⟨rfl, rfl, rfl⟩) rfl (Nat.le_of_ble_eq_true rfl) ?_
  refine al_0 dX9_init_635 ?_
  refine R_bipush (v := 8) dX9_init_636 (by decide) ?_
  refine R_newaI (L := 8) (κ' := (6, 457)) dX9_init_638 mk_int (rn_ixe (show (8 : Int32) = nI 8 from rfl)) (by decide) rfl (Nat.le_of_ble_eq_true rfl) ⟨by decide, by decide⟩ ?_
  refine R_putfr dX9_init_640 fl_RX9_268 rfl (Or.inr ⟨rfl, rfl, rfl⟩) rfl (Nat.le_of_ble_eq_true rfl) ?_
  refine al_0 dX9_init_643 ?_
  refine R_iconst (v := 5) dX9_init_644 (by decide) ?_
  refine R_newaZ (L := 5) (κ' := (5, 452)) dX9_init_645 mk_boolean (rn_ixe (show (5 : Int32) = nI 5 from rfl)) (by decide) rfl (Nat.le_of_ble_eq_true rfl) ⟨by decide, by decide⟩ ?_
  refine R_putfr dX9_init_647 fl_RX9_271 rfl (Or.inr ⟨rfl, rfl, rfl⟩) rfl (Nat.le_of_ble_eq_true rfl) ?_
  refine al_0 dX9_init_650 ?_
  refine R_iconst (v := 0) dX9_init_651 (by decide) ?_
  refine R_putfi dX9_init_652 fl_RX9_274 rfl (Or.inl rfl) rfl (Nat.le_of_ble_eq_true rfl) rfl rfl ?_
  refine al_0 dX9_init_655 ?_
  refine R_bipush (v := 20) dX9_init_656 (by decide) ?_
  refine R_newaI (L := 20) (κ' := (4, 432)) dX9_init_658 mk_int (rn_ixe (show (20 : Int32) = nI 20 from rfl)) (by decide) rfl (Nat.le_of_ble_eq_true rfl) ⟨by decide, by decide⟩ ?_
  refine R_putfr dX9_init_660 fl_RX9_277 rfl (Or.inr ⟨rfl, rfl, rfl⟩) rfl (Nat.le_of_ble_eq_true rfl) ?_
  refine al_0 dX9_init_663 ?_
  refine R_bipush (v := 6) dX9_init_664 (by decide) ?_
  refine R_newaI (L := 6) (κ' := (3, 426)) dX9_init_666 mk_int (rn_ixe (show (6 : Int32) = nI 6 from rfl)) (by decide) rfl (Nat.le_of_ble_eq_true rfl) ⟨by decide, by decide⟩ ?_
  refine R_dup dX9_init_668 rfl ?_
  refine R_iconst (v := 0) dX9_init_669 (by decide) ?_
  refine R_iconst (v := -1) dX9_init_670 (by decide) ?_
  refine R_iast dX9_init_671 rfl (Nat.le_of_ble_eq_true rfl) (rn_ixe (show (0 : Int32) = nI 0 from rfl)) (by decide) ?_
  refine R_dup dX9_init_672 rfl ?_
  refine R_iconst (v := 1) dX9_init_673 (by decide) ?_
  refine R_iconst (v := -1) dX9_init_674 (by decide) ?_
  refine R_iast dX9_init_675 rfl (Nat.le_of_ble_eq_true rfl) (rn_ixe (show (1 : Int32) = nI 1 from rfl)) (by decide) ?_
  refine R_dup dX9_init_676 rfl ?_
  refine R_iconst (v := 2) dX9_init_677 (by decide) ?_
  refine R_iconst (v := -1) dX9_init_678 (by decide) ?_
  refine R_iast dX9_init_679 rfl (Nat.le_of_ble_eq_true rfl) (rn_ixe (show (2 : Int32) = nI 2 from rfl)) (by decide) ?_
  refine R_dup dX9_init_680 rfl ?_
  refine R_iconst (v := 3) dX9_init_681 (by decide) ?_
  refine R_iconst (v := -1) dX9_init_682 (by decide) ?_
  refine R_iast dX9_init_683 rfl (Nat.le_of_ble_eq_true rfl) (rn_ixe (show (3 : Int32) = nI 3 from rfl)) (by decide) ?_
  refine R_dup dX9_init_684 rfl ?_
  refine R_iconst (v := 4) dX9_init_685 (by decide) ?_
  refine R_iconst (v := -1) dX9_init_686 (by decide) ?_
  refine R_iast dX9_init_687 rfl (Nat.le_of_ble_eq_true rfl) (rn_ixe (show (4 : Int32) = nI 4 from rfl)) (by decide) ?_
  refine R_dup dX9_init_688 rfl ?_
  refine R_iconst (v := 5) dX9_init_689 (by decide) ?_
  refine R_iconst (v := -1) dX9_init_690 (by decide) ?_
  refine R_iast dX9_init_691 rfl (Nat.le_of_ble_eq_true rfl) (rn_ixe (show (5 : Int32) = nI 5 from rfl)) (by decide) ?_
  refine R_putfr dX9_init_692 fl_RX9_280 rfl (Or.inr ⟨rfl, rfl, rfl⟩) rfl (Nat.le_of_ble_eq_true rfl) ?_
  refine al_0 dX9_init_695 ?_
  refine R_bipush (v := 6) dX9_init_696 (by decide) ?_
  refine R_newaI (L := 6) (κ' := (2, 420)) dX9_init_698 mk_int (rn_ixe (show (6 : Int32) = nI 6 from rfl)) (by decide) rfl (Nat.le_of_ble_eq_true rfl) ⟨by decide, by decide⟩ ?_
  refine R_putfr dX9_init_700 fl_RX9_283 rfl (Or.inr ⟨rfl, rfl, rfl⟩) rfl (Nat.le_of_ble_eq_true rfl) ?_
  refine al_0 dX9_init_703 ?_
  refine R_sipush (v := 360) dX9_init_704 (by decide) ?_
  refine R_newaL (L := 360) (κ' := (1, 60)) dX9_init_707 mk_long (rn_ixe (show (360 : Int32) = nI 360 from rfl)) (by decide) rfl (Nat.le_of_ble_eq_true rfl) ⟨by decide, by decide⟩ ?_
  refine R_putfr dX9_init_709 fl_RX9_286 rfl (Or.inr ⟨rfl, rfl, rfl⟩) rfl (Nat.le_of_ble_eq_true rfl) ?_
  refine al_0 dX9_init_712 ?_
  refine R_bipush (v := 60) dX9_init_713 (by decide) ?_
  refine R_newaL (L := 60) (κ' := (0, 0)) dX9_init_715 mk_long (rn_ixe (show (60 : Int32) = nI 60 from rfl)) (by decide) rfl (Nat.le_of_ble_eq_true rfl) ⟨by decide, by decide⟩ ?_
  refine R_putfr dX9_init_717 fl_RX9_290 rfl (Or.inr ⟨rfl, rfl, rfl⟩) rfl (Nat.le_of_ble_eq_true rfl) ?_
  exact R_return dX9_init_720 rfl h
