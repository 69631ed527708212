/-! the reference: tapes -/
theorem lg_0 {x y : Int64} : lg_cmp x y = 0 ↔ x = y := by
  unfold lg_cmp
  constructor
  · intro h
    by_cases g : x > y
    · rw [if_pos g] at h; exact absurd h (by decide)
    · rw [if_neg g] at h
      by_cases e : x = y
      · exact e
      · rw [if_neg e] at h; exact absurd h (by decide)
  · intro e
    subst e
    rw [if_neg (fun q => Int64.lt_irrefl q), if_pos rfl]
def upT (tp : TP) (i : Nat) (v : Int32 × Nat × (Nat → Int64)) : TP := fun j => if j = i then v else tp j
def narA (s : Int32) (v : Int64) : Int64 := if s = 0 then v.toInt32.toInt8.toInt32.toInt64 else if s = 1 then v.toInt32.toInt16.toInt32.toInt64 else if s = 2 then v.toInt32.toInt64 else if s = 4 then (if v = 0 then 0 else 1) else v
def tapeA (tp : TP) (x y z : Int32) : Int32 × TP := if 0 ≤ x ∧ x ≤ 5 then (if y = -1 then (1, upT tp (nn x) (-1, 0, fun _ => 0)) else if (0 ≤ y ∧ y ≤ 4) ∧ z ≤ 60 then (if z < 0 then (-14, tp) else (1, upT tp (nn x) (y, nn z, fun _ => 0))) else (-2, tp)) else (-1, tp)
def itemA (tp : TP) (x y : Int32) (v : Int64) : Int32 × TP := if 0 ≤ x ∧ x ≤ 5 then (if (tp (nn x)).1 = -1 then (-11, tp) else if 0 ≤ y ∧ y < nI (tp (nn x)).2.1 then (1, upT tp (nn x) ((tp (nn x)).1, (tp (nn x)).2.1, fun j => if j = nn y then narA (tp (nn x)).1 v else (tp (nn x)).2.2 j)) else (-13, tp)) else (-1, tp)
def readA (tp : TP) (x y : Int32) : Int64 := if (0 ≤ x ∧ x ≤ 5) ∧ (0 ≤ y ∧ y < nI (tp (nn x)).2.1) then (tp (nn x)).2.2 (nn y) else -9223372036854775808
def shiftA (tp : TP) (x y u v n : Int32) : Int32 × TP := if (0 ≤ x ∧ x ≤ 5) ∧ (0 ≤ u ∧ u ≤ 5) then
    (if (tp (nn x)).1 = -1 ∨ (tp (nn u)).1 = -1 then (-11, tp) else if (tp (nn x)).1 = (tp (nn u)).1 then
      (if 0 ≤ n ∧ 0 ≤ y ∧ 0 ≤ v ∧ nn y + nn n ≤ (tp (nn x)).2.1 ∧ nn v + nn n ≤ (tp (nn u)).2.1 then (n, upT tp (nn u) ((tp (nn u)).1, (tp (nn u)).2.1, fun j => if nn v ≤ j ∧ j < nn v + nn n then (tp (nn x)).2.2 (nn y + (j - nn v)) else (tp (nn u)).2.2 j)) else (-13, tp))
    else (-12, tp)) else (-1, tp)
def jgF (w : WD) (sz : Nat) (it : Nat → Int64) (a : Nat) : Nat → Nat → Int32
  | 0, _ => -5
  | n + 1, p => if a + p < sz then (if it (a + p) = (w.2.2.2 p 2).toInt64 then jgF w sz it a n (p + 1) else nI p) else nI (100 + p)
def judgeA (w : WD) (tp : TP) (x y : Int32) : Int32 := if 0 ≤ x ∧ x ≤ 5 then (if (tp (nn x)).1 = -1 ∨ (tp (nn x)).1 = 0 then (if y < 0 then (if nn (w.1 2) = 0 then -5 else 100) else jgF w (tp (nn x)).2.1 (tp (nn x)).2.2 (nn y) (nn (w.1 2)) 0) else -12) else -1
theorem MR.tape {w : WD} {c k : Nat} {ds : Nat → CL} {sl : SL} {el bl : EL} {im : IM} {T : Nat → Nat} {L : Nat} {ac : List Int32} {tp tp' : TP} {mi mi' : Nat → Nat → Int32} {ml ml' : Nat → Nat → Int64} (h : MR w c k ds sl el bl im T L ac tp mi ml) (ht : MTp mi' ml' tp') (g1 : ∀ a, a ≠ 160 → a ≠ 161 → mi' a = mi a) : MR w c k ds sl el bl im T L ac tp' mi' ml' := by
  obtain ⟨a1, a2, a3, a4, a5, a6, a7, a8, a9, a10⟩ := h
  have e : ∀ f, mi' 116 f = mi 116 f := fun f => by rw [g1 116 (by decide) (by decide)]
  exact ⟨a1.ext (fun f _ => e f) (fun a _ _ => g1 a (by omega) (by omega)) (fun a _ _ => g1 a (by omega) (by omega)), a2.fr (e 16) (e 17) (fun a _ _ => g1 a (by omega) (by omega)), a3.fr (e 49) (g1 138 (by omega) (by omega)) (g1 139 (by omega) (by omega)) (g1 140 (by omega) (by omega)), a4.fr (e 53) (g1 141 (by omega) (by omega)) (g1 142 (by omega) (by omega)), a5.fr (e 54) (g1 143 (by omega) (by omega)) (g1 144 (by omega) (by omega)), a6.fr (fun f _ => e f) (fun a _ _ => g1 a (by omega) (by omega)), a7.fr (e 18) (g1 124 (by omega) (by omega)), a8.fr (g1 132 (by omega) (by omega)), a9.fr (e 87) (g1 159 (by omega) (by omega)), ht⟩
theorem sort_neg {s : Int32} (h : s = -1 ∨ ∃ a, a ≤ 4 ∧ s = nI a) : (s < 0 ↔ s = -1) ∧ (0 < s ↔ ¬ (s = -1 ∨ s = 0)) := by
  rcases h with rfl | ⟨a, ha, rfl⟩
  · decide
  · have : a = 0 ∨ a = 1 ∨ a = 2 ∨ a = 3 ∨ a = 4 := by omega
    rcases this with rfl | rfl | rfl | rfl | rfl <;> decide
theorem idx_iff {y : Int32} {n : Nat} (hn : n ≤ 60) : (0 ≤ y ∧ y ≤ nI n - 1) ↔ (0 ≤ y ∧ y < nI n) := by
  cases n with
  | zero => exact ⟨fun q => absurd (Int32.le_trans q.1 q.2) (by decide), fun q => absurd (Int32.lt_of_le_of_lt q.1 q.2) (by decide)⟩
  | succ n => rw [show nI (n + 1) - 1 = nI n from sm_sub (a := n + 1) (b := 1) (by omega), lt_succ_iff (a := n) (by omega)]

set_option maxHeartbeats 4000000 in
theorem M_isTape {G : rn_G} {d : Nat} {κ : Nat × Nat} {Q : Option Value → rn_S → Prop} {mi : Nat → Nat → Int32} {ml : Nat → Nat → Int64} {D : Nat → Nat} {x : Int32} (h1 : 0 ≤ x ∧ x ≤ 5 → Q (some (.int 1)) (mi, ml, RF D, 164)) (h0 : ¬ (0 ≤ x ∧ x ≤ 5) → Q (some (.int 0)) (mi, ml, RF D, 164)) : Call G (d + 1) M_X9_isTape [.ref 116, .int x] (mi, ml, RF D, 164) κ Q := by
  show Run G _ M_X9_isTape 0 [.ref 116, .int x] [] _ _ _
  refine al_0 dX9_isTape_0 ?_
  refine il_1 dX9_isTape_1 ?_
  refine R_iconst (v := 0) dX9_isTape_2 (by decide) ?_
  refine R_iconst (v := 5) dX9_isTape_3 (by decide) ?_
  refine cv_3 dX9_isTape_4 mm_RX9_293 sh_116 (Nat.le_of_ble_eq_true rfl) ⟨_, rfl, rfl⟩ (Nat.le_of_ble_eq_true rfl) (Nat.le_of_ble_eq_true rfl) (M_in (fun c4 => ?_) (fun c4 => ?_))
  · refine R_ireturn dX9_isTape_7 ⟨_, rfl, rfl⟩ ?_
    first | exact h1 c4 | exact h0 c4
  · refine R_ireturn dX9_isTape_7 ⟨_, rfl, rfl⟩ ?_
    first | exact h1 c4 | exact h0 c4

set_option maxHeartbeats 4000000 in
theorem MC_read {G : rn_G} {d : Nat} {κ : Nat × Nat} {Q : Option Value → rn_S → Prop} {mi : Nat → Nat → Int32} {ml : Nat → Nat → Int64} {D : Nat → Nat} {x y : Int32} {w : WD} {c k : Nat} {ds : Nat → CL} {sl : SL} {el bl : EL} {im : IM} {T : Nat → Nat} {L : Nat} {ac : List Int32} {tp : TP} (hv : IV w c k ds sl el bl im ac tp) (hr : MR w c k ds sl el bl im T L ac tp mi ml) (h : ∀ m l, LO mi m ml l → MR w c k ds sl el bl im T L ac tp m l → Q (some (.long (readA tp x y))) (m, l, RF D, 164))  : Call G (d + 30) M_X9_read [.ref 116, .int x, .int y] (mi, ml, RF D, 164) κ Q := by
  show Run G _ M_X9_read 0 [.ref 116, .int x, .int y] [] _ _ _
  have hB := hr.1
  have hw := hv.1.1
  have hk6 := hv.2.2.1
  obtain ⟨N, P, R, ⟨hN, hP, hR, hg, hpp, hrr, hdn, hmn, hkp, hwt, hgp, htr⟩, hpc, hbits, hPJ⟩ := hB.n hw
  obtain ⟨w0, w1, w2, w3, w4, w5, w6, w10⟩ := hB.cells
  have htp := hr.2.2.2.2.2.2.2.2.2
  have htv := hv.2.2.2.2.2
  refine al_0 dX9_read_0 ?_
  refine il_1 dX9_read_1 ?_
  refine cv_1 dX9_read_2 mm_RX9_469 sh_116 (Nat.le_of_ble_eq_true rfl) ⟨_, rfl, rfl⟩ (Nat.le_of_ble_eq_true rfl) (Nat.le_of_ble_eq_true rfl) (M_isTape (fun c2 => ?_) (fun c2 => ?_))
  · refine R_if_eq (tgt := 34) dX9_read_5 (by decide) (fun q => absurd q (by decide)) (fun _ => ?_)
    obtain ⟨i, hi6, hx⟩ := sm_of c2.1 ((lt_succ_iff (a := 5)).mpr c2.2) (by decide)
    have hnx : nn x = i := by rw [hx]; exact nnI (by omega)
    obtain ⟨ti1, ti2, ti3⟩ := htp i hi6
    obtain ⟨vi1, vi2, vi3⟩ := htv i hi6
    obtain ⟨sni1, sni2⟩ := sort_neg vi2
    refine al_0 dX9_read_8 ?_
    refine R_getfr (r := 160) dX9_read_9 fl_RX9_280 rfl sh_116 (Nat.le_of_ble_eq_true rfl) rf_116_89 ?_
    refine il_1 dX9_read_12 ?_
    refine R_iald dX9_read_13 sh_160 (Nat.le_of_ble_eq_true rfl) (rn_ixe hx) hi6 ?_
    refine R_if_lt (tgt := 34) dX9_read_14 (by decide) (fun c14 => ?_) (fun c14 => ?_)
    · refine R_ldc2 dX9_read_34 kl_RX9_463 ?_
      refine R_goto (tgt := 51) dX9_read_37 (by decide) ?_
      refine R_lreturn dX9_read_51 rfl ?_
      unfold readA at h
      first
        | (rw [if_pos ⟨c2, by rw [hnx]; exact cy⟩, hnx, hy, nnI (by omega), ← ti3 yy (by omega)] at h; exact h mi ml (LO.refl _ _) hr)
        | (rw [if_neg (fun q => c2 q.1)] at h; exact h mi ml (LO.refl _ _) hr)
        | (rw [if_neg (fun q => by rw [hnx, vi3 (sni1.mp (by rw [← ti1]; exact c14))] at q; exact absurd (Int32.lt_of_le_of_lt q.2.1 q.2.2) (by decide))] at h; exact h mi ml (LO.refl _ _) hr)
        | (rw [if_neg (fun q => by rw [hnx] at q; rw [ti2] at c28; exact c28 ((idx_iff vi1).mpr q.2))] at h; exact h mi ml (LO.refl _ _) hr)
    · refine al_0 dX9_read_17 ?_
      refine il_2 dX9_read_18 ?_
      refine R_iconst (v := 0) dX9_read_19 (by decide) ?_
      refine al_0 dX9_read_20 ?_
      refine R_getfr (r := 161) dX9_read_21 fl_RX9_283 rfl sh_116 (Nat.le_of_ble_eq_true rfl) rf_116_90 ?_
      refine il_1 dX9_read_24 ?_
      refine R_iald dX9_read_25 sh_161 (Nat.le_of_ble_eq_true rfl) (rn_ixe hx) hi6 ?_
      refine R_iconst (v := 1) dX9_read_26 (by decide) ?_
      refine R_isub dX9_read_27 ?_
      refine cv_3 dX9_read_28 mm_RX9_293 sh_116 (Nat.le_of_ble_eq_true rfl) ⟨_, rfl, rfl⟩ (Nat.le_of_ble_eq_true rfl) (Nat.le_of_ble_eq_true rfl) (M_in (fun c28 => ?_) (fun c28 => ?_))
      · refine R_if_ne (tgt := 40) dX9_read_31 (by decide) (fun _ => ?_) (fun q => absurd q (by decide))
        have cy : 0 ≤ y ∧ y < nI (tp i).2.1 := by rw [ti2] at c28; exact (idx_iff vi1).mp c28
        obtain ⟨yy, hyy, hy⟩ := sm_of cy.1 cy.2 (by omega)
        have e60 : (60 : Int32) * x + y = nI (60 * i + yy) := by rw [hx, hy]; exact (congrArg (· + nI yy) (sm_mul 60 i)).trans (sm_add _ _)
        refine al_0 dX9_read_40 ?_
        refine R_getfr (r := 162) dX9_read_41 fl_RX9_286 rfl sh_116 (Nat.le_of_ble_eq_true rfl) rf_116_91 ?_
        refine R_bipush (v := 60) dX9_read_44 (by decide) ?_
        refine il_1 dX9_read_46 ?_
        refine R_imul dX9_read_47 ?_
        refine il_2 dX9_read_48 ?_
        refine R_iadd dX9_read_49 ?_
        refine R_lald dX9_read_50 sh_162 (Nat.le_of_ble_eq_true rfl) (rn_ixe e60) (show 60 * i + yy < 360 by omega) ?_
        refine R_lreturn dX9_read_51 rfl ?_
        unfold readA at h
        first
          | (rw [if_pos ⟨c2, by rw [hnx]; exact cy⟩, hnx, hy, nnI (by omega), ← ti3 yy (by omega)] at h; exact h mi ml (LO.refl _ _) hr)
          | (rw [if_neg (fun q => c2 q.1)] at h; exact h mi ml (LO.refl _ _) hr)
          | (rw [if_neg (fun q => by rw [hnx, vi3 (sni1.mp (by rw [← ti1]; exact c14))] at q; exact absurd (Int32.lt_of_le_of_lt q.2.1 q.2.2) (by decide))] at h; exact h mi ml (LO.refl _ _) hr)
          | (rw [if_neg (fun q => by rw [hnx] at q; rw [ti2] at c28; exact c28 ((idx_iff vi1).mpr q.2))] at h; exact h mi ml (LO.refl _ _) hr)
      · refine R_if_ne (tgt := 40) dX9_read_31 (by decide) (fun q => absurd q (by decide)) (fun _ => ?_)
        refine R_ldc2 dX9_read_34 kl_RX9_463 ?_
        refine R_goto (tgt := 51) dX9_read_37 (by decide) ?_
        refine R_lreturn dX9_read_51 rfl ?_
        unfold readA at h
        first
          | (rw [if_pos ⟨c2, by rw [hnx]; exact cy⟩, hnx, hy, nnI (by omega), ← ti3 yy (by omega)] at h; exact h mi ml (LO.refl _ _) hr)
          | (rw [if_neg (fun q => c2 q.1)] at h; exact h mi ml (LO.refl _ _) hr)
          | (rw [if_neg (fun q => by rw [hnx, vi3 (sni1.mp (by rw [← ti1]; exact c14))] at q; exact absurd (Int32.lt_of_le_of_lt q.2.1 q.2.2) (by decide))] at h; exact h mi ml (LO.refl _ _) hr)
          | (rw [if_neg (fun q => by rw [hnx] at q; rw [ti2] at c28; exact c28 ((idx_iff vi1).mpr q.2))] at h; exact h mi ml (LO.refl _ _) hr)
  · refine R_if_eq (tgt := 34) dX9_read_5 (by decide) (fun _ => ?_) (fun q => absurd q (by decide))
    refine R_ldc2 dX9_read_34 kl_RX9_463 ?_
    refine R_goto (tgt := 51) dX9_read_37 (by decide) ?_
    refine R_lreturn dX9_read_51 rfl ?_
    unfold readA at h
    first
      | (rw [if_pos ⟨c2, by rw [hnx]; exact cy⟩, hnx, hy, nnI (by omega), ← ti3 yy (by omega)] at h; exact h mi ml (LO.refl _ _) hr)
      | (rw [if_neg (fun q => c2 q.1)] at h; exact h mi ml (LO.refl _ _) hr)
      | (rw [if_neg (fun q => by rw [hnx, vi3 (sni1.mp (by rw [← ti1]; exact c14))] at q; exact absurd (Int32.lt_of_le_of_lt q.2.1 q.2.2) (by decide))] at h; exact h mi ml (LO.refl _ _) hr)
      | (rw [if_neg (fun q => by rw [hnx] at q; rw [ti2] at c28; exact c28 ((idx_iff vi1).mpr q.2))] at h; exact h mi ml (LO.refl _ _) hr)

set_option maxHeartbeats 4000000 in
theorem M_narrow {G : rn_G} {d : Nat} {κ : Nat × Nat} {Q : Option Value → rn_S → Prop} {mi : Nat → Nat → Int32} {ml : Nat → Nat → Int64} {D : Nat → Nat} {x : Int32} {z : Int64} (h : Q (some (.long (narA x z))) (mi, ml, RF D, 164)) : Call G (d) M_X9_narrow [.ref 116, .int x, .long z] (mi, ml, RF D, 164) κ Q := by
  show Run G _ M_X9_narrow 0 [.ref 116, .int x, .long z, .null] [] _ _ _
  refine il_1 dX9_narrow_0 ?_
  refine R_if_ne (tgt := 11) dX9_narrow_1 (by decide) (fun c1 => ?_) (fun c1 => ?_)
  · refine il_1 dX9_narrow_11 ?_
    refine R_iconst (v := 1) dX9_narrow_12 (by decide) ?_
    refine R_icmp_ne (tgt := 23) dX9_narrow_13 (by decide) (fun c13 => ?_) (fun c13 => ?_)
    · refine il_1 dX9_narrow_23 ?_
      refine R_iconst (v := 2) dX9_narrow_24 (by decide) ?_
      refine R_icmp_ne (tgt := 34) dX9_narrow_25 (by decide) (fun c25 => ?_) (fun c25 => ?_)
      · refine il_1 dX9_narrow_34 ?_
        refine R_iconst (v := 4) dX9_narrow_35 (by decide) ?_
        refine R_icmp_ne (tgt := 53) dX9_narrow_36 (by decide) (fun c36 => ?_) (fun c36 => ?_)
        · refine ll_2 dX9_narrow_53 ?_
          refine R_lreturn dX9_narrow_54 rfl ?_
          unfold narA at h
          first
            | (rw [if_pos c1] at h; exact h)
            | (rw [if_neg c1, if_pos c13] at h; exact h)
            | (rw [if_neg c1, if_neg c13, if_pos c25] at h; exact h)
            | (rw [if_neg c1, if_neg c13, if_neg c25, if_pos c36, if_pos (lg_0.mp c42)] at h; exact h)
            | (rw [if_neg c1, if_neg c13, if_neg c25, if_pos c36, if_neg (fun q => c42 (lg_0.mpr q))] at h; exact h)
            | (rw [if_neg c1, if_neg c13, if_neg c25, if_neg c36] at h; exact h)
        · refine ll_2 dX9_narrow_39 ?_
          refine R_lconst (v := 0) dX9_narrow_40 (by decide) ?_
          refine R_lcmp dX9_narrow_41 ?_
          refine R_if_eq (tgt := 49) dX9_narrow_42 (by decide) (fun c42 => ?_) (fun c42 => ?_)
          · refine R_lconst (v := 0) dX9_narrow_49 (by decide) ?_
            refine R_goto (tgt := 54) dX9_narrow_50 (by decide) ?_
            refine R_lreturn dX9_narrow_54 rfl ?_
            unfold narA at h
            first
              | (rw [if_pos c1] at h; exact h)
              | (rw [if_neg c1, if_pos c13] at h; exact h)
              | (rw [if_neg c1, if_neg c13, if_pos c25] at h; exact h)
              | (rw [if_neg c1, if_neg c13, if_neg c25, if_pos c36, if_pos (lg_0.mp c42)] at h; exact h)
              | (rw [if_neg c1, if_neg c13, if_neg c25, if_pos c36, if_neg (fun q => c42 (lg_0.mpr q))] at h; exact h)
              | (rw [if_neg c1, if_neg c13, if_neg c25, if_neg c36] at h; exact h)
          · refine R_lconst (v := 1) dX9_narrow_45 (by decide) ?_
            refine R_goto (tgt := 54) dX9_narrow_46 (by decide) ?_
            refine R_lreturn dX9_narrow_54 rfl ?_
            unfold narA at h
            first
              | (rw [if_pos c1] at h; exact h)
              | (rw [if_neg c1, if_pos c13] at h; exact h)
              | (rw [if_neg c1, if_neg c13, if_pos c25] at h; exact h)
              | (rw [if_neg c1, if_neg c13, if_neg c25, if_pos c36, if_pos (lg_0.mp c42)] at h; exact h)
              | (rw [if_neg c1, if_neg c13, if_neg c25, if_pos c36, if_neg (fun q => c42 (lg_0.mpr q))] at h; exact h)
              | (rw [if_neg c1, if_neg c13, if_neg c25, if_neg c36] at h; exact h)
      · refine ll_2 dX9_narrow_28 ?_
        refine R_l2i dX9_narrow_29 ?_
        refine R_i2l dX9_narrow_30 ?_
        refine R_goto (tgt := 54) dX9_narrow_31 (by decide) ?_
        refine R_lreturn dX9_narrow_54 rfl ?_
        unfold narA at h
        first
          | (rw [if_pos c1] at h; exact h)
          | (rw [if_neg c1, if_pos c13] at h; exact h)
          | (rw [if_neg c1, if_neg c13, if_pos c25] at h; exact h)
          | (rw [if_neg c1, if_neg c13, if_neg c25, if_pos c36, if_pos (lg_0.mp c42)] at h; exact h)
          | (rw [if_neg c1, if_neg c13, if_neg c25, if_pos c36, if_neg (fun q => c42 (lg_0.mpr q))] at h; exact h)
          | (rw [if_neg c1, if_neg c13, if_neg c25, if_neg c36] at h; exact h)
    · refine ll_2 dX9_narrow_16 ?_
      refine R_l2i dX9_narrow_17 ?_
      refine R_i2s dX9_narrow_18 ?_
      refine R_i2l dX9_narrow_19 ?_
      refine R_goto (tgt := 54) dX9_narrow_20 (by decide) ?_
      refine R_lreturn dX9_narrow_54 rfl ?_
      unfold narA at h
      first
        | (rw [if_pos c1] at h; exact h)
        | (rw [if_neg c1, if_pos c13] at h; exact h)
        | (rw [if_neg c1, if_neg c13, if_pos c25] at h; exact h)
        | (rw [if_neg c1, if_neg c13, if_neg c25, if_pos c36, if_pos (lg_0.mp c42)] at h; exact h)
        | (rw [if_neg c1, if_neg c13, if_neg c25, if_pos c36, if_neg (fun q => c42 (lg_0.mpr q))] at h; exact h)
        | (rw [if_neg c1, if_neg c13, if_neg c25, if_neg c36] at h; exact h)
  · refine ll_2 dX9_narrow_4 ?_
    refine R_l2i dX9_narrow_5 ?_
    refine R_i2b dX9_narrow_6 ?_
    refine R_i2l dX9_narrow_7 ?_
    refine R_goto (tgt := 54) dX9_narrow_8 (by decide) ?_
    refine R_lreturn dX9_narrow_54 rfl ?_
    unfold narA at h
    first
      | (rw [if_pos c1] at h; exact h)
      | (rw [if_neg c1, if_pos c13] at h; exact h)
      | (rw [if_neg c1, if_neg c13, if_pos c25] at h; exact h)
      | (rw [if_neg c1, if_neg c13, if_neg c25, if_pos c36, if_pos (lg_0.mp c42)] at h; exact h)
      | (rw [if_neg c1, if_neg c13, if_neg c25, if_pos c36, if_neg (fun q => c42 (lg_0.mpr q))] at h; exact h)
      | (rw [if_neg c1, if_neg c13, if_neg c25, if_neg c36] at h; exact h)

theorem MTp.item {mi : Nat → Nat → Int32} {ml : Nat → Nat → Int64} {tp : TP} {i a : Nat} {v : Int64} (h : MTp mi ml tp) (hi : i < 6) (ha : a < 60) : MTp mi (rn_u ml 162 (60 * i + a) v) (upT tp i ((tp i).1, (tp i).2.1, fun j => if j = a then v else (tp i).2.2 j)) := fun j hj => by
  obtain ⟨h1, h2, h3⟩ := h j hj
  unfold upT
  by_cases e : j = i
  · subst e
    rw [if_pos rfl]
    refine ⟨h1, h2, fun q hq => ?_⟩
    rw [rn_u_at]
    dsimp only
    by_cases eq : q = a
    · rw [if_pos eq, if_pos (by omega)]
    · rw [if_neg eq, if_neg (by omega)]; exact h3 q hq
  · rw [if_neg e]
    refine ⟨h1, h2, fun q hq => ?_⟩
    rw [rn_u_at]
    dsimp only
    rw [if_neg (by omega)]; exact h3 q hq

set_option maxHeartbeats 4000000 in
theorem MC_item {G : rn_G} {d : Nat} {κ : Nat × Nat} {Q : Option Value → rn_S → Prop} {mi : Nat → Nat → Int32} {ml : Nat → Nat → Int64} {D : Nat → Nat} {x y : Int32} {z : Int64} {w : WD} {c k : Nat} {ds : Nat → CL} {sl : SL} {el bl : EL} {im : IM} {T : Nat → Nat} {L : Nat} {ac : List Int32} {tp : TP} (hv : IV w c k ds sl el bl im ac tp) (hr : MR w c k ds sl el bl im T L ac tp mi ml) (h : ∀ m l, LO mi m ml l → MR w c k ds sl el bl im T L ac (itemA tp x y z).2 m l → Q (some (.int (itemA tp x y z).1)) (m, l, RF D, 164))  : Call G (d + 30) M_X9_item [.ref 116, .int x, .int y, .long z] (mi, ml, RF D, 164) κ Q := by
  show Run G _ M_X9_item 0 [.ref 116, .int x, .int y, .long z, .null] [] _ _ _
  have hB := hr.1
  have hw := hv.1.1
  have hk6 := hv.2.2.1
  obtain ⟨N, P, R, ⟨hN, hP, hR, hg, hpp, hrr, hdn, hmn, hkp, hwt, hgp, htr⟩, hpc, hbits, hPJ⟩ := hB.n hw
  obtain ⟨w0, w1, w2, w3, w4, w5, w6, w10⟩ := hB.cells
  have htp := hr.2.2.2.2.2.2.2.2.2
  have htv := hv.2.2.2.2.2
  refine al_0 dX9_item_0 ?_
  refine il_1 dX9_item_1 ?_
  refine cv_1 dX9_item_2 mm_RX9_469 sh_116 (Nat.le_of_ble_eq_true rfl) ⟨_, rfl, rfl⟩ (Nat.le_of_ble_eq_true rfl) (Nat.le_of_ble_eq_true rfl) (M_isTape (fun c2 => ?_) (fun c2 => ?_))
  · refine R_if_ne (tgt := 10) dX9_item_5 (by decide) (fun _ => ?_) (fun q => absurd q (by decide))
    obtain ⟨i, hi6, hx⟩ := sm_of c2.1 ((lt_succ_iff (a := 5)).mpr c2.2) (by decide)
    have hnx : nn x = i := by rw [hx]; exact nnI (by omega)
    obtain ⟨ti1, ti2, ti3⟩ := htp i hi6
    obtain ⟨vi1, vi2, vi3⟩ := htv i hi6
    obtain ⟨sni1, sni2⟩ := sort_neg vi2
    refine al_0 dX9_item_10 ?_
    refine R_getfr (r := 160) dX9_item_11 fl_RX9_280 rfl sh_116 (Nat.le_of_ble_eq_true rfl) rf_116_89 ?_
    refine il_1 dX9_item_14 ?_
    refine R_iald dX9_item_15 sh_160 (Nat.le_of_ble_eq_true rfl) (rn_ixe hx) hi6 ?_
    refine R_if_ge (tgt := 22) dX9_item_16 (by decide) (fun c16 => ?_) (fun c16 => ?_)
    · refine al_0 dX9_item_22 ?_
      refine il_2 dX9_item_23 ?_
      refine R_iconst (v := 0) dX9_item_24 (by decide) ?_
      refine al_0 dX9_item_25 ?_
      refine R_getfr (r := 161) dX9_item_26 fl_RX9_283 rfl sh_116 (Nat.le_of_ble_eq_true rfl) rf_116_90 ?_
      refine il_1 dX9_item_29 ?_
      refine R_iald dX9_item_30 sh_161 (Nat.le_of_ble_eq_true rfl) (rn_ixe hx) hi6 ?_
      refine R_iconst (v := 1) dX9_item_31 (by decide) ?_
      refine R_isub dX9_item_32 ?_
      refine cv_3 dX9_item_33 mm_RX9_293 sh_116 (Nat.le_of_ble_eq_true rfl) ⟨_, rfl, rfl⟩ (Nat.le_of_ble_eq_true rfl) (Nat.le_of_ble_eq_true rfl) (M_in (fun c33 => ?_) (fun c33 => ?_))
      · refine R_if_ne (tgt := 42) dX9_item_36 (by decide) (fun _ => ?_) (fun q => absurd q (by decide))
        have cy : 0 ≤ y ∧ y < nI (tp i).2.1 := by rw [ti2] at c33; exact (idx_iff vi1).mp c33
        obtain ⟨yy, hyy, hy⟩ := sm_of cy.1 cy.2 (by omega)
        have e60 : (60 : Int32) * x + y = nI (60 * i + yy) := by rw [hx, hy]; exact (congrArg (· + nI yy) (sm_mul 60 i)).trans (sm_add _ _)
        refine al_0 dX9_item_42 ?_
        refine R_getfr (r := 162) dX9_item_43 fl_RX9_286 rfl sh_116 (Nat.le_of_ble_eq_true rfl) rf_116_91 ?_
        refine R_bipush (v := 60) dX9_item_46 (by decide) ?_
        refine il_1 dX9_item_48 ?_
        refine R_imul dX9_item_49 ?_
        refine il_2 dX9_item_50 ?_
        refine R_iadd dX9_item_51 ?_
        refine al_0 dX9_item_52 ?_
        refine al_0 dX9_item_53 ?_
        refine R_getfr (r := 160) dX9_item_54 fl_RX9_280 rfl sh_116 (Nat.le_of_ble_eq_true rfl) rf_116_89 ?_
        refine il_1 dX9_item_57 ?_
        refine R_iald dX9_item_58 sh_160 (Nat.le_of_ble_eq_true rfl) (rn_ixe hx) hi6 ?_
        refine ll_3 dX9_item_59 ?_
        refine cv_2 dX9_item_60 mm_RX9_496 sh_116 (Nat.le_of_ble_eq_true rfl) ⟨_, rfl, rfl⟩ (Nat.le_of_ble_eq_true rfl) (Nat.le_of_ble_eq_true rfl) (M_narrow ?_)
        refine R_last dX9_item_63 sh_162 (Nat.le_of_ble_eq_true rfl) (rn_ixe e60) (show 60 * i + yy < 360 by omega) ?_
        refine R_iconst (v := 1) dX9_item_64 (by decide) ?_
        refine R_ireturn dX9_item_65 ⟨_, rfl, rfl⟩ ?_
        have eA : itemA tp x y z = (1, upT tp i ((tp i).1, (tp i).2.1, fun j => if j = yy then narA (tp i).1 z else (tp i).2.2 j)) := by unfold itemA; rw [if_pos c2, hnx, if_neg (fun q => absurd (sni1.mpr q) (by rw [← ti1]; exact Int32.not_lt.mpr (by first | exact c16 | exact Int32.not_lt.mp c16))), if_pos cy, hy, nnI (by omega)]
        rw [eA] at h
        rw [ti1]
        exact h mi (rn_u ml 162 (60 * i + yy) (narA (tp i).1 z)) (fun a ha => ⟨rfl, rn_u_ne (by omega)⟩) (hr.tape (htp.item hi6 (by omega)) (fun _ _ _ => rfl))
      · refine R_if_ne (tgt := 42) dX9_item_36 (by decide) (fun q => absurd q (by decide)) (fun _ => ?_)
        refine R_bipush (v := -13) dX9_item_39 (by decide) ?_
        refine R_ireturn dX9_item_41 ⟨_, rfl, rfl⟩ ?_
        have eA : itemA tp x y z = (-13, tp) := by unfold itemA; rw [if_pos c2, hnx, if_neg (fun q => absurd (sni1.mpr q) (by rw [← ti1]; exact Int32.not_lt.mpr (by first | exact c16 | exact Int32.not_lt.mp c16))), if_neg (fun q => c33 (by rw [ti2]; exact (idx_iff vi1).mpr q))]
        rw [eA] at h
        exact h mi ml (LO.refl _ _) hr
    · refine R_bipush (v := -11) dX9_item_19 (by decide) ?_
      refine R_ireturn dX9_item_21 ⟨_, rfl, rfl⟩ ?_
      have eA : itemA tp x y z = (-11, tp) := by unfold itemA; rw [if_pos c2, hnx, if_pos (sni1.mp (by rw [← ti1]; exact Int32.not_le.mp c16))]
      rw [eA] at h
      exact h mi ml (LO.refl _ _) hr
  · refine R_if_ne (tgt := 10) dX9_item_5 (by decide) (fun q => absurd q (by decide)) (fun _ => ?_)
    refine R_iconst (v := -1) dX9_item_8 (by decide) ?_
    refine R_ireturn dX9_item_9 ⟨_, rfl, rfl⟩ ?_
    have eA : itemA tp x y z = (-1, tp) := by unfold itemA; rw [if_neg c2]
    rw [eA] at h
    exact h mi ml (LO.refl _ _) hr

set_option maxHeartbeats 4000000 in
theorem L_tape9 {G : rn_G} {d : Nat} {κ : Nat × Nat} {Q : Option Value → rn_S → Prop} {mi : Nat → Nat → Int32} {D : Nat → Nat} {i : Nat} {x y z : Int32} (hx : x = nI i) (hi : i < 6) : ∀ (n j : Nat) (u : Int32) (ml : Nat → Nat → Int64), n + j = 60 → u = nI j → (∀ l, (∀ a, a ≠ 162 → l a = ml a) → (∀ q, l 162 q = if 60 * i + j ≤ q ∧ q < 60 * i + 60 then 0 else ml 162 q) → Q (some (.int 1)) (mi, l, RF D, 164)) → Run G d M_X9_tape 69 [.ref 116, .int x, .int y, .int z, .int u] [] (mi, ml, RF D, 164) κ Q := by
  intro n
  induction n with
  | zero =>
    intro j u ml hj hu h
    refine il_4 dX9_tape_69 ?_
    refine R_bipush (v := 60) dX9_tape_71 (by decide) ?_
    refine R_icmp_ge (tgt := 95) dX9_tape_73 (by decide) (fun c73 => ?_) (fun q => absurd q (not_not_intro (by rw [hu, show j = 60 by omega]; decide)))
    refine R_iconst (v := 1) dX9_tape_95 (by decide) ?_
    refine R_ireturn dX9_tape_96 ⟨_, rfl, rfl⟩ ?_
    exact h ml (fun _ _ => rfl) (fun q => by rw [if_neg (by omega)])
  | succ n ih =>
    intro j u ml hj hu h
    have e60 : (60 : Int32) * x + u = nI (60 * i + j) := by rw [hx, hu]; exact (congrArg (· + nI j) (sm_mul 60 i)).trans (sm_add _ _)
    refine il_4 dX9_tape_69 ?_
    refine R_bipush (v := 60) dX9_tape_71 (by decide) ?_
    refine R_icmp_ge (tgt := 95) dX9_tape_73 (by decide) (fun q => absurd q (by rw [hu]; exact nI_ge (b := 60) (by omega) (by decide))) (fun c73 => ?_)
    refine al_0 dX9_tape_76 ?_
    refine R_getfr (r := 162) dX9_tape_77 fl_RX9_286 rfl sh_116 (Nat.le_of_ble_eq_true rfl) rf_116_91 ?_
    refine R_bipush (v := 60) dX9_tape_80 (by decide) ?_
    refine il_1 dX9_tape_82 ?_
    refine R_imul dX9_tape_83 ?_
    refine il_4 dX9_tape_84 ?_
    refine R_iadd dX9_tape_86 ?_
    refine R_lconst (v := 0) dX9_tape_87 (by decide) ?_
    refine R_last dX9_tape_88 sh_162 (Nat.le_of_ble_eq_true rfl) (rn_ixe e60) (show 60 * i + j < 360 by omega) ?_
    refine ii_4 (v := _ + 1) dX9_tape_89 rfl (by rfl) ?_
    refine R_goto (tgt := 69) dX9_tape_92 (by decide) ?_
    refine ih (j + 1) _ _ (by omega) (by rw [hu]; exact sm_add j 1) (fun l h1 h2 => h l (fun a ha => by rw [h1 a ha, rn_u_ne ha]) (fun q => ?_))
    rw [h2 q, rn_u_at]
    dsimp only
    by_cases e : q = 60 * i + j
    · rw [if_pos e, if_neg (by omega), if_pos (by omega)]
    · rw [if_neg e]
      by_cases e2 : 60 * i + (j + 1) ≤ q ∧ q < 60 * i + 60
      · rw [if_pos e2, if_pos (by omega)]
      · rw [if_neg e2, if_neg (by omega)]

theorem MTp.set {mi : Nat → Nat → Int32} {ml l : Nat → Nat → Int64} {tp : TP} {i n : Nat} {s : Int32} (h : MTp mi ml tp) (hi : i < 6) (h2 : ∀ q, l 162 q = if 60 * i + 0 ≤ q ∧ q < 60 * i + 60 then 0 else ml 162 q) : MTp (rn_u (rn_u mi 160 i s) 161 i (nI n)) l (upT tp i (s, n, fun _ => 0)) := fun j hj => by
  obtain ⟨h1, h3, h4⟩ := h j hj
  unfold upT
  rw [rn_u_ne (show (160 : Nat) ≠ 161 by decide), rn_u_at, rn_u_at, rn_u_ne (show (161 : Nat) ≠ 160 by decide)]
  dsimp only
  by_cases e : j = i
  · subst e
    rw [if_pos rfl, if_pos rfl, if_pos rfl]
    exact ⟨rfl, rfl, fun q hq => by rw [h2, if_pos (by omega)]⟩
  · rw [if_neg e, if_neg e, if_neg e]
    exact ⟨h1, h3, fun q hq => by rw [h2, if_neg (by omega)]; exact h4 q hq⟩

theorem m1_lt {y : Int32} (h : -1 < y) (h0 : y < 0) : False := by
  rw [Int32.lt_iff_toInt_lt] at h h0
  rw [show (-1 : Int32).toInt = -1 from rfl] at h
  rw [Int32.toInt_zero] at h0
  omega

set_option maxHeartbeats 4000000 in
theorem MC_tape {G : rn_G} {d : Nat} {κ : Nat × Nat} {Q : Option Value → rn_S → Prop} {mi : Nat → Nat → Int32} {ml : Nat → Nat → Int64} {D : Nat → Nat} {x y z : Int32} {w : WD} {c k : Nat} {ds : Nat → CL} {sl : SL} {el bl : EL} {im : IM} {T : Nat → Nat} {L : Nat} {ac : List Int32} {tp : TP} (hv : IV w c k ds sl el bl im ac tp) (hr : MR w c k ds sl el bl im T L ac tp mi ml) (h : ∀ m l, LO mi m ml l → MR w c k ds sl el bl im T L ac (tapeA tp x y z).2 m l → Q (some (.int (tapeA tp x y z).1)) (m, l, RF D, 164))  : Call G (d + 30) M_X9_tape [.ref 116, .int x, .int y, .int z] (mi, ml, RF D, 164) κ Q := by
  show Run G _ M_X9_tape 0 [.ref 116, .int x, .int y, .int z, .null] [] _ _ _
  have hB := hr.1
  have hw := hv.1.1
  have hk6 := hv.2.2.1
  obtain ⟨N, P, R, ⟨hN, hP, hR, hg, hpp, hrr, hdn, hmn, hkp, hwt, hgp, htr⟩, hpc, hbits, hPJ⟩ := hB.n hw
  obtain ⟨w0, w1, w2, w3, w4, w5, w6, w10⟩ := hB.cells
  have htp := hr.2.2.2.2.2.2.2.2.2
  have htv := hv.2.2.2.2.2
  refine al_0 dX9_tape_0 ?_
  refine il_1 dX9_tape_1 ?_
  refine cv_1 dX9_tape_2 mm_RX9_469 sh_116 (Nat.le_of_ble_eq_true rfl) ⟨_, rfl, rfl⟩ (Nat.le_of_ble_eq_true rfl) (Nat.le_of_ble_eq_true rfl) (M_isTape (fun c2 => ?_) (fun c2 => ?_))
  · refine R_if_ne (tgt := 10) dX9_tape_5 (by decide) (fun _ => ?_) (fun q => absurd q (by decide))
    obtain ⟨i, hi6, hx⟩ := sm_of c2.1 ((lt_succ_iff (a := 5)).mpr c2.2) (by decide)
    have hnx : nn x = i := by rw [hx]; exact nnI (by omega)
    obtain ⟨ti1, ti2, ti3⟩ := htp i hi6
    obtain ⟨vi1, vi2, vi3⟩ := htv i hi6
    obtain ⟨sni1, sni2⟩ := sort_neg vi2
    refine al_0 dX9_tape_10 ?_
    refine il_2 dX9_tape_11 ?_
    refine R_iconst (v := -1) dX9_tape_12 (by decide) ?_
    refine R_iconst (v := 4) dX9_tape_13 (by decide) ?_
    refine cv_3 dX9_tape_14 mm_RX9_293 sh_116 (Nat.le_of_ble_eq_true rfl) ⟨_, rfl, rfl⟩ (Nat.le_of_ble_eq_true rfl) (Nat.le_of_ble_eq_true rfl) (M_in (fun c14 => ?_) (fun c14 => ?_))
    · refine R_if_eq (tgt := 30) dX9_tape_17 (by decide) (fun q => absurd q (by decide)) (fun _ => ?_)
      refine il_2 dX9_tape_20 ?_
      refine R_if_lt (tgt := 33) dX9_tape_21 (by decide) (fun c21 => ?_) (fun c21 => ?_)
      · refine il_2 dX9_tape_33 ?_
        refine R_if_lt (tgt := 44) dX9_tape_34 (by decide) (fun c34 => ?_) (fun c34 => ?_)
        · have hyr : y = -1 ∨ ∃ a, a ≤ 4 ∧ y = nI a := by
            by_cases y0 : y < 0
            · left; exact Int32.le_antisymm (by rw [← Int32.not_lt]; exact fun q => absurd (Int32.lt_of_lt_of_le q (Int32.le_refl y)) (fun q => m1_lt q y0)) c14.1
            · obtain ⟨a, h1, h2⟩ := sm_of (Int32.not_lt.mp y0) ((lt_succ_iff (a := 4)).mpr c14.2) (by decide)
              exact Or.inr ⟨a, by omega, h2⟩
          obtain ⟨nz, hnz, hval⟩ : ∃ nz : Nat, (if y < 0 then (0 : Int32) else z) = nI nz ∧ tapeA tp x y z = (1, upT tp i (y, nz, fun _ => 0)) := by
            unfold tapeA
            rw [if_pos c2, hnx]
            by_cases y0 : y < 0
            · have ym : y = -1 := (sort_neg (by first | exact hyr | exact hyr)).1.mp y0
              exact ⟨0, by rw [if_pos y0]; rfl, by rw [if_pos ym, ym]⟩
            · have hz0 : 0 ≤ z := by first | exact absurd (by first | exact c34 | exact Int32.not_le.mp c34) y0 | exact c38 | exact Int32.not_lt.mp c38
              have hz60 : z ≤ 60 := by first | exact absurd (by first | exact c21 | exact Int32.not_le.mp c21) y0 | exact c27 | exact Int32.not_lt.mp c27
              obtain ⟨nz, h1, h2⟩ := sm_of hz0 ((lt_succ_iff (a := 60)).mpr hz60) (by decide)
              refine ⟨nz, by rw [if_neg y0]; exact h2, ?_⟩
              rw [if_neg (fun q => y0 (by rw [q]; decide)), if_pos ⟨⟨Int32.not_lt.mp y0, c14.2⟩, hz60⟩, if_neg (Int32.not_lt.mpr hz0), h2, nnI (by omega)]
          refine al_0 dX9_tape_44 ?_
          refine R_getfr (r := 160) dX9_tape_45 fl_RX9_280 rfl sh_116 (Nat.le_of_ble_eq_true rfl) rf_116_89 ?_
          refine il_1 dX9_tape_48 ?_
          refine il_2 dX9_tape_49 ?_
          refine R_iast dX9_tape_50 sh_160 (Nat.le_of_ble_eq_true rfl) (rn_ixe hx) hi6 ?_
          refine al_0 dX9_tape_51 ?_
          refine R_getfr (r := 161) dX9_tape_52 fl_RX9_283 rfl sh_116 (Nat.le_of_ble_eq_true rfl) rf_116_90 ?_
          refine il_1 dX9_tape_55 ?_
          refine il_2 dX9_tape_56 ?_
          refine R_if_ge (tgt := 64) dX9_tape_57 (by decide) (fun c57 => ?_) (fun c57 => ?_)
          · refine il_3 dX9_tape_64 ?_
            refine R_iast dX9_tape_65 sh_161 (Nat.le_of_ble_eq_true rfl) (rn_ixe hx) hi6 ?_
            refine R_iconst (v := 0) dX9_tape_66 (by decide) ?_
            refine is_4 dX9_tape_67 rfl ?_
            first | rw [if_pos c57] at hnz | rw [if_neg c57] at hnz | rw [if_pos (Int32.not_le.mp c57)] at hnz | rw [if_neg (Int32.not_lt.mpr c57)] at hnz
            rw [hval] at h
            refine L_tape9 hx hi6 60 0 _ _ rfl nI_0.symm (fun l h1 h2 => ?_)
            first
              | (rw [hnz]; exact h _ l (fun a ha => ⟨by rw [rn_u_ne (by omega), rn_u_ne (by omega)], h1 a (by omega)⟩) (hr.tape (htp.set hi6 h2) (fun a a1 a2 => by rw [rn_u_ne a2, rn_u_ne a1])))
              | (rw [show (0 : Int32) = nI nz from hnz]; exact h _ l (fun a ha => ⟨by rw [rn_u_ne (by omega), rn_u_ne (by omega)], h1 a (by omega)⟩) (hr.tape (htp.set hi6 h2) (fun a a1 a2 => by rw [rn_u_ne a2, rn_u_ne a1])))
          · refine R_iconst (v := 0) dX9_tape_60 (by decide) ?_
            refine R_goto (tgt := 65) dX9_tape_61 (by decide) ?_
            refine R_iast dX9_tape_65 sh_161 (Nat.le_of_ble_eq_true rfl) (rn_ixe hx) hi6 ?_
            refine R_iconst (v := 0) dX9_tape_66 (by decide) ?_
            refine is_4 dX9_tape_67 rfl ?_
            first | rw [if_pos c57] at hnz | rw [if_neg c57] at hnz | rw [if_pos (Int32.not_le.mp c57)] at hnz | rw [if_neg (Int32.not_lt.mpr c57)] at hnz
            rw [hval] at h
            refine L_tape9 hx hi6 60 0 _ _ rfl nI_0.symm (fun l h1 h2 => ?_)
            first
              | (rw [hnz]; exact h _ l (fun a ha => ⟨by rw [rn_u_ne (by omega), rn_u_ne (by omega)], h1 a (by omega)⟩) (hr.tape (htp.set hi6 h2) (fun a a1 a2 => by rw [rn_u_ne a2, rn_u_ne a1])))
              | (rw [show (0 : Int32) = nI nz from hnz]; exact h _ l (fun a ha => ⟨by rw [rn_u_ne (by omega), rn_u_ne (by omega)], h1 a (by omega)⟩) (hr.tape (htp.set hi6 h2) (fun a a1 a2 => by rw [rn_u_ne a2, rn_u_ne a1])))
        · refine il_3 dX9_tape_37 ?_
          refine R_if_ge (tgt := 44) dX9_tape_38 (by decide) (fun c38 => ?_) (fun c38 => ?_)
          · have hyr : y = -1 ∨ ∃ a, a ≤ 4 ∧ y = nI a := by
              by_cases y0 : y < 0
              · left; exact Int32.le_antisymm (by rw [← Int32.not_lt]; exact fun q => absurd (Int32.lt_of_lt_of_le q (Int32.le_refl y)) (fun q => m1_lt q y0)) c14.1
              · obtain ⟨a, h1, h2⟩ := sm_of (Int32.not_lt.mp y0) ((lt_succ_iff (a := 4)).mpr c14.2) (by decide)
                exact Or.inr ⟨a, by omega, h2⟩
            obtain ⟨nz, hnz, hval⟩ : ∃ nz : Nat, (if y < 0 then (0 : Int32) else z) = nI nz ∧ tapeA tp x y z = (1, upT tp i (y, nz, fun _ => 0)) := by
              unfold tapeA
              rw [if_pos c2, hnx]
              by_cases y0 : y < 0
              · have ym : y = -1 := (sort_neg (by first | exact hyr | exact hyr)).1.mp y0
                exact ⟨0, by rw [if_pos y0]; rfl, by rw [if_pos ym, ym]⟩
              · have hz0 : 0 ≤ z := by first | exact absurd (by first | exact c34 | exact Int32.not_le.mp c34) y0 | exact c38 | exact Int32.not_lt.mp c38
                have hz60 : z ≤ 60 := by first | exact absurd (by first | exact c21 | exact Int32.not_le.mp c21) y0 | exact c27 | exact Int32.not_lt.mp c27
                obtain ⟨nz, h1, h2⟩ := sm_of hz0 ((lt_succ_iff (a := 60)).mpr hz60) (by decide)
                refine ⟨nz, by rw [if_neg y0]; exact h2, ?_⟩
                rw [if_neg (fun q => y0 (by rw [q]; decide)), if_pos ⟨⟨Int32.not_lt.mp y0, c14.2⟩, hz60⟩, if_neg (Int32.not_lt.mpr hz0), h2, nnI (by omega)]
            refine al_0 dX9_tape_44 ?_
            refine R_getfr (r := 160) dX9_tape_45 fl_RX9_280 rfl sh_116 (Nat.le_of_ble_eq_true rfl) rf_116_89 ?_
            refine il_1 dX9_tape_48 ?_
            refine il_2 dX9_tape_49 ?_
            refine R_iast dX9_tape_50 sh_160 (Nat.le_of_ble_eq_true rfl) (rn_ixe hx) hi6 ?_
            refine al_0 dX9_tape_51 ?_
            refine R_getfr (r := 161) dX9_tape_52 fl_RX9_283 rfl sh_116 (Nat.le_of_ble_eq_true rfl) rf_116_90 ?_
            refine il_1 dX9_tape_55 ?_
            refine il_2 dX9_tape_56 ?_
            refine R_if_ge (tgt := 64) dX9_tape_57 (by decide) (fun c57 => ?_) (fun c57 => ?_)
            · refine il_3 dX9_tape_64 ?_
              refine R_iast dX9_tape_65 sh_161 (Nat.le_of_ble_eq_true rfl) (rn_ixe hx) hi6 ?_
              refine R_iconst (v := 0) dX9_tape_66 (by decide) ?_
              refine is_4 dX9_tape_67 rfl ?_
              first | rw [if_pos c57] at hnz | rw [if_neg c57] at hnz | rw [if_pos (Int32.not_le.mp c57)] at hnz | rw [if_neg (Int32.not_lt.mpr c57)] at hnz
              rw [hval] at h
              refine L_tape9 hx hi6 60 0 _ _ rfl nI_0.symm (fun l h1 h2 => ?_)
              first
                | (rw [hnz]; exact h _ l (fun a ha => ⟨by rw [rn_u_ne (by omega), rn_u_ne (by omega)], h1 a (by omega)⟩) (hr.tape (htp.set hi6 h2) (fun a a1 a2 => by rw [rn_u_ne a2, rn_u_ne a1])))
                | (rw [show (0 : Int32) = nI nz from hnz]; exact h _ l (fun a ha => ⟨by rw [rn_u_ne (by omega), rn_u_ne (by omega)], h1 a (by omega)⟩) (hr.tape (htp.set hi6 h2) (fun a a1 a2 => by rw [rn_u_ne a2, rn_u_ne a1])))
            · refine R_iconst (v := 0) dX9_tape_60 (by decide) ?_
              refine R_goto (tgt := 65) dX9_tape_61 (by decide) ?_
              refine R_iast dX9_tape_65 sh_161 (Nat.le_of_ble_eq_true rfl) (rn_ixe hx) hi6 ?_
              refine R_iconst (v := 0) dX9_tape_66 (by decide) ?_
              refine is_4 dX9_tape_67 rfl ?_
              first | rw [if_pos c57] at hnz | rw [if_neg c57] at hnz | rw [if_pos (Int32.not_le.mp c57)] at hnz | rw [if_neg (Int32.not_lt.mpr c57)] at hnz
              rw [hval] at h
              refine L_tape9 hx hi6 60 0 _ _ rfl nI_0.symm (fun l h1 h2 => ?_)
              first
                | (rw [hnz]; exact h _ l (fun a ha => ⟨by rw [rn_u_ne (by omega), rn_u_ne (by omega)], h1 a (by omega)⟩) (hr.tape (htp.set hi6 h2) (fun a a1 a2 => by rw [rn_u_ne a2, rn_u_ne a1])))
                | (rw [show (0 : Int32) = nI nz from hnz]; exact h _ l (fun a ha => ⟨by rw [rn_u_ne (by omega), rn_u_ne (by omega)], h1 a (by omega)⟩) (hr.tape (htp.set hi6 h2) (fun a a1 a2 => by rw [rn_u_ne a2, rn_u_ne a1])))
          · refine R_bipush (v := -14) dX9_tape_41 (by decide) ?_
            refine R_ireturn dX9_tape_43 ⟨_, rfl, rfl⟩ ?_
            have eA : tapeA tp x y z = (-14, tp) := by unfold tapeA; rw [if_pos c2, if_neg (fun q => absurd (show y < 0 by rw [q]; decide) (Int32.not_lt.mpr (by first | exact c34 | exact Int32.not_lt.mp c34))), if_pos ⟨⟨by first | exact c34 | exact Int32.not_lt.mp c34, c14.2⟩, by first | exact c27 | exact Int32.not_lt.mp c27 | exact absurd (by first | exact c21 | exact Int32.not_le.mp c21) (Int32.not_lt.mpr (by first | exact c34 | exact Int32.not_lt.mp c34))⟩, if_pos (by first | exact c38 | exact Int32.not_le.mp c38)]
            rw [eA] at h
            exact h mi ml (LO.refl _ _) hr
      · refine il_3 dX9_tape_24 ?_
        refine R_bipush (v := 60) dX9_tape_25 (by decide) ?_
        refine R_icmp_le (tgt := 33) dX9_tape_27 (by decide) (fun c27 => ?_) (fun c27 => ?_)
        · refine il_2 dX9_tape_33 ?_
          refine R_if_lt (tgt := 44) dX9_tape_34 (by decide) (fun c34 => ?_) (fun c34 => ?_)
          · have hyr : y = -1 ∨ ∃ a, a ≤ 4 ∧ y = nI a := by
              by_cases y0 : y < 0
              · left; exact Int32.le_antisymm (by rw [← Int32.not_lt]; exact fun q => absurd (Int32.lt_of_lt_of_le q (Int32.le_refl y)) (fun q => m1_lt q y0)) c14.1
              · obtain ⟨a, h1, h2⟩ := sm_of (Int32.not_lt.mp y0) ((lt_succ_iff (a := 4)).mpr c14.2) (by decide)
                exact Or.inr ⟨a, by omega, h2⟩
            obtain ⟨nz, hnz, hval⟩ : ∃ nz : Nat, (if y < 0 then (0 : Int32) else z) = nI nz ∧ tapeA tp x y z = (1, upT tp i (y, nz, fun _ => 0)) := by
              unfold tapeA
              rw [if_pos c2, hnx]
              by_cases y0 : y < 0
              · have ym : y = -1 := (sort_neg (by first | exact hyr | exact hyr)).1.mp y0
                exact ⟨0, by rw [if_pos y0]; rfl, by rw [if_pos ym, ym]⟩
              · have hz0 : 0 ≤ z := by first | exact absurd (by first | exact c34 | exact Int32.not_le.mp c34) y0 | exact c38 | exact Int32.not_lt.mp c38
                have hz60 : z ≤ 60 := by first | exact absurd (by first | exact c21 | exact Int32.not_le.mp c21) y0 | exact c27 | exact Int32.not_lt.mp c27
                obtain ⟨nz, h1, h2⟩ := sm_of hz0 ((lt_succ_iff (a := 60)).mpr hz60) (by decide)
                refine ⟨nz, by rw [if_neg y0]; exact h2, ?_⟩
                rw [if_neg (fun q => y0 (by rw [q]; decide)), if_pos ⟨⟨Int32.not_lt.mp y0, c14.2⟩, hz60⟩, if_neg (Int32.not_lt.mpr hz0), h2, nnI (by omega)]
            refine al_0 dX9_tape_44 ?_
            refine R_getfr (r := 160) dX9_tape_45 fl_RX9_280 rfl sh_116 (Nat.le_of_ble_eq_true rfl) rf_116_89 ?_
            refine il_1 dX9_tape_48 ?_
            refine il_2 dX9_tape_49 ?_
            refine R_iast dX9_tape_50 sh_160 (Nat.le_of_ble_eq_true rfl) (rn_ixe hx) hi6 ?_
            refine al_0 dX9_tape_51 ?_
            refine R_getfr (r := 161) dX9_tape_52 fl_RX9_283 rfl sh_116 (Nat.le_of_ble_eq_true rfl) rf_116_90 ?_
            refine il_1 dX9_tape_55 ?_
            refine il_2 dX9_tape_56 ?_
            refine R_if_ge (tgt := 64) dX9_tape_57 (by decide) (fun c57 => ?_) (fun c57 => ?_)
            · refine il_3 dX9_tape_64 ?_
              refine R_iast dX9_tape_65 sh_161 (Nat.le_of_ble_eq_true rfl) (rn_ixe hx) hi6 ?_
              refine R_iconst (v := 0) dX9_tape_66 (by decide) ?_
              refine is_4 dX9_tape_67 rfl ?_
              first | rw [if_pos c57] at hnz | rw [if_neg c57] at hnz | rw [if_pos (Int32.not_le.mp c57)] at hnz | rw [if_neg (Int32.not_lt.mpr c57)] at hnz
              rw [hval] at h
              refine L_tape9 hx hi6 60 0 _ _ rfl nI_0.symm (fun l h1 h2 => ?_)
              first
                | (rw [hnz]; exact h _ l (fun a ha => ⟨by rw [rn_u_ne (by omega), rn_u_ne (by omega)], h1 a (by omega)⟩) (hr.tape (htp.set hi6 h2) (fun a a1 a2 => by rw [rn_u_ne a2, rn_u_ne a1])))
                | (rw [show (0 : Int32) = nI nz from hnz]; exact h _ l (fun a ha => ⟨by rw [rn_u_ne (by omega), rn_u_ne (by omega)], h1 a (by omega)⟩) (hr.tape (htp.set hi6 h2) (fun a a1 a2 => by rw [rn_u_ne a2, rn_u_ne a1])))
            · refine R_iconst (v := 0) dX9_tape_60 (by decide) ?_
              refine R_goto (tgt := 65) dX9_tape_61 (by decide) ?_
              refine R_iast dX9_tape_65 sh_161 (Nat.le_of_ble_eq_true rfl) (rn_ixe hx) hi6 ?_
              refine R_iconst (v := 0) dX9_tape_66 (by decide) ?_
              refine is_4 dX9_tape_67 rfl ?_
              first | rw [if_pos c57] at hnz | rw [if_neg c57] at hnz | rw [if_pos (Int32.not_le.mp c57)] at hnz | rw [if_neg (Int32.not_lt.mpr c57)] at hnz
              rw [hval] at h
              refine L_tape9 hx hi6 60 0 _ _ rfl nI_0.symm (fun l h1 h2 => ?_)
              first
                | (rw [hnz]; exact h _ l (fun a ha => ⟨by rw [rn_u_ne (by omega), rn_u_ne (by omega)], h1 a (by omega)⟩) (hr.tape (htp.set hi6 h2) (fun a a1 a2 => by rw [rn_u_ne a2, rn_u_ne a1])))
                | (rw [show (0 : Int32) = nI nz from hnz]; exact h _ l (fun a ha => ⟨by rw [rn_u_ne (by omega), rn_u_ne (by omega)], h1 a (by omega)⟩) (hr.tape (htp.set hi6 h2) (fun a a1 a2 => by rw [rn_u_ne a2, rn_u_ne a1])))
          · refine il_3 dX9_tape_37 ?_
            refine R_if_ge (tgt := 44) dX9_tape_38 (by decide) (fun c38 => ?_) (fun c38 => ?_)
            · have hyr : y = -1 ∨ ∃ a, a ≤ 4 ∧ y = nI a := by
                by_cases y0 : y < 0
                · left; exact Int32.le_antisymm (by rw [← Int32.not_lt]; exact fun q => absurd (Int32.lt_of_lt_of_le q (Int32.le_refl y)) (fun q => m1_lt q y0)) c14.1
                · obtain ⟨a, h1, h2⟩ := sm_of (Int32.not_lt.mp y0) ((lt_succ_iff (a := 4)).mpr c14.2) (by decide)
                  exact Or.inr ⟨a, by omega, h2⟩
              obtain ⟨nz, hnz, hval⟩ : ∃ nz : Nat, (if y < 0 then (0 : Int32) else z) = nI nz ∧ tapeA tp x y z = (1, upT tp i (y, nz, fun _ => 0)) := by
                unfold tapeA
                rw [if_pos c2, hnx]
                by_cases y0 : y < 0
                · have ym : y = -1 := (sort_neg (by first | exact hyr | exact hyr)).1.mp y0
                  exact ⟨0, by rw [if_pos y0]; rfl, by rw [if_pos ym, ym]⟩
                · have hz0 : 0 ≤ z := by first | exact absurd (by first | exact c34 | exact Int32.not_le.mp c34) y0 | exact c38 | exact Int32.not_lt.mp c38
                  have hz60 : z ≤ 60 := by first | exact absurd (by first | exact c21 | exact Int32.not_le.mp c21) y0 | exact c27 | exact Int32.not_lt.mp c27
                  obtain ⟨nz, h1, h2⟩ := sm_of hz0 ((lt_succ_iff (a := 60)).mpr hz60) (by decide)
                  refine ⟨nz, by rw [if_neg y0]; exact h2, ?_⟩
                  rw [if_neg (fun q => y0 (by rw [q]; decide)), if_pos ⟨⟨Int32.not_lt.mp y0, c14.2⟩, hz60⟩, if_neg (Int32.not_lt.mpr hz0), h2, nnI (by omega)]
              refine al_0 dX9_tape_44 ?_
              refine R_getfr (r := 160) dX9_tape_45 fl_RX9_280 rfl sh_116 (Nat.le_of_ble_eq_true rfl) rf_116_89 ?_
              refine il_1 dX9_tape_48 ?_
              refine il_2 dX9_tape_49 ?_
              refine R_iast dX9_tape_50 sh_160 (Nat.le_of_ble_eq_true rfl) (rn_ixe hx) hi6 ?_
              refine al_0 dX9_tape_51 ?_
              refine R_getfr (r := 161) dX9_tape_52 fl_RX9_283 rfl sh_116 (Nat.le_of_ble_eq_true rfl) rf_116_90 ?_
              refine il_1 dX9_tape_55 ?_
              refine il_2 dX9_tape_56 ?_
              refine R_if_ge (tgt := 64) dX9_tape_57 (by decide) (fun c57 => ?_) (fun c57 => ?_)
              · refine il_3 dX9_tape_64 ?_
                refine R_iast dX9_tape_65 sh_161 (Nat.le_of_ble_eq_true rfl) (rn_ixe hx) hi6 ?_
                refine R_iconst (v := 0) dX9_tape_66 (by decide) ?_
                refine is_4 dX9_tape_67 rfl ?_
                first | rw [if_pos c57] at hnz | rw [if_neg c57] at hnz | rw [if_pos (Int32.not_le.mp c57)] at hnz | rw [if_neg (Int32.not_lt.mpr c57)] at hnz
                rw [hval] at h
                refine L_tape9 hx hi6 60 0 _ _ rfl nI_0.symm (fun l h1 h2 => ?_)
                first
                  | (rw [hnz]; exact h _ l (fun a ha => ⟨by rw [rn_u_ne (by omega), rn_u_ne (by omega)], h1 a (by omega)⟩) (hr.tape (htp.set hi6 h2) (fun a a1 a2 => by rw [rn_u_ne a2, rn_u_ne a1])))
                  | (rw [show (0 : Int32) = nI nz from hnz]; exact h _ l (fun a ha => ⟨by rw [rn_u_ne (by omega), rn_u_ne (by omega)], h1 a (by omega)⟩) (hr.tape (htp.set hi6 h2) (fun a a1 a2 => by rw [rn_u_ne a2, rn_u_ne a1])))
              · refine R_iconst (v := 0) dX9_tape_60 (by decide) ?_
                refine R_goto (tgt := 65) dX9_tape_61 (by decide) ?_
                refine R_iast dX9_tape_65 sh_161 (Nat.le_of_ble_eq_true rfl) (rn_ixe hx) hi6 ?_
                refine R_iconst (v := 0) dX9_tape_66 (by decide) ?_
                refine is_4 dX9_tape_67 rfl ?_
                first | rw [if_pos c57] at hnz | rw [if_neg c57] at hnz | rw [if_pos (Int32.not_le.mp c57)] at hnz | rw [if_neg (Int32.not_lt.mpr c57)] at hnz
                rw [hval] at h
                refine L_tape9 hx hi6 60 0 _ _ rfl nI_0.symm (fun l h1 h2 => ?_)
                first
                  | (rw [hnz]; exact h _ l (fun a ha => ⟨by rw [rn_u_ne (by omega), rn_u_ne (by omega)], h1 a (by omega)⟩) (hr.tape (htp.set hi6 h2) (fun a a1 a2 => by rw [rn_u_ne a2, rn_u_ne a1])))
                  | (rw [show (0 : Int32) = nI nz from hnz]; exact h _ l (fun a ha => ⟨by rw [rn_u_ne (by omega), rn_u_ne (by omega)], h1 a (by omega)⟩) (hr.tape (htp.set hi6 h2) (fun a a1 a2 => by rw [rn_u_ne a2, rn_u_ne a1])))
            · refine R_bipush (v := -14) dX9_tape_41 (by decide) ?_
              refine R_ireturn dX9_tape_43 ⟨_, rfl, rfl⟩ ?_
              have eA : tapeA tp x y z = (-14, tp) := by unfold tapeA; rw [if_pos c2, if_neg (fun q => absurd (show y < 0 by rw [q]; decide) (Int32.not_lt.mpr (by first | exact c34 | exact Int32.not_lt.mp c34))), if_pos ⟨⟨by first | exact c34 | exact Int32.not_lt.mp c34, c14.2⟩, by first | exact c27 | exact Int32.not_lt.mp c27 | exact absurd (by first | exact c21 | exact Int32.not_le.mp c21) (Int32.not_lt.mpr (by first | exact c34 | exact Int32.not_lt.mp c34))⟩, if_pos (by first | exact c38 | exact Int32.not_le.mp c38)]
              rw [eA] at h
              exact h mi ml (LO.refl _ _) hr
        · refine R_bipush (v := -2) dX9_tape_30 (by decide) ?_
          refine R_ireturn dX9_tape_32 ⟨_, rfl, rfl⟩ ?_
          have eA : tapeA tp x y z = (-2, tp) := by unfold tapeA; rw [if_pos c2, if_neg (fun q => by first | exact c14 (by rw [q]; decide) | exact absurd (show y < 0 by rw [q]; decide) (Int32.not_lt.mpr (by first | exact c21 | exact Int32.not_lt.mp c21))), if_neg (fun q => by first | exact c14 ⟨Int32.le_trans (by decide) q.1.1, q.1.2⟩ | exact absurd q.2 (Int32.not_le.mpr (by first | exact c27 | exact Int32.not_le.mp c27)))]
          rw [eA] at h
          exact h mi ml (LO.refl _ _) hr
    · refine R_if_eq (tgt := 30) dX9_tape_17 (by decide) (fun _ => ?_) (fun q => absurd q (by decide))
      refine R_bipush (v := -2) dX9_tape_30 (by decide) ?_
      refine R_ireturn dX9_tape_32 ⟨_, rfl, rfl⟩ ?_
      have eA : tapeA tp x y z = (-2, tp) := by unfold tapeA; rw [if_pos c2, if_neg (fun q => by first | exact c14 (by rw [q]; decide) | exact absurd (show y < 0 by rw [q]; decide) (Int32.not_lt.mpr (by first | exact c21 | exact Int32.not_lt.mp c21))), if_neg (fun q => by first | exact c14 ⟨Int32.le_trans (by decide) q.1.1, q.1.2⟩ | exact absurd q.2 (Int32.not_le.mpr (by first | exact c27 | exact Int32.not_le.mp c27)))]
      rw [eA] at h
      exact h mi ml (LO.refl _ _) hr
  · refine R_if_ne (tgt := 10) dX9_tape_5 (by decide) (fun q => absurd q (by decide)) (fun _ => ?_)
    refine R_iconst (v := -1) dX9_tape_8 (by decide) ?_
    refine R_ireturn dX9_tape_9 ⟨_, rfl, rfl⟩ ?_
    have eA : tapeA tp x y z = (-1, tp) := by unfold tapeA; rw [if_neg c2]
    rw [eA] at h
    exact h mi ml (LO.refl _ _) hr
