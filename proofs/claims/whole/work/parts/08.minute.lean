/-! the park: a minute -/
theorem nmi {Q : Option Value → rn_S → Prop} {v : Int32} {σ : rn_S} (h : ∀ y : Int32, y = v → Q (some (.int y)) σ) : Q (some (.int v)) σ := h v rfl
theorem nmr {G : rn_G} {d : Nat} {M : rn_M} {pc : Nat} {ls st : List Value} {σ : rn_S} {κ : Nat × Nat} {Q : Option Value → rn_S → Prop} {v : Int32} (h : ∀ y : Int32, y = v → Run G d M pc ls (.int y :: st) σ κ Q) : Run G d M pc ls (rn_ps (some (.int v)) st) σ κ Q := h v rfl
abbrev nn (x : Int32) : Nat := x.toNatClampNeg
abbrev WD : Type := (Nat → Int32) × (Nat → Int32) × (Nat → Int32) × (Nat → Nat → Int32)
def sC (mi : Nat → Nat → Int32) (k b : Nat) : Nat → Int32 := fun j => match j with
  | 0 => mi b 4 | 1 => mi b 5 | 2 => mi b 6 | 3 => mi b 7 | 4 => mi b 8 | 5 => mi b 9 | 6 => mi b 10
  | 7 => if 0 < mi b 12 then mi b 12 else mi k 3
  | 8 => mi b 13 | 9 => mi b 14 | _ => mi k 2
def pC (mi : Nat → Nat → Int32) (q : Nat) : Nat → Int32 := fun f => if f < 6 then mi q f else if f < 10 then mi (q + 1) (f - 6) else 0
def goalS (s gp P : Nat → Int32) : Int32 := goalF (fleeC (P 0)) (s 3) (P 2) (P 3) gp (nn (s 0)) 0 (-5) 0
def stepsS (s P : Nat → Int32) : Int32 := stepsC (P 0) (s 6) (P (6 + nn (remJ (s 6) 4)))
def walkF (s gp P : Nat → Int32) : Nat → Int32 := fun f =>
  if 0 ≤ goalS s gp P ∧ goalS s gp P < s 0 then
    if towC (P 2) (gp (nn (goalS s gp P))) (stepsS s P) = gp (nn (goalS s gp P)) then
      if bitD (s 1) (goalS s gp P) = 1 then (if f = 2 then towC (P 2) (gp (nn (goalS s gp P))) (stepsS s P) else if f = 3 then setB (P 3) (goalS s gp P) else if f = 4 then 1 else P f)
      else (if f = 2 then towC (P 2) (gp (nn (goalS s gp P))) (stepsS s P) else if f = 4 then 1 else if f = 5 then 1 else P f)
    else (if f = 2 then towC (P 2) (gp (nn (goalS s gp P))) (stepsS s P) else if f = 4 then 1 else P f)
  else if f = 4 then 1 else P f
def hearsS (er : (Nat → Int32) → Int32) (s P : Nat → Int32) (i : Nat) : Prop := wayC (P 2) (s 3) ≤ s 10 + er (factF (nI i) (P 0) (P 1) (P 2) (P 3) (s 6))
noncomputable def pstepF (er : (Nat → Int32) → Int32) (s gp P : Nat → Int32) (i : Nat) : Nat → Int32 := 
  have := Classical.propDecidable (P 5 = 0 ∧ (¬ P 4 = 0 ∨ hearsS er s P i))
  if P 5 = 0 ∧ (¬ P 4 = 0 ∨ hearsS er s P i) then walkF s gp P else P
def roundF (s gp rd : Nat → Int32) : Nat → Int32 := fun j =>
  if 0 < s 8 then (if j = 8 then s 8 - 1 else s j)
  else if s 5 < s 4 then
    if towC (s 3) (gp (nn (rd (nn (s 5))))) (s 7) = gp (nn (rd (nn (s 5)))) then
      (if j = 3 then towC (s 3) (gp (nn (rd (nn (s 5))))) (s 7) else if j = 5 then s 5 + 1 else if j = 1 then (if rd (nn (s 5)) = s 9 then s 1 else setB (s 1) (rd (nn (s 5)))) else s j)
    else (if j = 3 then towC (s 3) (gp (nn (rd (nn (s 5))))) (s 7) else s j)
  else s j
theorem pq_ne {q b : Nat} (hq : PQ q) (hB : PB b) : b ≠ q ∧ b + 1 ≠ q ∧ b + 2 ≠ q ∧ b + 3 ≠ q ∧ b + 4 ≠ q ∧ b + 5 ≠ q ∧ b + 6 ≠ q := by
  obtain ⟨c, i, hc, hi, rfl⟩ := hq
  unfold PB at hc hB
  omega

theorem rem4_lt {x : Int32} (hm : ∃ m, x = nI m ∧ m < 2 ^ 31) : nn (remJ x 4) < 4 := by
  obtain ⟨m, rfl, hm⟩ := hm
  have h4 := sm_rem (a := m) (c := 4) hm (by decide)
  show nn (remJ (nI m) (nI 4)) < 4
  rw [h4]
  show (nI (m % 4)).toNatClampNeg < 4
  rw [nI_clamp (by omega)]
  omega

set_option maxHeartbeats 4000000 in
theorem K_walk {G : rn_G} {d : Nat} {κ : Nat × Nat} {Q : Option Value → rn_S → Prop} {mi : Nat → Nat → Int32} {ml : Nat → Nat → Int64} {D : Nat → Nat} {b : Nat} (hB : PB b) {k q N : Nat} (hq : PQ q) (hg : mi b 4 = nI N) (hN : N ≤ 6) (hm : ∃ m, mi b 10 = nI m ∧ m < 2 ^ 31) (h : ∀ mi', (∀ a, a ≠ q → mi' a = mi a) → (∀ f, f < 6 → mi' q f = walkF (sC mi k b) (mi (b + 1)) (pC mi q) f) → Q none (mi', ml, RF D, 164)) : Call G (d + 3) M_X3_walk [.ref b, .ref q] (mi, ml, RF D, 164) κ Q := by
  show Run G _ M_X3_walk 0 [.ref b, .ref q, .null] [] _ _ _
  obtain ⟨n0, n1, n2, n3, n4, n5, n6⟩ := pq_ne hq hB
  refine al_1 dX3_walk_0 ?_
  refine R_iconst (v := 1) dX3_walk_1 (by decide) ?_
  refine R_putfi dX3_walk_2 fl_RX3_107 rfl (Or.inl rfl) (pq_s0 hq) (show q < 164 by have := pq_n hq; omega) rfl rfl ?_
  obtain ⟨m1, hm1⟩ : ∃ m, m = rn_u mi q 4 1 := ⟨_, rfl⟩
  rw [← hm1]
  have eb : m1 b = mi b := by rw [hm1]; exact rn_u_ne n0
  have eb1 : m1 (b + 1) = mi (b + 1) := by rw [hm1]; exact rn_u_ne n1
  have eq1 : m1 (q + 1) = mi (q + 1) := by rw [hm1]; exact rn_u_ne (by omega)
  have eqf : ∀ f, m1 q f = if f = 4 then 1 else mi q f := by intro f; rw [hm1]; simp [rn_u]
  refine al_0 dX3_walk_5 ?_
  refine al_1 dX3_walk_6 ?_
  refine cv_1 dX3_walk_7 mm_RX3_120 (pb_s0 hB) (show b < 164 by have := pb_n hB; omega) ⟨_, rfl, rfl⟩ (Nat.le_of_ble_eq_true rfl) (Nat.le_of_ble_eq_true rfl) (K_goal hB hq (by rw [eb]; exact hg) hN (nmr (fun g2 hg2 => ?_)))
  refine is_2 dX3_walk_10 rfl ?_
  refine al_0 dX3_walk_11 ?_
  refine il_2 dX3_walk_12 ?_
  refine cv_1 dX3_walk_13 mm_RX3_124 (pb_s0 hB) (show b < 164 by have := pb_n hB; omega) ⟨_, rfl, rfl⟩ (Nat.le_of_ble_eq_true rfl) (Nat.le_of_ble_eq_true rfl) (K_hasGate hB (fun c13 => ?_) (fun c13 => ?_))
  · refine R_if_ne (tgt := 20) dX3_walk_16 (by decide) (fun _ => ?_) (fun q => absurd q (by decide))
    have hgx : rn_ix g2 (nn g2) := rn_ixc (Int32.not_lt.mpr c13.1)
    have hgl : nn g2 < 6 := Nat.lt_of_lt_of_le (clamp_lt (n := N) (Int32.not_lt.mpr c13.1) (by rw [← hg, ← eb]; exact c13.2) (by omega)) hN
    have eg : goalS (sC mi k b) (mi (b + 1)) (pC mi q) = g2 := by
      rw [hg2, eb, eb1, eqf, eqf, eqf]
      unfold goalS
      show goalF _ _ _ _ _ (nn (mi b 4)) _ _ _ = _
      rw [hg, show nn (nI N) = N from nI_clamp (by omega)]
      rfl
    have hc13 : 0 ≤ g2 ∧ g2 < mi b 4 := by rw [← eb]; exact c13
    refine al_1 dX3_walk_20 ?_
    refine al_1 dX3_walk_21 ?_
    refine R_getfi dX3_walk_22 fl_RX3_80 rfl (pq_s0 hq) (show q < 164 by have := pq_n hq; omega) ?_
    refine al_0 dX3_walk_25 ?_
    refine R_getfr (r := b + 1) dX3_walk_26 fl_RX3_9 rfl (pb_s0 hB) (show b < 164 by have := pb_n hB; omega) (pb_r0 hB) ?_
    refine il_2 dX3_walk_29 ?_
    refine R_iald dX3_walk_30 (pb_s1 hB) (show b + 1 < 164 by have := pb_n hB; omega) hgx hgl ?_
    refine al_0 dX3_walk_31 ?_
    refine al_1 dX3_walk_32 ?_
    refine cv_1 dX3_walk_33 mm_RX3_127 (pb_s0 hB) (show b < 164 by have := pb_n hB; omega) ⟨_, rfl, rfl⟩ (Nat.le_of_ble_eq_true rfl) (Nat.le_of_ble_eq_true rfl) (K_steps hB hq (by rw [eb]; exact hm) (nmr (fun st2 hst2 => ?_)))
    refine cs_3 dX3_walk_36 mm_RX3_130 (Nat.le_of_ble_eq_true rfl) (Nat.le_of_ble_eq_true rfl) (K_toward (nmr (fun tw2 htw2 => ?_)))
    refine R_putfi dX3_walk_39 fl_RX3_80 rfl (Or.inl rfl) (pq_s0 hq) (show q < 164 by have := pq_n hq; omega) rfl rfl ?_
    have etw : towC (pC mi q 2) (mi (b + 1) (nn g2)) (stepsS (sC mi k b) (pC mi q)) = tw2 := by
      rw [htw2, hst2, eb, eb1, eqf, eqf, eq1]
      unfold stepsS pC
      have h4 := rem4_lt hm
      rw [if_neg (show ¬ (6 + nn (remJ (sC mi k b 6) 4) < 6) by omega), if_pos (show 6 + nn (remJ (sC mi k b 6) 4) < 10 by show 6 + nn (remJ (mi b 10) 4) < 10; omega), Nat.add_sub_cancel_left]
      rfl
    obtain ⟨m2, hm2⟩ : ∃ m, m = rn_u m1 q 2 tw2 := ⟨_, rfl⟩
    rw [← hm2]
    have fb : m2 b = mi b := by rw [hm2, rn_u_ne n0, eb]
    have fb1 : m2 (b + 1) = mi (b + 1) := by rw [hm2, rn_u_ne n1, eb1]
    have fq : ∀ f, m2 q f = if f = 2 then tw2 else if f = 4 then 1 else mi q f := by intro f; rw [hm2]; by_cases hf : f = 2 <;> simp [rn_u, hf, eqf]
    have fa : ∀ a, a ≠ q → m2 a = mi a := by intro a ha; rw [hm2, rn_u_ne ha, hm1, rn_u_ne ha]
    refine al_1 dX3_walk_42 ?_
    refine R_getfi dX3_walk_43 fl_RX3_80 rfl (pq_s0 hq) (show q < 164 by have := pq_n hq; omega) ?_
    refine al_0 dX3_walk_46 ?_
    refine R_getfr (r := b + 1) dX3_walk_47 fl_RX3_9 rfl (pb_s0 hB) (show b < 164 by have := pb_n hB; omega) (pb_r0 hB) ?_
    refine il_2 dX3_walk_50 ?_
    refine R_iald dX3_walk_51 (pb_s1 hB) (show b + 1 < 164 by have := pb_n hB; omega) hgx hgl ?_
    refine R_icmp_eq (tgt := 56) dX3_walk_52 (by decide) (fun c52 => ?_) (fun c52 => ?_)
    · refine al_0 dX3_walk_56 ?_
      refine il_2 dX3_walk_57 ?_
      refine cv_1 dX3_walk_58 mm_RX3_134 (pb_s0 hB) (show b < 164 by have := pb_n hB; omega) ⟨_, rfl, rfl⟩ (Nat.le_of_ble_eq_true rfl) (Nat.le_of_ble_eq_true rfl) (K_isShut hB (fun c58 => ?_) (fun c58 => ?_))
      · refine R_if_eq (tgt := 79) dX3_walk_61 (by decide) (fun q => absurd q (by decide)) (fun _ => ?_)
        refine al_1 dX3_walk_64 ?_
        refine R_dup dX3_walk_65 rfl ?_
        refine R_getfi dX3_walk_66 fl_RX3_137 rfl (pq_s0 hq) (show q < 164 by have := pq_n hq; omega) ?_
        refine R_iconst (v := 1) dX3_walk_69 (by decide) ?_
        refine il_2 dX3_walk_70 ?_
        refine R_ishl dX3_walk_71 ?_
        refine R_ior dX3_walk_72 ?_
        refine R_putfi dX3_walk_73 fl_RX3_137 rfl (Or.inl rfl) (pq_s0 hq) (show q < 164 by have := pq_n hq; omega) rfl rfl ?_
        refine R_goto (tgt := 84) dX3_walk_76 (by decide) ?_
        refine R_return dX3_walk_84 rfl ?_
        rw [fb1, fq, if_pos rfl] at c52
        rw [fb] at c58
        refine h _ (fun a ha => by rw [rn_u_ne ha]; exact fa a ha) (fun f hf => ?_)
        unfold walkF
        rw [eg, if_pos (show 0 ≤ g2 ∧ g2 < sC mi k b 0 from hc13), etw, if_pos c52]
        first | rw [if_pos (show bitD (sC mi k b 1) g2 = 1 from c58)] | rw [if_neg (show ¬ bitD (sC mi k b 1) g2 = 1 from c58)]
        match f, hf with
        | 0, _ | 1, _ | 2, _ | 3, _ | 4, _ | 5, _ => simp [rn_u, fq, pC, setB]
      · refine R_if_eq (tgt := 79) dX3_walk_61 (by decide) (fun _ => ?_) (fun q => absurd q (by decide))
        refine al_1 dX3_walk_79 ?_
        refine R_iconst (v := 1) dX3_walk_80 (by decide) ?_
        refine R_putfi dX3_walk_81 fl_RX3_83 rfl (Or.inl rfl) (pq_s0 hq) (show q < 164 by have := pq_n hq; omega) rfl rfl ?_
        refine R_return dX3_walk_84 rfl ?_
        rw [fb1, fq, if_pos rfl] at c52
        rw [fb] at c58
        refine h _ (fun a ha => by rw [rn_u_ne ha]; exact fa a ha) (fun f hf => ?_)
        unfold walkF
        rw [eg, if_pos (show 0 ≤ g2 ∧ g2 < sC mi k b 0 from hc13), etw, if_pos c52]
        first | rw [if_pos (show bitD (sC mi k b 1) g2 = 1 from c58)] | rw [if_neg (show ¬ bitD (sC mi k b 1) g2 = 1 from c58)]
        match f, hf with
        | 0, _ | 1, _ | 2, _ | 3, _ | 4, _ | 5, _ => simp [rn_u, fq, pC, setB]
    · refine R_return dX3_walk_55 rfl ?_
      rw [fb1, fq, if_pos rfl] at c52
      refine h _ fa (fun f hf => ?_)
      rw [fq]
      unfold walkF
      rw [eg, if_pos (show 0 ≤ g2 ∧ g2 < sC mi k b 0 from hc13), etw, if_neg c52]
      simp only [pC, if_pos hf]
  · refine R_if_ne (tgt := 20) dX3_walk_16 (by decide) (fun q => absurd q (by decide)) (fun _ => ?_)
    refine R_return dX3_walk_19 rfl ?_
    refine h _ (fun a ha => by rw [hm1, rn_u_ne ha]) (fun f hf => ?_)
    have eg : goalS (sC mi k b) (mi (b + 1)) (pC mi q) = g2 := by
      rw [hg2, eb, eb1, eqf, eqf, eqf]
      unfold goalS
      show goalF _ _ _ _ _ (nn (mi b 4)) _ _ _ = _
      rw [hg, show nn (nI N) = N from nI_clamp (by omega)]
      rfl
    rw [eqf]
    unfold walkF
    rw [eg, if_neg (show ¬ (0 ≤ g2 ∧ g2 < sC mi k b 0) from fun z => c13 (by rw [eb]; exact z))]
    simp only [pC, if_pos hf]

set_option maxHeartbeats 4000000 in
theorem K_goRound {G : rn_G} {d : Nat} {κ : Nat × Nat} {Q : Option Value → rn_S → Prop} {mi : Nat → Nat → Int32} {ml : Nat → Nat → Int64} {D : Nat → Nat} {b : Nat} (hB : PB b) (hk : PD (D b)) (hrd : mi b 9 < mi b 8 → ∃ jn, mi b 9 = nI jn ∧ jn < 6 ∧ ∃ gn, gn < 6 ∧ mi (b + 3) jn = nI gn) (h : ∀ mi', (∀ a, a ≠ b → mi' a = mi a) → (∀ f, f ≠ 5 → f ≠ 7 → f ≠ 9 → f ≠ 13 → mi' b f = mi b f) → (∀ j, sC mi' (D b) b j = roundF (sC mi (D b) b) (mi (b + 1)) (mi (b + 3)) j) → Q none (mi', ml, RF D, 164)) : Call G (d + 2) M_X3_goRound [.ref b] (mi, ml, RF D, 164) κ Q := by
  show Run G _ M_X3_goRound 0 [.ref b, .null] [] _ _ _
  have hkb : D b ≠ b := by unfold PD at hk; unfold PB at hB; omega
  refine al_0 dX3_goRound_0 ?_
  refine R_getfi dX3_goRound_1 fl_RX3_73 rfl (pb_s0 hB) (show b < 164 by have := pb_n hB; omega) ?_
  refine R_if_le (tgt := 18) dX3_goRound_4 (by decide) (fun c4 => ?_) (fun c4 => ?_)
  · refine al_0 dX3_goRound_18 ?_
    refine R_getfi dX3_goRound_19 fl_RX3_64 rfl (pb_s0 hB) (show b < 164 by have := pb_n hB; omega) ?_
    refine al_0 dX3_goRound_22 ?_
    refine R_getfi dX3_goRound_23 fl_RX3_61 rfl (pb_s0 hB) (show b < 164 by have := pb_n hB; omega) ?_
    refine R_icmp_lt (tgt := 30) dX3_goRound_26 (by decide) (fun c26 => ?_) (fun c26 => ?_)
    · obtain ⟨jn, ha1, ha2, gn, hg1, hg2⟩ := hrd c26
      have hrx : rn_ix (mi b 9) jn := by rw [ha1]; exact rn_ix_nI (by omega)
      have hrl : jn < 6 := ha2
      refine al_0 dX3_goRound_30 ?_
      refine R_getfr (r := b + 3) dX3_goRound_31 fl_RX3_21 rfl (pb_s0 hB) (show b < 164 by have := pb_n hB; omega) (pb_r2 hB) ?_
      refine al_0 dX3_goRound_34 ?_
      refine R_getfi dX3_goRound_35 fl_RX3_64 rfl (pb_s0 hB) (show b < 164 by have := pb_n hB; omega) ?_
      refine R_iald dX3_goRound_38 (pb_s3 hB) (show b + 3 < 164 by have := pb_n hB; omega) hrx hrl ?_
      refine is_1 dX3_goRound_39 rfl ?_
      have hgx : rn_ix (mi (b + 3) jn) gn := by rw [hg2]; exact rn_ix_nI (by omega)
      have hgl : gn < 6 := by omega
      refine al_0 dX3_goRound_40 ?_
      refine al_0 dX3_goRound_41 ?_
      refine R_getfi dX3_goRound_42 fl_RX3_58 rfl (pb_s0 hB) (show b < 164 by have := pb_n hB; omega) ?_
      refine al_0 dX3_goRound_45 ?_
      refine R_getfr (r := b + 1) dX3_goRound_46 fl_RX3_9 rfl (pb_s0 hB) (show b < 164 by have := pb_n hB; omega) (pb_r0 hB) ?_
      refine il_1 dX3_goRound_49 ?_
      refine R_iald dX3_goRound_50 (pb_s1 hB) (show b + 1 < 164 by have := pb_n hB; omega) hgx hgl ?_
      refine al_0 dX3_goRound_51 ?_
      refine R_getfi dX3_goRound_52 fl_RX3_70 rfl (pb_s0 hB) (show b < 164 by have := pb_n hB; omega) ?_
      refine R_if_le (tgt := 65) dX3_goRound_55 (by decide) (fun c55 => ?_) (fun c55 => ?_)
      · refine al_0 dX3_goRound_65 ?_
        refine R_getfr (r := (D b)) dX3_goRound_66 fl_RX3_30 rfl (pb_s0 hB) (show b < 164 by have := pb_n hB; omega) (pb_r11 hB) ?_
        refine R_getfi dX3_goRound_69 fl_RX3_140 rfl (pd_s0 hk) (show (D b) < 164 by have := pd_n hk; omega) ?_
        refine cs_3 dX3_goRound_72 mm_RX3_130 (Nat.le_of_ble_eq_true rfl) (Nat.le_of_ble_eq_true rfl) (K_toward (nmr (fun tw2 htw2 => ?_)))
        refine R_putfi dX3_goRound_75 fl_RX3_58 rfl (Or.inl rfl) (pb_s0 hB) (show b < 164 by have := pb_n hB; omega) rfl rfl ?_
        obtain ⟨m2, hm2⟩ : ∃ m, m = rn_u mi b 7 tw2 := ⟨_, rfl⟩
        rw [← hm2]
        have fa : ∀ a, a ≠ b → m2 a = mi a := by intro a ha; rw [hm2, rn_u_ne ha]
        have fb : ∀ f, m2 b f = if f = 7 then tw2 else mi b f := by intro f; rw [hm2]; simp [rn_u]
        have fb1 : m2 (b + 1) = mi (b + 1) := fa _ (by omega)
        have etw : towC (sC mi (D b) b 3) (mi (b + 1) (nn (mi (b + 3) (nn (sC mi (D b) b 5))))) (sC mi (D b) b 7) = tw2 := by
          rw [htw2]
          show towC (mi b 7) (mi (b + 1) (nn (mi (b + 3) (nn (mi b 9))))) (if 0 < mi b 12 then mi b 12 else mi (D b) 3) = _
          rw [show nn (mi b 9) = jn from hrx.2, show nn (mi (b + 3) jn) = gn from hgx.2]
          first | rw [if_pos (Int32.not_le.mp c55)] | rw [if_neg (Int32.not_lt.mpr c55)]
        refine al_0 dX3_goRound_78 ?_
        refine R_getfi dX3_goRound_79 fl_RX3_58 rfl (pb_s0 hB) (show b < 164 by have := pb_n hB; omega) ?_
        refine al_0 dX3_goRound_82 ?_
        refine R_getfr (r := b + 1) dX3_goRound_83 fl_RX3_9 rfl (pb_s0 hB) (show b < 164 by have := pb_n hB; omega) (pb_r0 hB) ?_
        refine il_1 dX3_goRound_86 ?_
        refine R_iald dX3_goRound_87 (pb_s1 hB) (show b + 1 < 164 by have := pb_n hB; omega) hgx hgl ?_
        refine R_icmp_eq (tgt := 92) dX3_goRound_88 (by decide) (fun c88 => ?_) (fun c88 => ?_)
        · refine il_1 dX3_goRound_92 ?_
          refine al_0 dX3_goRound_93 ?_
          refine R_getfi dX3_goRound_94 fl_RX3_34 rfl (pb_s0 hB) (show b < 164 by have := pb_n hB; omega) ?_
          refine R_icmp_eq (tgt := 106) dX3_goRound_97 (by decide) (fun c97 => ?_) (fun c97 => ?_)
          · refine al_0 dX3_goRound_106 ?_
            refine R_dup dX3_goRound_107 rfl ?_
            refine R_getfi dX3_goRound_108 fl_RX3_64 rfl (pb_s0 hB) (show b < 164 by have := pb_n hB; omega) ?_
            refine R_iconst (v := 1) dX3_goRound_111 (by decide) ?_
            refine R_iadd dX3_goRound_112 ?_
            refine R_putfi dX3_goRound_113 fl_RX3_64 rfl (Or.inl rfl) (pb_s0 hB) (show b < 164 by have := pb_n hB; omega) rfl rfl ?_
            refine R_return dX3_goRound_116 rfl ?_
            rw [fb, if_pos rfl, fb1] at c88
            rw [fb, if_neg (by decide)] at c97
            refine h _ (fun a ha => ?_) (fun f f1 f2 f3 f4 => ?_) (fun j => ?_)
            · simp only [rn_u_ne ha]; exact fa a ha
            · simp [rn_u, f1, f2, f3, f4, fb]
            · unfold roundF
              rw [if_neg (show ¬ 0 < sC mi (D b) b 8 from Int32.not_lt.mpr c4), if_pos (show sC mi (D b) b 5 < sC mi (D b) b 4 from c26), etw, show nn (mi (b + 3) (nn (sC mi (D b) b 5))) = gn from by show nn (mi (b + 3) (nn (mi b 9))) = gn; rw [show nn (mi b 9) = jn from hrx.2]; exact hgx.2, if_pos c88, show mi (b + 3) (nn (sC mi (D b) b 5)) = mi (b + 3) jn from by show mi (b + 3) (nn (mi b 9)) = _; rw [show nn (mi b 9) = jn from hrx.2]]
              first | rw [if_pos (show mi (b + 3) jn = sC mi (D b) b 9 from c97)] | rw [if_neg (show ¬ mi (b + 3) jn = sC mi (D b) b 9 from c97)]
              unfold sC
              match j with
              | 0 | 1 | 2 | 3 | 4 | 5 | 6 | 7 | 8 | 9 => simp [rn_u, fb, fa _ hkb, hkb]
              | n + 10 => simp [rn_u, fb, fa _ hkb, hkb]
          · refine al_0 dX3_goRound_100 ?_
            refine il_1 dX3_goRound_101 ?_
            refine R_iconst (v := 1) dX3_goRound_102 (by decide) ?_
            refine cv_2 dX3_goRound_103 mm_RX3_87 (pb_s0 hB) (show b < 164 by have := pb_n hB; omega) ⟨_, rfl, rfl⟩ (Nat.le_of_ble_eq_true rfl) (Nat.le_of_ble_eq_true rfl) (K_setShut hB ?_)
            refine al_0 dX3_goRound_106 ?_
            refine R_dup dX3_goRound_107 rfl ?_
            refine R_getfi dX3_goRound_108 fl_RX3_64 rfl (pb_s0 hB) (show b < 164 by have := pb_n hB; omega) ?_
            refine R_iconst (v := 1) dX3_goRound_111 (by decide) ?_
            refine R_iadd dX3_goRound_112 ?_
            refine R_putfi dX3_goRound_113 fl_RX3_64 rfl (Or.inl rfl) (pb_s0 hB) (show b < 164 by have := pb_n hB; omega) rfl rfl ?_
            refine R_return dX3_goRound_116 rfl ?_
            rw [fb, if_pos rfl, fb1] at c88
            rw [fb, if_neg (by decide)] at c97
            refine h _ (fun a ha => ?_) (fun f f1 f2 f3 f4 => ?_) (fun j => ?_)
            · simp only [rn_u_ne ha]; exact fa a ha
            · simp [rn_u, f1, f2, f3, f4, fb]
            · unfold roundF
              rw [if_neg (show ¬ 0 < sC mi (D b) b 8 from Int32.not_lt.mpr c4), if_pos (show sC mi (D b) b 5 < sC mi (D b) b 4 from c26), etw, show nn (mi (b + 3) (nn (sC mi (D b) b 5))) = gn from by show nn (mi (b + 3) (nn (mi b 9))) = gn; rw [show nn (mi b 9) = jn from hrx.2]; exact hgx.2, if_pos c88, show mi (b + 3) (nn (sC mi (D b) b 5)) = mi (b + 3) jn from by show mi (b + 3) (nn (mi b 9)) = _; rw [show nn (mi b 9) = jn from hrx.2]]
              first | rw [if_pos (show mi (b + 3) jn = sC mi (D b) b 9 from c97)] | rw [if_neg (show ¬ mi (b + 3) jn = sC mi (D b) b 9 from c97)]
              unfold sC
              match j with
              | 0 | 1 | 2 | 3 | 4 | 5 | 6 | 7 | 8 | 9 => simp [rn_u, fb, fa _ hkb, hkb]
              | n + 10 => simp [rn_u, fb, fa _ hkb, hkb]
        · refine R_return dX3_goRound_91 rfl ?_
          rw [fb, if_pos rfl, fb1] at c88
          refine h _ (fun a ha => ?_) (fun f f1 f2 f3 f4 => ?_) (fun j => ?_)
          · exact fa a ha
          · rw [fb, if_neg f2]
          · unfold roundF
            rw [if_neg (show ¬ 0 < sC mi (D b) b 8 from Int32.not_lt.mpr c4), if_pos (show sC mi (D b) b 5 < sC mi (D b) b 4 from c26), etw, show nn (mi (b + 3) (nn (sC mi (D b) b 5))) = gn from by show nn (mi (b + 3) (nn (mi b 9))) = gn; rw [show nn (mi b 9) = jn from hrx.2]; exact hgx.2, if_neg c88]
            unfold sC
            match j with
            | 0 | 1 | 2 | 3 | 4 | 5 | 6 | 7 | 8 | 9 => simp [fb, fa _ hkb]
            | n + 10 => simp [fb, fa _ hkb]
      · refine al_0 dX3_goRound_58 ?_
        refine R_getfi dX3_goRound_59 fl_RX3_70 rfl (pb_s0 hB) (show b < 164 by have := pb_n hB; omega) ?_
        refine R_goto (tgt := 72) dX3_goRound_62 (by decide) ?_
        refine cs_3 dX3_goRound_72 mm_RX3_130 (Nat.le_of_ble_eq_true rfl) (Nat.le_of_ble_eq_true rfl) (K_toward (nmr (fun tw2 htw2 => ?_)))
        refine R_putfi dX3_goRound_75 fl_RX3_58 rfl (Or.inl rfl) (pb_s0 hB) (show b < 164 by have := pb_n hB; omega) rfl rfl ?_
        obtain ⟨m2, hm2⟩ : ∃ m, m = rn_u mi b 7 tw2 := ⟨_, rfl⟩
        rw [← hm2]
        have fa : ∀ a, a ≠ b → m2 a = mi a := by intro a ha; rw [hm2, rn_u_ne ha]
        have fb : ∀ f, m2 b f = if f = 7 then tw2 else mi b f := by intro f; rw [hm2]; simp [rn_u]
        have fb1 : m2 (b + 1) = mi (b + 1) := fa _ (by omega)
        have etw : towC (sC mi (D b) b 3) (mi (b + 1) (nn (mi (b + 3) (nn (sC mi (D b) b 5))))) (sC mi (D b) b 7) = tw2 := by
          rw [htw2]
          show towC (mi b 7) (mi (b + 1) (nn (mi (b + 3) (nn (mi b 9))))) (if 0 < mi b 12 then mi b 12 else mi (D b) 3) = _
          rw [show nn (mi b 9) = jn from hrx.2, show nn (mi (b + 3) jn) = gn from hgx.2]
          first | rw [if_pos (Int32.not_le.mp c55)] | rw [if_neg (Int32.not_lt.mpr c55)]
        refine al_0 dX3_goRound_78 ?_
        refine R_getfi dX3_goRound_79 fl_RX3_58 rfl (pb_s0 hB) (show b < 164 by have := pb_n hB; omega) ?_
        refine al_0 dX3_goRound_82 ?_
        refine R_getfr (r := b + 1) dX3_goRound_83 fl_RX3_9 rfl (pb_s0 hB) (show b < 164 by have := pb_n hB; omega) (pb_r0 hB) ?_
        refine il_1 dX3_goRound_86 ?_
        refine R_iald dX3_goRound_87 (pb_s1 hB) (show b + 1 < 164 by have := pb_n hB; omega) hgx hgl ?_
        refine R_icmp_eq (tgt := 92) dX3_goRound_88 (by decide) (fun c88 => ?_) (fun c88 => ?_)
        · refine il_1 dX3_goRound_92 ?_
          refine al_0 dX3_goRound_93 ?_
          refine R_getfi dX3_goRound_94 fl_RX3_34 rfl (pb_s0 hB) (show b < 164 by have := pb_n hB; omega) ?_
          refine R_icmp_eq (tgt := 106) dX3_goRound_97 (by decide) (fun c97 => ?_) (fun c97 => ?_)
          · refine al_0 dX3_goRound_106 ?_
            refine R_dup dX3_goRound_107 rfl ?_
            refine R_getfi dX3_goRound_108 fl_RX3_64 rfl (pb_s0 hB) (show b < 164 by have := pb_n hB; omega) ?_
            refine R_iconst (v := 1) dX3_goRound_111 (by decide) ?_
            refine R_iadd dX3_goRound_112 ?_
            refine R_putfi dX3_goRound_113 fl_RX3_64 rfl (Or.inl rfl) (pb_s0 hB) (show b < 164 by have := pb_n hB; omega) rfl rfl ?_
            refine R_return dX3_goRound_116 rfl ?_
            rw [fb, if_pos rfl, fb1] at c88
            rw [fb, if_neg (by decide)] at c97
            refine h _ (fun a ha => ?_) (fun f f1 f2 f3 f4 => ?_) (fun j => ?_)
            · simp only [rn_u_ne ha]; exact fa a ha
            · simp [rn_u, f1, f2, f3, f4, fb]
            · unfold roundF
              rw [if_neg (show ¬ 0 < sC mi (D b) b 8 from Int32.not_lt.mpr c4), if_pos (show sC mi (D b) b 5 < sC mi (D b) b 4 from c26), etw, show nn (mi (b + 3) (nn (sC mi (D b) b 5))) = gn from by show nn (mi (b + 3) (nn (mi b 9))) = gn; rw [show nn (mi b 9) = jn from hrx.2]; exact hgx.2, if_pos c88, show mi (b + 3) (nn (sC mi (D b) b 5)) = mi (b + 3) jn from by show mi (b + 3) (nn (mi b 9)) = _; rw [show nn (mi b 9) = jn from hrx.2]]
              first | rw [if_pos (show mi (b + 3) jn = sC mi (D b) b 9 from c97)] | rw [if_neg (show ¬ mi (b + 3) jn = sC mi (D b) b 9 from c97)]
              unfold sC
              match j with
              | 0 | 1 | 2 | 3 | 4 | 5 | 6 | 7 | 8 | 9 => simp [rn_u, fb, fa _ hkb, hkb]
              | n + 10 => simp [rn_u, fb, fa _ hkb, hkb]
          · refine al_0 dX3_goRound_100 ?_
            refine il_1 dX3_goRound_101 ?_
            refine R_iconst (v := 1) dX3_goRound_102 (by decide) ?_
            refine cv_2 dX3_goRound_103 mm_RX3_87 (pb_s0 hB) (show b < 164 by have := pb_n hB; omega) ⟨_, rfl, rfl⟩ (Nat.le_of_ble_eq_true rfl) (Nat.le_of_ble_eq_true rfl) (K_setShut hB ?_)
            refine al_0 dX3_goRound_106 ?_
            refine R_dup dX3_goRound_107 rfl ?_
            refine R_getfi dX3_goRound_108 fl_RX3_64 rfl (pb_s0 hB) (show b < 164 by have := pb_n hB; omega) ?_
            refine R_iconst (v := 1) dX3_goRound_111 (by decide) ?_
            refine R_iadd dX3_goRound_112 ?_
            refine R_putfi dX3_goRound_113 fl_RX3_64 rfl (Or.inl rfl) (pb_s0 hB) (show b < 164 by have := pb_n hB; omega) rfl rfl ?_
            refine R_return dX3_goRound_116 rfl ?_
            rw [fb, if_pos rfl, fb1] at c88
            rw [fb, if_neg (by decide)] at c97
            refine h _ (fun a ha => ?_) (fun f f1 f2 f3 f4 => ?_) (fun j => ?_)
            · simp only [rn_u_ne ha]; exact fa a ha
            · simp [rn_u, f1, f2, f3, f4, fb]
            · unfold roundF
              rw [if_neg (show ¬ 0 < sC mi (D b) b 8 from Int32.not_lt.mpr c4), if_pos (show sC mi (D b) b 5 < sC mi (D b) b 4 from c26), etw, show nn (mi (b + 3) (nn (sC mi (D b) b 5))) = gn from by show nn (mi (b + 3) (nn (mi b 9))) = gn; rw [show nn (mi b 9) = jn from hrx.2]; exact hgx.2, if_pos c88, show mi (b + 3) (nn (sC mi (D b) b 5)) = mi (b + 3) jn from by show mi (b + 3) (nn (mi b 9)) = _; rw [show nn (mi b 9) = jn from hrx.2]]
              first | rw [if_pos (show mi (b + 3) jn = sC mi (D b) b 9 from c97)] | rw [if_neg (show ¬ mi (b + 3) jn = sC mi (D b) b 9 from c97)]
              unfold sC
              match j with
              | 0 | 1 | 2 | 3 | 4 | 5 | 6 | 7 | 8 | 9 => simp [rn_u, fb, fa _ hkb, hkb]
              | n + 10 => simp [rn_u, fb, fa _ hkb, hkb]
        · refine R_return dX3_goRound_91 rfl ?_
          rw [fb, if_pos rfl, fb1] at c88
          refine h _ (fun a ha => ?_) (fun f f1 f2 f3 f4 => ?_) (fun j => ?_)
          · exact fa a ha
          · rw [fb, if_neg f2]
          · unfold roundF
            rw [if_neg (show ¬ 0 < sC mi (D b) b 8 from Int32.not_lt.mpr c4), if_pos (show sC mi (D b) b 5 < sC mi (D b) b 4 from c26), etw, show nn (mi (b + 3) (nn (sC mi (D b) b 5))) = gn from by show nn (mi (b + 3) (nn (mi b 9))) = gn; rw [show nn (mi b 9) = jn from hrx.2]; exact hgx.2, if_neg c88]
            unfold sC
            match j with
            | 0 | 1 | 2 | 3 | 4 | 5 | 6 | 7 | 8 | 9 => simp [fb, fa _ hkb]
            | n + 10 => simp [fb, fa _ hkb]
    · refine R_return dX3_goRound_29 rfl ?_
      refine h _ (fun a ha => ?_) (fun f f1 f2 f3 f4 => ?_) (fun j => ?_)
      · rfl
      · rfl
      · unfold roundF
        rw [if_neg (show ¬ 0 < sC mi (D b) b 8 from Int32.not_lt.mpr c4), if_neg (show ¬ sC mi (D b) b 5 < sC mi (D b) b 4 from c26)]
  · refine al_0 dX3_goRound_7 ?_
    refine R_dup dX3_goRound_8 rfl ?_
    refine R_getfi dX3_goRound_9 fl_RX3_73 rfl (pb_s0 hB) (show b < 164 by have := pb_n hB; omega) ?_
    refine R_iconst (v := 1) dX3_goRound_12 (by decide) ?_
    refine R_isub dX3_goRound_13 ?_
    refine R_putfi dX3_goRound_14 fl_RX3_73 rfl (Or.inl rfl) (pb_s0 hB) (show b < 164 by have := pb_n hB; omega) rfl rfl ?_
    refine R_return dX3_goRound_17 rfl ?_
    refine h _ (fun a ha => ?_) (fun f f1 f2 f3 f4 => ?_) (fun j => ?_)
    · exact rn_u_ne ha
    · simp [rn_u, f4]
    · unfold roundF
      rw [if_pos (show 0 < sC mi (D b) b 8 from Int32.not_le.mp c4)]
      unfold sC
      match j with
      | 0 | 1 | 2 | 3 | 4 | 5 | 6 | 7 | 8 | 9 => simp [rn_u, hkb]
      | n + 10 => simp [rn_u, hkb]
