/-! a park copied; what changes it -/
def bz (v : Int32) : Prop := v = 0 ∨ v = 1
theorem bz_n {v : Int32} (h : bz v) : narrow .boolean (.int v) = .int v := by rcases h with rfl | rfl <;> rfl
theorem bz_f {v : Int32} (h : bz v) : fits .boolean (.int v) = true := by rcases h with rfl | rfl <;> rfl
def ud (D : Nat → Nat) (b r : Nat) : Nat → Nat := fun x => if x = b then r else D x
theorem ud_at (D : Nat → Nat) (b r : Nat) : ud D b r b = r := if_pos rfl
theorem ud_ne {D : Nat → Nat} {b r x : Nat} (h : x ≠ b) : ud D b r x = D x := if_neg h
theorem rf_ud {D : Nat → Nat} {b r : Nat} (hB : PB b) : rn_u (RF D) b 11 r = RF (ud D b r) := by
  funext a k
  unfold rn_u RF ud
  by_cases h : a = b ∧ k = 11
  · obtain ⟨rfl, rfl⟩ := h
    rw [if_pos ⟨rfl, rfl⟩, if_pos ⟨rfl, hB⟩, if_pos rfl]
  · rw [if_neg h]
    by_cases h1 : k = 11 ∧ (a = 2 ∨ a = 21 ∨ a = 53)
    · rw [if_pos h1, if_pos h1, if_neg (fun q => h ⟨q, h1.1⟩)]
    · rw [if_neg h1, if_neg h1]
      by_cases h2 : k = 3 ∧ a = 84
      · rw [if_pos h2, if_pos h2, if_neg (fun q => by rw [← q] at hB; unfold PB at hB; omega)]
      · rw [if_neg h2, if_neg h2]
theorem rf_ud84 {D : Nat → Nat} {r : Nat} : rn_u (RF D) 84 3 r = RF (ud D 84 r) := by
  funext a k
  unfold rn_u RF ud
  by_cases h : a = 84 ∧ k = 3
  · obtain ⟨rfl, rfl⟩ := h
    rw [if_pos ⟨rfl, rfl⟩]; rfl
  · rw [if_neg h]
    by_cases h1 : k = 11 ∧ (a = 2 ∨ a = 21 ∨ a = 53)
    · rw [if_pos h1, if_pos h1, if_neg (by omega)]
    · rw [if_neg h1, if_neg h1]
      by_cases h2 : k = 3 ∧ a = 84
      · exact absurd ⟨h2.2, h2.1⟩ h
      · rw [if_neg h2, if_neg h2]

theorem cp_ne {α : Type} {f : Nat → Nat → α} {a0 sp a dp len b : Nat} (h : b ≠ a) : rn_cp f a0 sp a dp len b = f b := by
  funext j
  unfold rn_cp
  rw [if_neg (fun q => h q.1)]

set_option maxHeartbeats 4000000 in
theorem K_copyP {G : rn_G} {d : Nat} {κ : Nat × Nat} {Q : Option Value → rn_S → Prop} {mi : Nat → Nat → Int32} {ml : Nat → Nat → Int64} {D : Nat → Nat} {p q : Nat} (hp : PQ p) (hq : PQ q) (hqp : q ≠ p) (hqp1 : q ≠ p + 1) (hq1p : q + 1 ≠ p) (hz4 : bz (mi q 4)) (hz5 : bz (mi q 5)) (h : ∀ mi', (∀ a, a ≠ p → a ≠ p + 1 → mi' a = mi a) → (∀ f, f < 6 → mi' p f = mi q f) → (∀ j, j < 4 → mi' (p + 1) j = mi (q + 1) j) → Q none (mi', ml, RF D, 164)) : Call G (d + 1) M_X4_copyFrom [.ref p, .ref q] (mi, ml, RF D, 164) κ Q := by
  show Run G _ M_X4_copyFrom 0 [.ref p, .ref q] [] _ _ _
  refine al_0 dX4_copyFrom_0 ?_
  refine al_1 dX4_copyFrom_1 ?_
  refine R_getfi dX4_copyFrom_2 fl_RX4_15 rfl (pq_s0 hq) (show q < 164 by have := pq_n hq; omega) ?_
  refine R_putfi dX4_copyFrom_5 fl_RX4_15 rfl (Or.inl rfl) (pq_s0 hp) (show p < 164 by have := pq_n hp; omega) rfl rfl ?_
  refine al_0 dX4_copyFrom_8 ?_
  refine al_1 dX4_copyFrom_9 ?_
  refine R_getfi dX4_copyFrom_10 fl_RX4_19 rfl (pq_s0 hq) (show q < 164 by have := pq_n hq; omega) ?_
  refine R_putfi dX4_copyFrom_13 fl_RX4_19 rfl (Or.inl rfl) (pq_s0 hp) (show p < 164 by have := pq_n hp; omega) rfl rfl ?_
  refine al_0 dX4_copyFrom_16 ?_
  refine al_1 dX4_copyFrom_17 ?_
  refine R_getfi dX4_copyFrom_18 fl_RX4_22 rfl (pq_s0 hq) (show q < 164 by have := pq_n hq; omega) ?_
  refine R_putfi dX4_copyFrom_21 fl_RX4_22 rfl (Or.inl rfl) (pq_s0 hp) (show p < 164 by have := pq_n hp; omega) rfl rfl ?_
  refine al_0 dX4_copyFrom_24 ?_
  refine al_1 dX4_copyFrom_25 ?_
  refine R_getfi dX4_copyFrom_26 fl_RX4_25 rfl (pq_s0 hq) (show q < 164 by have := pq_n hq; omega) ?_
  refine R_putfi dX4_copyFrom_29 fl_RX4_25 rfl (Or.inl rfl) (pq_s0 hp) (show p < 164 by have := pq_n hp; omega) rfl rfl ?_
  refine al_0 dX4_copyFrom_32 ?_
  refine al_1 dX4_copyFrom_33 ?_
  refine R_getfi dX4_copyFrom_34 fl_RX4_28 rfl (pq_s0 hq) (show q < 164 by have := pq_n hq; omega) ?_
  refine R_putfi dX4_copyFrom_37 fl_RX4_28 rfl (Or.inl rfl) (pq_s0 hp) (show p < 164 by have := pq_n hp; omega) (bz_n (by simp only [rn_u_ne hqp]; exact hz4)) (bz_f (by simp only [rn_u_ne hqp]; exact hz4)) ?_
  refine al_0 dX4_copyFrom_40 ?_
  refine al_1 dX4_copyFrom_41 ?_
  refine R_getfi dX4_copyFrom_42 fl_RX4_32 rfl (pq_s0 hq) (show q < 164 by have := pq_n hq; omega) ?_
  refine R_putfi dX4_copyFrom_45 fl_RX4_32 rfl (Or.inl rfl) (pq_s0 hp) (show p < 164 by have := pq_n hp; omega) (bz_n (by simp only [rn_u_ne hqp]; exact hz5)) (bz_f (by simp only [rn_u_ne hqp]; exact hz5)) ?_
  refine al_1 dX4_copyFrom_48 ?_
  refine R_getfr (r := q + 1) dX4_copyFrom_49 fl_RX4_9 rfl (pq_s0 hq) (show q < 164 by have := pq_n hq; omega) (pq_r6 hq) ?_
  refine R_iconst (v := 0) dX4_copyFrom_52 (by decide) ?_
  refine al_0 dX4_copyFrom_53 ?_
  refine R_getfr (r := p + 1) dX4_copyFrom_54 fl_RX4_9 rfl (pq_s0 hp) (show p < 164 by have := pq_n hp; omega) (pq_r6 hp) ?_
  refine R_iconst (v := 0) dX4_copyFrom_57 (by decide) ?_
  refine R_iconst (v := 4) dX4_copyFrom_58 (by decide) ?_
  refine R_copyi dX4_copyFrom_59 ac_RX4_35 ma_nat ma_st ma_in (pq_s1 hq) (pq_s1 hp) rfl (sp := 0) (dp := 0) (len := 4) ⟨by decide, by decide⟩ ⟨by decide, by decide⟩ ⟨by decide, by decide⟩ (by decide) (by decide) (Nat.le_of_ble_eq_true rfl) ?_
  refine R_return dX4_copyFrom_62 rfl ?_
  refine h _ (fun a h1 h2 => ?_) (fun f hf => ?_) (fun j hj => ?_)
  · rw [cp_ne h2]; simp only [rn_u_ne h1]
  · rw [cp_ne (by omega)]; simp only [rn_u_ne hqp]
    match f, hf with
    | 0, _ | 1, _ | 2, _ | 3, _ | 4, _ | 5, _ => simp [rn_u]
  · unfold rn_cp
    rw [if_pos ⟨rfl, Nat.zero_le _, by omega⟩]
    simp only [rn_u_ne hq1p, Nat.sub_zero, Nat.zero_add]

set_option maxHeartbeats 4000000 in
theorem L_copyFrom {G : rn_G} {d : Nat} {κ : Nat × Nat} {Q : Option Value → rn_S → Prop} {mi : Nat → Nat → Int32} {ml : Nat → Nat → Int64} {D : Nat → Nat} {b c : Nat} (hB : PB b) (hC : PB c) (hbc : b + 19 ≤ c ∨ c + 19 ≤ b) {N : Nat} (hp : mi c 6 = nI N) (hN : N ≤ 6) (hz : ∀ i, i < N → bz (mi (c + 7 + 2 * i) 4) ∧ bz (mi (c + 7 + 2 * i) 5))
  (h : ∀ m x, (∀ a, (∀ j, j < N → a ≠ b + 7 + 2 * j ∧ a ≠ b + 7 + 2 * j + 1) → m a = mi a) → (∀ j, j < N → ∀ f, f < 6 → m (b + 7 + 2 * j) f = mi (c + 7 + 2 * j) f) → (∀ j, j < N → ∀ f, f < 4 → m (b + 7 + 2 * j + 1) f = mi (c + 7 + 2 * j + 1) f) → Run G (d + 2) M_X3_copyFrom 61 [.ref b, .ref c, .int x] [] (m, ml, RF D, 164) κ Q) :
  ∀ (n i : Nat) (m : Nat → Nat → Int32) (x : Int32), n + i = N → x = nI i → (∀ a, (∀ j, j < i → a ≠ b + 7 + 2 * j ∧ a ≠ b + 7 + 2 * j + 1) → m a = mi a) → (∀ j, j < i → ∀ f, f < 6 → m (b + 7 + 2 * j) f = mi (c + 7 + 2 * j) f) → (∀ j, j < i → ∀ f, f < 4 → m (b + 7 + 2 * j + 1) f = mi (c + 7 + 2 * j + 1) f) → Run G (d + 2) M_X3_copyFrom 32 [.ref b, .ref c, .int x] [] (m, ml, RF D, 164) κ Q := by
  have hbn := pb_n hB
  have hcn := pb_n hC
  intro n
  induction n with
  | zero =>
    intro i m x hni hx h1 h2 h3
    have ec : m c = mi c := h1 c (fun j hj => by omega)
    obtain rfl : i = N := by omega
    refine il_2 dX3_copyFrom_32 ?_
    refine al_1 dX3_copyFrom_33 ?_
    refine R_getfi dX3_copyFrom_34 fl_RX3_45 rfl (pb_s0 hC) (show c < 164 by have := pb_n hC; omega) ?_
    refine R_icmp_ge (tgt := 61) dX3_copyFrom_37 (by decide) (fun c37 => ?_) (fun q => absurd q (not_not_intro (by rw [ec, hp, hx]; exact nI_le (by omega) (by omega))))
    exact h m x h1 h2 h3
  | succ n ih =>
    intro i m x hni hx h1 h2 h3
    have hi : i < 6 := by omega
    have hix : rn_ix x i := by rw [hx]; exact rn_ix_nI (by omega)
    have ec : m c = mi c := h1 c (fun j hj => by omega)
    have eq : m (c + 7 + 2 * i) = mi (c + 7 + 2 * i) := h1 _ (fun j hj => by omega)
    have eq1 : m (c + 7 + 2 * i + 1) = mi (c + 7 + 2 * i + 1) := h1 _ (fun j hj => by omega)
    have hz4 : bz (m (c + 7 + 2 * i) 4) := by rw [eq]; exact (hz i (by omega)).1
    have hz5 : bz (m (c + 7 + 2 * i) 5) := by rw [eq]; exact (hz i (by omega)).2
    refine il_2 dX3_copyFrom_32 ?_
    refine al_1 dX3_copyFrom_33 ?_
    refine R_getfi dX3_copyFrom_34 fl_RX3_45 rfl (pb_s0 hC) (show c < 164 by have := pb_n hC; omega) ?_
    refine R_icmp_ge (tgt := 61) dX3_copyFrom_37 (by decide) (fun q => absurd q (by rw [ec, hp, hx]; exact nI_ge (by omega) (by omega))) (fun c37 => ?_)
    refine al_0 dX3_copyFrom_40 ?_
    refine R_getfr (r := b + 2) dX3_copyFrom_41 fl_RX3_17 rfl (pb_s0 hB) (show b < 164 by have := pb_n hB; omega) (pb_r1 hB) ?_
    refine il_2 dX3_copyFrom_44 ?_
    refine R_aald (t := 4) (r := (b + 7 + 2 * i)) dX3_copyFrom_45 (by decide) (pb_s2 hB) (show b + 2 < 164 by have := pb_n hB; omega) hix hi (pb_rq hB hi) ?_
    refine al_1 dX3_copyFrom_46 ?_
    refine R_getfr (r := c + 2) dX3_copyFrom_47 fl_RX3_17 rfl (pb_s0 hC) (show c < 164 by have := pb_n hC; omega) (pb_r1 hC) ?_
    refine il_2 dX3_copyFrom_50 ?_
    refine R_aald (t := 4) (r := (c + 7 + 2 * i)) dX3_copyFrom_51 (by decide) (pb_s2 hC) (show c + 2 < 164 by have := pb_n hC; omega) hix hi (pb_rq hC hi) ?_
    refine cv_1 dX3_copyFrom_52 mm_RX3_48 (pq_s0 (pb_q hB hi)) (show (b + 7 + 2 * i) < 164 by have := pq_n (pb_q hB hi); omega) ⟨_, rfl, rfl⟩ (Nat.le_of_ble_eq_true rfl) (Nat.le_of_ble_eq_true rfl) (K_copyP (pb_q hB hi) (pb_q hC hi) (by omega) (by omega) (by omega) hz4 hz5 (fun m2 q1 q2 q3 => ?_))
    refine ii_2 (v := _ + 1) dX3_copyFrom_55 rfl (by rfl) ?_
    refine R_goto (tgt := 32) dX3_copyFrom_58 (by decide) ?_
    refine ih (i + 1) m2 _ (by omega) (by rw [hx]; exact sm_add i 1) (fun a ha => ?_) (fun j hj f hf => ?_) (fun j hj f hf => ?_)
    · rw [q1 a (ha i (by omega)).1 (ha i (by omega)).2]; exact h1 a (fun j hj => ha j (by omega))
    · by_cases hji : j = i
      · subst hji; rw [q2 f hf, eq]
      · rw [q1 _ (by omega) (by omega)]; exact h2 j (by omega) f hf
    · by_cases hji : j = i
      · subst hji; rw [q3 f hf, eq1]
      · rw [q1 _ (by omega) (by omega)]; exact h3 j (by omega) f hf

theorem sC_copy {mi M : Nat → Nat → Int32} {k b c : Nat} (ek : M k = mi k) (f2 : ∀ f, 4 ≤ f → f ≤ 10 → M b f = mi c f) (f12 : M b 12 = 0) (f13 : M b 13 = 0) (f14 : M b 14 = -1) (hs12 : mi c 12 = 0) (hs13 : mi c 13 = 0) (hs14 : mi c 14 = -1) : ∀ j, sC M k b j = sC mi k c j
  | 0 => f2 4 (by omega) (by omega)
  | 1 => f2 5 (by omega) (by omega)
  | 2 => f2 6 (by omega) (by omega)
  | 3 => f2 7 (by omega) (by omega)
  | 4 => f2 8 (by omega) (by omega)
  | 5 => f2 9 (by omega) (by omega)
  | 6 => f2 10 (by omega) (by omega)
  | 7 => by
    show (if 0 < M b 12 then M b 12 else M k 3) = (if 0 < mi c 12 then mi c 12 else mi k 3)
    rw [f12, hs12, ek]
  | 8 => f13.trans hs13.symm
  | 9 => f14.trans hs14.symm
  | n + 10 => by
    show M k 2 = mi k 2
    rw [ek]
set_option maxHeartbeats 4000000 in
theorem copy_fin {mi m1 m M : Nat → Nat → Int32} {D : Nat → Nat} {b c N : Nat} (hB : PB b) (hC : PB c) (hbc : b + 19 ≤ c ∨ c + 19 ≤ b) (hk : PD (D c)) (hp : mi c 6 = nI N) (hN : N ≤ 6) (hs12 : mi c 12 = 0) (hs13 : mi c 13 = 0) (hs14 : mi c 14 = -1) (hg6 : nn (mi c 4) ≤ 6) (hr6 : nn (mi c 8) ≤ 6)
  (e1 : ∀ a, a ≠ b + 1 → a ≠ b + 3 → m1 a = mi a) (e2 : ∀ j, j < 6 → m1 (b + 1) j = mi (c + 1) j) (e3 : ∀ j, j < 6 → m1 (b + 3) j = mi (c + 3) j)
  (h1 : ∀ a, (∀ j, j < N → a ≠ b + 7 + 2 * j ∧ a ≠ b + 7 + 2 * j + 1) → m a = m1 a) (h2 : ∀ j, j < N → ∀ f, f < 6 → m (b + 7 + 2 * j) f = m1 (c + 7 + 2 * j) f) (h3 : ∀ j, j < N → ∀ f, f < 4 → m (b + 7 + 2 * j + 1) f = m1 (c + 7 + 2 * j + 1) f)
  (f1 : ∀ a, a ≠ b → M a = m a) (f2 : ∀ f, 4 ≤ f → f ≤ 10 → M b f = mi c f) (f12 : M b 12 = 0) (f13 : M b 13 = 0) (f14 : M b 14 = -1) : PF b mi M ∧ wC M (D c) b = wC mi (D c) c := by
  have hbn := pb_n hB
  have hcn := pb_n hC
  have pf : PF b mi M := by
    refine ⟨fun a ha => ?_, ?_, ?_⟩
    · rw [f1 a (by omega), h1 a (fun j hj => by omega), e1 a (by omega) (by omega)]
    · rw [f1 _ (by omega), h1 _ (fun j hj => by omega), e1 _ (by omega) (by omega)]
    · rw [f1 _ (by omega), h1 _ (fun j hj => by omega), e1 _ (by omega) (by omega)]
  refine ⟨pf, Prod.ext (funext fun j => ?_) (Prod.ext (funext fun j => ?_) (Prod.ext (funext fun j => ?_) (funext fun i => ?_)))⟩
  · exact sC_copy (pf.pd hB hk).1 f2 f12 f13 f14 hs12 hs13 hs14 j
  · show (if j < nn (M b 4) then M (b + 1) j else 0) = if j < nn (mi c 4) then mi (c + 1) j else 0
    rw [f2 4 (by decide) (by decide)]
    by_cases hj : j < nn (mi c 4)
    · rw [if_pos hj, if_pos hj, f1 _ (by omega), h1 _ (fun j hj => by omega), e2 j (by omega)]
    · rw [if_neg hj, if_neg hj]
  · show (if j < nn (M b 8) then M (b + 3) j else 0) = if j < nn (mi c 8) then mi (c + 3) j else 0
    rw [f2 8 (by decide) (by decide)]
    by_cases hj : j < nn (mi c 8)
    · rw [if_pos hj, if_pos hj, f1 _ (by omega), h1 _ (fun j hj => by omega), e3 j (by omega)]
    · rw [if_neg hj, if_neg hj]
  · show (if i < nn (M b 6) then pC M (b + 7 + 2 * i) else fun _ => 0) = if i < nn (mi c 6) then pC mi (c + 7 + 2 * i) else fun _ => 0
    rw [f2 6 (by decide) (by decide)]
    by_cases hi : i < nn (mi c 6)
    · rw [if_pos hi, if_pos hi]
      have hi2 : i < N := by rw [hp, show nn (nI N) = N from nI_clamp (by omega)] at hi; exact hi
      funext f
      unfold pC
      by_cases hf : f < 6
      · rw [if_pos hf, if_pos hf, f1 _ (by omega), h2 i hi2 f hf, e1 _ (by omega) (by omega)]
      · rw [if_neg hf, if_neg hf]
        by_cases hf2 : f < 10
        · rw [if_pos hf2, if_pos hf2, f1 _ (by omega), h3 i hi2 (f - 6) (by omega), e1 _ (by omega) (by omega)]
        · rw [if_neg hf2, if_neg hf2]
    · rw [if_neg hi, if_neg hi]

set_option maxHeartbeats 4000000 in
theorem K_copyFrom {G : rn_G} {d : Nat} {κ : Nat × Nat} {Q : Option Value → rn_S → Prop} {mi : Nat → Nat → Int32} {ml : Nat → Nat → Int64} {D : Nat → Nat} {b c : Nat} (hB : PB b) (hC : PB c) (hbc : b + 19 ≤ c ∨ c + 19 ≤ b) (hk : PD (D c)) {N : Nat} (hp : mi c 6 = nI N) (hN : N ≤ 6) (hz : ∀ i, i < N → bz (mi (c + 7 + 2 * i) 4) ∧ bz (mi (c + 7 + 2 * i) 5)) (hs12 : mi c 12 = 0) (hs13 : mi c 13 = 0) (hs14 : mi c 14 = -1) (hg6 : nn (mi c 4) ≤ 6) (hr6 : nn (mi c 8) ≤ 6) (h : ∀ mi', PF b mi mi' → wC mi' (D c) b = wC mi (D c) c → mi' b 12 = 0 → mi' b 13 = 0 → mi' b 14 = -1 → Q none (mi', ml, RF (ud D b (D c)), 164)) : Call G (d + 2) M_X3_copyFrom [.ref b, .ref c] (mi, ml, RF D, 164) κ Q := by
  show Run G _ M_X3_copyFrom 0 [.ref b, .ref c, .null] [] _ _ _
  have hbn := pb_n hB
  have hcn := pb_n hC
  refine al_1 dX3_copyFrom_0 ?_
  refine R_getfr (r := c + 1) dX3_copyFrom_1 fl_RX3_9 rfl (pb_s0 hC) (show c < 164 by have := pb_n hC; omega) (pb_r0 hC) ?_
  refine R_iconst (v := 0) dX3_copyFrom_4 (by decide) ?_
  refine al_0 dX3_copyFrom_5 ?_
  refine R_getfr (r := b + 1) dX3_copyFrom_6 fl_RX3_9 rfl (pb_s0 hB) (show b < 164 by have := pb_n hB; omega) (pb_r0 hB) ?_
  refine R_iconst (v := 0) dX3_copyFrom_9 (by decide) ?_
  refine R_bipush (v := 6) dX3_copyFrom_10 (by decide) ?_
  refine R_copyi dX3_copyFrom_12 ac_RX3_39 ma_nat ma_st ma_in (pb_s1 hC) (pb_s1 hB) rfl (sp := 0) (dp := 0) (len := 6) ⟨by decide, by decide⟩ ⟨by decide, by decide⟩ ⟨by decide, by decide⟩ (by decide) (by decide) (Nat.le_of_ble_eq_true rfl) ?_
  refine al_1 dX3_copyFrom_15 ?_
  refine R_getfr (r := c + 3) dX3_copyFrom_16 fl_RX3_21 rfl (pb_s0 hC) (show c < 164 by have := pb_n hC; omega) (pb_r2 hC) ?_
  refine R_iconst (v := 0) dX3_copyFrom_19 (by decide) ?_
  refine al_0 dX3_copyFrom_20 ?_
  refine R_getfr (r := b + 3) dX3_copyFrom_21 fl_RX3_21 rfl (pb_s0 hB) (show b < 164 by have := pb_n hB; omega) (pb_r2 hB) ?_
  refine R_iconst (v := 0) dX3_copyFrom_24 (by decide) ?_
  refine R_bipush (v := 6) dX3_copyFrom_25 (by decide) ?_
  refine R_copyi dX3_copyFrom_27 ac_RX3_39 ma_nat ma_st ma_in (pb_s3 hC) (pb_s3 hB) rfl (sp := 0) (dp := 0) (len := 6) ⟨by decide, by decide⟩ ⟨by decide, by decide⟩ ⟨by decide, by decide⟩ (by decide) (by decide) (Nat.le_of_ble_eq_true rfl) ?_
  refine R_iconst (v := 0) dX3_copyFrom_30 (by decide) ?_
  refine is_2 dX3_copyFrom_31 rfl ?_
  obtain ⟨m1, hm1⟩ : ∃ m, m = rn_cp (rn_cp mi (c + 1) 0 (b + 1) 0 6) (c + 3) 0 (b + 3) 0 6 := ⟨_, rfl⟩
  rw [← hm1]
  have e1 : ∀ a, a ≠ b + 1 → a ≠ b + 3 → m1 a = mi a := fun a q1 q2 => by rw [hm1, cp_ne q2, cp_ne q1]
  have e2 : ∀ j, j < 6 → m1 (b + 1) j = mi (c + 1) j := fun j hj => by
    rw [hm1, cp_ne (by omega)]
    unfold rn_cp
    rw [if_pos ⟨rfl, Nat.zero_le _, by omega⟩, Nat.sub_zero, Nat.zero_add]
  have e3 : ∀ j, j < 6 → m1 (b + 3) j = mi (c + 3) j := fun j hj => by
    rw [hm1]
    conv => lhs; unfold rn_cp
    rw [if_pos ⟨rfl, Nat.zero_le _, by omega⟩, Nat.sub_zero, Nat.zero_add]
    show rn_cp mi (c + 1) 0 (b + 1) 0 6 (c + 3) j = _
    rw [cp_ne (by omega)]
  refine L_copyFrom hB hC hbc (by rw [e1 c (by omega) (by omega)]; exact hp) hN (fun i hi => by rw [e1 _ (by omega) (by omega)]; exact hz i hi) (fun m x h1 h2 h3 => ?_) N 0 m1 0 (by omega) nI_0.symm (fun _ _ => rfl) (fun j hj => absurd hj (Nat.not_lt_zero j)) (fun j hj => absurd hj (Nat.not_lt_zero j))
  refine al_0 dX3_copyFrom_61 ?_
  refine al_1 dX3_copyFrom_62 ?_
  refine R_getfi dX3_copyFrom_63 fl_RX3_52 rfl (pb_s0 hC) (show c < 164 by have := pb_n hC; omega) ?_
  refine R_putfi dX3_copyFrom_66 fl_RX3_52 rfl (Or.inl rfl) (pb_s0 hB) (show b < 164 by have := pb_n hB; omega) rfl rfl ?_
  refine al_0 dX3_copyFrom_69 ?_
  refine al_1 dX3_copyFrom_70 ?_
  refine R_getfi dX3_copyFrom_71 fl_RX3_55 rfl (pb_s0 hC) (show c < 164 by have := pb_n hC; omega) ?_
  refine R_putfi dX3_copyFrom_74 fl_RX3_55 rfl (Or.inl rfl) (pb_s0 hB) (show b < 164 by have := pb_n hB; omega) rfl rfl ?_
  refine al_0 dX3_copyFrom_77 ?_
  refine al_1 dX3_copyFrom_78 ?_
  refine R_getfi dX3_copyFrom_79 fl_RX3_45 rfl (pb_s0 hC) (show c < 164 by have := pb_n hC; omega) ?_
  refine R_putfi dX3_copyFrom_82 fl_RX3_45 rfl (Or.inl rfl) (pb_s0 hB) (show b < 164 by have := pb_n hB; omega) rfl rfl ?_
  refine al_0 dX3_copyFrom_85 ?_
  refine al_1 dX3_copyFrom_86 ?_
  refine R_getfi dX3_copyFrom_87 fl_RX3_58 rfl (pb_s0 hC) (show c < 164 by have := pb_n hC; omega) ?_
  refine R_putfi dX3_copyFrom_90 fl_RX3_58 rfl (Or.inl rfl) (pb_s0 hB) (show b < 164 by have := pb_n hB; omega) rfl rfl ?_
  refine al_0 dX3_copyFrom_93 ?_
  refine al_1 dX3_copyFrom_94 ?_
  refine R_getfi dX3_copyFrom_95 fl_RX3_61 rfl (pb_s0 hC) (show c < 164 by have := pb_n hC; omega) ?_
  refine R_putfi dX3_copyFrom_98 fl_RX3_61 rfl (Or.inl rfl) (pb_s0 hB) (show b < 164 by have := pb_n hB; omega) rfl rfl ?_
  refine al_0 dX3_copyFrom_101 ?_
  refine al_1 dX3_copyFrom_102 ?_
  refine R_getfi dX3_copyFrom_103 fl_RX3_64 rfl (pb_s0 hC) (show c < 164 by have := pb_n hC; omega) ?_
  refine R_putfi dX3_copyFrom_106 fl_RX3_64 rfl (Or.inl rfl) (pb_s0 hB) (show b < 164 by have := pb_n hB; omega) rfl rfl ?_
  refine al_0 dX3_copyFrom_109 ?_
  refine al_1 dX3_copyFrom_110 ?_
  refine R_getfi dX3_copyFrom_111 fl_RX3_67 rfl (pb_s0 hC) (show c < 164 by have := pb_n hC; omega) ?_
  refine R_putfi dX3_copyFrom_114 fl_RX3_67 rfl (Or.inl rfl) (pb_s0 hB) (show b < 164 by have := pb_n hB; omega) rfl rfl ?_
  refine al_0 dX3_copyFrom_117 ?_
  refine al_1 dX3_copyFrom_118 ?_
  refine R_getfr (r := (D c)) dX3_copyFrom_119 fl_RX3_30 rfl (pb_s0 hC) (show c < 164 by have := pb_n hC; omega) (pb_r11 hC) ?_
  refine R_putfr dX3_copyFrom_122 fl_RX3_30 rfl (Or.inl rfl) (pb_s0 hB) (show b < 164 by have := pb_n hB; omega) ?_
  rw [rf_ud hB]
  refine al_0 dX3_copyFrom_125 ?_
  refine R_iconst (v := 0) dX3_copyFrom_126 (by decide) ?_
  refine R_putfi dX3_copyFrom_127 fl_RX3_70 rfl (Or.inl rfl) (pb_s0 hB) (show b < 164 by have := pb_n hB; omega) rfl rfl ?_
  refine al_0 dX3_copyFrom_130 ?_
  refine R_iconst (v := 0) dX3_copyFrom_131 (by decide) ?_
  refine R_putfi dX3_copyFrom_132 fl_RX3_73 rfl (Or.inl rfl) (pb_s0 hB) (show b < 164 by have := pb_n hB; omega) rfl rfl ?_
  refine al_0 dX3_copyFrom_135 ?_
  refine R_iconst (v := -1) dX3_copyFrom_136 (by decide) ?_
  refine R_putfi dX3_copyFrom_137 fl_RX3_34 rfl (Or.inl rfl) (pb_s0 hB) (show b < 164 by have := pb_n hB; omega) rfl rfl ?_
  refine R_return dX3_copyFrom_140 rfl ?_
  have hcb : c ≠ b := by omega
  have ecm : m c = mi c := by rw [h1 c (fun j hj => by omega), e1 c (by omega) (by omega)]
  simp only [rn_u_ne hcb, ecm]
  generalize hM : rn_u _ b 14 _ = M
  have fne : ∀ a, a ≠ b → M a = m a := fun a ha => by rw [← hM]; simp only [rn_u_ne ha]
  have fat : ∀ f, M b f = if f = 14 then -1 else if f = 13 then 0 else if f = 12 then 0 else if f = 10 then mi c 10 else if f = 9 then mi c 9 else if f = 8 then mi c 8 else if f = 7 then mi c 7 else if f = 6 then mi c 6 else if f = 5 then mi c 5 else if f = 4 then mi c 4 else m b f := fun f => by rw [← hM]; simp only [rn_u, true_and]
  obtain ⟨pf, ww⟩ := copy_fin (D := D) hB hC hbc hk hp hN hs12 hs13 hs14 hg6 hr6 e1 e2 e3 h1 h2 h3 fne (fun f f1 f2 => by
    rw [fat]
    match f, f1, f2 with
    | 4, _, _ | 5, _, _ | 6, _, _ | 7, _, _ | 8, _, _ | 9, _, _ | 10, _, _ => rfl) (by rw [fat]; rfl) (by rw [fat]; rfl) (by rw [fat]; rfl)
  exact h M pf ww (by rw [fat]; rfl) (by rw [fat]; rfl) (by rw [fat]; rfl)
