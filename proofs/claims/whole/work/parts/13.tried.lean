/-! gates and people; what is tried -/
def rot1 (N : Nat) (r : Nat → Int32) : Nat → Int32 := fun j => if j = N - 1 then r 0 else if j < N - 1 then r (1 + j) else r j
def rotN (N : Nat) : Nat → (Nat → Int32) → Nat → Int32
  | 0, r => r
  | c + 1, r => rotN N c (rot1 N r)
theorem rotN_get {N : Nat} (hN : 1 ≤ N) : ∀ (c : Nat) (r : Nat → Int32) (j : Nat), j < N → rotN N c r j = r ((j + c) % N)
  | 0, r, j, hj => by
    show r j = _
    rw [Nat.add_zero, Nat.mod_eq_of_lt hj]
  | c + 1, r, j, hj => by
    show rotN N c (rot1 N r) j = _
    rw [rotN_get hN c (rot1 N r) j hj]
    have hlt : (j + c) % N < N := Nat.mod_lt _ hN
    have e : (j + (c + 1)) % N = ((j + c) % N + 1) % N := by rw [Nat.mod_add_mod]; rfl
    rw [e]
    unfold rot1
    by_cases h1 : (j + c) % N = N - 1
    · rw [if_pos h1, h1, Nat.sub_add_cancel hN, Nat.mod_self]
    · rw [if_neg h1, if_pos (by omega), Nat.mod_eq_of_lt (show (j + c) % N + 1 < N by omega), Nat.add_comm]
theorem rotN_succ (N : Nat) : ∀ (c : Nat) (r : Nat → Int32), rotN N (c + 1) r = rot1 N (rotN N c r)
  | 0, _ => rfl
  | c + 1, r => rotN_succ N c (rot1 N r)
theorem rot1_out {N : Nat} (hN : 1 ≤ N) {r : Nat → Int32} {j : Nat} (hj : N ≤ j) : rot1 N r j = r j := by
  unfold rot1
  rw [if_neg (by omega), if_neg (by omega)]
theorem rotN_out {N : Nat} (hN : 1 ≤ N) : ∀ (c : Nat) (r : Nat → Int32) (j : Nat), N ≤ j → rotN N c r j = r j
  | 0, _, _, _ => rfl
  | c + 1, r, j, hj => by
    show rotN N c (rot1 N r) j = _
    rw [rotN_out hN c (rot1 N r) j hj, rot1_out hN hj]
def firstW (c : Nat) (w : WD) : WD := (fun x => if x = 5 then 0 else w.1 x, w.2.1, fun j => if j < nn (w.1 4) then w.2.2.1 ((j + c) % nn (w.1 4)) else 0, w.2.2.2)
def swapW (a c : Nat) (w : WD) : WD := (w.1, w.2.1, fun j => if j = c then w.2.2.1 a else if j = a then w.2.2.1 c else w.2.2.1 j, w.2.2.2)
def openW (g : Int32) (w : WD) : WD := upS (upS w 1 (clrB (w.1 1) g)) 9 g
def soloW (i : Nat) (w : WD) : WD := (w.1, w.2.1, w.2.2.1, fun j => if j < nn (w.1 2) then fun f => if f = 5 then (if j = i then 0 else 1) else w.2.2.2 j f else fun _ => 0)

theorem rn_ixe {x : Int32} {n : Nat} (h : x = nI n) (hn : n < 2 ^ 31 := by omega) : rn_ix x n := by rw [h]; exact rn_ix_nI hn
theorem ret_eq {Q : Option Value → rn_S → Prop} {v w : Int32} {m m' : Nat → Nat → Int32} {ml : Nat → Nat → Int64} {D : Nat → Nat} (h : Q (some (.int w)) (m', ml, RF D, 164)) (hm : m = m') (hv : v = w) : Q (some (.int v)) (m, ml, RF D, 164) := by
  rw [hm, hv]
  exact h
theorem nret_eq {Q : Option Value → rn_S → Prop} {m m' : Nat → Nat → Int32} {ml : Nat → Nat → Int64} {D : Nat → Nat} (h : Q none (m', ml, RF D, 164)) (hm : m = m') : Q none (m, ml, RF D, 164) := by
  rw [hm]
  exact h

set_option maxHeartbeats 4000000 in
theorem K_addGate {G : rn_G} {d : Nat} {κ : Nat × Nat} {Q : Option Value → rn_S → Prop} {mi : Nat → Nat → Int32} {ml : Nat → Nat → Int64} {D : Nat → Nat} {b : Nat} (hB : PB b) {x : Int32} {N : Nat} (hg : mi b 4 = nI N) (hN : N < 6) (h : Q (some (.int (nI N))) (rn_u (rn_u mi (b + 1) N x) b 4 (nI N + 1), ml, RF D, 164)) : Call G (d) M_X3_addGate [.ref b, .int x] (mi, ml, RF D, 164) κ Q := by
  show Run G _ M_X3_addGate 0 [.ref b, .int x] [] _ _ _
  have hb1 : b ≠ b + 1 := by omega
  refine al_0 dX3_addGate_0 ?_
  refine R_getfr (r := b + 1) dX3_addGate_1 fl_RX3_9 rfl (pb_s0 hB) (show b < 164 by have := pb_n hB; omega) (pb_r0 hB) ?_
  refine al_0 dX3_addGate_4 ?_
  refine R_getfi dX3_addGate_5 fl_RX3_52 rfl (pb_s0 hB) (show b < 164 by have := pb_n hB; omega) ?_
  refine il_1 dX3_addGate_8 ?_
  refine R_iast dX3_addGate_9 (pb_s1 hB) (show b + 1 < 164 by have := pb_n hB; omega) (rn_ixe hg) hN ?_
  refine al_0 dX3_addGate_10 ?_
  refine R_dup dX3_addGate_11 rfl ?_
  refine R_getfi dX3_addGate_12 fl_RX3_52 rfl (pb_s0 hB) (show b < 164 by have := pb_n hB; omega) ?_
  refine R_iconst (v := 1) dX3_addGate_15 (by decide) ?_
  refine R_iadd dX3_addGate_16 ?_
  refine R_putfi dX3_addGate_17 fl_RX3_52 rfl (Or.inl rfl) (pb_s0 hB) (show b < 164 by have := pb_n hB; omega) rfl rfl ?_
  refine al_0 dX3_addGate_20 ?_
  refine R_getfi dX3_addGate_21 fl_RX3_52 rfl (pb_s0 hB) (show b < 164 by have := pb_n hB; omega) ?_
  refine R_iconst (v := 1) dX3_addGate_24 (by decide) ?_
  refine R_isub dX3_addGate_25 ?_
  refine R_ireturn dX3_addGate_26 ⟨_, rfl, rfl⟩ ?_
  refine ret_eq h ?_ ?_
  · simp only [rn_u_ne hb1, hg]
  · simp only [rn_u, and_self, if_true]; rw [if_neg (by omega), hg]; exact Int32.add_sub_cancel _ _

theorem wC_person {mi m2 : Nat → Nat → Int32} {k b i : Nat} {x y z : Int32} (hB : PB b) (hk : PD k) (hp : mi b 6 = nI i) (hi : i < 6) (q1 : ∀ a, a ≠ b + 7 + 2 * i → a ≠ b + 7 + 2 * i + 1 → m2 a = mi a) (q2 : ∀ f, f < 6 → m2 (b + 7 + 2 * i) f = newP x y z f) (q3 : ∀ j, j < 4 → m2 (b + 7 + 2 * i + 1) j = 0) : wC (rn_u m2 b 6 (nI i + 1)) k b = personW x y z (wC mi k b) := by
  have hkb : k ≠ b ∧ k ≠ b + 7 + 2 * i ∧ k ≠ b + 7 + 2 * i + 1 := by unfold PD at hk; unfold PB at hB; omega
  have hn : nn (mi b 6) = i := by rw [hp]; exact nI_clamp (by omega)
  obtain ⟨M, hM⟩ : ∃ M, M = rn_u m2 b 6 (nI i + 1) := ⟨_, rfl⟩
  rw [← hM]
  have eb : ∀ f, M b f = if f = 6 then nI i + 1 else mi b f := fun f => by rw [hM]; simp only [rn_u, true_and]; rw [q1 b (by omega) (by omega)]
  have ea : ∀ a, a ≠ b → M a = m2 a := fun a h1 => by rw [hM, rn_u_ne h1]
  have e2 : ∀ a, a ≠ b → a ≠ b + 7 + 2 * i → a ≠ b + 7 + 2 * i + 1 → M a = mi a := fun a h1 h2 h3 => (ea a h1).trans (q1 a h2 h3)
  refine Prod.ext (funext fun j => ?_) (Prod.ext (funext fun j => ?_) (Prod.ext (funext fun j => ?_) (funext fun u => ?_)))
  · show sC M k b j = if j = 2 then mi b 6 + 1 else sC mi k b j
    unfold sC
    rw [e2 k hkb.1 hkb.2.1 hkb.2.2]
    match j with
    | 2 => exact (eb 6).trans (by rw [if_pos rfl, if_pos rfl, hp])
    | 0 | 1 | 3 | 4 | 5 | 6 | 7 | 8 | 9 => simp [eb]
    | n + 10 => simp
  · show (if j < nn (M b 4) then M (b + 1) j else 0) = if j < nn (mi b 4) then mi (b + 1) j else 0
    rw [eb, if_neg (show ¬ (4 : Nat) = 6 by decide), e2 (b + 1) (by omega) (by omega) (by omega)]
  · show (if j < nn (M b 8) then M (b + 3) j else 0) = if j < nn (mi b 8) then mi (b + 3) j else 0
    rw [eb, if_neg (show ¬ (8 : Nat) = 6 by decide), e2 (b + 3) (by omega) (by omega) (by omega)]
  · show (if u < nn (M b 6) then pC M (b + 7 + 2 * u) else fun _ => 0) = if u = nn (mi b 6) then newP x y z else if u < nn (mi b 6) then pC mi (b + 7 + 2 * u) else fun _ => 0
    rw [eb, if_pos rfl, hn, show nI i + 1 = nI (i + 1) from sm_add i 1, show nn (nI (i + 1)) = i + 1 from nI_clamp (by omega)]
    by_cases h1 : u = i
    · subst h1
      rw [if_pos (by omega), if_pos rfl]
      funext f
      unfold pC
      by_cases hf : f < 6
      · rw [if_pos hf, ea _ (by omega), q2 f hf]
      · rw [if_neg hf]
        have e0 : newP x y z f = 0 := by unfold newP; rw [if_neg (by omega), if_neg (by omega), if_neg (by omega)]
        rw [e0]
        by_cases hf2 : f < 10
        · rw [if_pos hf2, ea _ (by omega), q3 _ (by omega)]
        · rw [if_neg hf2]
    · rw [if_neg h1]
      by_cases h2 : u < i
      · rw [if_pos (by omega), if_pos h2, pC_ext (fun f _ => by rw [e2 _ (by omega) (by omega) (by omega)]) (e2 _ (by omega) (by omega) (by omega))]
      · rw [if_neg (by omega), if_neg h2]

set_option maxHeartbeats 4000000 in
theorem K_begin {G : rn_G} {d : Nat} {κ : Nat × Nat} {Q : Option Value → rn_S → Prop} {mi : Nat → Nat → Int32} {ml : Nat → Nat → Int64} {D : Nat → Nat} {q : Nat} (hq : PQ q) {x y z : Int32} (h : ∀ mi', (∀ a, a ≠ q → a ≠ q + 1 → mi' a = mi a) → (∀ f, f < 6 → mi' q f = newP x y z f) → (∀ j, j < 4 → mi' (q + 1) j = 0) → Q none (mi', ml, RF D, 164)) : Call G (d) M_X4_begin [.ref q, .int x, .int y, .int z] (mi, ml, RF D, 164) κ Q := by
  show Run G _ M_X4_begin 0 [.ref q, .int x, .int y, .int z, .null] [] _ _ _
  refine al_0 dX4_begin_0 ?_
  refine il_1 dX4_begin_1 ?_
  refine R_putfi dX4_begin_2 fl_RX4_15 rfl (Or.inl rfl) (pq_s0 hq) (show q < 164 by have := pq_n hq; omega) rfl rfl ?_
  refine al_0 dX4_begin_5 ?_
  refine il_2 dX4_begin_6 ?_
  refine R_putfi dX4_begin_7 fl_RX4_19 rfl (Or.inl rfl) (pq_s0 hq) (show q < 164 by have := pq_n hq; omega) rfl rfl ?_
  refine al_0 dX4_begin_10 ?_
  refine il_3 dX4_begin_11 ?_
  refine R_putfi dX4_begin_12 fl_RX4_22 rfl (Or.inl rfl) (pq_s0 hq) (show q < 164 by have := pq_n hq; omega) rfl rfl ?_
  refine al_0 dX4_begin_15 ?_
  refine R_iconst (v := 0) dX4_begin_16 (by decide) ?_
  refine R_putfi dX4_begin_17 fl_RX4_25 rfl (Or.inl rfl) (pq_s0 hq) (show q < 164 by have := pq_n hq; omega) rfl rfl ?_
  refine al_0 dX4_begin_20 ?_
  refine R_iconst (v := 0) dX4_begin_21 (by decide) ?_
  refine R_putfi dX4_begin_22 fl_RX4_28 rfl (Or.inl rfl) (pq_s0 hq) (show q < 164 by have := pq_n hq; omega) rfl rfl ?_
  refine al_0 dX4_begin_25 ?_
  refine R_iconst (v := 0) dX4_begin_26 (by decide) ?_
  refine R_putfi dX4_begin_27 fl_RX4_32 rfl (Or.inl rfl) (pq_s0 hq) (show q < 164 by have := pq_n hq; omega) rfl rfl ?_
  refine R_iconst (v := 0) dX4_begin_30 (by decide) ?_
  refine is_4 dX4_begin_31 rfl ?_
  refine il_4 dX4_begin_33 ?_
  refine R_iconst (v := 4) dX4_begin_35 (by decide) ?_
  refine R_icmp_ge (tgt := 53) dX4_begin_36 (by decide) (fun q => absurd q (by decide)) (fun _ => ?_)
  refine al_0 dX4_begin_39 ?_
  refine R_getfr (r := q + 1) dX4_begin_40 fl_RX4_9 rfl (pq_s0 hq) (show q < 164 by have := pq_n hq; omega) (pq_r6 hq) ?_
  refine il_4 dX4_begin_43 ?_
  refine R_iconst (v := 0) dX4_begin_45 (by decide) ?_
  refine R_iast dX4_begin_46 (pq_s1 hq) (show q + 1 < 164 by have := pq_n hq; omega) (j := 0) ⟨by decide, by decide⟩ (by decide) ?_
  refine ii_4 (v := 1) dX4_begin_47 rfl (by decide) ?_
  refine R_goto (tgt := 33) dX4_begin_50 (by decide) ?_
  refine il_4 dX4_begin_33 ?_
  refine R_iconst (v := 4) dX4_begin_35 (by decide) ?_
  refine R_icmp_ge (tgt := 53) dX4_begin_36 (by decide) (fun q => absurd q (by decide)) (fun _ => ?_)
  refine al_0 dX4_begin_39 ?_
  refine R_getfr (r := q + 1) dX4_begin_40 fl_RX4_9 rfl (pq_s0 hq) (show q < 164 by have := pq_n hq; omega) (pq_r6 hq) ?_
  refine il_4 dX4_begin_43 ?_
  refine R_iconst (v := 0) dX4_begin_45 (by decide) ?_
  refine R_iast dX4_begin_46 (pq_s1 hq) (show q + 1 < 164 by have := pq_n hq; omega) (j := 1) ⟨by decide, by decide⟩ (by decide) ?_
  refine ii_4 (v := 2) dX4_begin_47 rfl (by decide) ?_
  refine R_goto (tgt := 33) dX4_begin_50 (by decide) ?_
  refine il_4 dX4_begin_33 ?_
  refine R_iconst (v := 4) dX4_begin_35 (by decide) ?_
  refine R_icmp_ge (tgt := 53) dX4_begin_36 (by decide) (fun q => absurd q (by decide)) (fun _ => ?_)
  refine al_0 dX4_begin_39 ?_
  refine R_getfr (r := q + 1) dX4_begin_40 fl_RX4_9 rfl (pq_s0 hq) (show q < 164 by have := pq_n hq; omega) (pq_r6 hq) ?_
  refine il_4 dX4_begin_43 ?_
  refine R_iconst (v := 0) dX4_begin_45 (by decide) ?_
  refine R_iast dX4_begin_46 (pq_s1 hq) (show q + 1 < 164 by have := pq_n hq; omega) (j := 2) ⟨by decide, by decide⟩ (by decide) ?_
  refine ii_4 (v := 3) dX4_begin_47 rfl (by decide) ?_
  refine R_goto (tgt := 33) dX4_begin_50 (by decide) ?_
  refine il_4 dX4_begin_33 ?_
  refine R_iconst (v := 4) dX4_begin_35 (by decide) ?_
  refine R_icmp_ge (tgt := 53) dX4_begin_36 (by decide) (fun q => absurd q (by decide)) (fun _ => ?_)
  refine al_0 dX4_begin_39 ?_
  refine R_getfr (r := q + 1) dX4_begin_40 fl_RX4_9 rfl (pq_s0 hq) (show q < 164 by have := pq_n hq; omega) (pq_r6 hq) ?_
  refine il_4 dX4_begin_43 ?_
  refine R_iconst (v := 0) dX4_begin_45 (by decide) ?_
  refine R_iast dX4_begin_46 (pq_s1 hq) (show q + 1 < 164 by have := pq_n hq; omega) (j := 3) ⟨by decide, by decide⟩ (by decide) ?_
  refine ii_4 (v := 4) dX4_begin_47 rfl (by decide) ?_
  refine R_goto (tgt := 33) dX4_begin_50 (by decide) ?_
  refine il_4 dX4_begin_33 ?_
  refine R_iconst (v := 4) dX4_begin_35 (by decide) ?_
  refine R_icmp_ge (tgt := 53) dX4_begin_36 (by decide) (fun _ => ?_) (fun q => absurd q (by decide))
  refine R_return dX4_begin_53 rfl ?_
  refine h _ (fun a h1 h2 => ?_) (fun f hf => ?_) (fun j hj => ?_)
  · simp only [rn_u_ne h1, rn_u_ne h2]
  · simp only [rn_u_ne (show q ≠ q + 1 by omega)]
    match f, hf with
    | 0, _ | 1, _ | 2, _ | 3, _ | 4, _ | 5, _ => simp [rn_u, newP]
  · match j, hj with
    | 0, _ | 1, _ | 2, _ | 3, _ => simp [rn_u]

set_option maxHeartbeats 4000000 in
theorem K_addPerson {G : rn_G} {d : Nat} {κ : Nat × Nat} {Q : Option Value → rn_S → Prop} {mi : Nat → Nat → Int32} {ml : Nat → Nat → Int64} {D : Nat → Nat} {b : Nat} (hB : PB b) {x y z : Int32} {i : Nat} (hp : mi b 6 = nI i) (hi : i < 6) {k : Nat} (hk : PD k) (h : ∀ mi', PF b mi mi' → (∀ f, f ≠ 6 → mi' b f = mi b f) → wC mi' k b = personW x y z (wC mi k b) → Q (some (.int (nI i))) (mi', ml, RF D, 164)) : Call G (d + 1) M_X3_addPerson [.ref b, .int x, .int y, .int z] (mi, ml, RF D, 164) κ Q := by
  show Run G _ M_X3_addPerson 0 [.ref b, .int x, .int y, .int z] [] _ _ _
  refine al_0 dX3_addPerson_0 ?_
  refine R_getfr (r := b + 2) dX3_addPerson_1 fl_RX3_17 rfl (pb_s0 hB) (show b < 164 by have := pb_n hB; omega) (pb_r1 hB) ?_
  refine al_0 dX3_addPerson_4 ?_
  refine R_getfi dX3_addPerson_5 fl_RX3_45 rfl (pb_s0 hB) (show b < 164 by have := pb_n hB; omega) ?_
  refine R_aald (t := 4) (r := (b + 7 + 2 * i)) dX3_addPerson_8 (by decide) (pb_s2 hB) (show b + 2 < 164 by have := pb_n hB; omega) (rn_ixe hp) hi (pb_rq hB hi) ?_
  refine il_1 dX3_addPerson_9 ?_
  refine il_2 dX3_addPerson_10 ?_
  refine il_3 dX3_addPerson_11 ?_
  refine cv_3 dX3_addPerson_12 mm_RX3_76 (pq_s0 (pb_q hB hi)) (show (b + 7 + 2 * i) < 164 by have := pq_n (pb_q hB hi); omega) ⟨_, rfl, rfl⟩ (Nat.le_of_ble_eq_true rfl) (Nat.le_of_ble_eq_true rfl) (K_begin (pb_q hB hi) (fun m2 q1 q2 q3 => ?_))
  refine al_0 dX3_addPerson_15 ?_
  refine R_dup dX3_addPerson_16 rfl ?_
  refine R_getfi dX3_addPerson_17 fl_RX3_45 rfl (pb_s0 hB) (show b < 164 by have := pb_n hB; omega) ?_
  refine R_iconst (v := 1) dX3_addPerson_20 (by decide) ?_
  refine R_iadd dX3_addPerson_21 ?_
  refine R_putfi dX3_addPerson_22 fl_RX3_45 rfl (Or.inl rfl) (pb_s0 hB) (show b < 164 by have := pb_n hB; omega) rfl rfl ?_
  refine al_0 dX3_addPerson_25 ?_
  refine R_getfi dX3_addPerson_26 fl_RX3_45 rfl (pb_s0 hB) (show b < 164 by have := pb_n hB; omega) ?_
  refine R_iconst (v := 1) dX3_addPerson_29 (by decide) ?_
  refine R_isub dX3_addPerson_30 ?_
  refine R_ireturn dX3_addPerson_31 ⟨_, rfl, rfl⟩ ?_
  have e6 : m2 b = mi b := q1 b (by omega) (by omega)
  have hkb : k ≠ b ∧ k ≠ b + 7 + 2 * i ∧ k ≠ b + 7 + 2 * i + 1 := by unfold PD at hk; unfold PB at hB; omega
  refine Eq.mp (congrArg (fun v => Q (some (.int v)) _) ?_) (h _ (PF.of (fun a ha => ?_)) (fun f hf => ?_) ?_)
  · simp only [rn_u, and_self, if_true]; rw [e6, hp]; exact (Int32.add_sub_cancel _ _).symm
  · rw [rn_u_ne (by have := pb_n hB; omega), q1 a (by omega) (by omega)]
  · simp only [rn_u, hf, and_false, if_false]; rw [e6]
  · rw [e6, hp]; exact wC_person hB hk hp hi q1 q2 q3

set_option maxHeartbeats 4000000 in
theorem L_beginRoundWith {G : rn_G} {d : Nat} {κ : Nat × Nat} {Q : Option Value → rn_S → Prop} {mi : Nat → Nat → Int32} {ml : Nat → Nat → Int64} {D : Nat → Nat} {b : Nat} (hB : PB b) {N C : Nat} (hr : mi b 8 = nI N) (hN : 1 ≤ N) (hN6 : N ≤ 6) {z : Int32} (hz : z = nI C) (hC : C ≤ 6) (h : ∀ mi', (∀ a, a ≠ b → a ≠ b + 3 → mi' a = mi a) → (∀ f, mi' b f = if f = 9 then 0 else mi b f) → (∀ j, mi' (b + 3) j = rotN N C (mi (b + 3)) j) → Q none (mi', ml, RF D, 164)) : ∀ (n i : Nat) (x : Int32) (v3 : Value) (m : Nat → Nat → Int32), n + i = C → x = nI i → (∀ a, a ≠ b + 3 → m a = mi a) → (∀ j, m (b + 3) j = rotN N i (mi (b + 3)) j) → Run G (d + 1) M_X3_beginRoundWith 2 [.ref b, .int z, .int x, v3] [] (m, ml, RF D, 164) κ Q := by
  intro n
  induction n with
  | zero =>
    intro i x v3 m hni hx h1 h2
    obtain rfl : i = C := by omega
    refine il_2 dX3_beginRoundWith_2 ?_
    refine il_1 dX3_beginRoundWith_3 ?_
    refine R_icmp_ge (tgt := 51) dX3_beginRoundWith_4 (by decide) (fun c4 => ?_) (fun q => absurd q (not_not_intro (by rw [hz, hx]; exact nI_le (by omega) (by omega))))
    refine al_0 dX3_beginRoundWith_51 ?_
    refine R_iconst (v := 0) dX3_beginRoundWith_52 (by decide) ?_
    refine R_putfi dX3_beginRoundWith_53 fl_RX3_64 rfl (Or.inl rfl) (pb_s0 hB) (show b < 164 by have := pb_n hB; omega) rfl rfl ?_
    refine R_return dX3_beginRoundWith_56 rfl ?_
    refine h _ (fun a ha hb => by rw [rn_u_ne ha]; exact h1 a hb) (fun f => ?_) (fun j => ?_)
    · simp only [rn_u, true_and]; rw [h1 b (by omega)]
    · rw [rn_u_ne (by omega)]; exact h2 j
  | succ n ih =>
    intro i x v3 m hni hx h1 h2
    have e8 : m b 8 = nI N := by rw [h1 b (by omega)]; exact hr
    have e81 : m b 8 - 1 = nI (N - 1) := by rw [e8]; exact sm_sub (a := N) (b := 1) hN
    refine il_2 dX3_beginRoundWith_2 ?_
    refine il_1 dX3_beginRoundWith_3 ?_
    refine R_icmp_ge (tgt := 51) dX3_beginRoundWith_4 (by decide) (fun q => absurd q (by rw [hz, hx]; exact nI_ge (by omega) (by omega))) (fun c4 => ?_)
    refine al_0 dX3_beginRoundWith_7 ?_
    refine R_getfr (r := b + 3) dX3_beginRoundWith_8 fl_RX3_21 rfl (pb_s0 hB) (show b < 164 by have := pb_n hB; omega) (pb_r2 hB) ?_
    refine R_iconst (v := 0) dX3_beginRoundWith_11 (by decide) ?_
    refine R_iald dX3_beginRoundWith_12 (pb_s3 hB) (show b + 3 < 164 by have := pb_n hB; omega) (j := 0) ⟨by decide, by decide⟩ (by decide) ?_
    refine is_3 dX3_beginRoundWith_13 rfl ?_
    refine al_0 dX3_beginRoundWith_14 ?_
    refine R_getfr (r := b + 3) dX3_beginRoundWith_15 fl_RX3_21 rfl (pb_s0 hB) (show b < 164 by have := pb_n hB; omega) (pb_r2 hB) ?_
    refine R_iconst (v := 1) dX3_beginRoundWith_18 (by decide) ?_
    refine al_0 dX3_beginRoundWith_19 ?_
    refine R_getfr (r := b + 3) dX3_beginRoundWith_20 fl_RX3_21 rfl (pb_s0 hB) (show b < 164 by have := pb_n hB; omega) (pb_r2 hB) ?_
    refine R_iconst (v := 0) dX3_beginRoundWith_23 (by decide) ?_
    refine al_0 dX3_beginRoundWith_24 ?_
    refine R_getfi dX3_beginRoundWith_25 fl_RX3_61 rfl (pb_s0 hB) (show b < 164 by have := pb_n hB; omega) ?_
    refine R_iconst (v := 1) dX3_beginRoundWith_28 (by decide) ?_
    refine R_isub dX3_beginRoundWith_29 ?_
    refine R_copyi dX3_beginRoundWith_30 ac_RX3_39 ma_nat ma_st ma_in (pb_s3 hB) (pb_s3 hB) rfl (sp := 1) (dp := 0) (len := N - 1) ⟨by decide, by decide⟩ ⟨by decide, by decide⟩ (rn_ixe e81) (by omega) (by omega) (Nat.le_of_ble_eq_true rfl) ?_
    refine al_0 dX3_beginRoundWith_33 ?_
    refine R_getfr (r := b + 3) dX3_beginRoundWith_34 fl_RX3_21 rfl (pb_s0 hB) (show b < 164 by have := pb_n hB; omega) (pb_r2 hB) ?_
    refine al_0 dX3_beginRoundWith_37 ?_
    refine R_getfi dX3_beginRoundWith_38 fl_RX3_61 rfl (pb_s0 hB) (show b < 164 by have := pb_n hB; omega) ?_
    refine R_iconst (v := 1) dX3_beginRoundWith_41 (by decide) ?_
    refine R_isub dX3_beginRoundWith_42 ?_
    refine il_3 dX3_beginRoundWith_43 ?_
    refine R_iast dX3_beginRoundWith_44 (pb_s3 hB) (show b + 3 < 164 by have := pb_n hB; omega) (j := N - 1) (rn_ixe (by rw [cp_ne (by omega)]; exact e81)) (by omega) ?_
    refine ii_2 (v := _ + 1) dX3_beginRoundWith_45 rfl (by rfl) ?_
    refine R_goto (tgt := 2) dX3_beginRoundWith_48 (by decide) ?_
    refine ih (i + 1) _ _ _ (by omega) (by rw [hx]; exact sm_add i 1) (fun a ha => by rw [rn_u_ne ha, cp_ne ha]; exact h1 a ha) (fun j => ?_)
    rw [rotN_succ]
    unfold rn_u rn_cp rot1
    by_cases hj : j = N - 1
    · subst hj; rw [if_pos ⟨rfl, rfl⟩, if_pos rfl]; exact h2 0
    · rw [if_neg (fun q => hj q.2), if_neg hj]
      by_cases hj2 : j < N - 1
      · rw [if_pos ⟨rfl, Nat.zero_le _, by omega⟩, if_pos hj2, Nat.sub_zero]; exact h2 _
      · rw [if_neg (fun q => hj2 (by omega)), if_neg hj2]; exact h2 j

set_option maxHeartbeats 4000000 in
theorem K_beginRoundWith {G : rn_G} {d : Nat} {κ : Nat × Nat} {Q : Option Value → rn_S → Prop} {mi : Nat → Nat → Int32} {ml : Nat → Nat → Int64} {D : Nat → Nat} {b : Nat} (hB : PB b) {N C : Nat} (hr : mi b 8 = nI N) (hN : 1 ≤ N) (hN6 : N ≤ 6) {z : Int32} (hz : z = nI C) (hC : C ≤ 6) (h : ∀ mi', (∀ a, a ≠ b → a ≠ b + 3 → mi' a = mi a) → (∀ f, mi' b f = if f = 9 then 0 else mi b f) → (∀ j, mi' (b + 3) j = rotN N C (mi (b + 3)) j) → Q none (mi', ml, RF D, 164)) : Call G (d + 1) M_X3_beginRoundWith [.ref b, .int z] (mi, ml, RF D, 164) κ Q := by
  show Run G _ M_X3_beginRoundWith 0 [.ref b, .int z, .null, .null] [] _ _ _
  refine R_iconst (v := 0) dX3_beginRoundWith_0 (by decide) ?_
  refine is_2 dX3_beginRoundWith_1 rfl ?_
  exact L_beginRoundWith hB hr hN hN6 hz hC h C 0 0 _ mi (by omega) nI_0.symm (fun _ _ => rfl) (fun _ => rfl)

set_option maxHeartbeats 4000000 in
theorem K_swapInRound {G : rn_G} {d : Nat} {κ : Nat × Nat} {Q : Option Value → rn_S → Prop} {mi : Nat → Nat → Int32} {ml : Nat → Nat → Int64} {D : Nat → Nat} {b : Nat} (hB : PB b) {x y : Int32} {i j : Nat} (hx : x = nI i) (hi : i < 6) (hy : y = nI j) (hj : j < 6) (h : Q none (rn_u (rn_u mi (b + 3) i (mi (b + 3) j)) (b + 3) j (mi (b + 3) i), ml, RF D, 164)) : Call G (d) M_X3_swapInRound [.ref b, .int x, .int y] (mi, ml, RF D, 164) κ Q := by
  show Run G _ M_X3_swapInRound 0 [.ref b, .int x, .int y, .null] [] _ _ _
  refine al_0 dX3_swapInRound_0 ?_
  refine R_getfr (r := b + 3) dX3_swapInRound_1 fl_RX3_21 rfl (pb_s0 hB) (show b < 164 by have := pb_n hB; omega) (pb_r2 hB) ?_
  refine il_1 dX3_swapInRound_4 ?_
  refine R_iald dX3_swapInRound_5 (pb_s3 hB) (show b + 3 < 164 by have := pb_n hB; omega) (rn_ixe hx) hi ?_
  refine is_3 dX3_swapInRound_6 rfl ?_
  refine al_0 dX3_swapInRound_7 ?_
  refine R_getfr (r := b + 3) dX3_swapInRound_8 fl_RX3_21 rfl (pb_s0 hB) (show b < 164 by have := pb_n hB; omega) (pb_r2 hB) ?_
  refine il_1 dX3_swapInRound_11 ?_
  refine al_0 dX3_swapInRound_12 ?_
  refine R_getfr (r := b + 3) dX3_swapInRound_13 fl_RX3_21 rfl (pb_s0 hB) (show b < 164 by have := pb_n hB; omega) (pb_r2 hB) ?_
  refine il_2 dX3_swapInRound_16 ?_
  refine R_iald dX3_swapInRound_17 (pb_s3 hB) (show b + 3 < 164 by have := pb_n hB; omega) (rn_ixe hy) hj ?_
  refine R_iast dX3_swapInRound_18 (pb_s3 hB) (show b + 3 < 164 by have := pb_n hB; omega) (rn_ixe hx) hi ?_
  refine al_0 dX3_swapInRound_19 ?_
  refine R_getfr (r := b + 3) dX3_swapInRound_20 fl_RX3_21 rfl (pb_s0 hB) (show b < 164 by have := pb_n hB; omega) (pb_r2 hB) ?_
  refine il_2 dX3_swapInRound_23 ?_
  refine il_3 dX3_swapInRound_24 ?_
  refine R_iast dX3_swapInRound_25 (pb_s3 hB) (show b + 3 < 164 by have := pb_n hB; omega) (rn_ixe hy) hj ?_
  refine R_return dX3_swapInRound_26 rfl ?_
  exact h

set_option maxHeartbeats 4000000 in
theorem K_keepOpen {G : rn_G} {d : Nat} {κ : Nat × Nat} {Q : Option Value → rn_S → Prop} {mi : Nat → Nat → Int32} {ml : Nat → Nat → Int64} {D : Nat → Nat} {b : Nat} (hB : PB b) {x : Int32} (h : Q none (rn_u (rn_u mi b 5 (clrB (mi b 5) x)) b 14 x, ml, RF D, 164)) : Call G (d + 1) M_X3_keepOpen [.ref b, .int x] (mi, ml, RF D, 164) κ Q := by
  show Run G _ M_X3_keepOpen 0 [.ref b, .int x] [] _ _ _
  refine al_0 dX3_keepOpen_0 ?_
  refine il_1 dX3_keepOpen_1 ?_
  refine R_iconst (v := 0) dX3_keepOpen_2 (by decide) ?_
  refine cv_2 dX3_keepOpen_3 mm_RX3_87 (pb_s0 hB) (show b < 164 by have := pb_n hB; omega) ⟨_, rfl, rfl⟩ (Nat.le_of_ble_eq_true rfl) (Nat.le_of_ble_eq_true rfl) (K_setShut hB ?_)
  refine al_0 dX3_keepOpen_6 ?_
  refine il_1 dX3_keepOpen_7 ?_
  refine R_putfi dX3_keepOpen_8 fl_RX3_34 rfl (Or.inl rfl) (pb_s0 hB) (show b < 164 by have := pb_n hB; omega) rfl rfl ?_
  refine R_return dX3_keepOpen_11 rfl ?_
  exact h

set_option maxHeartbeats 4000000 in
theorem L_sendOthersOut {G : rn_G} {d : Nat} {κ : Nat × Nat} {Q : Option Value → rn_S → Prop} {mi : Nat → Nat → Int32} {ml : Nat → Nat → Int64} {D : Nat → Nat} {b : Nat} (hB : PB b) {N p0 : Nat} (hp : mi b 6 = nI N) (hN : N ≤ 6) {z : Int32} (hz : z = nI p0) (hp0 : p0 < 6) (h : ∀ mi', (∀ a, (∀ j, j < N → a ≠ b + 7 + 2 * j) → mi' a = mi a) → (∀ j, j < N → ∀ f, mi' (b + 7 + 2 * j) f = if f = 5 then (if j = p0 then 0 else 1) else mi (b + 7 + 2 * j) f) → Q none (mi', ml, RF D, 164)) : ∀ (n i : Nat) (x : Int32) (m : Nat → Nat → Int32), n + i = N → x = nI i → (∀ a, (∀ j, j < i → a ≠ b + 7 + 2 * j) → m a = mi a) → (∀ j, j < i → ∀ f, m (b + 7 + 2 * j) f = if f = 5 then (if j = p0 then 0 else 1) else mi (b + 7 + 2 * j) f) → Run G d M_X3_sendOthersOut 2 [.ref b, .int z, .int x] [] (m, ml, RF D, 164) κ Q := by
  intro n
  induction n with
  | zero =>
    intro i x m hni hx h1 h2
    have eb : m b = mi b := h1 b (fun j hj => by omega)
    obtain rfl : i = N := by omega
    refine il_2 dX3_sendOthersOut_2 ?_
    refine al_0 dX3_sendOthersOut_3 ?_
    refine R_getfi dX3_sendOthersOut_4 fl_RX3_45 rfl (pb_s0 hB) (show b < 164 by have := pb_n hB; omega) ?_
    refine R_icmp_ge (tgt := 35) dX3_sendOthersOut_7 (by decide) (fun c7 => ?_) (fun q => absurd q (not_not_intro (by rw [eb, hp, hx]; exact nI_le (by omega) (by omega))))
    refine R_return dX3_sendOthersOut_35 rfl ?_
    exact h m h1 h2
  | succ n ih =>
    intro i x m hni hx h1 h2
    have hi : i < 6 := by omega
    have eb : m b = mi b := h1 b (fun j hj => by omega)
    have hix : rn_ix x i := rn_ixe hx
    refine il_2 dX3_sendOthersOut_2 ?_
    refine al_0 dX3_sendOthersOut_3 ?_
    refine R_getfi dX3_sendOthersOut_4 fl_RX3_45 rfl (pb_s0 hB) (show b < 164 by have := pb_n hB; omega) ?_
    refine R_icmp_ge (tgt := 35) dX3_sendOthersOut_7 (by decide) (fun q => absurd q (by rw [eb, hp, hx]; exact nI_ge (by omega) (by omega))) (fun c7 => ?_)
    refine al_0 dX3_sendOthersOut_10 ?_
    refine R_getfr (r := b + 2) dX3_sendOthersOut_11 fl_RX3_17 rfl (pb_s0 hB) (show b < 164 by have := pb_n hB; omega) (pb_r1 hB) ?_
    refine il_2 dX3_sendOthersOut_14 ?_
    refine R_aald (t := 4) (r := (b + 7 + 2 * i)) dX3_sendOthersOut_15 (by decide) (pb_s2 hB) (show b + 2 < 164 by have := pb_n hB; omega) hix hi (pb_rq hB hi) ?_
    refine il_2 dX3_sendOthersOut_16 ?_
    refine il_1 dX3_sendOthersOut_17 ?_
    refine R_icmp_eq (tgt := 25) dX3_sendOthersOut_18 (by decide) (fun c18 => ?_) (fun c18 => ?_)
    · refine R_iconst (v := 0) dX3_sendOthersOut_25 (by decide) ?_
      refine R_putfi dX3_sendOthersOut_26 fl_RX3_83 rfl (Or.inl rfl) (pq_s0 (pb_q hB hi)) (show (b + 7 + 2 * i) < 164 by have := pq_n (pb_q hB hi); omega) rfl rfl ?_
      refine ii_2 (v := _ + 1) dX3_sendOthersOut_29 rfl (by rfl) ?_
      refine R_goto (tgt := 2) dX3_sendOthersOut_32 (by decide) ?_
      refine ih (i + 1) _ _ (by omega) (by rw [hx]; exact sm_add i 1) (fun a ha => by rw [rn_u_ne (ha i (by omega))]; exact h1 a (fun j hj => ha j (by omega))) (fun j hj f => ?_)
      by_cases hji : j = i
      · subst hji
        simp only [rn_u, true_and]
        rw [h1 _ (fun u hu => by omega)]
        first | rw [if_pos (show j = p0 from sm_inj (by omega) (by omega) (by rw [← hx, ← hz]; exact c18))] | rw [if_neg (show ¬ j = p0 from fun q => c18 (by rw [hx, hz, q]))]
      · rw [rn_u_ne (by omega)]
        exact h2 j (by omega) f
    · refine R_iconst (v := 1) dX3_sendOthersOut_21 (by decide) ?_
      refine R_goto (tgt := 26) dX3_sendOthersOut_22 (by decide) ?_
      refine R_putfi dX3_sendOthersOut_26 fl_RX3_83 rfl (Or.inl rfl) (pq_s0 (pb_q hB hi)) (show (b + 7 + 2 * i) < 164 by have := pq_n (pb_q hB hi); omega) rfl rfl ?_
      refine ii_2 (v := _ + 1) dX3_sendOthersOut_29 rfl (by rfl) ?_
      refine R_goto (tgt := 2) dX3_sendOthersOut_32 (by decide) ?_
      refine ih (i + 1) _ _ (by omega) (by rw [hx]; exact sm_add i 1) (fun a ha => by rw [rn_u_ne (ha i (by omega))]; exact h1 a (fun j hj => ha j (by omega))) (fun j hj f => ?_)
      by_cases hji : j = i
      · subst hji
        simp only [rn_u, true_and]
        rw [h1 _ (fun u hu => by omega)]
        first | rw [if_pos (show j = p0 from sm_inj (by omega) (by omega) (by rw [← hx, ← hz]; exact c18))] | rw [if_neg (show ¬ j = p0 from fun q => c18 (by rw [hx, hz, q]))]
      · rw [rn_u_ne (by omega)]
        exact h2 j (by omega) f

set_option maxHeartbeats 4000000 in
theorem K_sendOthersOut {G : rn_G} {d : Nat} {κ : Nat × Nat} {Q : Option Value → rn_S → Prop} {mi : Nat → Nat → Int32} {ml : Nat → Nat → Int64} {D : Nat → Nat} {b : Nat} (hB : PB b) {N p0 : Nat} (hp : mi b 6 = nI N) (hN : N ≤ 6) {z : Int32} (hz : z = nI p0) (hp0 : p0 < 6) (h : ∀ mi', (∀ a, (∀ j, j < N → a ≠ b + 7 + 2 * j) → mi' a = mi a) → (∀ j, j < N → ∀ f, mi' (b + 7 + 2 * j) f = if f = 5 then (if j = p0 then 0 else 1) else mi (b + 7 + 2 * j) f) → Q none (mi', ml, RF D, 164)) : Call G (d) M_X3_sendOthersOut [.ref b, .int z] (mi, ml, RF D, 164) κ Q := by
  show Run G _ M_X3_sendOthersOut 0 [.ref b, .int z, .null] [] _ _ _
  refine R_iconst (v := 0) dX3_sendOthersOut_0 (by decide) ?_
  refine is_2 dX3_sendOthersOut_1 rfl ?_
  exact L_sendOthersOut hB hp hN hz hp0 h N 0 0 mi (by omega) nI_0.symm (fun _ _ => rfl) (fun j hj => absurd hj (Nat.not_lt_zero j))
