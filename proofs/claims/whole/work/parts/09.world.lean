/-! worlds: what is read off a park; a minute of a world; minutes -/
def wC (mi : Nat → Nat → Int32) (k b : Nat) : WD := (sC mi k b, fun j => if j < nn (mi b 4) then mi (b + 1) j else 0, fun j => if j < nn (mi b 8) then mi (b + 3) j else 0, fun i => if i < nn (mi b 6) then pC mi (b + 7 + 2 * i) else fun _ => 0)
noncomputable def minuteW (er : (Nat → Int32) → Int32) (w : WD) : WD := (fun j => if j = 6 then w.1 6 + 1 else roundF w.1 w.2.1 w.2.2.1 j, w.2.1, w.2.2.1, fun i => if i < nn (w.1 2) then pstepF er w.1 w.2.1 (w.2.2.2 i) i else fun _ => 0)
noncomputable def minsW (er : (Nat → Int32) → Int32) : Nat → WD → WD
  | 0, w => w
  | n + 1, w => minsW er n (minuteW er w)
theorem minsW_succ (er : (Nat → Int32) → Int32) : ∀ (n : Nat) (w : WD), minsW er (n + 1) w = minuteW er (minsW er n w)
  | 0, _ => rfl
  | n + 1, w => by
    show minsW er (n + 1) (minuteW er w) = _
    rw [minsW_succ er n]
    rfl
/-- what keeps a world's indices in their bounds -/
def WI (T : Nat) (w : WD) : Prop := (∃ N, N ≤ 6 ∧ w.1 0 = nI N ∧ (∀ j, j < nn (w.1 4) → ∃ g, g < N ∧ w.2.2.1 j = nI g)) ∧ (∃ N, N ≤ 6 ∧ w.1 2 = nI N) ∧ (∃ N A, N ≤ 6 ∧ w.1 4 = nI N ∧ A ≤ N ∧ w.1 5 = nI A) ∧ (∃ m, m ≤ T ∧ w.1 6 = nI m)
theorem goalF_congr {fl kp pl fo : Int32} {gp gp' : Nat → Int32} : ∀ (n g : Nat) (x y : Int32), (∀ j, g ≤ j → j < g + n → gp j = gp' j) → goalF fl kp pl fo gp n g x y = goalF fl kp pl fo gp' n g x y
  | 0, _, _, _, _ => rfl
  | n + 1, g, x, y, h => by
    unfold goalF
    rw [h g (Nat.le_refl _) (by omega)]
    have ih : ∀ a b, goalF fl kp pl fo gp n (g + 1) a b = goalF fl kp pl fo gp' n (g + 1) a b := fun a b => goalF_congr n (g + 1) a b (fun j h1 h2 => h j (by omega) (by omega))
    simp only [ih]
theorem walkF_congr {s gp gp' P : Nat → Int32} {N : Nat} (hs : s 0 = nI N) (hN : N ≤ 6) (h : ∀ j, j < N → gp j = gp' j) : walkF s gp P = walkF s gp' P := by
  have hg : goalS s gp P = goalS s gp' P := by
    unfold goalS
    refine goalF_congr _ _ _ _ (fun j _ h2 => h j ?_)
    rw [hs, show nn (nI N) = N from nI_clamp (by omega)] at h2
    omega
  funext f
  unfold walkF
  rw [hg]
  by_cases hc : 0 ≤ goalS s gp' P ∧ goalS s gp' P < s 0
  · have hlt : nn (goalS s gp' P) < N := clamp_lt (Int32.not_lt.mpr hc.1) (by rw [← hs]; exact hc.2) (by omega)
    rw [if_pos hc, if_pos hc, h _ hlt]
  · rw [if_neg hc, if_neg hc]
theorem pstepF_congr {er : (Nat → Int32) → Int32} {s gp gp' P : Nat → Int32} {i N : Nat} (hs : s 0 = nI N) (hN : N ≤ 6) (h : ∀ j, j < N → gp j = gp' j) : pstepF er s gp P i = pstepF er s gp' P i := by
  unfold pstepF
  rw [walkF_congr hs hN h]
theorem pstepF_pos {er : (Nat → Int32) → Int32} {s gp P : Nat → Int32} {i : Nat} (h : P 5 = 0 ∧ (¬ P 4 = 0 ∨ hearsS er s P i)) : pstepF er s gp P i = walkF s gp P := by
  unfold pstepF
  exact if_pos h
theorem pstepF_neg {er : (Nat → Int32) → Int32} {s gp P : Nat → Int32} {i : Nat} (h : ¬ (P 5 = 0 ∧ (¬ P 4 = 0 ∨ hearsS er s P i))) : pstepF er s gp P i = P := by
  unfold pstepF
  exact if_neg h
theorem roundF_congr {s gp gp' rd rd' : Nat → Int32} (h1 : s 5 < s 4 → rd (nn (s 5)) = rd' (nn (s 5))) (h2 : s 5 < s 4 → gp (nn (rd' (nn (s 5)))) = gp' (nn (rd' (nn (s 5))))) : roundF s gp rd = roundF s gp' rd' := by
  funext j
  unfold roundF
  by_cases h8 : 0 < s 8
  · rw [if_pos h8, if_pos h8]
  · rw [if_neg h8, if_neg h8]
    by_cases h5 : s 5 < s 4
    · rw [if_pos h5, if_pos h5, h1 h5, h2 h5]
    · rw [if_neg h5, if_neg h5]
theorem roundF_keep {s gp rd : Nat → Int32} {j : Nat} (h1 : j ≠ 1) (h3 : j ≠ 3) (h5 : j ≠ 5) (h8 : j ≠ 8) : roundF s gp rd j = s j := by
  unfold roundF
  simp only [if_neg h1, if_neg h3, if_neg h5, if_neg h8, ite_self]
theorem roundF_5 {s gp rd : Nat → Int32} : roundF s gp rd 5 = s 5 ∨ (s 5 < s 4 ∧ roundF s gp rd 5 = s 5 + 1) := by
  unfold roundF
  by_cases h8 : 0 < s 8
  · rw [if_pos h8]; exact Or.inl rfl
  · rw [if_neg h8]
    by_cases h5 : s 5 < s 4
    · rw [if_pos h5]
      split
      · exact Or.inr ⟨h5, rfl⟩
      · exact Or.inl rfl
    · rw [if_neg h5]; exact Or.inl rfl
theorem WI.minute {T : Nat} {w : WD} {er : (Nat → Int32) → Int32} (h : WI T w) (hT : T < 2 ^ 30) : WI (T + 1) (minuteW er w) := by
  obtain ⟨⟨N, hN, h0, hr⟩, ⟨NP, hNP, h2⟩, ⟨NR, NA, hNR, h4, hNA, h5⟩, ⟨m, hm, h6⟩⟩ := h
  have e : ∀ j, j ≠ 6 → (minuteW er w).1 j = roundF w.1 w.2.1 w.2.2.1 j := fun j hj => if_neg hj
  have e0 : (minuteW er w).1 0 = w.1 0 := (e 0 (by decide)).trans (roundF_keep (by decide) (by decide) (by decide) (by decide))
  have e2 : (minuteW er w).1 2 = w.1 2 := (e 2 (by decide)).trans (roundF_keep (by decide) (by decide) (by decide) (by decide))
  have e4 : (minuteW er w).1 4 = w.1 4 := (e 4 (by decide)).trans (roundF_keep (by decide) (by decide) (by decide) (by decide))
  have e5 := e 5 (by decide)
  refine ⟨⟨N, hN, e0.trans h0, fun j hj => hr j (by rw [← e4]; exact hj)⟩, ⟨NP, hNP, e2.trans h2⟩, ?_, ⟨m + 1, by omega, ?_⟩⟩
  · rcases roundF_5 (s := w.1) (gp := w.2.1) (rd := w.2.2.1) with q | ⟨q1, q2⟩
    · exact ⟨NR, NA, hNR, e4.trans h4, hNA, (e5.trans q).trans h5⟩
    · rw [h5, h4, sm_lt_iff (by omega) (by omega)] at q1
      exact ⟨NR, NA + 1, hNR, e4.trans h4, q1, (e5.trans q2).trans (by rw [h5]; exact (sm_add NA 1))⟩
  · show (if (6 : Nat) = 6 then w.1 6 + 1 else roundF w.1 w.2.1 w.2.2.1 6) = _
    rw [if_pos rfl, h6]
    exact sm_add m 1
theorem sC_ext {mi mi' : Nat → Nat → Int32} {k b : Nat} (hb : mi' b = mi b) (hk : mi' k = mi k) : sC mi' k b = sC mi k b := by
  funext j
  unfold sC
  rw [hb, hk]
theorem pC_ext {mi mi' : Nat → Nat → Int32} {q : Nat} (h1 : ∀ f, f < 6 → mi' q f = mi q f) (h2 : mi' (q + 1) = mi (q + 1)) : pC mi' q = pC mi q := by
  funext f
  unfold pC
  by_cases hf : f < 6
  · rw [if_pos hf, if_pos hf, h1 f hf]
  · rw [if_neg hf, if_neg hf, h2]

set_option maxHeartbeats 4000000 in
theorem L_passMinute {G : rn_G} {d : Nat} {κ : Nat × Nat} {Q : Option Value → rn_S → Prop} {mi : Nat → Nat → Int32} {ml : Nat → Nat → Int64} {D : Nat → Nat} {b : Nat} (hB : PB b) {N NG : Nat} (hk : PD (D b)) (hdk : DKI mi (D b)) (hg : mi b 4 = nI NG) (hNG : NG ≤ 6) (hp : mi b 6 = nI N) (hN : N ≤ 6) (hm : ∃ m, mi b 10 = nI m ∧ m < 2 ^ 31) (h : ∀ m x v2, (∀ a, a ≠ b + 4 → (∀ j, j < N → a ≠ b + 7 + 2 * j) → m a = mi a) → (∀ j, j < N → ∀ f, f < 6 → m (b + 7 + 2 * j) f = pstepF (erD mi (D b)) (sC mi (D b) b) (mi (b + 1)) (pC mi (b + 7 + 2 * j)) j f) → Run G (d + 4) M_X3_passMinute 50 [.ref b, .int x, v2] [] (m, ml, RF D, 164) κ Q) : ∀ (n i : Nat) (m : Nat → Nat → Int32) (x : Int32) (v2 : Value), n + i = N → x = nI i → (∀ a, a ≠ b + 4 → (∀ j, j < i → a ≠ b + 7 + 2 * j) → m a = mi a) → (∀ j, j < i → ∀ f, f < 6 → m (b + 7 + 2 * j) f = pstepF (erD mi (D b)) (sC mi (D b) b) (mi (b + 1)) (pC mi (b + 7 + 2 * j)) j f) → Run G (d + 4) M_X3_passMinute 2 [.ref b, .int x, v2] [] (m, ml, RF D, 164) κ Q := by
  have hkb : D b ≠ b + 4 ∧ D b + 1 ≠ b + 4 := pd_ne hk hB
  have hkq : ∀ j, j < 6 → D b ≠ b + 7 + 2 * j ∧ D b + 1 ≠ b + 7 + 2 * j := by intro j hj; unfold PD at hk; unfold PB at hB; omega
  intro n
  induction n with
  | zero =>
    intro i m x v2 hni hx h1 h2
    have eb : m b = mi b := h1 b (by omega) (fun j hj => by omega)
    obtain rfl : i = N := by omega
    refine il_1 dX3_passMinute_2 ?_
    refine al_0 dX3_passMinute_3 ?_
    refine R_getfi dX3_passMinute_4 fl_RX3_45 rfl (pb_s0 hB) (show b < 164 by have := pb_n hB; omega) ?_
    refine R_icmp_ge (tgt := 50) dX3_passMinute_7 (by decide) (fun c7 => ?_) (fun q => absurd q (not_not_intro (by rw [eb, hp, hx]; exact nI_le (by omega) (by omega))))
    exact h m x v2 h1 h2
  | succ n ih =>
    intro i m x v2 hni hx h1 h2
    have hi : i < 6 := by omega
    have hiN : i < N := by omega
    have hix : rn_ix x i := by rw [hx]; exact rn_ix_nI (by omega)
    have eb : m b = mi b := h1 b (by omega) (fun j hj => by omega)
    have eb1 : m (b + 1) = mi (b + 1) := h1 (b + 1) (by omega) (fun j hj => by omega)
    have ek : m (D b) = mi (D b) := h1 _ hkb.1 (fun j hj => (hkq j (by omega)).1)
    have ek1 : m (D b + 1) = mi (D b + 1) := h1 _ hkb.2 (fun j hj => (hkq j (by omega)).2)
    have eq : m (b + 7 + 2 * i) = mi (b + 7 + 2 * i) := h1 _ (by omega) (fun j hj => by omega)
    have eq1 : m (b + 7 + 2 * i + 1) = mi (b + 7 + 2 * i + 1) := h1 _ (by omega) (fun j hj => by omega)
    have hdk2 : DKI m (D b) := by obtain ⟨S, a1, a2⟩ := hdk; exact ⟨S, a1, by rw [ek]; exact a2⟩
    have eer : erD m (D b) = erD mi (D b) := by funext F; unfold erD; rw [ek, ek1]
    have eP : ∀ f, f < 6 → pC mi (b + 7 + 2 * i) f = m (b + 7 + 2 * i) f := fun f hf => by unfold pC; rw [if_pos hf, eq]
    have hhs : ∀ c : Prop, (hearsS (erD mi (D b)) (sC mi (D b) b) (pC mi (b + 7 + 2 * i)) i ↔ wayC (m (b + 7 + 2 * i) 2) (m b 7) ≤ m (D b) 2 + erD m (D b) (factF x (m (b + 7 + 2 * i) 0) (m (b + 7 + 2 * i) 1) (m (b + 7 + 2 * i) 2) (m (b + 7 + 2 * i) 3) (m b 10))) := fun _ => by unfold hearsS; rw [eer, hx, eb, ek, eP 0 (by decide), eP 1 (by decide), eP 2 (by decide), eP 3 (by decide)]; exact Iff.rfl
    have skip : ∀ m' : Nat → Nat → Int32, (∀ a, a ≠ b + 4 → m' a = m a) → ¬ (pC mi (b + 7 + 2 * i) 5 = 0 ∧ (¬ pC mi (b + 7 + 2 * i) 4 = 0 ∨ hearsS (erD mi (D b)) (sC mi (D b) b) (pC mi (b + 7 + 2 * i)) i)) → (∀ a, a ≠ b + 4 → (∀ j, j < i + 1 → a ≠ b + 7 + 2 * j) → m' a = mi a) ∧ (∀ j, j < i + 1 → ∀ f, f < 6 → m' (b + 7 + 2 * j) f = pstepF (erD mi (D b)) (sC mi (D b) b) (mi (b + 1)) (pC mi (b + 7 + 2 * j)) j f) := by
      intro m' hm' hc
      refine ⟨fun a a1 a2 => (hm' a a1).trans (h1 a a1 (fun j hj => a2 j (by omega))), fun j hj f hf => ?_⟩
      rw [hm' _ (by omega)]
      by_cases hji : j = i
      · subst hji
        rw [pstepF_neg hc, eP f hf]
      · exact h2 j (by omega) f hf
    have take : ∀ m' m4 : Nat → Nat → Int32, (∀ a, a ≠ b + 4 → m' a = m a) → (∀ a, a ≠ b + 7 + 2 * i → m4 a = m' a) → (∀ f, f < 6 → m4 (b + 7 + 2 * i) f = walkF (sC m' (D b) b) (m' (b + 1)) (pC m' (b + 7 + 2 * i)) f) → (pC mi (b + 7 + 2 * i) 5 = 0 ∧ (¬ pC mi (b + 7 + 2 * i) 4 = 0 ∨ hearsS (erD mi (D b)) (sC mi (D b) b) (pC mi (b + 7 + 2 * i)) i)) → (∀ a, a ≠ b + 4 → (∀ j, j < i + 1 → a ≠ b + 7 + 2 * j) → m4 a = mi a) ∧ (∀ j, j < i + 1 → ∀ f, f < 6 → m4 (b + 7 + 2 * j) f = pstepF (erD mi (D b)) (sC mi (D b) b) (mi (b + 1)) (pC mi (b + 7 + 2 * j)) j f) := by
      intro m' m4 hm' w1 w2 hc
      refine ⟨fun a a1 a2 => (w1 a (a2 i (by omega))).trans ((hm' a a1).trans (h1 a a1 (fun j hj => a2 j (by omega)))), fun j hj f hf => ?_⟩
      by_cases hji : j = i
      · subst hji
        rw [pstepF_pos hc, w2 f hf, sC_ext ((hm' b (by omega)).trans eb) ((hm' _ hkb.1).trans ek), hm' (b + 1) (by omega), eb1, pC_ext (fun f _ => by rw [hm' _ (by omega), eq]) ((hm' _ (by omega)).trans eq1)]
      · rw [w1 _ (by omega), hm' _ (by omega)]
        exact h2 j (by omega) f hf
    refine il_1 dX3_passMinute_2 ?_
    refine al_0 dX3_passMinute_3 ?_
    refine R_getfi dX3_passMinute_4 fl_RX3_45 rfl (pb_s0 hB) (show b < 164 by have := pb_n hB; omega) ?_
    refine R_icmp_ge (tgt := 50) dX3_passMinute_7 (by decide) (fun q => absurd q (by rw [eb, hp, hx]; exact nI_ge (by omega) (by omega))) (fun c7 => ?_)
    refine al_0 dX3_passMinute_10 ?_
    refine R_getfr (r := b + 2) dX3_passMinute_11 fl_RX3_17 rfl (pb_s0 hB) (show b < 164 by have := pb_n hB; omega) (pb_r1 hB) ?_
    refine il_1 dX3_passMinute_14 ?_
    refine R_aald (t := 4) (r := (b + 7 + 2 * i)) dX3_passMinute_15 (by decide) (pb_s2 hB) (show b + 2 < 164 by have := pb_n hB; omega) hix hi (pb_rq hB hi) ?_
    refine as_2 dX3_passMinute_16 rfl ?_
    refine al_2 dX3_passMinute_17 ?_
    refine R_getfi dX3_passMinute_18 fl_RX3_83 rfl (pq_s0 (pb_q hB hi)) (show (b + 7 + 2 * i) < 164 by have := pq_n (pb_q hB hi); omega) ?_
    refine R_if_ne (tgt := 44) dX3_passMinute_21 (by decide) (fun c21 => ?_) (fun c21 => ?_)
    · refine ii_1 (v := _ + 1) dX3_passMinute_44 rfl (by rfl) ?_
      refine R_goto (tgt := 2) dX3_passMinute_47 (by decide) ?_
      first
        | exact ih (i + 1) _ _ _ (by omega) (by rw [hx]; exact sm_add i 1) (skip m (fun _ _ => rfl) (fun z => c21 ((eP 5 (by decide)).symm.trans z.1))).1 (skip m (fun _ _ => rfl) (fun z => c21 ((eP 5 (by decide)).symm.trans z.1))).2
        | exact ih (i + 1) _ _ _ (by omega) (by rw [hx]; exact sm_add i 1) (take m m4 (fun _ _ => rfl) w1 w2 ⟨(eP 5 (by decide)).trans c21, Or.inl (by rw [eP 4 (by decide)]; exact c28)⟩).1 (take m m4 (fun _ _ => rfl) w1 w2 ⟨(eP 5 (by decide)).trans c21, Or.inl (by rw [eP 4 (by decide)]; exact c28)⟩).2
        | exact ih (i + 1) _ _ _ (by omega) (by rw [hx]; exact sm_add i 1) (take m3 m4 hA w1 w2 ⟨(eP 5 (by decide)).trans c21, Or.inr ((hhs True).mpr c33)⟩).1 (take m3 m4 hA w1 w2 ⟨(eP 5 (by decide)).trans c21, Or.inr ((hhs True).mpr c33)⟩).2
        | exact ih (i + 1) _ _ _ (by omega) (by rw [hx]; exact sm_add i 1) (skip m3 hA (fun z => z.2.elim (fun y => y ((eP 4 (by decide)).trans c28)) (fun y => c33 ((hhs True).mp y)))).1 (skip m3 hA (fun z => z.2.elim (fun y => y ((eP 4 (by decide)).trans c28)) (fun y => c33 ((hhs True).mp y)))).2
    · refine al_2 dX3_passMinute_24 ?_
      refine R_getfi dX3_passMinute_25 fl_RX3_107 rfl (pq_s0 (pb_q hB hi)) (show (b + 7 + 2 * i) < 164 by have := pq_n (pb_q hB hi); omega) ?_
      refine R_if_ne (tgt := 39) dX3_passMinute_28 (by decide) (fun c28 => ?_) (fun c28 => ?_)
      · refine al_0 dX3_passMinute_39 ?_
        refine al_2 dX3_passMinute_40 ?_
        refine cv_1 dX3_passMinute_41 mm_RX3_114 (pb_s0 hB) (show b < 164 by have := pb_n hB; omega) ⟨_, rfl, rfl⟩ (Nat.le_of_ble_eq_true rfl) (Nat.le_of_ble_eq_true rfl) (K_walk (k := D b) hB (pb_q hB hi) (by first | (rw [hA b (by omega), eb]; exact hg) | (rw [eb]; exact hg)) hNG (by first | (rw [hA b (by omega), eb]; exact hm) | (rw [eb]; exact hm)) (fun m4 w1 w2 => ?_))
        refine ii_1 (v := _ + 1) dX3_passMinute_44 rfl (by rfl) ?_
        refine R_goto (tgt := 2) dX3_passMinute_47 (by decide) ?_
        first
          | exact ih (i + 1) _ _ _ (by omega) (by rw [hx]; exact sm_add i 1) (skip m (fun _ _ => rfl) (fun z => c21 ((eP 5 (by decide)).symm.trans z.1))).1 (skip m (fun _ _ => rfl) (fun z => c21 ((eP 5 (by decide)).symm.trans z.1))).2
          | exact ih (i + 1) _ _ _ (by omega) (by rw [hx]; exact sm_add i 1) (take m m4 (fun _ _ => rfl) w1 w2 ⟨(eP 5 (by decide)).trans c21, Or.inl (by rw [eP 4 (by decide)]; exact c28)⟩).1 (take m m4 (fun _ _ => rfl) w1 w2 ⟨(eP 5 (by decide)).trans c21, Or.inl (by rw [eP 4 (by decide)]; exact c28)⟩).2
          | exact ih (i + 1) _ _ _ (by omega) (by rw [hx]; exact sm_add i 1) (take m3 m4 hA w1 w2 ⟨(eP 5 (by decide)).trans c21, Or.inr ((hhs True).mpr c33)⟩).1 (take m3 m4 hA w1 w2 ⟨(eP 5 (by decide)).trans c21, Or.inr ((hhs True).mpr c33)⟩).2
          | exact ih (i + 1) _ _ _ (by omega) (by rw [hx]; exact sm_add i 1) (skip m3 hA (fun z => z.2.elim (fun y => y ((eP 4 (by decide)).trans c28)) (fun y => c33 ((hhs True).mp y)))).1 (skip m3 hA (fun z => z.2.elim (fun y => y ((eP 4 (by decide)).trans c28)) (fun y => c33 ((hhs True).mp y)))).2
      · refine al_0 dX3_passMinute_31 ?_
        refine il_1 dX3_passMinute_32 ?_
        refine cv_1 dX3_passMinute_33 mm_RX3_110 (pb_s0 hB) (show b < 164 by have := pb_n hB; omega) ⟨_, rfl, rfl⟩ (Nat.le_of_ble_eq_true rfl) (Nat.le_of_ble_eq_true rfl) (K_hears hB hi hx hk hdk2 (fun m3 hA c33 => ?_) (fun m3 hA c33 => ?_))
        · refine R_if_eq (tgt := 44) dX3_passMinute_36 (by decide) (fun q => absurd q (by decide)) (fun _ => ?_)
          refine al_0 dX3_passMinute_39 ?_
          refine al_2 dX3_passMinute_40 ?_
          refine cv_1 dX3_passMinute_41 mm_RX3_114 (pb_s0 hB) (show b < 164 by have := pb_n hB; omega) ⟨_, rfl, rfl⟩ (Nat.le_of_ble_eq_true rfl) (Nat.le_of_ble_eq_true rfl) (K_walk (k := D b) hB (pb_q hB hi) (by first | (rw [hA b (by omega), eb]; exact hg) | (rw [eb]; exact hg)) hNG (by first | (rw [hA b (by omega), eb]; exact hm) | (rw [eb]; exact hm)) (fun m4 w1 w2 => ?_))
          refine ii_1 (v := _ + 1) dX3_passMinute_44 rfl (by rfl) ?_
          refine R_goto (tgt := 2) dX3_passMinute_47 (by decide) ?_
          first
            | exact ih (i + 1) _ _ _ (by omega) (by rw [hx]; exact sm_add i 1) (skip m (fun _ _ => rfl) (fun z => c21 ((eP 5 (by decide)).symm.trans z.1))).1 (skip m (fun _ _ => rfl) (fun z => c21 ((eP 5 (by decide)).symm.trans z.1))).2
            | exact ih (i + 1) _ _ _ (by omega) (by rw [hx]; exact sm_add i 1) (take m m4 (fun _ _ => rfl) w1 w2 ⟨(eP 5 (by decide)).trans c21, Or.inl (by rw [eP 4 (by decide)]; exact c28)⟩).1 (take m m4 (fun _ _ => rfl) w1 w2 ⟨(eP 5 (by decide)).trans c21, Or.inl (by rw [eP 4 (by decide)]; exact c28)⟩).2
            | exact ih (i + 1) _ _ _ (by omega) (by rw [hx]; exact sm_add i 1) (take m3 m4 hA w1 w2 ⟨(eP 5 (by decide)).trans c21, Or.inr ((hhs True).mpr c33)⟩).1 (take m3 m4 hA w1 w2 ⟨(eP 5 (by decide)).trans c21, Or.inr ((hhs True).mpr c33)⟩).2
            | exact ih (i + 1) _ _ _ (by omega) (by rw [hx]; exact sm_add i 1) (skip m3 hA (fun z => z.2.elim (fun y => y ((eP 4 (by decide)).trans c28)) (fun y => c33 ((hhs True).mp y)))).1 (skip m3 hA (fun z => z.2.elim (fun y => y ((eP 4 (by decide)).trans c28)) (fun y => c33 ((hhs True).mp y)))).2
        · refine R_if_eq (tgt := 44) dX3_passMinute_36 (by decide) (fun _ => ?_) (fun q => absurd q (by decide))
          refine ii_1 (v := _ + 1) dX3_passMinute_44 rfl (by rfl) ?_
          refine R_goto (tgt := 2) dX3_passMinute_47 (by decide) ?_
          first
            | exact ih (i + 1) _ _ _ (by omega) (by rw [hx]; exact sm_add i 1) (skip m (fun _ _ => rfl) (fun z => c21 ((eP 5 (by decide)).symm.trans z.1))).1 (skip m (fun _ _ => rfl) (fun z => c21 ((eP 5 (by decide)).symm.trans z.1))).2
            | exact ih (i + 1) _ _ _ (by omega) (by rw [hx]; exact sm_add i 1) (take m m4 (fun _ _ => rfl) w1 w2 ⟨(eP 5 (by decide)).trans c21, Or.inl (by rw [eP 4 (by decide)]; exact c28)⟩).1 (take m m4 (fun _ _ => rfl) w1 w2 ⟨(eP 5 (by decide)).trans c21, Or.inl (by rw [eP 4 (by decide)]; exact c28)⟩).2
            | exact ih (i + 1) _ _ _ (by omega) (by rw [hx]; exact sm_add i 1) (take m3 m4 hA w1 w2 ⟨(eP 5 (by decide)).trans c21, Or.inr ((hhs True).mpr c33)⟩).1 (take m3 m4 hA w1 w2 ⟨(eP 5 (by decide)).trans c21, Or.inr ((hhs True).mpr c33)⟩).2
            | exact ih (i + 1) _ _ _ (by omega) (by rw [hx]; exact sm_add i 1) (skip m3 hA (fun z => z.2.elim (fun y => y ((eP 4 (by decide)).trans c28)) (fun y => c33 ((hhs True).mp y)))).1 (skip m3 hA (fun z => z.2.elim (fun y => y ((eP 4 (by decide)).trans c28)) (fun y => c33 ((hhs True).mp y)))).2

theorem walkF_row {s gp P : Nat → Int32} {f : Nat} (hf : 6 ≤ f) : walkF s gp P f = P f := by
  unfold walkF
  simp only [if_neg (show ¬ f = 2 by omega), if_neg (show ¬ f = 3 by omega), if_neg (show ¬ f = 4 by omega), if_neg (show ¬ f = 5 by omega), ite_self]
theorem pstepF_row {er : (Nat → Int32) → Int32} {s gp P : Nat → Int32} {i f : Nat} (hf : 6 ≤ f) : pstepF er s gp P i f = P f := by
  by_cases h : P 5 = 0 ∧ (¬ P 4 = 0 ∨ hearsS er s P i)
  · rw [pstepF_pos h, walkF_row hf]
  · rw [pstepF_neg h]
set_option maxHeartbeats 4000000 in
theorem minute_fin {mi m m5 : Nat → Nat → Int32} {D : Nat → Nat} {b NG N NR NA : Nat} (hB : PB b) (hk : PD (D b)) (hg : mi b 4 = nI NG) (hNG : NG ≤ 6) (hp : mi b 6 = nI N) (hN : N ≤ 6) (h4 : mi b 8 = nI NR) (hNR : NR ≤ 6) (h5 : mi b 9 = nI NA) (hNA : NA ≤ NR) (hr : ∀ j, j < NR → ∃ g, g < NG ∧ mi (b + 3) j = nI g)
    (h1 : ∀ a, a ≠ b + 4 → (∀ j, j < N → a ≠ b + 7 + 2 * j) → m a = mi a) (h2 : ∀ j, j < N → ∀ f, f < 6 → m (b + 7 + 2 * j) f = pstepF (erD mi (D b)) (sC mi (D b) b) (mi (b + 1)) (pC mi (b + 7 + 2 * j)) j f)
    (r1 : ∀ a, a ≠ b → m5 a = m a) (r2 : ∀ f, f ≠ 5 → f ≠ 7 → f ≠ 9 → f ≠ 13 → m5 b f = m b f) (r3 : ∀ j, sC m5 (D b) b j = roundF (sC m (D b) b) (m (b + 1)) (m (b + 3)) j) :
    wC (rn_u m5 b 10 (m5 b 10 + 1)) (D b) b = minuteW (erD mi (D b)) (wC mi (D b) b) := by
  have hkb : D b ≠ b + 4 ∧ D b + 1 ≠ b + 4 := pd_ne hk hB
  have hkb0 : D b ≠ b := by unfold PD at hk; unfold PB at hB; omega
  have hkq : ∀ j, j < 6 → D b ≠ b + 7 + 2 * j := by intro j hj; unfold PD at hk; unfold PB at hB; omega
  have eb : m b = mi b := h1 b (by omega) (fun j hj => by omega)
  have eb1 : m (b + 1) = mi (b + 1) := h1 _ (by omega) (fun j hj => by omega)
  have eb3 : m (b + 3) = mi (b + 3) := h1 _ (by omega) (fun j hj => by omega)
  have ek : m (D b) = mi (D b) := h1 _ hkb.1 (fun j hj => hkq j (by omega))
  have es : sC m (D b) b = sC mi (D b) b := sC_ext eb ek
  obtain ⟨M6, hM6⟩ : ∃ z, z = rn_u m5 b 10 (m5 b 10 + 1) := ⟨_, rfl⟩
  rw [← hM6]
  have f0 : ∀ a, a ≠ b → M6 a = m a := fun a ha => by rw [hM6, rn_u_ne ha, r1 a ha]
  have fb : ∀ f, f ≠ 10 → M6 b f = m5 b f := fun f hf => by rw [hM6]; simp [rn_u, hf]
  have f4 : M6 b 4 = mi b 4 := by rw [fb 4 (by decide), r2 4 (by decide) (by decide) (by decide) (by decide), eb]
  have f6 : M6 b 6 = mi b 6 := by rw [fb 6 (by decide), r2 6 (by decide) (by decide) (by decide) (by decide), eb]
  have f8 : M6 b 8 = mi b 8 := by rw [fb 8 (by decide), r2 8 (by decide) (by decide) (by decide) (by decide), eb]
  have f10 : M6 b 10 = mi b 10 + 1 := by rw [hM6]; simp [rn_u]; rw [r2 10 (by decide) (by decide) (by decide) (by decide), eb]
  have hg2 : nn (mi b 4) = NG := by rw [hg]; exact nI_clamp (by omega)
  have hp2 : nn (mi b 6) = N := by rw [hp]; exact nI_clamp (by omega)
  have h42 : nn (mi b 8) = NR := by rw [h4]; exact nI_clamp (by omega)
  have h52 : nn (mi b 9) = NA := by rw [h5]; exact nI_clamp (by omega)
  have sM : ∀ j, sC M6 (D b) b j = if j = 6 then mi b 10 + 1 else sC m5 (D b) b j := by
    intro j
    have e1 : M6 (D b) = m5 (D b) := by rw [hM6, rn_u_ne hkb0]
    unfold sC
    match j with
    | 0 => exact fb 4 (by decide)
    | 1 => exact fb 5 (by decide)
    | 2 => exact fb 6 (by decide)
    | 3 => exact fb 7 (by decide)
    | 4 => exact fb 8 (by decide)
    | 5 => exact fb 9 (by decide)
    | 6 => exact f10
    | 7 => show (if 0 < M6 b 12 then M6 b 12 else M6 (D b) 3) = (if 0 < m5 b 12 then m5 b 12 else m5 (D b) 3); rw [fb 12 (by decide), e1]
    | 8 => exact fb 13 (by decide)
    | 9 => exact fb 14 (by decide)
    | n + 10 => show M6 (D b) 2 = _; rw [e1]; simp
  have gpm : ∀ j, j < NG → mi (b + 1) j = (wC mi (D b) b).2.1 j := fun j hj => by
    show _ = if j < nn (mi b 4) then _ else _
    rw [if_pos (by rw [hg2]; exact hj)]
  have rdm : ∀ j, j < NR → mi (b + 3) j = (wC mi (D b) b).2.2.1 j := fun j hj => by
    show _ = if j < nn (mi b 8) then _ else _
    rw [if_pos (by rw [h42]; exact hj)]
  have er1 : roundF (sC mi (D b) b) (mi (b + 1)) (mi (b + 3)) = roundF (sC mi (D b) b) (wC mi (D b) b).2.1 (wC mi (D b) b).2.2.1 := by
    have hlt : sC mi (D b) b 5 < sC mi (D b) b 4 → NA < NR := fun q => by
      have q2 : mi b 9 < mi b 8 := q
      rw [h5, h4, sm_lt_iff (by omega) (by omega)] at q2
      exact q2
    refine roundF_congr (fun q => ?_) (fun q => ?_)
    · show mi (b + 3) (nn (mi b 9)) = _
      rw [show nn (sC mi (D b) b 5) = NA from h52, h52]
      exact rdm NA (hlt q)
    · rw [show nn (sC mi (D b) b 5) = NA from h52, ← rdm NA (hlt q)]
      obtain ⟨g, g1, g2⟩ := hr NA (hlt q)
      rw [g2, show nn (nI g) = g from nI_clamp (by omega)]
      exact gpm g g1
  refine Prod.ext (funext fun j => ?_) (Prod.ext (funext fun j => ?_) (Prod.ext (funext fun j => ?_) (funext fun i => ?_)))
  · show sC M6 (D b) b j = if j = 6 then mi b 10 + 1 else roundF (sC mi (D b) b) (wC mi (D b) b).2.1 (wC mi (D b) b).2.2.1 j
    rw [sM j, r3 j, es, eb1, eb3, er1]
  · show (if j < nn (M6 b 4) then M6 (b + 1) j else 0) = if j < nn (mi b 4) then mi (b + 1) j else 0
    rw [f4, f0 (b + 1) (by omega), eb1]
  · show (if j < nn (M6 b 8) then M6 (b + 3) j else 0) = if j < nn (mi b 8) then mi (b + 3) j else 0
    rw [f8, f0 (b + 3) (by omega), eb3]
  · show (if i < nn (M6 b 6) then pC M6 (b + 7 + 2 * i) else fun _ => 0) = if i < nn (mi b 6) then pstepF (erD mi (D b)) (sC mi (D b) b) (wC mi (D b) b).2.1 (if i < nn (mi b 6) then pC mi (b + 7 + 2 * i) else fun _ => 0) i else fun _ => 0
    rw [f6]
    by_cases hi : i < nn (mi b 6)
    · rw [if_pos hi, if_pos hi, if_pos hi, ← pstepF_congr (N := NG) hg hNG gpm]
      rw [hp2] at hi
      funext f
      unfold pC
      by_cases hf : f < 6
      · rw [if_pos hf, f0 _ (by omega), h2 i hi f hf]
        rfl
      · rw [if_neg hf, f0 _ (by omega), h1 _ (by omega) (fun j hj => by omega)]
        have e6 : pstepF (erD mi (D b)) (sC mi (D b) b) (mi (b + 1)) (pC mi (b + 7 + 2 * i)) i f = pC mi (b + 7 + 2 * i) f := pstepF_row (by omega)
        have e7 : pC mi (b + 7 + 2 * i) f = if f < 10 then mi (b + 7 + 2 * i + 1) (f - 6) else 0 := by unfold pC; rw [if_neg hf]
        rw [← e7]
        exact e6.symm
    · rw [if_neg hi, if_neg hi]

set_option maxHeartbeats 4000000 in
theorem K_passMinute {G : rn_G} {d : Nat} {κ : Nat × Nat} {Q : Option Value → rn_S → Prop} {mi : Nat → Nat → Int32} {ml : Nat → Nat → Int64} {D : Nat → Nat} {b : Nat} (hB : PB b) {T : Nat} (hk : PD (D b)) (hdk : DKI mi (D b)) (hw : WI T (wC mi (D b) b)) (hT : T < 2 ^ 30) (h : ∀ mi', (∀ a, (a < b ∨ b + 19 ≤ a) → mi' a = mi a) → mi' (b + 5) = mi (b + 5) → mi' (b + 6) = mi (b + 6) → (∀ f, f ≠ 5 → f ≠ 7 → f ≠ 9 → f ≠ 10 → f ≠ 13 → mi' b f = mi b f) → wC mi' (D b) b = minuteW (erD mi (D b)) (wC mi (D b) b) → Q none (mi', ml, RF D, 164)) : Call G (d + 4) M_X3_passMinute [.ref b] (mi, ml, RF D, 164) κ Q := by
  show Run G _ M_X3_passMinute 0 [.ref b, .null, .null] [] _ _ _
  have hkb : D b ≠ b + 4 ∧ D b + 1 ≠ b + 4 := pd_ne hk hB
  have hkb0 : D b ≠ b := by unfold PD at hk; unfold PB at hB; omega
  have hkq : ∀ j, j < 6 → D b ≠ b + 7 + 2 * j := by intro j hj; unfold PD at hk; unfold PB at hB; omega
  obtain ⟨⟨NG, hNG, hg, hr⟩, ⟨N, hN, hp⟩, ⟨NR, NA, hNR, h4, hNA, h5⟩, ⟨M0, hM0, h6⟩⟩ := hw
  have hg' : mi b 4 = nI NG := hg
  have hp' : mi b 6 = nI N := hp
  have h4' : mi b 8 = nI NR := h4
  have h5' : mi b 9 = nI NA := h5
  have h6' : mi b 10 = nI M0 := h6
  have hr' : ∀ j, j < NR → ∃ g, g < NG ∧ mi (b + 3) j = nI g := by
    intro j hj
    have hlt : j < nn (mi b 8) := by rw [h4', show nn (nI NR) = NR from nI_clamp (by omega)]; exact hj
    obtain ⟨g, g1, g2⟩ := hr j hlt
    refine ⟨g, g1, ?_⟩
    have e : (wC mi (D b) b).2.2.1 j = mi (b + 3) j := if_pos hlt
    rw [← e]; exact g2
  have hrd : ∀ m : Nat → Nat → Int32, (∀ a, a ≠ b + 4 → (∀ j, j < N → a ≠ b + 7 + 2 * j) → m a = mi a) → m b 9 < m b 8 → ∃ jn, m b 9 = nI jn ∧ jn < 6 ∧ ∃ gn, gn < 6 ∧ m (b + 3) jn = nI gn := by
    intro m hm hlt
    rw [hm b (by omega) (fun j hj => by omega), h5', h4', sm_lt_iff (by omega) (by omega)] at hlt
    obtain ⟨g, g1, g2⟩ := hr' NA hlt
    exact ⟨NA, by rw [hm b (by omega) (fun j hj => by omega)]; exact h5', by omega, g, by omega, by rw [hm (b + 3) (by omega) (fun j hj => by omega)]; exact g2⟩
  refine R_iconst (v := 0) dX3_passMinute_0 (by decide) ?_
  refine is_1 dX3_passMinute_1 rfl ?_
  refine L_passMinute hB hk hdk hg' hNG hp' hN ⟨M0, h6', by omega⟩ (fun m x v2 h1 h2 => ?_) N 0 mi 0 _ (by omega) nI_0.symm (fun a _ _ => rfl) (fun j hj => absurd hj (Nat.not_lt_zero j))
  refine al_0 dX3_passMinute_50 ?_
  refine cv_0 dX3_passMinute_51 mm_RX3_117 (pb_s0 hB) (show b < 164 by have := pb_n hB; omega) ⟨_, rfl, rfl⟩ (Nat.le_of_ble_eq_true rfl) (Nat.le_of_ble_eq_true rfl) (K_goRound hB hk (hrd m h1) (fun m5 r1 r2 r3 => ?_))
  refine al_0 dX3_passMinute_54 ?_
  refine R_dup dX3_passMinute_55 rfl ?_
  refine R_getfi dX3_passMinute_56 fl_RX3_67 rfl (pb_s0 hB) (show b < 164 by have := pb_n hB; omega) ?_
  refine R_iconst (v := 1) dX3_passMinute_59 (by decide) ?_
  refine R_iadd dX3_passMinute_60 ?_
  refine R_putfi dX3_passMinute_61 fl_RX3_67 rfl (Or.inl rfl) (pb_s0 hB) (show b < 164 by have := pb_n hB; omega) rfl rfl ?_
  refine R_return dX3_passMinute_64 rfl ?_
  refine h _ (fun a ha => ?_) ?_ ?_ (fun f f1 f2 f3 f4 f5 => ?_) ?_
  · simp only [rn_u_ne (show a ≠ b by omega)]
    rw [r1 a (by omega), h1 a (by omega) (fun j hj => by omega)]
  · simp only [rn_u_ne (show b + 5 ≠ b by omega)]
    rw [r1 _ (by omega), h1 _ (by omega) (fun j hj => by omega)]
  · simp only [rn_u_ne (show b + 6 ≠ b by omega)]
    rw [r1 _ (by omega), h1 _ (by omega) (fun j hj => by omega)]
  · simp only [rn_u, f4, and_false, if_false]
    rw [r2 f f1 f2 f3 f5, h1 b (by omega) (fun j hj => by omega)]
  · exact minute_fin hB hk hg' hNG hp' hN h4' hNR h5' hNA hr' h1 h2 r1 r2 r3
