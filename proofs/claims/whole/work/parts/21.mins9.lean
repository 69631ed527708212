/-! the reference: a whole minute; minutes -/
/-- what a minute of the reference leaves alone -/
def MF (mi m : Nat → Nat → Int32) : Prop := (∀ a, a ≠ 116 → a ≠ 120 → a ≠ 121 → a ≠ 133 → a ≠ 134 → m a = mi a) ∧ (∀ f, (f < 2 ∨ (7 < f ∧ f ≠ 34 ∧ f ≠ 38 ∧ f ≠ 39)) → m 116 f = mi 116 f)
theorem MF.refl (mi : Nat → Nat → Int32) : MF mi mi := ⟨fun _ _ _ _ _ _ => rfl, fun _ _ => rfl⟩
theorem MF.trans {m1 m2 m3 : Nat → Nat → Int32} (h : MF m1 m2) (g : MF m2 m3) : MF m1 m3 := ⟨fun a a1 a2 a3 a4 a5 => (g.1 a a1 a2 a3 a4 a5).trans (h.1 a a1 a2 a3 a4 a5), fun f hf => (g.2 f hf).trans (h.2 f hf)⟩
theorem MF.cm {mi m : Nat → Nat → Int32} {cl : CL} (h : MF mi m) (hc : CM mi cl) : CM m cl := hc.ext (h.2 17 (by omega)) (fun a a1 a2 => h.1 a (by omega) (by omega) (by omega) (by omega) (by omega))
theorem sM_ext6 {mi m : Nat → Nat → Int32} {cl : CL} {j : Nat} (h6 : ¬ j = 6) (c0 : m 116 0 = mi 116 0) (c3 : m 116 3 = mi 116 3) (c1 : m 116 1 = mi 116 1) (c6 : m 116 6 = mi 116 6) (c8 : m 116 8 = mi 116 8) (c7 : m 116 7 = mi 116 7) (c33 : m 116 33 = mi 116 33) (c34 : m 116 34 = mi 116 34) (c35 : m 116 35 = mi 116 35) : sM m cl j = sM mi cl j := by
  by_cases hj : j = 2 + 4
  · exact absurd hj h6
  · unfold sM
    rw [c0, c3, c1, c6, c8, c7, c33, c34, c35]
    split <;> first | rfl | exact absurd rfl h6
/-- after i of the people -/
def IP1 (mi : Nat → Nat → Int32) (cl : CL) (i : Nat) (m : Nat → Nat → Int32) : Prop :=
  (∀ a, a ≠ 116 → a ≠ 121 → a ≠ 133 → a ≠ 134 → m a = mi a) ∧ (∀ f, f ≠ 38 → f ≠ 39 → m 116 f = mi 116 f) ∧ (∀ j, i ≤ j → m 121 j = mi 121 j) ∧ (∀ j, j < i → m 121 j = stM mi cl j 3 ∧ m 134 j = stM mi cl j 2) ∧
  (∀ j, i ≤ j → j < 32 → bt (m 116 38) j = bt (mi 116 4) j ∧ bt (m 116 39) j = bt (mi 116 5) j) ∧ (∀ j, j < i → bitD (m 116 38) (nI j) = stM mi cl j 4 ∧ bitD (m 116 39) (nI j) = stM mi cl j 5)
theorem IP1.step {mi m m' : Nat → Nat → Int32} {cl : CL} {p : Nat} (hI : IP1 mi cl p m) (hp : p < 6) (q1 : ∀ a, a ≠ 116 → a ≠ 121 → a ≠ 133 → a ≠ 134 → m' a = m a) (q2 : ∀ f, f ≠ 38 → f ≠ 39 → m' 116 f = m 116 f) (q3 : ∀ j, j ≠ p → m' 121 j = m 121 j ∧ m' 134 j = m 134 j) (q4 : m' 121 p = stM m cl p 3) (q5 : m' 134 p = stM m cl p 2) (q6 : ∀ i, i < 32 → i ≠ p → bt (m' 116 38) i = bt (m 116 38) i ∧ bt (m' 116 39) i = bt (m 116 39) i) (q7 : bitD (m' 116 38) (nI p) = stM m cl p 4) (q8 : bitD (m' 116 39) (nI p) = stM m cl p 5) : IP1 mi cl (p + 1) m' := by
  obtain ⟨a1, a2, a3, a4, a5, a6⟩ := hI
  have es : stM m cl p = stM mi cl p := by
    unfold stM
    rw [sM_ext a2, a1 117 (by decide) (by decide) (by decide) (by decide), pM_ext (a2 4 (by decide) (by decide)) (a2 5 (by decide) (by decide)) (fun a h1 h2 h3 => a1 a (by omega) h3 (by omega) (by omega)) (a3 p (Nat.le_refl _))]
  rw [es] at q4 q5 q7 q8
  refine ⟨fun a h1 h2 h3 h4 => (q1 a h1 h2 h3 h4).trans (a1 a h1 h2 h3 h4), fun f h1 h2 => (q2 f h1 h2).trans (a2 f h1 h2), fun j hj => ((q3 j (by omega)).1).trans (a3 j (by omega)), fun j hj => ?_, fun j hj h32 => ?_, fun j hj => ?_⟩
  · by_cases e : j = p
    · subst e; exact ⟨q4, q5⟩
    · exact ⟨((q3 j e).1).trans (a4 j (by omega)).1, ((q3 j e).2).trans (a4 j (by omega)).2⟩
  · exact ⟨((q6 j h32 (by omega)).1).trans (a5 j (by omega) h32).1, ((q6 j h32 (by omega)).2).trans (a5 j (by omega) h32).2⟩
  · by_cases e : j = p
    · subst e; exact ⟨q7, q8⟩
    · exact ⟨(bitD_of (by omega) (q6 j (by omega) e).1).trans (a6 j (by omega)).1, (bitD_of (by omega) (q6 j (by omega) e).2).trans (a6 j (by omega)).2⟩
theorem IP1.mj {T N P R i : Nat} {mi m : Nat → Nat → Int32} {cl : CL} (hI : IP1 mi cl i m) (hJ : MJ T mi N P R) (hT : T < 2 ^ 30) (hPJ : ∀ i, i < P → PJ (pM mi i)) : MJ T m N P R := by
  obtain ⟨a1, a2, a3, a4, a5, a6⟩ := hI
  refine hJ.ext a2 (fun a h1 h2 h3 => a1 a (by omega) h3 (by omega) (by omega)) (fun j hj => ?_)
  obtain ⟨hN, hP6, hR, hg, hpp, hrr, hA, hmnT, hkp, hwt, hgp, hrd, hps⟩ := hJ
  by_cases h : j < i
  · rw [(a4 j h).1]
    exact ((hPJ j hj).step (s := sM mi cl) (gp := mi 117) (er := erA cl) (i := j) hN hg hmnT hT hgp).2.2.2.1
  · rw [a3 j (by omega)]; exact (hps j hj).2.2.2.1
set_option maxHeartbeats 4000000 in
/-- a minute, put together -/
theorem ref_minute {T N P R : Nat} {mi m m5 m6 M : Nat → Nat → Int32} {cl : CL} (hJ : MJ T mi N P R) (hI : IP1 mi cl P m) (r1 : ∀ a, a ≠ 116 → m5 a = m a) (r2 : ∀ f, f ≠ 3 → f ≠ 6 → f ≠ 7 → f ≠ 34 → m5 116 f = m 116 f) (r3 : ∀ j, sM m5 cl j = roundF (sM m cl) (m 117) (m 123) j)
  (s1 : ∀ a, a ≠ 120 → m6 a = m5 a) (s2 : ∀ j, j < P → m6 120 j = m5 134 j)
  (f1 : ∀ a, a ≠ 116 → M a = m6 a) (f2 : ∀ f, M 116 f = if f = 2 then m6 116 2 + 1 else if f = 5 then m6 116 39 else if f = 4 then m6 116 38 else m6 116 f) :
  MF mi M ∧ wM M cl = minuteW (erA cl) (wM mi cl) ∧ (∀ i, P ≤ i → i < 32 → bt (M 116 5) i = bt (mi 116 5) i) := by
  obtain ⟨a1, a2, a3, a4, a5, a6⟩ := hI
  obtain ⟨hN, hP6, hR, hg, hpp, hrr, ⟨A, hA, hA2⟩, hmnT, hkp, hwt, hgp, hrd, hps⟩ := hJ
  have e116 : m6 116 = m5 116 := s1 116 (by decide)
  have nP : nn (mi 116 1) = P := by rw [hpp]; exact nnI (by omega)
  have nN : nn (mi 116 0) = N := by rw [hg]; exact nnI (by omega)
  have nR : nn (mi 116 8) = R := by rw [hrr]; exact nnI (by omega)
  have k : ∀ f, f ≠ 2 → f ≠ 5 → f ≠ 4 → M 116 f = m5 116 f := fun f h1 h2 h3 => by rw [f2, if_neg h1, if_neg h2, if_neg h3, e116]
  have kk : ∀ f, f ≠ 2 → f ≠ 5 → f ≠ 4 → f ≠ 3 → f ≠ 6 → f ≠ 7 → f ≠ 34 → f ≠ 38 → f ≠ 39 → M 116 f = mi 116 f := fun f h1 h2 h3 h4 h5 h6 h7 h8 h9 => by rw [k f h1 h2 h3, r2 f h4 h5 h6 h7, a2 f h8 h9]
  have g38 : M 116 4 = m 116 38 := by rw [f2, if_neg (by decide), if_neg (by decide), if_pos rfl, e116, r2 38 (by decide) (by decide) (by decide) (by decide)]
  have g39 : M 116 5 = m 116 39 := by rw [f2, if_neg (by decide), if_pos rfl, e116, r2 39 (by decide) (by decide) (by decide) (by decide)]
  have ka : ∀ a, a ≠ 116 → a ≠ 120 → a ≠ 121 → a ≠ 133 → a ≠ 134 → M a = mi a := fun a h1 h2 h3 h4 h5 => by rw [f1 a h1, s1 a h2, r1 a h1, a1 a h1 h3 h4 h5]
  have es : sM m cl = sM mi cl := sM_ext a2
  have em : ∀ a, a ≠ 116 → a ≠ 121 → a ≠ 133 → a ≠ 134 → m a = mi a := a1
  refine ⟨⟨ka, fun f hf => kk f (by omega) (by omega) (by omega) (by omega) (by omega) (by omega) (by omega) (by omega) (by omega)⟩, ?_, fun i h1 h2 => by rw [g39]; exact (a5 i h1 h2).2⟩
  refine Prod.ext (funext fun j => ?_) (Prod.ext (funext fun j => ?_) (Prod.ext (funext fun j => ?_) (funext fun i => ?_)))
  · show sM M cl j = if j = 6 then sM mi cl 6 + 1 else roundF (sM mi cl) (wM mi cl).2.1 (wM mi cl).2.2.1 j
    have er : roundF (sM mi cl) (wM mi cl).2.1 (wM mi cl).2.2.1 = roundF (sM mi cl) (mi 117) (mi 123) := by
      have n5 : nn (sM mi cl 5) = A := by show nn (mi 116 7) = A; rw [hA2]; exact nnI (by omega)
      refine roundF_congr (fun hlt => ?_) (fun hlt => ?_)
      all_goals
        have hlt : mi 116 7 < mi 116 8 := hlt
        rw [hA2, hrr, sm_lt_iff (by omega) (by omega)] at hlt
        rw [n5]
      · exact wM_r hrr hR hlt
      · obtain ⟨g, hgN, eg⟩ := hrd A hlt
        rw [eg, nnI (by omega)]
        exact wM_g hg hN hgN
    rw [er]
    have r3' : ∀ j, sM m5 cl j = roundF (sM mi cl) (mi 117) (mi 123) j := fun j => by rw [r3 j, es, em 117 (by decide) (by decide) (by decide) (by decide), em 123 (by decide) (by decide) (by decide) (by decide)]
    by_cases h6 : j = 6
    · subst h6
      rw [if_pos rfl]
      show M 116 2 = mi 116 2 + 1
      rw [f2, if_pos rfl, e116, r2 2 (by decide) (by decide) (by decide) (by decide), a2 2 (by decide) (by decide)]
    · rw [if_neg h6, ← r3' j]
      have c0 := k 0 (by decide) (by decide) (by decide)
      have c3 := k 3 (by decide) (by decide) (by decide)
      have c1 := k 1 (by decide) (by decide) (by decide)
      have c6 := k 6 (by decide) (by decide) (by decide)
      have c8 := k 8 (by decide) (by decide) (by decide)
      have c7 := k 7 (by decide) (by decide) (by decide)
      have c33 := k 33 (by decide) (by decide) (by decide)
      have c34 := k 34 (by decide) (by decide) (by decide)
      have c35 := k 35 (by decide) (by decide) (by decide)
      exact sM_ext6 h6 c0 c3 c1 c6 c8 c7 c33 c34 c35
  · show (if j < nn (M 116 0) then M 117 j else 0) = if j < nn (mi 116 0) then mi 117 j else 0
    rw [kk 0 (by decide) (by decide) (by decide) (by decide) (by decide) (by decide) (by decide) (by decide) (by decide), ka 117 (by decide) (by decide) (by decide) (by decide) (by decide)]
  · show (if j < nn (M 116 8) then M 123 j else 0) = if j < nn (mi 116 8) then mi 123 j else 0
    rw [kk 8 (by decide) (by decide) (by decide) (by decide) (by decide) (by decide) (by decide) (by decide) (by decide), ka 123 (by decide) (by decide) (by decide) (by decide) (by decide)]
  · show (if i < nn (M 116 1) then pM M i else fun _ => 0) = if i < nn (mi 116 1) then pstepF (erA cl) (sM mi cl) (wM mi cl).2.1 (if i < nn (mi 116 1) then pM mi i else fun _ => 0) i else fun _ => 0
    rw [kk 1 (by decide) (by decide) (by decide) (by decide) (by decide) (by decide) (by decide) (by decide) (by decide)]
    by_cases hi : i < nn (mi 116 1)
    · rw [if_pos hi, if_pos hi, if_pos hi]
      rw [nP] at hi
      rw [pstepF_congr (s := sM mi cl) (gp := (wM mi cl).2.1) (gp' := mi 117) (N := N) hg hN (fun j hj => wM_g hg hN hj)]
      show pM M i = stM mi cl i
      obtain ⟨b1, b2⟩ := a4 i hi
      obtain ⟨c1, c2⟩ := a6 i hi
      have kp : ∀ f, f ≠ 2 → f ≠ 3 → f ≠ 4 → f ≠ 5 → stM mi cl i f = pM mi i f := fun f h2 h3 h4 h5 => pstepF_k h2 h3 h4 h5
      funext f
      by_cases f2' : f = 2
      · subst f2'
        show M 120 i = _
        rw [← b2, f1 120 (by decide), s2 i hi, r1 134 (by decide)]
      · by_cases f3 : f = 3
        · subst f3
          show M 121 i = _
          rw [← b1, f1 121 (by decide), s1 121 (by decide), r1 121 (by decide)]
        · by_cases f4 : f = 4
          · subst f4
            show bitD (M 116 4) (nI i) = _
            rw [g38, c1]
          · by_cases f5 : f = 5
            · subst f5
              show bitD (M 116 5) (nI i) = _
              rw [g39, c2]
            · rw [kp f f2' f3 f4 f5]
              unfold pM
              rw [if_neg f2', if_neg f3, if_neg f4, if_neg f5, if_neg f2', if_neg f3, if_neg f4, if_neg f5, ka 118 (by decide) (by decide) (by decide) (by decide) (by decide), ka 119 (by decide) (by decide) (by decide) (by decide) (by decide), ka 122 (by decide) (by decide) (by decide) (by decide) (by decide)]
    · rw [if_neg hi, if_neg hi]

set_option maxHeartbeats 4000000 in
theorem L_goMinute1 {G : rn_G} {d : Nat} {κ : Nat × Nat} {Q : Option Value → rn_S → Prop} {mi : Nat → Nat → Int32} {ml : Nat → Nat → Int64} {D : Nat → Nat} {T N P R : Nat} {cl : CL} (hJ : MJ T mi N P R) (hT : T < 2 ^ 30) (hPJ : ∀ i, i < P → PJ (pM mi i)) (hcm : CM mi cl) (h : ∀ m x, IP1 mi cl P m → Run G (d + 6) M_X9_goMinute 37 [.ref 116, .int x] [] (m, ml, RF D, 164) κ Q) : ∀ (n i : Nat) (x : Int32) (m : Nat → Nat → Int32), n + i = P → x = nI i → IP1 mi cl i m → Run G (d + 6) M_X9_goMinute 18 [.ref 116, .int x] [] (m, ml, RF D, 164) κ Q := by
  intro n
  induction n with
  | zero =>
    intro i x m hni hx hI
    obtain ⟨hN, hP6, hR, hg, hpp, -⟩ := id hJ
    have e1 : m 116 1 = nI P := by rw [hI.2.1 1 (by decide) (by decide)]; exact hpp
    obtain rfl : i = P := by omega
    refine il_1 dX9_goMinute_18 ?_
    refine al_0 dX9_goMinute_19 ?_
    refine R_getfi dX9_goMinute_20 fl_RX9_13 rfl sh_116 (Nat.le_of_ble_eq_true rfl) ?_
    refine R_icmp_ge (tgt := 37) dX9_goMinute_23 (by decide) (fun c23 => ?_) (fun q => absurd q (not_not_intro (by rw [e1, hx]; exact nI_le (by omega) (by omega))))
    exact h m x hI
  | succ n ih =>
    intro i x m hni hx hI
    obtain ⟨hN, hP6, hR, hg, hpp, -⟩ := id hJ
    have e1 : m 116 1 = nI P := by rw [hI.2.1 1 (by decide) (by decide)]; exact hpp
    have hiP : i < P := by omega
    have hJm := hI.mj hJ hT hPJ
    refine il_1 dX9_goMinute_18 ?_
    refine al_0 dX9_goMinute_19 ?_
    refine R_getfi dX9_goMinute_20 fl_RX9_13 rfl sh_116 (Nat.le_of_ble_eq_true rfl) ?_
    refine R_icmp_ge (tgt := 37) dX9_goMinute_23 (by decide) (fun q => absurd q (by rw [e1, hx]; exact nI_ge (by omega) (by omega))) (fun c23 => ?_)
    refine al_0 dX9_goMinute_26 ?_
    refine il_1 dX9_goMinute_27 ?_
    refine cv_1 dX9_goMinute_28 mm_RX9_409 sh_116 (Nat.le_of_ble_eq_true rfl) ⟨_, rfl, rfl⟩ (Nat.le_of_ble_eq_true rfl) (Nat.le_of_ble_eq_true rfl) (M_goPerson (T := T) (N := N) (P := P) (R := R) (cl := cl) hJm hT (by rw [pM_ext (hI.2.1 4 (by decide) (by decide)) (hI.2.1 5 (by decide) (by decide)) (fun a h1 h2 h3 => hI.1 a (by omega) h3 (by omega) (by omega)) (hI.2.2.1 i (Nat.le_refl _))]; exact hPJ i hiP) (hcm.ext (hI.2.1 17 (by decide) (by decide)) (fun a a1 a2 => hI.1 a (by omega) (by omega) (by omega) (by omega))) hx hiP (by rw [hI.2.1 4 (by decide) (by decide)]; exact (hI.2.2.2.2.1 i (Nat.le_refl _) (by omega)).1) (by rw [hI.2.1 5 (by decide) (by decide)]; exact (hI.2.2.2.2.1 i (Nat.le_refl _) (by omega)).2) (fun m2 q1 q2 q3 q4 q5 q6 q7 q8 => ?_))
    refine ii_1 (v := _ + 1) dX9_goMinute_31 rfl (by rfl) ?_
    refine R_goto (tgt := 18) dX9_goMinute_34 (by decide) ?_
    exact ih (i + 1) _ m2 (by omega) (by rw [hx]; exact sm_add i 1) (hI.step (by omega) q1 q2 q3 q4 q5 q6 q7 q8)

set_option maxHeartbeats 4000000 in
theorem L_goMinute2 {G : rn_G} {d : Nat} {κ : Nat × Nat} {Q : Option Value → rn_S → Prop} {mi : Nat → Nat → Int32} {ml : Nat → Nat → Int64} {D : Nat → Nat} {P : Nat} (hP : P ≤ 6) (hpp : mi 116 1 = nI P) (h : ∀ m x, (∀ a, a ≠ 120 → m a = mi a) → (∀ j, j < P → m 120 j = mi 134 j) → Run G (d + 6) M_X9_goMinute 69 [.ref 116, .int x] [] (m, ml, RF D, 164) κ Q) : ∀ (n i : Nat) (x : Int32) (m : Nat → Nat → Int32), n + i = P → x = nI i → (∀ a, a ≠ 120 → m a = mi a) → (∀ j, j < i → m 120 j = mi 134 j) → Run G (d + 6) M_X9_goMinute 43 [.ref 116, .int x] [] (m, ml, RF D, 164) κ Q := by
  intro n
  induction n with
  | zero =>
    intro i x m hni hx h1 h2
    have e1 : m 116 1 = nI P := by rw [h1 116 (by decide)]; exact hpp
    obtain rfl : i = P := by omega
    refine il_1 dX9_goMinute_43 ?_
    refine al_0 dX9_goMinute_44 ?_
    refine R_getfi dX9_goMinute_45 fl_RX9_13 rfl sh_116 (Nat.le_of_ble_eq_true rfl) ?_
    refine R_icmp_ge (tgt := 69) dX9_goMinute_48 (by decide) (fun c48 => ?_) (fun q => absurd q (not_not_intro (by rw [e1, hx]; exact nI_le (by omega) (by omega))))
    exact h m x h1 h2
  | succ n ih =>
    intro i x m hni hx h1 h2
    have e1 : m 116 1 = nI P := by rw [h1 116 (by decide)]; exact hpp
    have hi : i < 6 := by omega
    refine il_1 dX9_goMinute_43 ?_
    refine al_0 dX9_goMinute_44 ?_
    refine R_getfi dX9_goMinute_45 fl_RX9_13 rfl sh_116 (Nat.le_of_ble_eq_true rfl) ?_
    refine R_icmp_ge (tgt := 69) dX9_goMinute_48 (by decide) (fun q => absurd q (by rw [e1, hx]; exact nI_ge (by omega) (by omega))) (fun c48 => ?_)
    refine al_0 dX9_goMinute_51 ?_
    refine R_getfr (r := 120) dX9_goMinute_52 fl_RX9_47 rfl sh_116 (Nat.le_of_ble_eq_true rfl) rf_116_12 ?_
    refine il_1 dX9_goMinute_55 ?_
    refine al_0 dX9_goMinute_56 ?_
    refine R_getfr (r := 134) dX9_goMinute_57 fl_RX9_123 rfl sh_116 (Nat.le_of_ble_eq_true rfl) rf_116_37 ?_
    refine il_1 dX9_goMinute_60 ?_
    refine R_iald dX9_goMinute_61 sh_134 (Nat.le_of_ble_eq_true rfl) (rn_ixe hx) hi ?_
    refine R_iast dX9_goMinute_62 sh_120 (Nat.le_of_ble_eq_true rfl) (rn_ixe hx) hi ?_
    refine ii_1 (v := _ + 1) dX9_goMinute_63 rfl (by rfl) ?_
    refine R_goto (tgt := 43) dX9_goMinute_66 (by decide) ?_
    refine ih (i + 1) _ _ (by omega) (by rw [hx]; exact sm_add i 1) (fun a ha => by rw [rn_u_ne ha]; exact h1 a ha) (fun j hj => ?_)
    by_cases e : j = i
    · subst e; simp only [rn_u, and_self, if_true]; rw [h1 134 (by decide)]
    · simp only [rn_u, e, and_false, if_false]; exact h2 j (by omega)

set_option maxHeartbeats 4000000 in
theorem M_goMinute {G : rn_G} {d : Nat} {κ : Nat × Nat} {Q : Option Value → rn_S → Prop} {mi : Nat → Nat → Int32} {ml : Nat → Nat → Int64} {D : Nat → Nat} {T : Nat} {cl : CL} (hcm : CM mi cl) (hw : WJ T (wM mi cl)) (hT : T < 2 ^ 30) (h : ∀ m, MF mi m → wM m cl = minuteW (erA cl) (wM mi cl) → (∀ i, nn (mi 116 1) ≤ i → i < 32 → bt (m 116 5) i = bt (mi 116 5) i) → Q none (m, ml, RF D, 164)) : Call G (d + 6) M_X9_goMinute [.ref 116] (mi, ml, RF D, 164) κ Q := by
  show Run G _ M_X9_goMinute 0 [.ref 116, .null] [] _ _ _
  obtain ⟨N, P, R, hJ, hpc, -, hPJ⟩ := hw.mj
  rw [show nn (mi 116 1) = P by rw [hJ.2.2.2.2.1]; have := hJ.2.1; exact nnI (by omega)] at h
  refine al_0 dX9_goMinute_0 ?_
  refine al_0 dX9_goMinute_1 ?_
  refine R_getfi dX9_goMinute_2 fl_RX9_22 rfl sh_116 (Nat.le_of_ble_eq_true rfl) ?_
  refine R_putfi dX9_goMinute_5 fl_RX9_126 rfl (Or.inl rfl) sh_116 (Nat.le_of_ble_eq_true rfl) rfl rfl ?_
  refine al_0 dX9_goMinute_8 ?_
  refine al_0 dX9_goMinute_9 ?_
  refine R_getfi dX9_goMinute_10 fl_RX9_25 rfl sh_116 (Nat.le_of_ble_eq_true rfl) ?_
  refine R_putfi dX9_goMinute_13 fl_RX9_129 rfl (Or.inl rfl) sh_116 (Nat.le_of_ble_eq_true rfl) rfl rfl ?_
  refine R_iconst (v := 0) dX9_goMinute_16 (by decide) ?_
  refine is_1 dX9_goMinute_17 rfl ?_
  refine L_goMinute1 hJ hT hPJ hcm (fun m x hI => ?_) P 0 0 _ (by omega) nI_0.symm ⟨fun a h1 h2 h3 h4 => by rw [rn_u_ne h1, rn_u_ne h1], fun f h1 h2 => by simp [rn_u, h1, h2], fun j _ => by simp [rn_u], fun j hj => absurd hj (Nat.not_lt_zero j), fun j _ _ => by simp [rn_u], fun j hj => absurd hj (Nat.not_lt_zero j)⟩
  refine al_0 dX9_goMinute_37 ?_
  refine cv_0 dX9_goMinute_38 mm_RX9_412 sh_116 (Nat.le_of_ble_eq_true rfl) ⟨_, rfl, rfl⟩ (Nat.le_of_ble_eq_true rfl) (Nat.le_of_ble_eq_true rfl) (M_goKeeper (T := T) (N := N) (P := P) (R := R) (cl := cl) (hI.mj hJ hT hPJ) (hcm.ext (hI.2.1 17 (by decide) (by decide)) (fun a a1 a2 => hI.1 a (by omega) (by omega) (by omega) (by omega))) (by rw [hI.2.1 33 (by decide) (by decide)]; exact hpc) (fun m5 r1 r2 r3 => ?_))
  refine R_iconst (v := 0) dX9_goMinute_41 (by decide) ?_
  refine is_1 dX9_goMinute_42 rfl ?_
  have hpp5 : m5 116 1 = nI P := by rw [r2 1 (by decide) (by decide) (by decide) (by decide), hI.2.1 1 (by decide) (by decide)]; exact hJ.2.2.2.2.1
  refine L_goMinute2 hJ.2.1 hpp5 (fun m6 x2 s1 s2 => ?_) P 0 0 m5 (by omega) nI_0.symm (fun _ _ => rfl) (fun j hj => absurd hj (Nat.not_lt_zero j))
  refine al_0 dX9_goMinute_69 ?_
  refine al_0 dX9_goMinute_70 ?_
  refine R_getfi dX9_goMinute_71 fl_RX9_126 rfl sh_116 (Nat.le_of_ble_eq_true rfl) ?_
  refine R_putfi dX9_goMinute_74 fl_RX9_22 rfl (Or.inl rfl) sh_116 (Nat.le_of_ble_eq_true rfl) rfl rfl ?_
  refine al_0 dX9_goMinute_77 ?_
  refine al_0 dX9_goMinute_78 ?_
  refine R_getfi dX9_goMinute_79 fl_RX9_129 rfl sh_116 (Nat.le_of_ble_eq_true rfl) ?_
  refine R_putfi dX9_goMinute_82 fl_RX9_25 rfl (Or.inl rfl) sh_116 (Nat.le_of_ble_eq_true rfl) rfl rfl ?_
  refine al_0 dX9_goMinute_85 ?_
  refine R_dup dX9_goMinute_86 rfl ?_
  refine R_getfi dX9_goMinute_87 fl_RX9_16 rfl sh_116 (Nat.le_of_ble_eq_true rfl) ?_
  refine R_iconst (v := 1) dX9_goMinute_90 (by decide) ?_
  refine R_iadd dX9_goMinute_91 ?_
  refine R_putfi dX9_goMinute_92 fl_RX9_16 rfl (Or.inl rfl) sh_116 (Nat.le_of_ble_eq_true rfl) rfl rfl ?_
  refine R_return dX9_goMinute_95 rfl ?_
  generalize hM : rn_u _ 116 2 _ = M
  have f1 : ∀ a, a ≠ 116 → M a = m6 a := fun a ha => by rw [← hM]; simp only [rn_u_ne ha]
  have f2 : ∀ f, M 116 f = if f = 2 then m6 116 2 + 1 else if f = 5 then m6 116 39 else if f = 4 then m6 116 38 else m6 116 f := fun f => by rw [← hM]; simp [rn_u]
  obtain ⟨k1, k2, k3⟩ := ref_minute (cl := cl) hJ hI r1 r2 r3 s1 s2 f1 f2
  exact h M k1 k2 k3


def MSr (n : Nat) (cl : CL) (mi m : Nat → Nat → Int32) : Prop := MF mi m ∧ wM m cl = minsW (erA cl) n (wM mi cl) ∧ (∀ i, nn (mi 116 1) ≤ i → i < 32 → bt (m 116 5) i = bt (mi 116 5) i)
theorem MSr.refl (cl : CL) (mi : Nat → Nat → Int32) : MSr 0 cl mi mi := ⟨MF.refl mi, rfl, fun _ _ _ => rfl⟩
theorem MSr.step {n : Nat} {cl : CL} {mi m m' : Nat → Nat → Int32} (h : MSr n cl mi m) (h1 : MF m m') (h2 : wM m' cl = minuteW (erA cl) (wM m cl)) (h3 : ∀ i, nn (m 116 1) ≤ i → i < 32 → bt (m' 116 5) i = bt (m 116 5) i) : MSr (n + 1) cl mi m' := by
  refine ⟨h.1.trans h1, by rw [h2, h.2.1, minsW_succ], fun i hi h32 => ?_⟩
  rw [h3 i (by rw [h.1.2 1 (by omega)]; exact hi) h32]
  exact h.2.2 i hi h32

set_option maxHeartbeats 4000000 in
theorem L_goMinutes {G : rn_G} {d : Nat} {κ : Nat × Nat} {Q : Option Value → rn_S → Prop} {mi : Nat → Nat → Int32} {ml : Nat → Nat → Int64} {D : Nat → Nat} {T N : Nat} {cl : CL} (hcm : CM mi cl) (hw : WJ T (wM mi cl)) {z : Int32} (hz : z = nI N) (hT : T + N < 2 ^ 30) (h : ∀ m, MSr N cl mi m → Q none (m, ml, RF D, 164)) : ∀ (n i : Nat) (x : Int32) (m : Nat → Nat → Int32), n + i = N → x = nI i → MSr i cl mi m → Run G (d + 7) M_X9_goMinutes 2 [.ref 116, .int z, .int x] [] (m, ml, RF D, 164) κ Q := by
  intro n
  induction n with
  | zero =>
    intro i x m hni hx hm
    obtain rfl : i = N := by omega
    refine il_2 dX9_goMinutes_2 ?_
    refine il_1 dX9_goMinutes_3 ?_
    refine R_icmp_ge (tgt := 17) dX9_goMinutes_4 (by decide) (fun c4 => ?_) (fun q => absurd q (not_not_intro (by rw [hz, hx]; exact nI_le (by omega) (by omega))))
    refine R_return dX9_goMinutes_17 rfl ?_
    exact h m hm
  | succ n ih =>
    intro i x m hni hx hm
    refine il_2 dX9_goMinutes_2 ?_
    refine il_1 dX9_goMinutes_3 ?_
    refine R_icmp_ge (tgt := 17) dX9_goMinutes_4 (by decide) (fun q => absurd q (by rw [hz, hx]; exact nI_ge (by omega) (by omega))) (fun c4 => ?_)
    refine al_0 dX9_goMinutes_7 ?_
    refine cv_0 dX9_goMinutes_8 mm_RX9_415 sh_116 (Nat.le_of_ble_eq_true rfl) ⟨_, rfl, rfl⟩ (Nat.le_of_ble_eq_true rfl) (Nat.le_of_ble_eq_true rfl) (M_goMinute (T := T + i) (hm.1.cm hcm) (by rw [hm.2.1]; exact hw.mins i T _ (by omega)) (by omega) (fun m2 q1 q2 q3 => ?_))
    refine ii_2 (v := _ + 1) dX9_goMinutes_11 rfl (by rfl) ?_
    refine R_goto (tgt := 2) dX9_goMinutes_14 (by decide) ?_
    exact ih (i + 1) _ m2 (by omega) (by rw [hx]; exact sm_add i 1) (hm.step q1 q2 q3)

set_option maxHeartbeats 4000000 in
theorem M_goMinutes {G : rn_G} {d : Nat} {κ : Nat × Nat} {Q : Option Value → rn_S → Prop} {mi : Nat → Nat → Int32} {ml : Nat → Nat → Int64} {D : Nat → Nat} {T N : Nat} {cl : CL} (hcm : CM mi cl) (hw : WJ T (wM mi cl)) {z : Int32} (hz : z = nI N) (hT : T + N < 2 ^ 30) (h : ∀ m, MSr N cl mi m → Q none (m, ml, RF D, 164)) : Call G (d + 7) M_X9_goMinutes [.ref 116, .int z] (mi, ml, RF D, 164) κ Q := by
  show Run G _ M_X9_goMinutes 0 [.ref 116, .int z, .null] [] _ _ _
  refine R_iconst (v := 0) dX9_goMinutes_0 (by decide) ?_
  refine is_2 dX9_goMinutes_1 rfl ?_
  exact L_goMinutes hcm hw hz hT h N 0 0 mi (by omega) nI_0.symm (MSr.refl cl mi)
