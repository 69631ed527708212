/-! the class: act -/
def abv (k : Nat) : Nat := match k with
  | 4 => 1 | 5 => 2 | 6 => 3 | _ => 0
theorem ka_abv {k : Nat} (h0 : k ≠ 0) (h6 : k ≤ 6) : rn_ka k = nI (abv k) := by
  have : k = 1 ∨ k = 2 ∨ k = 3 ∨ k = 4 ∨ k = 5 ∨ k = 6 := by omega
  rcases this with r | r | r | r | r | r <;> rw [r] <;> rfl
theorem abv_le {k : Nat} : abv k ≤ 6 := by
  unfold abv
  split <;> omega
def bodyF : Nat → Nat → Nat → Int32
  | 0, k, a => rn_bo (3 * k + a)
  | n + 1, k, a => if k = 0 then rn_bo (3 * k + a) else if rn_bo (3 * k + a) = 0 then bodyF n (abv k) a else rn_bo (3 * k + a)
/-- only the trace of acts has changed since -/
def AK (m0 m : Nat → Nat → Int32) (l : List Int32) : Prop := (∀ a, a ≠ 89 → a ≠ 90 → m a = m0 a) ∧ (∀ f, f ≠ 1 → m 89 f = m0 89 f) ∧ CAc m l
theorem AK.add {m0 m : Nat → Nat → Int32} {l : List Int32} {b : Int32} (h : AK m0 m l) : AK m0 (rn_u (rn_u m 90 l.length b) 89 1 (nI (l.length + 1))) (l ++ [b]) := by
  obtain ⟨h1, h2, h3, h4⟩ := h
  refine ⟨fun a a1 a2 => by rw [rn_u_ne a1, rn_u_ne a2]; exact h1 a a1 a2, fun f hf => ?_, ?_, fun j v hj => ?_⟩
  · rw [← h2 f hf]; simp [rn_u, hf]
  · rw [List.length_append]; exact rn_u_eq
  · rw [rn_u_ne (show (90 : Nat) ≠ 89 by decide), rn_u_at]
    dsimp only
    rcases snoc_get hj with ⟨j1, j2⟩ | ⟨j1, j2⟩
    · rw [if_neg (by omega)]; exact h4 j v j2
    · rw [if_pos j1, j2]
def AO (G : rn_G) (d : Nat) (m0 : Nat → Nat → Int32) (ml : Nat → Nat → Int64) (D : Nat → Nat) (N : Nat) (b u r : Int32) (t : List Int32) : Prop := ∀ (κ : Nat × Nat) (Q : Option Value → rn_S → Prop) (mi : Nat → Nat → Int32) (l : List Int32) (z : Int32) (g : Nat), z = nI g → g ≤ N → AK m0 mi l → l.length + t.length ≤ 20 → (∀ m, AK m0 m (l ++ t) → Q (some (.int r)) (m, ml, RF D, 164)) → Call G d M_X0_answerOf [.ref 89, .int b, .int u, .int z] (mi, ml, RF D, 164) κ Q
def RO (G : rn_G) (d : Nat) (m0 : Nat → Nat → Int32) (ml : Nat → Nat → Int64) (D : Nat → Nat) (N k a : Nat) (u r : Int32) (t : List Int32) : Prop := ∀ (κ : Nat × Nat) (Q : Option Value → rn_S → Prop) (mi : Nat → Nat → Int32) (l : List Int32) (x y z : Int32) (g : Nat), x = nI k → y = nI a → z = nI g → g ≤ N → AK m0 mi l → l.length + t.length ≤ 20 → (∀ m, AK m0 m (l ++ t) → Q (some (.int r)) (m, ml, RF D, 164)) → Call G d M_X0_run [.ref 89, .int x, .int y, .int u, .int z] (mi, ml, RF D, 164) κ Q

set_option maxHeartbeats 4000000 in
theorem L_bodyC {G : rn_G} {d : Nat} {κ : Nat × Nat} {Q : Option Value → rn_S → Prop} {σ : rn_S} {a : Nat} {x y : Int32} (hy : y = nI a) (ha : a ≤ 2) : ∀ (n j k : Nat) (v z : Int32), j + n = 7 → v = nI k → k ≤ 6 → z = nI j → Q (some (.int (bodyF n k a))) σ → Run G d M_X0_bodyOf 4 [.int x, .int y, .int v, .int z] [] σ κ Q := by
  intro n
  induction n with
  | zero =>
    intro j k v z hj hv hk hz h
    have e3 : v * 3 + y = nI (3 * k + a) := by rw [hv, hy, Nat.mul_comm 3 k]; exact (congrArg (· + nI a) (sm_mul k 3)).trans (sm_add _ _)
    refine il_3 dX0_bodyOf_4 ?_
    refine R_bipush (v := 7) dX0_bodyOf_5 (by decide) ?_
    refine R_icmp_ge (tgt := 38) dX0_bodyOf_7 (by decide) (fun c7 => ?_) (fun q => absurd q (not_not_intro (by rw [hz, show j = 7 by omega]; decide)))
    refine R_getsN (v := .ref 1002) dX0_bodyOf_38 gn_RX0_48 (by decide) ?_
    refine il_2 dX0_bodyOf_41 ?_
    refine R_iconst (v := 3) dX0_bodyOf_42 (by decide) ?_
    refine R_imul dX0_bodyOf_43 ?_
    refine il_1 dX0_bodyOf_44 ?_
    refine R_iadd dX0_bodyOf_45 ?_
    refine R_ialdP (r := 2) dX0_bodyOf_46 (by decide) (rn_ixe e3) (show 3 * k + a < 21 by omega) ?_
    refine R_ireturn dX0_bodyOf_47 ⟨_, rfl, rfl⟩ ?_
    exact h
  | succ n ih =>
    intro j k v z hj hv hk hz h
    have e3 : v * 3 + y = nI (3 * k + a) := by rw [hv, hy, Nat.mul_comm 3 k]; exact (congrArg (· + nI a) (sm_mul k 3)).trans (sm_add _ _)
    have h : Q (some (.int (if k = 0 then rn_bo (3 * k + a) else if rn_bo (3 * k + a) = 0 then bodyF n (abv k) a else rn_bo (3 * k + a)))) σ := h
    have S7 : ¬ 7 ≤ z := by rw [hz]; exact nI_ge (b := 7) (by omega) (by decide)
    by_cases k0 : k = 0
    · rw [if_pos k0] at h
      refine il_3 dX0_bodyOf_4 ?_
      refine R_bipush (v := 7) dX0_bodyOf_5 (by decide) ?_
      refine R_icmp_ge (tgt := 38) dX0_bodyOf_7 (by decide) (fun q => absurd q (S7)) (fun c7 => ?_)
      refine il_2 dX0_bodyOf_10 ?_
      refine R_if_le (tgt := 38) dX0_bodyOf_11 (by decide) (fun c11 => ?_) (fun q => absurd q (not_not_intro (by rw [hv, k0]; decide)))
      refine R_getsN (v := .ref 1002) dX0_bodyOf_38 gn_RX0_48 (by decide) ?_
      refine il_2 dX0_bodyOf_41 ?_
      refine R_iconst (v := 3) dX0_bodyOf_42 (by decide) ?_
      refine R_imul dX0_bodyOf_43 ?_
      refine il_1 dX0_bodyOf_44 ?_
      refine R_iadd dX0_bodyOf_45 ?_
      refine R_ialdP (r := 2) dX0_bodyOf_46 (by decide) (rn_ixe e3) (show 3 * k + a < 21 by omega) ?_
      refine R_ireturn dX0_bodyOf_47 ⟨_, rfl, rfl⟩ ?_
      exact h
    · rw [if_neg k0] at h
      have kn : ¬ v ≤ 0 := by rw [hv]; exact fun q => k0 (by have := (sm_le_iff (b := 0) (by omega) (by decide)).mp q; omega)
      by_cases b0 : rn_bo (3 * k + a) = 0
      · rw [if_pos b0] at h
        refine il_3 dX0_bodyOf_4 ?_
        refine R_bipush (v := 7) dX0_bodyOf_5 (by decide) ?_
        refine R_icmp_ge (tgt := 38) dX0_bodyOf_7 (by decide) (fun q => absurd q (S7)) (fun c7 => ?_)
        refine il_2 dX0_bodyOf_10 ?_
        refine R_if_le (tgt := 38) dX0_bodyOf_11 (by decide) (fun q => absurd q (kn)) (fun c11 => ?_)
        refine R_getsN (v := .ref 1002) dX0_bodyOf_14 gn_RX0_48 (by decide) ?_
        refine il_2 dX0_bodyOf_17 ?_
        refine R_iconst (v := 3) dX0_bodyOf_18 (by decide) ?_
        refine R_imul dX0_bodyOf_19 ?_
        refine il_1 dX0_bodyOf_20 ?_
        refine R_iadd dX0_bodyOf_21 ?_
        refine R_ialdP (r := 2) dX0_bodyOf_22 (by decide) (rn_ixe e3) (show 3 * k + a < 21 by omega) ?_
        refine R_if_ne (tgt := 38) dX0_bodyOf_23 (by decide) (fun q => absurd q (not_not_intro b0)) (fun c23 => ?_)
        refine R_getsN (v := .ref 1001) dX0_bodyOf_26 gn_RX0_45 (by decide) ?_
        refine il_2 dX0_bodyOf_29 ?_
        refine R_ialdP (r := 1) dX0_bodyOf_30 (by decide) (rn_ixe hv) (show k < 7 by omega) ?_
        refine is_2 dX0_bodyOf_31 rfl ?_
        refine ii_3 (v := _ + 1) dX0_bodyOf_32 rfl (by rfl) ?_
        refine R_goto (tgt := 4) dX0_bodyOf_35 (by decide) ?_
        exact ih (j + 1) (abv k) _ _ (by omega) (ka_abv k0 hk) abv_le (by rw [hz]; exact sm_add j 1) h
      · rw [if_neg b0] at h
        refine il_3 dX0_bodyOf_4 ?_
        refine R_bipush (v := 7) dX0_bodyOf_5 (by decide) ?_
        refine R_icmp_ge (tgt := 38) dX0_bodyOf_7 (by decide) (fun q => absurd q (S7)) (fun c7 => ?_)
        refine il_2 dX0_bodyOf_10 ?_
        refine R_if_le (tgt := 38) dX0_bodyOf_11 (by decide) (fun q => absurd q (kn)) (fun c11 => ?_)
        refine R_getsN (v := .ref 1002) dX0_bodyOf_14 gn_RX0_48 (by decide) ?_
        refine il_2 dX0_bodyOf_17 ?_
        refine R_iconst (v := 3) dX0_bodyOf_18 (by decide) ?_
        refine R_imul dX0_bodyOf_19 ?_
        refine il_1 dX0_bodyOf_20 ?_
        refine R_iadd dX0_bodyOf_21 ?_
        refine R_ialdP (r := 2) dX0_bodyOf_22 (by decide) (rn_ixe e3) (show 3 * k + a < 21 by omega) ?_
        refine R_if_ne (tgt := 38) dX0_bodyOf_23 (by decide) (fun c23 => ?_) (fun q => absurd q (b0))
        refine R_getsN (v := .ref 1002) dX0_bodyOf_38 gn_RX0_48 (by decide) ?_
        refine il_2 dX0_bodyOf_41 ?_
        refine R_iconst (v := 3) dX0_bodyOf_42 (by decide) ?_
        refine R_imul dX0_bodyOf_43 ?_
        refine il_1 dX0_bodyOf_44 ?_
        refine R_iadd dX0_bodyOf_45 ?_
        refine R_ialdP (r := 2) dX0_bodyOf_46 (by decide) (rn_ixe e3) (show 3 * k + a < 21 by omega) ?_
        refine R_ireturn dX0_bodyOf_47 ⟨_, rfl, rfl⟩ ?_
        exact h

set_option maxHeartbeats 4000000 in
theorem K_bodyOf {G : rn_G} {d : Nat} {κ : Nat × Nat} {Q : Option Value → rn_S → Prop} {σ : rn_S} {k a : Nat} {x y : Int32} (hx : x = nI k) (hk : k ≤ 6) (hy : y = nI a) (ha : a ≤ 2) (h : Q (some (.int (bodyF 7 k a))) σ) : Call G (d) M_X0_bodyOf [.int x, .int y] σ κ Q := by
  show Run G _ M_X0_bodyOf 0 [.int x, .int y, .null, .null] [] _ _ _
  refine il_0 dX0_bodyOf_0 ?_
  refine is_2 dX0_bodyOf_1 rfl ?_
  refine R_iconst (v := 0) dX0_bodyOf_2 (by decide) ?_
  refine is_3 dX0_bodyOf_3 rfl ?_
  exact L_bodyC hy ha 7 0 k _ 0 rfl hx hk rfl h

set_option maxHeartbeats 4000000 in
theorem K_keep {G : rn_G} {d : Nat} {κ : Nat × Nat} {Q : Option Value → rn_S → Prop} {mi : Nat → Nat → Int32} {ml : Nat → Nat → Int64} {D : Nat → Nat} {x : Int32} {m0 : Nat → Nat → Int32} {l : List Int32} (hac : AK m0 mi l) (hl : l.length < 20) (h : ∀ m, AK m0 m (l ++ [x]) → Q none (m, ml, RF D, 164)) : Call G (d) M_X0_keep [.ref 89, .int x] (mi, ml, RF D, 164) κ Q := by
  show Run G _ M_X0_keep 0 [.ref 89, .int x] [] _ _ _
  have e87 := hac.2.2.1
  refine al_0 dX0_keep_0 ?_
  refine R_getfi dX0_keep_1 fl_RX0_51 rfl sh_89 (Nat.le_of_ble_eq_true rfl) ?_
  refine R_bipush (v := 20) dX0_keep_4 (by decide) ?_
  refine R_icmp_ge (tgt := 19) dX0_keep_6 (by decide) (fun q => absurd q (by rw [e87]; exact nI_ge (b := 20) hl (by decide))) (fun c6 => ?_)
  refine al_0 dX0_keep_9 ?_
  refine R_getfr (r := 90) dX0_keep_10 fl_RX0_9 rfl sh_89 (Nat.le_of_ble_eq_true rfl) rf_89_0 ?_
  refine al_0 dX0_keep_13 ?_
  refine R_getfi dX0_keep_14 fl_RX0_51 rfl sh_89 (Nat.le_of_ble_eq_true rfl) ?_
  refine il_1 dX0_keep_17 ?_
  refine R_iast dX0_keep_18 sh_90 (Nat.le_of_ble_eq_true rfl) (rn_ixe e87) hl ?_
  refine al_0 dX0_keep_19 ?_
  refine R_dup dX0_keep_20 rfl ?_
  refine R_getfi dX0_keep_21 fl_RX0_51 rfl sh_89 (Nat.le_of_ble_eq_true rfl) ?_
  refine R_iconst (v := 1) dX0_keep_24 (by decide) ?_
  refine R_iadd dX0_keep_25 ?_
  refine R_putfi dX0_keep_26 fl_RX0_51 rfl (Or.inl rfl) sh_89 (Nat.le_of_ble_eq_true rfl) rfl rfl ?_
  refine R_return dX0_keep_29 rfl ?_
  rw [rn_u_ne (show (89 : Nat) ≠ 90 by decide), show mi 89 1 + 1 = nI (l.length + 1) by rw [e87]; exact sm_add _ 1]
  exact h _ hac.add

set_option maxHeartbeats 4000000 in
theorem run_of {G : rn_G} {d : Nat} {m0 : Nat → Nat → Int32} {ml : Nat → Nat → Int64} {D : Nat → Nat} {N k a : Nat} {b u r : Int32} {t : List Int32} (hb : bodyF 7 k a = b) (hA : AO G d m0 ml D (N + 1) b u r t) (hk : k ≤ 6) (ha : a ≤ 2) (hN : N ≤ 40) : RO G (d + 1) m0 ml D N k a u r (b :: t) := by
  intro κ Q mi l x y z g hx hy hz hg hac hl h
  rw [List.length_cons] at hl
  rw [← hb] at hA h
  show Run G _ M_X0_run 0 [.ref 89, .int x, .int y, .int u, .int z, .null] [] _ _ _
  refine il_4 dX0_run_0 ?_
  refine R_bipush (v := 40) dX0_run_2 (by decide) ?_
  refine R_icmp_le (tgt := 9) dX0_run_4 (by decide) (fun c4 => ?_) (fun q => absurd q (not_not_intro (by rw [hz]; exact (sm_le_iff (b := 40) (by omega) (by decide)).mpr (by omega))))
  refine il_1 dX0_run_9 ?_
  refine il_2 dX0_run_10 ?_
  refine cs_2 dX0_run_11 mm_RX0_33 (Nat.le_of_ble_eq_true rfl) (Nat.le_of_ble_eq_true rfl) (K_bodyOf hx hk hy ha ?_)
  refine is_5 dX0_run_14 rfl ?_
  refine al_0 dX0_run_16 ?_
  refine il_5 dX0_run_17 ?_
  refine cv_1 dX0_run_19 mm_RX0_37 sh_89 (Nat.le_of_ble_eq_true rfl) ⟨_, rfl, rfl⟩ (Nat.le_of_ble_eq_true rfl) (Nat.le_of_ble_eq_true rfl) (K_keep hac (by omega) (fun m19 hm19 => ?_))
  refine al_0 dX0_run_22 ?_
  refine il_5 dX0_run_23 ?_
  refine il_3 dX0_run_25 ?_
  refine il_4 dX0_run_26 ?_
  refine R_iconst (v := 1) dX0_run_28 (by decide) ?_
  refine R_iadd dX0_run_29 ?_
  refine cv_3 dX0_run_30 mm_RX0_41 sh_89 (Nat.le_of_ble_eq_true rfl) ⟨_, rfl, rfl⟩ (Nat.le_of_ble_eq_true rfl) (Nat.le_of_ble_eq_true rfl) (hA _ _ _ _ _ (g + 1) (by rw [hz]; exact sm_add g 1) (by omega) hm19 (by rw [List.length_append, List.length_cons, List.length_nil]; omega) (fun m30 hm30 => ?_))
  refine R_ireturn dX0_run_33 ⟨_, rfl, rfl⟩ ?_
  rw [List.append_assoc] at hm30
  exact h m30 hm30

set_option maxHeartbeats 4000000 in
theorem A10 {G : rn_G} {d : Nat} {m0 : Nat → Nat → Int32} {ml : Nat → Nat → Int64} {D : Nat → Nat} {N : Nat} {u : Int32} {i : Nat} (hi : m0 89 3 = nI i)  (hN : N ≤ 99) : AO G (d) m0 ml D N 10 u (u + nI i) ([]) := by
  intro κ Q mi l z g hz hg hac hl h
  show Run G _ M_X0_answerOf 0 [.ref 89, .int 10, .int u, .int z] [] _ _ _
  refine il_1 dX0_answerOf_0 ?_
  refine R_lsw (off := 91) (tgt := 92) dX0_answerOf_1 (by decide) (by decide) (by decide) ?_
  refine il_2 dX0_answerOf_92 ?_
  refine al_0 dX0_answerOf_93 ?_
  refine R_getfi dX0_answerOf_94 fl_RX0_15 rfl sh_89 (Nat.le_of_ble_eq_true rfl) ?_
  refine R_iadd dX0_answerOf_97 ?_
  refine R_ireturn dX0_answerOf_98 ⟨_, rfl, rfl⟩ ?_
  rw [List.append_nil] at h
  rw [hac.2.1 3 (by decide), hi]
  exact h mi hac

set_option maxHeartbeats 4000000 in
theorem A30 {G : rn_G} {d : Nat} {m0 : Nat → Nat → Int32} {ml : Nat → Nat → Int64} {D : Nat → Nat} {N : Nat} {u : Int32} {r : Int32} {t : List Int32} (hR : RO G d m0 ml D N 0 0 (u * 3) r t) (hN : N ≤ 99) : AO G (d + 1) m0 ml D N 30 u (r) (t) := by
  intro κ Q mi l z g hz hg hac hl h
  show Run G _ M_X0_answerOf 0 [.ref 89, .int 30, .int u, .int z] [] _ _ _
  refine il_1 dX0_answerOf_0 ?_
  refine R_lsw (off := 145) (tgt := 146) dX0_answerOf_1 (by decide) (by decide) (by decide) ?_
  refine al_0 dX0_answerOf_146 ?_
  refine R_getsN (v := .ref 1001) dX0_answerOf_147 gn_RX0_45 (by decide) ?_
  refine R_iconst (v := 2) dX0_answerOf_150 (by decide) ?_
  refine R_ialdP (r := 1) dX0_answerOf_151 (by decide) (rn_ixe (show (2 : Int32) = nI 2 from rfl)) (show 2 < 7 by decide) ?_
  refine R_iconst (v := 0) dX0_answerOf_152 (by decide) ?_
  refine il_2 dX0_answerOf_153 ?_
  refine R_iconst (v := 3) dX0_answerOf_154 (by decide) ?_
  refine R_imul dX0_answerOf_155 ?_
  refine il_3 dX0_answerOf_156 ?_
  refine cv_4 dX0_answerOf_157 mm_RX0_29 sh_89 (Nat.le_of_ble_eq_true rfl) ⟨_, rfl, rfl⟩ (Nat.le_of_ble_eq_true rfl) (Nat.le_of_ble_eq_true rfl) (hR _ _ _ _ _ _ _ g rfl rfl hz hg hac hl (fun m157 hm157 => ?_))
  refine R_ireturn dX0_answerOf_160 ⟨_, rfl, rfl⟩ ?_
  exact h m157 hm157

set_option maxHeartbeats 4000000 in
theorem A50 {G : rn_G} {d : Nat} {m0 : Nat → Nat → Int32} {ml : Nat → Nat → Int64} {D : Nat → Nat} {N : Nat} {u : Int32} {r : Int32} {t : List Int32} (hR : RO G d m0 ml D N 1 0 u r t) (hN : N ≤ 99) : AO G (d + 1) m0 ml D N 50 u (-r) (t) := by
  intro κ Q mi l z g hz hg hac hl h
  show Run G _ M_X0_answerOf 0 [.ref 89, .int 50, .int u, .int z] [] _ _ _
  refine il_1 dX0_answerOf_0 ?_
  refine R_lsw (off := 185) (tgt := 186) dX0_answerOf_1 (by decide) (by decide) (by decide) ?_
  refine al_0 dX0_answerOf_186 ?_
  refine R_getsN (v := .ref 1001) dX0_answerOf_187 gn_RX0_45 (by decide) ?_
  refine R_iconst (v := 4) dX0_answerOf_190 (by decide) ?_
  refine R_ialdP (r := 1) dX0_answerOf_191 (by decide) (rn_ixe (show (4 : Int32) = nI 4 from rfl)) (show 4 < 7 by decide) ?_
  refine R_iconst (v := 0) dX0_answerOf_192 (by decide) ?_
  refine il_2 dX0_answerOf_193 ?_
  refine il_3 dX0_answerOf_194 ?_
  refine cv_4 dX0_answerOf_195 mm_RX0_29 sh_89 (Nat.le_of_ble_eq_true rfl) ⟨_, rfl, rfl⟩ (Nat.le_of_ble_eq_true rfl) (Nat.le_of_ble_eq_true rfl) (hR _ _ _ _ _ _ _ g rfl rfl hz hg hac hl (fun m195 hm195 => ?_))
  refine R_ineg dX0_answerOf_198 ?_
  refine R_ireturn dX0_answerOf_199 ⟨_, rfl, rfl⟩ ?_
  exact h m195 hm195

set_option maxHeartbeats 4000000 in
theorem A71 {G : rn_G} {d : Nat} {m0 : Nat → Nat → Int32} {ml : Nat → Nat → Int64} {D : Nat → Nat} {N : Nat} {u : Int32} {v : Int32} (hv : m0 89 4 = v) {r : Int32} {t : List Int32} (hR : RO G d m0 ml D N 3 0 u r t) (hN : N ≤ 99) : AO G (d + 1) m0 ml D N 71 u (r ^^^ v) (t) := by
  intro κ Q mi l z g hz hg hac hl h
  show Run G _ M_X0_answerOf 0 [.ref 89, .int 71, .int u, .int z] [] _ _ _
  refine il_1 dX0_answerOf_0 ?_
  refine R_lsw (off := 260) (tgt := 261) dX0_answerOf_1 (by decide) (by decide) (by decide) ?_
  refine al_0 dX0_answerOf_261 ?_
  refine R_getsN (v := .ref 1001) dX0_answerOf_262 gn_RX0_45 (by decide) ?_
  refine R_bipush (v := 6) dX0_answerOf_265 (by decide) ?_
  refine R_ialdP (r := 1) dX0_answerOf_267 (by decide) (rn_ixe (show (6 : Int32) = nI 6 from rfl)) (show 6 < 7 by decide) ?_
  refine R_iconst (v := 0) dX0_answerOf_268 (by decide) ?_
  refine il_2 dX0_answerOf_269 ?_
  refine il_3 dX0_answerOf_270 ?_
  refine cv_4 dX0_answerOf_271 mm_RX0_29 sh_89 (Nat.le_of_ble_eq_true rfl) ⟨_, rfl, rfl⟩ (Nat.le_of_ble_eq_true rfl) (Nat.le_of_ble_eq_true rfl) (hR _ _ _ _ _ _ _ g rfl rfl hz hg hac hl (fun m271 hm271 => ?_))
  refine al_0 dX0_answerOf_274 ?_
  refine R_getfi dX0_answerOf_275 fl_RX0_28 rfl sh_89 (Nat.le_of_ble_eq_true rfl) ?_
  refine R_ixor dX0_answerOf_278 ?_
  refine R_ireturn dX0_answerOf_279 ⟨_, rfl, rfl⟩ ?_
  rw [hm271.2.1 4 (by decide), hv]
  exact h m271 hm271

set_option maxHeartbeats 4000000 in
theorem A11 {G : rn_G} {d : Nat} {m0 : Nat → Nat → Int32} {ml : Nat → Nat → Int64} {D : Nat → Nat} {N : Nat} {u : Int32} {v : Int32} (hv : m0 89 4 = v) {kd : Nat} (hkd : m0 89 2 = nI kd) {r : Int32} {t : List Int32} (hR : RO G d m0 ml D N kd 0 u r t) (hN : N ≤ 99) : AO G (d + 1) m0 ml D N 11 u (r - v) (t) := by
  intro κ Q mi l z g hz hg hac hl h
  show Run G _ M_X0_answerOf 0 [.ref 89, .int 11, .int u, .int z] [] _ _ _
  refine il_1 dX0_answerOf_0 ?_
  refine R_lsw (off := 98) (tgt := 99) dX0_answerOf_1 (by decide) (by decide) (by decide) ?_
  refine al_0 dX0_answerOf_99 ?_
  refine al_0 dX0_answerOf_100 ?_
  refine R_getfi dX0_answerOf_101 fl_RX0_24 rfl sh_89 (Nat.le_of_ble_eq_true rfl) ?_
  refine R_iconst (v := 0) dX0_answerOf_104 (by decide) ?_
  refine il_2 dX0_answerOf_105 ?_
  refine il_3 dX0_answerOf_106 ?_
  refine cv_4 dX0_answerOf_107 mm_RX0_29 sh_89 (Nat.le_of_ble_eq_true rfl) ⟨_, rfl, rfl⟩ (Nat.le_of_ble_eq_true rfl) (Nat.le_of_ble_eq_true rfl) (hR _ _ _ _ _ _ _ g ((hac.2.1 2 (by decide)).trans hkd) rfl hz hg hac hl (fun m107 hm107 => ?_))
  refine al_0 dX0_answerOf_110 ?_
  refine R_getfi dX0_answerOf_111 fl_RX0_28 rfl sh_89 (Nat.le_of_ble_eq_true rfl) ?_
  refine R_isub dX0_answerOf_114 ?_
  refine R_ireturn dX0_answerOf_115 ⟨_, rfl, rfl⟩ ?_
  rw [hm107.2.1 4 (by decide), hv]
  exact h m107 hm107

set_option maxHeartbeats 4000000 in
theorem A20 {G : rn_G} {d : Nat} {m0 : Nat → Nat → Int32} {ml : Nat → Nat → Int64} {D : Nat → Nat} {N : Nat} {u : Int32} {r : Int32} {t : List Int32} (hR : RO G d m0 ml D N 0 1 u r t) (hN : N ≤ 99) : AO G (d + 1) m0 ml D N 20 u (r ^^^ 6) (t) := by
  intro κ Q mi l z g hz hg hac hl h
  show Run G _ M_X0_answerOf 0 [.ref 89, .int 20, .int u, .int z] [] _ _ _
  refine il_1 dX0_answerOf_0 ?_
  refine R_lsw (off := 129) (tgt := 130) dX0_answerOf_1 (by decide) (by decide) (by decide) ?_
  refine al_0 dX0_answerOf_130 ?_
  refine R_getsN (v := .ref 1001) dX0_answerOf_131 gn_RX0_45 (by decide) ?_
  refine R_iconst (v := 1) dX0_answerOf_134 (by decide) ?_
  refine R_ialdP (r := 1) dX0_answerOf_135 (by decide) (rn_ixe (show (1 : Int32) = nI 1 from rfl)) (show 1 < 7 by decide) ?_
  refine R_iconst (v := 1) dX0_answerOf_136 (by decide) ?_
  refine il_2 dX0_answerOf_137 ?_
  refine il_3 dX0_answerOf_138 ?_
  refine cv_4 dX0_answerOf_139 mm_RX0_29 sh_89 (Nat.le_of_ble_eq_true rfl) ⟨_, rfl, rfl⟩ (Nat.le_of_ble_eq_true rfl) (Nat.le_of_ble_eq_true rfl) (hR _ _ _ _ _ _ _ g rfl rfl hz hg hac hl (fun m139 hm139 => ?_))
  refine R_bipush (v := 6) dX0_answerOf_142 (by decide) ?_
  refine R_ixor dX0_answerOf_144 ?_
  refine R_ireturn dX0_answerOf_145 ⟨_, rfl, rfl⟩ ?_
  exact h m139 hm139

set_option maxHeartbeats 4000000 in
theorem A51 {G : rn_G} {d : Nat} {m0 : Nat → Nat → Int32} {ml : Nat → Nat → Int64} {D : Nat → Nat} {N : Nat} {u : Int32} {r : Int32} {t : List Int32} (hR : RO G d m0 ml D N 1 1 (u + 1) r t) (hN : N ≤ 99) : AO G (d + 1) m0 ml D N 51 u (r) (t) := by
  intro κ Q mi l z g hz hg hac hl h
  show Run G _ M_X0_answerOf 0 [.ref 89, .int 51, .int u, .int z] [] _ _ _
  refine il_1 dX0_answerOf_0 ?_
  refine R_lsw (off := 199) (tgt := 200) dX0_answerOf_1 (by decide) (by decide) (by decide) ?_
  refine al_0 dX0_answerOf_200 ?_
  refine R_getsN (v := .ref 1001) dX0_answerOf_201 gn_RX0_45 (by decide) ?_
  refine R_iconst (v := 4) dX0_answerOf_204 (by decide) ?_
  refine R_ialdP (r := 1) dX0_answerOf_205 (by decide) (rn_ixe (show (4 : Int32) = nI 4 from rfl)) (show 4 < 7 by decide) ?_
  refine R_iconst (v := 1) dX0_answerOf_206 (by decide) ?_
  refine il_2 dX0_answerOf_207 ?_
  refine R_iconst (v := 1) dX0_answerOf_208 (by decide) ?_
  refine R_iadd dX0_answerOf_209 ?_
  refine il_3 dX0_answerOf_210 ?_
  refine cv_4 dX0_answerOf_211 mm_RX0_29 sh_89 (Nat.le_of_ble_eq_true rfl) ⟨_, rfl, rfl⟩ (Nat.le_of_ble_eq_true rfl) (Nat.le_of_ble_eq_true rfl) (hR _ _ _ _ _ _ _ g rfl rfl hz hg hac hl (fun m211 hm211 => ?_))
  refine R_ireturn dX0_answerOf_214 ⟨_, rfl, rfl⟩ ?_
  exact h m211 hm211

set_option maxHeartbeats 4000000 in
theorem A70 {G : rn_G} {d : Nat} {m0 : Nat → Nat → Int32} {ml : Nat → Nat → Int64} {D : Nat → Nat} {N : Nat} {u : Int32} {r s : Int32} {t t2 : List Int32} (hR : RO G d m0 ml D N 3 1 u r t) (hS : RO G d m0 ml D N 3 0 2 s t2) (hN : N ≤ 99) : AO G (d + 1) m0 ml D N 70 u (r + s) (t ++ t2) := by
  intro κ Q mi l z g hz hg hac hl h
  show Run G _ M_X0_answerOf 0 [.ref 89, .int 70, .int u, .int z] [] _ _ _
  refine il_1 dX0_answerOf_0 ?_
  refine R_lsw (off := 232) (tgt := 233) dX0_answerOf_1 (by decide) (by decide) (by decide) ?_
  refine al_0 dX0_answerOf_233 ?_
  refine R_getsN (v := .ref 1001) dX0_answerOf_234 gn_RX0_45 (by decide) ?_
  refine R_bipush (v := 6) dX0_answerOf_237 (by decide) ?_
  refine R_ialdP (r := 1) dX0_answerOf_239 (by decide) (rn_ixe (show (6 : Int32) = nI 6 from rfl)) (show 6 < 7 by decide) ?_
  refine R_iconst (v := 1) dX0_answerOf_240 (by decide) ?_
  refine il_2 dX0_answerOf_241 ?_
  refine il_3 dX0_answerOf_242 ?_
  refine cv_4 dX0_answerOf_243 mm_RX0_29 sh_89 (Nat.le_of_ble_eq_true rfl) ⟨_, rfl, rfl⟩ (Nat.le_of_ble_eq_true rfl) (Nat.le_of_ble_eq_true rfl) (hR _ _ _ _ _ _ _ g rfl rfl hz hg hac (by rw [List.length_append] at hl; omega) (fun m1 hm1 => ?_))
  refine al_0 dX0_answerOf_246 ?_
  refine R_getsN (v := .ref 1001) dX0_answerOf_247 gn_RX0_45 (by decide) ?_
  refine R_bipush (v := 6) dX0_answerOf_250 (by decide) ?_
  refine R_ialdP (r := 1) dX0_answerOf_252 (by decide) (rn_ixe (show (6 : Int32) = nI 6 from rfl)) (show 6 < 7 by decide) ?_
  refine R_iconst (v := 0) dX0_answerOf_253 (by decide) ?_
  refine R_iconst (v := 2) dX0_answerOf_254 (by decide) ?_
  refine il_3 dX0_answerOf_255 ?_
  refine cv_4 dX0_answerOf_256 mm_RX0_29 sh_89 (Nat.le_of_ble_eq_true rfl) ⟨_, rfl, rfl⟩ (Nat.le_of_ble_eq_true rfl) (Nat.le_of_ble_eq_true rfl) (hS _ _ _ _ _ _ _ g rfl rfl hz hg hm1 (by rw [List.length_append] at hl ⊢; omega) (fun m2 hm2 => ?_))
  refine R_iadd dX0_answerOf_259 ?_
  refine R_ireturn dX0_answerOf_260 ⟨_, rfl, rfl⟩ ?_
  rw [List.append_assoc] at hm2
  exact h m2 hm2

set_option maxHeartbeats 4000000 in
theorem A12 {G : rn_G} {d : Nat} {m0 : Nat → Nat → Int32} {ml : Nat → Nat → Int64} {D : Nat → Nat} {N : Nat} {u : Int32} {kd : Nat} (hkd : m0 89 2 = nI kd) {r : Int32} {t : List Int32} (hR : RO G d m0 ml D N kd 1 u r t) (hN : N ≤ 99) : AO G (d + 1) m0 ml D N 12 u (r * 2) (t) := by
  intro κ Q mi l z g hz hg hac hl h
  show Run G _ M_X0_answerOf 0 [.ref 89, .int 12, .int u, .int z] [] _ _ _
  refine il_1 dX0_answerOf_0 ?_
  refine R_lsw (off := 115) (tgt := 116) dX0_answerOf_1 (by decide) (by decide) (by decide) ?_
  refine al_0 dX0_answerOf_116 ?_
  refine al_0 dX0_answerOf_117 ?_
  refine R_getfi dX0_answerOf_118 fl_RX0_24 rfl sh_89 (Nat.le_of_ble_eq_true rfl) ?_
  refine R_iconst (v := 1) dX0_answerOf_121 (by decide) ?_
  refine il_2 dX0_answerOf_122 ?_
  refine il_3 dX0_answerOf_123 ?_
  refine cv_4 dX0_answerOf_124 mm_RX0_29 sh_89 (Nat.le_of_ble_eq_true rfl) ⟨_, rfl, rfl⟩ (Nat.le_of_ble_eq_true rfl) (Nat.le_of_ble_eq_true rfl) (hR _ _ _ _ _ _ _ g ((hac.2.1 2 (by decide)).trans hkd) rfl hz hg hac hl (fun m124 hm124 => ?_))
  refine R_iconst (v := 2) dX0_answerOf_127 (by decide) ?_
  refine R_imul dX0_answerOf_128 ?_
  refine R_ireturn dX0_answerOf_129 ⟨_, rfl, rfl⟩ ?_
  exact h m124 hm124

set_option maxHeartbeats 4000000 in
theorem A40 {G : rn_G} {d : Nat} {m0 : Nat → Nat → Int32} {ml : Nat → Nat → Int64} {D : Nat → Nat} {N : Nat} {u : Int32} {kd : Nat} (hkd : m0 89 2 = nI kd) {r s : Int32} {t t2 : List Int32} (hR : RO G d m0 ml D N 0 2 u r t) (hS : RO G d m0 ml D N kd 1 1 s t2) (hN : N ≤ 99) : AO G (d + 1) m0 ml D N 40 u (r + s) (t ++ t2) := by
  intro κ Q mi l z g hz hg hac hl h
  show Run G _ M_X0_answerOf 0 [.ref 89, .int 40, .int u, .int z] [] _ _ _
  refine il_1 dX0_answerOf_0 ?_
  refine R_lsw (off := 160) (tgt := 161) dX0_answerOf_1 (by decide) (by decide) (by decide) ?_
  refine al_0 dX0_answerOf_161 ?_
  refine R_getsN (v := .ref 1001) dX0_answerOf_162 gn_RX0_45 (by decide) ?_
  refine R_iconst (v := 3) dX0_answerOf_165 (by decide) ?_
  refine R_ialdP (r := 1) dX0_answerOf_166 (by decide) (rn_ixe (show (3 : Int32) = nI 3 from rfl)) (show 3 < 7 by decide) ?_
  refine R_iconst (v := 2) dX0_answerOf_167 (by decide) ?_
  refine il_2 dX0_answerOf_168 ?_
  refine il_3 dX0_answerOf_169 ?_
  refine cv_4 dX0_answerOf_170 mm_RX0_29 sh_89 (Nat.le_of_ble_eq_true rfl) ⟨_, rfl, rfl⟩ (Nat.le_of_ble_eq_true rfl) (Nat.le_of_ble_eq_true rfl) (hR _ _ _ _ _ _ _ g rfl rfl hz hg hac (by rw [List.length_append] at hl; omega) (fun m1 hm1 => ?_))
  refine al_0 dX0_answerOf_173 ?_
  refine al_0 dX0_answerOf_174 ?_
  refine R_getfi dX0_answerOf_175 fl_RX0_24 rfl sh_89 (Nat.le_of_ble_eq_true rfl) ?_
  refine R_iconst (v := 1) dX0_answerOf_178 (by decide) ?_
  refine R_iconst (v := 1) dX0_answerOf_179 (by decide) ?_
  refine il_3 dX0_answerOf_180 ?_
  refine cv_4 dX0_answerOf_181 mm_RX0_29 sh_89 (Nat.le_of_ble_eq_true rfl) ⟨_, rfl, rfl⟩ (Nat.le_of_ble_eq_true rfl) (Nat.le_of_ble_eq_true rfl) (hS _ _ _ _ _ _ _ g ((hm1.2.1 2 (by decide)).trans hkd) rfl hz hg hm1 (by rw [List.length_append] at hl ⊢; omega) (fun m2 hm2 => ?_))
  refine R_iadd dX0_answerOf_184 ?_
  refine R_ireturn dX0_answerOf_185 ⟨_, rfl, rfl⟩ ?_
  rw [List.append_assoc] at hm2
  exact h m2 hm2

set_option maxHeartbeats 4000000 in
theorem A60 {G : rn_G} {d : Nat} {m0 : Nat → Nat → Int32} {ml : Nat → Nat → Int64} {D : Nat → Nat} {N : Nat} {u : Int32} {i : Nat} (hi : m0 89 3 = nI i) {r : Int32} {t : List Int32} (hR : RO G d m0 ml D N 2 2 (u - nI i) r t) (hN : N ≤ 99) : AO G (d + 1) m0 ml D N 60 u (r) (t) := by
  intro κ Q mi l z g hz hg hac hl h
  have e3 : mi 89 3 = nI i := (hac.2.1 3 (by decide)).trans hi
  rw [← e3] at hR
  show Run G _ M_X0_answerOf 0 [.ref 89, .int 60, .int u, .int z] [] _ _ _
  refine il_1 dX0_answerOf_0 ?_
  refine R_lsw (off := 214) (tgt := 215) dX0_answerOf_1 (by decide) (by decide) (by decide) ?_
  refine al_0 dX0_answerOf_215 ?_
  refine R_getsN (v := .ref 1001) dX0_answerOf_216 gn_RX0_45 (by decide) ?_
  refine R_iconst (v := 5) dX0_answerOf_219 (by decide) ?_
  refine R_ialdP (r := 1) dX0_answerOf_220 (by decide) (rn_ixe (show (5 : Int32) = nI 5 from rfl)) (show 5 < 7 by decide) ?_
  refine R_iconst (v := 2) dX0_answerOf_221 (by decide) ?_
  refine il_2 dX0_answerOf_222 ?_
  refine al_0 dX0_answerOf_223 ?_
  refine R_getfi dX0_answerOf_224 fl_RX0_15 rfl sh_89 (Nat.le_of_ble_eq_true rfl) ?_
  refine R_isub dX0_answerOf_227 ?_
  refine il_3 dX0_answerOf_228 ?_
  refine cv_4 dX0_answerOf_229 mm_RX0_29 sh_89 (Nat.le_of_ble_eq_true rfl) ⟨_, rfl, rfl⟩ (Nat.le_of_ble_eq_true rfl) (Nat.le_of_ble_eq_true rfl) (hR _ _ _ _ _ _ _ g rfl rfl hz hg hac hl (fun m229 hm229 => ?_))
  refine R_ireturn dX0_answerOf_232 ⟨_, rfl, rfl⟩ ?_
  exact h m229 hm229

theorem R10 {G : rn_G} {d : Nat} {m0 : Nat → Nat → Int32} {ml : Nat → Nat → Int64} {D : Nat → Nat} {N : Nat} {u : Int32} {i : Nat} (hi : m0 89 3 = nI i) {k : Nat} (hk : k ≤ 6) (hb : bodyF 7 k 0 = 10) (hN : N ≤ 40) : RO G (d + 1) m0 ml D N k 0 u (u + nI i) [10] := run_of hb (A10 hi (by omega)) hk (by decide) hN
theorem k_7 {k : Nat} (h : k ≤ 6) : k = 0 ∨ k = 1 ∨ k = 2 ∨ k = 3 ∨ k = 4 ∨ k = 5 ∨ k = 6 := by omega

theorem RW {G : rn_G} {d : Nat} {m0 : Nat → Nat → Int32} {ml : Nat → Nat → Int64} {D : Nat → Nat} {N : Nat} {u : Int32} {i : Nat} (hi : m0 89 3 = nI i) {kd : Nat} {v : Int32} (hv : m0 89 4 = v) (hkd : m0 89 2 = nI kd) (hk6 : kd ≤ 6) (hN : N ≤ 39) : RO G (d + 3) m0 ml D N kd 0 u (wtV kd v (nI i) u) (wtT kd) := by
  rcases k_7 hk6 with rfl | rfl | rfl | rfl | rfl | rfl | rfl
  · exact R10 (d := d + 2) hi (by decide) (by decide) (by omega)
  · exact R10 (d := d + 2) hi (by decide) (by decide) (by omega)
  · exact run_of (d := d + 2) (by decide) (A30 (R10 hi (by decide) (by decide) (by omega)) (by omega)) (by decide) (by decide) (by omega)
  · exact R10 (d := d + 2) hi (by decide) (by decide) (by omega)
  · exact run_of (d := d + 2) (by decide) (A50 (R10 hi (by decide) (by decide) (by omega)) (by omega)) (by decide) (by decide) (by omega)
  · exact run_of (d := d + 2) (by decide) (A30 (R10 hi (by decide) (by decide) (by omega)) (by omega)) (by decide) (by decide) (by omega)
  · exact run_of (d := d + 2) (by decide) (A71 hv (R10 hi (by decide) (by decide) (by omega)) (by omega)) (by decide) (by decide) (by omega)

theorem R11 {G : rn_G} {d : Nat} {m0 : Nat → Nat → Int32} {ml : Nat → Nat → Int64} {D : Nat → Nat} {N : Nat} {u : Int32} {i : Nat} (hi : m0 89 3 = nI i) {kd : Nat} {v : Int32} (hv : m0 89 4 = v) (hkd : m0 89 2 = nI kd) (hk6 : kd ≤ 6) {k : Nat} (hk : k ≤ 6) (hb : bodyF 7 k 1 = 11) (hN : N ≤ 38) : RO G (d + 5) m0 ml D N k 1 u (pkV kd v (nI i) u) (pkT kd) := run_of (d := d + 4) hb (A11 hv hkd (RW hi hv hkd hk6 (by omega)) (by omega)) hk (by decide) (by omega)

theorem R20 {G : rn_G} {d : Nat} {m0 : Nat → Nat → Int32} {ml : Nat → Nat → Int64} {D : Nat → Nat} {N : Nat} {u : Int32} {i : Nat} (hi : m0 89 3 = nI i) {kd : Nat} {v : Int32} (hv : m0 89 4 = v) (hkd : m0 89 2 = nI kd) (hk6 : kd ≤ 6) {k : Nat} (hk : k ≤ 6) (hb : bodyF 7 k 1 = 20) (hN : N ≤ 37) : RO G (d + 7) m0 ml D N k 1 u (okV kd v (nI i) u) (okT0 kd) := run_of (d := d + 6) hb (A20 (R11 hi hv hkd hk6 (by decide) (by decide) (by omega)) (by omega)) hk (by decide) (by omega)

theorem RK {G : rn_G} {d : Nat} {m0 : Nat → Nat → Int32} {ml : Nat → Nat → Int64} {D : Nat → Nat} {N : Nat} {u : Int32} {i : Nat} (hi : m0 89 3 = nI i) {kd : Nat} {v : Int32} (hv : m0 89 4 = v) (hkd : m0 89 2 = nI kd) (hk6 : kd ≤ 6) (hN : N ≤ 36) : RO G (d + 9) m0 ml D N kd 1 u (wkV kd v (nI i) u) (wkT kd) := by
  rcases k_7 hk6 with rfl | rfl | rfl | rfl | rfl | rfl | rfl
  · exact R11 (d := d + 4) hi hv hkd hk6 (by decide) (by decide) (by omega)
  · exact R20 (d := d + 2) hi hv hkd hk6 (by decide) (by decide) (by omega)
  · exact R11 (d := d + 4) hi hv hkd hk6 (by decide) (by decide) (by omega)
  · exact R11 (d := d + 4) hi hv hkd hk6 (by decide) (by decide) (by omega)
  · exact run_of (d := d + 8) (by decide) (A51 (R20 hi hv hkd hk6 (by decide) (by decide) (by omega)) (by omega)) (by decide) (by decide) (by omega)
  · exact R11 (d := d + 4) hi hv hkd hk6 (by decide) (by decide) (by omega)
  · exact run_of (d := d + 8) (by decide) (A70 (R11 (d := d + 2) hi hv hkd hk6 (by decide) (by decide) (by omega)) (R10 (d := d + 6) hi (by decide) (by decide) (by omega)) (by omega)) (by decide) (by decide) (by omega)

theorem R12 {G : rn_G} {d : Nat} {m0 : Nat → Nat → Int32} {ml : Nat → Nat → Int64} {D : Nat → Nat} {N : Nat} {u : Int32} {i : Nat} (hi : m0 89 3 = nI i) {kd : Nat} {v : Int32} (hv : m0 89 4 = v) (hkd : m0 89 2 = nI kd) (hk6 : kd ≤ 6) {k : Nat} (hk : k ≤ 6) (hb : bodyF 7 k 2 = 12) (hN : N ≤ 35) : RO G (d + 11) m0 ml D N k 2 u (ptV kd v (nI i) u) (ptT kd) := run_of (d := d + 10) hb (A12 hkd (RK hi hv hkd hk6 (by omega)) (by omega)) hk (by decide) (by omega)

theorem RT {G : rn_G} {d : Nat} {m0 : Nat → Nat → Int32} {ml : Nat → Nat → Int64} {D : Nat → Nat} {N : Nat} {u : Int32} {i : Nat} (hi : m0 89 3 = nI i) {kd : Nat} {v : Int32} (hv : m0 89 4 = v) (hkd : m0 89 2 = nI kd) (hk6 : kd ≤ 6) (hN : N ≤ 34) : RO G (d + 13) m0 ml D N kd 2 u (ttV kd v (nI i) u) (ttT kd) := by
  rcases k_7 hk6 with rfl | rfl | rfl | rfl | rfl | rfl | rfl
  · exact R12 (d := d + 2) hi hv hkd hk6 (by decide) (by decide) (by omega)
  · exact R12 (d := d + 2) hi hv hkd hk6 (by decide) (by decide) (by omega)
  · exact R12 (d := d + 2) hi hv hkd hk6 (by decide) (by decide) (by omega)
  · exact run_of (d := d + 12) (by decide) (A40 hkd (R12 hi hv hkd hk6 (by decide) (by decide) (by omega)) (RK (d := d + 2) hi hv hkd hk6 (by omega)) (by omega)) (by decide) (by decide) (by omega)
  · exact R12 (d := d + 2) hi hv hkd hk6 (by decide) (by decide) (by omega)
  · exact run_of (d := d + 12) (by decide) (A60 hi (R12 hi hv hkd hk6 (by decide) (by decide) (by omega)) (by omega)) (by decide) (by decide) (by omega)
  · exact run_of (d := d + 12) (by decide) (A40 hkd (R12 hi hv hkd hk6 (by decide) (by decide) (by omega)) (RK (d := d + 2) hi hv hkd hk6 (by omega)) (by omega)) (by decide) (by decide) (by omega)

def actV (kd : Nat) (v i x : Int32) (a : Nat) : Int32 := if a = 0 then wtV kd v i x else if a = 1 then wkV kd v i x else ttV kd v i x
def actT (kd a : Nat) : List Int32 := if a = 0 then wtT kd else if a = 1 then wkT kd else ttT kd
theorem actT_l (kd a : Nat) : (actT kd a).length ≤ 12 := by
  have := wt_l kd
  have := wk_l kd
  have := tt_l kd
  unfold actT
  (repeat' split) <;> omega

theorem RA {G : rn_G} {d : Nat} {m0 : Nat → Nat → Int32} {ml : Nat → Nat → Int64} {D : Nat → Nat} {N : Nat} {u : Int32} {i : Nat} (hi : m0 89 3 = nI i) {kd : Nat} {v : Int32} (hv : m0 89 4 = v) (hkd : m0 89 2 = nI kd) (hk6 : kd ≤ 6) {a : Nat} (ha : a ≤ 2) (hN : N ≤ 34) : RO G (d + 13) m0 ml D N kd a u (actV kd v (nI i) u a) (actT kd a) := by
  have : a = 0 ∨ a = 1 ∨ a = 2 := by omega
  rcases this with rfl | rfl | rfl
  · exact RW (d := d + 10) hi hv hkd hk6 (by omega)
  · exact RK (d := d + 4) hi hv hkd hk6 (by omega)
  · exact RT hi hv hkd hk6 hN
