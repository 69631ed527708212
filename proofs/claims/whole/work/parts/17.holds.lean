/-! the reference: what a clause says; ears, steps, goals -/
def bi (b : Bool) : Int32 := if b then 1 else 0
theorem bi_bz (b : Bool) : bz (bi b) := by cases b; exact Or.inl rfl; exact Or.inr rfl
/-- a pile of truths, the newest on top -/
def PL (f : Nat → Int32) : List Bool → Prop
  | [] => True
  | b :: r => f r.length = bi b ∧ PL f r
theorem PL.ext {f g : Nat → Int32} : ∀ {st : List Bool}, PL f st → (∀ j, j < st.length → g j = f j) → PL g st
  | [], _, _ => trivial
  | b :: r, h, e => ⟨(e r.length (by simp)).trans h.1, PL.ext h.2 (fun j hj => e j (by simp; omega))⟩
theorem PL.put {mi : Nat → Nat → Int32} {st : List Bool} {v : Int32} {b : Bool} (h : PL (mi 133) st) (hv : v = bi b) : PL (rn_u mi 133 st.length v 133) (b :: st) := by
  refine ⟨?_, h.ext (fun j hj => ?_)⟩
  · simp [rn_u, hv]
  · simp only [rn_u, true_and]
    rw [if_neg (by omega)]
theorem tM_t {t : TK} (ht : okT t) (h3 : ¬ t.1 = 0) (h2 : ¬ t.1 ≤ 2) : ∃ V, V < 6000 ∧ tM t = nI V ∧ nI V / 1000 = nI t.2.1 ∧ remJ (nI V / 100) 10 = nI t.2.2.1 ∧ remJ (nI V) 100 = nI t.2.2.2 := by
  obtain ⟨k, f, s, n⟩ := t
  obtain ⟨hk, hf, hs, hn⟩ := ht
  dsimp only at hf hs hn h3 h2 hk ⊢
  refine ⟨1000 * f + 100 * s + n, by omega, ?_, ?_, ?_, ?_⟩
  · unfold tM
    dsimp only
    rw [if_neg h3, if_neg (by omega), if_neg (by omega)]
  · have := sm_div (a := 1000 * f + 100 * s + n) (c := 1000) (by omega) (by omega) (by omega)
    rw [show (1000 * f + 100 * s + n) / 1000 = f by omega] at this
    exact this
  · have h1 := sm_div (a := 1000 * f + 100 * s + n) (c := 100) (by omega) (by omega) (by omega)
    rw [show (1000 * f + 100 * s + n) / 100 = 10 * f + s by omega] at h1
    have h2 := sm_rem (a := 10 * f + s) (c := 10) (by omega) (by omega)
    rw [show (10 * f + s) % 10 = s by omega] at h2
    rw [show nI (1000 * f + 100 * s + n) / 100 = nI (10 * f + s) from h1]
    exact h2
  · have := sm_rem (a := 1000 * f + 100 * s + n) (c := 100) (by omega) (by omega)
    rw [show (1000 * f + 100 * s + n) % 100 = n by omega] at this
    exact this

set_option maxHeartbeats 4000000 in
theorem M_factOf {G : rn_G} {d : Nat} {κ : Nat × Nat} {Q : Option Value → rn_S → Prop} {mi : Nat → Nat → Int32} {ml : Nat → Nat → Int64} {D : Nat → Nat} {x y : Int32} {f p : Nat} (hx : x = nI f) (hf : f ≤ 5) (hy : y = nI p) (hp : p < 6) (hfd : ∃ a, a < 64 ∧ mi 121 p = nI a) (h : Q (some (.int (factF y (mi 118 p) (mi 119 p) (mi 120 p) (mi 121 p) (mi 116 2) f))) (mi, ml, RF D, 164)) : Call G (d + 1) M_X9_factOf [.ref 116, .int x, .int y] (mi, ml, RF D, 164) κ Q := by
  show Run G _ M_X9_factOf 0 [.ref 116, .int x, .int y] [] _ _ _
  obtain ⟨fd, hfd2, efd⟩ := hfd
  refine il_1 dX9_factOf_0 ?_
  by_cases w1_0 : x = 0
  · refine R_tswI (tgt := 36) dX9_factOf_1 0 w1_0 (by decide) (by decide) rfl (by decide) ?_
    refine il_2 dX9_factOf_36 ?_
    refine R_ireturn dX9_factOf_37 ⟨_, rfl, rfl⟩ ?_
    obtain rfl : f = 0 := sm_inj (by omega) (by decide) (hx.symm.trans w1_0)
    exact h
  by_cases w1_1 : x = 1
  · refine R_tswI (tgt := 38) dX9_factOf_1 1 w1_1 (by decide) (by decide) rfl (by decide) ?_
    refine al_0 dX9_factOf_38 ?_
    refine R_getfr (r := 118) dX9_factOf_39 fl_RX9_41 rfl sh_116 (Nat.le_of_ble_eq_true rfl) rf_116_10 ?_
    refine il_2 dX9_factOf_42 ?_
    refine R_iald dX9_factOf_43 sh_118 (Nat.le_of_ble_eq_true rfl) (rn_ixe hy) hp ?_
    refine R_ireturn dX9_factOf_44 ⟨_, rfl, rfl⟩ ?_
    obtain rfl : f = 1 := sm_inj (by omega) (by decide) (hx.symm.trans w1_1)
    exact h
  by_cases w1_2 : x = 2
  · refine R_tswI (tgt := 45) dX9_factOf_1 2 w1_2 (by decide) (by decide) rfl (by decide) ?_
    refine al_0 dX9_factOf_45 ?_
    refine R_getfr (r := 119) dX9_factOf_46 fl_RX9_44 rfl sh_116 (Nat.le_of_ble_eq_true rfl) rf_116_11 ?_
    refine il_2 dX9_factOf_49 ?_
    refine R_iald dX9_factOf_50 sh_119 (Nat.le_of_ble_eq_true rfl) (rn_ixe hy) hp ?_
    refine R_ireturn dX9_factOf_51 ⟨_, rfl, rfl⟩ ?_
    obtain rfl : f = 2 := sm_inj (by omega) (by decide) (hx.symm.trans w1_2)
    exact h
  by_cases w1_3 : x = 3
  · refine R_tswI (tgt := 52) dX9_factOf_1 3 w1_3 (by decide) (by decide) rfl (by decide) ?_
    refine al_0 dX9_factOf_52 ?_
    refine R_getfr (r := 120) dX9_factOf_53 fl_RX9_47 rfl sh_116 (Nat.le_of_ble_eq_true rfl) rf_116_12 ?_
    refine il_2 dX9_factOf_56 ?_
    refine R_iald dX9_factOf_57 sh_120 (Nat.le_of_ble_eq_true rfl) (rn_ixe hy) hp ?_
    refine R_ireturn dX9_factOf_58 ⟨_, rfl, rfl⟩ ?_
    obtain rfl : f = 3 := sm_inj (by omega) (by decide) (hx.symm.trans w1_3)
    exact h
  by_cases w1_4 : x = 4
  · refine R_tswI (tgt := 59) dX9_factOf_1 4 w1_4 (by decide) (by decide) rfl (by decide) ?_
    refine al_0 dX9_factOf_59 ?_
    refine al_0 dX9_factOf_60 ?_
    refine R_getfr (r := 121) dX9_factOf_61 fl_RX9_50 rfl sh_116 (Nat.le_of_ble_eq_true rfl) rf_116_13 ?_
    refine il_2 dX9_factOf_64 ?_
    refine R_iald dX9_factOf_65 sh_121 (Nat.le_of_ble_eq_true rfl) (rn_ixe hy) hp ?_
    refine cv_1 dX9_factOf_66 mm_RX9_375 sh_116 (Nat.le_of_ble_eq_true rfl) ⟨_, rfl, rfl⟩ (Nat.le_of_ble_eq_true rfl) (Nat.le_of_ble_eq_true rfl) (M_ones efd hfd2 ?_)
    refine R_ireturn dX9_factOf_69 ⟨_, rfl, rfl⟩ ?_
    obtain rfl : f = 4 := sm_inj (by omega) (by decide) (hx.symm.trans w1_4)
    exact h
  refine R_tswO (tgt := 70) dX9_factOf_1 (by have w1_0' := lv_neT (a := 0) w1_0 rfl; have w1_1' := lv_neT (a := 1) w1_1 rfl; have w1_2' := lv_neT (a := 2) w1_2 rfl; have w1_3' := lv_neT (a := 3) w1_3 rfl; have w1_4' := lv_neT (a := 4) w1_4 rfl; omega) (by decide) ?_
  refine al_0 dX9_factOf_70 ?_
  refine R_getfi dX9_factOf_71 fl_RX9_16 rfl sh_116 (Nat.le_of_ble_eq_true rfl) ?_
  refine R_bipush (v := 10) dX9_factOf_74 (by decide) ?_
  refine R_irem dX9_factOf_76 (by decide) ?_
  refine R_ireturn dX9_factOf_77 ⟨_, rfl, rfl⟩ ?_
  have n5 : f = 5 := by
    have n0 : f ≠ 0 := fun e => w1_0 (by rw [hx, e]; rfl)
    have n1 : f ≠ 1 := fun e => w1_1 (by rw [hx, e]; rfl)
    have n2 : f ≠ 2 := fun e => w1_2 (by rw [hx, e]; rfl)
    have n3 : f ≠ 3 := fun e => w1_3 (by rw [hx, e]; rfl)
    have n4 : f ≠ 4 := fun e => w1_4 (by rw [hx, e]; rfl)
    omega
  subst n5
  exact h

set_option maxHeartbeats 8000000 in
theorem L_holds {G : rn_G} {d : Nat} {κ : Nat × Nat} {Q : Option Value → rn_S → Prop} {mi : Nat → Nat → Int32} {ml : Nat → Nat → Int64} {D : Nat → Nat} {E p c0 : Nat} {x y : Int32} (hx : rn_ix x c0) (hc0 : c0 < 60) (hto : mi 129 c0 = nI E) (hE : E ≤ 600) (hy : y = nI p) (hp : p < 6) (hfd : ∃ a, a < 64 ∧ mi 121 p = nI a) (b : Bool) (h1 : ∀ m, (∀ a, a ≠ 133 → m a = mi a) → b = true → Q (some (.int 1)) (m, ml, RF D, 164)) (h0 : ∀ m, (∀ a, a ≠ 133 → m a = mi a) → b = false → Q (some (.int 0)) (m, ml, RF D, 164)) :
  ∀ (l : List TK) (k : Nat) (st : List Bool) (m : Nat → Nat → Int32) (n kk : Int32) (v5 v6 v7 : Value), kk = nI k → n = nI st.length → k + l.length = E → wfK l st.length 1 → st.length ≤ 30 → PL (m 133) st → (∀ a, a ≠ 133 → m a = mi a) → (∀ j t, l[j]? = some t → mi 130 (k + j) = tM t) → (evK (factF y (mi 118 p) (mi 119 p) (mi 120 p) (mi 121 p) (mi 116 2)) l st).headD false = b → Run G (d + 2) M_X9_holds 10 [.ref 116, .int x, .int y, .int n, .int kk, v5, v6, v7] [] (m, ml, RF D, 164) κ Q := by
  intro l
  induction l with
  | nil =>
    intro k st m n kk v5 v6 v7 hkk hn hk hw hl hP hm hs hb
    have e129 : m 129 c0 = nI E := by rw [hm 129 (by decide)]; exact hto
    match st, hw, hP, hb with
    | [b1], _, hP, hb =>
      have e0 : m 133 0 = bi b1 := hP.1
      have hb1 : b1 = b := hb
      refine il_4 dX9_holds_10 ?_
      refine al_0 dX9_holds_12 ?_
      refine R_getfr (r := 129) dX9_holds_13 fl_RX9_89 rfl sh_116 (Nat.le_of_ble_eq_true rfl) rf_116_26 ?_
      refine il_1 dX9_holds_16 ?_
      refine R_iald dX9_holds_17 sh_129 (Nat.le_of_ble_eq_true rfl) hx hc0 ?_
      refine R_icmp_ge (tgt := 243) dX9_holds_18 (by decide) (fun c18 => ?_) (fun q => absurd q (not_not_intro (by rw [e129, hkk]; exact nI_le (by simp at hk; omega) (by omega))))
      refine al_0 dX9_holds_243 ?_
      refine R_getfr (r := 133) dX9_holds_244 fl_RX9_119 rfl sh_116 (Nat.le_of_ble_eq_true rfl) rf_116_36 ?_
      refine R_iconst (v := 0) dX9_holds_247 (by decide) ?_
      refine R_zald dX9_holds_248 sh_133 (Nat.le_of_ble_eq_true rfl) (j := 0) ⟨by decide, by decide⟩ (by decide) ?_
      refine R_ireturn dX9_holds_249 ⟨_, rfl, (bz_n (by rw [e0]; exact bi_bz b1))⟩ ?_
      rw [e0, hb1]
      cases b
      · exact h0 m hm rfl
      · exact h1 m hm rfl
  | cons t l ih =>
    intro k st m n kk v5 v6 v7 hkk hn hk hw hl hP hm hs hb
    rw [List.length_cons] at hk
    have e129 : m 129 c0 = nI E := by rw [hm 129 (by decide)]; exact hto
    have hk6 : k < 600 := by omega
    have hkx : rn_ix kk k := rn_ixe hkk
    have e5 : m 130 k = tM t := by rw [hm 130 (by decide)]; exact hs 0 t rfl
    have hs2 : ∀ j u, l[j]? = some u → mi 130 (k + 1 + j) = tM u := fun j u hj => by rw [show k + 1 + j = k + (j + 1) by omega]; exact hs (j + 1) u hj
    have hkk2 : kk + 1 = nI (k + 1) := by rw [hkk]; exact sm_add k 1
    obtain ⟨hok, hst, n', hn30, hn2, hw2⟩ := wfK_step hw hl
    have hm2 : ∀ j v, ∀ a, a ≠ 133 → rn_u m 133 j v a = mi a := fun j v a ha => by rw [rn_u_ne ha]; exact hm a ha
    have hb : (evK (factF y (mi 118 p) (mi 119 p) (mi 120 p) (mi 121 p) (mi 116 2)) l (stepK (factF y (mi 118 p) (mi 119 p) (mi 120 p) (mi 121 p) (mi 116 2)) st t)).headD false = b := hb
    unfold stepK at hb
    by_cases t0 : t.1 = 0
    · rw [if_pos t0] at hst hn2 hb
      have e33 : m 130 k = -33 := by rw [e5]; unfold tM; rw [if_pos t0]
      match st, hst, hP, hn, hl, hn2, hb with
      | a :: r, _, hP, hn, hl, hn2, hb =>
        rw [List.length_cons] at hn hl hn2
        have hn1 : n - 1 = nI r.length := by rw [hn]; exact sm_sub (a := r.length + 1) (b := 1) (by omega)
        have hr : r.length < 100 := by omega
        have ea : m 133 r.length = bi a := hP.1
        subst hn2
        refine il_4 dX9_holds_10 ?_
        refine al_0 dX9_holds_12 ?_
        refine R_getfr (r := 129) dX9_holds_13 fl_RX9_89 rfl sh_116 (Nat.le_of_ble_eq_true rfl) rf_116_26 ?_
        refine il_1 dX9_holds_16 ?_
        refine R_iald dX9_holds_17 sh_129 (Nat.le_of_ble_eq_true rfl) hx hc0 ?_
        refine R_icmp_ge (tgt := 243) dX9_holds_18 (by decide) (fun q => absurd q (by rw [e129, hkk]; exact nI_ge (by omega) (by omega))) (fun c18 => ?_)
        refine al_0 dX9_holds_21 ?_
        refine R_getfr (r := 130) dX9_holds_22 fl_RX9_92 rfl sh_116 (Nat.le_of_ble_eq_true rfl) rf_116_27 ?_
        refine il_4 dX9_holds_25 ?_
        refine R_iald dX9_holds_27 sh_130 (Nat.le_of_ble_eq_true rfl) hkx hk6 ?_
        refine is_5 dX9_holds_28 rfl ?_
        refine il_5 dX9_holds_30 ?_
        refine R_bipush (v := -33) dX9_holds_32 (by decide) ?_
        refine R_icmp_ne (tgt := 64) dX9_holds_34 (by decide) (fun q => absurd q (not_not_intro e33)) (fun c34 => ?_)
        refine al_0 dX9_holds_37 ?_
        refine R_getfr (r := 133) dX9_holds_38 fl_RX9_119 rfl sh_116 (Nat.le_of_ble_eq_true rfl) rf_116_36 ?_
        refine il_3 dX9_holds_41 ?_
        refine R_iconst (v := 1) dX9_holds_42 (by decide) ?_
        refine R_isub dX9_holds_43 ?_
        refine al_0 dX9_holds_44 ?_
        refine R_getfr (r := 133) dX9_holds_45 fl_RX9_119 rfl sh_116 (Nat.le_of_ble_eq_true rfl) rf_116_36 ?_
        refine il_3 dX9_holds_48 ?_
        refine R_iconst (v := 1) dX9_holds_49 (by decide) ?_
        refine R_isub dX9_holds_50 ?_
        refine R_zald dX9_holds_51 sh_133 (Nat.le_of_ble_eq_true rfl) (rn_ixe hn1) hr ?_
        refine R_if_ne (tgt := 59) dX9_holds_52 (by decide) (fun c52 => ?_) (fun c52 => ?_)
        · refine R_iconst (v := 0) dX9_holds_59 (by decide) ?_
          refine R_zast dX9_holds_60 sh_133 (Nat.le_of_ble_eq_true rfl) (rn_ixe hn1) hr (y := 0) rfl ?_
          refine R_goto (tgt := 237) dX9_holds_61 (by decide) ?_
          refine ii_4 (v := _ + 1) dX9_holds_237 rfl (by rfl) ?_
          refine R_goto (tgt := 10) dX9_holds_240 (by decide) ?_
          refine ih (k + 1) ((!a) :: r) _ _ _ _ _ _ hkk2 hn (by omega) hw2 (by simp; omega) (hP.2.put ?_) (hm2 _ _) hs2 hb
          rw [ea] at c52
          first | exact (by decide : ∀ a : Bool, bi a = 0 → (1 : Int32) = bi (!a)) a c52 | exact (by decide : ∀ a : Bool, ¬ bi a = 0 → (0 : Int32) = bi (!a)) a c52
        · refine R_iconst (v := 1) dX9_holds_55 (by decide) ?_
          refine R_goto (tgt := 60) dX9_holds_56 (by decide) ?_
          refine R_zast dX9_holds_60 sh_133 (Nat.le_of_ble_eq_true rfl) (rn_ixe hn1) hr (y := 1) rfl ?_
          refine R_goto (tgt := 237) dX9_holds_61 (by decide) ?_
          refine ii_4 (v := _ + 1) dX9_holds_237 rfl (by rfl) ?_
          refine R_goto (tgt := 10) dX9_holds_240 (by decide) ?_
          refine ih (k + 1) ((!a) :: r) _ _ _ _ _ _ hkk2 hn (by omega) hw2 (by simp; omega) (hP.2.put ?_) (hm2 _ _) hs2 hb
          rw [ea] at c52
          first | exact (by decide : ∀ a : Bool, bi a = 0 → (1 : Int32) = bi (!a)) a c52 | exact (by decide : ∀ a : Bool, ¬ bi a = 0 → (0 : Int32) = bi (!a)) a c52
    · rw [if_neg t0] at hst hn2 hb
      by_cases t2 : t.1 ≤ 2
      · rw [if_pos t2] at hst hn2
        have n33 : ¬ m 130 k = -33 := by rw [e5]; unfold tM; rw [if_neg t0]; by_cases t1 : t.1 = 1; rw [if_pos t1]; decide; rw [if_neg t1, if_pos (by omega)]; decide
        have nge : ¬ 0 ≤ m 130 k := by rw [e5]; unfold tM; rw [if_neg t0]; by_cases t1 : t.1 = 1; rw [if_pos t1]; decide; rw [if_neg t1, if_pos (by omega)]; decide
        match st, hst, hP, hn, hl, hn2, hb with
        | b2 :: a :: r, _, hP, hn, hl, hn2, hb =>
          simp only [List.length_cons] at hn hl hn2
          have hnm : n + -1 = nI (r.length + 1) := by rw [hn, ← Int32.sub_eq_add_neg]; exact sm_sub (a := r.length + 2) (b := 1) (by omega)
          have hnm1 : n + -1 - 1 = nI r.length := by rw [hnm]; exact sm_sub (a := r.length + 1) (b := 1) (by omega)
          have hr : r.length < 100 := by omega
          have hr1 : r.length + 1 < 100 := by omega
          have ea : m 133 r.length = bi a := hP.2.1
          have eb : m 133 (r.length + 1) = bi b2 := hP.1
          subst hn2
          by_cases t1 : t.1 = 1
          · rw [if_pos t1] at hb
            have e38 : m 130 k = -38 := by rw [e5]; unfold tM; rw [if_neg t0, if_pos t1]
            refine il_4 dX9_holds_10 ?_
            refine al_0 dX9_holds_12 ?_
            refine R_getfr (r := 129) dX9_holds_13 fl_RX9_89 rfl sh_116 (Nat.le_of_ble_eq_true rfl) rf_116_26 ?_
            refine il_1 dX9_holds_16 ?_
            refine R_iald dX9_holds_17 sh_129 (Nat.le_of_ble_eq_true rfl) hx hc0 ?_
            refine R_icmp_ge (tgt := 243) dX9_holds_18 (by decide) (fun q => absurd q (by rw [e129, hkk]; exact nI_ge (by omega) (by omega))) (fun c18 => ?_)
            refine al_0 dX9_holds_21 ?_
            refine R_getfr (r := 130) dX9_holds_22 fl_RX9_92 rfl sh_116 (Nat.le_of_ble_eq_true rfl) rf_116_27 ?_
            refine il_4 dX9_holds_25 ?_
            refine R_iald dX9_holds_27 sh_130 (Nat.le_of_ble_eq_true rfl) hkx hk6 ?_
            refine is_5 dX9_holds_28 rfl ?_
            refine il_5 dX9_holds_30 ?_
            refine R_bipush (v := -33) dX9_holds_32 (by decide) ?_
            refine R_icmp_ne (tgt := 64) dX9_holds_34 (by decide) (fun c34 => ?_) (fun q => absurd q (n33))
            refine il_5 dX9_holds_64 ?_
            refine R_if_ge (tgt := 143) dX9_holds_66 (by decide) (fun q => absurd q (nge)) (fun c66 => ?_)
            refine ii_3 (v := _ + (-1)) dX9_holds_69 rfl (by rfl) ?_
            refine al_0 dX9_holds_72 ?_
            refine R_getfr (r := 133) dX9_holds_73 fl_RX9_119 rfl sh_116 (Nat.le_of_ble_eq_true rfl) rf_116_36 ?_
            refine il_3 dX9_holds_76 ?_
            refine R_iconst (v := 1) dX9_holds_77 (by decide) ?_
            refine R_isub dX9_holds_78 ?_
            refine il_5 dX9_holds_79 ?_
            refine R_bipush (v := -38) dX9_holds_81 (by decide) ?_
            refine R_icmp_ne (tgt := 114) dX9_holds_83 (by decide) (fun q => absurd q (not_not_intro e38)) (fun c83 => ?_)
            refine al_0 dX9_holds_86 ?_
            refine R_getfr (r := 133) dX9_holds_87 fl_RX9_119 rfl sh_116 (Nat.le_of_ble_eq_true rfl) rf_116_36 ?_
            refine il_3 dX9_holds_90 ?_
            refine R_iconst (v := 1) dX9_holds_91 (by decide) ?_
            refine R_isub dX9_holds_92 ?_
            refine R_zald dX9_holds_93 sh_133 (Nat.le_of_ble_eq_true rfl) (rn_ixe hnm1) hr ?_
            refine R_if_eq (tgt := 110) dX9_holds_94 (by decide) (fun c94 => ?_) (fun c94 => ?_)
            · refine R_iconst (v := 0) dX9_holds_110 (by decide) ?_
              refine R_goto (tgt := 139) dX9_holds_111 (by decide) ?_
              refine R_zast dX9_holds_139 sh_133 (Nat.le_of_ble_eq_true rfl) (rn_ixe hnm1) hr (y := 0) rfl ?_
              refine R_goto (tgt := 237) dX9_holds_140 (by decide) ?_
              refine ii_4 (v := _ + 1) dX9_holds_237 rfl (by rfl) ?_
              refine R_goto (tgt := 10) dX9_holds_240 (by decide) ?_
              refine ih (k + 1) ((a && b2) :: r) _ _ _ _ _ _ hkk2 hnm (by omega) hw2 (by simp; omega) (hP.2.2.put ?_) (hm2 _ _) hs2 hb
              rw [ea] at c94
              first
                | exact (by decide : ∀ a b : Bool, bi a = 0 → (0 : Int32) = bi (a && b)) a b2 c94
                | (rw [eb] at c103; first | exact (by decide : ∀ a b : Bool, bi b = 0 → (0 : Int32) = bi (a && b)) a b2 c103 | exact (by decide : ∀ a b : Bool, ¬ bi a = 0 → ¬ bi b = 0 → (1 : Int32) = bi (a && b)) a b2 c94 c103)
            · refine al_0 dX9_holds_97 ?_
              refine R_getfr (r := 133) dX9_holds_98 fl_RX9_119 rfl sh_116 (Nat.le_of_ble_eq_true rfl) rf_116_36 ?_
              refine il_3 dX9_holds_101 ?_
              refine R_zald dX9_holds_102 sh_133 (Nat.le_of_ble_eq_true rfl) (rn_ixe hnm) hr1 ?_
              refine R_if_eq (tgt := 110) dX9_holds_103 (by decide) (fun c103 => ?_) (fun c103 => ?_)
              · refine R_iconst (v := 0) dX9_holds_110 (by decide) ?_
                refine R_goto (tgt := 139) dX9_holds_111 (by decide) ?_
                refine R_zast dX9_holds_139 sh_133 (Nat.le_of_ble_eq_true rfl) (rn_ixe hnm1) hr (y := 0) rfl ?_
                refine R_goto (tgt := 237) dX9_holds_140 (by decide) ?_
                refine ii_4 (v := _ + 1) dX9_holds_237 rfl (by rfl) ?_
                refine R_goto (tgt := 10) dX9_holds_240 (by decide) ?_
                refine ih (k + 1) ((a && b2) :: r) _ _ _ _ _ _ hkk2 hnm (by omega) hw2 (by simp; omega) (hP.2.2.put ?_) (hm2 _ _) hs2 hb
                rw [ea] at c94
                first
                  | exact (by decide : ∀ a b : Bool, bi a = 0 → (0 : Int32) = bi (a && b)) a b2 c94
                  | (rw [eb] at c103; first | exact (by decide : ∀ a b : Bool, bi b = 0 → (0 : Int32) = bi (a && b)) a b2 c103 | exact (by decide : ∀ a b : Bool, ¬ bi a = 0 → ¬ bi b = 0 → (1 : Int32) = bi (a && b)) a b2 c94 c103)
              · refine R_iconst (v := 1) dX9_holds_106 (by decide) ?_
                refine R_goto (tgt := 139) dX9_holds_107 (by decide) ?_
                refine R_zast dX9_holds_139 sh_133 (Nat.le_of_ble_eq_true rfl) (rn_ixe hnm1) hr (y := 1) rfl ?_
                refine R_goto (tgt := 237) dX9_holds_140 (by decide) ?_
                refine ii_4 (v := _ + 1) dX9_holds_237 rfl (by rfl) ?_
                refine R_goto (tgt := 10) dX9_holds_240 (by decide) ?_
                refine ih (k + 1) ((a && b2) :: r) _ _ _ _ _ _ hkk2 hnm (by omega) hw2 (by simp; omega) (hP.2.2.put ?_) (hm2 _ _) hs2 hb
                rw [ea] at c94
                first
                  | exact (by decide : ∀ a b : Bool, bi a = 0 → (0 : Int32) = bi (a && b)) a b2 c94
                  | (rw [eb] at c103; first | exact (by decide : ∀ a b : Bool, bi b = 0 → (0 : Int32) = bi (a && b)) a b2 c103 | exact (by decide : ∀ a b : Bool, ¬ bi a = 0 → ¬ bi b = 0 → (1 : Int32) = bi (a && b)) a b2 c94 c103)
          · rw [if_neg t1, if_pos (by omega)] at hb
            have n38 : ¬ m 130 k = -38 := by rw [e5]; unfold tM; rw [if_neg t0, if_neg t1, if_pos (by omega)]; decide
            refine il_4 dX9_holds_10 ?_
            refine al_0 dX9_holds_12 ?_
            refine R_getfr (r := 129) dX9_holds_13 fl_RX9_89 rfl sh_116 (Nat.le_of_ble_eq_true rfl) rf_116_26 ?_
            refine il_1 dX9_holds_16 ?_
            refine R_iald dX9_holds_17 sh_129 (Nat.le_of_ble_eq_true rfl) hx hc0 ?_
            refine R_icmp_ge (tgt := 243) dX9_holds_18 (by decide) (fun q => absurd q (by rw [e129, hkk]; exact nI_ge (by omega) (by omega))) (fun c18 => ?_)
            refine al_0 dX9_holds_21 ?_
            refine R_getfr (r := 130) dX9_holds_22 fl_RX9_92 rfl sh_116 (Nat.le_of_ble_eq_true rfl) rf_116_27 ?_
            refine il_4 dX9_holds_25 ?_
            refine R_iald dX9_holds_27 sh_130 (Nat.le_of_ble_eq_true rfl) hkx hk6 ?_
            refine is_5 dX9_holds_28 rfl ?_
            refine il_5 dX9_holds_30 ?_
            refine R_bipush (v := -33) dX9_holds_32 (by decide) ?_
            refine R_icmp_ne (tgt := 64) dX9_holds_34 (by decide) (fun c34 => ?_) (fun q => absurd q (n33))
            refine il_5 dX9_holds_64 ?_
            refine R_if_ge (tgt := 143) dX9_holds_66 (by decide) (fun q => absurd q (nge)) (fun c66 => ?_)
            refine ii_3 (v := _ + (-1)) dX9_holds_69 rfl (by rfl) ?_
            refine al_0 dX9_holds_72 ?_
            refine R_getfr (r := 133) dX9_holds_73 fl_RX9_119 rfl sh_116 (Nat.le_of_ble_eq_true rfl) rf_116_36 ?_
            refine il_3 dX9_holds_76 ?_
            refine R_iconst (v := 1) dX9_holds_77 (by decide) ?_
            refine R_isub dX9_holds_78 ?_
            refine il_5 dX9_holds_79 ?_
            refine R_bipush (v := -38) dX9_holds_81 (by decide) ?_
            refine R_icmp_ne (tgt := 114) dX9_holds_83 (by decide) (fun c83 => ?_) (fun q => absurd q (n38))
            refine al_0 dX9_holds_114 ?_
            refine R_getfr (r := 133) dX9_holds_115 fl_RX9_119 rfl sh_116 (Nat.le_of_ble_eq_true rfl) rf_116_36 ?_
            refine il_3 dX9_holds_118 ?_
            refine R_iconst (v := 1) dX9_holds_119 (by decide) ?_
            refine R_isub dX9_holds_120 ?_
            refine R_zald dX9_holds_121 sh_133 (Nat.le_of_ble_eq_true rfl) (rn_ixe hnm1) hr ?_
            refine R_if_ne (tgt := 134) dX9_holds_122 (by decide) (fun c122 => ?_) (fun c122 => ?_)
            · refine R_iconst (v := 1) dX9_holds_134 (by decide) ?_
              refine R_goto (tgt := 139) dX9_holds_135 (by decide) ?_
              refine R_zast dX9_holds_139 sh_133 (Nat.le_of_ble_eq_true rfl) (rn_ixe hnm1) hr (y := 1) rfl ?_
              refine R_goto (tgt := 237) dX9_holds_140 (by decide) ?_
              refine ii_4 (v := _ + 1) dX9_holds_237 rfl (by rfl) ?_
              refine R_goto (tgt := 10) dX9_holds_240 (by decide) ?_
              refine ih (k + 1) ((a || b2) :: r) _ _ _ _ _ _ hkk2 hnm (by omega) hw2 (by simp; omega) (hP.2.2.put ?_) (hm2 _ _) hs2 hb
              rw [ea] at c122
              first
                | exact (by decide : ∀ a b : Bool, ¬ bi a = 0 → (1 : Int32) = bi (a || b)) a b2 c122
                | (rw [eb] at c131; first | exact (by decide : ∀ a b : Bool, bi a = 0 → bi b = 0 → (0 : Int32) = bi (a || b)) a b2 c122 c131 | exact (by decide : ∀ a b : Bool, ¬ bi b = 0 → (1 : Int32) = bi (a || b)) a b2 c131)
            · refine al_0 dX9_holds_125 ?_
              refine R_getfr (r := 133) dX9_holds_126 fl_RX9_119 rfl sh_116 (Nat.le_of_ble_eq_true rfl) rf_116_36 ?_
              refine il_3 dX9_holds_129 ?_
              refine R_zald dX9_holds_130 sh_133 (Nat.le_of_ble_eq_true rfl) (rn_ixe hnm) hr1 ?_
              refine R_if_eq (tgt := 138) dX9_holds_131 (by decide) (fun c131 => ?_) (fun c131 => ?_)
              · refine R_iconst (v := 0) dX9_holds_138 (by decide) ?_
                refine R_zast dX9_holds_139 sh_133 (Nat.le_of_ble_eq_true rfl) (rn_ixe hnm1) hr (y := 0) rfl ?_
                refine R_goto (tgt := 237) dX9_holds_140 (by decide) ?_
                refine ii_4 (v := _ + 1) dX9_holds_237 rfl (by rfl) ?_
                refine R_goto (tgt := 10) dX9_holds_240 (by decide) ?_
                refine ih (k + 1) ((a || b2) :: r) _ _ _ _ _ _ hkk2 hnm (by omega) hw2 (by simp; omega) (hP.2.2.put ?_) (hm2 _ _) hs2 hb
                rw [ea] at c122
                first
                  | exact (by decide : ∀ a b : Bool, ¬ bi a = 0 → (1 : Int32) = bi (a || b)) a b2 c122
                  | (rw [eb] at c131; first | exact (by decide : ∀ a b : Bool, bi a = 0 → bi b = 0 → (0 : Int32) = bi (a || b)) a b2 c122 c131 | exact (by decide : ∀ a b : Bool, ¬ bi b = 0 → (1 : Int32) = bi (a || b)) a b2 c131)
              · refine R_iconst (v := 1) dX9_holds_134 (by decide) ?_
                refine R_goto (tgt := 139) dX9_holds_135 (by decide) ?_
                refine R_zast dX9_holds_139 sh_133 (Nat.le_of_ble_eq_true rfl) (rn_ixe hnm1) hr (y := 1) rfl ?_
                refine R_goto (tgt := 237) dX9_holds_140 (by decide) ?_
                refine ii_4 (v := _ + 1) dX9_holds_237 rfl (by rfl) ?_
                refine R_goto (tgt := 10) dX9_holds_240 (by decide) ?_
                refine ih (k + 1) ((a || b2) :: r) _ _ _ _ _ _ hkk2 hnm (by omega) hw2 (by simp; omega) (hP.2.2.put ?_) (hm2 _ _) hs2 hb
                rw [ea] at c122
                first
                  | exact (by decide : ∀ a b : Bool, ¬ bi a = 0 → (1 : Int32) = bi (a || b)) a b2 c122
                  | (rw [eb] at c131; first | exact (by decide : ∀ a b : Bool, bi a = 0 → bi b = 0 → (0 : Int32) = bi (a || b)) a b2 c122 c131 | exact (by decide : ∀ a b : Bool, ¬ bi b = 0 → (1 : Int32) = bi (a || b)) a b2 c131)
        | [_], hst, _, _, _, _, _ => simp at hst
      · rw [if_neg t2] at hst hn2
        rw [if_neg (by omega), if_neg (by omega)] at hb
        obtain ⟨V, hV, eV, eF, eS, eN⟩ := tM_t hok t0 t2
        rw [eV] at e5
        have n33 : ¬ m 130 k = -33 := by rw [e5]; exact fun q => nI_pos (show V < 2 ^ 31 by omega) (by rw [q]; decide)
        have nge : 0 ≤ m 130 k := by rw [e5]; exact Int32.not_lt.mp (nI_pos (by omega))
        have eF : m 130 k / 1000 = nI t.2.1 := by rw [e5]; exact eF
        have eS : m 130 k / 100 - m 130 k / 100 / 10 * 10 = nI t.2.2.1 := by rw [e5]; exact eS
        have eN : m 130 k - m 130 k / 100 * 100 = nI t.2.2.2 := by rw [e5]; exact eN
        have hfd2 : ∃ a, a < 64 ∧ m 121 p = nI a := by rw [hm 121 (by decide)]; exact hfd
        have eFF : factF y (m 118 p) (m 119 p) (m 120 p) (m 121 p) (m 116 2) = (factF y (mi 118 p) (mi 119 p) (mi 120 p) (mi 121 p) (mi 116 2)) := by rw [hm 118 (by decide), hm 119 (by decide), hm 120 (by decide), hm 121 (by decide), hm 116 (by decide)]
        have hl6 : st.length < 100 := by omega
        have hn1 : n + 1 = nI (st.length + 1) := by rw [hn]; exact sm_add st.length 1
        subst hn2
        have s01 : t.2.2.1 ≤ 2 := hok.2.2.1
        have zs : ∀ v, v ≤ 2 → (nI t.2.2.1 = nI v ↔ t.2.2.1 = v) := fun v hv => ⟨fun q => sm_inj (by omega) (by omega) q, fun q => by rw [q]⟩
        refine il_4 dX9_holds_10 ?_
        refine al_0 dX9_holds_12 ?_
        refine R_getfr (r := 129) dX9_holds_13 fl_RX9_89 rfl sh_116 (Nat.le_of_ble_eq_true rfl) rf_116_26 ?_
        refine il_1 dX9_holds_16 ?_
        refine R_iald dX9_holds_17 sh_129 (Nat.le_of_ble_eq_true rfl) hx hc0 ?_
        refine R_icmp_ge (tgt := 243) dX9_holds_18 (by decide) (fun q => absurd q (by rw [e129, hkk]; exact nI_ge (by omega) (by omega))) (fun c18 => ?_)
        refine al_0 dX9_holds_21 ?_
        refine R_getfr (r := 130) dX9_holds_22 fl_RX9_92 rfl sh_116 (Nat.le_of_ble_eq_true rfl) rf_116_27 ?_
        refine il_4 dX9_holds_25 ?_
        refine R_iald dX9_holds_27 sh_130 (Nat.le_of_ble_eq_true rfl) hkx hk6 ?_
        refine is_5 dX9_holds_28 rfl ?_
        refine il_5 dX9_holds_30 ?_
        refine R_bipush (v := -33) dX9_holds_32 (by decide) ?_
        refine R_icmp_ne (tgt := 64) dX9_holds_34 (by decide) (fun c34 => ?_) (fun q => absurd q (n33))
        refine il_5 dX9_holds_64 ?_
        refine R_if_ge (tgt := 143) dX9_holds_66 (by decide) (fun c66 => ?_) (fun q => absurd q (not_not_intro nge))
        refine al_0 dX9_holds_143 ?_
        refine il_5 dX9_holds_144 ?_
        refine R_sipush (v := 1000) dX9_holds_146 (by decide) ?_
        refine R_idiv dX9_holds_149 (by decide) ?_
        refine il_2 dX9_holds_150 ?_
        refine cv_2 dX9_holds_151 mm_RX9_378 sh_116 (Nat.le_of_ble_eq_true rfl) ⟨_, rfl, rfl⟩ (Nat.le_of_ble_eq_true rfl) (Nat.le_of_ble_eq_true rfl) (M_factOf eF hok.2.1 hy hp hfd2 (nmr (fun y6 hy6 => ?_)))
        rw [eFF] at hy6
        refine is_6 dX9_holds_154 rfl ?_
        refine il_5 dX9_holds_156 ?_
        refine R_bipush (v := 100) dX9_holds_158 (by decide) ?_
        refine R_idiv dX9_holds_160 (by decide) ?_
        refine R_bipush (v := 10) dX9_holds_161 (by decide) ?_
        refine R_irem dX9_holds_163 (by decide) ?_
        refine is_7 dX9_holds_164 rfl ?_
        refine al_0 dX9_holds_166 ?_
        refine R_getfr (r := 133) dX9_holds_167 fl_RX9_119 rfl sh_116 (Nat.le_of_ble_eq_true rfl) rf_116_36 ?_
        refine il_3 dX9_holds_170 ?_
        refine il_7 dX9_holds_171 ?_
        refine R_if_ne (tgt := 194) dX9_holds_173 (by decide) (fun c173 => ?_) (fun c173 => ?_)
        · refine il_7 dX9_holds_194 ?_
          refine R_iconst (v := 1) dX9_holds_196 (by decide) ?_
          refine R_icmp_ne (tgt := 218) dX9_holds_197 (by decide) (fun c197 => ?_) (fun c197 => ?_)
          · refine il_6 dX9_holds_218 ?_
            refine il_5 dX9_holds_220 ?_
            refine R_bipush (v := 100) dX9_holds_222 (by decide) ?_
            refine R_irem dX9_holds_224 (by decide) ?_
            refine R_icmp_le (tgt := 232) dX9_holds_225 (by decide) (fun c225 => ?_) (fun c225 => ?_)
            · refine R_iconst (v := 0) dX9_holds_232 (by decide) ?_
              refine R_zast dX9_holds_233 sh_133 (Nat.le_of_ble_eq_true rfl) (rn_ixe hn) hl6 (y := 0) rfl ?_
              refine ii_3 (v := _ + 1) dX9_holds_234 rfl (by rfl) ?_
              refine ii_4 (v := _ + 1) dX9_holds_237 rfl (by rfl) ?_
              refine R_goto (tgt := 10) dX9_holds_240 (by decide) ?_
              refine ih (k + 1) (tst (factF y (mi 118 p) (mi 119 p) (mi 120 p) (mi 121 p) (mi 116 2)) t :: st) _ _ _ _ _ _ hkk2 hn1 (by omega) hw2 (by simp; omega) (hP.put ?_) (hm2 _ _) hs2 hb
              rw [eS] at c173
              unfold tst
              first
                | (rw [eN, hy6] at c183; have q0 := (zs 0 (by decide)).mp c173; rw [if_pos q0]; first | (rw [decide_eq_true (Int32.not_le.mp c183)]; rfl) | (rw [decide_eq_false (Int32.not_lt.mpr c183)]; rfl))
                | (have q0 : ¬ t.2.2.1 = 0 := fun e => c173 ((zs 0 (by decide)).mpr e); rw [if_neg q0]; rw [eS] at c197; first
                  | (rw [eN, hy6] at c207; have q1 := (zs 1 (by decide)).mp c197; rw [if_pos q1]; first | (rw [decide_eq_true c207]; rfl) | (rw [decide_eq_false c207]; rfl))
                  | (rw [eN, hy6] at c225; have q1 : ¬ t.2.2.1 = 1 := fun e => c197 ((zs 1 (by decide)).mpr e); rw [if_neg q1]; first | (rw [decide_eq_true (Int32.not_le.mp c225)]; rfl) | (rw [decide_eq_false (Int32.not_lt.mpr c225)]; rfl)))
            · refine R_iconst (v := 1) dX9_holds_228 (by decide) ?_
              refine R_goto (tgt := 233) dX9_holds_229 (by decide) ?_
              refine R_zast dX9_holds_233 sh_133 (Nat.le_of_ble_eq_true rfl) (rn_ixe hn) hl6 (y := 1) rfl ?_
              refine ii_3 (v := _ + 1) dX9_holds_234 rfl (by rfl) ?_
              refine ii_4 (v := _ + 1) dX9_holds_237 rfl (by rfl) ?_
              refine R_goto (tgt := 10) dX9_holds_240 (by decide) ?_
              refine ih (k + 1) (tst (factF y (mi 118 p) (mi 119 p) (mi 120 p) (mi 121 p) (mi 116 2)) t :: st) _ _ _ _ _ _ hkk2 hn1 (by omega) hw2 (by simp; omega) (hP.put ?_) (hm2 _ _) hs2 hb
              rw [eS] at c173
              unfold tst
              first
                | (rw [eN, hy6] at c183; have q0 := (zs 0 (by decide)).mp c173; rw [if_pos q0]; first | (rw [decide_eq_true (Int32.not_le.mp c183)]; rfl) | (rw [decide_eq_false (Int32.not_lt.mpr c183)]; rfl))
                | (have q0 : ¬ t.2.2.1 = 0 := fun e => c173 ((zs 0 (by decide)).mpr e); rw [if_neg q0]; rw [eS] at c197; first
                  | (rw [eN, hy6] at c207; have q1 := (zs 1 (by decide)).mp c197; rw [if_pos q1]; first | (rw [decide_eq_true c207]; rfl) | (rw [decide_eq_false c207]; rfl))
                  | (rw [eN, hy6] at c225; have q1 : ¬ t.2.2.1 = 1 := fun e => c197 ((zs 1 (by decide)).mpr e); rw [if_neg q1]; first | (rw [decide_eq_true (Int32.not_le.mp c225)]; rfl) | (rw [decide_eq_false (Int32.not_lt.mpr c225)]; rfl)))
          · refine il_6 dX9_holds_200 ?_
            refine il_5 dX9_holds_202 ?_
            refine R_bipush (v := 100) dX9_holds_204 (by decide) ?_
            refine R_irem dX9_holds_206 (by decide) ?_
            refine R_icmp_ne (tgt := 214) dX9_holds_207 (by decide) (fun c207 => ?_) (fun c207 => ?_)
            · refine R_iconst (v := 0) dX9_holds_214 (by decide) ?_
              refine R_goto (tgt := 233) dX9_holds_215 (by decide) ?_
              refine R_zast dX9_holds_233 sh_133 (Nat.le_of_ble_eq_true rfl) (rn_ixe hn) hl6 (y := 0) rfl ?_
              refine ii_3 (v := _ + 1) dX9_holds_234 rfl (by rfl) ?_
              refine ii_4 (v := _ + 1) dX9_holds_237 rfl (by rfl) ?_
              refine R_goto (tgt := 10) dX9_holds_240 (by decide) ?_
              refine ih (k + 1) (tst (factF y (mi 118 p) (mi 119 p) (mi 120 p) (mi 121 p) (mi 116 2)) t :: st) _ _ _ _ _ _ hkk2 hn1 (by omega) hw2 (by simp; omega) (hP.put ?_) (hm2 _ _) hs2 hb
              rw [eS] at c173
              unfold tst
              first
                | (rw [eN, hy6] at c183; have q0 := (zs 0 (by decide)).mp c173; rw [if_pos q0]; first | (rw [decide_eq_true (Int32.not_le.mp c183)]; rfl) | (rw [decide_eq_false (Int32.not_lt.mpr c183)]; rfl))
                | (have q0 : ¬ t.2.2.1 = 0 := fun e => c173 ((zs 0 (by decide)).mpr e); rw [if_neg q0]; rw [eS] at c197; first
                  | (rw [eN, hy6] at c207; have q1 := (zs 1 (by decide)).mp c197; rw [if_pos q1]; first | (rw [decide_eq_true c207]; rfl) | (rw [decide_eq_false c207]; rfl))
                  | (rw [eN, hy6] at c225; have q1 : ¬ t.2.2.1 = 1 := fun e => c197 ((zs 1 (by decide)).mpr e); rw [if_neg q1]; first | (rw [decide_eq_true (Int32.not_le.mp c225)]; rfl) | (rw [decide_eq_false (Int32.not_lt.mpr c225)]; rfl)))
            · refine R_iconst (v := 1) dX9_holds_210 (by decide) ?_
              refine R_goto (tgt := 233) dX9_holds_211 (by decide) ?_
              refine R_zast dX9_holds_233 sh_133 (Nat.le_of_ble_eq_true rfl) (rn_ixe hn) hl6 (y := 1) rfl ?_
              refine ii_3 (v := _ + 1) dX9_holds_234 rfl (by rfl) ?_
              refine ii_4 (v := _ + 1) dX9_holds_237 rfl (by rfl) ?_
              refine R_goto (tgt := 10) dX9_holds_240 (by decide) ?_
              refine ih (k + 1) (tst (factF y (mi 118 p) (mi 119 p) (mi 120 p) (mi 121 p) (mi 116 2)) t :: st) _ _ _ _ _ _ hkk2 hn1 (by omega) hw2 (by simp; omega) (hP.put ?_) (hm2 _ _) hs2 hb
              rw [eS] at c173
              unfold tst
              first
                | (rw [eN, hy6] at c183; have q0 := (zs 0 (by decide)).mp c173; rw [if_pos q0]; first | (rw [decide_eq_true (Int32.not_le.mp c183)]; rfl) | (rw [decide_eq_false (Int32.not_lt.mpr c183)]; rfl))
                | (have q0 : ¬ t.2.2.1 = 0 := fun e => c173 ((zs 0 (by decide)).mpr e); rw [if_neg q0]; rw [eS] at c197; first
                  | (rw [eN, hy6] at c207; have q1 := (zs 1 (by decide)).mp c197; rw [if_pos q1]; first | (rw [decide_eq_true c207]; rfl) | (rw [decide_eq_false c207]; rfl))
                  | (rw [eN, hy6] at c225; have q1 : ¬ t.2.2.1 = 1 := fun e => c197 ((zs 1 (by decide)).mpr e); rw [if_neg q1]; first | (rw [decide_eq_true (Int32.not_le.mp c225)]; rfl) | (rw [decide_eq_false (Int32.not_lt.mpr c225)]; rfl)))
        · refine il_6 dX9_holds_176 ?_
          refine il_5 dX9_holds_178 ?_
          refine R_bipush (v := 100) dX9_holds_180 (by decide) ?_
          refine R_irem dX9_holds_182 (by decide) ?_
          refine R_icmp_ge (tgt := 190) dX9_holds_183 (by decide) (fun c183 => ?_) (fun c183 => ?_)
          · refine R_iconst (v := 0) dX9_holds_190 (by decide) ?_
            refine R_goto (tgt := 233) dX9_holds_191 (by decide) ?_
            refine R_zast dX9_holds_233 sh_133 (Nat.le_of_ble_eq_true rfl) (rn_ixe hn) hl6 (y := 0) rfl ?_
            refine ii_3 (v := _ + 1) dX9_holds_234 rfl (by rfl) ?_
            refine ii_4 (v := _ + 1) dX9_holds_237 rfl (by rfl) ?_
            refine R_goto (tgt := 10) dX9_holds_240 (by decide) ?_
            refine ih (k + 1) (tst (factF y (mi 118 p) (mi 119 p) (mi 120 p) (mi 121 p) (mi 116 2)) t :: st) _ _ _ _ _ _ hkk2 hn1 (by omega) hw2 (by simp; omega) (hP.put ?_) (hm2 _ _) hs2 hb
            rw [eS] at c173
            unfold tst
            first
              | (rw [eN, hy6] at c183; have q0 := (zs 0 (by decide)).mp c173; rw [if_pos q0]; first | (rw [decide_eq_true (Int32.not_le.mp c183)]; rfl) | (rw [decide_eq_false (Int32.not_lt.mpr c183)]; rfl))
              | (have q0 : ¬ t.2.2.1 = 0 := fun e => c173 ((zs 0 (by decide)).mpr e); rw [if_neg q0]; rw [eS] at c197; first
                | (rw [eN, hy6] at c207; have q1 := (zs 1 (by decide)).mp c197; rw [if_pos q1]; first | (rw [decide_eq_true c207]; rfl) | (rw [decide_eq_false c207]; rfl))
                | (rw [eN, hy6] at c225; have q1 : ¬ t.2.2.1 = 1 := fun e => c197 ((zs 1 (by decide)).mpr e); rw [if_neg q1]; first | (rw [decide_eq_true (Int32.not_le.mp c225)]; rfl) | (rw [decide_eq_false (Int32.not_lt.mpr c225)]; rfl)))
          · refine R_iconst (v := 1) dX9_holds_186 (by decide) ?_
            refine R_goto (tgt := 233) dX9_holds_187 (by decide) ?_
            refine R_zast dX9_holds_233 sh_133 (Nat.le_of_ble_eq_true rfl) (rn_ixe hn) hl6 (y := 1) rfl ?_
            refine ii_3 (v := _ + 1) dX9_holds_234 rfl (by rfl) ?_
            refine ii_4 (v := _ + 1) dX9_holds_237 rfl (by rfl) ?_
            refine R_goto (tgt := 10) dX9_holds_240 (by decide) ?_
            refine ih (k + 1) (tst (factF y (mi 118 p) (mi 119 p) (mi 120 p) (mi 121 p) (mi 116 2)) t :: st) _ _ _ _ _ _ hkk2 hn1 (by omega) hw2 (by simp; omega) (hP.put ?_) (hm2 _ _) hs2 hb
            rw [eS] at c173
            unfold tst
            first
              | (rw [eN, hy6] at c183; have q0 := (zs 0 (by decide)).mp c173; rw [if_pos q0]; first | (rw [decide_eq_true (Int32.not_le.mp c183)]; rfl) | (rw [decide_eq_false (Int32.not_lt.mpr c183)]; rfl))
              | (have q0 : ¬ t.2.2.1 = 0 := fun e => c173 ((zs 0 (by decide)).mpr e); rw [if_neg q0]; rw [eS] at c197; first
                | (rw [eN, hy6] at c207; have q1 := (zs 1 (by decide)).mp c197; rw [if_pos q1]; first | (rw [decide_eq_true c207]; rfl) | (rw [decide_eq_false c207]; rfl))
                | (rw [eN, hy6] at c225; have q1 : ¬ t.2.2.1 = 1 := fun e => c197 ((zs 1 (by decide)).mpr e); rw [if_neg q1]; first | (rw [decide_eq_true (Int32.not_le.mp c225)]; rfl) | (rw [decide_eq_false (Int32.not_lt.mpr c225)]; rfl)))

set_option maxHeartbeats 4000000 in
theorem M_holds {G : rn_G} {d : Nat} {κ : Nat × Nat} {Q : Option Value → rn_S → Prop} {mi : Nat → Nat → Int32} {ml : Nat → Nat → Int64} {D : Nat → Nat} {c0 p f0 : Nat} {x y : Int32} {l : List TK} (hx : rn_ix x c0) (hc0 : c0 < 60) (hf0 : f0 + l.length ≤ 600) (hfr : mi 128 c0 = nI f0) (hto : mi 129 c0 = nI (f0 + l.length)) (hw : wfK l 0 1) (hs : ∀ j t, l[j]? = some t → mi 130 (f0 + j) = tM t) (hy : y = nI p) (hp : p < 6) (hfd : ∃ a, a < 64 ∧ mi 121 p = nI a) (h1 : ∀ m, (∀ a, a ≠ 133 → m a = mi a) → evA (factF y (mi 118 p) (mi 119 p) (mi 120 p) (mi 121 p) (mi 116 2)) l = true → Q (some (.int 1)) (m, ml, RF D, 164)) (h0 : ∀ m, (∀ a, a ≠ 133 → m a = mi a) → evA (factF y (mi 118 p) (mi 119 p) (mi 120 p) (mi 121 p) (mi 116 2)) l = false → Q (some (.int 0)) (m, ml, RF D, 164)) : Call G (d + 2) M_X9_holds [.ref 116, .int x, .int y] (mi, ml, RF D, 164) κ Q := by
  show Run G _ M_X9_holds 0 [.ref 116, .int x, .int y, .null, .null, .null, .null, .null] [] _ _ _
  refine R_iconst (v := 0) dX9_holds_0 (by decide) ?_
  refine is_3 dX9_holds_1 rfl ?_
  refine al_0 dX9_holds_2 ?_
  refine R_getfr (r := 128) dX9_holds_3 fl_RX9_86 rfl sh_116 (Nat.le_of_ble_eq_true rfl) rf_116_25 ?_
  refine il_1 dX9_holds_6 ?_
  refine R_iald dX9_holds_7 sh_128 (Nat.le_of_ble_eq_true rfl) hx hc0 ?_
  refine is_4 dX9_holds_8 rfl ?_
  exact L_holds hx hc0 hto hf0 hy hp hfd (evA (factF y (mi 118 p) (mi 119 p) (mi 120 p) (mi 121 p) (mi 116 2)) l) h1 h0 l f0 [] mi 0 _ _ _ _ hfr nI_0.symm rfl hw (by decide) trivial (fun _ _ => rfl) hs rfl
