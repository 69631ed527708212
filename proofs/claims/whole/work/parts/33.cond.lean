/-! the class reads conditions -/
theorem bind_of {α β : Type} {o : Option α} {f : α → Option β} {r : β} (h : o.bind f = some r) : ∃ a, o = some a ∧ f a = some r := by
  cases o with
  | none => exact absurd h (by simp)
  | some a => exact ⟨a, rfl, h⟩
theorem rd_ok (T : Nat → Nat) (L : Nat) : ∀ (n mode wi p : Nat) (c : List TK) (r : Bool × Nat × List TK), mode ≤ 4 → p ≤ L → rd T L n mode wi p c = some r → okR L mode p c r
  | 0, mode, wi, p, c, r, hm, hp, hr => by exact absurd hr (by simp [rd])
  | n + 1, mode, wi, p, c, r, hm, hp, hr => by
    have ih := rd_ok T L n
    have hmode : mode = 0 ∨ mode = 1 ∨ mode = 2 ∨ mode = 3 ∨ mode = 4 := by omega
    rcases hmode with rfl | rfl | rfl | rfl | rfl
    · rw [rd_0] at hr
      split at hr
      · rename_i h1
        have l1 := nxT_lt (p := p) (show nxT T L p ≠ 128 by omega)
        split at hr
        · obtain rfl := Option.some.inj hr
          exact ⟨Nat.le_refl _, hp, fun e => by simp at e, by simp⟩
        · obtain ⟨r1, e, hr⟩ := bind_of hr
          obtain ⟨q1, q2, q3, q4⟩ := ih 0 (wi + 1) (p + 1) c r1 (by omega) (by omega) e
          split at hr
          · obtain rfl := Option.some.inj hr
            unfold okR
            dsimp only
            simp only [List.length_append, List.length_cons, List.length_nil]
            exact ⟨by omega, by omega, fun _ _ => by omega, by omega⟩
          · rename_i hf
            obtain rfl := Option.some.inj hr
            exact ⟨by omega, q2, fun e => absurd e hf, by omega⟩
      · split at hr
        · rename_i h0 h1
          have l1 := nxT_lt (p := p) (show nxT T L p ≠ 128 by omega)
          split at hr
          · obtain rfl := Option.some.inj hr
            exact ⟨Nat.le_refl _, hp, fun e => by simp at e, by simp⟩
          · obtain ⟨r1, e, hr⟩ := bind_of hr
            obtain ⟨q1, q2, q3, q4⟩ := ih 3 (wi + 1) (p + 1) c r1 (by omega) (by omega) e
            split at hr
            · split at hr
              · rename_i h3
                have l3 := nxT_lt (p := r1.2.1) (show nxT T L r1.2.1 ≠ 128 by omega)
                obtain rfl := Option.some.inj hr
                unfold okR
                dsimp only
                exact ⟨by omega, by omega, fun _ _ => by omega, by omega⟩
              · obtain rfl := Option.some.inj hr
                unfold okR
                dsimp only
                exact ⟨by omega, by omega, fun e => by simp at e, by omega⟩
            · rename_i hf
              obtain rfl := Option.some.inj hr
              exact ⟨by omega, q2, fun e => absurd e hf, by omega⟩
        · obtain rfl := Option.some.inj hr
          obtain ⟨q1, q2, q3, q4⟩ := tstR_pos (T := T) c hp
          exact ⟨q1, q2, fun e _ => q3 e, q4⟩
    · rw [rd_1] at hr
      obtain ⟨r1, e, hr⟩ := bind_of hr
      obtain ⟨q1, q2, q3, q4⟩ := ih 0 wi p c r1 (by omega) hp e
      split at hr
      · rename_i ht
        have := q3 ht (Or.inl rfl)
        obtain ⟨s1, s2, s3, s4⟩ := ih 2 wi r1.2.1 r1.2.2 r (by omega) q2 hr
        exact ⟨by omega, s2, fun _ _ => by omega, by omega⟩
      · rename_i hf
        obtain rfl := Option.some.inj hr
        exact ⟨q1, q2, fun e => absurd e hf, q4⟩
    · rw [rd_2] at hr
      split at hr
      · rename_i h1
        have l1 := nxT_lt (p := p) (show nxT T L p ≠ 128 by omega)
        obtain ⟨r1, e, hr⟩ := bind_of hr
        obtain ⟨q1, q2, q3, q4⟩ := ih 0 wi (p + 1) c r1 (by omega) (by omega) e
        split at hr
        · obtain ⟨s1, s2, s3, s4⟩ := ih 2 wi r1.2.1 _ r (by omega) q2 hr
          simp only [List.length_append, List.length_cons, List.length_nil] at s4
          exact ⟨by omega, s2, fun _ _ => by omega, by omega⟩
        · rename_i hf
          obtain rfl := Option.some.inj hr
          exact ⟨by omega, q2, fun e => absurd e hf, by omega⟩
      · obtain rfl := Option.some.inj hr
        exact ⟨Nat.le_refl _, hp, fun _ h => by omega, by simp⟩
    · rw [rd_3] at hr
      obtain ⟨r1, e, hr⟩ := bind_of hr
      obtain ⟨q1, q2, q3, q4⟩ := ih 1 wi p c r1 (by omega) hp e
      split at hr
      · rename_i ht
        have := q3 ht (Or.inr (Or.inl rfl))
        obtain ⟨s1, s2, s3, s4⟩ := ih 4 wi r1.2.1 r1.2.2 r (by omega) q2 hr
        exact ⟨by omega, s2, fun _ _ => by omega, by omega⟩
      · rename_i hf
        obtain rfl := Option.some.inj hr
        exact ⟨q1, q2, fun e => absurd e hf, q4⟩
    · rw [rd_4] at hr
      split at hr
      · rename_i h1
        have l1 := nxT_lt (p := p) (show nxT T L p ≠ 128 by omega)
        obtain ⟨r1, e, hr⟩ := bind_of hr
        obtain ⟨q1, q2, q3, q4⟩ := ih 1 wi (p + 1) c r1 (by omega) (by omega) e
        split at hr
        · obtain ⟨s1, s2, s3, s4⟩ := ih 4 wi r1.2.1 _ r (by omega) q2 hr
          simp only [List.length_append, List.length_cons, List.length_nil] at s4
          exact ⟨by omega, s2, fun _ _ => by omega, by omega⟩
        · rename_i hf
          obtain rfl := Option.some.inj hr
          exact ⟨by omega, q2, fun e => absurd e hf, by omega⟩
      · obtain rfl := Option.some.inj hr
        exact ⟨Nat.le_refl _, hp, fun _ h => by omega, by simp⟩
theorem map_snoc {bs : List Int32} {l : List TK} {t : TK} : bs ++ (l ++ [t]).map tC = (bs ++ l.map tC) ++ [tC t] := by
  rw [List.map_append, ← List.append_assoc]; rfl
theorem len_map {bs : List Int32} {l : List TK} : (bs ++ l.map tC).length = bs.length + l.length := by
  rw [List.length_append, List.length_map]

def KR0 (T : Nat → Nat) (L : Nat) (m0 : Nat → Nat → Int32) (bs : List Int32) (ml : Nat → Nat → Int64) (D : Nat → Nat) (n : Nat) : Prop := ∀ (G : rn_G) (E : Nat) (κ : Nat × Nat) (Q : Option Value → rn_S → Prop) (mi : Nat → Nat → Int32) (wi p : Nat) (c : List TK) (x : Int32) (r : Bool × Nat × List TK), rd T L n 0 wi p c = some r → x = nI wi → wi ≤ 4 → 6 + 3 * (4 - wi) ≤ E → p ≤ L → RC m0 mi (D 84) p (bs ++ c.map tC) → bs.length + c.length ≤ p → (r.1 = true → ∀ m, RC m0 m (D 84) r.2.1 (bs ++ r.2.2.map tC) → Q (some (.int 1)) (m, ml, RF D, 164)) → (r.1 = false → ∀ m, RC m0 m (D 84) r.2.1 (bs ++ r.2.2.map tC) → Q (some (.int 0)) (m, ml, RF D, 164)) → Call G E M_X5_readPart [.ref 84, .int x] (mi, ml, RF D, 164) κ Q
def KR1 (T : Nat → Nat) (L : Nat) (m0 : Nat → Nat → Int32) (bs : List Int32) (ml : Nat → Nat → Int64) (D : Nat → Nat) (n : Nat) : Prop := ∀ (G : rn_G) (E : Nat) (κ : Nat × Nat) (Q : Option Value → rn_S → Prop) (mi : Nat → Nat → Int32) (wi p : Nat) (c : List TK) (x : Int32) (r : Bool × Nat × List TK), rd T L n 1 wi p c = some r → x = nI wi → wi ≤ 4 → 7 + 3 * (4 - wi) ≤ E → p ≤ L → RC m0 mi (D 84) p (bs ++ c.map tC) → bs.length + c.length ≤ p → (r.1 = true → ∀ m, RC m0 m (D 84) r.2.1 (bs ++ r.2.2.map tC) → Q (some (.int 1)) (m, ml, RF D, 164)) → (r.1 = false → ∀ m, RC m0 m (D 84) r.2.1 (bs ++ r.2.2.map tC) → Q (some (.int 0)) (m, ml, RF D, 164)) → Call G E M_X5_readBoth [.ref 84, .int x] (mi, ml, RF D, 164) κ Q
def KR2 (T : Nat → Nat) (L : Nat) (m0 : Nat → Nat → Int32) (bs : List Int32) (ml : Nat → Nat → Int64) (D : Nat → Nat) (n : Nat) : Prop := ∀ (G : rn_G) (E : Nat) (κ : Nat × Nat) (Q : Option Value → rn_S → Prop) (mi : Nat → Nat → Int32) (wi p : Nat) (c : List TK) (x : Int32) (r : Bool × Nat × List TK), rd T L n 2 wi p c = some r → x = nI wi → wi ≤ 4 → 7 + 3 * (4 - wi) ≤ E → p ≤ L → RC m0 mi (D 84) p (bs ++ c.map tC) → bs.length + c.length ≤ p → (r.1 = true → ∀ m, RC m0 m (D 84) r.2.1 (bs ++ r.2.2.map tC) → Q (some (.int 1)) (m, ml, RF D, 164)) → (r.1 = false → ∀ m, RC m0 m (D 84) r.2.1 (bs ++ r.2.2.map tC) → Q (some (.int 0)) (m, ml, RF D, 164)) → ∀ (y : Int32) (k : Nat), y = nI k → k ≤ p → Run G E M_X5_readBoth 12 [.ref 84, .int x, .int y] [] (mi, ml, RF D, 164) κ Q
def KR3 (T : Nat → Nat) (L : Nat) (m0 : Nat → Nat → Int32) (bs : List Int32) (ml : Nat → Nat → Int64) (D : Nat → Nat) (n : Nat) : Prop := ∀ (G : rn_G) (E : Nat) (κ : Nat × Nat) (Q : Option Value → rn_S → Prop) (mi : Nat → Nat → Int32) (wi p : Nat) (c : List TK) (x : Int32) (r : Bool × Nat × List TK), rd T L n 3 wi p c = some r → x = nI wi → wi ≤ 4 → 8 + 3 * (4 - wi) ≤ E → p ≤ L → RC m0 mi (D 84) p (bs ++ c.map tC) → bs.length + c.length ≤ p → (r.1 = true → ∀ m, RC m0 m (D 84) r.2.1 (bs ++ r.2.2.map tC) → Q (some (.int 1)) (m, ml, RF D, 164)) → (r.1 = false → ∀ m, RC m0 m (D 84) r.2.1 (bs ++ r.2.2.map tC) → Q (some (.int 0)) (m, ml, RF D, 164)) → Call G E M_X5_readEither [.ref 84, .int x] (mi, ml, RF D, 164) κ Q
def KR4 (T : Nat → Nat) (L : Nat) (m0 : Nat → Nat → Int32) (bs : List Int32) (ml : Nat → Nat → Int64) (D : Nat → Nat) (n : Nat) : Prop := ∀ (G : rn_G) (E : Nat) (κ : Nat × Nat) (Q : Option Value → rn_S → Prop) (mi : Nat → Nat → Int32) (wi p : Nat) (c : List TK) (x : Int32) (r : Bool × Nat × List TK), rd T L n 4 wi p c = some r → x = nI wi → wi ≤ 4 → 8 + 3 * (4 - wi) ≤ E → p ≤ L → RC m0 mi (D 84) p (bs ++ c.map tC) → bs.length + c.length ≤ p → (r.1 = true → ∀ m, RC m0 m (D 84) r.2.1 (bs ++ r.2.2.map tC) → Q (some (.int 1)) (m, ml, RF D, 164)) → (r.1 = false → ∀ m, RC m0 m (D 84) r.2.1 (bs ++ r.2.2.map tC) → Q (some (.int 0)) (m, ml, RF D, 164)) → ∀ (y : Int32) (k : Nat), y = nI k → k ≤ p → Run G E M_X5_readEither 12 [.ref 84, .int x, .int y] [] (mi, ml, RF D, 164) κ Q

set_option maxHeartbeats 4000000 in
theorem K_rbn {T : Nat → Nat} {L : Nat} {m0 : Nat → Nat → Int32} {bs : List Int32} {ml : Nat → Nat → Int64} {D : Nat → Nat} {n : Nat} (htx : TXC T L m0) (hk : PD (D 84)) (ih0 : KR0 T L m0 bs ml D n) {G : rn_G} {E : Nat} {κ : Nat × Nat} {Q : Option Value → rn_S → Prop} {mi : Nat → Nat → Int32} {wi p : Nat} {c : List TK} {x : Int32} {r1 : Bool × Nat × List TK} (e1 : rd T L n 0 wi p c = some r1) (hx : x = nI wi) (hwi : wi ≤ 4) (hE : 7 + 3 * (4 - wi) ≤ E) (hpL : p ≤ L) (hrc : RC m0 mi (D 84) p (bs ++ c.map tC)) (hsz : bs.length + c.length + 1 ≤ p) (h1 : r1.1 = true → ∀ m, RC m0 m (D 84) r1.2.1 (bs ++ (r1.2.2 ++ [(0, 0, 0, 0)]).map tC) → Q (some (.int 1)) (m, ml, RF D, 164)) (h0 : r1.1 = false → ∀ m, RC m0 m (D 84) r1.2.1 (bs ++ r1.2.2.map tC) → Q (some (.int 0)) (m, ml, RF D, 164)) : Call G E M_X5_readBehindNot [.ref 84, .int x] (mi, ml, RF D, 164) κ Q := by
  show Run G _ M_X5_readBehindNot 0 [.ref 84, .int x] [] _ _ _
  have okr := rd_ok T L n 0 wi p c r1 (by omega) hpL e1
  have hL := htx.1
  unfold okR at okr
  obtain ⟨F, rfl⟩ : ∃ F, E = F + 1 := ⟨E - 1, by omega⟩
  refine al_0 dX5_readBehindNot_0 ?_
  refine il_1 dX5_readBehindNot_1 ?_
  refine cv_1 dX5_readBehindNot_2 mm_RX5_93 sh_84 (Nat.le_of_ble_eq_true rfl) ⟨_, rfl, rfl⟩ (Nat.le_of_ble_eq_true rfl) (Nat.le_of_ble_eq_true rfl) (ih0 G _ _ _ _ wi p c x r1 e1 hx hwi (by omega) hpL hrc (by omega) (fun b2 m2 hm2 => ?_) (fun b2 m2 hm2 => ?_))
  · have hs4 := okr.2.2.2
    have hs2 := okr.2.1
    refine R_if_ne (tgt := 10) dX5_readBehindNot_5 (by decide) (fun _ => ?_) (fun q => absurd q (by decide))
    refine al_0 dX5_readBehindNot_10 ?_
    refine R_getfr (r := (D 84)) dX5_readBehindNot_11 fl_RX5_18 rfl sh_84 (Nat.le_of_ble_eq_true rfl) rfl ?_
    refine R_iconst (v := -1) dX5_readBehindNot_14 (by decide) ?_
    refine cv_1 dX5_readBehindNot_15 mm_RX5_78 (pd_s0 hk) (show (D 84) < 164 by have := pd_n hk; omega) ⟨_, rfl, rfl⟩ (Nat.le_of_ble_eq_true rfl) (Nat.le_of_ble_eq_true rfl) (K_addCode hk hm2.2.2.2.2.1 (by rw [len_map]; omega) ?_)
    have ha := hm2.add (x := -1) hk
    refine R_iconst (v := 1) dX5_readBehindNot_18 (by decide) ?_
    refine R_ireturn dX5_readBehindNot_19 ⟨_, rfl, rfl⟩ ?_
    refine h1 b2 _ ?_
    rw [map_snoc]
    exact ha
  · refine R_if_ne (tgt := 10) dX5_readBehindNot_5 (by decide) (fun q => absurd q (by decide)) (fun _ => ?_)
    refine R_iconst (v := 0) dX5_readBehindNot_8 (by decide) ?_
    refine R_ireturn dX5_readBehindNot_9 ⟨_, rfl, rfl⟩ ?_
    exact h0 b2 m2 hm2

set_option maxHeartbeats 4000000 in
theorem L_kr0 {T : Nat → Nat} {L : Nat} {m0 : Nat → Nat → Int32} {bs : List Int32} {ml : Nat → Nat → Int64} {D : Nat → Nat} {n : Nat} (htx : TXC T L m0) (hk : PD (D 84)) (ih0 : KR0 T L m0 bs ml D n) (ih1 : KR1 T L m0 bs ml D n) (ih2 : KR2 T L m0 bs ml D n) (ih3 : KR3 T L m0 bs ml D n) (ih4 : KR4 T L m0 bs ml D n) : KR0 T L m0 bs ml D (n + 1) := by
  intro G E κ Q mi wi p c x r hr hx hwi hE hpL hrc hsz h1 h0
  have htx1 := hrc.tx hk htx
  have hat := hrc.2.2.2.1
  have hL := htx.1
  show Run G _ M_X5_readPart 0 [.ref 84, .int x, .null] [] _ _ _
  rw [rd_0] at hr
  obtain ⟨F, rfl⟩ : ∃ F, E = F + 6 := ⟨E - 6, by omega⟩
  by_cases en : nxT T L p = 33
  · rw [if_pos en] at hr
    have l1 := nxT_lt (p := p) (show nxT T L p ≠ 128 by omega)
    by_cases hw4 : 4 ≤ wi
    · rw [if_pos hw4] at hr
      obtain rfl := Option.some.inj hr
      refine al_0 dX5_readPart_0 ?_
      refine R_bipush (v := 33) dX5_readPart_1 (by decide) ?_
      refine cv_1 dX5_readPart_3 mm_RX5_40 sh_84 (Nat.le_of_ble_eq_true rfl) ⟨_, rfl, rfl⟩ (Nat.le_of_ble_eq_true rfl) (Nat.le_of_ble_eq_true rfl) (K_isNext htx1 hat hpL (c := 33) rfl (by decide) (fun _ => ?_) (fun q => absurd en q))
      refine is_2 dX5_readPart_6 rfl ?_
      refine il_2 dX5_readPart_7 ?_
      refine R_if_ne (tgt := 25) dX5_readPart_8 (by decide) (fun _ => ?_) (fun q => absurd q (by decide))
      refine il_1 dX5_readPart_25 ?_
      refine R_iconst (v := 4) dX5_readPart_26 (by decide) ?_
      refine R_icmp_lt (tgt := 32) dX5_readPart_27 (by decide) (fun q => absurd q (Int32.not_lt.mpr (by rw [hx]; exact (sm_le_iff (a := 4) (by decide) (by omega)).mpr hw4))) (fun c27 => ?_)
      refine R_iconst (v := 0) dX5_readPart_30 (by decide) ?_
      refine R_ireturn dX5_readPart_31 ⟨_, rfl, rfl⟩ ?_
      exact h0 rfl _ hrc
    · rw [if_neg hw4] at hr
      obtain ⟨r1, e1, hr⟩ := bind_of hr
      refine al_0 dX5_readPart_0 ?_
      refine R_bipush (v := 33) dX5_readPart_1 (by decide) ?_
      refine cv_1 dX5_readPart_3 mm_RX5_40 sh_84 (Nat.le_of_ble_eq_true rfl) ⟨_, rfl, rfl⟩ (Nat.le_of_ble_eq_true rfl) (Nat.le_of_ble_eq_true rfl) (K_isNext htx1 hat hpL (c := 33) rfl (by decide) (fun _ => ?_) (fun q => absurd en q))
      refine is_2 dX5_readPart_6 rfl ?_
      refine il_2 dX5_readPart_7 ?_
      refine R_if_ne (tgt := 25) dX5_readPart_8 (by decide) (fun _ => ?_) (fun q => absurd q (by decide))
      refine il_1 dX5_readPart_25 ?_
      refine R_iconst (v := 4) dX5_readPart_26 (by decide) ?_
      refine R_icmp_lt (tgt := 32) dX5_readPart_27 (by decide) (fun c27 => ?_) (fun q => absurd q (not_not_intro (by rw [hx]; exact (sm_lt_iff (b := 4) (by omega) (by decide)).mpr (by omega))))
      refine al_0 dX5_readPart_32 ?_
      refine R_dup dX5_readPart_33 rfl ?_
      refine R_getfi dX5_readPart_34 fl_RX5_29 rfl sh_84 (Nat.le_of_ble_eq_true rfl) ?_
      refine R_iconst (v := 1) dX5_readPart_37 (by decide) ?_
      refine R_iadd dX5_readPart_38 ?_
      refine R_putfi dX5_readPart_39 fl_RX5_29 rfl (Or.inl rfl) sh_84 (Nat.le_of_ble_eq_true rfl) rfl rfl ?_
      rw [show mi 84 2 + 1 = nI (p + 1) by rw [hat]; exact sm_add p 1]
      have hrc1 := hrc.at (q := p + 1) hk
      refine il_2 dX5_readPart_42 ?_
      refine R_if_eq (tgt := 56) dX5_readPart_43 (by decide) (fun q => absurd q (by decide)) (fun _ => ?_)
      refine al_0 dX5_readPart_46 ?_
      refine il_1 dX5_readPart_47 ?_
      refine R_iconst (v := 1) dX5_readPart_48 (by decide) ?_
      refine R_iadd dX5_readPart_49 ?_
      refine cv_1 dX5_readPart_50 mm_RX5_99 sh_84 (Nat.le_of_ble_eq_true rfl) ⟨_, rfl, rfl⟩ (Nat.le_of_ble_eq_true rfl) (Nat.le_of_ble_eq_true rfl) (K_rbn htx hk ih0 e1 (by rw [hx]; exact sm_add wi 1) (by omega) (by omega) (by omega) hrc1 (by omega) (fun b2 m2 hm2 => ?_) (fun b2 m2 hm2 => ?_))
      · refine R_goto (tgt := 80) dX5_readPart_53 (by decide) ?_
        refine R_ireturn dX5_readPart_80 ⟨_, rfl, rfl⟩ ?_
        first
          | (rw [if_pos b2] at hr; obtain rfl := Option.some.inj hr; exact h1 rfl m2 hm2)
          | (rw [if_neg (fun q => by rw [b2] at q; exact absurd q (by decide))] at hr; obtain rfl := Option.some.inj hr; exact h0 b2 m2 hm2)
      · refine R_goto (tgt := 80) dX5_readPart_53 (by decide) ?_
        refine R_ireturn dX5_readPart_80 ⟨_, rfl, rfl⟩ ?_
        first
          | (rw [if_pos b2] at hr; obtain rfl := Option.some.inj hr; exact h1 rfl m2 hm2)
          | (rw [if_neg (fun q => by rw [b2] at q; exact absurd q (by decide))] at hr; obtain rfl := Option.some.inj hr; exact h0 b2 m2 hm2)
  · rw [if_neg en] at hr
    by_cases en2 : nxT T L p = 40
    · rw [if_pos en2] at hr
      have l1 := nxT_lt (p := p) (show nxT T L p ≠ 128 by omega)
      have en := en2
      by_cases hw4 : 4 ≤ wi
      · rw [if_pos hw4] at hr
        obtain rfl := Option.some.inj hr
        refine al_0 dX5_readPart_0 ?_
        refine R_bipush (v := 33) dX5_readPart_1 (by decide) ?_
        refine cv_1 dX5_readPart_3 mm_RX5_40 sh_84 (Nat.le_of_ble_eq_true rfl) ⟨_, rfl, rfl⟩ (Nat.le_of_ble_eq_true rfl) (Nat.le_of_ble_eq_true rfl) (K_isNext htx1 hat hpL (c := 33) rfl (by decide) (fun q => absurd q (by omega)) (fun _ => ?_))
        refine is_2 dX5_readPart_6 rfl ?_
        refine il_2 dX5_readPart_7 ?_
        refine R_if_ne (tgt := 25) dX5_readPart_8 (by decide) (fun q => absurd q (by decide)) (fun _ => ?_)
        refine al_0 dX5_readPart_11 ?_
        refine R_bipush (v := 40) dX5_readPart_12 (by decide) ?_
        refine cv_1 dX5_readPart_14 mm_RX5_40 sh_84 (Nat.le_of_ble_eq_true rfl) ⟨_, rfl, rfl⟩ (Nat.le_of_ble_eq_true rfl) (Nat.le_of_ble_eq_true rfl) (K_isNext htx1 hat hpL (c := 40) rfl (by decide) (fun _ => ?_) (fun q => absurd en q))
        refine R_if_ne (tgt := 25) dX5_readPart_17 (by decide) (fun _ => ?_) (fun q => absurd q (by decide))
        refine il_1 dX5_readPart_25 ?_
        refine R_iconst (v := 4) dX5_readPart_26 (by decide) ?_
        refine R_icmp_lt (tgt := 32) dX5_readPart_27 (by decide) (fun q => absurd q (Int32.not_lt.mpr (by rw [hx]; exact (sm_le_iff (a := 4) (by decide) (by omega)).mpr hw4))) (fun c27 => ?_)
        refine R_iconst (v := 0) dX5_readPart_30 (by decide) ?_
        refine R_ireturn dX5_readPart_31 ⟨_, rfl, rfl⟩ ?_
        exact h0 rfl _ hrc
      · rw [if_neg hw4] at hr
        obtain ⟨r1, e1, hr⟩ := bind_of hr
        have okr := rd_ok T L n 3 (wi + 1) (p + 1) c r1 (by omega) (by omega) e1
        unfold okR at okr
        refine al_0 dX5_readPart_0 ?_
        refine R_bipush (v := 33) dX5_readPart_1 (by decide) ?_
        refine cv_1 dX5_readPart_3 mm_RX5_40 sh_84 (Nat.le_of_ble_eq_true rfl) ⟨_, rfl, rfl⟩ (Nat.le_of_ble_eq_true rfl) (Nat.le_of_ble_eq_true rfl) (K_isNext htx1 hat hpL (c := 33) rfl (by decide) (fun q => absurd q (by omega)) (fun _ => ?_))
        refine is_2 dX5_readPart_6 rfl ?_
        refine il_2 dX5_readPart_7 ?_
        refine R_if_ne (tgt := 25) dX5_readPart_8 (by decide) (fun q => absurd q (by decide)) (fun _ => ?_)
        refine al_0 dX5_readPart_11 ?_
        refine R_bipush (v := 40) dX5_readPart_12 (by decide) ?_
        refine cv_1 dX5_readPart_14 mm_RX5_40 sh_84 (Nat.le_of_ble_eq_true rfl) ⟨_, rfl, rfl⟩ (Nat.le_of_ble_eq_true rfl) (Nat.le_of_ble_eq_true rfl) (K_isNext htx1 hat hpL (c := 40) rfl (by decide) (fun _ => ?_) (fun q => absurd en q))
        refine R_if_ne (tgt := 25) dX5_readPart_17 (by decide) (fun _ => ?_) (fun q => absurd q (by decide))
        refine il_1 dX5_readPart_25 ?_
        refine R_iconst (v := 4) dX5_readPart_26 (by decide) ?_
        refine R_icmp_lt (tgt := 32) dX5_readPart_27 (by decide) (fun c27 => ?_) (fun q => absurd q (not_not_intro (by rw [hx]; exact (sm_lt_iff (b := 4) (by omega) (by decide)).mpr (by omega))))
        refine al_0 dX5_readPart_32 ?_
        refine R_dup dX5_readPart_33 rfl ?_
        refine R_getfi dX5_readPart_34 fl_RX5_29 rfl sh_84 (Nat.le_of_ble_eq_true rfl) ?_
        refine R_iconst (v := 1) dX5_readPart_37 (by decide) ?_
        refine R_iadd dX5_readPart_38 ?_
        refine R_putfi dX5_readPart_39 fl_RX5_29 rfl (Or.inl rfl) sh_84 (Nat.le_of_ble_eq_true rfl) rfl rfl ?_
        rw [show mi 84 2 + 1 = nI (p + 1) by rw [hat]; exact sm_add p 1]
        have hrc1 := hrc.at (q := p + 1) hk
        refine il_2 dX5_readPart_42 ?_
        refine R_if_eq (tgt := 56) dX5_readPart_43 (by decide) (fun _ => ?_) (fun q => absurd q (by decide))
        refine al_0 dX5_readPart_56 ?_
        refine il_1 dX5_readPart_57 ?_
        refine R_iconst (v := 1) dX5_readPart_58 (by decide) ?_
        refine R_iadd dX5_readPart_59 ?_
        refine cv_1 dX5_readPart_60 mm_RX5_74 sh_84 (Nat.le_of_ble_eq_true rfl) ⟨_, rfl, rfl⟩ (Nat.le_of_ble_eq_true rfl) (Nat.le_of_ble_eq_true rfl) (ih3 G _ _ _ _ (wi + 1) (p + 1) c _ r1 e1 (by rw [hx]; exact sm_add wi 1) (by omega) (by omega) (by omega) hrc1 (by omega) (fun b2 m2 hm2 => ?_) (fun b2 m2 hm2 => ?_))
        · rw [if_pos b2] at hr
          refine R_if_eq (tgt := 79) dX5_readPart_63 (by decide) (fun q => absurd q (by decide)) (fun _ => ?_)
          refine al_0 dX5_readPart_66 ?_
          refine R_bipush (v := 41) dX5_readPart_67 (by decide) ?_
          refine cv_1 dX5_readPart_69 mm_RX5_36 sh_84 (Nat.le_of_ble_eq_true rfl) ⟨_, rfl, rfl⟩ (Nat.le_of_ble_eq_true rfl) (Nat.le_of_ble_eq_true rfl) (K_skip (hm2.tx hk htx) hm2.2.2.2.1 okr.2.1 (c := 41) rfl (by decide) (fun s2 l2 => ?_) (fun s2 => ?_))
          · have ha := hm2.at (q := r1.2.1 + 1) hk
            rw [if_pos s2] at hr
            refine R_if_eq (tgt := 79) dX5_readPart_72 (by decide) (fun q => absurd q (by decide)) (fun _ => ?_)
            refine R_iconst (v := 1) dX5_readPart_75 (by decide) ?_
            refine R_goto (tgt := 80) dX5_readPart_76 (by decide) ?_
            refine R_ireturn dX5_readPart_80 ⟨_, rfl, rfl⟩ ?_
            obtain rfl := Option.some.inj hr
            first | exact h1 rfl _ ha | exact h0 rfl _ hm2 | exact h0 b2 _ hm2
          · rw [if_neg s2] at hr
            refine R_if_eq (tgt := 79) dX5_readPart_72 (by decide) (fun _ => ?_) (fun q => absurd q (by decide))
            refine R_iconst (v := 0) dX5_readPart_79 (by decide) ?_
            refine R_ireturn dX5_readPart_80 ⟨_, rfl, rfl⟩ ?_
            obtain rfl := Option.some.inj hr
            first | exact h1 rfl _ ha | exact h0 rfl _ hm2 | exact h0 b2 _ hm2
        · rw [if_neg (fun q => by rw [b2] at q; exact absurd q (by decide))] at hr
          refine R_if_eq (tgt := 79) dX5_readPart_63 (by decide) (fun _ => ?_) (fun q => absurd q (by decide))
          refine R_iconst (v := 0) dX5_readPart_79 (by decide) ?_
          refine R_ireturn dX5_readPart_80 ⟨_, rfl, rfl⟩ ?_
          obtain rfl := Option.some.inj hr
          first | exact h1 rfl _ ha | exact h0 rfl _ hm2 | exact h0 b2 _ hm2
    · rw [if_neg en2] at hr
      obtain rfl := Option.some.inj hr
      refine al_0 dX5_readPart_0 ?_
      refine R_bipush (v := 33) dX5_readPart_1 (by decide) ?_
      refine cv_1 dX5_readPart_3 mm_RX5_40 sh_84 (Nat.le_of_ble_eq_true rfl) ⟨_, rfl, rfl⟩ (Nat.le_of_ble_eq_true rfl) (Nat.le_of_ble_eq_true rfl) (K_isNext htx1 hat hpL (c := 33) rfl (by decide) (fun q => absurd q (by omega)) (fun _ => ?_))
      refine is_2 dX5_readPart_6 rfl ?_
      refine il_2 dX5_readPart_7 ?_
      refine R_if_ne (tgt := 25) dX5_readPart_8 (by decide) (fun q => absurd q (by decide)) (fun _ => ?_)
      refine al_0 dX5_readPart_11 ?_
      refine R_bipush (v := 40) dX5_readPart_12 (by decide) ?_
      refine cv_1 dX5_readPart_14 mm_RX5_40 sh_84 (Nat.le_of_ble_eq_true rfl) ⟨_, rfl, rfl⟩ (Nat.le_of_ble_eq_true rfl) (Nat.le_of_ble_eq_true rfl) (K_isNext htx1 hat hpL (c := 40) rfl (by decide) (fun q => absurd q (by omega)) (fun _ => ?_))
      refine R_if_ne (tgt := 25) dX5_readPart_17 (by decide) (fun q => absurd q (by decide)) (fun _ => ?_)
      refine al_0 dX5_readPart_20 ?_
      refine cv_0 dX5_readPart_21 mm_RX5_96 sh_84 (Nat.le_of_ble_eq_true rfl) ⟨_, rfl, rfl⟩ (Nat.le_of_ble_eq_true rfl) (Nat.le_of_ble_eq_true rfl) (K_readTest htx hk hpL hrc hsz (fun m5 hm5 => ?_))
      refine R_ireturn dX5_readPart_24 ⟨_, rfl, (by cases (tstR T L p c).1 <;> rfl)⟩ ?_
      cases hb : (tstR T L p c).1
      · exact h0 hb m5 hm5
      · exact h1 hb m5 hm5

set_option maxHeartbeats 4000000 in
theorem L_kr1 {T : Nat → Nat} {L : Nat} {m0 : Nat → Nat → Int32} {bs : List Int32} {ml : Nat → Nat → Int64} {D : Nat → Nat} {n : Nat} (htx : TXC T L m0) (hk : PD (D 84)) (ih0 : KR0 T L m0 bs ml D n) (ih1 : KR1 T L m0 bs ml D n) (ih2 : KR2 T L m0 bs ml D n) (ih3 : KR3 T L m0 bs ml D n) (ih4 : KR4 T L m0 bs ml D n) : KR1 T L m0 bs ml D (n + 1) := by
  intro G E κ Q mi wi p c x r hr hx hwi hE hpL hrc hsz h1 h0
  have htx1 := hrc.tx hk htx
  have hat := hrc.2.2.2.1
  have hL := htx.1
  show Run G _ M_X5_readBoth 0 [.ref 84, .int x, .null] [] _ _ _
  rw [rd_1] at hr
  obtain ⟨r1, e1, hr⟩ := bind_of hr
  have okr := rd_ok T L n 0 wi p c r1 (by omega) hpL e1
  unfold okR at okr
  obtain ⟨F, rfl⟩ : ∃ F, E = F + 1 := ⟨E - 1, by omega⟩
  refine al_0 dX5_readBoth_0 ?_
  refine il_1 dX5_readBoth_1 ?_
  refine cv_1 dX5_readBoth_2 mm_RX5_93 sh_84 (Nat.le_of_ble_eq_true rfl) ⟨_, rfl, rfl⟩ (Nat.le_of_ble_eq_true rfl) (Nat.le_of_ble_eq_true rfl) (ih0 G _ _ _ _ wi p c x r1 e1 hx hwi (by omega) hpL hrc hsz (fun b2 m2 hm2 => ?_) (fun b2 m2 hm2 => ?_))
  · rw [if_pos b2] at hr
    refine R_if_ne (tgt := 10) dX5_readBoth_5 (by decide) (fun _ => ?_) (fun q => absurd q (by decide))
    refine R_iconst (v := 0) dX5_readBoth_10 (by decide) ?_
    refine is_2 dX5_readBoth_11 rfl ?_
    exact ih2 G _ _ _ _ wi r1.2.1 r1.2.2 x r hr hx hwi (by omega) okr.2.1 hm2 (by omega) h1 h0 0 0 rfl (Nat.zero_le _)
  · rw [if_neg (fun q => by rw [b2] at q; exact absurd q (by decide))] at hr
    refine R_if_ne (tgt := 10) dX5_readBoth_5 (by decide) (fun q => absurd q (by decide)) (fun _ => ?_)
    refine R_iconst (v := 0) dX5_readBoth_8 (by decide) ?_
    refine R_ireturn dX5_readBoth_9 ⟨_, rfl, rfl⟩ ?_
    obtain rfl := Option.some.inj hr
    exact h0 b2 m2 hm2

set_option maxHeartbeats 4000000 in
theorem L_kr2 {T : Nat → Nat} {L : Nat} {m0 : Nat → Nat → Int32} {bs : List Int32} {ml : Nat → Nat → Int64} {D : Nat → Nat} {n : Nat} (htx : TXC T L m0) (hk : PD (D 84)) (ih0 : KR0 T L m0 bs ml D n) (ih1 : KR1 T L m0 bs ml D n) (ih2 : KR2 T L m0 bs ml D n) (ih3 : KR3 T L m0 bs ml D n) (ih4 : KR4 T L m0 bs ml D n) : KR2 T L m0 bs ml D (n + 1) := by
  intro G E κ Q mi wi p c x r hr hx hwi hE hpL hrc hsz h1 h0 y k hy hkp
  have htx1 := hrc.tx hk htx
  have hat := hrc.2.2.2.1
  have hL := htx.1
  rw [rd_2] at hr
  obtain ⟨F, rfl⟩ : ∃ F, E = F + 2 := ⟨E - 2, by omega⟩
  by_cases en : nxT T L p = 38
  · rw [if_pos en] at hr
    have l1 := nxT_lt (p := p) (show nxT T L p ≠ 128 by omega)
    obtain ⟨r1, e1, hr⟩ := bind_of hr
    have okr := rd_ok T L n 0 wi (p + 1) c r1 (by omega) (by omega) e1
    unfold okR at okr
    refine il_2 dX5_readBoth_12 ?_
    refine R_bipush (v := 100) dX5_readBoth_13 (by decide) ?_
    refine R_icmp_ge (tgt := 52) dX5_readBoth_15 (by decide) (fun q => absurd q (by rw [hy]; exact nI_ge (b := 100) (by omega) (by decide))) (fun c15 => ?_)
    refine al_0 dX5_readBoth_18 ?_
    refine R_bipush (v := 38) dX5_readBoth_19 (by decide) ?_
    refine cv_1 dX5_readBoth_21 mm_RX5_36 sh_84 (Nat.le_of_ble_eq_true rfl) ⟨_, rfl, rfl⟩ (Nat.le_of_ble_eq_true rfl) (Nat.le_of_ble_eq_true rfl) (K_skip htx1 hat hpL (c := 38) rfl (by decide) (fun _ _ => ?_) (fun q => absurd en q))
    refine R_if_eq (tgt := 52) dX5_readBoth_24 (by decide) (fun q => absurd q (by decide)) (fun _ => ?_)
    refine al_0 dX5_readBoth_27 ?_
    refine il_1 dX5_readBoth_28 ?_
    refine cv_1 dX5_readBoth_29 mm_RX5_93 sh_84 (Nat.le_of_ble_eq_true rfl) ⟨_, rfl, rfl⟩ (Nat.le_of_ble_eq_true rfl) (Nat.le_of_ble_eq_true rfl) (ih0 G _ _ _ _ wi (p + 1) c x r1 e1 hx hwi (by omega) (by omega) (hrc.at hk) (by omega) (fun b2 m2 hm2 => ?_) (fun b2 m2 hm2 => ?_))
    · rw [if_pos b2] at hr
      refine R_if_ne (tgt := 37) dX5_readBoth_32 (by decide) (fun _ => ?_) (fun q => absurd q (by decide))
      refine al_0 dX5_readBoth_37 ?_
      refine R_getfr (r := (D 84)) dX5_readBoth_38 fl_RX5_18 rfl sh_84 (Nat.le_of_ble_eq_true rfl) rfl ?_
      refine R_bipush (v := -2) dX5_readBoth_41 (by decide) ?_
      refine cv_1 dX5_readBoth_43 mm_RX5_78 (pd_s0 hk) (show (D 84) < 164 by have := pd_n hk; omega) ⟨_, rfl, rfl⟩ (Nat.le_of_ble_eq_true rfl) (Nat.le_of_ble_eq_true rfl) (K_addCode hk hm2.2.2.2.2.1 (by rw [len_map]; omega) ?_)
      have ha := hm2.add (x := -2) hk
      refine ii_2 (v := _ + 1) dX5_readBoth_46 rfl (by rfl) ?_
      refine R_goto (tgt := 12) dX5_readBoth_49 (by decide) ?_
      rw [show bs ++ r1.2.2.map tC ++ [-2] = bs ++ (r1.2.2 ++ [(1, 0, 0, 0)]).map tC from (map_snoc (t := (1, 0, 0, 0))).symm] at ha
      exact ih2 G _ _ _ _ wi r1.2.1 _ x r hr hx hwi (by omega) okr.2.1 ha (by rw [List.length_append]; show _ + (_ + 1) ≤ _; omega) h1 h0 _ (k + 1) (by rw [hy]; exact sm_add k 1) (by omega)
    · rw [if_neg (fun q => by rw [b2] at q; exact absurd q (by decide))] at hr
      refine R_if_ne (tgt := 37) dX5_readBoth_32 (by decide) (fun q => absurd q (by decide)) (fun _ => ?_)
      refine R_iconst (v := 0) dX5_readBoth_35 (by decide) ?_
      refine R_ireturn dX5_readBoth_36 ⟨_, rfl, rfl⟩ ?_
      obtain rfl := Option.some.inj hr
      exact h0 b2 m2 hm2
  · rw [if_neg en] at hr
    obtain rfl := Option.some.inj hr
    by_cases k100 : k < 100
    · skip
      refine il_2 dX5_readBoth_12 ?_
      refine R_bipush (v := 100) dX5_readBoth_13 (by decide) ?_
      refine R_icmp_ge (tgt := 52) dX5_readBoth_15 (by decide) (fun q => absurd q (by rw [hy]; exact nI_ge (b := 100) k100 (by decide))) (fun c15 => ?_)
      refine al_0 dX5_readBoth_18 ?_
      refine R_bipush (v := 38) dX5_readBoth_19 (by decide) ?_
      refine cv_1 dX5_readBoth_21 mm_RX5_36 sh_84 (Nat.le_of_ble_eq_true rfl) ⟨_, rfl, rfl⟩ (Nat.le_of_ble_eq_true rfl) (Nat.le_of_ble_eq_true rfl) (K_skip htx1 hat hpL (c := 38) rfl (by decide) (fun q _ => absurd q en) (fun _ => ?_))
      refine R_if_eq (tgt := 52) dX5_readBoth_24 (by decide) (fun _ => ?_) (fun q => absurd q (by decide))
      refine R_iconst (v := 1) dX5_readBoth_52 (by decide) ?_
      refine R_ireturn dX5_readBoth_53 ⟨_, rfl, rfl⟩ ?_
      exact h1 rfl _ hrc
    · skip
      refine il_2 dX5_readBoth_12 ?_
      refine R_bipush (v := 100) dX5_readBoth_13 (by decide) ?_
      refine R_icmp_ge (tgt := 52) dX5_readBoth_15 (by decide) (fun c15 => ?_) (fun q => absurd q (not_not_intro (by rw [hy]; exact (sm_le_iff (a := 100) (by decide) (by omega)).mpr (by omega))))
      refine R_iconst (v := 1) dX5_readBoth_52 (by decide) ?_
      refine R_ireturn dX5_readBoth_53 ⟨_, rfl, rfl⟩ ?_
      exact h1 rfl _ hrc

set_option maxHeartbeats 4000000 in
theorem L_kr3 {T : Nat → Nat} {L : Nat} {m0 : Nat → Nat → Int32} {bs : List Int32} {ml : Nat → Nat → Int64} {D : Nat → Nat} {n : Nat} (htx : TXC T L m0) (hk : PD (D 84)) (ih0 : KR0 T L m0 bs ml D n) (ih1 : KR1 T L m0 bs ml D n) (ih2 : KR2 T L m0 bs ml D n) (ih3 : KR3 T L m0 bs ml D n) (ih4 : KR4 T L m0 bs ml D n) : KR3 T L m0 bs ml D (n + 1) := by
  intro G E κ Q mi wi p c x r hr hx hwi hE hpL hrc hsz h1 h0
  have htx1 := hrc.tx hk htx
  have hat := hrc.2.2.2.1
  have hL := htx.1
  show Run G _ M_X5_readEither 0 [.ref 84, .int x, .null] [] _ _ _
  rw [rd_3] at hr
  obtain ⟨r1, e1, hr⟩ := bind_of hr
  have okr := rd_ok T L n 1 wi p c r1 (by omega) hpL e1
  unfold okR at okr
  obtain ⟨F, rfl⟩ : ∃ F, E = F + 1 := ⟨E - 1, by omega⟩
  refine al_0 dX5_readEither_0 ?_
  refine il_1 dX5_readEither_1 ?_
  refine cv_1 dX5_readEither_2 mm_RX5_90 sh_84 (Nat.le_of_ble_eq_true rfl) ⟨_, rfl, rfl⟩ (Nat.le_of_ble_eq_true rfl) (Nat.le_of_ble_eq_true rfl) (ih1 G _ _ _ _ wi p c x r1 e1 hx hwi (by omega) hpL hrc hsz (fun b2 m2 hm2 => ?_) (fun b2 m2 hm2 => ?_))
  · rw [if_pos b2] at hr
    refine R_if_ne (tgt := 10) dX5_readEither_5 (by decide) (fun _ => ?_) (fun q => absurd q (by decide))
    refine R_iconst (v := 0) dX5_readEither_10 (by decide) ?_
    refine is_2 dX5_readEither_11 rfl ?_
    exact ih4 G _ _ _ _ wi r1.2.1 r1.2.2 x r hr hx hwi (by omega) okr.2.1 hm2 (by omega) h1 h0 0 0 rfl (Nat.zero_le _)
  · rw [if_neg (fun q => by rw [b2] at q; exact absurd q (by decide))] at hr
    refine R_if_ne (tgt := 10) dX5_readEither_5 (by decide) (fun q => absurd q (by decide)) (fun _ => ?_)
    refine R_iconst (v := 0) dX5_readEither_8 (by decide) ?_
    refine R_ireturn dX5_readEither_9 ⟨_, rfl, rfl⟩ ?_
    obtain rfl := Option.some.inj hr
    exact h0 b2 m2 hm2

set_option maxHeartbeats 4000000 in
theorem L_kr4 {T : Nat → Nat} {L : Nat} {m0 : Nat → Nat → Int32} {bs : List Int32} {ml : Nat → Nat → Int64} {D : Nat → Nat} {n : Nat} (htx : TXC T L m0) (hk : PD (D 84)) (ih0 : KR0 T L m0 bs ml D n) (ih1 : KR1 T L m0 bs ml D n) (ih2 : KR2 T L m0 bs ml D n) (ih3 : KR3 T L m0 bs ml D n) (ih4 : KR4 T L m0 bs ml D n) : KR4 T L m0 bs ml D (n + 1) := by
  intro G E κ Q mi wi p c x r hr hx hwi hE hpL hrc hsz h1 h0 y k hy hkp
  have htx1 := hrc.tx hk htx
  have hat := hrc.2.2.2.1
  have hL := htx.1
  rw [rd_4] at hr
  obtain ⟨F, rfl⟩ : ∃ F, E = F + 2 := ⟨E - 2, by omega⟩
  by_cases en : nxT T L p = 124
  · rw [if_pos en] at hr
    have l1 := nxT_lt (p := p) (show nxT T L p ≠ 128 by omega)
    obtain ⟨r1, e1, hr⟩ := bind_of hr
    have okr := rd_ok T L n 1 wi (p + 1) c r1 (by omega) (by omega) e1
    unfold okR at okr
    refine il_2 dX5_readEither_12 ?_
    refine R_bipush (v := 100) dX5_readEither_13 (by decide) ?_
    refine R_icmp_ge (tgt := 52) dX5_readEither_15 (by decide) (fun q => absurd q (by rw [hy]; exact nI_ge (b := 100) (by omega) (by decide))) (fun c15 => ?_)
    refine al_0 dX5_readEither_18 ?_
    refine R_bipush (v := 124) dX5_readEither_19 (by decide) ?_
    refine cv_1 dX5_readEither_21 mm_RX5_36 sh_84 (Nat.le_of_ble_eq_true rfl) ⟨_, rfl, rfl⟩ (Nat.le_of_ble_eq_true rfl) (Nat.le_of_ble_eq_true rfl) (K_skip htx1 hat hpL (c := 124) rfl (by decide) (fun _ _ => ?_) (fun q => absurd en q))
    refine R_if_eq (tgt := 52) dX5_readEither_24 (by decide) (fun q => absurd q (by decide)) (fun _ => ?_)
    refine al_0 dX5_readEither_27 ?_
    refine il_1 dX5_readEither_28 ?_
    refine cv_1 dX5_readEither_29 mm_RX5_90 sh_84 (Nat.le_of_ble_eq_true rfl) ⟨_, rfl, rfl⟩ (Nat.le_of_ble_eq_true rfl) (Nat.le_of_ble_eq_true rfl) (ih1 G _ _ _ _ wi (p + 1) c x r1 e1 hx hwi (by omega) (by omega) (hrc.at hk) (by omega) (fun b2 m2 hm2 => ?_) (fun b2 m2 hm2 => ?_))
    · rw [if_pos b2] at hr
      refine R_if_ne (tgt := 37) dX5_readEither_32 (by decide) (fun _ => ?_) (fun q => absurd q (by decide))
      refine al_0 dX5_readEither_37 ?_
      refine R_getfr (r := (D 84)) dX5_readEither_38 fl_RX5_18 rfl sh_84 (Nat.le_of_ble_eq_true rfl) rfl ?_
      refine R_bipush (v := -3) dX5_readEither_41 (by decide) ?_
      refine cv_1 dX5_readEither_43 mm_RX5_78 (pd_s0 hk) (show (D 84) < 164 by have := pd_n hk; omega) ⟨_, rfl, rfl⟩ (Nat.le_of_ble_eq_true rfl) (Nat.le_of_ble_eq_true rfl) (K_addCode hk hm2.2.2.2.2.1 (by rw [len_map]; omega) ?_)
      have ha := hm2.add (x := -3) hk
      refine ii_2 (v := _ + 1) dX5_readEither_46 rfl (by rfl) ?_
      refine R_goto (tgt := 12) dX5_readEither_49 (by decide) ?_
      rw [show bs ++ r1.2.2.map tC ++ [-3] = bs ++ (r1.2.2 ++ [(2, 0, 0, 0)]).map tC from (map_snoc (t := (2, 0, 0, 0))).symm] at ha
      exact ih4 G _ _ _ _ wi r1.2.1 _ x r hr hx hwi (by omega) okr.2.1 ha (by rw [List.length_append]; show _ + (_ + 1) ≤ _; omega) h1 h0 _ (k + 1) (by rw [hy]; exact sm_add k 1) (by omega)
    · rw [if_neg (fun q => by rw [b2] at q; exact absurd q (by decide))] at hr
      refine R_if_ne (tgt := 37) dX5_readEither_32 (by decide) (fun q => absurd q (by decide)) (fun _ => ?_)
      refine R_iconst (v := 0) dX5_readEither_35 (by decide) ?_
      refine R_ireturn dX5_readEither_36 ⟨_, rfl, rfl⟩ ?_
      obtain rfl := Option.some.inj hr
      exact h0 b2 m2 hm2
  · rw [if_neg en] at hr
    obtain rfl := Option.some.inj hr
    by_cases k100 : k < 100
    · skip
      refine il_2 dX5_readEither_12 ?_
      refine R_bipush (v := 100) dX5_readEither_13 (by decide) ?_
      refine R_icmp_ge (tgt := 52) dX5_readEither_15 (by decide) (fun q => absurd q (by rw [hy]; exact nI_ge (b := 100) k100 (by decide))) (fun c15 => ?_)
      refine al_0 dX5_readEither_18 ?_
      refine R_bipush (v := 124) dX5_readEither_19 (by decide) ?_
      refine cv_1 dX5_readEither_21 mm_RX5_36 sh_84 (Nat.le_of_ble_eq_true rfl) ⟨_, rfl, rfl⟩ (Nat.le_of_ble_eq_true rfl) (Nat.le_of_ble_eq_true rfl) (K_skip htx1 hat hpL (c := 124) rfl (by decide) (fun q _ => absurd q en) (fun _ => ?_))
      refine R_if_eq (tgt := 52) dX5_readEither_24 (by decide) (fun _ => ?_) (fun q => absurd q (by decide))
      refine R_iconst (v := 1) dX5_readEither_52 (by decide) ?_
      refine R_ireturn dX5_readEither_53 ⟨_, rfl, rfl⟩ ?_
      exact h1 rfl _ hrc
    · skip
      refine il_2 dX5_readEither_12 ?_
      refine R_bipush (v := 100) dX5_readEither_13 (by decide) ?_
      refine R_icmp_ge (tgt := 52) dX5_readEither_15 (by decide) (fun c15 => ?_) (fun q => absurd q (not_not_intro (by rw [hy]; exact (sm_le_iff (a := 100) (by decide) (by omega)).mpr (by omega))))
      refine R_iconst (v := 1) dX5_readEither_52 (by decide) ?_
      refine R_ireturn dX5_readEither_53 ⟨_, rfl, rfl⟩ ?_
      exact h1 rfl _ hrc

theorem kr_all {T : Nat → Nat} {L : Nat} {m0 : Nat → Nat → Int32} {bs : List Int32} {ml : Nat → Nat → Int64} {D : Nat → Nat} (htx : TXC T L m0) (hk : PD (D 84)) : ∀ n, KR0 T L m0 bs ml D n ∧ KR1 T L m0 bs ml D n ∧ KR2 T L m0 bs ml D n ∧ KR3 T L m0 bs ml D n ∧ KR4 T L m0 bs ml D n
  | 0 => ⟨fun _ _ _ _ _ _ _ _ _ _ h => absurd h (by simp [rd]), fun _ _ _ _ _ _ _ _ _ _ h => absurd h (by simp [rd]), fun _ _ _ _ _ _ _ _ _ _ h => absurd h (by simp [rd]), fun _ _ _ _ _ _ _ _ _ _ h => absurd h (by simp [rd]), fun _ _ _ _ _ _ _ _ _ _ h => absurd h (by simp [rd])⟩
  | n + 1 => by
    obtain ⟨i0, i1, i2, i3, i4⟩ := kr_all htx hk n
    exact ⟨L_kr0 htx hk i0 i1 i2 i3 i4, L_kr1 htx hk i0 i1 i2 i3 i4, L_kr2 htx hk i0 i1 i2 i3 i4, L_kr3 htx hk i0 i1 i2 i3 i4, L_kr4 htx hk i0 i1 i2 i3 i4⟩
