/-! minutes; who is out; who is left; a park copied; gates and people; what is tried -/
def PF (b : Nat) (mi mi' : Nat → Nat → Int32) : Prop := (∀ a, (a < b ∨ b + 19 ≤ a) → mi' a = mi a) ∧ mi' (b + 5) = mi (b + 5) ∧ mi' (b + 6) = mi (b + 6)
theorem PF.refl (b : Nat) (mi : Nat → Nat → Int32) : PF b mi mi := ⟨fun _ _ => rfl, rfl, rfl⟩
theorem PF.trans {b : Nat} {m1 m2 m3 : Nat → Nat → Int32} (h : PF b m1 m2) (g : PF b m2 m3) : PF b m1 m3 := ⟨fun a ha => (g.1 a ha).trans (h.1 a ha), g.2.1.trans h.2.1, g.2.2.trans h.2.2⟩
theorem PF.pd {b k : Nat} {mi mi' : Nat → Nat → Int32} (h : PF b mi mi') (hB : PB b) (hk : PD k) : mi' k = mi k ∧ mi' (k + 1) = mi (k + 1) := by
  by_cases h5 : k = b + 5
  · subst h5; exact ⟨h.2.1, h.2.2⟩
  · have h1 : (k < b ∨ b + 19 ≤ k) ∧ (k + 1 < b ∨ b + 19 ≤ k + 1) := by unfold PD at hk; unfold PB at hB; omega
    exact ⟨h.1 k h1.1, h.1 _ h1.2⟩
theorem PF.er {b k : Nat} {mi mi' : Nat → Nat → Int32} (h : PF b mi mi') (hB : PB b) (hk : PD k) : erD mi' k = erD mi k := by
  funext F
  unfold erD
  rw [(h.pd hB hk).1, (h.pd hB hk).2]
theorem PF.dk {b k : Nat} {mi mi' : Nat → Nat → Int32} (h : PF b mi mi') (hB : PB b) (hk : PD k) (hd : DKI mi k) : DKI mi' k := by
  obtain ⟨S, h1, h2⟩ := hd
  exact ⟨S, h1, by rw [(h.pd hB hk).1]; exact h2⟩
def MS (n b k : Nat) (mi mi' : Nat → Nat → Int32) : Prop := PF b mi mi' ∧ mi' b 12 = mi b 12 ∧ wC mi' k b = minsW (erD mi k) n (wC mi k b)
theorem WI.mins {er : (Nat → Int32) → Int32} : ∀ (n T : Nat) (w : WD), WI T w → T + n < 2 ^ 30 → WI (T + n) (minsW er n w)
  | 0, T, w, h, _ => h
  | n + 1, T, w, h, hT => by
    have := WI.mins (er := er) n (T + 1) (minuteW er w) (h.minute (by omega)) (by omega)
    rw [show T + (n + 1) = T + 1 + n by omega]
    exact this
theorem MS.step {n b k T : Nat} {mi m m' : Nat → Nat → Int32} (hB : PB b) (hk : PD k) (h : MS n b k mi m) (h1 : PF b m m') (h2 : m' b 12 = m b 12) (h3 : wC m' k b = minuteW (erD m k) (wC m k b)) : MS (n + 1) b k mi m' := by
  refine ⟨h.1.trans h1, h2.trans h.2.1, ?_⟩
  rw [h3, h.1.er hB hk, h.2.2, minsW_succ]
def outF (g : Nat → Int32) : Nat → Nat → Int32 → Int32
  | 0, _, x => x
  | n + 1, i, x => outF g n (i + 1) (if g i = 0 then x else x ||| ((1 : Int32) <<< (nI i &&& 31)))
theorem outF_congr {g g' : Nat → Int32} : ∀ (n i : Nat) (x : Int32), (∀ j, j < i + n → (g j = 0 ↔ g' j = 0)) → outF g n i x = outF g' n i x
  | 0, _, _, _ => rfl
  | n + 1, i, x, h => by
    unfold outF
    have e : (if g i = 0 then x else x ||| ((1 : Int32) <<< (nI i &&& 31))) = if g' i = 0 then x else x ||| ((1 : Int32) <<< (nI i &&& 31)) := by
      by_cases hg : g i = 0
      · rw [if_pos hg, if_pos ((h i (by omega)).mp hg)]
      · rw [if_neg hg, if_neg (fun q => hg ((h i (by omega)).mpr q))]
    rw [e]
    exact outF_congr n (i + 1) _ (fun j hj => h j (by omega))
def outW (w : WD) : Int32 := outF (fun i => w.2.2.2 i 5) (nn (w.1 2)) 0 0
def insW (w : WD) : Int32 := w.1 2 - popJ (outW w)
noncomputable def leftW (er : (Nat → Int32) → Int32) (w : WD) : Int32 := insW (minsW er 60 w)
theorem wC_out {mi : Nat → Nat → Int32} {k b N : Nat} (hp : mi b 6 = nI N) (hN : N ≤ 6) : outW (wC mi k b) = outF (fun i => mi (b + 7 + 2 * i) 5) N 0 0 := by
  have hn : nn (mi b 6) = N := by rw [hp]; exact nI_clamp (by omega)
  show outF (fun i => (if i < nn (mi b 6) then pC mi (b + 7 + 2 * i) else fun _ => 0) 5) (nn (mi b 6)) 0 0 = _
  rw [hn]
  refine outF_congr N 0 0 (fun j hj => ?_)
  show (if j < N then pC mi (b + 7 + 2 * j) else fun _ => 0) 5 = 0 ↔ _
  rw [if_pos (by omega)]
  exact Iff.rfl
/-- of up to six, how many aren't out -/
def cntZ (g : Nat → Int32) : Nat → Nat
  | 0 => 0
  | n + 1 => cntZ g n + (if g n = 0 then 1 else 0)
theorem cntZ_le (g : Nat → Int32) : ∀ n, cntZ g n ≤ n
  | 0 => Nat.le_refl 0
  | n + 1 => by
    unfold cntZ
    have := cntZ_le g n
    split <;> omega
theorem cntZ_zero {g : Nat → Int32} : ∀ n, cntZ g n = 0 → ∀ j, j < n → ¬ g j = 0
  | 0, _, j, hj => absurd hj (Nat.not_lt_zero j)
  | n + 1, h, j, hj => by
    unfold cntZ at h
    by_cases hg : g n = 0
    · rw [if_pos hg] at h; omega
    · rw [if_neg hg] at h
      by_cases hjn : j = n
      · rw [hjn]; exact hg
      · exact cntZ_zero n (by omega) j (by omega)
theorem cntZ_all {g : Nat → Int32} : ∀ n, (∀ j, j < n → ¬ g j = 0) → cntZ g n = 0
  | 0, _ => rfl
  | n + 1, h => by
    unfold cntZ
    rw [if_neg (h n (by omega)), cntZ_all n (fun j hj => h j (by omega))]
set_option maxHeartbeats 4000000 in
theorem pop_out (g : Nat → Int32) : ∀ N, N ≤ 6 → nI N - popJ (outF g N 0 0) = nI (cntZ g N) := by
  intro N hN
  match N, hN with
  | 0, _ => exact (by decide : nI 0 - popJ 0 = nI 0)
  | 1, _ => unfold outF outF cntZ cntZ; by_cases h0 : g 0 = 0 <;> simp only [h0, if_true, if_false, if_pos, if_neg, not_false_eq_true] <;> decide
  | 2, _ => unfold outF outF outF cntZ cntZ cntZ; by_cases h0 : g 0 = 0 <;> by_cases h1 : g 1 = 0 <;> simp only [h0, h1, if_true, if_false, if_pos, if_neg, not_false_eq_true] <;> decide
  | 3, _ => unfold outF outF outF outF cntZ cntZ cntZ cntZ; by_cases h0 : g 0 = 0 <;> by_cases h1 : g 1 = 0 <;> by_cases h2 : g 2 = 0 <;> simp only [h0, h1, h2, if_true, if_false, if_pos, if_neg, not_false_eq_true] <;> decide
  | 4, _ => unfold outF outF outF outF outF cntZ cntZ cntZ cntZ cntZ; by_cases h0 : g 0 = 0 <;> by_cases h1 : g 1 = 0 <;> by_cases h2 : g 2 = 0 <;> by_cases h3 : g 3 = 0 <;> simp only [h0, h1, h2, h3, if_true, if_false, if_pos, if_neg, not_false_eq_true] <;> decide
  | 5, _ => unfold outF outF outF outF outF outF cntZ cntZ cntZ cntZ cntZ cntZ; by_cases h0 : g 0 = 0 <;> by_cases h1 : g 1 = 0 <;> by_cases h2 : g 2 = 0 <;> by_cases h3 : g 3 = 0 <;> by_cases h4 : g 4 = 0 <;> simp only [h0, h1, h2, h3, h4, if_true, if_false, if_pos, if_neg, not_false_eq_true] <;> decide
  | 6, _ => unfold outF outF outF outF outF outF outF cntZ cntZ cntZ cntZ cntZ cntZ cntZ; by_cases h0 : g 0 = 0 <;> by_cases h1 : g 1 = 0 <;> by_cases h2 : g 2 = 0 <;> by_cases h3 : g 3 = 0 <;> by_cases h4 : g 4 = 0 <;> by_cases h5 : g 5 = 0 <;> simp only [h0, h1, h2, h3, h4, h5, if_true, if_false, if_pos, if_neg, not_false_eq_true] <;> decide
theorem ins_cnt {w : WD} {N : Nat} (hp : w.1 2 = nI N) (hN : N ≤ 6) : insW w = nI (cntZ (fun i => w.2.2.2 i 5) N) := by
  unfold insW outW
  rw [hp, show nn (nI N) = N from nI_clamp (by omega)]
  exact pop_out _ N hN
theorem out_stay {er : (Nat → Int32) → Int32} {w : WD} {N i : Nat} (hp : w.1 2 = nI N) (hN : N ≤ 6) (hi : i < N) (h : ¬ w.2.2.2 i 5 = 0) : (minuteW er w).2.2.2 i = w.2.2.2 i := by
  show (if i < nn (w.1 2) then pstepF er w.1 w.2.1 (w.2.2.2 i) i else fun _ => 0) = _
  rw [if_pos (by rw [hp, show nn (nI N) = N from nI_clamp (by omega)]; exact hi), pstepF_neg (fun q => h q.1)]
theorem min_2 (er : (Nat → Int32) → Int32) (w : WD) : (minuteW er w).1 2 = w.1 2 := by
  have h := roundF_keep (s := w.1) (gp := w.2.1) (rd := w.2.2.1) (j := 2) (by decide) (by decide) (by decide) (by decide)
  show (if (2 : Nat) = 6 then w.1 6 + 1 else roundF w.1 w.2.1 w.2.2.1 2) = w.1 2
  rw [if_neg (by decide)]
  exact h
theorem ins_zero {er : (Nat → Int32) → Int32} {N : Nat} (hN : N ≤ 6) : ∀ (n : Nat) (w : WD), w.1 2 = nI N → cntZ (fun i => w.2.2.2 i 5) N = 0 → cntZ (fun i => (minsW er n w).2.2.2 i 5) N = 0 ∧ (minsW er n w).1 2 = nI N
  | 0, w, hp, h => ⟨h, hp⟩
  | n + 1, w, hp, h => by
    refine ins_zero hN n (minuteW er w) ((min_2 er w).trans hp) (cntZ_all N (fun j hj => ?_))
    have h1 := cntZ_zero N h j hj
    show ¬ (minuteW er w).2.2.2 j 5 = 0
    rw [out_stay hp hN hj h1]
    exact h1
theorem left_early {er : (Nat → Int32) → Int32} {w : WD} {N i : Nat} (hp : w.1 2 = nI N) (hN : N ≤ 6) (hi : i ≤ 60) (h : ¬ 0 < insW (minsW er i w)) : insW (minsW er i w) = leftW er w := by
  have hpi : ∀ n, (minsW er n w).1 2 = nI N := by
    intro n
    induction n with
    | zero => exact hp
    | succ n ih => rw [minsW_succ, min_2]; exact ih
  have e1 := ins_cnt (hpi i) hN
  have hc : cntZ (fun j => (minsW er i w).2.2.2 j 5) N = 0 := by
    rw [e1] at h
    have hle := cntZ_le (fun j => (minsW er i w).2.2.2 j 5) N
    rcases Nat.eq_zero_or_pos (cntZ (fun j => (minsW er i w).2.2.2 j 5) N) with q | q
    · exact q
    · exact absurd (by rw [← nI_0, sm_lt_iff (by decide) (by omega)]; exact q) h
  have h60 : minsW er 60 w = minsW er (60 - i) (minsW er i w) := by
    have key : ∀ a c (v : WD), minsW er (a + c) v = minsW er c (minsW er a v) := by
      intro a
      induction a with
      | zero => intro c v; rw [Nat.zero_add]; rfl
      | succ a ih => intro c v; rw [show a + 1 + c = a + c + 1 by omega]; exact ih c (minuteW er v)
    rw [← key, show i + (60 - i) = 60 by omega]
  unfold leftW
  rw [h60, e1, hc]
  obtain ⟨z1, z2⟩ := ins_zero (er := er) hN (60 - i) (minsW er i w) (hpi i) hc
  rw [ins_cnt z2 hN, z1]

set_option maxHeartbeats 4000000 in
theorem L_outBits {G : rn_G} {d : Nat} {κ : Nat × Nat} {Q : Option Value → rn_S → Prop} {mi : Nat → Nat → Int32} {ml : Nat → Nat → Int64} {D : Nat → Nat} {b : Nat} (hB : PB b) {N : Nat} (hp : mi b 6 = nI N) (hN : N ≤ 6) : ∀ (n i : Nat) (x y : Int32), n + i = N → x = nI i → Q (some (.int (outF (fun i => mi (b + 7 + 2 * i) 5) n i y))) (mi, ml, RF D, 164) → Run G d M_X3_outBits 4 [.ref b, .int y, .int x] [] (mi, ml, RF D, 164) κ Q := by
  intro n
  induction n with
  | zero =>
    intro i x y hni hx h
    refine il_2 dX3_outBits_4 ?_
    refine al_0 dX3_outBits_5 ?_
    refine R_getfi dX3_outBits_6 fl_RX3_45 rfl (pb_s0 hB) (show b < 164 by have := pb_n hB; omega) ?_
    refine R_icmp_ge (tgt := 36) dX3_outBits_9 (by decide) (fun c9 => ?_) (fun q => absurd q (not_not_intro (by rw [hp, hx]; exact nI_le (by omega) (by omega))))
    refine il_1 dX3_outBits_36 ?_
    refine R_ireturn dX3_outBits_37 ⟨_, rfl, rfl⟩ ?_
    exact h
  | succ n ih =>
    intro i x y hni hx h
    have hi : i < 6 := by omega
    have hix : rn_ix x i := by rw [hx]; exact rn_ix_nI (by omega)
    unfold outF at h
    rw [← hx] at h
    refine il_2 dX3_outBits_4 ?_
    refine al_0 dX3_outBits_5 ?_
    refine R_getfi dX3_outBits_6 fl_RX3_45 rfl (pb_s0 hB) (show b < 164 by have := pb_n hB; omega) ?_
    refine R_icmp_ge (tgt := 36) dX3_outBits_9 (by decide) (fun q => absurd q (by rw [hp, hx]; exact nI_ge (by omega) (by omega))) (fun c9 => ?_)
    refine al_0 dX3_outBits_12 ?_
    refine R_getfr (r := b + 2) dX3_outBits_13 fl_RX3_17 rfl (pb_s0 hB) (show b < 164 by have := pb_n hB; omega) (pb_r1 hB) ?_
    refine il_2 dX3_outBits_16 ?_
    refine R_aald (t := 4) (r := (b + 7 + 2 * i)) dX3_outBits_17 (by decide) (pb_s2 hB) (show b + 2 < 164 by have := pb_n hB; omega) hix hi (pb_rq hB hi) ?_
    refine R_getfi dX3_outBits_18 fl_RX3_83 rfl (pq_s0 (pb_q hB hi)) (show (b + 7 + 2 * i) < 164 by have := pq_n (pb_q hB hi); omega) ?_
    refine R_if_eq (tgt := 30) dX3_outBits_21 (by decide) (fun c21 => ?_) (fun c21 => ?_)
    · refine ii_2 (v := _ + 1) dX3_outBits_30 rfl (by rfl) ?_
      refine R_goto (tgt := 4) dX3_outBits_33 (by decide) ?_
      refine ih (i + 1) _ _ (by omega) (by rw [hx]; exact sm_add i 1) ?_
      first | (rw [if_pos c21] at h; exact h) | (rw [if_neg c21] at h; exact h)
    · refine il_1 dX3_outBits_24 ?_
      refine R_iconst (v := 1) dX3_outBits_25 (by decide) ?_
      refine il_2 dX3_outBits_26 ?_
      refine R_ishl dX3_outBits_27 ?_
      refine R_ior dX3_outBits_28 ?_
      refine is_1 dX3_outBits_29 rfl ?_
      refine ii_2 (v := _ + 1) dX3_outBits_30 rfl (by rfl) ?_
      refine R_goto (tgt := 4) dX3_outBits_33 (by decide) ?_
      refine ih (i + 1) _ _ (by omega) (by rw [hx]; exact sm_add i 1) ?_
      first | (rw [if_pos c21] at h; exact h) | (rw [if_neg c21] at h; exact h)

set_option maxHeartbeats 4000000 in
theorem K_outBits {G : rn_G} {d : Nat} {κ : Nat × Nat} {Q : Option Value → rn_S → Prop} {mi : Nat → Nat → Int32} {ml : Nat → Nat → Int64} {D : Nat → Nat} {b : Nat} (hB : PB b) {N : Nat} (k : Nat) (hp : mi b 6 = nI N) (hN : N ≤ 6) (h : Q (some (.int (outW (wC mi k b)))) (mi, ml, RF D, 164)) : Call G (d) M_X3_outBits [.ref b] (mi, ml, RF D, 164) κ Q := by
  show Run G _ M_X3_outBits 0 [.ref b, .null, .null] [] _ _ _
  refine R_iconst (v := 0) dX3_outBits_0 (by decide) ?_
  refine is_1 dX3_outBits_1 rfl ?_
  refine R_iconst (v := 0) dX3_outBits_2 (by decide) ?_
  refine is_2 dX3_outBits_3 rfl ?_
  exact L_outBits hB hp hN N 0 0 0 (by omega) nI_0.symm (by rw [wC_out hp hN] at h; exact h)

set_option maxHeartbeats 4000000 in
theorem K_inside {G : rn_G} {d : Nat} {κ : Nat × Nat} {Q : Option Value → rn_S → Prop} {mi : Nat → Nat → Int32} {ml : Nat → Nat → Int64} {D : Nat → Nat} {b : Nat} (hB : PB b) {N : Nat} (k : Nat) (hp : mi b 6 = nI N) (hN : N ≤ 6) (h : Q (some (.int (insW (wC mi k b)))) (mi, ml, RF D, 164)) : Call G (d + 1) M_X3_inside [.ref b] (mi, ml, RF D, 164) κ Q := by
  show Run G _ M_X3_inside 0 [.ref b] [] _ _ _
  refine al_0 dX3_inside_0 ?_
  refine R_getfi dX3_inside_1 fl_RX3_45 rfl (pb_s0 hB) (show b < 164 by have := pb_n hB; omega) ?_
  refine al_0 dX3_inside_4 ?_
  refine cv_0 dX3_inside_5 mm_RX3_91 (pb_s0 hB) (show b < 164 by have := pb_n hB; omega) ⟨_, rfl, rfl⟩ (Nat.le_of_ble_eq_true rfl) (Nat.le_of_ble_eq_true rfl) (K_outBits hB k hp hN ?_)
  refine cs_1 dX3_inside_8 mm_RX3_95 (Nat.le_of_ble_eq_true rfl) (Nat.le_of_ble_eq_true rfl) (K_bitCount ?_)
  refine R_isub dX3_inside_11 ?_
  refine R_ireturn dX3_inside_12 ⟨_, rfl, rfl⟩ ?_
  exact h

set_option maxHeartbeats 4000000 in
theorem L_passMinutes {G : rn_G} {d : Nat} {κ : Nat × Nat} {Q : Option Value → rn_S → Prop} {mi : Nat → Nat → Int32} {ml : Nat → Nat → Int64} {D : Nat → Nat} {b : Nat} (hB : PB b) (hk : PD (D b)) (hdk : DKI mi (D b)) {T : Nat} (hw : WI T (wC mi (D b) b)) {N : Nat} {z : Int32} (hz : z = nI N) (hT : T + N < 2 ^ 30) (h : ∀ mi', MS N b (D b) mi mi' → Q none (mi', ml, RF D, 164)) : ∀ (n i : Nat) (x : Int32) (m : Nat → Nat → Int32), n + i = N → x = nI i → MS i b (D b) mi m → Run G (d + 5) M_X3_passMinutes 2 [.ref b, .int z, .int x] [] (m, ml, RF D, 164) κ Q := by
  intro n
  induction n with
  | zero =>
    intro i x m hni hx hm
    obtain rfl : i = N := by omega
    refine il_2 dX3_passMinutes_2 ?_
    refine il_1 dX3_passMinutes_3 ?_
    refine R_icmp_ge (tgt := 17) dX3_passMinutes_4 (by decide) (fun c4 => ?_) (fun q => absurd q (not_not_intro (by rw [hz, hx]; exact nI_le (by omega) (by omega))))
    refine R_return dX3_passMinutes_17 rfl ?_
    exact h m hm
  | succ n ih =>
    intro i x m hni hx hm
    have hwm : WI (T + i) (wC m (D b) b) := by rw [hm.2.2]; exact hw.mins i T _ (by omega)
    refine il_2 dX3_passMinutes_2 ?_
    refine il_1 dX3_passMinutes_3 ?_
    refine R_icmp_ge (tgt := 17) dX3_passMinutes_4 (by decide) (fun q => absurd q (by rw [hz, hx]; exact nI_ge (by omega) (by omega))) (fun c4 => ?_)
    refine al_0 dX3_passMinutes_7 ?_
    refine cv_0 dX3_passMinutes_8 mm_RX3_104 (pb_s0 hB) (show b < 164 by have := pb_n hB; omega) ⟨_, rfl, rfl⟩ (Nat.le_of_ble_eq_true rfl) (Nat.le_of_ble_eq_true rfl) (K_passMinute (T := T + i) hB hk (hm.1.dk hB hk hdk) hwm (by omega) (fun m2 q1 q2 q3 q4 q5 => ?_))
    refine ii_2 (v := _ + 1) dX3_passMinutes_11 rfl (by rfl) ?_
    refine R_goto (tgt := 2) dX3_passMinutes_14 (by decide) ?_
    exact ih (i + 1) _ m2 (by omega) (by rw [hx]; exact sm_add i 1) (hm.step (T := T) hB hk ⟨q1, q2, q3⟩ (q4 12 (by decide) (by decide) (by decide) (by decide) (by decide)) q5)

set_option maxHeartbeats 4000000 in
theorem K_passMinutes {G : rn_G} {d : Nat} {κ : Nat × Nat} {Q : Option Value → rn_S → Prop} {mi : Nat → Nat → Int32} {ml : Nat → Nat → Int64} {D : Nat → Nat} {b : Nat} (hB : PB b) (hk : PD (D b)) (hdk : DKI mi (D b)) {T : Nat} (hw : WI T (wC mi (D b) b)) {N : Nat} {z : Int32} (hz : z = nI N) (hT : T + N < 2 ^ 30) (h : ∀ mi', MS N b (D b) mi mi' → Q none (mi', ml, RF D, 164)) : Call G (d + 5) M_X3_passMinutes [.ref b, .int z] (mi, ml, RF D, 164) κ Q := by
  show Run G _ M_X3_passMinutes 0 [.ref b, .int z, .null] [] _ _ _
  refine R_iconst (v := 0) dX3_passMinutes_0 (by decide) ?_
  refine is_2 dX3_passMinutes_1 rfl ?_
  exact L_passMinutes hB hk hdk hw hz hT h N 0 0 mi (by omega) nI_0.symm ⟨PF.refl b mi, rfl, rfl⟩

set_option maxHeartbeats 4000000 in
theorem L_leftBehind {G : rn_G} {d : Nat} {κ : Nat × Nat} {Q : Option Value → rn_S → Prop} {mi : Nat → Nat → Int32} {ml : Nat → Nat → Int64} {D : Nat → Nat} {b : Nat} (hB : PB b) (hk : PD (D b)) (hdk : DKI mi (D b)) {T : Nat} (hw : WI T (wC mi (D b) b)) {N : Nat} (hp : mi b 6 = nI N) (hN : N ≤ 6) (hT : T + 60 < 2 ^ 30) (h : ∀ mi', PF b mi mi' → Q (some (.int (leftW (erD mi (D b)) (wC mi (D b) b)))) (mi', ml, RF D, 164)) : ∀ (n i : Nat) (x : Int32) (m : Nat → Nat → Int32), n + i = 60 → x = nI i → MS i b (D b) mi m → Run G (d + 5) M_X3_leftBehind 2 [.ref b, .int x] [] (m, ml, RF D, 164) κ Q := by
  have key : ∀ i m, MS i b (D b) mi m → m b 6 = nI N := by
    intro i m hm
    have e : ∀ i, (minsW (erD mi (D b)) i (wC mi (D b) b)).1 2 = nI N := by
      intro i
      induction i with
      | zero => exact hp
      | succ n ih => rw [minsW_succ, min_2]; exact ih
    have e2 := e i
    rw [← hm.2.2] at e2
    exact e2
  intro n
  induction n with
  | zero =>
    intro i x m hni hx hm
    have hpm := key i m hm
    obtain rfl : i = 60 := by omega
    refine il_1 dX3_leftBehind_2 ?_
    refine R_bipush (v := 60) dX3_leftBehind_3 (by decide) ?_
    refine R_icmp_ge (tgt := 25) dX3_leftBehind_5 (by decide) (fun c5 => ?_) (fun q => absurd q (not_not_intro (by rw [hx]; decide)))
    refine al_0 dX3_leftBehind_25 ?_
    refine cv_0 dX3_leftBehind_26 mm_RX3_101 (pb_s0 hB) (show b < 164 by have := pb_n hB; omega) ⟨_, rfl, rfl⟩ (Nat.le_of_ble_eq_true rfl) (Nat.le_of_ble_eq_true rfl) (K_inside hB (D b) hpm hN (nmr (fun y26 hy26 => ?_)))
    refine R_ireturn dX3_leftBehind_29 ⟨_, rfl, rfl⟩ ?_
    refine Eq.mp (congrArg (fun v => Q (some (.int v)) _) ?_) (h m hm.1)
    rw [hy26, hm.2.2]
    rfl
  | succ n ih =>
    intro i x m hni hx hm
    have hpm := key i m hm
    have hwm : WI (T + i) (wC m (D b) b) := by rw [hm.2.2]; exact hw.mins i T _ (by omega)
    refine il_1 dX3_leftBehind_2 ?_
    refine R_bipush (v := 60) dX3_leftBehind_3 (by decide) ?_
    refine R_icmp_ge (tgt := 25) dX3_leftBehind_5 (by decide) (fun q => absurd q (by rw [hx]; exact nI_ge (b := 60) (by omega) (by decide))) (fun c5 => ?_)
    refine al_0 dX3_leftBehind_8 ?_
    refine cv_0 dX3_leftBehind_9 mm_RX3_101 (pb_s0 hB) (show b < 164 by have := pb_n hB; omega) ⟨_, rfl, rfl⟩ (Nat.le_of_ble_eq_true rfl) (Nat.le_of_ble_eq_true rfl) (K_inside hB (D b) hpm hN (nmr (fun y9 hy9 => ?_)))
    refine R_if_le (tgt := 25) dX3_leftBehind_12 (by decide) (fun c12 => ?_) (fun c12 => ?_)
    · refine al_0 dX3_leftBehind_25 ?_
      refine cv_0 dX3_leftBehind_26 mm_RX3_101 (pb_s0 hB) (show b < 164 by have := pb_n hB; omega) ⟨_, rfl, rfl⟩ (Nat.le_of_ble_eq_true rfl) (Nat.le_of_ble_eq_true rfl) (K_inside hB (D b) hpm hN (nmr (fun y26 hy26 => ?_)))
      refine R_ireturn dX3_leftBehind_29 ⟨_, rfl, rfl⟩ ?_
      refine Eq.mp (congrArg (fun v => Q (some (.int v)) _) ?_) (h m hm.1)
      rw [hy26, hm.2.2]
      rw [hy9, hm.2.2] at c12
      exact (left_early hp hN (by omega) (Int32.not_lt.mpr c12)).symm
    · refine al_0 dX3_leftBehind_15 ?_
      refine cv_0 dX3_leftBehind_16 mm_RX3_104 (pb_s0 hB) (show b < 164 by have := pb_n hB; omega) ⟨_, rfl, rfl⟩ (Nat.le_of_ble_eq_true rfl) (Nat.le_of_ble_eq_true rfl) (K_passMinute (T := T + i) hB hk (hm.1.dk hB hk hdk) hwm (by omega) (fun m2 q1 q2 q3 q4 q5 => ?_))
      refine ii_1 (v := _ + 1) dX3_leftBehind_19 rfl (by rfl) ?_
      refine R_goto (tgt := 2) dX3_leftBehind_22 (by decide) ?_
      exact ih (i + 1) _ m2 (by omega) (by rw [hx]; exact sm_add i 1) (hm.step (T := T) hB hk ⟨q1, q2, q3⟩ (q4 12 (by decide) (by decide) (by decide) (by decide) (by decide)) q5)

set_option maxHeartbeats 4000000 in
theorem K_leftBehind {G : rn_G} {d : Nat} {κ : Nat × Nat} {Q : Option Value → rn_S → Prop} {mi : Nat → Nat → Int32} {ml : Nat → Nat → Int64} {D : Nat → Nat} {b : Nat} (hB : PB b) (hk : PD (D b)) (hdk : DKI mi (D b)) {T : Nat} (hw : WI T (wC mi (D b) b)) {N : Nat} (hp : mi b 6 = nI N) (hN : N ≤ 6) (hT : T + 60 < 2 ^ 30) (h : ∀ mi', PF b mi mi' → Q (some (.int (leftW (erD mi (D b)) (wC mi (D b) b)))) (mi', ml, RF D, 164)) : Call G (d + 5) M_X3_leftBehind [.ref b] (mi, ml, RF D, 164) κ Q := by
  show Run G _ M_X3_leftBehind 0 [.ref b, .null] [] _ _ _
  refine R_iconst (v := 0) dX3_leftBehind_0 (by decide) ?_
  refine is_1 dX3_leftBehind_1 rfl ?_
  exact L_leftBehind hB hk hdk hw hp hN hT h 60 0 0 mi (by omega) nI_0.symm ⟨PF.refl b mi, rfl, rfl⟩
