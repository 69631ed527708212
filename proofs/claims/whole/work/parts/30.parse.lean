/-! how a text is read -/
def nxT (T : Nat → Nat) (L p : Nat) : Nat := if p < L then T p else 128
def isD (c : Nat) : Bool := decide (48 ≤ c ∧ c ≤ 57)
def numR (T : Nat → Nat) (L p : Nat) : Option (Nat × Nat) := if isD (nxT T L p) then (if isD (nxT T L (p + 1)) then some (10 * (nxT T L p - 48) + (nxT T L (p + 1) - 48), p + 2) else some (nxT T L p - 48, p + 1)) else none
def letR (c : Nat) : Nat := if c = 112 then 0 else if c = 107 then 1 else if c = 118 then 2 else if c = 119 then 3 else if c = 102 then 4 else if c = 109 then 5 else 6
def tstR (T : Nat → Nat) (L p : Nat) (c : List TK) : Bool × Nat × List TK :=
  if letR (nxT T L p) = 6 then (false, p, c) else if 60 ≤ nxT T L (p + 1) ∧ nxT T L (p + 1) ≤ 62 then (match numR T L (p + 2) with | none => (false, p + 2, c) | some r => (true, r.2, c ++ [(3, letR (nxT T L p), nxT T L (p + 1) - 60, r.1)])) else (false, p + 1, c)
/-- what is read (0 a part, 1 parts with &, 2 the rest of these, 3 parts with |, 4 the rest of these), so deep within, from here on, behind these tokens; none: too long -/
def rd (T : Nat → Nat) (L : Nat) : Nat → Nat → Nat → Nat → List TK → Option (Bool × Nat × List TK)
  | 0, _, _, _, _ => none
  | n + 1, mode, wi, p, c =>
    if mode = 0 then
      (if nxT T L p = 33 then (if 4 ≤ wi then some (false, p, c) else (rd T L n 0 (wi + 1) (p + 1) c).bind (fun r => if r.1 then some (true, r.2.1, r.2.2 ++ [(0, 0, 0, 0)]) else some r))
      else if nxT T L p = 40 then (if 4 ≤ wi then some (false, p, c) else (rd T L n 3 (wi + 1) (p + 1) c).bind (fun r => if r.1 then (if nxT T L r.2.1 = 41 then some (true, r.2.1 + 1, r.2.2) else some (false, r.2.1, r.2.2)) else some r))
      else some (tstR T L p c))
    else if mode = 1 then (rd T L n 0 wi p c).bind (fun r => if r.1 then rd T L n 2 wi r.2.1 r.2.2 else some r)
    else if mode = 2 then (if nxT T L p = 38 then (rd T L n 0 wi (p + 1) c).bind (fun r => if r.1 then rd T L n 2 wi r.2.1 (r.2.2 ++ [(1, 0, 0, 0)]) else some r) else some (true, p, c))
    else if mode = 3 then (rd T L n 1 wi p c).bind (fun r => if r.1 then rd T L n 4 wi r.2.1 r.2.2 else some r)
    else (if nxT T L p = 124 then (rd T L n 1 wi (p + 1) c).bind (fun r => if r.1 then rd T L n 4 wi r.2.1 (r.2.2 ++ [(2, 0, 0, 0)]) else some r) else some (true, p, c))
theorem rd_0 (T : Nat → Nat) (L n wi p : Nat) (c : List TK) : rd T L (n + 1) 0 wi p c = (if nxT T L p = 33 then (if 4 ≤ wi then some (false, p, c) else (rd T L n 0 (wi + 1) (p + 1) c).bind (fun r => if r.1 then some (true, r.2.1, r.2.2 ++ [(0, 0, 0, 0)]) else some r))
      else if nxT T L p = 40 then (if 4 ≤ wi then some (false, p, c) else (rd T L n 3 (wi + 1) (p + 1) c).bind (fun r => if r.1 then (if nxT T L r.2.1 = 41 then some (true, r.2.1 + 1, r.2.2) else some (false, r.2.1, r.2.2)) else some r))
      else some (tstR T L p c)) := rfl
theorem rd_1 (T : Nat → Nat) (L n wi p : Nat) (c : List TK) : rd T L (n + 1) 1 wi p c = (rd T L n 0 wi p c).bind (fun r => if r.1 then rd T L n 2 wi r.2.1 r.2.2 else some r) := rfl
theorem rd_2 (T : Nat → Nat) (L n wi p : Nat) (c : List TK) : rd T L (n + 1) 2 wi p c = (if nxT T L p = 38 then (rd T L n 0 wi (p + 1) c).bind (fun r => if r.1 then rd T L n 2 wi r.2.1 (r.2.2 ++ [(1, 0, 0, 0)]) else some r) else some (true, p, c)) := rfl
theorem rd_3 (T : Nat → Nat) (L n wi p : Nat) (c : List TK) : rd T L (n + 1) 3 wi p c = (rd T L n 1 wi p c).bind (fun r => if r.1 then rd T L n 4 wi r.2.1 r.2.2 else some r) := rfl
theorem rd_4 (T : Nat → Nat) (L n wi p : Nat) (c : List TK) : rd T L (n + 1) 4 wi p c = (if nxT T L p = 124 then (rd T L n 1 wi (p + 1) c).bind (fun r => if r.1 then rd T L n 4 wi r.2.1 (r.2.2 ++ [(2, 0, 0, 0)]) else some r) else some (true, p, c)) := rfl
theorem nxT_lt {T : Nat → Nat} {L p : Nat} (h : nxT T L p ≠ 128) : p < L := by
  unfold nxT at h
  split at h
  · assumption
  · exact absurd rfl h
theorem isD_lt {T : Nat → Nat} {L p : Nat} (h : isD (nxT T L p) = true) : p < L := by
  unfold isD at h
  have q : 48 ≤ nxT T L p ∧ nxT T L p ≤ 57 := of_decide_eq_true h
  exact nxT_lt (T := T) (show nxT T L p ≠ 128 by omega)
theorem numR_some {T : Nat → Nat} {L p : Nat} {r : Nat × Nat} (h : numR T L p = some r) : p < r.2 ∧ r.2 ≤ L ∧ r.2 ≤ p + 2 ∧ r.1 ≤ 99 := by
  unfold numR at h
  split at h
  · rename_i h1
    have l1 := isD_lt h1
    have d1 : 48 ≤ nxT T L p ∧ nxT T L p ≤ 57 := of_decide_eq_true h1
    split at h
    · rename_i h2
      have l2 := isD_lt h2
      have d2 : 48 ≤ nxT T L (p + 1) ∧ nxT T L (p + 1) ≤ 57 := of_decide_eq_true h2
      obtain rfl := Option.some.inj h
      dsimp only
      omega
    · obtain rfl := Option.some.inj h
      dsimp only
      omega
  · exact absurd h (by simp)
theorem letR_lt {c : Nat} (h : ¬ letR c = 6) : c ≠ 128 ∧ letR c ≤ 5 := by
  refine ⟨fun e => h (by rw [e]; rfl), ?_⟩
  unfold letR at h ⊢
  repeat' split
  all_goals first | omega | (exfalso; apply h; simp [*])
theorem tstR_pos {T : Nat → Nat} {L p : Nat} (c : List TK) (hp : p ≤ L) : p ≤ (tstR T L p c).2.1 ∧ (tstR T L p c).2.1 ≤ L ∧ ((tstR T L p c).1 = true → p < (tstR T L p c).2.1) ∧ (tstR T L p c).2.2.length + p ≤ c.length + (tstR T L p c).2.1 := by
  unfold tstR
  split
  · exact ⟨Nat.le_refl _, hp, fun e => by simp at e, by simp⟩
  · rename_i h1
    have l1 := nxT_lt (letR_lt h1).1
    split
    · rename_i h2
      have l2 : p + 1 < L := nxT_lt (T := T) (by omega)
      split
      · dsimp only; exact ⟨by omega, by omega, fun e => by simp at e, by omega⟩
      · rename_i r hr
        have := numR_some hr
        dsimp only
        simp only [List.length_append, List.length_cons, List.length_nil]
        exact ⟨by omega, by omega, fun _ => by omega, by omega⟩
    · dsimp only; exact ⟨by omega, by omega, fun e => by simp at e, by omega⟩
def rkR (mode : Nat) : Nat := if mode = 1 then 2 else if mode = 3 then 3 else 1
def okR (L mode p : Nat) (c : List TK) (r : Bool × Nat × List TK) : Prop := p ≤ r.2.1 ∧ r.2.1 ≤ L ∧ (r.1 = true → (mode = 0 ∨ mode = 1 ∨ mode = 3) → p < r.2.1) ∧ r.2.2.length + p ≤ c.length + r.2.1
theorem rd_some (T : Nat → Nat) (L : Nat) : ∀ (n mode wi p : Nat) (c : List TK), p ≤ L → mode ≤ 4 → 4 * (L - p) + rkR mode ≤ n → ∃ r, rd T L n mode wi p c = some r ∧ okR L mode p c r
  | 0, mode, wi, p, c, hp, hm, hn => by
    unfold rkR at hn
    exfalso
    split at hn
    · omega
    · split at hn <;> omega
  | n + 1, mode, wi, p, c, hp, hm, hn => by
    have ih := rd_some T L n
    have k0 : rkR 0 = 1 := rfl
    have k1 : rkR 1 = 2 := rfl
    have k2 : rkR 2 = 1 := rfl
    have k3 : rkR 3 = 3 := rfl
    have k4 : rkR 4 = 1 := rfl
    have hmode : mode = 0 ∨ mode = 1 ∨ mode = 2 ∨ mode = 3 ∨ mode = 4 := by omega
    rcases hmode with rfl | rfl | rfl | rfl | rfl
    · rw [rd_0]
      split
      · rename_i h1
        have l1 := nxT_lt (p := p) (show nxT T L p ≠ 128 by omega)
        split
        · exact ⟨_, rfl, Nat.le_refl _, hp, fun e => by simp at e, by simp⟩
        · obtain ⟨r, e, q1, q2, q3, q4⟩ := ih 0 (wi + 1) (p + 1) c (by omega) (by omega) (by omega)
          rw [e, Option.bind_some]
          split
          · refine ⟨_, rfl, ?_⟩
            unfold okR
            dsimp only
            simp only [List.length_append, List.length_cons, List.length_nil]
            exact ⟨by omega, by omega, fun _ _ => by omega, by omega⟩
          · rename_i hf
            exact ⟨_, rfl, by omega, q2, fun e => absurd e hf, by omega⟩
      · split
        · rename_i h0 h1
          have l1 := nxT_lt (p := p) (show nxT T L p ≠ 128 by omega)
          split
          · exact ⟨_, rfl, Nat.le_refl _, hp, fun e => by simp at e, by simp⟩
          · obtain ⟨r, e, q1, q2, q3, q4⟩ := ih 3 (wi + 1) (p + 1) c (by omega) (by omega) (by omega)
            rw [e, Option.bind_some]
            split
            · split
              · rename_i h3
                have l3 := nxT_lt (p := r.2.1) (show nxT T L r.2.1 ≠ 128 by omega)
                refine ⟨_, rfl, ?_⟩
                unfold okR
                dsimp only
                exact ⟨by omega, by omega, fun _ _ => by omega, by omega⟩
              · refine ⟨_, rfl, ?_⟩
                unfold okR
                dsimp only
                exact ⟨by omega, by omega, fun e => by simp at e, by omega⟩
            · rename_i hf
              exact ⟨_, rfl, by omega, q2, fun e => absurd e hf, by omega⟩
        · obtain ⟨q1, q2, q3, q4⟩ := tstR_pos (T := T) c hp
          exact ⟨_, rfl, q1, q2, fun e _ => q3 e, q4⟩
    · rw [rd_1]
      obtain ⟨r, e, q1, q2, q3, q4⟩ := ih 0 wi p c hp (by omega) (by omega)
      rw [e, Option.bind_some]
      split
      · rename_i hr
        have := q3 hr (Or.inl rfl)
        obtain ⟨r', e', s1, s2, s3, s4⟩ := ih 2 wi r.2.1 r.2.2 q2 (by omega) (by omega)
        rw [e']
        exact ⟨_, rfl, by omega, s2, fun _ _ => by omega, by omega⟩
      · rename_i hf
        exact ⟨_, rfl, q1, q2, fun e => absurd e hf, q4⟩
    · rw [rd_2]
      split
      · rename_i h1
        have l1 := nxT_lt (p := p) (show nxT T L p ≠ 128 by omega)
        obtain ⟨r, e, q1, q2, q3, q4⟩ := ih 0 wi (p + 1) c (by omega) (by omega) (by omega)
        rw [e, Option.bind_some]
        split
        · rename_i hr
          have := q3 hr (Or.inl rfl)
          obtain ⟨r', e', s1, s2, s3, s4⟩ := ih 2 wi r.2.1 (r.2.2 ++ [(1, 0, 0, 0)]) q2 (by omega) (by omega)
          simp only [List.length_append, List.length_cons, List.length_nil] at s4
          rw [e']
          exact ⟨_, rfl, by omega, s2, fun _ _ => by omega, by omega⟩
        · rename_i hf
          exact ⟨_, rfl, by omega, q2, fun e => absurd e hf, by omega⟩
      · exact ⟨_, rfl, Nat.le_refl _, hp, fun _ h => by omega, by simp⟩
    · rw [rd_3]
      obtain ⟨r, e, q1, q2, q3, q4⟩ := ih 1 wi p c hp (by omega) (by omega)
      rw [e, Option.bind_some]
      split
      · rename_i hr
        have := q3 hr (Or.inr (Or.inl rfl))
        obtain ⟨r', e', s1, s2, s3, s4⟩ := ih 4 wi r.2.1 r.2.2 q2 (by omega) (by omega)
        rw [e']
        exact ⟨_, rfl, by omega, s2, fun _ _ => by omega, by omega⟩
      · rename_i hf
        exact ⟨_, rfl, q1, q2, fun e => absurd e hf, q4⟩
    · rw [rd_4]
      split
      · rename_i h1
        have l1 := nxT_lt (p := p) (show nxT T L p ≠ 128 by omega)
        obtain ⟨r, e, q1, q2, q3, q4⟩ := ih 1 wi (p + 1) c (by omega) (by omega) (by omega)
        rw [e, Option.bind_some]
        split
        · rename_i hr
          have := q3 hr (Or.inr (Or.inl rfl))
          obtain ⟨r', e', s1, s2, s3, s4⟩ := ih 4 wi r.2.1 (r.2.2 ++ [(2, 0, 0, 0)]) q2 (by omega) (by omega)
          simp only [List.length_append, List.length_cons, List.length_nil] at s4
          rw [e']
          exact ⟨_, rfl, by omega, s2, fun _ _ => by omega, by omega⟩
        · rename_i hf
          exact ⟨_, rfl, by omega, q2, fun e => absurd e hf, by omega⟩
      · exact ⟨_, rfl, Nat.le_refl _, hp, fun _ h => by omega, by simp⟩
theorem wfK_snoc {t : TK} {e f : Nat} (ht : okT t) (h : if t.1 = 0 then 1 ≤ e ∧ e = f else if t.1 ≤ 2 then 2 ≤ e ∧ e - 1 = f else e + 1 ≤ 30 ∧ e + 1 = f) : ∀ (l : List TK) (n : Nat), wfK l n e → wfK (l ++ [t]) n f
  | [], n, hl => by
    have hn : n = e := hl
    subst hn
    exact ⟨ht, h⟩
  | a :: l, n, hl => by
    obtain ⟨ha, hb⟩ := hl
    refine ⟨ha, ?_⟩
    show (if a.1 = 0 then 1 ≤ n ∧ wfK (l ++ [t]) n f else if a.1 ≤ 2 then 2 ≤ n ∧ wfK (l ++ [t]) (n - 1) f else n + 1 ≤ 30 ∧ wfK (l ++ [t]) (n + 1) f)
    by_cases h0 : a.1 = 0
    · rw [if_pos h0] at hb ⊢
      exact ⟨hb.1, wfK_snoc ht h l _ hb.2⟩
    · rw [if_neg h0] at hb ⊢
      by_cases h2 : a.1 ≤ 2
      · rw [if_pos h2] at hb ⊢
        exact ⟨hb.1, wfK_snoc ht h l _ hb.2⟩
      · rw [if_neg h2] at hb ⊢
        exact ⟨hb.1, wfK_snoc ht h l _ hb.2⟩
theorem tstR_wf {T : Nat → Nat} {L p : Nat} {c : List TK} {h : Nat} (hw : wfK c 0 h) (hh : h ≤ 29) (hr : (tstR T L p c).1 = true) : wfK (tstR T L p c).2.2 0 (h + 1) := by
  unfold tstR at hr ⊢
  split at hr
  · simp at hr
  · rename_i h1
    rw [if_neg h1]
    split at hr
    · rename_i h2
      rw [if_pos h2]
      split at hr
      · simp at hr
      · rename_i r h3
        have := numR_some h3
        have := letR_lt h1
        refine wfK_snoc ⟨by dsimp only; omega, by dsimp only; omega, by dsimp only; omega, by dsimp only; omega⟩ ?_ c 0 hw
        dsimp only
        rw [if_neg (by decide), if_neg (by decide)]
        exact ⟨by omega, rfl⟩
    · simp at hr
/-- so many lie on the stack -/
def stR (mode wi h : Nat) : Prop := wi ≤ 4 ∧ (if mode = 0 then h ≤ 2 * wi + 2 else if mode = 1 then h ≤ 2 * wi + 1 else if mode = 2 then 1 ≤ h ∧ h ≤ 2 * wi + 2 else if mode = 3 then h ≤ 2 * wi else 1 ≤ h ∧ h ≤ 2 * wi + 1)
theorem rd_wf (T : Nat → Nat) (L : Nat) : ∀ (n mode wi p h : Nat) (c : List TK) (r : Bool × Nat × List TK), mode ≤ 4 → stR mode wi h → wfK c 0 h → rd T L n mode wi p c = some r → r.1 = true → wfK r.2.2 0 (if mode = 2 ∨ mode = 4 then h else h + 1)
  | 0, mode, wi, p, h, c, r, hm, hs, hw, hr, ht => by exact absurd hr (by simp [rd])
  | n + 1, mode, wi, p, h, c, r, hm, hs, hw, hr, ht => by
    have ih := rd_wf T L n
    have hmode : mode = 0 ∨ mode = 1 ∨ mode = 2 ∨ mode = 3 ∨ mode = 4 := by omega
    rcases hmode with rfl | rfl | rfl | rfl | rfl
    · rw [rd_0] at hr
      simp only [stR, if_true] at hs
      rw [if_neg (by omega)]
      split at hr
      · split at hr
        · obtain rfl := Option.some.inj hr; simp at ht
        · rename_i h4
          cases e : rd T L n 0 (wi + 1) (p + 1) c with
          | none => rw [e] at hr; simp at hr
          | some r1 =>
            rw [e, Option.bind_some] at hr
            split at hr
            · rename_i h5
              obtain rfl := Option.some.inj hr
              have q := ih 0 (wi + 1) (p + 1) h c r1 (by omega) (by simp only [stR, if_true]; omega) hw e h5
              rw [if_neg (by omega)] at q
              refine wfK_snoc ⟨by decide, by decide, by decide, by decide⟩ ?_ _ 0 q
              rw [if_pos rfl]
              exact ⟨by omega, rfl⟩
            · rename_i h5
              obtain rfl := Option.some.inj hr
              exact absurd ht h5
      · split at hr
        · split at hr
          · obtain rfl := Option.some.inj hr; simp at ht
          · cases e : rd T L n 3 (wi + 1) (p + 1) c with
            | none => rw [e] at hr; simp at hr
            | some r1 =>
              rw [e, Option.bind_some] at hr
              split at hr
              · rename_i h5
                have q := ih 3 (wi + 1) (p + 1) h c r1 (by omega) (by simp only [stR]; simp; omega) hw e h5
                rw [if_neg (by omega)] at q
                split at hr
                · obtain rfl := Option.some.inj hr; exact q
                · obtain rfl := Option.some.inj hr; simp at ht
              · rename_i h5
                obtain rfl := Option.some.inj hr
                exact absurd ht h5
        · obtain rfl := Option.some.inj hr
          exact tstR_wf hw (by omega) ht
    · rw [rd_1] at hr
      simp only [stR] at hs
      simp at hs
      rw [if_neg (by omega)]
      cases e : rd T L n 0 wi p c with
      | none => rw [e] at hr; simp at hr
      | some r1 =>
        rw [e, Option.bind_some] at hr
        split at hr
        · rename_i h5
          have q := ih 0 wi p h c r1 (by omega) (by simp only [stR, if_true]; omega) hw e h5
          rw [if_neg (by omega)] at q
          have q2 := ih 2 wi _ (h + 1) _ r (by omega) (by simp only [stR]; simp; omega) q hr ht
          rw [if_pos (by omega)] at q2
          exact q2
        · rename_i h5
          obtain rfl := Option.some.inj hr
          exact absurd ht h5
    · rw [rd_2] at hr
      simp only [stR] at hs
      simp at hs
      rw [if_pos (by omega)]
      split at hr
      · cases e : rd T L n 0 wi (p + 1) c with
        | none => rw [e] at hr; simp at hr
        | some r1 =>
          rw [e, Option.bind_some] at hr
          split at hr
          · rename_i h5
            have q := ih 0 wi (p + 1) h c r1 (by omega) (by simp only [stR, if_true]; omega) hw e h5
            rw [if_neg (by omega)] at q
            have q3 : wfK (r1.2.2 ++ [(1, 0, 0, 0)]) 0 h := by
              refine wfK_snoc (t := (1, 0, 0, 0)) ⟨by decide, by decide, by decide, by decide⟩ ?_ _ 0 q
              rw [if_neg (by decide), if_pos (by decide)]
              exact ⟨by omega, by omega⟩
            have q2 := ih 2 wi _ h _ r (by omega) (by simp only [stR]; simp; omega) q3 hr ht
            rw [if_pos (by omega)] at q2
            exact q2
          · rename_i h5
            obtain rfl := Option.some.inj hr
            exact absurd ht h5
      · obtain rfl := Option.some.inj hr
        exact hw
    · rw [rd_3] at hr
      simp only [stR] at hs
      simp at hs
      rw [if_neg (by omega)]
      cases e : rd T L n 1 wi p c with
      | none => rw [e] at hr; simp at hr
      | some r1 =>
        rw [e, Option.bind_some] at hr
        split at hr
        · rename_i h5
          have q := ih 1 wi p h c r1 (by omega) (by simp only [stR]; simp; omega) hw e h5
          rw [if_neg (by omega)] at q
          have q2 := ih 4 wi _ (h + 1) _ r (by omega) (by simp only [stR]; simp; omega) q hr ht
          rw [if_pos (by omega)] at q2
          exact q2
        · rename_i h5
          obtain rfl := Option.some.inj hr
          exact absurd ht h5
    · rw [rd_4] at hr
      simp only [stR] at hs
      simp at hs
      rw [if_pos (by omega)]
      split at hr
      · cases e : rd T L n 1 wi (p + 1) c with
        | none => rw [e] at hr; simp at hr
        | some r1 =>
          rw [e, Option.bind_some] at hr
          split at hr
          · rename_i h5
            have q := ih 1 wi (p + 1) h c r1 (by omega) (by simp only [stR]; simp; omega) hw e h5
            rw [if_neg (by omega)] at q
            have q3 : wfK (r1.2.2 ++ [(2, 0, 0, 0)]) 0 h := by
              refine wfK_snoc (t := (2, 0, 0, 0)) ⟨by decide, by decide, by decide, by decide⟩ ?_ _ 0 q
              rw [if_neg (by decide), if_pos (by decide)]
              exact ⟨by omega, by omega⟩
            have q2 := ih 4 wi _ h _ r (by omega) (by simp only [stR]; simp; omega) q3 hr ht
            rw [if_pos (by omega)] at q2
            exact q2
          · rename_i h5
            obtain rfl := Option.some.inj hr
            exact absurd ht h5
      · obtain rfl := Option.some.inj hr
        exact hw
