/-! the class reads clauses and texts -/
def wdC (k : Nat) : List Nat := if k = 0 then [107, 101, 101, 110, 32] else if k = 1 then [100, 101, 97, 102, 32] else if k = 2 then [98, 101, 108, 108, 32] else [112, 97, 99, 101, 32]
def hdK (c : Nat) : Nat := if c = 107 then 0 else if c = 100 then 1 else if c = 98 then 2 else 3
def wordR (T : Nat → Nat) (L : Nat) : List Nat → Nat → Bool × Nat
  | [], p => (true, p)
  | c :: ws, p => if nxT T L p = c then wordR T L ws (p + 1) else (false, p)
def clR (T : Nat → Nat) (L p : Nat) : Option (Bool × Nat × (Nat × Nat × List TK)) :=
  if (wordR T L (wdC (hdK (nxT T L p))) p).1 then
    (match numR T L (wordR T L (wdC (hdK (nxT T L p))) p).2 with
    | none => some (false, (wordR T L (wdC (hdK (nxT T L p))) p).2, (0, 0, []))
    | some r => if 2 ≤ hdK (nxT T L p) then some (true, r.2, (hdK (nxT T L p), r.1, []))
      else if nxT T L r.2 = 32 then (rd T L 404 3 0 (r.2 + 1) []).bind (fun s => some (s.1, s.2.1, (hdK (nxT T L p), r.1, s.2.2))) else some (false, r.2, (0, 0, [])))
  else some (false, (wordR T L (wdC (hdK (nxT T L p))) p).2, (0, 0, []))
def txR (T : Nat → Nat) (L : Nat) : Nat → Nat → CL → Option (Bool × Nat × CL)
  | 0, p, a => some (false, p, a)
  | r + 1, p, a => (clR T L p).bind (fun s => if s.1 then (if s.2.1 = L then some (true, s.2.1, a ++ [s.2.2]) else if r = 0 then some (false, s.2.1, a) else if nxT T L s.2.1 = 59 then txR T L r (s.2.1 + 1) (a ++ [s.2.2]) else some (false, s.2.1, a)) else some (false, s.2.1, a))
theorem wordR_pos {T : Nat → Nat} {L : Nat} : ∀ (ws : List Nat) (p : Nat), p ≤ L → (∀ c ∈ ws, c ≠ 128) → p ≤ (wordR T L ws p).2 ∧ (wordR T L ws p).2 ≤ L
  | [], p, h, _ => ⟨Nat.le_refl p, h⟩
  | c :: ws, p, h, hw => by
    unfold wordR
    split
    · rename_i e
      have l := nxT_lt (T := T) (p := p) (L := L) (by rw [e]; exact hw c List.mem_cons_self)
      have q := wordR_pos (T := T) ws (p + 1) l (fun a ha => hw a (List.mem_cons_of_mem c ha))
      exact ⟨by omega, q.2⟩
    · exact ⟨Nat.le_refl p, h⟩
theorem wdC_ne {k : Nat} : ∀ c ∈ wdC k, c ≠ 128 := by
  unfold wdC
  repeat' split
  all_goals decide
theorem flC_append : ∀ (a b : CL), flC (a ++ b) = flC a ++ flC b
  | [], b => rfl
  | q :: a, b => by
    show _ ++ flC (a ++ b) = (_ ++ flC a) ++ flC b
    rw [flC_append a b, List.append_assoc]
theorem lastA_append {w : Nat} : ∀ (a : CL) (q : Nat × Nat × List TK) (n : Int32), lastA w (a ++ [q]) n = if q.1 = w then nI q.2.1 else lastA w a n
  | [], q, n => rfl
  | b :: a, q, n => by
    show lastA w (a ++ [q]) _ = _
    rw [lastA_append a q]
    rfl
theorem clR_ok {T : Nat → Nat} {L p : Nat} (hL : L ≤ 100) (hp : p ≤ L) : ∃ r, clR T L p = some r ∧ p ≤ r.2.1 ∧ r.2.1 ≤ L := by
  unfold clR
  obtain ⟨w1, w2⟩ := wordR_pos (T := T) (wdC (hdK (nxT T L p))) p hp wdC_ne
  split
  · cases hn : numR T L (wordR T L (wdC (hdK (nxT T L p))) p).2 with
    | none => exact ⟨_, rfl, w1, w2⟩
    | some r =>
      have hns := numR_some hn
      dsimp only
      split
      · exact ⟨_, rfl, by dsimp only; omega, by dsimp only; omega⟩
      · split
        · rename_i h32
          have l := nxT_lt (T := T) (p := r.2) (L := L) (by omega)
          obtain ⟨s, e, q⟩ := rd_some T L 404 3 0 (r.2 + 1) [] l (by decide) (by have : rkR 3 = 3 := rfl; omega)
          unfold okR at q
          rw [e]
          exact ⟨_, rfl, by dsimp only; omega, by dsimp only; omega⟩
        · exact ⟨_, rfl, by dsimp only; omega, by dsimp only; omega⟩
  · exact ⟨_, rfl, w1, w2⟩
theorem txR_ok {T : Nat → Nat} {L : Nat} (hL : L ≤ 100) : ∀ (r p : Nat) (a : CL), p ≤ L → ∃ s, txR T L r p a = some s
  | 0, p, a, h => ⟨_, rfl⟩
  | r + 1, p, a, h => by
    obtain ⟨s, e, q1, q2⟩ := clR_ok (T := T) hL h
    unfold txR
    rw [e, Option.bind_some]
    split
    · split
      · exact ⟨_, rfl⟩
      · split
        · exact ⟨_, rfl⟩
        · split
          · rename_i h59
            have l := nxT_lt (T := T) (p := s.2.1) (L := L) (by omega)
            exact txR_ok hL r (s.2.1 + 1) _ l
          · exact ⟨_, rfl⟩
    · exact ⟨_, rfl⟩
/-- the text stays, the dusk that is read may change -/
def RFc (m0 m : Nat → Nat → Int32) (k p : Nat) : Prop := (∀ a, a ≠ k → a ≠ k + 1 → a ≠ 84 → m a = m0 a) ∧ (∀ f, f ≠ 2 → m 84 f = m0 84 f) ∧ m 84 2 = nI p
def RDc (m0 m : Nat → Nat → Int32) (k p : Nat) (cl : CL) : Prop := RFc m0 m k p ∧ m k 1 = nI (flC cl).length ∧ (∀ j v, (flC cl)[j]? = some v → m (k + 1) j = v) ∧ m k 2 = lastA 2 cl 8 ∧ m k 3 = clampP (lastA 3 cl 3)
theorem RFc.trans {m0 m1 m2 : Nat → Nat → Int32} {k p q : Nat} (h : RFc m0 m1 k p) (g : RFc m1 m2 k q) : RFc m0 m2 k q := ⟨fun a a1 a2 a3 => (g.1 a a1 a2 a3).trans (h.1 a a1 a2 a3), fun f hf => (g.2.1 f hf).trans (h.2.1 f hf), g.2.2⟩
theorem RFc.at {m0 m : Nat → Nat → Int32} {k p q : Nat} (hk : PD k) (h : RFc m0 m k p) : RFc m0 (rn_u m 84 2 (nI q)) k q := by
  obtain ⟨h1, h2, h3⟩ := h
  refine ⟨fun a a1 a2 a3 => by rw [rn_u_ne a3]; exact h1 a a1 a2 a3, fun f hf => ?_, rn_u_eq⟩
  rw [← h2 f hf]
  unfold rn_u
  rw [if_neg (fun q => hf q.2)]
theorem RFc.tx {m0 m : Nat → Nat → Int32} {k p L : Nat} {T : Nat → Nat} (hk : PD k) (h : RFc m0 m k p) (ht : TXC T L m0) : TXC T L m := by
  obtain ⟨h1, h2, h3⟩ := h
  obtain ⟨k1, k2, k3, k4⟩ := pd_84 hk
  refine ⟨ht.1, by rw [h2 1 (by decide)]; exact ht.2.1, fun j hj => ?_⟩
  rw [h1 85 (Ne.symm k3) (Ne.symm k4) (by decide)]
  exact ht.2.2 j hj
theorem RDc.at {m0 m : Nat → Nat → Int32} {k p q : Nat} {cl : CL} (hk : PD k) (h : RDc m0 m k p cl) : RDc m0 (rn_u m 84 2 (nI q)) k q cl := by
  obtain ⟨h1, h2, h3, h4, h5⟩ := h
  obtain ⟨k1, k2, -⟩ := pd_84 hk
  exact ⟨h1.at hk, by rw [rn_u_ne k1]; exact h2, by rw [rn_u_ne k2]; exact h3, by rw [rn_u_ne k1]; exact h4, by rw [rn_u_ne k1]; exact h5⟩
theorem RC.fr {m0 m : Nat → Nat → Int32} {k p : Nat} {cs : List Int32} (h : RC m0 m k p cs) : RFc m0 m k p := ⟨h.1, h.2.1, h.2.2.2.1⟩
theorem RDc.rc {m0 m : Nat → Nat → Int32} {k p : Nat} {cl : CL} (h : RDc m0 m k p cl) : RC m m k p (flC cl) := ⟨fun _ _ _ _ => rfl, fun _ _ => rfl, fun _ _ => rfl, h.1.2.2, h.2.1, h.2.2.1⟩
theorem RDc.set {m0 m : Nat → Nat → Int32} {k p f n : Nat} {cl : CL} {v : Int32} (hk : PD k) (h : RDc m0 m k p cl) (hf : (f = 2 ∧ v = nI n) ∨ (f = 3 ∧ v = clampP (nI n))) : RDc m0 (rn_u m k f v) k p (cl ++ [(f, n, [])]) := by
  obtain ⟨⟨h1, h2, h3⟩, h4, h5, h6, h7⟩ := h
  obtain ⟨k1, k2, -⟩ := pd_84 hk
  have e : flC (cl ++ [(f, n, [])]) = flC cl := by
    rw [flC_append]
    show _ ++ ((if f ≤ 1 then _ else []) ++ []) = _
    rw [if_neg (by omega), List.append_nil, List.append_nil]
  refine ⟨⟨fun a a1 a2 a3 => by rw [rn_u_ne a1]; exact h1 a a1 a2 a3, fun g hg => by rw [rn_u_ne (Ne.symm k1)]; exact h2 g hg, by rw [rn_u_ne (Ne.symm k1)]; exact h3⟩, ?_, ?_, ?_, ?_⟩
  · rw [e, ← h4]
    unfold rn_u
    rw [if_neg (by omega)]
  · rw [e, rn_u_ne (show k + 1 ≠ k by omega)]; exact h5
  · rw [lastA_append]
    dsimp only
    rcases hf with ⟨rfl, rfl⟩ | ⟨rfl, rfl⟩
    · rw [if_pos rfl]; exact rn_u_eq
    · rw [if_neg (by decide), ← h6]
      unfold rn_u
      rw [if_neg (by omega)]
  · rw [lastA_append]
    dsimp only
    rcases hf with ⟨rfl, rfl⟩ | ⟨rfl, rfl⟩
    · rw [if_neg (by decide), ← h7]
      unfold rn_u
      rw [if_neg (by omega)]
    · rw [if_pos rfl]; exact rn_u_eq
theorem RDc.add {m0 m m' : Nat → Nat → Int32} {k p q f n : Nat} {c : List TK} {cl : CL} (hk : PD k) (h : RDc m0 m k p cl) (hf : f ≤ 1) (g : RC m m' k q (flC cl ++ c.map tC ++ [nI ((if f = 0 then 2000 else 3000) + n)])) : RDc m0 m' k q (cl ++ [(f, n, c)]) := by
  obtain ⟨h1, h4, h5, h6, h7⟩ := h
  have e : flC (cl ++ [(f, n, c)]) = flC cl ++ c.map tC ++ [nI ((if f = 0 then 2000 else 3000) + n)] := by
    rw [flC_append]
    show _ ++ ((if f ≤ 1 then _ else []) ++ []) = _
    rw [if_pos hf, List.append_nil, List.append_assoc]
  refine ⟨h1.trans g.fr, by rw [e]; exact g.2.2.2.2.1, by rw [e]; exact g.2.2.2.2.2, ?_, ?_⟩
  · rw [lastA_append, if_neg (by dsimp only; omega), g.2.2.1 2 (by decide)]; exact h6
  · rw [lastA_append, if_neg (by dsimp only; omega), g.2.2.1 3 (by decide)]; exact h7
theorem pac_all : ∀ n : Fin 100, maxJ 1 (minJ 9 (nI n.1)) = clampP (nI n.1) := by decide +kernel
theorem word_sb : ∀ i : Fin 4, ∀ t : Fin 5, (rn_sb.getD i.1 []).getD t.1 0 = nI ((wdC i.1).getD t.1 0) ∧ (wdC i.1).getD t.1 0 < 128 ∧ (wdC i.1).length = 5 ∧ rn_sl.getD i.1 0 = 5 := by decide

set_option maxHeartbeats 4000000 in
theorem L_readWord {G : rn_G} {d : Nat} {κ : Nat × Nat} {Q : Option Value → rn_S → Prop} {ml : Nat → Nat → Int64} {D : Nat → Nat} {T : Nat → Nat} {L i : Nat} (hi : i < 4) : ∀ (ws : List Nat) (j p : Nat) (x : Int32) (mi : Nat → Nat → Int32), j + ws.length = 5 → (∀ t, t < ws.length → (wdC i).getD (j + t) 0 = ws.getD t 0) → x = nI j → TXC T L mi → mi 84 2 = nI p → p ≤ L → ((wordR T L ws p).1 = true → Q (some (.int 1)) (rn_u mi 84 2 (nI (wordR T L ws p).2), ml, RF D, 164)) → ((wordR T L ws p).1 = false → Q (some (.int 0)) (rn_u mi 84 2 (nI (wordR T L ws p).2), ml, RF D, 164)) → Run G (d + 4) M_X5_readWord 2 [.ref 84, .ref (1000 + (10 + i)), .int x] [] (mi, ml, RF D, 164) κ Q := by
  have hi6 : i < 6 := by omega
  have h5 := (word_sb ⟨i, hi⟩ ⟨0, by decide⟩).2.2
  dsimp only at h5
  intro ws
  induction ws with
  | nil =>
    intro j p x mi hj hws hx htx hat hpL h1 h0
    have hj5 : j = 5 := hj
    refine il_2 dX5_readWord_2 ?_
    refine al_1 dX5_readWord_3 ?_
    refine ct_0 dX5_readWord_4 mm_RX5_82 (by first | assumption | decide) rfl (Nat.le_of_ble_eq_true rfl) (Nat.le_of_ble_eq_true rfl) (K_length (show i < 6 by omega) ?_)
    refine R_icmp_ge (tgt := 30) dX5_readWord_7 (by decide) (fun c7 => ?_) (fun q => absurd q (not_not_intro (by rw [hx, hj5, h5.2]; exact Int32.le_refl _)))
    refine R_iconst (v := 1) dX5_readWord_30 (by decide) ?_
    refine R_ireturn dX5_readWord_31 ⟨_, rfl, rfl⟩ ?_
    have q := h1 rfl
    rw [show nI (wordR T L [] p).2 = mi 84 2 from hat.symm, rn_u_self] at q
    exact q
  | cons c ws ih =>
    intro j p x mi hj hws hx htx hat hpL h1 h0
    rw [List.length_cons] at hj
    have hj5 : j < 5 := by omega
    obtain ⟨e1, e2, -⟩ := word_sb ⟨i, hi⟩ ⟨j, hj5⟩
    dsimp only at e1 e2
    have e3 : (wdC i).getD j 0 = c := hws 0 (by rw [List.length_cons]; omega)
    rw [e3] at e1 e2
    have hjl : j < rn_sl.getD i 0 := by omega
    refine il_2 dX5_readWord_2 ?_
    refine al_1 dX5_readWord_3 ?_
    refine ct_0 dX5_readWord_4 mm_RX5_82 (by first | assumption | decide) rfl (Nat.le_of_ble_eq_true rfl) (Nat.le_of_ble_eq_true rfl) (K_length (show i < 6 by omega) ?_)
    refine R_icmp_ge (tgt := 30) dX5_readWord_7 (by decide) (fun q => absurd q (by rw [hx, h5.2]; exact nI_ge (by omega) (by decide))) (fun c7 => ?_)
    refine al_0 dX5_readWord_10 ?_
    refine al_1 dX5_readWord_11 ?_
    refine il_2 dX5_readWord_12 ?_
    refine ct_1 dX5_readWord_13 mm_RX5_86 (by first | assumption | decide) rfl (Nat.le_of_ble_eq_true rfl) (Nat.le_of_ble_eq_true rfl) (K_charAt hi6 hx hjl ?_)
    refine cv_1 dX5_readWord_16 mm_RX5_36 sh_84 (Nat.le_of_ble_eq_true rfl) ⟨_, rfl, rfl⟩ (Nat.le_of_ble_eq_true rfl) (Nat.le_of_ble_eq_true rfl) (K_skip htx hat hpL (c := c) e1 e2 (fun s2 l2 => ?_) (fun s2 => ?_))
    · refine R_if_ne (tgt := 24) dX5_readWord_19 (by decide) (fun _ => ?_) (fun q => absurd q (by decide))
      refine ii_2 (v := _ + 1) dX5_readWord_24 rfl (by rfl) ?_
      refine R_goto (tgt := 2) dX5_readWord_27 (by decide) ?_
      have ew : wordR T L (c :: ws) p = wordR T L ws (p + 1) := by rw [wordR, if_pos s2]
      rw [ew] at h1 h0
      refine ih (j + 1) (p + 1) _ _ (by omega) (fun t ht => ?_) (by rw [hx]; exact sm_add j 1) ⟨htx.1, htx.2.1, htx.2.2⟩ rn_u_eq l2 ?_ ?_
      · have q := hws (t + 1) (by rw [List.length_cons]; omega)
        rw [show j + 1 + t = j + (t + 1) by omega]; exact q
      · rw [rn_u_u]; exact h1
      · rw [rn_u_u]; exact h0
    · refine R_if_ne (tgt := 24) dX5_readWord_19 (by decide) (fun q => absurd q (by decide)) (fun _ => ?_)
      refine R_iconst (v := 0) dX5_readWord_22 (by decide) ?_
      refine R_ireturn dX5_readWord_23 ⟨_, rfl, rfl⟩ ?_
      have ew : wordR T L (c :: ws) p = (false, p) := by rw [wordR, if_neg s2]
      rw [ew] at h0
      have q := h0 rfl
      rw [show nI ((false, p) : Bool × Nat).2 = mi 84 2 from hat.symm, rn_u_self] at q
      exact q

set_option maxHeartbeats 4000000 in
theorem K_readWord {G : rn_G} {d : Nat} {κ : Nat × Nat} {Q : Option Value → rn_S → Prop} {mi : Nat → Nat → Int32} {ml : Nat → Nat → Int64} {D : Nat → Nat} {T : Nat → Nat} {L p : Nat} (htx : TXC T L mi) (hat : mi 84 2 = nI p) (hpL : p ≤ L) {i : Nat} (hi : i < 4) (h1 : (wordR T L (wdC i) p).1 = true → Q (some (.int 1)) (rn_u mi 84 2 (nI (wordR T L (wdC i) p).2), ml, RF D, 164)) (h0 : (wordR T L (wdC i) p).1 = false → Q (some (.int 0)) (rn_u mi 84 2 (nI (wordR T L (wdC i) p).2), ml, RF D, 164)) : Call G (d + 4) M_X5_readWord [.ref 84, .ref (1000 + (10 + i))] (mi, ml, RF D, 164) κ Q := by
  show Run G _ M_X5_readWord 0 [.ref 84, .ref (1000 + (10 + i)), .null] [] _ _ _
  refine R_iconst (v := 0) dX5_readWord_0 (by decide) ?_
  refine is_2 dX5_readWord_1 rfl ?_
  exact L_readWord hi (wdC i) 0 p 0 mi (by have := (word_sb ⟨i, hi⟩ ⟨0, by decide⟩).2.2.1; dsimp only at this; omega) (fun t _ => by rw [Nat.zero_add]) nI_0.symm htx hat hpL h1 h0

set_option maxHeartbeats 4000000 in
theorem K_readClause {G : rn_G} {d : Nat} {κ : Nat × Nat} {Q : Option Value → rn_S → Prop} {mi : Nat → Nat → Int32} {ml : Nat → Nat → Int64} {D : Nat → Nat} {T : Nat → Nat} {L p : Nat} {m0 : Nat → Nat → Int32} {cl : CL} {r : Bool × Nat × (Nat × Nat × List TK)} (htx : TXC T L m0) (hk : PD (D 84)) (hpL : p ≤ L) (hrd : RDc m0 mi (D 84) p cl) (hsz : (flC cl).length ≤ p) (hr : clR T L p = some r) (h1 : r.1 = true → ∀ m, RDc m0 m (D 84) r.2.1 (cl ++ [r.2.2]) → (flC (cl ++ [r.2.2])).length ≤ r.2.1 → okC r.2.2 → Q (some (.int 1)) (m, ml, RF D, 164)) (h0 : r.1 = false → ∀ m, RFc m0 m (D 84) r.2.1 → Q (some (.int 0)) (m, ml, RF D, 164)) : Call G (d + 21) M_X5_readClause [.ref 84] (mi, ml, RF D, 164) κ Q := by
  show Run G _ M_X5_readClause 0 [.ref 84, .null, .null, .null, .null] [] _ _ _
  have htx1 := hrd.1.tx hk htx
  have hat := hrd.1.2.2
  have hL := htx.1
  unfold clR at hr
  have four : nxT T L p = 107 ∨ nxT T L p = 100 ∨ nxT T L p = 98 ∨ (nxT T L p ≠ 107 ∧ nxT T L p ≠ 100 ∧ nxT T L p ≠ 98) := by omega
  rcases four with en | en | en | en
  · have ek : hdK (nxT T L p) = 0 := by unfold hdK; rw [if_pos en]
    rw [ek] at hr
    have wp := wordR_pos (T := T) (wdC 0) p hpL wdC_ne
    refine al_0 dX5_readClause_0 ?_
    refine R_bipush (v := 107) dX5_readClause_1 (by decide) ?_
    refine cv_1 dX5_readClause_3 mm_RX5_40 sh_84 (Nat.le_of_ble_eq_true rfl) ⟨_, rfl, rfl⟩ (Nat.le_of_ble_eq_true rfl) (Nat.le_of_ble_eq_true rfl) (K_isNext htx1 hat hpL (c := 107) rfl (by decide) (fun _ => ?_) (fun q => absurd en q))
    refine is_1 dX5_readClause_6 rfl ?_
    refine al_0 dX5_readClause_7 ?_
    refine R_bipush (v := 100) dX5_readClause_8 (by decide) ?_
    refine cv_1 dX5_readClause_10 mm_RX5_40 sh_84 (Nat.le_of_ble_eq_true rfl) ⟨_, rfl, rfl⟩ (Nat.le_of_ble_eq_true rfl) (Nat.le_of_ble_eq_true rfl) (K_isNext htx1 hat hpL (c := 100) rfl (by decide) (fun q => absurd q (by omega)) (fun _ => ?_))
    refine is_2 dX5_readClause_13 rfl ?_
    refine al_0 dX5_readClause_14 ?_
    refine R_bipush (v := 98) dX5_readClause_15 (by decide) ?_
    refine cv_1 dX5_readClause_17 mm_RX5_40 sh_84 (Nat.le_of_ble_eq_true rfl) ⟨_, rfl, rfl⟩ (Nat.le_of_ble_eq_true rfl) (Nat.le_of_ble_eq_true rfl) (K_isNext htx1 hat hpL (c := 98) rfl (by decide) (fun q => absurd q (by omega)) (fun _ => ?_))
    refine is_3 dX5_readClause_20 rfl ?_
    refine al_0 dX5_readClause_21 ?_
    refine il_1 dX5_readClause_22 ?_
    refine R_if_eq (tgt := 31) dX5_readClause_23 (by decide) (fun q => absurd q (by decide)) (fun _ => ?_)
    refine R_ldcS (i := 0) dX5_readClause_26 (by decide) rfl ?_
    refine R_goto (tgt := 51) dX5_readClause_28 (by decide) ?_
    refine cv_1 dX5_readClause_51 mm_RX5_51 sh_84 (Nat.le_of_ble_eq_true rfl) ⟨_, rfl, rfl⟩ (Nat.le_of_ble_eq_true rfl) (Nat.le_of_ble_eq_true rfl) (K_readWord (i := 0) htx1 hat hpL (by decide) (fun hw => ?_) (fun hw => ?_))
    · rw [if_pos hw] at hr
      have hrd1 := hrd.at (q := (wordR T L (wdC 0) p).2) hk
      have htx2 := hrd1.1.tx hk htx
      refine R_if_ne (tgt := 59) dX5_readClause_54 (by decide) (fun _ => ?_) (fun q => absurd q (by decide))
      refine al_0 dX5_readClause_59 ?_
      refine cv_0 dX5_readClause_60 mm_RX5_55 sh_84 (Nat.le_of_ble_eq_true rfl) ⟨_, rfl, rfl⟩ (Nat.le_of_ble_eq_true rfl) (Nat.le_of_ble_eq_true rfl) (K_readNumber htx2 hrd1.1.2.2 wp.2 (fun hn => ?_) (fun n q hn => ?_))
      · rw [hn] at hr
        refine is_4 dX5_readClause_63 rfl ?_
        refine il_4 dX5_readClause_65 ?_
        refine R_if_ge (tgt := 72) dX5_readClause_67 (by decide) (fun q => absurd q (by decide)) (fun _ => ?_)
        refine R_iconst (v := 0) dX5_readClause_70 (by decide) ?_
        refine R_ireturn dX5_readClause_71 ⟨_, rfl, rfl⟩ ?_
        obtain rfl := Option.some.inj hr
        exact h0 rfl _ hrd1.1
      · rw [hn] at hr
        dsimp only at hr
        have hns := numR_some hn
        dsimp only at hns
        have n26 : ¬ nI n < 0 := nI_pos (by omega)
        rw [rn_u_u]
        have hrd2 := hrd.at (q := q) hk
        have htx3 := hrd2.1.tx hk htx
        refine is_4 dX5_readClause_63 rfl ?_
        refine il_4 dX5_readClause_65 ?_
        refine R_if_ge (tgt := 72) dX5_readClause_67 (by decide) (fun c67 => ?_) (fun q => absurd q (not_not_intro (Int32.not_lt.mp n26)))
        refine il_3 dX5_readClause_72 ?_
        refine R_if_eq (tgt := 87) dX5_readClause_73 (by decide) (fun _ => ?_) (fun q => absurd q (by decide))
        refine il_1 dX5_readClause_87 ?_
        refine R_if_ne (tgt := 115) dX5_readClause_88 (by decide) (fun _ => ?_) (fun q => absurd q (by decide))
        refine al_0 dX5_readClause_115 ?_
        refine R_bipush (v := 32) dX5_readClause_116 (by decide) ?_
        refine cv_1 dX5_readClause_118 mm_RX5_36 sh_84 (Nat.le_of_ble_eq_true rfl) ⟨_, rfl, rfl⟩ (Nat.le_of_ble_eq_true rfl) (Nat.le_of_ble_eq_true rfl) (K_skip htx3 hrd2.1.2.2 hns.2.1 (c := 32) rfl (by decide) (fun s2 l2 => ?_) (fun s2 => ?_))
        · rw [if_neg (by decide), if_pos s2] at hr
          rw [rn_u_u]
          have hrd3 := hrd.at (q := q + 1) hk
          have htx4 := hrd3.1.tx hk htx
          obtain ⟨s, es, hr⟩ := bind_of hr
          have okr := rd_ok T L 404 3 0 (q + 1) [] s (by decide) l2 es
          unfold okR at okr
          simp only [List.length_nil] at okr
          have hrc3 := hrd3.rc
          have hrc3 : RC (rn_u mi 84 2 (nI (q + 1))) (rn_u mi 84 2 (nI (q + 1))) (D 84) (q + 1) (flC cl ++ ([] : List TK).map tC) := by rw [List.map_nil, List.append_nil]; exact hrc3
          obtain ⟨-, -, -, kr3, -⟩ := kr_all (m0 := rn_u mi 84 2 (nI (q + 1))) (bs := flC cl) (ml := ml) (D := D) htx4 hk 404
          refine R_if_eq (tgt := 132) dX5_readClause_121 (by decide) (fun q => absurd q (by decide)) (fun _ => ?_)
          refine al_0 dX5_readClause_124 ?_
          refine R_iconst (v := 0) dX5_readClause_125 (by decide) ?_
          refine cv_1 dX5_readClause_126 mm_RX5_74 sh_84 (Nat.le_of_ble_eq_true rfl) ⟨_, rfl, rfl⟩ (Nat.le_of_ble_eq_true rfl) (Nat.le_of_ble_eq_true rfl) (kr3 G _ _ _ _ 0 (q + 1) [] 0 s es nI_0.symm (by decide) (by omega) l2 hrc3 (by simp only [List.length_nil]; omega) (fun b5 m5 hm5 => ?_) (fun b5 m5 hm5 => ?_))
          · refine R_if_ne (tgt := 134) dX5_readClause_129 (by decide) (fun _ => ?_) (fun q => absurd q (by decide))
            refine al_0 dX5_readClause_134 ?_
            refine R_getfr (r := (D 84)) dX5_readClause_135 fl_RX5_18 rfl sh_84 (Nat.le_of_ble_eq_true rfl) rfl ?_
            refine il_1 dX5_readClause_138 ?_
            refine R_if_eq (tgt := 148) dX5_readClause_139 (by decide) (fun q => absurd q (by decide)) (fun _ => ?_)
            refine R_sipush (v := 2000) dX5_readClause_142 (by decide) ?_
            refine R_goto (tgt := 151) dX5_readClause_145 (by decide) ?_
            refine il_4 dX5_readClause_151 ?_
            refine R_iadd dX5_readClause_153 ?_
            refine cv_1 dX5_readClause_154 mm_RX5_78 (pd_s0 hk) (show (D 84) < 164 by have := pd_n hk; omega) ⟨_, rfl, rfl⟩ (Nat.le_of_ble_eq_true rfl) (Nat.le_of_ble_eq_true rfl) (K_addCode hk hm5.2.2.2.2.1 (by rw [len_map]; omega) ?_)
            rw [show (2000 : Int32) + nI n = nI (2000 + n) from sm_add 2000 n]
            have ha := hm5.add (x := nI (2000 + n)) hk
            refine R_iconst (v := 1) dX5_readClause_157 (by decide) ?_
            refine R_ireturn dX5_readClause_158 ⟨_, rfl, rfl⟩ ?_
            obtain rfl := Option.some.inj hr
            refine h1 b5 _ ?_ ?_ ⟨show 0 ≤ 3 by decide, hns.2.2.2, fun _ => ?_⟩
            · exact hrd3.add (f := 0) (n := n) (c := s.2.2) hk (by decide) ha
            · show (flC (cl ++ [(0, n, s.2.2)])).length ≤ s.2.1
              rw [flC_append]
              show (_ ++ ((s.2.2.map tC ++ [_]) ++ [])).length ≤ _
              simp only [List.length_append, List.length_map, List.length_cons, List.length_nil]
              omega
            · exact rd_wf T L 404 3 0 (q + 1) 0 [] s (by decide) ⟨by decide, by decide⟩ rfl es b5
          · refine R_if_ne (tgt := 134) dX5_readClause_129 (by decide) (fun q => absurd q (by decide)) (fun _ => ?_)
            refine R_iconst (v := 0) dX5_readClause_132 (by decide) ?_
            refine R_ireturn dX5_readClause_133 ⟨_, rfl, rfl⟩ ?_
            obtain rfl := Option.some.inj hr
            first | exact h0 rfl _ hrd2.1 | exact h0 b5 _ (hrd3.1.trans hm5.fr)
        · rw [if_neg (by decide), if_neg s2] at hr
          refine R_if_eq (tgt := 132) dX5_readClause_121 (by decide) (fun _ => ?_) (fun q => absurd q (by decide))
          refine R_iconst (v := 0) dX5_readClause_132 (by decide) ?_
          refine R_ireturn dX5_readClause_133 ⟨_, rfl, rfl⟩ ?_
          obtain rfl := Option.some.inj hr
          first | exact h0 rfl _ hrd2.1 | exact h0 b5 _ (hrd3.1.trans hm5.fr)
    · rw [if_neg (fun q => by rw [hw] at q; exact absurd q (by decide))] at hr
      have hrd1 := hrd.at (q := (wordR T L (wdC 0) p).2) hk
      refine R_if_ne (tgt := 59) dX5_readClause_54 (by decide) (fun q => absurd q (by decide)) (fun _ => ?_)
      refine R_iconst (v := 0) dX5_readClause_57 (by decide) ?_
      refine R_ireturn dX5_readClause_58 ⟨_, rfl, rfl⟩ ?_
      obtain rfl := Option.some.inj hr
      exact h0 rfl _ hrd1.1
  · have ek : hdK (nxT T L p) = 1 := by unfold hdK; rw [if_neg (by omega), if_pos en]
    rw [ek] at hr
    have wp := wordR_pos (T := T) (wdC 1) p hpL wdC_ne
    refine al_0 dX5_readClause_0 ?_
    refine R_bipush (v := 107) dX5_readClause_1 (by decide) ?_
    refine cv_1 dX5_readClause_3 mm_RX5_40 sh_84 (Nat.le_of_ble_eq_true rfl) ⟨_, rfl, rfl⟩ (Nat.le_of_ble_eq_true rfl) (Nat.le_of_ble_eq_true rfl) (K_isNext htx1 hat hpL (c := 107) rfl (by decide) (fun q => absurd q (by omega)) (fun _ => ?_))
    refine is_1 dX5_readClause_6 rfl ?_
    refine al_0 dX5_readClause_7 ?_
    refine R_bipush (v := 100) dX5_readClause_8 (by decide) ?_
    refine cv_1 dX5_readClause_10 mm_RX5_40 sh_84 (Nat.le_of_ble_eq_true rfl) ⟨_, rfl, rfl⟩ (Nat.le_of_ble_eq_true rfl) (Nat.le_of_ble_eq_true rfl) (K_isNext htx1 hat hpL (c := 100) rfl (by decide) (fun _ => ?_) (fun q => absurd en q))
    refine is_2 dX5_readClause_13 rfl ?_
    refine al_0 dX5_readClause_14 ?_
    refine R_bipush (v := 98) dX5_readClause_15 (by decide) ?_
    refine cv_1 dX5_readClause_17 mm_RX5_40 sh_84 (Nat.le_of_ble_eq_true rfl) ⟨_, rfl, rfl⟩ (Nat.le_of_ble_eq_true rfl) (Nat.le_of_ble_eq_true rfl) (K_isNext htx1 hat hpL (c := 98) rfl (by decide) (fun q => absurd q (by omega)) (fun _ => ?_))
    refine is_3 dX5_readClause_20 rfl ?_
    refine al_0 dX5_readClause_21 ?_
    refine il_1 dX5_readClause_22 ?_
    refine R_if_eq (tgt := 31) dX5_readClause_23 (by decide) (fun _ => ?_) (fun q => absurd q (by decide))
    refine il_2 dX5_readClause_31 ?_
    refine R_if_eq (tgt := 40) dX5_readClause_32 (by decide) (fun q => absurd q (by decide)) (fun _ => ?_)
    refine R_ldcS (i := 1) dX5_readClause_35 (by decide) rfl ?_
    refine R_goto (tgt := 51) dX5_readClause_37 (by decide) ?_
    refine cv_1 dX5_readClause_51 mm_RX5_51 sh_84 (Nat.le_of_ble_eq_true rfl) ⟨_, rfl, rfl⟩ (Nat.le_of_ble_eq_true rfl) (Nat.le_of_ble_eq_true rfl) (K_readWord (i := 1) htx1 hat hpL (by decide) (fun hw => ?_) (fun hw => ?_))
    · rw [if_pos hw] at hr
      have hrd1 := hrd.at (q := (wordR T L (wdC 1) p).2) hk
      have htx2 := hrd1.1.tx hk htx
      refine R_if_ne (tgt := 59) dX5_readClause_54 (by decide) (fun _ => ?_) (fun q => absurd q (by decide))
      refine al_0 dX5_readClause_59 ?_
      refine cv_0 dX5_readClause_60 mm_RX5_55 sh_84 (Nat.le_of_ble_eq_true rfl) ⟨_, rfl, rfl⟩ (Nat.le_of_ble_eq_true rfl) (Nat.le_of_ble_eq_true rfl) (K_readNumber htx2 hrd1.1.2.2 wp.2 (fun hn => ?_) (fun n q hn => ?_))
      · rw [hn] at hr
        refine is_4 dX5_readClause_63 rfl ?_
        refine il_4 dX5_readClause_65 ?_
        refine R_if_ge (tgt := 72) dX5_readClause_67 (by decide) (fun q => absurd q (by decide)) (fun _ => ?_)
        refine R_iconst (v := 0) dX5_readClause_70 (by decide) ?_
        refine R_ireturn dX5_readClause_71 ⟨_, rfl, rfl⟩ ?_
        obtain rfl := Option.some.inj hr
        exact h0 rfl _ hrd1.1
      · rw [hn] at hr
        dsimp only at hr
        have hns := numR_some hn
        dsimp only at hns
        have n26 : ¬ nI n < 0 := nI_pos (by omega)
        rw [rn_u_u]
        have hrd2 := hrd.at (q := q) hk
        have htx3 := hrd2.1.tx hk htx
        refine is_4 dX5_readClause_63 rfl ?_
        refine il_4 dX5_readClause_65 ?_
        refine R_if_ge (tgt := 72) dX5_readClause_67 (by decide) (fun c67 => ?_) (fun q => absurd q (not_not_intro (Int32.not_lt.mp n26)))
        refine il_3 dX5_readClause_72 ?_
        refine R_if_eq (tgt := 87) dX5_readClause_73 (by decide) (fun _ => ?_) (fun q => absurd q (by decide))
        refine il_1 dX5_readClause_87 ?_
        refine R_if_ne (tgt := 115) dX5_readClause_88 (by decide) (fun q => absurd q (by decide)) (fun _ => ?_)
        refine il_2 dX5_readClause_91 ?_
        refine R_if_ne (tgt := 115) dX5_readClause_92 (by decide) (fun _ => ?_) (fun q => absurd q (by decide))
        refine al_0 dX5_readClause_115 ?_
        refine R_bipush (v := 32) dX5_readClause_116 (by decide) ?_
        refine cv_1 dX5_readClause_118 mm_RX5_36 sh_84 (Nat.le_of_ble_eq_true rfl) ⟨_, rfl, rfl⟩ (Nat.le_of_ble_eq_true rfl) (Nat.le_of_ble_eq_true rfl) (K_skip htx3 hrd2.1.2.2 hns.2.1 (c := 32) rfl (by decide) (fun s2 l2 => ?_) (fun s2 => ?_))
        · rw [if_neg (by decide), if_pos s2] at hr
          rw [rn_u_u]
          have hrd3 := hrd.at (q := q + 1) hk
          have htx4 := hrd3.1.tx hk htx
          obtain ⟨s, es, hr⟩ := bind_of hr
          have okr := rd_ok T L 404 3 0 (q + 1) [] s (by decide) l2 es
          unfold okR at okr
          simp only [List.length_nil] at okr
          have hrc3 := hrd3.rc
          have hrc3 : RC (rn_u mi 84 2 (nI (q + 1))) (rn_u mi 84 2 (nI (q + 1))) (D 84) (q + 1) (flC cl ++ ([] : List TK).map tC) := by rw [List.map_nil, List.append_nil]; exact hrc3
          obtain ⟨-, -, -, kr3, -⟩ := kr_all (m0 := rn_u mi 84 2 (nI (q + 1))) (bs := flC cl) (ml := ml) (D := D) htx4 hk 404
          refine R_if_eq (tgt := 132) dX5_readClause_121 (by decide) (fun q => absurd q (by decide)) (fun _ => ?_)
          refine al_0 dX5_readClause_124 ?_
          refine R_iconst (v := 0) dX5_readClause_125 (by decide) ?_
          refine cv_1 dX5_readClause_126 mm_RX5_74 sh_84 (Nat.le_of_ble_eq_true rfl) ⟨_, rfl, rfl⟩ (Nat.le_of_ble_eq_true rfl) (Nat.le_of_ble_eq_true rfl) (kr3 G _ _ _ _ 0 (q + 1) [] 0 s es nI_0.symm (by decide) (by omega) l2 hrc3 (by simp only [List.length_nil]; omega) (fun b5 m5 hm5 => ?_) (fun b5 m5 hm5 => ?_))
          · refine R_if_ne (tgt := 134) dX5_readClause_129 (by decide) (fun _ => ?_) (fun q => absurd q (by decide))
            refine al_0 dX5_readClause_134 ?_
            refine R_getfr (r := (D 84)) dX5_readClause_135 fl_RX5_18 rfl sh_84 (Nat.le_of_ble_eq_true rfl) rfl ?_
            refine il_1 dX5_readClause_138 ?_
            refine R_if_eq (tgt := 148) dX5_readClause_139 (by decide) (fun _ => ?_) (fun q => absurd q (by decide))
            refine R_sipush (v := 3000) dX5_readClause_148 (by decide) ?_
            refine il_4 dX5_readClause_151 ?_
            refine R_iadd dX5_readClause_153 ?_
            refine cv_1 dX5_readClause_154 mm_RX5_78 (pd_s0 hk) (show (D 84) < 164 by have := pd_n hk; omega) ⟨_, rfl, rfl⟩ (Nat.le_of_ble_eq_true rfl) (Nat.le_of_ble_eq_true rfl) (K_addCode hk hm5.2.2.2.2.1 (by rw [len_map]; omega) ?_)
            rw [show (3000 : Int32) + nI n = nI (3000 + n) from sm_add 3000 n]
            have ha := hm5.add (x := nI (3000 + n)) hk
            refine R_iconst (v := 1) dX5_readClause_157 (by decide) ?_
            refine R_ireturn dX5_readClause_158 ⟨_, rfl, rfl⟩ ?_
            obtain rfl := Option.some.inj hr
            refine h1 b5 _ ?_ ?_ ⟨show 1 ≤ 3 by decide, hns.2.2.2, fun _ => ?_⟩
            · exact hrd3.add (f := 1) (n := n) (c := s.2.2) hk (by decide) ha
            · show (flC (cl ++ [(1, n, s.2.2)])).length ≤ s.2.1
              rw [flC_append]
              show (_ ++ ((s.2.2.map tC ++ [_]) ++ [])).length ≤ _
              simp only [List.length_append, List.length_map, List.length_cons, List.length_nil]
              omega
            · exact rd_wf T L 404 3 0 (q + 1) 0 [] s (by decide) ⟨by decide, by decide⟩ rfl es b5
          · refine R_if_ne (tgt := 134) dX5_readClause_129 (by decide) (fun q => absurd q (by decide)) (fun _ => ?_)
            refine R_iconst (v := 0) dX5_readClause_132 (by decide) ?_
            refine R_ireturn dX5_readClause_133 ⟨_, rfl, rfl⟩ ?_
            obtain rfl := Option.some.inj hr
            first | exact h0 rfl _ hrd2.1 | exact h0 b5 _ (hrd3.1.trans hm5.fr)
        · rw [if_neg (by decide), if_neg s2] at hr
          refine R_if_eq (tgt := 132) dX5_readClause_121 (by decide) (fun _ => ?_) (fun q => absurd q (by decide))
          refine R_iconst (v := 0) dX5_readClause_132 (by decide) ?_
          refine R_ireturn dX5_readClause_133 ⟨_, rfl, rfl⟩ ?_
          obtain rfl := Option.some.inj hr
          first | exact h0 rfl _ hrd2.1 | exact h0 b5 _ (hrd3.1.trans hm5.fr)
    · rw [if_neg (fun q => by rw [hw] at q; exact absurd q (by decide))] at hr
      have hrd1 := hrd.at (q := (wordR T L (wdC 1) p).2) hk
      refine R_if_ne (tgt := 59) dX5_readClause_54 (by decide) (fun q => absurd q (by decide)) (fun _ => ?_)
      refine R_iconst (v := 0) dX5_readClause_57 (by decide) ?_
      refine R_ireturn dX5_readClause_58 ⟨_, rfl, rfl⟩ ?_
      obtain rfl := Option.some.inj hr
      exact h0 rfl _ hrd1.1
  · have ek : hdK (nxT T L p) = 2 := by unfold hdK; rw [if_neg (by omega), if_neg (by omega), if_pos en]
    rw [ek] at hr
    have wp := wordR_pos (T := T) (wdC 2) p hpL wdC_ne
    refine al_0 dX5_readClause_0 ?_
    refine R_bipush (v := 107) dX5_readClause_1 (by decide) ?_
    refine cv_1 dX5_readClause_3 mm_RX5_40 sh_84 (Nat.le_of_ble_eq_true rfl) ⟨_, rfl, rfl⟩ (Nat.le_of_ble_eq_true rfl) (Nat.le_of_ble_eq_true rfl) (K_isNext htx1 hat hpL (c := 107) rfl (by decide) (fun q => absurd q (by omega)) (fun _ => ?_))
    refine is_1 dX5_readClause_6 rfl ?_
    refine al_0 dX5_readClause_7 ?_
    refine R_bipush (v := 100) dX5_readClause_8 (by decide) ?_
    refine cv_1 dX5_readClause_10 mm_RX5_40 sh_84 (Nat.le_of_ble_eq_true rfl) ⟨_, rfl, rfl⟩ (Nat.le_of_ble_eq_true rfl) (Nat.le_of_ble_eq_true rfl) (K_isNext htx1 hat hpL (c := 100) rfl (by decide) (fun q => absurd q (by omega)) (fun _ => ?_))
    refine is_2 dX5_readClause_13 rfl ?_
    refine al_0 dX5_readClause_14 ?_
    refine R_bipush (v := 98) dX5_readClause_15 (by decide) ?_
    refine cv_1 dX5_readClause_17 mm_RX5_40 sh_84 (Nat.le_of_ble_eq_true rfl) ⟨_, rfl, rfl⟩ (Nat.le_of_ble_eq_true rfl) (Nat.le_of_ble_eq_true rfl) (K_isNext htx1 hat hpL (c := 98) rfl (by decide) (fun _ => ?_) (fun q => absurd en q))
    refine is_3 dX5_readClause_20 rfl ?_
    refine al_0 dX5_readClause_21 ?_
    refine il_1 dX5_readClause_22 ?_
    refine R_if_eq (tgt := 31) dX5_readClause_23 (by decide) (fun _ => ?_) (fun q => absurd q (by decide))
    refine il_2 dX5_readClause_31 ?_
    refine R_if_eq (tgt := 40) dX5_readClause_32 (by decide) (fun _ => ?_) (fun q => absurd q (by decide))
    refine il_3 dX5_readClause_40 ?_
    refine R_if_eq (tgt := 49) dX5_readClause_41 (by decide) (fun q => absurd q (by decide)) (fun _ => ?_)
    refine R_ldcS (i := 2) dX5_readClause_44 (by decide) rfl ?_
    refine R_goto (tgt := 51) dX5_readClause_46 (by decide) ?_
    refine cv_1 dX5_readClause_51 mm_RX5_51 sh_84 (Nat.le_of_ble_eq_true rfl) ⟨_, rfl, rfl⟩ (Nat.le_of_ble_eq_true rfl) (Nat.le_of_ble_eq_true rfl) (K_readWord (i := 2) htx1 hat hpL (by decide) (fun hw => ?_) (fun hw => ?_))
    · rw [if_pos hw] at hr
      have hrd1 := hrd.at (q := (wordR T L (wdC 2) p).2) hk
      have htx2 := hrd1.1.tx hk htx
      refine R_if_ne (tgt := 59) dX5_readClause_54 (by decide) (fun _ => ?_) (fun q => absurd q (by decide))
      refine al_0 dX5_readClause_59 ?_
      refine cv_0 dX5_readClause_60 mm_RX5_55 sh_84 (Nat.le_of_ble_eq_true rfl) ⟨_, rfl, rfl⟩ (Nat.le_of_ble_eq_true rfl) (Nat.le_of_ble_eq_true rfl) (K_readNumber htx2 hrd1.1.2.2 wp.2 (fun hn => ?_) (fun n q hn => ?_))
      · rw [hn] at hr
        refine is_4 dX5_readClause_63 rfl ?_
        refine il_4 dX5_readClause_65 ?_
        refine R_if_ge (tgt := 72) dX5_readClause_67 (by decide) (fun q => absurd q (by decide)) (fun _ => ?_)
        refine R_iconst (v := 0) dX5_readClause_70 (by decide) ?_
        refine R_ireturn dX5_readClause_71 ⟨_, rfl, rfl⟩ ?_
        obtain rfl := Option.some.inj hr
        exact h0 rfl _ hrd1.1
      · rw [hn] at hr
        dsimp only at hr
        have hns := numR_some hn
        dsimp only at hns
        have n26 : ¬ nI n < 0 := nI_pos (by omega)
        rw [rn_u_u]
        have hrd2 := hrd.at (q := q) hk
        have htx3 := hrd2.1.tx hk htx
        refine is_4 dX5_readClause_63 rfl ?_
        refine il_4 dX5_readClause_65 ?_
        refine R_if_ge (tgt := 72) dX5_readClause_67 (by decide) (fun c67 => ?_) (fun q => absurd q (not_not_intro (Int32.not_lt.mp n26)))
        refine il_3 dX5_readClause_72 ?_
        refine R_if_eq (tgt := 87) dX5_readClause_73 (by decide) (fun q => absurd q (by decide)) (fun _ => ?_)
        refine al_0 dX5_readClause_76 ?_
        refine R_getfr (r := (D 84)) dX5_readClause_77 fl_RX5_18 rfl sh_84 (Nat.le_of_ble_eq_true rfl) rfl ?_
        rw [if_pos (by decide)] at hr
        refine il_4 dX5_readClause_80 ?_
        refine R_putfi dX5_readClause_82 fl_RX5_59 rfl (Or.inl rfl) (pd_s0 hk) (show (D 84) < 164 by have := pd_n hk; omega) rfl rfl ?_
        refine R_iconst (v := 1) dX5_readClause_85 (by decide) ?_
        refine R_ireturn dX5_readClause_86 ⟨_, rfl, rfl⟩ ?_
        obtain rfl := Option.some.inj hr
        refine h1 rfl _ ?_ ?_ ⟨show 2 ≤ 3 by decide, hns.2.2.2, fun q => absurd q (show ¬ 2 ≤ 1 by decide)⟩
        · exact hrd2.set (f := 2) (n := n) hk (Or.inl ⟨rfl, rfl⟩)
        · show (flC (cl ++ [(2, n, [])])).length ≤ q
          rw [flC_append]
          show (_ ++ ([] : List Int32)).length ≤ _
          rw [List.append_nil]
          omega
    · rw [if_neg (fun q => by rw [hw] at q; exact absurd q (by decide))] at hr
      have hrd1 := hrd.at (q := (wordR T L (wdC 2) p).2) hk
      refine R_if_ne (tgt := 59) dX5_readClause_54 (by decide) (fun q => absurd q (by decide)) (fun _ => ?_)
      refine R_iconst (v := 0) dX5_readClause_57 (by decide) ?_
      refine R_ireturn dX5_readClause_58 ⟨_, rfl, rfl⟩ ?_
      obtain rfl := Option.some.inj hr
      exact h0 rfl _ hrd1.1
  · have ek : hdK (nxT T L p) = 3 := by unfold hdK; rw [if_neg (by omega), if_neg (by omega), if_neg (by omega)]
    rw [ek] at hr
    have wp := wordR_pos (T := T) (wdC 3) p hpL wdC_ne
    refine al_0 dX5_readClause_0 ?_
    refine R_bipush (v := 107) dX5_readClause_1 (by decide) ?_
    refine cv_1 dX5_readClause_3 mm_RX5_40 sh_84 (Nat.le_of_ble_eq_true rfl) ⟨_, rfl, rfl⟩ (Nat.le_of_ble_eq_true rfl) (Nat.le_of_ble_eq_true rfl) (K_isNext htx1 hat hpL (c := 107) rfl (by decide) (fun q => absurd q (by omega)) (fun _ => ?_))
    refine is_1 dX5_readClause_6 rfl ?_
    refine al_0 dX5_readClause_7 ?_
    refine R_bipush (v := 100) dX5_readClause_8 (by decide) ?_
    refine cv_1 dX5_readClause_10 mm_RX5_40 sh_84 (Nat.le_of_ble_eq_true rfl) ⟨_, rfl, rfl⟩ (Nat.le_of_ble_eq_true rfl) (Nat.le_of_ble_eq_true rfl) (K_isNext htx1 hat hpL (c := 100) rfl (by decide) (fun q => absurd q (by omega)) (fun _ => ?_))
    refine is_2 dX5_readClause_13 rfl ?_
    refine al_0 dX5_readClause_14 ?_
    refine R_bipush (v := 98) dX5_readClause_15 (by decide) ?_
    refine cv_1 dX5_readClause_17 mm_RX5_40 sh_84 (Nat.le_of_ble_eq_true rfl) ⟨_, rfl, rfl⟩ (Nat.le_of_ble_eq_true rfl) (Nat.le_of_ble_eq_true rfl) (K_isNext htx1 hat hpL (c := 98) rfl (by decide) (fun q => absurd q (by omega)) (fun _ => ?_))
    refine is_3 dX5_readClause_20 rfl ?_
    refine al_0 dX5_readClause_21 ?_
    refine il_1 dX5_readClause_22 ?_
    refine R_if_eq (tgt := 31) dX5_readClause_23 (by decide) (fun _ => ?_) (fun q => absurd q (by decide))
    refine il_2 dX5_readClause_31 ?_
    refine R_if_eq (tgt := 40) dX5_readClause_32 (by decide) (fun _ => ?_) (fun q => absurd q (by decide))
    refine il_3 dX5_readClause_40 ?_
    refine R_if_eq (tgt := 49) dX5_readClause_41 (by decide) (fun _ => ?_) (fun q => absurd q (by decide))
    refine R_ldcS (i := 3) dX5_readClause_49 (by decide) rfl ?_
    refine cv_1 dX5_readClause_51 mm_RX5_51 sh_84 (Nat.le_of_ble_eq_true rfl) ⟨_, rfl, rfl⟩ (Nat.le_of_ble_eq_true rfl) (Nat.le_of_ble_eq_true rfl) (K_readWord (i := 3) htx1 hat hpL (by decide) (fun hw => ?_) (fun hw => ?_))
    · rw [if_pos hw] at hr
      have hrd1 := hrd.at (q := (wordR T L (wdC 3) p).2) hk
      have htx2 := hrd1.1.tx hk htx
      refine R_if_ne (tgt := 59) dX5_readClause_54 (by decide) (fun _ => ?_) (fun q => absurd q (by decide))
      refine al_0 dX5_readClause_59 ?_
      refine cv_0 dX5_readClause_60 mm_RX5_55 sh_84 (Nat.le_of_ble_eq_true rfl) ⟨_, rfl, rfl⟩ (Nat.le_of_ble_eq_true rfl) (Nat.le_of_ble_eq_true rfl) (K_readNumber htx2 hrd1.1.2.2 wp.2 (fun hn => ?_) (fun n q hn => ?_))
      · rw [hn] at hr
        refine is_4 dX5_readClause_63 rfl ?_
        refine il_4 dX5_readClause_65 ?_
        refine R_if_ge (tgt := 72) dX5_readClause_67 (by decide) (fun q => absurd q (by decide)) (fun _ => ?_)
        refine R_iconst (v := 0) dX5_readClause_70 (by decide) ?_
        refine R_ireturn dX5_readClause_71 ⟨_, rfl, rfl⟩ ?_
        obtain rfl := Option.some.inj hr
        exact h0 rfl _ hrd1.1
      · rw [hn] at hr
        dsimp only at hr
        have hns := numR_some hn
        dsimp only at hns
        have n26 : ¬ nI n < 0 := nI_pos (by omega)
        rw [rn_u_u]
        have hrd2 := hrd.at (q := q) hk
        have htx3 := hrd2.1.tx hk htx
        refine is_4 dX5_readClause_63 rfl ?_
        refine il_4 dX5_readClause_65 ?_
        refine R_if_ge (tgt := 72) dX5_readClause_67 (by decide) (fun c67 => ?_) (fun q => absurd q (not_not_intro (Int32.not_lt.mp n26)))
        refine il_3 dX5_readClause_72 ?_
        refine R_if_eq (tgt := 87) dX5_readClause_73 (by decide) (fun _ => ?_) (fun q => absurd q (by decide))
        refine il_1 dX5_readClause_87 ?_
        refine R_if_ne (tgt := 115) dX5_readClause_88 (by decide) (fun q => absurd q (by decide)) (fun _ => ?_)
        refine il_2 dX5_readClause_91 ?_
        refine R_if_ne (tgt := 115) dX5_readClause_92 (by decide) (fun q => absurd q (by decide)) (fun _ => ?_)
        refine al_0 dX5_readClause_95 ?_
        refine R_getfr (r := (D 84)) dX5_readClause_96 fl_RX5_18 rfl sh_84 (Nat.le_of_ble_eq_true rfl) rfl ?_
        rw [if_pos (by decide)] at hr
        refine R_iconst (v := 1) dX5_readClause_99 (by decide) ?_
        refine R_bipush (v := 9) dX5_readClause_100 (by decide) ?_
        refine il_4 dX5_readClause_102 ?_
        refine cs_2 dX5_readClause_104 mm_RX5_62 (Nat.le_of_ble_eq_true rfl) (Nat.le_of_ble_eq_true rfl) (K_min ?_)
        refine cs_2 dX5_readClause_107 mm_RX5_68 (Nat.le_of_ble_eq_true rfl) (Nat.le_of_ble_eq_true rfl) (K_max ?_)
        refine R_putfi dX5_readClause_110 fl_RX5_71 rfl (Or.inl rfl) (pd_s0 hk) (show (D 84) < 164 by have := pd_n hk; omega) rfl rfl ?_
        refine R_iconst (v := 1) dX5_readClause_113 (by decide) ?_
        refine R_ireturn dX5_readClause_114 ⟨_, rfl, rfl⟩ ?_
        obtain rfl := Option.some.inj hr
        refine h1 rfl _ ?_ ?_ ⟨show 3 ≤ 3 by decide, hns.2.2.2, fun q => absurd q (show ¬ 3 ≤ 1 by decide)⟩
        · exact hrd2.set (f := 3) (n := n) hk (Or.inr ⟨rfl, pac_all ⟨n, by omega⟩⟩)
        · show (flC (cl ++ [(3, n, [])])).length ≤ q
          rw [flC_append]
          show (_ ++ ([] : List Int32)).length ≤ _
          rw [List.append_nil]
          omega
    · rw [if_neg (fun q => by rw [hw] at q; exact absurd q (by decide))] at hr
      have hrd1 := hrd.at (q := (wordR T L (wdC 3) p).2) hk
      refine R_if_ne (tgt := 59) dX5_readClause_54 (by decide) (fun q => absurd q (by decide)) (fun _ => ?_)
      refine R_iconst (v := 0) dX5_readClause_57 (by decide) ?_
      refine R_ireturn dX5_readClause_58 ⟨_, rfl, rfl⟩ ?_
      obtain rfl := Option.some.inj hr
      exact h0 rfl _ hrd1.1

set_option maxHeartbeats 4000000 in
theorem L_readInto {G : rn_G} {d : Nat} {κ : Nat × Nat} {Q : Option Value → rn_S → Prop} {ml : Nat → Nat → Int64} {D : Nat → Nat} {T : Nat → Nat} {L : Nat} {m0 : Nat → Nat → Int32} {k : Nat} {r : Bool × Nat × CL} (htx : TXC T L m0) (hk : PD (D 84)) (h1 : r.1 = true → ∀ m, RDc m0 m (D 84) r.2.1 r.2.2 → (flC r.2.2).length ≤ 100 → r.2.2.length ≤ 10 → (∀ q ∈ r.2.2, okC q) → Q (some (.int (-1))) (m, ml, RF D, 164)) (h0 : r.1 = false → ∀ m, RFc m0 m (D 84) r.2.1 → r.2.1 ≤ 100 → Q (some (.int (nI r.2.1))) (m, ml, RF D, 164)) : ∀ (rr p : Nat) (a : CL) (x : Int32) (mi : Nat → Nat → Int32), rr + 1 + a.length = 10 → x = nI (a.length + 1) → p ≤ L → RDc m0 mi (D 84) p a → (flC a).length ≤ p → (∀ q ∈ a, okC q) → txR T L (rr + 1) p a = some r → Run G (d + 22) M_X5_readInto 19 [.ref 84, .ref k, .int x] [] (mi, ml, RF D, 164) κ Q := by
  intro rr
  have hL := htx.1
  induction rr with
  | zero =>
    intro p a x mi hra hx hpL hrd hsz hok hr
    obtain ⟨s, e1, q1, q2⟩ := clR_ok (T := T) hL hpL
    rw [txR, e1, Option.bind_some] at hr
    have rr0 : (0 : Nat) = 0 := rfl
    refine il_2 dX5_readInto_19 ?_
    refine R_bipush (v := 10) dX5_readInto_20 (by decide) ?_
    refine R_icmp_gt (tgt := 76) dX5_readInto_22 (by decide) (fun q => absurd q (Int32.not_lt.mpr (by rw [hx]; exact (sm_le_iff (b := 10) (by omega) (by decide)).mpr (by omega)))) (fun c22 => ?_)
    refine al_0 dX5_readInto_25 ?_
    refine cv_0 dX5_readInto_26 mm_RX5_32 sh_84 (Nat.le_of_ble_eq_true rfl) ⟨_, rfl, rfl⟩ (Nat.le_of_ble_eq_true rfl) (Nat.le_of_ble_eq_true rfl) (K_readClause htx hk hpL hrd hsz e1 (fun b2 m2 hm2 hz2 hok2 => ?_) (fun b2 m2 hm2 => ?_))
    · rw [if_pos b2] at hr
      have htx2 := hm2.1.tx hk htx
      have e84 : m2 84 1 = nI L := htx2.2.1
      have e842 := hm2.1.2.2
      refine R_if_ne (tgt := 37) dX5_readInto_29 (by decide) (fun _ => ?_) (fun q => absurd q (by decide))
      refine al_0 dX5_readInto_37 ?_
      refine R_getfi dX5_readInto_38 fl_RX5_29 rfl sh_84 (Nat.le_of_ble_eq_true rfl) ?_
      refine al_0 dX5_readInto_41 ?_
      refine R_getfi dX5_readInto_42 fl_RX5_22 rfl sh_84 (Nat.le_of_ble_eq_true rfl) ?_
      refine R_icmp_ne (tgt := 50) dX5_readInto_45 (by decide) (fun c45 => ?_) (fun c45 => ?_)
      · refine il_2 dX5_readInto_50 ?_
        refine R_bipush (v := 10) dX5_readInto_51 (by decide) ?_
        refine R_icmp_eq (tgt := 65) dX5_readInto_53 (by decide) (fun c53 => ?_) (fun q => absurd q (not_not_intro (by rw [hx]; exact congrArg nI (show a.length + 1 = 10 by omega))))
        refine al_0 dX5_readInto_65 ?_
        refine R_getfi dX5_readInto_66 fl_RX5_29 rfl sh_84 (Nat.le_of_ble_eq_true rfl) ?_
        refine R_ireturn dX5_readInto_69 ⟨_, rfl, rfl⟩ ?_
        have el : ¬ s.2.1 = L := fun q => c45 (by rw [e842, e84, q])
        rw [if_neg el, if_pos rfl] at hr
        rw [e842]
        obtain rfl := Option.some.inj hr
        exact h0 rfl m2 hm2.1 (by dsimp only; omega)
      · refine R_iconst (v := -1) dX5_readInto_48 (by decide) ?_
        refine R_ireturn dX5_readInto_49 ⟨_, rfl, rfl⟩ ?_
        have el : s.2.1 = L := sm_inj (by omega) (by omega) (by rw [← e842, ← e84]; exact c45)
        rw [if_pos el] at hr
        obtain rfl := Option.some.inj hr
        exact h1 rfl m2 hm2 (by dsimp only; omega) (by rw [List.length_append]; show _ + (0 + 1) ≤ 10; omega) (fun q hq => by rcases List.mem_append.mp hq with w | w; exact hok q w; rw [List.mem_singleton.mp w]; exact hok2)
    · rw [if_neg (fun q => by rw [b2] at q; exact absurd q (by decide))] at hr
      obtain rfl := Option.some.inj hr
      have e842 := hm2.2.2
      refine R_if_ne (tgt := 37) dX5_readInto_29 (by decide) (fun q => absurd q (by decide)) (fun _ => ?_)
      refine al_0 dX5_readInto_32 ?_
      refine R_getfi dX5_readInto_33 fl_RX5_29 rfl sh_84 (Nat.le_of_ble_eq_true rfl) ?_
      refine R_ireturn dX5_readInto_36 ⟨_, rfl, rfl⟩ ?_
      rw [e842]
      exact h0 rfl m2 hm2 (by dsimp only; omega)
  | succ rr ih =>
    intro p a x mi hra hx hpL hrd hsz hok hr
    obtain ⟨s, e1, q1, q2⟩ := clR_ok (T := T) hL hpL
    rw [txR, e1, Option.bind_some] at hr
    refine il_2 dX5_readInto_19 ?_
    refine R_bipush (v := 10) dX5_readInto_20 (by decide) ?_
    refine R_icmp_gt (tgt := 76) dX5_readInto_22 (by decide) (fun q => absurd q (Int32.not_lt.mpr (by rw [hx]; exact (sm_le_iff (b := 10) (by omega) (by decide)).mpr (by omega)))) (fun c22 => ?_)
    refine al_0 dX5_readInto_25 ?_
    refine cv_0 dX5_readInto_26 mm_RX5_32 sh_84 (Nat.le_of_ble_eq_true rfl) ⟨_, rfl, rfl⟩ (Nat.le_of_ble_eq_true rfl) (Nat.le_of_ble_eq_true rfl) (K_readClause htx hk hpL hrd hsz e1 (fun b2 m2 hm2 hz2 hok2 => ?_) (fun b2 m2 hm2 => ?_))
    · rw [if_pos b2] at hr
      have htx2 := hm2.1.tx hk htx
      have e84 : m2 84 1 = nI L := htx2.2.1
      have e842 := hm2.1.2.2
      refine R_if_ne (tgt := 37) dX5_readInto_29 (by decide) (fun _ => ?_) (fun q => absurd q (by decide))
      refine al_0 dX5_readInto_37 ?_
      refine R_getfi dX5_readInto_38 fl_RX5_29 rfl sh_84 (Nat.le_of_ble_eq_true rfl) ?_
      refine al_0 dX5_readInto_41 ?_
      refine R_getfi dX5_readInto_42 fl_RX5_22 rfl sh_84 (Nat.le_of_ble_eq_true rfl) ?_
      refine R_icmp_ne (tgt := 50) dX5_readInto_45 (by decide) (fun c45 => ?_) (fun c45 => ?_)
      · have el : ¬ s.2.1 = L := fun q => c45 (by rw [e842, e84, q])
        refine il_2 dX5_readInto_50 ?_
        refine R_bipush (v := 10) dX5_readInto_51 (by decide) ?_
        refine R_icmp_eq (tgt := 65) dX5_readInto_53 (by decide) (fun q => absurd q (by rw [hx]; exact fun q => by have := sm_inj (b := 10) (by omega) (by decide) q; omega)) (fun c53 => ?_)
        refine al_0 dX5_readInto_56 ?_
        refine R_bipush (v := 59) dX5_readInto_57 (by decide) ?_
        refine cv_1 dX5_readInto_59 mm_RX5_36 sh_84 (Nat.le_of_ble_eq_true rfl) ⟨_, rfl, rfl⟩ (Nat.le_of_ble_eq_true rfl) (Nat.le_of_ble_eq_true rfl) (K_skip htx2 e842 q2 (c := 59) rfl (by decide) (fun s2 l2 => ?_) (fun s2 => ?_))
        · rw [if_neg el, if_neg (Nat.succ_ne_zero rr), if_pos s2] at hr
          refine R_if_ne (tgt := 70) dX5_readInto_62 (by decide) (fun _ => ?_) (fun q => absurd q (by decide))
          refine ii_2 (v := _ + 1) dX5_readInto_70 rfl (by rfl) ?_
          refine R_goto (tgt := 19) dX5_readInto_73 (by decide) ?_
          refine ih (s.2.1 + 1) (a ++ [s.2.2]) _ _ (by rw [List.length_append]; show _ + (_ + (0 + 1)) = 10; omega) (by rw [List.length_append, hx]; exact sm_add _ 1) l2 (hm2.at hk) (by omega) (fun q hq => ?_) hr
          rcases List.mem_append.mp hq with w | w
          · exact hok q w
          · rw [List.mem_singleton.mp w]; exact hok2
        · rw [if_neg el, if_neg (Nat.succ_ne_zero rr), if_neg s2] at hr
          refine R_if_ne (tgt := 70) dX5_readInto_62 (by decide) (fun q => absurd q (by decide)) (fun _ => ?_)
          refine al_0 dX5_readInto_65 ?_
          refine R_getfi dX5_readInto_66 fl_RX5_29 rfl sh_84 (Nat.le_of_ble_eq_true rfl) ?_
          refine R_ireturn dX5_readInto_69 ⟨_, rfl, rfl⟩ ?_
          rw [e842]
          obtain rfl := Option.some.inj hr
          exact h0 rfl m2 hm2.1 (by dsimp only; omega)
      · refine R_iconst (v := -1) dX5_readInto_48 (by decide) ?_
        refine R_ireturn dX5_readInto_49 ⟨_, rfl, rfl⟩ ?_
        have el : s.2.1 = L := sm_inj (by omega) (by omega) (by rw [← e842, ← e84]; exact c45)
        rw [if_pos el] at hr
        obtain rfl := Option.some.inj hr
        exact h1 rfl m2 hm2 (by dsimp only; omega) (by rw [List.length_append]; show _ + (0 + 1) ≤ 10; omega) (fun q hq => by rcases List.mem_append.mp hq with w | w; exact hok q w; rw [List.mem_singleton.mp w]; exact hok2)
    · rw [if_neg (fun q => by rw [b2] at q; exact absurd q (by decide))] at hr
      obtain rfl := Option.some.inj hr
      have e842 := hm2.2.2
      refine R_if_ne (tgt := 37) dX5_readInto_29 (by decide) (fun q => absurd q (by decide)) (fun _ => ?_)
      refine al_0 dX5_readInto_32 ?_
      refine R_getfi dX5_readInto_33 fl_RX5_29 rfl sh_84 (Nat.le_of_ble_eq_true rfl) ?_
      refine R_ireturn dX5_readInto_36 ⟨_, rfl, rfl⟩ ?_
      rw [e842]
      exact h0 rfl m2 hm2 (by dsimp only; omega)

set_option maxHeartbeats 4000000 in
theorem K_readInto {G : rn_G} {d : Nat} {κ : Nat × Nat} {Q : Option Value → rn_S → Prop} {mi : Nat → Nat → Int32} {ml : Nat → Nat → Int64} {D : Nat → Nat} {T : Nat → Nat} {L k : Nat} {r : Bool × Nat × CL} (htx : TXC T L mi) (hk : PD k) (hr : txR T L 10 0 [] = some r) (h1 : r.1 = true → ∀ m, RFc mi m k r.2.1 → DC m k r.2.2 → r.2.2.length ≤ 10 → Q (some (.int (-1))) (m, ml, RF (ud D 84 k), 164)) (h0 : r.1 = false → ∀ m, RFc mi m k r.2.1 → r.2.1 ≤ 100 → Q (some (.int (nI r.2.1))) (m, ml, RF (ud D 84 k), 164)) : Call G (d + 22) M_X5_readInto [.ref 84, .ref k] (mi, ml, RF D, 164) κ Q := by
  show Run G _ M_X5_readInto 0 [.ref 84, .ref k, .null] [] _ _ _
  refine al_0 dX5_readInto_0 ?_
  refine al_1 dX5_readInto_1 ?_
  refine R_putfr dX5_readInto_2 fl_RX5_18 rfl (Or.inl rfl) sh_84 (Nat.le_of_ble_eq_true rfl) ?_
  rw [rf_ud84]
  refine al_0 dX5_readInto_5 ?_
  refine R_getfr (r := k) dX5_readInto_6 fl_RX5_18 rfl sh_84 (Nat.le_of_ble_eq_true rfl) rfl ?_
  refine cv_0 dX5_readInto_9 mm_RX5_26 (pd_s0 hk) (show k < 164 by have := pd_n hk; omega) ⟨_, rfl, rfl⟩ (Nat.le_of_ble_eq_true rfl) (Nat.le_of_ble_eq_true rfl) (K_empty hk ?_)
  obtain ⟨D2, hD2⟩ : ∃ D2, D2 = ud D 84 k := ⟨_, rfl⟩
  have eD : D2 84 = k := by rw [hD2]; exact if_pos rfl
  rw [← hD2] at h1 h0
  rw [← hD2]
  refine al_0 dX5_readInto_12 ?_
  refine R_iconst (v := 0) dX5_readInto_13 (by decide) ?_
  refine R_putfi dX5_readInto_14 fl_RX5_29 rfl (Or.inl rfl) sh_84 (Nat.le_of_ble_eq_true rfl) rfl rfl ?_
  refine R_iconst (v := 1) dX5_readInto_17 (by decide) ?_
  refine is_2 dX5_readInto_18 rfl ?_
  obtain ⟨k1, k2, -⟩ := pd_84 hk
  refine L_readInto (m0 := mi) (D := D2) htx (by rw [eD]; exact hk) (fun b m hm hz hl hok => ?_) (fun b m hm hl => ?_) 9 0 [] _ _ rfl rfl (Nat.zero_le L) ?_ (Nat.zero_le _) (fun q hq => absurd hq List.not_mem_nil) hr
  · rw [eD] at hm
    exact h1 b m hm.1 ⟨hz, hm.2.1, hm.2.2.1, hm.2.2.2.1, hm.2.2.2.2, hok⟩ hl
  · rw [eD] at hm
    exact h0 b m hm hl
  · rw [eD]
    refine ⟨⟨fun a a1 a2 a3 => by rw [rn_u_ne a3, rn_u_ne a1, rn_u_ne a1, rn_u_ne a1], fun f hf => ?_, rn_u_eq⟩, ?_, fun j v hj => absurd hj (by simp [flC]), ?_, ?_⟩
    · unfold rn_u; rw [if_neg (fun q => hf q.2), if_neg (fun q => k1 q.1.symm), if_neg (fun q => k1 q.1.symm), if_neg (fun q => k1 q.1.symm)]
    · rw [rn_u_ne k1]; simp [rn_u, flC]; rfl
    · rw [rn_u_ne k1]; simp [rn_u]; rfl
    · rw [rn_u_ne k1]; simp [rn_u]; rfl
