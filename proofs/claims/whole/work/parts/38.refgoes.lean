/-! the reference reads a text -/
def DMJ (m : Nat → Nat → Int32) (f : Nat) (cl : CL) : Prop := m 125 f = nI cl.length ∧ cl.length ≤ 10 ∧ (∀ q ∈ cl, okC q) ∧ ∀ c q, cl[c]? = some q → CLM m (100 * f) (100 * f + 100) (10 * f + c) q
theorem GS.cl {m0 m : Nat → Nat → Int32} {f p S : Nat} {a : CL} {v : Int32} (h : GS m0 m f p S a) : GS m0 (rn_u m 125 f v) f p S a := by
  obtain ⟨⟨b1, b2, b3, b4, b5⟩, h2, h3, h4, h5, h6⟩ := h
  have e : ∀ x, x ≠ 125 → rn_u m 125 f v x = m x := fun x hx => rn_u_ne hx
  refine ⟨⟨fun x x1 x2 => by rw [e x (by omega)]; exact b1 x x1 x2, fun g hg => by rw [e 116 (by decide)]; exact b2 g hg, fun j hj => by rw [rn_u_at]; dsimp only; rw [if_neg hj]; exact b3 j hj, fun j hj => by rw [e 126 (by decide), e 127 (by decide), e 128 (by decide), e 129 (by decide)]; exact b4 j hj, fun j hj => by rw [e 130 (by decide)]; exact b5 j hj⟩, by rw [e 116 (by decide)]; exact h2, by rw [e 116 (by decide)]; exact h3, h4, h5, fun c q hc => ?_⟩
  exact (h6 c q hc).fr (Nat.le_refl _) (by rw [e 126 (by decide)]) (by rw [e 127 (by decide)]) (by rw [e 128 (by decide)]) (by rw [e 129 (by decide)]) (fun j _ => by rw [e 130 (by decide)])
theorem GS.at {m0 m : Nat → Nat → Int32} {f p q S : Nat} {a : CL} (h : GS m0 m f p S a) (hq : p ≤ q) : GS m0 (rn_u m 116 19 (nI q)) f q S a := by
  obtain ⟨⟨b1, b2, b3, b4, b5⟩, h2, h3, h4, h5, h6⟩ := h
  have e : ∀ x, x ≠ 116 → rn_u m 116 19 (nI q) x = m x := fun x hx => rn_u_ne hx
  have g : ∀ x, x ≠ 19 → rn_u m 116 19 (nI q) 116 x = m 116 x := fun x hx => by simp [rn_u, hx]
  refine ⟨⟨fun x x1 x2 => by rw [e x x1]; exact b1 x x1 x2, fun x hx => by rw [g x (by omega)]; exact b2 x hx, fun j hj => by rw [e 125 (by decide)]; exact b3 j hj, fun j hj => by rw [e 126 (by decide), e 127 (by decide), e 128 (by decide), e 129 (by decide)]; exact b4 j hj, fun j hj => by rw [e 130 (by decide)]; exact b5 j hj⟩, rn_u_eq, by rw [g 29 (by decide)]; exact h3, h4, by omega, fun c q hc => ?_⟩
  exact (h6 c q hc).fr (Nat.le_refl _) (by rw [e 126 (by decide)]) (by rw [e 127 (by decide)]) (by rw [e 128 (by decide)]) (by rw [e 129 (by decide)]) (fun j _ => by rw [e 130 (by decide)])
theorem clR_okC {T : Nat → Nat} {L p : Nat} {r : Bool × Nat × (Nat × Nat × List TK)} (h : clR T L p = some r) (ht : r.1 = true) : okC r.2.2 := by
  unfold clR at h
  have hk3 : hdK (nxT T L p) ≤ 3 := by unfold hdK; (repeat' split) <;> decide
  split at h
  · cases hn : numR T L (wordR T L (wdC (hdK (nxT T L p))) p).2 with
    | none => rw [hn] at h; obtain rfl := Option.some.inj h; exact absurd ht (by simp)
    | some n =>
      rw [hn] at h
      dsimp only at h
      have hns := numR_some hn
      split at h
      · rename_i h2
        obtain rfl := Option.some.inj h
        exact ⟨hk3, hns.2.2.2, fun q => absurd q (show ¬ hdK (nxT T L p) ≤ 1 by omega)⟩
      · split at h
        · obtain ⟨s, es, h⟩ := bind_of h
          obtain rfl := Option.some.inj h
          exact ⟨hk3, hns.2.2.2, fun _ => rd_wf T L 404 3 0 _ 0 [] s (by decide) ⟨by decide, by decide⟩ rfl es ht⟩
        · obtain rfl := Option.some.inj h
          exact absurd ht (by simp)
  · obtain rfl := Option.some.inj h
    exact absurd ht (by simp)

set_option maxHeartbeats 4000000 in
theorem L_goesText {G : rn_G} {d : Nat} {κ : Nat × Nat} {Q : Option Value → rn_S → Prop} {ml : Nat → Nat → Int64} {D : Nat → Nat} {T : Nat → Nat} {L f : Nat} {m0 : Nat → Nat → Int32} {r : Bool × Nat × CL} (htx : TXM T L m0) (hlt0 : LT m0) (hf : f < 6) (h1 : r.1 = true → ∀ m, GF m0 m f → DMJ m f r.2.2 → Q (some (.int 1)) (m, ml, RF D, 164)) (h0 : r.1 = false → ∀ m, GF m0 m f → m 116 19 = nI r.2.1 → Q (some (.int 0)) (m, ml, RF D, 164)) : ∀ (rr p S : Nat) (a : CL) (y : Int32) (mi : Nat → Nat → Int32), rr + 1 + a.length = 10 → y = nI a.length → p ≤ L → GS m0 mi f p S a → (∀ q ∈ a, okC q) → txR T L (rr + 1) p a = some r → Run G (d + 6) M_X9_goesText 15 [.ref 116, .int (nI f), .int y] [] (mi, ml, RF D, 164) κ Q := by
  have hL := htx.1
  intro rr
  induction rr with
  | zero =>
    intro p S a y mi hra hy hpL hgs hok hr
    have ha10 : a.length < 10 := by omega
    obtain ⟨s, e1, q1, q2⟩ := clR_ok (T := T) hL hpL
    rw [txR, e1, Option.bind_some] at hr
    have hy10 : y + 1 = 10 := by rw [hy, show a.length = 9 by omega]; rfl
    refine al_0 dX9_goesText_15 ?_
    refine R_bipush (v := 10) dX9_goesText_16 (by decide) ?_
    refine il_1 dX9_goesText_18 ?_
    refine R_imul dX9_goesText_19 ?_
    refine il_2 dX9_goesText_20 ?_
    refine R_iadd dX9_goesText_21 ?_
    refine cv_1 dX9_goesText_22 mm_RX9_359 sh_116 (Nat.le_of_ble_eq_true rfl) ⟨_, rfl, rfl⟩ (Nat.le_of_ble_eq_true rfl) (Nat.le_of_ble_eq_true rfl) (M_takesClause htx hlt0 hpL hgs hf ha10 (by rw [hy]; exact (congrArg (· + nI a.length) (sm_mul 10 f)).trans (sm_add _ _)) e1 (fun b2 m2 S2 hm2 => ?_) (fun b2 m2 hm2 h219 => ?_))
    · rw [if_pos b2] at hr
      have hok2 := clR_okC e1 b2
      have hm3 := hm2.cl (v := nI (a.length + 1))
      have htx3 := hm3.tx htx
      have h3at := hm3.2.1
      have h3fed := htx3.2.1
      have hokA : ∀ q ∈ a ++ [s.2.2], okC q := fun q hq => by
        rcases List.mem_append.mp hq with w | w
        · exact hok q w
        · rw [List.mem_singleton.mp w]; exact hok2
      have hS2 := hm3.2.2.2.2.1
      refine R_if_ne (tgt := 30) dX9_goesText_25 (by decide) (fun _ => ?_) (fun q => absurd q (by decide))
      refine ii_2 (v := _ + 1) dX9_goesText_30 rfl (by rfl) ?_
      refine al_0 dX9_goesText_33 ?_
      refine R_getfr (r := 125) dX9_goesText_34 fl_RX9_77 rfl sh_116 (Nat.le_of_ble_eq_true rfl) rf_116_22 ?_
      refine il_1 dX9_goesText_37 ?_
      refine il_2 dX9_goesText_38 ?_
      refine R_iast dX9_goesText_39 sh_125 (Nat.le_of_ble_eq_true rfl) (rn_ixe rfl) hf ?_
      rw [hy10]
      rw [show (10 : Int32) = nI (a.length + 1) from congrArg nI (show 10 = a.length + 1 by omega)]
      refine al_0 dX9_goesText_40 ?_
      refine R_getfi dX9_goesText_41 fl_RX9_68 rfl sh_116 (Nat.le_of_ble_eq_true rfl) ?_
      refine al_0 dX9_goesText_44 ?_
      refine R_getfi dX9_goesText_45 fl_RX9_65 rfl sh_116 (Nat.le_of_ble_eq_true rfl) ?_
      refine R_icmp_ne (tgt := 53) dX9_goesText_48 (by decide) (fun c48 => ?_) (fun c48 => ?_)
      · refine il_2 dX9_goesText_53 ?_
        refine R_bipush (v := 10) dX9_goesText_54 (by decide) ?_
        refine R_icmp_eq (tgt := 68) dX9_goesText_56 (by decide) (fun c56 => ?_) (fun q => absurd q (not_not_intro (congrArg nI (show a.length + 1 = 10 by omega))))
        refine R_iconst (v := 0) dX9_goesText_68 (by decide) ?_
        refine R_ireturn dX9_goesText_69 ⟨_, rfl, rfl⟩ ?_
        have el : ¬ s.2.1 = L := fun q => c48 (by rw [h3at, h3fed, q])
        rw [if_neg el, if_pos rfl] at hr
        obtain rfl := Option.some.inj hr
        exact h0 rfl _ hm3.1 h3at
      · refine R_iconst (v := 1) dX9_goesText_51 (by decide) ?_
        refine R_ireturn dX9_goesText_52 ⟨_, rfl, rfl⟩ ?_
        have el : s.2.1 = L := sm_inj (by omega) (by omega) (by rw [← h3at, ← h3fed]; exact c48)
        rw [if_pos el] at hr
        obtain rfl := Option.some.inj hr
        refine h1 rfl _ hm3.1 ⟨?_, ?_, hokA, fun c q hc => (hm3.2.2.2.2.2 c q hc).fr (show S2 ≤ _ by omega) rfl rfl rfl rfl (fun _ _ => rfl)⟩
        · rw [List.length_append]; exact rn_u_eq
        · rw [List.length_append]; show _ + (0 + 1) ≤ 10; omega
    · rw [if_neg (fun q => by rw [b2] at q; exact absurd q (by decide))] at hr
      obtain rfl := Option.some.inj hr
      refine R_if_ne (tgt := 30) dX9_goesText_25 (by decide) (fun q => absurd q (by decide)) (fun _ => ?_)
      refine R_iconst (v := 0) dX9_goesText_28 (by decide) ?_
      refine R_ireturn dX9_goesText_29 ⟨_, rfl, rfl⟩ ?_
      exact h0 rfl m2 hm2 h219
  | succ rr ih =>
    intro p S a y mi hra hy hpL hgs hok hr
    have ha10 : a.length < 10 := by omega
    obtain ⟨s, e1, q1, q2⟩ := clR_ok (T := T) hL hpL
    rw [txR, e1, Option.bind_some] at hr
    refine al_0 dX9_goesText_15 ?_
    refine R_bipush (v := 10) dX9_goesText_16 (by decide) ?_
    refine il_1 dX9_goesText_18 ?_
    refine R_imul dX9_goesText_19 ?_
    refine il_2 dX9_goesText_20 ?_
    refine R_iadd dX9_goesText_21 ?_
    refine cv_1 dX9_goesText_22 mm_RX9_359 sh_116 (Nat.le_of_ble_eq_true rfl) ⟨_, rfl, rfl⟩ (Nat.le_of_ble_eq_true rfl) (Nat.le_of_ble_eq_true rfl) (M_takesClause htx hlt0 hpL hgs hf ha10 (by rw [hy]; exact (congrArg (· + nI a.length) (sm_mul 10 f)).trans (sm_add _ _)) e1 (fun b2 m2 S2 hm2 => ?_) (fun b2 m2 hm2 h219 => ?_))
    · rw [if_pos b2] at hr
      have hok2 := clR_okC e1 b2
      have hm3 := hm2.cl (v := nI (a.length + 1))
      have htx3 := hm3.tx htx
      have h3at := hm3.2.1
      have h3fed := htx3.2.1
      have hokA : ∀ q ∈ a ++ [s.2.2], okC q := fun q hq => by
        rcases List.mem_append.mp hq with w | w
        · exact hok q w
        · rw [List.mem_singleton.mp w]; exact hok2
      have hS2 := hm3.2.2.2.2.1
      refine R_if_ne (tgt := 30) dX9_goesText_25 (by decide) (fun _ => ?_) (fun q => absurd q (by decide))
      refine ii_2 (v := _ + 1) dX9_goesText_30 rfl (by rfl) ?_
      refine al_0 dX9_goesText_33 ?_
      refine R_getfr (r := 125) dX9_goesText_34 fl_RX9_77 rfl sh_116 (Nat.le_of_ble_eq_true rfl) rf_116_22 ?_
      refine il_1 dX9_goesText_37 ?_
      refine il_2 dX9_goesText_38 ?_
      refine R_iast dX9_goesText_39 sh_125 (Nat.le_of_ble_eq_true rfl) (rn_ixe rfl) hf ?_
      rw [show y + 1 = nI (a.length + 1) by rw [hy]; exact sm_add _ 1]
      refine al_0 dX9_goesText_40 ?_
      refine R_getfi dX9_goesText_41 fl_RX9_68 rfl sh_116 (Nat.le_of_ble_eq_true rfl) ?_
      refine al_0 dX9_goesText_44 ?_
      refine R_getfi dX9_goesText_45 fl_RX9_65 rfl sh_116 (Nat.le_of_ble_eq_true rfl) ?_
      refine R_icmp_ne (tgt := 53) dX9_goesText_48 (by decide) (fun c48 => ?_) (fun c48 => ?_)
      · have el : ¬ s.2.1 = L := fun q => c48 (by rw [h3at, h3fed, q])
        refine il_2 dX9_goesText_53 ?_
        refine R_bipush (v := 10) dX9_goesText_54 (by decide) ?_
        refine R_icmp_eq (tgt := 68) dX9_goesText_56 (by decide) (fun q => absurd q (fun q => by have := sm_inj (b := 10) (by omega) (by decide) q; omega)) (fun c56 => ?_)
        refine al_0 dX9_goesText_59 ?_
        refine R_bipush (v := 59) dX9_goesText_60 (by decide) ?_
        refine cv_1 dX9_goesText_62 mm_RX9_323 sh_116 (Nat.le_of_ble_eq_true rfl) ⟨_, rfl, rfl⟩ (Nat.le_of_ble_eq_true rfl) (Nat.le_of_ble_eq_true rfl) (M_takes htx3 h3at q2 (c := 59) rfl (by decide) (fun s2 l2 => ?_) (fun s2 => ?_))
        · rw [if_neg el, if_neg (Nat.succ_ne_zero rr), if_pos s2] at hr
          refine R_if_ne (tgt := 15) dX9_goesText_65 (by decide) (fun _ => ?_) (fun q => absurd q (by decide))
          exact ih (s.2.1 + 1) S2 (a ++ [s.2.2]) _ _ (by rw [List.length_append]; show _ + (_ + (0 + 1)) = 10; omega) (by rw [List.length_append]; rfl) l2 (hm3.at (by omega)) hokA hr
        · rw [if_neg el, if_neg (Nat.succ_ne_zero rr), if_neg s2] at hr
          refine R_if_ne (tgt := 15) dX9_goesText_65 (by decide) (fun q => absurd q (by decide)) (fun _ => ?_)
          refine R_iconst (v := 0) dX9_goesText_68 (by decide) ?_
          refine R_ireturn dX9_goesText_69 ⟨_, rfl, rfl⟩ ?_
          obtain rfl := Option.some.inj hr
          exact h0 rfl _ hm3.1 h3at
      · refine R_iconst (v := 1) dX9_goesText_51 (by decide) ?_
        refine R_ireturn dX9_goesText_52 ⟨_, rfl, rfl⟩ ?_
        have el : s.2.1 = L := sm_inj (by omega) (by omega) (by rw [← h3at, ← h3fed]; exact c48)
        rw [if_pos el] at hr
        obtain rfl := Option.some.inj hr
        refine h1 rfl _ hm3.1 ⟨?_, ?_, hokA, fun c q hc => (hm3.2.2.2.2.2 c q hc).fr (show S2 ≤ _ by omega) rfl rfl rfl rfl (fun _ _ => rfl)⟩
        · rw [List.length_append]; exact rn_u_eq
        · rw [List.length_append]; show _ + (0 + 1) ≤ 10; omega
    · rw [if_neg (fun q => by rw [b2] at q; exact absurd q (by decide))] at hr
      obtain rfl := Option.some.inj hr
      refine R_if_ne (tgt := 30) dX9_goesText_25 (by decide) (fun q => absurd q (by decide)) (fun _ => ?_)
      refine R_iconst (v := 0) dX9_goesText_28 (by decide) ?_
      refine R_ireturn dX9_goesText_29 ⟨_, rfl, rfl⟩ ?_
      exact h0 rfl m2 hm2 h219

set_option maxHeartbeats 4000000 in
theorem M_goesText {G : rn_G} {d : Nat} {κ : Nat × Nat} {Q : Option Value → rn_S → Prop} {mi : Nat → Nat → Int32} {ml : Nat → Nat → Int64} {D : Nat → Nat} {T : Nat → Nat} {L f : Nat} {r : Bool × Nat × CL} (htx : TXM T L mi) (hlt0 : LT mi) (hf : f < 6) (hr : txR T L 10 0 [] = some r) (h1 : r.1 = true → ∀ m, GF mi m f → DMJ m f r.2.2 → Q (some (.int 1)) (m, ml, RF D, 164)) (h0 : r.1 = false → ∀ m, GF mi m f → m 116 19 = nI r.2.1 → Q (some (.int 0)) (m, ml, RF D, 164)) : Call G (d + 6) M_X9_goesText [.ref 116, .int (nI f)] (mi, ml, RF D, 164) κ Q := by
  show Run G _ M_X9_goesText 0 [.ref 116, .int (nI f), .null] [] _ _ _
  refine al_0 dX9_goesText_0 ?_
  refine R_iconst (v := 0) dX9_goesText_1 (by decide) ?_
  refine R_putfi dX9_goesText_2 fl_RX9_68 rfl (Or.inl rfl) sh_116 (Nat.le_of_ble_eq_true rfl) rfl rfl ?_
  refine al_0 dX9_goesText_5 ?_
  refine R_bipush (v := 100) dX9_goesText_6 (by decide) ?_
  refine il_1 dX9_goesText_8 ?_
  refine R_imul dX9_goesText_9 ?_
  refine R_putfi dX9_goesText_10 fl_RX9_98 rfl (Or.inl rfl) sh_116 (Nat.le_of_ble_eq_true rfl) rfl rfl ?_
  refine R_iconst (v := 0) dX9_goesText_13 (by decide) ?_
  refine is_2 dX9_goesText_14 rfl ?_
  rw [show (100 : Int32) * nI f = nI (100 * f) from sm_mul 100 f]
  refine L_goesText (m0 := mi) htx hlt0 hf h1 h0 9 0 (100 * f) [] 0 _ rfl rfl (Nat.zero_le L) ⟨⟨fun x x1 _ => by rw [rn_u_ne x1, rn_u_ne x1], fun g hg => ?_, fun j _ => rfl, fun j _ => ⟨rfl, rfl, rfl, rfl⟩, fun j _ => rfl⟩, rfl, rn_u_eq, Nat.le_refl _, Nat.le_add_right _ _, fun c q hc => absurd hc (by simp)⟩ (fun q hq => absurd hq List.not_mem_nil) hr
  simp only [rn_u, true_and]
  rw [if_neg (by omega), if_neg (by omega)]
