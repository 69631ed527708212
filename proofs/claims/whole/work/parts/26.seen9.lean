/-! the reference: where one hides, what was seen -/
theorem TR.prs {m0 m M : Nat → Nat → Int32} {cl : CL} {w : WD} {i N : Nat} {P : Nat → Int32} (h : TR m0 m cl w) (hp : m 116 1 = nI N) (hN : N ≤ 6) (hi : i < N) (hf : ∀ f, f ≠ 4 → f ≠ 5 → M 116 f = m 116 f) (ha : ∀ a, a ≠ 116 → a ≠ 120 → a ≠ 121 → M a = m a) (h4 : ∀ j, j < 32 → j ≠ i → bt (M 116 4) j = bt (m 116 4) j ∧ bt (M 116 5) j = bt (m 116 5) j) (hj : ∀ j, j ≠ i → M 120 j = m 120 j ∧ M 121 j = m 121 j) (hP : ∀ f, pM M i f = P f) : TR m0 M cl (upP w i P) := by
  obtain ⟨⟨g1, g2, g3, g4⟩, e, hg⟩ := h
  have e1 : M 116 1 = m 116 1 := hf 1 (by decide) (by decide)
  refine ⟨⟨fun a a1 => (ha a (by omega) (by omega) (by omega)).trans (g1 a a1), fun f f1 => (hf f (by omega) (by omega)).trans (g2 f f1), fun f f1 => (hf _ (by omega) (by omega)).trans (g3 f f1), fun j hj => by rw [ha 135 (by decide) (by decide) (by decide), ha 136 (by decide) (by decide) (by decide), ha 137 (by decide) (by decide) (by decide)]; exact g4 j hj⟩, ?_, fun j hj h32 => ?_⟩
  · rw [← e]
    refine wM_upP hp hN hi (fun f a b _ _ => hf f a b) (ha 117 (by decide) (by decide) (by decide)) (ha 123 (by decide) (by decide) (by decide)) (fun x hx hxi => ?_) hP
    funext f
    unfold pM
    rw [bitD_of (by omega) (h4 x (by omega) hxi).1, bitD_of (by omega) (h4 x (by omega) hxi).2, ha 118 (by decide) (by decide) (by decide), ha 119 (by decide) (by decide) (by decide), ha 122 (by decide) (by decide) (by decide), (hj x hxi).1, (hj x hxi).2]
  · rw [e1, hp, nnI (by omega)] at hj
    rw [(h4 j h32 (by omega)).2]
    exact hg j (by rw [hp, nnI (by omega)]; exact hj) h32
theorem TR.p {m0 m : Nat → Nat → Int32} {cl : CL} {w : WD} {i N : Nat} (h : TR m0 m cl w) (hp : m 116 1 = nI N) (hN : N ≤ 6) (hi : i < N) : w.2.2.2 i = pM m i := by
  rw [← h.2.1, wM_p hp hN hi]
theorem bitD_clr {s : Int32} {i : Nat} (hi : i < 32) : bitD (clrB s (nI i)) (nI i) = 0 := by
  rw [bitD_bt hi, bt_clr hi hi]; simp
theorem bitD_set {s : Int32} {i : Nat} (hi : i < 32) : bitD (setB s (nI i)) (nI i) = 1 := by
  rw [bitD_bt hi, bt_set hi hi]; simp
theorem TR.put {m0 m : Nat → Nat → Int32} {cl : CL} {w : WD} {i N : Nat} {v : Int32} (h : TR m0 m cl w) (hp : m 116 1 = nI N) (hN : N ≤ 6) (hi : i < N) : TR m0 (rn_u (rn_u m 120 i v) 116 5 (clrB (m 116 5) (nI i))) cl (putW i v w) := by
  refine h.prs hp hN hi (fun f h4 h5 => by simp [rn_u, h5]) (fun a h1 h2 h3 => by rw [rn_u_ne h1, rn_u_ne h2]) (fun j hj hji => ⟨by simp [rn_u], ?_⟩) (fun j hj => ⟨by simp [rn_u, hj], by simp [rn_u]⟩) (fun f => ?_)
  · simp only [rn_u, and_self, if_true]
    rw [bt_clr (by omega) hj]; simp [hji]
  · rw [h.p hp hN hi]
    unfold pM
    by_cases h2 : f = 2
    · subst h2; simp [rn_u]
    · by_cases h5 : f = 5
      · subst h5
        simp only [rn_u, and_self, if_true]
        exact bitD_clr (by omega)
      · simp [rn_u, h2, h5]
theorem TR.call {m0 m : Nat → Nat → Int32} {cl : CL} {w : WD} {i N : Nat} (h : TR m0 m cl w) (hp : m 116 1 = nI N) (hN : N ≤ 6) (hi : i < N) : TR m0 (rn_u m 116 4 (setB (m 116 4) (nI i))) cl (callW i 1 w) := by
  refine h.prs hp hN hi (fun f h4 h5 => by simp [rn_u, h4]) (fun a h1 h2 h3 => by rw [rn_u_ne h1]) (fun j hj hji => ⟨?_, by simp [rn_u]⟩) (fun j hj => ⟨by simp [rn_u], by simp [rn_u]⟩) (fun f => ?_)
  · simp only [rn_u, and_self, if_true]
    rw [bt_set (by omega) hj]; simp [hji]
  · rw [h.p hp hN hi]
    unfold pM
    by_cases h4 : f = 4
    · subst h4
      simp only [rn_u, and_self, if_true]
      exact bitD_set (by omega)
    · by_cases h3 : f = 3
      · subst h3; simp [rn_u, show ¬ (1 : Int32) = 0 by decide]
      · simp [rn_u, h4, h3]
theorem PJ.put {P : Nat → Int32} {a : Nat} (h : PJ P) (ha : a < 30) : PJ (fun f => if f = 2 then nI a else if f = 5 then 0 else P f) := by
  obtain ⟨a1, a2, a3, a4, a5, a6, a7⟩ := h
  exact ⟨a1, a2, ⟨a, ha, rfl⟩, a4, a5, Or.inl rfl, fun j hj => by
    dsimp only
    rw [if_neg (by omega), if_neg (by omega)]; exact a7 j hj⟩
theorem PJ.call {P : Nat → Int32} {z : Int32} (h : PJ P) (hz : bz z) : PJ (fun f => if f = 4 then z else if f = 3 then (if z = 0 then 0 else P 3) else P f) := by
  obtain ⟨a1, a2, a3, a4, a5, a6, a7⟩ := h
  refine ⟨a1, a2, a3, ?_, hz, a6, fun j hj => by
    dsimp only
    rw [if_neg (by omega), if_neg (by omega)]; exact a7 j hj⟩
  dsimp only
  rw [if_neg (by decide), if_pos rfl]
  split
  · exact ⟨0, by decide, rfl⟩
  · exact a4
theorem WJ.upP {T i : Nat} {w : WD} {P : Nat → Int32} (h : WJ T w) (hP : PJ P) : WJ T (upP w i P) := by
  obtain ⟨N, P', R, hN, hP', hR, h0, h2, h4, h5, h6, h3, h7, h8, h1, hg, hr, hp⟩ := h
  refine ⟨N, P', R, hN, hP', hR, h0, h2, h4, h5, h6, h3, h7, h8, h1, hg, hr, fun x hx => ?_⟩
  show PJ (if x = i then P else w.2.2.2 x)
  split
  · exact hP
  · exact hp x hx
theorem WJ.pj {T i N : Nat} {w : WD} (h : WJ T w) (h2 : w.1 2 = nI N) (hN6 : N ≤ 6) (hi : i < N) : PJ (w.2.2.2 i) := by
  obtain ⟨_, P', _, _, hP', _, _, h2', _, _, _, _, _, _, _, _, _, hp⟩ := h
  exact hp i (by have := sm_inj (by omega) (by omega) (h2.symm.trans h2'); omega)
theorem WJ.put {T i N a : Nat} {w : WD} (h : WJ T w) (h2 : w.1 2 = nI N) (hN : N ≤ 6) (hi : i < N) (ha : a < 30) : WJ T (putW i (nI a) w) := h.upP ((h.pj h2 hN hi).put ha)
theorem WJ.call {T i N : Nat} {w : WD} {z : Int32} (h : WJ T w) (h2 : w.1 2 = nI N) (hN : N ≤ 6) (hi : i < N) (hz : bz z) : WJ T (callW i z w) := h.upP ((h.pj h2 hN hi).call hz)
def hdF (g : Nat → Int32) : Nat → Nat → Int32 → Int32
  | 0, _, x => x
  | n + 1, i, x => hdF g n (i + 1) (if g i = 0 then setB x (nI i) else x)
/-- what was seen: who, when, whether out -/
abbrev SL : Type := List (Nat × Nat × Bool)
def SLM (mi : Nat → Nat → Int32) (P : Nat) (sl : SL) : Prop := sl.length ≤ 5 ∧ mi 116 49 = nI sl.length ∧ ∀ j q, sl[j]? = some q → mi 138 j = nI q.1 ∧ mi 139 j = nI q.2.1 ∧ mi 140 j = bi q.2.2 ∧ q.1 < P ∧ q.2.1 ≤ 20
noncomputable def seenB (er : (Nat → Int32) → Int32) (w : WD) (q : Nat × Nat × Bool) : Bool := decide ((minsW er q.2.1 w).2.2.2 q.1 5 = bi q.2.2)
noncomputable def seenA (er : (Nat → Int32) → Int32) (w : WD) (sl : SL) : Bool := sl.all (seenB er w)
theorem SLM.me {mi m : Nat → Nat → Int32} {P : Nat} {sl : SL} (h : SLM mi P sl) (g : ME mi m) : SLM m P sl := by
  obtain ⟨h1, h2, h3⟩ := h
  refine ⟨h1, by rw [g.2.1 49 (by omega)]; exact h2, ?_⟩
  rw [g.1 138 (by omega), g.1 139 (by omega), g.1 140 (by omega)]
  exact h3

set_option maxHeartbeats 4000000 in
theorem M_puts {G : rn_G} {d : Nat} {κ : Nat × Nat} {Q : Option Value → rn_S → Prop} {mi : Nat → Nat → Int32} {ml : Nat → Nat → Int64} {D : Nat → Nat} {x y : Int32} {i : Nat} (hx : x = nI i) (hi : i < 6) (h : Q none (rn_u (rn_u mi 120 i y) 116 5 (clrB (mi 116 5) (nI i)), ml, RF D, 164)) : Call G (d + 1) M_X9_puts [.ref 116, .int x, .int y] (mi, ml, RF D, 164) κ Q := by
  show Run G _ M_X9_puts 0 [.ref 116, .int x, .int y] [] _ _ _
  refine al_0 dX9_puts_0 ?_
  refine R_getfr (r := 120) dX9_puts_1 fl_RX9_47 rfl sh_116 (Nat.le_of_ble_eq_true rfl) rf_116_12 ?_
  refine il_1 dX9_puts_4 ?_
  refine il_2 dX9_puts_5 ?_
  refine R_iast dX9_puts_6 sh_120 (Nat.le_of_ble_eq_true rfl) (rn_ixe hx) hi ?_
  refine al_0 dX9_puts_7 ?_
  refine al_0 dX9_puts_8 ?_
  refine al_0 dX9_puts_9 ?_
  refine R_getfi dX9_puts_10 fl_RX9_25 rfl sh_116 (Nat.le_of_ble_eq_true rfl) ?_
  refine il_1 dX9_puts_13 ?_
  refine R_iconst (v := 0) dX9_puts_14 (by decide) ?_
  refine cv_3 dX9_puts_15 mm_RX9_301 sh_116 (Nat.le_of_ble_eq_true rfl) ⟨_, rfl, rfl⟩ (Nat.le_of_ble_eq_true rfl) (Nat.le_of_ble_eq_true rfl) (M_with0 ?_)
  rw [if_pos rfl]
  refine R_putfi dX9_puts_18 fl_RX9_25 rfl (Or.inl rfl) sh_116 (Nat.le_of_ble_eq_true rfl) rfl rfl ?_
  refine R_return dX9_puts_21 rfl ?_
  rw [hx]; exact h

set_option maxHeartbeats 4000000 in
theorem L_hides9 {G : rn_G} {d : Nat} {κ : Nat × Nat} {Q : Option Value → rn_S → Prop} {mi : Nat → Nat → Int32} {ml : Nat → Nat → Int64} {D : Nat → Nat} {T : Nat} {cl : CL} {w : WD} (hB : MB mi cl w) (hw : WJ T w) (hT : T + 200 < 2 ^ 30) {P : Nat} (hpp : mi 116 1 = nI P) (hP : P ≤ 6) {i : Nat} {x : Int32} (hx : x = nI i) (hiP : i < P) (V : Int32) (h : ∀ m, ME mi m → Q (some (.int V)) (m, ml, RF D, 164)) : ∀ (n k : Nat) (y se : Int32) (m : Nat → Nat → Int32), n + k = 30 → y = nI k → ME mi m → hdF (fun n => (minsW (erA cl) 30 (putW i (nI n) w)).2.2.2 i 5) n k se = V → Run G (d + 8) M_X9_hides 14 [.ref 116, .int x, .int se, .int y] [] (m, ml, RF D, 164) κ Q := by
  have h2 : w.1 2 = nI P := by rw [← hB.2.1]; exact hpp
  intro n
  induction n with
  | zero =>
    intro k y se m hni hy hm hV
    have hV0 : se = V := hV
    have hk : k = 30 := by omega
    refine il_3 dX9_hides_14 ?_
    refine R_bipush (v := 30) dX9_hides_15 (by decide) ?_
    refine R_icmp_ge (tgt := 68) dX9_hides_17 (by decide) (fun c17 => ?_) (fun q => absurd q (not_not_intro (by rw [hy, hk]; decide)))
    refine il_2 dX9_hides_68 ?_
    refine R_ireturn dX9_hides_69 ⟨_, rfl, rfl⟩ ?_
    rw [hV0]
    exact h m hm
  | succ n ih =>
    intro k y se m hni hy hm hV
    have hBm := hB.me hw hm
    have em1 : m 116 1 = nI P := by rw [hm.2.1 1 (by omega)]; exact hpp
    unfold hdF at hV
    refine il_3 dX9_hides_14 ?_
    refine R_bipush (v := 30) dX9_hides_15 (by decide) ?_
    refine R_icmp_ge (tgt := 68) dX9_hides_17 (by decide) (fun q => absurd q (by rw [hy]; exact nI_ge (b := 30) (by omega) (by decide))) (fun c17 => ?_)
    refine al_0 dX9_hides_20 ?_
    refine cv_0 dX9_hides_21 mm_RX9_424 sh_116 (Nat.le_of_ble_eq_true rfl) ⟨_, rfl, rfl⟩ (Nat.le_of_ble_eq_true rfl) (Nat.le_of_ble_eq_true rfl) (M_save (fun ms g1 g2 g3 => ?_))
    obtain ⟨htr, gf, ga⟩ := save_tr hBm hw g1 g2 g3
    have eps : ms 116 1 = nI P := by rw [gf 1 (by omega)]; exact em1
    refine al_0 dX9_hides_24 ?_
    refine il_1 dX9_hides_25 ?_
    refine il_3 dX9_hides_26 ?_
    refine cv_2 dX9_hides_27 mm_RX9_308 sh_116 (Nat.le_of_ble_eq_true rfl) ⟨_, rfl, rfl⟩ (Nat.le_of_ble_eq_true rfl) (Nat.le_of_ble_eq_true rfl) (M_puts hx (by omega) ?_)
    have htp := htr.put (v := y) eps hP hiP
    have hwp : WJ T (putW i y w) := by rw [hy]; exact hw.put h2 hP hiP (by omega)
    refine al_0 dX9_hides_30 ?_
    refine R_bipush (v := 30) dX9_hides_31 (by decide) ?_
    refine cv_1 dX9_hides_33 mm_RX9_418 sh_116 (Nat.le_of_ble_eq_true rfl) ⟨_, rfl, rfl⟩ (Nat.le_of_ble_eq_true rfl) (Nat.le_of_ble_eq_true rfl) (M_goMinutes (T := T) (N := 30) (htp.1.cm hBm.1) (by rw [htp.2.1]; exact hwp) rfl (by omega) (fun m2 hm2 => ?_))
    have ht2 := htp.ms hm2
    have e1 : m2 116 1 = nI P := by rw [ht2.1.2.1 1 (by omega)]; exact em1
    refine il_2 dX9_hides_36 ?_
    refine al_0 dX9_hides_37 ?_
    refine al_0 dX9_hides_38 ?_
    refine R_getfi dX9_hides_39 fl_RX9_25 rfl sh_116 (Nat.le_of_ble_eq_true rfl) ?_
    refine il_1 dX9_hides_42 ?_
    refine cv_2 dX9_hides_43 mm_RX9_312 sh_116 (Nat.le_of_ble_eq_true rfl) ⟨_, rfl, rfl⟩ (Nat.le_of_ble_eq_true rfl) (Nat.le_of_ble_eq_true rfl) (M_has (fun c43 => ?_) (fun c43 => ?_))
    · refine R_if_eq (tgt := 53) dX9_hides_46 (by decide) (fun q => absurd q (by decide)) (fun _ => ?_)
      refine R_iconst (v := 0) dX9_hides_49 (by decide) ?_
      refine R_goto (tgt := 56) dX9_hides_50 (by decide) ?_
      refine R_ior dX9_hides_56 ?_
      refine is_2 dX9_hides_57 rfl ?_
      refine al_0 dX9_hides_58 ?_
      refine cv_0 dX9_hides_59 mm_RX9_427 sh_116 (Nat.le_of_ble_eq_true rfl) ⟨_, rfl, rfl⟩ (Nat.le_of_ble_eq_true rfl) (Nat.le_of_ble_eq_true rfl) (M_putBack ht2.1 hBm.2.2.2.1 hBm.2.2.2.2.1 hBm.2.2.2.2.2 (fun m3 hm3 => ?_))
      refine ii_3 (v := _ + 1) dX9_hides_62 rfl (by rfl) ?_
      refine R_goto (tgt := 14) dX9_hides_65 (by decide) ?_
      have ev : (minsW (erA cl) 30 (putW i (nI k) w)).2.2.2 i 5 = bitD (m2 116 5) x := by
        rw [← hy, ht2.p e1 hP hiP, hx]
        rfl
      rw [ev, ← hy] at hV
      refine ih (k + 1) _ _ m3 (by omega) (by rw [hy]; exact sm_add k 1) (hm.trans hm3) ?_
      first
        | (rw [if_neg (by rw [c43]; decide)] at hV; rw [Int32.or_zero]; exact hV)
        | (rw [if_pos ((bitD_01 (i := i) (by omega)).resolve_right (fun q => c43 (by rw [hx]; exact q)) |> fun q => by rw [hx]; exact q)] at hV; exact hV)
    · refine R_if_eq (tgt := 53) dX9_hides_46 (by decide) (fun _ => ?_) (fun q => absurd q (by decide))
      refine R_iconst (v := 1) dX9_hides_53 (by decide) ?_
      refine il_3 dX9_hides_54 ?_
      refine R_ishl dX9_hides_55 ?_
      refine R_ior dX9_hides_56 ?_
      refine is_2 dX9_hides_57 rfl ?_
      refine al_0 dX9_hides_58 ?_
      refine cv_0 dX9_hides_59 mm_RX9_427 sh_116 (Nat.le_of_ble_eq_true rfl) ⟨_, rfl, rfl⟩ (Nat.le_of_ble_eq_true rfl) (Nat.le_of_ble_eq_true rfl) (M_putBack ht2.1 hBm.2.2.2.1 hBm.2.2.2.2.1 hBm.2.2.2.2.2 (fun m3 hm3 => ?_))
      refine ii_3 (v := _ + 1) dX9_hides_62 rfl (by rfl) ?_
      refine R_goto (tgt := 14) dX9_hides_65 (by decide) ?_
      have ev : (minsW (erA cl) 30 (putW i (nI k) w)).2.2.2 i 5 = bitD (m2 116 5) x := by
        rw [← hy, ht2.p e1 hP hiP, hx]
        rfl
      rw [ev, ← hy] at hV
      refine ih (k + 1) _ _ m3 (by omega) (by rw [hy]; exact sm_add k 1) (hm.trans hm3) ?_
      first
        | (rw [if_neg (by rw [c43]; decide)] at hV; rw [Int32.or_zero]; exact hV)
        | (rw [if_pos ((bitD_01 (i := i) (by omega)).resolve_right (fun q => c43 (by rw [hx]; exact q)) |> fun q => by rw [hx]; exact q)] at hV; exact hV)

set_option maxHeartbeats 4000000 in
theorem M_hides {G : rn_G} {d : Nat} {κ : Nat × Nat} {Q : Option Value → rn_S → Prop} {mi : Nat → Nat → Int32} {ml : Nat → Nat → Int64} {D : Nat → Nat} {x : Int32} {T : Nat} {cl : CL} {w : WD} (hB : MB mi cl w) (hw : WJ T w) (hT : T + 200 < 2 ^ 30) {P : Nat} (hpp : mi 116 1 = nI P) (hP : P ≤ 6) (h0 : ¬ (0 ≤ x ∧ x < nI P) → Q (some (.int (-1))) (mi, ml, RF D, 164)) (h : ∀ i m, x = nI i → i < P → ME mi m → Q (some (.int (hdF (fun n => (minsW (erA cl) 30 (putW i (nI n) w)).2.2.2 i 5) 30 0 0))) (m, ml, RF D, 164)) : Call G (d + 8) M_X9_hides [.ref 116, .int x] (mi, ml, RF D, 164) κ Q := by
  show Run G _ M_X9_hides 0 [.ref 116, .int x, .null, .null] [] _ _ _
  refine al_0 dX9_hides_0 ?_
  refine il_1 dX9_hides_1 ?_
  refine cv_1 dX9_hides_2 mm_RX9_305 sh_116 (Nat.le_of_ble_eq_true rfl) ⟨_, rfl, rfl⟩ (Nat.le_of_ble_eq_true rfl) (Nat.le_of_ble_eq_true rfl) (M_isPerson (fun c2 => ?_) (fun c2 => ?_) ⟨P, hP, hpp⟩)
  · refine R_if_ne (tgt := 10) dX9_hides_5 (by decide) (fun _ => ?_) (fun q => absurd q (by decide))
    refine R_iconst (v := 0) dX9_hides_10 (by decide) ?_
    refine is_2 dX9_hides_11 rfl ?_
    refine R_iconst (v := 0) dX9_hides_12 (by decide) ?_
    refine is_3 dX9_hides_13 rfl ?_
    obtain ⟨i, hiP, hx⟩ := sm_of c2.1 (by rw [← hpp]; exact c2.2) (by omega)
    exact L_hides9 hB hw hT hpp hP hx hiP _ (fun m hm => h i m hx hiP hm) 30 0 0 0 mi (by omega) nI_0.symm (ME.refl mi) rfl
  · refine R_if_ne (tgt := 10) dX9_hides_5 (by decide) (fun q => absurd q (by decide)) (fun _ => ?_)
    refine R_iconst (v := -1) dX9_hides_8 (by decide) ?_
    refine R_ireturn dX9_hides_9 ⟨_, rfl, rfl⟩ ?_
    exact h0 (fun q => c2 (by rw [hpp]; exact q))

set_option maxHeartbeats 4000000 in
theorem L_isSeen {G : rn_G} {d : Nat} {κ : Nat × Nat} {Q : Option Value → rn_S → Prop} {mi : Nat → Nat → Int32} {ml : Nat → Nat → Int64} {D : Nat → Nat} {T : Nat} {cl : CL} {w : WD} (hB : MB mi cl w) (hw : WJ T w) (hT : T + 200 < 2 ^ 30) {P : Nat} (hpp : mi 116 1 = nI P) (hP : P ≤ 6) {i L : Nat} {x y : Int32} (hx : x = nI i) (hiP : i < P) (hwp : WJ T (if 0 ≤ y then putW i y w else w)) (hL : L ≤ 5) (hc : mi 116 49 = nI L) (V : Bool) (h : ∀ m, ME mi m → Q (some (.int (bi V))) (m, ml, RF D, 164)) : ∀ (sl : SL) (k : Nat) (b c : Int32) (m : Nat → Nat → Int32), k + sl.length = L → c = nI k → ME mi m → (∀ j q, sl[j]? = some q → mi 138 (k + j) = nI q.1 ∧ mi 139 (k + j) = nI q.2.1 ∧ mi 140 (k + j) = bi q.2.2 ∧ q.1 < P ∧ q.2.1 ≤ 20) → ((b = 1 ∧ seenA (erA cl) (if 0 ≤ y then putW i y w else w) sl = V) ∨ (b = 0 ∧ V = false)) → Run G (d + 8) M_X9_isSeen 5 [.ref 116, .int x, .int y, .int b, .int c] [] (m, ml, RF D, 164) κ Q := by
  intro sl
  induction sl with
  | nil =>
    intro k b c m hni hk hm hs hV
    have hV0 : b = bi V := by
      rcases hV with ⟨e, q⟩ | ⟨e, q⟩
      · rw [e, ← q]; rfl
      · rw [e, q]; rfl
    have ec : m 116 49 = nI L := by rw [hm.2.1 49 (by omega)]; exact hc
    rw [List.length_nil] at hni
    refine il_4 dX9_isSeen_5 ?_
    refine al_0 dX9_isSeen_7 ?_
    refine R_getfi dX9_isSeen_8 fl_RX9_159 rfl sh_116 (Nat.le_of_ble_eq_true rfl) ?_
    refine R_icmp_ge (tgt := 84) dX9_isSeen_11 (by decide) (fun c11 => ?_) (fun q => absurd q (not_not_intro (by rw [ec, hk]; exact nI_le (by omega) (by omega))))
    refine il_3 dX9_isSeen_84 ?_
    refine R_ireturn dX9_isSeen_85 ⟨_, rfl, (by rw [hV0]; cases V <;> rfl)⟩ ?_
    rw [hV0]
    exact h m hm
  | cons q sl ih =>
    intro k b c m hni hk hm hs hV
    rw [List.length_cons] at hni
    have hBm := hB.me hw hm
    have em1 : m 116 1 = nI P := by rw [hm.2.1 1 (by omega)]; exact hpp
    have ec : m 116 49 = nI L := by rw [hm.2.1 49 (by omega)]; exact hc
    obtain ⟨eq1, eq2, eq3, hq1, hq2⟩ := hs 0 q rfl
    rw [Nat.add_zero, ← hm.1 138 (by omega)] at eq1
    rw [Nat.add_zero, ← hm.1 139 (by omega)] at eq2
    rw [Nat.add_zero, ← hm.1 140 (by omega)] at eq3
    have hk5 : k < 5 := by omega
    have hs2 : ∀ j u, sl[j]? = some u → mi 138 (k + 1 + j) = nI u.1 ∧ mi 139 (k + 1 + j) = nI u.2.1 ∧ mi 140 (k + 1 + j) = bi u.2.2 ∧ u.1 < P ∧ u.2.1 ≤ 20 := fun j u hj => by rw [show k + 1 + j = k + (j + 1) by omega]; exact hs (j + 1) u hj
    refine il_4 dX9_isSeen_5 ?_
    refine al_0 dX9_isSeen_7 ?_
    refine R_getfi dX9_isSeen_8 fl_RX9_159 rfl sh_116 (Nat.le_of_ble_eq_true rfl) ?_
    refine R_icmp_ge (tgt := 84) dX9_isSeen_11 (by decide) (fun q => absurd q (by rw [ec, hk]; exact nI_ge (by omega) (by omega))) (fun c11 => ?_)
    refine il_3 dX9_isSeen_14 ?_
    refine R_if_eq (tgt := 84) dX9_isSeen_15 (by decide) (fun c15 => ?_) (fun c15 => ?_)
    · refine il_3 dX9_isSeen_84 ?_
      refine R_ireturn dX9_isSeen_85 ⟨_, rfl, (by rcases hV with ⟨e, _⟩ | ⟨e, _⟩ <;> rw [e] <;> rfl)⟩ ?_
      rcases hV with ⟨e, _⟩ | ⟨e, q⟩
      · exact absurd e (by rw [c15]; decide)
      · have hV0 : b = bi V := by rw [e, q]; rfl
        rw [hV0]
        exact h m hm
    · refine al_0 dX9_isSeen_18 ?_
      refine cv_0 dX9_isSeen_19 mm_RX9_424 sh_116 (Nat.le_of_ble_eq_true rfl) ⟨_, rfl, rfl⟩ (Nat.le_of_ble_eq_true rfl) (Nat.le_of_ble_eq_true rfl) (M_save (fun ms g1 g2 g3 => ?_))
      obtain ⟨htr, gf, ga⟩ := save_tr hBm hw g1 g2 g3
      have eps : ms 116 1 = nI P := by rw [gf 1 (by omega)]; exact em1
      refine il_2 dX9_isSeen_22 ?_
      refine R_if_lt (tgt := 32) dX9_isSeen_23 (by decide) (fun c23 => ?_) (fun c23 => ?_)
      · obtain ⟨mt, hmt⟩ : ∃ mt, mt = (if 0 ≤ y then rn_u (rn_u ms 120 i y) 116 5 (clrB (ms 116 5) (nI i)) else ms) := ⟨_, rfl⟩
        have htp : TR m mt cl (if 0 ≤ y then putW i y w else w) := by
          rw [hmt]
          by_cases hy0 : 0 ≤ y
          · rw [if_pos hy0, if_pos hy0]; exact htr.put eps hP hiP
          · rw [if_neg hy0, if_neg hy0]; exact htr
        first | rw [if_pos (show 0 ≤ y by first | exact c23 | exact Int32.not_lt.mp c23)] at hmt | rw [if_neg (show ¬ 0 ≤ y by first | exact c23 | exact Int32.not_le.mpr c23)] at hmt
        rw [← hmt]
        refine al_0 dX9_isSeen_32 ?_
        refine al_0 dX9_isSeen_33 ?_
        refine R_getfr (r := 139) dX9_isSeen_34 fl_RX9_165 rfl sh_116 (Nat.le_of_ble_eq_true rfl) rf_116_51 ?_
        refine il_4 dX9_isSeen_37 ?_
        refine R_iald dX9_isSeen_39 sh_139 (Nat.le_of_ble_eq_true rfl) (rn_ixe hk) hk5 ?_
        refine cv_1 dX9_isSeen_40 mm_RX9_418 sh_116 (Nat.le_of_ble_eq_true rfl) ⟨_, rfl, rfl⟩ (Nat.le_of_ble_eq_true rfl) (Nat.le_of_ble_eq_true rfl) (M_goMinutes (T := T) (N := q.2.1) (htp.1.cm hBm.1) (by rw [htp.2.1]; exact hwp) (htp.1.1 139 (by omega) ▸ eq2) (by omega) (fun m2 hm2 => ?_))
        have ht2 := htp.ms hm2
        have e1 : m2 116 1 = nI P := by rw [ht2.1.2.1 1 (by omega)]; exact em1
        have e138 : m2 138 k = nI q.1 := by rw [ht2.1.1 138 (by omega)]; exact eq1
        have e140 : m2 140 k = bi q.2.2 := by rw [ht2.1.1 140 (by omega)]; exact eq3
        refine al_0 dX9_isSeen_43 ?_
        refine al_0 dX9_isSeen_44 ?_
        refine R_getfi dX9_isSeen_45 fl_RX9_25 rfl sh_116 (Nat.le_of_ble_eq_true rfl) ?_
        refine al_0 dX9_isSeen_48 ?_
        refine R_getfr (r := 138) dX9_isSeen_49 fl_RX9_162 rfl sh_116 (Nat.le_of_ble_eq_true rfl) rf_116_50 ?_
        refine il_4 dX9_isSeen_52 ?_
        refine R_iald dX9_isSeen_54 sh_138 (Nat.le_of_ble_eq_true rfl) (rn_ixe hk) hk5 ?_
        refine cv_2 dX9_isSeen_55 mm_RX9_312 sh_116 (Nat.le_of_ble_eq_true rfl) ⟨_, rfl, rfl⟩ (Nat.le_of_ble_eq_true rfl) (Nat.le_of_ble_eq_true rfl) (M_has (fun c55 => ?_) (fun c55 => ?_))
        · refine al_0 dX9_isSeen_58 ?_
          refine R_getfr (r := 140) dX9_isSeen_59 fl_RX9_168 rfl sh_116 (Nat.le_of_ble_eq_true rfl) rf_116_52 ?_
          refine il_4 dX9_isSeen_62 ?_
          refine R_zald dX9_isSeen_64 sh_140 (Nat.le_of_ble_eq_true rfl) (rn_ixe hk) hk5 ?_
          refine R_icmp_ne (tgt := 72) dX9_isSeen_65 (by decide) (fun c65 => ?_) (fun c65 => ?_)
          · refine R_iconst (v := 0) dX9_isSeen_72 (by decide) ?_
            refine is_3 dX9_isSeen_73 rfl ?_
            refine al_0 dX9_isSeen_74 ?_
            refine cv_0 dX9_isSeen_75 mm_RX9_427 sh_116 (Nat.le_of_ble_eq_true rfl) ⟨_, rfl, rfl⟩ (Nat.le_of_ble_eq_true rfl) (Nat.le_of_ble_eq_true rfl) (M_putBack ht2.1 hBm.2.2.2.1 hBm.2.2.2.2.1 hBm.2.2.2.2.2 (fun m3 hm3 => ?_))
            refine ii_4 (v := _ + 1) dX9_isSeen_78 rfl (by rfl) ?_
            refine R_goto (tgt := 5) dX9_isSeen_81 (by decide) ?_
            have hb1 : b = 1 := by
              rcases hV with ⟨e, _⟩ | ⟨e, _⟩
              · exact e
              · exact absurd e c15
            have hVa : seenA (erA cl) (if 0 ≤ y then putW i y w else w) (q :: sl) = V := by
              rcases hV with ⟨_, e⟩ | ⟨e, _⟩
              · exact e
              · exact absurd e c15
            have ev : (minsW (erA cl) q.2.1 (if 0 ≤ y then putW i y w else w)).2.2.2 q.1 5 = bitD (m2 116 5) (m2 138 k) := by
              rw [ht2.p e1 hP hq1, e138]
              rfl
            have hsb : seenB (erA cl) (if 0 ≤ y then putW i y w else w) q = decide (bitD (m2 116 5) (m2 138 k) = m2 140 k) := by unfold seenB; rw [ev, e140]
            have hcons : seenA (erA cl) (if 0 ≤ y then putW i y w else w) (q :: sl) = (seenB (erA cl) (if 0 ≤ y then putW i y w else w) q && seenA (erA cl) (if 0 ≤ y then putW i y w else w) sl) := rfl
            rw [hcons, hsb] at hVa
            have b01 := bitD_01 (s := m2 116 5) (i := q.1) (by omega)
            rw [← e138] at b01
            refine ih (k + 1) _ _ m3 (by omega) (by rw [hk]; exact sm_add k 1) (hm.trans hm3) hs2 ?_
            first
              | (rw [c55, decide_eq_true c65, Bool.true_and] at hVa; exact Or.inl ⟨rfl, hVa⟩)
              | (rw [c55, decide_eq_false c65, Bool.false_and] at hVa; exact Or.inr ⟨rfl, hVa.symm⟩)
              | (rw [b01.resolve_right c55, decide_eq_true c65, Bool.true_and] at hVa; exact Or.inl ⟨rfl, hVa⟩)
              | (rw [b01.resolve_right c55, decide_eq_false c65, Bool.false_and] at hVa; exact Or.inr ⟨rfl, hVa.symm⟩)
          · refine R_iconst (v := 1) dX9_isSeen_68 (by decide) ?_
            refine R_goto (tgt := 73) dX9_isSeen_69 (by decide) ?_
            refine is_3 dX9_isSeen_73 rfl ?_
            refine al_0 dX9_isSeen_74 ?_
            refine cv_0 dX9_isSeen_75 mm_RX9_427 sh_116 (Nat.le_of_ble_eq_true rfl) ⟨_, rfl, rfl⟩ (Nat.le_of_ble_eq_true rfl) (Nat.le_of_ble_eq_true rfl) (M_putBack ht2.1 hBm.2.2.2.1 hBm.2.2.2.2.1 hBm.2.2.2.2.2 (fun m3 hm3 => ?_))
            refine ii_4 (v := _ + 1) dX9_isSeen_78 rfl (by rfl) ?_
            refine R_goto (tgt := 5) dX9_isSeen_81 (by decide) ?_
            have hb1 : b = 1 := by
              rcases hV with ⟨e, _⟩ | ⟨e, _⟩
              · exact e
              · exact absurd e c15
            have hVa : seenA (erA cl) (if 0 ≤ y then putW i y w else w) (q :: sl) = V := by
              rcases hV with ⟨_, e⟩ | ⟨e, _⟩
              · exact e
              · exact absurd e c15
            have ev : (minsW (erA cl) q.2.1 (if 0 ≤ y then putW i y w else w)).2.2.2 q.1 5 = bitD (m2 116 5) (m2 138 k) := by
              rw [ht2.p e1 hP hq1, e138]
              rfl
            have hsb : seenB (erA cl) (if 0 ≤ y then putW i y w else w) q = decide (bitD (m2 116 5) (m2 138 k) = m2 140 k) := by unfold seenB; rw [ev, e140]
            have hcons : seenA (erA cl) (if 0 ≤ y then putW i y w else w) (q :: sl) = (seenB (erA cl) (if 0 ≤ y then putW i y w else w) q && seenA (erA cl) (if 0 ≤ y then putW i y w else w) sl) := rfl
            rw [hcons, hsb] at hVa
            have b01 := bitD_01 (s := m2 116 5) (i := q.1) (by omega)
            rw [← e138] at b01
            refine ih (k + 1) _ _ m3 (by omega) (by rw [hk]; exact sm_add k 1) (hm.trans hm3) hs2 ?_
            first
              | (rw [c55, decide_eq_true c65, Bool.true_and] at hVa; exact Or.inl ⟨rfl, hVa⟩)
              | (rw [c55, decide_eq_false c65, Bool.false_and] at hVa; exact Or.inr ⟨rfl, hVa.symm⟩)
              | (rw [b01.resolve_right c55, decide_eq_true c65, Bool.true_and] at hVa; exact Or.inl ⟨rfl, hVa⟩)
              | (rw [b01.resolve_right c55, decide_eq_false c65, Bool.false_and] at hVa; exact Or.inr ⟨rfl, hVa.symm⟩)
        · refine al_0 dX9_isSeen_58 ?_
          refine R_getfr (r := 140) dX9_isSeen_59 fl_RX9_168 rfl sh_116 (Nat.le_of_ble_eq_true rfl) rf_116_52 ?_
          refine il_4 dX9_isSeen_62 ?_
          refine R_zald dX9_isSeen_64 sh_140 (Nat.le_of_ble_eq_true rfl) (rn_ixe hk) hk5 ?_
          refine R_icmp_ne (tgt := 72) dX9_isSeen_65 (by decide) (fun c65 => ?_) (fun c65 => ?_)
          · refine R_iconst (v := 0) dX9_isSeen_72 (by decide) ?_
            refine is_3 dX9_isSeen_73 rfl ?_
            refine al_0 dX9_isSeen_74 ?_
            refine cv_0 dX9_isSeen_75 mm_RX9_427 sh_116 (Nat.le_of_ble_eq_true rfl) ⟨_, rfl, rfl⟩ (Nat.le_of_ble_eq_true rfl) (Nat.le_of_ble_eq_true rfl) (M_putBack ht2.1 hBm.2.2.2.1 hBm.2.2.2.2.1 hBm.2.2.2.2.2 (fun m3 hm3 => ?_))
            refine ii_4 (v := _ + 1) dX9_isSeen_78 rfl (by rfl) ?_
            refine R_goto (tgt := 5) dX9_isSeen_81 (by decide) ?_
            have hb1 : b = 1 := by
              rcases hV with ⟨e, _⟩ | ⟨e, _⟩
              · exact e
              · exact absurd e c15
            have hVa : seenA (erA cl) (if 0 ≤ y then putW i y w else w) (q :: sl) = V := by
              rcases hV with ⟨_, e⟩ | ⟨e, _⟩
              · exact e
              · exact absurd e c15
            have ev : (minsW (erA cl) q.2.1 (if 0 ≤ y then putW i y w else w)).2.2.2 q.1 5 = bitD (m2 116 5) (m2 138 k) := by
              rw [ht2.p e1 hP hq1, e138]
              rfl
            have hsb : seenB (erA cl) (if 0 ≤ y then putW i y w else w) q = decide (bitD (m2 116 5) (m2 138 k) = m2 140 k) := by unfold seenB; rw [ev, e140]
            have hcons : seenA (erA cl) (if 0 ≤ y then putW i y w else w) (q :: sl) = (seenB (erA cl) (if 0 ≤ y then putW i y w else w) q && seenA (erA cl) (if 0 ≤ y then putW i y w else w) sl) := rfl
            rw [hcons, hsb] at hVa
            have b01 := bitD_01 (s := m2 116 5) (i := q.1) (by omega)
            rw [← e138] at b01
            refine ih (k + 1) _ _ m3 (by omega) (by rw [hk]; exact sm_add k 1) (hm.trans hm3) hs2 ?_
            first
              | (rw [c55, decide_eq_true c65, Bool.true_and] at hVa; exact Or.inl ⟨rfl, hVa⟩)
              | (rw [c55, decide_eq_false c65, Bool.false_and] at hVa; exact Or.inr ⟨rfl, hVa.symm⟩)
              | (rw [b01.resolve_right c55, decide_eq_true c65, Bool.true_and] at hVa; exact Or.inl ⟨rfl, hVa⟩)
              | (rw [b01.resolve_right c55, decide_eq_false c65, Bool.false_and] at hVa; exact Or.inr ⟨rfl, hVa.symm⟩)
          · refine R_iconst (v := 1) dX9_isSeen_68 (by decide) ?_
            refine R_goto (tgt := 73) dX9_isSeen_69 (by decide) ?_
            refine is_3 dX9_isSeen_73 rfl ?_
            refine al_0 dX9_isSeen_74 ?_
            refine cv_0 dX9_isSeen_75 mm_RX9_427 sh_116 (Nat.le_of_ble_eq_true rfl) ⟨_, rfl, rfl⟩ (Nat.le_of_ble_eq_true rfl) (Nat.le_of_ble_eq_true rfl) (M_putBack ht2.1 hBm.2.2.2.1 hBm.2.2.2.2.1 hBm.2.2.2.2.2 (fun m3 hm3 => ?_))
            refine ii_4 (v := _ + 1) dX9_isSeen_78 rfl (by rfl) ?_
            refine R_goto (tgt := 5) dX9_isSeen_81 (by decide) ?_
            have hb1 : b = 1 := by
              rcases hV with ⟨e, _⟩ | ⟨e, _⟩
              · exact e
              · exact absurd e c15
            have hVa : seenA (erA cl) (if 0 ≤ y then putW i y w else w) (q :: sl) = V := by
              rcases hV with ⟨_, e⟩ | ⟨e, _⟩
              · exact e
              · exact absurd e c15
            have ev : (minsW (erA cl) q.2.1 (if 0 ≤ y then putW i y w else w)).2.2.2 q.1 5 = bitD (m2 116 5) (m2 138 k) := by
              rw [ht2.p e1 hP hq1, e138]
              rfl
            have hsb : seenB (erA cl) (if 0 ≤ y then putW i y w else w) q = decide (bitD (m2 116 5) (m2 138 k) = m2 140 k) := by unfold seenB; rw [ev, e140]
            have hcons : seenA (erA cl) (if 0 ≤ y then putW i y w else w) (q :: sl) = (seenB (erA cl) (if 0 ≤ y then putW i y w else w) q && seenA (erA cl) (if 0 ≤ y then putW i y w else w) sl) := rfl
            rw [hcons, hsb] at hVa
            have b01 := bitD_01 (s := m2 116 5) (i := q.1) (by omega)
            rw [← e138] at b01
            refine ih (k + 1) _ _ m3 (by omega) (by rw [hk]; exact sm_add k 1) (hm.trans hm3) hs2 ?_
            first
              | (rw [c55, decide_eq_true c65, Bool.true_and] at hVa; exact Or.inl ⟨rfl, hVa⟩)
              | (rw [c55, decide_eq_false c65, Bool.false_and] at hVa; exact Or.inr ⟨rfl, hVa.symm⟩)
              | (rw [b01.resolve_right c55, decide_eq_true c65, Bool.true_and] at hVa; exact Or.inl ⟨rfl, hVa⟩)
              | (rw [b01.resolve_right c55, decide_eq_false c65, Bool.false_and] at hVa; exact Or.inr ⟨rfl, hVa.symm⟩)
      · refine al_0 dX9_isSeen_26 ?_
        refine il_1 dX9_isSeen_27 ?_
        refine il_2 dX9_isSeen_28 ?_
        refine cv_2 dX9_isSeen_29 mm_RX9_308 sh_116 (Nat.le_of_ble_eq_true rfl) ⟨_, rfl, rfl⟩ (Nat.le_of_ble_eq_true rfl) (Nat.le_of_ble_eq_true rfl) (M_puts hx (by omega) ?_)
        obtain ⟨mt, hmt⟩ : ∃ mt, mt = (if 0 ≤ y then rn_u (rn_u ms 120 i y) 116 5 (clrB (ms 116 5) (nI i)) else ms) := ⟨_, rfl⟩
        have htp : TR m mt cl (if 0 ≤ y then putW i y w else w) := by
          rw [hmt]
          by_cases hy0 : 0 ≤ y
          · rw [if_pos hy0, if_pos hy0]; exact htr.put eps hP hiP
          · rw [if_neg hy0, if_neg hy0]; exact htr
        first | rw [if_pos (show 0 ≤ y by first | exact c23 | exact Int32.not_lt.mp c23)] at hmt | rw [if_neg (show ¬ 0 ≤ y by first | exact c23 | exact Int32.not_le.mpr c23)] at hmt
        rw [← hmt]
        refine al_0 dX9_isSeen_32 ?_
        refine al_0 dX9_isSeen_33 ?_
        refine R_getfr (r := 139) dX9_isSeen_34 fl_RX9_165 rfl sh_116 (Nat.le_of_ble_eq_true rfl) rf_116_51 ?_
        refine il_4 dX9_isSeen_37 ?_
        refine R_iald dX9_isSeen_39 sh_139 (Nat.le_of_ble_eq_true rfl) (rn_ixe hk) hk5 ?_
        refine cv_1 dX9_isSeen_40 mm_RX9_418 sh_116 (Nat.le_of_ble_eq_true rfl) ⟨_, rfl, rfl⟩ (Nat.le_of_ble_eq_true rfl) (Nat.le_of_ble_eq_true rfl) (M_goMinutes (T := T) (N := q.2.1) (htp.1.cm hBm.1) (by rw [htp.2.1]; exact hwp) (htp.1.1 139 (by omega) ▸ eq2) (by omega) (fun m2 hm2 => ?_))
        have ht2 := htp.ms hm2
        have e1 : m2 116 1 = nI P := by rw [ht2.1.2.1 1 (by omega)]; exact em1
        have e138 : m2 138 k = nI q.1 := by rw [ht2.1.1 138 (by omega)]; exact eq1
        have e140 : m2 140 k = bi q.2.2 := by rw [ht2.1.1 140 (by omega)]; exact eq3
        refine al_0 dX9_isSeen_43 ?_
        refine al_0 dX9_isSeen_44 ?_
        refine R_getfi dX9_isSeen_45 fl_RX9_25 rfl sh_116 (Nat.le_of_ble_eq_true rfl) ?_
        refine al_0 dX9_isSeen_48 ?_
        refine R_getfr (r := 138) dX9_isSeen_49 fl_RX9_162 rfl sh_116 (Nat.le_of_ble_eq_true rfl) rf_116_50 ?_
        refine il_4 dX9_isSeen_52 ?_
        refine R_iald dX9_isSeen_54 sh_138 (Nat.le_of_ble_eq_true rfl) (rn_ixe hk) hk5 ?_
        refine cv_2 dX9_isSeen_55 mm_RX9_312 sh_116 (Nat.le_of_ble_eq_true rfl) ⟨_, rfl, rfl⟩ (Nat.le_of_ble_eq_true rfl) (Nat.le_of_ble_eq_true rfl) (M_has (fun c55 => ?_) (fun c55 => ?_))
        · refine al_0 dX9_isSeen_58 ?_
          refine R_getfr (r := 140) dX9_isSeen_59 fl_RX9_168 rfl sh_116 (Nat.le_of_ble_eq_true rfl) rf_116_52 ?_
          refine il_4 dX9_isSeen_62 ?_
          refine R_zald dX9_isSeen_64 sh_140 (Nat.le_of_ble_eq_true rfl) (rn_ixe hk) hk5 ?_
          refine R_icmp_ne (tgt := 72) dX9_isSeen_65 (by decide) (fun c65 => ?_) (fun c65 => ?_)
          · refine R_iconst (v := 0) dX9_isSeen_72 (by decide) ?_
            refine is_3 dX9_isSeen_73 rfl ?_
            refine al_0 dX9_isSeen_74 ?_
            refine cv_0 dX9_isSeen_75 mm_RX9_427 sh_116 (Nat.le_of_ble_eq_true rfl) ⟨_, rfl, rfl⟩ (Nat.le_of_ble_eq_true rfl) (Nat.le_of_ble_eq_true rfl) (M_putBack ht2.1 hBm.2.2.2.1 hBm.2.2.2.2.1 hBm.2.2.2.2.2 (fun m3 hm3 => ?_))
            refine ii_4 (v := _ + 1) dX9_isSeen_78 rfl (by rfl) ?_
            refine R_goto (tgt := 5) dX9_isSeen_81 (by decide) ?_
            have hb1 : b = 1 := by
              rcases hV with ⟨e, _⟩ | ⟨e, _⟩
              · exact e
              · exact absurd e c15
            have hVa : seenA (erA cl) (if 0 ≤ y then putW i y w else w) (q :: sl) = V := by
              rcases hV with ⟨_, e⟩ | ⟨e, _⟩
              · exact e
              · exact absurd e c15
            have ev : (minsW (erA cl) q.2.1 (if 0 ≤ y then putW i y w else w)).2.2.2 q.1 5 = bitD (m2 116 5) (m2 138 k) := by
              rw [ht2.p e1 hP hq1, e138]
              rfl
            have hsb : seenB (erA cl) (if 0 ≤ y then putW i y w else w) q = decide (bitD (m2 116 5) (m2 138 k) = m2 140 k) := by unfold seenB; rw [ev, e140]
            have hcons : seenA (erA cl) (if 0 ≤ y then putW i y w else w) (q :: sl) = (seenB (erA cl) (if 0 ≤ y then putW i y w else w) q && seenA (erA cl) (if 0 ≤ y then putW i y w else w) sl) := rfl
            rw [hcons, hsb] at hVa
            have b01 := bitD_01 (s := m2 116 5) (i := q.1) (by omega)
            rw [← e138] at b01
            refine ih (k + 1) _ _ m3 (by omega) (by rw [hk]; exact sm_add k 1) (hm.trans hm3) hs2 ?_
            first
              | (rw [c55, decide_eq_true c65, Bool.true_and] at hVa; exact Or.inl ⟨rfl, hVa⟩)
              | (rw [c55, decide_eq_false c65, Bool.false_and] at hVa; exact Or.inr ⟨rfl, hVa.symm⟩)
              | (rw [b01.resolve_right c55, decide_eq_true c65, Bool.true_and] at hVa; exact Or.inl ⟨rfl, hVa⟩)
              | (rw [b01.resolve_right c55, decide_eq_false c65, Bool.false_and] at hVa; exact Or.inr ⟨rfl, hVa.symm⟩)
          · refine R_iconst (v := 1) dX9_isSeen_68 (by decide) ?_
            refine R_goto (tgt := 73) dX9_isSeen_69 (by decide) ?_
            refine is_3 dX9_isSeen_73 rfl ?_
            refine al_0 dX9_isSeen_74 ?_
            refine cv_0 dX9_isSeen_75 mm_RX9_427 sh_116 (Nat.le_of_ble_eq_true rfl) ⟨_, rfl, rfl⟩ (Nat.le_of_ble_eq_true rfl) (Nat.le_of_ble_eq_true rfl) (M_putBack ht2.1 hBm.2.2.2.1 hBm.2.2.2.2.1 hBm.2.2.2.2.2 (fun m3 hm3 => ?_))
            refine ii_4 (v := _ + 1) dX9_isSeen_78 rfl (by rfl) ?_
            refine R_goto (tgt := 5) dX9_isSeen_81 (by decide) ?_
            have hb1 : b = 1 := by
              rcases hV with ⟨e, _⟩ | ⟨e, _⟩
              · exact e
              · exact absurd e c15
            have hVa : seenA (erA cl) (if 0 ≤ y then putW i y w else w) (q :: sl) = V := by
              rcases hV with ⟨_, e⟩ | ⟨e, _⟩
              · exact e
              · exact absurd e c15
            have ev : (minsW (erA cl) q.2.1 (if 0 ≤ y then putW i y w else w)).2.2.2 q.1 5 = bitD (m2 116 5) (m2 138 k) := by
              rw [ht2.p e1 hP hq1, e138]
              rfl
            have hsb : seenB (erA cl) (if 0 ≤ y then putW i y w else w) q = decide (bitD (m2 116 5) (m2 138 k) = m2 140 k) := by unfold seenB; rw [ev, e140]
            have hcons : seenA (erA cl) (if 0 ≤ y then putW i y w else w) (q :: sl) = (seenB (erA cl) (if 0 ≤ y then putW i y w else w) q && seenA (erA cl) (if 0 ≤ y then putW i y w else w) sl) := rfl
            rw [hcons, hsb] at hVa
            have b01 := bitD_01 (s := m2 116 5) (i := q.1) (by omega)
            rw [← e138] at b01
            refine ih (k + 1) _ _ m3 (by omega) (by rw [hk]; exact sm_add k 1) (hm.trans hm3) hs2 ?_
            first
              | (rw [c55, decide_eq_true c65, Bool.true_and] at hVa; exact Or.inl ⟨rfl, hVa⟩)
              | (rw [c55, decide_eq_false c65, Bool.false_and] at hVa; exact Or.inr ⟨rfl, hVa.symm⟩)
              | (rw [b01.resolve_right c55, decide_eq_true c65, Bool.true_and] at hVa; exact Or.inl ⟨rfl, hVa⟩)
              | (rw [b01.resolve_right c55, decide_eq_false c65, Bool.false_and] at hVa; exact Or.inr ⟨rfl, hVa.symm⟩)
        · refine al_0 dX9_isSeen_58 ?_
          refine R_getfr (r := 140) dX9_isSeen_59 fl_RX9_168 rfl sh_116 (Nat.le_of_ble_eq_true rfl) rf_116_52 ?_
          refine il_4 dX9_isSeen_62 ?_
          refine R_zald dX9_isSeen_64 sh_140 (Nat.le_of_ble_eq_true rfl) (rn_ixe hk) hk5 ?_
          refine R_icmp_ne (tgt := 72) dX9_isSeen_65 (by decide) (fun c65 => ?_) (fun c65 => ?_)
          · refine R_iconst (v := 0) dX9_isSeen_72 (by decide) ?_
            refine is_3 dX9_isSeen_73 rfl ?_
            refine al_0 dX9_isSeen_74 ?_
            refine cv_0 dX9_isSeen_75 mm_RX9_427 sh_116 (Nat.le_of_ble_eq_true rfl) ⟨_, rfl, rfl⟩ (Nat.le_of_ble_eq_true rfl) (Nat.le_of_ble_eq_true rfl) (M_putBack ht2.1 hBm.2.2.2.1 hBm.2.2.2.2.1 hBm.2.2.2.2.2 (fun m3 hm3 => ?_))
            refine ii_4 (v := _ + 1) dX9_isSeen_78 rfl (by rfl) ?_
            refine R_goto (tgt := 5) dX9_isSeen_81 (by decide) ?_
            have hb1 : b = 1 := by
              rcases hV with ⟨e, _⟩ | ⟨e, _⟩
              · exact e
              · exact absurd e c15
            have hVa : seenA (erA cl) (if 0 ≤ y then putW i y w else w) (q :: sl) = V := by
              rcases hV with ⟨_, e⟩ | ⟨e, _⟩
              · exact e
              · exact absurd e c15
            have ev : (minsW (erA cl) q.2.1 (if 0 ≤ y then putW i y w else w)).2.2.2 q.1 5 = bitD (m2 116 5) (m2 138 k) := by
              rw [ht2.p e1 hP hq1, e138]
              rfl
            have hsb : seenB (erA cl) (if 0 ≤ y then putW i y w else w) q = decide (bitD (m2 116 5) (m2 138 k) = m2 140 k) := by unfold seenB; rw [ev, e140]
            have hcons : seenA (erA cl) (if 0 ≤ y then putW i y w else w) (q :: sl) = (seenB (erA cl) (if 0 ≤ y then putW i y w else w) q && seenA (erA cl) (if 0 ≤ y then putW i y w else w) sl) := rfl
            rw [hcons, hsb] at hVa
            have b01 := bitD_01 (s := m2 116 5) (i := q.1) (by omega)
            rw [← e138] at b01
            refine ih (k + 1) _ _ m3 (by omega) (by rw [hk]; exact sm_add k 1) (hm.trans hm3) hs2 ?_
            first
              | (rw [c55, decide_eq_true c65, Bool.true_and] at hVa; exact Or.inl ⟨rfl, hVa⟩)
              | (rw [c55, decide_eq_false c65, Bool.false_and] at hVa; exact Or.inr ⟨rfl, hVa.symm⟩)
              | (rw [b01.resolve_right c55, decide_eq_true c65, Bool.true_and] at hVa; exact Or.inl ⟨rfl, hVa⟩)
              | (rw [b01.resolve_right c55, decide_eq_false c65, Bool.false_and] at hVa; exact Or.inr ⟨rfl, hVa.symm⟩)
          · refine R_iconst (v := 1) dX9_isSeen_68 (by decide) ?_
            refine R_goto (tgt := 73) dX9_isSeen_69 (by decide) ?_
            refine is_3 dX9_isSeen_73 rfl ?_
            refine al_0 dX9_isSeen_74 ?_
            refine cv_0 dX9_isSeen_75 mm_RX9_427 sh_116 (Nat.le_of_ble_eq_true rfl) ⟨_, rfl, rfl⟩ (Nat.le_of_ble_eq_true rfl) (Nat.le_of_ble_eq_true rfl) (M_putBack ht2.1 hBm.2.2.2.1 hBm.2.2.2.2.1 hBm.2.2.2.2.2 (fun m3 hm3 => ?_))
            refine ii_4 (v := _ + 1) dX9_isSeen_78 rfl (by rfl) ?_
            refine R_goto (tgt := 5) dX9_isSeen_81 (by decide) ?_
            have hb1 : b = 1 := by
              rcases hV with ⟨e, _⟩ | ⟨e, _⟩
              · exact e
              · exact absurd e c15
            have hVa : seenA (erA cl) (if 0 ≤ y then putW i y w else w) (q :: sl) = V := by
              rcases hV with ⟨_, e⟩ | ⟨e, _⟩
              · exact e
              · exact absurd e c15
            have ev : (minsW (erA cl) q.2.1 (if 0 ≤ y then putW i y w else w)).2.2.2 q.1 5 = bitD (m2 116 5) (m2 138 k) := by
              rw [ht2.p e1 hP hq1, e138]
              rfl
            have hsb : seenB (erA cl) (if 0 ≤ y then putW i y w else w) q = decide (bitD (m2 116 5) (m2 138 k) = m2 140 k) := by unfold seenB; rw [ev, e140]
            have hcons : seenA (erA cl) (if 0 ≤ y then putW i y w else w) (q :: sl) = (seenB (erA cl) (if 0 ≤ y then putW i y w else w) q && seenA (erA cl) (if 0 ≤ y then putW i y w else w) sl) := rfl
            rw [hcons, hsb] at hVa
            have b01 := bitD_01 (s := m2 116 5) (i := q.1) (by omega)
            rw [← e138] at b01
            refine ih (k + 1) _ _ m3 (by omega) (by rw [hk]; exact sm_add k 1) (hm.trans hm3) hs2 ?_
            first
              | (rw [c55, decide_eq_true c65, Bool.true_and] at hVa; exact Or.inl ⟨rfl, hVa⟩)
              | (rw [c55, decide_eq_false c65, Bool.false_and] at hVa; exact Or.inr ⟨rfl, hVa.symm⟩)
              | (rw [b01.resolve_right c55, decide_eq_true c65, Bool.true_and] at hVa; exact Or.inl ⟨rfl, hVa⟩)
              | (rw [b01.resolve_right c55, decide_eq_false c65, Bool.false_and] at hVa; exact Or.inr ⟨rfl, hVa.symm⟩)

set_option maxHeartbeats 4000000 in
theorem M_isSeen {G : rn_G} {d : Nat} {κ : Nat × Nat} {Q : Option Value → rn_S → Prop} {mi : Nat → Nat → Int32} {ml : Nat → Nat → Int64} {D : Nat → Nat} {x y : Int32} {T : Nat} {cl : CL} {w : WD} (hB : MB mi cl w) (hw : WJ T w) (hT : T + 200 < 2 ^ 30) {P : Nat} (hpp : mi 116 1 = nI P) (hP : P ≤ 6) {i : Nat} {sl : SL} (hx : x = nI i) (hiP : i < P) (hwp : WJ T (if 0 ≤ y then putW i y w else w)) (hsl : SLM mi P sl) (h : ∀ m, ME mi m → Q (some (.int (bi (seenA (erA cl) (if 0 ≤ y then putW i y w else w) sl)))) (m, ml, RF D, 164)) : Call G (d + 8) M_X9_isSeen [.ref 116, .int x, .int y] (mi, ml, RF D, 164) κ Q := by
  show Run G _ M_X9_isSeen 0 [.ref 116, .int x, .int y, .null, .null] [] _ _ _
  refine R_iconst (v := 1) dX9_isSeen_0 (by decide) ?_
  refine is_3 dX9_isSeen_1 rfl ?_
  refine R_iconst (v := 0) dX9_isSeen_2 (by decide) ?_
  refine is_4 dX9_isSeen_3 rfl ?_
  obtain ⟨s1, s2, s3⟩ := hsl
  exact L_isSeen hB hw hT hpp hP hx hiP hwp s1 s2 _ h sl 0 1 0 mi (by omega) nI_0.symm (ME.refl mi) (fun j q hj => by rw [Nat.zero_add]; exact s3 j q hj) (Or.inl ⟨rfl, rfl⟩)
