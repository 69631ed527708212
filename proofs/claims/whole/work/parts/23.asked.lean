/-! the reference: what changes its world; minutes that pass and that are asked for -/
theorem wM_upS {m M : Nat → Nat → Int32} {cl : CL} {s : Nat → Int32} (ha : ∀ a, a ≠ 116 → M a = m a) (h0 : M 116 0 = m 116 0) (h1 : M 116 1 = m 116 1) (h8 : M 116 8 = m 116 8) (h4 : M 116 4 = m 116 4) (h5 : M 116 5 = m 116 5) (hs : ∀ j, sM M cl j = s j) : wM M cl = (s, (wM m cl).2) := by
  refine Prod.ext (funext hs) ?_
  show (_, _, _) = (_, _, _)
  rw [h0, h1, h8, ha 117 (by decide), ha 123 (by decide)]
  congr 2
  funext i
  by_cases hi : i < nn (m 116 1)
  · rw [if_pos hi, if_pos hi, pM_ext h4 h5 (fun a a1 a2 _ => ha a (by omega)) (by rw [ha 121 (by decide)])]
  · rw [if_neg hi, if_neg hi]
theorem wM_upP {m M : Nat → Nat → Int32} {cl : CL} {N i : Nat} {P : Nat → Int32} (hp : m 116 1 = nI N) (hN : N ≤ 6) (hi : i < N) (hf : ∀ f, f ≠ 4 → f ≠ 5 → f ≠ 38 → f ≠ 39 → M 116 f = m 116 f) (h117 : M 117 = m 117) (h123 : M 123 = m 123) (hx : ∀ x, x < N → x ≠ i → pM M x = pM m x) (hP : ∀ f, pM M i f = P f) : wM M cl = upP (wM m cl) i P := by
  have hn : nn (m 116 1) = N := by rw [hp]; exact nnI (by omega)
  have e : ∀ f, f < 4 ∨ (5 < f ∧ f < 38) → M 116 f = m 116 f := fun f h => hf f (by omega) (by omega) (by omega) (by omega)
  refine Prod.ext (funext fun j => ?_) (Prod.ext (funext fun j => ?_) (Prod.ext (funext fun j => ?_) (funext fun x => ?_)))
  · show sM M cl j = sM m cl j
    by_cases h6 : j = 6
    · subst h6; exact e 2 (by omega)
    · exact sM_ext6 h6 (e 0 (by omega)) (e 3 (by omega)) (e 1 (by omega)) (e 6 (by omega)) (e 8 (by omega)) (e 7 (by omega)) (e 33 (by omega)) (e 34 (by omega)) (e 35 (by omega))
  · show (if j < nn (M 116 0) then M 117 j else 0) = if j < nn (m 116 0) then m 117 j else 0
    rw [e 0 (by omega), h117]
  · show (if j < nn (M 116 8) then M 123 j else 0) = if j < nn (m 116 8) then m 123 j else 0
    rw [e 8 (by omega), h123]
  · show (if x < nn (M 116 1) then pM M x else fun _ => 0) = if x = i then P else if x < nn (m 116 1) then pM m x else fun _ => 0
    rw [e 1 (by omega), hn]
    by_cases hxi : x = i
    · subst hxi
      rw [if_pos hi, if_pos rfl]
      exact funext hP
    · rw [if_neg hxi]
      by_cases h2 : x < N
      · rw [if_pos h2, if_pos h2, hx x h2 hxi]
      · rw [if_neg h2, if_neg h2]
/-- scalars changed while something is tried -/
theorem TR.s {m0 m M : Nat → Nat → Int32} {cl : CL} {w : WD} {s : Nat → Int32} (h : TR m0 m cl w) (ha : ∀ a, a ≠ 116 → M a = m a) (hf : ∀ f, f ≠ 2 → f ≠ 3 → f ≠ 6 → f ≠ 7 → f ≠ 33 → f ≠ 34 → f ≠ 35 → M 116 f = m 116 f) (hs : ∀ j, sM M cl j = s j) : TR m0 M cl (s, w.2) := by
  obtain ⟨⟨g1, g2, g3, g4⟩, e, hg⟩ := h
  refine ⟨⟨fun a a1 => (ha a (by omega)).trans (g1 a a1), fun f f1 => (hf f (by omega) (by omega) (by omega) (by omega) (by omega) (by omega) (by omega)).trans (g2 f f1), fun f f1 => (hf _ (by omega) (by omega) (by omega) (by omega) (by omega) (by omega) (by omega)).trans (g3 f f1), fun j hj => by rw [ha 135 (by decide), ha 136 (by decide), ha 137 (by decide)]; exact g4 j hj⟩, ?_, ?_⟩
  · rw [← e]
    exact wM_upS ha (hf 0 (by decide) (by decide) (by decide) (by decide) (by decide) (by decide) (by decide)) (hf 1 (by decide) (by decide) (by decide) (by decide) (by decide) (by decide) (by decide)) (hf 8 (by decide) (by decide) (by decide) (by decide) (by decide) (by decide) (by decide)) (hf 4 (by decide) (by decide) (by decide) (by decide) (by decide) (by decide) (by decide)) (hf 5 (by decide) (by decide) (by decide) (by decide) (by decide) (by decide) (by decide)) hs
  · rw [hf 1 (by decide) (by decide) (by decide) (by decide) (by decide) (by decide) (by decide), hf 5 (by decide) (by decide) (by decide) (by decide) (by decide) (by decide) (by decide)]; exact hg
theorem sM_up {m : Nat → Nat → Int32} {cl : CL} {f k : Nat} {v : Int32} (hk : (f = 3 ∧ k = 1) ∨ (f = 6 ∧ k = 3) ∨ (f = 7 ∧ k = 5) ∨ (f = 34 ∧ k = 8) ∨ (f = 35 ∧ k = 9)) (j : Nat) : sM (rn_u m 116 f v) cl j = if j = k then v else sM m cl j := by
  unfold sM
  rcases hk with ⟨rfl, rfl⟩ | ⟨rfl, rfl⟩ | ⟨rfl, rfl⟩ | ⟨rfl, rfl⟩ | ⟨rfl, rfl⟩
  all_goals
    match j with
    | 0 | 1 | 2 | 3 | 4 | 5 | 6 | 7 | 8 | 9 => simp [rn_u]
    | n + 10 => simp
theorem sM_up33 {m : Nat → Nat → Int32} {cl : CL} {v : Int32} (j : Nat) : sM (rn_u m 116 33 v) cl j = if j = 7 then paceA v cl else sM m cl j := by
  unfold sM
  match j with
  | 0 | 1 | 2 | 3 | 4 | 5 | 6 | 7 | 8 | 9 => simp [rn_u]
  | n + 10 => simp
theorem TR.up {m0 m : Nat → Nat → Int32} {cl : CL} {w : WD} {f k : Nat} {v : Int32} (h : TR m0 m cl w) (hk : (f = 3 ∧ k = 1) ∨ (f = 6 ∧ k = 3) ∨ (f = 7 ∧ k = 5) ∨ (f = 34 ∧ k = 8) ∨ (f = 35 ∧ k = 9)) : TR m0 (rn_u m 116 f v) cl (upS w k v) := by
  have e := h.2.1
  have q := h.s (M := rn_u m 116 f v) (s := (upS w k v).1) (fun a ha => rn_u_ne ha) (fun g h2 h3 h6 h7 h33 h34 h35 => by simp only [rn_u, true_and]; rw [if_neg (by omega)]) (fun j => by rw [sM_up hk]; show _ = if j = k then v else w.1 j; rw [← e]; rfl)
  exact q
theorem TR.up33 {m0 m : Nat → Nat → Int32} {cl : CL} {w : WD} {v : Int32} (h : TR m0 m cl w) : TR m0 (rn_u m 116 33 v) cl (upS w 7 (paceA v cl)) := by
  have e := h.2.1
  have q := h.s (M := rn_u m 116 33 v) (s := (upS w 7 (paceA v cl)).1) (fun a ha => rn_u_ne ha) (fun g h2 h3 h6 h7 h33 h34 h35 => by simp only [rn_u, true_and]; rw [if_neg (by omega)]) (fun j => by rw [sM_up33]; show _ = if j = 7 then paceA v cl else w.1 j; rw [← e]; rfl)
  exact q
/-- the answers to 'on', 'clear', 'stay' -/
noncomputable def onV (w : WD) (x : Int32) : Int32 := if x = 0 then outW w else if x = 1 then w.1 1 else if x = 2 then w.1 3 else if x < 20 then w.2.2.2 (nn (x - 10)) 2 else w.2.2.2 (nn (x - 20)) 3
def onOk (P : Nat) (x : Int32) : Prop := (0 ≤ x ∧ x ≤ 2) ∨ (10 ≤ x ∧ x < nI (10 + P)) ∨ (20 ≤ x ∧ x < nI (20 + P))
noncomputable def clF (er : (Nat → Int32) → Int32) : Nat → Nat → WD → Int32
  | 0, _, _ => -5
  | n + 1, k, w => if insW w = 0 then nI k else clF er n (k + 1) (minuteW er w)
theorem all_d : ∀ P : Fin 7, ∀ j : Fin 32, bt (((1 : Int32) <<< (nI P &&& 31)) - 1) j = decide (j.1 < P.1) := by decide +kernel
theorem all_ins {w : WD} {P : Nat} (hp : w.1 2 = nI P) (hP : P ≤ 6) : outW w = ((1 : Int32) <<< (nI P &&& 31)) - 1 ↔ insW w = 0 := by
  rw [ins_cnt hp hP]
  have bo : ∀ j, j < 32 → bt (outW w) j = (decide (j < P) && !decide (w.2.2.2 j 5 = 0)) := fun j hj => by
    unfold outW
    rw [hp, nnI (by omega), bt_outF hj P 0 0 (by omega), b_0]
    simp
  constructor
  · intro h
    rw [cntZ_all P (fun j hj => ?_)]
    · rfl
    · have q := bo j (by omega)
      rw [h, all_d ⟨P, by omega⟩ ⟨j, by omega⟩] at q
      intro hz
      simp [hj, hz] at q
  · intro h
    have hc : cntZ (fun i => w.2.2.2 i 5) P = 0 := sm_inj (by have := cntZ_le (fun i => w.2.2.2 i 5) P; omega) (by decide) (h.trans nI_0.symm)
    refine b_ext (fun j hj => ?_)
    rw [bo j hj, all_d ⟨P, by omega⟩ ⟨j, hj⟩]
    by_cases hjP : j < P
    · have := cntZ_zero P hc j hjP
      simp [hjP, this]
    · simp [hjP]
theorem MB.n {mi : Nat → Nat → Int32} {cl : CL} {w : WD} {T : Nat} (hB : MB mi cl w) (hw : WJ T w) : ∃ N P R, MJ T mi N P R ∧ (∃ a, a ≤ 9 ∧ paceA (mi 116 33) cl = nI a) ∧ (∀ i, N ≤ i → i < 32 → bt (mi 116 3) i = false) ∧ (∀ i, i < P → PJ (pM mi i)) := WJ.mj (by rw [hB.2.1]; exact hw)
theorem TR.n {m0 mi : Nat → Nat → Int32} {cl : CL} {w : WD} {T : Nat} (hB : TR m0 mi cl w) (hw : WJ T w) : ∃ N P R, MJ T mi N P R ∧ (∃ a, a ≤ 9 ∧ paceA (mi 116 33) cl = nI a) ∧ (∀ i, N ≤ i → i < 32 → bt (mi 116 3) i = false) ∧ (∀ i, i < P → PJ (pM mi i)) := WJ.mj (by rw [hB.2.1]; exact hw)
theorem TR.gone {m0 mi : Nat → Nat → Int32} {cl : CL} {w : WD} {T : Nat} (h : TR m0 mi cl w) (hw : WJ T w) : mi 116 5 = outW w ∧ ∃ a, a < 64 ∧ mi 116 5 = nI a := by
  obtain ⟨N, P, R, hJ, -⟩ := h.n hw
  obtain ⟨hN, hP6, hR, hg, hpp, hrr, -⟩ := hJ
  have nP : nn (mi 116 1) = P := by rw [hpp]; exact nnI (by omega)
  refine ⟨?_, six_of (fun i h6 h32 => h.2.2 i (by omega) h32)⟩
  rw [← h.2.1]
  exact gone_out hpp hP6 h.2.2
theorem MB.gone {mi : Nat → Nat → Int32} {cl : CL} {w : WD} {T : Nat} (h : MB mi cl w) (hw : WJ T w) : mi 116 5 = outW w ∧ ∃ a, a < 64 ∧ mi 116 5 = nI a := by
  obtain ⟨N, P, R, hJ, -⟩ := h.n hw
  obtain ⟨hN, hP6, hR, hg, hpp, hrr, -⟩ := hJ
  have nP : nn (mi 116 1) = P := by rw [hpp]; exact nnI (by omega)
  refine ⟨?_, six_of (fun i h6 h32 => h.2.2.1 i (by omega) h32)⟩
  rw [← h.2.1]
  exact gone_out hpp hP6 h.2.2.1

set_option maxHeartbeats 4000000 in
theorem M_pass {G : rn_G} {d : Nat} {κ : Nat × Nat} {Q : Option Value → rn_S → Prop} {mi : Nat → Nat → Int32} {ml : Nat → Nat → Int64} {D : Nat → Nat} {z : Int32} {T : Nat} {cl : CL} {w : WD} (hB : MB mi cl w) (hw : WJ T w) (hT : T + 200 < 2 ^ 30) (h2 : ¬ (0 ≤ z ∧ z ≤ 60) → Q (some (.int (-2))) (mi, ml, RF D, 164)) (h3 : (0 ≤ z ∧ z ≤ 60) → 9999 < mi 116 2 + z → Q (some (.int (-3))) (mi, ml, RF D, 164)) (h : ∀ n m, z = nI n → n ≤ 60 → ¬ 9999 < mi 116 2 + z → MSr n cl mi m → Q (some (.int (m 116 2))) (m, ml, RF D, 164)) : Call G (d + 8) M_X9_pass [.ref 116, .int z] (mi, ml, RF D, 164) κ Q := by
  show Run G _ M_X9_pass 0 [.ref 116, .int z] [] _ _ _
  refine al_0 dX9_pass_0 ?_
  refine il_1 dX9_pass_1 ?_
  refine R_iconst (v := 0) dX9_pass_2 (by decide) ?_
  refine R_bipush (v := 60) dX9_pass_3 (by decide) ?_
  refine cv_3 dX9_pass_5 mm_RX9_293 sh_116 (Nat.le_of_ble_eq_true rfl) ⟨_, rfl, rfl⟩ (Nat.le_of_ble_eq_true rfl) (Nat.le_of_ble_eq_true rfl) (M_in (fun c5 => ?_) (fun c5 => ?_))
  · refine R_if_ne (tgt := 14) dX9_pass_8 (by decide) (fun _ => ?_) (fun q => absurd q (by decide))
    refine al_0 dX9_pass_14 ?_
    refine R_getfi dX9_pass_15 fl_RX9_16 rfl sh_116 (Nat.le_of_ble_eq_true rfl) ?_
    refine il_1 dX9_pass_18 ?_
    refine R_iadd dX9_pass_19 ?_
    refine R_sipush (v := 9999) dX9_pass_20 (by decide) ?_
    refine R_icmp_le (tgt := 29) dX9_pass_23 (by decide) (fun c23 => ?_) (fun c23 => ?_)
    · obtain ⟨n, hn60, ez⟩ := sm_of c5.1 ((lt_succ_iff (a := 60)).mpr c5.2) (by decide)
      refine al_0 dX9_pass_29 ?_
      refine il_1 dX9_pass_30 ?_
      refine cv_1 dX9_pass_31 mm_RX9_418 sh_116 (Nat.le_of_ble_eq_true rfl) ⟨_, rfl, rfl⟩ (Nat.le_of_ble_eq_true rfl) (Nat.le_of_ble_eq_true rfl) (M_goMinutes (T := T) hB.1 (by rw [hB.2.1]; exact hw) ez (by omega) (fun m2 hm2 => ?_))
      refine al_0 dX9_pass_34 ?_
      refine R_getfi dX9_pass_35 fl_RX9_16 rfl sh_116 (Nat.le_of_ble_eq_true rfl) ?_
      refine R_ireturn dX9_pass_38 ⟨_, rfl, rfl⟩ ?_
      exact h n m2 ez (by omega) (by first | exact c23 | exact Int32.not_lt.mpr c23) hm2
    · refine R_bipush (v := -3) dX9_pass_26 (by decide) ?_
      refine R_ireturn dX9_pass_28 ⟨_, rfl, rfl⟩ ?_
      exact h3 c5 (by first | exact c23 | exact Int32.not_le.mp c23)
  · refine R_if_ne (tgt := 14) dX9_pass_8 (by decide) (fun q => absurd q (by decide)) (fun _ => ?_)
    refine R_bipush (v := -2) dX9_pass_11 (by decide) ?_
    refine R_ireturn dX9_pass_13 ⟨_, rfl, rfl⟩ ?_
    exact h2 c5

theorem three_no {x : Int32} (h : 0 ≤ x ∧ x ≤ 2) (h0 : ¬ x = 0) (h1 : ¬ x = 1) (h2 : ¬ x = 2) : False := by
  obtain ⟨n, hn, rfl⟩ := sm_of h.1 ((lt_succ_iff (a := 2)).mpr h.2) (by decide)
  have : n = 0 ∨ n = 1 ∨ n = 2 := by omega
  rcases this with rfl | rfl | rfl
  · exact h0 rfl
  · exact h1 rfl
  · exact h2 rfl
theorem sub_of {x : Int32} {k P : Nat} (hk : k ≤ 100) (hP : P ≤ 6) (h1 : nI k ≤ x) (h2 : x < nI (k + P)) : ∃ i, i < P ∧ x = nI (k + i) ∧ x - nI k = nI i := by
  have h0 : 0 ≤ x := Int32.le_trans ((sm_le_iff (a := 0) (by decide) (by omega)).mpr (Nat.zero_le k)) h1
  obtain ⟨n, hn, rfl⟩ := sm_of h0 h2 (by omega)
  rw [sm_le_iff (by omega) (by omega)] at h1
  exact ⟨n - k, by omega, by rw [Nat.add_sub_cancel' h1], sm_sub h1⟩
theorem le9_iff {P : Nat} (hP : P ≤ 6) (x : Int32) : (10 ≤ x ∧ x ≤ 9 + nI P) ↔ (10 ≤ x ∧ x < nI (10 + P)) := by
  have e : 9 + nI P = nI (9 + P) := sm_add 9 P
  rw [e, show 10 + P = (9 + P) + 1 by omega, lt_succ_iff (a := 9 + P) (by omega)]
theorem le19_iff {P : Nat} (hP : P ≤ 6) (x : Int32) : (20 ≤ x ∧ x ≤ 19 + nI P) ↔ (20 ≤ x ∧ x < nI (20 + P)) := by
  have e : 19 + nI P = nI (19 + P) := sm_add 19 P
  rw [e, show 20 + P = (19 + P) + 1 by omega, lt_succ_iff (a := 19 + P) (by omega)]

set_option maxHeartbeats 4000000 in
theorem M_on {G : rn_G} {d : Nat} {κ : Nat × Nat} {Q : Option Value → rn_S → Prop} {mi : Nat → Nat → Int32} {ml : Nat → Nat → Int64} {D : Nat → Nat} {x z : Int32} {T : Nat} {cl : CL} {w : WD} (hB : MB mi cl w) (hw : WJ T w) (hT : T + 200 < 2 ^ 30) {P : Nat} (hpp : mi 116 1 = nI P) (hP : P ≤ 6) (h1 : ¬ onOk P x → Q (some (.int (-1))) (mi, ml, RF D, 164)) (h2 : onOk P x → ¬ (0 ≤ z ∧ z ≤ 99) → Q (some (.int (-2))) (mi, ml, RF D, 164)) (h : ∀ n m, onOk P x → z = nI n → n ≤ 99 → ME mi m → Q (some (.int (onV (minsW (erA cl) n w) x))) (m, ml, RF D, 164)) : Call G (d + 8) M_X9_on [.ref 116, .int z, .int x] (mi, ml, RF D, 164) κ Q := by
  show Run G _ M_X9_on 0 [.ref 116, .int z, .int x, .null] [] _ _ _
  have key10 : ∀ x : Int32, (10 ≤ x ∧ x ≤ 9 + mi 116 1) ↔ (10 ≤ x ∧ x < nI (10 + P)) := by rw [hpp]; exact le9_iff hP
  have key20 : ∀ x : Int32, (20 ≤ x ∧ x ≤ 19 + mi 116 1) ↔ (20 ≤ x ∧ x < nI (20 + P)) := by rw [hpp]; exact le19_iff hP
  refine al_0 dX9_on_0 ?_
  refine il_2 dX9_on_1 ?_
  refine R_iconst (v := 0) dX9_on_2 (by decide) ?_
  refine R_iconst (v := 2) dX9_on_3 (by decide) ?_
  refine cv_3 dX9_on_4 mm_RX9_293 sh_116 (Nat.le_of_ble_eq_true rfl) ⟨_, rfl, rfl⟩ (Nat.le_of_ble_eq_true rfl) (Nat.le_of_ble_eq_true rfl) (M_in (fun c4 => ?_) (fun c4 => ?_))
  · refine R_if_ne (tgt := 46) dX9_on_7 (by decide) (fun _ => ?_) (fun q => absurd q (by decide))
    have hx : onOk P x := by first | exact Or.inl c4 | exact Or.inr (Or.inl ((key10 x).mp c21)) | exact Or.inr (Or.inr ((key20 x).mp c38))
    refine al_0 dX9_on_46 ?_
    refine il_1 dX9_on_47 ?_
    refine cv_1 dX9_on_48 mm_RX9_421 sh_116 (Nat.le_of_ble_eq_true rfl) ⟨_, rfl, rfl⟩ (Nat.le_of_ble_eq_true rfl) (Nat.le_of_ble_eq_true rfl) (M_isMinutes (fun c48 => ?_) (fun c48 => ?_))
    · refine R_if_ne (tgt := 57) dX9_on_51 (by decide) (fun _ => ?_) (fun q => absurd q (by decide))
      obtain ⟨n, hn99, ez⟩ := sm_of c48.1 ((lt_succ_iff (a := 99)).mpr c48.2) (by decide)
      refine al_0 dX9_on_57 ?_
      refine cv_0 dX9_on_58 mm_RX9_424 sh_116 (Nat.le_of_ble_eq_true rfl) ⟨_, rfl, rfl⟩ (Nat.le_of_ble_eq_true rfl) (Nat.le_of_ble_eq_true rfl) (M_save (fun ms g1 g2 g3 => ?_))
      obtain ⟨htr, -, -⟩ := save_tr hB hw g1 g2 g3
      refine al_0 dX9_on_61 ?_
      refine il_1 dX9_on_62 ?_
      refine cv_1 dX9_on_63 mm_RX9_418 sh_116 (Nat.le_of_ble_eq_true rfl) ⟨_, rfl, rfl⟩ (Nat.le_of_ble_eq_true rfl) (Nat.le_of_ble_eq_true rfl) (M_goMinutes (T := T) (htr.1.cm hB.1) (by rw [htr.2.1]; exact hw) ez (by omega) (fun m2 hm2 => ?_))
      have ht2 := htr.ms hm2
      have hw2 := hw.mins (er := erA cl) n T w (by omega)
      have hgo := (ht2.gone hw2).1
      obtain ⟨N2, P2, R2, hJ2, -⟩ := ht2.n hw2
      obtain ⟨-, hP26, -, -, hpp2, -⟩ := hJ2
      have e1 : m2 116 1 = mi 116 1 := (ht2.1.2.1 1 (by omega))
      refine il_2 dX9_on_66 ?_
      refine R_if_ne (tgt := 77) dX9_on_67 (by decide) (fun c67 => ?_) (fun c67 => ?_)
      · refine il_2 dX9_on_77 ?_
        refine R_iconst (v := 1) dX9_on_78 (by decide) ?_
        refine R_icmp_ne (tgt := 89) dX9_on_79 (by decide) (fun c79 => ?_) (fun c79 => ?_)
        · refine il_2 dX9_on_89 ?_
          refine R_iconst (v := 2) dX9_on_90 (by decide) ?_
          refine R_icmp_ne (tgt := 101) dX9_on_91 (by decide) (fun c91 => ?_) (fun c91 => ?_)
          · refine il_2 dX9_on_101 ?_
            refine R_bipush (v := 20) dX9_on_102 (by decide) ?_
            refine R_icmp_ge (tgt := 119) dX9_on_104 (by decide) (fun c104 => ?_) (fun c104 => ?_)
            · have h20 : 20 ≤ x ∧ x < nI (20 + P) := by
                have q := hx
                have c104 : 20 ≤ x := by first | exact c104 | exact Int32.not_lt.mp c104
                rcases q with q | q | q
                · exact absurd (Int32.le_trans q.1 (Int32.le_refl _)) (fun _ => three_no q c67 c79 c91)
                · exact absurd (Int32.lt_of_le_of_lt c104 (Int32.lt_of_lt_of_le q.2 ((sm_le_iff (b := 20) (by omega) (by decide)).mpr (by omega)))) (show ¬ (20 : Int32) < nI 20 by decide)
                · exact q
              obtain ⟨i, hiP, exi, ex20⟩ := sub_of (k := 20) (P := P) (by omega) (by omega) h20.1 h20.2
              have hi6 : i < 6 := by omega
              refine al_0 dX9_on_119 ?_
              refine R_getfr (r := 121) dX9_on_120 fl_RX9_50 rfl sh_116 (Nat.le_of_ble_eq_true rfl) rf_116_13 ?_
              refine il_2 dX9_on_123 ?_
              refine R_bipush (v := 20) dX9_on_124 (by decide) ?_
              refine R_isub dX9_on_126 ?_
              refine R_iald dX9_on_127 sh_121 (Nat.le_of_ble_eq_true rfl) (rn_ixe ex20) hi6 ?_
              refine is_3 dX9_on_128 rfl ?_
              refine al_0 dX9_on_129 ?_
              refine cv_0 dX9_on_130 mm_RX9_427 sh_116 (Nat.le_of_ble_eq_true rfl) ⟨_, rfl, rfl⟩ (Nat.le_of_ble_eq_true rfl) (Nat.le_of_ble_eq_true rfl) (M_putBack ht2.1 hB.2.2.2.1 hB.2.2.2.2.1 hB.2.2.2.2.2 (fun m3 hm3 => ?_))
              refine il_3 dX9_on_133 ?_
              refine R_ireturn dX9_on_134 ⟨_, rfl, rfl⟩ ?_
              refine Eq.mp (congrArg (fun v => Q (some (.int v)) _) ?_) (h n m3 hx ez (by omega) hm3)
              rw [← ht2.2.1]
              unfold onV
              first
                | (rw [if_pos c67, ht2.2.1]; exact hgo.symm)
                | (rw [if_neg c67, if_pos c79]; rfl)
                | (rw [if_neg c67, if_neg c79, if_pos c91]; rfl)
                | (rw [if_neg c67, if_neg c79, if_neg c91, if_pos (show x < 20 by first | exact c104 | exact Int32.not_le.mp c104), show x - 10 = nI i from ex10, nnI (show i < 2 ^ 31 by omega), wM_p hpp2 hP26 (show i < P2 by have := sm_inj (by omega) (by omega) (hpp2.symm.trans (e1.trans hpp)); omega)]; rfl)
                | (rw [if_neg c67, if_neg c79, if_neg c91, if_neg (show ¬ x < 20 by first | exact c104 | exact Int32.not_lt.mpr c104), show x - 20 = nI i from ex20, nnI (show i < 2 ^ 31 by omega), wM_p hpp2 hP26 (show i < P2 by have := sm_inj (by omega) (by omega) (hpp2.symm.trans (e1.trans hpp)); omega)]; rfl)
            · have h10 : 10 ≤ x ∧ x < nI (10 + P) := by
                have q := hx
                have c104 : x < 20 := by first | exact c104 | exact Int32.not_le.mp c104
                rcases q with q | q | q
                · exact absurd (Int32.le_trans q.1 (Int32.le_refl _)) (fun _ => three_no q c67 c79 c91)
                · exact q
                · exact absurd c104 (Int32.not_lt.mpr q.1)
              obtain ⟨i, hiP, exi, ex10⟩ := sub_of (k := 10) (P := P) (by omega) (by omega) h10.1 h10.2
              have hi6 : i < 6 := by omega
              refine al_0 dX9_on_107 ?_
              refine R_getfr (r := 120) dX9_on_108 fl_RX9_47 rfl sh_116 (Nat.le_of_ble_eq_true rfl) rf_116_12 ?_
              refine il_2 dX9_on_111 ?_
              refine R_bipush (v := 10) dX9_on_112 (by decide) ?_
              refine R_isub dX9_on_114 ?_
              refine R_iald dX9_on_115 sh_120 (Nat.le_of_ble_eq_true rfl) (rn_ixe ex10) hi6 ?_
              refine R_goto (tgt := 128) dX9_on_116 (by decide) ?_
              refine is_3 dX9_on_128 rfl ?_
              refine al_0 dX9_on_129 ?_
              refine cv_0 dX9_on_130 mm_RX9_427 sh_116 (Nat.le_of_ble_eq_true rfl) ⟨_, rfl, rfl⟩ (Nat.le_of_ble_eq_true rfl) (Nat.le_of_ble_eq_true rfl) (M_putBack ht2.1 hB.2.2.2.1 hB.2.2.2.2.1 hB.2.2.2.2.2 (fun m3 hm3 => ?_))
              refine il_3 dX9_on_133 ?_
              refine R_ireturn dX9_on_134 ⟨_, rfl, rfl⟩ ?_
              refine Eq.mp (congrArg (fun v => Q (some (.int v)) _) ?_) (h n m3 hx ez (by omega) hm3)
              rw [← ht2.2.1]
              unfold onV
              first
                | (rw [if_pos c67, ht2.2.1]; exact hgo.symm)
                | (rw [if_neg c67, if_pos c79]; rfl)
                | (rw [if_neg c67, if_neg c79, if_pos c91]; rfl)
                | (rw [if_neg c67, if_neg c79, if_neg c91, if_pos (show x < 20 by first | exact c104 | exact Int32.not_le.mp c104), show x - 10 = nI i from ex10, nnI (show i < 2 ^ 31 by omega), wM_p hpp2 hP26 (show i < P2 by have := sm_inj (by omega) (by omega) (hpp2.symm.trans (e1.trans hpp)); omega)]; rfl)
                | (rw [if_neg c67, if_neg c79, if_neg c91, if_neg (show ¬ x < 20 by first | exact c104 | exact Int32.not_lt.mpr c104), show x - 20 = nI i from ex20, nnI (show i < 2 ^ 31 by omega), wM_p hpp2 hP26 (show i < P2 by have := sm_inj (by omega) (by omega) (hpp2.symm.trans (e1.trans hpp)); omega)]; rfl)
          · refine al_0 dX9_on_94 ?_
            refine R_getfi dX9_on_95 fl_RX9_28 rfl sh_116 (Nat.le_of_ble_eq_true rfl) ?_
            refine R_goto (tgt := 128) dX9_on_98 (by decide) ?_
            refine is_3 dX9_on_128 rfl ?_
            refine al_0 dX9_on_129 ?_
            refine cv_0 dX9_on_130 mm_RX9_427 sh_116 (Nat.le_of_ble_eq_true rfl) ⟨_, rfl, rfl⟩ (Nat.le_of_ble_eq_true rfl) (Nat.le_of_ble_eq_true rfl) (M_putBack ht2.1 hB.2.2.2.1 hB.2.2.2.2.1 hB.2.2.2.2.2 (fun m3 hm3 => ?_))
            refine il_3 dX9_on_133 ?_
            refine R_ireturn dX9_on_134 ⟨_, rfl, rfl⟩ ?_
            refine Eq.mp (congrArg (fun v => Q (some (.int v)) _) ?_) (h n m3 hx ez (by omega) hm3)
            rw [← ht2.2.1]
            unfold onV
            first
              | (rw [if_pos c67, ht2.2.1]; exact hgo.symm)
              | (rw [if_neg c67, if_pos c79]; rfl)
              | (rw [if_neg c67, if_neg c79, if_pos c91]; rfl)
              | (rw [if_neg c67, if_neg c79, if_neg c91, if_pos (show x < 20 by first | exact c104 | exact Int32.not_le.mp c104), show x - 10 = nI i from ex10, nnI (show i < 2 ^ 31 by omega), wM_p hpp2 hP26 (show i < P2 by have := sm_inj (by omega) (by omega) (hpp2.symm.trans (e1.trans hpp)); omega)]; rfl)
              | (rw [if_neg c67, if_neg c79, if_neg c91, if_neg (show ¬ x < 20 by first | exact c104 | exact Int32.not_lt.mpr c104), show x - 20 = nI i from ex20, nnI (show i < 2 ^ 31 by omega), wM_p hpp2 hP26 (show i < P2 by have := sm_inj (by omega) (by omega) (hpp2.symm.trans (e1.trans hpp)); omega)]; rfl)
        · refine al_0 dX9_on_82 ?_
          refine R_getfi dX9_on_83 fl_RX9_19 rfl sh_116 (Nat.le_of_ble_eq_true rfl) ?_
          refine R_goto (tgt := 128) dX9_on_86 (by decide) ?_
          refine is_3 dX9_on_128 rfl ?_
          refine al_0 dX9_on_129 ?_
          refine cv_0 dX9_on_130 mm_RX9_427 sh_116 (Nat.le_of_ble_eq_true rfl) ⟨_, rfl, rfl⟩ (Nat.le_of_ble_eq_true rfl) (Nat.le_of_ble_eq_true rfl) (M_putBack ht2.1 hB.2.2.2.1 hB.2.2.2.2.1 hB.2.2.2.2.2 (fun m3 hm3 => ?_))
          refine il_3 dX9_on_133 ?_
          refine R_ireturn dX9_on_134 ⟨_, rfl, rfl⟩ ?_
          refine Eq.mp (congrArg (fun v => Q (some (.int v)) _) ?_) (h n m3 hx ez (by omega) hm3)
          rw [← ht2.2.1]
          unfold onV
          first
            | (rw [if_pos c67, ht2.2.1]; exact hgo.symm)
            | (rw [if_neg c67, if_pos c79]; rfl)
            | (rw [if_neg c67, if_neg c79, if_pos c91]; rfl)
            | (rw [if_neg c67, if_neg c79, if_neg c91, if_pos (show x < 20 by first | exact c104 | exact Int32.not_le.mp c104), show x - 10 = nI i from ex10, nnI (show i < 2 ^ 31 by omega), wM_p hpp2 hP26 (show i < P2 by have := sm_inj (by omega) (by omega) (hpp2.symm.trans (e1.trans hpp)); omega)]; rfl)
            | (rw [if_neg c67, if_neg c79, if_neg c91, if_neg (show ¬ x < 20 by first | exact c104 | exact Int32.not_lt.mpr c104), show x - 20 = nI i from ex20, nnI (show i < 2 ^ 31 by omega), wM_p hpp2 hP26 (show i < P2 by have := sm_inj (by omega) (by omega) (hpp2.symm.trans (e1.trans hpp)); omega)]; rfl)
      · refine al_0 dX9_on_70 ?_
        refine R_getfi dX9_on_71 fl_RX9_25 rfl sh_116 (Nat.le_of_ble_eq_true rfl) ?_
        refine R_goto (tgt := 128) dX9_on_74 (by decide) ?_
        refine is_3 dX9_on_128 rfl ?_
        refine al_0 dX9_on_129 ?_
        refine cv_0 dX9_on_130 mm_RX9_427 sh_116 (Nat.le_of_ble_eq_true rfl) ⟨_, rfl, rfl⟩ (Nat.le_of_ble_eq_true rfl) (Nat.le_of_ble_eq_true rfl) (M_putBack ht2.1 hB.2.2.2.1 hB.2.2.2.2.1 hB.2.2.2.2.2 (fun m3 hm3 => ?_))
        refine il_3 dX9_on_133 ?_
        refine R_ireturn dX9_on_134 ⟨_, rfl, rfl⟩ ?_
        refine Eq.mp (congrArg (fun v => Q (some (.int v)) _) ?_) (h n m3 hx ez (by omega) hm3)
        rw [← ht2.2.1]
        unfold onV
        first
          | (rw [if_pos c67, ht2.2.1]; exact hgo.symm)
          | (rw [if_neg c67, if_pos c79]; rfl)
          | (rw [if_neg c67, if_neg c79, if_pos c91]; rfl)
          | (rw [if_neg c67, if_neg c79, if_neg c91, if_pos (show x < 20 by first | exact c104 | exact Int32.not_le.mp c104), show x - 10 = nI i from ex10, nnI (show i < 2 ^ 31 by omega), wM_p hpp2 hP26 (show i < P2 by have := sm_inj (by omega) (by omega) (hpp2.symm.trans (e1.trans hpp)); omega)]; rfl)
          | (rw [if_neg c67, if_neg c79, if_neg c91, if_neg (show ¬ x < 20 by first | exact c104 | exact Int32.not_lt.mpr c104), show x - 20 = nI i from ex20, nnI (show i < 2 ^ 31 by omega), wM_p hpp2 hP26 (show i < P2 by have := sm_inj (by omega) (by omega) (hpp2.symm.trans (e1.trans hpp)); omega)]; rfl)
    · refine R_if_ne (tgt := 57) dX9_on_51 (by decide) (fun q => absurd q (by decide)) (fun _ => ?_)
      refine R_bipush (v := -2) dX9_on_54 (by decide) ?_
      refine R_ireturn dX9_on_56 ⟨_, rfl, rfl⟩ ?_
      exact h2 hx c48
  · refine R_if_ne (tgt := 46) dX9_on_7 (by decide) (fun q => absurd q (by decide)) (fun _ => ?_)
    refine al_0 dX9_on_10 ?_
    refine il_2 dX9_on_11 ?_
    refine R_bipush (v := 10) dX9_on_12 (by decide) ?_
    refine R_bipush (v := 9) dX9_on_14 (by decide) ?_
    refine al_0 dX9_on_16 ?_
    refine R_getfi dX9_on_17 fl_RX9_13 rfl sh_116 (Nat.le_of_ble_eq_true rfl) ?_
    refine R_iadd dX9_on_20 ?_
    refine cv_3 dX9_on_21 mm_RX9_293 sh_116 (Nat.le_of_ble_eq_true rfl) ⟨_, rfl, rfl⟩ (Nat.le_of_ble_eq_true rfl) (Nat.le_of_ble_eq_true rfl) (M_in (fun c21 => ?_) (fun c21 => ?_))
    · refine R_if_ne (tgt := 46) dX9_on_24 (by decide) (fun _ => ?_) (fun q => absurd q (by decide))
      have hx : onOk P x := by first | exact Or.inl c4 | exact Or.inr (Or.inl ((key10 x).mp c21)) | exact Or.inr (Or.inr ((key20 x).mp c38))
      refine al_0 dX9_on_46 ?_
      refine il_1 dX9_on_47 ?_
      refine cv_1 dX9_on_48 mm_RX9_421 sh_116 (Nat.le_of_ble_eq_true rfl) ⟨_, rfl, rfl⟩ (Nat.le_of_ble_eq_true rfl) (Nat.le_of_ble_eq_true rfl) (M_isMinutes (fun c48 => ?_) (fun c48 => ?_))
      · refine R_if_ne (tgt := 57) dX9_on_51 (by decide) (fun _ => ?_) (fun q => absurd q (by decide))
        obtain ⟨n, hn99, ez⟩ := sm_of c48.1 ((lt_succ_iff (a := 99)).mpr c48.2) (by decide)
        refine al_0 dX9_on_57 ?_
        refine cv_0 dX9_on_58 mm_RX9_424 sh_116 (Nat.le_of_ble_eq_true rfl) ⟨_, rfl, rfl⟩ (Nat.le_of_ble_eq_true rfl) (Nat.le_of_ble_eq_true rfl) (M_save (fun ms g1 g2 g3 => ?_))
        obtain ⟨htr, -, -⟩ := save_tr hB hw g1 g2 g3
        refine al_0 dX9_on_61 ?_
        refine il_1 dX9_on_62 ?_
        refine cv_1 dX9_on_63 mm_RX9_418 sh_116 (Nat.le_of_ble_eq_true rfl) ⟨_, rfl, rfl⟩ (Nat.le_of_ble_eq_true rfl) (Nat.le_of_ble_eq_true rfl) (M_goMinutes (T := T) (htr.1.cm hB.1) (by rw [htr.2.1]; exact hw) ez (by omega) (fun m2 hm2 => ?_))
        have ht2 := htr.ms hm2
        have hw2 := hw.mins (er := erA cl) n T w (by omega)
        have hgo := (ht2.gone hw2).1
        obtain ⟨N2, P2, R2, hJ2, -⟩ := ht2.n hw2
        obtain ⟨-, hP26, -, -, hpp2, -⟩ := hJ2
        have e1 : m2 116 1 = mi 116 1 := (ht2.1.2.1 1 (by omega))
        refine il_2 dX9_on_66 ?_
        refine R_if_ne (tgt := 77) dX9_on_67 (by decide) (fun c67 => ?_) (fun c67 => ?_)
        · refine il_2 dX9_on_77 ?_
          refine R_iconst (v := 1) dX9_on_78 (by decide) ?_
          refine R_icmp_ne (tgt := 89) dX9_on_79 (by decide) (fun c79 => ?_) (fun c79 => ?_)
          · refine il_2 dX9_on_89 ?_
            refine R_iconst (v := 2) dX9_on_90 (by decide) ?_
            refine R_icmp_ne (tgt := 101) dX9_on_91 (by decide) (fun c91 => ?_) (fun c91 => ?_)
            · refine il_2 dX9_on_101 ?_
              refine R_bipush (v := 20) dX9_on_102 (by decide) ?_
              refine R_icmp_ge (tgt := 119) dX9_on_104 (by decide) (fun c104 => ?_) (fun c104 => ?_)
              · have h20 : 20 ≤ x ∧ x < nI (20 + P) := by
                  have q := hx
                  have c104 : 20 ≤ x := by first | exact c104 | exact Int32.not_lt.mp c104
                  rcases q with q | q | q
                  · exact absurd (Int32.le_trans q.1 (Int32.le_refl _)) (fun _ => three_no q c67 c79 c91)
                  · exact absurd (Int32.lt_of_le_of_lt c104 (Int32.lt_of_lt_of_le q.2 ((sm_le_iff (b := 20) (by omega) (by decide)).mpr (by omega)))) (show ¬ (20 : Int32) < nI 20 by decide)
                  · exact q
                obtain ⟨i, hiP, exi, ex20⟩ := sub_of (k := 20) (P := P) (by omega) (by omega) h20.1 h20.2
                have hi6 : i < 6 := by omega
                refine al_0 dX9_on_119 ?_
                refine R_getfr (r := 121) dX9_on_120 fl_RX9_50 rfl sh_116 (Nat.le_of_ble_eq_true rfl) rf_116_13 ?_
                refine il_2 dX9_on_123 ?_
                refine R_bipush (v := 20) dX9_on_124 (by decide) ?_
                refine R_isub dX9_on_126 ?_
                refine R_iald dX9_on_127 sh_121 (Nat.le_of_ble_eq_true rfl) (rn_ixe ex20) hi6 ?_
                refine is_3 dX9_on_128 rfl ?_
                refine al_0 dX9_on_129 ?_
                refine cv_0 dX9_on_130 mm_RX9_427 sh_116 (Nat.le_of_ble_eq_true rfl) ⟨_, rfl, rfl⟩ (Nat.le_of_ble_eq_true rfl) (Nat.le_of_ble_eq_true rfl) (M_putBack ht2.1 hB.2.2.2.1 hB.2.2.2.2.1 hB.2.2.2.2.2 (fun m3 hm3 => ?_))
                refine il_3 dX9_on_133 ?_
                refine R_ireturn dX9_on_134 ⟨_, rfl, rfl⟩ ?_
                refine Eq.mp (congrArg (fun v => Q (some (.int v)) _) ?_) (h n m3 hx ez (by omega) hm3)
                rw [← ht2.2.1]
                unfold onV
                first
                  | (rw [if_pos c67, ht2.2.1]; exact hgo.symm)
                  | (rw [if_neg c67, if_pos c79]; rfl)
                  | (rw [if_neg c67, if_neg c79, if_pos c91]; rfl)
                  | (rw [if_neg c67, if_neg c79, if_neg c91, if_pos (show x < 20 by first | exact c104 | exact Int32.not_le.mp c104), show x - 10 = nI i from ex10, nnI (show i < 2 ^ 31 by omega), wM_p hpp2 hP26 (show i < P2 by have := sm_inj (by omega) (by omega) (hpp2.symm.trans (e1.trans hpp)); omega)]; rfl)
                  | (rw [if_neg c67, if_neg c79, if_neg c91, if_neg (show ¬ x < 20 by first | exact c104 | exact Int32.not_lt.mpr c104), show x - 20 = nI i from ex20, nnI (show i < 2 ^ 31 by omega), wM_p hpp2 hP26 (show i < P2 by have := sm_inj (by omega) (by omega) (hpp2.symm.trans (e1.trans hpp)); omega)]; rfl)
              · have h10 : 10 ≤ x ∧ x < nI (10 + P) := by
                  have q := hx
                  have c104 : x < 20 := by first | exact c104 | exact Int32.not_le.mp c104
                  rcases q with q | q | q
                  · exact absurd (Int32.le_trans q.1 (Int32.le_refl _)) (fun _ => three_no q c67 c79 c91)
                  · exact q
                  · exact absurd c104 (Int32.not_lt.mpr q.1)
                obtain ⟨i, hiP, exi, ex10⟩ := sub_of (k := 10) (P := P) (by omega) (by omega) h10.1 h10.2
                have hi6 : i < 6 := by omega
                refine al_0 dX9_on_107 ?_
                refine R_getfr (r := 120) dX9_on_108 fl_RX9_47 rfl sh_116 (Nat.le_of_ble_eq_true rfl) rf_116_12 ?_
                refine il_2 dX9_on_111 ?_
                refine R_bipush (v := 10) dX9_on_112 (by decide) ?_
                refine R_isub dX9_on_114 ?_
                refine R_iald dX9_on_115 sh_120 (Nat.le_of_ble_eq_true rfl) (rn_ixe ex10) hi6 ?_
                refine R_goto (tgt := 128) dX9_on_116 (by decide) ?_
                refine is_3 dX9_on_128 rfl ?_
                refine al_0 dX9_on_129 ?_
                refine cv_0 dX9_on_130 mm_RX9_427 sh_116 (Nat.le_of_ble_eq_true rfl) ⟨_, rfl, rfl⟩ (Nat.le_of_ble_eq_true rfl) (Nat.le_of_ble_eq_true rfl) (M_putBack ht2.1 hB.2.2.2.1 hB.2.2.2.2.1 hB.2.2.2.2.2 (fun m3 hm3 => ?_))
                refine il_3 dX9_on_133 ?_
                refine R_ireturn dX9_on_134 ⟨_, rfl, rfl⟩ ?_
                refine Eq.mp (congrArg (fun v => Q (some (.int v)) _) ?_) (h n m3 hx ez (by omega) hm3)
                rw [← ht2.2.1]
                unfold onV
                first
                  | (rw [if_pos c67, ht2.2.1]; exact hgo.symm)
                  | (rw [if_neg c67, if_pos c79]; rfl)
                  | (rw [if_neg c67, if_neg c79, if_pos c91]; rfl)
                  | (rw [if_neg c67, if_neg c79, if_neg c91, if_pos (show x < 20 by first | exact c104 | exact Int32.not_le.mp c104), show x - 10 = nI i from ex10, nnI (show i < 2 ^ 31 by omega), wM_p hpp2 hP26 (show i < P2 by have := sm_inj (by omega) (by omega) (hpp2.symm.trans (e1.trans hpp)); omega)]; rfl)
                  | (rw [if_neg c67, if_neg c79, if_neg c91, if_neg (show ¬ x < 20 by first | exact c104 | exact Int32.not_lt.mpr c104), show x - 20 = nI i from ex20, nnI (show i < 2 ^ 31 by omega), wM_p hpp2 hP26 (show i < P2 by have := sm_inj (by omega) (by omega) (hpp2.symm.trans (e1.trans hpp)); omega)]; rfl)
            · refine al_0 dX9_on_94 ?_
              refine R_getfi dX9_on_95 fl_RX9_28 rfl sh_116 (Nat.le_of_ble_eq_true rfl) ?_
              refine R_goto (tgt := 128) dX9_on_98 (by decide) ?_
              refine is_3 dX9_on_128 rfl ?_
              refine al_0 dX9_on_129 ?_
              refine cv_0 dX9_on_130 mm_RX9_427 sh_116 (Nat.le_of_ble_eq_true rfl) ⟨_, rfl, rfl⟩ (Nat.le_of_ble_eq_true rfl) (Nat.le_of_ble_eq_true rfl) (M_putBack ht2.1 hB.2.2.2.1 hB.2.2.2.2.1 hB.2.2.2.2.2 (fun m3 hm3 => ?_))
              refine il_3 dX9_on_133 ?_
              refine R_ireturn dX9_on_134 ⟨_, rfl, rfl⟩ ?_
              refine Eq.mp (congrArg (fun v => Q (some (.int v)) _) ?_) (h n m3 hx ez (by omega) hm3)
              rw [← ht2.2.1]
              unfold onV
              first
                | (rw [if_pos c67, ht2.2.1]; exact hgo.symm)
                | (rw [if_neg c67, if_pos c79]; rfl)
                | (rw [if_neg c67, if_neg c79, if_pos c91]; rfl)
                | (rw [if_neg c67, if_neg c79, if_neg c91, if_pos (show x < 20 by first | exact c104 | exact Int32.not_le.mp c104), show x - 10 = nI i from ex10, nnI (show i < 2 ^ 31 by omega), wM_p hpp2 hP26 (show i < P2 by have := sm_inj (by omega) (by omega) (hpp2.symm.trans (e1.trans hpp)); omega)]; rfl)
                | (rw [if_neg c67, if_neg c79, if_neg c91, if_neg (show ¬ x < 20 by first | exact c104 | exact Int32.not_lt.mpr c104), show x - 20 = nI i from ex20, nnI (show i < 2 ^ 31 by omega), wM_p hpp2 hP26 (show i < P2 by have := sm_inj (by omega) (by omega) (hpp2.symm.trans (e1.trans hpp)); omega)]; rfl)
          · refine al_0 dX9_on_82 ?_
            refine R_getfi dX9_on_83 fl_RX9_19 rfl sh_116 (Nat.le_of_ble_eq_true rfl) ?_
            refine R_goto (tgt := 128) dX9_on_86 (by decide) ?_
            refine is_3 dX9_on_128 rfl ?_
            refine al_0 dX9_on_129 ?_
            refine cv_0 dX9_on_130 mm_RX9_427 sh_116 (Nat.le_of_ble_eq_true rfl) ⟨_, rfl, rfl⟩ (Nat.le_of_ble_eq_true rfl) (Nat.le_of_ble_eq_true rfl) (M_putBack ht2.1 hB.2.2.2.1 hB.2.2.2.2.1 hB.2.2.2.2.2 (fun m3 hm3 => ?_))
            refine il_3 dX9_on_133 ?_
            refine R_ireturn dX9_on_134 ⟨_, rfl, rfl⟩ ?_
            refine Eq.mp (congrArg (fun v => Q (some (.int v)) _) ?_) (h n m3 hx ez (by omega) hm3)
            rw [← ht2.2.1]
            unfold onV
            first
              | (rw [if_pos c67, ht2.2.1]; exact hgo.symm)
              | (rw [if_neg c67, if_pos c79]; rfl)
              | (rw [if_neg c67, if_neg c79, if_pos c91]; rfl)
              | (rw [if_neg c67, if_neg c79, if_neg c91, if_pos (show x < 20 by first | exact c104 | exact Int32.not_le.mp c104), show x - 10 = nI i from ex10, nnI (show i < 2 ^ 31 by omega), wM_p hpp2 hP26 (show i < P2 by have := sm_inj (by omega) (by omega) (hpp2.symm.trans (e1.trans hpp)); omega)]; rfl)
              | (rw [if_neg c67, if_neg c79, if_neg c91, if_neg (show ¬ x < 20 by first | exact c104 | exact Int32.not_lt.mpr c104), show x - 20 = nI i from ex20, nnI (show i < 2 ^ 31 by omega), wM_p hpp2 hP26 (show i < P2 by have := sm_inj (by omega) (by omega) (hpp2.symm.trans (e1.trans hpp)); omega)]; rfl)
        · refine al_0 dX9_on_70 ?_
          refine R_getfi dX9_on_71 fl_RX9_25 rfl sh_116 (Nat.le_of_ble_eq_true rfl) ?_
          refine R_goto (tgt := 128) dX9_on_74 (by decide) ?_
          refine is_3 dX9_on_128 rfl ?_
          refine al_0 dX9_on_129 ?_
          refine cv_0 dX9_on_130 mm_RX9_427 sh_116 (Nat.le_of_ble_eq_true rfl) ⟨_, rfl, rfl⟩ (Nat.le_of_ble_eq_true rfl) (Nat.le_of_ble_eq_true rfl) (M_putBack ht2.1 hB.2.2.2.1 hB.2.2.2.2.1 hB.2.2.2.2.2 (fun m3 hm3 => ?_))
          refine il_3 dX9_on_133 ?_
          refine R_ireturn dX9_on_134 ⟨_, rfl, rfl⟩ ?_
          refine Eq.mp (congrArg (fun v => Q (some (.int v)) _) ?_) (h n m3 hx ez (by omega) hm3)
          rw [← ht2.2.1]
          unfold onV
          first
            | (rw [if_pos c67, ht2.2.1]; exact hgo.symm)
            | (rw [if_neg c67, if_pos c79]; rfl)
            | (rw [if_neg c67, if_neg c79, if_pos c91]; rfl)
            | (rw [if_neg c67, if_neg c79, if_neg c91, if_pos (show x < 20 by first | exact c104 | exact Int32.not_le.mp c104), show x - 10 = nI i from ex10, nnI (show i < 2 ^ 31 by omega), wM_p hpp2 hP26 (show i < P2 by have := sm_inj (by omega) (by omega) (hpp2.symm.trans (e1.trans hpp)); omega)]; rfl)
            | (rw [if_neg c67, if_neg c79, if_neg c91, if_neg (show ¬ x < 20 by first | exact c104 | exact Int32.not_lt.mpr c104), show x - 20 = nI i from ex20, nnI (show i < 2 ^ 31 by omega), wM_p hpp2 hP26 (show i < P2 by have := sm_inj (by omega) (by omega) (hpp2.symm.trans (e1.trans hpp)); omega)]; rfl)
      · refine R_if_ne (tgt := 57) dX9_on_51 (by decide) (fun q => absurd q (by decide)) (fun _ => ?_)
        refine R_bipush (v := -2) dX9_on_54 (by decide) ?_
        refine R_ireturn dX9_on_56 ⟨_, rfl, rfl⟩ ?_
        exact h2 hx c48
    · refine R_if_ne (tgt := 46) dX9_on_24 (by decide) (fun q => absurd q (by decide)) (fun _ => ?_)
      refine al_0 dX9_on_27 ?_
      refine il_2 dX9_on_28 ?_
      refine R_bipush (v := 20) dX9_on_29 (by decide) ?_
      refine R_bipush (v := 19) dX9_on_31 (by decide) ?_
      refine al_0 dX9_on_33 ?_
      refine R_getfi dX9_on_34 fl_RX9_13 rfl sh_116 (Nat.le_of_ble_eq_true rfl) ?_
      refine R_iadd dX9_on_37 ?_
      refine cv_3 dX9_on_38 mm_RX9_293 sh_116 (Nat.le_of_ble_eq_true rfl) ⟨_, rfl, rfl⟩ (Nat.le_of_ble_eq_true rfl) (Nat.le_of_ble_eq_true rfl) (M_in (fun c38 => ?_) (fun c38 => ?_))
      · refine R_if_ne (tgt := 46) dX9_on_41 (by decide) (fun _ => ?_) (fun q => absurd q (by decide))
        have hx : onOk P x := by first | exact Or.inl c4 | exact Or.inr (Or.inl ((key10 x).mp c21)) | exact Or.inr (Or.inr ((key20 x).mp c38))
        refine al_0 dX9_on_46 ?_
        refine il_1 dX9_on_47 ?_
        refine cv_1 dX9_on_48 mm_RX9_421 sh_116 (Nat.le_of_ble_eq_true rfl) ⟨_, rfl, rfl⟩ (Nat.le_of_ble_eq_true rfl) (Nat.le_of_ble_eq_true rfl) (M_isMinutes (fun c48 => ?_) (fun c48 => ?_))
        · refine R_if_ne (tgt := 57) dX9_on_51 (by decide) (fun _ => ?_) (fun q => absurd q (by decide))
          obtain ⟨n, hn99, ez⟩ := sm_of c48.1 ((lt_succ_iff (a := 99)).mpr c48.2) (by decide)
          refine al_0 dX9_on_57 ?_
          refine cv_0 dX9_on_58 mm_RX9_424 sh_116 (Nat.le_of_ble_eq_true rfl) ⟨_, rfl, rfl⟩ (Nat.le_of_ble_eq_true rfl) (Nat.le_of_ble_eq_true rfl) (M_save (fun ms g1 g2 g3 => ?_))
          obtain ⟨htr, -, -⟩ := save_tr hB hw g1 g2 g3
          refine al_0 dX9_on_61 ?_
          refine il_1 dX9_on_62 ?_
          refine cv_1 dX9_on_63 mm_RX9_418 sh_116 (Nat.le_of_ble_eq_true rfl) ⟨_, rfl, rfl⟩ (Nat.le_of_ble_eq_true rfl) (Nat.le_of_ble_eq_true rfl) (M_goMinutes (T := T) (htr.1.cm hB.1) (by rw [htr.2.1]; exact hw) ez (by omega) (fun m2 hm2 => ?_))
          have ht2 := htr.ms hm2
          have hw2 := hw.mins (er := erA cl) n T w (by omega)
          have hgo := (ht2.gone hw2).1
          obtain ⟨N2, P2, R2, hJ2, -⟩ := ht2.n hw2
          obtain ⟨-, hP26, -, -, hpp2, -⟩ := hJ2
          have e1 : m2 116 1 = mi 116 1 := (ht2.1.2.1 1 (by omega))
          refine il_2 dX9_on_66 ?_
          refine R_if_ne (tgt := 77) dX9_on_67 (by decide) (fun c67 => ?_) (fun c67 => ?_)
          · refine il_2 dX9_on_77 ?_
            refine R_iconst (v := 1) dX9_on_78 (by decide) ?_
            refine R_icmp_ne (tgt := 89) dX9_on_79 (by decide) (fun c79 => ?_) (fun c79 => ?_)
            · refine il_2 dX9_on_89 ?_
              refine R_iconst (v := 2) dX9_on_90 (by decide) ?_
              refine R_icmp_ne (tgt := 101) dX9_on_91 (by decide) (fun c91 => ?_) (fun c91 => ?_)
              · refine il_2 dX9_on_101 ?_
                refine R_bipush (v := 20) dX9_on_102 (by decide) ?_
                refine R_icmp_ge (tgt := 119) dX9_on_104 (by decide) (fun c104 => ?_) (fun c104 => ?_)
                · have h20 : 20 ≤ x ∧ x < nI (20 + P) := by
                    have q := hx
                    have c104 : 20 ≤ x := by first | exact c104 | exact Int32.not_lt.mp c104
                    rcases q with q | q | q
                    · exact absurd (Int32.le_trans q.1 (Int32.le_refl _)) (fun _ => three_no q c67 c79 c91)
                    · exact absurd (Int32.lt_of_le_of_lt c104 (Int32.lt_of_lt_of_le q.2 ((sm_le_iff (b := 20) (by omega) (by decide)).mpr (by omega)))) (show ¬ (20 : Int32) < nI 20 by decide)
                    · exact q
                  obtain ⟨i, hiP, exi, ex20⟩ := sub_of (k := 20) (P := P) (by omega) (by omega) h20.1 h20.2
                  have hi6 : i < 6 := by omega
                  refine al_0 dX9_on_119 ?_
                  refine R_getfr (r := 121) dX9_on_120 fl_RX9_50 rfl sh_116 (Nat.le_of_ble_eq_true rfl) rf_116_13 ?_
                  refine il_2 dX9_on_123 ?_
                  refine R_bipush (v := 20) dX9_on_124 (by decide) ?_
                  refine R_isub dX9_on_126 ?_
                  refine R_iald dX9_on_127 sh_121 (Nat.le_of_ble_eq_true rfl) (rn_ixe ex20) hi6 ?_
                  refine is_3 dX9_on_128 rfl ?_
                  refine al_0 dX9_on_129 ?_
                  refine cv_0 dX9_on_130 mm_RX9_427 sh_116 (Nat.le_of_ble_eq_true rfl) ⟨_, rfl, rfl⟩ (Nat.le_of_ble_eq_true rfl) (Nat.le_of_ble_eq_true rfl) (M_putBack ht2.1 hB.2.2.2.1 hB.2.2.2.2.1 hB.2.2.2.2.2 (fun m3 hm3 => ?_))
                  refine il_3 dX9_on_133 ?_
                  refine R_ireturn dX9_on_134 ⟨_, rfl, rfl⟩ ?_
                  refine Eq.mp (congrArg (fun v => Q (some (.int v)) _) ?_) (h n m3 hx ez (by omega) hm3)
                  rw [← ht2.2.1]
                  unfold onV
                  first
                    | (rw [if_pos c67, ht2.2.1]; exact hgo.symm)
                    | (rw [if_neg c67, if_pos c79]; rfl)
                    | (rw [if_neg c67, if_neg c79, if_pos c91]; rfl)
                    | (rw [if_neg c67, if_neg c79, if_neg c91, if_pos (show x < 20 by first | exact c104 | exact Int32.not_le.mp c104), show x - 10 = nI i from ex10, nnI (show i < 2 ^ 31 by omega), wM_p hpp2 hP26 (show i < P2 by have := sm_inj (by omega) (by omega) (hpp2.symm.trans (e1.trans hpp)); omega)]; rfl)
                    | (rw [if_neg c67, if_neg c79, if_neg c91, if_neg (show ¬ x < 20 by first | exact c104 | exact Int32.not_lt.mpr c104), show x - 20 = nI i from ex20, nnI (show i < 2 ^ 31 by omega), wM_p hpp2 hP26 (show i < P2 by have := sm_inj (by omega) (by omega) (hpp2.symm.trans (e1.trans hpp)); omega)]; rfl)
                · have h10 : 10 ≤ x ∧ x < nI (10 + P) := by
                    have q := hx
                    have c104 : x < 20 := by first | exact c104 | exact Int32.not_le.mp c104
                    rcases q with q | q | q
                    · exact absurd (Int32.le_trans q.1 (Int32.le_refl _)) (fun _ => three_no q c67 c79 c91)
                    · exact q
                    · exact absurd c104 (Int32.not_lt.mpr q.1)
                  obtain ⟨i, hiP, exi, ex10⟩ := sub_of (k := 10) (P := P) (by omega) (by omega) h10.1 h10.2
                  have hi6 : i < 6 := by omega
                  refine al_0 dX9_on_107 ?_
                  refine R_getfr (r := 120) dX9_on_108 fl_RX9_47 rfl sh_116 (Nat.le_of_ble_eq_true rfl) rf_116_12 ?_
                  refine il_2 dX9_on_111 ?_
                  refine R_bipush (v := 10) dX9_on_112 (by decide) ?_
                  refine R_isub dX9_on_114 ?_
                  refine R_iald dX9_on_115 sh_120 (Nat.le_of_ble_eq_true rfl) (rn_ixe ex10) hi6 ?_
                  refine R_goto (tgt := 128) dX9_on_116 (by decide) ?_
                  refine is_3 dX9_on_128 rfl ?_
                  refine al_0 dX9_on_129 ?_
                  refine cv_0 dX9_on_130 mm_RX9_427 sh_116 (Nat.le_of_ble_eq_true rfl) ⟨_, rfl, rfl⟩ (Nat.le_of_ble_eq_true rfl) (Nat.le_of_ble_eq_true rfl) (M_putBack ht2.1 hB.2.2.2.1 hB.2.2.2.2.1 hB.2.2.2.2.2 (fun m3 hm3 => ?_))
                  refine il_3 dX9_on_133 ?_
                  refine R_ireturn dX9_on_134 ⟨_, rfl, rfl⟩ ?_
                  refine Eq.mp (congrArg (fun v => Q (some (.int v)) _) ?_) (h n m3 hx ez (by omega) hm3)
                  rw [← ht2.2.1]
                  unfold onV
                  first
                    | (rw [if_pos c67, ht2.2.1]; exact hgo.symm)
                    | (rw [if_neg c67, if_pos c79]; rfl)
                    | (rw [if_neg c67, if_neg c79, if_pos c91]; rfl)
                    | (rw [if_neg c67, if_neg c79, if_neg c91, if_pos (show x < 20 by first | exact c104 | exact Int32.not_le.mp c104), show x - 10 = nI i from ex10, nnI (show i < 2 ^ 31 by omega), wM_p hpp2 hP26 (show i < P2 by have := sm_inj (by omega) (by omega) (hpp2.symm.trans (e1.trans hpp)); omega)]; rfl)
                    | (rw [if_neg c67, if_neg c79, if_neg c91, if_neg (show ¬ x < 20 by first | exact c104 | exact Int32.not_lt.mpr c104), show x - 20 = nI i from ex20, nnI (show i < 2 ^ 31 by omega), wM_p hpp2 hP26 (show i < P2 by have := sm_inj (by omega) (by omega) (hpp2.symm.trans (e1.trans hpp)); omega)]; rfl)
              · refine al_0 dX9_on_94 ?_
                refine R_getfi dX9_on_95 fl_RX9_28 rfl sh_116 (Nat.le_of_ble_eq_true rfl) ?_
                refine R_goto (tgt := 128) dX9_on_98 (by decide) ?_
                refine is_3 dX9_on_128 rfl ?_
                refine al_0 dX9_on_129 ?_
                refine cv_0 dX9_on_130 mm_RX9_427 sh_116 (Nat.le_of_ble_eq_true rfl) ⟨_, rfl, rfl⟩ (Nat.le_of_ble_eq_true rfl) (Nat.le_of_ble_eq_true rfl) (M_putBack ht2.1 hB.2.2.2.1 hB.2.2.2.2.1 hB.2.2.2.2.2 (fun m3 hm3 => ?_))
                refine il_3 dX9_on_133 ?_
                refine R_ireturn dX9_on_134 ⟨_, rfl, rfl⟩ ?_
                refine Eq.mp (congrArg (fun v => Q (some (.int v)) _) ?_) (h n m3 hx ez (by omega) hm3)
                rw [← ht2.2.1]
                unfold onV
                first
                  | (rw [if_pos c67, ht2.2.1]; exact hgo.symm)
                  | (rw [if_neg c67, if_pos c79]; rfl)
                  | (rw [if_neg c67, if_neg c79, if_pos c91]; rfl)
                  | (rw [if_neg c67, if_neg c79, if_neg c91, if_pos (show x < 20 by first | exact c104 | exact Int32.not_le.mp c104), show x - 10 = nI i from ex10, nnI (show i < 2 ^ 31 by omega), wM_p hpp2 hP26 (show i < P2 by have := sm_inj (by omega) (by omega) (hpp2.symm.trans (e1.trans hpp)); omega)]; rfl)
                  | (rw [if_neg c67, if_neg c79, if_neg c91, if_neg (show ¬ x < 20 by first | exact c104 | exact Int32.not_lt.mpr c104), show x - 20 = nI i from ex20, nnI (show i < 2 ^ 31 by omega), wM_p hpp2 hP26 (show i < P2 by have := sm_inj (by omega) (by omega) (hpp2.symm.trans (e1.trans hpp)); omega)]; rfl)
            · refine al_0 dX9_on_82 ?_
              refine R_getfi dX9_on_83 fl_RX9_19 rfl sh_116 (Nat.le_of_ble_eq_true rfl) ?_
              refine R_goto (tgt := 128) dX9_on_86 (by decide) ?_
              refine is_3 dX9_on_128 rfl ?_
              refine al_0 dX9_on_129 ?_
              refine cv_0 dX9_on_130 mm_RX9_427 sh_116 (Nat.le_of_ble_eq_true rfl) ⟨_, rfl, rfl⟩ (Nat.le_of_ble_eq_true rfl) (Nat.le_of_ble_eq_true rfl) (M_putBack ht2.1 hB.2.2.2.1 hB.2.2.2.2.1 hB.2.2.2.2.2 (fun m3 hm3 => ?_))
              refine il_3 dX9_on_133 ?_
              refine R_ireturn dX9_on_134 ⟨_, rfl, rfl⟩ ?_
              refine Eq.mp (congrArg (fun v => Q (some (.int v)) _) ?_) (h n m3 hx ez (by omega) hm3)
              rw [← ht2.2.1]
              unfold onV
              first
                | (rw [if_pos c67, ht2.2.1]; exact hgo.symm)
                | (rw [if_neg c67, if_pos c79]; rfl)
                | (rw [if_neg c67, if_neg c79, if_pos c91]; rfl)
                | (rw [if_neg c67, if_neg c79, if_neg c91, if_pos (show x < 20 by first | exact c104 | exact Int32.not_le.mp c104), show x - 10 = nI i from ex10, nnI (show i < 2 ^ 31 by omega), wM_p hpp2 hP26 (show i < P2 by have := sm_inj (by omega) (by omega) (hpp2.symm.trans (e1.trans hpp)); omega)]; rfl)
                | (rw [if_neg c67, if_neg c79, if_neg c91, if_neg (show ¬ x < 20 by first | exact c104 | exact Int32.not_lt.mpr c104), show x - 20 = nI i from ex20, nnI (show i < 2 ^ 31 by omega), wM_p hpp2 hP26 (show i < P2 by have := sm_inj (by omega) (by omega) (hpp2.symm.trans (e1.trans hpp)); omega)]; rfl)
          · refine al_0 dX9_on_70 ?_
            refine R_getfi dX9_on_71 fl_RX9_25 rfl sh_116 (Nat.le_of_ble_eq_true rfl) ?_
            refine R_goto (tgt := 128) dX9_on_74 (by decide) ?_
            refine is_3 dX9_on_128 rfl ?_
            refine al_0 dX9_on_129 ?_
            refine cv_0 dX9_on_130 mm_RX9_427 sh_116 (Nat.le_of_ble_eq_true rfl) ⟨_, rfl, rfl⟩ (Nat.le_of_ble_eq_true rfl) (Nat.le_of_ble_eq_true rfl) (M_putBack ht2.1 hB.2.2.2.1 hB.2.2.2.2.1 hB.2.2.2.2.2 (fun m3 hm3 => ?_))
            refine il_3 dX9_on_133 ?_
            refine R_ireturn dX9_on_134 ⟨_, rfl, rfl⟩ ?_
            refine Eq.mp (congrArg (fun v => Q (some (.int v)) _) ?_) (h n m3 hx ez (by omega) hm3)
            rw [← ht2.2.1]
            unfold onV
            first
              | (rw [if_pos c67, ht2.2.1]; exact hgo.symm)
              | (rw [if_neg c67, if_pos c79]; rfl)
              | (rw [if_neg c67, if_neg c79, if_pos c91]; rfl)
              | (rw [if_neg c67, if_neg c79, if_neg c91, if_pos (show x < 20 by first | exact c104 | exact Int32.not_le.mp c104), show x - 10 = nI i from ex10, nnI (show i < 2 ^ 31 by omega), wM_p hpp2 hP26 (show i < P2 by have := sm_inj (by omega) (by omega) (hpp2.symm.trans (e1.trans hpp)); omega)]; rfl)
              | (rw [if_neg c67, if_neg c79, if_neg c91, if_neg (show ¬ x < 20 by first | exact c104 | exact Int32.not_lt.mpr c104), show x - 20 = nI i from ex20, nnI (show i < 2 ^ 31 by omega), wM_p hpp2 hP26 (show i < P2 by have := sm_inj (by omega) (by omega) (hpp2.symm.trans (e1.trans hpp)); omega)]; rfl)
        · refine R_if_ne (tgt := 57) dX9_on_51 (by decide) (fun q => absurd q (by decide)) (fun _ => ?_)
          refine R_bipush (v := -2) dX9_on_54 (by decide) ?_
          refine R_ireturn dX9_on_56 ⟨_, rfl, rfl⟩ ?_
          exact h2 hx c48
      · refine R_if_ne (tgt := 46) dX9_on_41 (by decide) (fun q => absurd q (by decide)) (fun _ => ?_)
        refine R_iconst (v := -1) dX9_on_44 (by decide) ?_
        refine R_ireturn dX9_on_45 ⟨_, rfl, rfl⟩ ?_
        exact h1 (fun q => q.elim c4 (fun q => q.elim (fun q => c21 ((key10 x).mpr q)) (fun q => c38 ((key20 x).mpr q))))

set_option maxHeartbeats 4000000 in
theorem L_clear9 {G : rn_G} {d : Nat} {κ : Nat × Nat} {Q : Option Value → rn_S → Prop} {mi : Nat → Nat → Int32} {ml : Nat → Nat → Int64} {D : Nat → Nat} {T : Nat} {cl : CL} {w : WD} (hB : MB mi cl w) (hw : WJ T w) (hT : T + 200 < 2 ^ 30) (V : Int32) (h : ∀ m, ME mi m → Q (some (.int V)) (m, ml, RF D, 164)) : ∀ (n i : Nat) (x : Int32) (m : Nat → Nat → Int32) (v : WD), n + i = 100 → x = nI i → TR mi m cl v → WJ (T + i) v → clF (erA cl) n i v = V → Run G (d + 7) M_X9_clear 6 [.ref 116, .int x] [] (m, ml, RF D, 164) κ Q := by
  intro n
  induction n with
  | zero =>
    intro i x m v hni hx ht hwv hV
    obtain rfl : i = 100 := by omega
    have ht2 := ht
    unfold clF at hV
    refine il_1 dX9_clear_6 ?_
    refine R_bipush (v := 100) dX9_clear_7 (by decide) ?_
    refine R_icmp_ge (tgt := 33) dX9_clear_9 (by decide) (fun c9 => ?_) (fun q => absurd q (not_not_intro (by rw [hx]; decide)))
    refine al_0 dX9_clear_33 ?_
    refine cv_0 dX9_clear_34 mm_RX9_427 sh_116 (Nat.le_of_ble_eq_true rfl) ⟨_, rfl, rfl⟩ (Nat.le_of_ble_eq_true rfl) (Nat.le_of_ble_eq_true rfl) (M_putBack ht2.1 hB.2.2.2.1 hB.2.2.2.2.1 hB.2.2.2.2.2 (fun m3 hm3 => ?_))
    refine il_1 dX9_clear_37 ?_
    refine R_bipush (v := 100) dX9_clear_38 (by decide) ?_
    refine R_icmp_ge (tgt := 47) dX9_clear_40 (by decide) (fun c40 => ?_) (fun q => absurd q (not_not_intro (by rw [hx]; decide)))
    refine R_bipush (v := -5) dX9_clear_47 (by decide) ?_
    refine R_ireturn dX9_clear_49 ⟨_, rfl, rfl⟩ ?_
    rw [hV]
    exact h m3 hm3
  | succ n ih =>
    intro i x m v hni hx ht hwv hV
    have ht2 := ht
    unfold clF at hV
    obtain ⟨N, P, R, ⟨hN, hP6, hR, hg, hpp, hrr, -⟩, -⟩ := ht.n hwv
    have hgo := (ht.gone hwv).1
    have h2 : v.1 2 = nI P := by rw [← ht.2.1]; exact hpp
    have hall := all_ins h2 hP6
    rw [← hpp, ← hgo] at hall
    refine il_1 dX9_clear_6 ?_
    refine R_bipush (v := 100) dX9_clear_7 (by decide) ?_
    refine R_icmp_ge (tgt := 33) dX9_clear_9 (by decide) (fun q => absurd q (by rw [hx]; exact nI_ge (b := 100) (by omega) (by decide))) (fun c9 => ?_)
    refine al_0 dX9_clear_12 ?_
    refine R_getfi dX9_clear_13 fl_RX9_25 rfl sh_116 (Nat.le_of_ble_eq_true rfl) ?_
    refine al_0 dX9_clear_16 ?_
    refine cv_0 dX9_clear_17 mm_RX9_430 sh_116 (Nat.le_of_ble_eq_true rfl) ⟨_, rfl, rfl⟩ (Nat.le_of_ble_eq_true rfl) (Nat.le_of_ble_eq_true rfl) (M_all ?_)
    refine R_icmp_eq (tgt := 33) dX9_clear_20 (by decide) (fun c20 => ?_) (fun c20 => ?_)
    · refine al_0 dX9_clear_33 ?_
      refine cv_0 dX9_clear_34 mm_RX9_427 sh_116 (Nat.le_of_ble_eq_true rfl) ⟨_, rfl, rfl⟩ (Nat.le_of_ble_eq_true rfl) (Nat.le_of_ble_eq_true rfl) (M_putBack ht2.1 hB.2.2.2.1 hB.2.2.2.2.1 hB.2.2.2.2.2 (fun m3 hm3 => ?_))
      refine il_1 dX9_clear_37 ?_
      refine R_bipush (v := 100) dX9_clear_38 (by decide) ?_
      refine R_icmp_ge (tgt := 47) dX9_clear_40 (by decide) (fun q => absurd q (by rw [hx]; exact nI_ge (b := 100) (by omega) (by decide))) (fun c40 => ?_)
      refine il_1 dX9_clear_43 ?_
      refine R_goto (tgt := 49) dX9_clear_44 (by decide) ?_
      refine R_ireturn dX9_clear_49 ⟨_, rfl, rfl⟩ ?_
      rw [if_pos (hall.mp c20), ← hx] at hV
      rw [hV]
      exact h m3 hm3
    · refine al_0 dX9_clear_23 ?_
      refine cv_0 dX9_clear_24 mm_RX9_415 sh_116 (Nat.le_of_ble_eq_true rfl) ⟨_, rfl, rfl⟩ (Nat.le_of_ble_eq_true rfl) (Nat.le_of_ble_eq_true rfl) (M_goMinute (T := T + i) (ht.1.cm hB.1) (by rw [ht.2.1]; exact hwv) (by omega) (fun m2 q1 q2 q3 => ?_))
      refine ii_1 (v := _ + 1) dX9_clear_27 rfl (by rfl) ?_
      refine R_goto (tgt := 6) dX9_clear_30 (by decide) ?_
      rw [if_neg (fun q => c20 (hall.mpr q))] at hV
      exact ih (i + 1) _ m2 (minuteW (erA cl) v) (by omega) (by rw [hx]; exact sm_add i 1) ⟨ht.1.mf q1, by rw [q2, ht.2.1], fun j hj h32 => by rw [q1.2 1 (by omega)] at hj; rw [q3 j hj h32]; exact ht.2.2 j hj h32⟩ (hwv.minute (by omega)) hV

set_option maxHeartbeats 4000000 in
theorem M_clear {G : rn_G} {d : Nat} {κ : Nat × Nat} {Q : Option Value → rn_S → Prop} {mi : Nat → Nat → Int32} {ml : Nat → Nat → Int64} {D : Nat → Nat} {T : Nat} {cl : CL} {w : WD} (hB : MB mi cl w) (hw : WJ T w) (hT : T + 200 < 2 ^ 30) (h : ∀ m, ME mi m → Q (some (.int (clF (erA cl) 100 0 w))) (m, ml, RF D, 164)) : Call G (d + 7) M_X9_clear [.ref 116] (mi, ml, RF D, 164) κ Q := by
  show Run G _ M_X9_clear 0 [.ref 116, .null] [] _ _ _
  refine al_0 dX9_clear_0 ?_
  refine cv_0 dX9_clear_1 mm_RX9_424 sh_116 (Nat.le_of_ble_eq_true rfl) ⟨_, rfl, rfl⟩ (Nat.le_of_ble_eq_true rfl) (Nat.le_of_ble_eq_true rfl) (M_save (fun ms g1 g2 g3 => ?_))
  obtain ⟨htr, -, -⟩ := save_tr hB hw g1 g2 g3
  refine R_iconst (v := 0) dX9_clear_4 (by decide) ?_
  refine is_1 dX9_clear_5 rfl ?_
  exact L_clear9 hB hw hT _ h 100 0 0 ms w (by omega) nI_0.symm htr hw rfl

set_option maxHeartbeats 4000000 in
theorem M_stay {G : rn_G} {d : Nat} {κ : Nat × Nat} {Q : Option Value → rn_S → Prop} {mi : Nat → Nat → Int32} {ml : Nat → Nat → Int64} {D : Nat → Nat} {T : Nat} {cl : CL} {w : WD} (hB : MB mi cl w) (hw : WJ T w) (hT : T + 200 < 2 ^ 30) {P : Nat} (hpp : mi 116 1 = nI P) (hP : P ≤ 6) (h : ∀ m, ME mi m → Q (some (.int ((((1 : Int32) <<< (mi 116 1 &&& 31)) - 1) &&& (outW (minsW (erA cl) 99 w) ^^^ -1)))) (m, ml, RF D, 164)) : Call G (d + 9) M_X9_stay [.ref 116] (mi, ml, RF D, 164) κ Q := by
  show Run G _ M_X9_stay 0 [.ref 116] [] _ _ _
  refine al_0 dX9_stay_0 ?_
  refine cv_0 dX9_stay_1 mm_RX9_430 sh_116 (Nat.le_of_ble_eq_true rfl) ⟨_, rfl, rfl⟩ (Nat.le_of_ble_eq_true rfl) (Nat.le_of_ble_eq_true rfl) (M_all ?_)
  refine al_0 dX9_stay_4 ?_
  refine R_bipush (v := 99) dX9_stay_5 (by decide) ?_
  refine R_iconst (v := 0) dX9_stay_7 (by decide) ?_
  refine cv_2 dX9_stay_8 mm_RX9_433 sh_116 (Nat.le_of_ble_eq_true rfl) ⟨_, rfl, rfl⟩ (Nat.le_of_ble_eq_true rfl) (Nat.le_of_ble_eq_true rfl) (M_on hB hw hT hpp hP (fun q => absurd (Or.inl ⟨by decide, by decide⟩) q) (fun _ q => absurd ⟨by decide, by decide⟩ q) (fun n m4 _ e99 _ hm4 => ?_))
  refine R_iconst (v := -1) dX9_stay_11 (by decide) ?_
  refine R_ixor dX9_stay_12 ?_
  refine R_iand dX9_stay_13 ?_
  refine R_ireturn dX9_stay_14 ⟨_, rfl, rfl⟩ ?_
  have e99b : n = 99 := (sm_inj (b := n) (a := 99) (by decide) (by omega) e99).symm
  rw [e99b, show ∀ v, onV v 0 = outW v from fun v => if_pos rfl]
  exact h m4 hm4
