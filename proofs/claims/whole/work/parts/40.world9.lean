/-! the reference's world after each call that changes it; ranges kept; the answers -/
theorem b_clr0 {s : Int32} {N : Nat} (hN : N < 32) (h : bt s N = false) : clrB s (nI N) = s := by
  refine b_ext (fun j hj => ?_)
  rw [bt_clr hN hj]
  by_cases e : j = N
  · subst e; rw [h]; rfl
  · simp [e]
theorem MB.of {mi M : Nat → Nat → Int32} {cl : CL} {w w' : WD} (h : MB mi cl w) (hw : wM M cl = w') (g17 : M 116 17 = mi 116 17) (g : ∀ a, 125 ≤ a → a ≤ 130 → M a = mi a) (hg : ∀ i, nn (M 116 1) ≤ i → i < 32 → bt (M 116 5) i = false) (g3 : ∀ f, 33 ≤ f → f < 36 → M 116 f = mi 116 f) : MB M cl w' := by
  obtain ⟨h1, h2, h3, h4, h5, h6⟩ := h
  exact ⟨h1.ext g17 (fun a a1 a2 => g a (by omega) (by omega)), hw, hg, by rw [g3 33 (by omega) (by omega)]; exact h4, by rw [g3 34 (by omega) (by omega)]; exact h5, by rw [g3 35 (by omega) (by omega)]; exact h6⟩
theorem wM_gate {mi M : Nat → Nat → Int32} {cl : CL} {N : Nat} {pl : Int32} (hg : mi 116 0 = nI N) (hN : N < 6) (eb : ∀ f, M 116 f = if f = 0 then nI N + 1 else mi 116 f) (eb1 : ∀ f, M 117 f = if f = N then pl else mi 117 f) (ea : ∀ a, a ≠ 116 → a ≠ 117 → M a = mi a) : wM M cl = gateW pl (wM mi cl) := by
  have hn : nn (mi 116 0) = N := by rw [hg]; exact nI_clamp (by omega)
  have ep : ∀ i, pM M i = pM mi i := fun i => pM_ext (by rw [eb]; rfl) (by rw [eb]; rfl) (fun a a1 a2 _ => ea a (by omega) (by omega)) (by rw [ea 121 (by decide) (by decide)])
  refine Prod.ext (funext fun j => ?_) (Prod.ext (funext fun j => ?_) (Prod.ext (funext fun j => ?_) (funext fun i => ?_)))
  · show sM M cl j = if j = 0 then mi 116 0 + 1 else sM mi cl j
    unfold sM
    match j with
    | 0 => exact (eb 0).trans (by rw [if_pos rfl, if_pos rfl, hg])
    | 1 | 2 | 3 | 4 | 5 | 6 | 7 | 8 | 9 => simp [eb]
    | n + 10 => simp
  · show (if j < nn (M 116 0) then M 117 j else 0) = if j = nn (mi 116 0) then pl else if j < nn (mi 116 0) then mi 117 j else 0
    rw [eb, if_pos rfl, hn, show nI N + 1 = nI (N + 1) from sm_add N 1, show nn (nI (N + 1)) = N + 1 from nI_clamp (by omega), eb1]
    by_cases h1 : j = N
    · rw [if_pos (by omega), if_pos h1, if_pos h1]
    · rw [if_neg h1, if_neg h1]
      by_cases h2 : j < N
      · rw [if_pos (by omega), if_pos h2]
      · rw [if_neg (by omega), if_neg h2]
  · show (if j < nn (M 116 8) then M 123 j else 0) = if j < nn (mi 116 8) then mi 123 j else 0
    rw [eb, if_neg (show ¬ (8 : Nat) = 0 by decide), ea 123 (by decide) (by decide)]
  · show (if i < nn (M 116 1) then pM M i else fun _ => 0) = if i < nn (mi 116 1) then pM mi i else fun _ => 0
    rw [eb, if_neg (show ¬ (1 : Nat) = 0 by decide), ep]
theorem wM_round {mi M : Nat → Nat → Int32} {cl : CL} {N : Nat} {g : Int32} (hg : mi 116 8 = nI N) (hN : N < 6) (eb : ∀ f, M 116 f = if f = 8 then nI N + 1 else mi 116 f) (eb1 : ∀ f, M 123 f = if f = N then g else mi 123 f) (ea : ∀ a, a ≠ 116 → a ≠ 123 → M a = mi a) : wM M cl = roundW g (wM mi cl) := by
  have hn : nn (mi 116 8) = N := by rw [hg]; exact nI_clamp (by omega)
  have ep : ∀ i, pM M i = pM mi i := fun i => pM_ext (by rw [eb]; rfl) (by rw [eb]; rfl) (fun a a1 a2 _ => ea a (by omega) (by omega)) (by rw [ea 121 (by decide) (by decide)])
  refine Prod.ext (funext fun j => ?_) (Prod.ext (funext fun j => ?_) (Prod.ext (funext fun j => ?_) (funext fun i => ?_)))
  · show sM M cl j = if j = 4 then mi 116 8 + 1 else sM mi cl j
    unfold sM
    match j with
    | 4 => exact (eb 8).trans (by rw [if_pos rfl, if_pos rfl, hg])
    | 0 | 1 | 2 | 3 | 5 | 6 | 7 | 8 | 9 => simp [eb]
    | n + 10 => simp
  · show (if j < nn (M 116 0) then M 117 j else 0) = if j < nn (mi 116 0) then mi 117 j else 0
    rw [eb, if_neg (show ¬ (0 : Nat) = 8 by decide), ea 117 (by decide) (by decide)]
  · show (if j < nn (M 116 8) then M 123 j else 0) = if j = nn (mi 116 8) then g else if j < nn (mi 116 8) then mi 123 j else 0
    rw [eb, if_pos rfl, hn, show nI N + 1 = nI (N + 1) from sm_add N 1, show nn (nI (N + 1)) = N + 1 from nI_clamp (by omega), eb1]
    by_cases h1 : j = N
    · rw [if_pos (by omega), if_pos h1, if_pos h1]
    · rw [if_neg h1, if_neg h1]
      by_cases h2 : j < N
      · rw [if_pos (by omega), if_pos h2]
      · rw [if_neg (by omega), if_neg h2]
  · show (if i < nn (M 116 1) then pM M i else fun _ => 0) = if i < nn (mi 116 1) then pM mi i else fun _ => 0
    rw [eb, if_neg (show ¬ (1 : Nat) = 8 by decide), ep]
theorem wM_end {mi M : Nat → Nat → Int32} {cl : CL} (eb : ∀ f, M 116 f = if f = 6 then 0 else if f = 7 then 0 else if f = 8 then 0 else mi 116 f) (ea : ∀ a, a ≠ 116 → M a = mi a) : wM M cl = endW (wM mi cl) := by
  have ep : ∀ i, pM M i = pM mi i := fun i => pM_ext (by rw [eb]; rfl) (by rw [eb]; rfl) (fun a a1 a2 _ => ea a (by omega)) (by rw [ea 121 (by decide)])
  refine Prod.ext (funext fun j => ?_) (Prod.ext (funext fun j => ?_) (Prod.ext (funext fun j => ?_) (funext fun i => ?_)))
  · show sM M cl j = if j = 3 then 0 else if j = 4 then 0 else if j = 5 then 0 else sM mi cl j
    unfold sM
    match j with
    | 0 | 1 | 2 | 3 | 4 | 5 | 6 | 7 | 8 | 9 => simp [eb]
    | n + 10 => simp
  · show (if j < nn (M 116 0) then M 117 j else 0) = if j < nn (mi 116 0) then mi 117 j else 0
    rw [eb, ea 117 (by decide)]
    simp
  · show (if j < nn (M 116 8) then M 123 j else 0) = 0
    rw [eb]
    simp [nn]
  · show (if i < nn (M 116 1) then pM M i else fun _ => 0) = if i < nn (mi 116 1) then pM mi i else fun _ => 0
    rw [eb, ep]
    simp
theorem wM_person {mi M : Nat → Nat → Int32} {cl : CL} {N : Nat} {x y z : Int32} (hp : mi 116 1 = nI N) (hN : N < 6) (e0 : ∀ f, f ≠ 1 → f ≠ 4 → f ≠ 5 → M 116 f = mi 116 f) (e1 : M 116 1 = nI N + 1) (e4 : ∀ j, j < 32 → bt (M 116 4) j = (bt (mi 116 4) j && !decide (j = N)) ∧ bt (M 116 5) j = (bt (mi 116 5) j && !decide (j = N))) (ea : ∀ a, (a < 118 ∨ 122 < a) → a ≠ 116 → M a = mi a) (eo : ∀ i, i ≠ N → M 118 i = mi 118 i ∧ M 119 i = mi 119 i ∧ M 120 i = mi 120 i ∧ M 121 i = mi 121 i) (er : ∀ j, (j < 4 * N ∨ 4 * N + 4 ≤ j) → M 122 j = mi 122 j) (en : M 118 N = x ∧ M 119 N = y ∧ M 120 N = z ∧ M 121 N = 0) (en2 : ∀ j, j < 4 → M 122 (4 * N + j) = 0) : wM M cl = personW x y z (wM mi cl) := by
  have hn : nn (mi 116 1) = N := by rw [hp]; exact nI_clamp (by omega)
  refine Prod.ext (funext fun j => ?_) (Prod.ext (funext fun j => ?_) (Prod.ext (funext fun j => ?_) (funext fun u => ?_)))
  · show sM M cl j = if j = 2 then mi 116 1 + 1 else sM mi cl j
    unfold sM
    match j with
    | 2 => exact e1.trans (by rw [if_pos rfl, hp])
    | 0 | 1 | 3 | 4 | 5 | 6 | 7 | 8 | 9 => simp [e0]
    | n + 10 => simp
  · show (if j < nn (M 116 0) then M 117 j else 0) = if j < nn (mi 116 0) then mi 117 j else 0
    rw [e0 0 (by decide) (by decide) (by decide), ea 117 (by omega) (by decide)]
  · show (if j < nn (M 116 8) then M 123 j else 0) = if j < nn (mi 116 8) then mi 123 j else 0
    rw [e0 8 (by decide) (by decide) (by decide), ea 123 (by omega) (by decide)]
  · show (if u < nn (M 116 1) then pM M u else fun _ => 0) = if u = nn (mi 116 1) then newP x y z else if u < nn (mi 116 1) then pM mi u else fun _ => 0
    rw [e1, hn, show nI N + 1 = nI (N + 1) from sm_add N 1, show nn (nI (N + 1)) = N + 1 from nI_clamp (by omega)]
    by_cases h1 : u = N
    · subst h1
      rw [if_pos (by omega), if_pos rfl]
      funext f
      unfold pM newP
      rw [en.1, en.2.1, en.2.2.1, en.2.2.2, bitD_bt (by omega), bitD_bt (by omega), (e4 u (by omega)).1, (e4 u (by omega)).2]
      by_cases f0 : f = 0
      · rw [if_pos f0, if_pos f0]
      · rw [if_neg f0, if_neg f0]
        by_cases f1 : f = 1
        · rw [if_pos f1, if_pos f1]
        · rw [if_neg f1, if_neg f1]
          by_cases f2 : f = 2
          · rw [if_pos f2, if_pos f2]
          · rw [if_neg f2, if_neg f2]
            by_cases f3 : f = 3
            · rw [if_pos f3]
            · rw [if_neg f3]
              by_cases f4 : f = 4
              · rw [if_pos f4]; simp
              · rw [if_neg f4]
                by_cases f5 : f = 5
                · rw [if_pos f5]; simp
                · rw [if_neg f5]
                  by_cases f10 : f < 10
                  · rw [if_pos f10]; exact en2 (f - 6) (by omega)
                  · rw [if_neg f10]
    · rw [if_neg h1]
      by_cases h2 : u < N
      · rw [if_pos (by omega), if_pos h2]
        funext f
        obtain ⟨o1, o2, o3, o4⟩ := eo u h1
        unfold pM
        rw [o1, o2, o3, o4, bitD_bt (by omega), bitD_bt (by omega), bitD_bt (by omega), bitD_bt (by omega), (e4 u (by omega)).1, (e4 u (by omega)).2]
        by_cases f10 : f < 10
        · by_cases f6 : f < 6
          · simp only [h1, decide_false, Bool.not_false, Bool.and_true]
            have : f = 0 ∨ f = 1 ∨ f = 2 ∨ f = 3 ∨ f = 4 ∨ f = 5 := by omega
            rcases this with rfl | rfl | rfl | rfl | rfl | rfl <;> rfl
          · rw [er (4 * u + (f - 6)) (by omega)]
            simp only [h1, decide_false, Bool.not_false, Bool.and_true]
        · simp only [h1, decide_false, Bool.not_false, Bool.and_true, if_neg f10]
      · rw [if_neg (by omega), if_neg h2]
/-- one person's rows -/
theorem wM_P {mi M : Nat → Nat → Int32} {cl : CL} {w : WD} {i N : Nat} {P : Nat → Int32} (h2 : wM mi cl = w) (hp : mi 116 1 = nI N) (hN : N ≤ 6) (hi : i < N) (hf : ∀ f, f ≠ 4 → f ≠ 5 → M 116 f = mi 116 f) (ha : ∀ a, a = 117 ∨ a = 118 ∨ a = 119 ∨ a = 123 → M a = mi a) (h4 : ∀ j, j < 32 → j ≠ i → bt (M 116 4) j = bt (mi 116 4) j ∧ bt (M 116 5) j = bt (mi 116 5) j) (hj : ∀ j, j ≠ i → M 120 j = mi 120 j ∧ M 121 j = mi 121 j) (hr : ∀ j, (j < 4 * i ∨ 4 * i + 4 ≤ j) → M 122 j = mi 122 j) (hP : ∀ f, pM M i f = P f) : wM M cl = upP w i P := by
  rw [← h2]
  refine wM_upP hp hN hi (fun f a b _ _ => hf f a b) (ha 117 (by omega)) (ha 123 (by omega)) (fun x hx hxi => ?_) hP
  funext f
  unfold pM
  rw [bitD_of (by omega) (h4 x (by omega) hxi).1, bitD_of (by omega) (h4 x (by omega) hxi).2, ha 118 (by omega), ha 119 (by omega), (hj x hxi).1, (hj x hxi).2]
  by_cases f10 : f < 10
  · by_cases f6 : f < 6
    · have : f = 0 ∨ f = 1 ∨ f = 2 ∨ f = 3 ∨ f = 4 ∨ f = 5 := by omega
      rcases this with rfl | rfl | rfl | rfl | rfl | rfl <;> rfl
    · rw [hr (4 * x + (f - 6)) (by omega)]
  · simp only [if_neg f10]
/-! ranges -/
theorem WJ.gate {T a : Nat} {w : WD} (h : WJ T w) (h6 : ¬ w.1 0 = 6) (ha : a < 30) : WJ T (gateW (nI a) w) := by
  obtain ⟨N, P, R, hN, hP, hR, h0, h2, h4, h5, hm, h3, h7, h8, h1, hg, hr, hp⟩ := h
  have hN6 : N < 6 := by
    rcases Nat.lt_or_ge N 6 with q | q
    · exact q
    · exact absurd (by rw [h0, show N = 6 by omega]; rfl) h6
  refine ⟨N + 1, P, R, by omega, hP, hR, ?_, h2, h4, h5, hm, h3, h7, h8, fun i hi h32 => h1 i (by omega) h32, fun j hj => ?_, fun j hj => ?_, hp⟩
  · show w.1 0 + 1 = _
    rw [h0]; exact sm_add N 1
  · show ∃ b, b < 30 ∧ (if j = nn (w.1 0) then nI a else w.2.1 j) = nI b
    rw [h0, nnI (by omega)]
    by_cases e : j = N
    · rw [if_pos e]; exact ⟨a, ha, rfl⟩
    · rw [if_neg e]; exact hg j (by omega)
  · obtain ⟨g, g1, g2⟩ := hr j hj
    exact ⟨g, by omega, g2⟩
theorem WJ.person {T a b e : Nat} {w : WD} (h : WJ T w) (h6 : ¬ w.1 2 = 6) (ha : a ≤ 6) (hb : b ≤ 9) (he : e < 30) : WJ T (personW (nI a) (nI b) (nI e) w) := by
  obtain ⟨N, P, R, hN, hP, hR, h0, h2, h4, h5, hm, h3, h7, h8, h1, hg, hr, hp⟩ := h
  have hP6 : P < 6 := by
    rcases Nat.lt_or_ge P 6 with q | q
    · exact q
    · exact absurd (by rw [h2, show P = 6 by omega]; rfl) h6
  refine ⟨N, P + 1, R, hN, by omega, hR, h0, ?_, h4, h5, hm, h3, h7, h8, h1, hg, hr, fun i hi => ?_⟩
  · show w.1 2 + 1 = _
    rw [h2]; exact sm_add P 1
  · show PJ (if i = nn (w.1 2) then newP (nI a) (nI b) (nI e) else w.2.2.2 i)
    rw [h2, nnI (by omega)]
    by_cases q : i = P
    · rw [if_pos q]
      exact ⟨⟨a, ha, rfl⟩, ⟨b, hb, rfl⟩, ⟨e, he, rfl⟩, ⟨0, by decide, rfl⟩, Or.inl rfl, Or.inl rfl, fun j hj => ⟨0, by decide, by unfold newP; rw [if_neg (by omega), if_neg (by omega), if_neg (by omega)]; rfl⟩⟩
    · rw [if_neg q]; exact hp i (by omega)
theorem WJ.row {T i N a part : Nat} {w : WD} (h : WJ T w) (h2 : w.1 2 = nI N) (hN : N ≤ 6) (hi : i < N) (ha : a ≤ 9) (hp4 : part < 4) : WJ T (rowW i part (nI a) w) := by
  refine h.upP ?_
  obtain ⟨a1, a2, a3, a4, a5, a6, a7⟩ := h.pj h2 hN hi
  refine ⟨?_, ?_, ?_, ?_, ?_, ?_, fun j hj => ?_⟩
  · dsimp only; rw [if_neg (by omega)]; exact a1
  · dsimp only; rw [if_neg (by omega)]; exact a2
  · dsimp only; rw [if_neg (by omega)]; exact a3
  · dsimp only; rw [if_neg (by omega)]; exact a4
  · dsimp only; rw [if_neg (by omega)]; exact a5
  · dsimp only; rw [if_neg (by omega)]; exact a6
  · dsimp only
    by_cases e : 6 + j = 6 + part
    · rw [if_pos e]; exact ⟨a, ha, rfl⟩
    · rw [if_neg e]; exact a7 j hj
theorem WJ.round {T g N : Nat} {w : WD} (h : WJ T w) (h0 : w.1 0 = nI N) (hN : N ≤ 6) (hg : g < N) (h6 : ¬ w.1 4 = 6) : WJ T (roundW (nI g) w) := by
  obtain ⟨N', P, R, hN', hP, hR, h0', h2, h4, ⟨A, hA, h5⟩, hm, h3, h7, h8, h1, hgp, hr, hp⟩ := h
  have e : N = N' := sm_inj (by omega) (by omega) (h0.symm.trans h0')
  subst e
  have hR6 : R < 6 := by
    rcases Nat.lt_or_ge R 6 with q | q
    · exact q
    · exact absurd (by rw [h4, show R = 6 by omega]; rfl) h6
  refine ⟨N, P, R + 1, hN, hP, by omega, h0', h2, ?_, ⟨A, by omega, h5⟩, hm, h3, h7, h8, h1, hgp, fun j hj => ?_, hp⟩
  · show w.1 4 + 1 = _
    rw [h4]; exact sm_add R 1
  · show ∃ b, b < N ∧ (if j = nn (w.1 4) then nI g else w.2.2.1 j) = nI b
    rw [h4, nnI (by omega)]
    by_cases q : j = R
    · rw [if_pos q]; exact ⟨g, hg, rfl⟩
    · rw [if_neg q]; exact hr j (by omega)
theorem WJ.endd {T : Nat} {w : WD} (h : WJ T w) : WJ T (endW w) := by
  obtain ⟨N, P, R, hN, hP, hR, h0, h2, h4, h5, hm, h3, h7, h8, h1, hg, hr, hp⟩ := h
  exact ⟨N, P, 0, hN, hP, by decide, h0, h2, rfl, ⟨0, Nat.le_refl _, rfl⟩, hm, ⟨0, by decide, rfl⟩, h7, h8, h1, hg, fun j hj => absurd hj (Nat.not_lt_zero j), hp⟩
/-- another dusk holds -/
def duW (cl : CL) (w : WD) : WD := (fun j => if j = 7 then clampP (lastA 3 cl 3) else if j < 10 then w.1 j else lastA 2 cl 8, w.2)
theorem lastA_n {W : Nat} : ∀ (cl : CL) (n : Int32), (∀ q ∈ cl, okC q) → (∃ a, a ≤ 99 ∧ n = nI a) → ∃ a, a ≤ 99 ∧ lastA W cl n = nI a
  | [], n, _, h => h
  | q :: cl, n, hq, h => by
    unfold lastA
    refine lastA_n cl _ (fun a ha => hq a (List.mem_cons_of_mem q ha)) ?_
    split
    · exact ⟨q.2.1, (hq q List.mem_cons_self).2.1, rfl⟩
    · exact h
theorem clampP_r {n : Int32} (h : ∃ a, a ≤ 99 ∧ n = nI a) : ∃ a, a ≤ 9 ∧ clampP n = nI a := by
  obtain ⟨a, ha, rfl⟩ := h
  unfold clampP
  split
  · exact ⟨1, by decide, rfl⟩
  · split
    · exact ⟨9, by decide, rfl⟩
    · rename_i h1 h2
      refine ⟨a, ?_, rfl⟩
      have : ¬ 9 < a := fun q => h2 ((sm_lt_iff (a := 9) (by decide) (by omega)).mpr q)
      omega
theorem WJ.du {T : Nat} {w : WD} {cl : CL} (h : WJ T w) (hcl : ∀ q ∈ cl, okC q) : WJ T (duW cl w) := by
  obtain ⟨N, P, R, hN, hP, hR, h0, h2, h4, h5, hm, h3, h7, h8, h1, hg, hr, hp⟩ := h
  exact ⟨N, P, R, hN, hP, hR, h0, h2, h4, h5, hm, h3, clampP_r (lastA_n cl 3 hcl ⟨3, by decide, rfl⟩), h8, h1, hg, hr, hp⟩
/-! the answers -/
def gateA (w : WD) (x : Int32) : Int32 × WD := if 0 ≤ x ∧ x < 30 then (if w.1 0 = 6 then (-4, w) else (w.1 0, gateW x w)) else (-2, w)
def personA (w : WD) (x y z : Int32) : Int32 × WD := if 0 ≤ x ∧ x ≤ 6 then (if (0 ≤ y ∧ y ≤ 9) ∧ (0 ≤ z ∧ z < 30) then (if w.1 2 = 6 then (-4, w) else (w.1 2, personW x y z w)) else (-2, w)) else (-1, w)
def putA (w : WD) (x y : Int32) : Int32 × WD := if 0 ≤ x ∧ x < w.1 2 then (if 0 ≤ y ∧ y < 30 then (w.2.2.2 (nn x) 2, putW (nn x) y w) else (-2, w)) else (-1, w)
def callA (w : WD) (x z : Int32) : Int32 × WD := if 0 ≤ x ∧ x < w.1 2 then (w.2.2.2 (nn x) 4, callW (nn x) z w) else (-1, w)
def shutA (w : WD) (x z : Int32) : Int32 × WD := if 0 ≤ x ∧ x < w.1 0 then (bitD (w.1 1) x, shutW x z w) else (-1, w)
def rowA (w : WD) (x y z : Int32) : Int32 × WD := if (0 ≤ x ∧ x < w.1 2) ∧ (0 ≤ y ∧ y ≤ 3) then (if 0 ≤ z ∧ z ≤ 9 then (if w.2.2.2 (nn x) 0 = 6 then (w.2.2.2 (nn x) (6 + nn y), rowW (nn x) (nn y) z w) else (-3, w)) else (-2, w)) else (-1, w)
def roundA (w : WD) (x : Int32) : Int32 × WD := if x = -1 then (0, endW w) else if 0 ≤ x ∧ x < w.1 0 then (if w.1 4 = 6 then (-4, w) else (w.1 4 + 1, roundW x w)) else (-1, w)
noncomputable def passA (er : (Nat → Int32) → Int32) (w : WD) (x : Int32) : Int32 × WD := if 0 ≤ x ∧ x ≤ 60 then (if 9999 < w.1 6 + x then (-3, w) else ((minsW er (nn x) w).1 6, minsW er (nn x) w)) else (-2, w)
noncomputable def ofA (cl : CL) (w : WD) (x y : Int32) : Int32 :=
  if 0 ≤ x ∧ x < w.1 2 then
    (if y = 0 then w.2.2.2 (nn x) 0 else if y = 1 then w.2.2.2 (nn x) 1 else if y = 2 then w.2.2.2 (nn x) 2 else if y = 3 then w.2.2.2 (nn x) 4 else if y = 4 then w.2.2.2 (nn x) 3 else if y = 5 then w.2.2.2 (nn x) 5
    else if y = 6 then earsA (factF x (w.2.2.2 (nn x) 0) (w.2.2.2 (nn x) 1) (w.2.2.2 (nn x) 2) (w.2.2.2 (nn x) 3) (w.1 6)) cl 0
    else if y = 7 then (if wayC (w.2.2.2 (nn x) 2) (w.1 3) ≤ w.1 10 + earsA (factF x (w.2.2.2 (nn x) 0) (w.2.2.2 (nn x) 1) (w.2.2.2 (nn x) 2) (w.2.2.2 (nn x) 3) (w.1 6)) cl 0 then 1 else 0)
    else if y = 8 then stepsC (w.2.2.2 (nn x) 0) (w.1 6) (w.2.2.2 (nn x) (6 + nn (remJ (w.1 6) 4)))
    else if y = 9 then goalF (fleeC (w.2.2.2 (nn x) 0)) (w.1 3) (w.2.2.2 (nn x) 2) (w.2.2.2 (nn x) 3) w.2.1 (nn (w.1 0)) 0 (-5) 0
    else -1001)
  else -1001
noncomputable def toldA (w : WD) (x : Int32) : Int32 :=
  if 10 ≤ x ∧ x < 10 + w.1 0 then w.2.1 (nn (x - 10)) else if x = 0 then w.1 6 else if x = 1 then w.1 10 else if x = 2 then w.1 7 else if x = 3 then w.1 3 else if x = 4 then w.1 5 else if x = 5 then w.1 1 else if x = 6 then outW w else -1
