/-! what changes a world -/
theorem wC_ext {mi mi' : Nat → Nat → Int32} {k b : Nat} (h6 : nn (mi b 6) ≤ 6) (hk : mi' k = mi k) (h : ∀ a, b ≤ a → a < b + 19 → a ≠ b + 2 → a ≠ b + 4 → a ≠ b + 5 → a ≠ b + 6 → mi' a = mi a) : wC mi' k b = wC mi k b := by
  have eb : mi' b = mi b := h b (by omega) (by omega) (by omega) (by omega) (by omega) (by omega)
  unfold wC
  rw [sC_ext eb hk, eb, h (b + 1) (by omega) (by omega) (by omega) (by omega) (by omega) (by omega), h (b + 3) (by omega) (by omega) (by omega) (by omega) (by omega) (by omega)]
  congr 3
  funext i
  by_cases hi : i < nn (mi b 6)
  · rw [if_pos hi, if_pos hi, pC_ext (fun f _ => by rw [h (b + 7 + 2 * i) (by omega) (by omega) (by omega) (by omega) (by omega) (by omega)]) (h (b + 7 + 2 * i + 1) (by omega) (by omega) (by omega) (by omega) (by omega) (by omega))]
  · rw [if_neg hi, if_neg hi]
theorem PF.of {b : Nat} {mi mi' : Nat → Nat → Int32} (h : ∀ a, (a < b ∨ b + 5 = a ∨ b + 6 = a ∨ b + 19 ≤ a) → mi' a = mi a) : PF b mi mi' := ⟨fun a ha => h a (by omega), h _ (by omega), h _ (by omega)⟩
def upS (w : WD) (j : Nat) (v : Int32) : WD := (fun x => if x = j then v else w.1 x, w.2.1, w.2.2.1, w.2.2.2)
def upG (w : WD) (j : Nat) (v : Int32) : WD := (w.1, fun x => if x = j then v else w.2.1 x, w.2.2.1, w.2.2.2)
def upR (w : WD) (j : Nat) (v : Int32) : WD := (w.1, w.2.1, fun x => if x = j then v else w.2.2.1 x, w.2.2.2)
def upP (w : WD) (i : Nat) (P : Nat → Int32) : WD := (w.1, w.2.1, w.2.2.1, fun x => if x = i then P else w.2.2.2 x)
def gateW (pl : Int32) (w : WD) : WD := upG (upS w 0 (w.1 0 + 1)) (nn (w.1 0)) pl
def newP (kd v pl : Int32) : Nat → Int32 := fun f => if f = 0 then kd else if f = 1 then v else if f = 2 then pl else 0
def personW (kd v pl : Int32) (w : WD) : WD := upP (upS w 2 (w.1 2 + 1)) (nn (w.1 2)) (newP kd v pl)
def putW (i : Nat) (pl : Int32) (w : WD) : WD := upP w i (fun f => if f = 2 then pl else if f = 5 then 0 else w.2.2.2 i f)
def callW (i : Nat) (z : Int32) (w : WD) : WD := upP w i (fun f => if f = 4 then z else if f = 3 then (if z = 0 then 0 else w.2.2.2 i 3) else w.2.2.2 i f)
def shutW (g z : Int32) (w : WD) : WD := upS w 1 (if z = 0 then clrB (w.1 1) g else setB (w.1 1) g)
def rowW (i part : Nat) (n : Int32) (w : WD) : WD := upP w i (fun f => if f = 6 + part then n else w.2.2.2 i f)
def roundW (g : Int32) (w : WD) : WD := upR (upS w 4 (w.1 4 + 1)) (nn (w.1 4)) g
def endW (w : WD) : WD := (fun x => if x = 3 then 0 else if x = 4 then 0 else if x = 5 then 0 else w.1 x, w.2.1, fun _ => 0, w.2.2.2)
theorem wC_gate {mi : Nat → Nat → Int32} {k b N : Nat} {pl : Int32} (hB : PB b) (hk : PD k) (hg : mi b 4 = nI N) (hN : N < 6) : wC (rn_u (rn_u mi (b + 1) N pl) b 4 (nI N + 1)) k b = gateW pl (wC mi k b) := by
  have hkb : k ≠ b ∧ k ≠ b + 1 := by unfold PD at hk; unfold PB at hB; omega
  have hn : nn (mi b 4) = N := by rw [hg]; exact nI_clamp (by omega)
  obtain ⟨M, hM⟩ : ∃ M, M = rn_u (rn_u mi (b + 1) N pl) b 4 (nI N + 1) := ⟨_, rfl⟩
  rw [← hM]
  have eb : ∀ f, M b f = if f = 4 then nI N + 1 else mi b f := fun f => by rw [hM]; simp [rn_u]
  have eb1 : ∀ f, M (b + 1) f = if f = N then pl else mi (b + 1) f := fun f => by rw [hM]; simp [rn_u]
  have ea : ∀ a, a ≠ b → a ≠ b + 1 → M a = mi a := fun a h1 h2 => by rw [hM, rn_u_ne h1, rn_u_ne h2]
  refine Prod.ext (funext fun j => ?_) (Prod.ext (funext fun j => ?_) (Prod.ext (funext fun j => ?_) (funext fun i => ?_)))
  · show sC M k b j = if j = 0 then mi b 4 + 1 else sC mi k b j
    unfold sC
    rw [ea k hkb.1 hkb.2]
    match j with
    | 0 => exact (eb 4).trans (by rw [if_pos rfl, if_pos rfl, hg])
    | 1 | 2 | 3 | 4 | 5 | 6 | 7 | 8 | 9 => simp [eb]
    | n + 10 => simp
  · show (if j < nn (M b 4) then M (b + 1) j else 0) = if j = nn (mi b 4) then pl else if j < nn (mi b 4) then mi (b + 1) j else 0
    rw [eb, if_pos rfl, hn, show nI N + 1 = nI (N + 1) from sm_add N 1, show nn (nI (N + 1)) = N + 1 from nI_clamp (by omega), eb1]
    by_cases h1 : j = N
    · rw [if_pos (by omega), if_pos h1, if_pos h1]
    · rw [if_neg h1, if_neg h1]
      by_cases h2 : j < N
      · rw [if_pos (by omega), if_pos h2]
      · rw [if_neg (by omega), if_neg h2]
  · show (if j < nn (M b 8) then M (b + 3) j else 0) = if j < nn (mi b 8) then mi (b + 3) j else 0
    rw [eb, if_neg (show ¬ (8 : Nat) = 4 by decide), ea (b + 3) (by omega) (by omega)]
  · show (if i < nn (M b 6) then pC M (b + 7 + 2 * i) else fun _ => 0) = if i < nn (mi b 6) then pC mi (b + 7 + 2 * i) else fun _ => 0
    rw [eb, if_neg (show ¬ (6 : Nat) = 4 by decide), pC_ext (fun f _ => by rw [ea _ (by omega) (by omega)]) (ea _ (by omega) (by omega))]
/-- one of the people is changed -/
theorem wC_upP {mi M : Nat → Nat → Int32} {k b i N : Nat} {P : Nat → Int32} (hB : PB b) (hp : mi b 6 = nI N) (hN : N ≤ 6) (hi : i < N) (hk : M k = mi k) (ha : ∀ a, b ≤ a → a < b + 19 → a ≠ b + 2 → a ≠ b + 4 → a ≠ b + 5 → a ≠ b + 6 → a ≠ b + 7 + 2 * i → a ≠ b + 7 + 2 * i + 1 → M a = mi a) (hP : ∀ f, pC M (b + 7 + 2 * i) f = P f) : wC M k b = upP (wC mi k b) i P := by
  have hn : nn (mi b 6) = N := by rw [hp]; exact nI_clamp (by omega)
  have eb : M b = mi b := ha b (by omega) (by omega) (by omega) (by omega) (by omega) (by omega) (by omega) (by omega)
  refine Prod.ext (sC_ext eb hk) (Prod.ext (funext fun j => ?_) (Prod.ext (funext fun j => ?_) (funext fun x => ?_)))
  · show (if j < nn (M b 4) then M (b + 1) j else 0) = if j < nn (mi b 4) then mi (b + 1) j else 0
    rw [eb, ha (b + 1) (by omega) (by omega) (by omega) (by omega) (by omega) (by omega) (by omega) (by omega)]
  · show (if j < nn (M b 8) then M (b + 3) j else 0) = if j < nn (mi b 8) then mi (b + 3) j else 0
    rw [eb, ha (b + 3) (by omega) (by omega) (by omega) (by omega) (by omega) (by omega) (by omega) (by omega)]
  · show (if x < nn (M b 6) then pC M (b + 7 + 2 * x) else fun _ => 0) = if x = i then P else if x < nn (mi b 6) then pC mi (b + 7 + 2 * x) else fun _ => 0
    rw [eb, hn]
    by_cases hx : x = i
    · subst hx
      rw [if_pos hi, if_pos rfl]
      exact funext hP
    · rw [if_neg hx]
      by_cases h2 : x < N
      · rw [if_pos h2, if_pos h2, pC_ext (fun f _ => by rw [ha _ (by omega) (by omega) (by omega) (by omega) (by omega) (by omega) (by omega) (by omega)]) (ha _ (by omega) (by omega) (by omega) (by omega) (by omega) (by omega) (by omega) (by omega))]
      · rw [if_neg h2, if_neg h2]
theorem wC_P {mi : Nat → Nat → Int32} {k b i N : Nat} (hp : mi b 6 = nI N) (hN : N ≤ 6) (hi : i < N) : (wC mi k b).2.2.2 i = pC mi (b + 7 + 2 * i) := by
  show (if i < nn (mi b 6) then pC mi (b + 7 + 2 * i) else fun _ => 0) = _
  rw [if_pos (by rw [hp, show nn (nI N) = N from nI_clamp (by omega)]; exact hi)]
theorem wC_put {mi : Nat → Nat → Int32} {k b i N : Nat} {pl : Int32} (hB : PB b) (hk : PD k) (hp : mi b 6 = nI N) (hN : N ≤ 6) (hi : i < N) : wC (rn_u (rn_u mi (b + 7 + 2 * i) 2 pl) (b + 7 + 2 * i) 5 0) k b = putW i pl (wC mi k b) := by
  have hkq : k ≠ b + 7 + 2 * i := by unfold PD at hk; unfold PB at hB; omega
  refine wC_upP hB hp hN hi (by rw [rn_u_ne hkq, rn_u_ne hkq]) (fun a _ _ _ _ _ _ h7 h8 => by rw [rn_u_ne h7, rn_u_ne h7]) (fun f => ?_)
  rw [wC_P hp hN hi]
  unfold pC
  rw [rn_u_ne (show b + 7 + 2 * i + 1 ≠ b + 7 + 2 * i by omega), rn_u_ne (show b + 7 + 2 * i + 1 ≠ b + 7 + 2 * i by omega)]
  by_cases h2 : f = 2
  · subst h2; simp [rn_u]
  · by_cases h5 : f = 5
    · subst h5; simp [rn_u]
    · simp [rn_u, h2, h5]
theorem wC_call {mi : Nat → Nat → Int32} {k b i N : Nat} {z : Int32} (hB : PB b) (hk : PD k) (hp : mi b 6 = nI N) (hN : N ≤ 6) (hi : i < N) : wC (if z = 0 then rn_u (rn_u mi (b + 7 + 2 * i) 4 z) (b + 7 + 2 * i) 3 0 else rn_u mi (b + 7 + 2 * i) 4 z) k b = callW i z (wC mi k b) := by
  have hkq : k ≠ b + 7 + 2 * i := by unfold PD at hk; unfold PB at hB; omega
  have hq1 : b + 7 + 2 * i + 1 ≠ b + 7 + 2 * i := by omega
  by_cases hz : z = 0
  · rw [if_pos hz]
    refine wC_upP hB hp hN hi (by rw [rn_u_ne hkq, rn_u_ne hkq]) (fun a _ _ _ _ _ _ h7 h8 => by rw [rn_u_ne h7, rn_u_ne h7]) (fun f => ?_)
    rw [wC_P hp hN hi, if_pos hz]
    unfold pC
    rw [rn_u_ne hq1, rn_u_ne hq1]
    by_cases h4 : f = 4
    · subst h4; simp [rn_u]
    · by_cases h3 : f = 3
      · subst h3; simp [rn_u]
      · simp [rn_u, h4, h3]
  · rw [if_neg hz]
    refine wC_upP hB hp hN hi (by rw [rn_u_ne hkq]) (fun a _ _ _ _ _ _ h7 h8 => by rw [rn_u_ne h7]) (fun f => ?_)
    rw [wC_P hp hN hi, if_neg hz]
    unfold pC
    rw [rn_u_ne hq1]
    by_cases h4 : f = 4
    · subst h4; simp [rn_u]
    · by_cases h3 : f = 3
      · subst h3; simp [rn_u]
      · simp [rn_u, h4, h3]
theorem wC_row {mi : Nat → Nat → Int32} {k b i N part : Nat} {n : Int32} (hB : PB b) (hk : PD k) (hp : mi b 6 = nI N) (hN : N ≤ 6) (hi : i < N) (h4 : part < 4) : wC (rn_u mi (b + 7 + 2 * i + 1) part n) k b = rowW i part n (wC mi k b) := by
  have hkq : k ≠ b + 7 + 2 * i + 1 := by unfold PD at hk; unfold PB at hB; omega
  refine wC_upP hB hp hN hi (rn_u_ne hkq) (fun a _ _ _ _ _ _ h7 h8 => rn_u_ne h8) (fun f => ?_)
  rw [wC_P hp hN hi]
  unfold pC
  rw [rn_u_ne (show b + 7 + 2 * i ≠ b + 7 + 2 * i + 1 by omega)]
  by_cases h6 : f < 6
  · rw [if_pos h6, if_neg (by omega), if_pos h6]
  · rw [if_neg h6, if_neg h6]
    by_cases h10 : f < 10
    · rw [if_pos h10, if_pos h10]
      by_cases hf : f = 6 + part
      · subst hf; simp [rn_u]
      · rw [if_neg hf]
        simp only [rn_u, true_and]
        rw [if_neg (by omega)]
    · rw [if_neg h10, if_neg h10, if_neg (by omega)]
/-- only scalars change -/
theorem wC_upS {mi M : Nat → Nat → Int32} {k b : Nat} {s : Nat → Int32} (hk : M k = mi k) (ha : ∀ a, b < a → a < b + 19 → M a = mi a) (h4 : M b 4 = mi b 4) (h6 : M b 6 = mi b 6) (h8 : M b 8 = mi b 8) (h6n : nn (mi b 6) ≤ 6) (hs : ∀ j, sC M k b j = s j) : wC M k b = (s, (wC mi k b).2) := by
  refine Prod.ext (funext hs) ?_
  show (_, _, _) = (_, _, _)
  rw [h4, h6, h8, ha (b + 1) (by omega) (by omega), ha (b + 3) (by omega) (by omega)]
  congr 2
  funext i
  by_cases hi : i < nn (mi b 6)
  · rw [if_pos hi, if_pos hi, pC_ext (fun f _ => by rw [ha _ (by omega) (by omega)]) (ha _ (by omega) (by omega))]
  · rw [if_neg hi, if_neg hi]
theorem wC_shut {mi : Nat → Nat → Int32} {k b : Nat} {g z : Int32} (hB : PB b) (hk : PD k) (h6 : nn (mi b 6) ≤ 6) : wC (rn_u mi b 5 (if z = 0 then clrB (mi b 5) g else setB (mi b 5) g)) k b = shutW g z (wC mi k b) := by
  have hkb : k ≠ b := by unfold PD at hk; unfold PB at hB; omega
  refine wC_upS (rn_u_ne hkb) (fun a h1 h2 => rn_u_ne (by omega)) (by simp [rn_u]) (by simp [rn_u]) (by simp [rn_u]) h6 (fun j => ?_)
  show sC _ k b j = if j = 1 then (if z = 0 then clrB (mi b 5) g else setB (mi b 5) g) else sC mi k b j
  unfold sC
  rw [rn_u_ne hkb]
  match j with
  | 0 | 1 | 2 | 3 | 4 | 5 | 6 | 7 | 8 | 9 => simp [rn_u]
  | n + 10 => simp
theorem wC_round {mi : Nat → Nat → Int32} {k b N : Nat} {g : Int32} (hB : PB b) (hk : PD k) (hg : mi b 8 = nI N) (hN : N < 6) : wC (rn_u (rn_u mi (b + 3) N g) b 8 (nI N + 1)) k b = roundW g (wC mi k b) := by
  have hkb : k ≠ b ∧ k ≠ b + 3 := by unfold PD at hk; unfold PB at hB; omega
  have hn : nn (mi b 8) = N := by rw [hg]; exact nI_clamp (by omega)
  obtain ⟨M, hM⟩ : ∃ M, M = rn_u (rn_u mi (b + 3) N g) b 8 (nI N + 1) := ⟨_, rfl⟩
  rw [← hM]
  have eb : ∀ f, M b f = if f = 8 then nI N + 1 else mi b f := fun f => by rw [hM]; simp [rn_u]
  have eb1 : ∀ f, M (b + 3) f = if f = N then g else mi (b + 3) f := fun f => by rw [hM]; simp [rn_u]
  have ea : ∀ a, a ≠ b → a ≠ b + 3 → M a = mi a := fun a h1 h2 => by rw [hM, rn_u_ne h1, rn_u_ne h2]
  refine Prod.ext (funext fun j => ?_) (Prod.ext (funext fun j => ?_) (Prod.ext (funext fun j => ?_) (funext fun i => ?_)))
  · show sC M k b j = if j = 4 then mi b 8 + 1 else sC mi k b j
    unfold sC
    rw [ea k hkb.1 hkb.2]
    match j with
    | 4 => exact (eb 8).trans (by rw [if_pos rfl, if_pos rfl, hg])
    | 0 | 1 | 2 | 3 | 5 | 6 | 7 | 8 | 9 => simp [eb]
    | n + 10 => simp
  · show (if j < nn (M b 4) then M (b + 1) j else 0) = if j < nn (mi b 4) then mi (b + 1) j else 0
    rw [eb, if_neg (show ¬ (4 : Nat) = 8 by decide), ea (b + 1) (by omega) (by omega)]
  · show (if j < nn (M b 8) then M (b + 3) j else 0) = if j = nn (mi b 8) then g else if j < nn (mi b 8) then mi (b + 3) j else 0
    rw [eb, if_pos rfl, hn, show nI N + 1 = nI (N + 1) from sm_add N 1, show nn (nI (N + 1)) = N + 1 from nI_clamp (by omega), eb1]
    by_cases h1 : j = N
    · rw [if_pos (by omega), if_pos h1, if_pos h1]
    · rw [if_neg h1, if_neg h1]
      by_cases h2 : j < N
      · rw [if_pos (by omega), if_pos h2]
      · rw [if_neg (by omega), if_neg h2]
  · show (if i < nn (M b 6) then pC M (b + 7 + 2 * i) else fun _ => 0) = if i < nn (mi b 6) then pC mi (b + 7 + 2 * i) else fun _ => 0
    rw [eb, if_neg (show ¬ (6 : Nat) = 8 by decide), pC_ext (fun f _ => by rw [ea _ (by omega) (by omega)]) (ea _ (by omega) (by omega))]
theorem wC_end {mi : Nat → Nat → Int32} {k b : Nat} (hB : PB b) (hk : PD k) : wC (rn_u (rn_u (rn_u mi b 8 0) b 9 0) b 7 0) k b = endW (wC mi k b) := by
  have hkb : k ≠ b := by unfold PD at hk; unfold PB at hB; omega
  obtain ⟨M, hM⟩ : ∃ M, M = rn_u (rn_u (rn_u mi b 8 0) b 9 0) b 7 0 := ⟨_, rfl⟩
  rw [← hM]
  have eb : ∀ f, M b f = if f = 7 then 0 else if f = 9 then 0 else if f = 8 then 0 else mi b f := fun f => by rw [hM]; simp [rn_u]
  have ea : ∀ a, a ≠ b → M a = mi a := fun a h1 => by rw [hM, rn_u_ne h1, rn_u_ne h1, rn_u_ne h1]
  refine Prod.ext (funext fun j => ?_) (Prod.ext (funext fun j => ?_) (Prod.ext (funext fun j => ?_) (funext fun i => ?_)))
  · show sC M k b j = if j = 3 then 0 else if j = 4 then 0 else if j = 5 then 0 else sC mi k b j
    unfold sC
    rw [ea k hkb]
    match j with
    | 0 | 1 | 2 | 3 | 4 | 5 | 6 | 7 | 8 | 9 => simp [eb]
    | n + 10 => simp
  · show (if j < nn (M b 4) then M (b + 1) j else 0) = if j < nn (mi b 4) then mi (b + 1) j else 0
    rw [eb, ea (b + 1) (by omega)]
    simp
  · show (if j < nn (M b 8) then M (b + 3) j else 0) = 0
    rw [eb]
    simp [nn]
  · show (if i < nn (M b 6) then pC M (b + 7 + 2 * i) else fun _ => 0) = if i < nn (mi b 6) then pC mi (b + 7 + 2 * i) else fun _ => 0
    rw [eb, pC_ext (fun f _ => by rw [ea _ (by omega)]) (ea _ (by omega))]
    simp
