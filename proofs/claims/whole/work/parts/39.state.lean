/-! what the two objects hold: the class's cells and the reference's, read as the same world, dusks, rows, text, acts, tapes -/
abbrev IM : Type := Option (Nat × WD × SL × EL × EL)
abbrev TP : Type := Nat → Int32 × Nat × (Nat → Int64)
def cuA (c : Nat) : Nat := if c = 0 then 7 else 90 + 2 * c
def cuL (ds : Nat → CL) (c : Nat) : CL := if c = 0 then [] else ds (c - 1)
def CWd (mi : Nat → Nat → Int32) (D : Nat → Nat) (b c : Nat) (w : WD) : Prop := D b = cuA c ∧ wC mi (cuA c) b = w ∧ mi b 12 = 0 ∧ mi b 13 = 0 ∧ mi b 14 = -1
def SLC (mi : Nat → Nat → Int32) (a : Nat) (sl : SL) : Prop := mi a 3 = nI sl.length ∧ ∀ j q, sl[j]? = some q → mi (a + 1) j = nI q.1 ∧ mi (a + 2) j = bi q.2.2 ∧ mi (a + 3) j = nI q.2.1
def ELC (mi : Nat → Nat → Int32) (a : Nat) (el : EL) : Prop := mi a 3 = nI el.length ∧ ∀ j q, el[j]? = some q → mi (a + 1) j = nI q.1 ∧ (1 ≤ q.1 → mi (a + 2) j = nI q.2)
def BLC (mi : Nat → Nat → Int32) (a : Nat) (bl : EL) : Prop := mi a 3 = nI bl.length ∧ ∀ j q, bl[j]? = some q → mi (a + 1) j = nI q.1 ∧ mi (a + 2) j = nI q.2
def CDk (mi : Nat → Nat → Int32) (k : Nat) (ds : Nat → CL) : Prop := mi 1 10 = nI k ∧ DC mi 7 [] ∧ ∀ j, j < k → DC mi (92 + 2 * j) (ds j)
def CIm (mi : Nat → Nat → Int32) (D : Nat → Nat) (im : IM) : Prop := match im with
  | none => mi 52 4 = 0
  | some q => mi 52 4 = 1 ∧ CWd mi D 53 q.1 q.2.1 ∧ SLC mi 72 q.2.2.1 ∧ ELC mi 76 q.2.2.2.1 ∧ BLC mi 80 q.2.2.2.2
def CAc (mi : Nat → Nat → Int32) (ac : List Int32) : Prop := mi 89 1 = nI ac.length ∧ ∀ j v, ac[j]? = some v → mi 90 j = v
def CTp (mi : Nat → Nat → Int32) (ml : Nat → Nat → Int64) (tp : TP) : Prop := ∀ i, i < 6 → mi (104 + 2 * i) 1 = (tp i).1 ∧ mi (104 + 2 * i) 2 = nI (tp i).2.1 ∧ ∀ j, j < 60 → ml (105 + 2 * i) j = (tp i).2.2 j
def CR (w : WD) (c k : Nat) (ds : Nat → CL) (sl : SL) (el bl : EL) (im : IM) (T : Nat → Nat) (L : Nat) (ac : List Int32) (tp : TP) (mi : Nat → Nat → Int32) (ml : Nat → Nat → Int64) (D : Nat → Nat) : Prop := CWd mi D 2 c w ∧ CDk mi k ds ∧ SLC mi 40 sl ∧ ELC mi 44 el ∧ BLC mi 48 bl ∧ CIm mi D im ∧ TXC T L mi ∧ CAc mi ac ∧ CTp mi ml tp ∧ PD (D 21) ∧ PD (D 53) ∧ PD (D 84)
/-- the ranges -/
def EIV (w : WD) (sl : SL) (el bl : EL) : Prop := WJ 9999 w ∧ sl.length ≤ 5 ∧ (∀ q ∈ sl, q.1 < nn (w.1 2) ∧ q.2.1 ≤ 20) ∧ el.length ≤ 10 ∧ (∀ q ∈ el, q.1 ≤ 3 ∧ (q.1 = 1 ∨ q.1 = 2 → q.2 < nn (w.1 0)) ∧ (q.1 = 3 → q.2 < nn (w.1 2))) ∧ bl.length ≤ 8 ∧ ∀ q ∈ bl, q.1 < nn (w.1 2) ∧ q.2 < 30
def IIV (k : Nat) (im : IM) : Prop := match im with
  | none => True
  | some q => EIV q.2.1 q.2.2.1 q.2.2.2.1 q.2.2.2.2 ∧ q.1 ≤ k
def TIV (tp : TP) : Prop := ∀ i, i < 6 → (tp i).2.1 ≤ 60 ∧ ((tp i).1 = -1 ∨ ∃ a, a ≤ 4 ∧ (tp i).1 = nI a) ∧ ((tp i).1 = -1 → (tp i).2.1 = 0)
def IV (w : WD) (c k : Nat) (ds : Nat → CL) (sl : SL) (el bl : EL) (im : IM) (ac : List Int32) (tp : TP) : Prop := EIV w sl el bl ∧ c ≤ k ∧ k ≤ 6 ∧ IIV k im ∧ ac.length ≤ 20 ∧ TIV tp
def theM (c : Nat) : Int32 := if c = 0 then -1 else nI (c - 1)
def MDk (mi : Nat → Nat → Int32) (k : Nat) (ds : Nat → CL) (c : Nat) : Prop := mi 116 16 = nI k ∧ mi 116 17 = theM c ∧ ∀ j, j < k → DMJ mi j (ds j)
def SLm (mi : Nat → Nat → Int32) (f a1 a2 a3 : Nat) (sl : SL) : Prop := mi 116 f = nI sl.length ∧ ∀ j q, sl[j]? = some q → mi a1 j = nI q.1 ∧ mi a2 j = nI q.2.1 ∧ mi a3 j = bi q.2.2
def ELm (mi : Nat → Nat → Int32) (f a1 a2 : Nat) (el : EL) : Prop := mi 116 f = nI el.length ∧ ∀ j q, el[j]? = some q → mi a1 j = nI q.1 ∧ (1 ≤ q.1 → mi a2 j = nI q.2)
def BLm (mi : Nat → Nat → Int32) (f a1 a2 : Nat) (bl : EL) : Prop := mi 116 f = nI bl.length ∧ ∀ j q, bl[j]? = some q → mi a1 j = nI q.1 ∧ mi a2 j = nI q.2
/-- the memory as it would be after undo, as far as the world goes -/
def und (mi : Nat → Nat → Int32) : Nat → Nat → Int32 := fun a j =>
  if a = 116 then (if j < 9 then mi 116 (61 + j) else mi 116 j)
  else if a = 117 then mi 145 j else if a = 118 then mi 146 j else if a = 119 then mi 147 j else if a = 120 then mi 148 j else if a = 121 then mi 149 j else if a = 122 then mi 151 j else if a = 123 then mi 150 j else mi a j
def MIm (mi : Nat → Nat → Int32) (ds : Nat → CL) (im : IM) : Prop := match im with
  | none => mi 116 59 = 0
  | some q => mi 116 59 = 1 ∧ mi 116 60 = theM q.1 ∧ wM (und mi) (cuL ds q.1) = q.2.1 ∧ (∀ i, nn (mi 116 62) ≤ i → i < 32 → bt (mi 116 66) i = false) ∧ SLm mi 70 152 153 158 q.2.2.1 ∧ ELm mi 71 154 155 q.2.2.2.1 ∧ BLm mi 72 156 157 q.2.2.2.2
def MAc (mi : Nat → Nat → Int32) (ac : List Int32) : Prop := mi 116 87 = nI ac.length ∧ ∀ j v, ac[j]? = some v → mi 159 j = v
def MTp (mi : Nat → Nat → Int32) (ml : Nat → Nat → Int64) (tp : TP) : Prop := ∀ i, i < 6 → mi 160 i = (tp i).1 ∧ mi 161 i = nI (tp i).2.1 ∧ ∀ j, j < 60 → ml 162 (60 * i + j) = (tp i).2.2 j
def MR (w : WD) (c k : Nat) (ds : Nat → CL) (sl : SL) (el bl : EL) (im : IM) (T : Nat → Nat) (L : Nat) (ac : List Int32) (tp : TP) (mi : Nat → Nat → Int32) (ml : Nat → Nat → Int64) : Prop := MB mi (cuL ds c) w ∧ MDk mi k ds c ∧ SLm mi 49 138 139 140 sl ∧ ELm mi 53 141 142 el ∧ BLm mi 54 143 144 bl ∧ MIm mi ds im ∧ TXM T L mi ∧ LT mi ∧ MAc mi ac ∧ MTp mi ml tp
/-- above and below the border between the two objects -/
def HI (mi mi' : Nat → Nat → Int32) (ml ml' : Nat → Nat → Int64) : Prop := ∀ a, 116 ≤ a → mi' a = mi a ∧ ml' a = ml a
def LO (mi mi' : Nat → Nat → Int32) (ml ml' : Nat → Nat → Int64) : Prop := ∀ a, a < 116 → mi' a = mi a ∧ ml' a = ml a
theorem HI.refl (mi : Nat → Nat → Int32) (ml : Nat → Nat → Int64) : HI mi mi ml ml := fun _ _ => ⟨rfl, rfl⟩
theorem LO.refl (mi : Nat → Nat → Int32) (ml : Nat → Nat → Int64) : LO mi mi ml ml := fun _ _ => ⟨rfl, rfl⟩
/-- the class has only tried something -/
def CN (mi mi' : Nat → Nat → Int32) (D D' : Nat → Nat) : Prop := (∀ a, a < 116 → a ≠ 6 → (a < 21 ∨ 40 ≤ a) → mi' a = mi a) ∧ D' 2 = D 2 ∧ D' 53 = D 53 ∧ D' 84 = D 84 ∧ PD (D' 21)
theorem cuA_pd {c : Nat} (h : c ≤ 6) : PD (cuA c) ∧ (cuA c < 21 ∨ 92 ≤ cuA c) ∧ cuA c ≠ 6 ∧ cuA c ≤ 102 := by
  unfold cuA PD
  split <;> omega
theorem SLC.fr {mi mi' : Nat → Nat → Int32} {a : Nat} {sl : SL} (h : SLC mi a sl) (g : ∀ x, a ≤ x → x < a + 4 → mi' x = mi x) : SLC mi' a sl := by
  unfold SLC
  rw [g a (by omega) (by omega), g (a + 1) (by omega) (by omega), g (a + 2) (by omega) (by omega), g (a + 3) (by omega) (by omega)]
  exact h
theorem ELC.fr {mi mi' : Nat → Nat → Int32} {a : Nat} {sl : EL} (h : ELC mi a sl) (g : ∀ x, a ≤ x → x < a + 4 → mi' x = mi x) : ELC mi' a sl := by
  unfold ELC
  rw [g a (by omega) (by omega), g (a + 1) (by omega) (by omega), g (a + 2) (by omega) (by omega)]
  exact h
theorem BLC.fr {mi mi' : Nat → Nat → Int32} {a : Nat} {sl : EL} (h : BLC mi a sl) (g : ∀ x, a ≤ x → x < a + 4 → mi' x = mi x) : BLC mi' a sl := by
  unfold BLC
  rw [g a (by omega) (by omega), g (a + 1) (by omega) (by omega), g (a + 2) (by omega) (by omega)]
  exact h
theorem WJ.p6 {T : Nat} {w : WD} (h : WJ T w) : nn (w.1 2) ≤ 6 := by
  obtain ⟨N, P, R, hN, hP, hR, h0, h2, -⟩ := h
  rw [h2, nnI (by omega)]; exact hP
theorem CWd.fr {mi mi' : Nat → Nat → Int32} {D D' : Nat → Nat} {b c T : Nat} {w : WD} (h : CWd mi D b c w) (hw : WJ T w) (hD : D' b = D b) (hk : mi' (cuA c) = mi (cuA c)) (g : ∀ a, b ≤ a → a < b + 19 → a ≠ b + 4 → a ≠ b + 5 → a ≠ b + 6 → mi' a = mi a) : CWd mi' D' b c w := by
  obtain ⟨h1, h2, h3, h4, h5⟩ := h
  have e : mi' b = mi b := g b (by omega) (by omega) (by omega) (by omega) (by omega)
  have h6 : nn (mi b 6) ≤ 6 := by
    have := hw.p6
    rw [← h2] at this
    exact this
  refine ⟨hD.trans h1, ?_, by rw [e]; exact h3, by rw [e]; exact h4, by rw [e]; exact h5⟩
  rw [← h2]
  exact wC_ext h6 hk (fun a a1 a2 a3 a4 a5 a6 => g a a1 a2 a4 a5 a6)
theorem DC.fr {mi mi' : Nat → Nat → Int32} {k : Nat} {cl : CL} (h : DC mi k cl) (h1 : mi' k = mi k) (h2 : mi' (k + 1) = mi (k + 1)) : DC mi' k cl := by
  unfold DC
  rw [h1, h2]
  exact h
theorem CDk.fr {mi mi' : Nat → Nat → Int32} {k : Nat} {ds : Nat → CL} (h : CDk mi k ds) (hk : k ≤ 6) (h1 : mi' 1 = mi 1) (h7 : mi' 7 = mi 7) (h8 : mi' 8 = mi 8) (g : ∀ a, 92 ≤ a → a < 104 → mi' a = mi a) : CDk mi' k ds := by
  obtain ⟨a1, a2, a3⟩ := h
  exact ⟨by rw [h1]; exact a1, a2.fr h7 h8, fun j hj => (a3 j hj).fr (g _ (by omega) (by omega)) (g _ (by omega) (by omega))⟩
theorem CTp.fr {mi mi' : Nat → Nat → Int32} {ml ml' : Nat → Nat → Int64} {tp : TP} (h : CTp mi ml tp) (g : ∀ a, 104 ≤ a → a < 116 → mi' a = mi a ∧ ml' a = ml a) : CTp mi' ml' tp := fun i hi => by
  rw [(g (104 + 2 * i) (by omega) (by omega)).1, (g (105 + 2 * i) (by omega) (by omega)).2]
  exact h i hi
theorem TXC.fr {T : Nat → Nat} {L : Nat} {mi mi' : Nat → Nat → Int32} (h : TXC T L mi) (h1 : mi' 84 1 = mi 84 1) (h2 : mi' 85 = mi 85) : TXC T L mi' := by
  unfold TXC
  rw [h1, h2]
  exact h
theorem CAc.fr {mi mi' : Nat → Nat → Int32} {ac : List Int32} (h : CAc mi ac) (h1 : mi' 89 = mi 89) (h2 : mi' 90 = mi 90) : CAc mi' ac := by
  unfold CAc
  rw [h1, h2]
  exact h
theorem CIm.fr {mi mi' : Nat → Nat → Int32} {D D' : Nat → Nat} {k : Nat} {im : IM} (h : CIm mi D im) (hv : IIV k im) (hk : k ≤ 6) (hD : D' 53 = D 53) (h7 : mi' 7 = mi 7) (g : ∀ a, 52 ≤ a → a < 84 → mi' a = mi a) (g2 : ∀ a, 92 ≤ a → a < 104 → mi' a = mi a) : CIm mi' D' im := by
  cases im with
  | none =>
    show mi' 52 4 = 0
    rw [g 52 (by omega) (by omega)]
    exact h
  | some q =>
    obtain ⟨a1, a2, a3, a4, a5⟩ := h
    obtain ⟨v1, v2⟩ := hv
    refine ⟨by rw [g 52 (by omega) (by omega)]; exact a1, a2.fr v1.1 hD ?_ (fun a b1 b2 _ _ _ => g a (by omega) (by omega)), a3.fr (fun x x1 x2 => g x (by omega) (by omega)), a4.fr (fun x x1 x2 => g x (by omega) (by omega)), a5.fr (fun x x1 x2 => g x (by omega) (by omega))⟩
    unfold cuA
    split
    · exact h7
    · exact g2 _ (by omega) (by omega)
theorem CR.cn {w : WD} {c k : Nat} {ds : Nat → CL} {sl : SL} {el bl : EL} {im : IM} {T : Nat → Nat} {L : Nat} {ac : List Int32} {tp : TP} {mi mi' : Nat → Nat → Int32} {ml ml' : Nat → Nat → Int64} {D D' : Nat → Nat} (h : CR w c k ds sl el bl im T L ac tp mi ml D) (hv : IV w c k ds sl el bl im ac tp) (g : CN mi mi' D D') (gl : ∀ a, a < 116 → ml' a = ml a) : CR w c k ds sl el bl im T L ac tp mi' ml' D' := by
  obtain ⟨a1, a2, a3, a4, a5, a6, a7, a8, a9, a10, a11, a12⟩ := h
  obtain ⟨v1, v2, v3, v4, v5, v6⟩ := hv
  obtain ⟨g1, g2, g3, g4, g5⟩ := g
  have cp := cuA_pd (c := c) (by omega)
  exact ⟨a1.fr v1.1 g2 (g1 _ (by omega) (by omega) (by omega)) (fun a b1 b2 b3 b4 b5 => g1 a (by omega) (by omega) (by omega)), a2.fr v3 (g1 1 (by omega) (by omega) (by omega)) (g1 7 (by omega) (by omega) (by omega)) (g1 8 (by omega) (by omega) (by omega)) (fun a b1 b2 => g1 a (by omega) (by omega) (by omega)), a3.fr (fun x x1 x2 => g1 x (by omega) (by omega) (by omega)), a4.fr (fun x x1 x2 => g1 x (by omega) (by omega) (by omega)), a5.fr (fun x x1 x2 => g1 x (by omega) (by omega) (by omega)), a6.fr v4 v3 g3 (g1 7 (by omega) (by omega) (by omega)) (fun a b1 b2 => g1 a (by omega) (by omega) (by omega)) (fun a b1 b2 => g1 a (by omega) (by omega) (by omega)), a7.fr (by rw [g1 84 (by omega) (by omega) (by omega)]) (g1 85 (by omega) (by omega) (by omega)), a8.fr (g1 89 (by omega) (by omega) (by omega)) (g1 90 (by omega) (by omega) (by omega)), a9.fr (fun a b1 b2 => ⟨g1 a (by omega) (by omega) (by omega), gl a (by omega)⟩), g5, by rw [g3]; exact a11, by rw [g4]; exact a12⟩
theorem CR.lo {w : WD} {c k : Nat} {ds : Nat → CL} {sl : SL} {el bl : EL} {im : IM} {T : Nat → Nat} {L : Nat} {ac : List Int32} {tp : TP} {mi mi' : Nat → Nat → Int32} {ml ml' : Nat → Nat → Int64} {D : Nat → Nat} (h : CR w c k ds sl el bl im T L ac tp mi ml D) (hv : IV w c k ds sl el bl im ac tp) (g : LO mi mi' ml ml') : CR w c k ds sl el bl im T L ac tp mi' ml' D := h.cn hv ⟨fun a ha _ _ => (g a ha).1, rfl, rfl, rfl, h.2.2.2.2.2.2.2.2.2.1⟩ (fun a ha => (g a ha).2)
/-! the reference's side -/
theorem SLm.fr {mi mi' : Nat → Nat → Int32} {f a1 a2 a3 : Nat} {sl : SL} (h : SLm mi f a1 a2 a3 sl) (g0 : mi' 116 f = mi 116 f) (g1 : mi' a1 = mi a1) (g2 : mi' a2 = mi a2) (g3 : mi' a3 = mi a3) : SLm mi' f a1 a2 a3 sl := by
  unfold SLm
  rw [g0, g1, g2, g3]
  exact h
theorem ELm.fr {mi mi' : Nat → Nat → Int32} {f a1 a2 : Nat} {sl : EL} (h : ELm mi f a1 a2 sl) (g0 : mi' 116 f = mi 116 f) (g1 : mi' a1 = mi a1) (g2 : mi' a2 = mi a2) : ELm mi' f a1 a2 sl := by
  unfold ELm
  rw [g0, g1, g2]
  exact h
theorem BLm.fr {mi mi' : Nat → Nat → Int32} {f a1 a2 : Nat} {sl : EL} (h : BLm mi f a1 a2 sl) (g0 : mi' 116 f = mi 116 f) (g1 : mi' a1 = mi a1) (g2 : mi' a2 = mi a2) : BLm mi' f a1 a2 sl := by
  unfold BLm
  rw [g0, g1, g2]
  exact h
theorem CLM.fr2 {m M : Nat → Nat → Int32} {lo hi c0 : Nat} {q : Nat × Nat × List TK} (h : CLM m lo hi c0 q) (h1 : M 126 = m 126) (h2 : M 127 = m 127) (h3 : M 128 = m 128) (h4 : M 129 = m 129) (h5 : M 130 = m 130) : CLM M lo hi c0 q := h.fr (Nat.le_refl _) (by rw [h1]) (by rw [h2]) (by rw [h3]) (by rw [h4]) (fun j _ => by rw [h5])
theorem DMJ.fr {m M : Nat → Nat → Int32} {f : Nat} {cl : CL} (h : DMJ m f cl) (h0 : M 125 f = m 125 f) (h1 : M 126 = m 126) (h2 : M 127 = m 127) (h3 : M 128 = m 128) (h4 : M 129 = m 129) (h5 : M 130 = m 130) : DMJ M f cl := ⟨by rw [h0]; exact h.1, h.2.1, h.2.2.1, fun c q hc => (h.2.2.2 c q hc).fr2 h1 h2 h3 h4 h5⟩
theorem MDk.fr {m M : Nat → Nat → Int32} {k c : Nat} {ds : Nat → CL} (h : MDk m k ds c) (g1 : M 116 16 = m 116 16) (g2 : M 116 17 = m 116 17) (g : ∀ a, 125 ≤ a → a ≤ 130 → M a = m a) : MDk M k ds c := ⟨by rw [g1]; exact h.1, by rw [g2]; exact h.2.1, fun j hj => (h.2.2 j hj).fr (by rw [g 125 (by omega) (by omega)]) (g 126 (by omega) (by omega)) (g 127 (by omega) (by omega)) (g 128 (by omega) (by omega)) (g 129 (by omega) (by omega)) (g 130 (by omega) (by omega))⟩
theorem TXM.fr {T : Nat → Nat} {L : Nat} {mi mi' : Nat → Nat → Int32} (h : TXM T L mi) (h1 : mi' 116 18 = mi 116 18) (h2 : mi' 124 = mi 124) : TXM T L mi' := by
  unfold TXM
  rw [h1, h2]
  exact h
theorem LT.fr {mi mi' : Nat → Nat → Int32} (h : LT mi) (g : mi' 132 = mi 132) : LT mi' := by
  unfold LT
  rw [g]
  exact h
theorem MAc.fr {mi mi' : Nat → Nat → Int32} {ac : List Int32} (h : MAc mi ac) (h1 : mi' 116 87 = mi 116 87) (h2 : mi' 159 = mi 159) : MAc mi' ac := by
  unfold MAc
  rw [h1, h2]
  exact h
theorem MTp.fr {mi mi' : Nat → Nat → Int32} {ml ml' : Nat → Nat → Int64} {tp : TP} (h : MTp mi ml tp) (h1 : mi' 160 = mi 160) (h2 : mi' 161 = mi 161) (h3 : ml' 162 = ml 162) : MTp mi' ml' tp := by
  unfold MTp
  rw [h1, h2, h3]
  exact h
theorem und_wM {mi mi' : Nat → Nat → Int32} {cl : CL} (g0 : ∀ f, (33 ≤ f ∧ f < 36) ∨ (61 ≤ f ∧ f < 70) → mi' 116 f = mi 116 f) (g : ∀ a, 145 ≤ a → a < 152 → mi' a = mi a) : wM (und mi') cl = wM (und mi) cl := by
  have e117 : und mi' 117 = und mi 117 := by funext j; show mi' 145 j = mi 145 j; rw [g 145 (by omega) (by omega)]
  have e118 : und mi' 118 = und mi 118 := by funext j; show mi' 146 j = mi 146 j; rw [g 146 (by omega) (by omega)]
  have e119 : und mi' 119 = und mi 119 := by funext j; show mi' 147 j = mi 147 j; rw [g 147 (by omega) (by omega)]
  have e120 : und mi' 120 = und mi 120 := by funext j; show mi' 148 j = mi 148 j; rw [g 148 (by omega) (by omega)]
  have e121 : und mi' 121 = und mi 121 := by funext j; show mi' 149 j = mi 149 j; rw [g 149 (by omega) (by omega)]
  have e122 : und mi' 122 = und mi 122 := by funext j; show mi' 151 j = mi 151 j; rw [g 151 (by omega) (by omega)]
  have e123 : und mi' 123 = und mi 123 := by funext j; show mi' 150 j = mi 150 j; rw [g 150 (by omega) (by omega)]
  have e : ∀ f, f < 9 → und mi' 116 f = und mi 116 f := fun f hf => by
    show (if f < 9 then mi' 116 (61 + f) else mi' 116 f) = if f < 9 then mi 116 (61 + f) else mi 116 f
    rw [if_pos hf, if_pos hf, g0 _ (by omega)]
  have e3 : ∀ f, 33 ≤ f → f < 36 → und mi' 116 f = und mi 116 f := fun f hf hf2 => by
    show (if f < 9 then mi' 116 (61 + f) else mi' 116 f) = if f < 9 then mi 116 (61 + f) else mi 116 f
    rw [if_neg (by omega), if_neg (by omega), g0 _ (by omega)]
  have es : sM (und mi') cl = sM (und mi) cl := by
    funext j
    unfold sM
    rw [e 0 (by omega), e 1 (by omega), e 2 (by omega), e 3 (by omega), e 6 (by omega), e 7 (by omega), e 8 (by omega), e3 33 (by omega) (by omega), e3 34 (by omega) (by omega), e3 35 (by omega) (by omega)]
  have ep : ∀ i, pM (und mi') i = pM (und mi) i := fun i => by
    funext f
    unfold pM
    rw [e118, e119, e120, e121, e122, e 4 (by omega), e 5 (by omega)]
  unfold wM
  rw [es, e117, e123, e 0 (by omega), e 1 (by omega), e 8 (by omega)]
  simp only [ep]
theorem MIm.fr {mi mi' : Nat → Nat → Int32} {ds : Nat → CL} {im : IM} (h : MIm mi ds im) (g0 : ∀ f, (33 ≤ f ∧ f < 36) ∨ (59 ≤ f ∧ f < 73) → mi' 116 f = mi 116 f) (g : ∀ a, 145 ≤ a → a < 159 → mi' a = mi a) : MIm mi' ds im := by
  cases im with
  | none =>
    show mi' 116 59 = 0
    rw [g0 59 (by omega)]
    exact h
  | some q =>
    obtain ⟨a1, a2, a3, a4, a5, a6, a7⟩ := h
    refine ⟨by rw [g0 59 (by omega)]; exact a1, by rw [g0 60 (by omega)]; exact a2, ?_, by rw [g0 62 (by omega), g0 66 (by omega)]; exact a4, a5.fr (g0 70 (by omega)) (g 152 (by omega) (by omega)) (g 153 (by omega) (by omega)) (g 158 (by omega) (by omega)), a6.fr (g0 71 (by omega)) (g 154 (by omega) (by omega)) (g 155 (by omega) (by omega)), a7.fr (g0 72 (by omega)) (g 156 (by omega) (by omega)) (g 157 (by omega) (by omega))⟩
    rw [← a3]
    exact und_wM (fun f hf => g0 f (by omega)) (fun a b1 b2 => g a (by omega) (by omega))
theorem MB.ext {mi mi' : Nat → Nat → Int32} {cl : CL} {w : WD} (h : MB mi cl w) (g0 : ∀ f, f < 9 ∨ f = 17 ∨ (33 ≤ f ∧ f < 36) → mi' 116 f = mi 116 f) (g1 : ∀ a, 117 ≤ a → a ≤ 123 → mi' a = mi a) (g2 : ∀ a, 125 ≤ a → a ≤ 130 → mi' a = mi a) : MB mi' cl w := by
  obtain ⟨h1, h2, h3, h4, h5, h6⟩ := h
  have es : sM mi' cl = sM mi cl := by
    funext j
    unfold sM
    rw [g0 0 (by omega), g0 1 (by omega), g0 2 (by omega), g0 3 (by omega), g0 6 (by omega), g0 7 (by omega), g0 8 (by omega), g0 33 (by omega), g0 34 (by omega), g0 35 (by omega)]
  have ep : ∀ i, pM mi' i = pM mi i := fun i => by
    funext f
    unfold pM
    rw [g1 118 (by omega) (by omega), g1 119 (by omega) (by omega), g1 120 (by omega) (by omega), g1 121 (by omega) (by omega), g1 122 (by omega) (by omega), g0 4 (by omega), g0 5 (by omega)]
  refine ⟨h1.ext (g0 17 (by omega)) (fun a a1 a2 => g2 a (by omega) (by omega)), ?_, by rw [g0 1 (by omega), g0 5 (by omega)]; exact h3, by rw [g0 33 (by omega)]; exact h4, by rw [g0 34 (by omega)]; exact h5, by rw [g0 35 (by omega)]; exact h6⟩
  rw [← h2]
  unfold wM
  rw [es, g1 117 (by omega) (by omega), g1 123 (by omega) (by omega), g0 0 (by omega), g0 1 (by omega), g0 8 (by omega)]
  simp only [ep]
theorem MR.hi {w : WD} {c k : Nat} {ds : Nat → CL} {sl : SL} {el bl : EL} {im : IM} {T : Nat → Nat} {L : Nat} {ac : List Int32} {tp : TP} {mi mi' : Nat → Nat → Int32} {ml ml' : Nat → Nat → Int64} (h : MR w c k ds sl el bl im T L ac tp mi ml) (g : HI mi mi' ml ml') : MR w c k ds sl el bl im T L ac tp mi' ml' := by
  have e : ∀ a, 116 ≤ a → mi' a = mi a := fun a ha => (g a ha).1
  obtain ⟨a1, a2, a3, a4, a5, a6, a7, a8, a9, a10⟩ := h
  have e6 : ∀ f, mi' 116 f = mi 116 f := fun f => by rw [e 116 (Nat.le_refl _)]
  exact ⟨a1.ext (fun f _ => e6 f) (fun a _ _ => e a (by omega)) (fun a _ _ => e a (by omega)), a2.fr (e6 16) (e6 17) (fun a _ _ => e a (by omega)), a3.fr (e6 49) (e 138 (by omega)) (e 139 (by omega)) (e 140 (by omega)), a4.fr (e6 53) (e 141 (by omega)) (e 142 (by omega)), a5.fr (e6 54) (e 143 (by omega)) (e 144 (by omega)), a6.fr (fun f _ => e6 f) (fun a _ _ => e a (by omega)), a7.fr (e6 18) (e 124 (by omega)), a8.fr (e 132 (by omega)), a9.fr (e6 87) (e 159 (by omega)), a10.fr (e 160 (by omega)) (e 161 (by omega)) (g 162 (by omega)).2⟩
/-- the reference has only asked -/
theorem MR.me {w : WD} {c k : Nat} {ds : Nat → CL} {sl : SL} {el bl : EL} {im : IM} {T : Nat → Nat} {L : Nat} {ac : List Int32} {tp : TP} {mi m : Nat → Nat → Int32} {ml : Nat → Nat → Int64} (h : MR w c k ds sl el bl im T L ac tp mi ml) (hw : WJ 9999 w) (g : ME mi m) : MR w c k ds sl el bl im T L ac tp m ml := by
  obtain ⟨a1, a2, a3, a4, a5, a6, a7, a8, a9, a10⟩ := h
  obtain ⟨g1, g2, g3⟩ := g
  exact ⟨a1.me hw ⟨g1, g2, g3⟩, a2.fr (g2 16 (by omega)) (g2 17 (by omega)) (fun a _ _ => g1 a (by omega)), a3.fr (g2 49 (by omega)) (g1 138 (by omega)) (g1 139 (by omega)) (g1 140 (by omega)), a4.fr (g2 53 (by omega)) (g1 141 (by omega)) (g1 142 (by omega)), a5.fr (g2 54 (by omega)) (g1 143 (by omega)) (g1 144 (by omega)), a6.fr (fun f _ => g2 f (by omega)) (fun a _ _ => g1 a (by omega)), a7.fr (g2 18 (by omega)) (g1 124 (by omega)), a8.fr (g1 132 (by omega)), a9.fr (g2 87 (by omega)) (g1 159 (by omega)), a10.fr (g1 160 (by omega)) (g1 161 (by omega)) rfl⟩
theorem ME.lo {mi m : Nat → Nat → Int32} {ml : Nat → Nat → Int64} (g : ME mi m) : LO mi m ml ml := fun a ha => ⟨g.1 a (by omega), rfl⟩
