/-! rows on bits, shifts and unsigned numbers, to paste: each family out of a closed proof of our own, whole with what it rests on; each by itself clean at Lean in its own claim (generation 39, form 5). Take a family whole -/
/-! ===== Int32 by its bits: bt x i ===== -/
def bt (x : Int32) (i : Nat) : Bool := x.toBitVec.getLsbD i
theorem b_ext {x y : Int32} (h : ∀ i, i < 32 → bt x i = bt y i) : x = y := Int32.toBitVec_inj.mp (BitVec.eq_of_getLsbD_eq (fun i hi => h i hi))
theorem b_or (x y : Int32) (i : Nat) : bt (x ||| y) i = (bt x i || bt y i) := by unfold bt; rw [Int32.toBitVec_or, BitVec.getLsbD_or]
theorem b_and (x y : Int32) (i : Nat) : bt (x &&& y) i = (bt x i && bt y i) := by unfold bt; rw [Int32.toBitVec_and, BitVec.getLsbD_and]
theorem b_xor (x y : Int32) (i : Nat) : bt (x ^^^ y) i = (bt x i ^^ bt y i) := by unfold bt; rw [Int32.toBitVec_xor, BitVec.getLsbD_xor]
theorem b_big {x : Int32} {i : Nat} (h : 32 ≤ i) : bt x i = false := BitVec.getLsbD_of_ge _ _ h
theorem b_255 (i : Nat) : bt 255 i = decide (i < 8) := by
  rcases Nat.lt_or_ge i 32 with h | h
  · exact (by decide +kernel : ∀ i, i < 32 → bt 255 i = decide (i < 8)) i h
  · rw [b_big h, decide_eq_false (by omega)]
theorem b_65535 (i : Nat) : bt 65535 i = decide (i < 16) := by
  rcases Nat.lt_or_ge i 32 with h | h
  · exact (by decide +kernel : ∀ i, i < 32 → bt 65535 i = decide (i < 16)) i h
  · rw [b_big h, decide_eq_false (by omega)]
theorem b_m1 : ∀ i, i < 32 → bt (-1) i = true := by decide +kernel
theorem b_0 (i : Nat) : bt 0 i = false := BitVec.getLsbD_zero
theorem s_l : ∀ n, n < 32 → ((nI n &&& 31).toBitVec.smod 32).toNat = n := by decide +kernel
theorem s_u : ∀ n, n < 32 → (((nI n).toUInt32 &&& Int32.toUInt32 31).toBitVec % 32).toNat = n := by decide +kernel
theorem b_shl (n : Nat) (hn : n < 32) (x : Int32) {i : Nat} (hi : i < 32) : bt (x <<< (nI n &&& 31)) i = (decide (n ≤ i) && bt x (i - n)) := by
  unfold bt
  rw [Int32.toBitVec_shiftLeft]
  show (x.toBitVec <<< ((nI n &&& 31).toBitVec.smod 32).toNat).getLsbD i = _
  rw [s_l n hn, BitVec.getLsbD_shiftLeft]
  rcases Nat.lt_or_ge i n with h | h
  · simp [h, Nat.not_le.mpr h]
  · simp [hi, h, Nat.not_lt.mpr h]
theorem b_ushr (n : Nat) (hn : n < 32) (x : Int32) (i : Nat) : bt ((x.toUInt32 >>> ((nI n).toUInt32 &&& Int32.toUInt32 31)).toInt32) i = bt x (n + i) := by
  show (x.toUInt32 >>> ((nI n).toUInt32 &&& Int32.toUInt32 31)).toBitVec.getLsbD i = x.toUInt32.toBitVec.getLsbD (n + i)
  rw [UInt32.toBitVec_shiftRight]
  show (x.toUInt32.toBitVec >>> (((nI n).toUInt32 &&& Int32.toUInt32 31).toBitVec % 32).toNat).getLsbD i = _
  rw [s_u n hn, BitVec.getLsbD_ushiftRight]
theorem b_sshr (n : Nat) (hn : n < 32) (x : Int32) {i : Nat} (hi : i < 32) : bt (x >>> (nI n &&& 31)) i = if n + i < 32 then bt x (n + i) else bt x 31 := by
  unfold bt
  rw [Int32.toBitVec_shiftRight]
  show (x.toBitVec.sshiftRight ((nI n &&& 31).toBitVec.smod 32).toNat).getLsbD i = _
  rw [s_l n hn, BitVec.getLsbD_sshiftRight, BitVec.msb_eq_getLsbD_last]
  simp [hi]
theorem b_shl8 (x : Int32) {i : Nat} (hi : i < 32) : bt (x <<< ((8 : Int32) &&& 31)) i = (decide (8 ≤ i) && bt x (i - 8)) := b_shl 8 (by omega) x hi
/-! bits of small sets; dusks as lists of clauses, and what a class' dusk says of facts -/
theorem bt_one {i : Nat} (hi : i < 32) : bt 1 i = decide (i = 0) := by
  revert i
  decide +kernel
theorem bt_ext1 {x : Int32} {b : Bool} (h0 : bt x 0 = b) (h : ∀ i, 1 ≤ i → i < 32 → bt x i = false) : x = if b then 1 else 0 := by
  refine b_ext (fun i hi => ?_)
  cases b
  · rw [if_neg (by decide)]
    rw [b_0]
    rcases Nat.eq_zero_or_pos i with rfl | hp
    · exact h0
    · exact h i hp hi
  · rw [if_pos rfl, bt_one hi]
    rcases Nat.eq_zero_or_pos i with rfl | hp
    · exact h0
    · rw [h i hp hi]
      simp [Nat.ne_of_gt hp]
theorem and1_bt (x : Int32) : x &&& 1 = if bt x 0 then 1 else 0 := by
  refine bt_ext1 ?_ (fun i h1 hi => ?_)
  · rw [b_and, bt_one (by decide)]; simp
  · rw [b_and, bt_one hi]
    simp [Nat.ne_of_gt h1]
theorem bitD_bt {s : Int32} {i : Nat} (hi : i < 32) : bitD s (nI i) = if bt s i then 1 else 0 := by
  unfold bitD
  rw [and1_bt, b_sshr i hi s (by decide), Nat.add_zero, if_pos hi]
theorem bitD_one {s : Int32} {i : Nat} (hi : i < 32) : bitD s (nI i) = 1 ↔ bt s i = true := by
  rw [bitD_bt hi]
  cases bt s i <;> decide
theorem bitD_zero {s : Int32} {i : Nat} (hi : i < 32) : bitD s (nI i) = 0 ↔ bt s i = false := by
  rw [bitD_bt hi]
  cases bt s i <;> decide
theorem bt_sh {i j : Nat} (hi : i < 32) (hj : j < 32) : bt ((1 : Int32) <<< (nI i &&& 31)) j = decide (j = i) := by
  rw [b_shl i hi 1 hj]
  by_cases h : i ≤ j
  · rw [bt_one (by omega)]
    by_cases h2 : j = i
    · subst h2; simp
    · simp [h, h2, show ¬ j - i = 0 by omega]
  · simp [h, show ¬ j = i by omega]
theorem bt_set {s : Int32} {i j : Nat} (hi : i < 32) (hj : j < 32) : bt (setB s (nI i)) j = (bt s j || decide (j = i)) := by
  unfold setB
  rw [b_or, bt_sh hi hj]
theorem bt_clr {s : Int32} {i j : Nat} (hi : i < 32) (hj : j < 32) : bt (clrB s (nI i)) j = (bt s j && !decide (j = i)) := by
  unfold clrB
  rw [b_and, b_xor, bt_sh hi hj, b_m1 j hj]
  simp
/-- tokens of a condition: what (0 !, 1 &, 2 |, 3 a test), letter, sign, number; clauses: what (0 keen, 1 deaf, 2 bell, 3 pace), number, condition -/
abbrev TK : Type := Nat × Nat × Nat × Nat
abbrev CL : Type := List (Nat × Nat × List TK)
def okT (t : TK) : Prop := t.1 ≤ 3 ∧ t.2.1 ≤ 5 ∧ t.2.2.1 ≤ 2 ∧ t.2.2.2 ≤ 99
def tC (t : TK) : Int32 := if t.1 = 0 then -1 else if t.1 = 1 then -2 else if t.1 = 2 then -3 else nI (300 * t.2.1 + 100 * t.2.2.1 + t.2.2.2)
def tM (t : TK) : Int32 := if t.1 = 0 then -33 else if t.1 = 1 then -38 else if t.1 = 2 then -124 else nI (1000 * t.2.1 + 100 * t.2.2.1 + t.2.2.2)
def tst (F : Nat → Int32) (t : TK) : Bool := if t.2.2.1 = 0 then decide (F t.2.1 < nI t.2.2.2) else if t.2.2.1 = 1 then decide (F t.2.1 = nI t.2.2.2) else decide (nI t.2.2.2 < F t.2.1)
def stepK (F : Nat → Int32) (st : List Bool) (t : TK) : List Bool :=
  if t.1 = 0 then (match st with | a :: r => (!a) :: r | [] => [])
  else if t.1 = 1 then (match st with | b :: a :: r => (a && b) :: r | _ => [])
  else if t.1 = 2 then (match st with | b :: a :: r => (a || b) :: r | _ => [])
  else tst F t :: st
def evK (F : Nat → Int32) : List TK → List Bool → List Bool
  | [], st => st
  | t :: l, st => evK F l (stepK F st t)
/-- from so many on the stack, ending with so many; never more than 30 -/
def wfK : List TK → Nat → Nat → Prop
  | [], n, e => n = e
  | t :: l, n, e => okT t ∧ (if t.1 = 0 then 1 ≤ n ∧ wfK l n e else if t.1 ≤ 2 then 2 ≤ n ∧ wfK l (n - 1) e else n + 1 ≤ 30 ∧ wfK l (n + 1) e)
def evA (F : Nat → Int32) (l : List TK) : Bool := (evK F l []).headD false
def okC (q : Nat × Nat × List TK) : Prop := q.1 ≤ 3 ∧ q.2.1 ≤ 99 ∧ (q.1 ≤ 1 → wfK q.2.2 0 1)
def earsA (F : Nat → Int32) : CL → Int32 → Int32
  | [], s => s
  | q :: t, s => earsA F t (if q.1 ≤ 1 then (if evA F q.2.2 then (if q.1 = 0 then s + nI q.2.1 else s - nI q.2.1) else s) else s)
def lastA (w : Nat) : CL → Int32 → Int32
  | [], n => n
  | q :: t, n => lastA w t (if q.1 = w then nI q.2.1 else n)
def clampP (n : Int32) : Int32 := if n < 1 then 1 else if 9 < n then 9 else n
def flC : CL → List Int32
  | [] => []
  | q :: t => (if q.1 ≤ 1 then q.2.2.map tC ++ [nI ((if q.1 = 0 then 2000 else 3000) + q.2.1)] else []) ++ flC t
/-- a dusk object holds these clauses -/
def DC (mi : Nat → Nat → Int32) (k : Nat) (cl : CL) : Prop := (flC cl).length ≤ 100 ∧ mi k 1 = nI (flC cl).length ∧ (∀ i v, (flC cl)[i]? = some v → mi (k + 1) i = v) ∧ mi k 2 = lastA 2 cl 8 ∧ mi k 3 = clampP (lastA 3 cl 3) ∧ ∀ q ∈ cl, okC q
/-- a set of bits is a stack, the newest lowest -/
def KB (st : List Bool) (k : Int32) : Prop := ∀ i, i < 32 → bt k i = st.getD i false
theorem KB.new {b : Bool} {st : List Bool} {k : Int32} (h : KB (b :: st) k) : k &&& 1 = if b then 1 else 0 := by
  rw [and1_bt, h 0 (by decide)]
  rfl
theorem KB.shr {b : Bool} {st : List Bool} {k : Int32} (h : KB (b :: st) k) (hl : st.length ≤ 29) : KB st (k >>> ((1 : Int32) &&& 31)) := by
  intro i hi
  rw [show ((1 : Int32)) = nI 1 from rfl, b_sshr 1 (by decide) k hi]
  by_cases h1 : 1 + i < 32
  · rw [if_pos h1, h _ h1, Nat.add_comm]
    rfl
  · rw [if_neg h1, h 31 (by decide)]
    rw [List.getD_eq_getElem?_getD, List.getD_eq_getElem?_getD, List.getElem?_eq_none (by simp only [List.length_cons]; omega), List.getElem?_eq_none (by omega)]
theorem KB.push {st : List Bool} {k : Int32} (h : KB st k) (b : Bool) : KB (b :: st) ((k <<< ((1 : Int32) &&& 31)) ||| (if b then 1 else 0)) := by
  intro i hi
  rw [b_or, show (1 : Int32) &&& 31 = nI 1 &&& 31 from rfl, b_shl 1 (by decide) k hi]
  have e : bt (if b then 1 else 0) i = (decide (i = 0) && b) := by
    cases b
    · rw [if_neg (by decide), b_0]; simp
    · rw [if_pos rfl, bt_one hi]; simp
  rw [e]
  rcases Nat.eq_zero_or_pos i with rfl | hp
  · simp
  · rw [h (i - 1) (by omega)]
    obtain ⟨j, rfl⟩ : ∃ j, i = j + 1 := ⟨i - 1, by omega⟩
    simp
theorem KB.not {b : Bool} {st : List Bool} {k : Int32} (h : KB (b :: st) k) : KB ((!b) :: st) (k ^^^ 1) := by
  intro i hi
  rw [b_xor, h i hi, bt_one hi]
  rcases Nat.eq_zero_or_pos i with rfl | hp
  · cases b <;> rfl
  · obtain ⟨j, rfl⟩ : ∃ j, i = j + 1 := ⟨i - 1, by omega⟩
    simp
theorem bt_m2 {i : Nat} (hi : i < 32) : bt (-2) i = !decide (i = 0) := by
  revert i
  decide +kernel
theorem bt_ite {b : Bool} {i : Nat} (hi : i < 32) : bt (if b then (1 : Int32) else 0) i = (decide (i = 0) && b) := by
  cases b
  · rw [if_neg (by decide), b_0]; simp
  · rw [if_pos rfl, bt_one hi]; simp
theorem KB.and {a b : Bool} {st : List Bool} {k : Int32} (h : KB (b :: a :: st) k) (hl : st.length ≤ 28) : KB ((a && b) :: st) ((k >>> ((1 : Int32) &&& 31)) &&& ((k &&& 1) ||| -2)) := by
  intro i hi
  rw [b_and, b_or, (h.shr (by simp only [List.length_cons]; omega)) i hi, h.new, bt_m2 hi, bt_ite hi]
  rcases Nat.eq_zero_or_pos i with rfl | hp
  · simp
  · obtain ⟨j, rfl⟩ : ∃ j, i = j + 1 := ⟨i - 1, by omega⟩
    simp
theorem KB.or {a b : Bool} {st : List Bool} {k : Int32} (h : KB (b :: a :: st) k) (hl : st.length ≤ 28) : KB ((a || b) :: st) ((k >>> ((1 : Int32) &&& 31)) ||| (k &&& 1)) := by
  intro i hi
  rw [b_or, (h.shr (by simp only [List.length_cons]; omega)) i hi, h.new, bt_ite hi]
  rcases Nat.eq_zero_or_pos i with rfl | hp
  · simp
  · obtain ⟨j, rfl⟩ : ∃ j, i = j + 1 := ⟨i - 1, by omega⟩
    simp
theorem sm_div {a c : Nat} (ha : a < 2 ^ 31) (hc0 : 0 < c) (hc : c < 2 ^ 31) : nI a / nI c = nI (a / c) := by
  have hlt : a / c < 2 ^ 31 := Nat.lt_of_le_of_lt (Nat.div_le_self a c) ha
  apply Int32.toInt_inj.mp
  rw [Int32.toInt_div, nI_toInt ha, nI_toInt hc, nI_toInt hlt]
  have e : ((a : Int).tdiv (c : Int)) = ((a / c : Nat) : Int) := by
    rw [Int.tdiv_eq_ediv_of_nonneg (by omega)]
    exact (Int.natCast_ediv a c).symm
  have hb : ((a / c : Nat) : Int) < 2 ^ 31 := by exact_mod_cast hlt
  have h0 : 0 ≤ ((a / c : Nat) : Int) := Int.natCast_nonneg _
  generalize ((a / c : Nat) : Int) = z at e hb h0
  rw [e]
  exact Int.bmod_eq_of_le (by omega) (by omega)
theorem bitJ_ite (c : Bool) : bitJ (if c then 1 else 0) = if c then 1 else 0 := by cases c <;> rfl
theorem thC_tst {F : Nat → Int32} {t : TK} (ht : okT t) (h3 : t.1 = 3) : thC (tC t) F = if tst F t then 1 else 0 := by
  obtain ⟨k, f, s, n⟩ := t
  obtain ⟨-, hf, hs, hn⟩ := ht
  dsimp only at hf hs hn h3
  subst h3
  have e0 : tC (3, f, s, n) = nI (300 * f + 100 * s + n) := rfl
  have e1 : nI (300 * f + 100 * s + n) / 300 = nI f := by
    have := sm_div (a := 300 * f + 100 * s + n) (c := 300) (by omega) (by omega) (by omega)
    rw [show (300 * f + 100 * s + n) / 300 = f by omega] at this
    exact this
  have e2 : nI (300 * f + 100 * s + n) / 100 = nI (3 * f + s) := by
    have := sm_div (a := 300 * f + 100 * s + n) (c := 100) (by omega) (by omega) (by omega)
    rw [show (300 * f + 100 * s + n) / 100 = 3 * f + s by omega] at this
    exact this
  have e3 : remJ (nI (3 * f + s)) 3 = nI s := by
    have := sm_rem (a := 3 * f + s) (c := 3) (by omega) (by omega)
    rw [show (3 * f + s) % 3 = s by omega] at this
    exact this
  have e4 : remJ (nI (300 * f + 100 * s + n)) 100 = nI n := by
    have := sm_rem (a := 300 * f + 100 * s + n) (c := 100) (by omega) (by omega)
    rw [show (300 * f + 100 * s + n) % 100 = n by omega] at this
    exact this
  unfold thC tst
  rw [e0, e1, e2, e3, e4, if_neg (nI_pos (by omega)), if_pos (show nI f < 6 from (sm_lt_iff (a := f) (b := 6) (by omega) (by omega)).mpr (by omega)), show (nI f).toNatClampNeg = f from nI_clamp (by omega)]
  have hz : nI s = 0 ↔ s = 0 := ⟨fun q => sm_inj (by omega) (by omega) (q.trans nI_0.symm), fun q => by rw [q]; rfl⟩
  have ho : nI s = 1 ↔ s = 1 := ⟨fun q => sm_inj (b := 1) (by omega) (by omega) q, fun q => by rw [q]; rfl⟩
  by_cases h0 : s = 0
  · rw [if_pos (hz.mpr h0)]
    dsimp only
    rw [if_pos h0]
    by_cases hc : nI n ≤ F f
    · rw [if_pos hc]; simp [Int32.not_lt.mpr hc]
    · rw [if_neg hc]; simp [Int32.not_le.mp hc]
  · rw [if_neg (fun q => h0 (hz.mp q))]
    by_cases h1 : s = 1
    · rw [if_pos (ho.mpr h1)]
      dsimp only
      rw [if_neg h0, if_pos h1]
      by_cases hc : F f = nI n
      · simp [hc]
      · simp [hc]
    · rw [if_neg (fun q => h1 (ho.mp q))]
      dsimp only
      rw [if_neg h0, if_neg h1]
      by_cases hc : F f ≤ nI n
      · rw [if_pos hc]; simp [Int32.not_lt.mpr hc]
      · rw [if_neg hc]; simp [Int32.not_le.mp hc]
theorem tC_lt {t : TK} (ht : okT t) : ¬ 3000 ≤ tC t ∧ ¬ 2000 ≤ tC t := by
  obtain ⟨k, f, s, n⟩ := t
  obtain ⟨-, hf, hs, hn⟩ := ht
  dsimp only at hf hs hn
  have key : ∀ N : Nat, N = 3000 ∨ N = 2000 → ¬ nI N ≤ tC (k, f, s, n) := by
    intro N hN
    unfold tC
    dsimp only
    by_cases h0 : k = 0
    · rw [if_pos h0]; rcases hN with rfl | rfl <;> decide
    · rw [if_neg h0]
      by_cases h1 : k = 1
      · rw [if_pos h1]; rcases hN with rfl | rfl <;> decide
      · rw [if_neg h1]
        by_cases h2 : k = 2
        · rw [if_pos h2]; rcases hN with rfl | rfl <;> decide
        · rw [if_neg h2, sm_le_iff (by omega) (by omega)]
          omega
  exact ⟨key 3000 (Or.inl rfl), key 2000 (Or.inr rfl)⟩
/-- one token -/
theorem erF_tok {cd F : Nat → Int32} {n i : Nat} {e k : Int32} {t : TK} {st : List Bool} (ht : okT t) (hc : cd i = tC t) (hk : KB st k) (hw : if t.1 = 0 then 1 ≤ st.length else if t.1 ≤ 2 then 2 ≤ st.length else True) (hl : st.length ≤ 30) : ∃ k', KB (stepK F st t) k' ∧ erF cd F (n + 1) i e k = erF cd F n (i + 1) e k' := by
  obtain ⟨l1, l2⟩ := tC_lt ht
  conv => enter [1, k', 2, 1]; unfold erF
  rw [hc, if_neg l1, if_neg l2]
  by_cases h0 : t.1 = 0
  · rw [if_pos h0] at hw
    have e0 : tC t = -1 := by unfold tC; rw [if_pos h0]
    rw [e0, if_pos rfl]
    match st, hk, hw with
    | a :: r, hk, _ =>
      refine ⟨_, ?_, rfl⟩
      unfold stepK
      rw [if_pos h0]
      exact hk.not
  · rw [if_neg h0] at hw
    by_cases h1 : t.1 = 1
    · rw [if_pos (by omega)] at hw
      have e0 : tC t = -2 := by unfold tC; rw [if_neg h0, if_pos h1]
      rw [e0, if_neg (by decide), if_pos rfl]
      match st, hk, hw, hl with
      | b :: a :: r, hk, _, hl =>
        refine ⟨_, ?_, rfl⟩
        unfold stepK
        rw [if_neg h0, if_pos h1]
        exact hk.and (by simp only [List.length_cons] at hl; omega)
      | [_], _, hw, _ => simp at hw
    · by_cases h2 : t.1 = 2
      · rw [if_pos (by omega)] at hw
        have e0 : tC t = -3 := by unfold tC; rw [if_neg h0, if_neg h1, if_pos h2]
        rw [e0, if_neg (by decide), if_neg (by decide), if_pos rfl]
        match st, hk, hw, hl with
        | b :: a :: r, hk, _, hl =>
          refine ⟨_, ?_, rfl⟩
          unfold stepK
          rw [if_neg h0, if_neg h1, if_pos h2]
          exact hk.or (by simp only [List.length_cons] at hl; omega)
        | [_], _, hw, _ => simp at hw
      · have h3 : t.1 = 3 := by have := ht.1; omega
        have e0 : tC t = nI (300 * t.2.1 + 100 * t.2.2.1 + t.2.2.2) := by unfold tC; rw [if_neg h0, if_neg h1, if_neg h2]
        have hb : 300 * t.2.1 + 100 * t.2.2.1 + t.2.2.2 < 2 ^ 31 := by have := ht.2; omega
        have nn1 : ∀ z : Int32, z < 0 → ¬ tC t = z := fun z hz q => by rw [← q, e0] at hz; exact nI_pos hb hz
        rw [if_neg (nn1 _ (by decide)), if_neg (nn1 _ (by decide)), if_neg (nn1 _ (by decide))]
        refine ⟨_, ?_, rfl⟩
        unfold stepK
        rw [if_neg h0, if_neg h1, if_neg h2, thC_tst ht h3, bitJ_ite]
        exact hk.push _
theorem stepK_len {F : Nat → Int32} {st : List Bool} {t : TK} (ht : okT t) (hw : if t.1 = 0 then 1 ≤ st.length else if t.1 ≤ 2 then 2 ≤ st.length else True) : (stepK F st t).length = if t.1 = 0 then st.length else if t.1 ≤ 2 then st.length - 1 else st.length + 1 := by
  unfold stepK
  by_cases h0 : t.1 = 0
  · rw [if_pos h0, if_pos h0]
    rw [if_pos h0] at hw
    match st, hw with
    | a :: r, _ => rfl
  · rw [if_neg h0, if_neg h0]
    rw [if_neg h0] at hw
    by_cases h2 : t.1 ≤ 2
    · rw [if_pos h2]
      rw [if_pos h2] at hw
      match st, hw with
      | b :: a :: r, _ =>
        by_cases h1 : t.1 = 1
        · rw [if_pos h1]; rfl
        · rw [if_neg h1, if_pos (by omega)]; rfl
      | [_], hw => simp at hw
    · rw [if_neg h2, if_neg (by omega), if_neg (by omega)]
      rfl
theorem wfK_step {t : TK} {l : List TK} {n e : Nat} (h : wfK (t :: l) n e) (hn : n ≤ 30) : okT t ∧ (if t.1 = 0 then 1 ≤ n else if t.1 ≤ 2 then 2 ≤ n else True) ∧ ∃ n', n' ≤ 30 ∧ n' = (if t.1 = 0 then n else if t.1 ≤ 2 then n - 1 else n + 1) ∧ wfK l n' e := by
  obtain ⟨h1, h2⟩ := h
  refine ⟨h1, ?_⟩
  by_cases h0 : t.1 = 0
  · rw [if_pos h0] at h2 ⊢
    rw [if_pos h0]
    exact ⟨h2.1, n, hn, rfl, h2.2⟩
  · rw [if_neg h0] at h2 ⊢
    rw [if_neg h0]
    by_cases h3 : t.1 ≤ 2
    · rw [if_pos h3] at h2 ⊢
      rw [if_pos h3]
      exact ⟨h2.1, n - 1, by omega, rfl, h2.2⟩
    · rw [if_neg h3] at h2 ⊢
      rw [if_neg h3]
      exact ⟨trivial, n + 1, h2.1, rfl, h2.2⟩
theorem erF_toks {cd F : Nat → Int32} {m : Nat} {e : Int32} : ∀ (l : List TK) (i : Nat) (k : Int32) (st : List Bool) (z : Nat), wfK l st.length z → st.length ≤ 30 → KB st k → (∀ j t, l[j]? = some t → cd (i + j) = tC t) → ∃ k', KB (evK F l st) k' ∧ (evK F l st).length = z ∧ erF cd F (l.length + m) i e k = erF cd F m (i + l.length) e k'
  | [], i, k, st, z, hw, hn, hk, hc => ⟨k, hk, hw, by rw [List.length_nil, Nat.zero_add]; rfl⟩
  | t :: l, i, k, st, z, hw, hn, hk, hc => by
    obtain ⟨h1, h2, n', h3, h4, h5⟩ := wfK_step hw hn
    obtain ⟨k1, g1, g2⟩ := erF_tok (F := F) (i := i) (n := l.length + m) (e := e) h1 (hc 0 t rfl) hk h2 hn
    have hl := stepK_len (F := F) h1 h2
    rw [← h4] at hl
    obtain ⟨k2, f1, f2, f3⟩ := erF_toks (m := m) (e := e) l (i + 1) k1 (stepK F st t) z (by rw [hl]; exact h5) (by omega) g1 (fun j u hj => by rw [show i + 1 + j = i + (j + 1) by omega]; exact hc (j + 1) u hj)
    refine ⟨k2, f1, f2, ?_⟩
    rw [List.length_cons, show l.length + 1 + m = l.length + m + 1 by omega, g2, f3]
    congr 1
    omega
theorem erF_cl {cd F : Nat → Int32} : ∀ (cl : CL) (i : Nat) (e k : Int32), (∀ q ∈ cl, okC q) → KB [] k → (∀ j v, (flC cl)[j]? = some v → cd (i + j) = v) → erF cd F (flC cl).length i e k = earsA F cl e
  | [], _, _, _, _, _, _ => rfl
  | q :: t, i, e, k, hok, hk, hc => by
    have hq := hok q List.mem_cons_self
    have ih := erF_cl (cd := cd) (F := F) t
    unfold earsA
    by_cases h1 : q.1 ≤ 1
    · rw [if_pos h1]
      have ef : flC (q :: t) = q.2.2.map tC ++ (nI ((if q.1 = 0 then 2000 else 3000) + q.2.1) :: flC t) := by
        show (if q.1 ≤ 1 then _ else _) ++ flC t = _
        rw [if_pos h1, List.append_assoc]
        rfl
      rw [ef] at hc ⊢
      rw [List.length_append, List.length_map, List.length_cons]
      have hlen : (q.2.2.map tC).length = q.2.2.length := List.length_map _
      obtain ⟨k2, f1, f2, f3⟩ := erF_toks (cd := cd) (F := F) (m := (flC t).length + 1) (e := e) q.2.2 i k [] 1 (hq.2.2 h1) (by decide) hk (fun j u hj => hc j (tC u) (by
        rw [List.getElem?_append_left (by rw [hlen]; exact (List.getElem?_eq_some_iff.mp hj).1), List.getElem?_map, hj]; rfl))
      rw [f3]
      have hcd : cd (i + q.2.2.length) = nI ((if q.1 = 0 then 2000 else 3000) + q.2.1) := hc _ _ (by rw [List.getElem?_append_right (by rw [hlen]; exact Nat.le_refl _), hlen, Nat.sub_self]; rfl)
      have hrest : ∀ j v, (flC t)[j]? = some v → cd (i + q.2.2.length + 1 + j) = v := fun j v hj => by
        rw [show i + q.2.2.length + 1 + j = i + (q.2.2.length + (1 + j)) by omega]
        refine hc _ v ?_
        rw [List.getElem?_append_right (by rw [hlen]; omega), hlen, show q.2.2.length + (1 + j) - q.2.2.length = j + 1 by omega]
        exact hj
      obtain ⟨b, hb⟩ : ∃ b, evK F q.2.2 [] = [b] := by
        match h : evK F q.2.2 [], f2 with
        | [b], _ => exact ⟨b, rfl⟩
      rw [hb] at f1
      have eA : evA F q.2.2 = b := by unfold evA; rw [hb]; rfl
      have hnum : q.2.1 ≤ 99 := hq.2.1
      have hnew := f1.new
      have hsh := f1.shr (by decide)
      unfold erF
      rw [hcd, eA]
      by_cases h0 : q.1 = 0
      · rw [if_pos h0, if_pos h0]
        have n3 : ¬ (3000 : Int32) ≤ nI (2000 + q.2.1) := fun z => by
          have := (sm_le_iff (a := 3000) (by omega) (by omega)).mp z
          omega
        have n2 : (2000 : Int32) ≤ nI (2000 + q.2.1) := (sm_le_iff (a := 2000) (by omega) (by omega)).mpr (by omega)
        rw [if_neg n3, if_pos n2, hnew, show nI (2000 + q.2.1) - 2000 = nI q.2.1 from (sm_sub (a := 2000 + q.2.1) (b := 2000) (by omega)).trans (by rw [Nat.add_sub_cancel_left])]
        rw [ih _ _ _ (fun x hx => hok x (List.mem_cons_of_mem _ hx)) hsh hrest]
        cases b
        · simp
        · simp
      · rw [if_neg h0, if_neg h0]
        have n3 : (3000 : Int32) ≤ nI (3000 + q.2.1) := (sm_le_iff (a := 3000) (by omega) (by omega)).mpr (by omega)
        rw [if_pos n3, hnew, show nI (3000 + q.2.1) - 3000 = nI q.2.1 from (sm_sub (a := 3000 + q.2.1) (b := 3000) (by omega)).trans (by rw [Nat.add_sub_cancel_left])]
        rw [ih _ _ _ (fun x hx => hok x (List.mem_cons_of_mem _ hx)) hsh hrest]
        cases b
        · simp
        · simp
    · rw [if_neg h1]
      have ef : flC (q :: t) = flC t := by
        show (if q.1 ≤ 1 then _ else _) ++ flC t = _
        rw [if_neg h1]
        rfl
      rw [ef] at hc ⊢
      exact ih i e k (fun x hx => hok x (List.mem_cons_of_mem _ hx)) hk hc
theorem DC.er {mi : Nat → Nat → Int32} {k : Nat} {cl : CL} (h : DC mi k cl) : erD mi k = fun F => earsA F cl 0 := by
  obtain ⟨h1, h2, h3, -, -, h6⟩ := h
  funext F
  unfold erD
  rw [h2, show (nI (flC cl).length).toNatClampNeg = (flC cl).length from nI_clamp (by omega)]
  exact erF_cl cl 0 0 0 h6 (fun i hi => by rw [b_0]; rfl) (fun j v hj => by rw [Nat.zero_add]; exact h3 j v hj)
theorem DC.dki {mi : Nat → Nat → Int32} {k : Nat} {cl : CL} (h : DC mi k cl) : DKI mi k := ⟨_, h.1, h.2.1⟩
