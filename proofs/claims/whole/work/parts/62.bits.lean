/-! how many bits, the least of them -/
theorem nI_and (a b : Nat) : nI a &&& nI b = nI (a &&& b) := by
  apply Int32.toBitVec_inj.mp
  rw [Int32.toBitVec_and]
  exact (BitVec.ofNat_and).symm
theorem nI_sub {a b : Nat} (h : b ≤ a) : nI a - nI b = nI (a - b) := by
  have e : nI a = nI (a - b) + nI b := by rw [sm_add]; congr 1; omega
  rw [e]
  exact Int32.add_sub_cancel _ _
def ushJ (x k : Int32) : Int32 := (x.toUInt32 >>> (k.toUInt32 &&& Int32.toUInt32 31)).toInt32
theorem nI_ush {a k : Nat} (h : a < 2 ^ 32) (hk : k < 32) : ushJ (nI a) (nI k) = nI (a >>> k) := by
  apply Int32.toBitVec_inj.mp
  unfold ushJ
  apply BitVec.eq_of_toNat_eq
  have hk2 : k % 2 ^ 32 = k := Nat.mod_eq_of_lt (by omega)
  have : ((nI k).toUInt32 &&& Int32.toUInt32 31).toNat = k := by
    rw [UInt32.toNat_and]
    show (k % 2 ^ 32) &&& 31 = k
    rw [hk2, show 31 = 2 ^ 5 - 1 from rfl, Nat.and_two_pow_sub_one_eq_mod]
    omega
  show ((nI a).toUInt32 >>> ((nI k).toUInt32 &&& Int32.toUInt32 31)).toNat = (a >>> k) % 2 ^ 32
  rw [UInt32.toNat_shiftRight, this]
  show (a % 2 ^ 32) >>> (k % 32) = _
  rw [Nat.mod_eq_of_lt h, Nat.mod_eq_of_lt hk, Nat.mod_eq_of_lt (Nat.lt_of_le_of_lt (Nat.shiftRight_le a k) h)]
def popJ2 (x : Int32) : Int32 :=
  (fun d => (d + ushJ d 16) &&& 63) ((fun c => c + ushJ c 8) ((fun b => (b + ushJ b 4) &&& 252645135) ((fun a => (a &&& 858993459) + (ushJ a 2 &&& 858993459)) (x - (ushJ x 1 &&& 1431655765)))))
def popN (s : Nat) : Nat :=
  (fun d => (d + d >>> 16) &&& 63) ((fun c => c + c >>> 8) ((fun b => (b + b >>> 4) &&& 252645135) ((fun a => (a &&& 858993459) + (a >>> 2 &&& 858993459)) (s - (s >>> 1 &&& 1431655765)))))
theorem popJ_nI {s : Nat} (hs : s < 2 ^ 30) : popJ2 (nI s) = nI (popN s) := by
  have k1 : ∀ {a : Nat}, a < 2 ^ 32 → ushJ (nI a) 1 = nI (a >>> 1) := fun h => nI_ush (k := 1) h (by decide)
  have k2 : ∀ {a : Nat}, a < 2 ^ 32 → ushJ (nI a) 2 = nI (a >>> 2) := fun h => nI_ush (k := 2) h (by decide)
  have k4 : ∀ {a : Nat}, a < 2 ^ 32 → ushJ (nI a) 4 = nI (a >>> 4) := fun h => nI_ush (k := 4) h (by decide)
  have k8 : ∀ {a : Nat}, a < 2 ^ 32 → ushJ (nI a) 8 = nI (a >>> 8) := fun h => nI_ush (k := 8) h (by decide)
  have k16 : ∀ {a : Nat}, a < 2 ^ 32 → ushJ (nI a) 16 = nI (a >>> 16) := fun h => nI_ush (k := 16) h (by decide)
  have h1 : s >>> 1 &&& 1431655765 ≤ s := Nat.le_trans Nat.and_le_left (Nat.shiftRight_le s 1)
  have e1 : nI s - (ushJ (nI s) 1 &&& (1431655765 : Int32)) = nI (s - (s >>> 1 &&& 1431655765)) := by
    rw [k1 (by omega), show (1431655765 : Int32) = nI 1431655765 from rfl, nI_and, nI_sub h1]
  obtain ⟨a, ha⟩ : ∃ a, a = s - (s >>> 1 &&& 1431655765) := ⟨_, rfl⟩
  rw [← ha] at e1
  have a2 : a < 2 ^ 30 := by omega
  have e2 : (nI a &&& (858993459 : Int32)) + (ushJ (nI a) 2 &&& (858993459 : Int32)) = nI ((a &&& 858993459) + (a >>> 2 &&& 858993459)) := by
    rw [k2 (by omega), show (858993459 : Int32) = nI 858993459 from rfl, nI_and, nI_and, sm_add]
  obtain ⟨b, hb⟩ : ∃ b, b = (a &&& 858993459) + (a >>> 2 &&& 858993459) := ⟨_, rfl⟩
  rw [← hb] at e2
  have b2 : b < 2 ^ 31 := by
    have q1 : a &&& 858993459 ≤ 858993459 := Nat.and_le_right
    have q2 : a >>> 2 &&& 858993459 ≤ 858993459 := Nat.and_le_right
    omega
  have e3 : (nI b + ushJ (nI b) 4) &&& (252645135 : Int32) = nI ((b + b >>> 4) &&& 252645135) := by
    rw [k4 (by omega), show (252645135 : Int32) = nI 252645135 from rfl, sm_add, nI_and]
  obtain ⟨c, hc⟩ : ∃ c, c = (b + b >>> 4) &&& 252645135 := ⟨_, rfl⟩
  rw [← hc] at e3
  have c2 : c ≤ 252645135 := by rw [hc]; exact Nat.and_le_right
  have e4 : nI c + ushJ (nI c) 8 = nI (c + c >>> 8) := by rw [k8 (by omega), sm_add]
  have d2 : c + c >>> 8 < 2 ^ 32 := by have := Nat.shiftRight_le c 8; omega
  have e5 : (nI (c + c >>> 8) + ushJ (nI (c + c >>> 8)) 16) &&& (63 : Int32) = nI ((c + c >>> 8 + (c + c >>> 8) >>> 16) &&& 63) := by
    rw [k16 d2, show (63 : Int32) = nI 63 from rfl, sm_add, nI_and]
  show (fun d => (d + ushJ d 16) &&& 63) ((fun c => c + ushJ c 8) ((fun b => (b + ushJ b 4) &&& 252645135) ((fun a => (a &&& 858993459) + (ushJ a 2 &&& 858993459)) (nI s - (ushJ (nI s) 1 &&& 1431655765))))) = nI ((fun d => (d + d >>> 16) &&& 63) ((fun c => c + c >>> 8) ((fun b => (b + b >>> 4) &&& 252645135) ((fun a => (a &&& 858993459) + (a >>> 2 &&& 858993459)) (s - (s >>> 1 &&& 1431655765))))))
  rw [e1, ← ha]
  show (fun d => (d + ushJ d 16) &&& 63) ((fun c => c + ushJ c 8) ((fun b => (b + ushJ b 4) &&& 252645135) ((nI a &&& 858993459) + (ushJ (nI a) 2 &&& 858993459)))) = nI ((fun d => (d + d >>> 16) &&& 63) ((fun c => c + c >>> 8) ((fun b => (b + b >>> 4) &&& 252645135) ((a &&& 858993459) + (a >>> 2 &&& 858993459)))))
  rw [e2, ← hb]
  show (fun d => (d + ushJ d 16) &&& 63) ((fun c => c + ushJ c 8) ((nI b + ushJ (nI b) 4) &&& 252645135)) = nI ((fun d => (d + d >>> 16) &&& 63) ((fun c => c + c >>> 8) ((b + b >>> 4) &&& 252645135)))
  rw [e3, ← hc]
  show (fun d => (d + ushJ d 16) &&& 63) (nI c + ushJ (nI c) 8) = _
  rw [e4]
  exact e5
/-! byte by byte -/
theorem land_split {a m t n : Nat} (ha : a < 256) (hm : m < 256) : (a + 256 * t) &&& (m + 256 * n) = (a &&& m) + 256 * (t &&& n) := by
  have hl : a &&& m < 256 := Nat.lt_of_le_of_lt Nat.and_le_left ha
  apply Nat.eq_of_testBit_eq
  intro j
  rw [Nat.testBit_and, show a + 256 * t = 2 ^ 8 * t + a by omega, show m + 256 * n = 2 ^ 8 * n + m by omega, show (a &&& m) + 256 * (t &&& n) = 2 ^ 8 * (t &&& n) + (a &&& m) by omega,
    Nat.testBit_two_pow_mul_add t ha, Nat.testBit_two_pow_mul_add n hm, Nat.testBit_two_pow_mul_add _ hl]
  split
  · rw [Nat.testBit_and]
  · rw [Nat.testBit_and]
def B4 (a b c d : Nat) : Nat := a + 256 * (b + 256 * (c + 256 * d))
theorem and4 {a b c d m : Nat} (ha : a < 256) (hb : b < 256) (hc : c < 256) (hm : m < 256) : B4 a b c d &&& B4 m m m m = B4 (a &&& m) (b &&& m) (c &&& m) (d &&& m) := by
  unfold B4
  rw [land_split ha hm, land_split hb hm, land_split hc hm]
theorem sh1 {a b c d : Nat} : B4 a b c d >>> 1 = B4 (a / 2 + 128 * (b % 2)) (b / 2 + 128 * (c % 2)) (c / 2 + 128 * (d % 2)) (d / 2) := by
  unfold B4
  rw [Nat.shiftRight_eq_div_pow]
  omega
theorem sh2 {a b c d : Nat} : B4 a b c d >>> 2 = B4 (a / 4 + 64 * (b % 4)) (b / 4 + 64 * (c % 4)) (c / 4 + 64 * (d % 4)) (d / 4) := by
  unfold B4
  rw [Nat.shiftRight_eq_div_pow]
  omega
theorem by1 : ∀ a < 256, ∀ c < 2, (a / 2 + 128 * c) &&& 85 = a / 2 &&& 85 := by decide +kernel
theorem by2 : ∀ a < 256, ∀ c < 4, (a / 4 + 64 * c) &&& 51 = a / 4 &&& 51 := by decide +kernel
def q2 (a : Nat) : Nat := (fun p => (p &&& 51) + (p / 4 &&& 51)) (a - (a / 2 &&& 85))
def bc (a : Nat) : Nat := (a.testBit 0).toNat + (a.testBit 1).toNat + (a.testBit 2).toNat + (a.testBit 3).toNat + (a.testBit 4).toNat + (a.testBit 5).toNat + (a.testBit 6).toNat + (a.testBit 7).toNat
theorem by3 : ∀ a < 256, (a / 2 &&& 85) ≤ a ∧ a - (a / 2 &&& 85) < 256 ∧ q2 a ≤ 68 ∧ q2 a % 16 ≤ 4 ∧ (q2 a + q2 a / 16) % 16 = bc a ∧ bc a ≤ 8 := by decide +kernel
theorem pop_B4 {a b c d : Nat} (ha : a < 256) (hb : b < 256) (hc : c < 256) (hd : d < 256) : popN (B4 a b c d) = bc a + bc b + bc c + bc d := by
  obtain ⟨a1, a2, a3, a4, a5, a6⟩ := by3 a ha
  obtain ⟨b1, b2, b3, b4, b5, b6⟩ := by3 b hb
  obtain ⟨c1, c2, c3, c4, c5, c6⟩ := by3 c hc
  obtain ⟨d1, d2, d3, d4, d5, d6⟩ := by3 d hd
  have e1 : B4 a b c d - (B4 a b c d >>> 1 &&& 1431655765) = B4 (a - (a / 2 &&& 85)) (b - (b / 2 &&& 85)) (c - (c / 2 &&& 85)) (d - (d / 2 &&& 85)) := by
    rw [sh1, show 1431655765 = B4 85 85 85 85 from rfl, and4 (by omega) (by omega) (by omega) (by decide), by1 a ha _ (by omega), by1 b hb _ (by omega), by1 c hc _ (by omega)]
    unfold B4
    omega
  obtain ⟨p, hp⟩ : ∃ p, p = a - (a / 2 &&& 85) := ⟨_, rfl⟩
  obtain ⟨q, hq⟩ : ∃ q, q = b - (b / 2 &&& 85) := ⟨_, rfl⟩
  obtain ⟨r, hr⟩ : ∃ r, r = c - (c / 2 &&& 85) := ⟨_, rfl⟩
  obtain ⟨u, hu⟩ : ∃ u, u = d - (d / 2 &&& 85) := ⟨_, rfl⟩
  have ep : q2 a = (p &&& 51) + (p / 4 &&& 51) := by rw [hp]; rfl
  have eq : q2 b = (q &&& 51) + (q / 4 &&& 51) := by rw [hq]; rfl
  have er : q2 c = (r &&& 51) + (r / 4 &&& 51) := by rw [hr]; rfl
  have eu : q2 d = (u &&& 51) + (u / 4 &&& 51) := by rw [hu]; rfl
  rw [← hp, ← hq, ← hr, ← hu] at e1
  rw [← hp] at a2
  rw [← hq] at b2
  rw [← hr] at c2
  rw [← hu] at d2
  have e2 : (B4 p q r u &&& 858993459) + (B4 p q r u >>> 2 &&& 858993459) = B4 (q2 a) (q2 b) (q2 c) (q2 d) := by
    rw [sh2, show 858993459 = B4 51 51 51 51 from rfl, and4 a2 b2 c2 (by decide), and4 (by omega) (by omega) (by omega) (by decide), by2 p a2 _ (by omega), by2 q b2 _ (by omega), by2 r c2 _ (by omega), ep, eq, er, eu]
    unfold B4
    omega
  obtain ⟨w, hw⟩ : ∃ w, w = q2 a := ⟨_, rfl⟩
  obtain ⟨x, hx⟩ : ∃ x, x = q2 b := ⟨_, rfl⟩
  obtain ⟨y, hy⟩ : ∃ y, y = q2 c := ⟨_, rfl⟩
  obtain ⟨z, hz⟩ : ∃ z, z = q2 d := ⟨_, rfl⟩
  rw [← hw, ← hx, ← hy, ← hz] at e2
  rw [← hw] at a3 a4 a5
  rw [← hx] at b3 b4 b5
  rw [← hy] at c3 c4 c5
  rw [← hz] at d3 d4 d5
  have m15 : ∀ n : Nat, n &&& 15 = n % 16 := fun n => Nat.and_two_pow_sub_one_eq_mod n 4
  have e3 : (B4 w x y z + B4 w x y z >>> 4) &&& 252645135 = B4 (bc a) (bc b) (bc c) (bc d) := by
    have : B4 w x y z + B4 w x y z >>> 4 = B4 (w + w / 16 + 16 * (x % 16)) (x + x / 16 + 16 * (y % 16)) (y + y / 16 + 16 * (z % 16)) (z + z / 16) := by
      unfold B4
      rw [Nat.shiftRight_eq_div_pow]
      omega
    rw [this, show 252645135 = B4 15 15 15 15 from rfl, and4 (by omega) (by omega) (by omega) (by decide), m15, m15, m15, m15]
    have t1 : (w + w / 16 + 16 * (x % 16)) % 16 = bc a := by omega
    have t2 : (x + x / 16 + 16 * (y % 16)) % 16 = bc b := by omega
    have t3 : (y + y / 16 + 16 * (z % 16)) % 16 = bc c := by omega
    rw [t1, t2, t3, d5]
  have m63 : ∀ n : Nat, n &&& 63 = n % 64 := fun n => Nat.and_two_pow_sub_one_eq_mod n 6
  unfold popN
  rw [e1]
  dsimp only
  rw [e2, e3, m63]
  obtain ⟨a', ha'⟩ : ∃ n, n = bc a := ⟨_, rfl⟩
  obtain ⟨b', hb'⟩ : ∃ n, n = bc b := ⟨_, rfl⟩
  obtain ⟨c', hc'⟩ : ∃ n, n = bc c := ⟨_, rfl⟩
  obtain ⟨d', hd'⟩ : ∃ n, n = bc d := ⟨_, rfl⟩
  rw [← ha'] at a6
  rw [← hb'] at b6
  rw [← hc'] at c6
  rw [← hd'] at d6
  rw [← ha', ← hb', ← hc', ← hd']
  have f1 : B4 a' b' c' d' + B4 a' b' c' d' >>> 8 = B4 (a' + b') (b' + c') (c' + d') d' := by
    unfold B4
    rw [Nat.shiftRight_eq_div_pow]
    omega
  rw [f1]
  have f2 : B4 (a' + b') (b' + c') (c' + d') d' >>> 16 = (c' + d') + 256 * d' := by
    unfold B4
    rw [Nat.shiftRight_eq_div_pow]
    omega
  rw [f2]
  unfold B4
  omega
theorem popJ_2 (x : Int32) : popJ x = popJ2 x := rfl
theorem popN_B {s : Nat} (hs : s < 2 ^ 30) : popN s = bc (s % 256) + bc (s / 256 % 256) + bc (s / 65536 % 256) + bc (s / 16777216) := by
  have e : ∀ a b c d, B4 a b c d = s → a < 256 → b < 256 → c < 256 → d < 256 → popN s = bc a + bc b + bc c + bc d := fun a b c d h ha hb hc hd => by
    rw [← h]
    exact pop_B4 ha hb hc hd
  exact e _ _ _ _ (by unfold B4; omega) (by omega) (by omega) (by omega) (by omega)
theorem popJ_B {s : Nat} (hs : s < 2 ^ 30) : popJ (nI s) = nI (bc (s % 256) + bc (s / 256 % 256) + bc (s / 65536 % 256) + bc (s / 16777216)) := by
  rw [popJ_2, popJ_nI hs, popN_B hs]
theorem bc_at {s k : Nat} : bc (s / 2 ^ k % 256) = (s.testBit k).toNat + (s.testBit (k + 1)).toNat + (s.testBit (k + 2)).toNat + (s.testBit (k + 3)).toNat + (s.testBit (k + 4)).toNat + (s.testBit (k + 5)).toNat + (s.testBit (k + 6)).toNat + (s.testBit (k + 7)).toNat := by
  have e : ∀ j, j < 8 → (s / 2 ^ k % 256).testBit j = s.testBit (k + j) := fun j hj => by
    rw [show 256 = 2 ^ 8 from rfl, Nat.testBit_mod_two_pow, ← Nat.shiftRight_eq_div_pow, Nat.testBit_shiftRight, decide_eq_true hj, Bool.true_and]
  unfold bc
  rw [e 0 (by decide), e 1 (by decide), e 2 (by decide), e 3 (by decide), e 4 (by decide), e 5 (by decide), e 6 (by decide), e 7 (by decide)]
  rfl
theorem cntR_ext {f g : Nat → Bool} : ∀ (k n : Nat), (∀ j, n ≤ j → j < n + k → f j = g j) → cntR f n k = cntR g n k
  | 0, _, _ => rfl
  | k + 1, n, h => by rw [cntR_succ, cntR_succ, h n (Nat.le_refl n) (by omega), cntR_ext k (n + 1) (fun j h1 h2 => h j (by omega) (by omega))]
theorem bN (b : Bool) : (if b = true then 1 else 0) = b.toNat := by cases b <;> rfl
theorem cntR_add {f : Nat → Bool} : ∀ (k m n : Nat), cntR f n (k + m) = cntR f n k + cntR f (n + k) m
  | 0, m, n => by rw [Nat.zero_add, Nat.add_zero]; exact (Nat.zero_add _).symm
  | k + 1, m, n => by rw [show k + 1 + m = (k + m) + 1 by omega, cntR_succ, cntR_succ, cntR_add k m (n + 1), show n + 1 + k = n + (k + 1) by omega, Nat.add_assoc]
theorem cnt8 {s k : Nat} : cntR (fun j => s.testBit j) k 8 = bc (s / 2 ^ k % 256) := by
  rw [bc_at]
  simp only [cntR, bN, Nat.add_assoc, Nat.reduceAdd, Nat.add_zero]
theorem pop_cnt {s : Nat} (hs : s < 2 ^ 30) : popJ (nI s) = nI (cntR (fun j => s.testBit j) 0 30) := by
  rw [popJ_B hs]
  refine congrArg nI ?_
  have e32 : cntR (fun j => s.testBit j) 0 32 = cntR (fun j => s.testBit j) 0 30 := by
    rw [cntR_add 30 2 0]
    have f : ∀ j, 30 ≤ j → s.testBit j = false := fun j hj => Nat.testBit_lt_two_pow (Nat.lt_of_lt_of_le hs (Nat.pow_le_pow_right (by decide) hj))
    have : cntR (fun j => s.testBit j) (0 + 30) 2 = 0 := by
      rw [Nat.zero_add, cntR_succ, cntR_succ, f 30 (by omega), f (30 + 1) (by omega)]
      rfl
    rw [this, Nat.add_zero]
  rw [← e32, show 32 = 8 + (8 + (8 + 8)) from rfl, cntR_add, cntR_add, cntR_add, cnt8, cnt8, cnt8, cnt8]
  have h1 : s / 2 ^ (0 + 8 + 8 + 8) % 256 = s / 16777216 := by
    rw [show 2 ^ (0 + 8 + 8 + 8) = 16777216 from rfl]
    omega
  rw [h1]
  show _ = bc (s / 1 % 256) + (bc (s / 256 % 256) + (bc (s / 65536 % 256) + bc (s / 16777216)))
  rw [Nat.div_one]
  omega
theorem fstR_hit {ok : Nat → Bool} {m : Nat} (h : ok m = true) : ∀ (k n : Nat), n ≤ m → m < n + k → (∀ j, n ≤ j → j < m → ok j = false) → fstR ok n k = nI m
  | 0, n, h1, h2, _ => by omega
  | k + 1, n, h1, h2, h3 => by
    rw [fstR_succ]
    by_cases e : n = m
    · rw [e, if_pos h]
    · rw [h3 n (Nat.le_refl n) (by omega), if_neg (by decide)]
      exact fstR_hit h k (n + 1) (by omega) (by omega) (fun j j1 j2 => h3 j (by omega) j2)
theorem fstR_no {ok : Nat → Bool} : ∀ (k n : Nat), (∀ j, n ≤ j → j < n + k → ok j = false) → fstR ok n k = -5
  | 0, _, _ => rfl
  | k + 1, n, h => by
    rw [fstR_succ, h n (Nat.le_refl n) (by omega), if_neg (by decide)]
    exact fstR_no k (n + 1) (fun j j1 j2 => h j (by omega) (by omega))
