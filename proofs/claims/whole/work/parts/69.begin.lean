/-! what the machine holds at the law's entry -/
theorem wt_w {args : Array Value} {s : State} (hts : ∀ w ∈ lw_tbl, w.before args s = true) {w : Cond} (i : Nat) (h : lw_tbl[i]? = some w) : w.before args s = true := hts w (List.mem_of_getElem? h)
def wt_N : List Cond := flatC (Jvm.Cond.and given_1 narrow_1)
theorem wt_n {args : Array Value} {s : State} (hg : (Jvm.Cond.and given_1 narrow_1).before args s = true) {w : Cond} (i : Nat) (h : wt_N[i]? = some w) : w.before args s = true := flat_of_before _ hg w (List.mem_of_getElem? h)
theorem wt_arr {args : Array Value} {s : State} {ty : FieldType} (h : (Cond.arrayClass ty).before args s = true) : ∃ cA : ClassId, ArrOfT s cA ty ∧ s.vm.findClass ("[" ++ ty.toString) = some cA := by
  obtain ⟨c, k, comp, h1, h2, h3⟩ := Cond.arrayClass_spec (args := args) (first := s) (o := none) (s := s) (idx := []) h
  exact ⟨c, fun n z => ⟨(fun k h => by cases h), k, h2, comp, h3⟩, h1⟩
theorem wt_over {args : Array Value} {s : State} {C : String} (h : (Cond.arrayOver (.object C)).before args s = true) : ∃ cA : ClassId, ArrOfT s cA (.object C) ∧ va_RA s cA (.object C) := by
  obtain ⟨comp, c, k, h1, h2, h3, h4, h5⟩ := Cond.arrayOver_spec (args := args) (first := s) (o := none) (s := s) (idx := []) h
  exact ⟨c, fun n z => ⟨(fun k h => by cases h), k, h3, comp, h4⟩, k, comp, h3, h4, h1, h5⟩
theorem wt_inst : ∀ (ci : Nat) (q : vw_C), vwCl[ci]? = some q → Cond.instantiable q.1 q.2.2 ∈ rn_WS := rn_cl (P := fun _ q => Cond.instantiable q.1 q.2.2 ∈ rn_WS) nw_RX0 nw_RX1 nw_RX2 nw_RX3 nw_RX4 nw_RX5 nw_RX6 nw_RX7 nw_RX8 nw_RX9
def wt_sel (c0 c1 c2 c3 c4 c5 c6 : ClassId) (t : Nat) : ClassId := match t with
  | 0 => c0 | 1 => c1 | 2 => c2 | 3 => c3 | 4 => c4 | 5 => c5 | _ => c6
theorem wt_K {args : Array Value} {s : State} (hts : ∀ w ∈ lw_tbl, w.before args s = true) : ∃ (D : va_G) (cA : Nat → ClassId), va_K D vwCl [(cA 0, .int), (cA 1, .long), (cA 2, .byte), (cA 3, .boolean), (cA 4, .object RX4), (cA 5, .object RX1), (cA 6, .object RX7)] s := by
  have hws : ∀ w ∈ rn_WS, w.before args s = true := fun w hw => hts w (List.mem_filter.mp hw).1
  have hc : ∀ ci : Nat, ∃ p : ClassId × (Nat → Nat), ∀ q : vw_C, vwCl[ci]? = some q → u_Kn s q.1 q.2.1 q.2.2 p.1 p.2 := by
    intro ci
    cases hq : vwCl[ci]? with
    | none => exact ⟨(0, fun _ => 0), fun q h => by cases h⟩
    | some q =>
      obtain ⟨cC, iS, h⟩ := u_known hws (rn_in ci q hq) (hws _ (wt_inst ci q hq))
      exact ⟨(cC, iS), fun q' h' => by cases h'; exact h⟩
  obtain ⟨f, hf⟩ := Classical.axiomOfChoice hc
  obtain ⟨c0, a0, b0⟩ := wt_arr (hws _ mk_int)
  obtain ⟨c1, a1, b1⟩ := wt_arr (hws _ mk_long)
  obtain ⟨c2, a2, b2⟩ := wt_arr (hws _ mk_byte)
  obtain ⟨c3, a3, b3⟩ := wt_arr (hws _ mk_boolean)
  obtain ⟨c4, a4, b4⟩ := wt_over (C := RX4) (wt_w hts 117 (by decide +kernel))
  obtain ⟨c5, a5, b5⟩ := wt_over (C := RX1) (wt_w hts 323 (by decide +kernel))
  obtain ⟨c6, a6, b6⟩ := wt_over (C := RX7) (wt_w hts 349 (by decide +kernel))
  refine ⟨(fun c => (f c).1, fun c => (f c).2), wt_sel c0 c1 c2 c3 c4 c5 c6, fun c q hq => hf c q hq, fun k q hk => ?_⟩
  match k, hk with
  | 0, hk => cases hk; exact ⟨a0, b0⟩
  | 1, hk => cases hk; exact ⟨a1, b1⟩
  | 2, hk => cases hk; exact ⟨a2, b2⟩
  | 3, hk => cases hk; exact ⟨a3, b3⟩
  | 4, hk => cases hk; exact ⟨a4, b4⟩
  | 5, hk => cases hk; exact ⟨a5, b5⟩
  | 6, hk => cases hk; exact ⟨a6, b6⟩
/-! the places of the premises -/
def wt_b (i : Nat) : Nat := [73, 82, 92, 103, 115, 129].getD i 0
def wt_nb (i : Nat) : Nat := [0, 91, 101, 112, 125, 136].getD i 0
def wt_sr (i : Nat) : Nat := [549, 550, 551, 552, 633, 693].getD i 0
def wt_tm (i : Nat) : Term := .string RX5 (rn_sk i)
def wt_tv (i : Nat) : Term := .field (.string RX5 (rn_sk i)) "java/lang/String" "value" "[B"
set_option maxRecDepth 20000 in
theorem wt_ka : ∀ j, j < 7 → wt_N[36 + j]? = some (Cond.eq (.elem (.static "LockedAtDusk" "KIND_ABOVE" "[I") (.int (Int32.ofNat j))) (.int (rn_ka j))) := by decide +kernel
set_option maxRecDepth 20000 in
theorem wt_bo : ∀ j, j < 21 → wt_N[12 + j]? = some (Cond.eq (.elem (.static "LockedAtDusk" "BODIES" "[I") (.int (Int32.ofNat j))) (.int (rn_bo j))) := by decide +kernel
set_option maxRecDepth 20000 in
theorem wt_ex : ∀ i, i < 6 → wt_N[wt_b i]? = some (Cond.exactly (wt_tm i) "java/lang/String") := by decide +kernel
set_option maxRecDepth 20000 in
theorem wt_co : ∀ i, i < 6 → wt_N[wt_b i + 1]? = some (Cond.eq (.field (wt_tm i) "java/lang/String" "coder" "B") (.int 0)) := by decide +kernel
set_option maxRecDepth 20000 in
theorem wt_ar : ∀ i, i < 6 → wt_N[wt_b i + 2]? = some (Cond.arrayOf (wt_tv i) .byte) := by decide +kernel
set_option maxRecDepth 20000 in
theorem wt_le : ∀ i, i < 6 → wt_N[wt_b i + 3]? = some (Cond.eq (.length (wt_tv i)) (.int (Int32.ofNat (rn_sl.getD i 0)))) := by decide +kernel
set_option maxRecDepth 20000 in
theorem wt_el : ∀ i, i < 6 → ∀ j, j < rn_sl.getD i 0 → wt_N[wt_b i + 4 + j]? = some (Cond.eq (.elem (wt_tv i) (.int (Int32.ofNat j))) (.int ((rn_sb.getD i []).getD j 0))) := by decide +kernel
set_option maxRecDepth 20000 in
theorem wt_ne : ∀ j, j < 6 → ∀ i, i < j → wt_N[wt_nb j + i]? = some (Cond.not (Cond.eq (wt_tm i) (wt_tm j))) := by decide +kernel
set_option maxRecDepth 20000 in
theorem wt_st : ∀ i, i < 6 → lw_tbl[wt_sr i]? = some (Cond.stringRef RX5 (rn_sk i) (rn_sx i)) := by decide +kernel
/-- where what was there before lies -/
def wt_pa (b tK tB : Nat) (adK adV : Nat → Nat) (i : Nat) : Nat := if i = 0 then b else if i = 1 then tK else if i = 2 then tB else if i < 20 then adK (i - 10) else adV (i - 20)
theorem wt_paK {b tK tB : Nat} {adK adV : Nat → Nat} {i : Nat} (h : i < 6) : wt_pa b tK tB adK adV (10 + i) = adK i := by
  unfold wt_pa
  rw [if_neg (by omega), if_neg (by omega), if_neg (by omega), if_pos (by omega), Nat.add_sub_cancel_left]
theorem wt_paV {b tK tB : Nat} {adK adV : Nat → Nat} {i : Nat} (h : i < 6) : wt_pa b tK tB adK adV (20 + i) = adV i := by
  unfold wt_pa
  rw [if_neg (by omega), if_neg (by omega), if_neg (by omega), if_neg (by omega), Nat.add_sub_cancel_left]
set_option maxHeartbeats 4000000 in
theorem wt_E {s : State} {b L : Nat} {xs : Nat → Int32} (l : Launch) (hts : ∀ w ∈ lw_tbl, w.before #[Value.ref b] s = true) (hg : (Jvm.Cond.and given_1 narrow_1).before #[Value.ref b] s = true) (hX : va_X b L xs s s.heap) (hbl : b < s.heap.size) :
    ∃ G : rn_G, rn_l G = l ∧ rn_b G = s.heap.size - 1 ∧ rn_pa G 0 = b ∧ rn_Ln G = L ∧ va_K (rn_D G) vwCl (rn_tys G) s ∧ rn_E G s s.heap := by
  have hA : ∀ a : Nat, a < s.heap.size → ¬ (s.heap.size - 1 < a) := fun a ha => by omega
  obtain ⟨D, cA, hK⟩ := wt_K hts
  obtain ⟨tK, eK, hTK⟩ := va_Tof (tm := .static "LockedAtDusk" "KIND_ABOVE" "[I") (ty := .int) (N := 7) (f := fun j => .int (rn_ka j)) (A := fun q => s.heap.size - 1 < q) (by decide) (wt_n hg 34 (by decide +kernel)) (va_eqt (wt_n hg 35 (by decide +kernel))) (fun j hj => va_eqt (wt_n hg (36 + j) (wt_ka j hj))) hA
  obtain ⟨tB, eB, hTB⟩ := va_Tof (tm := .static "LockedAtDusk" "BODIES" "[I") (ty := .int) (N := 21) (f := fun j => .int (rn_bo j)) (A := fun q => s.heap.size - 1 < q) (by decide) (wt_n hg 10 (by decide +kernel)) (va_eqt (wt_n hg 11 (by decide +kernel))) (fun j hj => va_eqt (wt_n hg (12 + j) (wt_bo j hj))) hA
  have hzK := va_Zof (A := fun q => s.heap.size - 1 < q) (wt_w hts 916 (by decide +kernel)) (wt_w hts 84 (by decide +kernel)) eK hA
  have hzB := va_Zof (A := fun q => s.heap.size - 1 < q) (wt_w hts 914 (by decide +kernel)) (wt_w hts 84 (by decide +kernel)) eB hA
  have hzC := va_Zof (A := fun q => s.heap.size - 1 < q) (wt_w hts 566 (by decide +kernel)) (wt_w hts 96 (by decide +kernel)) (va_eqi (C := "java/lang/String") (n := "COMPACT_STRINGS") (d := "Z") (z := 1) (wt_n hg 4 (by decide +kernel))) hA
  have hzF := va_Zqof (C := "jdk/internal/util/Preconditions") (n := "SIOOBE_FORMATTER") (d := "Ljava/util/function/BiFunction;") (A := fun q => s.heap.size - 1 < q) (wt_w hts 582 (by decide +kernel)) (wt_w hts 98 (by decide +kernel)) (wt_n hg 5 (by decide +kernel)) hA
  obtain ⟨fo, hfo⟩ : ∃ fo : Option Nat, va_Z "jdk/internal/util/Preconditions" "SIOOBE_FORMATTER" "Ljava/util/function/BiFunction;" (va_rf fo) (fun q => s.heap.size - 1 < q) s s.heap := by
    rcases hzF with h | ⟨t, h⟩
    · exact ⟨none, h⟩
    · exact ⟨some t, h⟩
  obtain ⟨adK, adV, hS, hev⟩ := vk_Sof (N := 6) (tm := wt_tm) (len := rn_sl) (byt := rn_sb) (A := fun q => s.heap.size - 1 < q) (by decide) (fun i hi => wt_n hg _ (wt_ex i hi)) (fun i hi => wt_n hg _ (wt_co i hi)) (fun i hi => wt_n hg _ (wt_ar i hi)) (fun i hi => wt_n hg _ (wt_le i hi)) (fun i hi j hj => wt_n hg _ (wt_el i hi j hj))
    (fun i j hi hj hij => by
      rcases Nat.lt_or_gt_of_ne hij with h | h
      · exact Or.inl (wt_n hg _ (wt_ne j hj i h))
      · exact Or.inr (wt_n hg _ (wt_ne i hi j h))) hA
  refine ⟨(l, s.heap.size - 1, D.1, D.2, cA, wt_pa b tK tB adK adV, fo, L, xs), rfl, rfl, rfl, rfl, hK, ?_, ?_, ?_, ?_, ?_, va_AO.of (wt_w hts 117 (by decide +kernel)), va_AO.of (wt_w hts 323 (by decide +kernel)), va_AO.of (wt_w hts 349 (by decide +kernel))⟩
  · intro q hq
    simp only [rn_st, List.mem_cons, List.not_mem_nil, or_false] at hq
    rcases hq with rfl | rfl | rfl | rfl
    · exact hzK
    · exact hzB
    · exact hzC
    · exact hfo
  · intro i hi
    match i, hi with
    | 0, _ =>
      obtain ⟨scr, h1, h2, h3, h4, h5⟩ := hX
      exact ⟨scr, h1, h2, h3, Nat.le_of_eq h4.symm, by rw [h4]; rfl, h5, hA b hbl⟩
    | 1, _ => exact hTK
    | 2, _ => exact hTB
  · intro w hw
    have h1 := (List.mem_filter.mp hw).2
    have h2 := hts w (List.mem_filter.mp hw).1
    cases w <;> first | exact va_Nw.of rfl h2 | (simp [rn_isN] at h1; done)
  · intro i hi
    refine vk_R.of (wt_w hts _ (wt_st i hi)) ?_
    show Term.eval _ _ _ _ _ _ = some (Value.ref (wt_pa b tK tB adK adV (10 + i)))
    rw [wt_paK hi]
    exact hev i hi
  · refine ⟨fun i hi => ?_, fun i j hi hj e => ?_⟩
    · have h := hS.1 i hi
      rw [← wt_paK (b := b) (tK := tK) (tB := tB) (adK := adK) (adV := adV) hi, ← wt_paV (b := b) (tK := tK) (tB := tB) (adK := adK) (adV := adV) hi] at h
      exact h
    · have e' : wt_pa b tK tB adK adV (10 + i) = wt_pa b tK tB adK adV (10 + j) := e
      rw [wt_paK hi, wt_paK hj] at e'
      exact hS.2 i j hi hj e'
