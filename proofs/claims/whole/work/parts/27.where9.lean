/-! the reference: where, can, odds, mean, gone -/
def cntR (ok : Nat → Bool) : Nat → Nat → Nat
  | _, 0 => 0
  | n, k + 1 => (if ok n then 1 else 0) + cntR ok (n + 1) k
def fstR (ok : Nat → Bool) : Nat → Nat → Int32
  | _, 0 => -5
  | n, k + 1 => if ok n then nI n else fstR ok (n + 1) k
theorem cntR_succ (ok : Nat → Bool) (n k : Nat) : cntR ok n (k + 1) = (if ok n then 1 else 0) + cntR ok (n + 1) k := rfl
theorem fstR_succ (ok : Nat → Bool) (n k : Nat) : fstR ok n (k + 1) = if ok n then nI n else fstR ok (n + 1) k := rfl
theorem cntR_le (ok : Nat → Bool) : ∀ (k n : Nat), cntR ok n k ≤ k
  | 0, _ => Nat.le_refl 0
  | k + 1, n => by
    unfold cntR
    have := cntR_le ok k (n + 1)
    split <;> omega
noncomputable def whB (cl : CL) (sl : SL) (i : Nat) (w : WD) (n : Nat) : Bool := seenA (erA cl) (putW i (nI n) w) sl
def canW (i n : Nat) (w : WD) : WD := upP w i (fun f => if f = 1 then nI n else w.2.2.2 i f)
noncomputable def caB (cl : CL) (sl : SL) (i : Nat) (w : WD) (n : Nat) : Bool := seenA (erA cl) (canW i n w) sl
theorem PJ.can {P : Nat → Int32} {a : Nat} (h : PJ P) (ha : a ≤ 9) : PJ (fun f => if f = 1 then nI a else P f) := by
  obtain ⟨a1, a2, a3, a4, a5, a6, a7⟩ := h
  exact ⟨a1, ⟨a, ha, rfl⟩, a3, a4, a5, a6, fun j hj => by
    dsimp only
    rw [if_neg (by omega)]; exact a7 j hj⟩
theorem WJ.can {T i N a : Nat} {w : WD} (h : WJ T w) (h2 : w.1 2 = nI N) (hN : N ≤ 6) (hi : i < N) (ha : a ≤ 9) : WJ T (canW i a w) := h.upP ((h.pj h2 hN hi).can ha)
theorem MB.can {mi : Nat → Nat → Int32} {cl : CL} {w : WD} {i P n : Nat} (hB : MB mi cl w) (hp : mi 116 1 = nI P) (hP : P ≤ 6) (hi : i < P) : MB (rn_u mi 119 i (nI n)) cl (canW i n w) := by
  obtain ⟨h1, h2, h3, h4, h5, h6⟩ := hB
  refine ⟨h1.ext (by rw [rn_u_ne (by decide)]) (fun a a1 a2 => rn_u_ne (by omega)), ?_, by rw [rn_u_ne (by decide)]; exact h3, by rw [rn_u_ne (by decide)]; exact h4, by rw [rn_u_ne (by decide)]; exact h5, by rw [rn_u_ne (by decide)]; exact h6⟩
  rw [← h2]
  refine wM_upP hp hP hi (fun f _ _ _ _ => by rw [rn_u_ne (by decide)]) (rn_u_ne (by decide)) (rn_u_ne (by decide)) (fun x hx hxi => ?_) (fun f => ?_)
  · funext f
    unfold pM
    simp only [rn_u_ne (show (118 : Nat) ≠ 119 by decide), rn_u_ne (show (120 : Nat) ≠ 119 by decide), rn_u_ne (show (121 : Nat) ≠ 119 by decide), rn_u_ne (show (122 : Nat) ≠ 119 by decide), rn_u_ne (show (116 : Nat) ≠ 119 by decide)]
    simp [rn_u, hxi]
  · rw [wM_p hp hP hi]
    unfold pM
    by_cases h1 : f = 1
    · subst h1; simp [rn_u]
    · simp [rn_u, h1]
theorem ME.up {mi m : Nat → Nat → Int32} {i : Nat} {v : Int32} (h : ME mi m) : ME (rn_u mi 119 i v) (rn_u m 119 i v) := by
  obtain ⟨h1, h2, h3⟩ := h
  refine ⟨fun a ha => ?_, fun f hf => ?_, fun j hj => ?_⟩
  · by_cases e : a = 119
    · subst e
      funext j
      unfold rn_u
      rw [h1 119 (by omega)]
    · rw [rn_u_ne e, rn_u_ne e]; exact h1 a ha
  · rw [rn_u_ne (by decide), rn_u_ne (by decide)]; exact h2 f hf
  · rw [rn_u_ne (by decide), rn_u_ne (by decide), rn_u_ne (by decide), rn_u_ne (by decide), rn_u_ne (by decide), rn_u_ne (by decide)]; exact h3 j hj
theorem rn_u_u {α : Type} {f : Nat → Nat → α} {a k : Nat} {u v : α} : rn_u (rn_u f a k u) a k v = rn_u f a k v := by
  funext b j
  unfold rn_u
  split <;> rfl
theorem rn_u_self {α : Type} {f : Nat → Nat → α} {a k : Nat} : rn_u f a k (f a k) = f := by
  funext b j
  unfold rn_u
  split
  · rename_i h; rw [h.1, h.2]
  · rfl
theorem bi_ne0 {b : Bool} : (¬ bi b = 0) ↔ b = true := by cases b <;> decide

set_option maxHeartbeats 4000000 in
theorem L_where9 {G : rn_G} {d : Nat} {κ : Nat × Nat} {Q : Option Value → rn_S → Prop} {mi : Nat → Nat → Int32} {ml : Nat → Nat → Int64} {D : Nat → Nat} {T : Nat} {cl : CL} {w : WD} (hB : MB mi cl w) (hw : WJ T w) (hT : T + 200 < 2 ^ 30) {P : Nat} (hpp : mi 116 1 = nI P) (hP : P ≤ 6) {sl : SL} (hsl : SLM mi P sl) {i : Nat} {x z : Int32} (hx : x = nI i) (hiP : i < P) (h : ∀ m, ME mi m → Q (some (.int (if z = 0 then nI (cntR (whB cl sl i w) 0 30) else fstR (whB cl sl i w) 0 30))) (m, ml, RF D, 164)) : ∀ (n k : Nat) (y many first : Int32) (m : Nat → Nat → Int32), n + k = 30 → y = nI n - 1 → ME mi m → many = nI (cntR (whB cl sl i w) n k) → first = fstR (whB cl sl i w) n k → Run G (d + 9) M_X9_where 30 [.ref 116, .int x, .int z, .int many, .int first, .int y] [] (m, ml, RF D, 164) κ Q := by
  have h2 : w.1 2 = nI P := by rw [← hB.2.1]; exact hpp
  intro n
  induction n with
  | zero =>
    intro k y many first m hni hy hm h1 h2'
    obtain rfl : k = 30 := by omega
    have hy : y = -1 := by rw [hy]; rfl
    rw [← h1, ← h2'] at h
    refine il_5 dX9_where_30 ?_
    refine R_if_lt (tgt := 61) dX9_where_32 (by decide) (fun c32 => ?_) (fun q => absurd q (not_not_intro (by rw [hy]; decide)))
    refine il_2 dX9_where_61 ?_
    refine R_if_ne (tgt := 69) dX9_where_62 (by decide) (fun c62 => ?_) (fun c62 => ?_)
    · refine il_4 dX9_where_69 ?_
      refine R_ireturn dX9_where_71 ⟨_, rfl, rfl⟩ ?_
      first | (rw [if_pos c62] at h; exact h m hm) | (rw [if_neg c62] at h; exact h m hm)
    · refine il_3 dX9_where_65 ?_
      refine R_goto (tgt := 71) dX9_where_66 (by decide) ?_
      refine R_ireturn dX9_where_71 ⟨_, rfl, rfl⟩ ?_
      first | (rw [if_pos c62] at h; exact h m hm) | (rw [if_neg c62] at h; exact h m hm)
  | succ n ih =>
    intro k y many first m hni hy hm h1 h2'
    have hy : y = nI n := by rw [hy]; exact sm_sub (a := n + 1) (b := 1) (by omega)
    have hBm := hB.me hw hm
    have em1 : m 116 1 = nI P := by rw [hm.2.1 1 (by omega)]; exact hpp
    have y0 : 0 ≤ y := by rw [hy]; exact Int32.not_lt.mp (nI_pos (by omega))
    have hwp : WJ T (if 0 ≤ y then putW i y w else w) := by rw [if_pos y0, hy]; exact hw.put h2 hP hiP (by omega)
    refine il_5 dX9_where_30 ?_
    refine R_if_lt (tgt := 61) dX9_where_32 (by decide) (fun q => absurd q (Int32.not_lt.mpr y0)) (fun c32 => ?_)
    refine al_0 dX9_where_35 ?_
    refine il_1 dX9_where_36 ?_
    refine il_5 dX9_where_37 ?_
    refine cv_2 dX9_where_39 mm_RX9_457 sh_116 (Nat.le_of_ble_eq_true rfl) ⟨_, rfl, rfl⟩ (Nat.le_of_ble_eq_true rfl) (Nat.le_of_ble_eq_true rfl) (M_isSeen (sl := sl) hBm hw hT em1 hP hx hiP hwp (hsl.me hm) (fun m3 hm3 => nmr (fun yy hyy => ?_)))
    refine R_if_ne (tgt := 48) dX9_where_42 (by decide) (fun c42 => ?_) (fun c42 => ?_)
    · refine ii_3 (v := _ + 1) dX9_where_48 rfl (by rfl) ?_
      refine il_5 dX9_where_51 ?_
      refine is_4 dX9_where_53 rfl ?_
      refine ii_5 (v := _ + (-1)) dX9_where_55 rfl (by rfl) ?_
      refine R_goto (tgt := 30) dX9_where_58 (by decide) ?_
      have hyb : yy = bi (whB cl sl i w n) := by rw [hyy, if_pos y0, hy]; rfl
      rw [hyb] at c42
      refine ih (k + 1) _ _ _ m3 (by omega) (by rw [hy, ← Int32.sub_eq_add_neg]) (hm.trans hm3) ?_ ?_
      · first
        | (rw [h1, cntR_succ, if_pos (bi_ne0.mp c42), Nat.add_comm 1]; exact sm_add _ 1)
        | (rw [h1, cntR_succ, if_neg (fun q => c42 |> fun c => by rw [q] at c; exact absurd c (by decide)), Nat.zero_add])
      · first
        | (rw [fstR_succ, if_pos (bi_ne0.mp c42)]; exact hy)
        | (rw [fstR_succ, if_neg (fun q => c42 |> fun c => by rw [q] at c; exact absurd c (by decide))]; exact h2')
    · refine R_goto (tgt := 55) dX9_where_45 (by decide) ?_
      refine ii_5 (v := _ + (-1)) dX9_where_55 rfl (by rfl) ?_
      refine R_goto (tgt := 30) dX9_where_58 (by decide) ?_
      have hyb : yy = bi (whB cl sl i w n) := by rw [hyy, if_pos y0, hy]; rfl
      rw [hyb] at c42
      refine ih (k + 1) _ _ _ m3 (by omega) (by rw [hy, ← Int32.sub_eq_add_neg]) (hm.trans hm3) ?_ ?_
      · first
        | (rw [h1, cntR_succ, if_pos (bi_ne0.mp c42), Nat.add_comm 1]; exact sm_add _ 1)
        | (rw [h1, cntR_succ, if_neg (fun q => c42 |> fun c => by rw [q] at c; exact absurd c (by decide)), Nat.zero_add])
      · first
        | (rw [fstR_succ, if_pos (bi_ne0.mp c42)]; exact hy)
        | (rw [fstR_succ, if_neg (fun q => c42 |> fun c => by rw [q] at c; exact absurd c (by decide))]; exact h2')

set_option maxHeartbeats 4000000 in
theorem M_where {G : rn_G} {d : Nat} {κ : Nat × Nat} {Q : Option Value → rn_S → Prop} {mi : Nat → Nat → Int32} {ml : Nat → Nat → Int64} {D : Nat → Nat} {x z : Int32} {T : Nat} {cl : CL} {w : WD} (hB : MB mi cl w) (hw : WJ T w) (hT : T + 200 < 2 ^ 30) {P : Nat} (hpp : mi 116 1 = nI P) (hP : P ≤ 6) {sl : SL} (hsl : SLM mi P sl) (h0 : ¬ ((0 ≤ x ∧ x < nI P) ∧ (0 ≤ z ∧ z ≤ 1)) → Q (some (.int (-1))) (mi, ml, RF D, 164)) (h : ∀ i m, x = nI i → i < P → (0 ≤ z ∧ z ≤ 1) → ME mi m → Q (some (.int (if z = 0 then nI (cntR (whB cl sl i w) 0 30) else fstR (whB cl sl i w) 0 30))) (m, ml, RF D, 164)) : Call G (d + 9) M_X9_where [.ref 116, .int x, .int z] (mi, ml, RF D, 164) κ Q := by
  show Run G _ M_X9_where 0 [.ref 116, .int x, .int z, .null, .null, .null] [] _ _ _
  refine al_0 dX9_where_0 ?_
  refine il_1 dX9_where_1 ?_
  refine cv_1 dX9_where_2 mm_RX9_305 sh_116 (Nat.le_of_ble_eq_true rfl) ⟨_, rfl, rfl⟩ (Nat.le_of_ble_eq_true rfl) (Nat.le_of_ble_eq_true rfl) (M_isPerson (fun c2 => ?_) (fun c2 => ?_) ⟨P, hP, hpp⟩)
  · refine R_if_eq (tgt := 18) dX9_where_5 (by decide) (fun q => absurd q (by decide)) (fun _ => ?_)
    refine al_0 dX9_where_8 ?_
    refine il_2 dX9_where_9 ?_
    refine R_iconst (v := 0) dX9_where_10 (by decide) ?_
    refine R_iconst (v := 1) dX9_where_11 (by decide) ?_
    refine cv_3 dX9_where_12 mm_RX9_293 sh_116 (Nat.le_of_ble_eq_true rfl) ⟨_, rfl, rfl⟩ (Nat.le_of_ble_eq_true rfl) (Nat.le_of_ble_eq_true rfl) (M_in (fun c12 => ?_) (fun c12 => ?_))
    · refine R_if_ne (tgt := 20) dX9_where_15 (by decide) (fun _ => ?_) (fun q => absurd q (by decide))
      refine R_iconst (v := 0) dX9_where_20 (by decide) ?_
      refine is_3 dX9_where_21 rfl ?_
      refine R_bipush (v := -5) dX9_where_22 (by decide) ?_
      refine is_4 dX9_where_24 rfl ?_
      refine R_bipush (v := 29) dX9_where_26 (by decide) ?_
      refine is_5 dX9_where_28 rfl ?_
      obtain ⟨i, hiP, hx⟩ := sm_of c2.1 (by rw [← hpp]; exact c2.2) (by omega)
      exact L_where9 hB hw hT hpp hP hsl hx hiP (fun m hm => h i m hx hiP c12 hm) 30 0 29 0 (-5) mi (by omega) rfl (ME.refl mi) rfl rfl
    · refine R_if_ne (tgt := 20) dX9_where_15 (by decide) (fun q => absurd q (by decide)) (fun _ => ?_)
      refine R_iconst (v := -1) dX9_where_18 (by decide) ?_
      refine R_ireturn dX9_where_19 ⟨_, rfl, rfl⟩ ?_
      first | exact h0 (fun q => c2 (by rw [hpp]; exact q.1)) | exact h0 (fun q => c12 q.2)
  · refine R_if_eq (tgt := 18) dX9_where_5 (by decide) (fun _ => ?_) (fun q => absurd q (by decide))
    refine R_iconst (v := -1) dX9_where_18 (by decide) ?_
    refine R_ireturn dX9_where_19 ⟨_, rfl, rfl⟩ ?_
    first | exact h0 (fun q => c2 (by rw [hpp]; exact q.1)) | exact h0 (fun q => c12 q.2)

set_option maxHeartbeats 4000000 in
theorem L_can9 {G : rn_G} {d : Nat} {κ : Nat × Nat} {Q : Option Value → rn_S → Prop} {mi : Nat → Nat → Int32} {ml : Nat → Nat → Int64} {D : Nat → Nat} {T : Nat} {cl : CL} {w : WD} (hB : MB mi cl w) (hw : WJ T w) (hT : T + 200 < 2 ^ 30) {P : Nat} (hpp : mi 116 1 = nI P) (hP : P ≤ 6) {sl : SL} (hsl : SLM mi P sl) {i : Nat} {x z : Int32} (hx : x = nI i) (hiP : i < P) (h : ∀ m, ME mi m → Q (some (.int (if z = 0 then nI (cntR (caB cl sl i w) 0 10) else fstR (caB cl sl i w) 0 10))) (m, ml, RF D, 164)) : ∀ (n k : Nat) (y many first : Int32) (m : Nat → Nat → Int32) (u : Int32), n + k = 10 → y = nI n - 1 → ME (rn_u mi 119 i u) m → many = nI (cntR (caB cl sl i w) n k) → first = fstR (caB cl sl i w) n k → Run G (d + 9) M_X9_can 38 [.ref 116, .int x, .int z, .int (mi 119 i), .int many, .int first, .int y] [] (m, ml, RF D, 164) κ Q := by
  have h2 : w.1 2 = nI P := by rw [← hB.2.1]; exact hpp
  have hi6 : i < 6 := by omega
  intro n
  induction n with
  | zero =>
    intro k y many first m u hni hy hm h1 h2'
    obtain rfl : k = 10 := by omega
    have hy : y = -1 := by rw [hy]; rfl
    rw [← h1, ← h2'] at h
    have hfin : ME mi (rn_u m 119 i (mi 119 i)) := by
      have q := hm.up (i := i) (v := mi 119 i)
      rw [rn_u_u, rn_u_self] at q
      exact q
    refine il_6 dX9_can_38 ?_
    refine R_if_lt (tgt := 76) dX9_can_40 (by decide) (fun c40 => ?_) (fun q => absurd q (not_not_intro (by rw [hy]; decide)))
    refine al_0 dX9_can_76 ?_
    refine R_getfr (r := 119) dX9_can_77 fl_RX9_44 rfl sh_116 (Nat.le_of_ble_eq_true rfl) rf_116_11 ?_
    refine il_1 dX9_can_80 ?_
    refine il_3 dX9_can_81 ?_
    refine R_iast dX9_can_82 sh_119 (Nat.le_of_ble_eq_true rfl) (rn_ixe hx) hi6 ?_
    refine il_2 dX9_can_83 ?_
    refine R_if_ne (tgt := 92) dX9_can_84 (by decide) (fun c84 => ?_) (fun c84 => ?_)
    · refine il_5 dX9_can_92 ?_
      refine R_ireturn dX9_can_94 ⟨_, rfl, rfl⟩ ?_
      first | (rw [if_pos c84] at h; exact h _ hfin) | (rw [if_neg c84] at h; exact h _ hfin)
    · refine il_4 dX9_can_87 ?_
      refine R_goto (tgt := 94) dX9_can_89 (by decide) ?_
      refine R_ireturn dX9_can_94 ⟨_, rfl, rfl⟩ ?_
      first | (rw [if_pos c84] at h; exact h _ hfin) | (rw [if_neg c84] at h; exact h _ hfin)
  | succ n ih =>
    intro k y many first m u hni hy hm h1 h2'
    have hy : y = nI n := by rw [hy]; exact sm_sub (a := n + 1) (b := 1) (by omega)
    have y0 : 0 ≤ y := by rw [hy]; exact Int32.not_lt.mp (nI_pos (by omega))
    have hwc : WJ T (canW i n w) := hw.can h2 hP hiP (by omega)
    have hme : ME (rn_u mi 119 i y) (rn_u m 119 i y) := by
      have q := hm.up (i := i) (v := y)
      rw [rn_u_u] at q
      exact q
    have hBm2 : MB (rn_u m 119 i y) cl (canW i n w) := by
      have q := hB.can (n := n) hpp hP hiP
      rw [← hy] at q
      exact q.me hwc hme
    have em1 : rn_u m 119 i y 116 1 = nI P := by rw [hme.2.1 1 (by omega), rn_u_ne (by decide)]; exact hpp
    have hwp : WJ T (if (0 : Int32) ≤ -1 then putW i (-1) (canW i n w) else canW i n w) := by rw [if_neg (by decide)]; exact hwc
    have hsl2 : SLM (rn_u m 119 i y) P sl := SLM.me (mi := rn_u mi 119 i y) (by unfold SLM; rw [rn_u_ne (show (116 : Nat) ≠ 119 by decide), rn_u_ne (show (138 : Nat) ≠ 119 by decide), rn_u_ne (show (139 : Nat) ≠ 119 by decide), rn_u_ne (show (140 : Nat) ≠ 119 by decide)]; exact hsl) hme
    refine il_6 dX9_can_38 ?_
    refine R_if_lt (tgt := 76) dX9_can_40 (by decide) (fun q => absurd q (Int32.not_lt.mpr y0)) (fun c40 => ?_)
    refine al_0 dX9_can_43 ?_
    refine R_getfr (r := 119) dX9_can_44 fl_RX9_44 rfl sh_116 (Nat.le_of_ble_eq_true rfl) rf_116_11 ?_
    refine il_1 dX9_can_47 ?_
    refine il_6 dX9_can_48 ?_
    refine R_iast dX9_can_50 sh_119 (Nat.le_of_ble_eq_true rfl) (rn_ixe hx) hi6 ?_
    refine al_0 dX9_can_51 ?_
    refine il_1 dX9_can_52 ?_
    refine R_iconst (v := -1) dX9_can_53 (by decide) ?_
    refine cv_2 dX9_can_54 mm_RX9_457 sh_116 (Nat.le_of_ble_eq_true rfl) ⟨_, rfl, rfl⟩ (Nat.le_of_ble_eq_true rfl) (Nat.le_of_ble_eq_true rfl) (M_isSeen (sl := sl) hBm2 hwc hT em1 hP hx hiP hwp hsl2 (fun m3 hm3 => nmr (fun yy hyy => ?_)))
    refine R_if_ne (tgt := 63) dX9_can_57 (by decide) (fun c57 => ?_) (fun c57 => ?_)
    · refine ii_4 (v := _ + 1) dX9_can_63 rfl (by rfl) ?_
      refine il_6 dX9_can_66 ?_
      refine is_5 dX9_can_68 rfl ?_
      refine ii_6 (v := _ + (-1)) dX9_can_70 rfl (by rfl) ?_
      refine R_goto (tgt := 38) dX9_can_73 (by decide) ?_
      have hyb : yy = bi (caB cl sl i w n) := by rw [hyy, if_neg (by decide)]; rfl
      rw [hyb] at c57
      refine ih (k + 1) _ _ _ m3 y (by omega) (by rw [hy, ← Int32.sub_eq_add_neg]) (hme.trans hm3) ?_ ?_
      · first
        | (rw [h1, cntR_succ, if_pos (bi_ne0.mp c57), Nat.add_comm 1]; exact sm_add _ 1)
        | (rw [h1, cntR_succ, if_neg (fun q => c57 |> fun c => by rw [q] at c; exact absurd c (by decide)), Nat.zero_add])
      · first
        | (rw [fstR_succ, if_pos (bi_ne0.mp c57)]; exact hy)
        | (rw [fstR_succ, if_neg (fun q => c57 |> fun c => by rw [q] at c; exact absurd c (by decide))]; exact h2')
    · refine R_goto (tgt := 70) dX9_can_60 (by decide) ?_
      refine ii_6 (v := _ + (-1)) dX9_can_70 rfl (by rfl) ?_
      refine R_goto (tgt := 38) dX9_can_73 (by decide) ?_
      have hyb : yy = bi (caB cl sl i w n) := by rw [hyy, if_neg (by decide)]; rfl
      rw [hyb] at c57
      refine ih (k + 1) _ _ _ m3 y (by omega) (by rw [hy, ← Int32.sub_eq_add_neg]) (hme.trans hm3) ?_ ?_
      · first
        | (rw [h1, cntR_succ, if_pos (bi_ne0.mp c57), Nat.add_comm 1]; exact sm_add _ 1)
        | (rw [h1, cntR_succ, if_neg (fun q => c57 |> fun c => by rw [q] at c; exact absurd c (by decide)), Nat.zero_add])
      · first
        | (rw [fstR_succ, if_pos (bi_ne0.mp c57)]; exact hy)
        | (rw [fstR_succ, if_neg (fun q => c57 |> fun c => by rw [q] at c; exact absurd c (by decide))]; exact h2')

set_option maxHeartbeats 4000000 in
theorem M_can {G : rn_G} {d : Nat} {κ : Nat × Nat} {Q : Option Value → rn_S → Prop} {mi : Nat → Nat → Int32} {ml : Nat → Nat → Int64} {D : Nat → Nat} {x z : Int32} {T : Nat} {cl : CL} {w : WD} (hB : MB mi cl w) (hw : WJ T w) (hT : T + 200 < 2 ^ 30) {P : Nat} (hpp : mi 116 1 = nI P) (hP : P ≤ 6) {sl : SL} (hsl : SLM mi P sl) (h0 : ¬ ((0 ≤ x ∧ x < nI P) ∧ (0 ≤ z ∧ z ≤ 1)) → Q (some (.int (-1))) (mi, ml, RF D, 164)) (h : ∀ i m, x = nI i → i < P → (0 ≤ z ∧ z ≤ 1) → ME mi m → Q (some (.int (if z = 0 then nI (cntR (caB cl sl i w) 0 10) else fstR (caB cl sl i w) 0 10))) (m, ml, RF D, 164)) : Call G (d + 9) M_X9_can [.ref 116, .int x, .int z] (mi, ml, RF D, 164) κ Q := by
  show Run G _ M_X9_can 0 [.ref 116, .int x, .int z, .null, .null, .null, .null] [] _ _ _
  refine al_0 dX9_can_0 ?_
  refine il_1 dX9_can_1 ?_
  refine cv_1 dX9_can_2 mm_RX9_305 sh_116 (Nat.le_of_ble_eq_true rfl) ⟨_, rfl, rfl⟩ (Nat.le_of_ble_eq_true rfl) (Nat.le_of_ble_eq_true rfl) (M_isPerson (fun c2 => ?_) (fun c2 => ?_) ⟨P, hP, hpp⟩)
  · refine R_if_eq (tgt := 18) dX9_can_5 (by decide) (fun q => absurd q (by decide)) (fun _ => ?_)
    refine al_0 dX9_can_8 ?_
    refine il_2 dX9_can_9 ?_
    refine R_iconst (v := 0) dX9_can_10 (by decide) ?_
    refine R_iconst (v := 1) dX9_can_11 (by decide) ?_
    refine cv_3 dX9_can_12 mm_RX9_293 sh_116 (Nat.le_of_ble_eq_true rfl) ⟨_, rfl, rfl⟩ (Nat.le_of_ble_eq_true rfl) (Nat.le_of_ble_eq_true rfl) (M_in (fun c12 => ?_) (fun c12 => ?_))
    · refine R_if_ne (tgt := 20) dX9_can_15 (by decide) (fun _ => ?_) (fun q => absurd q (by decide))
      obtain ⟨i, hiP, hx⟩ := sm_of c2.1 (by rw [← hpp]; exact c2.2) (by omega)
      have hi6 : i < 6 := by omega
      refine al_0 dX9_can_20 ?_
      refine R_getfr (r := 119) dX9_can_21 fl_RX9_44 rfl sh_116 (Nat.le_of_ble_eq_true rfl) rf_116_11 ?_
      refine il_1 dX9_can_24 ?_
      refine R_iald dX9_can_25 sh_119 (Nat.le_of_ble_eq_true rfl) (rn_ixe hx) hi6 ?_
      refine is_3 dX9_can_26 rfl ?_
      refine R_iconst (v := 0) dX9_can_27 (by decide) ?_
      refine is_4 dX9_can_28 rfl ?_
      refine R_bipush (v := -5) dX9_can_30 (by decide) ?_
      refine is_5 dX9_can_32 rfl ?_
      refine R_bipush (v := 9) dX9_can_34 (by decide) ?_
      refine is_6 dX9_can_36 rfl ?_
      exact L_can9 hB hw hT hpp hP hsl hx hiP (fun m hm => h i m hx hiP c12 hm) 10 0 9 0 (-5) mi (mi 119 i) (by omega) rfl (by rw [rn_u_self]; exact ME.refl mi) rfl rfl
    · refine R_if_ne (tgt := 20) dX9_can_15 (by decide) (fun q => absurd q (by decide)) (fun _ => ?_)
      refine R_iconst (v := -1) dX9_can_18 (by decide) ?_
      refine R_ireturn dX9_can_19 ⟨_, rfl, rfl⟩ ?_
      first | exact h0 (fun q => c2 (by rw [hpp]; exact q.1)) | exact h0 (fun q => c12 q.2)
  · refine R_if_eq (tgt := 18) dX9_can_5 (by decide) (fun _ => ?_) (fun q => absurd q (by decide))
    refine R_iconst (v := -1) dX9_can_18 (by decide) ?_
    refine R_ireturn dX9_can_19 ⟨_, rfl, rfl⟩ ?_
    first | exact h0 (fun q => c2 (by rw [hpp]; exact q.1)) | exact h0 (fun q => c12 q.2)

set_option maxHeartbeats 4000000 in
theorem L_divisor {G : rn_G} {d : Nat} {κ : Nat × Nat} {Q : Option Value → rn_S → Prop} {mi : Nat → Nat → Int32} {ml : Nat → Nat → Int64} {D : Nat → Nat} {a b : Nat} {x y : Int32} (h : Q (some (.int (nI (Nat.gcd a b)))) (mi, ml, RF D, 164)) : ∀ (n u v : Nat) (p q : Int32) (v5 : Value), v ≤ n → u < 2 ^ 31 → v < 2 ^ 31 → p = nI u → q = nI v → Nat.gcd u v = Nat.gcd a b → Run G d M_X9_divisor 5 [.ref 116, .int x, .int y, .int p, .int q, v5] [] (mi, ml, RF D, 164) κ Q := by
  intro n
  induction n with
  | zero =>
    intro u v p q v5 hvn hu hv hp hq hg
    obtain rfl : v = 0 := by omega
    refine il_4 dX9_divisor_5 ?_
    refine R_if_eq (tgt := 26) dX9_divisor_7 (by decide) (fun c7 => ?_) (fun q => absurd q (not_not_intro (by rw [hq]; rfl)))
    refine il_3 dX9_divisor_26 ?_
    refine R_ireturn dX9_divisor_27 ⟨_, rfl, rfl⟩ ?_
    rw [hp, show u = Nat.gcd a b by rw [← hg, Nat.gcd_zero_right]]
    exact h
  | succ n ih =>
    intro u v p q v5 hvn hu hv hp hq hg
    by_cases v0 : v = 0
    · subst v0
      refine il_4 dX9_divisor_5 ?_
      refine R_if_eq (tgt := 26) dX9_divisor_7 (by decide) (fun c7 => ?_) (fun q => absurd q (not_not_intro (by rw [hq]; rfl)))
      refine il_3 dX9_divisor_26 ?_
      refine R_ireturn dX9_divisor_27 ⟨_, rfl, rfl⟩ ?_
      rw [hp, show u = Nat.gcd a b by rw [← hg, Nat.gcd_zero_right]]
      exact h
    · have q0 : ¬ q = 0 := by rw [hq]; exact fun e => v0 (sm_inj (b := 0) hv (by decide) e)
      have hlt : u % v < v := Nat.mod_lt _ (by omega)
      refine il_4 dX9_divisor_5 ?_
      refine R_if_eq (tgt := 26) dX9_divisor_7 (by decide) (fun q => absurd q (q0)) (fun c7 => ?_)
      refine il_3 dX9_divisor_10 ?_
      refine il_4 dX9_divisor_11 ?_
      refine R_irem dX9_divisor_13 q0 ?_
      refine is_5 dX9_divisor_14 rfl ?_
      refine il_4 dX9_divisor_16 ?_
      refine is_3 dX9_divisor_18 rfl ?_
      refine il_5 dX9_divisor_19 ?_
      refine is_4 dX9_divisor_21 rfl ?_
      refine R_goto (tgt := 5) dX9_divisor_23 (by decide) ?_
      exact ih v (u % v) _ _ _ (by omega) hv (by omega) hq (by rw [hp, hq]; exact sm_rem hu hv) (by rw [← hg, Nat.gcd_comm u v, Nat.gcd_rec v u, Nat.gcd_comm])

set_option maxHeartbeats 4000000 in
theorem M_divisor {G : rn_G} {d : Nat} {κ : Nat × Nat} {Q : Option Value → rn_S → Prop} {mi : Nat → Nat → Int32} {ml : Nat → Nat → Int64} {D : Nat → Nat} {x y : Int32} {a b : Nat} (hx : x = nI a) (hy : y = nI b) (ha : a < 2 ^ 31) (hb : b < 2 ^ 31) (h : Q (some (.int (nI (Nat.gcd a b)))) (mi, ml, RF D, 164)) : Call G (d) M_X9_divisor [.ref 116, .int x, .int y] (mi, ml, RF D, 164) κ Q := by
  show Run G _ M_X9_divisor 0 [.ref 116, .int x, .int y, .null, .null, .null] [] _ _ _
  refine il_1 dX9_divisor_0 ?_
  refine is_3 dX9_divisor_1 rfl ?_
  refine il_2 dX9_divisor_2 ?_
  refine is_4 dX9_divisor_3 rfl ?_
  exact L_divisor h b a b _ _ _ (Nat.le_refl _) ha hb hx hy rfl

/-- a fraction in its lowest terms: its upper or its lower number -/
def fracA (a b : Nat) (z : Int32) : Int64 := if z = 0 then (nI (a / Nat.gcd a b)).toInt64 else (nI (b / Nat.gcd a b)).toInt64
theorem gcd_bnd {a b : Nat} (hb1 : 1 ≤ b) (hb : b < 2 ^ 31) : 1 ≤ Nat.gcd a b ∧ Nat.gcd a b < 2 ^ 31 := ⟨Nat.gcd_pos_of_pos_right a hb1, Nat.lt_of_le_of_lt (Nat.gcd_le_right a hb1) hb⟩

set_option maxHeartbeats 4000000 in
theorem M_lowest {G : rn_G} {d : Nat} {κ : Nat × Nat} {Q : Option Value → rn_S → Prop} {mi : Nat → Nat → Int32} {ml : Nat → Nat → Int64} {D : Nat → Nat} {x y z : Int32} {a b : Nat} (hx : x = nI a) (hy : y = nI b) (ha : a < 2 ^ 31) (hb : b < 2 ^ 31) (hb1 : 1 ≤ b) (h : Q (some (.long (fracA a b z))) (mi, ml, RF D, 164)) : Call G (d + 1) M_X9_lowest [.ref 116, .int x, .int y, .int z] (mi, ml, RF D, 164) κ Q := by
  show Run G _ M_X9_lowest 0 [.ref 116, .int x, .int y, .int z, .null] [] _ _ _
  obtain ⟨hg1, hg2⟩ := gcd_bnd (a := a) hb1 hb
  unfold fracA at h
  refine al_0 dX9_lowest_0 ?_
  refine il_1 dX9_lowest_1 ?_
  refine il_2 dX9_lowest_2 ?_
  refine cv_2 dX9_lowest_3 mm_RX9_460 sh_116 (Nat.le_of_ble_eq_true rfl) ⟨_, rfl, rfl⟩ (Nat.le_of_ble_eq_true rfl) (Nat.le_of_ble_eq_true rfl) (M_divisor hx hy ha hb (nmr (fun gg hgg => ?_)))
  have g0 : ¬ gg = 0 := by rw [hgg]; exact fun e => by have := sm_inj (b := 0) hg2 (by decide) e; omega
  refine is_4 dX9_lowest_6 rfl ?_
  refine il_3 dX9_lowest_8 ?_
  refine R_if_ne (tgt := 20) dX9_lowest_9 (by decide) (fun c9 => ?_) (fun c9 => ?_)
  · refine il_2 dX9_lowest_20 ?_
    refine il_4 dX9_lowest_21 ?_
    refine R_idiv dX9_lowest_23 g0 ?_
    refine R_i2l dX9_lowest_24 ?_
    refine R_lreturn dX9_lowest_25 rfl ?_
    first
      | (rw [if_pos c9, ← sm_div ha hg1 hg2, ← hx, ← hgg] at h; exact h)
      | (rw [if_neg c9, ← sm_div hb hg1 hg2, ← hy, ← hgg] at h; exact h)
  · refine il_1 dX9_lowest_12 ?_
    refine il_4 dX9_lowest_13 ?_
    refine R_idiv dX9_lowest_15 g0 ?_
    refine R_i2l dX9_lowest_16 ?_
    refine R_goto (tgt := 25) dX9_lowest_17 (by decide) ?_
    refine R_lreturn dX9_lowest_25 rfl ?_
    first
      | (rw [if_pos c9, ← sm_div ha hg1 hg2, ← hx, ← hgg] at h; exact h)
      | (rw [if_neg c9, ← sm_div hb hg1 hg2, ← hy, ← hgg] at h; exact h)
