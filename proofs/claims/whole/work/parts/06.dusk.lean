/-! numbers; a dusk that has been read, and what it says of facts -/
theorem sm_lt_iff {a b : Nat} (ha : a < 2 ^ 31) (hb : b < 2 ^ 31) : nI a < nI b ↔ a < b := by
  rw [Int32.lt_iff_toInt_lt, nI_toInt ha, nI_toInt hb]; omega
theorem sm_le_iff {a b : Nat} (ha : a < 2 ^ 31) (hb : b < 2 ^ 31) : nI a ≤ nI b ↔ a ≤ b := by
  rw [Int32.le_iff_toInt_le, nI_toInt ha, nI_toInt hb]; omega
theorem sm_inj {a b : Nat} (ha : a < 2 ^ 31) (hb : b < 2 ^ 31) (h : nI a = nI b) : a = b := by
  have h1 := nI_toInt ha
  rw [h, nI_toInt hb] at h1
  omega
theorem sm_add (a b : Nat) : nI a + nI b = nI (a + b) := (Int32.ofNat_add a b).symm
theorem sm_mul (a b : Nat) : nI a * nI b = nI (a * b) := (Int32.ofNat_mul a b).symm
theorem sm_sub {a b : Nat} (h : b ≤ a) : nI a - nI b = nI (a - b) := by
  have h1 := sm_add (a - b) b
  rw [Nat.sub_add_cancel h] at h1
  rw [← h1, Int32.add_sub_cancel]
theorem sm_of {x : Int32} {n : Nat} (h0 : 0 ≤ x) (h : x < nI n) (hn : n < 2 ^ 31) : ∃ m, m < n ∧ x = nI m := by
  rw [Int32.le_iff_toInt_le, Int32.toInt_zero] at h0
  rw [Int32.lt_iff_toInt_lt, nI_toInt hn] at h
  refine ⟨x.toInt.toNat, by omega, Int32.toInt_inj.mp ?_⟩
  rw [nI_toInt (by omega)]
  omega
theorem rn_ixc {x : Int32} (h : ¬ x < 0) : rn_ix x x.toNatClampNeg := ⟨h, rfl⟩
theorem clamp_lt {x : Int32} {n : Nat} (h0 : ¬ x < 0) (h : x < nI n) (hn : n < 2 ^ 31) : x.toNatClampNeg < n := by
  obtain ⟨m, hm, rfl⟩ := sm_of (Int32.not_lt.mp h0) h hn
  rw [nI_clamp (by omega)]
  exact hm
theorem R_al {G : rn_G} {d : Nat} {M : rn_M} {pc : Nat} {ls st : List Value} {mi : Nat → Nat → Int32} {ml : Nat → Nat → Int64} {rf : Nat → Nat → Nat} {n : Nat} {κ : Nat × Nat} {Q : Option Value → rn_S → Prop} {a L : Nat} {v : Int32} (hd : decode M.2.1 pc = .ok (.arraylength, 1)) (t : Nat) (ht : t < 7) (hs : SH a = (10 + t, L)) (ha : a < n) (hv : Int32.ofNat L = v)
    (kk : Run G d M (pc + 1) ls (.int v :: st) (mi, ml, rf, n) κ Q) : Run G d M pc ls (.ref a :: st) (mi, ml, rf, n) κ Q :=
  @R_alen G d M pc ls st mi ml rf n κ Q a 0 L v hd t ht hs ha hv kk
def remJ (x y : Int32) : Int32 := x - x / y * y
def bitJ (z : Int32) : Int32 := if z = 0 then 0 else 1
def thC (c : Int32) (F : Nat → Int32) : Int32 :=
  if c / 300 < 0 then 0 else if c / 300 < 6 then
    (if remJ (c / 100) 3 = 0 then (if remJ c 100 ≤ F (c / 300).toNatClampNeg then 0 else 1)
     else if remJ (c / 100) 3 = 1 then (if F (c / 300).toNatClampNeg = remJ c 100 then 1 else 0)
     else (if F (c / 300).toNatClampNeg ≤ remJ c 100 then 0 else 1))
  else 0
def erF (cd F : Nat → Int32) : Nat → Nat → Int32 → Int32 → Int32
  | 0, _, e, _ => e
  | n + 1, i, e, k =>
    if 3000 ≤ cd i then erF cd F n (i + 1) (e - (k &&& 1) * (cd i - 3000)) (k >>> ((1 : Int32) &&& 31))
    else if 2000 ≤ cd i then erF cd F n (i + 1) (e + (k &&& 1) * (cd i - 2000)) (k >>> ((1 : Int32) &&& 31))
    else if cd i = -1 then erF cd F n (i + 1) e (k ^^^ 1)
    else if cd i = -2 then erF cd F n (i + 1) e ((k >>> ((1 : Int32) &&& 31)) &&& ((k &&& 1) ||| -2))
    else if cd i = -3 then erF cd F n (i + 1) e ((k >>> ((1 : Int32) &&& 31)) ||| (k &&& 1))
    else erF cd F n (i + 1) e ((k <<< ((1 : Int32) &&& 31)) ||| bitJ (thC (cd i) F))

set_option maxHeartbeats 4000000 in
theorem K_testHolds {G : rn_G} {d : Nat} {κ : Nat × Nat} {Q : Option Value → rn_S → Prop} {mi : Nat → Nat → Int32} {ml : Nat → Nat → Int64} {D : Nat → Nat} {c : Int32} {f : Nat} (hsf : SH f = (10, 6)) (hfn : f < 164) (h : Q (some (.int (thC c (mi f)))) (mi, ml, RF D, 164)) : Call G (d) M_X1_testHolds [.int c, .ref f] (mi, ml, RF D, 164) κ Q := by
  show Run G _ M_X1_testHolds 0 [.int c, .ref f, .null, .null] [] _ _ _
  unfold thC remJ at h
  refine il_0 dX1_testHolds_0 ?_
  refine R_sipush (v := 300) dX1_testHolds_1 (by decide) ?_
  refine R_idiv dX1_testHolds_4 (by decide) ?_
  refine is_2 dX1_testHolds_5 rfl ?_
  refine il_2 dX1_testHolds_6 ?_
  refine R_if_lt (tgt := 16) dX1_testHolds_7 (by decide) (fun c7 => ?_) (fun c7 => ?_)
  · refine R_iconst (v := 0) dX1_testHolds_16 (by decide) ?_
    refine R_ireturn dX1_testHolds_17 ⟨_, rfl, rfl⟩ ?_
    first | (rw [if_pos c7] at h; exact h) | (rw [if_neg c7, if_neg c13] at h; exact h)
  · refine il_2 dX1_testHolds_10 ?_
    refine al_1 dX1_testHolds_11 ?_
    refine R_al (v := 6) dX1_testHolds_12 0 (by decide) hsf hfn (by decide) ?_
    refine R_icmp_lt (tgt := 18) dX1_testHolds_13 (by decide) (fun c13 => ?_) (fun c13 => ?_)
    · refine il_0 dX1_testHolds_18 ?_
      refine R_bipush (v := 100) dX1_testHolds_19 (by decide) ?_
      refine R_irem dX1_testHolds_21 (by decide) ?_
      refine is_3 dX1_testHolds_22 rfl ?_
      refine il_0 dX1_testHolds_23 ?_
      refine R_bipush (v := 100) dX1_testHolds_24 (by decide) ?_
      refine R_idiv dX1_testHolds_26 (by decide) ?_
      refine R_iconst (v := 3) dX1_testHolds_27 (by decide) ?_
      refine R_irem dX1_testHolds_28 (by decide) ?_
      by_cases w29_0 : c / 100 - c / 100 / 3 * 3 = 0
      · rw [w29_0]
        refine R_lsw (off := 27) (tgt := 56) dX1_testHolds_29 (by decide) (by decide) (by decide) ?_
        refine al_1 dX1_testHolds_56 ?_
        refine il_2 dX1_testHolds_57 ?_
        refine R_iald dX1_testHolds_58 hsf hfn (rn_ixc c7) (clamp_lt c7 c13 (by decide)) ?_
        refine il_3 dX1_testHolds_59 ?_
        refine R_icmp_ge (tgt := 67) dX1_testHolds_60 (by decide) (fun c60 => ?_) (fun c60 => ?_)
        · refine R_iconst (v := 0) dX1_testHolds_67 (by decide) ?_
          refine R_ireturn dX1_testHolds_68 ⟨_, rfl, rfl⟩ ?_
          rw [if_neg c7, if_pos c13, if_pos w29_0] at h
          first | (rw [if_pos c60] at h; exact h) | (rw [if_neg c60] at h; exact h)
        · refine R_iconst (v := 1) dX1_testHolds_63 (by decide) ?_
          refine R_goto (tgt := 68) dX1_testHolds_64 (by decide) ?_
          refine R_ireturn dX1_testHolds_68 ⟨_, rfl, rfl⟩ ?_
          rw [if_neg c7, if_pos c13, if_pos w29_0] at h
          first | (rw [if_pos c60] at h; exact h) | (rw [if_neg c60] at h; exact h)
      by_cases w29_1 : c / 100 - c / 100 / 3 * 3 = 1
      · rw [w29_1]
        refine R_lsw (off := 40) (tgt := 69) dX1_testHolds_29 (by decide) (by decide) (by decide) ?_
        refine al_1 dX1_testHolds_69 ?_
        refine il_2 dX1_testHolds_70 ?_
        refine R_iald dX1_testHolds_71 hsf hfn (rn_ixc c7) (clamp_lt c7 c13 (by decide)) ?_
        refine il_3 dX1_testHolds_72 ?_
        refine R_icmp_ne (tgt := 80) dX1_testHolds_73 (by decide) (fun c73 => ?_) (fun c73 => ?_)
        · refine R_iconst (v := 0) dX1_testHolds_80 (by decide) ?_
          refine R_ireturn dX1_testHolds_81 ⟨_, rfl, rfl⟩ ?_
          rw [if_neg c7, if_pos c13, if_neg w29_0, if_pos w29_1] at h
          first | (rw [if_pos c73] at h; exact h) | (rw [if_neg c73] at h; exact h)
        · refine R_iconst (v := 1) dX1_testHolds_76 (by decide) ?_
          refine R_goto (tgt := 81) dX1_testHolds_77 (by decide) ?_
          refine R_ireturn dX1_testHolds_81 ⟨_, rfl, rfl⟩ ?_
          rw [if_neg c7, if_pos c13, if_neg w29_0, if_pos w29_1] at h
          first | (rw [if_pos c73] at h; exact h) | (rw [if_neg c73] at h; exact h)
      refine R_lsw (off := 53) (tgt := 82) dX1_testHolds_29 (by decide) ((lv_osw w29_0 rfl).trans ((lv_osw w29_1 rfl).trans (rfl))) (by decide) ?_
      refine al_1 dX1_testHolds_82 ?_
      refine il_2 dX1_testHolds_83 ?_
      refine R_iald dX1_testHolds_84 hsf hfn (rn_ixc c7) (clamp_lt c7 c13 (by decide)) ?_
      refine il_3 dX1_testHolds_85 ?_
      refine R_icmp_le (tgt := 93) dX1_testHolds_86 (by decide) (fun c86 => ?_) (fun c86 => ?_)
      · refine R_iconst (v := 0) dX1_testHolds_93 (by decide) ?_
        refine R_ireturn dX1_testHolds_94 ⟨_, rfl, rfl⟩ ?_
        rw [if_neg c7, if_pos c13, if_neg w29_0, if_neg w29_1] at h
        first | (rw [if_pos c86] at h; exact h) | (rw [if_neg c86] at h; exact h)
      · refine R_iconst (v := 1) dX1_testHolds_89 (by decide) ?_
        refine R_goto (tgt := 94) dX1_testHolds_90 (by decide) ?_
        refine R_ireturn dX1_testHolds_94 ⟨_, rfl, rfl⟩ ?_
        rw [if_neg c7, if_pos c13, if_neg w29_0, if_neg w29_1] at h
        first | (rw [if_pos c86] at h; exact h) | (rw [if_neg c86] at h; exact h)
    · refine R_iconst (v := 0) dX1_testHolds_16 (by decide) ?_
      refine R_ireturn dX1_testHolds_17 ⟨_, rfl, rfl⟩ ?_
      first | (rw [if_pos c7] at h; exact h) | (rw [if_neg c7, if_neg c13] at h; exact h)

set_option maxHeartbeats 4000000 in
theorem L_earsBy {G : rn_G} {d : Nat} {κ : Nat × Nat} {Q : Option Value → rn_S → Prop} {mi : Nat → Nat → Int32} {ml : Nat → Nat → Int64} {D : Nat → Nat} {k f S : Nat} (hk : PD k) (hsf : SH f = (10, 6)) (hfn : f < 164) (hS : mi k 1 = nI S) (hS1 : S ≤ 100) : ∀ (n i : Nat) (e w x : Int32) (v5 v6 : Value), n + i = S → x = nI i → Q (some (.int (erF (mi (k + 1)) (mi f) n i e w))) (mi, ml, RF D, 164) → Run G (d + 1) M_X1_earsBy 7 [.ref k, .ref f, .int e, .int w, .int x, v5, v6] [] (mi, ml, RF D, 164) κ Q := by
  intro n
  induction n with
  | zero =>
    intro i e w x v5 v6 hni hx h
    refine il_4 dX1_earsBy_7 ?_
    refine al_0 dX1_earsBy_9 ?_
    refine R_getfi dX1_earsBy_10 fl_RX1_22 rfl (pd_s0 hk) (show k < 164 by have := pd_n hk; omega) ?_
    refine R_icmp_ge (tgt := 154) dX1_earsBy_13 (by decide) (fun c13 => ?_) (fun q => absurd q (not_not_intro (by rw [hS, hx]; exact nI_le (by omega) (by omega))))
    refine il_2 dX1_earsBy_154 ?_
    refine R_ireturn dX1_earsBy_155 ⟨_, rfl, rfl⟩ ?_
    exact h
  | succ n ih =>
    intro i e w x v5 v6 hni hx h
    have hlt : i < 100 := by omega
    have hix : rn_ix x i := by rw [hx]; exact rn_ix_nI (by omega)
    refine il_4 dX1_earsBy_7 ?_
    refine al_0 dX1_earsBy_9 ?_
    refine R_getfi dX1_earsBy_10 fl_RX1_22 rfl (pd_s0 hk) (show k < 164 by have := pd_n hk; omega) ?_
    refine R_icmp_ge (tgt := 154) dX1_earsBy_13 (by decide) (fun q => absurd q (by rw [hS, hx]; exact nI_ge (by omega) (by omega))) (fun c13 => ?_)
    refine al_0 dX1_earsBy_16 ?_
    refine R_getfr (r := k + 1) dX1_earsBy_17 fl_RX1_9 rfl (pd_s0 hk) (show k < 164 by have := pd_n hk; omega) (pd_r0 hk) ?_
    refine il_4 dX1_earsBy_20 ?_
    refine R_iald dX1_earsBy_22 (pd_s1 hk) (show k + 1 < 164 by have := pd_n hk; omega) hix hlt ?_
    refine is_5 dX1_earsBy_23 rfl ?_
    refine il_3 dX1_earsBy_25 ?_
    refine R_iconst (v := 1) dX1_earsBy_26 (by decide) ?_
    refine R_iand dX1_earsBy_27 ?_
    refine is_6 dX1_earsBy_28 rfl ?_
    refine il_5 dX1_earsBy_30 ?_
    refine R_sipush (v := 3000) dX1_earsBy_32 (by decide) ?_
    refine R_icmp_lt (tgt := 57) dX1_earsBy_35 (by decide) (fun c35 => ?_) (fun c35 => ?_)
    · refine il_5 dX1_earsBy_57 ?_
      refine R_sipush (v := 2000) dX1_earsBy_59 (by decide) ?_
      refine R_icmp_lt (tgt := 84) dX1_earsBy_62 (by decide) (fun c62 => ?_) (fun c62 => ?_)
      · refine il_5 dX1_earsBy_84 ?_
        refine R_iconst (v := -1) dX1_earsBy_86 (by decide) ?_
        refine R_icmp_ne (tgt := 97) dX1_earsBy_87 (by decide) (fun c87 => ?_) (fun c87 => ?_)
        · refine il_5 dX1_earsBy_97 ?_
          refine R_bipush (v := -2) dX1_earsBy_99 (by decide) ?_
          refine R_icmp_ne (tgt := 117) dX1_earsBy_101 (by decide) (fun c101 => ?_) (fun c101 => ?_)
          · refine il_5 dX1_earsBy_117 ?_
            refine R_bipush (v := -3) dX1_earsBy_119 (by decide) ?_
            refine R_icmp_ne (tgt := 134) dX1_earsBy_121 (by decide) (fun c121 => ?_) (fun c121 => ?_)
            · refine il_3 dX1_earsBy_134 ?_
              refine R_iconst (v := 1) dX1_earsBy_135 (by decide) ?_
              refine R_ishl dX1_earsBy_136 ?_
              refine il_5 dX1_earsBy_137 ?_
              refine al_1 dX1_earsBy_139 ?_
              refine cs_2 dX1_earsBy_140 mm_RX1_25 (Nat.le_of_ble_eq_true rfl) (Nat.le_of_ble_eq_true rfl) (K_testHolds hsf hfn ?_)
              refine csn_1 dX1_earsBy_143 mm_RX1_29 (Nat.le_of_ble_eq_true rfl) (Nat.le_of_ble_eq_true rfl) (K_bit ?_)
              refine R_ior dX1_earsBy_146 ?_
              refine is_3 dX1_earsBy_147 rfl ?_
              refine ii_4 (v := _ + 1) dX1_earsBy_148 rfl (by rfl) ?_
              refine R_goto (tgt := 7) dX1_earsBy_151 (by decide) ?_
              refine ih (i + 1) _ _ _ _ _ (by omega) (by rw [hx]; exact (nI_succ i).symm) ?_
              unfold erF at h
              first | (rw [if_pos (Int32.not_lt.mp c35)] at h; exact h) | (rw [if_neg (Int32.not_le.mpr c35), if_pos (Int32.not_lt.mp c62)] at h; exact h) | (rw [if_neg (Int32.not_le.mpr c35), if_neg (Int32.not_le.mpr c62)] at h; first | (rw [if_pos c87] at h; exact h) | (rw [if_neg c87] at h; first | (rw [if_pos c101] at h; exact h) | (rw [if_neg c101] at h; first | (rw [if_pos c121] at h; exact h) | (rw [if_neg c121] at h; exact h))))
            · refine il_3 dX1_earsBy_124 ?_
              refine R_iconst (v := 1) dX1_earsBy_125 (by decide) ?_
              refine R_ishr dX1_earsBy_126 ?_
              refine il_6 dX1_earsBy_127 ?_
              refine R_ior dX1_earsBy_129 ?_
              refine is_3 dX1_earsBy_130 rfl ?_
              refine R_goto (tgt := 148) dX1_earsBy_131 (by decide) ?_
              refine ii_4 (v := _ + 1) dX1_earsBy_148 rfl (by rfl) ?_
              refine R_goto (tgt := 7) dX1_earsBy_151 (by decide) ?_
              refine ih (i + 1) _ _ _ _ _ (by omega) (by rw [hx]; exact (nI_succ i).symm) ?_
              unfold erF at h
              first | (rw [if_pos (Int32.not_lt.mp c35)] at h; exact h) | (rw [if_neg (Int32.not_le.mpr c35), if_pos (Int32.not_lt.mp c62)] at h; exact h) | (rw [if_neg (Int32.not_le.mpr c35), if_neg (Int32.not_le.mpr c62)] at h; first | (rw [if_pos c87] at h; exact h) | (rw [if_neg c87] at h; first | (rw [if_pos c101] at h; exact h) | (rw [if_neg c101] at h; first | (rw [if_pos c121] at h; exact h) | (rw [if_neg c121] at h; exact h))))
          · refine il_3 dX1_earsBy_104 ?_
            refine R_iconst (v := 1) dX1_earsBy_105 (by decide) ?_
            refine R_ishr dX1_earsBy_106 ?_
            refine il_6 dX1_earsBy_107 ?_
            refine R_bipush (v := -2) dX1_earsBy_109 (by decide) ?_
            refine R_ior dX1_earsBy_111 ?_
            refine R_iand dX1_earsBy_112 ?_
            refine is_3 dX1_earsBy_113 rfl ?_
            refine R_goto (tgt := 148) dX1_earsBy_114 (by decide) ?_
            refine ii_4 (v := _ + 1) dX1_earsBy_148 rfl (by rfl) ?_
            refine R_goto (tgt := 7) dX1_earsBy_151 (by decide) ?_
            refine ih (i + 1) _ _ _ _ _ (by omega) (by rw [hx]; exact (nI_succ i).symm) ?_
            unfold erF at h
            first | (rw [if_pos (Int32.not_lt.mp c35)] at h; exact h) | (rw [if_neg (Int32.not_le.mpr c35), if_pos (Int32.not_lt.mp c62)] at h; exact h) | (rw [if_neg (Int32.not_le.mpr c35), if_neg (Int32.not_le.mpr c62)] at h; first | (rw [if_pos c87] at h; exact h) | (rw [if_neg c87] at h; first | (rw [if_pos c101] at h; exact h) | (rw [if_neg c101] at h; first | (rw [if_pos c121] at h; exact h) | (rw [if_neg c121] at h; exact h))))
        · refine il_3 dX1_earsBy_90 ?_
          refine R_iconst (v := 1) dX1_earsBy_91 (by decide) ?_
          refine R_ixor dX1_earsBy_92 ?_
          refine is_3 dX1_earsBy_93 rfl ?_
          refine R_goto (tgt := 148) dX1_earsBy_94 (by decide) ?_
          refine ii_4 (v := _ + 1) dX1_earsBy_148 rfl (by rfl) ?_
          refine R_goto (tgt := 7) dX1_earsBy_151 (by decide) ?_
          refine ih (i + 1) _ _ _ _ _ (by omega) (by rw [hx]; exact (nI_succ i).symm) ?_
          unfold erF at h
          first | (rw [if_pos (Int32.not_lt.mp c35)] at h; exact h) | (rw [if_neg (Int32.not_le.mpr c35), if_pos (Int32.not_lt.mp c62)] at h; exact h) | (rw [if_neg (Int32.not_le.mpr c35), if_neg (Int32.not_le.mpr c62)] at h; first | (rw [if_pos c87] at h; exact h) | (rw [if_neg c87] at h; first | (rw [if_pos c101] at h; exact h) | (rw [if_neg c101] at h; first | (rw [if_pos c121] at h; exact h) | (rw [if_neg c121] at h; exact h))))
      · refine il_2 dX1_earsBy_65 ?_
        refine il_6 dX1_earsBy_66 ?_
        refine il_5 dX1_earsBy_68 ?_
        refine R_sipush (v := 2000) dX1_earsBy_70 (by decide) ?_
        refine R_isub dX1_earsBy_73 ?_
        refine R_imul dX1_earsBy_74 ?_
        refine R_iadd dX1_earsBy_75 ?_
        refine is_2 dX1_earsBy_76 rfl ?_
        refine il_3 dX1_earsBy_77 ?_
        refine R_iconst (v := 1) dX1_earsBy_78 (by decide) ?_
        refine R_ishr dX1_earsBy_79 ?_
        refine is_3 dX1_earsBy_80 rfl ?_
        refine R_goto (tgt := 148) dX1_earsBy_81 (by decide) ?_
        refine ii_4 (v := _ + 1) dX1_earsBy_148 rfl (by rfl) ?_
        refine R_goto (tgt := 7) dX1_earsBy_151 (by decide) ?_
        refine ih (i + 1) _ _ _ _ _ (by omega) (by rw [hx]; exact (nI_succ i).symm) ?_
        unfold erF at h
        first | (rw [if_pos (Int32.not_lt.mp c35)] at h; exact h) | (rw [if_neg (Int32.not_le.mpr c35), if_pos (Int32.not_lt.mp c62)] at h; exact h) | (rw [if_neg (Int32.not_le.mpr c35), if_neg (Int32.not_le.mpr c62)] at h; first | (rw [if_pos c87] at h; exact h) | (rw [if_neg c87] at h; first | (rw [if_pos c101] at h; exact h) | (rw [if_neg c101] at h; first | (rw [if_pos c121] at h; exact h) | (rw [if_neg c121] at h; exact h))))
    · refine il_2 dX1_earsBy_38 ?_
      refine il_6 dX1_earsBy_39 ?_
      refine il_5 dX1_earsBy_41 ?_
      refine R_sipush (v := 3000) dX1_earsBy_43 (by decide) ?_
      refine R_isub dX1_earsBy_46 ?_
      refine R_imul dX1_earsBy_47 ?_
      refine R_isub dX1_earsBy_48 ?_
      refine is_2 dX1_earsBy_49 rfl ?_
      refine il_3 dX1_earsBy_50 ?_
      refine R_iconst (v := 1) dX1_earsBy_51 (by decide) ?_
      refine R_ishr dX1_earsBy_52 ?_
      refine is_3 dX1_earsBy_53 rfl ?_
      refine R_goto (tgt := 148) dX1_earsBy_54 (by decide) ?_
      refine ii_4 (v := _ + 1) dX1_earsBy_148 rfl (by rfl) ?_
      refine R_goto (tgt := 7) dX1_earsBy_151 (by decide) ?_
      refine ih (i + 1) _ _ _ _ _ (by omega) (by rw [hx]; exact (nI_succ i).symm) ?_
      unfold erF at h
      first | (rw [if_pos (Int32.not_lt.mp c35)] at h; exact h) | (rw [if_neg (Int32.not_le.mpr c35), if_pos (Int32.not_lt.mp c62)] at h; exact h) | (rw [if_neg (Int32.not_le.mpr c35), if_neg (Int32.not_le.mpr c62)] at h; first | (rw [if_pos c87] at h; exact h) | (rw [if_neg c87] at h; first | (rw [if_pos c101] at h; exact h) | (rw [if_neg c101] at h; first | (rw [if_pos c121] at h; exact h) | (rw [if_neg c121] at h; exact h))))

set_option maxHeartbeats 4000000 in
theorem K_earsBy {G : rn_G} {d : Nat} {κ : Nat × Nat} {Q : Option Value → rn_S → Prop} {mi : Nat → Nat → Int32} {ml : Nat → Nat → Int64} {D : Nat → Nat} {k f S : Nat} (hk : PD k) (hsf : SH f = (10, 6)) (hfn : f < 164) (hS : mi k 1 = nI S) (hS1 : S ≤ 100) (h : Q (some (.int (erF (mi (k + 1)) (mi f) S 0 0 0))) (mi, ml, RF D, 164)) : Call G (d + 1) M_X1_earsBy [.ref k, .ref f] (mi, ml, RF D, 164) κ Q := by
  show Run G _ M_X1_earsBy 0 [.ref k, .ref f, .null, .null, .null, .null, .null] [] _ _ _
  refine R_iconst (v := 0) dX1_earsBy_0 (by decide) ?_
  refine is_2 dX1_earsBy_1 rfl ?_
  refine R_iconst (v := 0) dX1_earsBy_2 (by decide) ?_
  refine is_3 dX1_earsBy_3 rfl ?_
  refine R_iconst (v := 0) dX1_earsBy_4 (by decide) ?_
  refine is_4 dX1_earsBy_5 rfl ?_
  exact L_earsBy hk hsf hfn hS hS1 S 0 0 0 0 _ _ (by omega) nI_0.symm h
