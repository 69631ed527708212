/-! THE LOGIC: a method's run over a flat memory; part 1: words, shapes, states, what a heap holds -/
def rn_WS : List Cond := lw_tbl.filter goodWord
theorem rn_ws {w : Cond} (i : Nat) (h : lw_tbl[i]? = some w) (hg : goodWord w = true) : w ∈ rn_WS := List.mem_filter.mpr ⟨List.mem_of_getElem? h, hg⟩
theorem rn_wg {w : Cond} (h : w ∈ rn_WS) : (w.onTables && w.keeps) = true ∨ ∃ ty, w = .arrayClass ty := good_of_word (List.mem_filter.mp h).2
theorem rn_pos {ws : List Cond} (ps : List Nat) (h : ws = ps.filterMap (fun i => lw_tbl[i]?)) (hg : ws.all goodWord = true) : ∀ w ∈ ws, w ∈ rn_WS := by
  intro w hw
  have h1 := List.all_eq_true.mp hg w hw
  rw [h] at hw
  obtain ⟨i, -, hi⟩ := List.mem_filterMap.mp hw
  exact rn_ws i hi h1
abbrev rn_M : Type := MethodName × ByteArray × Nat × Option FieldType
def rn_mw (M : rn_M) : List Cond := Cond.code M.1 M.2.1 M.2.2.1 M.2.2.2 :: rn_WS
theorem rn_gi {M : rn_M} {pre : List Cond} (hc : Cond.code M.1 M.2.1 M.2.2.1 M.2.2.2 ∈ rn_WS) (hp : ∀ w ∈ pre, w ∈ rn_WS) : GoodIn rn_WS (pre ++ rn_mw M) := by
  have key : ∀ w ∈ pre ++ rn_mw M, w ∈ rn_WS := by
    intro w hw
    rcases List.mem_append.mp hw with h | h
    · exact hp w h
    · rcases List.mem_cons.mp h with rfl | h
      · exact hc
      · exact h
  exact fun w hw => ⟨key w hw, rn_wg (key w hw)⟩
/-! the classes' fields -/
def rn_ty (ci : Nat) : Nat → FieldType := match ci with
  | 0 => tyX0 | 1 => tyX1 | 2 => tyX2 | 3 => tyX3 | 4 => tyX4 | 5 => tyX5 | 6 => tyX6 | 7 => tyX7 | 8 => tyX8 | _ => tyX9
def rn_N (ci : Nat) : Nat := match ci with
  | 0 => 5 | 1 => 4 | 2 => 5 | 3 => 15 | 4 => 7 | 5 => 4 | 6 => 4 | 7 => 3 | 8 => 11 | _ => 93
def rn_ks (ty : FieldType) : Nat := match ty with
  | .object _ => 2 | .array _ => 2 | .long => 1 | _ => 0
def rn_fk (ci k : Nat) : Nat := rn_ks (rn_ty ci k)
theorem rn_cl {P : Nat → vw_C → Prop} (h0 : P 0 (RX0, TX0, 5)) (h1 : P 1 (RX1, TX1, 4)) (h2 : P 2 (RX2, TX2, 5)) (h3 : P 3 (RX3, TX3, 15)) (h4 : P 4 (RX4, TX4, 7)) (h5 : P 5 (RX5, TX5, 4)) (h6 : P 6 (RX6, TX6, 4)) (h7 : P 7 (RX7, TX7, 3)) (h8 : P 8 (RX8, TX8, 11)) (h9 : P 9 (RX9, TX9, 93)) : ∀ (ci : Nat) (q : vw_C), vwCl[ci]? = some q → P ci q := by
  intro ci q h
  match ci, h with
  | 0, h => cases h; exact h0
  | 1, h => cases h; exact h1
  | 2, h => cases h; exact h2
  | 3, h => cases h; exact h3
  | 4, h => cases h; exact h4
  | 5, h => cases h; exact h5
  | 6, h => cases h; exact h6
  | 7, h => cases h; exact h7
  | 8, h => cases h; exact h8
  | 9, h => cases h; exact h9
  | n + 10, h => exact absurd (List.getElem?_eq_some_iff.mp h).1 (by simp)
theorem rn_tyok : ∀ (ci : Nat) (q : vw_C), vwCl[ci]? = some q → ∀ k, k < q.2.2 → parseFieldDescriptor (q.2.1 k).2.2.1 = some (rn_ty ci k) := rn_cl (P := fun ci q => ∀ k, k < q.2.2 → parseFieldDescriptor (q.2.1 k).2.2.1 = some (rn_ty ci k)) tyX0_ok tyX1_ok tyX2_ok tyX3_ok tyX4_ok tyX5_ok tyX6_ok tyX7_ok tyX8_ok tyX9_ok
theorem rn_nm : ∀ (ci : Nat) (q : vw_C), vwCl[ci]? = some q → ∀ a, a < q.2.2 → ∀ b, b < q.2.2 → a ≠ b → (q.2.1 a).2.1 ≠ (q.2.1 b).2.1 := rn_cl (P := fun ci q => ∀ a, a < q.2.2 → ∀ b, b < q.2.2 → a ≠ b → (q.2.1 a).2.1 ≠ (q.2.1 b).2.1) nmX0 nmX1 nmX2 nmX3 nmX4 nmX5 nmX6 nmX7 nmX8 nmX9
theorem rn_Nok : ∀ (ci : Nat) (q : vw_C), vwCl[ci]? = some q → q.2.2 = rn_N ci := rn_cl (P := fun ci q => q.2.2 = rn_N ci) rfl rfl rfl rfl rfl rfl rfl rfl rfl rfl
set_option maxRecDepth 20000 in
theorem rn_in0 : ∀ w ∈ u_ws RX0 TX0 5, w ∈ rn_WS := rn_pos [337, 339, 341, 343, 345] (by decide +kernel) (by decide +kernel)
set_option maxRecDepth 20000 in
theorem rn_in1 : ∀ w ∈ u_ws RX1 TX1 4, w ∈ rn_WS := rn_pos [134, 136, 138, 140] (by decide +kernel) (by decide +kernel)
set_option maxRecDepth 20000 in
theorem rn_in2 : ∀ w ∈ u_ws RX2 TX2 5, w ∈ rn_WS := rn_pos [288, 290, 292, 294, 296] (by decide +kernel) (by decide +kernel)
set_option maxRecDepth 20000 in
theorem rn_in3 : ∀ w ∈ u_ws RX3 TX3 15, w ∈ rn_WS := rn_pos [215, 217, 219, 221, 223, 225, 227, 229, 231, 233, 235, 237, 239, 241, 243] (by decide +kernel) (by decide +kernel)
set_option maxRecDepth 20000 in
theorem rn_in4 : ∀ w ∈ u_ws RX4 TX4 7, w ∈ rn_WS := rn_pos [172, 174, 176, 178, 180, 182, 184] (by decide +kernel) (by decide +kernel)
set_option maxRecDepth 20000 in
theorem rn_in5 : ∀ w ∈ u_ws RX5 TX5 4, w ∈ rn_WS := rn_pos [312, 314, 316, 318] (by decide +kernel) (by decide +kernel)
set_option maxRecDepth 20000 in
theorem rn_in6 : ∀ w ∈ u_ws RX6 TX6 4, w ∈ rn_WS := rn_pos [260, 262, 264, 266] (by decide +kernel) (by decide +kernel)
set_option maxRecDepth 20000 in
theorem rn_in7 : ∀ w ∈ u_ws RX7 TX7 3, w ∈ rn_WS := rn_pos [362, 364, 366] (by decide +kernel) (by decide +kernel)
set_option maxRecDepth 20000 in
theorem rn_in8 : ∀ w ∈ u_ws RX8 TX8 11, w ∈ rn_WS := rn_pos [381, 383, 385, 387, 389, 391, 393, 395, 397, 399, 401] (by decide +kernel) (by decide +kernel)
set_option maxRecDepth 20000 in
theorem rn_in9 : ∀ w ∈ u_ws RX9 TX9 93, w ∈ rn_WS := rn_pos [1074, 1076, 1078, 1080, 1082, 1084, 1086, 1088, 1090, 1092, 1094, 1096, 1098, 1100, 1102, 1104, 1106, 1108, 1110, 1112, 1114, 1116, 1118, 1120, 1122, 1124, 1126, 1128, 1130, 1132, 1134, 1136, 1138, 1140, 1142, 1144, 1146, 1148, 1150, 1152, 1154, 1156, 1158, 1160, 1162, 1164, 1166, 1168, 1170, 1172, 1174, 1176, 1178, 1180, 1182, 1184, 1186, 1188, 1190, 1192, 1194, 1196, 1198, 1200, 1202, 1204, 1206, 1208, 1210, 1212, 1214, 1216, 1218, 1220, 1222, 1224, 1226, 1228, 1230, 1232, 1234, 1236, 1238, 1240, 1242, 1244, 1246, 1248, 1250, 1252, 1254, 1256, 1258] (by decide +kernel) (by decide +kernel)
theorem rn_in : ∀ (ci : Nat) (q : vw_C), vwCl[ci]? = some q → ∀ w ∈ u_ws q.1 q.2.1 q.2.2, w ∈ rn_WS := rn_cl (P := fun ci q => ∀ w ∈ u_ws q.1 q.2.1 q.2.2, w ∈ rn_WS) rn_in0 rn_in1 rn_in2 rn_in3 rn_in4 rn_in5 rn_in6 rn_in7 rn_in8 rn_in9
/-! shapes: of each cell its class's number, or 10 and its elements' sort (0 int, 1 long, 2 byte, 3 boolean, 4 Person, 5 Dusk, 6 Tape), and its length -/
def rn_SHL : List (Nat × Nat) := [(99, 0), (8, 0), (3, 0), (10, 6), (14, 6), (10, 6), (10, 6), (1, 0), (10, 100), (4, 0), (10, 4), (4, 0), (10, 4), (4, 0), (10, 4), (4, 0), (10, 4), (4, 0), (10, 4), (4, 0), (10, 4), (3, 0), (10, 6), (14, 6), (10, 6), (10, 6), (1, 0), (10, 100), (4, 0), (10, 4), (4, 0), (10, 4), (4, 0), (10, 4), (4, 0), (10, 4), (4, 0), (10, 4), (4, 0), (10, 4), (6, 0), (10, 5), (10, 5), (10, 5), (6, 0), (10, 10), (10, 10), (10, 10), (6, 0), (10, 8), (10, 8), (10, 8), (2, 0), (3, 0), (10, 6), (14, 6), (10, 6), (10, 6), (1, 0), (10, 100), (4, 0), (10, 4), (4, 0), (10, 4), (4, 0), (10, 4), (4, 0), (10, 4), (4, 0), (10, 4), (4, 0), (10, 4), (6, 0), (10, 5), (10, 5), (10, 5), (6, 0), (10, 10), (10, 10), (10, 10), (6, 0), (10, 8), (10, 8), (10, 8), (5, 0), (12, 100), (1, 0), (10, 100), (15, 6), (0, 0), (10, 20), (16, 6), (1, 0), (10, 100), (1, 0), (10, 100), (1, 0), (10, 100), (1, 0), (10, 100), (1, 0), (10, 100), (1, 0), (10, 100), (7, 0), (11, 60), (7, 0), (11, 60), (7, 0), (11, 60), (7, 0), (11, 60), (7, 0), (11, 60), (7, 0), (11, 60), (9, 0), (10, 6), (10, 6), (10, 6), (10, 6), (10, 6), (10, 24), (10, 6), (10, 100), (10, 6), (10, 60), (10, 60), (10, 60), (10, 60), (10, 600), (10, 101), (10, 16), (13, 100), (10, 6), (10, 6), (10, 6), (10, 6), (10, 5), (10, 5), (13, 5), (10, 10), (10, 10), (10, 8), (10, 8), (10, 6), (10, 6), (10, 6), (10, 6), (10, 6), (10, 6), (10, 24), (10, 5), (10, 5), (10, 10), (10, 10), (10, 8), (10, 8), (13, 5), (10, 20), (10, 6), (10, 6), (11, 360), (11, 60)]
def SH (a : Nat) : Nat × Nat := rn_SHL.getD a (99, 0)
theorem SH_lt {a : Nat} (h : (SH a).1 < 99) : 1 ≤ a ∧ a < 164 := by
  have hl : rn_SHL.length = 164 := rfl
  unfold SH at h
  by_cases ha : a < 164
  · refine ⟨?_, ha⟩
    rcases Nat.eq_zero_or_pos a with rfl | h0
    · exact absurd h (by decide)
    · exact h0
  · rw [List.getD_eq_getElem?_getD, List.getElem?_eq_none (by omega)] at h
    exact absurd h (by decide)
/-! the launch, the base, classes and slots, array classes, where what was there before lies, the formatter, the script -/
abbrev rn_G : Type := Launch × Nat × (Nat → ClassId) × (Nat → Nat → Nat) × (Nat → ClassId) × (Nat → Nat) × Option Nat × Nat × (Nat → Int32)
abbrev rn_l (G : rn_G) : Launch := G.1
abbrev rn_b (G : rn_G) : Nat := G.2.1
abbrev rn_D (G : rn_G) : va_G := (G.2.2.1, G.2.2.2.1)
abbrev rn_cA (G : rn_G) : Nat → ClassId := G.2.2.2.2.1
abbrev rn_pa (G : rn_G) : Nat → Nat := G.2.2.2.2.2.1
abbrev rn_fo (G : rn_G) : Option Nat := G.2.2.2.2.2.2.1
abbrev rn_Ln (G : rn_G) : Nat := G.2.2.2.2.2.2.2.1
abbrev rn_xs (G : rn_G) : Nat → Int32 := G.2.2.2.2.2.2.2.2
def rn_o (G : rn_G) (r : Nat) : Option Nat := if r = 0 then none else if r < 1000 then some (rn_b G + r) else if r = 1030 then rn_fo G else some (rn_pa G (r - 1000))
def rn_cv (G : rn_G) (v : Value) : Value := match v with
  | .ref r => va_rf (rn_o G r)
  | v => v
theorem rn_cv_near {G : rn_G} {r : Nat} (h1 : 1 ≤ r) (h2 : r < 1000) : rn_cv G (.ref r) = .ref (rn_b G + r) := by
  simp [rn_cv, rn_o, va_rf, h2, Nat.ne_of_gt h1]
theorem rn_cv_far {G : rn_G} {r : Nat} (h1 : r ≠ 30) : rn_cv G (.ref (1000 + r)) = .ref (rn_pa G r) := by
  have h2 : ¬ (1000 + r < 1000) := by omega
  have h3 : ¬ (1000 + r = 1030) := by omega
  have h4 : ¬ (1000 + r = 0) := by omega
  simp only [rn_cv, rn_o, if_neg h2, if_neg h3, if_neg h4, Nat.add_sub_cancel_left]
  rfl
theorem rn_cv_cat (G : rn_G) (v : Value) : (rn_cv G v).category = v.category := by
  cases v with
  | ref r =>
    show (va_rf (rn_o G r)).category = 1
    cases rn_o G r <;> rfl
  | _ => rfl
abbrev rn_S : Type := (Nat → Nat → Int32) × (Nat → Nat → Int64) × (Nat → Nat → Nat) × Nat
def rn_fv (G : rn_G) (σ : rn_S) (a ci k : Nat) : Value := if rn_fk ci k = 2 then va_rf (rn_o G (σ.2.2.1 a k)) else if rn_fk ci k = 1 then .long (σ.2.1 a k) else .int (σ.1 a k)
def rn_e (G : rn_G) (σ : rn_S) (a : Nat) : va_E := if (SH a).1 < 10 then .inr ((SH a).1, (List.range (rn_N (SH a).1)).map (rn_fv G σ a (SH a).1)) else .inl (rn_cA G ((SH a).1 - 10), (SH a).2, if (SH a).1 = 11 then .inr (.inl (σ.2.1 a)) else if 14 ≤ (SH a).1 then .inr (.inr (.inr (.inr (fun k => rn_o G (σ.2.2.1 a k))))) else .inl (σ.1 a))
def rn_W (G : rn_G) (σ : rn_S) : va_W := (List.range (σ.2.2.2 - 1)).map (fun j => (rn_b G + (j + 1), rn_e G σ (j + 1)))
def rn_tys (G : rn_G) : List (ClassId × FieldType) := [(rn_cA G 0, .int), (rn_cA G 1, .long), (rn_cA G 2, .byte), (rn_cA G 3, .boolean), (rn_cA G 4, .object RX4), (rn_cA G 5, .object RX1), (rn_cA G 6, .object RX7)]
def rn_A (G : rn_G) : Nat → Prop := fun q => rn_b G < q
theorem rn_Wi {G : rn_G} {σ : rn_S} {i : Nat} {q : Nat × va_E} (h : (rn_W G σ)[i]? = some q) : i < σ.2.2.2 - 1 ∧ q = (rn_b G + (i + 1), rn_e G σ (i + 1)) := by
  unfold rn_W at h
  rw [List.getElem?_map] at h
  by_cases hi : i < σ.2.2.2 - 1
  · rw [List.getElem?_range hi] at h
    cases h
    exact ⟨hi, rfl⟩
  · rw [List.getElem?_eq_none (by rw [List.length_range]; omega)] at h
    cases h
theorem rn_Wg {G : rn_G} {σ : rn_S} {a : Nat} (h1 : 1 ≤ a) (h2 : a < σ.2.2.2) : (rn_W G σ)[a - 1]? = some (rn_b G + a, rn_e G σ a) := by
  unfold rn_W
  rw [List.getElem?_map, List.getElem?_range (by omega)]
  show some (rn_b G + (a - 1 + 1), rn_e G σ (a - 1 + 1)) = _
  rw [Nat.sub_add_cancel h1]
theorem rn_WD (G : rn_G) (σ : rn_S) : va_D (rn_A G) (rn_W G σ) := by
  refine ⟨fun i j p q hi hj hpq => ?_, fun k q hk => ?_⟩
  · rw [(rn_Wi hi).2, (rn_Wi hj).2] at hpq
    have h3 : rn_b G + (i + 1) = rn_b G + (j + 1) := hpq
    omega
  · rw [(rn_Wi hk).2]
    show rn_b G < rn_b G + (k + 1)
    omega
theorem rn_Wset {G : rn_G} {σ σ' : rn_S} {a : Nat} {e : va_E} (h1 : 1 ≤ a) (h2 : a < σ.2.2.2) (hn : σ'.2.2.2 = σ.2.2.2) (ho : ∀ b : Nat, b ≠ a → rn_e G σ' b = rn_e G σ b) (he : rn_e G σ' a = e) : (rn_W G σ).set (a - 1) (rn_b G + a, e) = rn_W G σ' := by
  apply List.ext_getElem?
  intro i
  by_cases hi : i = a - 1
  · subst hi
    rw [List.getElem?_set_self (by unfold rn_W; rw [List.length_map, List.length_range]; omega), rn_Wg h1 (by rw [hn]; exact h2), he]
  · rw [List.getElem?_set_ne (Ne.symm hi)]
    unfold rn_W
    rw [List.getElem?_map, List.getElem?_map, hn]
    by_cases hl : i < σ.2.2.2 - 1
    · rw [List.getElem?_range hl]
      show some (_, _) = some (_, _)
      rw [ho (i + 1) (by omega)]
    · rw [List.getElem?_eq_none (by rw [List.length_range]; omega)]
      rfl
theorem rn_Wpush {G : rn_G} {σ σ' : rn_S} {e : va_E} (h1 : 1 ≤ σ.2.2.2) (hn : σ'.2.2.2 = σ.2.2.2 + 1) (ho : ∀ b : Nat, b < σ.2.2.2 → rn_e G σ' b = rn_e G σ b) (he : rn_e G σ' σ.2.2.2 = e) : rn_W G σ ++ [(rn_b G + σ.2.2.2, e)] = rn_W G σ' := by
  apply List.ext_getElem?
  intro i
  have hlen : (rn_W G σ).length = σ.2.2.2 - 1 := by unfold rn_W; rw [List.length_map, List.length_range]
  by_cases hi : i < σ.2.2.2 - 1
  · rw [List.getElem?_append_left (by rw [hlen]; exact hi)]
    have g1 := rn_Wg (G := G) (σ := σ) (a := i + 1) (by omega) (by omega)
    have g2 := rn_Wg (G := G) (σ := σ') (a := i + 1) (by omega) (by omega)
    rw [Nat.add_sub_cancel] at g1 g2
    rw [g1, g2, ho (i + 1) (by omega)]
  · rw [List.getElem?_append_right (by rw [hlen]; omega), hlen]
    by_cases hj : i = σ.2.2.2 - 1
    · subst hj
      have g2 := rn_Wg (G := G) (σ := σ') (a := σ.2.2.2) h1 (by omega)
      rw [g2, he, Nat.sub_self]
      rfl
    · rw [List.getElem?_eq_none (by simp only [List.length_singleton]; omega), List.getElem?_eq_none]
      unfold rn_W
      rw [List.length_map, List.length_range]
      omega
/-- what a heap holds -/
def rn_R (G : rn_G) (σ : rn_S) (s : State) (H : Heap) (locs : List Loc) : Prop := va_P (rn_D G) vwCl (rn_W G σ) H ∧ (σ.2.2.2 < 164 → H.size = rn_b G + σ.2.2.2) ∧ 1 ≤ σ.2.2.2 ∧ va_S (rn_A G) s.heap H locs
/-! what was there before -/
def rn_ka (j : Nat) : Int32 := match j with
  | 0 => -1 | 1 => 0 | 2 => 0 | 3 => 0 | 4 => 1 | 5 => 2 | _ => 3
def rn_bo (j : Nat) : Int32 := match j with
  | 0 => 10 | 1 => 11 | 2 => 12 | 3 => 0 | 4 => 20 | 5 => 0 | 6 => 30 | 7 => 0 | 8 => 0 | 9 => 0 | 10 => 0 | 11 => 40 | 12 => 50 | 13 => 51 | 14 => 0 | 15 => 0 | 16 => 0 | 17 => 60 | 18 => 71 | 19 => 70 | _ => 0
def rn_pl (G : rn_G) (i : Nat) : Nat := match i with
  | 0 => rn_Ln G | 1 => 7 | _ => 21
def rn_pf (G : rn_G) (i : Nat) : Nat → Int32 := match i with
  | 0 => rn_xs G | 1 => rn_ka | _ => rn_bo
def rn_st : List (String × String × String × Value) := [("LockedAtDusk", "KIND_ABOVE", "[I", .ref 1001), ("LockedAtDusk", "BODIES", "[I", .ref 1002), ("java/lang/String", "COMPACT_STRINGS", "Z", .int 1), ("jdk/internal/util/Preconditions", "SIOOBE_FORMATTER", "Ljava/util/function/BiFunction;", .ref 1030)]
def rn_isN : Cond → Bool
  | .fieldLinkNest .. => true
  | .methodLinkNest .. => true
  | _ => false
def rn_NW : List Cond := lw_tbl.filter rn_isN
/-- the six texts: the pool's number, the text, its length, its bytes -/
def rn_sk (i : Nat) : Nat := match i with
  | 0 => 43 | 1 => 45 | 2 => 47 | 3 => 49 | 4 => 102 | _ => 108
def rn_sx (i : Nat) : String := match i with
  | 0 => "keen " | 1 => "deaf " | 2 => "bell " | 3 => "pace " | 4 => "pkvwfm" | _ => "<=>"
def rn_sl : List Nat := [5, 5, 5, 5, 6, 3]
def rn_sb : List (List Int32) := [[107, 101, 101, 110, 32], [100, 101, 97, 102, 32], [98, 101, 108, 108, 32], [112, 97, 99, 101, 32], [112, 107, 118, 119, 102, 109], [60, 61, 62]]
def rn_E (G : rn_G) (U : State) (H : Heap) : Prop :=
  (∀ q ∈ rn_st, va_Z q.1 q.2.1 q.2.2.1 (rn_cv G q.2.2.2) (rn_A G) U H) ∧ (∀ i, i < 3 → va_T .int (rn_pa G i) (rn_pl G i) (fun j => .int (rn_pf G i j)) (rn_A G) U H) ∧
  (∀ w ∈ rn_NW, va_Nw w U) ∧ (∀ i, i < 6 → vk_R RX5 (rn_sk i) (rn_sx i) (rn_pa G (10 + i)) U) ∧ vk_S 6 rn_sl rn_sb (fun i => rn_pa G (10 + i)) (fun i => rn_pa G (20 + i)) (rn_A G) U H ∧ va_AO RX4 U ∧ va_AO RX1 U ∧ va_AO RX7 U
theorem rn_NW_warm {w : Cond} (hw : w ∈ rn_NW) {s U : State} (hW : s.WarmedH U.vm) (h : va_Nw w s) : va_Nw w U := by
  have h1 := (List.mem_filter.mp hw).2
  cases w <;> first | exact va_Nw.warmF hW h | exact va_Nw.warmM hW h | (simp [rn_isN] at h1; done)
theorem rn_NW_same {w : Cond} (hw : w ∈ rn_NW) {s U : State} (hW : s.vm = U.vm) (h : va_Nw w s) : va_Nw w U := by
  have h1 := (List.mem_filter.mp hw).2
  cases w <;> first | (simp [rn_isN] at h1; done) | exact va_Nw.same rfl hW h
theorem rn_E.down {G : rn_G} {s U : State} {H : Heap} {locs : List Loc} (h : rn_E G s s.heap) (hS : va_S (rn_A G) s.heap H locs) (hU : U.heap = H) (hW : s.WarmedH U.vm) : rn_E G U U.heap := by
  obtain ⟨h1, h2, h3, h4, h5, h6, h7, h8⟩ := h
  rw [hU]
  have ha := hW.alike
  exact ⟨fun q hq => ((h1 q hq).moved ha).kept hS.2.1, fun i hi => ((h2 i hi).moved ha).kept hS.2.1, fun w hw => rn_NW_warm hw hW (h3 w hw), fun i hi => (h4 i hi).warm hW, (h5.moved ha).kept hS.2.1, va_AO.moved ha h6, va_AO.moved ha h7, va_AO.moved ha h8⟩
theorem rn_E.same {G : rn_G} {s U : State} {H : Heap} (hv : s.vm = U.vm) (h : rn_E G s H) : rn_E G U H := by
  obtain ⟨h1, h2, h3, h4, h5, h6, h7, h8⟩ := h
  have ha : s.vm.Alike U.vm := by rw [hv]; exact Vm.Alike.refl _
  exact ⟨fun q hq => (h1 q hq).moved ha, fun i hi => (h2 i hi).moved ha, fun w hw => rn_NW_same hw hv (h3 w hw), fun i hi => (h4 i hi).same hv.symm, h5.moved ha, va_AO.moved ha h6, va_AO.moved ha h7, va_AO.moved ha h8⟩
/-! locals: '.null' stands where nothing is known -/
def rn_pv (v : Option Value) (i : Nat) (G : rn_G) : Option (Nat × Value) := match v with
  | none => none
  | some .null => none
  | some v => some (i, rn_cv G v)
def rn_ll (G : rn_G) (ls : List Value) : List (Nat × Value) := (List.range ls.length).filterMap (fun i => rn_pv ls[i]? i G)
theorem rn_ll_mem {G : rn_G} {ls : List Value} {q : Nat × Value} : q ∈ rn_ll G ls ↔ ∃ v, ls[q.1]? = some v ∧ v ≠ .null ∧ q.2 = rn_cv G v := by
  unfold rn_ll
  rw [List.mem_filterMap]
  constructor
  · rintro ⟨i, hi, h⟩
    cases hv : ls[i]? with
    | none => rw [hv] at h; cases h
    | some v =>
      rw [hv] at h
      cases v <;> first | (cases h; done) | (cases h; exact ⟨_, hv, (fun e => by cases e), rfl⟩)
  · rintro ⟨v, h1, h2, h3⟩
    refine ⟨q.1, List.mem_range.mpr (List.getElem?_eq_some_iff.mp h1).1, ?_⟩
    rw [h1]
    obtain ⟨q1, q2⟩ := q
    dsimp only at h3 ⊢
    subst h3
    cases v <;> first | exact absurd rfl h2 | rfl
def rn_L (G : rn_G) (nL : Nat) (ls : List Value) (lsA : Array Slot) : Prop := ls.length = nL ∧ lv_has lsA nL (rn_ll G ls)
theorem rn_L.at {G : rn_G} {nL : Nat} {ls : List Value} {lsA : Array Slot} (h : rn_L G nL ls lsA) {i : Nat} {v : Value} (hi : ls[i]? = some v) (hv : v ≠ .null) : lsA[i]? = some (.val (rn_cv G v)) := h.2.2.2 (i, rn_cv G v) (rn_ll_mem.mpr ⟨v, hi, hv, rfl⟩)
def rn_pb (ls : List Value) (i : Nat) : Prop := ∀ (j : Nat) (w : Value), j + 1 = i → ls[j]? = some w → w.category = 1
theorem rn_L.st {G : rn_G} {nL : Nat} {ls : List Value} {lsA ls' : Array Slot} {i : Nat} {v : Value} (h : rn_L G nL ls lsA) (hi : i < ls.length) (hp : rn_pb ls i) (hc : v ≠ .null) (h' : lv_has ls' nL ((i, rn_cv G v) :: (rn_ll G ls).filter (fun q => !(q.1 == i) && !(q.1 + 1 == i && q.2.category == 2)))) : rn_L G nL (ls.set i v) ls' := by
  refine ⟨by rw [List.length_set]; exact h.1, h'.1, h'.2.1, fun q hq => ?_⟩
  obtain ⟨w, h1, h2, h3⟩ := rn_ll_mem.mp hq
  apply h'.2.2 q
  by_cases hqi : q.1 = i
  · rw [hqi, List.getElem?_set_self hi] at h1
    cases h1
    refine List.mem_cons.mpr (Or.inl ?_)
    obtain ⟨q1, q2⟩ := q
    dsimp only at hqi h3
    rw [hqi, h3]
  · rw [List.getElem?_set_ne (Ne.symm hqi)] at h1
    refine List.mem_cons_of_mem _ (List.mem_filter.mpr ⟨rn_ll_mem.mpr ⟨w, h1, h2, h3⟩, ?_⟩)
    rw [h3, rn_cv_cat]
    by_cases hj : q.1 + 1 = i
    · rw [hp q.1 w hj h1]
      simp [hqi]
    · simp [hqi, hj]
/-- the locals with which a method begins -/
def rn_en1 (as : List Value) : List Value := as.flatMap (fun v => if v.category = 2 then [v, .null] else [v])
def rn_en (nL : Nat) (as : List Value) : List Value := rn_en1 as ++ List.replicate (nL - (rn_en1 as).length) .null
theorem rn_en1_len (G : rn_G) : ∀ as : List Value, (lg_sl (as.map (rn_cv G))).length = (rn_en1 as).length
  | [] => rfl
  | v :: as => by
    have ih := rn_en1_len G as
    unfold lg_sl rn_en1 at ih ⊢
    rw [List.map_cons, List.flatMap_cons, List.flatMap_cons, List.length_append, List.length_append, ih, rn_cv_cat]
    by_cases hv : v.category = 2
    · simp [hv]
    · simp [hv]
theorem rn_en_args (G : rn_G) : ∀ (as : List Value) (o i : Nat) (v : Value), (rn_en1 as)[i]? = some v → v ≠ .null → (o + i, rn_cv G v) ∈ lv_args o (as.map (rn_cv G))
  | [], o, i, v, h, hv => by simp [rn_en1] at h
  | w :: as, o, i, v, h, hv => by
    have ih := rn_en_args G as
    rw [List.map_cons]
    unfold rn_en1 at h ih
    rw [List.flatMap_cons] at h
    by_cases hw : w.category = 2
    · rw [if_pos hw] at h
      match i, h with
      | 0, h =>
        cases h
        exact List.mem_cons_self
      | 1, h =>
        cases h
        exact absurd rfl hv
      | i + 2, h =>
        have h2 := ih (o + 2) i v h hv
        refine List.mem_cons_of_mem _ ?_
        rw [rn_cv_cat, if_pos hw, show o + (i + 2) = o + 2 + i by omega]
        exact h2
    · rw [if_neg hw] at h
      match i, h with
      | 0, h =>
        cases h
        exact List.mem_cons_self
      | i + 1, h =>
        have h2 := ih (o + 1) i v h hv
        refine List.mem_cons_of_mem _ ?_
        rw [rn_cv_cat, if_neg hw, show o + (i + 1) = o + 1 + i by omega]
        exact h2
theorem rn_en_L (G : rn_G) {nL : Nat} {as : List Value} (h : (rn_en1 as).length ≤ nL) {lsA : Array Slot} (hl : lv_has lsA nL (lv_args 0 (as.map (rn_cv G)))) : rn_L G nL (rn_en nL as) lsA := by
  refine ⟨by unfold rn_en; rw [List.length_append, List.length_replicate]; omega, hl.1, hl.2.1, fun q hq => hl.2.2 q ?_⟩
  obtain ⟨v, h1, h2, h3⟩ := rn_ll_mem.mp hq
  unfold rn_en at h1
  by_cases hi : q.1 < (rn_en1 as).length
  · rw [List.getElem?_append_left hi] at h1
    have h4 := rn_en_args G as 0 q.1 v h1 h2
    rw [Nat.zero_add] at h4
    obtain ⟨q1, q2⟩ := q
    dsimp only at h3 h4
    rw [h3]
    exact h4
  · rw [List.getElem?_append_right (by omega)] at h1
    have := List.eq_of_mem_replicate (List.mem_of_getElem? h1)
    exact absurd this h2
