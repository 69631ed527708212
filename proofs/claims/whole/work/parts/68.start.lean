/-! the law's start: both objects made; what they hold then -/
/-- a memory behind so many writings, the last one first; 'none': a new cell -/
def bn_ev {α : Type} (z : α) (f : Nat → Nat → α) : List (Nat × Option (Nat × α)) → Nat → Nat → α
  | [] => f
  | (a, none) :: l => rn_z (bn_ev z f l) a z
  | (a, some (k, v)) :: l => rn_u (bn_ev z f l) a k v
theorem bn_app {α : Type} {z : α} {f : Nat → Nat → α} : ∀ {l m : List (Nat × Option (Nat × α))}, bn_ev z f (l ++ m) = bn_ev z (bn_ev z f m) l
  | [], m => rfl
  | (a, none) :: l, m => by
    show rn_z (bn_ev z f (l ++ m)) a z = rn_z (bn_ev z (bn_ev z f m) l) a z
    rw [bn_app]
  | (a, some (k, v)) :: l, m => by
    show rn_u (bn_ev z f (l ++ m)) a k v = rn_u (bn_ev z (bn_ev z f m) l) a k v
    rw [bn_app]
/-- new cells alone -/
theorem bn_zero {α : Type} {z : α} : ∀ {l : List (Nat × Option (Nat × α))}, l.all (fun q => q.2.isNone) = true → bn_ev z (fun _ _ => z) l = fun _ _ => z
  | [], _ => rfl
  | (a, none) :: l, h => by
    show rn_z (bn_ev z (fun _ _ => z) l) a z = _
    rw [bn_zero (l := l) (by simpa using h)]
    funext b j
    unfold rn_z
    split <;> rfl
  | (a, some (k, v)) :: l, h => by simp at h
/-- those of one row -/
def bn_fl {α : Type} (a : Nat) : List (Nat × Option (Nat × α)) → List (Nat × Option (Nat × α))
  | [] => []
  | (b, o) :: l => if b = a then (b, o) :: bn_fl a l else bn_fl a l
theorem bn_row {α : Type} {z : α} {a k : Nat} : ∀ {l : List (Nat × Option (Nat × α))}, bn_ev z (fun _ _ => z) (bn_fl a l) a k = bn_ev z (fun _ _ => z) l a k
  | [] => rfl
  | (b, none) :: l => by
    have ih := bn_row (z := z) (a := a) (k := k) (l := l)
    show bn_ev z _ (if b = a then (b, none) :: bn_fl a l else bn_fl a l) a k = rn_z (bn_ev z (fun _ _ => z) l) b z a k
    by_cases h : b = a
    · rw [if_pos h]
      show rn_z (bn_ev z (fun _ _ => z) (bn_fl a l)) b z a k = _
      unfold rn_z
      rw [if_pos h.symm, if_pos h.symm]
    · rw [if_neg h, ih]
      unfold rn_z
      rw [if_neg (fun e => h e.symm)]
  | (b, some (j, v)) :: l => by
    have ih := bn_row (z := z) (a := a) (k := k) (l := l)
    show bn_ev z _ (if b = a then (b, some (j, v)) :: bn_fl a l else bn_fl a l) a k = rn_u (bn_ev z (fun _ _ => z) l) b j v a k
    by_cases h : b = a
    · rw [if_pos h]
      show rn_u (bn_ev z (fun _ _ => z) (bn_fl a l)) b j v a k = _
      unfold rn_u
      rw [ih]
    · rw [if_neg h, ih]
      unfold rn_u
      rw [if_neg (fun e => h e.1.symm)]
/-- nothing is written beyond the 93rd of a row -/
theorem bn_far {α : Type} {z : α} {a k : Nat} (hk : 93 ≤ k) : ∀ {l : List (Nat × Option (Nat × α))}, l.all (fun q => match q.2 with | none => true | some (j, _) => decide (j < 93)) = true → bn_ev z (fun _ _ => z) l a k = z
  | [], _ => rfl
  | (b, none) :: l, h => by
    rw [List.all_cons, Bool.and_eq_true] at h
    show rn_z (bn_ev z (fun _ _ => z) l) b z a k = z
    unfold rn_z
    split
    · rfl
    · exact bn_far hk h.2
  | (b, some (j, v)) :: l, h => by
    rw [List.all_cons, Bool.and_eq_true] at h
    have h1 : j < 93 := of_decide_eq_true h.1
    show rn_u (bn_ev z (fun _ _ => z) l) b j v a k = z
    unfold rn_u
    rw [if_neg (fun e => by omega)]
    exact bn_far hk h.2
set_option maxRecDepth 20000 in
def bn_M8 : List (Nat × Option (Nat × Int32)) := [(114, some (1, (-1))), (115, none), (114, none), (112, some (1, (-1))), (113, none), (112, none), (110, some (1, (-1))), (111, none), (110, none), (108, some (1, (-1))), (109, none), (108, none), (106, some (1, (-1))), (107, none), (106, none), (104, some (1, (-1))), (105, none), (104, none), (102, some (3, 3)), (102, some (2, 8)), (103, none), (102, none), (100, some (3, 3)), (100, some (2, 8)), (101, none), (100, none), (98, some (3, 3)), (98, some (2, 8)), (99, none), (98, none), (96, some (3, 3)), (96, some (2, 8)), (97, none), (96, none), (94, some (3, 3)), (94, some (2, 8)), (95, none), (94, none), (92, some (3, 3)), (92, some (2, 8)), (93, none), (92, none), (91, none), (90, none), (89, none), (88, none), (86, some (3, 3)), (86, some (2, 8)), (87, none), (86, none), (85, none), (84, none), (83, none), (82, none), (81, none), (80, none), (79, none), (78, none), (77, none), (76, none), (75, none), (74, none), (73, none), (72, none), (71, none), (70, none), (69, none), (68, none), (67, none), (66, none), (65, none), (64, none), (63, none), (62, none), (61, none), (60, none), (53, some (14, (-1))), (58, some (3, 3)), (58, some (2, 8)), (59, none), (58, none), (57, none), (56, none), (55, none), (54, none), (53, none), (52, none), (51, none), (50, none), (49, none), (48, none), (47, none), (46, none), (45, none), (44, none), (43, none), (42, none), (41, none), (40, none), (39, none), (38, none), (37, none), (36, none), (35, none), (34, none), (33, none), (32, none), (31, none), (30, none), (29, none), (28, none), (21, some (14, (-1))), (26, some (3, 3)), (26, some (2, 8)), (27, none), (26, none), (25, none), (24, none), (23, none), (22, none), (21, none), (20, none), (19, none), (18, none), (17, none), (16, none), (15, none), (14, none), (13, none), (12, none), (11, none), (10, none), (9, none), (2, some (14, (-1))), (7, some (3, 3)), (7, some (2, 8)), (8, none), (7, none), (6, none), (5, none), (4, none), (3, none), (2, none)]
set_option maxRecDepth 20000 in
def bn_M9 : List (Nat × Option (Nat × Int32)) := [(163, none), (162, none), (161, none), (160, some (5, (-1))), (160, some (4, (-1))), (160, some (3, (-1))), (160, some (2, (-1))), (160, some (1, (-1))), (160, some (0, (-1))), (160, none), (159, none), (116, some (87, 0)), (158, none), (157, none), (156, none), (155, none), (154, none), (153, none), (152, none), (151, none), (150, none), (149, none), (148, none), (147, none), (146, none), (145, none), (116, some (72, 0)), (116, some (71, 0)), (116, some (70, 0)), (116, some (69, 0)), (116, some (68, 0)), (116, some (67, 0)), (116, some (66, 0)), (116, some (65, 0)), (116, some (64, 0)), (116, some (63, 0)), (116, some (62, 0)), (116, some (61, 0)), (116, some (60, (-1))), (116, some (59, 0)), (144, none), (143, none), (142, none), (141, none), (116, some (54, 0)), (116, some (53, 0)), (140, none), (139, none), (138, none), (116, some (49, 0)), (137, none), (136, none), (135, none), (116, some (45, 0)), (116, some (44, 0)), (116, some (43, 0)), (116, some (42, 0)), (116, some (41, 0)), (116, some (40, 0)), (116, some (39, 0)), (116, some (38, 0)), (134, none), (133, none), (116, some (35, (-1))), (116, some (34, 0)), (116, some (33, (-1))), (132, some (15, 101)), (132, some (14, 99)), (132, some (13, 97)), (132, some (12, 112)), (132, some (11, 108)), (132, some (10, 108)), (132, some (9, 101)), (132, some (8, 98)), (132, some (7, 102)), (132, some (6, 97)), (132, some (5, 101)), (132, some (4, 100)), (132, some (3, 110)), (132, some (2, 101)), (132, some (1, 101)), (132, some (0, 107)), (132, none), (116, some (31, 0)), (116, some (30, 0)), (116, some (29, 0)), (131, none), (130, none), (129, none), (128, none), (127, none), (126, none), (125, none), (124, none), (116, some (20, 0)), (116, some (19, 0)), (116, some (18, 0)), (116, some (17, (-1))), (116, some (16, 0)), (123, none), (122, none), (121, none), (120, none), (119, none), (118, none), (117, none), (116, some (8, 0)), (116, some (7, 0)), (116, some (6, 0)), (116, some (5, 0)), (116, some (4, 0)), (116, some (3, 0)), (116, some (2, 0)), (116, some (1, 0)), (116, some (0, 0))]
set_option maxRecDepth 20000 in
def bn_L8 : List (Nat × Option (Nat × Int64)) := [(115, none), (114, none), (113, none), (112, none), (111, none), (110, none), (109, none), (108, none), (107, none), (106, none), (105, none), (104, none), (103, none), (102, none), (101, none), (100, none), (99, none), (98, none), (97, none), (96, none), (95, none), (94, none), (93, none), (92, none), (91, none), (90, none), (89, none), (88, none), (87, none), (86, none), (85, none), (84, none), (83, none), (82, none), (81, none), (80, none), (79, none), (78, none), (77, none), (76, none), (75, none), (74, none), (73, none), (72, none), (71, none), (70, none), (69, none), (68, none), (67, none), (66, none), (65, none), (64, none), (63, none), (62, none), (61, none), (60, none), (59, none), (58, none), (57, none), (56, none), (55, none), (54, none), (53, none), (52, none), (51, none), (50, none), (49, none), (48, none), (47, none), (46, none), (45, none), (44, none), (43, none), (42, none), (41, none), (40, none), (39, none), (38, none), (37, none), (36, none), (35, none), (34, none), (33, none), (32, none), (31, none), (30, none), (29, none), (28, none), (27, none), (26, none), (25, none), (24, none), (23, none), (22, none), (21, none), (20, none), (19, none), (18, none), (17, none), (16, none), (15, none), (14, none), (13, none), (12, none), (11, none), (10, none), (9, none), (8, none), (7, none), (6, none), (5, none), (4, none), (3, none), (2, none)]
set_option maxRecDepth 20000 in
def bn_L9 : List (Nat × Option (Nat × Int64)) := [(163, none), (162, none), (161, none), (160, none), (159, none), (158, none), (157, none), (156, none), (155, none), (154, none), (153, none), (152, none), (151, none), (150, none), (149, none), (148, none), (147, none), (146, none), (145, none), (144, none), (143, none), (142, none), (141, none), (140, none), (139, none), (138, none), (137, none), (136, none), (135, none), (134, none), (133, none), (132, none), (131, none), (130, none), (129, none), (128, none), (127, none), (126, none), (125, none), (124, none), (123, none), (122, none), (121, none), (120, none), (119, none), (118, none), (117, none)]
set_option maxRecDepth 20000 in
def bn_R8 : List (Nat × Option (Nat × Nat)) := [(91, some (5, 114)), (114, some (0, 115)), (115, none), (114, none), (91, some (4, 112)), (112, some (0, 113)), (113, none), (112, none), (91, some (3, 110)), (110, some (0, 111)), (111, none), (110, none), (91, some (2, 108)), (108, some (0, 109)), (109, none), (108, none), (91, some (1, 106)), (106, some (0, 107)), (107, none), (106, none), (91, some (0, 104)), (104, some (0, 105)), (105, none), (104, none), (88, some (5, 102)), (102, some (0, 103)), (103, none), (102, none), (88, some (4, 100)), (100, some (0, 101)), (101, none), (100, none), (88, some (3, 98)), (98, some (0, 99)), (99, none), (98, none), (88, some (2, 96)), (96, some (0, 97)), (97, none), (96, none), (88, some (1, 94)), (94, some (0, 95)), (95, none), (94, none), (88, some (0, 92)), (92, some (0, 93)), (93, none), (92, none), (1, some (9, 91)), (91, none), (1, some (8, 89)), (89, some (0, 90)), (90, none), (89, none), (1, some (7, 88)), (88, none), (1, some (6, 84)), (84, some (3, 86)), (86, some (0, 87)), (87, none), (86, none), (84, some (0, 85)), (85, none), (84, none), (1, some (5, 52)), (52, some (3, 80)), (80, some (2, 83)), (83, none), (80, some (1, 82)), (82, none), (80, some (0, 81)), (81, none), (80, none), (52, some (2, 76)), (76, some (2, 79)), (79, none), (76, some (1, 78)), (78, none), (76, some (0, 77)), (77, none), (76, none), (52, some (1, 72)), (72, some (2, 75)), (75, none), (72, some (1, 74)), (74, none), (72, some (0, 73)), (73, none), (72, none), (52, some (0, 53)), (55, some (5, 70)), (70, some (6, 71)), (71, none), (70, none), (55, some (4, 68)), (68, some (6, 69)), (69, none), (68, none), (55, some (3, 66)), (66, some (6, 67)), (67, none), (66, none), (55, some (2, 64)), (64, some (6, 65)), (65, none), (64, none), (55, some (1, 62)), (62, some (6, 63)), (63, none), (62, none), (55, some (0, 60)), (60, some (6, 61)), (61, none), (60, none), (53, some (11, 58)), (58, some (0, 59)), (59, none), (58, none), (53, some (3, 57)), (57, none), (53, some (2, 56)), (56, none), (53, some (1, 55)), (55, none), (53, some (0, 54)), (54, none), (53, none), (52, none), (1, some (4, 48)), (48, some (2, 51)), (51, none), (48, some (1, 50)), (50, none), (48, some (0, 49)), (49, none), (48, none), (1, some (3, 44)), (44, some (2, 47)), (47, none), (44, some (1, 46)), (46, none), (44, some (0, 45)), (45, none), (44, none), (1, some (2, 40)), (40, some (2, 43)), (43, none), (40, some (1, 42)), (42, none), (40, some (0, 41)), (41, none), (40, none), (1, some (1, 21)), (23, some (5, 38)), (38, some (6, 39)), (39, none), (38, none), (23, some (4, 36)), (36, some (6, 37)), (37, none), (36, none), (23, some (3, 34)), (34, some (6, 35)), (35, none), (34, none), (23, some (2, 32)), (32, some (6, 33)), (33, none), (32, none), (23, some (1, 30)), (30, some (6, 31)), (31, none), (30, none), (23, some (0, 28)), (28, some (6, 29)), (29, none), (28, none), (21, some (11, 26)), (26, some (0, 27)), (27, none), (26, none), (21, some (3, 25)), (25, none), (21, some (2, 24)), (24, none), (21, some (1, 23)), (23, none), (21, some (0, 22)), (22, none), (21, none), (1, some (0, 2)), (4, some (5, 19)), (19, some (6, 20)), (20, none), (19, none), (4, some (4, 17)), (17, some (6, 18)), (18, none), (17, none), (4, some (3, 15)), (15, some (6, 16)), (16, none), (15, none), (4, some (2, 13)), (13, some (6, 14)), (14, none), (13, none), (4, some (1, 11)), (11, some (6, 12)), (12, none), (11, none), (4, some (0, 9)), (9, some (6, 10)), (10, none), (9, none), (2, some (11, 7)), (7, some (0, 8)), (8, none), (7, none), (2, some (3, 6)), (6, none), (2, some (2, 5)), (5, none), (2, some (1, 4)), (4, none), (2, some (0, 3)), (3, none), (2, none)]
set_option maxRecDepth 20000 in
def bn_R9 : List (Nat × Option (Nat × Nat)) := [(116, some (92, 163)), (163, none), (116, some (91, 162)), (162, none), (116, some (90, 161)), (161, none), (116, some (89, 160)), (160, none), (116, some (88, 159)), (159, none), (116, some (86, 158)), (158, none), (116, some (85, 157)), (157, none), (116, some (84, 156)), (156, none), (116, some (83, 155)), (155, none), (116, some (82, 154)), (154, none), (116, some (81, 153)), (153, none), (116, some (80, 152)), (152, none), (116, some (79, 151)), (151, none), (116, some (78, 150)), (150, none), (116, some (77, 149)), (149, none), (116, some (76, 148)), (148, none), (116, some (75, 147)), (147, none), (116, some (74, 146)), (146, none), (116, some (73, 145)), (145, none), (116, some (58, 144)), (144, none), (116, some (57, 143)), (143, none), (116, some (56, 142)), (142, none), (116, some (55, 141)), (141, none), (116, some (52, 140)), (140, none), (116, some (51, 139)), (139, none), (116, some (50, 138)), (138, none), (116, some (48, 137)), (137, none), (116, some (47, 136)), (136, none), (116, some (46, 135)), (135, none), (116, some (37, 134)), (134, none), (116, some (36, 133)), (133, none), (116, some (32, 132)), (132, none), (116, some (28, 131)), (131, none), (116, some (27, 130)), (130, none), (116, some (26, 129)), (129, none), (116, some (25, 128)), (128, none), (116, some (24, 127)), (127, none), (116, some (23, 126)), (126, none), (116, some (22, 125)), (125, none), (116, some (21, 124)), (124, none), (116, some (15, 123)), (123, none), (116, some (14, 122)), (122, none), (116, some (13, 121)), (121, none), (116, some (12, 120)), (120, none), (116, some (11, 119)), (119, none), (116, some (10, 118)), (118, none), (116, some (9, 117)), (117, none)]
set_option maxRecDepth 100000 in
set_option maxHeartbeats 4000000 in
theorem bn_I8 {G : rn_G} {d : Nat} {Q : Option Value → rn_S → Prop} {mi : Nat → Nat → Int32} {ml : Nat → Nat → Int64} {rf : Nat → Nat → Nat} (h : Q none (bn_ev 0 mi bn_M8, bn_ev 0 ml bn_L8, bn_ev 0 rf bn_R8, 116)) : Call G (d + 4) M_X8_init [.ref 1] (mi, ml, rf, 2) (114, 2041) Q := I8_1 h
set_option maxRecDepth 100000 in
set_option maxHeartbeats 4000000 in
theorem bn_I9 {G : rn_G} {d : Nat} {Q : Option Value → rn_S → Prop} {mi : Nat → Nat → Int32} {ml : Nat → Nat → Int64} {rf : Nat → Nat → Nat} (h : Q none (bn_ev 0 mi bn_M9, bn_ev 0 ml bn_L9, bn_ev 0 rf bn_R9, 164)) : Call G (d + 1) M_X9_init [.ref 116] (mi, ml, rf, 117) (47, 1861) Q := I9_116 h
def bn_M : List (Nat × Option (Nat × Int32)) := bn_M9 ++ (116, none) :: (bn_M8 ++ [(1, none)])
def bn_L : List (Nat × Option (Nat × Int64)) := bn_L9 ++ (116, none) :: (bn_L8 ++ [(1, none)])
def bn_R : List (Nat × Option (Nat × Nat)) := bn_R9 ++ (116, none) :: (bn_R8 ++ [(1, none)])
def bn_m : Nat → Nat → Int32 := bn_ev 0 (fun _ _ => 0) bn_M
def bn_l : Nat → Nat → Int64 := bn_ev 0 (fun _ _ => 0) bn_L
def bn_r : Nat → Nat → Nat := bn_ev 0 (fun _ _ => 0) bn_R
theorem bn_two {α : Type} {z : α} {l m : List (Nat × Option (Nat × α))} : bn_ev z (rn_z (bn_ev z (rn_z (fun _ _ => z) 1 z) l) 116 z) m = bn_ev z (fun _ _ => z) (m ++ (116, none) :: (l ++ [(1, none)])) := by
  rw [bn_app]
  show _ = bn_ev z (rn_z (bn_ev z (fun _ _ => z) (l ++ [(1, none)])) 116 z) m
  rw [bn_app]
  rfl
theorem bn_l0 : bn_l = fun _ _ => 0 := bn_zero (by decide +kernel)
def bn_D (a : Nat) : Nat := if a = 2 then 7 else if a = 21 then 26 else if a = 53 then 58 else 86
set_option maxRecDepth 20000 in
theorem bn_rf1 : ((List.range 164).all fun a => (List.range 93).all fun k => bn_ev 0 (fun _ _ => 0) (bn_fl a bn_R) a k == RF bn_D a k) = true := by decide +kernel
set_option maxRecDepth 20000 in
theorem bn_rf2 : ((List.range 164).all fun a => decide ((rn_RFL.getD a []).length ≤ 93)) = true := by decide +kernel
theorem bn_rf {a : Nat} (ha : a < 164) : bn_r a = RF bn_D a := by
  funext k
  by_cases hk : k < 93
  · have h1 := List.all_eq_true.mp (List.all_eq_true.mp bn_rf1 a (List.mem_range.mpr ha)) k (List.mem_range.mpr hk)
    rw [bn_row] at h1
    exact eq_of_beq h1
  · have h1 : bn_r a k = 0 := bn_far (by omega) (by decide +kernel)
    have h2 := of_decide_eq_true (List.all_eq_true.mp bn_rf2 a (List.mem_range.mpr ha))
    rw [h1]
    unfold RF
    rw [if_neg (by omega), if_neg (by omega), List.getD_eq_getElem?_getD, List.getElem?_eq_none (by omega)]
    rfl
/-- a run from a state is one from any state that holds the same -/
theorem Run.same {G : rn_G} {d : Nat} {M : rn_M} {pc : Nat} {ls st : List Value} {σ τ : rn_S} {κ : Nat × Nat} {Q : Option Value → rn_S → Prop} (hn : τ.2.2.2 = σ.2.2.2) (he : ∀ a, 1 ≤ a → a < σ.2.2.2 → rn_e G τ a = rn_e G σ a) (h : Run G d M pc ls st τ κ Q) : Run G d M pc ls st σ κ Q := by
  have hW : rn_W G τ = rn_W G σ := by
    unfold rn_W
    rw [hn]
    refine List.map_congr_left fun j hj => ?_
    rw [he (j + 1) (by omega) (by have := List.mem_range.mp hj; omega)]
  intro p e R s m args below meth c C CT ST Z h1 h2 hH H locs cells slots lsA hR
  refine h p e R s m args below meth c C CT ST Z h1 h2 hH H locs cells slots lsA ?_
  obtain ⟨r1, r2, r3, r4⟩ := hR
  exact ⟨by rw [hW]; exact r1, by rw [hn]; exact r2, by rw [hn]; exact r3, r4⟩
theorem bn_1_10 : bn_m 1 10 = 0 := by decide +kernel
theorem bn_2_4 : bn_m 2 4 = 0 := by decide +kernel
theorem bn_2_5 : bn_m 2 5 = 0 := by decide +kernel
theorem bn_2_6 : bn_m 2 6 = 0 := by decide +kernel
theorem bn_2_7 : bn_m 2 7 = 0 := by decide +kernel
theorem bn_2_8 : bn_m 2 8 = 0 := by decide +kernel
theorem bn_2_9 : bn_m 2 9 = 0 := by decide +kernel
theorem bn_2_10 : bn_m 2 10 = 0 := by decide +kernel
theorem bn_2_12 : bn_m 2 12 = 0 := by decide +kernel
theorem bn_2_13 : bn_m 2 13 = 0 := by decide +kernel
theorem bn_2_14 : bn_m 2 14 = -1 := by decide +kernel
theorem bn_7_1 : bn_m 7 1 = 0 := by decide +kernel
theorem bn_7_2 : bn_m 7 2 = 8 := by decide +kernel
theorem bn_7_3 : bn_m 7 3 = 3 := by decide +kernel
theorem bn_40_3 : bn_m 40 3 = 0 := by decide +kernel
theorem bn_44_3 : bn_m 44 3 = 0 := by decide +kernel
theorem bn_48_3 : bn_m 48 3 = 0 := by decide +kernel
theorem bn_52_4 : bn_m 52 4 = 0 := by decide +kernel
theorem bn_84_1 : bn_m 84 1 = 0 := by decide +kernel
theorem bn_89_1 : bn_m 89 1 = 0 := by decide +kernel
theorem bn_116_0 : bn_m 116 0 = 0 := by decide +kernel
theorem bn_116_1 : bn_m 116 1 = 0 := by decide +kernel
theorem bn_116_2 : bn_m 116 2 = 0 := by decide +kernel
theorem bn_116_3 : bn_m 116 3 = 0 := by decide +kernel
theorem bn_116_4 : bn_m 116 4 = 0 := by decide +kernel
theorem bn_116_5 : bn_m 116 5 = 0 := by decide +kernel
theorem bn_116_6 : bn_m 116 6 = 0 := by decide +kernel
theorem bn_116_7 : bn_m 116 7 = 0 := by decide +kernel
theorem bn_116_8 : bn_m 116 8 = 0 := by decide +kernel
theorem bn_116_16 : bn_m 116 16 = 0 := by decide +kernel
theorem bn_116_18 : bn_m 116 18 = 0 := by decide +kernel
theorem bn_116_34 : bn_m 116 34 = 0 := by decide +kernel
theorem bn_116_49 : bn_m 116 49 = 0 := by decide +kernel
theorem bn_116_53 : bn_m 116 53 = 0 := by decide +kernel
theorem bn_116_54 : bn_m 116 54 = 0 := by decide +kernel
theorem bn_116_59 : bn_m 116 59 = 0 := by decide +kernel
theorem bn_116_87 : bn_m 116 87 = 0 := by decide +kernel
theorem bn_116_17 : bn_m 116 17 = -1 := by decide +kernel
theorem bn_116_33 : bn_m 116 33 = -1 := by decide +kernel
theorem bn_116_35 : bn_m 116 35 = -1 := by decide +kernel
theorem bn_tC : ∀ i, i < 6 → bn_m (104 + 2 * i) 1 = -1 ∧ bn_m (104 + 2 * i) 2 = 0 := by decide +kernel
theorem bn_tM : ∀ i, i < 6 → bn_m 160 i = -1 ∧ bn_m 161 i = 0 := by decide +kernel
theorem bn_LT : LT bn_m := by
  have h : ∀ k, k < 4 → ∀ j, j < 4 → bn_m 132 (4 * k + j) = nI ((wdC k).getD j 0) := by decide +kernel
  exact h
def bn_w : WD := wM bn_m []
def bn_tp : TP := fun _ => (-1, 0, fun _ => 0)
theorem bn_nn {j : Nat} : ¬ j < nn 0 := by
  show ¬ j < 0
  omega
theorem bn_wC : wC bn_m 7 2 = bn_w := by
  have e1 : sC bn_m 7 2 = sM bn_m [] := by
    funext j
    match j with
    | 0 => show bn_m 2 4 = bn_m 116 0; rw [bn_2_4, bn_116_0]
    | 1 => show bn_m 2 5 = bn_m 116 3; rw [bn_2_5, bn_116_3]
    | 2 => show bn_m 2 6 = bn_m 116 1; rw [bn_2_6, bn_116_1]
    | 3 => show bn_m 2 7 = bn_m 116 6; rw [bn_2_7, bn_116_6]
    | 4 => show bn_m 2 8 = bn_m 116 8; rw [bn_2_8, bn_116_8]
    | 5 => show bn_m 2 9 = bn_m 116 7; rw [bn_2_9, bn_116_7]
    | 6 => show bn_m 2 10 = bn_m 116 2; rw [bn_2_10, bn_116_2]
    | 7 =>
      show (if 0 < bn_m 2 12 then bn_m 2 12 else bn_m 7 3) = paceA (bn_m 116 33) []
      rw [bn_2_12, bn_7_3, bn_116_33]
      rfl
    | 8 => show bn_m 2 13 = bn_m 116 34; rw [bn_2_13, bn_116_34]
    | 9 => show bn_m 2 14 = bn_m 116 35; rw [bn_2_14, bn_116_35]
    | n + 10 => show bn_m 7 2 = 8; exact bn_7_2
  unfold bn_w wC wM
  rw [e1, bn_2_4, bn_2_8, bn_2_6, bn_116_0, bn_116_8, bn_116_1]
  simp only [if_neg bn_nn]
set_option maxRecDepth 4000 in
theorem bn_WJ : WJ 9999 bn_w := by
  refine ⟨0, 0, 0, by omega, by omega, by omega, bn_116_0, bn_116_1, bn_116_8, ⟨0, by omega, bn_116_7⟩, ⟨0, by omega, bn_116_2⟩, ⟨0, by omega, bn_116_6⟩, ⟨3, by omega, ?_⟩, ⟨0, by omega, bn_116_34⟩, fun i _ _ => ?_, fun j hj => absurd hj (by omega), fun j hj => absurd hj (by omega), fun j hj => absurd hj (by omega)⟩
  · show paceA (bn_m 116 33) [] = nI 3
    rw [bn_116_33]
    rfl
  · show bt (bn_m 116 3) i = false
    rw [bn_116_3]
    simp [bt]
theorem bn_IV : IV bn_w 0 0 (fun _ => []) [] [] [] none [] bn_tp := ⟨⟨bn_WJ, by decide, fun q hq => absurd hq List.not_mem_nil, by decide, fun q hq => absurd hq List.not_mem_nil, by decide, fun q hq => absurd hq List.not_mem_nil⟩, by omega, by omega, trivial, by decide, fun i _ => ⟨by show 0 ≤ 60; omega, Or.inl rfl, fun _ => rfl⟩⟩
theorem bn_CR : CR bn_w 0 0 (fun _ => []) [] [] [] none (fun _ => 0) 0 [] bn_tp bn_m bn_l bn_D := by
  refine ⟨⟨rfl, bn_wC, bn_2_12, bn_2_13, bn_2_14⟩, ⟨bn_1_10, ⟨by decide, bn_7_1, (fun i v h => by cases h), bn_7_2, bn_7_3, fun q hq => absurd hq List.not_mem_nil⟩, fun j hj => absurd hj (by omega)⟩, ⟨bn_40_3, (fun j q h => by cases h)⟩, ⟨bn_44_3, (fun j q h => by cases h)⟩, ⟨bn_48_3, (fun j q h => by cases h)⟩, bn_52_4, ⟨by omega, bn_84_1, fun j hj => absurd hj (by omega)⟩, ⟨bn_89_1, (fun j v h => by cases h)⟩, fun i hi => ⟨(bn_tC i hi).1, (bn_tC i hi).2, fun j _ => ?_⟩, Or.inr (Or.inl rfl), Or.inr (Or.inr (Or.inl rfl)), Or.inr (Or.inr (Or.inr (Or.inl rfl)))⟩
  rw [bn_l0]
  rfl
theorem bn_MR : MR bn_w 0 0 (fun _ => []) [] [] [] none (fun _ => 0) 0 [] bn_tp bn_m bn_l := by
  refine ⟨⟨⟨Or.inl ?_, fun q hq => absurd hq List.not_mem_nil, 0, by decide, ?_, ?_, (fun c q h => by cases h)⟩, rfl, fun i _ _ => ?_, bn_116_33, bn_116_34, bn_116_35⟩, ⟨bn_116_16, bn_116_17, fun j hj => absurd hj (by omega)⟩, ⟨bn_116_49, (fun j q h => by cases h)⟩, ⟨bn_116_53, (fun j q h => by cases h)⟩, ⟨bn_116_54, (fun j q h => by cases h)⟩, bn_116_59, ⟨by omega, bn_116_18, fun j hj => absurd hj (by omega)⟩, bn_LT, ⟨bn_116_87, (fun j v h => by cases h)⟩, fun i hi => ⟨(bn_tM i hi).1, (bn_tM i hi).2, fun j _ => ?_⟩⟩
  · rw [bn_116_17]
    decide
  · unfold begM
    rw [bn_116_17]
    rfl
  · unfold behM
    rw [bn_116_17]
    rfl
  · rw [bn_116_5]
    simp [bt]
  · rw [bn_l0]
    rfl
set_option maxHeartbeats 4000000 in
/-- the law, from its entry -/
theorem L_start {G : rn_G} {d : Nat} {Q : Option Value → rn_S → Prop} (hL : rn_Ln G ≤ 3072) (hQ : ∀ m l D, Q (some (.int 1)) (m, l, RF D, 164)) : Call G (d + 31) M_L_law [.ref 1000] ((fun _ _ => 0), (fun _ _ => 0), (fun _ _ => 0), 1) (163, 4006) Q := by
  show Run G _ M_L_law 0 [.ref 1000, .null, .null, .null] [] _ _ _
  refine R_new (ci := 8) (κ' := (162, 3995)) dL_law_0 rfl cl_RL_7 nw_RX8 mz_RX8 (by decide +kernel) rfl (Nat.le_of_ble_eq_true rfl) ⟨by decide, by decide⟩ ?_
  refine R_dup dL_law_3 rfl ?_
  refine R_callI (as := []) (κ' := (114, 2041)) (κ'' := (48, 1954)) dL_law_4 mm_RL_9 ⟨by decide, by decide⟩ rfl (Nat.le_of_ble_eq_true rfl) (Nat.le_of_ble_eq_true rfl) ⟨by decide, by decide⟩ (bn_I8 (d := d + 26) ?_)
  refine as_1 dL_law_7 rfl ?_
  refine R_new (ci := 9) (κ' := (47, 1861)) dL_law_8 rfl cl_RL_10 nw_RX9 mz_RX9 (by decide +kernel) rfl (Nat.le_of_ble_eq_true rfl) ⟨by decide, by decide⟩ ?_
  refine R_dup dL_law_11 rfl ?_
  refine R_callI (as := []) (κ' := (47, 1861)) (κ'' := (0, 0)) dL_law_12 mm_RL_12 ⟨by decide, by decide⟩ rfl (Nat.le_of_ble_eq_true rfl) (Nat.le_of_ble_eq_true rfl) ⟨by decide, by decide⟩ (bn_I9 (d := d + 29) ?_)
  refine as_2 dL_law_15 rfl ?_
  refine R_iconst (v := 0) dL_law_16 (by decide) ?_
  refine is_3 dL_law_17 rfl ?_
  rw [bn_two, bn_two, bn_two]
  refine Run.same (τ := (bn_m, bn_l, RF bn_D, 164)) rfl (fun a h1 h2 => rn_e_congr rfl rfl (bn_rf h2).symm) ?_
  exact L_lawC hL hQ (rn_Ln G) 0 0 bn_w 0 0 (fun _ => []) [] [] [] none (fun _ => 0) 0 [] bn_tp bn_m bn_l bn_D (by omega) (by omega) rfl bn_IV bn_CR bn_MR
