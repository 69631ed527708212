/-! helpers behind the constructors: constant references, calls by arity -/
def rn_RFL : List (List Nat) := [[], [2, 21, 40, 44, 48, 52, 84, 88, 89, 91], [3, 4, 5, 6, 0, 0, 0, 0, 0, 0, 0, 7], [], [9, 11, 13, 15, 17, 19], [], [], [8], [], [0, 0, 0, 0, 0, 0, 10], [], [0, 0, 0, 0, 0, 0, 12], [], [0, 0, 0, 0, 0, 0, 14], [], [0, 0, 0, 0, 0, 0, 16], [], [0, 0, 0, 0, 0, 0, 18], [], [0, 0, 0, 0, 0, 0, 20], [], [22, 23, 24, 25, 0, 0, 0, 0, 0, 0, 0, 26], [], [28, 30, 32, 34, 36, 38], [], [], [27], [], [0, 0, 0, 0, 0, 0, 29], [], [0, 0, 0, 0, 0, 0, 31], [], [0, 0, 0, 0, 0, 0, 33], [], [0, 0, 0, 0, 0, 0, 35], [], [0, 0, 0, 0, 0, 0, 37], [], [0, 0, 0, 0, 0, 0, 39], [], [41, 42, 43], [], [], [], [45, 46, 47], [], [], [], [49, 50, 51], [], [], [], [53, 72, 76, 80], [54, 55, 56, 57, 0, 0, 0, 0, 0, 0, 0, 58], [], [60, 62, 64, 66, 68, 70], [], [], [59], [], [0, 0, 0, 0, 0, 0, 61], [], [0, 0, 0, 0, 0, 0, 63], [], [0, 0, 0, 0, 0, 0, 65], [], [0, 0, 0, 0, 0, 0, 67], [], [0, 0, 0, 0, 0, 0, 69], [], [0, 0, 0, 0, 0, 0, 71], [], [73, 74, 75], [], [], [], [77, 78, 79], [], [], [], [81, 82, 83], [], [], [], [85, 0, 0, 86], [], [87], [], [92, 94, 96, 98, 100, 102], [90], [], [104, 106, 108, 110, 112, 114], [93], [], [95], [], [97], [], [99], [], [101], [], [103], [], [105], [], [107], [], [109], [], [111], [], [113], [], [115], [], [0, 0, 0, 0, 0, 0, 0, 0, 0, 117, 118, 119, 120, 121, 122, 123, 0, 0, 0, 0, 0, 124, 125, 126, 127, 128, 129, 130, 131, 0, 0, 0, 132, 0, 0, 0, 133, 134, 0, 0, 0, 0, 0, 0, 0, 0, 135, 136, 137, 0, 138, 139, 140, 0, 0, 141, 142, 143, 144, 0, 0, 0, 0, 0, 0, 0, 0, 0, 0, 0, 0, 0, 0, 145, 146, 147, 148, 149, 150, 151, 152, 153, 154, 155, 156, 157, 158, 0, 159, 160, 161, 162, 163], [], [], [], [], [], [], [], [], [], [], [], [], [], [], [], [], [], [], [], [], [], [], [], [], [], [], [], [], [], [], [], [], [], [], [], [], [], [], [], [], [], [], [], [], [], [], []]
def RF (D : Nat → Nat) (a k : Nat) : Nat := if k = 11 ∧ (a = 2 ∨ a = 21 ∨ a = 53) then D a else if k = 3 ∧ a = 84 then D a else (rn_RFL.getD a []).getD k 0
section CA
variable {G : rn_G} {d : Nat} {M M' : rn_M} {pc : Nat} {ls st : List Value} {σ : rn_S} {κ : Nat × Nat} {Q : Option Value → rn_S → Prop}
theorem cv_0 {idx ci a : Nat} (hd : decode M.2.1 pc = .ok (.invokevirtual idx, 3)) (hm : rn_MV M.1.cls idx M' 0) (hs : SH a = (ci, 0)) (ha : a < σ.2.2.2) (hcn : rn_cn ci M'.1.cls) (hl : (rn_en1 [.ref a]).length ≤ M'.2.2.1) (hcat : (st.map fun v => v.category).sum ≤ 8)
    (h : Call G d M' [.ref a] σ (0, 0) (fun v σ' => Run G (d + 1) M (pc + 3) ls (rn_ps v st) σ' κ Q)) : Run G (d + 1) M pc ls (.ref a :: st) σ κ Q := R_callV (as := []) hd hm hs ha hcn rfl hl hcat ⟨by omega, by omega⟩ h
theorem cv_1 {idx ci a : Nat} {x : Value} (hd : decode M.2.1 pc = .ok (.invokevirtual idx, 3)) (hm : rn_MV M.1.cls idx M' 1) (hs : SH a = (ci, 0)) (ha : a < σ.2.2.2) (hcn : rn_cn ci M'.1.cls) (hl : (rn_en1 [.ref a, x]).length ≤ M'.2.2.1) (hcat : (st.map fun v => v.category).sum ≤ 8)
    (h : Call G d M' [.ref a, x] σ (0, 0) (fun v σ' => Run G (d + 1) M (pc + 3) ls (rn_ps v st) σ' κ Q)) : Run G (d + 1) M pc ls (x :: .ref a :: st) σ κ Q := R_callV (as := [x]) hd hm hs ha hcn rfl hl hcat ⟨by omega, by omega⟩ h
theorem cv_2 {idx ci a : Nat} {x y : Value} (hd : decode M.2.1 pc = .ok (.invokevirtual idx, 3)) (hm : rn_MV M.1.cls idx M' 2) (hs : SH a = (ci, 0)) (ha : a < σ.2.2.2) (hcn : rn_cn ci M'.1.cls) (hl : (rn_en1 [.ref a, x, y]).length ≤ M'.2.2.1) (hcat : (st.map fun v => v.category).sum ≤ 8)
    (h : Call G d M' [.ref a, x, y] σ (0, 0) (fun v σ' => Run G (d + 1) M (pc + 3) ls (rn_ps v st) σ' κ Q)) : Run G (d + 1) M pc ls (y :: x :: .ref a :: st) σ κ Q := R_callV (as := [x, y]) hd hm hs ha hcn rfl hl hcat ⟨by omega, by omega⟩ h
theorem cv_3 {idx ci a : Nat} {x y z : Value} (hd : decode M.2.1 pc = .ok (.invokevirtual idx, 3)) (hm : rn_MV M.1.cls idx M' 3) (hs : SH a = (ci, 0)) (ha : a < σ.2.2.2) (hcn : rn_cn ci M'.1.cls) (hl : (rn_en1 [.ref a, x, y, z]).length ≤ M'.2.2.1) (hcat : (st.map fun v => v.category).sum ≤ 8)
    (h : Call G d M' [.ref a, x, y, z] σ (0, 0) (fun v σ' => Run G (d + 1) M (pc + 3) ls (rn_ps v st) σ' κ Q)) : Run G (d + 1) M pc ls (z :: y :: x :: .ref a :: st) σ κ Q := R_callV (as := [x, y, z]) hd hm hs ha hcn rfl hl hcat ⟨by omega, by omega⟩ h
theorem cv_4 {idx ci a : Nat} {x y z w : Value} (hd : decode M.2.1 pc = .ok (.invokevirtual idx, 3)) (hm : rn_MV M.1.cls idx M' 4) (hs : SH a = (ci, 0)) (ha : a < σ.2.2.2) (hcn : rn_cn ci M'.1.cls) (hl : (rn_en1 [.ref a, x, y, z, w]).length ≤ M'.2.2.1) (hcat : (st.map fun v => v.category).sum ≤ 8)
    (h : Call G d M' [.ref a, x, y, z, w] σ (0, 0) (fun v σ' => Run G (d + 1) M (pc + 3) ls (rn_ps v st) σ' κ Q)) : Run G (d + 1) M pc ls (w :: z :: y :: x :: .ref a :: st) σ κ Q := R_callV (as := [x, y, z, w]) hd hm hs ha hcn rfl hl hcat ⟨by omega, by omega⟩ h
theorem cv_5 {idx ci a : Nat} {x y z w u : Value} (hd : decode M.2.1 pc = .ok (.invokevirtual idx, 3)) (hm : rn_MV M.1.cls idx M' 5) (hs : SH a = (ci, 0)) (ha : a < σ.2.2.2) (hcn : rn_cn ci M'.1.cls) (hl : (rn_en1 [.ref a, x, y, z, w, u]).length ≤ M'.2.2.1) (hcat : (st.map fun v => v.category).sum ≤ 8)
    (h : Call G d M' [.ref a, x, y, z, w, u] σ (0, 0) (fun v σ' => Run G (d + 1) M (pc + 3) ls (rn_ps v st) σ' κ Q)) : Run G (d + 1) M pc ls (u :: w :: z :: y :: x :: .ref a :: st) σ κ Q := R_callV (as := [x, y, z, w, u]) hd hm hs ha hcn rfl hl hcat ⟨by omega, by omega⟩ h
theorem ct_0 {idx i : Nat} (hd : decode M.2.1 pc = .ok (.invokevirtual idx, 3)) (hm : rn_MV M.1.cls idx M' 0) (hi : i < 6) (hcn : M'.1.cls = "java/lang/String") (hl : (rn_en1 [.ref (1000 + (10 + i))]).length ≤ M'.2.2.1) (hcat : (st.map fun v => v.category).sum ≤ 8)
    (h : Call G d M' [.ref (1000 + (10 + i))] σ (0, 0) (fun v σ' => Run G (d + 1) M (pc + 3) ls (rn_ps v st) σ' κ Q)) : Run G (d + 1) M pc ls (.ref (1000 + (10 + i)) :: st) σ κ Q := R_callT (as := []) hd hm hi hcn rfl hl hcat h
theorem ct_1 {idx i : Nat} {x : Value} (hd : decode M.2.1 pc = .ok (.invokevirtual idx, 3)) (hm : rn_MV M.1.cls idx M' 1) (hi : i < 6) (hcn : M'.1.cls = "java/lang/String") (hl : (rn_en1 [.ref (1000 + (10 + i)), x]).length ≤ M'.2.2.1) (hcat : (st.map fun v => v.category).sum ≤ 8)
    (h : Call G d M' [.ref (1000 + (10 + i)), x] σ (0, 0) (fun v σ' => Run G (d + 1) M (pc + 3) ls (rn_ps v st) σ' κ Q)) : Run G (d + 1) M pc ls (x :: .ref (1000 + (10 + i)) :: st) σ κ Q := R_callT (as := [x]) hd hm hi hcn rfl hl hcat h
theorem ct_2 {idx i : Nat} {x y : Value} (hd : decode M.2.1 pc = .ok (.invokevirtual idx, 3)) (hm : rn_MV M.1.cls idx M' 2) (hi : i < 6) (hcn : M'.1.cls = "java/lang/String") (hl : (rn_en1 [.ref (1000 + (10 + i)), x, y]).length ≤ M'.2.2.1) (hcat : (st.map fun v => v.category).sum ≤ 8)
    (h : Call G d M' [.ref (1000 + (10 + i)), x, y] σ (0, 0) (fun v σ' => Run G (d + 1) M (pc + 3) ls (rn_ps v st) σ' κ Q)) : Run G (d + 1) M pc ls (y :: x :: .ref (1000 + (10 + i)) :: st) σ κ Q := R_callT (as := [x, y]) hd hm hi hcn rfl hl hcat h
theorem cs_1 {idx : Nat} {x : Value} (hd : decode M.2.1 pc = .ok (.invokestatic idx, 3)) (hm : rn_MS M.1.cls idx M' 1) (hl : (rn_en1 [x]).length ≤ M'.2.2.1) (hcat : (st.map fun v => v.category).sum ≤ 8)
    (h : Call G d M' [x] σ (0, 0) (fun v σ' => Run G (d + 1) M (pc + 3) ls (rn_ps v st) σ' κ Q)) : Run G (d + 1) M pc ls (x :: st) σ κ Q := R_callS (as := [x]) hd hm rfl hl hcat h
theorem cs_2 {idx : Nat} {x y : Value} (hd : decode M.2.1 pc = .ok (.invokestatic idx, 3)) (hm : rn_MS M.1.cls idx M' 2) (hl : (rn_en1 [x, y]).length ≤ M'.2.2.1) (hcat : (st.map fun v => v.category).sum ≤ 8)
    (h : Call G d M' [x, y] σ (0, 0) (fun v σ' => Run G (d + 1) M (pc + 3) ls (rn_ps v st) σ' κ Q)) : Run G (d + 1) M pc ls (y :: x :: st) σ κ Q := R_callS (as := [x, y]) hd hm rfl hl hcat h
theorem cs_3 {idx : Nat} {x y z : Value} (hd : decode M.2.1 pc = .ok (.invokestatic idx, 3)) (hm : rn_MS M.1.cls idx M' 3) (hl : (rn_en1 [x, y, z]).length ≤ M'.2.2.1) (hcat : (st.map fun v => v.category).sum ≤ 8)
    (h : Call G d M' [x, y, z] σ (0, 0) (fun v σ' => Run G (d + 1) M (pc + 3) ls (rn_ps v st) σ' κ Q)) : Run G (d + 1) M pc ls (z :: y :: x :: st) σ κ Q := R_callS (as := [x, y, z]) hd hm rfl hl hcat h
theorem cs_4 {idx : Nat} {x y z w : Value} (hd : decode M.2.1 pc = .ok (.invokestatic idx, 3)) (hm : rn_MS M.1.cls idx M' 4) (hl : (rn_en1 [x, y, z, w]).length ≤ M'.2.2.1) (hcat : (st.map fun v => v.category).sum ≤ 8)
    (h : Call G d M' [x, y, z, w] σ (0, 0) (fun v σ' => Run G (d + 1) M (pc + 3) ls (rn_ps v st) σ' κ Q)) : Run G (d + 1) M pc ls (w :: z :: y :: x :: st) σ κ Q := R_callS (as := [x, y, z, w]) hd hm rfl hl hcat h
theorem csn_1 {idx : Nat} {host : String} {x : Value} (hd : decode M.2.1 pc = .ok (.invokestatic idx, 3)) (hm : rn_MSN M.1.cls idx host M' 1) (hl : (rn_en1 [x]).length ≤ M'.2.2.1) (hcat : (st.map fun v => v.category).sum ≤ 8)
    (h : Call G d M' [x] σ (0, 0) (fun v σ' => Run G (d + 1) M (pc + 3) ls (rn_ps v st) σ' κ Q)) : Run G (d + 1) M pc ls (x :: st) σ κ Q := R_callSN (as := [x]) hd hm rfl hl hcat h
end CA
/-! the addresses of parks, people, dusks, tapes, rows -/
def PB (b : Nat) : Prop := b = 2 ∨ b = 21 ∨ b = 53
def PQ (q : Nat) : Prop := ∃ b i, PB b ∧ i < 6 ∧ q = b + 7 + 2 * i
def PD (k : Nat) : Prop := k = 7 ∨ k = 26 ∨ k = 58 ∨ k = 86 ∨ (92 ≤ k ∧ k ≤ 102 ∧ k % 2 = 0)
def PT (t : Nat) : Prop := 104 ≤ t ∧ t ≤ 114 ∧ t % 2 = 0
def PR (L w : Nat) : Prop := (L = 5 ∧ (w = 40 ∨ w = 72)) ∨ (L = 10 ∧ (w = 44 ∨ w = 76)) ∨ (L = 8 ∧ (w = 48 ∨ w = 80))
section AD
variable {D : Nat → Nat} {b q k t w L i : Nat}
theorem pb_n (h : PB b) : b + 19 ≤ 164 := by rcases h with rfl | rfl | rfl <;> decide
theorem pb_s0 (h : PB b) : SH b = (3, 0) := by rcases h with rfl | rfl | rfl <;> rfl
theorem pb_s1 (h : PB b) : SH (b + 1) = (10, 6) := by rcases h with rfl | rfl | rfl <;> rfl
theorem pb_s2 (h : PB b) : SH (b + 2) = (14, 6) := by rcases h with rfl | rfl | rfl <;> rfl
theorem pb_s3 (h : PB b) : SH (b + 3) = (10, 6) := by rcases h with rfl | rfl | rfl <;> rfl
theorem pb_s4 (h : PB b) : SH (b + 4) = (10, 6) := by rcases h with rfl | rfl | rfl <;> rfl
theorem pb_r0 (h : PB b) : RF D b 0 = b + 1 := by rcases h with rfl | rfl | rfl <;> rfl
theorem pb_r1 (h : PB b) : RF D b 1 = b + 2 := by rcases h with rfl | rfl | rfl <;> rfl
theorem pb_r2 (h : PB b) : RF D b 2 = b + 3 := by rcases h with rfl | rfl | rfl <;> rfl
theorem pb_r3 (h : PB b) : RF D b 3 = b + 4 := by rcases h with rfl | rfl | rfl <;> rfl
theorem pb_r11 (h : PB b) : RF D b 11 = D b := by rcases h with rfl | rfl | rfl <;> rfl
theorem pb_q (h : PB b) (hi : i < 6) : PQ (b + 7 + 2 * i) := ⟨b, i, h, hi, rfl⟩
theorem pb_rq (h : PB b) (hi : i < 6) : RF D (b + 2) i = b + 7 + 2 * i := by
  rcases h with rfl | rfl | rfl <;> (match i, hi with | 0, _ => rfl | 1, _ => rfl | 2, _ => rfl | 3, _ => rfl | 4, _ => rfl | 5, _ => rfl)
theorem pq_cases (h : PQ q) (P : Nat → Prop) (h2 : ∀ i, i < 6 → P (2 + 7 + 2 * i)) (h21 : ∀ i, i < 6 → P (21 + 7 + 2 * i)) (h53 : ∀ i, i < 6 → P (53 + 7 + 2 * i)) : P q := by
  obtain ⟨b, i, hb, hi, rfl⟩ := h
  rcases hb with rfl | rfl | rfl
  · exact h2 i hi
  · exact h21 i hi
  · exact h53 i hi
theorem pq_n (h : PQ q) : q + 2 ≤ 164 := by
  obtain ⟨b, i, hb, hi, rfl⟩ := h
  have := pb_n hb
  omega
theorem pq_s0 (h : PQ q) : SH q = (4, 0) := pq_cases h (fun q => SH q = (4, 0)) (by decide) (by decide) (by decide)
theorem pq_s1 (h : PQ q) : SH (q + 1) = (10, 4) := pq_cases h (fun q => SH (q + 1) = (10, 4)) (by decide) (by decide) (by decide)
theorem pq_r6 (h : PQ q) : RF D q 6 = q + 1 := by
  obtain ⟨b, i, hb, hi, rfl⟩ := h
  rcases hb with rfl | rfl | rfl <;> (match i, hi with | 0, _ => rfl | 1, _ => rfl | 2, _ => rfl | 3, _ => rfl | 4, _ => rfl | 5, _ => rfl)
theorem pd_cases (h : PD k) (P : Nat → Prop) (h1 : P 7) (h2 : P 26) (h3 : P 58) (h4 : P 86) (h5 : ∀ j, j < 6 → P (92 + 2 * j)) : P k := by
  rcases h with rfl | rfl | rfl | rfl | ⟨a, b, c⟩
  · exact h1
  · exact h2
  · exact h3
  · exact h4
  · have := h5 ((k - 92) / 2) (by omega)
    rwa [show 92 + 2 * ((k - 92) / 2) = k by omega] at this
theorem pd_n (h : PD k) : k + 2 ≤ 164 := by unfold PD at h; omega
theorem pd_s0 (h : PD k) : SH k = (1, 0) := pd_cases h (fun q => SH q = (1, 0)) rfl rfl rfl rfl (by decide)
theorem pd_s1 (h : PD k) : SH (k + 1) = (10, 100) := pd_cases h (fun q => SH (q + 1) = (10, 100)) rfl rfl rfl rfl (by decide)
theorem pd_r0 (h : PD k) : RF D k 0 = k + 1 := by
  refine pd_cases h (fun q => RF D q 0 = q + 1) rfl rfl rfl rfl (fun i hi => ?_)
  match i, hi with | 0, _ => rfl | 1, _ => rfl | 2, _ => rfl | 3, _ => rfl | 4, _ => rfl | 5, _ => rfl
theorem pt_at (hi : i < 6) : PT (104 + 2 * i) := by unfold PT; omega
theorem pt_r (hi : i < 6) : RF D 91 i = 104 + 2 * i := by
  match i, hi with | 0, _ => rfl | 1, _ => rfl | 2, _ => rfl | 3, _ => rfl | 4, _ => rfl | 5, _ => rfl
theorem pdu_at (hi : i < 6) : PD (92 + 2 * i) := by unfold PD; omega
theorem pdu_r (hi : i < 6) : RF D 88 i = 92 + 2 * i := by
  match i, hi with | 0, _ => rfl | 1, _ => rfl | 2, _ => rfl | 3, _ => rfl | 4, _ => rfl | 5, _ => rfl
theorem pt_cases (h : PT k) (P : Nat → Prop) (h5 : ∀ j, j < 6 → P (104 + 2 * j)) : P k := by
  unfold PT at h
  have := h5 ((k - 104) / 2) (by omega)
  rwa [show 104 + 2 * ((k - 104) / 2) = k by omega] at this
theorem pt_n (h : PT k) : k + 2 ≤ 164 := by unfold PT at h; omega
theorem pt_s0 (h : PT k) : SH k = (7, 0) := pt_cases h (fun q => SH q = (7, 0)) (by decide)
theorem pt_s1 (h : PT k) : SH (k + 1) = (11, 60) := pt_cases h (fun q => SH (q + 1) = (11, 60)) (by decide)
theorem pt_r0 (h : PT k) : RF D k 0 = k + 1 := by
  refine pt_cases h (fun q => RF D q 0 = q + 1) (fun i hi => ?_)
  match i, hi with | 0, _ => rfl | 1, _ => rfl | 2, _ => rfl | 3, _ => rfl | 4, _ => rfl | 5, _ => rfl
theorem pr_n (h : PR L w) : w + 4 ≤ 164 := by unfold PR at h; omega
theorem pr_s0 (h : PR L w) : SH w = (6, 0) := by rcases h with ⟨rfl, rfl | rfl⟩ | ⟨rfl, rfl | rfl⟩ | ⟨rfl, rfl | rfl⟩ <;> rfl
theorem pr_s1 (h : PR L w) : SH (w + 1) = (10, L) := by rcases h with ⟨rfl, rfl | rfl⟩ | ⟨rfl, rfl | rfl⟩ | ⟨rfl, rfl | rfl⟩ <;> rfl
theorem pr_s2 (h : PR L w) : SH (w + 2) = (10, L) := by rcases h with ⟨rfl, rfl | rfl⟩ | ⟨rfl, rfl | rfl⟩ | ⟨rfl, rfl | rfl⟩ <;> rfl
theorem pr_s3 (h : PR L w) : SH (w + 3) = (10, L) := by rcases h with ⟨rfl, rfl | rfl⟩ | ⟨rfl, rfl | rfl⟩ | ⟨rfl, rfl | rfl⟩ <;> rfl
theorem pr_r0 (h : PR L w) : RF D w 0 = w + 1 := by rcases h with ⟨rfl, rfl | rfl⟩ | ⟨rfl, rfl | rfl⟩ | ⟨rfl, rfl | rfl⟩ <;> rfl
theorem pr_r1 (h : PR L w) : RF D w 1 = w + 2 := by rcases h with ⟨rfl, rfl | rfl⟩ | ⟨rfl, rfl | rfl⟩ | ⟨rfl, rfl | rfl⟩ <;> rfl
theorem pr_r2 (h : PR L w) : RF D w 2 = w + 3 := by rcases h with ⟨rfl, rfl | rfl⟩ | ⟨rfl, rfl | rfl⟩ | ⟨rfl, rfl | rfl⟩ <;> rfl
end AD
theorem sh_1 : SH 1 = (8, 0) := by decide +kernel
theorem sh_2 : SH 2 = (3, 0) := by decide +kernel
theorem sh_3 : SH 3 = (10, 6) := by decide +kernel
theorem sh_4 : SH 4 = (14, 6) := by decide +kernel
theorem sh_5 : SH 5 = (10, 6) := by decide +kernel
theorem sh_6 : SH 6 = (10, 6) := by decide +kernel
theorem sh_7 : SH 7 = (1, 0) := by decide +kernel
theorem sh_8 : SH 8 = (10, 100) := by decide +kernel
theorem sh_9 : SH 9 = (4, 0) := by decide +kernel
theorem sh_10 : SH 10 = (10, 4) := by decide +kernel
theorem sh_11 : SH 11 = (4, 0) := by decide +kernel
theorem sh_12 : SH 12 = (10, 4) := by decide +kernel
theorem sh_13 : SH 13 = (4, 0) := by decide +kernel
theorem sh_14 : SH 14 = (10, 4) := by decide +kernel
theorem sh_15 : SH 15 = (4, 0) := by decide +kernel
theorem sh_16 : SH 16 = (10, 4) := by decide +kernel
theorem sh_17 : SH 17 = (4, 0) := by decide +kernel
theorem sh_18 : SH 18 = (10, 4) := by decide +kernel
theorem sh_19 : SH 19 = (4, 0) := by decide +kernel
theorem sh_20 : SH 20 = (10, 4) := by decide +kernel
theorem sh_21 : SH 21 = (3, 0) := by decide +kernel
theorem sh_22 : SH 22 = (10, 6) := by decide +kernel
theorem sh_23 : SH 23 = (14, 6) := by decide +kernel
theorem sh_24 : SH 24 = (10, 6) := by decide +kernel
theorem sh_25 : SH 25 = (10, 6) := by decide +kernel
theorem sh_26 : SH 26 = (1, 0) := by decide +kernel
theorem sh_27 : SH 27 = (10, 100) := by decide +kernel
theorem sh_28 : SH 28 = (4, 0) := by decide +kernel
theorem sh_29 : SH 29 = (10, 4) := by decide +kernel
theorem sh_30 : SH 30 = (4, 0) := by decide +kernel
theorem sh_31 : SH 31 = (10, 4) := by decide +kernel
theorem sh_32 : SH 32 = (4, 0) := by decide +kernel
theorem sh_33 : SH 33 = (10, 4) := by decide +kernel
theorem sh_34 : SH 34 = (4, 0) := by decide +kernel
theorem sh_35 : SH 35 = (10, 4) := by decide +kernel
theorem sh_36 : SH 36 = (4, 0) := by decide +kernel
theorem sh_37 : SH 37 = (10, 4) := by decide +kernel
theorem sh_38 : SH 38 = (4, 0) := by decide +kernel
theorem sh_39 : SH 39 = (10, 4) := by decide +kernel
theorem sh_40 : SH 40 = (6, 0) := by decide +kernel
theorem sh_41 : SH 41 = (10, 5) := by decide +kernel
theorem sh_42 : SH 42 = (10, 5) := by decide +kernel
theorem sh_43 : SH 43 = (10, 5) := by decide +kernel
theorem sh_44 : SH 44 = (6, 0) := by decide +kernel
theorem sh_45 : SH 45 = (10, 10) := by decide +kernel
theorem sh_46 : SH 46 = (10, 10) := by decide +kernel
theorem sh_47 : SH 47 = (10, 10) := by decide +kernel
theorem sh_48 : SH 48 = (6, 0) := by decide +kernel
theorem sh_49 : SH 49 = (10, 8) := by decide +kernel
theorem sh_50 : SH 50 = (10, 8) := by decide +kernel
theorem sh_51 : SH 51 = (10, 8) := by decide +kernel
theorem sh_52 : SH 52 = (2, 0) := by decide +kernel
theorem sh_53 : SH 53 = (3, 0) := by decide +kernel
theorem sh_54 : SH 54 = (10, 6) := by decide +kernel
theorem sh_55 : SH 55 = (14, 6) := by decide +kernel
theorem sh_56 : SH 56 = (10, 6) := by decide +kernel
theorem sh_57 : SH 57 = (10, 6) := by decide +kernel
theorem sh_58 : SH 58 = (1, 0) := by decide +kernel
theorem sh_59 : SH 59 = (10, 100) := by decide +kernel
theorem sh_60 : SH 60 = (4, 0) := by decide +kernel
theorem sh_61 : SH 61 = (10, 4) := by decide +kernel
theorem sh_62 : SH 62 = (4, 0) := by decide +kernel
theorem sh_63 : SH 63 = (10, 4) := by decide +kernel
theorem sh_64 : SH 64 = (4, 0) := by decide +kernel
theorem sh_65 : SH 65 = (10, 4) := by decide +kernel
theorem sh_66 : SH 66 = (4, 0) := by decide +kernel
theorem sh_67 : SH 67 = (10, 4) := by decide +kernel
theorem sh_68 : SH 68 = (4, 0) := by decide +kernel
theorem sh_69 : SH 69 = (10, 4) := by decide +kernel
theorem sh_70 : SH 70 = (4, 0) := by decide +kernel
theorem sh_71 : SH 71 = (10, 4) := by decide +kernel
theorem sh_72 : SH 72 = (6, 0) := by decide +kernel
theorem sh_73 : SH 73 = (10, 5) := by decide +kernel
theorem sh_74 : SH 74 = (10, 5) := by decide +kernel
theorem sh_75 : SH 75 = (10, 5) := by decide +kernel
theorem sh_76 : SH 76 = (6, 0) := by decide +kernel
theorem sh_77 : SH 77 = (10, 10) := by decide +kernel
theorem sh_78 : SH 78 = (10, 10) := by decide +kernel
theorem sh_79 : SH 79 = (10, 10) := by decide +kernel
theorem sh_80 : SH 80 = (6, 0) := by decide +kernel
theorem sh_81 : SH 81 = (10, 8) := by decide +kernel
theorem sh_82 : SH 82 = (10, 8) := by decide +kernel
theorem sh_83 : SH 83 = (10, 8) := by decide +kernel
theorem sh_84 : SH 84 = (5, 0) := by decide +kernel
theorem sh_85 : SH 85 = (12, 100) := by decide +kernel
theorem sh_86 : SH 86 = (1, 0) := by decide +kernel
theorem sh_87 : SH 87 = (10, 100) := by decide +kernel
theorem sh_88 : SH 88 = (15, 6) := by decide +kernel
theorem sh_89 : SH 89 = (0, 0) := by decide +kernel
theorem sh_90 : SH 90 = (10, 20) := by decide +kernel
theorem sh_91 : SH 91 = (16, 6) := by decide +kernel
theorem sh_92 : SH 92 = (1, 0) := by decide +kernel
theorem sh_93 : SH 93 = (10, 100) := by decide +kernel
theorem sh_94 : SH 94 = (1, 0) := by decide +kernel
theorem sh_95 : SH 95 = (10, 100) := by decide +kernel
theorem sh_96 : SH 96 = (1, 0) := by decide +kernel
theorem sh_97 : SH 97 = (10, 100) := by decide +kernel
theorem sh_98 : SH 98 = (1, 0) := by decide +kernel
theorem sh_99 : SH 99 = (10, 100) := by decide +kernel
theorem sh_100 : SH 100 = (1, 0) := by decide +kernel
theorem sh_101 : SH 101 = (10, 100) := by decide +kernel
theorem sh_102 : SH 102 = (1, 0) := by decide +kernel
theorem sh_103 : SH 103 = (10, 100) := by decide +kernel
theorem sh_104 : SH 104 = (7, 0) := by decide +kernel
theorem sh_105 : SH 105 = (11, 60) := by decide +kernel
theorem sh_106 : SH 106 = (7, 0) := by decide +kernel
theorem sh_107 : SH 107 = (11, 60) := by decide +kernel
theorem sh_108 : SH 108 = (7, 0) := by decide +kernel
theorem sh_109 : SH 109 = (11, 60) := by decide +kernel
theorem sh_110 : SH 110 = (7, 0) := by decide +kernel
theorem sh_111 : SH 111 = (11, 60) := by decide +kernel
theorem sh_112 : SH 112 = (7, 0) := by decide +kernel
theorem sh_113 : SH 113 = (11, 60) := by decide +kernel
theorem sh_114 : SH 114 = (7, 0) := by decide +kernel
theorem sh_115 : SH 115 = (11, 60) := by decide +kernel
theorem sh_116 : SH 116 = (9, 0) := by decide +kernel
theorem sh_117 : SH 117 = (10, 6) := by decide +kernel
theorem sh_118 : SH 118 = (10, 6) := by decide +kernel
theorem sh_119 : SH 119 = (10, 6) := by decide +kernel
theorem sh_120 : SH 120 = (10, 6) := by decide +kernel
theorem sh_121 : SH 121 = (10, 6) := by decide +kernel
theorem sh_122 : SH 122 = (10, 24) := by decide +kernel
theorem sh_123 : SH 123 = (10, 6) := by decide +kernel
theorem sh_124 : SH 124 = (10, 100) := by decide +kernel
theorem sh_125 : SH 125 = (10, 6) := by decide +kernel
theorem sh_126 : SH 126 = (10, 60) := by decide +kernel
theorem sh_127 : SH 127 = (10, 60) := by decide +kernel
theorem sh_128 : SH 128 = (10, 60) := by decide +kernel
theorem sh_129 : SH 129 = (10, 60) := by decide +kernel
theorem sh_130 : SH 130 = (10, 600) := by decide +kernel
theorem sh_131 : SH 131 = (10, 101) := by decide +kernel
theorem sh_132 : SH 132 = (10, 16) := by decide +kernel
theorem sh_133 : SH 133 = (13, 100) := by decide +kernel
theorem sh_134 : SH 134 = (10, 6) := by decide +kernel
theorem sh_135 : SH 135 = (10, 6) := by decide +kernel
theorem sh_136 : SH 136 = (10, 6) := by decide +kernel
theorem sh_137 : SH 137 = (10, 6) := by decide +kernel
theorem sh_138 : SH 138 = (10, 5) := by decide +kernel
theorem sh_139 : SH 139 = (10, 5) := by decide +kernel
theorem sh_140 : SH 140 = (13, 5) := by decide +kernel
theorem sh_141 : SH 141 = (10, 10) := by decide +kernel
theorem sh_142 : SH 142 = (10, 10) := by decide +kernel
theorem sh_143 : SH 143 = (10, 8) := by decide +kernel
theorem sh_144 : SH 144 = (10, 8) := by decide +kernel
theorem sh_145 : SH 145 = (10, 6) := by decide +kernel
theorem sh_146 : SH 146 = (10, 6) := by decide +kernel
theorem sh_147 : SH 147 = (10, 6) := by decide +kernel
theorem sh_148 : SH 148 = (10, 6) := by decide +kernel
theorem sh_149 : SH 149 = (10, 6) := by decide +kernel
theorem sh_150 : SH 150 = (10, 6) := by decide +kernel
theorem sh_151 : SH 151 = (10, 24) := by decide +kernel
theorem sh_152 : SH 152 = (10, 5) := by decide +kernel
theorem sh_153 : SH 153 = (10, 5) := by decide +kernel
theorem sh_154 : SH 154 = (10, 10) := by decide +kernel
theorem sh_155 : SH 155 = (10, 10) := by decide +kernel
theorem sh_156 : SH 156 = (10, 8) := by decide +kernel
theorem sh_157 : SH 157 = (10, 8) := by decide +kernel
theorem sh_158 : SH 158 = (13, 5) := by decide +kernel
theorem sh_159 : SH 159 = (10, 20) := by decide +kernel
theorem sh_160 : SH 160 = (10, 6) := by decide +kernel
theorem sh_161 : SH 161 = (10, 6) := by decide +kernel
theorem sh_162 : SH 162 = (11, 360) := by decide +kernel
theorem sh_163 : SH 163 = (11, 60) := by decide +kernel
theorem rf_1_0 {D : Nat → Nat} : RF D 1 0 = 2 := rfl
theorem rf_1_1 {D : Nat → Nat} : RF D 1 1 = 21 := rfl
theorem rf_1_2 {D : Nat → Nat} : RF D 1 2 = 40 := rfl
theorem rf_1_3 {D : Nat → Nat} : RF D 1 3 = 44 := rfl
theorem rf_1_4 {D : Nat → Nat} : RF D 1 4 = 48 := rfl
theorem rf_1_5 {D : Nat → Nat} : RF D 1 5 = 52 := rfl
theorem rf_52_0 {D : Nat → Nat} : RF D 52 0 = 53 := rfl
theorem rf_52_1 {D : Nat → Nat} : RF D 52 1 = 72 := rfl
theorem rf_52_2 {D : Nat → Nat} : RF D 52 2 = 76 := rfl
theorem rf_52_3 {D : Nat → Nat} : RF D 52 3 = 80 := rfl
theorem rf_1_6 {D : Nat → Nat} : RF D 1 6 = 84 := rfl
theorem rf_84_0 {D : Nat → Nat} : RF D 84 0 = 85 := rfl
theorem rf_1_7 {D : Nat → Nat} : RF D 1 7 = 88 := rfl
theorem rf_1_8 {D : Nat → Nat} : RF D 1 8 = 89 := rfl
theorem rf_89_0 {D : Nat → Nat} : RF D 89 0 = 90 := rfl
theorem rf_1_9 {D : Nat → Nat} : RF D 1 9 = 91 := rfl
theorem rf_116_9 {D : Nat → Nat} : RF D 116 9 = 117 := rfl
theorem rf_116_10 {D : Nat → Nat} : RF D 116 10 = 118 := rfl
theorem rf_116_11 {D : Nat → Nat} : RF D 116 11 = 119 := rfl
theorem rf_116_12 {D : Nat → Nat} : RF D 116 12 = 120 := rfl
theorem rf_116_13 {D : Nat → Nat} : RF D 116 13 = 121 := rfl
theorem rf_116_14 {D : Nat → Nat} : RF D 116 14 = 122 := rfl
theorem rf_116_15 {D : Nat → Nat} : RF D 116 15 = 123 := rfl
theorem rf_116_21 {D : Nat → Nat} : RF D 116 21 = 124 := rfl
theorem rf_116_22 {D : Nat → Nat} : RF D 116 22 = 125 := rfl
theorem rf_116_23 {D : Nat → Nat} : RF D 116 23 = 126 := rfl
theorem rf_116_24 {D : Nat → Nat} : RF D 116 24 = 127 := rfl
theorem rf_116_25 {D : Nat → Nat} : RF D 116 25 = 128 := rfl
theorem rf_116_26 {D : Nat → Nat} : RF D 116 26 = 129 := rfl
theorem rf_116_27 {D : Nat → Nat} : RF D 116 27 = 130 := rfl
theorem rf_116_28 {D : Nat → Nat} : RF D 116 28 = 131 := rfl
theorem rf_116_32 {D : Nat → Nat} : RF D 116 32 = 132 := rfl
theorem rf_116_36 {D : Nat → Nat} : RF D 116 36 = 133 := rfl
theorem rf_116_37 {D : Nat → Nat} : RF D 116 37 = 134 := rfl
theorem rf_116_46 {D : Nat → Nat} : RF D 116 46 = 135 := rfl
theorem rf_116_47 {D : Nat → Nat} : RF D 116 47 = 136 := rfl
theorem rf_116_48 {D : Nat → Nat} : RF D 116 48 = 137 := rfl
theorem rf_116_50 {D : Nat → Nat} : RF D 116 50 = 138 := rfl
theorem rf_116_51 {D : Nat → Nat} : RF D 116 51 = 139 := rfl
theorem rf_116_52 {D : Nat → Nat} : RF D 116 52 = 140 := rfl
theorem rf_116_55 {D : Nat → Nat} : RF D 116 55 = 141 := rfl
theorem rf_116_56 {D : Nat → Nat} : RF D 116 56 = 142 := rfl
theorem rf_116_57 {D : Nat → Nat} : RF D 116 57 = 143 := rfl
theorem rf_116_58 {D : Nat → Nat} : RF D 116 58 = 144 := rfl
theorem rf_116_73 {D : Nat → Nat} : RF D 116 73 = 145 := rfl
theorem rf_116_74 {D : Nat → Nat} : RF D 116 74 = 146 := rfl
theorem rf_116_75 {D : Nat → Nat} : RF D 116 75 = 147 := rfl
theorem rf_116_76 {D : Nat → Nat} : RF D 116 76 = 148 := rfl
theorem rf_116_77 {D : Nat → Nat} : RF D 116 77 = 149 := rfl
theorem rf_116_78 {D : Nat → Nat} : RF D 116 78 = 150 := rfl
theorem rf_116_79 {D : Nat → Nat} : RF D 116 79 = 151 := rfl
theorem rf_116_80 {D : Nat → Nat} : RF D 116 80 = 152 := rfl
theorem rf_116_81 {D : Nat → Nat} : RF D 116 81 = 153 := rfl
theorem rf_116_82 {D : Nat → Nat} : RF D 116 82 = 154 := rfl
theorem rf_116_83 {D : Nat → Nat} : RF D 116 83 = 155 := rfl
theorem rf_116_84 {D : Nat → Nat} : RF D 116 84 = 156 := rfl
theorem rf_116_85 {D : Nat → Nat} : RF D 116 85 = 157 := rfl
theorem rf_116_86 {D : Nat → Nat} : RF D 116 86 = 158 := rfl
theorem rf_116_88 {D : Nat → Nat} : RF D 116 88 = 159 := rfl
theorem rf_116_89 {D : Nat → Nat} : RF D 116 89 = 160 := rfl
theorem rf_116_90 {D : Nat → Nat} : RF D 116 90 = 161 := rfl
theorem rf_116_91 {D : Nat → Nat} : RF D 116 91 = 162 := rfl
theorem rf_116_92 {D : Nat → Nat} : RF D 116 92 = 163 := rfl
