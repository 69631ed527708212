/-! the reference: image and undo -/
theorem wM_ext6 {m M : Nat → Nat → Int32} {cl : CL} (hf : ∀ f, f < 9 ∨ (33 ≤ f ∧ f < 36) → M 116 f = m 116 f) (ha : ∀ a, 117 ≤ a → a ≤ 123 → a ≠ 122 → ∀ j, j < 6 → M a j = m a j) (hr : ∀ j, j < 24 → M 122 j = m 122 j) (h0 : nn (m 116 0) ≤ 6) (h1 : nn (m 116 1) ≤ 6) (h8 : nn (m 116 8) ≤ 6) : wM M cl = wM m cl := by
  refine Prod.ext (funext fun j => ?_) (Prod.ext (funext fun j => ?_) (Prod.ext (funext fun j => ?_) (funext fun i => ?_)))
  · show sM M cl j = sM m cl j
    unfold sM
    rw [hf 0 (by omega), hf 1 (by omega), hf 2 (by omega), hf 3 (by omega), hf 6 (by omega), hf 7 (by omega), hf 8 (by omega), hf 33 (by omega), hf 34 (by omega), hf 35 (by omega)]
  · show (if j < nn (M 116 0) then M 117 j else 0) = if j < nn (m 116 0) then m 117 j else 0
    rw [hf 0 (by omega)]
    by_cases h : j < nn (m 116 0)
    · rw [if_pos h, if_pos h]; exact ha 117 (by omega) (by omega) (by omega) j (by omega)
    · rw [if_neg h, if_neg h]
  · show (if j < nn (M 116 8) then M 123 j else 0) = if j < nn (m 116 8) then m 123 j else 0
    rw [hf 8 (by omega)]
    by_cases h : j < nn (m 116 8)
    · rw [if_pos h, if_pos h]; exact ha 123 (by omega) (by omega) (by omega) j (by omega)
    · rw [if_neg h, if_neg h]
  · show (if i < nn (M 116 1) then pM M i else fun _ => 0) = if i < nn (m 116 1) then pM m i else fun _ => 0
    rw [hf 1 (by omega)]
    by_cases h : i < nn (m 116 1)
    · rw [if_pos h, if_pos h]
      funext f
      unfold pM
      rw [ha 118 (by omega) (by omega) (by omega) i (by omega), ha 119 (by omega) (by omega) (by omega) i (by omega), ha 120 (by omega) (by omega) (by omega) i (by omega), ha 121 (by omega) (by omega) (by omega) i (by omega), hf 4 (by omega), hf 5 (by omega)]
      by_cases f10 : f < 10
      · by_cases f6 : f < 6
        · have : f = 0 ∨ f = 1 ∨ f = 2 ∨ f = 3 ∨ f = 4 ∨ f = 5 := by omega
          rcases this with rfl | rfl | rfl | rfl | rfl | rfl <;> rfl
        · rw [hr (4 * i + (f - 6)) (by omega)]
      · simp only [if_neg f10]
    · rw [if_neg h, if_neg h]
theorem bi_and1 (b : Bool) : bi b &&& 1 = bi b := by cases b <;> decide

set_option maxHeartbeats 4000000 in
theorem L_image_111 {G : rn_G} {d : Nat} {κ : Nat × Nat} {Q : Option Value → rn_S → Prop} {ml : Nat → Nat → Int64} {D : Nat → Nat} {m0 : Nat → Nat → Int32} (h : ∀ m (v : Int32), (∀ a, a ≠ 145 → a ≠ 146 → a ≠ 147 → a ≠ 148 → a ≠ 149 → a ≠ 150 → m a = m0 a) → (∀ j, j < 6 → m 145 j = m0 117 j ∧ m 146 j = m0 118 j ∧ m 147 j = m0 119 j ∧ m 148 j = m0 120 j ∧ m 149 j = m0 121 j ∧ m 150 j = m0 123 j) → Run G d M_X9_image 195 [.ref 116, .int v] [] (m, ml, RF D, 164) κ Q) : ∀ (n k : Nat) (x : Int32) (m : Nat → Nat → Int32), n + k = 6 → x = nI k → (∀ a, a ≠ 145 → a ≠ 146 → a ≠ 147 → a ≠ 148 → a ≠ 149 → a ≠ 150 → m a = m0 a) → (∀ j, j < k → m 145 j = m0 117 j ∧ m 146 j = m0 118 j ∧ m 147 j = m0 119 j ∧ m 148 j = m0 120 j ∧ m 149 j = m0 121 j ∧ m 150 j = m0 123 j) → Run G d M_X9_image 111 [.ref 116, .int x] [] (m, ml, RF D, 164) κ Q := by
  intro n
  induction n with
  | zero =>
    intro k x m hk hx hf hc
    obtain rfl : k = 6 := by omega
    refine il_1 dX9_image_111 ?_
    refine R_bipush (v := 6) dX9_image_112 (by decide) ?_
    refine R_icmp_ge (tgt := 195) dX9_image_114 (by decide) (fun c114 => ?_) (fun q => absurd q (not_not_intro (by rw [hx]; decide)))
    exact h m _ hf hc
  | succ n ih =>
    intro k x m hk hx hf hc
    have hk2 : k < 6 := by omega
    have s117 : m 117 = m0 117 := hf 117 (by decide) (by decide) (by decide) (by decide) (by decide) (by decide)
    have s118 : m 118 = m0 118 := hf 118 (by decide) (by decide) (by decide) (by decide) (by decide) (by decide)
    have s119 : m 119 = m0 119 := hf 119 (by decide) (by decide) (by decide) (by decide) (by decide) (by decide)
    have s120 : m 120 = m0 120 := hf 120 (by decide) (by decide) (by decide) (by decide) (by decide) (by decide)
    have s121 : m 121 = m0 121 := hf 121 (by decide) (by decide) (by decide) (by decide) (by decide) (by decide)
    have s123 : m 123 = m0 123 := hf 123 (by decide) (by decide) (by decide) (by decide) (by decide) (by decide)
    refine il_1 dX9_image_111 ?_
    refine R_bipush (v := 6) dX9_image_112 (by decide) ?_
    refine R_icmp_ge (tgt := 195) dX9_image_114 (by decide) (fun q => absurd q (by rw [hx]; exact nI_ge (b := 6) (by omega) (by decide))) (fun c114 => ?_)
    refine al_0 dX9_image_117 ?_
    refine R_getfr (r := 145) dX9_image_118 fl_RX9_232 rfl sh_116 (Nat.le_of_ble_eq_true rfl) rf_116_73 ?_
    refine il_1 dX9_image_121 ?_
    refine al_0 dX9_image_122 ?_
    refine R_getfr (r := 117) dX9_image_123 fl_RX9_37 rfl sh_116 (Nat.le_of_ble_eq_true rfl) rf_116_9 ?_
    refine il_1 dX9_image_126 ?_
    refine R_iald dX9_image_127 sh_117 (Nat.le_of_ble_eq_true rfl) (rn_ixe hx) hk2 ?_
    refine R_iast dX9_image_128 sh_145 (Nat.le_of_ble_eq_true rfl) (rn_ixe hx) hk2 ?_
    refine al_0 dX9_image_129 ?_
    refine R_getfr (r := 146) dX9_image_130 fl_RX9_235 rfl sh_116 (Nat.le_of_ble_eq_true rfl) rf_116_74 ?_
    refine il_1 dX9_image_133 ?_
    refine al_0 dX9_image_134 ?_
    refine R_getfr (r := 118) dX9_image_135 fl_RX9_41 rfl sh_116 (Nat.le_of_ble_eq_true rfl) rf_116_10 ?_
    refine il_1 dX9_image_138 ?_
    refine R_iald dX9_image_139 sh_118 (Nat.le_of_ble_eq_true rfl) (rn_ixe hx) hk2 ?_
    refine R_iast dX9_image_140 sh_146 (Nat.le_of_ble_eq_true rfl) (rn_ixe hx) hk2 ?_
    refine al_0 dX9_image_141 ?_
    refine R_getfr (r := 147) dX9_image_142 fl_RX9_238 rfl sh_116 (Nat.le_of_ble_eq_true rfl) rf_116_75 ?_
    refine il_1 dX9_image_145 ?_
    refine al_0 dX9_image_146 ?_
    refine R_getfr (r := 119) dX9_image_147 fl_RX9_44 rfl sh_116 (Nat.le_of_ble_eq_true rfl) rf_116_11 ?_
    refine il_1 dX9_image_150 ?_
    refine R_iald dX9_image_151 sh_119 (Nat.le_of_ble_eq_true rfl) (rn_ixe hx) hk2 ?_
    refine R_iast dX9_image_152 sh_147 (Nat.le_of_ble_eq_true rfl) (rn_ixe hx) hk2 ?_
    refine al_0 dX9_image_153 ?_
    refine R_getfr (r := 148) dX9_image_154 fl_RX9_241 rfl sh_116 (Nat.le_of_ble_eq_true rfl) rf_116_76 ?_
    refine il_1 dX9_image_157 ?_
    refine al_0 dX9_image_158 ?_
    refine R_getfr (r := 120) dX9_image_159 fl_RX9_47 rfl sh_116 (Nat.le_of_ble_eq_true rfl) rf_116_12 ?_
    refine il_1 dX9_image_162 ?_
    refine R_iald dX9_image_163 sh_120 (Nat.le_of_ble_eq_true rfl) (rn_ixe hx) hk2 ?_
    refine R_iast dX9_image_164 sh_148 (Nat.le_of_ble_eq_true rfl) (rn_ixe hx) hk2 ?_
    refine al_0 dX9_image_165 ?_
    refine R_getfr (r := 149) dX9_image_166 fl_RX9_244 rfl sh_116 (Nat.le_of_ble_eq_true rfl) rf_116_77 ?_
    refine il_1 dX9_image_169 ?_
    refine al_0 dX9_image_170 ?_
    refine R_getfr (r := 121) dX9_image_171 fl_RX9_50 rfl sh_116 (Nat.le_of_ble_eq_true rfl) rf_116_13 ?_
    refine il_1 dX9_image_174 ?_
    refine R_iald dX9_image_175 sh_121 (Nat.le_of_ble_eq_true rfl) (rn_ixe hx) hk2 ?_
    refine R_iast dX9_image_176 sh_149 (Nat.le_of_ble_eq_true rfl) (rn_ixe hx) hk2 ?_
    refine al_0 dX9_image_177 ?_
    refine R_getfr (r := 150) dX9_image_178 fl_RX9_247 rfl sh_116 (Nat.le_of_ble_eq_true rfl) rf_116_78 ?_
    refine il_1 dX9_image_181 ?_
    refine al_0 dX9_image_182 ?_
    refine R_getfr (r := 123) dX9_image_183 fl_RX9_56 rfl sh_116 (Nat.le_of_ble_eq_true rfl) rf_116_15 ?_
    refine il_1 dX9_image_186 ?_
    refine R_iald dX9_image_187 sh_123 (Nat.le_of_ble_eq_true rfl) (rn_ixe hx) hk2 ?_
    refine R_iast dX9_image_188 sh_150 (Nat.le_of_ble_eq_true rfl) (rn_ixe hx) hk2 ?_
    refine ii_1 (v := _ + 1) dX9_image_189 rfl (by rfl) ?_
    refine R_goto (tgt := 111) dX9_image_192 (by decide) ?_
    refine ih (k + 1) _ _ (by omega) (by rw [hx]; exact sm_add k 1) ?_ ?_
    · intro a a145 a146 a147 a148 a149 a150
      rw [rn_u_ne a150, rn_u_ne a149, rn_u_ne a148, rn_u_ne a147, rn_u_ne a146, rn_u_ne a145]
      exact hf a a145 a146 a147 a148 a149 a150
    · intro j hj
      by_cases e : j = k
      · subst e
        refine ⟨?_, ?_, ?_, ?_, ?_, ?_⟩
        · rw [← s117]; simp [rn_u]
        · rw [← s118]; simp [rn_u]
        · rw [← s119]; simp [rn_u]
        · rw [← s120]; simp [rn_u]
        · rw [← s121]; simp [rn_u]
        · rw [← s123]; simp [rn_u]
      · have q := hc j (by omega)
        refine ⟨?_, ?_, ?_, ?_, ?_, ?_⟩
        · rw [← q.1]; simp [rn_u, e]
        · rw [← q.2.1]; simp [rn_u, e]
        · rw [← q.2.2.1]; simp [rn_u, e]
        · rw [← q.2.2.2.1]; simp [rn_u, e]
        · rw [← q.2.2.2.2.1]; simp [rn_u, e]
        · rw [← q.2.2.2.2.2]; simp [rn_u, e]

set_option maxHeartbeats 4000000 in
theorem L_image_197 {G : rn_G} {d : Nat} {κ : Nat × Nat} {Q : Option Value → rn_S → Prop} {ml : Nat → Nat → Int64} {D : Nat → Nat} {m0 : Nat → Nat → Int32} (h : ∀ m (v : Int32), (∀ a, a ≠ 151 → m a = m0 a) → (∀ j, j < 24 → m 151 j = m0 122 j) → Run G d M_X9_image 221 [.ref 116, .int v] [] (m, ml, RF D, 164) κ Q) : ∀ (n k : Nat) (x : Int32) (m : Nat → Nat → Int32), n + k = 24 → x = nI k → (∀ a, a ≠ 151 → m a = m0 a) → (∀ j, j < k → m 151 j = m0 122 j) → Run G d M_X9_image 197 [.ref 116, .int x] [] (m, ml, RF D, 164) κ Q := by
  intro n
  induction n with
  | zero =>
    intro k x m hk hx hf hc
    obtain rfl : k = 24 := by omega
    refine il_1 dX9_image_197 ?_
    refine R_bipush (v := 24) dX9_image_198 (by decide) ?_
    refine R_icmp_ge (tgt := 221) dX9_image_200 (by decide) (fun c200 => ?_) (fun q => absurd q (not_not_intro (by rw [hx]; decide)))
    exact h m _ hf hc
  | succ n ih =>
    intro k x m hk hx hf hc
    have hk2 : k < 24 := by omega
    have s122 : m 122 = m0 122 := hf 122 (by decide)
    refine il_1 dX9_image_197 ?_
    refine R_bipush (v := 24) dX9_image_198 (by decide) ?_
    refine R_icmp_ge (tgt := 221) dX9_image_200 (by decide) (fun q => absurd q (by rw [hx]; exact nI_ge (b := 24) (by omega) (by decide))) (fun c200 => ?_)
    refine al_0 dX9_image_203 ?_
    refine R_getfr (r := 151) dX9_image_204 fl_RX9_250 rfl sh_116 (Nat.le_of_ble_eq_true rfl) rf_116_79 ?_
    refine il_1 dX9_image_207 ?_
    refine al_0 dX9_image_208 ?_
    refine R_getfr (r := 122) dX9_image_209 fl_RX9_53 rfl sh_116 (Nat.le_of_ble_eq_true rfl) rf_116_14 ?_
    refine il_1 dX9_image_212 ?_
    refine R_iald dX9_image_213 sh_122 (Nat.le_of_ble_eq_true rfl) (rn_ixe hx) hk2 ?_
    refine R_iast dX9_image_214 sh_151 (Nat.le_of_ble_eq_true rfl) (rn_ixe hx) hk2 ?_
    refine ii_1 (v := _ + 1) dX9_image_215 rfl (by rfl) ?_
    refine R_goto (tgt := 197) dX9_image_218 (by decide) ?_
    refine ih (k + 1) _ _ (by omega) (by rw [hx]; exact sm_add k 1) ?_ ?_
    · intro a a151
      rw [rn_u_ne a151]
      exact hf a a151
    · intro j hj
      by_cases e : j = k
      · subst e
        skip
        rw [← s122]; simp [rn_u]
      · have q := hc j (by omega)
        skip
        rw [← q]; simp [rn_u, e]

set_option maxHeartbeats 4000000 in
theorem L_image_223 {G : rn_G} {d : Nat} {κ : Nat × Nat} {Q : Option Value → rn_S → Prop} {ml : Nat → Nat → Int64} {D : Nat → Nat} {m0 : Nat → Nat → Int32} (h : ∀ m (v : Int32), (∀ a, a ≠ 152 → a ≠ 153 → a ≠ 158 → m a = m0 a) → (∀ j, j < 5 → m 152 j = m0 138 j ∧ m 153 j = m0 139 j ∧ m 158 j = m0 140 j &&& 1) → Run G d M_X9_image 270 [.ref 116, .int v] [] (m, ml, RF D, 164) κ Q) : ∀ (n k : Nat) (x : Int32) (m : Nat → Nat → Int32), n + k = 5 → x = nI k → (∀ a, a ≠ 152 → a ≠ 153 → a ≠ 158 → m a = m0 a) → (∀ j, j < k → m 152 j = m0 138 j ∧ m 153 j = m0 139 j ∧ m 158 j = m0 140 j &&& 1) → Run G d M_X9_image 223 [.ref 116, .int x] [] (m, ml, RF D, 164) κ Q := by
  intro n
  induction n with
  | zero =>
    intro k x m hk hx hf hc
    obtain rfl : k = 5 := by omega
    refine il_1 dX9_image_223 ?_
    refine R_iconst (v := 5) dX9_image_224 (by decide) ?_
    refine R_icmp_ge (tgt := 270) dX9_image_225 (by decide) (fun c225 => ?_) (fun q => absurd q (not_not_intro (by rw [hx]; decide)))
    exact h m _ hf hc
  | succ n ih =>
    intro k x m hk hx hf hc
    have hk2 : k < 5 := by omega
    have s138 : m 138 = m0 138 := hf 138 (by decide) (by decide) (by decide)
    have s139 : m 139 = m0 139 := hf 139 (by decide) (by decide) (by decide)
    have s140 : m 140 = m0 140 := hf 140 (by decide) (by decide) (by decide)
    refine il_1 dX9_image_223 ?_
    refine R_iconst (v := 5) dX9_image_224 (by decide) ?_
    refine R_icmp_ge (tgt := 270) dX9_image_225 (by decide) (fun q => absurd q (by rw [hx]; exact nI_ge (b := 5) (by omega) (by decide))) (fun c225 => ?_)
    refine al_0 dX9_image_228 ?_
    refine R_getfr (r := 152) dX9_image_229 fl_RX9_253 rfl sh_116 (Nat.le_of_ble_eq_true rfl) rf_116_80 ?_
    refine il_1 dX9_image_232 ?_
    refine al_0 dX9_image_233 ?_
    refine R_getfr (r := 138) dX9_image_234 fl_RX9_162 rfl sh_116 (Nat.le_of_ble_eq_true rfl) rf_116_50 ?_
    refine il_1 dX9_image_237 ?_
    refine R_iald dX9_image_238 sh_138 (Nat.le_of_ble_eq_true rfl) (rn_ixe hx) hk2 ?_
    refine R_iast dX9_image_239 sh_152 (Nat.le_of_ble_eq_true rfl) (rn_ixe hx) hk2 ?_
    refine al_0 dX9_image_240 ?_
    refine R_getfr (r := 153) dX9_image_241 fl_RX9_256 rfl sh_116 (Nat.le_of_ble_eq_true rfl) rf_116_81 ?_
    refine il_1 dX9_image_244 ?_
    refine al_0 dX9_image_245 ?_
    refine R_getfr (r := 139) dX9_image_246 fl_RX9_165 rfl sh_116 (Nat.le_of_ble_eq_true rfl) rf_116_51 ?_
    refine il_1 dX9_image_249 ?_
    refine R_iald dX9_image_250 sh_139 (Nat.le_of_ble_eq_true rfl) (rn_ixe hx) hk2 ?_
    refine R_iast dX9_image_251 sh_153 (Nat.le_of_ble_eq_true rfl) (rn_ixe hx) hk2 ?_
    refine al_0 dX9_image_252 ?_
    refine R_getfr (r := 158) dX9_image_253 fl_RX9_271 rfl sh_116 (Nat.le_of_ble_eq_true rfl) rf_116_86 ?_
    refine il_1 dX9_image_256 ?_
    refine al_0 dX9_image_257 ?_
    refine R_getfr (r := 140) dX9_image_258 fl_RX9_168 rfl sh_116 (Nat.le_of_ble_eq_true rfl) rf_116_52 ?_
    refine il_1 dX9_image_261 ?_
    refine R_zald dX9_image_262 sh_140 (Nat.le_of_ble_eq_true rfl) (rn_ixe hx) hk2 ?_
    refine R_zast dX9_image_263 sh_158 (Nat.le_of_ble_eq_true rfl) (rn_ixe hx) hk2 rfl ?_
    refine ii_1 (v := _ + 1) dX9_image_264 rfl (by rfl) ?_
    refine R_goto (tgt := 223) dX9_image_267 (by decide) ?_
    refine ih (k + 1) _ _ (by omega) (by rw [hx]; exact sm_add k 1) ?_ ?_
    · intro a a152 a153 a158
      rw [rn_u_ne a158, rn_u_ne a153, rn_u_ne a152]
      exact hf a a152 a153 a158
    · intro j hj
      by_cases e : j = k
      · subst e
        refine ⟨?_, ?_, ?_⟩
        · rw [← s138]; simp [rn_u]
        · rw [← s139]; simp [rn_u]
        · rw [← s140]; simp [rn_u]
      · have q := hc j (by omega)
        refine ⟨?_, ?_, ?_⟩
        · rw [← q.1]; simp [rn_u, e]
        · rw [← q.2.1]; simp [rn_u, e]
        · rw [← q.2.2]; simp [rn_u, e]

set_option maxHeartbeats 4000000 in
theorem L_image_272 {G : rn_G} {d : Nat} {κ : Nat × Nat} {Q : Option Value → rn_S → Prop} {ml : Nat → Nat → Int64} {D : Nat → Nat} {m0 : Nat → Nat → Int32} (h : ∀ m (v : Int32), (∀ a, a ≠ 154 → a ≠ 155 → m a = m0 a) → (∀ j, j < 10 → m 154 j = m0 141 j ∧ m 155 j = m0 142 j) → Run G d M_X9_image 308 [.ref 116, .int v] [] (m, ml, RF D, 164) κ Q) : ∀ (n k : Nat) (x : Int32) (m : Nat → Nat → Int32), n + k = 10 → x = nI k → (∀ a, a ≠ 154 → a ≠ 155 → m a = m0 a) → (∀ j, j < k → m 154 j = m0 141 j ∧ m 155 j = m0 142 j) → Run G d M_X9_image 272 [.ref 116, .int x] [] (m, ml, RF D, 164) κ Q := by
  intro n
  induction n with
  | zero =>
    intro k x m hk hx hf hc
    obtain rfl : k = 10 := by omega
    refine il_1 dX9_image_272 ?_
    refine R_bipush (v := 10) dX9_image_273 (by decide) ?_
    refine R_icmp_ge (tgt := 308) dX9_image_275 (by decide) (fun c275 => ?_) (fun q => absurd q (not_not_intro (by rw [hx]; decide)))
    exact h m _ hf hc
  | succ n ih =>
    intro k x m hk hx hf hc
    have hk2 : k < 10 := by omega
    have s141 : m 141 = m0 141 := hf 141 (by decide) (by decide)
    have s142 : m 142 = m0 142 := hf 142 (by decide) (by decide)
    refine il_1 dX9_image_272 ?_
    refine R_bipush (v := 10) dX9_image_273 (by decide) ?_
    refine R_icmp_ge (tgt := 308) dX9_image_275 (by decide) (fun q => absurd q (by rw [hx]; exact nI_ge (b := 10) (by omega) (by decide))) (fun c275 => ?_)
    refine al_0 dX9_image_278 ?_
    refine R_getfr (r := 154) dX9_image_279 fl_RX9_259 rfl sh_116 (Nat.le_of_ble_eq_true rfl) rf_116_82 ?_
    refine il_1 dX9_image_282 ?_
    refine al_0 dX9_image_283 ?_
    refine R_getfr (r := 141) dX9_image_284 fl_RX9_177 rfl sh_116 (Nat.le_of_ble_eq_true rfl) rf_116_55 ?_
    refine il_1 dX9_image_287 ?_
    refine R_iald dX9_image_288 sh_141 (Nat.le_of_ble_eq_true rfl) (rn_ixe hx) hk2 ?_
    refine R_iast dX9_image_289 sh_154 (Nat.le_of_ble_eq_true rfl) (rn_ixe hx) hk2 ?_
    refine al_0 dX9_image_290 ?_
    refine R_getfr (r := 155) dX9_image_291 fl_RX9_262 rfl sh_116 (Nat.le_of_ble_eq_true rfl) rf_116_83 ?_
    refine il_1 dX9_image_294 ?_
    refine al_0 dX9_image_295 ?_
    refine R_getfr (r := 142) dX9_image_296 fl_RX9_180 rfl sh_116 (Nat.le_of_ble_eq_true rfl) rf_116_56 ?_
    refine il_1 dX9_image_299 ?_
    refine R_iald dX9_image_300 sh_142 (Nat.le_of_ble_eq_true rfl) (rn_ixe hx) hk2 ?_
    refine R_iast dX9_image_301 sh_155 (Nat.le_of_ble_eq_true rfl) (rn_ixe hx) hk2 ?_
    refine ii_1 (v := _ + 1) dX9_image_302 rfl (by rfl) ?_
    refine R_goto (tgt := 272) dX9_image_305 (by decide) ?_
    refine ih (k + 1) _ _ (by omega) (by rw [hx]; exact sm_add k 1) ?_ ?_
    · intro a a154 a155
      rw [rn_u_ne a155, rn_u_ne a154]
      exact hf a a154 a155
    · intro j hj
      by_cases e : j = k
      · subst e
        refine ⟨?_, ?_⟩
        · rw [← s141]; simp [rn_u]
        · rw [← s142]; simp [rn_u]
      · have q := hc j (by omega)
        refine ⟨?_, ?_⟩
        · rw [← q.1]; simp [rn_u, e]
        · rw [← q.2]; simp [rn_u, e]

set_option maxHeartbeats 4000000 in
theorem L_image_310 {G : rn_G} {d : Nat} {κ : Nat × Nat} {Q : Option Value → rn_S → Prop} {ml : Nat → Nat → Int64} {D : Nat → Nat} {m0 : Nat → Nat → Int32} (h : ∀ m (v : Int32), (∀ a, a ≠ 156 → a ≠ 157 → m a = m0 a) → (∀ j, j < 8 → m 156 j = m0 143 j ∧ m 157 j = m0 144 j) → Run G d M_X9_image 346 [.ref 116, .int v] [] (m, ml, RF D, 164) κ Q) : ∀ (n k : Nat) (x : Int32) (m : Nat → Nat → Int32), n + k = 8 → x = nI k → (∀ a, a ≠ 156 → a ≠ 157 → m a = m0 a) → (∀ j, j < k → m 156 j = m0 143 j ∧ m 157 j = m0 144 j) → Run G d M_X9_image 310 [.ref 116, .int x] [] (m, ml, RF D, 164) κ Q := by
  intro n
  induction n with
  | zero =>
    intro k x m hk hx hf hc
    obtain rfl : k = 8 := by omega
    refine il_1 dX9_image_310 ?_
    refine R_bipush (v := 8) dX9_image_311 (by decide) ?_
    refine R_icmp_ge (tgt := 346) dX9_image_313 (by decide) (fun c313 => ?_) (fun q => absurd q (not_not_intro (by rw [hx]; decide)))
    exact h m _ hf hc
  | succ n ih =>
    intro k x m hk hx hf hc
    have hk2 : k < 8 := by omega
    have s143 : m 143 = m0 143 := hf 143 (by decide) (by decide)
    have s144 : m 144 = m0 144 := hf 144 (by decide) (by decide)
    refine il_1 dX9_image_310 ?_
    refine R_bipush (v := 8) dX9_image_311 (by decide) ?_
    refine R_icmp_ge (tgt := 346) dX9_image_313 (by decide) (fun q => absurd q (by rw [hx]; exact nI_ge (b := 8) (by omega) (by decide))) (fun c313 => ?_)
    refine al_0 dX9_image_316 ?_
    refine R_getfr (r := 156) dX9_image_317 fl_RX9_265 rfl sh_116 (Nat.le_of_ble_eq_true rfl) rf_116_84 ?_
    refine il_1 dX9_image_320 ?_
    refine al_0 dX9_image_321 ?_
    refine R_getfr (r := 143) dX9_image_322 fl_RX9_183 rfl sh_116 (Nat.le_of_ble_eq_true rfl) rf_116_57 ?_
    refine il_1 dX9_image_325 ?_
    refine R_iald dX9_image_326 sh_143 (Nat.le_of_ble_eq_true rfl) (rn_ixe hx) hk2 ?_
    refine R_iast dX9_image_327 sh_156 (Nat.le_of_ble_eq_true rfl) (rn_ixe hx) hk2 ?_
    refine al_0 dX9_image_328 ?_
    refine R_getfr (r := 157) dX9_image_329 fl_RX9_268 rfl sh_116 (Nat.le_of_ble_eq_true rfl) rf_116_85 ?_
    refine il_1 dX9_image_332 ?_
    refine al_0 dX9_image_333 ?_
    refine R_getfr (r := 144) dX9_image_334 fl_RX9_186 rfl sh_116 (Nat.le_of_ble_eq_true rfl) rf_116_58 ?_
    refine il_1 dX9_image_337 ?_
    refine R_iald dX9_image_338 sh_144 (Nat.le_of_ble_eq_true rfl) (rn_ixe hx) hk2 ?_
    refine R_iast dX9_image_339 sh_157 (Nat.le_of_ble_eq_true rfl) (rn_ixe hx) hk2 ?_
    refine ii_1 (v := _ + 1) dX9_image_340 rfl (by rfl) ?_
    refine R_goto (tgt := 310) dX9_image_343 (by decide) ?_
    refine ih (k + 1) _ _ (by omega) (by rw [hx]; exact sm_add k 1) ?_ ?_
    · intro a a156 a157
      rw [rn_u_ne a157, rn_u_ne a156]
      exact hf a a156 a157
    · intro j hj
      by_cases e : j = k
      · subst e
        refine ⟨?_, ?_⟩
        · rw [← s143]; simp [rn_u]
        · rw [← s144]; simp [rn_u]
      · have q := hc j (by omega)
        refine ⟨?_, ?_⟩
        · rw [← q.1]; simp [rn_u, e]
        · rw [← q.2]; simp [rn_u, e]

set_option maxHeartbeats 4000000 in
theorem L_undo_116 {G : rn_G} {d : Nat} {κ : Nat × Nat} {Q : Option Value → rn_S → Prop} {ml : Nat → Nat → Int64} {D : Nat → Nat} {m0 : Nat → Nat → Int32} (h : ∀ m (v : Int32), (∀ a, a ≠ 117 → a ≠ 118 → a ≠ 119 → a ≠ 120 → a ≠ 121 → a ≠ 123 → m a = m0 a) → (∀ j, j < 6 → m 117 j = m0 145 j ∧ m 118 j = m0 146 j ∧ m 119 j = m0 147 j ∧ m 120 j = m0 148 j ∧ m 121 j = m0 149 j ∧ m 123 j = m0 150 j) → Run G d M_X9_undo 200 [.ref 116, .int v] [] (m, ml, RF D, 164) κ Q) : ∀ (n k : Nat) (x : Int32) (m : Nat → Nat → Int32), n + k = 6 → x = nI k → (∀ a, a ≠ 117 → a ≠ 118 → a ≠ 119 → a ≠ 120 → a ≠ 121 → a ≠ 123 → m a = m0 a) → (∀ j, j < k → m 117 j = m0 145 j ∧ m 118 j = m0 146 j ∧ m 119 j = m0 147 j ∧ m 120 j = m0 148 j ∧ m 121 j = m0 149 j ∧ m 123 j = m0 150 j) → Run G d M_X9_undo 116 [.ref 116, .int x] [] (m, ml, RF D, 164) κ Q := by
  intro n
  induction n with
  | zero =>
    intro k x m hk hx hf hc
    obtain rfl : k = 6 := by omega
    refine il_1 dX9_undo_116 ?_
    refine R_bipush (v := 6) dX9_undo_117 (by decide) ?_
    refine R_icmp_ge (tgt := 200) dX9_undo_119 (by decide) (fun c119 => ?_) (fun q => absurd q (not_not_intro (by rw [hx]; decide)))
    exact h m _ hf hc
  | succ n ih =>
    intro k x m hk hx hf hc
    have hk2 : k < 6 := by omega
    have s145 : m 145 = m0 145 := hf 145 (by decide) (by decide) (by decide) (by decide) (by decide) (by decide)
    have s146 : m 146 = m0 146 := hf 146 (by decide) (by decide) (by decide) (by decide) (by decide) (by decide)
    have s147 : m 147 = m0 147 := hf 147 (by decide) (by decide) (by decide) (by decide) (by decide) (by decide)
    have s148 : m 148 = m0 148 := hf 148 (by decide) (by decide) (by decide) (by decide) (by decide) (by decide)
    have s149 : m 149 = m0 149 := hf 149 (by decide) (by decide) (by decide) (by decide) (by decide) (by decide)
    have s150 : m 150 = m0 150 := hf 150 (by decide) (by decide) (by decide) (by decide) (by decide) (by decide)
    refine il_1 dX9_undo_116 ?_
    refine R_bipush (v := 6) dX9_undo_117 (by decide) ?_
    refine R_icmp_ge (tgt := 200) dX9_undo_119 (by decide) (fun q => absurd q (by rw [hx]; exact nI_ge (b := 6) (by omega) (by decide))) (fun c119 => ?_)
    refine al_0 dX9_undo_122 ?_
    refine R_getfr (r := 117) dX9_undo_123 fl_RX9_37 rfl sh_116 (Nat.le_of_ble_eq_true rfl) rf_116_9 ?_
    refine il_1 dX9_undo_126 ?_
    refine al_0 dX9_undo_127 ?_
    refine R_getfr (r := 145) dX9_undo_128 fl_RX9_232 rfl sh_116 (Nat.le_of_ble_eq_true rfl) rf_116_73 ?_
    refine il_1 dX9_undo_131 ?_
    refine R_iald dX9_undo_132 sh_145 (Nat.le_of_ble_eq_true rfl) (rn_ixe hx) hk2 ?_
    refine R_iast dX9_undo_133 sh_117 (Nat.le_of_ble_eq_true rfl) (rn_ixe hx) hk2 ?_
    refine al_0 dX9_undo_134 ?_
    refine R_getfr (r := 118) dX9_undo_135 fl_RX9_41 rfl sh_116 (Nat.le_of_ble_eq_true rfl) rf_116_10 ?_
    refine il_1 dX9_undo_138 ?_
    refine al_0 dX9_undo_139 ?_
    refine R_getfr (r := 146) dX9_undo_140 fl_RX9_235 rfl sh_116 (Nat.le_of_ble_eq_true rfl) rf_116_74 ?_
    refine il_1 dX9_undo_143 ?_
    refine R_iald dX9_undo_144 sh_146 (Nat.le_of_ble_eq_true rfl) (rn_ixe hx) hk2 ?_
    refine R_iast dX9_undo_145 sh_118 (Nat.le_of_ble_eq_true rfl) (rn_ixe hx) hk2 ?_
    refine al_0 dX9_undo_146 ?_
    refine R_getfr (r := 119) dX9_undo_147 fl_RX9_44 rfl sh_116 (Nat.le_of_ble_eq_true rfl) rf_116_11 ?_
    refine il_1 dX9_undo_150 ?_
    refine al_0 dX9_undo_151 ?_
    refine R_getfr (r := 147) dX9_undo_152 fl_RX9_238 rfl sh_116 (Nat.le_of_ble_eq_true rfl) rf_116_75 ?_
    refine il_1 dX9_undo_155 ?_
    refine R_iald dX9_undo_156 sh_147 (Nat.le_of_ble_eq_true rfl) (rn_ixe hx) hk2 ?_
    refine R_iast dX9_undo_157 sh_119 (Nat.le_of_ble_eq_true rfl) (rn_ixe hx) hk2 ?_
    refine al_0 dX9_undo_158 ?_
    refine R_getfr (r := 120) dX9_undo_159 fl_RX9_47 rfl sh_116 (Nat.le_of_ble_eq_true rfl) rf_116_12 ?_
    refine il_1 dX9_undo_162 ?_
    refine al_0 dX9_undo_163 ?_
    refine R_getfr (r := 148) dX9_undo_164 fl_RX9_241 rfl sh_116 (Nat.le_of_ble_eq_true rfl) rf_116_76 ?_
    refine il_1 dX9_undo_167 ?_
    refine R_iald dX9_undo_168 sh_148 (Nat.le_of_ble_eq_true rfl) (rn_ixe hx) hk2 ?_
    refine R_iast dX9_undo_169 sh_120 (Nat.le_of_ble_eq_true rfl) (rn_ixe hx) hk2 ?_
    refine al_0 dX9_undo_170 ?_
    refine R_getfr (r := 121) dX9_undo_171 fl_RX9_50 rfl sh_116 (Nat.le_of_ble_eq_true rfl) rf_116_13 ?_
    refine il_1 dX9_undo_174 ?_
    refine al_0 dX9_undo_175 ?_
    refine R_getfr (r := 149) dX9_undo_176 fl_RX9_244 rfl sh_116 (Nat.le_of_ble_eq_true rfl) rf_116_77 ?_
    refine il_1 dX9_undo_179 ?_
    refine R_iald dX9_undo_180 sh_149 (Nat.le_of_ble_eq_true rfl) (rn_ixe hx) hk2 ?_
    refine R_iast dX9_undo_181 sh_121 (Nat.le_of_ble_eq_true rfl) (rn_ixe hx) hk2 ?_
    refine al_0 dX9_undo_182 ?_
    refine R_getfr (r := 123) dX9_undo_183 fl_RX9_56 rfl sh_116 (Nat.le_of_ble_eq_true rfl) rf_116_15 ?_
    refine il_1 dX9_undo_186 ?_
    refine al_0 dX9_undo_187 ?_
    refine R_getfr (r := 150) dX9_undo_188 fl_RX9_247 rfl sh_116 (Nat.le_of_ble_eq_true rfl) rf_116_78 ?_
    refine il_1 dX9_undo_191 ?_
    refine R_iald dX9_undo_192 sh_150 (Nat.le_of_ble_eq_true rfl) (rn_ixe hx) hk2 ?_
    refine R_iast dX9_undo_193 sh_123 (Nat.le_of_ble_eq_true rfl) (rn_ixe hx) hk2 ?_
    refine ii_1 (v := _ + 1) dX9_undo_194 rfl (by rfl) ?_
    refine R_goto (tgt := 116) dX9_undo_197 (by decide) ?_
    refine ih (k + 1) _ _ (by omega) (by rw [hx]; exact sm_add k 1) ?_ ?_
    · intro a a117 a118 a119 a120 a121 a123
      rw [rn_u_ne a123, rn_u_ne a121, rn_u_ne a120, rn_u_ne a119, rn_u_ne a118, rn_u_ne a117]
      exact hf a a117 a118 a119 a120 a121 a123
    · intro j hj
      by_cases e : j = k
      · subst e
        refine ⟨?_, ?_, ?_, ?_, ?_, ?_⟩
        · rw [← s145]; simp [rn_u]
        · rw [← s146]; simp [rn_u]
        · rw [← s147]; simp [rn_u]
        · rw [← s148]; simp [rn_u]
        · rw [← s149]; simp [rn_u]
        · rw [← s150]; simp [rn_u]
      · have q := hc j (by omega)
        refine ⟨?_, ?_, ?_, ?_, ?_, ?_⟩
        · rw [← q.1]; simp [rn_u, e]
        · rw [← q.2.1]; simp [rn_u, e]
        · rw [← q.2.2.1]; simp [rn_u, e]
        · rw [← q.2.2.2.1]; simp [rn_u, e]
        · rw [← q.2.2.2.2.1]; simp [rn_u, e]
        · rw [← q.2.2.2.2.2]; simp [rn_u, e]

set_option maxHeartbeats 4000000 in
theorem L_undo_202 {G : rn_G} {d : Nat} {κ : Nat × Nat} {Q : Option Value → rn_S → Prop} {ml : Nat → Nat → Int64} {D : Nat → Nat} {m0 : Nat → Nat → Int32} (h : ∀ m (v : Int32), (∀ a, a ≠ 122 → m a = m0 a) → (∀ j, j < 24 → m 122 j = m0 151 j) → Run G d M_X9_undo 226 [.ref 116, .int v] [] (m, ml, RF D, 164) κ Q) : ∀ (n k : Nat) (x : Int32) (m : Nat → Nat → Int32), n + k = 24 → x = nI k → (∀ a, a ≠ 122 → m a = m0 a) → (∀ j, j < k → m 122 j = m0 151 j) → Run G d M_X9_undo 202 [.ref 116, .int x] [] (m, ml, RF D, 164) κ Q := by
  intro n
  induction n with
  | zero =>
    intro k x m hk hx hf hc
    obtain rfl : k = 24 := by omega
    refine il_1 dX9_undo_202 ?_
    refine R_bipush (v := 24) dX9_undo_203 (by decide) ?_
    refine R_icmp_ge (tgt := 226) dX9_undo_205 (by decide) (fun c205 => ?_) (fun q => absurd q (not_not_intro (by rw [hx]; decide)))
    exact h m _ hf hc
  | succ n ih =>
    intro k x m hk hx hf hc
    have hk2 : k < 24 := by omega
    have s151 : m 151 = m0 151 := hf 151 (by decide)
    refine il_1 dX9_undo_202 ?_
    refine R_bipush (v := 24) dX9_undo_203 (by decide) ?_
    refine R_icmp_ge (tgt := 226) dX9_undo_205 (by decide) (fun q => absurd q (by rw [hx]; exact nI_ge (b := 24) (by omega) (by decide))) (fun c205 => ?_)
    refine al_0 dX9_undo_208 ?_
    refine R_getfr (r := 122) dX9_undo_209 fl_RX9_53 rfl sh_116 (Nat.le_of_ble_eq_true rfl) rf_116_14 ?_
    refine il_1 dX9_undo_212 ?_
    refine al_0 dX9_undo_213 ?_
    refine R_getfr (r := 151) dX9_undo_214 fl_RX9_250 rfl sh_116 (Nat.le_of_ble_eq_true rfl) rf_116_79 ?_
    refine il_1 dX9_undo_217 ?_
    refine R_iald dX9_undo_218 sh_151 (Nat.le_of_ble_eq_true rfl) (rn_ixe hx) hk2 ?_
    refine R_iast dX9_undo_219 sh_122 (Nat.le_of_ble_eq_true rfl) (rn_ixe hx) hk2 ?_
    refine ii_1 (v := _ + 1) dX9_undo_220 rfl (by rfl) ?_
    refine R_goto (tgt := 202) dX9_undo_223 (by decide) ?_
    refine ih (k + 1) _ _ (by omega) (by rw [hx]; exact sm_add k 1) ?_ ?_
    · intro a a122
      rw [rn_u_ne a122]
      exact hf a a122
    · intro j hj
      by_cases e : j = k
      · subst e
        skip
        rw [← s151]; simp [rn_u]
      · have q := hc j (by omega)
        skip
        rw [← q]; simp [rn_u, e]

set_option maxHeartbeats 4000000 in
theorem L_undo_228 {G : rn_G} {d : Nat} {κ : Nat × Nat} {Q : Option Value → rn_S → Prop} {ml : Nat → Nat → Int64} {D : Nat → Nat} {m0 : Nat → Nat → Int32} (h : ∀ m (v : Int32), (∀ a, a ≠ 138 → a ≠ 139 → a ≠ 140 → m a = m0 a) → (∀ j, j < 5 → m 138 j = m0 152 j ∧ m 139 j = m0 153 j ∧ m 140 j = m0 158 j &&& 1) → Run G d M_X9_undo 275 [.ref 116, .int v] [] (m, ml, RF D, 164) κ Q) : ∀ (n k : Nat) (x : Int32) (m : Nat → Nat → Int32), n + k = 5 → x = nI k → (∀ a, a ≠ 138 → a ≠ 139 → a ≠ 140 → m a = m0 a) → (∀ j, j < k → m 138 j = m0 152 j ∧ m 139 j = m0 153 j ∧ m 140 j = m0 158 j &&& 1) → Run G d M_X9_undo 228 [.ref 116, .int x] [] (m, ml, RF D, 164) κ Q := by
  intro n
  induction n with
  | zero =>
    intro k x m hk hx hf hc
    obtain rfl : k = 5 := by omega
    refine il_1 dX9_undo_228 ?_
    refine R_iconst (v := 5) dX9_undo_229 (by decide) ?_
    refine R_icmp_ge (tgt := 275) dX9_undo_230 (by decide) (fun c230 => ?_) (fun q => absurd q (not_not_intro (by rw [hx]; decide)))
    exact h m _ hf hc
  | succ n ih =>
    intro k x m hk hx hf hc
    have hk2 : k < 5 := by omega
    have s152 : m 152 = m0 152 := hf 152 (by decide) (by decide) (by decide)
    have s153 : m 153 = m0 153 := hf 153 (by decide) (by decide) (by decide)
    have s158 : m 158 = m0 158 := hf 158 (by decide) (by decide) (by decide)
    refine il_1 dX9_undo_228 ?_
    refine R_iconst (v := 5) dX9_undo_229 (by decide) ?_
    refine R_icmp_ge (tgt := 275) dX9_undo_230 (by decide) (fun q => absurd q (by rw [hx]; exact nI_ge (b := 5) (by omega) (by decide))) (fun c230 => ?_)
    refine al_0 dX9_undo_233 ?_
    refine R_getfr (r := 138) dX9_undo_234 fl_RX9_162 rfl sh_116 (Nat.le_of_ble_eq_true rfl) rf_116_50 ?_
    refine il_1 dX9_undo_237 ?_
    refine al_0 dX9_undo_238 ?_
    refine R_getfr (r := 152) dX9_undo_239 fl_RX9_253 rfl sh_116 (Nat.le_of_ble_eq_true rfl) rf_116_80 ?_
    refine il_1 dX9_undo_242 ?_
    refine R_iald dX9_undo_243 sh_152 (Nat.le_of_ble_eq_true rfl) (rn_ixe hx) hk2 ?_
    refine R_iast dX9_undo_244 sh_138 (Nat.le_of_ble_eq_true rfl) (rn_ixe hx) hk2 ?_
    refine al_0 dX9_undo_245 ?_
    refine R_getfr (r := 139) dX9_undo_246 fl_RX9_165 rfl sh_116 (Nat.le_of_ble_eq_true rfl) rf_116_51 ?_
    refine il_1 dX9_undo_249 ?_
    refine al_0 dX9_undo_250 ?_
    refine R_getfr (r := 153) dX9_undo_251 fl_RX9_256 rfl sh_116 (Nat.le_of_ble_eq_true rfl) rf_116_81 ?_
    refine il_1 dX9_undo_254 ?_
    refine R_iald dX9_undo_255 sh_153 (Nat.le_of_ble_eq_true rfl) (rn_ixe hx) hk2 ?_
    refine R_iast dX9_undo_256 sh_139 (Nat.le_of_ble_eq_true rfl) (rn_ixe hx) hk2 ?_
    refine al_0 dX9_undo_257 ?_
    refine R_getfr (r := 140) dX9_undo_258 fl_RX9_168 rfl sh_116 (Nat.le_of_ble_eq_true rfl) rf_116_52 ?_
    refine il_1 dX9_undo_261 ?_
    refine al_0 dX9_undo_262 ?_
    refine R_getfr (r := 158) dX9_undo_263 fl_RX9_271 rfl sh_116 (Nat.le_of_ble_eq_true rfl) rf_116_86 ?_
    refine il_1 dX9_undo_266 ?_
    refine R_zald dX9_undo_267 sh_158 (Nat.le_of_ble_eq_true rfl) (rn_ixe hx) hk2 ?_
    refine R_zast dX9_undo_268 sh_140 (Nat.le_of_ble_eq_true rfl) (rn_ixe hx) hk2 rfl ?_
    refine ii_1 (v := _ + 1) dX9_undo_269 rfl (by rfl) ?_
    refine R_goto (tgt := 228) dX9_undo_272 (by decide) ?_
    refine ih (k + 1) _ _ (by omega) (by rw [hx]; exact sm_add k 1) ?_ ?_
    · intro a a138 a139 a140
      rw [rn_u_ne a140, rn_u_ne a139, rn_u_ne a138]
      exact hf a a138 a139 a140
    · intro j hj
      by_cases e : j = k
      · subst e
        refine ⟨?_, ?_, ?_⟩
        · rw [← s152]; simp [rn_u]
        · rw [← s153]; simp [rn_u]
        · rw [← s158]; simp [rn_u]
      · have q := hc j (by omega)
        refine ⟨?_, ?_, ?_⟩
        · rw [← q.1]; simp [rn_u, e]
        · rw [← q.2.1]; simp [rn_u, e]
        · rw [← q.2.2]; simp [rn_u, e]

set_option maxHeartbeats 4000000 in
theorem L_undo_277 {G : rn_G} {d : Nat} {κ : Nat × Nat} {Q : Option Value → rn_S → Prop} {ml : Nat → Nat → Int64} {D : Nat → Nat} {m0 : Nat → Nat → Int32} (h : ∀ m (v : Int32), (∀ a, a ≠ 141 → a ≠ 142 → m a = m0 a) → (∀ j, j < 10 → m 141 j = m0 154 j ∧ m 142 j = m0 155 j) → Run G d M_X9_undo 313 [.ref 116, .int v] [] (m, ml, RF D, 164) κ Q) : ∀ (n k : Nat) (x : Int32) (m : Nat → Nat → Int32), n + k = 10 → x = nI k → (∀ a, a ≠ 141 → a ≠ 142 → m a = m0 a) → (∀ j, j < k → m 141 j = m0 154 j ∧ m 142 j = m0 155 j) → Run G d M_X9_undo 277 [.ref 116, .int x] [] (m, ml, RF D, 164) κ Q := by
  intro n
  induction n with
  | zero =>
    intro k x m hk hx hf hc
    obtain rfl : k = 10 := by omega
    refine il_1 dX9_undo_277 ?_
    refine R_bipush (v := 10) dX9_undo_278 (by decide) ?_
    refine R_icmp_ge (tgt := 313) dX9_undo_280 (by decide) (fun c280 => ?_) (fun q => absurd q (not_not_intro (by rw [hx]; decide)))
    exact h m _ hf hc
  | succ n ih =>
    intro k x m hk hx hf hc
    have hk2 : k < 10 := by omega
    have s154 : m 154 = m0 154 := hf 154 (by decide) (by decide)
    have s155 : m 155 = m0 155 := hf 155 (by decide) (by decide)
    refine il_1 dX9_undo_277 ?_
    refine R_bipush (v := 10) dX9_undo_278 (by decide) ?_
    refine R_icmp_ge (tgt := 313) dX9_undo_280 (by decide) (fun q => absurd q (by rw [hx]; exact nI_ge (b := 10) (by omega) (by decide))) (fun c280 => ?_)
    refine al_0 dX9_undo_283 ?_
    refine R_getfr (r := 141) dX9_undo_284 fl_RX9_177 rfl sh_116 (Nat.le_of_ble_eq_true rfl) rf_116_55 ?_
    refine il_1 dX9_undo_287 ?_
    refine al_0 dX9_undo_288 ?_
    refine R_getfr (r := 154) dX9_undo_289 fl_RX9_259 rfl sh_116 (Nat.le_of_ble_eq_true rfl) rf_116_82 ?_
    refine il_1 dX9_undo_292 ?_
    refine R_iald dX9_undo_293 sh_154 (Nat.le_of_ble_eq_true rfl) (rn_ixe hx) hk2 ?_
    refine R_iast dX9_undo_294 sh_141 (Nat.le_of_ble_eq_true rfl) (rn_ixe hx) hk2 ?_
    refine al_0 dX9_undo_295 ?_
    refine R_getfr (r := 142) dX9_undo_296 fl_RX9_180 rfl sh_116 (Nat.le_of_ble_eq_true rfl) rf_116_56 ?_
    refine il_1 dX9_undo_299 ?_
    refine al_0 dX9_undo_300 ?_
    refine R_getfr (r := 155) dX9_undo_301 fl_RX9_262 rfl sh_116 (Nat.le_of_ble_eq_true rfl) rf_116_83 ?_
    refine il_1 dX9_undo_304 ?_
    refine R_iald dX9_undo_305 sh_155 (Nat.le_of_ble_eq_true rfl) (rn_ixe hx) hk2 ?_
    refine R_iast dX9_undo_306 sh_142 (Nat.le_of_ble_eq_true rfl) (rn_ixe hx) hk2 ?_
    refine ii_1 (v := _ + 1) dX9_undo_307 rfl (by rfl) ?_
    refine R_goto (tgt := 277) dX9_undo_310 (by decide) ?_
    refine ih (k + 1) _ _ (by omega) (by rw [hx]; exact sm_add k 1) ?_ ?_
    · intro a a141 a142
      rw [rn_u_ne a142, rn_u_ne a141]
      exact hf a a141 a142
    · intro j hj
      by_cases e : j = k
      · subst e
        refine ⟨?_, ?_⟩
        · rw [← s154]; simp [rn_u]
        · rw [← s155]; simp [rn_u]
      · have q := hc j (by omega)
        refine ⟨?_, ?_⟩
        · rw [← q.1]; simp [rn_u, e]
        · rw [← q.2]; simp [rn_u, e]

set_option maxHeartbeats 4000000 in
theorem L_undo_315 {G : rn_G} {d : Nat} {κ : Nat × Nat} {Q : Option Value → rn_S → Prop} {ml : Nat → Nat → Int64} {D : Nat → Nat} {m0 : Nat → Nat → Int32} (h : ∀ m (v : Int32), (∀ a, a ≠ 143 → a ≠ 144 → m a = m0 a) → (∀ j, j < 8 → m 143 j = m0 156 j ∧ m 144 j = m0 157 j) → Run G d M_X9_undo 351 [.ref 116, .int v] [] (m, ml, RF D, 164) κ Q) : ∀ (n k : Nat) (x : Int32) (m : Nat → Nat → Int32), n + k = 8 → x = nI k → (∀ a, a ≠ 143 → a ≠ 144 → m a = m0 a) → (∀ j, j < k → m 143 j = m0 156 j ∧ m 144 j = m0 157 j) → Run G d M_X9_undo 315 [.ref 116, .int x] [] (m, ml, RF D, 164) κ Q := by
  intro n
  induction n with
  | zero =>
    intro k x m hk hx hf hc
    obtain rfl : k = 8 := by omega
    refine il_1 dX9_undo_315 ?_
    refine R_bipush (v := 8) dX9_undo_316 (by decide) ?_
    refine R_icmp_ge (tgt := 351) dX9_undo_318 (by decide) (fun c318 => ?_) (fun q => absurd q (not_not_intro (by rw [hx]; decide)))
    exact h m _ hf hc
  | succ n ih =>
    intro k x m hk hx hf hc
    have hk2 : k < 8 := by omega
    have s156 : m 156 = m0 156 := hf 156 (by decide) (by decide)
    have s157 : m 157 = m0 157 := hf 157 (by decide) (by decide)
    refine il_1 dX9_undo_315 ?_
    refine R_bipush (v := 8) dX9_undo_316 (by decide) ?_
    refine R_icmp_ge (tgt := 351) dX9_undo_318 (by decide) (fun q => absurd q (by rw [hx]; exact nI_ge (b := 8) (by omega) (by decide))) (fun c318 => ?_)
    refine al_0 dX9_undo_321 ?_
    refine R_getfr (r := 143) dX9_undo_322 fl_RX9_183 rfl sh_116 (Nat.le_of_ble_eq_true rfl) rf_116_57 ?_
    refine il_1 dX9_undo_325 ?_
    refine al_0 dX9_undo_326 ?_
    refine R_getfr (r := 156) dX9_undo_327 fl_RX9_265 rfl sh_116 (Nat.le_of_ble_eq_true rfl) rf_116_84 ?_
    refine il_1 dX9_undo_330 ?_
    refine R_iald dX9_undo_331 sh_156 (Nat.le_of_ble_eq_true rfl) (rn_ixe hx) hk2 ?_
    refine R_iast dX9_undo_332 sh_143 (Nat.le_of_ble_eq_true rfl) (rn_ixe hx) hk2 ?_
    refine al_0 dX9_undo_333 ?_
    refine R_getfr (r := 144) dX9_undo_334 fl_RX9_186 rfl sh_116 (Nat.le_of_ble_eq_true rfl) rf_116_58 ?_
    refine il_1 dX9_undo_337 ?_
    refine al_0 dX9_undo_338 ?_
    refine R_getfr (r := 157) dX9_undo_339 fl_RX9_268 rfl sh_116 (Nat.le_of_ble_eq_true rfl) rf_116_85 ?_
    refine il_1 dX9_undo_342 ?_
    refine R_iald dX9_undo_343 sh_157 (Nat.le_of_ble_eq_true rfl) (rn_ixe hx) hk2 ?_
    refine R_iast dX9_undo_344 sh_144 (Nat.le_of_ble_eq_true rfl) (rn_ixe hx) hk2 ?_
    refine ii_1 (v := _ + 1) dX9_undo_345 rfl (by rfl) ?_
    refine R_goto (tgt := 315) dX9_undo_348 (by decide) ?_
    refine ih (k + 1) _ _ (by omega) (by rw [hx]; exact sm_add k 1) ?_ ?_
    · intro a a143 a144
      rw [rn_u_ne a144, rn_u_ne a143]
      exact hf a a143 a144
    · intro j hj
      by_cases e : j = k
      · subst e
        refine ⟨?_, ?_⟩
        · rw [← s156]; simp [rn_u]
        · rw [← s157]; simp [rn_u]
      · have q := hc j (by omega)
        refine ⟨?_, ?_⟩
        · rw [← q.1]; simp [rn_u, e]
        · rw [← q.2]; simp [rn_u, e]

set_option maxHeartbeats 4000000 in
theorem MC_image {G : rn_G} {d : Nat} {κ : Nat × Nat} {Q : Option Value → rn_S → Prop} {mi : Nat → Nat → Int32} {ml : Nat → Nat → Int64} {D : Nat → Nat} {w : WD} {c k : Nat} {ds : Nat → CL} {sl : SL} {el bl : EL} {im : IM} {T : Nat → Nat} {L : Nat} {ac : List Int32} {tp : TP} (hv : IV w c k ds sl el bl im ac tp) (hr : MR w c k ds sl el bl im T L ac tp mi ml) (h : ∀ m l, LO mi m ml l → MR w c k ds sl el bl (some (c, w, sl, el, bl)) T L ac tp m l → Q (some (.int (w.1 2))) (m, l, RF D, 164))  : Call G (d + 30) M_X9_image [.ref 116] (mi, ml, RF D, 164) κ Q := by
  show Run G _ M_X9_image 0 [.ref 116, .null] [] _ _ _
  have hB := hr.1
  have hw := hv.1.1
  have hk6 := hv.2.2.1
  obtain ⟨N, P, R, ⟨hN, hP, hR, hg, hpp, hrr, hdn, hmn, hkp, hwt, hgp, htr⟩, hpc, hbits, hPJ⟩ := hB.n hw
  obtain ⟨w0, w1, w2, w3, w4, w5, w6, w10⟩ := hB.cells
  refine al_0 dX9_image_0 ?_
  refine R_iconst (v := 1) dX9_image_1 (by decide) ?_
  refine R_putfi dX9_image_2 fl_RX9_189 rfl (Or.inl rfl) sh_116 (Nat.le_of_ble_eq_true rfl) rfl rfl ?_
  refine al_0 dX9_image_5 ?_
  refine al_0 dX9_image_6 ?_
  refine R_getfi dX9_image_7 fl_RX9_62 rfl sh_116 (Nat.le_of_ble_eq_true rfl) ?_
  refine R_putfi dX9_image_10 fl_RX9_193 rfl (Or.inl rfl) sh_116 (Nat.le_of_ble_eq_true rfl) rfl rfl ?_
  refine al_0 dX9_image_13 ?_
  refine al_0 dX9_image_14 ?_
  refine R_getfi dX9_image_15 fl_RX9_7 rfl sh_116 (Nat.le_of_ble_eq_true rfl) ?_
  refine R_putfi dX9_image_18 fl_RX9_196 rfl (Or.inl rfl) sh_116 (Nat.le_of_ble_eq_true rfl) rfl rfl ?_
  refine al_0 dX9_image_21 ?_
  refine al_0 dX9_image_22 ?_
  refine R_getfi dX9_image_23 fl_RX9_13 rfl sh_116 (Nat.le_of_ble_eq_true rfl) ?_
  refine R_putfi dX9_image_26 fl_RX9_199 rfl (Or.inl rfl) sh_116 (Nat.le_of_ble_eq_true rfl) rfl rfl ?_
  refine al_0 dX9_image_29 ?_
  refine al_0 dX9_image_30 ?_
  refine R_getfi dX9_image_31 fl_RX9_16 rfl sh_116 (Nat.le_of_ble_eq_true rfl) ?_
  refine R_putfi dX9_image_34 fl_RX9_202 rfl (Or.inl rfl) sh_116 (Nat.le_of_ble_eq_true rfl) rfl rfl ?_
  refine al_0 dX9_image_37 ?_
  refine al_0 dX9_image_38 ?_
  refine R_getfi dX9_image_39 fl_RX9_19 rfl sh_116 (Nat.le_of_ble_eq_true rfl) ?_
  refine R_putfi dX9_image_42 fl_RX9_205 rfl (Or.inl rfl) sh_116 (Nat.le_of_ble_eq_true rfl) rfl rfl ?_
  refine al_0 dX9_image_45 ?_
  refine al_0 dX9_image_46 ?_
  refine R_getfi dX9_image_47 fl_RX9_22 rfl sh_116 (Nat.le_of_ble_eq_true rfl) ?_
  refine R_putfi dX9_image_50 fl_RX9_208 rfl (Or.inl rfl) sh_116 (Nat.le_of_ble_eq_true rfl) rfl rfl ?_
  refine al_0 dX9_image_53 ?_
  refine al_0 dX9_image_54 ?_
  refine R_getfi dX9_image_55 fl_RX9_25 rfl sh_116 (Nat.le_of_ble_eq_true rfl) ?_
  refine R_putfi dX9_image_58 fl_RX9_211 rfl (Or.inl rfl) sh_116 (Nat.le_of_ble_eq_true rfl) rfl rfl ?_
  refine al_0 dX9_image_61 ?_
  refine al_0 dX9_image_62 ?_
  refine R_getfi dX9_image_63 fl_RX9_28 rfl sh_116 (Nat.le_of_ble_eq_true rfl) ?_
  refine R_putfi dX9_image_66 fl_RX9_214 rfl (Or.inl rfl) sh_116 (Nat.le_of_ble_eq_true rfl) rfl rfl ?_
  refine al_0 dX9_image_69 ?_
  refine al_0 dX9_image_70 ?_
  refine R_getfi dX9_image_71 fl_RX9_31 rfl sh_116 (Nat.le_of_ble_eq_true rfl) ?_
  refine R_putfi dX9_image_74 fl_RX9_217 rfl (Or.inl rfl) sh_116 (Nat.le_of_ble_eq_true rfl) rfl rfl ?_
  refine al_0 dX9_image_77 ?_
  refine al_0 dX9_image_78 ?_
  refine R_getfi dX9_image_79 fl_RX9_34 rfl sh_116 (Nat.le_of_ble_eq_true rfl) ?_
  refine R_putfi dX9_image_82 fl_RX9_220 rfl (Or.inl rfl) sh_116 (Nat.le_of_ble_eq_true rfl) rfl rfl ?_
  refine al_0 dX9_image_85 ?_
  refine al_0 dX9_image_86 ?_
  refine R_getfi dX9_image_87 fl_RX9_159 rfl sh_116 (Nat.le_of_ble_eq_true rfl) ?_
  refine R_putfi dX9_image_90 fl_RX9_223 rfl (Or.inl rfl) sh_116 (Nat.le_of_ble_eq_true rfl) rfl rfl ?_
  refine al_0 dX9_image_93 ?_
  refine al_0 dX9_image_94 ?_
  refine R_getfi dX9_image_95 fl_RX9_171 rfl sh_116 (Nat.le_of_ble_eq_true rfl) ?_
  refine R_putfi dX9_image_98 fl_RX9_226 rfl (Or.inl rfl) sh_116 (Nat.le_of_ble_eq_true rfl) rfl rfl ?_
  refine al_0 dX9_image_101 ?_
  refine al_0 dX9_image_102 ?_
  refine R_getfi dX9_image_103 fl_RX9_174 rfl sh_116 (Nat.le_of_ble_eq_true rfl) ?_
  refine R_putfi dX9_image_106 fl_RX9_229 rfl (Or.inl rfl) sh_116 (Nat.le_of_ble_eq_true rfl) rfl rfl ?_
  refine R_iconst (v := 0) dX9_image_109 (by decide) ?_
  refine is_1 dX9_image_110 rfl ?_
  obtain ⟨m1, hm1⟩ : ∃ m1, m1 = (rn_u (rn_u (rn_u (rn_u (rn_u (rn_u (rn_u (rn_u (rn_u (rn_u (rn_u (rn_u (rn_u (rn_u mi 116 59 (1)) 116 60 (mi 116 17)) 116 61 (mi 116 0)) 116 62 (mi 116 1)) 116 63 (mi 116 2)) 116 64 (mi 116 3)) 116 65 (mi 116 4)) 116 66 (mi 116 5)) 116 67 (mi 116 6)) 116 68 (mi 116 7)) 116 69 (mi 116 8)) 116 70 (mi 116 49)) 116 71 (mi 116 53)) 116 72 (mi 116 54)) := ⟨_, rfl⟩
  have g1 : ∀ a, a ≠ 116 → m1 a = mi a := fun a a1 => by rw [hm1, rn_u_ne a1, rn_u_ne a1, rn_u_ne a1, rn_u_ne a1, rn_u_ne a1, rn_u_ne a1, rn_u_ne a1, rn_u_ne a1, rn_u_ne a1, rn_u_ne a1, rn_u_ne a1, rn_u_ne a1, rn_u_ne a1, rn_u_ne a1]
  have g2 : ∀ f, f < 59 ∨ 73 ≤ f → m1 116 f = mi 116 f := fun f hf => by rw [hm1]; simp only [rn_u, true_and]; rw [if_neg (by omega), if_neg (by omega), if_neg (by omega), if_neg (by omega), if_neg (by omega), if_neg (by omega), if_neg (by omega), if_neg (by omega), if_neg (by omega), if_neg (by omega), if_neg (by omega), if_neg (by omega), if_neg (by omega), if_neg (by omega)]
  refine Eq.mp (congrArg (fun m => Run G _ M_X9_image 111 [.ref 116, .int 0] [] (m, ml, RF D, 164) κ Q) hm1) ?_
  refine L_image_111 (fun m2 v0 f0 c0 => ?_) 6 0 _ _ rfl rfl (fun _ _ _ _ _ _ _ => rfl) (fun j hj => absurd hj (Nat.not_lt_zero j))
  refine R_iconst (v := 0) dX9_image_195 (by decide) ?_
  refine is_1 dX9_image_196 rfl ?_
  refine L_image_197 (fun m3 v1 f1 c1 => ?_) 24 0 _ _ rfl rfl (fun _ _ => rfl) (fun j hj => absurd hj (Nat.not_lt_zero j))
  refine R_iconst (v := 0) dX9_image_221 (by decide) ?_
  refine is_1 dX9_image_222 rfl ?_
  refine L_image_223 (fun m4 v2 f2 c2 => ?_) 5 0 _ _ rfl rfl (fun _ _ _ _ => rfl) (fun j hj => absurd hj (Nat.not_lt_zero j))
  refine R_iconst (v := 0) dX9_image_270 (by decide) ?_
  refine is_1 dX9_image_271 rfl ?_
  refine L_image_272 (fun m5 v3 f3 c3 => ?_) 10 0 _ _ rfl rfl (fun _ _ _ => rfl) (fun j hj => absurd hj (Nat.not_lt_zero j))
  refine R_iconst (v := 0) dX9_image_308 (by decide) ?_
  refine is_1 dX9_image_309 rfl ?_
  refine L_image_310 (fun m6 v4 f4 c4 => ?_) 8 0 _ _ rfl rfl (fun _ _ _ => rfl) (fun j hj => absurd hj (Nat.not_lt_zero j))
  refine al_0 dX9_image_346 ?_
  refine R_getfi dX9_image_347 fl_RX9_13 rfl sh_116 (Nat.le_of_ble_eq_true rfl) ?_
  refine R_ireturn dX9_image_350 ⟨_, rfl, rfl⟩ ?_
  -- what stays, what was copied
  have ea : ∀ a, a ≠ 116 → (a < 145 ∨ 158 < a) → m6 a = mi a := fun a a1 a2 => by rw [f4 a (by omega) (by omega), f3 a (by omega) (by omega), f2 a (by omega) (by omega) (by omega), f1 a (by omega), f0 a (by omega) (by omega) (by omega) (by omega) (by omega) (by omega)]; exact g1 a a1
  have e6 : ∀ f, m6 116 f = m1 116 f := fun f => by rw [f4 116 (by decide) (by decide), f3 116 (by decide) (by decide), f2 116 (by decide) (by decide) (by decide), f1 116 (by decide), f0 116 (by decide) (by decide) (by decide) (by decide) (by decide) (by decide)]
  have el_ : ∀ f, f < 59 ∨ 73 ≤ f → m6 116 f = mi 116 f := fun f hf => by rw [e6]; exact g2 f hf
  have c_145 : ∀ j, j < 6 → m6 145 j = mi 117 j := fun j hj => by rw [f4 145 (by decide) (by decide), f3 145 (by decide) (by decide), f2 145 (by decide) (by decide) (by decide), f1 145 (by decide), (c0 j hj).1, g1 117 (by decide)]
  have c_146 : ∀ j, j < 6 → m6 146 j = mi 118 j := fun j hj => by rw [f4 146 (by decide) (by decide), f3 146 (by decide) (by decide), f2 146 (by decide) (by decide) (by decide), f1 146 (by decide), (c0 j hj).2.1, g1 118 (by decide)]
  have c_147 : ∀ j, j < 6 → m6 147 j = mi 119 j := fun j hj => by rw [f4 147 (by decide) (by decide), f3 147 (by decide) (by decide), f2 147 (by decide) (by decide) (by decide), f1 147 (by decide), (c0 j hj).2.2.1, g1 119 (by decide)]
  have c_148 : ∀ j, j < 6 → m6 148 j = mi 120 j := fun j hj => by rw [f4 148 (by decide) (by decide), f3 148 (by decide) (by decide), f2 148 (by decide) (by decide) (by decide), f1 148 (by decide), (c0 j hj).2.2.2.1, g1 120 (by decide)]
  have c_149 : ∀ j, j < 6 → m6 149 j = mi 121 j := fun j hj => by rw [f4 149 (by decide) (by decide), f3 149 (by decide) (by decide), f2 149 (by decide) (by decide) (by decide), f1 149 (by decide), (c0 j hj).2.2.2.2.1, g1 121 (by decide)]
  have c_150 : ∀ j, j < 6 → m6 150 j = mi 123 j := fun j hj => by rw [f4 150 (by decide) (by decide), f3 150 (by decide) (by decide), f2 150 (by decide) (by decide) (by decide), f1 150 (by decide), (c0 j hj).2.2.2.2.2, g1 123 (by decide)]
  have c_151 : ∀ j, j < 24 → m6 151 j = mi 122 j := fun j hj => by rw [f4 151 (by decide) (by decide), f3 151 (by decide) (by decide), f2 151 (by decide) (by decide) (by decide), (c1 j hj), f0 122 (by decide) (by decide) (by decide) (by decide) (by decide) (by decide), g1 122 (by decide)]
  have c_152 : ∀ j, j < 5 → m6 152 j = mi 138 j := fun j hj => by rw [f4 152 (by decide) (by decide), f3 152 (by decide) (by decide), (c2 j hj).1, f1 138 (by decide), f0 138 (by decide) (by decide) (by decide) (by decide) (by decide) (by decide), g1 138 (by decide)]
  have c_153 : ∀ j, j < 5 → m6 153 j = mi 139 j := fun j hj => by rw [f4 153 (by decide) (by decide), f3 153 (by decide) (by decide), (c2 j hj).2.1, f1 139 (by decide), f0 139 (by decide) (by decide) (by decide) (by decide) (by decide) (by decide), g1 139 (by decide)]
  have c_158 : ∀ j, j < 5 → m6 158 j = mi 140 j &&& 1 := fun j hj => by rw [f4 158 (by decide) (by decide), f3 158 (by decide) (by decide), (c2 j hj).2.2, f1 140 (by decide), f0 140 (by decide) (by decide) (by decide) (by decide) (by decide) (by decide), g1 140 (by decide)]
  have c_154 : ∀ j, j < 10 → m6 154 j = mi 141 j := fun j hj => by rw [f4 154 (by decide) (by decide), (c3 j hj).1, f2 141 (by decide) (by decide) (by decide), f1 141 (by decide), f0 141 (by decide) (by decide) (by decide) (by decide) (by decide) (by decide), g1 141 (by decide)]
  have c_155 : ∀ j, j < 10 → m6 155 j = mi 142 j := fun j hj => by rw [f4 155 (by decide) (by decide), (c3 j hj).2, f2 142 (by decide) (by decide) (by decide), f1 142 (by decide), f0 142 (by decide) (by decide) (by decide) (by decide) (by decide) (by decide), g1 142 (by decide)]
  have c_156 : ∀ j, j < 8 → m6 156 j = mi 143 j := fun j hj => by rw [(c4 j hj).1, f3 143 (by decide) (by decide), f2 143 (by decide) (by decide) (by decide), f1 143 (by decide), f0 143 (by decide) (by decide) (by decide) (by decide) (by decide) (by decide), g1 143 (by decide)]
  have c_157 : ∀ j, j < 8 → m6 157 j = mi 144 j := fun j hj => by rw [(c4 j hj).2, f3 144 (by decide) (by decide), f2 144 (by decide) (by decide) (by decide), f1 144 (by decide), f0 144 (by decide) (by decide) (by decide) (by decide) (by decide) (by decide), g1 144 (by decide)]
  have hcl : MB m6 (cuL ds c) w := hB.ext (fun f hf => el_ f (by omega)) (fun a a1 a2 => ea a (by omega) (by omega)) (fun a a1 a2 => ea a (by omega) (by omega))
  have hsl := hr.2.2.1
  have hel := hr.2.2.2.1
  have hbl := hr.2.2.2.2.1
  have hsl5 := hv.1.2.1
  have hel5 := hv.1.2.2.2.1
  have hbl5 := hv.1.2.2.2.2.2.1
  have nN : nn (mi 116 0) = N := by rw [hg]; exact nnI (by omega)
  have nP : nn (mi 116 1) = P := by rw [hpp]; exact nnI (by omega)
  have nR : nn (mi 116 8) = R := by rw [hrr]; exact nnI (by omega)
  have hwm : wM (und m6) (cuL ds c) = w := by
    rw [← hB.2.1]
    refine wM_ext6 (fun f hf => ?_) (fun a a1 a2 a3 j hj => ?_) (fun j hj => c_151 j hj) (by omega) (by omega) (by omega)
    · show (if f < 9 then m6 116 (61 + f) else m6 116 f) = mi 116 f
      by_cases h9 : f < 9
      · rw [if_pos h9, e6]
        have : f = 0 ∨ f = 1 ∨ f = 2 ∨ f = 3 ∨ f = 4 ∨ f = 5 ∨ f = 6 ∨ f = 7 ∨ f = 8 := by omega
        rcases this with rfl | rfl | rfl | rfl | rfl | rfl | rfl | rfl | rfl <;> (rw [hm1]; rfl)
      · rw [if_neg h9]; exact el_ f (by omega)
    · have : a = 117 ∨ a = 118 ∨ a = 119 ∨ a = 120 ∨ a = 121 ∨ a = 123 := by omega
      rcases this with rfl | rfl | rfl | rfl | rfl | rfl
      · exact c_145 j hj
      · exact c_146 j hj
      · exact c_147 j hj
      · exact c_148 j hj
      · exact c_149 j hj
      · exact c_150 j hj
  refine ret_eq (h m6 ml (lo_of (fun a ha => ea a (by omega) (by omega))) ⟨hcl, hr.2.1.fr (el_ 16 (by omega)) (el_ 17 (by omega)) (fun a a1 a2 => ea a (by omega) (by omega)), hsl.fr (el_ 49 (by omega)) (ea 138 (by decide) (by omega)) (ea 139 (by decide) (by omega)) (ea 140 (by decide) (by omega)), hel.fr (el_ 53 (by omega)) (ea 141 (by decide) (by omega)) (ea 142 (by decide) (by omega)), hbl.fr (el_ 54 (by omega)) (ea 143 (by decide) (by omega)) (ea 144 (by decide) (by omega)), ⟨?_, ?_, hwm, fun i i1 i2 => ?_, ⟨?_, fun j q hj => ?_⟩, ⟨?_, fun j q hj => ?_⟩, ⟨?_, fun j q hj => ?_⟩⟩, hr.2.2.2.2.2.2.1.fr (el_ 18 (by omega)) (ea 124 (by decide) (by omega)), hr.2.2.2.2.2.2.2.1.fr (ea 132 (by decide) (by omega)), hr.2.2.2.2.2.2.2.2.1.fr (el_ 87 (by omega)) (ea 159 (by decide) (by omega)), hr.2.2.2.2.2.2.2.2.2.fr (ea 160 (by decide) (by omega)) (ea 161 (by decide) (by omega)) rfl⟩) rfl ?_
  · rw [e6, hm1]; rfl
  · rw [e6, hm1]; exact hr.2.1.2.1
  · rw [e6, hm1] at i1; rw [e6, hm1]; exact hB.2.2.1 i i1 i2
  · rw [e6, hm1]; exact hsl.1
  · have hlt := (List.getElem?_eq_some_iff.mp hj).1
    have hlt : j < sl.length := hlt
    obtain ⟨b1, b2, b3⟩ := hsl.2 j q hj
    exact ⟨by rw [c_152 j (by omega)]; exact b1, by rw [c_153 j (by omega)]; exact b2, by rw [c_158 j (by omega), b3]; exact bi_and1 _⟩
  · rw [e6, hm1]; exact hel.1
  · have hlt := (List.getElem?_eq_some_iff.mp hj).1
    have hlt : j < el.length := hlt
    obtain ⟨b1, b2⟩ := hel.2 j q hj
    exact ⟨by rw [c_154 j (by omega)]; exact b1, fun q1 => by rw [c_155 j (by omega)]; exact b2 q1⟩
  · rw [e6, hm1]; exact hbl.1
  · have hlt := (List.getElem?_eq_some_iff.mp hj).1
    have hlt : j < bl.length := hlt
    obtain ⟨b1, b2⟩ := hbl.2 j q hj
    exact ⟨by rw [c_156 j (by omega)]; exact b1, by rw [c_157 j (by omega)]; exact b2⟩
  · rw [w2]; exact el_ 1 (by omega)

def undW (im : IM) (w : WD) : WD := match im with | none => w | some q => q.2.1
def undC (im : IM) (c : Nat) : Nat := match im with | none => c | some q => q.1
def undS (im : IM) (sl : SL) : SL := match im with | none => sl | some q => q.2.2.1
def undE (im : IM) (el : EL) : EL := match im with | none => el | some q => q.2.2.2.1
def undB (im : IM) (bl : EL) : EL := match im with | none => bl | some q => q.2.2.2.2
def undV (im : IM) (w : WD) : Int32 := match im with | none => -3 | some q => q.2.1.1 2

set_option maxHeartbeats 4000000 in
theorem MC_undo {G : rn_G} {d : Nat} {κ : Nat × Nat} {Q : Option Value → rn_S → Prop} {mi : Nat → Nat → Int32} {ml : Nat → Nat → Int64} {D : Nat → Nat} {w : WD} {c k : Nat} {ds : Nat → CL} {sl : SL} {el bl : EL} {im : IM} {T : Nat → Nat} {L : Nat} {ac : List Int32} {tp : TP} (hv : IV w c k ds sl el bl im ac tp) (hr : MR w c k ds sl el bl im T L ac tp mi ml) (h : ∀ m l, LO mi m ml l → MR (undW im w) (undC im c) k ds (undS im sl) (undE im el) (undB im bl) im T L ac tp m l → Q (some (.int (undV im w))) (m, l, RF D, 164)) : Call G (d + 30) M_X9_undo [.ref 116] (mi, ml, RF D, 164) κ Q := by
  show Run G _ M_X9_undo 0 [.ref 116, .null] [] _ _ _
  have hB := hr.1
  have hw := hv.1.1
  have hk6 := hv.2.2.1
  obtain ⟨N, P, R, ⟨hN, hP, hR, hg, hpp, hrr, hdn, hmn, hkp, hwt, hgp, htr⟩, hpc, hbits, hPJ⟩ := hB.n hw
  obtain ⟨w0, w1, w2, w3, w4, w5, w6, w10⟩ := hB.cells
  have him := hr.2.2.2.2.2.1
  have him2 := hv.2.2.2.1
  cases im with
  | none =>
    have i59 : mi 116 59 = 0 := him
    refine al_0 dX9_undo_0 ?_
    refine R_getfi dX9_undo_1 fl_RX9_189 rfl sh_116 (Nat.le_of_ble_eq_true rfl) ?_
    refine R_if_ne (tgt := 10) dX9_undo_4 (by decide) (fun q => absurd q (not_not_intro i59)) (fun c4 => ?_)
    refine R_bipush (v := -3) dX9_undo_7 (by decide) ?_
    refine R_ireturn dX9_undo_9 ⟨_, rfl, rfl⟩ ?_
    exact h mi ml (LO.refl _ _) hr
  | some q =>
    have i59 : mi 116 59 = 1 := him.1
    refine al_0 dX9_undo_0 ?_
    refine R_getfi dX9_undo_1 fl_RX9_189 rfl sh_116 (Nat.le_of_ble_eq_true rfl) ?_
    refine R_if_ne (tgt := 10) dX9_undo_4 (by decide) (fun c4 => ?_) (fun q => absurd q (by rw [i59]; decide))
    refine al_0 dX9_undo_10 ?_
    refine al_0 dX9_undo_11 ?_
    refine R_getfi dX9_undo_12 fl_RX9_193 rfl sh_116 (Nat.le_of_ble_eq_true rfl) ?_
    refine R_putfi dX9_undo_15 fl_RX9_62 rfl (Or.inl rfl) sh_116 (Nat.le_of_ble_eq_true rfl) rfl rfl ?_
    refine al_0 dX9_undo_18 ?_
    refine al_0 dX9_undo_19 ?_
    refine R_getfi dX9_undo_20 fl_RX9_196 rfl sh_116 (Nat.le_of_ble_eq_true rfl) ?_
    refine R_putfi dX9_undo_23 fl_RX9_7 rfl (Or.inl rfl) sh_116 (Nat.le_of_ble_eq_true rfl) rfl rfl ?_
    refine al_0 dX9_undo_26 ?_
    refine al_0 dX9_undo_27 ?_
    refine R_getfi dX9_undo_28 fl_RX9_199 rfl sh_116 (Nat.le_of_ble_eq_true rfl) ?_
    refine R_putfi dX9_undo_31 fl_RX9_13 rfl (Or.inl rfl) sh_116 (Nat.le_of_ble_eq_true rfl) rfl rfl ?_
    refine al_0 dX9_undo_34 ?_
    refine al_0 dX9_undo_35 ?_
    refine R_getfi dX9_undo_36 fl_RX9_202 rfl sh_116 (Nat.le_of_ble_eq_true rfl) ?_
    refine R_putfi dX9_undo_39 fl_RX9_16 rfl (Or.inl rfl) sh_116 (Nat.le_of_ble_eq_true rfl) rfl rfl ?_
    refine al_0 dX9_undo_42 ?_
    refine al_0 dX9_undo_43 ?_
    refine R_getfi dX9_undo_44 fl_RX9_205 rfl sh_116 (Nat.le_of_ble_eq_true rfl) ?_
    refine R_putfi dX9_undo_47 fl_RX9_19 rfl (Or.inl rfl) sh_116 (Nat.le_of_ble_eq_true rfl) rfl rfl ?_
    refine al_0 dX9_undo_50 ?_
    refine al_0 dX9_undo_51 ?_
    refine R_getfi dX9_undo_52 fl_RX9_208 rfl sh_116 (Nat.le_of_ble_eq_true rfl) ?_
    refine R_putfi dX9_undo_55 fl_RX9_22 rfl (Or.inl rfl) sh_116 (Nat.le_of_ble_eq_true rfl) rfl rfl ?_
    refine al_0 dX9_undo_58 ?_
    refine al_0 dX9_undo_59 ?_
    refine R_getfi dX9_undo_60 fl_RX9_211 rfl sh_116 (Nat.le_of_ble_eq_true rfl) ?_
    refine R_putfi dX9_undo_63 fl_RX9_25 rfl (Or.inl rfl) sh_116 (Nat.le_of_ble_eq_true rfl) rfl rfl ?_
    refine al_0 dX9_undo_66 ?_
    refine al_0 dX9_undo_67 ?_
    refine R_getfi dX9_undo_68 fl_RX9_214 rfl sh_116 (Nat.le_of_ble_eq_true rfl) ?_
    refine R_putfi dX9_undo_71 fl_RX9_28 rfl (Or.inl rfl) sh_116 (Nat.le_of_ble_eq_true rfl) rfl rfl ?_
    refine al_0 dX9_undo_74 ?_
    refine al_0 dX9_undo_75 ?_
    refine R_getfi dX9_undo_76 fl_RX9_217 rfl sh_116 (Nat.le_of_ble_eq_true rfl) ?_
    refine R_putfi dX9_undo_79 fl_RX9_31 rfl (Or.inl rfl) sh_116 (Nat.le_of_ble_eq_true rfl) rfl rfl ?_
    refine al_0 dX9_undo_82 ?_
    refine al_0 dX9_undo_83 ?_
    refine R_getfi dX9_undo_84 fl_RX9_220 rfl sh_116 (Nat.le_of_ble_eq_true rfl) ?_
    refine R_putfi dX9_undo_87 fl_RX9_34 rfl (Or.inl rfl) sh_116 (Nat.le_of_ble_eq_true rfl) rfl rfl ?_
    refine al_0 dX9_undo_90 ?_
    refine al_0 dX9_undo_91 ?_
    refine R_getfi dX9_undo_92 fl_RX9_223 rfl sh_116 (Nat.le_of_ble_eq_true rfl) ?_
    refine R_putfi dX9_undo_95 fl_RX9_159 rfl (Or.inl rfl) sh_116 (Nat.le_of_ble_eq_true rfl) rfl rfl ?_
    refine al_0 dX9_undo_98 ?_
    refine al_0 dX9_undo_99 ?_
    refine R_getfi dX9_undo_100 fl_RX9_226 rfl sh_116 (Nat.le_of_ble_eq_true rfl) ?_
    refine R_putfi dX9_undo_103 fl_RX9_171 rfl (Or.inl rfl) sh_116 (Nat.le_of_ble_eq_true rfl) rfl rfl ?_
    refine al_0 dX9_undo_106 ?_
    refine al_0 dX9_undo_107 ?_
    refine R_getfi dX9_undo_108 fl_RX9_229 rfl sh_116 (Nat.le_of_ble_eq_true rfl) ?_
    refine R_putfi dX9_undo_111 fl_RX9_174 rfl (Or.inl rfl) sh_116 (Nat.le_of_ble_eq_true rfl) rfl rfl ?_
    refine R_iconst (v := 0) dX9_undo_114 (by decide) ?_
    refine is_1 dX9_undo_115 rfl ?_
    obtain ⟨m1, hm1⟩ : ∃ m1, m1 = (rn_u (rn_u (rn_u (rn_u (rn_u (rn_u (rn_u (rn_u (rn_u (rn_u (rn_u (rn_u (rn_u mi 116 17 (mi 116 60)) 116 0 (mi 116 61)) 116 1 (mi 116 62)) 116 2 (mi 116 63)) 116 3 (mi 116 64)) 116 4 (mi 116 65)) 116 5 (mi 116 66)) 116 6 (mi 116 67)) 116 7 (mi 116 68)) 116 8 (mi 116 69)) 116 49 (mi 116 70)) 116 53 (mi 116 71)) 116 54 (mi 116 72)) := ⟨_, rfl⟩
    have g1 : ∀ a, a ≠ 116 → m1 a = mi a := fun a a1 => by rw [hm1, rn_u_ne a1, rn_u_ne a1, rn_u_ne a1, rn_u_ne a1, rn_u_ne a1, rn_u_ne a1, rn_u_ne a1, rn_u_ne a1, rn_u_ne a1, rn_u_ne a1, rn_u_ne a1, rn_u_ne a1, rn_u_ne a1]
    have g2 : ∀ f, (8 < f ∧ f ≠ 17 ∧ f ≠ 49 ∧ f ≠ 53 ∧ f ≠ 54) → m1 116 f = mi 116 f := fun f hf => by rw [hm1]; simp only [rn_u, true_and]; rw [if_neg (by omega), if_neg (by omega), if_neg (by omega), if_neg (by omega), if_neg (by omega), if_neg (by omega), if_neg (by omega), if_neg (by omega), if_neg (by omega), if_neg (by omega), if_neg (by omega), if_neg (by omega), if_neg (by omega)]
    refine Eq.mp (congrArg (fun m => Run G _ M_X9_undo 116 [.ref 116, .int 0] [] (m, ml, RF D, 164) κ Q) hm1) ?_
    refine L_undo_116 (fun m2 v0 f0 c0 => ?_) 6 0 _ _ rfl rfl (fun _ _ _ _ _ _ _ => rfl) (fun j hj => absurd hj (Nat.not_lt_zero j))
    refine R_iconst (v := 0) dX9_undo_200 (by decide) ?_
    refine is_1 dX9_undo_201 rfl ?_
    refine L_undo_202 (fun m3 v1 f1 c1 => ?_) 24 0 _ _ rfl rfl (fun _ _ => rfl) (fun j hj => absurd hj (Nat.not_lt_zero j))
    refine R_iconst (v := 0) dX9_undo_226 (by decide) ?_
    refine is_1 dX9_undo_227 rfl ?_
    refine L_undo_228 (fun m4 v2 f2 c2 => ?_) 5 0 _ _ rfl rfl (fun _ _ _ _ => rfl) (fun j hj => absurd hj (Nat.not_lt_zero j))
    refine R_iconst (v := 0) dX9_undo_275 (by decide) ?_
    refine is_1 dX9_undo_276 rfl ?_
    refine L_undo_277 (fun m5 v3 f3 c3 => ?_) 10 0 _ _ rfl rfl (fun _ _ _ => rfl) (fun j hj => absurd hj (Nat.not_lt_zero j))
    refine R_iconst (v := 0) dX9_undo_313 (by decide) ?_
    refine is_1 dX9_undo_314 rfl ?_
    refine L_undo_315 (fun m6 v4 f4 c4 => ?_) 8 0 _ _ rfl rfl (fun _ _ _ => rfl) (fun j hj => absurd hj (Nat.not_lt_zero j))
    refine al_0 dX9_undo_351 ?_
    refine R_getfi dX9_undo_352 fl_RX9_13 rfl sh_116 (Nat.le_of_ble_eq_true rfl) ?_
    refine R_ireturn dX9_undo_355 ⟨_, rfl, rfl⟩ ?_
    have ea : ∀ a, a ≠ 116 → (a < 117 ∨ (123 < a ∧ a < 138) ∨ 144 < a) → m6 a = mi a := fun a a1 a2 => by rw [f4 a (by omega) (by omega), f3 a (by omega) (by omega), f2 a (by omega) (by omega) (by omega), f1 a (by omega), f0 a (by omega) (by omega) (by omega) (by omega) (by omega) (by omega)]; exact g1 a a1
    have e6 : ∀ f, m6 116 f = m1 116 f := fun f => by rw [f4 116 (by decide) (by decide), f3 116 (by decide) (by decide), f2 116 (by decide) (by decide) (by decide), f1 116 (by decide), f0 116 (by decide) (by decide) (by decide) (by decide) (by decide) (by decide)]
    have el_ : ∀ f, (8 < f ∧ f ≠ 17 ∧ f ≠ 49 ∧ f ≠ 53 ∧ f ≠ 54) → m6 116 f = mi 116 f := fun f hf => by rw [e6]; exact g2 f hf
    have c_117 : ∀ j, j < 6 → m6 117 j = mi 145 j := fun j hj => by rw [f4 117 (by decide) (by decide), f3 117 (by decide) (by decide), f2 117 (by decide) (by decide) (by decide), f1 117 (by decide), (c0 j hj).1, g1 145 (by decide)]
    have c_118 : ∀ j, j < 6 → m6 118 j = mi 146 j := fun j hj => by rw [f4 118 (by decide) (by decide), f3 118 (by decide) (by decide), f2 118 (by decide) (by decide) (by decide), f1 118 (by decide), (c0 j hj).2.1, g1 146 (by decide)]
    have c_119 : ∀ j, j < 6 → m6 119 j = mi 147 j := fun j hj => by rw [f4 119 (by decide) (by decide), f3 119 (by decide) (by decide), f2 119 (by decide) (by decide) (by decide), f1 119 (by decide), (c0 j hj).2.2.1, g1 147 (by decide)]
    have c_120 : ∀ j, j < 6 → m6 120 j = mi 148 j := fun j hj => by rw [f4 120 (by decide) (by decide), f3 120 (by decide) (by decide), f2 120 (by decide) (by decide) (by decide), f1 120 (by decide), (c0 j hj).2.2.2.1, g1 148 (by decide)]
    have c_121 : ∀ j, j < 6 → m6 121 j = mi 149 j := fun j hj => by rw [f4 121 (by decide) (by decide), f3 121 (by decide) (by decide), f2 121 (by decide) (by decide) (by decide), f1 121 (by decide), (c0 j hj).2.2.2.2.1, g1 149 (by decide)]
    have c_123 : ∀ j, j < 6 → m6 123 j = mi 150 j := fun j hj => by rw [f4 123 (by decide) (by decide), f3 123 (by decide) (by decide), f2 123 (by decide) (by decide) (by decide), f1 123 (by decide), (c0 j hj).2.2.2.2.2, g1 150 (by decide)]
    have c_122 : ∀ j, j < 24 → m6 122 j = mi 151 j := fun j hj => by rw [f4 122 (by decide) (by decide), f3 122 (by decide) (by decide), f2 122 (by decide) (by decide) (by decide), (c1 j hj), f0 151 (by decide) (by decide) (by decide) (by decide) (by decide) (by decide), g1 151 (by decide)]
    have c_138 : ∀ j, j < 5 → m6 138 j = mi 152 j := fun j hj => by rw [f4 138 (by decide) (by decide), f3 138 (by decide) (by decide), (c2 j hj).1, f1 152 (by decide), f0 152 (by decide) (by decide) (by decide) (by decide) (by decide) (by decide), g1 152 (by decide)]
    have c_139 : ∀ j, j < 5 → m6 139 j = mi 153 j := fun j hj => by rw [f4 139 (by decide) (by decide), f3 139 (by decide) (by decide), (c2 j hj).2.1, f1 153 (by decide), f0 153 (by decide) (by decide) (by decide) (by decide) (by decide) (by decide), g1 153 (by decide)]
    have c_140 : ∀ j, j < 5 → m6 140 j = mi 158 j &&& 1 := fun j hj => by rw [f4 140 (by decide) (by decide), f3 140 (by decide) (by decide), (c2 j hj).2.2, f1 158 (by decide), f0 158 (by decide) (by decide) (by decide) (by decide) (by decide) (by decide), g1 158 (by decide)]
    have c_141 : ∀ j, j < 10 → m6 141 j = mi 154 j := fun j hj => by rw [f4 141 (by decide) (by decide), (c3 j hj).1, f2 154 (by decide) (by decide) (by decide), f1 154 (by decide), f0 154 (by decide) (by decide) (by decide) (by decide) (by decide) (by decide), g1 154 (by decide)]
    have c_142 : ∀ j, j < 10 → m6 142 j = mi 155 j := fun j hj => by rw [f4 142 (by decide) (by decide), (c3 j hj).2, f2 155 (by decide) (by decide) (by decide), f1 155 (by decide), f0 155 (by decide) (by decide) (by decide) (by decide) (by decide) (by decide), g1 155 (by decide)]
    have c_143 : ∀ j, j < 8 → m6 143 j = mi 156 j := fun j hj => by rw [(c4 j hj).1, f3 156 (by decide) (by decide), f2 156 (by decide) (by decide) (by decide), f1 156 (by decide), f0 156 (by decide) (by decide) (by decide) (by decide) (by decide) (by decide), g1 156 (by decide)]
    have c_144 : ∀ j, j < 8 → m6 144 j = mi 157 j := fun j hj => by rw [(c4 j hj).2, f3 157 (by decide) (by decide), f2 157 (by decide) (by decide) (by decide), f1 157 (by decide), f0 157 (by decide) (by decide) (by decide) (by decide) (by decide) (by decide), g1 157 (by decide)]
    obtain ⟨i1, i2, i3, i4, i5, i6, i7⟩ := him
    obtain ⟨hev, hck⟩ := him2
    have hWq := hev.1
    obtain ⟨N2, P2, R2, hN2, hP2, hR2, u0, u2, u4, -⟩ := hWq
    have s0 : (wM (und mi) (cuL ds q.1)).1 0 = mi 116 61 := rfl
    have s2 : (wM (und mi) (cuL ds q.1)).1 2 = mi 116 62 := rfl
    have s4 : (wM (und mi) (cuL ds q.1)).1 4 = mi 116 69 := rfl
    rw [i3] at s0 s2 s4
    have m17 : m6 116 17 = theM q.1 := by rw [e6, hm1]; exact i2
    have hwm : wM m6 (cuL ds q.1) = q.2.1 := by
      rw [← i3]
      refine wM_ext6 (fun f hf => ?_) (fun a a1 a2 a3 j hj => ?_) (fun j hj => c_122 j hj) ?_ ?_ ?_
      · show m6 116 f = (if f < 9 then mi 116 (61 + f) else mi 116 f)
        by_cases h9 : f < 9
        · rw [if_pos h9, e6]
          have : f = 0 ∨ f = 1 ∨ f = 2 ∨ f = 3 ∨ f = 4 ∨ f = 5 ∨ f = 6 ∨ f = 7 ∨ f = 8 := by omega
          rcases this with rfl | rfl | rfl | rfl | rfl | rfl | rfl | rfl | rfl <;> (rw [hm1]; rfl)
        · rw [if_neg h9]; exact el_ f (by omega)
      · have : a = 117 ∨ a = 118 ∨ a = 119 ∨ a = 120 ∨ a = 121 ∨ a = 123 := by omega
        rcases this with rfl | rfl | rfl | rfl | rfl | rfl
        · exact c_117 j hj
        · exact c_118 j hj
        · exact c_119 j hj
        · exact c_120 j hj
        · exact c_121 j hj
        · exact c_123 j hj
      · show nn (mi 116 61) ≤ 6; rw [← s0, u0, nnI (by omega)]; exact hN2
      · show nn (mi 116 62) ≤ 6; rw [← s2, u2, nnI (by omega)]; exact hP2
      · show nn (mi 116 69) ≤ 6; rw [← s4, u4, nnI (by omega)]; exact hR2
    have hMD : MDk m6 k ds q.1 := ⟨by rw [el_ 16 (by omega)]; exact hr.2.1.1, m17, fun j hj => (hr.2.1.2.2 j hj).fr (by rw [ea 125 (by decide) (by omega)]) (ea 126 (by decide) (by omega)) (ea 127 (by decide) (by omega)) (ea 128 (by decide) (by omega)) (ea 129 (by decide) (by omega)) (ea 130 (by decide) (by omega))⟩
    have hCM : CM m6 (cuL ds q.1) := by
      by_cases c0 : q.1 = 0
      · rw [c0] at m17 ⊢
        refine ⟨Or.inl ?_, fun a ha => absurd ha List.not_mem_nil, 0, by show 0 + ([] : CL).length ≤ 60; decide, ?_, ?_, fun a b hc => absurd hc (by simp [cuL])⟩
        · rw [m17]; exact (by decide : (-1 : Int32) < 0)
        · unfold begM; rw [m17]; rfl
        · unfold behM; rw [m17]; rfl
      · rw [show cuL ds q.1 = ds (q.1 - 1) from if_neg c0]
        exact CM.of (hMD.2.2 (q.1 - 1) (by omega)) (by omega) (by rw [m17]; exact if_neg c0)
    refine ret_eq (h m6 ml (lo_of (fun a ha => ea a (by omega) (by omega))) ⟨⟨hCM, hwm, fun i j1 j2 => ?_, by rw [el_ 33 (by omega)]; exact hB.2.2.2.1, by rw [el_ 34 (by omega)]; exact hB.2.2.2.2.1, by rw [el_ 35 (by omega)]; exact hB.2.2.2.2.2⟩, hMD, ⟨?_, fun j q2 hj => ?_⟩, ⟨?_, fun j q2 hj => ?_⟩, ⟨?_, fun j q2 hj => ?_⟩, MIm.fr (im := some q) ⟨i1, i2, i3, i4, i5, i6, i7⟩ (fun f hf => el_ f (by omega)) (fun a a1 a2 => ea a (by omega) (by omega)), hr.2.2.2.2.2.2.1.fr (el_ 18 (by omega)) (ea 124 (by decide) (by omega)), hr.2.2.2.2.2.2.2.1.fr (ea 132 (by decide) (by omega)), hr.2.2.2.2.2.2.2.2.1.fr (el_ 87 (by omega)) (ea 159 (by decide) (by omega)), hr.2.2.2.2.2.2.2.2.2.fr (ea 160 (by decide) (by omega)) (ea 161 (by decide) (by omega)) rfl⟩) rfl ?_
    · rw [e6, hm1] at j1; rw [e6, hm1]; exact i4 i j1 j2
    · rw [e6, hm1]; exact i5.1
    · have hlt := (List.getElem?_eq_some_iff.mp hj).1
      have hlt : j < q.2.2.1.length := hlt
      have h5 := hev.2.1
      obtain ⟨b1, b2, b3⟩ := i5.2 j q2 hj
      exact ⟨by rw [c_138 j (by omega)]; exact b1, by rw [c_139 j (by omega)]; exact b2, by rw [c_140 j (by omega), b3]; exact bi_and1 _⟩
    · rw [e6, hm1]; exact i6.1
    · have hlt := (List.getElem?_eq_some_iff.mp hj).1
      have hlt : j < q.2.2.2.1.length := hlt
      have h5 := hev.2.2.2.1
      obtain ⟨b1, b2⟩ := i6.2 j q2 hj
      exact ⟨by rw [c_141 j (by omega)]; exact b1, fun q1 => by rw [c_142 j (by omega)]; exact b2 q1⟩
    · rw [e6, hm1]; exact i7.1
    · have hlt := (List.getElem?_eq_some_iff.mp hj).1
      have hlt : j < q.2.2.2.2.length := hlt
      have h5 := hev.2.2.2.2.2.1
      obtain ⟨b1, b2⟩ := i7.2 j q2 hj
      exact ⟨by rw [c_143 j (by omega)]; exact b1, by rw [c_144 j (by omega)]; exact b2⟩
    · show m6 116 1 = q.2.1.1 2; rw [e6, hm1, s2]; rfl
