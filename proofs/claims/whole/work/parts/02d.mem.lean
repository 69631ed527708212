/-! THE LOGIC, part 4: rows of the memory -/
def rn_u {α : Type} (f : Nat → Nat → α) (a k : Nat) (v : α) : Nat → Nat → α := fun b j => if b = a ∧ j = k then v else f b j
def rn_z {α : Type} (f : Nat → Nat → α) (a : Nat) (v : α) : Nat → Nat → α := fun b j => if b = a then v else f b j
def rn_cp {α : Type} (f : Nat → Nat → α) (a0 sp a dp len : Nat) : Nat → Nat → α := fun b j => if b = a ∧ dp ≤ j ∧ j < dp + len then f a0 (sp + (j - dp)) else f b j
theorem rn_u_ne {α : Type} {f : Nat → Nat → α} {a k b : Nat} {v : α} (h : b ≠ a) : rn_u f a k v b = f b := by
  funext j
  simp [rn_u, h]
theorem rn_u_at {α : Type} {f : Nat → Nat → α} {a k : Nat} {v : α} : rn_u f a k v a = fun j => if j = k then v else f a j := by
  funext j
  simp [rn_u]
theorem rn_e_congr {G : rn_G} {σ σ' : rn_S} {b : Nat} (h1 : σ'.1 b = σ.1 b) (h2 : σ'.2.1 b = σ.2.1 b) (h3 : σ'.2.2.1 b = σ.2.2.1 b) : rn_e G σ' b = rn_e G σ b := by
  have hf : rn_fv G σ' b = rn_fv G σ b := by
    funext ci k
    unfold rn_fv
    rw [h1, h2, h3]
  unfold rn_e
  rw [hf, h1, h2, h3]
def rn_FL (own : String) (idx ci k : Nat) : Prop := ∃ q : vw_C, vwCl[ci]? = some q ∧ k < q.2.2 ∧ Cond.fieldLink own idx (q.2.1 k).1 (q.2.1 k).2.1 (q.2.1 k).2.2.1 ∈ rn_WS
def rn_fin (ci k : Nat) : Bool := match vwCl[ci]? with
  | some q => (q.2.1 k).2.2.2
  | none => false
def rn_dec (ci k : Nat) : String := match vwCl[ci]? with
  | some q => (q.2.1 k).1
  | none => ""
def rn_ix (i : Int32) (j : Nat) : Prop := ¬ i < 0 ∧ i.toNatClampNeg = j
theorem rn_ix.vp {i : Int32} {j L : Nat} (h : rn_ix i j) (hj : j < L) : vp_in i L := by
  rintro (q | q)
  · exact h.1 q
  · rw [h.2] at q; omega
theorem rn_ix_nI {k : Nat} (h : k < 2 ^ 31) : rn_ix (nI k) k := ⟨nI_pos h, nI_clamp h⟩
section RM
variable {G : rn_G} {d : Nat} {M M' : rn_M} {pc : Nat} {ls st : List Value} {σ : rn_S} {mi : Nat → Nat → Int32} {ml : Nat → Nat → Int64} {rf : Nat → Nat → Nat} {n : Nat} {κ κ' κ'' : Nat × Nat} {Q : Option Value → rn_S → Prop}
theorem rn_fsk {σ : rn_S} {a ci k : Nat} (hk : k < rn_N ci) : ((List.range (rn_N ci)).map (rn_fv G σ a ci))[k]? = some (rn_fv G σ a ci k) := by
  rw [List.getElem?_map, List.getElem?_range hk]
  rfl
theorem R_getfi {idx ci k a : Nat} (hd : decode M.2.1 pc = .ok (.getfield idx, 3)) (hf : rn_FL M.1.cls idx ci k) (hk : rn_fk ci k = 0) (hs : SH a = (ci, 0)) (ha : a < n)
    (kk : Run G d M (pc + 3) ls (.int (mi a k) :: st) (mi, ml, rf, n) κ Q) : Run G d M pc ls (.ref a :: st) (mi, ml, rf, n) κ Q := by
  intro p e R s m args below meth c C CT ST Z h1 h2 hH H locs cells slots lsA hR hL hc hs2
  obtain ⟨q, hq, hkq, hw⟩ := hf
  obtain ⟨g1, g2, hW⟩ := rn_ob (G := G) hs (List.getElem?_eq_some_iff.mp hq).1 (show a < (mi, ml, rf, n).2.2.2 from ha)
  show W _ _ _ _ _ _ _ _ _ _ _ _ _ _ _ (F0 m pc lsA (rn_cv G (.ref a) :: st.map (rn_cv G)))
  rw [rn_cv_near g1 g2]
  have hv := rn_fsk (G := G) (σ := (mi, ml, rf, n)) (a := a) (ci := ci) (k := k) (by rw [← rn_Nok ci q hq]; exact hkq)
  have k2 := kk p e R s m args below meth c C CT ST Z h1 h2 hH H locs cells slots lsA hR hL hc hs2
  refine va_get C.1.1 C.1.2.1 (C := q.1) (T := q.2.1) (N := q.2.2) C.1.2.2.2.2 (rn_in ci q hq) C.1.2.2.2.1 C.2.1 hR.1 (a - 1) hW hq k hkq (C.1.2.2.2.2 _ hw) (fun x h => h) hv hd ?_
  have e1 : rn_fv G (mi, ml, rf, n) a ci k = .int (mi a k) := by unfold rn_fv; rw [hk]; rfl
  rw [e1]
  exact k2
theorem R_getfr {idx ci k a r : Nat} (hd : decode M.2.1 pc = .ok (.getfield idx, 3)) (hf : rn_FL M.1.cls idx ci k) (hk : rn_fk ci k = 2) (hs : SH a = (ci, 0)) (ha : a < n) (hr : rf a k = r)
    (kk : Run G d M (pc + 3) ls (.ref r :: st) (mi, ml, rf, n) κ Q) : Run G d M pc ls (.ref a :: st) (mi, ml, rf, n) κ Q := by
  subst hr
  intro p e R s m args below meth c C CT ST Z h1 h2 hH H locs cells slots lsA hR hL hc hs2
  obtain ⟨q, hq, hkq, hw⟩ := hf
  obtain ⟨g1, g2, hW⟩ := rn_ob (G := G) hs (List.getElem?_eq_some_iff.mp hq).1 (show a < (mi, ml, rf, n).2.2.2 from ha)
  show W _ _ _ _ _ _ _ _ _ _ _ _ _ _ _ (F0 m pc lsA (rn_cv G (.ref a) :: st.map (rn_cv G)))
  rw [rn_cv_near g1 g2]
  have hv := rn_fsk (G := G) (σ := (mi, ml, rf, n)) (a := a) (ci := ci) (k := k) (by rw [← rn_Nok ci q hq]; exact hkq)
  have k2 := kk p e R s m args below meth c C CT ST Z h1 h2 hH H locs cells slots lsA hR hL hc hs2
  refine va_get C.1.1 C.1.2.1 (C := q.1) (T := q.2.1) (N := q.2.2) C.1.2.2.2.2 (rn_in ci q hq) C.1.2.2.2.1 C.2.1 hR.1 (a - 1) hW hq k hkq (C.1.2.2.2.2 _ hw) (fun x h => h) hv hd ?_
  have e1 : rn_fv G (mi, ml, rf, n) a ci k = rn_cv G (.ref (rf a k)) := by unfold rn_fv; rw [hk]; rfl
  rw [e1]
  exact k2
/-- what a heap holds behind a store -/
theorem rn_Rst {σ σ' : rn_S} {s : State} {H H1 : Heap} {locs : List Loc} {a : Nat} {e0 : va_E} (hR : rn_R G σ s H locs) (h1 : 1 ≤ a) (h2 : a < σ.2.2.2) (hw : (rn_W G σ)[a - 1]? = some (rn_b G + a, e0)) (hn : σ'.2.2.2 = σ.2.2.2) (ho : ∀ b : Nat, b ≠ a → rn_e G σ' b = rn_e G σ b)
    (hc : va_at (rn_D G) vwCl (rn_b G + a, rn_e G σ' a) H1) (z : H1.size = H.size) (oq : ∀ q : Nat, q ≠ rn_b G + a → H1[q]? = H[q]?) (k : Nat) : rn_R G σ' s H1 (locs ++ [⟨rn_b G + a, k⟩]) := by
  refine ⟨?_, by rw [hn, z]; exact hR.2.1, by rw [hn]; exact hR.2.2.1, hR.2.2.2.put z oq (show rn_b G < rn_b G + a by omega)⟩
  rw [← rn_Wset h1 h2 hn ho rfl]
  exact hR.1.set (rn_WD G σ) hw hc oq
set_option maxHeartbeats 4000000 in
theorem rn_putC {p : Program} {e : Env} {R : Room} {s : State} {m : MethodId} {args : Array Value} {below : List Frame} {meth : Method} {c : Code} (C : rn_C G d M p R s m args meth c) {Z : State → Prop} {H : Heap} {locs : List Loc} {cells slots : Nat} {lsA : Array Slot} {σ σ' : rn_S} (hR : rn_R G σ s H locs) {idx ci k a : Nat} {w : Value} {rest : List Value}
    (hd : decode M.2.1 pc = .ok (.putfield idx, 3)) (hf : rn_FL M.1.cls idx ci k) (hfin : rn_fin ci k = false ∨ (rn_fin ci k = true ∧ M.1.name = "<init>" ∧ rn_dec ci k = M.1.cls)) (hs : SH a = (ci, 0)) (ha : a < σ.2.2.2) (hn : narrow (rn_ty ci k) w = w) (hfit : fits (rn_ty ci k) w = true)
    (hσn : σ'.2.2.2 = σ.2.2.2) (ho : ∀ b : Nat, b ≠ a → rn_e G σ' b = rn_e G σ b) (hσ : ∀ j, rn_fv G σ' a ci j = if j = k then w else rn_fv G σ a ci j)
    (kk : ∀ (H1 : Heap) (locs1 : List Loc), rn_R G σ' s H1 locs1 → W p (rn_l G) e R s m args below meth c H1 locs1 cells slots Z (F0 m (pc + 3) lsA rest)) : W p (rn_l G) e R s m args below meth c H locs cells slots Z (F0 m pc lsA (w :: .ref (rn_b G + a) :: rest)) := by
  obtain ⟨q, hq, hkq, hw⟩ := hf
  obtain ⟨⟨hx, hb, hml, hown, hts⟩, hK, hE, hf1, hf2, hnm⟩ := id C
  have h10 : ci < 10 := (List.getElem?_eq_some_iff.mp hq).1
  obtain ⟨g1, g2, hW⟩ := rn_ob (G := G) hs h10 ha
  have hNq := rn_Nok ci q hq
  have hap := va_apart (own := M.1.cls) hts (rn_in ci q hq) (rn_ty ci) (rn_tyok ci q hq) (rn_nm ci q hq) hK hq
  obtain ⟨r, hr1, cell, q1, q2, q3, q4⟩ := hR.1 (a - 1) _ hW
  have hr : r = q := Option.some.inj (hr1.symm.trans hq)
  subst hr
  obtain ⟨hS, hfc, kC, hkC, hkind⟩ := hK.1 ci _ hq
  obtain ⟨cf, kf, fi, f, hi, hsl⟩ := hS k hkq
  have hlays := u_lays hts (rn_in ci r hq) hkq
  have hst := (u_facts hfc hkC hlays hi).1
  have hlay := hts _ (rn_in ci r hq _ (u_in_lay hkq))
  have hffin : rn_fin ci k = (r.2.1 k).2.2.2 := by unfold rn_fin; rw [hq]
  have hdd : rn_dec ci k = (r.2.1 k).1 := by unfold rn_dec; rw [hq]
  have hd2 := rn_tyok ci r hq k hkq
  have hcell : ∀ H' : Heap, H'[rn_b G + a]? = some (cell.setSlot f.slot w) → va_at (rn_D G) vwCl (rn_b G + a, rn_e G σ' a) H' := by
    intro H' e1
    have e2 : rn_e G σ' a = .inr (ci, (List.range (rn_N ci)).map (rn_fv G σ' a ci)) := by unfold rn_e; rw [hs, if_pos h10]
    rw [e2]
    have hOB : t_OB (rn_b G + a) ((rn_D G).1 ci) r.2.2 ((rn_D G).2 ci) H' (updV (vp_V ((List.range (rn_N ci)).map (rn_fv G σ a ci))) k w) :=
      ⟨cell.setSlot ((rn_D G).2 ci k) w, by rw [← hsl]; exact e1, q2, q3, t_set (N := r.2.2) (iS := (rn_D G).2 ci) (V := vp_V ((List.range (rn_N ci)).map (rn_fv G σ a ci))) q4 hap hkq w⟩
    refine ⟨r, hq, hOB.to (fun j hj => ?_)⟩
    rw [hNq] at hj
    unfold updV vp_V
    rw [List.getD_eq_getElem?_getD, List.getD_eq_getElem?_getD, rn_fsk hj, rn_fsk hj, hσ j]
    rfl
  have fin : ∀ H' : Heap, H'[rn_b G + a]? = some (cell.setSlot f.slot w) → H'.size = H.size → (∀ x, x ≠ rn_b G + a → H'[x]? = H[x]?) → W p (rn_l G) e R s m args below meth c H' (locs ++ [⟨rn_b G + a, f.slot⟩]) cells slots Z (F0 m (pc + 3) lsA rest) := fun H' e1 e2 e3 =>
    kk H' _ (rn_Rst hR g1 ha hW hσn ho (hcell H' e1) e2 e3 f.slot)
  rcases hfin with hfin | ⟨hfin, hin, hdec⟩
  · unfold u_lay at hlay
    rw [if_neg (by rw [← hffin, hfin]; decide)] at hlay
    have h6 := u_store hfc hkC hkind hlay hi hd2 hn hfit
    exact W.putK hx hb (f := f) ⟨hown, hts _ hw, ⟨_, _, _, hi⟩, hst⟩ (by rw [q2]; exact h6) q1 q3 (by rw [hsl]; exact k2_hasslot (q4 k hkq)) rfl rfl hd fin
  · unfold u_lay at hlay
    rw [if_pos (by rw [← hffin]; exact hfin)] at hlay
    have hcf : m.cls = cf := by
      obtain ⟨_, _, c', _, _, _, -, -, hf', -, -, -, hown2, -⟩ := Cond.laysFinal_spec hlay
      have e1 : c' = cf := by have := hi.symm.trans hf'; simp at this; exact this.1.symm
      rw [← hdd, hdec] at hown2
      rw [← e1]; exact Option.some.inj (hown.symm.trans hown2)
    have h6 := u_fits hfc hkC hkind (Or.inr hlay) hi hd2 hn hfit
    exact W.putFinK hx hb hown (hts _ hw) hi hst hcf (hnm.trans hin) (by rw [q2]; exact h6) q1 q3 (by rw [hsl]; exact k2_hasslot (q4 k hkq)) rfl rfl hd fin
theorem R_putfi {idx ci k a : Nat} {v : Int32} (hd : decode M.2.1 pc = .ok (.putfield idx, 3)) (hf : rn_FL M.1.cls idx ci k) (hk : rn_fk ci k = 0) (hfin : rn_fin ci k = false ∨ (rn_fin ci k = true ∧ M.1.name = "<init>" ∧ rn_dec ci k = M.1.cls)) (hs : SH a = (ci, 0)) (ha : a < n) (hn : narrow (rn_ty ci k) (.int v) = .int v) (hfit : fits (rn_ty ci k) (.int v) = true)
    (kk : Run G d M (pc + 3) ls st (rn_u mi a k v, ml, rf, n) κ Q) : Run G d M pc ls (.int v :: .ref a :: st) (mi, ml, rf, n) κ Q := by
  intro p e R s m args below meth c C CT ST Z h1 h2 hH H locs cells slots lsA hR hL hc hs2
  have h3 := SH_lt (a := a) (by rw [hs]; obtain ⟨q, hq, -⟩ := hf; have := (List.getElem?_eq_some_iff.mp hq).1; have h10 : ci < 10 := this; show ci < 99; omega)
  show W _ _ _ _ _ _ _ _ _ _ _ _ _ _ _ (F0 m pc lsA (.int v :: rn_cv G (.ref a) :: st.map (rn_cv G)))
  rw [rn_cv_near h3.1 (by omega)]
  refine rn_putC (σ' := (rn_u mi a k v, ml, rf, n)) C hR hd hf hfin hs ha hn hfit rfl (fun b hb => rn_e_congr (rn_u_ne hb) rfl rfl) (fun j => ?_) (fun H1 locs1 hR1 => kk p e R s m args below meth c C CT ST Z h1 h2 hH H1 locs1 cells slots lsA hR1 hL hc hs2)
  unfold rn_fv
  by_cases hj : j = k
  · subst hj
    rw [hk, if_pos rfl]
    simp [rn_u]
  · rw [if_neg hj]
    simp [rn_u, hj]
theorem rn_va_nar {ty : FieldType} (h : rn_ks ty = 2) (o : Option Nat) : narrow ty (va_rf o) = va_rf o ∧ fits ty (va_rf o) = true := by
  cases ty <;> first | (cases h; done) | (cases o <;> exact ⟨rfl, rfl⟩)
theorem R_putfr {idx ci k a r : Nat} (hd : decode M.2.1 pc = .ok (.putfield idx, 3)) (hf : rn_FL M.1.cls idx ci k) (hk : rn_fk ci k = 2) (hfin : rn_fin ci k = false ∨ (rn_fin ci k = true ∧ M.1.name = "<init>" ∧ rn_dec ci k = M.1.cls)) (hs : SH a = (ci, 0)) (ha : a < n)
    (kk : Run G d M (pc + 3) ls st (mi, ml, rn_u rf a k r, n) κ Q) : Run G d M pc ls (.ref r :: .ref a :: st) (mi, ml, rf, n) κ Q := by
  intro p e R s m args below meth c C CT ST Z h1 h2 hH H locs cells slots lsA hR hL hc hs2
  have h3 := SH_lt (a := a) (by rw [hs]; obtain ⟨q, hq, -⟩ := hf; have := (List.getElem?_eq_some_iff.mp hq).1; have h10 : ci < 10 := this; show ci < 99; omega)
  show W _ _ _ _ _ _ _ _ _ _ _ _ _ _ _ (F0 m pc lsA (va_rf (rn_o G r) :: rn_cv G (.ref a) :: st.map (rn_cv G)))
  rw [rn_cv_near h3.1 (by omega)]
  refine rn_putC (σ' := (mi, ml, rn_u rf a k r, n)) C hR hd hf hfin hs ha (rn_va_nar hk _).1 (rn_va_nar hk _).2 rfl (fun b hb => rn_e_congr rfl rfl (rn_u_ne hb)) (fun j => ?_) (fun H1 locs1 hR1 => kk p e R s m args below meth c C CT ST Z h1 h2 hH H1 locs1 cells slots lsA hR1 hL hc hs2)
  unfold rn_fv
  by_cases hj : j = k
  · subst hj
    rw [hk, if_pos rfl, if_pos rfl]
    simp [rn_u]
  · rw [if_neg hj]
    simp [rn_u, hj]
/-! arrays -/
theorem rn_arI {a t L : Nat} {σ : rn_S} (hs : SH a = (10 + t, L)) (ht : t = 0 ∨ t = 2 ∨ t = 3) (ha : a < σ.2.2.2) : 1 ≤ a ∧ a < 1000 ∧ (rn_W G σ)[a - 1]? = some (rn_b G + a, .inl (rn_cA G t, L, .inl (σ.1 a))) ∧ rn_e G σ a = .inl (rn_cA G t, L, .inl (σ.1 a)) := by
  obtain ⟨h1, h2, h3⟩ := rn_ar (G := G) hs (by omega) ha
  rw [if_neg (by omega), if_neg (by omega)] at h3
  refine ⟨h1, h2, h3, ?_⟩
  rw [rn_Wg h1 ha] at h3
  exact (Prod.mk.inj (Option.some.inj h3)).2
theorem rn_arL {a L : Nat} {σ : rn_S} (hs : SH a = (11, L)) (ha : a < σ.2.2.2) : 1 ≤ a ∧ a < 1000 ∧ (rn_W G σ)[a - 1]? = some (rn_b G + a, .inl (rn_cA G 1, L, .inr (.inl (σ.2.1 a)))) ∧ rn_e G σ a = .inl (rn_cA G 1, L, .inr (.inl (σ.2.1 a))) := by
  obtain ⟨h1, h2, h3⟩ := rn_ar (G := G) (t := 1) hs (by omega) ha
  rw [if_pos rfl] at h3
  refine ⟨h1, h2, h3, ?_⟩
  rw [rn_Wg h1 ha] at h3
  exact (Prod.mk.inj (Option.some.inj h3)).2
theorem rn_arR {a t L : Nat} {σ : rn_S} (hs : SH a = (10 + t, L)) (ht : t = 4 ∨ t = 5 ∨ t = 6) (ha : a < σ.2.2.2) : 1 ≤ a ∧ a < 1000 ∧ (rn_W G σ)[a - 1]? = some (rn_b G + a, .inl (rn_cA G t, L, .inr (.inr (.inr (.inr (fun k => rn_o G (σ.2.2.1 a k))))))) ∧ rn_e G σ a = .inl (rn_cA G t, L, .inr (.inr (.inr (.inr (fun k => rn_o G (σ.2.2.1 a k)))))) := by
  obtain ⟨h1, h2, h3⟩ := rn_ar (G := G) hs (by omega) ha
  rw [if_neg (by omega), if_pos (by omega)] at h3
  refine ⟨h1, h2, h3, ?_⟩
  rw [rn_Wg h1 ha] at h3
  exact (Prod.mk.inj (Option.some.inj h3)).2
theorem rn_cvs {a : Nat} (h1 : 1 ≤ a) (h2 : a < 1000) (st : List Value) : (Value.ref a :: st).map (rn_cv G) = .ref (rn_b G + a) :: st.map (rn_cv G) := by rw [List.map_cons, rn_cv_near h1 h2]
theorem R_iald {a L j : Nat} {i : Int32} (hd : decode M.2.1 pc = .ok (.iaload, 1)) (hs : SH a = (10, L)) (ha : a < n) (hi : rn_ix i j) (hj : j < L)
    (kk : Run G d M (pc + 1) ls (.int (mi a j) :: st) (mi, ml, rf, n) κ Q) : Run G d M pc ls (.int i :: .ref a :: st) (mi, ml, rf, n) κ Q := by
  intro p e R s m args below meth c C CT ST Z h1 h2 hH H locs cells slots lsA hR hL hc hs2
  obtain ⟨g1, g2, hW, -⟩ := rn_arI (G := G) (t := 0) (σ := (mi, ml, rf, n)) hs (by omega) ha
  have k2 := kk p e R s m args below meth c C CT ST Z h1 h2 hH H locs cells slots lsA hR hL hc hs2
  rw [← hi.2] at k2
  rw [List.map_cons, rn_cvs g1 g2]
  exact va_iald C.1.1 C.1.2.1 C.2.1 hR.1 (a - 1) 0 hW rfl (hi.vp hj) hd k2
theorem R_bald {a L j : Nat} {i : Int32} (hd : decode M.2.1 pc = .ok (.baload, 1)) (hs : SH a = (12, L)) (ha : a < n) (hi : rn_ix i j) (hj : j < L)
    (kk : Run G d M (pc + 1) ls (.int (mi a j) :: st) (mi, ml, rf, n) κ Q) : Run G d M pc ls (.int i :: .ref a :: st) (mi, ml, rf, n) κ Q := by
  intro p e R s m args below meth c C CT ST Z h1 h2 hH H locs cells slots lsA hR hL hc hs2
  obtain ⟨g1, g2, hW, -⟩ := rn_arI (G := G) (t := 2) (σ := (mi, ml, rf, n)) hs (by omega) ha
  have k2 := kk p e R s m args below meth c C CT ST Z h1 h2 hH H locs cells slots lsA hR hL hc hs2
  rw [← hi.2] at k2
  rw [List.map_cons, rn_cvs g1 g2]
  exact va_bald C.1.1 C.1.2.1 C.2.1 hR.1 (a - 1) 2 hW rfl (hi.vp hj) hd k2
theorem R_zald {a L j : Nat} {i : Int32} (hd : decode M.2.1 pc = .ok (.baload, 1)) (hs : SH a = (13, L)) (ha : a < n) (hi : rn_ix i j) (hj : j < L)
    (kk : Run G d M (pc + 1) ls (.int (mi a j) :: st) (mi, ml, rf, n) κ Q) : Run G d M pc ls (.int i :: .ref a :: st) (mi, ml, rf, n) κ Q := by
  intro p e R s m args below meth c C CT ST Z h1 h2 hH H locs cells slots lsA hR hL hc hs2
  obtain ⟨g1, g2, hW, -⟩ := rn_arI (G := G) (t := 3) (σ := (mi, ml, rf, n)) hs (by omega) ha
  have k2 := kk p e R s m args below meth c C CT ST Z h1 h2 hH H locs cells slots lsA hR hL hc hs2
  rw [← hi.2] at k2
  rw [List.map_cons, rn_cvs g1 g2]
  exact va_zald C.1.1 C.1.2.1 C.2.1 hR.1 (a - 1) 3 hW rfl (hi.vp hj) hd k2
theorem R_lald {a L j : Nat} {i : Int32} (hd : decode M.2.1 pc = .ok (.laload, 1)) (hs : SH a = (11, L)) (ha : a < n) (hi : rn_ix i j) (hj : j < L)
    (kk : Run G d M (pc + 1) ls (.long (ml a j) :: st) (mi, ml, rf, n) κ Q) : Run G d M pc ls (.int i :: .ref a :: st) (mi, ml, rf, n) κ Q := by
  intro p e R s m args below meth c C CT ST Z h1 h2 hH H locs cells slots lsA hR hL hc hs2
  obtain ⟨g1, g2, hW, -⟩ := rn_arL (G := G) (σ := (mi, ml, rf, n)) hs ha
  have k2 := kk p e R s m args below meth c C CT ST Z h1 h2 hH H locs cells slots lsA hR hL hc hs2
  rw [← hi.2] at k2
  rw [List.map_cons, rn_cvs g1 g2]
  exact va_lald C.1.1 C.1.2.1 C.2.1 hR.1 (a - 1) 1 hW rfl (hi.vp hj) hd k2
def rn_tC (t : Nat) : String := match t with
  | 4 => RX4 | 5 => RX1 | _ => RX7
theorem rn_tyq {t : Nat} (ht : t = 4 ∨ t = 5 ∨ t = 6) : (rn_tys G)[t]? = some (rn_cA G t, .object (rn_tC t)) := by
  rcases ht with rfl | rfl | rfl <;> rfl
theorem R_aald {a t L j r : Nat} {i : Int32} (hd : decode M.2.1 pc = .ok (.aaload, 1)) (ht : t = 4 ∨ t = 5 ∨ t = 6) (hs : SH a = (10 + t, L)) (ha : a < n) (hi : rn_ix i j) (hj : j < L) (hr : rf a j = r)
    (kk : Run G d M (pc + 1) ls (.ref r :: st) (mi, ml, rf, n) κ Q) : Run G d M pc ls (.int i :: .ref a :: st) (mi, ml, rf, n) κ Q := by
  intro p e R s m args below meth c C CT ST Z h1 h2 hH H locs cells slots lsA hR hL hc hs2
  obtain ⟨g1, g2, hW, -⟩ := rn_arR (G := G) (σ := (mi, ml, rf, n)) hs ht ha
  have k2 := kk p e R s m args below meth c C CT ST Z h1 h2 hH H locs cells slots lsA hR hL hc hs2
  subst hr
  rw [← hi.2] at k2
  rw [List.map_cons, rn_cvs g1 g2]
  exact va_aldq C.1.1 C.1.2.1 C.2.1 hR.1 (a - 1) t hW (rn_tyq ht) (hi.vp hj) hd k2
theorem rn_sti (cA : ClassId) (L j : Nat) (f : Nat → Int32) (x : Int32) : (vp_cell cA (L, .inl f)).setSlot j (.int x) = vp_cell cA (L, .inl (fun k => if k = j then x else f k)) := by
  rw [vp_cell_i, vp_cell_i, arrV_store]
  congr 1
  funext q
  by_cases hq : q = j
  · subst hq; simp [updV]
  · simp [updV, hq]
theorem rn_stl (cA : ClassId) (L j : Nat) (f : Nat → Int64) (x : Int64) : (vp_cell cA (L, .inr (.inl f))).setSlot j (.long x) = vp_cell cA (L, .inr (.inl (fun k => if k = j then x else f k))) := by
  rw [vp_cell_l, vp_cell_l, arrV_store]
  congr 1
  funext q
  by_cases hq : q = j
  · subst hq; simp [updV]
  · simp [updV, hq]
theorem rn_vin {i : Int32} {j L : Nat} {cA : ClassId} {f : Nat → Value} (hi : rn_ix i j) (hj : j < L) : ¬ (i < 0 ∨ (arrV cA L f).slots.size ≤ i.toNatClampNeg) := by
  rw [arrV_size]
  exact hi.vp hj
theorem rn_Rsti {s : State} {H H1 : Heap} {locs : List Loc} {a t L j : Nat} {x : Int32} (hR : rn_R G (mi, ml, rf, n) s H locs) (hs : SH a = (10 + t, L)) (ht : t = 0 ∨ t = 2 ∨ t = 3) (ha : a < n) (e1 : H1[rn_b G + a]? = some ((vp_cell (rn_cA G t) (L, .inl (mi a))).setSlot j (.int x))) (z : H1.size = H.size) (oq : ∀ q : Nat, q ≠ rn_b G + a → H1[q]? = H[q]?) : rn_R G (rn_u mi a j x, ml, rf, n) s H1 (locs ++ [⟨rn_b G + a, j⟩]) := by
  obtain ⟨g1, g2, hW, -⟩ := rn_arI (G := G) (σ := (mi, ml, rf, n)) hs ht ha
  obtain ⟨-, -, -, he⟩ := rn_arI (G := G) (σ := (rn_u mi a j x, ml, rf, n)) hs ht ha
  refine rn_Rst (σ' := (rn_u mi a j x, ml, rf, n)) hR g1 ha hW rfl (fun b hb => rn_e_congr (rn_u_ne hb) rfl rfl) ?_ z oq j
  rw [he]
  show H1[rn_b G + a]? = some (vp_cell (rn_cA G t) (L, .inl (rn_u mi a j x a)))
  rw [e1, rn_sti, rn_u_at]
theorem R_iast {a L j : Nat} {i x : Int32} (hd : decode M.2.1 pc = .ok (.iastore, 1)) (hs : SH a = (10, L)) (ha : a < n) (hi : rn_ix i j) (hj : j < L)
    (kk : Run G d M (pc + 1) ls st (rn_u mi a j x, ml, rf, n) κ Q) : Run G d M pc ls (.int x :: .int i :: .ref a :: st) (mi, ml, rf, n) κ Q := by
  intro p e R s m args below meth c C CT ST Z h1 h2 hH H locs cells slots lsA hR hL hc hs2
  obtain ⟨g1, g2, hW, -⟩ := rn_arI (G := G) (t := 0) (σ := (mi, ml, rf, n)) hs (by omega) ha
  rw [List.map_cons, List.map_cons, rn_cvs g1 g2]
  refine W.iast C.1.1 C.1.2.1 (hR.1 _ _ hW) ((C.2.1.2 0 _ rfl).1 L (fun j => .int (mi a j))) (fun q => by cases q) (rn_vin hi hj) rfl rfl hd fun H1 e1 z oq => ?_
  rw [hi.2] at e1 ⊢
  exact kk p e R s m args below meth c C CT ST Z h1 h2 hH H1 _ cells slots lsA (rn_Rsti (t := 0) hR hs (by omega) ha e1 z oq) hL hc hs2
theorem R_bast {a L j : Nat} {i x y : Int32} (hd : decode M.2.1 pc = .ok (.bastore, 1)) (hs : SH a = (12, L)) (ha : a < n) (hi : rn_ix i j) (hj : j < L) (hv : narrow .byte (.int x) = .int y)
    (kk : Run G d M (pc + 1) ls st (rn_u mi a j y, ml, rf, n) κ Q) : Run G d M pc ls (.int x :: .int i :: .ref a :: st) (mi, ml, rf, n) κ Q := by
  intro p e R s m args below meth c C CT ST Z h1 h2 hH H locs cells slots lsA hR hL hc hs2
  obtain ⟨g1, g2, hW, -⟩ := rn_arI (G := G) (t := 2) (σ := (mi, ml, rf, n)) hs (by omega) ha
  rw [List.map_cons, List.map_cons, rn_cvs g1 g2]
  refine W.bast C.1.1 C.1.2.1 (hR.1 _ _ hW) ((C.2.1.2 2 _ rfl).1 L (fun j => .int (mi a j))) (fun q => by cases q) (rn_vin hi hj) rfl rfl hd fun H1 e1 z oq => ?_
  rw [hi.2] at e1 ⊢
  rw [hv] at e1
  exact kk p e R s m args below meth c C CT ST Z h1 h2 hH H1 _ cells slots lsA (rn_Rsti (t := 2) hR hs (by omega) ha e1 z oq) hL hc hs2
theorem R_zast {a L j : Nat} {i x y : Int32} (hd : decode M.2.1 pc = .ok (.bastore, 1)) (hs : SH a = (13, L)) (ha : a < n) (hi : rn_ix i j) (hj : j < L) (hv : narrow .boolean (.int x) = .int y)
    (kk : Run G d M (pc + 1) ls st (rn_u mi a j y, ml, rf, n) κ Q) : Run G d M pc ls (.int x :: .int i :: .ref a :: st) (mi, ml, rf, n) κ Q := by
  intro p e R s m args below meth c C CT ST Z h1 h2 hH H locs cells slots lsA hR hL hc hs2
  obtain ⟨g1, g2, hW, -⟩ := rn_arI (G := G) (t := 3) (σ := (mi, ml, rf, n)) hs (by omega) ha
  rw [List.map_cons, List.map_cons, rn_cvs g1 g2]
  refine W.zast C.1.1 C.1.2.1 (hR.1 _ _ hW) ((C.2.1.2 3 _ rfl).1 L (fun j => .int (mi a j))) (fun q => by cases q) (rn_vin hi hj) rfl rfl hd fun H1 e1 z oq => ?_
  rw [hi.2] at e1 ⊢
  rw [hv] at e1
  exact kk p e R s m args below meth c C CT ST Z h1 h2 hH H1 _ cells slots lsA (rn_Rsti (t := 3) hR hs (by omega) ha e1 z oq) hL hc hs2
theorem R_last {a L j : Nat} {i : Int32} {x : Int64} (hd : decode M.2.1 pc = .ok (.lastore, 1)) (hs : SH a = (11, L)) (ha : a < n) (hi : rn_ix i j) (hj : j < L)
    (kk : Run G d M (pc + 1) ls st (mi, rn_u ml a j x, rf, n) κ Q) : Run G d M pc ls (.long x :: .int i :: .ref a :: st) (mi, ml, rf, n) κ Q := by
  intro p e R s m args below meth c C CT ST Z h1 h2 hH H locs cells slots lsA hR hL hc hs2
  obtain ⟨g1, g2, hW, -⟩ := rn_arL (G := G) (σ := (mi, ml, rf, n)) hs ha
  obtain ⟨-, -, -, he⟩ := rn_arL (G := G) (σ := (mi, rn_u ml a j x, rf, n)) hs ha
  rw [List.map_cons, List.map_cons, rn_cvs g1 g2]
  refine W.last C.1.1 C.1.2.1 (hR.1 _ _ hW) ((C.2.1.2 1 _ rfl).1 L (fun j => .long (ml a j))) (fun q => by cases q) (rn_vin hi hj) rfl rfl hd fun H1 e1 z oq => ?_
  rw [hi.2] at e1 ⊢
  refine kk p e R s m args below meth c C CT ST Z h1 h2 hH H1 _ cells slots lsA (rn_Rst (σ' := (mi, rn_u ml a j x, rf, n)) hR g1 ha hW rfl (fun b hb => rn_e_congr rfl (rn_u_ne hb) rfl) ?_ z oq j) hL hc hs2
  rw [he]
  show H1[rn_b G + a]? = some (vp_cell (rn_cA G 1) (L, .inr (.inl (rn_u ml a j x a))))
  rw [e1, rn_stl, rn_u_at]
set_option maxHeartbeats 4000000 in
theorem R_aast {a t L j v ci : Nat} {i : Int32} {q : vw_C} (hd : decode M.2.1 pc = .ok (.aastore, 1)) (ht : t = 4 ∨ t = 5 ∨ t = 6) (hs : SH a = (10 + t, L)) (ha : a < n) (hi : rn_ix i j) (hj : j < L) (hq : vwCl[ci]? = some q) (hqt : q.1 = rn_tC t) (hsv : SH v = (ci, 0)) (hvn : v < n)
    (kk : Run G d M (pc + 1) ls st (mi, ml, rn_u rf a j v, n) κ Q) : Run G d M pc ls (.ref v :: .int i :: .ref a :: st) (mi, ml, rf, n) κ Q := by
  intro p e R s m args below meth c C CT ST Z h1 h2 hH H locs cells slots lsA hR hL hc hs2
  obtain ⟨g1, g2, hW, -⟩ := rn_arR (G := G) (σ := (mi, ml, rf, n)) hs ht ha
  obtain ⟨-, -, -, he⟩ := rn_arR (G := G) (σ := (mi, ml, rn_u rf a j v, n)) hs ht ha
  obtain ⟨v1, v2, hWv⟩ := rn_ob (G := G) (σ := (mi, ml, rf, n)) hsv (List.getElem?_eq_some_iff.mp hq).1 hvn
  obtain ⟨r', hr', cellV, c1, c2, c3, -⟩ := hR.1 _ _ hWv
  have hcls := (C.2.1.1 ci q hq).2
  obtain ⟨kA, comp, k1, k2, k3, -⟩ := (C.2.1.2 t _ (rn_tyq ht)).2
  have hcomp : comp = (rn_D G).1 ci := Option.some.inj (k3.symm.trans (hqt ▸ hcls.1))
  subst hcomp
  obtain ⟨kC, hkC, -⟩ := hcls.2
  rw [List.map_cons, List.map_cons, rn_cvs g1 g2, rn_cv_near v1 v2]
  refine W.aast C.1.1 C.1.2.1 (hR.1 _ _ hW) (fun q h => by cases h) (fun h => by cases h) k1 k2 rfl hkC ⟨hi.1, by show _ < (arrV _ _ _).slots.size; rw [arrV_size, hi.2]; exact hj⟩ c1 (fun q h => by rw [c3] at h; cases h) (by rw [c2]; exact hkC) (by rw [c2]; exact va_assign hcls) rfl rfl hd fun H1 e1 z oq => ?_
  rw [hi.2] at e1 ⊢
  refine kk p e R s m args below meth c C CT ST Z h1 h2 hH H1 _ cells slots lsA (rn_Rst (σ' := (mi, ml, rn_u rf a j v, n)) hR g1 ha hW rfl (fun b hb => rn_e_congr rfl rfl (rn_u_ne hb)) ?_ z oq j) hL hc hs2
  rw [he]
  show H1[rn_b G + a]? = some (vp_cell (rn_cA G t) (L, .inr (.inr (.inr (.inr (fun k => rn_o G (rn_u rf a j v a k)))))))
  rw [e1, vp_cell_q, vp_cell_q, arrV_store, rn_u_at]
  congr 2
  funext x
  have hov : rn_o G v = some (rn_b G + v) := by unfold rn_o; rw [if_neg (by omega), if_pos v2]
  by_cases hx : x = j
  · subst hx
    simp [updV, va_rf, hov]
  · simp [updV, hx]
theorem rn_tyany {t : Nat} (ht : t < 7) : ∃ ty, (rn_tys G)[t]? = some (rn_cA G t, ty) := by
  match t, ht with
  | 0, _ => exact ⟨_, rfl⟩
  | 1, _ => exact ⟨_, rfl⟩
  | 2, _ => exact ⟨_, rfl⟩
  | 3, _ => exact ⟨_, rfl⟩
  | 4, _ => exact ⟨_, rfl⟩
  | 5, _ => exact ⟨_, rfl⟩
  | 6, _ => exact ⟨_, rfl⟩
theorem R_alen {a t L : Nat} {v : Int32} (hd : decode M.2.1 pc = .ok (.arraylength, 1)) (t : Nat) (ht : t < 7) (hs : SH a = (10 + t, L)) (ha : a < n) (hv : Int32.ofNat L = v)
    (kk : Run G d M (pc + 1) ls (.int v :: st) (mi, ml, rf, n) κ Q) : Run G d M pc ls (.ref a :: st) (mi, ml, rf, n) κ Q := by
  intro p e R s m args below meth c C CT ST Z h1 h2 hH H locs cells slots lsA hR hL hc hs2
  obtain ⟨g1, g2, hW⟩ := rn_ar (G := G) (σ := (mi, ml, rf, n)) hs ht ha
  obtain ⟨ty, hty⟩ := rn_tyany (G := G) ht
  rw [rn_cvs g1 g2]
  exact va_alen C.1.1 C.1.2.1 C.2.1 hR.1 (a - 1) t hW hty hv hd (kk p e R s m args below meth c C CT ST Z h1 h2 hH H locs cells slots lsA hR hL hc hs2)
/-! what was there before -/
theorem rn_cvp {r : Nat} (h : r ≠ 30) (st : List Value) : (Value.ref (1000 + r) :: st).map (rn_cv G) = .ref (rn_pa G r) :: st.map (rn_cv G) := by rw [List.map_cons, rn_cv_far h]
theorem R_ialdP {i : Int32} {j r : Nat} (hd : decode M.2.1 pc = .ok (.iaload, 1)) (hr : r < 3) (hi : rn_ix i j) (hj : j < rn_pl G r)
    (kk : Run G d M (pc + 1) ls (.int (rn_pf G r j) :: st) σ κ Q) : Run G d M pc ls (.int i :: .ref (1000 + r) :: st) σ κ Q := by
  intro p e R s m args below meth c C CT ST Z h1 h2 hH H locs cells slots lsA hR hL hc hs2
  rw [List.map_cons, rn_cvp (by omega)]
  exact va_ti C.1.1 C.1.2.1 (C.2.2.1.2.1 r hr) hR.2.2.2 (hi.vp hj) (by rw [hi.2]; rfl) hd (kk p e R s m args below meth c C CT ST Z h1 h2 hH H locs cells slots lsA hR hL hc hs2)
theorem R_alenP {r : Nat} {v : Int32} (hd : decode M.2.1 pc = .ok (.arraylength, 1)) (hr : r < 3) (hv : Int32.ofNat (rn_pl G r) = v)
    (kk : Run G d M (pc + 1) ls (.int v :: st) σ κ Q) : Run G d M pc ls (.ref (1000 + r) :: st) σ κ Q := by
  intro p e R s m args below meth c C CT ST Z h1 h2 hH H locs cells slots lsA hR hL hc hs2
  rw [rn_cvp (by omega)]
  exact va_tlen C.1.1 C.1.2.1 (C.2.2.1.2.1 r hr) hR.2.2.2 hv hd (kk p e R s m args below meth c C CT ST Z h1 h2 hH H locs cells slots lsA hR hL hc hs2)
theorem R_baldT {i : Int32} {j r : Nat} {v : Int32} (hd : decode M.2.1 pc = .ok (.baload, 1)) (hr : r < 6) (hi : rn_ix i j) (hj : j < rn_sl.getD r 0) (hv : (rn_sb.getD r []).getD j 0 = v)
    (kk : Run G d M (pc + 1) ls (.int v :: st) σ κ Q) : Run G d M pc ls (.int i :: .ref (1000 + (20 + r)) :: st) σ κ Q := by
  intro p e R s m args below meth c C CT ST Z h1 h2 hH H locs cells slots lsA hR hL hc hs2
  rw [List.map_cons, rn_cvp (by omega)]
  exact va_tb C.1.1 C.1.2.1 (C.2.2.1.2.2.2.2.1.1 r hr).2.2.2 hR.2.2.2 (hi.vp hj) (by rw [hi.2, hv]; rfl) hd (kk p e R s m args below meth c C CT ST Z h1 h2 hH H locs cells slots lsA hR hL hc hs2)
theorem R_alenT {r : Nat} {v : Int32} (hd : decode M.2.1 pc = .ok (.arraylength, 1)) (hr : r < 6) (hv : Int32.ofNat (rn_sl.getD r 0) = v)
    (kk : Run G d M (pc + 1) ls (.int v :: st) σ κ Q) : Run G d M pc ls (.ref (1000 + (20 + r)) :: st) σ κ Q := by
  intro p e R s m args below meth c C CT ST Z h1 h2 hH H locs cells slots lsA hR hL hc hs2
  rw [rn_cvp (by omega)]
  exact va_tlen C.1.1 C.1.2.1 (C.2.2.1.2.2.2.2.1.1 r hr).2.2.2 hR.2.2.2 hv hd (kk p e R s m args below meth c C CT ST Z h1 h2 hH H locs cells slots lsA hR hL hc hs2)
theorem R_getvT {idx r : Nat} (hd : decode M.2.1 pc = .ok (.getfield idx, 3)) (hr : r < 6) (hw : Cond.fieldLink M.1.cls idx "java/lang/String" "value" "[B" ∈ rn_WS)
    (kk : Run G d M (pc + 3) ls (.ref (1000 + (20 + r)) :: st) σ κ Q) : Run G d M pc ls (.ref (1000 + (10 + r)) :: st) σ κ Q := by
  intro p e R s m args below meth c C CT ST Z h1 h2 hH H locs cells slots lsA hR hL hc hs2
  have k2 := kk p e R s m args below meth c C CT ST Z h1 h2 hH H locs cells slots lsA hR hL hc hs2
  rw [rn_cvp (by omega)] at k2 ⊢
  exact vk_getf C.1.1 C.1.2.1 (C.2.2.1.2.2.2.2.1.1 r hr).2.2.1 hR.2.2.2 C.1.2.2.2.1 (C.1.2.2.2.2 _ hw) (fun x h => h) hd k2
theorem R_getcT {idx r : Nat} (hd : decode M.2.1 pc = .ok (.getfield idx, 3)) (hr : r < 6) (hw : Cond.fieldLink M.1.cls idx "java/lang/String" "coder" "B" ∈ rn_WS)
    (kk : Run G d M (pc + 3) ls (.int 0 :: st) σ κ Q) : Run G d M pc ls (.ref (1000 + (10 + r)) :: st) σ κ Q := by
  intro p e R s m args below meth c C CT ST Z h1 h2 hH H locs cells slots lsA hR hL hc hs2
  have k2 := kk p e R s m args below meth c C CT ST Z h1 h2 hH H locs cells slots lsA hR hL hc hs2
  rw [rn_cvp (by omega)]
  exact vk_getf C.1.1 C.1.2.1 (C.2.2.1.2.2.2.2.1.1 r hr).2.1 hR.2.2.2 C.1.2.2.2.1 (C.1.2.2.2.2 _ hw) (fun x h => h) hd k2
theorem R_gets {idx : Nat} {C0 nm ds : String} {v : Value} (hd : decode M.2.1 pc = .ok (.getstatic idx, 3)) (hw : Cond.fieldLink M.1.cls idx C0 nm ds ∈ rn_WS) (hq : (C0, nm, ds, v) ∈ rn_st)
    (kk : Run G d M (pc + 3) ls (v :: st) σ κ Q) : Run G d M pc ls st σ κ Q := by
  intro p e R s m args below meth c C CT ST Z h1 h2 hH H locs cells slots lsA hR hL hc hs2
  exact va_gets C.1.1 C.1.2.1 (C.2.2.1.1 _ hq) hR.2.2.2 C.1.2.2.2.1 (C.1.2.2.2.2 _ hw) (fun x h => h) hd (kk p e R s m args below meth c C CT ST Z h1 h2 hH H locs cells slots lsA hR hL hc hs2)
theorem R_getsN {idx : Nat} {C0 nm ds host : String} {v : Value} (hd : decode M.2.1 pc = .ok (.getstatic idx, 3)) (hw : Cond.fieldLinkNest M.1.cls idx C0 nm ds host ∈ rn_NW) (hq : (C0, nm, ds, v) ∈ rn_st)
    (kk : Run G d M (pc + 3) ls (v :: st) σ κ Q) : Run G d M pc ls st σ κ Q := by
  intro p e R s m args below meth c C CT ST Z h1 h2 hH H locs cells slots lsA hR hL hc hs2
  exact va_getsN C.1.1 C.1.2.1 (C.2.2.1.1 _ hq) hR.2.2.2 C.1.2.2.2.1 (va_Nw.use rfl (C.2.2.1.2.2.1 _ hw)) (fun x h => h) hd (kk p e R s m args below meth c C CT ST Z h1 h2 hH H locs cells slots lsA hR hL hc hs2)
/-! new cells -/
theorem rn_Rnew {σ σ' : rn_S} {s : State} {H H1 : Heap} {locs : List Loc} (hR : rn_R G σ s H locs) (hlt : σ.2.2.2 < 164) (hn : σ'.2.2.2 = σ.2.2.2 + 1) (ho : ∀ b : Nat, b < σ.2.2.2 → rn_e G σ' b = rn_e G σ b)
    (hc : va_at (rn_D G) vwCl (rn_b G + σ.2.2.2, rn_e G σ' σ.2.2.2) H1) (z : H1.size = H.size + 1) (oq : ∀ q : Nat, q < H.size → H1[q]? = H[q]?) : rn_R G σ' s H1 locs := by
  have hz := hR.2.1 hlt
  refine ⟨?_, fun _ => by rw [hn, z, hz]; omega, by omega, Nat.le_trans hR.2.2.2.1 (by omega), fun q g1 g2 => (oq q (Nat.lt_of_lt_of_le g1 hR.2.2.2.1)).trans (hR.2.2.2.2.1 q g1 g2), hR.2.2.2.2.2⟩
  rw [← rn_Wpush hR.2.2.1 hn ho rfl]
  refine va_P.app (hR.1.kept (fun k q hq => oq q.1 ?_)) (fun k q hq => ?_)
  · exact (hR.1 k q hq).lt
  · have hk : k < 1 := (List.getElem?_eq_some_iff.mp hq).1
    obtain rfl : k = 0 := by omega
    cases hq
    exact hc
theorem rn_z_lt {α : Type} {f : Nat → Nat → α} {a b : Nat} {v : α} (h : b < a) : rn_z f a v b = f b := by
  funext j
  unfold rn_z
  rw [if_neg (by omega)]
def rn_dv (ty : FieldType) : Value := if rn_ks ty = 2 then .null else if rn_ks ty = 1 then .long 0 else .int 0
theorem rn_o0 : rn_o G 0 = none := rfl
set_option maxHeartbeats 4000000 in
theorem R_new {idx ci : Nat} {q : vw_C} (hd : decode M.2.1 pc = .ok (.new idx, 3)) (hq : vwCl[ci]? = some q) (hw1 : Cond.classLink M.1.cls idx q.1 ∈ rn_WS) (hw2 : Cond.instantiable q.1 q.2.2 ∈ rn_WS) (hw3 : Cond.initialized q.1 ∈ rn_WS) (hdv : ∀ j, j < rn_N ci → defaultValue (rn_ty ci j) = rn_dv (rn_ty ci j)) (hs : SH n = (ci, 0)) (hlt : n < 164) (hκ : 1 + κ'.1 ≤ κ.1 ∧ rn_N ci + κ'.2 ≤ κ.2)
    (kk : Run G d M (pc + 3) ls (.ref n :: st) (rn_z mi n 0, rn_z ml n 0, rn_z rf n 0, n + 1) κ' Q) : Run G d M pc ls st (mi, ml, rf, n) κ Q := by
  intro p e R s m args below meth c C CT ST Z h1 h2 hH H locs cells slots lsA hR hL hc hs2
  have h10 : ci < 10 := (List.getElem?_eq_some_iff.mp hq).1
  have hNq := rn_Nok ci q hq
  have hKn := C.2.1.1 ci _ hq
  have hz : H.size = rn_b G + n := hR.2.1 hlt
  have hn1 : 1 ≤ n := hR.2.2.1
  refine W.newcK C.1.1 C.1.2.1 C.1.2.2.2.1 (C.1.2.2.2.2 _ hw1) (C.1.2.2.2.2 _ hw2) (C.1.2.2.2.2 _ hw3) rfl hd (by omega) (by rw [hNq]; omega) hKn.2.1 rfl fun H1 kC hkC e1 z1 o1 => ?_
  have hR1 : rn_R G (rn_z mi n 0, rn_z ml n 0, rn_z rf n 0, n + 1) s H1 locs := by
    refine rn_Rnew (σ := (mi, ml, rf, n)) (σ' := (rn_z mi n 0, rn_z ml n 0, rn_z rf n 0, n + 1)) hR hlt rfl (fun b hb => rn_e_congr (rn_z_lt hb) (rn_z_lt hb) (rn_z_lt hb)) ?_ z1 o1
    have e2 : rn_e G (rn_z mi n 0, rn_z ml n 0, rn_z rf n 0, n + 1) n = .inr (ci, (List.range (rn_N ci)).map (rn_fv G (rn_z mi n 0, rn_z ml n 0, rn_z rf n 0, n + 1) n ci)) := by unfold rn_e; rw [hs, if_pos h10]
    show va_at (rn_D G) vwCl (rn_b G + n, rn_e G _ n) H1
    rw [e2, ← hz]
    refine ⟨q, hq, (u_born (rn_ty ci) C.1.2.2.2.2 (rn_in ci q hq) hKn hkC e1 (rn_tyok ci q hq)).to (fun j hj => ?_)⟩
    rw [hNq] at hj
    unfold vp_V
    rw [List.getD_eq_getElem?_getD, rn_fsk hj]
    show defaultValue (rn_ty ci j) = rn_fv G _ n ci j
    rw [hdv j hj]
    unfold rn_fv rn_dv rn_fk
    have t1 : rn_z mi n (0 : Int32) n j = 0 := by simp [rn_z]
    have t2 : rn_z ml n (0 : Int64) n j = 0 := by simp [rn_z]
    have t3 : rn_z rf n (0 : Nat) n j = 0 := by simp [rn_z]
    dsimp only
    rw [t1, t2, t3]
    rfl
  have k2 := kk p e R s m args below meth c C CT ST Z h1 h2 hH H1 locs (cells + 1) (slots + q.2.2) lsA hR1 hL (by omega) (by rw [hNq]; omega)
  rw [rn_cvs hn1 (by omega)] at k2
  rw [hz]
  exact k2
set_option maxHeartbeats 4000000 in
theorem rn_newa {at_ : ArrayType} {ty : FieldType} {t L : Nat} {i : Int32} (hd : decode M.2.1 pc = .ok (.newarray at_, 2)) (hty : newarray.typeOf at_ = ty) (hra : ∀ (U : State) (cA : ClassId), va_RA U cA ty = (U.vm.findClass ("[" ++ ty.toString) = some cA)) (ht : (rn_tys G)[t]? = some (rn_cA G t, ty)) (hw : Cond.arrayClass ty ∈ rn_WS) (hi : rn_ix i L) (hb : L * componentBytes ty ≤ 536870912) (hs : SH n = (10 + t, L)) (hlt : n < 164) (hκ : 1 + κ'.1 ≤ κ.1 ∧ L + κ'.2 ≤ κ.2)
    (hcell : ∀ cA : ClassId, rn_e G (rn_z mi n 0, rn_z ml n 0, rn_z rf n 0, n + 1) n = .inl (rn_cA G t, L, (match ty with | .long => .inr (.inl (fun _ => 0)) | _ => .inl (fun _ => 0))) ∧ vp_cell cA (L, (match ty with | .long => .inr (.inl (fun _ => 0)) | _ => .inl (fun _ => 0))) = arrV cA L (fun _ => defaultValue ty))
    (kk : Run G d M (pc + 2) ls (.ref n :: st) (rn_z mi n 0, rn_z ml n 0, rn_z rf n 0, n + 1) κ' Q) : Run G d M pc ls (.int i :: st) (mi, ml, rf, n) κ Q := by
  subst hty
  intro p e R s m args below meth c C CT ST Z h1 h2 hH H locs cells slots lsA hR hL hc hs2
  have hz : H.size = rn_b G + n := hR.2.1 hlt
  have hn1 : 1 ≤ n := hR.2.2.1
  refine va_newaK C.1.1 C.1.2.1 (C.1.2.2.2.2 _ hw) rfl hd rfl hi.1 hi.2 hb (by omega) (by omega) rfl fun H1 cA e1 z1 o1 hAr hNm => ?_
  have hcA : cA = rn_cA G t := by
    have h3 := (C.2.1.2 t _ ht).2
    rw [hra] at h3
    exact Option.some.inj (hNm.symm.trans h3)
  subst hcA
  have hR1 : rn_R G (rn_z mi n 0, rn_z ml n 0, rn_z rf n 0, n + 1) s H1 locs := by
    refine rn_Rnew (σ := (mi, ml, rf, n)) (σ' := (rn_z mi n 0, rn_z ml n 0, rn_z rf n 0, n + 1)) hR hlt rfl (fun b hb => rn_e_congr (rn_z_lt hb) (rn_z_lt hb) (rn_z_lt hb)) ?_ z1 o1
    show va_at (rn_D G) vwCl (rn_b G + n, rn_e G _ n) H1
    rw [(hcell (rn_cA G t)).1, ← hz]
    show H1[H.size]? = some (vp_cell _ _)
    rw [(hcell (rn_cA G t)).2]
    exact e1
  have k2 := kk p e R s m args below meth c C CT ST Z h1 h2 hH H1 locs (cells + 1) (slots + L) lsA hR1 hL (by omega) (by omega)
  rw [rn_cvs hn1 (by omega)] at k2
  rw [hz]
  exact k2
theorem rn_z_at {α : Type} {f : Nat → Nat → α} {a : Nat} {v : α} : rn_z f a v a = fun _ => v := by
  funext j
  simp [rn_z]
theorem R_newaI {L : Nat} {i : Int32} (hd : decode M.2.1 pc = .ok (.newarray .int, 2)) (hw : Cond.arrayClass .int ∈ rn_WS) (hi : rn_ix i L) (hb : L ≤ 1000) (hs : SH n = (10, L)) (hlt : n < 164) (hκ : 1 + κ'.1 ≤ κ.1 ∧ L + κ'.2 ≤ κ.2)
    (kk : Run G d M (pc + 2) ls (.ref n :: st) (rn_z mi n 0, rn_z ml n 0, rn_z rf n 0, n + 1) κ' Q) : Run G d M pc ls (.int i :: st) (mi, ml, rf, n) κ Q :=
  rn_newa (ty := .int) (t := 0) hd rfl (fun _ _ => rfl) rfl hw hi (by show L * 4 ≤ _; omega) hs hlt hκ (fun cA => ⟨by obtain ⟨-, -, -, he⟩ := rn_arI (G := G) (t := 0) (σ := (rn_z mi n 0, rn_z ml n 0, rn_z rf n 0, n + 1)) hs (by omega) (Nat.lt_succ_self n); rw [he]; dsimp only; rw [rn_z_at], by rw [vp_cell_i]; rfl⟩) kk
theorem R_newaB {L : Nat} {i : Int32} (hd : decode M.2.1 pc = .ok (.newarray .byte, 2)) (hw : Cond.arrayClass .byte ∈ rn_WS) (hi : rn_ix i L) (hb : L ≤ 1000) (hs : SH n = (12, L)) (hlt : n < 164) (hκ : 1 + κ'.1 ≤ κ.1 ∧ L + κ'.2 ≤ κ.2)
    (kk : Run G d M (pc + 2) ls (.ref n :: st) (rn_z mi n 0, rn_z ml n 0, rn_z rf n 0, n + 1) κ' Q) : Run G d M pc ls (.int i :: st) (mi, ml, rf, n) κ Q :=
  rn_newa (ty := .byte) (t := 2) hd rfl (fun _ _ => rfl) rfl hw hi (by show L * 1 ≤ _; omega) hs hlt hκ (fun cA => ⟨by obtain ⟨-, -, -, he⟩ := rn_arI (G := G) (t := 2) (σ := (rn_z mi n 0, rn_z ml n 0, rn_z rf n 0, n + 1)) hs (by omega) (Nat.lt_succ_self n); rw [he]; dsimp only; rw [rn_z_at], by rw [vp_cell_i]; rfl⟩) kk
theorem R_newaZ {L : Nat} {i : Int32} (hd : decode M.2.1 pc = .ok (.newarray .boolean, 2)) (hw : Cond.arrayClass .boolean ∈ rn_WS) (hi : rn_ix i L) (hb : L ≤ 1000) (hs : SH n = (13, L)) (hlt : n < 164) (hκ : 1 + κ'.1 ≤ κ.1 ∧ L + κ'.2 ≤ κ.2)
    (kk : Run G d M (pc + 2) ls (.ref n :: st) (rn_z mi n 0, rn_z ml n 0, rn_z rf n 0, n + 1) κ' Q) : Run G d M pc ls (.int i :: st) (mi, ml, rf, n) κ Q :=
  rn_newa (ty := .boolean) (t := 3) hd rfl (fun _ _ => rfl) rfl hw hi (by show L * 1 ≤ _; omega) hs hlt hκ (fun cA => ⟨by obtain ⟨-, -, -, he⟩ := rn_arI (G := G) (t := 3) (σ := (rn_z mi n 0, rn_z ml n 0, rn_z rf n 0, n + 1)) hs (by omega) (Nat.lt_succ_self n); rw [he]; dsimp only; rw [rn_z_at], by rw [vp_cell_i]; rfl⟩) kk
theorem R_newaL {L : Nat} {i : Int32} (hd : decode M.2.1 pc = .ok (.newarray .long, 2)) (hw : Cond.arrayClass .long ∈ rn_WS) (hi : rn_ix i L) (hb : L ≤ 1000) (hs : SH n = (11, L)) (hlt : n < 164) (hκ : 1 + κ'.1 ≤ κ.1 ∧ L + κ'.2 ≤ κ.2)
    (kk : Run G d M (pc + 2) ls (.ref n :: st) (rn_z mi n 0, rn_z ml n 0, rn_z rf n 0, n + 1) κ' Q) : Run G d M pc ls (.int i :: st) (mi, ml, rf, n) κ Q :=
  rn_newa (ty := .long) (t := 1) hd rfl (fun _ _ => rfl) rfl hw hi (by show L * 8 ≤ _; omega) hs hlt hκ (fun cA => ⟨by obtain ⟨-, -, -, he⟩ := rn_arL (G := G) (σ := (rn_z mi n 0, rn_z ml n 0, rn_z rf n 0, n + 1)) hs (Nat.lt_succ_self n); rw [he]; dsimp only; rw [rn_z_at], by rw [vp_cell_l]; rfl⟩) kk
set_option maxHeartbeats 4000000 in
theorem R_newq {idx t L : Nat} {i : Int32} (hd : decode M.2.1 pc = .ok (.anewarray idx, 3)) (ht : t = 4 ∨ t = 5 ∨ t = 6) (hw : Cond.classLink M.1.cls idx (rn_tC t) ∈ rn_WS) (hi : rn_ix i L) (hb : L ≤ 1000) (hs : SH n = (10 + t, L)) (hlt : n < 164) (hκ : 1 + κ'.1 ≤ κ.1 ∧ L + κ'.2 ≤ κ.2)
    (kk : Run G d M (pc + 3) ls (.ref n :: st) (rn_z mi n 0, rn_z ml n 0, rn_z rf n 0, n + 1) κ' Q) : Run G d M pc ls (.int i :: st) (mi, ml, rf, n) κ Q := by
  intro p e R s m args below meth c C CT ST Z h1 h2 hH H locs cells slots lsA hR hL hc hs2
  have hz : H.size = rn_b G + n := hR.2.1 hlt
  have hn1 : 1 ≤ n := hR.2.2.1
  have hov : va_AO (rn_tC t) s := by
    obtain ⟨-, -, -, -, -, o1, o2, o3⟩ := C.2.2.1
    rcases ht with rfl | rfl | rfl
    · exact o1
    · exact o2
    · exact o3
  refine W.anew C.1.1 C.1.2.1 C.1.2.2.2.1 (C.1.2.2.2.2 _ hw) (va_AO.use hov) rfl hd rfl hi.1 (by rw [hi.2]; omega) (by omega) (by rw [hi.2]; omega) fun cA kA comp f1 f2 f3 f4 => ?_
  have hcA : cA = rn_cA G t := by
    obtain ⟨kA', comp', -, -, -, h3⟩ := (C.2.1.2 t _ (rn_tyq ht)).2
    exact Option.some.inj (f1.symm.trans h3)
  subst hcA
  rw [hi.2]
  generalize hH1 : H.push ({ cls := rn_cA G t, slots := Array.replicate L .null, vm := .none } : Cell) = H1
  have z1 : H1.size = H.size + 1 := by rw [← hH1, Array.size_push]
  have e1 : H1[H.size]? = some (arrV (rn_cA G t) L (fun _ => .null)) := by rw [← hH1, Array.getElem?_push_size, ← arrV_new]
  have o1 : ∀ q : Nat, q < H.size → H1[q]? = H[q]? := fun q hq => by rw [← hH1, Array.getElem?_push, if_neg (Nat.ne_of_lt hq)]
  have hR1 : rn_R G (rn_z mi n 0, rn_z ml n 0, rn_z rf n 0, n + 1) s H1 locs := by
    refine rn_Rnew (σ := (mi, ml, rf, n)) (σ' := (rn_z mi n 0, rn_z ml n 0, rn_z rf n 0, n + 1)) hR hlt rfl (fun b hb => rn_e_congr (rn_z_lt hb) (rn_z_lt hb) (rn_z_lt hb)) ?_ z1 o1
    obtain ⟨-, -, -, he⟩ := rn_arR (G := G) (σ := (rn_z mi n 0, rn_z ml n 0, rn_z rf n 0, n + 1)) hs ht (Nat.lt_succ_self n)
    show va_at (rn_D G) vwCl (rn_b G + n, rn_e G _ n) H1
    rw [he, ← hz]
    show H1[H.size]? = some (vp_cell _ _)
    rw [vp_cell_q, e1]
    congr 2
    funext x
    simp [rn_z, rn_o, va_rf]
  have k2 := kk p e R s m args below meth c C CT ST Z h1 h2 hH H1 locs (cells + 1) (slots + L) lsA hR1 hL (by omega) (by omega)
  rw [rn_cvs hn1 (by omega)] at k2
  rw [hz]
  exact k2
/-! System.arraycopy, behind the constructors -/
theorem rn_nfw : nativeFrameWords "java/lang/System" "arraycopy" 5 ≤ 30 := by decide +kernel
set_option maxHeartbeats 4000000 in
theorem R_copyi {idx a0 a n0 n1 sp dp len : Nat} {isp idp ilen : Int32} (hd : decode M.2.1 pc = .ok (.invokestatic idx, 3)) (hw1 : Cond.methodLink M.1.cls idx arraycopyName ∈ rn_WS) (hw2 : Cond.native arraycopyName ∈ rn_WS) (hw3 : Cond.static arraycopyName ∈ rn_WS) (hw4 : Cond.initialized "java/lang/System" ∈ rn_WS)
    (hs0 : SH a0 = (10, n0)) (hs1 : SH a = (10, n1)) (hn : n = 164) (h1 : rn_ix isp sp) (h2 : rn_ix idp dp) (h3 : rn_ix ilen len) (h4 : sp + len ≤ n0) (h5 : dp + len ≤ n1) (hcat : (st.map fun v => v.category).sum ≤ 8)
    (kk : Run G (d + 1) M (pc + 3) ls st (rn_cp mi a0 sp a dp len, ml, rf, n) κ Q) : Run G (d + 1) M pc ls (.int ilen :: .int idp :: .ref a :: .int isp :: .ref a0 :: st) (mi, ml, rf, n) κ Q := by
  intro p e R s m args below meth c C CT ST Z g1 g2 hH H locs cells slots lsA hR hL hc hs2
  have l0 := SH_lt (a := a0) (by rw [hs0]; exact Nat.le_of_ble_eq_true rfl)
  have l1 := SH_lt (a := a) (by rw [hs1]; exact Nat.le_of_ble_eq_true rfl)
  obtain ⟨x1, x2, hW0, -⟩ := rn_arI (G := G) (t := 0) (σ := (mi, ml, rf, n)) hs0 (by omega) (show a0 < n by omega)
  obtain ⟨y1, y2, hW1, -⟩ := rn_arI (G := G) (t := 0) (σ := (mi, ml, rf, n)) hs1 (by omega) (show a < n by omega)
  obtain ⟨-, -, -, he⟩ := rn_arI (G := G) (t := 0) (σ := (rn_cp mi a0 sp a dp len, ml, rf, n)) hs1 (by omega) (show a < n by omega)
  obtain ⟨⟨hx, hb, hml, hown, hts⟩, hK, hE, hf1, hf2, hnm⟩ := id C
  rw [List.map_cons, List.map_cons, rn_cvs y1 y2, List.map_cons, rn_cvs x1 x2]
  have hnf := rn_nfw
  have hcs := rn_catsum G st
  refine va_copyi hx hb (hml.trans hL.2.1.symm) hown (hts _ hw1) (hts _ hw2) (hts _ hw3) (hts _ hw4) hK hR.1 (rn_WD G _) hR.2.2.2 (a0 - 1) (a - 1) 0 0 hW0 hW1 rfl rfl rfl h1.1 h2.1 h3.1 (by rw [h1.2, h3.2]; exact h4) (by rw [h2.2, h3.2]; exact h5) (fun i _ => rfl) (by omega) (by rw [hcs]; omega) hd fun H1 locs1 hP1 hD1 hS1 => ?_
  refine kk p e R s m args below meth c C CT ST Z g1 g2 hH H1 locs1 cells slots lsA ⟨?_, fun h => absurd h (by show ¬ n < 164; omega), hR.2.2.1, hS1⟩ hL hc hs2
  rw [h1.2, h2.2, h3.2] at hP1
  rw [← rn_Wset (σ := (mi, ml, rf, n)) (σ' := (rn_cp mi a0 sp a dp len, ml, rf, n)) y1 (show a < n by omega) rfl (fun b hb => rn_e_congr (by funext j; simp [rn_cp, hb]) rfl rfl) (he.trans ?_)]
  · exact hP1
  · congr 4
    funext j
    simp only [rn_cp, va_cpy, true_and]
set_option maxHeartbeats 4000000 in
theorem R_copyl {idx a0 a n0 n1 sp dp len : Nat} {isp idp ilen : Int32} (hd : decode M.2.1 pc = .ok (.invokestatic idx, 3)) (hw1 : Cond.methodLink M.1.cls idx arraycopyName ∈ rn_WS) (hw2 : Cond.native arraycopyName ∈ rn_WS) (hw3 : Cond.static arraycopyName ∈ rn_WS) (hw4 : Cond.initialized "java/lang/System" ∈ rn_WS)
    (hs0 : SH a0 = (11, n0)) (hs1 : SH a = (11, n1)) (hn : n = 164) (h1 : rn_ix isp sp) (h2 : rn_ix idp dp) (h3 : rn_ix ilen len) (h4 : sp + len ≤ n0) (h5 : dp + len ≤ n1) (hcat : (st.map fun v => v.category).sum ≤ 8)
    (kk : Run G (d + 1) M (pc + 3) ls st (mi, rn_cp ml a0 sp a dp len, rf, n) κ Q) : Run G (d + 1) M pc ls (.int ilen :: .int idp :: .ref a :: .int isp :: .ref a0 :: st) (mi, ml, rf, n) κ Q := by
  intro p e R s m args below meth c C CT ST Z g1 g2 hH H locs cells slots lsA hR hL hc hs2
  have l0 := SH_lt (a := a0) (by rw [hs0]; exact Nat.le_of_ble_eq_true rfl)
  have l1 := SH_lt (a := a) (by rw [hs1]; exact Nat.le_of_ble_eq_true rfl)
  obtain ⟨x1, x2, hW0, -⟩ := rn_arL (G := G) (σ := (mi, ml, rf, n)) hs0 (show a0 < n by omega)
  obtain ⟨y1, y2, hW1, -⟩ := rn_arL (G := G) (σ := (mi, ml, rf, n)) hs1 (show a < n by omega)
  obtain ⟨-, -, -, he⟩ := rn_arL (G := G) (σ := (mi, rn_cp ml a0 sp a dp len, rf, n)) hs1 (show a < n by omega)
  obtain ⟨⟨hx, hb, hml, hown, hts⟩, hK, hE, hf1, hf2, hnm⟩ := id C
  rw [List.map_cons, List.map_cons, rn_cvs y1 y2, List.map_cons, rn_cvs x1 x2]
  have hnf := rn_nfw
  have hcs := rn_catsum G st
  refine va_copyl hx hb (hml.trans hL.2.1.symm) hown (hts _ hw1) (hts _ hw2) (hts _ hw3) (hts _ hw4) hK hR.1 (rn_WD G _) hR.2.2.2 (a0 - 1) (a - 1) 1 1 hW0 hW1 rfl rfl rfl h1.1 h2.1 h3.1 (by rw [h1.2, h3.2]; exact h4) (by rw [h2.2, h3.2]; exact h5) (fun i _ => rfl) (by omega) (by rw [hcs]; omega) hd fun H1 locs1 hP1 hD1 hS1 => ?_
  refine kk p e R s m args below meth c C CT ST Z g1 g2 hH H1 locs1 cells slots lsA ⟨?_, fun h => absurd h (by show ¬ n < 164; omega), hR.2.2.1, hS1⟩ hL hc hs2
  rw [h1.2, h2.2, h3.2] at hP1
  rw [← rn_Wset (σ := (mi, ml, rf, n)) (σ' := (mi, rn_cp ml a0 sp a dp len, rf, n)) y1 (show a < n by omega) rfl (fun b hb => rn_e_congr rfl (by funext j; simp [rn_cp, hb]) rfl) (he.trans ?_)]
  · exact hP1
  · congr 5
    funext j
    simp only [rn_cp, va_cpy, true_and]
end RM
