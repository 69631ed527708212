/-! THE LOGIC, part 2: a run, its rows -/
def rn_C (G : rn_G) (d : Nat) (M : rn_M) (p : Program) (R : Room) (s : State) (m : MethodId) (args : Array Value) (meth : Method) (c : Code) : Prop :=
  (p.tables.exec = Jvm.exec ∧ c.code = M.2.1 ∧ c.maxLocals = M.2.2.1 ∧ s.vm.findClass M.1.cls = some m.cls ∧ ∀ w ∈ rn_WS, w.before args s = true) ∧ va_K (rn_D G) vwCl (rn_tys G) s ∧ rn_E G s s.heap ∧ d ≤ R.frames ∧ 64 * d ≤ R.locals ∧ meth.name = M.1.name
def rn_ri (v : Option Value) : Instr := match v with
  | none => .return_
  | some (.long _) => .lreturn
  | some _ => .ireturn
def rn_ok (ret : Option FieldType) (v : Option Value) : Prop := match v with
  | none => ret = none
  | some (.int x) => ∃ ty, ret = some ty ∧ narrow ty (.int x) = .int x
  | some (.long _) => ret = some .long
  | _ => False
def rn_H (G : rn_G) (M : rn_M) (p : Program) (e : Env) (R : Room) (s : State) (m : MethodId) (args : Array Value) (below : List Frame) (meth : Method) (c : Code) (CT ST : Nat) (Q : Option Value → rn_S → Prop) (Z : State → Prop) : Prop :=
  ∀ (v : Option Value) (σ : rn_S) (pc : Nat) (H : Heap) (locs : List Loc) (cells slots : Nat) (lsA : Array Slot), rn_R G σ s H locs → cells ≤ CT → slots ≤ ST → Q v σ → rn_ok M.2.2.2 v → decode M.2.1 pc = .ok (rn_ri v, 1) →
    W p (rn_l G) e R s m args below meth c H locs cells slots Z (F0 m pc lsA (v.toList.map (rn_cv G)))
/-- THE RUN of method M from pc on, with these locals, this stack, this memory, so many cells and slots to make, comes to an end with Q of what it answers and of the memory then -/
def Run (G : rn_G) (d : Nat) (M : rn_M) (pc : Nat) (ls st : List Value) (σ : rn_S) (κ : Nat × Nat) (Q : Option Value → rn_S → Prop) : Prop :=
  ∀ (p : Program) (e : Env) (R : Room) (s : State) (m : MethodId) (args : Array Value) (below : List Frame) (meth : Method) (c : Code), rn_C G d M p R s m args meth c →
  ∀ (CT ST : Nat) (Z : State → Prop), CT ≤ R.cells → ST ≤ R.slots → rn_H G M p e R s m args below meth c CT ST Q Z →
  ∀ (H : Heap) (locs : List Loc) (cells slots : Nat) (lsA : Array Slot), rn_R G σ s H locs → rn_L G M.2.2.1 ls lsA → cells + κ.1 ≤ CT → slots + κ.2 ≤ ST →
    W p (rn_l G) e R s m args below meth c H locs cells slots Z (F0 m pc lsA (st.map (rn_cv G)))
abbrev Call (G : rn_G) (d : Nat) (M : rn_M) (as : List Value) (σ : rn_S) (κ : Nat × Nat) (Q : Option Value → rn_S → Prop) : Prop := Run G d M 0 (rn_en M.2.2.1 as) [] σ κ Q
theorem Run.mono {G : rn_G} {d : Nat} {M : rn_M} {pc : Nat} {ls st : List Value} {σ : rn_S} {κ : Nat × Nat} {Q Q2 : Option Value → rn_S → Prop} (h : Run G d M pc ls st σ κ Q) (hq : ∀ v σ', Q v σ' → Q2 v σ') : Run G d M pc ls st σ κ Q2 := by
  intro p e R s m args below meth c hC CT ST Z h1 h2 hH H locs cells slots lsA hR hL hc hs
  exact h p e R s m args below meth c hC CT ST Z h1 h2 (fun v σ' pc' H' locs' cells' slots' lsA' a1 a2 a3 a4 a5 a6 => hH v σ' pc' H' locs' cells' slots' lsA' a1 a2 a3 (hq v σ' a4) a5 a6) H locs cells slots lsA hR hL hc hs
def rn_St (G : rn_G) (σ : rn_S) (U : State) : Prop := va_P (rn_D G) vwCl (rn_W G σ) U.heap ∧ (σ.2.2.2 < 164 → U.heap.size = rn_b G + σ.2.2.2) ∧ 1 ≤ σ.2.2.2 ∧ va_K (rn_D G) vwCl (rn_tys G) U ∧ rn_E G U U.heap
def rn_Qc (G : rn_G) (Q : Option Value → rn_S → Prop) : Array Value → State → Outcome → State → Prop := fun _ st o t =>
  (∃ (v : Option Value) (σ : rn_S), o = .returned (v.map (rn_cv G)) ∧ Q v σ ∧ va_P (rn_D G) vwCl (rn_W G σ) t.heap ∧ (σ.2.2.2 < 164 → t.heap.size = rn_b G + σ.2.2.2) ∧ 1 ≤ σ.2.2.2) ∧ va_F (rn_A G) st t
set_option maxHeartbeats 4000000 in
/-- a run from its entry is a contract of the machine -/
theorem rn_met {G : rn_G} {d : Nat} {M : rn_M} {as : List Value} {σ : rn_S} {κ : Nat × Nat} {Q : Option Value → rn_S → Prop} (hy : plainFor M.1 = true) (hl : (rn_en1 as).length ≤ M.2.2.1) (h : Call G d M as σ κ Q) :
    Met (rn_l G) M.1 (rn_mw M) { frames := d, cells := κ.1, slots := κ.2, locals := 64 * d } (va_Pc (as.map (rn_cv G)) (rn_St G σ)) (rn_Qc G Q) κ.1 κ.2 (rn_A G) := by
  refine va_MetF (cc := M.2.1) (maxL := M.2.2.1) (ret := M.2.2.2) hy rfl ?_
  intro p e s m args below meth c s₁ B hml hv
  obtain ⟨rfl, hP, hz, hn, hK, hE⟩ := hv
  have hts := atoms_spec (ws := rn_mw M) B.pre
  have hlen : (lg_sl (as.map (rn_cv G))).length ≤ M.2.2.1 := by rw [rn_en1_len]; exact hl
  rw [lg_entry_eq]
  refine h p e _ s m _ below meth c ⟨⟨B.exec, B.bytes, hml, findClass_of_methodNamed B.named, fun w hw => hts w (List.mem_cons_of_mem _ hw)⟩, hK, hE, Nat.le_refl _, Nat.le_refl _, (name_of_methodNamed B.named B.method).1⟩ κ.1 κ.2 _ (Nat.le_refl _) (Nat.le_refl _) ?_ s.heap [] 0 0 _ ⟨hP, hz, hn, va_S.rf⟩ (rn_en_L G hl (lv_entry _ hlen)) (by omega) (by omega)
  intro v σ' pc H locs cells slots lsA hR h1 h2 hq hok hd
  refine W.widen h1 h2 ?_
  have post : ∀ t : State, t.heap = H → rn_Qc G Q (as.map (rn_cv G)).toArray s (.returned (v.map (rn_cv G))) t := fun t ht => ⟨⟨v, σ', rfl, hq, by rw [ht]; exact hR.1, by rw [ht]; exact hR.2.1, hR.2.2.1⟩, hR.2.2.2.F ht⟩
  cases v with
  | none => exact W.vret B.exec B.bytes (B.returns.trans hok) (fun t ht _ => post t ht) hR.2.2.2.2.2 hd (hlocks := B.notSynchronized)
  | some v =>
    cases v with
    | int x =>
      obtain ⟨ty, e1, e2⟩ := hok
      exact W.zret B.exec B.bytes (B.returns.trans e1) e2 (fun t ht _ => post t ht) hR.2.2.2.2.2 hd (hlocks := B.notSynchronized)
    | long x => exact W.lret B.exec B.bytes (B.returns.trans hok) (fun t ht _ => post t ht) hR.2.2.2.2.2 hd (hlocks := B.notSynchronized)
    | _ => exact hok.elim
/-- the stack behind a call -/
abbrev rn_ps (v : Option Value) (st : List Value) : List Value := match v with
  | none => st
  | some x => x :: st
theorem rn_ps_map (G : rn_G) (v : Option Value) (st : List Value) : (v.map (rn_cv G)).toList ++ st.map (rn_cv G) = (rn_ps v st).map (rn_cv G) := by
  cases v <;> rfl
theorem rn_catsum (G : rn_G) (st : List Value) : ((st.map (rn_cv G)).map fun v => v.category) = st.map fun v => v.category := by
  rw [List.map_map]
  exact List.map_congr_left (fun v _ => rn_cv_cat G v)
section RR
variable {G : rn_G} {d : Nat} {M M' : rn_M} {pc : Nat} {ls st : List Value} {σ : rn_S} {mi : Nat → Nat → Int32} {ml : Nat → Nat → Int64} {rf : Nat → Nat → Nat} {n : Nat} {κ κ' κ'' : Nat × Nat} {Q : Option Value → rn_S → Prop}
set_option maxHeartbeats 4000000 in
theorem rn_after {p : Program} {e : Env} {R : Room} {s : State} {m : MethodId} {args : Array Value} {below : List Frame} {meth : Method} {c : Code} (hC : rn_C G d M p R s m args meth c) {CT ST : Nat} {Z : State → Prop} (h1 : CT ≤ R.cells) (h2 : ST ≤ R.slots) (hH : rn_H G M p e R s m args below meth c CT ST Q Z)
    {H : Heap} {locs : List Loc} {cells slots : Nat} {lsA : Array Slot} (hR : rn_R G σ s H locs) (hL : rn_L G M.2.2.1 ls lsA) (hc : cells + κ'.1 + κ''.1 ≤ CT) (hs : slots + κ'.2 + κ''.2 ≤ ST) {st0 : List Value} {aa : Array Value}
    (hr : va_Run p (rn_l G) e R s m args below meth c H locs cells slots κ'.1 κ'.2 (F0 m pc lsA st0) (st.map (rn_cv G)) (rn_Qc G (fun v σ' => Run G d M (pc + 3) ls (rn_ps v st) σ' κ'' Q) aa) (rn_A G)) : W p (rn_l G) e R s m args below meth c H locs cells slots Z (F0 m pc lsA st0) := by
  have hS := hR.2.2.2
  intro T hT X
  obtain ⟨v0, st₀, t, T', L, h0, X', hLo, e1, e2, ⟨⟨v, σ', hv, hq, hP', hz', hn'⟩, hzz, hkk⟩, stp⟩ := hr T hT X
  have hv' := Outcome.returned.inj hv
  subst hv'
  rw [h0] at hzz hkk
  have hR' : rn_R G σ' s T'.heap (locs ++ L) := by
    refine ⟨by rw [e1]; exact hP', by rw [e1]; exact hz', hn', Nat.le_trans hS.1 (by rw [e1]; exact hzz), fun q g1 g2 => ?_, fun q hq => ?_⟩
    · rw [e1, hkk q (Nat.lt_of_lt_of_le g1 hS.1) g2]
      exact hS.2.1 q g1 g2
    · rcases List.mem_append.mp hq with h | h
      · exact hS.2.2 q h
      · exact hLo q h
  obtain ⟨t2, a1, b1⟩ := hq p e R s m args below meth c hC CT ST Z h1 h2 hH T'.heap (locs ++ L) (cells + κ'.1) (slots + κ'.2) lsA hR' hL hc hs T' rfl X'
  rw [← rn_ps_map] at a1
  exact ⟨t2, stp t2 a1, b1⟩
theorem rn_blind (as : List Value) : FrameBlind (va_Pc (as.map (rn_cv G)) (rn_St G σ)) := fun a U g mk q =>
  ⟨q.1, q.2.1, q.2.2.1, q.2.2.2.1, va_K.moved (u := U) (U := U.calling g mk a) (Vm.Alike.refl U.vm) q.2.2.2.2.1, rn_E.same (s := U) (U := U.calling g mk a) rfl q.2.2.2.2.2⟩
theorem rn_pre {s : State} {H : Heap} {locs : List Loc} (hK : va_K (rn_D G) vwCl (rn_tys G) s) (hE : rn_E G s s.heap) (hR : rn_R G σ s H locs) (as : List Value) {as' : List Value} (ha : as' = as.map (rn_cv G)) : ∀ U : State, U.heap = H → s.WarmedH U.vm → va_Pc (as.map (rn_cv G)) (rn_St G σ) as'.toArray U := fun U hU hW =>
  ⟨by rw [ha], by rw [hU]; exact hR.1, by rw [hU]; exact hR.2.1, hR.2.2.1, va_K.moved hW.alike hK, hE.down hR.2.2.2 hU hW⟩
def rn_mok (M' : rn_M) (n : Nat) : Prop := (M'.1.cls ≠ "java/lang/invoke/MethodHandle" ∧ M'.1.cls ≠ "java/lang/invoke/VarHandle" ∧ (parseMethodDescriptor M'.1.desc).map (fun d => d.parameters.length) = some n) ∧ M'.2.2.1 ≤ 45 ∧ plainFor M'.1 = true
def rn_MV (own : String) (idx : Nat) (M' : rn_M) (n : Nat) : Prop := GoodIn rn_WS (wsV own idx M'.1.cls M'.1 (rn_mw M')) ∧ rn_mok M' n
def rn_MS (own : String) (idx : Nat) (M' : rn_M) (n : Nat) : Prop := GoodIn rn_WS (va_wsS own idx M'.1 (rn_mw M')) ∧ rn_mok M' n
/-- 's'tatic, to a nest mate -/
def rn_MSN (own : String) (idx : Nat) (host : String) (M' : rn_M) (n : Nat) : Prop := (GoodIn rn_WS (([.static M'.1, .initialized M'.1.cls] : List Cond) ++ rn_mw M') ∧ Cond.methodLinkNest own idx M'.1 host ∈ rn_NW) ∧ rn_mok M' n
/-- a constructor -/
def rn_MI (own : String) (idx : Nat) (M' : rn_M) (n : Nat) : Prop := (GoodIn rn_WS (([.methodLink own idx M'.1, .instanceMethod M'.1, .initialized M'.1.cls] : List Cond) ++ rn_mw M') ∧ M'.1.name = "<init>" ∧ M'.2.2.2 = none) ∧ rn_mok M' n
def rn_MIN (own : String) (idx : Nat) (host : String) (M' : rn_M) (n : Nat) : Prop := (GoodIn rn_WS (([.instanceMethod M'.1, .initialized M'.1.cls] : List Cond) ++ rn_mw M') ∧ Cond.methodLinkNest own idx M'.1 host ∈ rn_NW ∧ M'.1.name = "<init>" ∧ M'.2.2.2 = none) ∧ rn_mok M' n
theorem rn_tail {pre : List Cond} (h : GoodIn rn_WS (pre ++ rn_mw M')) : GoodIn rn_WS (rn_mw M') := fun w hw => h w (List.mem_append_right _ hw)
theorem rn_room {R : Room} {k : Nat} (h1 : d + 1 ≤ R.frames) (h2 : 64 * (d + 1) ≤ R.locals) (hk : k ≤ 45) : d + 1 ≤ R.frames ∧ 8 + (k + 11) + 64 * d ≤ R.locals := ⟨h1, by omega⟩
theorem rn_rm {m : MethodId} {lsA : Array Slot} {rest : List Value} (h : (st.map fun v => v.category).sum ≤ 8) : 2 * (F0 m pc lsA rest).monitorRoom + ((st.map (rn_cv G)).map fun v => v.category).sum ≤ 8 := lv_room (by rw [rn_catsum]; exact h)
/-- the class's number is that of the method's class -/
def rn_cn (ci : Nat) (C : String) : Prop := ∃ q : vw_C, vwCl[ci]? = some q ∧ q.1 = C
theorem rn_ob {a ci : Nat} (hs : SH a = (ci, 0)) (h10 : ci < 10) (ha : a < σ.2.2.2) : 1 ≤ a ∧ a < 1000 ∧ (rn_W G σ)[a - 1]? = some (rn_b G + a, .inr (ci, (List.range (rn_N ci)).map (rn_fv G σ a ci))) := by
  have h1 := SH_lt (a := a) (by rw [hs]; show ci < 99; omega)
  refine ⟨h1.1, by omega, ?_⟩
  have h2 := rn_Wg (G := G) h1.1 ha
  rw [h2]
  unfold rn_e
  rw [hs, if_pos h10]
theorem rn_ar {a t L : Nat} (hs : SH a = (10 + t, L)) (ht : t < 7) (ha : a < σ.2.2.2) : 1 ≤ a ∧ a < 1000 ∧ (rn_W G σ)[a - 1]? = some (rn_b G + a, .inl (rn_cA G t, L, if t = 1 then .inr (.inl (σ.2.1 a)) else if 4 ≤ t then .inr (.inr (.inr (.inr (fun k => rn_o G (σ.2.2.1 a k))))) else .inl (σ.1 a))) := by
  have h1 := SH_lt (a := a) (by rw [hs]; show 10 + t < 99; omega)
  refine ⟨h1.1, by omega, ?_⟩
  rw [rn_Wg (G := G) h1.1 ha]
  unfold rn_e
  rw [hs, if_neg (by show ¬ (10 + t < 10); omega)]
  dsimp only
  rw [Nat.add_sub_cancel_left]
  by_cases h3 : t = 1
  · subst h3; rfl
  · by_cases h4 : 4 ≤ t
    · rw [if_neg (by omega), if_pos (by omega), if_neg h3, if_pos h4]
    · rw [if_neg (by omega), if_neg (by omega), if_neg h3, if_neg h4]
set_option maxHeartbeats 4000000 in
theorem R_callV {as : List Value} {idx k ci a : Nat} (hd : decode M.2.1 pc = .ok (.invokevirtual idx, 3)) (hm : rn_MV M.1.cls idx M' k) (hs : SH a = (ci, 0)) (ha : a < σ.2.2.2) (hcn : rn_cn ci M'.1.cls) (hn : as.length = k) (hl : (rn_en1 (.ref a :: as)).length ≤ M'.2.2.1) (hcat : (st.map fun v => v.category).sum ≤ 8) (hκ : κ'.1 + κ''.1 ≤ κ.1 ∧ κ'.2 + κ''.2 ≤ κ.2)
    (h : Call G d M' (.ref a :: as) σ κ' (fun v σ' => Run G (d + 1) M (pc + 3) ls (rn_ps v st) σ' κ'' Q)) : Run G (d + 1) M pc ls (as.reverse ++ .ref a :: st) σ κ Q := by
  intro p e R s m args below meth c hC CT ST Z h1 h2 hH H locs cells slots lsA hR hL hc hs2
  obtain ⟨hF, hK, hE, hf1, hf2, hnm⟩ := id hC
  obtain ⟨q, hq1, hq2⟩ := hcn
  have h10 : ci < 10 := (List.getElem?_eq_some_iff.mp hq1).1
  obtain ⟨g1, g2, hw⟩ := rn_ob (G := G) hs h10 ha
  have hcv := rn_cv_near (G := G) g1 g2
  have hM := rn_met hm.2.2.2 hl h
  refine rn_after (κ' := κ') (κ'' := κ'') hC h1 h2 hH hR hL (by omega) (by omega) (va_runV (As := as.map (rn_cv G)) (rest := st.map (rn_cv G)) (b := rn_b G + a) (n := k) hF hM (cwV k hF.2.2.2.2 hm.1 rfl rfl rfl ⟨rfl, hm.2.1⟩ (rn_room hf1 hf2 hm.2.2.1)) ⟨rn_blind _, ?_, rn_pre hK hE hR (.ref a :: as) (by rw [List.map_cons, hcv])⟩ rfl (by rw [List.length_map]; exact hn) hL.2.1 ?_ (rn_rm hcat) hd ⟨by omega, by omega⟩)
  · obtain ⟨cell, r1, r2, r3⟩ := va_recv hK hR.1 hq1 hw
    exact ⟨cell, r1, r2, by rw [← hq2]; exact r3⟩
  · show (as.reverse ++ .ref a :: st).map (rn_cv G) = _
    rw [List.map_append, List.map_reverse, List.map_cons, hcv]
set_option maxHeartbeats 4000000 in
/-- a call of a method of a constant text -/
theorem R_callT {as : List Value} {idx k i : Nat} (hd : decode M.2.1 pc = .ok (.invokevirtual idx, 3)) (hm : rn_MV M.1.cls idx M' k) (hi : i < 6) (hcn : M'.1.cls = "java/lang/String") (hn : as.length = k) (hl : (rn_en1 (.ref (1000 + (10 + i)) :: as)).length ≤ M'.2.2.1) (hcat : (st.map fun v => v.category).sum ≤ 8)
    (h : Call G d M' (.ref (1000 + (10 + i)) :: as) σ (0, 0) (fun v σ' => Run G (d + 1) M (pc + 3) ls (rn_ps v st) σ' κ Q)) : Run G (d + 1) M pc ls (as.reverse ++ .ref (1000 + (10 + i)) :: st) σ κ Q := by
  intro p e R s m args below meth c hC CT ST Z h1 h2 hH H locs cells slots lsA hR hL hc hs2
  obtain ⟨hF, hK, hE, hf1, hf2, hnm⟩ := id hC
  have hcv := rn_cv_far (G := G) (r := 10 + i) (by omega)
  have hM := rn_met hm.2.2.2 hl h
  refine rn_after (κ' := (0, 0)) (κ'' := κ) hC h1 h2 hH hR hL (by omega) (by omega) (va_runV (As := as.map (rn_cv G)) (rest := st.map (rn_cv G)) (b := rn_pa G (10 + i)) (n := k) hF hM (cwV k hF.2.2.2.2 hm.1 rfl rfl rfl ⟨rfl, hm.2.1⟩ (rn_room hf1 hf2 hm.2.2.1)) ⟨rn_blind _, ?_, rn_pre hK hE hR (.ref (1000 + (10 + i)) :: as) (by rw [List.map_cons, hcv])⟩ rfl (by rw [List.length_map]; exact hn) hL.2.1 ?_ (rn_rm hcat) hd ⟨by omega, by omega⟩)
  · obtain ⟨cell, r1, r2, r3⟩ := vk_recv hE.2.2.2.2.1 hi hR.2.2.2
    exact ⟨cell, r1, r2, by rw [hcn]; exact r3⟩
  · show (as.reverse ++ .ref (1000 + (10 + i)) :: st).map (rn_cv G) = _
    rw [List.map_append, List.map_reverse, List.map_cons, hcv]
set_option maxHeartbeats 4000000 in
theorem R_callS {as : List Value} {idx k : Nat} (hd : decode M.2.1 pc = .ok (.invokestatic idx, 3)) (hm : rn_MS M.1.cls idx M' k) (hn : as.length = k) (hl : (rn_en1 as).length ≤ M'.2.2.1) (hcat : (st.map fun v => v.category).sum ≤ 8) 
    (h : Call G d M' as σ (0, 0) (fun v σ' => Run G (d + 1) M (pc + 3) ls (rn_ps v st) σ' κ Q)) : Run G (d + 1) M pc ls (as.reverse ++ st) σ κ Q := by
  intro p e R s m args below meth c hC CT ST Z h1 h2 hH H locs cells slots lsA hR hL hc hs2
  obtain ⟨hF, hK, hE, hf1, hf2, hnm⟩ := id hC
  have hM := rn_met hm.2.2.2 hl h
  refine rn_after (κ' := (0, 0)) (κ'' := κ) hC h1 h2 hH hR hL (by omega) (by omega) (va_runS (As := as.map (rn_cv G)) (rest := st.map (rn_cv G)) (n := k) hF hM (va_cwS k hF.2.2.2.2 hm.1 rfl rfl rfl hm.2.1 (rn_room hf1 hf2 hm.2.2.1)) ⟨rn_blind _, rn_pre hK hE hR as rfl⟩ rfl (by rw [List.length_map]; exact hn) hL.2.1 ?_ (rn_rm hcat) hd ⟨by omega, by omega⟩)
  show (as.reverse ++ st).map (rn_cv G) = _
  rw [List.map_append, List.map_reverse]
set_option maxHeartbeats 4000000 in
theorem R_callSN {as : List Value} {idx k : Nat} {host : String} (hd : decode M.2.1 pc = .ok (.invokestatic idx, 3)) (hm : rn_MSN M.1.cls idx host M' k) (hn : as.length = k) (hl : (rn_en1 as).length ≤ M'.2.2.1) (hcat : (st.map fun v => v.category).sum ≤ 8) 
    (h : Call G d M' as σ (0, 0) (fun v σ' => Run G (d + 1) M (pc + 3) ls (rn_ps v st) σ' κ Q)) : Run G (d + 1) M pc ls (as.reverse ++ st) σ κ Q := by
  intro p e R s m args below meth c hC CT ST Z h1 h2 hH H locs cells slots lsA hR hL hc hs2
  obtain ⟨hF, hK, hE, hf1, hf2, hnm⟩ := id hC
  have hM := rn_met hm.2.2.2 hl h
  have hg := hm.1.1
  have hts := hF.2.2.2.2
  refine rn_after (κ' := (0, 0)) (κ'' := κ) hC h1 h2 hH hR hL (by omega) (by omega) (va_runSN (As := as.map (rn_cv G)) (rest := st.map (rn_cv G)) (n := k) (host := host) hF hM ⟨va_cnB k hts (rn_tail hg) rfl rfl rfl (hE.2.2.1 _ hm.1.2) (hts _ (hg _ (List.mem_append_left _ (List.mem_cons_of_mem _ List.mem_cons_self))).1) hm.2.1 (rn_room hf1 hf2 hm.2.2.1), hts _ (hg _ (List.mem_append_left _ List.mem_cons_self)).1, trivial⟩ ⟨rn_blind _, rn_pre hK hE hR as rfl⟩ rfl (by rw [List.length_map]; exact hn) hL.2.1 ?_ (rn_rm hcat) hd ⟨by omega, by omega⟩)
  show (as.reverse ++ st).map (rn_cv G) = _
  rw [List.map_append, List.map_reverse]
theorem rn_ret_none {M' : rn_M} (h : M'.2.2.2 = none) : rn_mw M' = Cond.code M'.1 M'.2.1 M'.2.2.1 none :: rn_WS := by unfold rn_mw; rw [h]
set_option maxHeartbeats 4000000 in
theorem R_callI {as : List Value} {idx k a : Nat} (hd : decode M.2.1 pc = .ok (.invokespecial idx, 3)) (hm : rn_MI M.1.cls idx M' k) (ha : 1 ≤ a ∧ a < 1000) (hn : as.length = k) (hl : (rn_en1 (.ref a :: as)).length ≤ M'.2.2.1) (hcat : (st.map fun v => v.category).sum ≤ 8) (hκ : κ'.1 + κ''.1 ≤ κ.1 ∧ κ'.2 + κ''.2 ≤ κ.2)
    (h : Call G d M' (.ref a :: as) σ κ' (fun v σ' => Run G (d + 1) M (pc + 3) ls (rn_ps v st) σ' κ'' Q)) : Run G (d + 1) M pc ls (as.reverse ++ .ref a :: st) σ κ Q := by
  intro p e R s m args below meth c hC CT ST Z h1 h2 hH H locs cells slots lsA hR hL hc hs2
  obtain ⟨hF, hK, hE, hf1, hf2, hnm⟩ := id hC
  have hcv := rn_cv_near (G := G) ha.1 ha.2
  have hM := rn_met hm.2.2.2 hl h
  have hg := hm.1.1
  have hts := hF.2.2.2.2
  refine rn_after (κ' := κ') (κ'' := κ'') hC h1 h2 hH hR hL (by omega) (by omega) (va_runI (As := as.map (rn_cv G)) (rest := st.map (rn_cv G)) (b := rn_b G + a) (n := k) hF hM (cwI k hts (rn_tail hg) (rn_ret_none hm.1.2.2) rfl rfl (hts _ (hg _ (List.mem_append_left _ (List.mem_cons_of_mem _ (List.mem_cons_of_mem _ List.mem_cons_self)))).1) (hts _ (hg _ (List.mem_append_left _ List.mem_cons_self)).1) (hts _ (hg _ (List.mem_append_left _ (List.mem_cons_of_mem _ List.mem_cons_self))).1) hm.1.2.1 hm.2.1 (rn_room hf1 hf2 hm.2.2.1)) ⟨rn_blind _, rn_pre hK hE hR (.ref a :: as) (by rw [List.map_cons, hcv])⟩ rfl (by rw [List.length_map]; exact hn) hL.2.1 ?_ (rn_rm hcat) hd ⟨by omega, by omega⟩)
  show (as.reverse ++ .ref a :: st).map (rn_cv G) = _
  rw [List.map_append, List.map_reverse, List.map_cons, hcv]
set_option maxHeartbeats 4000000 in
theorem R_callIN {as : List Value} {idx k a : Nat} {host : String} (hd : decode M.2.1 pc = .ok (.invokespecial idx, 3)) (hm : rn_MIN M.1.cls idx host M' k) (ha : 1 ≤ a ∧ a < 1000) (hn : as.length = k) (hl : (rn_en1 (.ref a :: as)).length ≤ M'.2.2.1) (hcat : (st.map fun v => v.category).sum ≤ 8) (hκ : κ'.1 + κ''.1 ≤ κ.1 ∧ κ'.2 + κ''.2 ≤ κ.2)
    (h : Call G d M' (.ref a :: as) σ κ' (fun v σ' => Run G (d + 1) M (pc + 3) ls (rn_ps v st) σ' κ'' Q)) : Run G (d + 1) M pc ls (as.reverse ++ .ref a :: st) σ κ Q := by
  intro p e R s m args below meth c hC CT ST Z h1 h2 hH H locs cells slots lsA hR hL hc hs2
  obtain ⟨hF, hK, hE, hf1, hf2, hnm⟩ := id hC
  have hcv := rn_cv_near (G := G) ha.1 ha.2
  have hM := rn_met hm.2.2.2 hl h
  have hg := hm.1.1
  have hts := hF.2.2.2.2
  refine rn_after (κ' := κ') (κ'' := κ'') hC h1 h2 hH hR hL (by omega) (by omega) (va_runIN (As := as.map (rn_cv G)) (rest := st.map (rn_cv G)) (b := rn_b G + a) (n := k) (host := host) hF hM ⟨va_cnB k hts (rn_tail hg) (rn_ret_none hm.1.2.2.2) rfl rfl (hE.2.2.1 _ hm.1.2.1) (hts _ (hg _ (List.mem_append_left _ (List.mem_cons_of_mem _ List.mem_cons_self))).1) hm.2.1 (rn_room hf1 hf2 hm.2.2.1), hm.1.2.2.1, hts _ (hg _ (List.mem_append_left _ List.mem_cons_self)).1⟩ ⟨rn_blind _, rn_pre hK hE hR (.ref a :: as) (by rw [List.map_cons, hcv])⟩ rfl (by rw [List.length_map]; exact hn) hL.2.1 ?_ (rn_rm hcat) hd ⟨by omega, by omega⟩)
  show (as.reverse ++ .ref a :: st).map (rn_cv G) = _
  rw [List.map_append, List.map_reverse, List.map_cons, hcv]
theorem R_objInit {idx a : Nat} (hd : decode M.2.1 pc = .ok (.invokespecial idx, 3)) (hw : Cond.methodLink M.1.cls idx Lib.objectInit ∈ rn_WS) (hi : Cond.instanceMethod Lib.objectInit ∈ rn_WS) (hco : Cond.code Lib.objectInit ⟨#[0xb1]⟩ 1 none ∈ rn_WS) (ha : 1 ≤ a ∧ a < 1000) (hcat : (st.map fun v => v.category).sum ≤ 8)
    (h : Run G (d + 1) M (pc + 3) ls st σ κ Q) : Run G (d + 1) M pc ls (.ref a :: st) σ κ Q := by
  intro p e R s m args below meth c hC CT ST Z h1 h2 hH H locs cells slots lsA hR hL hc hs2
  obtain ⟨⟨hx, hb, hml, hown, hts⟩, hK, hE, hf1, hf2, hnm⟩ := id hC
  have hcv := rn_cv_near (G := G) ha.1 ha.2
  show W _ _ _ _ _ _ _ _ _ _ _ _ _ _ _ (F0 m pc lsA (rn_cv G (.ref a) :: st.map (rn_cv G)))
  rw [hcv]
  refine W.objInit hx hb hown (hts _ hw) (hts _ hi) (hts _ hco) rfl (hL.2.1.trans hml.symm) rfl hd (by omega) ?_ (h p e R s m args below meth c hC CT ST Z h1 h2 hH H locs cells slots lsA hR hL hc hs2)
  have := rn_rm (G := G) (pc := pc) (m := m) (lsA := lsA) (rest := []) hcat
  show 2 * 0 + _ + 12 ≤ _
  have h3 : 2 * 0 + ((st.map (rn_cv G)).map fun v => v.category).sum ≤ 8 := this
  omega
end RR
