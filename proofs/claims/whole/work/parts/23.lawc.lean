theorem ww_KL {D : va_G} {cl : List vw_C} {a b : List (ClassId × FieldType)} {U : State} (h : va_K D cl (a ++ b) U) : va_K D cl a U := ⟨h.1, fun k q hk => h.2 k q (by
  rw [List.getElem?_append_left (List.getElem?_eq_some_iff.mp hk).1]; exact hk)⟩
theorem ww_KR {D : va_G} {cl : List vw_C} {a b : List (ClassId × FieldType)} {U : State} (h : va_K D cl (a ++ b) U) : va_K D cl b U := ⟨h.1, fun k q hk => h.2 (a.length + k) q (by
  rw [List.getElem?_append_right (by omega), Nat.add_sub_cancel_left]; exact hk)⟩
theorem ww_aL {α : Type} {a b : List α} {k : Nat} {q : α} (h : a[k]? = some q) : (a ++ b)[k]? = some q := by
  rw [List.getElem?_append_left (List.getElem?_eq_some_iff.mp h).1]; exact h
theorem ww_aR {α : Type} {a b : List α} {k : Nat} {q : α} (h : b[k]? = some q) : (a ++ b)[a.length + k]? = some q := by
  rw [List.getElem?_append_right (by omega), Nat.add_sub_cancel_left]; exact h
theorem ww_DL {A : Nat → Prop} {a b : va_W} (h : va_D A (a ++ b)) : va_D A a := ⟨fun i j p q h1 h2 h3 => h.1 i j p q (ww_aL h1) (ww_aL h2) h3, fun k q hk => h.2 k q (ww_aL hk)⟩
theorem ww_DR {A : Nat → Prop} {a b : va_W} (h : va_D A (a ++ b)) : va_D A b := ⟨fun i j p q h1 h2 h3 => by
  have := h.1 (a.length + i) (a.length + j) p q (ww_aR h1) (ww_aR h2) h3
  omega, fun k q hk => h.2 _ q (ww_aR hk)⟩
theorem ww_Dx {A : Nat → Prop} {a b : va_W} (h : va_D A (a ++ b)) {i j : Nat} {p q : Nat × va_E} (h1 : a[i]? = some p) (h2 : b[j]? = some q) : p.1 ≠ q.1 := fun e => by
  have := h.1 i (a.length + j) p q (ww_aL h1) (ww_aR h2) e
  have := (List.getElem?_eq_some_iff.mp h1).1
  omega
/-- the worlds of a call put together again: the callee's on the left -/
theorem ww_jL {D : va_G} {cl : List vw_C} {A : Nat → Prop} {w0 w1 v : va_W} {H H1 : Heap} (hP : va_P D cl (w0 ++ v) H) (hD : va_D A (w0 ++ v)) (hk : ∀ q : Nat, q < H.size → ¬ va_A w0 H.size q → H1[q]? = H[q]?) (hF : ∀ q, va_A w0 H.size q → A q) (hP1 : va_P D cl w1 H1) (hD1 : va_D (va_A w0 H.size) w1) : va_P D cl (w1 ++ v) H1 ∧ va_D A (w1 ++ v) := by
  have hv : ∀ (k : Nat) (q : Nat × va_E), v[k]? = some q → q.1 < H.size ∧ ¬ va_A w0 H.size q.1 := by
    intro k q hq
    have h1 : q.1 < H.size := (hP _ q (ww_aR hq)).lt
    refine ⟨h1, ?_⟩
    rintro (⟨i, e, hi⟩ | h2)
    · exact ww_Dx hD hi hq rfl
    · omega
  refine ⟨hP1.app (va_P.kept (H := H) (fun k q hq => hP _ q (ww_aR hq)) (fun k q hq => hk _ (hv k q hq).1 (hv k q hq).2)), va_D.app (hD1.weaken (fun _ q _ h => hF q.1 h)) (ww_DR hD) (fun i j p q h1 h2 e => ?_)⟩
  exact (hv j q h2).2 (e ▸ hD1.2 i p h1)
theorem ww_jR {D : va_G} {cl : List vw_C} {A : Nat → Prop} {w0 w1 v : va_W} {H H1 : Heap} (hP : va_P D cl (v ++ w0) H) (hD : va_D A (v ++ w0)) (hk : ∀ q : Nat, q < H.size → ¬ va_A w0 H.size q → H1[q]? = H[q]?) (hF : ∀ q, va_A w0 H.size q → A q) (hP1 : va_P D cl w1 H1) (hD1 : va_D (va_A w0 H.size) w1) : va_P D cl (v ++ w1) H1 ∧ va_D A (v ++ w1) := by
  have hv : ∀ (k : Nat) (q : Nat × va_E), v[k]? = some q → q.1 < H.size ∧ ¬ va_A w0 H.size q.1 := by
    intro k q hq
    have h1 : q.1 < H.size := (hP _ q (ww_aL hq)).lt
    refine ⟨h1, ?_⟩
    rintro (⟨i, e, hi⟩ | h2)
    · exact ww_Dx hD hq hi rfl
    · omega
  refine ⟨(va_P.kept (H := H) (fun k q hq => hP _ q (ww_aL hq)) (fun k q hq => hk _ (hv k q hq).1 (hv k q hq).2)).app hP1, va_D.app (ww_DL hD) (hD1.weaken (fun _ q _ h => hF q.1 h)) (fun i j p q h1 h2 e => ?_)⟩
  exact (hv i p h1).2 (e ▸ hD1.2 j q h2)
/-! the rows of a table that the class reads -/
def f_lst (j : Nat) : Int32 := if j < 2 then 0 else 1
def f_mst (j : Nat) : Int32 := if j < 2 then 100 else 20
def ww_Zs (t0 t1 : Nat) (A : Nat → Prop) (U : State) (H : Heap) : Prop := va_Z "LeaderRows" "LEAST_OF_TERM" "[I" (.ref t0) A U H ∧ va_T .int t0 4 (fun j => .int (f_lst j)) A U H ∧ va_Z "LeaderRows" "MOST_OF_TERM" "[I" (.ref t1) A U H ∧ va_T .int t1 4 (fun j => .int (f_mst j)) A U H
def ww_MZ (l : Launch) (D : va_G) (tys : List (ClassId × FieldType)) (t0 t1 : Nat) (y : MethodName) (wq : List Cond) (rm : Room) (av : List Value) (ws0 ws1 : va_W) (r : Int32) : Prop := ∀ sz : Nat, Met l y wq rm (va_Pc av (fun U => (U.heap.size = sz ∧ va_P D vwCl ws0 U.heap ∧ va_K D vwCl tys U ∧ va_D (fun _ => True) ws0 ∧ ww_E U) ∧ ww_Zs t0 t1 (va_A ws0 sz) U U.heap)) (ww_Qi D tys (va_A ws0 sz) ws1 r) 0 0 (va_A ws0 sz)
section WwL
variable {p : Program} {l : Launch} {e : Env} {R : Room} {s : State} {m : MethodId} {args : Array Value} {below : List Frame} {meth : Method} {c : Code} {H : Heap} {locs : List Loc} {cells slots : Nat} {Q : State → Prop} {cc : ByteArray} {pc : Nat} {ls : Array Slot} {rest : List Value} {D : va_G} {tC tR : List (ClassId × FieldType)} {A : Nat → Prop}
theorem ww_cMIL {y : MethodName} {bytes : ByteArray} {maxL nL n index : Nat} {ret : Option FieldType} {wq Ts : List Cond} {rm : Room} {own C : String} {b : Nat} {As st : List Value} {ws0 ws1 wsv : va_W} {r : Int32} (hx : p.tables.exec = Jvm.exec) (hb : c.code = cc) (hml : c.maxLocals = nL) (hown : s.vm.findClass own = some m.cls) (hts : ∀ w ∈ Ts, w.before args s = true) (hA : ∀ q : Nat, s.heap.size ≤ q → A q) (hw : ww_W D (tC ++ tR) A s (ws0 ++ wsv) H locs) (hsz : ls.size = nL)
    (hM : ww_MI l D tC y wq rm (.ref b :: As) ws0 ws1 r) (cw : CallW R s args own C index y bytes maxL ret wq rm 0 0 n) (hn : As.length = n) (q0 : Nat) {ci : Nat} {fs : List Value} {vc : vw_C} (he : ws0[q0]? = some (b, .inr (ci, fs))) (hc : vwCl[ci]? = some vc) (hC : vc.1 = C) (hst : st = As.reverse ++ .ref b :: rest) (hrm : (rest.map fun v => v.category).sum ≤ 8) (hf : cells ≤ R.cells ∧ slots ≤ R.slots) (hdg : decode cc pc = .ok (.invokevirtual index, 3))
    (kk : ∀ (H1 : Heap) (locs1 : List Loc), ww_W D (tC ++ tR) A s (ws1 ++ wsv) H1 locs1 → W p l e R s m args below meth c H1 locs1 cells slots Q (F0 m (pc + 3) ls (.int r :: rest))) : W p l e R s m args below meth c H locs cells slots Q (F0 m pc ls st) := by
  subst hst
  obtain ⟨hK, hP, hD, hS, hE⟩ := hw
  have hK0 := ww_KL hK
  have hP0 : va_P D vwCl ws0 H := (fun k q hk => hP k q (ww_aL hk))
  have hD0 : va_D A ws0 := ww_DL hD
  have hF : ∀ q, va_A ws0 H.size q → A q := by
    rintro q (⟨k, e, hk⟩ | h)
    · exact hD0.2 k _ hk
    · exact hA q (Nat.le_trans hS.1 h)
  refine va_calli (va_runV (As := As) (rest := rest) ⟨hx, hb, hml, hown, hts⟩ (hM H.size) cw ⟨fun a U g mk q => ?_, ?_, fun U hU hW => ?_⟩ rfl hn hsz rfl (lv_room hrm) hdg ⟨hf.1, hf.2⟩) hS (fun q _ h => hF q h) hF (fun r1 u t H1 locs1 ht hvm hp hB hz1 hk1 hS1 => ?_)
  · skip
    obtain ⟨q0, q1, qP, qK, qD, qE⟩ := q
    exact ⟨q0, q1, qP, va_K.moved (u := U) (U := U.calling g mk a) (Vm.Alike.refl U.vm) qK, qD, va_Nw.same rfl (u := U) (U := U.calling g mk a) rfl qE⟩
  · rw [← hC]
    exact va_recv hK0 hP0 hc he
  · skip
    exact ⟨rfl, by rw [hU], by rw [hU]; exact hP0, va_K.moved hW.alike hK0, hD0.weaken (fun _ _ _ _ => trivial), va_Nw.warmM hW hE⟩
  · obtain ⟨hP1, hK1, hD1⟩ := hB
    rw [ht] at hP1
    subst hp
    obtain ⟨j1, j2⟩ := ww_jL hP hD hk1 hF hP1 hD1
    exact kk H1 locs1 ⟨hK, j1, j2, hS1, hE⟩
theorem ww_cMIR {y : MethodName} {bytes : ByteArray} {maxL nL n index : Nat} {ret : Option FieldType} {wq Ts : List Cond} {rm : Room} {own C : String} {b : Nat} {As st : List Value} {ws0 ws1 wsv : va_W} {r : Int32} (hx : p.tables.exec = Jvm.exec) (hb : c.code = cc) (hml : c.maxLocals = nL) (hown : s.vm.findClass own = some m.cls) (hts : ∀ w ∈ Ts, w.before args s = true) (hA : ∀ q : Nat, s.heap.size ≤ q → A q) (hw : ww_W D (tR ++ tC) A s (wsv ++ ws0) H locs) (hsz : ls.size = nL)
    (hM : ww_MI l D tC y wq rm (.ref b :: As) ws0 ws1 r) (cw : CallW R s args own C index y bytes maxL ret wq rm 0 0 n) (hn : As.length = n) (q0 : Nat) {ci : Nat} {fs : List Value} {vc : vw_C} (he : ws0[q0]? = some (b, .inr (ci, fs))) (hc : vwCl[ci]? = some vc) (hC : vc.1 = C) (hst : st = As.reverse ++ .ref b :: rest) (hrm : (rest.map fun v => v.category).sum ≤ 8) (hf : cells ≤ R.cells ∧ slots ≤ R.slots) (hdg : decode cc pc = .ok (.invokevirtual index, 3))
    (kk : ∀ (H1 : Heap) (locs1 : List Loc), ww_W D (tR ++ tC) A s (wsv ++ ws1) H1 locs1 → W p l e R s m args below meth c H1 locs1 cells slots Q (F0 m (pc + 3) ls (.int r :: rest))) : W p l e R s m args below meth c H locs cells slots Q (F0 m pc ls st) := by
  subst hst
  obtain ⟨hK, hP, hD, hS, hE⟩ := hw
  have hK0 := ww_KR hK
  have hP0 : va_P D vwCl ws0 H := (fun k q hk => hP _ q (ww_aR hk))
  have hD0 : va_D A ws0 := ww_DR hD
  have hF : ∀ q, va_A ws0 H.size q → A q := by
    rintro q (⟨k, e, hk⟩ | h)
    · exact hD0.2 k _ hk
    · exact hA q (Nat.le_trans hS.1 h)
  refine va_calli (va_runV (As := As) (rest := rest) ⟨hx, hb, hml, hown, hts⟩ (hM H.size) cw ⟨fun a U g mk q => ?_, ?_, fun U hU hW => ?_⟩ rfl hn hsz rfl (lv_room hrm) hdg ⟨hf.1, hf.2⟩) hS (fun q _ h => hF q h) hF (fun r1 u t H1 locs1 ht hvm hp hB hz1 hk1 hS1 => ?_)
  · skip
    obtain ⟨q0, q1, qP, qK, qD, qE⟩ := q
    exact ⟨q0, q1, qP, va_K.moved (u := U) (U := U.calling g mk a) (Vm.Alike.refl U.vm) qK, qD, va_Nw.same rfl (u := U) (U := U.calling g mk a) rfl qE⟩
  · rw [← hC]
    exact va_recv hK0 hP0 hc he
  · skip
    exact ⟨rfl, by rw [hU], by rw [hU]; exact hP0, va_K.moved hW.alike hK0, hD0.weaken (fun _ _ _ _ => trivial), va_Nw.warmM hW hE⟩
  · obtain ⟨hP1, hK1, hD1⟩ := hB
    rw [ht] at hP1
    subst hp
    obtain ⟨j1, j2⟩ := ww_jR hP hD hk1 hF hP1 hD1
    exact kk H1 locs1 ⟨hK, j1, j2, hS1, hE⟩
theorem ww_cMLL {y : MethodName} {bytes : ByteArray} {maxL nL n index : Nat} {ret : Option FieldType} {wq Ts : List Cond} {rm : Room} {own C : String} {b : Nat} {As st : List Value} {ws0 ws1 wsv : va_W} {r : Int64} (hx : p.tables.exec = Jvm.exec) (hb : c.code = cc) (hml : c.maxLocals = nL) (hown : s.vm.findClass own = some m.cls) (hts : ∀ w ∈ Ts, w.before args s = true) (hA : ∀ q : Nat, s.heap.size ≤ q → A q) (hw : ww_W D (tC ++ tR) A s (ws0 ++ wsv) H locs) (hsz : ls.size = nL)
    (hM : ww_ML l D tC y wq rm (.ref b :: As) ws0 ws1 r) (cw : CallW R s args own C index y bytes maxL ret wq rm 0 0 n) (hn : As.length = n) (q0 : Nat) {ci : Nat} {fs : List Value} {vc : vw_C} (he : ws0[q0]? = some (b, .inr (ci, fs))) (hc : vwCl[ci]? = some vc) (hC : vc.1 = C) (hst : st = As.reverse ++ .ref b :: rest) (hrm : (rest.map fun v => v.category).sum ≤ 8) (hf : cells ≤ R.cells ∧ slots ≤ R.slots) (hdg : decode cc pc = .ok (.invokevirtual index, 3))
    (kk : ∀ (H1 : Heap) (locs1 : List Loc), ww_W D (tC ++ tR) A s (ws1 ++ wsv) H1 locs1 → W p l e R s m args below meth c H1 locs1 cells slots Q (F0 m (pc + 3) ls (.long r :: rest))) : W p l e R s m args below meth c H locs cells slots Q (F0 m pc ls st) := by
  subst hst
  obtain ⟨hK, hP, hD, hS, hE⟩ := hw
  have hK0 := ww_KL hK
  have hP0 : va_P D vwCl ws0 H := (fun k q hk => hP k q (ww_aL hk))
  have hD0 : va_D A ws0 := ww_DL hD
  have hF : ∀ q, va_A ws0 H.size q → A q := by
    rintro q (⟨k, e, hk⟩ | h)
    · exact hD0.2 k _ hk
    · exact hA q (Nat.le_trans hS.1 h)
  refine va_calll (va_runV (As := As) (rest := rest) ⟨hx, hb, hml, hown, hts⟩ (hM H.size) cw ⟨fun a U g mk q => ?_, ?_, fun U hU hW => ?_⟩ rfl hn hsz rfl (lv_room hrm) hdg ⟨hf.1, hf.2⟩) hS (fun q _ h => hF q h) hF (fun r1 u t H1 locs1 ht hvm hp hB hz1 hk1 hS1 => ?_)
  · skip
    obtain ⟨q0, q1, qP, qK, qD, qE⟩ := q
    exact ⟨q0, q1, qP, va_K.moved (u := U) (U := U.calling g mk a) (Vm.Alike.refl U.vm) qK, qD, va_Nw.same rfl (u := U) (U := U.calling g mk a) rfl qE⟩
  · rw [← hC]
    exact va_recv hK0 hP0 hc he
  · skip
    exact ⟨rfl, by rw [hU], by rw [hU]; exact hP0, va_K.moved hW.alike hK0, hD0.weaken (fun _ _ _ _ => trivial), va_Nw.warmM hW hE⟩
  · obtain ⟨hP1, hK1, hD1⟩ := hB
    rw [ht] at hP1
    subst hp
    obtain ⟨j1, j2⟩ := ww_jL hP hD hk1 hF hP1 hD1
    exact kk H1 locs1 ⟨hK, j1, j2, hS1, hE⟩
theorem ww_cMLR {y : MethodName} {bytes : ByteArray} {maxL nL n index : Nat} {ret : Option FieldType} {wq Ts : List Cond} {rm : Room} {own C : String} {b : Nat} {As st : List Value} {ws0 ws1 wsv : va_W} {r : Int64} (hx : p.tables.exec = Jvm.exec) (hb : c.code = cc) (hml : c.maxLocals = nL) (hown : s.vm.findClass own = some m.cls) (hts : ∀ w ∈ Ts, w.before args s = true) (hA : ∀ q : Nat, s.heap.size ≤ q → A q) (hw : ww_W D (tR ++ tC) A s (wsv ++ ws0) H locs) (hsz : ls.size = nL)
    (hM : ww_ML l D tC y wq rm (.ref b :: As) ws0 ws1 r) (cw : CallW R s args own C index y bytes maxL ret wq rm 0 0 n) (hn : As.length = n) (q0 : Nat) {ci : Nat} {fs : List Value} {vc : vw_C} (he : ws0[q0]? = some (b, .inr (ci, fs))) (hc : vwCl[ci]? = some vc) (hC : vc.1 = C) (hst : st = As.reverse ++ .ref b :: rest) (hrm : (rest.map fun v => v.category).sum ≤ 8) (hf : cells ≤ R.cells ∧ slots ≤ R.slots) (hdg : decode cc pc = .ok (.invokevirtual index, 3))
    (kk : ∀ (H1 : Heap) (locs1 : List Loc), ww_W D (tR ++ tC) A s (wsv ++ ws1) H1 locs1 → W p l e R s m args below meth c H1 locs1 cells slots Q (F0 m (pc + 3) ls (.long r :: rest))) : W p l e R s m args below meth c H locs cells slots Q (F0 m pc ls st) := by
  subst hst
  obtain ⟨hK, hP, hD, hS, hE⟩ := hw
  have hK0 := ww_KR hK
  have hP0 : va_P D vwCl ws0 H := (fun k q hk => hP _ q (ww_aR hk))
  have hD0 : va_D A ws0 := ww_DR hD
  have hF : ∀ q, va_A ws0 H.size q → A q := by
    rintro q (⟨k, e, hk⟩ | h)
    · exact hD0.2 k _ hk
    · exact hA q (Nat.le_trans hS.1 h)
  refine va_calll (va_runV (As := As) (rest := rest) ⟨hx, hb, hml, hown, hts⟩ (hM H.size) cw ⟨fun a U g mk q => ?_, ?_, fun U hU hW => ?_⟩ rfl hn hsz rfl (lv_room hrm) hdg ⟨hf.1, hf.2⟩) hS (fun q _ h => hF q h) hF (fun r1 u t H1 locs1 ht hvm hp hB hz1 hk1 hS1 => ?_)
  · skip
    obtain ⟨q0, q1, qP, qK, qD, qE⟩ := q
    exact ⟨q0, q1, qP, va_K.moved (u := U) (U := U.calling g mk a) (Vm.Alike.refl U.vm) qK, qD, va_Nw.same rfl (u := U) (U := U.calling g mk a) rfl qE⟩
  · rw [← hC]
    exact va_recv hK0 hP0 hc he
  · skip
    exact ⟨rfl, by rw [hU], by rw [hU]; exact hP0, va_K.moved hW.alike hK0, hD0.weaken (fun _ _ _ _ => trivial), va_Nw.warmM hW hE⟩
  · obtain ⟨hP1, hK1, hD1⟩ := hB
    rw [ht] at hP1
    subst hp
    obtain ⟨j1, j2⟩ := ww_jR hP hD hk1 hF hP1 hD1
    exact kk H1 locs1 ⟨hK, j1, j2, hS1, hE⟩
theorem ww_cMILz {y : MethodName} {bytes : ByteArray} {maxL nL n index : Nat} {ret : Option FieldType} {wq Ts : List Cond} {rm : Room} {own C : String} {b : Nat} {As st : List Value} {ws0 ws1 wsv : va_W} {r : Int32} {t0 t1 : Nat} (hx : p.tables.exec = Jvm.exec) (hb : c.code = cc) (hml : c.maxLocals = nL) (hown : s.vm.findClass own = some m.cls) (hts : ∀ w ∈ Ts, w.before args s = true) (hA : ∀ q : Nat, s.heap.size ≤ q → A q) (hw : ww_W D (tC ++ tR) A s (ws0 ++ wsv) H locs) (hZ : ww_Zs t0 t1 A s s.heap) (hsz : ls.size = nL)
    (hM : ww_MZ l D tC t0 t1 y wq rm (.ref b :: As) ws0 ws1 r) (cw : CallW R s args own C index y bytes maxL ret wq rm 0 0 n) (hn : As.length = n) (q0 : Nat) {ci : Nat} {fs : List Value} {vc : vw_C} (he : ws0[q0]? = some (b, .inr (ci, fs))) (hc : vwCl[ci]? = some vc) (hC : vc.1 = C) (hst : st = As.reverse ++ .ref b :: rest) (hrm : (rest.map fun v => v.category).sum ≤ 8) (hf : cells ≤ R.cells ∧ slots ≤ R.slots) (hdg : decode cc pc = .ok (.invokevirtual index, 3))
    (kk : ∀ (H1 : Heap) (locs1 : List Loc), ww_W D (tC ++ tR) A s (ws1 ++ wsv) H1 locs1 → W p l e R s m args below meth c H1 locs1 cells slots Q (F0 m (pc + 3) ls (.int r :: rest))) : W p l e R s m args below meth c H locs cells slots Q (F0 m pc ls st) := by
  subst hst
  obtain ⟨hK, hP, hD, hS, hE⟩ := hw
  have hK0 := ww_KL hK
  have hP0 : va_P D vwCl ws0 H := (fun k q hk => hP k q (ww_aL hk))
  have hD0 : va_D A ws0 := ww_DL hD
  have hF : ∀ q, va_A ws0 H.size q → A q := by
    rintro q (⟨k, e, hk⟩ | h)
    · exact hD0.2 k _ hk
    · exact hA q (Nat.le_trans hS.1 h)
  refine va_calli (va_runV (As := As) (rest := rest) ⟨hx, hb, hml, hown, hts⟩ (hM H.size) cw ⟨fun a U g mk q => ?_, ?_, fun U hU hW => ?_⟩ rfl hn hsz rfl (lv_room hrm) hdg ⟨hf.1, hf.2⟩) hS (fun q _ h => hF q h) hF (fun r1 u t H1 locs1 ht hvm hp hB hz1 hk1 hS1 => ?_)
  · skip
    obtain ⟨q0, ⟨q1, qP, qK, qD, qE⟩, z1, z2, z3, z4⟩ := q
    exact ⟨q0, ⟨q1, qP, va_K.moved (u := U) (U := U.calling g mk a) (Vm.Alike.refl U.vm) qK, qD, va_Nw.same rfl (u := U) (U := U.calling g mk a) rfl qE⟩, z1.moved (u := U) (U := U.calling g mk a) (Vm.Alike.refl U.vm), z2.moved (u := U) (U := U.calling g mk a) (Vm.Alike.refl U.vm), z3.moved (u := U) (U := U.calling g mk a) (Vm.Alike.refl U.vm), z4.moved (u := U) (U := U.calling g mk a) (Vm.Alike.refl U.vm)⟩
  · rw [← hC]
    exact va_recv hK0 hP0 hc he
  · skip
    obtain ⟨z1, z2, z3, z4⟩ := hZ
    refine ⟨rfl, ⟨by rw [hU], by rw [hU]; exact hP0, va_K.moved hW.alike hK0, hD0.weaken (fun _ _ _ _ => trivial), va_Nw.warmM hW hE⟩, ?_⟩
    rw [hU]
    exact ⟨((z1.kept hS.2.1).narrow hF).moved hW.alike, ((z2.kept hS.2.1).narrow hF).moved hW.alike, ((z3.kept hS.2.1).narrow hF).moved hW.alike, ((z4.kept hS.2.1).narrow hF).moved hW.alike⟩
  · obtain ⟨hP1, hK1, hD1⟩ := hB
    rw [ht] at hP1
    subst hp
    obtain ⟨j1, j2⟩ := ww_jL hP hD hk1 hF hP1 hD1
    exact kk H1 locs1 ⟨hK, j1, j2, hS1, hE⟩
end WwL
