/-! worlds: what the walk holds of the heap, in one word -/
def ww_E (s : State) : Prop := va_Nw (.methodLinkNest RX0 74 yX3_mix "LeaderRows") s
def ww_W (D : va_G) (tys : List (ClassId × FieldType)) (A : Nat → Prop) (s : State) (ws : va_W) (H : Heap) (locs : List Loc) : Prop := va_K D vwCl tys s ∧ va_P D vwCl ws H ∧ va_D A ws ∧ va_S A s.heap H locs ∧ ww_E s
def ww_Pc (D : va_G) (tys : List (ClassId × FieldType)) (av : List Value) (sz : Nat) (ws0 : va_W) : Array Value → State → Prop := va_Pc av (fun U => U.heap.size = sz ∧ va_P D vwCl ws0 U.heap ∧ va_K D vwCl tys U ∧ va_D (fun _ => True) ws0 ∧ ww_E U)
def ww_B (D : va_G) (tys : List (ClassId × FieldType)) (A : Nat → Prop) (ws1 : va_W) : Unit → State → Prop := fun _ t => va_P D vwCl ws1 t.heap ∧ va_K D vwCl tys t ∧ va_D A ws1
def ww_Qi (D : va_G) (tys : List (ClassId × FieldType)) (A : Nat → Prop) (ws1 : va_W) (r : Int32) : Array Value → State → Outcome → State → Prop := va_Qi (S := Unit) (fun r' _ => r' = r) (ww_B D tys A ws1) A
def ww_Ql (D : va_G) (tys : List (ClassId × FieldType)) (A : Nat → Prop) (ws1 : va_W) (r : Int64) : Array Value → State → Outcome → State → Prop := va_Ql (S := Unit) (fun r' _ => r' = r) (ww_B D tys A ws1) A
def ww_Qv (D : va_G) (tys : List (ClassId × FieldType)) (A : Nat → Prop) (ws1 : va_W) : Array Value → State → Outcome → State → Prop := va_Qv (S := Unit) (fun _ => True) (ww_B D tys A ws1) A
def ww_MI (l : Launch) (D : va_G) (tys : List (ClassId × FieldType)) (y : MethodName) (wq : List Cond) (rm : Room) (av : List Value) (ws0 ws1 : va_W) (r : Int32) : Prop := ∀ sz : Nat, Met l y wq rm (ww_Pc D tys av sz ws0) (ww_Qi D tys (va_A ws0 sz) ws1 r) 0 0 (va_A ws0 sz)
def ww_ML (l : Launch) (D : va_G) (tys : List (ClassId × FieldType)) (y : MethodName) (wq : List Cond) (rm : Room) (av : List Value) (ws0 ws1 : va_W) (r : Int64) : Prop := ∀ sz : Nat, Met l y wq rm (ww_Pc D tys av sz ws0) (ww_Ql D tys (va_A ws0 sz) ws1 r) 0 0 (va_A ws0 sz)
def ww_MV (l : Launch) (D : va_G) (tys : List (ClassId × FieldType)) (y : MethodName) (wq : List Cond) (rm : Room) (av : List Value) (ws0 ws1 : va_W) : Prop := ∀ sz : Nat, Met l y wq rm (ww_Pc D tys av sz ws0) (ww_Qv D tys (va_A ws0 sz) ws1) 0 0 (va_A ws0 sz)
def ww_SI (l : Launch) (y : MethodName) (wq : List Cond) (rm : Room) (av : List Value) (r : Int32) : Prop := Met l y wq rm (fun v _ => v = av.toArray) (vp_Si (fun r' => r' = r)) 0 0 (fun _ => False)
def ww_SL (l : Launch) (y : MethodName) (wq : List Cond) (rm : Room) (av : List Value) (r : Int64) : Prop := Met l y wq rm (fun v _ => v = av.toArray) (vp_Sl (fun r' => r' = r)) 0 0 (fun _ => False)
abbrev ww_rm (f n : Nat) : Room := { frames := f, cells := 0, slots := 0, locals := n }
section WwA
variable {p : Program} {l : Launch} {e : Env} {R : Room} {s : State} {m : MethodId} {args : Array Value} {below : List Frame} {meth : Method} {c : Code} {H : Heap} {locs : List Loc} {cells slots : Nat} {Q : State → Prop} {cc : ByteArray} {pc : Nat} {ls : Array Slot} {rest : List Value} {D : va_G} {tys : List (ClassId × FieldType)} {A : Nat → Prop}
theorem ww_MI_mk {l : Launch} {D : va_G} {tys : List (ClassId × FieldType)} {y : MethodName} {wq wq' : List Cond} {rm : Room} {av : List Value} {ws0 ws1 : va_W} {r : Int32} {cc : ByteArray} {maxL : Nat} (rt : FieldType) (hy : plainName y.cls = true) (hw : wq = Cond.code y cc maxL (some rt) :: wq') (hlen : (lg_sl av).length ≤ maxL)
    (body : ∀ (p : Program) (e : Env) (s : State) (m : MethodId) (below : List Frame) (meth : Method) (c : Code) (A : Nat → Prop) (ls : Array Slot), p.tables.exec = Jvm.exec → c.code = cc → meth.sig.returnType = some rt → (∀ w ∈ wq, w.before av.toArray s = true) → s.vm.findClass y.cls = some m.cls → meth.locks = false → c.maxLocals = maxL → (∀ q : Nat, s.heap.size ≤ q → A q) → ww_W D tys A s ws0 s.heap [] → lv_has ls maxL (lv_args 0 av) → W p l e rm s m av.toArray below meth c s.heap [] 0 0 (MQ below (ww_Qi D tys A ws1 r) av.toArray s 0 0 A) (F0 m 0 ls [])) : ww_MI l D tys y wq rm av ws0 ws1 r := by
  intro sz
  refine Met.ofW (cc := cc) (maxL := maxL) (ret := some rt) hy hw ?_
  intro p e s m args below meth c s₁ B hml hv
  obtain ⟨rfl, hsz, hP, hK, hD0, hE⟩ := hv
  subst hsz
  rw [lg_entry_eq]
  exact body p e s m below meth c _ _ B.exec B.bytes B.returns (atoms_spec (ws := wq) B.pre) (findClass_of_methodNamed B.named) B.notSynchronized hml (fun q h => Or.inr h) ⟨hK, hP, hD0.self, va_S.rf, hE⟩ (lv_entry av hlen)
theorem ww_ML_mk {l : Launch} {D : va_G} {tys : List (ClassId × FieldType)} {y : MethodName} {wq wq' : List Cond} {rm : Room} {av : List Value} {ws0 ws1 : va_W} {r : Int64} {cc : ByteArray} {maxL : Nat} (hy : plainName y.cls = true) (hw : wq = Cond.code y cc maxL (some .long) :: wq') (hlen : (lg_sl av).length ≤ maxL)
    (body : ∀ (p : Program) (e : Env) (s : State) (m : MethodId) (below : List Frame) (meth : Method) (c : Code) (A : Nat → Prop) (ls : Array Slot), p.tables.exec = Jvm.exec → c.code = cc → meth.sig.returnType = some .long → (∀ w ∈ wq, w.before av.toArray s = true) → s.vm.findClass y.cls = some m.cls → meth.locks = false → c.maxLocals = maxL → (∀ q : Nat, s.heap.size ≤ q → A q) → ww_W D tys A s ws0 s.heap [] → lv_has ls maxL (lv_args 0 av) → W p l e rm s m av.toArray below meth c s.heap [] 0 0 (MQ below (ww_Ql D tys A ws1 r) av.toArray s 0 0 A) (F0 m 0 ls [])) : ww_ML l D tys y wq rm av ws0 ws1 r := by
  intro sz
  refine Met.ofW (cc := cc) (maxL := maxL) (ret := some .long) hy hw ?_
  intro p e s m args below meth c s₁ B hml hv
  obtain ⟨rfl, hsz, hP, hK, hD0, hE⟩ := hv
  subst hsz
  rw [lg_entry_eq]
  exact body p e s m below meth c _ _ B.exec B.bytes B.returns (atoms_spec (ws := wq) B.pre) (findClass_of_methodNamed B.named) B.notSynchronized hml (fun q h => Or.inr h) ⟨hK, hP, hD0.self, va_S.rf, hE⟩ (lv_entry av hlen)
theorem ww_MV_mk {l : Launch} {D : va_G} {tys : List (ClassId × FieldType)} {y : MethodName} {wq wq' : List Cond} {rm : Room} {av : List Value} {ws0 ws1 : va_W} {cc : ByteArray} {maxL : Nat} (hy : plainName y.cls = true) (hw : wq = Cond.code y cc maxL (none) :: wq') (hlen : (lg_sl av).length ≤ maxL)
    (body : ∀ (p : Program) (e : Env) (s : State) (m : MethodId) (below : List Frame) (meth : Method) (c : Code) (A : Nat → Prop) (ls : Array Slot), p.tables.exec = Jvm.exec → c.code = cc → meth.sig.returnType = none → (∀ w ∈ wq, w.before av.toArray s = true) → s.vm.findClass y.cls = some m.cls → meth.locks = false → c.maxLocals = maxL → (∀ q : Nat, s.heap.size ≤ q → A q) → ww_W D tys A s ws0 s.heap [] → lv_has ls maxL (lv_args 0 av) → W p l e rm s m av.toArray below meth c s.heap [] 0 0 (MQ below (ww_Qv D tys A ws1) av.toArray s 0 0 A) (F0 m 0 ls [])) : ww_MV l D tys y wq rm av ws0 ws1 := by
  intro sz
  refine Met.ofW (cc := cc) (maxL := maxL) (ret := none) hy hw ?_
  intro p e s m args below meth c s₁ B hml hv
  obtain ⟨rfl, hsz, hP, hK, hD0, hE⟩ := hv
  subst hsz
  rw [lg_entry_eq]
  exact body p e s m below meth c _ _ B.exec B.bytes B.returns (atoms_spec (ws := wq) B.pre) (findClass_of_methodNamed B.named) B.notSynchronized hml (fun q h => Or.inr h) ⟨hK, hP, hD0.self, va_S.rf, hE⟩ (lv_entry av hlen)
theorem ww_SI_mk {l : Launch} {y : MethodName} {wq wq' : List Cond} {rm : Room} {av : List Value} {r : Int32} {cc : ByteArray} {maxL : Nat} (rt : FieldType) (hy : plainName y.cls = true) (hw : wq = Cond.code y cc maxL (some rt) :: wq') (hlen : (lg_sl av).length ≤ maxL)
    (body : ∀ (p : Program) (e : Env) (s : State) (m : MethodId) (below : List Frame) (meth : Method) (c : Code) (ls : Array Slot), p.tables.exec = Jvm.exec → c.code = cc → meth.sig.returnType = some rt → (∀ w ∈ wq, w.before av.toArray s = true) → s.vm.findClass y.cls = some m.cls → meth.locks = false → c.maxLocals = maxL → lv_has ls maxL (lv_args 0 av) → W p l e rm s m av.toArray below meth c s.heap [] 0 0 (MQ below (vp_Si (fun r' => r' = r)) av.toArray s 0 0 (fun _ => False)) (F0 m 0 ls [])) : ww_SI l y wq rm av r := by
  refine Met.ofW (cc := cc) (maxL := maxL) (ret := some rt) hy hw ?_
  intro p e s m args below meth c s₁ B hml hv
  obtain rfl := hv
  rw [lg_entry_eq]
  exact body p e s m below meth c _ B.exec B.bytes B.returns (atoms_spec (ws := wq) B.pre) (findClass_of_methodNamed B.named) B.notSynchronized hml (lv_entry av hlen)
theorem ww_SL_mk {l : Launch} {y : MethodName} {wq wq' : List Cond} {rm : Room} {av : List Value} {r : Int64} {cc : ByteArray} {maxL : Nat} (hy : plainName y.cls = true) (hw : wq = Cond.code y cc maxL (some .long) :: wq') (hlen : (lg_sl av).length ≤ maxL)
    (body : ∀ (p : Program) (e : Env) (s : State) (m : MethodId) (below : List Frame) (meth : Method) (c : Code) (ls : Array Slot), p.tables.exec = Jvm.exec → c.code = cc → meth.sig.returnType = some .long → (∀ w ∈ wq, w.before av.toArray s = true) → s.vm.findClass y.cls = some m.cls → meth.locks = false → c.maxLocals = maxL → lv_has ls maxL (lv_args 0 av) → W p l e rm s m av.toArray below meth c s.heap [] 0 0 (MQ below (vp_Sl (fun r' => r' = r)) av.toArray s 0 0 (fun _ => False)) (F0 m 0 ls [])) : ww_SL l y wq rm av r := by
  refine Met.ofW (cc := cc) (maxL := maxL) (ret := some .long) hy hw ?_
  intro p e s m args below meth c s₁ B hml hv
  obtain rfl := hv
  rw [lg_entry_eq]
  exact body p e s m below meth c _ B.exec B.bytes B.returns (atoms_spec (ws := wq) B.pre) (findClass_of_methodNamed B.named) B.notSynchronized hml (lv_entry av hlen)
theorem ww_ri {ws ws1 : va_W} {v r : Int32} (hx : p.tables.exec = Jvm.exec) (hb : c.code = cc) (hr : meth.sig.returnType = some .int) (hlk : meth.locks = false) (hw : ww_W D tys A s ws H locs) (hdg : decode cc pc = .ok (.ireturn, 1)) (hv : v = r) (hws : ws = ws1) : W p l e R s m args below meth c H locs 0 0 (MQ below (ww_Qi D tys A ws1 r) args s 0 0 A) (F0 m pc ls [.int v]) := by
  subst hv; subst hws
  obtain ⟨hK, hP, hD, hS, hE⟩ := hw
  exact W.iret (v := v) hx hb hr (fun t ht hW => ⟨⟨v, (), rfl, rfl, by rw [ht]; exact hP, va_K.moved hW.alike hK, hD⟩, hS.F ht⟩) hS.2.2 hdg hlk
theorem ww_rz {ws ws1 : va_W} {v r : Int32} (hx : p.tables.exec = Jvm.exec) (hb : c.code = cc) (hr : meth.sig.returnType = some .boolean) (hlk : meth.locks = false) (hw : ww_W D tys A s ws H locs) (hdg : decode cc pc = .ok (.ireturn, 1)) (hn : narrow .boolean (.int v) = .int v) (hv : v = r) (hws : ws = ws1) : W p l e R s m args below meth c H locs 0 0 (MQ below (ww_Qi D tys A ws1 r) args s 0 0 A) (F0 m pc ls [.int v]) := by
  subst hv; subst hws
  obtain ⟨hK, hP, hD, hS, hE⟩ := hw
  exact W.zret (v := v) hx hb hr hn (fun t ht hW => ⟨⟨v, (), rfl, rfl, by rw [ht]; exact hP, va_K.moved hW.alike hK, hD⟩, hS.F ht⟩) hS.2.2 hdg hlk
theorem ww_rl {ws ws1 : va_W} {v r : Int64} (hx : p.tables.exec = Jvm.exec) (hb : c.code = cc) (hr : meth.sig.returnType = some .long) (hlk : meth.locks = false) (hw : ww_W D tys A s ws H locs) (hdg : decode cc pc = .ok (.lreturn, 1)) (hv : v = r) (hws : ws = ws1) : W p l e R s m args below meth c H locs 0 0 (MQ below (ww_Ql D tys A ws1 r) args s 0 0 A) (F0 m pc ls [.long v]) := by
  subst hv; subst hws
  obtain ⟨hK, hP, hD, hS, hE⟩ := hw
  exact W.lret (v := v) hx hb hr (fun t ht hW => ⟨⟨v, (), rfl, rfl, by rw [ht]; exact hP, va_K.moved hW.alike hK, hD⟩, hS.F ht⟩) hS.2.2 hdg hlk
theorem ww_rv {ws ws1 : va_W} (hx : p.tables.exec = Jvm.exec) (hb : c.code = cc) (hr : meth.sig.returnType = none) (hlk : meth.locks = false) (hw : ww_W D tys A s ws H locs) (hdg : decode cc pc = .ok (.return_, 1)) (hws : ws = ws1) : W p l e R s m args below meth c H locs 0 0 (MQ below (ww_Qv D tys A ws1) args s 0 0 A) (F0 m pc ls []) := by
  subst hws
  obtain ⟨hK, hP, hD, hS, hE⟩ := hw
  exact W.vret hx hb hr (fun t ht hW => ⟨⟨(), rfl, trivial, by rw [ht]; exact hP, va_K.moved hW.alike hK, hD⟩, hS.F ht⟩) hS.2.2 hdg hlk
theorem ww_sri {v r : Int32} (hx : p.tables.exec = Jvm.exec) (hb : c.code = cc) (hr : meth.sig.returnType = some .int) (hlk : meth.locks = false) (hdg : decode cc pc = .ok (.ireturn, 1)) (hv : v = r) : W p l e R s m args below meth c s.heap [] 0 0 (MQ below (vp_Si (fun r' => r' = r)) args s 0 0 (fun _ => False)) (F0 m pc ls [.int v]) := by
  subst hv
  exact W.iret (v := v) hx hb hr (fun t ht hW => ⟨v, rfl, rfl, ht⟩) (fun q h => by cases h) hdg hlk
theorem ww_srz {v r : Int32} (hx : p.tables.exec = Jvm.exec) (hb : c.code = cc) (hr : meth.sig.returnType = some .boolean) (hlk : meth.locks = false) (hdg : decode cc pc = .ok (.ireturn, 1)) (hn : narrow .boolean (.int v) = .int v) (hv : v = r) : W p l e R s m args below meth c s.heap [] 0 0 (MQ below (vp_Si (fun r' => r' = r)) args s 0 0 (fun _ => False)) (F0 m pc ls [.int v]) := by
  subst hv
  exact W.zret (v := v) hx hb hr hn (fun t ht hW => ⟨v, rfl, rfl, ht⟩) (fun q h => by cases h) hdg hlk
theorem ww_srl {v r : Int64} (hx : p.tables.exec = Jvm.exec) (hb : c.code = cc) (hr : meth.sig.returnType = some .long) (hlk : meth.locks = false) (hdg : decode cc pc = .ok (.lreturn, 1)) (hv : v = r) : W p l e R s m args below meth c s.heap [] 0 0 (MQ below (vp_Sl (fun r' => r' = r)) args s 0 0 (fun _ => False)) (F0 m pc ls [.long v]) := by
  subst hv
  exact W.lret (v := v) hx hb hr (fun t ht hW => ⟨v, rfl, rfl, ht⟩) (fun q h => by cases h) hdg hlk
theorem ww_top {x y : Int32} (h : x = y) (k : W p l e R s m args below meth c H locs cells slots Q (F0 m pc ls (.int y :: rest))) : W p l e R s m args below meth c H locs cells slots Q (F0 m pc ls (.int x :: rest)) := by rw [h]; exact k
theorem ww_topl {x y : Int64} (h : x = y) (k : W p l e R s m args below meth c H locs cells slots Q (F0 m pc ls (.long y :: rest))) : W p l e R s m args below meth c H locs cells slots Q (F0 m pc ls (.long x :: rest)) := by rw [h]; exact k
theorem ww_lif_eq (hx : p.tables.exec = Jvm.exec) (hb : c.code = cc) {x y : Int64} {off : Int} {tgt : Nat} (hd1 : decode cc pc = .ok (.lcmp, 1)) (hdg : decode cc (pc + 1) = .ok (.ifCond .eq off, 3)) (ht : ((pc + 1 : Nat) : Int) + off = (tgt : Int))
    (kt : x = y → W p l e R s m args below meth c H locs cells slots Q (F0 m tgt ls rest)) (kf : ¬ x = y → W p l e R s m args below meth c H locs cells slots Q (F0 m (pc + 1 + 3) ls rest)) : W p l e R s m args below meth c H locs cells slots Q (F0 m pc ls (.long y :: .long x :: rest)) := by
  refine W.lcmp hx hb hd1 ?_
  exact lv_if_eq hx hb hdg ht (fun h => kt ((lg_cmp_eq x y).mp h)) (fun h => kf (fun h2 => h ((lg_cmp_eq x y).mpr h2)))
theorem ww_lif_ne (hx : p.tables.exec = Jvm.exec) (hb : c.code = cc) {x y : Int64} {off : Int} {tgt : Nat} (hd1 : decode cc pc = .ok (.lcmp, 1)) (hdg : decode cc (pc + 1) = .ok (.ifCond .ne off, 3)) (ht : ((pc + 1 : Nat) : Int) + off = (tgt : Int))
    (kt : ¬ x = y → W p l e R s m args below meth c H locs cells slots Q (F0 m tgt ls rest)) (kf : x = y → W p l e R s m args below meth c H locs cells slots Q (F0 m (pc + 1 + 3) ls rest)) : W p l e R s m args below meth c H locs cells slots Q (F0 m pc ls (.long y :: .long x :: rest)) := by
  refine W.lcmp hx hb hd1 ?_
  exact lv_if_ne hx hb hdg ht (fun h => kt (fun h2 => h ((lg_cmp_eq x y).mpr h2))) (fun h => kf ((lg_cmp_eq x y).mp h))
theorem ww_lif_lt (hx : p.tables.exec = Jvm.exec) (hb : c.code = cc) {x y : Int64} {off : Int} {tgt : Nat} (hd1 : decode cc pc = .ok (.lcmp, 1)) (hdg : decode cc (pc + 1) = .ok (.ifCond .lt off, 3)) (ht : ((pc + 1 : Nat) : Int) + off = (tgt : Int))
    (kt : x < y → W p l e R s m args below meth c H locs cells slots Q (F0 m tgt ls rest)) (kf : ¬ x < y → W p l e R s m args below meth c H locs cells slots Q (F0 m (pc + 1 + 3) ls rest)) : W p l e R s m args below meth c H locs cells slots Q (F0 m pc ls (.long y :: .long x :: rest)) := by
  refine W.lcmp hx hb hd1 ?_
  exact lv_if_lt hx hb hdg ht (fun h => kt ((lg_cmp_lt x y).mp h)) (fun h => kf (fun h2 => h ((lg_cmp_lt x y).mpr h2)))
theorem ww_lif_ge (hx : p.tables.exec = Jvm.exec) (hb : c.code = cc) {x y : Int64} {off : Int} {tgt : Nat} (hd1 : decode cc pc = .ok (.lcmp, 1)) (hdg : decode cc (pc + 1) = .ok (.ifCond .ge off, 3)) (ht : ((pc + 1 : Nat) : Int) + off = (tgt : Int))
    (kt : y ≤ x → W p l e R s m args below meth c H locs cells slots Q (F0 m tgt ls rest)) (kf : ¬ y ≤ x → W p l e R s m args below meth c H locs cells slots Q (F0 m (pc + 1 + 3) ls rest)) : W p l e R s m args below meth c H locs cells slots Q (F0 m pc ls (.long y :: .long x :: rest)) := by
  refine W.lcmp hx hb hd1 ?_
  exact lv_if_ge hx hb hdg ht (fun h => kt ((lg_cmp_ge x y).mp h)) (fun h => kf (fun h2 => h ((lg_cmp_ge x y).mpr h2)))
theorem ww_lif_gt (hx : p.tables.exec = Jvm.exec) (hb : c.code = cc) {x y : Int64} {off : Int} {tgt : Nat} (hd1 : decode cc pc = .ok (.lcmp, 1)) (hdg : decode cc (pc + 1) = .ok (.ifCond .gt off, 3)) (ht : ((pc + 1 : Nat) : Int) + off = (tgt : Int))
    (kt : y < x → W p l e R s m args below meth c H locs cells slots Q (F0 m tgt ls rest)) (kf : ¬ y < x → W p l e R s m args below meth c H locs cells slots Q (F0 m (pc + 1 + 3) ls rest)) : W p l e R s m args below meth c H locs cells slots Q (F0 m pc ls (.long y :: .long x :: rest)) := by
  refine W.lcmp hx hb hd1 ?_
  exact lv_if_gt hx hb hdg ht (fun h => kt ((lg_cmp_gt x y).mp h)) (fun h => kf (fun h2 => h ((lg_cmp_gt x y).mpr h2)))
theorem ww_lif_le (hx : p.tables.exec = Jvm.exec) (hb : c.code = cc) {x y : Int64} {off : Int} {tgt : Nat} (hd1 : decode cc pc = .ok (.lcmp, 1)) (hdg : decode cc (pc + 1) = .ok (.ifCond .le off, 3)) (ht : ((pc + 1 : Nat) : Int) + off = (tgt : Int))
    (kt : x ≤ y → W p l e R s m args below meth c H locs cells slots Q (F0 m tgt ls rest)) (kf : ¬ x ≤ y → W p l e R s m args below meth c H locs cells slots Q (F0 m (pc + 1 + 3) ls rest)) : W p l e R s m args below meth c H locs cells slots Q (F0 m pc ls (.long y :: .long x :: rest)) := by
  refine W.lcmp hx hb hd1 ?_
  exact lv_if_le hx hb hdg ht (fun h => kt ((lg_cmp_le x y).mp h)) (fun h => kf (fun h2 => h ((lg_cmp_le x y).mpr h2)))
theorem ww_cMI {y : MethodName} {bytes : ByteArray} {maxL nL n index : Nat} {ret : Option FieldType} {wq Ts : List Cond} {rm : Room} {own C : String} {b : Nat} {As st : List Value} {ws0 ws1 : va_W} {r : Int32} (hx : p.tables.exec = Jvm.exec) (hb : c.code = cc) (hml : c.maxLocals = nL) (hown : s.vm.findClass own = some m.cls) (hts : ∀ w ∈ Ts, w.before args s = true) (hA : ∀ q : Nat, s.heap.size ≤ q → A q) (hw : ww_W D tys A s ws0 H locs) (hsz : ls.size = nL)
    (hM : ww_MI l D tys y wq rm (.ref b :: As) ws0 ws1 r) (cw : CallW R s args own C index y bytes maxL ret wq rm 0 0 n) (hn : As.length = n) (q0 : Nat) {ci : Nat} {fs : List Value} {vc : vw_C} (he : ws0[q0]? = some (b, .inr (ci, fs))) (hc : vwCl[ci]? = some vc) (hC : vc.1 = C) (hst : st = As.reverse ++ .ref b :: rest) (hrm : (rest.map fun v => v.category).sum ≤ 8) (hf : cells ≤ R.cells ∧ slots ≤ R.slots) (hdg : decode cc pc = .ok (.invokevirtual index, 3))
    (kk : ∀ (H1 : Heap) (locs1 : List Loc), ww_W D tys A s ws1 H1 locs1 → W p l e R s m args below meth c H1 locs1 cells slots Q (F0 m (pc + 3) ls (.int r :: rest))) : W p l e R s m args below meth c H locs cells slots Q (F0 m pc ls st) := by
  subst hst
  obtain ⟨hK, hP, hD, hS, hE⟩ := hw
  have hF : ∀ q, va_A ws0 H.size q → A q := by
    rintro q (⟨k, e, hk⟩ | h)
    · exact hD.2 k _ hk
    · exact hA q (Nat.le_trans hS.1 h)
  refine va_calli (va_runV (As := As) (rest := rest) ⟨hx, hb, hml, hown, hts⟩ (hM H.size) cw ⟨fun a U g mk q => ?_, ?_, fun U hU hW => ?_⟩ rfl hn hsz rfl (lv_room hrm) hdg ⟨hf.1, hf.2⟩) hS (fun q _ h => hF q h) hF (fun r1 u t H1 locs1 ht hvm hp hB hz1 hk1 hS1 => ?_)
  · obtain ⟨q0, q1, qP, qK, qD, qE⟩ := q
    exact ⟨q0, q1, qP, va_K.moved (u := U) (U := U.calling g mk a) (Vm.Alike.refl U.vm) qK, qD, va_Nw.same rfl (u := U) (U := U.calling g mk a) rfl qE⟩
  · rw [← hC]
    exact va_recv hK hP hc he
  · exact ⟨rfl, by rw [hU], by rw [hU]; exact hP, va_K.moved hW.alike hK, hD.weaken (fun _ _ _ _ => trivial), va_Nw.warmM hW hE⟩
  · obtain ⟨hP1, hK1, hD1⟩ := hB
    rw [ht] at hP1
    subst hp
    exact kk H1 locs1 ⟨hK, hP1, hD1.weaken (fun _ q _ h => hF q.1 h), hS1, hE⟩
theorem ww_cML {y : MethodName} {bytes : ByteArray} {maxL nL n index : Nat} {ret : Option FieldType} {wq Ts : List Cond} {rm : Room} {own C : String} {b : Nat} {As st : List Value} {ws0 ws1 : va_W} {r : Int64} (hx : p.tables.exec = Jvm.exec) (hb : c.code = cc) (hml : c.maxLocals = nL) (hown : s.vm.findClass own = some m.cls) (hts : ∀ w ∈ Ts, w.before args s = true) (hA : ∀ q : Nat, s.heap.size ≤ q → A q) (hw : ww_W D tys A s ws0 H locs) (hsz : ls.size = nL)
    (hM : ww_ML l D tys y wq rm (.ref b :: As) ws0 ws1 r) (cw : CallW R s args own C index y bytes maxL ret wq rm 0 0 n) (hn : As.length = n) (q0 : Nat) {ci : Nat} {fs : List Value} {vc : vw_C} (he : ws0[q0]? = some (b, .inr (ci, fs))) (hc : vwCl[ci]? = some vc) (hC : vc.1 = C) (hst : st = As.reverse ++ .ref b :: rest) (hrm : (rest.map fun v => v.category).sum ≤ 8) (hf : cells ≤ R.cells ∧ slots ≤ R.slots) (hdg : decode cc pc = .ok (.invokevirtual index, 3))
    (kk : ∀ (H1 : Heap) (locs1 : List Loc), ww_W D tys A s ws1 H1 locs1 → W p l e R s m args below meth c H1 locs1 cells slots Q (F0 m (pc + 3) ls (.long r :: rest))) : W p l e R s m args below meth c H locs cells slots Q (F0 m pc ls st) := by
  subst hst
  obtain ⟨hK, hP, hD, hS, hE⟩ := hw
  have hF : ∀ q, va_A ws0 H.size q → A q := by
    rintro q (⟨k, e, hk⟩ | h)
    · exact hD.2 k _ hk
    · exact hA q (Nat.le_trans hS.1 h)
  refine va_calll (va_runV (As := As) (rest := rest) ⟨hx, hb, hml, hown, hts⟩ (hM H.size) cw ⟨fun a U g mk q => ?_, ?_, fun U hU hW => ?_⟩ rfl hn hsz rfl (lv_room hrm) hdg ⟨hf.1, hf.2⟩) hS (fun q _ h => hF q h) hF (fun r1 u t H1 locs1 ht hvm hp hB hz1 hk1 hS1 => ?_)
  · obtain ⟨q0, q1, qP, qK, qD, qE⟩ := q
    exact ⟨q0, q1, qP, va_K.moved (u := U) (U := U.calling g mk a) (Vm.Alike.refl U.vm) qK, qD, va_Nw.same rfl (u := U) (U := U.calling g mk a) rfl qE⟩
  · rw [← hC]
    exact va_recv hK hP hc he
  · exact ⟨rfl, by rw [hU], by rw [hU]; exact hP, va_K.moved hW.alike hK, hD.weaken (fun _ _ _ _ => trivial), va_Nw.warmM hW hE⟩
  · obtain ⟨hP1, hK1, hD1⟩ := hB
    rw [ht] at hP1
    subst hp
    exact kk H1 locs1 ⟨hK, hP1, hD1.weaken (fun _ q _ h => hF q.1 h), hS1, hE⟩
theorem ww_cMV {y : MethodName} {bytes : ByteArray} {maxL nL n index : Nat} {ret : Option FieldType} {wq Ts : List Cond} {rm : Room} {own C : String} {b : Nat} {As st : List Value} {ws0 ws1 : va_W} (hx : p.tables.exec = Jvm.exec) (hb : c.code = cc) (hml : c.maxLocals = nL) (hown : s.vm.findClass own = some m.cls) (hts : ∀ w ∈ Ts, w.before args s = true) (hA : ∀ q : Nat, s.heap.size ≤ q → A q) (hw : ww_W D tys A s ws0 H locs) (hsz : ls.size = nL)
    (hM : ww_MV l D tys y wq rm (.ref b :: As) ws0 ws1) (cw : CallW R s args own C index y bytes maxL ret wq rm 0 0 n) (hn : As.length = n) (q0 : Nat) {ci : Nat} {fs : List Value} {vc : vw_C} (he : ws0[q0]? = some (b, .inr (ci, fs))) (hc : vwCl[ci]? = some vc) (hC : vc.1 = C) (hst : st = As.reverse ++ .ref b :: rest) (hrm : (rest.map fun v => v.category).sum ≤ 8) (hf : cells ≤ R.cells ∧ slots ≤ R.slots) (hdg : decode cc pc = .ok (.invokevirtual index, 3))
    (kk : ∀ (H1 : Heap) (locs1 : List Loc), ww_W D tys A s ws1 H1 locs1 → W p l e R s m args below meth c H1 locs1 cells slots Q (F0 m (pc + 3) ls rest)) : W p l e R s m args below meth c H locs cells slots Q (F0 m pc ls st) := by
  subst hst
  obtain ⟨hK, hP, hD, hS, hE⟩ := hw
  have hF : ∀ q, va_A ws0 H.size q → A q := by
    rintro q (⟨k, e, hk⟩ | h)
    · exact hD.2 k _ hk
    · exact hA q (Nat.le_trans hS.1 h)
  refine va_callv (va_runV (As := As) (rest := rest) ⟨hx, hb, hml, hown, hts⟩ (hM H.size) cw ⟨fun a U g mk q => ?_, ?_, fun U hU hW => ?_⟩ rfl hn hsz rfl (lv_room hrm) hdg ⟨hf.1, hf.2⟩) hS (fun q _ h => hF q h) hF (fun u t H1 locs1 ht hvm hp hB hz1 hk1 hS1 => ?_)
  · obtain ⟨q0, q1, qP, qK, qD, qE⟩ := q
    exact ⟨q0, q1, qP, va_K.moved (u := U) (U := U.calling g mk a) (Vm.Alike.refl U.vm) qK, qD, va_Nw.same rfl (u := U) (U := U.calling g mk a) rfl qE⟩
  · rw [← hC]
    exact va_recv hK hP hc he
  · exact ⟨rfl, by rw [hU], by rw [hU]; exact hP, va_K.moved hW.alike hK, hD.weaken (fun _ _ _ _ => trivial), va_Nw.warmM hW hE⟩
  · obtain ⟨hP1, hK1, hD1⟩ := hB
    rw [ht] at hP1
    skip
    exact kk H1 locs1 ⟨hK, hP1, hD1.weaken (fun _ q _ h => hF q.1 h), hS1, hE⟩
theorem ww_cSI {y : MethodName} {bytes : ByteArray} {maxL nL n index : Nat} {ret : Option FieldType} {wq Ts : List Cond} {rm : Room} {own : String} {As st : List Value} {r : Int32} (hx : p.tables.exec = Jvm.exec) (hb : c.code = cc) (hml : c.maxLocals = nL) (hown : s.vm.findClass own = some m.cls) (hts : ∀ w ∈ Ts, w.before args s = true) (hsz : ls.size = nL)
    (hM : ww_SI l y wq rm As r) (cw : CallB R s args own index y bytes maxL ret wq rm 0 0 n ∧ (Cond.static y).before args s = true) (hn : As.length = n) (hst : st = As.reverse ++ rest) (hrm : (rest.map fun v => v.category).sum ≤ 8) (hf : cells ≤ R.cells ∧ slots ≤ R.slots) (hdg : decode cc pc = .ok (.invokestatic index, 3))
    (kk : W p l e R s m args below meth c H locs cells slots Q (F0 m (pc + 3) ls (.int r :: rest))) : W p l e R s m args below meth c H locs cells slots Q (F0 m pc ls st) := by
  subst hst
  refine vp_callSi (W.runS (As := As) (rest := rest) ⟨hx, hb, hml, hown, hts⟩ hM cw preEq rfl hn hsz rfl (lv_room hrm) hdg ⟨hf.1, hf.2⟩) (fun r1 hp => ?_)
  subst hp
  exact kk
theorem ww_cSL {y : MethodName} {bytes : ByteArray} {maxL nL n index : Nat} {ret : Option FieldType} {wq Ts : List Cond} {rm : Room} {own : String} {As st : List Value} {r : Int64} (hx : p.tables.exec = Jvm.exec) (hb : c.code = cc) (hml : c.maxLocals = nL) (hown : s.vm.findClass own = some m.cls) (hts : ∀ w ∈ Ts, w.before args s = true) (hsz : ls.size = nL)
    (hM : ww_SL l y wq rm As r) (cw : CallB R s args own index y bytes maxL ret wq rm 0 0 n ∧ (Cond.static y).before args s = true) (hn : As.length = n) (hst : st = As.reverse ++ rest) (hrm : (rest.map fun v => v.category).sum ≤ 8) (hf : cells ≤ R.cells ∧ slots ≤ R.slots) (hdg : decode cc pc = .ok (.invokestatic index, 3))
    (kk : W p l e R s m args below meth c H locs cells slots Q (F0 m (pc + 3) ls (.long r :: rest))) : W p l e R s m args below meth c H locs cells slots Q (F0 m pc ls st) := by
  subst hst
  refine vp_callSl (W.runS (As := As) (rest := rest) ⟨hx, hb, hml, hown, hts⟩ hM cw preEq rfl hn hsz rfl (lv_room hrm) hdg ⟨hf.1, hf.2⟩) (fun r1 hp => ?_)
  subst hp
  exact kk
theorem ww_cSNL {y : MethodName} {bytes : ByteArray} {maxL nL n index : Nat} {ret : Option FieldType} {wq Ts : List Cond} {rm : Room} {own host : String} {As st : List Value} {r : Int64} (hx : p.tables.exec = Jvm.exec) (hb : c.code = cc) (hml : c.maxLocals = nL) (hown : s.vm.findClass own = some m.cls) (hts : ∀ w ∈ Ts, w.before args s = true) (hsz : ls.size = nL)
    (hM : ww_SL l y wq rm As r) (cw : va_CN R s args own index y host bytes maxL ret wq rm 0 0 n ∧ (Cond.static y).before args s = true ∧ True) (hn : As.length = n) (hst : st = As.reverse ++ rest) (hrm : (rest.map fun v => v.category).sum ≤ 8) (hf : cells ≤ R.cells ∧ slots ≤ R.slots) (hdg : decode cc pc = .ok (.invokestatic index, 3))
    (kk : W p l e R s m args below meth c H locs cells slots Q (F0 m (pc + 3) ls (.long r :: rest))) : W p l e R s m args below meth c H locs cells slots Q (F0 m pc ls st) := by
  subst hst
  refine vp_callSl (va_Run.run (va_runSN (As := As) (rest := rest) ⟨hx, hb, hml, hown, hts⟩ hM cw preEq rfl hn hsz rfl (lv_room hrm) hdg ⟨hf.1, hf.2⟩)) (fun r1 hp => ?_)
  subst hp
  exact kk
theorem ww_joinI {st : List Value} (pcJ : Nat) (v : Int32) (K : W p l e R s m args below meth c H locs cells slots Q (F0 m pcJ ls (.int v :: rest)) → W p l e R s m args below meth c H locs cells slots Q (F0 m pc ls st)) (k : W p l e R s m args below meth c H locs cells slots Q (F0 m pcJ ls (.int v :: rest))) : W p l e R s m args below meth c H locs cells slots Q (F0 m pc ls st) := K k
theorem ww_joinL {st : List Value} (pcJ : Nat) (v : Int64) (K : W p l e R s m args below meth c H locs cells slots Q (F0 m pcJ ls (.long v :: rest)) → W p l e R s m args below meth c H locs cells slots Q (F0 m pc ls st)) (k : W p l e R s m args below meth c H locs cells slots Q (F0 m pcJ ls (.long v :: rest))) : W p l e R s m args below meth c H locs cells slots Q (F0 m pc ls st) := K k
end WwA
/-! rows of arrays, half done -/
def mx {α : Type} (k : Nat) (a b : Nat → α) : Nat → α := fun j => if j < k then a j else b j
theorem mx_at {α : Type} (k : Nat) (a b : Nat → α) : mx k a b k = b k := if_neg (Nat.lt_irrefl k)
theorem mx_0 {α : Type} (a b : Nat → α) : mx 0 a b = b := funext fun j => if_neg (Nat.not_lt_zero j)
theorem mx_lo {α : Type} {k j : Nat} (a b : Nat → α) (h : j < k) : mx k a b j = a j := if_pos h
theorem mx_hi {α : Type} {k j : Nat} (a b : Nat → α) (h : k ≤ j) : mx k a b j = b j := if_neg (Nat.not_lt.mpr h)
theorem mx_up {k : Nat} {a b : Nat → Int32} {v : Int32} (h : v = a k) : upd (mx k a b) k v = mx (k + 1) a b := by
  funext j
  unfold upd mx
  by_cases h1 : j = k
  · subst h1
    rw [if_pos rfl, if_pos (Nat.lt_succ_self j), h]
  · rw [if_neg h1]
    by_cases h2 : j < k
    · rw [if_pos h2, if_pos (Nat.lt_succ_of_lt h2)]
    · rw [if_neg h2, if_neg (by omega)]
theorem mx_upL {k : Nat} {a b : Nat → Int64} {v : Int64} (h : v = a k) : vp_updL (mx k a b) k v = mx (k + 1) a b := by
  funext j
  unfold vp_updL mx
  by_cases h1 : j = k
  · subst h1
    rw [if_pos rfl, if_pos (Nat.lt_succ_self j), h]
  · rw [if_neg h1]
    by_cases h2 : j < k
    · rw [if_pos h2, if_pos (Nat.lt_succ_of_lt h2)]
    · rw [if_neg h2, if_neg (by omega)]
theorem mx_sk {α : Type} {k : Nat} {a b : Nat → α} (h : b k = a k) : mx k a b = mx (k + 1) a b := by
  funext j
  unfold mx
  by_cases h1 : j = k
  · subst h1
    rw [if_neg (Nat.lt_irrefl j), if_pos (Nat.lt_succ_self j), h]
  · by_cases h2 : j < k
    · rw [if_pos h2, if_pos (Nat.lt_succ_of_lt h2)]
    · rw [if_neg h2, if_neg (by omega)]
theorem nI_n {k : Nat} (h : k < 2 ^ 31) : (nI k).toNatClampNeg = k := nI_clamp h
theorem nI_nge {k : Nat} (n : Nat) {x : Int32} (hx : x = nI n) (h : k < n) (hn : n < 2 ^ 31) : ¬ x ≤ nI k := by rw [hx]; exact nI_ge h hn
