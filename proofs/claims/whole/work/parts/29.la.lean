/-! THE CLAIM OUT OF ONE WALK OF THE LAW'S BODY. Your part is whole_start (and what it stands on); all else here is the same for every law, but numbers. -/
def R_law : String := "LeaderRowsLaw"
def lw_P (b : Addr) (xs : List Int32) (args : Array Value) (s : State) : Prop := args = #[.ref b] ∧ s.IntsAt b xs ∧ xs.length ≤ 3072 ∧ (Jvm.Cond.and given_1 narrow_1).before args s = true
def lw_Q (_ : Array Value) (s : State) (o : Outcome) (t : State) : Prop := o = .returned (some (.int 1)) ∧ Framed s o t [] 600000 7302250
def lw_Z (below : List Frame) (a : Array Value) (s : State) : State → Prop := fun t => ∃ o, t.status = .running ∧ Ended t below o ∧ lw_Q a s o t
/-- the law's own end, with 1 on the stack, nothing written that was there before, its room as the claim has it -/
theorem lw_ret {p : Program} {l : Launch} {e : Env} {s : State} {m : MethodId} {below : List Frame} {meth : Method} {c : Code} {b : Nat} (hx : p.tables.exec = Jvm.exec) (hb : c.code = code) (hr : meth.sig.returnType = ret) (hlocks : meth.locks = false) {pc : Nat} {H : Heap} {ls : Array Slot} (hdg : decode code pc = .ok (.ireturn, 1)) : W p l e room_1 s m #[Value.ref b] below meth c H [] 600000 7302250 (lw_Z below #[Value.ref b] s) (F0 m pc ls [.int 1]) := by
  intro T hT X
  obtain ⟨fs, hret, hrun, hended, hW, hframe⟩ := X.leave (v := some (.int 1)) (hlocks := hlocks) (fun h => by rw [hr] at h; cases h)
  have hmeth' : T.vm.method? m = some meth := X.method'
  refine ⟨T.setFrames fs, ?_, .returned (some (.int 1)), hrun, hended, rfl, ⟨_, rfl⟩, hW, hframe⟩
  jvm_step X.here [X.here.top, hx, hb, hdg, hmeth', hr, ret, narrow_b1]
  (try refine ⟨rfl, ?_⟩); (try refine ⟨rfl, ?_⟩)
  first | (intro acts; rw [hret _ acts rfl rfl rfl]) | rw [hret _ _ rfl rfl rfl]
  exact Steps.refl _
/-- what holds at the law's entry: the machine, the code, the tables' words (any of lw_tbl by 'hts w (by decide +kernel)'), the script of L ints xs at the cell b, what the Statement gives of the start (any of its parts by flat_of_before) -/
def lw_At (p : Program) (s : State) (m : MethodId) (meth : Method) (c : Code) (b L : Nat) (xs : Nat → Int32) : Prop :=
  p.tables.exec = Jvm.exec ∧ c.code = code ∧ meth.sig.returnType = ret ∧ c.maxLocals = 4 ∧ s.vm.findClass R_law = some m.cls ∧ (∀ w ∈ lw_tbl, w.before #[Value.ref b] s = true) ∧ va_X b L xs s s.heap ∧ b < s.heap.size ∧ meth.locks = false ∧ (Jvm.Cond.and given_1 narrow_1).before #[Value.ref b] s = true
def f_lg (a b : Int32) : Int64 := (a.toInt64 <<< ((32 : Int32).toInt64 &&& 63)) ||| (b.toInt64 &&& 4294967295)
def f_bl (a : Int32) : Int32 := if a = 0 then 0 else 1
theorem lr_c0 {adc : Nat → Nat} {cyc : Nat → ClassId} {adm : Nat → Nat} {cym : Nat → ClassId} {q : Nat} {wC wM : va_W} (h : lr_S adc cyc adm cym q wC wM) : (∃ fs, wC[0]? = some (adc 0, .inr (3, fs))) ∧ ∃ fs, wM[0]? = some (adm 0, .inr (4, fs)) := by
  obtain ⟨qc, T, phase, epoch, nxt, nextTurn, rsum, ecnt, esum, efac, enum, sum, seed, pot, estr, rowSeed, stream, terms, claimed, ewt, ewa, rlead, rnum, nw, nwa, nled, nmis, nmio, nas, nmem, ncom, nop, isMem, hasCom, hasOp, elects, waits, rowLeads, rowDraws, ndep, ndig, nnum, rfl, rfl, _⟩ := h
  exact ⟨⟨_, rfl⟩, ⟨_, rfl⟩⟩
theorem lr_Sm {adc : Nat → Nat} {cyc : Nat → ClassId} {adm : Nat → Nat} {cym : Nat → ClassId} {q : Nat} {wC wM : va_W} (h : lr_S adc cyc adm cym q wC wM) : lr_S adc cyc adm cym (q + 1) wC wM := by
  obtain ⟨qc, T, phase, epoch, nxt, nextTurn, rsum, ecnt, esum, efac, enum, sum, seed, pot, estr, rowSeed, stream, terms, claimed, ewt, ewa, rlead, rnum, nw, nwa, nled, nmis, nmio, nas, nmem, ncom, nop, isMem, hasCom, hasOp, elects, waits, rowLeads, rowDraws, ndep, ndig, nnum, rfl, rfl, hI⟩ := h
  exact ⟨_, _, _, _, _, _, _, _, _, _, _, _, _, _, _, _, _, _, _, _, _, _, _, _, _, _, _, _, _, _, _, _, _, _, _, _, _, _, _, _, _, _, rfl, rfl, lr_mono hI⟩
theorem law_c {L q : Nat} (hL : L ≤ 3072) (hq : q ≤ 513) (h : ¬ Int32.ofNat L - 6 < nI (6 * q)) : 6 * q + 6 ≤ L := by
  rw [Int32.lt_iff_toInt_lt, Int32.toInt_sub, nI_toInt (by omega)] at h
  have e : (Int32.ofNat L).toInt = L := nI_toInt (n := L) (by omega)
  have f : (6 : Int32).toInt = 6 := rfl
  rw [e, f, Int.bmod_eq_of_le (by omega) (by omega)] at h
  omega
set_option maxHeartbeats 8000000 in
set_option maxRecDepth 100000 in
theorem la_weight {p : Program} {l : Launch} {e : Env} {s : State} {m : MethodId} {below : List Frame} {meth : Method} {c : Code} {D : va_G} {adc : Nat → Nat} {cyc : Nat → ClassId} {adm : Nat → Nat} {cym : Nat → ClassId} {b L : Nat} {xs : Nat → Int32} {t0 t1 cells slots q : Nat} {Q : State → Prop} {wC wM : va_W} {H : Heap} {locs : List Loc} {ls : Array Slot} (hL : L ≤ 3072) (C0 : lw_At p s m meth c b L xs) (hZ : ww_Zs t0 t1 (fun q : Nat => s.heap.size ≤ q) s s.heap) (hq : 6 * q + 6 ≤ L) (hS : lr_S adc cyc adm cym q wC wM) (hw : ww_W D (cw_t cyc ++ mw_t cym) (fun q : Nat => s.heap.size ≤ q) s (wC ++ wM) H locs) (hl : lv_has ls 4 [(0, .ref b), (1, .ref (adc 0)), (2, .ref (adm 0)), (3, .int (nI (6 * q)))]) (hcs : cells ≤ room_1.cells ∧ slots ≤ room_1.slots)
    (kk : ∀ (wC' wM' : va_W) (H1 : Heap) (locs1 : List Loc), lr_S adc cyc adm cym (q + 1) wC' wM' → ww_W D (cw_t cyc ++ mw_t cym) (fun q : Nat => s.heap.size ≤ q) s (wC' ++ wM') H1 locs1 → W p l e room_1 s m #[Value.ref b] below meth c H1 locs1 cells slots Q (F0 m 806 ls [])) : W p l e room_1 s m #[Value.ref b] below meth c H locs cells slots Q (F0 m 124 ls []) := by
  obtain ⟨hx, hb, hr, hml, hown, hts, hX, hbl, hlocks, hgv⟩ := C0
  have hA : ∀ q : Nat, s.heap.size ≤ q → (fun q : Nat => s.heap.size ≤ q) q := fun _ h => h
  have hbA : ¬ (fun q : Nat => s.heap.size ≤ q) b := Nat.not_le.mpr hbl
  obtain ⟨r, wC', wM', kc, km, hS'⟩ := ar_weight l D (show q < 512 by omega) hS (xs (6 * q + 1)) (xs (6 * q + 2))
  obtain ⟨⟨fs, hc0⟩, ⟨fm, hm0⟩⟩ := lr_c0 hS
  refine lv_aload_n hx hb dL_law_124 rfl (lv_at hl 1 rfl) ?_
  refine lv_aload_n hx hb dL_law_125 rfl (lv_at hl 0 rfl) ?_
  refine lv_iload_n hx hb dL_law_126 rfl (lv_at hl 3 rfl) ?_
  refine lv_iconst (v := 1) hx hb dL_law_127 (by decide) ?_
  refine lv_iadd hx hb dL_law_128 ?_
  refine ww_top (show nI (6 * q) + 1 = nI (6 * q + 1) from nI_add (6 * q) 1) ?_
  refine va_sld hx hb hX hbl hbA hw.2.2.2.1 (vp_in_nI (n := 6 * q + 1) (by omega) (by omega)) dL_law_129 ?_
  refine ww_top (congrArg xs (nI_clamp (n := 6 * q + 1) (by omega))) ?_
  refine lv_aload_n hx hb dL_law_130 rfl (lv_at hl 0 rfl) ?_
  refine lv_iload_n hx hb dL_law_131 rfl (lv_at hl 3 rfl) ?_
  refine lv_iconst (v := 2) hx hb dL_law_132 (by decide) ?_
  refine lv_iadd hx hb dL_law_133 ?_
  refine ww_top (show nI (6 * q) + 2 = nI (6 * q + 2) from nI_add (6 * q) 2) ?_
  refine va_sld hx hb hX hbl hbA hw.2.2.2.1 (vp_in_nI (n := 6 * q + 2) (by omega) (by omega)) dL_law_134 ?_
  refine ww_top (congrArg xs (nI_clamp (n := 6 * q + 2) (by omega))) ?_
  refine ww_cMIL (As := [.int (xs (6 * q + 1)), .int (xs (6 * q + 2))]) (rest := []) hx hb hml hown hts hA hw hl.1 kc (cwV 2 hts gL_law_X3_weight rfl rfl rfl (by decide +kernel) ⟨(Nat.le_of_ble_eq_true rfl), (Nat.le_of_ble_eq_true rfl)⟩) rfl 0 hc0 rfl rfl rfl (Nat.le_of_ble_eq_true rfl) hcs dL_law_135 (fun H locs hw => ?_)
  refine lv_aload_n hx hb dL_law_138 rfl (lv_at hl 2 rfl) ?_
  refine lv_aload_n hx hb dL_law_139 rfl (lv_at hl 0 rfl) ?_
  refine lv_iload_n hx hb dL_law_140 rfl (lv_at hl 3 rfl) ?_
  refine lv_iconst (v := 1) hx hb dL_law_141 (by decide) ?_
  refine lv_iadd hx hb dL_law_142 ?_
  refine ww_top (show nI (6 * q) + 1 = nI (6 * q + 1) from nI_add (6 * q) 1) ?_
  refine va_sld hx hb hX hbl hbA hw.2.2.2.1 (vp_in_nI (n := 6 * q + 1) (by omega) (by omega)) dL_law_143 ?_
  refine ww_top (congrArg xs (nI_clamp (n := 6 * q + 1) (by omega))) ?_
  refine lv_aload_n hx hb dL_law_144 rfl (lv_at hl 0 rfl) ?_
  refine lv_iload_n hx hb dL_law_145 rfl (lv_at hl 3 rfl) ?_
  refine lv_iconst (v := 2) hx hb dL_law_146 (by decide) ?_
  refine lv_iadd hx hb dL_law_147 ?_
  refine ww_top (show nI (6 * q) + 2 = nI (6 * q + 2) from nI_add (6 * q) 2) ?_
  refine va_sld hx hb hX hbl hbA hw.2.2.2.1 (vp_in_nI (n := 6 * q + 2) (by omega) (by omega)) dL_law_148 ?_
  refine ww_top (congrArg xs (nI_clamp (n := 6 * q + 2) (by omega))) ?_
  refine ww_cMIR (As := [.int (xs (6 * q + 1)), .int (xs (6 * q + 2))]) (rest := [.int r]) hx hb hml hown hts hA hw hl.1 km (cwV 2 hts gL_law_X4_weight rfl rfl rfl (by decide +kernel) ⟨(Nat.le_of_ble_eq_true rfl), (Nat.le_of_ble_eq_true rfl)⟩) rfl 0 hm0 rfl rfl rfl (Nat.le_of_ble_eq_true rfl) hcs dL_law_149 (fun H locs hw => ?_)
  exact lv_icmp_eq (tgt := 806) hx hb dL_law_152 (by decide) (fun _ => kk wC' wM' H locs hS' hw) (fun h => absurd rfl h)
set_option maxHeartbeats 8000000 in
set_option maxRecDepth 100000 in
theorem la_deposit {p : Program} {l : Launch} {e : Env} {s : State} {m : MethodId} {below : List Frame} {meth : Method} {c : Code} {D : va_G} {adc : Nat → Nat} {cyc : Nat → ClassId} {adm : Nat → Nat} {cym : Nat → ClassId} {b L : Nat} {xs : Nat → Int32} {t0 t1 cells slots q : Nat} {Q : State → Prop} {wC wM : va_W} {H : Heap} {locs : List Loc} {ls : Array Slot} (hL : L ≤ 3072) (C0 : lw_At p s m meth c b L xs) (hZ : ww_Zs t0 t1 (fun q : Nat => s.heap.size ≤ q) s s.heap) (hq : 6 * q + 6 ≤ L) (hS : lr_S adc cyc adm cym q wC wM) (hw : ww_W D (cw_t cyc ++ mw_t cym) (fun q : Nat => s.heap.size ≤ q) s (wC ++ wM) H locs) (hl : lv_has ls 4 [(0, .ref b), (1, .ref (adc 0)), (2, .ref (adm 0)), (3, .int (nI (6 * q)))]) (hcs : cells ≤ room_1.cells ∧ slots ≤ room_1.slots)
    (kk : ∀ (wC' wM' : va_W) (H1 : Heap) (locs1 : List Loc), lr_S adc cyc adm cym (q + 1) wC' wM' → ww_W D (cw_t cyc ++ mw_t cym) (fun q : Nat => s.heap.size ≤ q) s (wC' ++ wM') H1 locs1 → W p l e room_1 s m #[Value.ref b] below meth c H1 locs1 cells slots Q (F0 m 806 ls [])) : W p l e room_1 s m #[Value.ref b] below meth c H locs cells slots Q (F0 m 157 ls []) := by
  obtain ⟨hx, hb, hr, hml, hown, hts, hX, hbl, hlocks, hgv⟩ := C0
  have hA : ∀ q : Nat, s.heap.size ≤ q → (fun q : Nat => s.heap.size ≤ q) q := fun _ h => h
  have hbA : ¬ (fun q : Nat => s.heap.size ≤ q) b := Nat.not_le.mpr hbl
  obtain ⟨r, wC', wM', kc, km, hS'⟩ := ar_deposit l D (show q < 512 by omega) hS (xs (6 * q + 1)) (f_lg (xs (6 * q + 2)) (xs (6 * q + 3)))
  obtain ⟨⟨fs, hc0⟩, ⟨fm, hm0⟩⟩ := lr_c0 hS
  refine lv_aload_n hx hb dL_law_157 rfl (lv_at hl 1 rfl) ?_
  refine lv_aload_n hx hb dL_law_158 rfl (lv_at hl 0 rfl) ?_
  refine lv_iload_n hx hb dL_law_159 rfl (lv_at hl 3 rfl) ?_
  refine lv_iconst (v := 1) hx hb dL_law_160 (by decide) ?_
  refine lv_iadd hx hb dL_law_161 ?_
  refine ww_top (show nI (6 * q) + 1 = nI (6 * q + 1) from nI_add (6 * q) 1) ?_
  refine va_sld hx hb hX hbl hbA hw.2.2.2.1 (vp_in_nI (n := 6 * q + 1) (by omega) (by omega)) dL_law_162 ?_
  refine ww_top (congrArg xs (nI_clamp (n := 6 * q + 1) (by omega))) ?_
  refine lv_aload_n hx hb dL_law_163 rfl (lv_at hl 0 rfl) ?_
  refine lv_iload_n hx hb dL_law_164 rfl (lv_at hl 3 rfl) ?_
  refine lv_iconst (v := 2) hx hb dL_law_165 (by decide) ?_
  refine lv_iadd hx hb dL_law_166 ?_
  refine ww_top (show nI (6 * q) + 2 = nI (6 * q + 2) from nI_add (6 * q) 2) ?_
  refine va_sld hx hb hX hbl hbA hw.2.2.2.1 (vp_in_nI (n := 6 * q + 2) (by omega) (by omega)) dL_law_167 ?_
  refine ww_top (congrArg xs (nI_clamp (n := 6 * q + 2) (by omega))) ?_
  refine lv_i2l hx hb dL_law_168 rfl ?_
  refine lv_bipush (v := 32) hx hb dL_law_169 (by decide) ?_
  refine lv_lshl hx hb dL_law_171 rfl ?_
  refine lv_aload_n hx hb dL_law_172 rfl (lv_at hl 0 rfl) ?_
  refine lv_iload_n hx hb dL_law_173 rfl (lv_at hl 3 rfl) ?_
  refine lv_iconst (v := 3) hx hb dL_law_174 (by decide) ?_
  refine lv_iadd hx hb dL_law_175 ?_
  refine ww_top (show nI (6 * q) + 3 = nI (6 * q + 3) from nI_add (6 * q) 3) ?_
  refine va_sld hx hb hX hbl hbA hw.2.2.2.1 (vp_in_nI (n := 6 * q + 3) (by omega) (by omega)) dL_law_176 ?_
  refine ww_top (congrArg xs (nI_clamp (n := 6 * q + 3) (by omega))) ?_
  refine lv_i2l hx hb dL_law_177 rfl ?_
  refine lv_ldc2 (v := 4294967295) hx hb hown (hts (.constantLong RL 18 4294967295) (List.mem_of_getElem? (i := 621) rfl)) dL_law_178 ?_
  refine lv_land hx hb dL_law_181 ?_
  refine lv_lor hx hb dL_law_182 ?_
  refine ww_topl (show _ = f_lg (xs (6 * q + 2)) (xs (6 * q + 3)) from rfl) ?_
  refine ww_cMLL (As := [.int (xs (6 * q + 1)), .long (f_lg (xs (6 * q + 2)) (xs (6 * q + 3)))]) (rest := []) hx hb hml hown hts hA hw hl.1 kc (cwV 2 hts gL_law_X3_deposit rfl rfl rfl (by decide +kernel) ⟨(Nat.le_of_ble_eq_true rfl), (Nat.le_of_ble_eq_true rfl)⟩) rfl 0 hc0 rfl rfl rfl (Nat.le_of_ble_eq_true rfl) hcs dL_law_183 (fun H locs hw => ?_)
  refine lv_aload_n hx hb dL_law_186 rfl (lv_at hl 2 rfl) ?_
  refine lv_aload_n hx hb dL_law_187 rfl (lv_at hl 0 rfl) ?_
  refine lv_iload_n hx hb dL_law_188 rfl (lv_at hl 3 rfl) ?_
  refine lv_iconst (v := 1) hx hb dL_law_189 (by decide) ?_
  refine lv_iadd hx hb dL_law_190 ?_
  refine ww_top (show nI (6 * q) + 1 = nI (6 * q + 1) from nI_add (6 * q) 1) ?_
  refine va_sld hx hb hX hbl hbA hw.2.2.2.1 (vp_in_nI (n := 6 * q + 1) (by omega) (by omega)) dL_law_191 ?_
  refine ww_top (congrArg xs (nI_clamp (n := 6 * q + 1) (by omega))) ?_
  refine lv_aload_n hx hb dL_law_192 rfl (lv_at hl 0 rfl) ?_
  refine lv_iload_n hx hb dL_law_193 rfl (lv_at hl 3 rfl) ?_
  refine lv_iconst (v := 2) hx hb dL_law_194 (by decide) ?_
  refine lv_iadd hx hb dL_law_195 ?_
  refine ww_top (show nI (6 * q) + 2 = nI (6 * q + 2) from nI_add (6 * q) 2) ?_
  refine va_sld hx hb hX hbl hbA hw.2.2.2.1 (vp_in_nI (n := 6 * q + 2) (by omega) (by omega)) dL_law_196 ?_
  refine ww_top (congrArg xs (nI_clamp (n := 6 * q + 2) (by omega))) ?_
  refine lv_i2l hx hb dL_law_197 rfl ?_
  refine lv_bipush (v := 32) hx hb dL_law_198 (by decide) ?_
  refine lv_lshl hx hb dL_law_200 rfl ?_
  refine lv_aload_n hx hb dL_law_201 rfl (lv_at hl 0 rfl) ?_
  refine lv_iload_n hx hb dL_law_202 rfl (lv_at hl 3 rfl) ?_
  refine lv_iconst (v := 3) hx hb dL_law_203 (by decide) ?_
  refine lv_iadd hx hb dL_law_204 ?_
  refine ww_top (show nI (6 * q) + 3 = nI (6 * q + 3) from nI_add (6 * q) 3) ?_
  refine va_sld hx hb hX hbl hbA hw.2.2.2.1 (vp_in_nI (n := 6 * q + 3) (by omega) (by omega)) dL_law_205 ?_
  refine ww_top (congrArg xs (nI_clamp (n := 6 * q + 3) (by omega))) ?_
  refine lv_i2l hx hb dL_law_206 rfl ?_
  refine lv_ldc2 (v := 4294967295) hx hb hown (hts (.constantLong RL 18 4294967295) (List.mem_of_getElem? (i := 621) rfl)) dL_law_207 ?_
  refine lv_land hx hb dL_law_210 ?_
  refine lv_lor hx hb dL_law_211 ?_
  refine ww_topl (show _ = f_lg (xs (6 * q + 2)) (xs (6 * q + 3)) from rfl) ?_
  refine ww_cMLR (As := [.int (xs (6 * q + 1)), .long (f_lg (xs (6 * q + 2)) (xs (6 * q + 3)))]) (rest := [.long r]) hx hb hml hown hts hA hw hl.1 km (cwV 2 hts gL_law_X4_deposit rfl rfl rfl (by decide +kernel) ⟨(Nat.le_of_ble_eq_true rfl), (Nat.le_of_ble_eq_true rfl)⟩) rfl 0 hm0 rfl rfl rfl (Nat.le_of_ble_eq_true rfl) hcs dL_law_212 (fun H locs hw => ?_)
  exact ww_lif_eq (tgt := 806) hx hb dL_law_215 dL_law_216 (by decide) (fun _ => kk wC' wM' H locs hS' hw) (fun h => absurd rfl h)
set_option maxHeartbeats 8000000 in
set_option maxRecDepth 100000 in
theorem la_term {p : Program} {l : Launch} {e : Env} {s : State} {m : MethodId} {below : List Frame} {meth : Method} {c : Code} {D : va_G} {adc : Nat → Nat} {cyc : Nat → ClassId} {adm : Nat → Nat} {cym : Nat → ClassId} {b L : Nat} {xs : Nat → Int32} {t0 t1 cells slots q : Nat} {Q : State → Prop} {wC wM : va_W} {H : Heap} {locs : List Loc} {ls : Array Slot} (hL : L ≤ 3072) (C0 : lw_At p s m meth c b L xs) (hZ : ww_Zs t0 t1 (fun q : Nat => s.heap.size ≤ q) s s.heap) (hq : 6 * q + 6 ≤ L) (hS : lr_S adc cyc adm cym q wC wM) (hw : ww_W D (cw_t cyc ++ mw_t cym) (fun q : Nat => s.heap.size ≤ q) s (wC ++ wM) H locs) (hl : lv_has ls 4 [(0, .ref b), (1, .ref (adc 0)), (2, .ref (adm 0)), (3, .int (nI (6 * q)))]) (hcs : cells ≤ room_1.cells ∧ slots ≤ room_1.slots)
    (kk : ∀ (wC' wM' : va_W) (H1 : Heap) (locs1 : List Loc), lr_S adc cyc adm cym (q + 1) wC' wM' → ww_W D (cw_t cyc ++ mw_t cym) (fun q : Nat => s.heap.size ≤ q) s (wC' ++ wM') H1 locs1 → W p l e room_1 s m #[Value.ref b] below meth c H1 locs1 cells slots Q (F0 m 806 ls [])) : W p l e room_1 s m #[Value.ref b] below meth c H locs cells slots Q (F0 m 221 ls []) := by
  obtain ⟨hx, hb, hr, hml, hown, hts, hX, hbl, hlocks, hgv⟩ := C0
  have hA : ∀ q : Nat, s.heap.size ≤ q → (fun q : Nat => s.heap.size ≤ q) q := fun _ h => h
  have hbA : ¬ (fun q : Nat => s.heap.size ≤ q) b := Nat.not_le.mpr hbl
  obtain ⟨r, wC', wM', kc, km, hS'⟩ := ar_term l D t0 t1 (show q < 512 by omega) hS (xs (6 * q + 1)) (xs (6 * q + 2))
  obtain ⟨⟨fs, hc0⟩, ⟨fm, hm0⟩⟩ := lr_c0 hS
  refine lv_aload_n hx hb dL_law_221 rfl (lv_at hl 1 rfl) ?_
  refine lv_aload_n hx hb dL_law_222 rfl (lv_at hl 0 rfl) ?_
  refine lv_iload_n hx hb dL_law_223 rfl (lv_at hl 3 rfl) ?_
  refine lv_iconst (v := 1) hx hb dL_law_224 (by decide) ?_
  refine lv_iadd hx hb dL_law_225 ?_
  refine ww_top (show nI (6 * q) + 1 = nI (6 * q + 1) from nI_add (6 * q) 1) ?_
  refine va_sld hx hb hX hbl hbA hw.2.2.2.1 (vp_in_nI (n := 6 * q + 1) (by omega) (by omega)) dL_law_226 ?_
  refine ww_top (congrArg xs (nI_clamp (n := 6 * q + 1) (by omega))) ?_
  refine lv_aload_n hx hb dL_law_227 rfl (lv_at hl 0 rfl) ?_
  refine lv_iload_n hx hb dL_law_228 rfl (lv_at hl 3 rfl) ?_
  refine lv_iconst (v := 2) hx hb dL_law_229 (by decide) ?_
  refine lv_iadd hx hb dL_law_230 ?_
  refine ww_top (show nI (6 * q) + 2 = nI (6 * q + 2) from nI_add (6 * q) 2) ?_
  refine va_sld hx hb hX hbl hbA hw.2.2.2.1 (vp_in_nI (n := 6 * q + 2) (by omega) (by omega)) dL_law_231 ?_
  refine ww_top (congrArg xs (nI_clamp (n := 6 * q + 2) (by omega))) ?_
  refine ww_cMILz (As := [.int (xs (6 * q + 1)), .int (xs (6 * q + 2))]) (rest := []) hx hb hml hown hts hA hw hZ hl.1 kc (cwV 2 hts gL_law_X3_term rfl rfl rfl (by decide +kernel) ⟨(Nat.le_of_ble_eq_true rfl), (Nat.le_of_ble_eq_true rfl)⟩) rfl 0 hc0 rfl rfl rfl (Nat.le_of_ble_eq_true rfl) hcs dL_law_232 (fun H locs hw => ?_)
  refine lv_aload_n hx hb dL_law_235 rfl (lv_at hl 2 rfl) ?_
  refine lv_aload_n hx hb dL_law_236 rfl (lv_at hl 0 rfl) ?_
  refine lv_iload_n hx hb dL_law_237 rfl (lv_at hl 3 rfl) ?_
  refine lv_iconst (v := 1) hx hb dL_law_238 (by decide) ?_
  refine lv_iadd hx hb dL_law_239 ?_
  refine ww_top (show nI (6 * q) + 1 = nI (6 * q + 1) from nI_add (6 * q) 1) ?_
  refine va_sld hx hb hX hbl hbA hw.2.2.2.1 (vp_in_nI (n := 6 * q + 1) (by omega) (by omega)) dL_law_240 ?_
  refine ww_top (congrArg xs (nI_clamp (n := 6 * q + 1) (by omega))) ?_
  refine lv_aload_n hx hb dL_law_241 rfl (lv_at hl 0 rfl) ?_
  refine lv_iload_n hx hb dL_law_242 rfl (lv_at hl 3 rfl) ?_
  refine lv_iconst (v := 2) hx hb dL_law_243 (by decide) ?_
  refine lv_iadd hx hb dL_law_244 ?_
  refine ww_top (show nI (6 * q) + 2 = nI (6 * q + 2) from nI_add (6 * q) 2) ?_
  refine va_sld hx hb hX hbl hbA hw.2.2.2.1 (vp_in_nI (n := 6 * q + 2) (by omega) (by omega)) dL_law_245 ?_
  refine ww_top (congrArg xs (nI_clamp (n := 6 * q + 2) (by omega))) ?_
  refine ww_cMIR (As := [.int (xs (6 * q + 1)), .int (xs (6 * q + 2))]) (rest := [.int r]) hx hb hml hown hts hA hw hl.1 km (cwV 2 hts gL_law_X4_term rfl rfl rfl (by decide +kernel) ⟨(Nat.le_of_ble_eq_true rfl), (Nat.le_of_ble_eq_true rfl)⟩) rfl 0 hm0 rfl rfl rfl (Nat.le_of_ble_eq_true rfl) hcs dL_law_246 (fun H locs hw => ?_)
  exact lv_icmp_eq (tgt := 806) hx hb dL_law_249 (by decide) (fun _ => kk wC' wM' H locs hS' hw) (fun h => absurd rfl h)
set_option maxHeartbeats 8000000 in
set_option maxRecDepth 100000 in
theorem la_begin {p : Program} {l : Launch} {e : Env} {s : State} {m : MethodId} {below : List Frame} {meth : Method} {c : Code} {D : va_G} {adc : Nat → Nat} {cyc : Nat → ClassId} {adm : Nat → Nat} {cym : Nat → ClassId} {b L : Nat} {xs : Nat → Int32} {t0 t1 cells slots q : Nat} {Q : State → Prop} {wC wM : va_W} {H : Heap} {locs : List Loc} {ls : Array Slot} (hL : L ≤ 3072) (C0 : lw_At p s m meth c b L xs) (hZ : ww_Zs t0 t1 (fun q : Nat => s.heap.size ≤ q) s s.heap) (hq : 6 * q + 6 ≤ L) (hS : lr_S adc cyc adm cym q wC wM) (hw : ww_W D (cw_t cyc ++ mw_t cym) (fun q : Nat => s.heap.size ≤ q) s (wC ++ wM) H locs) (hl : lv_has ls 4 [(0, .ref b), (1, .ref (adc 0)), (2, .ref (adm 0)), (3, .int (nI (6 * q)))]) (hcs : cells ≤ room_1.cells ∧ slots ≤ room_1.slots)
    (kk : ∀ (wC' wM' : va_W) (H1 : Heap) (locs1 : List Loc), lr_S adc cyc adm cym (q + 1) wC' wM' → ww_W D (cw_t cyc ++ mw_t cym) (fun q : Nat => s.heap.size ≤ q) s (wC' ++ wM') H1 locs1 → W p l e room_1 s m #[Value.ref b] below meth c H1 locs1 cells slots Q (F0 m 806 ls [])) : W p l e room_1 s m #[Value.ref b] below meth c H locs cells slots Q (F0 m 254 ls []) := by
  obtain ⟨hx, hb, hr, hml, hown, hts, hX, hbl, hlocks, hgv⟩ := C0
  have hA : ∀ q : Nat, s.heap.size ≤ q → (fun q : Nat => s.heap.size ≤ q) q := fun _ h => h
  have hbA : ¬ (fun q : Nat => s.heap.size ≤ q) b := Nat.not_le.mpr hbl
  obtain ⟨r, wC', wM', kc, km, hS'⟩ := ar_begin l D (show q < 512 by omega) hS 
  obtain ⟨⟨fs, hc0⟩, ⟨fm, hm0⟩⟩ := lr_c0 hS
  refine lv_aload_n hx hb dL_law_254 rfl (lv_at hl 1 rfl) ?_
  refine ww_cMIL (As := []) (rest := []) hx hb hml hown hts hA hw hl.1 kc (cwV 0 hts gL_law_X3_begin rfl rfl rfl (by decide +kernel) ⟨(Nat.le_of_ble_eq_true rfl), (Nat.le_of_ble_eq_true rfl)⟩) rfl 0 hc0 rfl rfl rfl (Nat.le_of_ble_eq_true rfl) hcs dL_law_255 (fun H locs hw => ?_)
  refine lv_aload_n hx hb dL_law_258 rfl (lv_at hl 2 rfl) ?_
  refine ww_cMIR (As := []) (rest := [.int r]) hx hb hml hown hts hA hw hl.1 km (cwV 0 hts gL_law_X4_begin rfl rfl rfl (by decide +kernel) ⟨(Nat.le_of_ble_eq_true rfl), (Nat.le_of_ble_eq_true rfl)⟩) rfl 0 hm0 rfl rfl rfl (Nat.le_of_ble_eq_true rfl) hcs dL_law_259 (fun H locs hw => ?_)
  exact lv_icmp_eq (tgt := 806) hx hb dL_law_262 (by decide) (fun _ => kk wC' wM' H locs hS' hw) (fun h => absurd rfl h)
set_option maxHeartbeats 8000000 in
set_option maxRecDepth 100000 in
theorem la_commit {p : Program} {l : Launch} {e : Env} {s : State} {m : MethodId} {below : List Frame} {meth : Method} {c : Code} {D : va_G} {adc : Nat → Nat} {cyc : Nat → ClassId} {adm : Nat → Nat} {cym : Nat → ClassId} {b L : Nat} {xs : Nat → Int32} {t0 t1 cells slots q : Nat} {Q : State → Prop} {wC wM : va_W} {H : Heap} {locs : List Loc} {ls : Array Slot} (hL : L ≤ 3072) (C0 : lw_At p s m meth c b L xs) (hZ : ww_Zs t0 t1 (fun q : Nat => s.heap.size ≤ q) s s.heap) (hq : 6 * q + 6 ≤ L) (hS : lr_S adc cyc adm cym q wC wM) (hw : ww_W D (cw_t cyc ++ mw_t cym) (fun q : Nat => s.heap.size ≤ q) s (wC ++ wM) H locs) (hl : lv_has ls 4 [(0, .ref b), (1, .ref (adc 0)), (2, .ref (adm 0)), (3, .int (nI (6 * q)))]) (hcs : cells ≤ room_1.cells ∧ slots ≤ room_1.slots)
    (kk : ∀ (wC' wM' : va_W) (H1 : Heap) (locs1 : List Loc), lr_S adc cyc adm cym (q + 1) wC' wM' → ww_W D (cw_t cyc ++ mw_t cym) (fun q : Nat => s.heap.size ≤ q) s (wC' ++ wM') H1 locs1 → W p l e room_1 s m #[Value.ref b] below meth c H1 locs1 cells slots Q (F0 m 806 ls [])) : W p l e room_1 s m #[Value.ref b] below meth c H locs cells slots Q (F0 m 267 ls []) := by
  obtain ⟨hx, hb, hr, hml, hown, hts, hX, hbl, hlocks, hgv⟩ := C0
  have hA : ∀ q : Nat, s.heap.size ≤ q → (fun q : Nat => s.heap.size ≤ q) q := fun _ h => h
  have hbA : ¬ (fun q : Nat => s.heap.size ≤ q) b := Nat.not_le.mpr hbl
  obtain ⟨r, wC', wM', kc, km, hS'⟩ := ar_commit l D (show q < 512 by omega) hS (xs (6 * q + 1)) (f_lg (xs (6 * q + 2)) (xs (6 * q + 3)))
  obtain ⟨⟨fs, hc0⟩, ⟨fm, hm0⟩⟩ := lr_c0 hS
  refine lv_aload_n hx hb dL_law_267 rfl (lv_at hl 1 rfl) ?_
  refine lv_aload_n hx hb dL_law_268 rfl (lv_at hl 0 rfl) ?_
  refine lv_iload_n hx hb dL_law_269 rfl (lv_at hl 3 rfl) ?_
  refine lv_iconst (v := 1) hx hb dL_law_270 (by decide) ?_
  refine lv_iadd hx hb dL_law_271 ?_
  refine ww_top (show nI (6 * q) + 1 = nI (6 * q + 1) from nI_add (6 * q) 1) ?_
  refine va_sld hx hb hX hbl hbA hw.2.2.2.1 (vp_in_nI (n := 6 * q + 1) (by omega) (by omega)) dL_law_272 ?_
  refine ww_top (congrArg xs (nI_clamp (n := 6 * q + 1) (by omega))) ?_
  refine lv_aload_n hx hb dL_law_273 rfl (lv_at hl 0 rfl) ?_
  refine lv_iload_n hx hb dL_law_274 rfl (lv_at hl 3 rfl) ?_
  refine lv_iconst (v := 2) hx hb dL_law_275 (by decide) ?_
  refine lv_iadd hx hb dL_law_276 ?_
  refine ww_top (show nI (6 * q) + 2 = nI (6 * q + 2) from nI_add (6 * q) 2) ?_
  refine va_sld hx hb hX hbl hbA hw.2.2.2.1 (vp_in_nI (n := 6 * q + 2) (by omega) (by omega)) dL_law_277 ?_
  refine ww_top (congrArg xs (nI_clamp (n := 6 * q + 2) (by omega))) ?_
  refine lv_i2l hx hb dL_law_278 rfl ?_
  refine lv_bipush (v := 32) hx hb dL_law_279 (by decide) ?_
  refine lv_lshl hx hb dL_law_281 rfl ?_
  refine lv_aload_n hx hb dL_law_282 rfl (lv_at hl 0 rfl) ?_
  refine lv_iload_n hx hb dL_law_283 rfl (lv_at hl 3 rfl) ?_
  refine lv_iconst (v := 3) hx hb dL_law_284 (by decide) ?_
  refine lv_iadd hx hb dL_law_285 ?_
  refine ww_top (show nI (6 * q) + 3 = nI (6 * q + 3) from nI_add (6 * q) 3) ?_
  refine va_sld hx hb hX hbl hbA hw.2.2.2.1 (vp_in_nI (n := 6 * q + 3) (by omega) (by omega)) dL_law_286 ?_
  refine ww_top (congrArg xs (nI_clamp (n := 6 * q + 3) (by omega))) ?_
  refine lv_i2l hx hb dL_law_287 rfl ?_
  refine lv_ldc2 (v := 4294967295) hx hb hown (hts (.constantLong RL 18 4294967295) (List.mem_of_getElem? (i := 621) rfl)) dL_law_288 ?_
  refine lv_land hx hb dL_law_291 ?_
  refine lv_lor hx hb dL_law_292 ?_
  refine ww_topl (show _ = f_lg (xs (6 * q + 2)) (xs (6 * q + 3)) from rfl) ?_
  refine ww_cMIL (As := [.int (xs (6 * q + 1)), .long (f_lg (xs (6 * q + 2)) (xs (6 * q + 3)))]) (rest := []) hx hb hml hown hts hA hw hl.1 kc (cwV 2 hts gL_law_X3_commit rfl rfl rfl (by decide +kernel) ⟨(Nat.le_of_ble_eq_true rfl), (Nat.le_of_ble_eq_true rfl)⟩) rfl 0 hc0 rfl rfl rfl (Nat.le_of_ble_eq_true rfl) hcs dL_law_293 (fun H locs hw => ?_)
  refine lv_aload_n hx hb dL_law_296 rfl (lv_at hl 2 rfl) ?_
  refine lv_aload_n hx hb dL_law_297 rfl (lv_at hl 0 rfl) ?_
  refine lv_iload_n hx hb dL_law_298 rfl (lv_at hl 3 rfl) ?_
  refine lv_iconst (v := 1) hx hb dL_law_299 (by decide) ?_
  refine lv_iadd hx hb dL_law_300 ?_
  refine ww_top (show nI (6 * q) + 1 = nI (6 * q + 1) from nI_add (6 * q) 1) ?_
  refine va_sld hx hb hX hbl hbA hw.2.2.2.1 (vp_in_nI (n := 6 * q + 1) (by omega) (by omega)) dL_law_301 ?_
  refine ww_top (congrArg xs (nI_clamp (n := 6 * q + 1) (by omega))) ?_
  refine lv_aload_n hx hb dL_law_302 rfl (lv_at hl 0 rfl) ?_
  refine lv_iload_n hx hb dL_law_303 rfl (lv_at hl 3 rfl) ?_
  refine lv_iconst (v := 2) hx hb dL_law_304 (by decide) ?_
  refine lv_iadd hx hb dL_law_305 ?_
  refine ww_top (show nI (6 * q) + 2 = nI (6 * q + 2) from nI_add (6 * q) 2) ?_
  refine va_sld hx hb hX hbl hbA hw.2.2.2.1 (vp_in_nI (n := 6 * q + 2) (by omega) (by omega)) dL_law_306 ?_
  refine ww_top (congrArg xs (nI_clamp (n := 6 * q + 2) (by omega))) ?_
  refine lv_i2l hx hb dL_law_307 rfl ?_
  refine lv_bipush (v := 32) hx hb dL_law_308 (by decide) ?_
  refine lv_lshl hx hb dL_law_310 rfl ?_
  refine lv_aload_n hx hb dL_law_311 rfl (lv_at hl 0 rfl) ?_
  refine lv_iload_n hx hb dL_law_312 rfl (lv_at hl 3 rfl) ?_
  refine lv_iconst (v := 3) hx hb dL_law_313 (by decide) ?_
  refine lv_iadd hx hb dL_law_314 ?_
  refine ww_top (show nI (6 * q) + 3 = nI (6 * q + 3) from nI_add (6 * q) 3) ?_
  refine va_sld hx hb hX hbl hbA hw.2.2.2.1 (vp_in_nI (n := 6 * q + 3) (by omega) (by omega)) dL_law_315 ?_
  refine ww_top (congrArg xs (nI_clamp (n := 6 * q + 3) (by omega))) ?_
  refine lv_i2l hx hb dL_law_316 rfl ?_
  refine lv_ldc2 (v := 4294967295) hx hb hown (hts (.constantLong RL 18 4294967295) (List.mem_of_getElem? (i := 621) rfl)) dL_law_317 ?_
  refine lv_land hx hb dL_law_320 ?_
  refine lv_lor hx hb dL_law_321 ?_
  refine ww_topl (show _ = f_lg (xs (6 * q + 2)) (xs (6 * q + 3)) from rfl) ?_
  refine ww_cMIR (As := [.int (xs (6 * q + 1)), .long (f_lg (xs (6 * q + 2)) (xs (6 * q + 3)))]) (rest := [.int r]) hx hb hml hown hts hA hw hl.1 km (cwV 2 hts gL_law_X4_commit rfl rfl rfl (by decide +kernel) ⟨(Nat.le_of_ble_eq_true rfl), (Nat.le_of_ble_eq_true rfl)⟩) rfl 0 hm0 rfl rfl rfl (Nat.le_of_ble_eq_true rfl) hcs dL_law_322 (fun H locs hw => ?_)
  exact lv_icmp_eq (tgt := 806) hx hb dL_law_325 (by decide) (fun _ => kk wC' wM' H locs hS' hw) (fun h => absurd rfl h)
set_option maxHeartbeats 8000000 in
set_option maxRecDepth 100000 in
theorem la_opening {p : Program} {l : Launch} {e : Env} {s : State} {m : MethodId} {below : List Frame} {meth : Method} {c : Code} {D : va_G} {adc : Nat → Nat} {cyc : Nat → ClassId} {adm : Nat → Nat} {cym : Nat → ClassId} {b L : Nat} {xs : Nat → Int32} {t0 t1 cells slots q : Nat} {Q : State → Prop} {wC wM : va_W} {H : Heap} {locs : List Loc} {ls : Array Slot} (hL : L ≤ 3072) (C0 : lw_At p s m meth c b L xs) (hZ : ww_Zs t0 t1 (fun q : Nat => s.heap.size ≤ q) s s.heap) (hq : 6 * q + 6 ≤ L) (hS : lr_S adc cyc adm cym q wC wM) (hw : ww_W D (cw_t cyc ++ mw_t cym) (fun q : Nat => s.heap.size ≤ q) s (wC ++ wM) H locs) (hl : lv_has ls 4 [(0, .ref b), (1, .ref (adc 0)), (2, .ref (adm 0)), (3, .int (nI (6 * q)))]) (hcs : cells ≤ room_1.cells ∧ slots ≤ room_1.slots)
    (kk : ∀ (wC' wM' : va_W) (H1 : Heap) (locs1 : List Loc), lr_S adc cyc adm cym (q + 1) wC' wM' → ww_W D (cw_t cyc ++ mw_t cym) (fun q : Nat => s.heap.size ≤ q) s (wC' ++ wM') H1 locs1 → W p l e room_1 s m #[Value.ref b] below meth c H1 locs1 cells slots Q (F0 m 806 ls [])) : W p l e room_1 s m #[Value.ref b] below meth c H locs cells slots Q (F0 m 330 ls []) := by
  obtain ⟨hx, hb, hr, hml, hown, hts, hX, hbl, hlocks, hgv⟩ := C0
  have hA : ∀ q : Nat, s.heap.size ≤ q → (fun q : Nat => s.heap.size ≤ q) q := fun _ h => h
  have hbA : ¬ (fun q : Nat => s.heap.size ≤ q) b := Nat.not_le.mpr hbl
  obtain ⟨r, wC', wM', kc, km, hS'⟩ := ar_opening l D (show q < 512 by omega) hS 
  obtain ⟨⟨fs, hc0⟩, ⟨fm, hm0⟩⟩ := lr_c0 hS
  refine lv_aload_n hx hb dL_law_330 rfl (lv_at hl 1 rfl) ?_
  refine ww_cMIL (As := []) (rest := []) hx hb hml hown hts hA hw hl.1 kc (cwV 0 hts gL_law_X3_opening rfl rfl rfl (by decide +kernel) ⟨(Nat.le_of_ble_eq_true rfl), (Nat.le_of_ble_eq_true rfl)⟩) rfl 0 hc0 rfl rfl rfl (Nat.le_of_ble_eq_true rfl) hcs dL_law_331 (fun H locs hw => ?_)
  refine lv_aload_n hx hb dL_law_334 rfl (lv_at hl 2 rfl) ?_
  refine ww_cMIR (As := []) (rest := [.int r]) hx hb hml hown hts hA hw hl.1 km (cwV 0 hts gL_law_X4_opening rfl rfl rfl (by decide +kernel) ⟨(Nat.le_of_ble_eq_true rfl), (Nat.le_of_ble_eq_true rfl)⟩) rfl 0 hm0 rfl rfl rfl (Nat.le_of_ble_eq_true rfl) hcs dL_law_335 (fun H locs hw => ?_)
  exact lv_icmp_eq (tgt := 806) hx hb dL_law_338 (by decide) (fun _ => kk wC' wM' H locs hS' hw) (fun h => absurd rfl h)
set_option maxHeartbeats 8000000 in
set_option maxRecDepth 100000 in
theorem la_open {p : Program} {l : Launch} {e : Env} {s : State} {m : MethodId} {below : List Frame} {meth : Method} {c : Code} {D : va_G} {adc : Nat → Nat} {cyc : Nat → ClassId} {adm : Nat → Nat} {cym : Nat → ClassId} {b L : Nat} {xs : Nat → Int32} {t0 t1 cells slots q : Nat} {Q : State → Prop} {wC wM : va_W} {H : Heap} {locs : List Loc} {ls : Array Slot} (hL : L ≤ 3072) (C0 : lw_At p s m meth c b L xs) (hZ : ww_Zs t0 t1 (fun q : Nat => s.heap.size ≤ q) s s.heap) (hq : 6 * q + 6 ≤ L) (hS : lr_S adc cyc adm cym q wC wM) (hw : ww_W D (cw_t cyc ++ mw_t cym) (fun q : Nat => s.heap.size ≤ q) s (wC ++ wM) H locs) (hl : lv_has ls 4 [(0, .ref b), (1, .ref (adc 0)), (2, .ref (adm 0)), (3, .int (nI (6 * q)))]) (hcs : cells ≤ room_1.cells ∧ slots ≤ room_1.slots)
    (kk : ∀ (wC' wM' : va_W) (H1 : Heap) (locs1 : List Loc), lr_S adc cyc adm cym (q + 1) wC' wM' → ww_W D (cw_t cyc ++ mw_t cym) (fun q : Nat => s.heap.size ≤ q) s (wC' ++ wM') H1 locs1 → W p l e room_1 s m #[Value.ref b] below meth c H1 locs1 cells slots Q (F0 m 806 ls [])) : W p l e room_1 s m #[Value.ref b] below meth c H locs cells slots Q (F0 m 343 ls []) := by
  obtain ⟨hx, hb, hr, hml, hown, hts, hX, hbl, hlocks, hgv⟩ := C0
  have hA : ∀ q : Nat, s.heap.size ≤ q → (fun q : Nat => s.heap.size ≤ q) q := fun _ h => h
  have hbA : ¬ (fun q : Nat => s.heap.size ≤ q) b := Nat.not_le.mpr hbl
  obtain ⟨r, wC', wM', kc, km, hS'⟩ := ar_open l D (show q < 512 by omega) hS (xs (6 * q + 1)) (f_lg (xs (6 * q + 2)) (xs (6 * q + 3)))
  obtain ⟨⟨fs, hc0⟩, ⟨fm, hm0⟩⟩ := lr_c0 hS
  refine lv_aload_n hx hb dL_law_343 rfl (lv_at hl 1 rfl) ?_
  refine lv_aload_n hx hb dL_law_344 rfl (lv_at hl 0 rfl) ?_
  refine lv_iload_n hx hb dL_law_345 rfl (lv_at hl 3 rfl) ?_
  refine lv_iconst (v := 1) hx hb dL_law_346 (by decide) ?_
  refine lv_iadd hx hb dL_law_347 ?_
  refine ww_top (show nI (6 * q) + 1 = nI (6 * q + 1) from nI_add (6 * q) 1) ?_
  refine va_sld hx hb hX hbl hbA hw.2.2.2.1 (vp_in_nI (n := 6 * q + 1) (by omega) (by omega)) dL_law_348 ?_
  refine ww_top (congrArg xs (nI_clamp (n := 6 * q + 1) (by omega))) ?_
  refine lv_aload_n hx hb dL_law_349 rfl (lv_at hl 0 rfl) ?_
  refine lv_iload_n hx hb dL_law_350 rfl (lv_at hl 3 rfl) ?_
  refine lv_iconst (v := 2) hx hb dL_law_351 (by decide) ?_
  refine lv_iadd hx hb dL_law_352 ?_
  refine ww_top (show nI (6 * q) + 2 = nI (6 * q + 2) from nI_add (6 * q) 2) ?_
  refine va_sld hx hb hX hbl hbA hw.2.2.2.1 (vp_in_nI (n := 6 * q + 2) (by omega) (by omega)) dL_law_353 ?_
  refine ww_top (congrArg xs (nI_clamp (n := 6 * q + 2) (by omega))) ?_
  refine lv_i2l hx hb dL_law_354 rfl ?_
  refine lv_bipush (v := 32) hx hb dL_law_355 (by decide) ?_
  refine lv_lshl hx hb dL_law_357 rfl ?_
  refine lv_aload_n hx hb dL_law_358 rfl (lv_at hl 0 rfl) ?_
  refine lv_iload_n hx hb dL_law_359 rfl (lv_at hl 3 rfl) ?_
  refine lv_iconst (v := 3) hx hb dL_law_360 (by decide) ?_
  refine lv_iadd hx hb dL_law_361 ?_
  refine ww_top (show nI (6 * q) + 3 = nI (6 * q + 3) from nI_add (6 * q) 3) ?_
  refine va_sld hx hb hX hbl hbA hw.2.2.2.1 (vp_in_nI (n := 6 * q + 3) (by omega) (by omega)) dL_law_362 ?_
  refine ww_top (congrArg xs (nI_clamp (n := 6 * q + 3) (by omega))) ?_
  refine lv_i2l hx hb dL_law_363 rfl ?_
  refine lv_ldc2 (v := 4294967295) hx hb hown (hts (.constantLong RL 18 4294967295) (List.mem_of_getElem? (i := 621) rfl)) dL_law_364 ?_
  refine lv_land hx hb dL_law_367 ?_
  refine lv_lor hx hb dL_law_368 ?_
  refine ww_topl (show _ = f_lg (xs (6 * q + 2)) (xs (6 * q + 3)) from rfl) ?_
  refine ww_cMIL (As := [.int (xs (6 * q + 1)), .long (f_lg (xs (6 * q + 2)) (xs (6 * q + 3)))]) (rest := []) hx hb hml hown hts hA hw hl.1 kc (cwV 2 hts gL_law_X3_open rfl rfl rfl (by decide +kernel) ⟨(Nat.le_of_ble_eq_true rfl), (Nat.le_of_ble_eq_true rfl)⟩) rfl 0 hc0 rfl rfl rfl (Nat.le_of_ble_eq_true rfl) hcs dL_law_369 (fun H locs hw => ?_)
  refine lv_aload_n hx hb dL_law_372 rfl (lv_at hl 2 rfl) ?_
  refine lv_aload_n hx hb dL_law_373 rfl (lv_at hl 0 rfl) ?_
  refine lv_iload_n hx hb dL_law_374 rfl (lv_at hl 3 rfl) ?_
  refine lv_iconst (v := 1) hx hb dL_law_375 (by decide) ?_
  refine lv_iadd hx hb dL_law_376 ?_
  refine ww_top (show nI (6 * q) + 1 = nI (6 * q + 1) from nI_add (6 * q) 1) ?_
  refine va_sld hx hb hX hbl hbA hw.2.2.2.1 (vp_in_nI (n := 6 * q + 1) (by omega) (by omega)) dL_law_377 ?_
  refine ww_top (congrArg xs (nI_clamp (n := 6 * q + 1) (by omega))) ?_
  refine lv_aload_n hx hb dL_law_378 rfl (lv_at hl 0 rfl) ?_
  refine lv_iload_n hx hb dL_law_379 rfl (lv_at hl 3 rfl) ?_
  refine lv_iconst (v := 2) hx hb dL_law_380 (by decide) ?_
  refine lv_iadd hx hb dL_law_381 ?_
  refine ww_top (show nI (6 * q) + 2 = nI (6 * q + 2) from nI_add (6 * q) 2) ?_
  refine va_sld hx hb hX hbl hbA hw.2.2.2.1 (vp_in_nI (n := 6 * q + 2) (by omega) (by omega)) dL_law_382 ?_
  refine ww_top (congrArg xs (nI_clamp (n := 6 * q + 2) (by omega))) ?_
  refine lv_i2l hx hb dL_law_383 rfl ?_
  refine lv_bipush (v := 32) hx hb dL_law_384 (by decide) ?_
  refine lv_lshl hx hb dL_law_386 rfl ?_
  refine lv_aload_n hx hb dL_law_387 rfl (lv_at hl 0 rfl) ?_
  refine lv_iload_n hx hb dL_law_388 rfl (lv_at hl 3 rfl) ?_
  refine lv_iconst (v := 3) hx hb dL_law_389 (by decide) ?_
  refine lv_iadd hx hb dL_law_390 ?_
  refine ww_top (show nI (6 * q) + 3 = nI (6 * q + 3) from nI_add (6 * q) 3) ?_
  refine va_sld hx hb hX hbl hbA hw.2.2.2.1 (vp_in_nI (n := 6 * q + 3) (by omega) (by omega)) dL_law_391 ?_
  refine ww_top (congrArg xs (nI_clamp (n := 6 * q + 3) (by omega))) ?_
  refine lv_i2l hx hb dL_law_392 rfl ?_
  refine lv_ldc2 (v := 4294967295) hx hb hown (hts (.constantLong RL 18 4294967295) (List.mem_of_getElem? (i := 621) rfl)) dL_law_393 ?_
  refine lv_land hx hb dL_law_396 ?_
  refine lv_lor hx hb dL_law_397 ?_
  refine ww_topl (show _ = f_lg (xs (6 * q + 2)) (xs (6 * q + 3)) from rfl) ?_
  refine ww_cMIR (As := [.int (xs (6 * q + 1)), .long (f_lg (xs (6 * q + 2)) (xs (6 * q + 3)))]) (rest := [.int r]) hx hb hml hown hts hA hw hl.1 km (cwV 2 hts gL_law_X4_open rfl rfl rfl (by decide +kernel) ⟨(Nat.le_of_ble_eq_true rfl), (Nat.le_of_ble_eq_true rfl)⟩) rfl 0 hm0 rfl rfl rfl (Nat.le_of_ble_eq_true rfl) hcs dL_law_398 (fun H locs hw => ?_)
  exact lv_icmp_eq (tgt := 806) hx hb dL_law_401 (by decide) (fun _ => kk wC' wM' H locs hS' hw) (fun h => absurd rfl h)
set_option maxHeartbeats 8000000 in
set_option maxRecDepth 100000 in
theorem la_draw {p : Program} {l : Launch} {e : Env} {s : State} {m : MethodId} {below : List Frame} {meth : Method} {c : Code} {D : va_G} {adc : Nat → Nat} {cyc : Nat → ClassId} {adm : Nat → Nat} {cym : Nat → ClassId} {b L : Nat} {xs : Nat → Int32} {t0 t1 cells slots q : Nat} {Q : State → Prop} {wC wM : va_W} {H : Heap} {locs : List Loc} {ls : Array Slot} (hL : L ≤ 3072) (C0 : lw_At p s m meth c b L xs) (hZ : ww_Zs t0 t1 (fun q : Nat => s.heap.size ≤ q) s s.heap) (hq : 6 * q + 6 ≤ L) (hS : lr_S adc cyc adm cym q wC wM) (hw : ww_W D (cw_t cyc ++ mw_t cym) (fun q : Nat => s.heap.size ≤ q) s (wC ++ wM) H locs) (hl : lv_has ls 4 [(0, .ref b), (1, .ref (adc 0)), (2, .ref (adm 0)), (3, .int (nI (6 * q)))]) (hcs : cells ≤ room_1.cells ∧ slots ≤ room_1.slots)
    (kk : ∀ (wC' wM' : va_W) (H1 : Heap) (locs1 : List Loc), lr_S adc cyc adm cym (q + 1) wC' wM' → ww_W D (cw_t cyc ++ mw_t cym) (fun q : Nat => s.heap.size ≤ q) s (wC' ++ wM') H1 locs1 → W p l e room_1 s m #[Value.ref b] below meth c H1 locs1 cells slots Q (F0 m 806 ls [])) : W p l e room_1 s m #[Value.ref b] below meth c H locs cells slots Q (F0 m 406 ls []) := by
  obtain ⟨hx, hb, hr, hml, hown, hts, hX, hbl, hlocks, hgv⟩ := C0
  have hA : ∀ q : Nat, s.heap.size ≤ q → (fun q : Nat => s.heap.size ≤ q) q := fun _ h => h
  have hbA : ¬ (fun q : Nat => s.heap.size ≤ q) b := Nat.not_le.mpr hbl
  obtain ⟨r, wC', wM', kc, km, hS'⟩ := ar_draw l D (show q < 512 by omega) hS (xs (6 * q + 1))
  obtain ⟨⟨fs, hc0⟩, ⟨fm, hm0⟩⟩ := lr_c0 hS
  refine lv_aload_n hx hb dL_law_406 rfl (lv_at hl 1 rfl) ?_
  refine lv_aload_n hx hb dL_law_407 rfl (lv_at hl 0 rfl) ?_
  refine lv_iload_n hx hb dL_law_408 rfl (lv_at hl 3 rfl) ?_
  refine lv_iconst (v := 1) hx hb dL_law_409 (by decide) ?_
  refine lv_iadd hx hb dL_law_410 ?_
  refine ww_top (show nI (6 * q) + 1 = nI (6 * q + 1) from nI_add (6 * q) 1) ?_
  refine va_sld hx hb hX hbl hbA hw.2.2.2.1 (vp_in_nI (n := 6 * q + 1) (by omega) (by omega)) dL_law_411 ?_
  refine ww_top (congrArg xs (nI_clamp (n := 6 * q + 1) (by omega))) ?_
  refine ww_cMIL (As := [.int (xs (6 * q + 1))]) (rest := []) hx hb hml hown hts hA hw hl.1 kc (cwV 1 hts gL_law_X3_draw rfl rfl rfl (by decide +kernel) ⟨(Nat.le_of_ble_eq_true rfl), (Nat.le_of_ble_eq_true rfl)⟩) rfl 0 hc0 rfl rfl rfl (Nat.le_of_ble_eq_true rfl) hcs dL_law_412 (fun H locs hw => ?_)
  refine lv_aload_n hx hb dL_law_415 rfl (lv_at hl 2 rfl) ?_
  refine lv_aload_n hx hb dL_law_416 rfl (lv_at hl 0 rfl) ?_
  refine lv_iload_n hx hb dL_law_417 rfl (lv_at hl 3 rfl) ?_
  refine lv_iconst (v := 1) hx hb dL_law_418 (by decide) ?_
  refine lv_iadd hx hb dL_law_419 ?_
  refine ww_top (show nI (6 * q) + 1 = nI (6 * q + 1) from nI_add (6 * q) 1) ?_
  refine va_sld hx hb hX hbl hbA hw.2.2.2.1 (vp_in_nI (n := 6 * q + 1) (by omega) (by omega)) dL_law_420 ?_
  refine ww_top (congrArg xs (nI_clamp (n := 6 * q + 1) (by omega))) ?_
  refine ww_cMIR (As := [.int (xs (6 * q + 1))]) (rest := [.int r]) hx hb hml hown hts hA hw hl.1 km (cwV 1 hts gL_law_X4_draw rfl rfl rfl (by decide +kernel) ⟨(Nat.le_of_ble_eq_true rfl), (Nat.le_of_ble_eq_true rfl)⟩) rfl 0 hm0 rfl rfl rfl (Nat.le_of_ble_eq_true rfl) hcs dL_law_421 (fun H locs hw => ?_)
  exact lv_icmp_eq (tgt := 806) hx hb dL_law_424 (by decide) (fun _ => kk wC' wM' H locs hS' hw) (fun h => absurd rfl h)
set_option maxHeartbeats 8000000 in
set_option maxRecDepth 100000 in
theorem la_turn {p : Program} {l : Launch} {e : Env} {s : State} {m : MethodId} {below : List Frame} {meth : Method} {c : Code} {D : va_G} {adc : Nat → Nat} {cyc : Nat → ClassId} {adm : Nat → Nat} {cym : Nat → ClassId} {b L : Nat} {xs : Nat → Int32} {t0 t1 cells slots q : Nat} {Q : State → Prop} {wC wM : va_W} {H : Heap} {locs : List Loc} {ls : Array Slot} (hL : L ≤ 3072) (C0 : lw_At p s m meth c b L xs) (hZ : ww_Zs t0 t1 (fun q : Nat => s.heap.size ≤ q) s s.heap) (hq : 6 * q + 6 ≤ L) (hS : lr_S adc cyc adm cym q wC wM) (hw : ww_W D (cw_t cyc ++ mw_t cym) (fun q : Nat => s.heap.size ≤ q) s (wC ++ wM) H locs) (hl : lv_has ls 4 [(0, .ref b), (1, .ref (adc 0)), (2, .ref (adm 0)), (3, .int (nI (6 * q)))]) (hcs : cells ≤ room_1.cells ∧ slots ≤ room_1.slots)
    (kk : ∀ (wC' wM' : va_W) (H1 : Heap) (locs1 : List Loc), lr_S adc cyc adm cym (q + 1) wC' wM' → ww_W D (cw_t cyc ++ mw_t cym) (fun q : Nat => s.heap.size ≤ q) s (wC' ++ wM') H1 locs1 → W p l e room_1 s m #[Value.ref b] below meth c H1 locs1 cells slots Q (F0 m 806 ls [])) : W p l e room_1 s m #[Value.ref b] below meth c H locs cells slots Q (F0 m 429 ls []) := by
  obtain ⟨hx, hb, hr, hml, hown, hts, hX, hbl, hlocks, hgv⟩ := C0
  have hA : ∀ q : Nat, s.heap.size ≤ q → (fun q : Nat => s.heap.size ≤ q) q := fun _ h => h
  have hbA : ¬ (fun q : Nat => s.heap.size ≤ q) b := Nat.not_le.mpr hbl
  obtain ⟨r, wC', wM', kc, km, hS'⟩ := ar_turn l D (show q < 512 by omega) hS (f_bl (xs (6 * q + 1)))
  obtain ⟨⟨fs, hc0⟩, ⟨fm, hm0⟩⟩ := lr_c0 hS
  refine lv_aload_n hx hb dL_law_429 rfl (lv_at hl 1 rfl) ?_
  refine lv_aload_n hx hb dL_law_430 rfl (lv_at hl 0 rfl) ?_
  refine lv_iload_n hx hb dL_law_431 rfl (lv_at hl 3 rfl) ?_
  refine lv_iconst (v := 1) hx hb dL_law_432 (by decide) ?_
  refine lv_iadd hx hb dL_law_433 ?_
  refine ww_top (show nI (6 * q) + 1 = nI (6 * q + 1) from nI_add (6 * q) 1) ?_
  refine va_sld hx hb hX hbl hbA hw.2.2.2.1 (vp_in_nI (n := 6 * q + 1) (by omega) (by omega)) dL_law_434 ?_
  refine ww_top (congrArg xs (nI_clamp (n := 6 * q + 1) (by omega))) ?_
  refine ww_joinI (rest := [.ref (adc 0)]) 443 (f_bl (xs (6 * q + 1))) (fun K1 => ?_) ?_
  · refine lv_if_eq (tgt := 442) hx hb dL_law_435 (by decide) (fun h1 => ?_) (fun h1 => ?_)
    · refine lv_iconst (v := 0) hx hb dL_law_442 (by decide) ?_
      exact ww_top (by unfold f_bl; rw [if_pos h1]) K1
    · refine lv_iconst (v := 1) hx hb dL_law_438 (by decide) ?_
      refine lv_goto (tgt := 443) hx hb dL_law_439 (by decide) ?_
      exact ww_top (by unfold f_bl; rw [if_neg h1]) K1
  refine ww_cMIL (As := [.int (f_bl (xs (6 * q + 1)))]) (rest := []) hx hb hml hown hts hA hw hl.1 kc (cwV 1 hts gL_law_X3_turn rfl rfl rfl (by decide +kernel) ⟨(Nat.le_of_ble_eq_true rfl), (Nat.le_of_ble_eq_true rfl)⟩) rfl 0 hc0 rfl rfl rfl (Nat.le_of_ble_eq_true rfl) hcs dL_law_443 (fun H locs hw => ?_)
  refine lv_aload_n hx hb dL_law_446 rfl (lv_at hl 2 rfl) ?_
  refine lv_aload_n hx hb dL_law_447 rfl (lv_at hl 0 rfl) ?_
  refine lv_iload_n hx hb dL_law_448 rfl (lv_at hl 3 rfl) ?_
  refine lv_iconst (v := 1) hx hb dL_law_449 (by decide) ?_
  refine lv_iadd hx hb dL_law_450 ?_
  refine ww_top (show nI (6 * q) + 1 = nI (6 * q + 1) from nI_add (6 * q) 1) ?_
  refine va_sld hx hb hX hbl hbA hw.2.2.2.1 (vp_in_nI (n := 6 * q + 1) (by omega) (by omega)) dL_law_451 ?_
  refine ww_top (congrArg xs (nI_clamp (n := 6 * q + 1) (by omega))) ?_
  refine ww_joinI (rest := [.ref (adm 0), .int r]) 460 (f_bl (xs (6 * q + 1))) (fun K1 => ?_) ?_
  · refine lv_if_eq (tgt := 459) hx hb dL_law_452 (by decide) (fun h1 => ?_) (fun h1 => ?_)
    · refine lv_iconst (v := 0) hx hb dL_law_459 (by decide) ?_
      exact ww_top (by unfold f_bl; rw [if_pos h1]) K1
    · refine lv_iconst (v := 1) hx hb dL_law_455 (by decide) ?_
      refine lv_goto (tgt := 460) hx hb dL_law_456 (by decide) ?_
      exact ww_top (by unfold f_bl; rw [if_neg h1]) K1
  refine ww_cMIR (As := [.int (f_bl (xs (6 * q + 1)))]) (rest := [.int r]) hx hb hml hown hts hA hw hl.1 km (cwV 1 hts gL_law_X4_turn rfl rfl rfl (by decide +kernel) ⟨(Nat.le_of_ble_eq_true rfl), (Nat.le_of_ble_eq_true rfl)⟩) rfl 0 hm0 rfl rfl rfl (Nat.le_of_ble_eq_true rfl) hcs dL_law_460 (fun H locs hw => ?_)
  exact lv_icmp_eq (tgt := 806) hx hb dL_law_463 (by decide) (fun _ => kk wC' wM' H locs hS' hw) (fun h => absurd rfl h)
set_option maxHeartbeats 8000000 in
set_option maxRecDepth 100000 in
theorem la_leader {p : Program} {l : Launch} {e : Env} {s : State} {m : MethodId} {below : List Frame} {meth : Method} {c : Code} {D : va_G} {adc : Nat → Nat} {cyc : Nat → ClassId} {adm : Nat → Nat} {cym : Nat → ClassId} {b L : Nat} {xs : Nat → Int32} {t0 t1 cells slots q : Nat} {Q : State → Prop} {wC wM : va_W} {H : Heap} {locs : List Loc} {ls : Array Slot} (hL : L ≤ 3072) (C0 : lw_At p s m meth c b L xs) (hZ : ww_Zs t0 t1 (fun q : Nat => s.heap.size ≤ q) s s.heap) (hq : 6 * q + 6 ≤ L) (hS : lr_S adc cyc adm cym q wC wM) (hw : ww_W D (cw_t cyc ++ mw_t cym) (fun q : Nat => s.heap.size ≤ q) s (wC ++ wM) H locs) (hl : lv_has ls 4 [(0, .ref b), (1, .ref (adc 0)), (2, .ref (adm 0)), (3, .int (nI (6 * q)))]) (hcs : cells ≤ room_1.cells ∧ slots ≤ room_1.slots)
    (kk : ∀ (wC' wM' : va_W) (H1 : Heap) (locs1 : List Loc), lr_S adc cyc adm cym (q + 1) wC' wM' → ww_W D (cw_t cyc ++ mw_t cym) (fun q : Nat => s.heap.size ≤ q) s (wC' ++ wM') H1 locs1 → W p l e room_1 s m #[Value.ref b] below meth c H1 locs1 cells slots Q (F0 m 806 ls [])) : W p l e room_1 s m #[Value.ref b] below meth c H locs cells slots Q (F0 m 468 ls []) := by
  obtain ⟨hx, hb, hr, hml, hown, hts, hX, hbl, hlocks, hgv⟩ := C0
  have hA : ∀ q : Nat, s.heap.size ≤ q → (fun q : Nat => s.heap.size ≤ q) q := fun _ h => h
  have hbA : ¬ (fun q : Nat => s.heap.size ≤ q) b := Nat.not_le.mpr hbl
  obtain ⟨r, wC', wM', kc, km, hS'⟩ := ar_leader l D (show q < 512 by omega) hS (xs (6 * q + 1))
  obtain ⟨⟨fs, hc0⟩, ⟨fm, hm0⟩⟩ := lr_c0 hS
  refine lv_aload_n hx hb dL_law_468 rfl (lv_at hl 1 rfl) ?_
  refine lv_aload_n hx hb dL_law_469 rfl (lv_at hl 0 rfl) ?_
  refine lv_iload_n hx hb dL_law_470 rfl (lv_at hl 3 rfl) ?_
  refine lv_iconst (v := 1) hx hb dL_law_471 (by decide) ?_
  refine lv_iadd hx hb dL_law_472 ?_
  refine ww_top (show nI (6 * q) + 1 = nI (6 * q + 1) from nI_add (6 * q) 1) ?_
  refine va_sld hx hb hX hbl hbA hw.2.2.2.1 (vp_in_nI (n := 6 * q + 1) (by omega) (by omega)) dL_law_473 ?_
  refine ww_top (congrArg xs (nI_clamp (n := 6 * q + 1) (by omega))) ?_
  refine ww_cMIL (As := [.int (xs (6 * q + 1))]) (rest := []) hx hb hml hown hts hA hw hl.1 kc (cwV 1 hts gL_law_X3_leader rfl rfl rfl (by decide +kernel) ⟨(Nat.le_of_ble_eq_true rfl), (Nat.le_of_ble_eq_true rfl)⟩) rfl 0 hc0 rfl rfl rfl (Nat.le_of_ble_eq_true rfl) hcs dL_law_474 (fun H locs hw => ?_)
  refine lv_aload_n hx hb dL_law_477 rfl (lv_at hl 2 rfl) ?_
  refine lv_aload_n hx hb dL_law_478 rfl (lv_at hl 0 rfl) ?_
  refine lv_iload_n hx hb dL_law_479 rfl (lv_at hl 3 rfl) ?_
  refine lv_iconst (v := 1) hx hb dL_law_480 (by decide) ?_
  refine lv_iadd hx hb dL_law_481 ?_
  refine ww_top (show nI (6 * q) + 1 = nI (6 * q + 1) from nI_add (6 * q) 1) ?_
  refine va_sld hx hb hX hbl hbA hw.2.2.2.1 (vp_in_nI (n := 6 * q + 1) (by omega) (by omega)) dL_law_482 ?_
  refine ww_top (congrArg xs (nI_clamp (n := 6 * q + 1) (by omega))) ?_
  refine ww_cMIR (As := [.int (xs (6 * q + 1))]) (rest := [.int r]) hx hb hml hown hts hA hw hl.1 km (cwV 1 hts gL_law_X4_leader rfl rfl rfl (by decide +kernel) ⟨(Nat.le_of_ble_eq_true rfl), (Nat.le_of_ble_eq_true rfl)⟩) rfl 0 hm0 rfl rfl rfl (Nat.le_of_ble_eq_true rfl) hcs dL_law_483 (fun H locs hw => ?_)
  exact lv_icmp_eq (tgt := 806) hx hb dL_law_486 (by decide) (fun _ => kk wC' wM' H locs hS' hw) (fun h => absurd rfl h)
set_option maxHeartbeats 8000000 in
set_option maxRecDepth 100000 in
theorem la_drawn {p : Program} {l : Launch} {e : Env} {s : State} {m : MethodId} {below : List Frame} {meth : Method} {c : Code} {D : va_G} {adc : Nat → Nat} {cyc : Nat → ClassId} {adm : Nat → Nat} {cym : Nat → ClassId} {b L : Nat} {xs : Nat → Int32} {t0 t1 cells slots q : Nat} {Q : State → Prop} {wC wM : va_W} {H : Heap} {locs : List Loc} {ls : Array Slot} (hL : L ≤ 3072) (C0 : lw_At p s m meth c b L xs) (hZ : ww_Zs t0 t1 (fun q : Nat => s.heap.size ≤ q) s s.heap) (hq : 6 * q + 6 ≤ L) (hS : lr_S adc cyc adm cym q wC wM) (hw : ww_W D (cw_t cyc ++ mw_t cym) (fun q : Nat => s.heap.size ≤ q) s (wC ++ wM) H locs) (hl : lv_has ls 4 [(0, .ref b), (1, .ref (adc 0)), (2, .ref (adm 0)), (3, .int (nI (6 * q)))]) (hcs : cells ≤ room_1.cells ∧ slots ≤ room_1.slots)
    (kk : ∀ (wC' wM' : va_W) (H1 : Heap) (locs1 : List Loc), lr_S adc cyc adm cym (q + 1) wC' wM' → ww_W D (cw_t cyc ++ mw_t cym) (fun q : Nat => s.heap.size ≤ q) s (wC' ++ wM') H1 locs1 → W p l e room_1 s m #[Value.ref b] below meth c H1 locs1 cells slots Q (F0 m 806 ls [])) : W p l e room_1 s m #[Value.ref b] below meth c H locs cells slots Q (F0 m 491 ls []) := by
  obtain ⟨hx, hb, hr, hml, hown, hts, hX, hbl, hlocks, hgv⟩ := C0
  have hA : ∀ q : Nat, s.heap.size ≤ q → (fun q : Nat => s.heap.size ≤ q) q := fun _ h => h
  have hbA : ¬ (fun q : Nat => s.heap.size ≤ q) b := Nat.not_le.mpr hbl
  obtain ⟨r, wC', wM', kc, km, hS'⟩ := ar_drawn l D (show q < 512 by omega) hS (xs (6 * q + 1))
  obtain ⟨⟨fs, hc0⟩, ⟨fm, hm0⟩⟩ := lr_c0 hS
  refine lv_aload_n hx hb dL_law_491 rfl (lv_at hl 1 rfl) ?_
  refine lv_aload_n hx hb dL_law_492 rfl (lv_at hl 0 rfl) ?_
  refine lv_iload_n hx hb dL_law_493 rfl (lv_at hl 3 rfl) ?_
  refine lv_iconst (v := 1) hx hb dL_law_494 (by decide) ?_
  refine lv_iadd hx hb dL_law_495 ?_
  refine ww_top (show nI (6 * q) + 1 = nI (6 * q + 1) from nI_add (6 * q) 1) ?_
  refine va_sld hx hb hX hbl hbA hw.2.2.2.1 (vp_in_nI (n := 6 * q + 1) (by omega) (by omega)) dL_law_496 ?_
  refine ww_top (congrArg xs (nI_clamp (n := 6 * q + 1) (by omega))) ?_
  refine ww_cMIL (As := [.int (xs (6 * q + 1))]) (rest := []) hx hb hml hown hts hA hw hl.1 kc (cwV 1 hts gL_law_X3_drawn rfl rfl rfl (by decide +kernel) ⟨(Nat.le_of_ble_eq_true rfl), (Nat.le_of_ble_eq_true rfl)⟩) rfl 0 hc0 rfl rfl rfl (Nat.le_of_ble_eq_true rfl) hcs dL_law_497 (fun H locs hw => ?_)
  refine lv_aload_n hx hb dL_law_500 rfl (lv_at hl 2 rfl) ?_
  refine lv_aload_n hx hb dL_law_501 rfl (lv_at hl 0 rfl) ?_
  refine lv_iload_n hx hb dL_law_502 rfl (lv_at hl 3 rfl) ?_
  refine lv_iconst (v := 1) hx hb dL_law_503 (by decide) ?_
  refine lv_iadd hx hb dL_law_504 ?_
  refine ww_top (show nI (6 * q) + 1 = nI (6 * q + 1) from nI_add (6 * q) 1) ?_
  refine va_sld hx hb hX hbl hbA hw.2.2.2.1 (vp_in_nI (n := 6 * q + 1) (by omega) (by omega)) dL_law_505 ?_
  refine ww_top (congrArg xs (nI_clamp (n := 6 * q + 1) (by omega))) ?_
  refine ww_cMIR (As := [.int (xs (6 * q + 1))]) (rest := [.int r]) hx hb hml hown hts hA hw hl.1 km (cwV 1 hts gL_law_X4_drawn rfl rfl rfl (by decide +kernel) ⟨(Nat.le_of_ble_eq_true rfl), (Nat.le_of_ble_eq_true rfl)⟩) rfl 0 hm0 rfl rfl rfl (Nat.le_of_ble_eq_true rfl) hcs dL_law_506 (fun H locs hw => ?_)
  exact lv_icmp_eq (tgt := 806) hx hb dL_law_509 (by decide) (fun _ => kk wC' wM' H locs hS' hw) (fun h => absurd rfl h)
set_option maxHeartbeats 8000000 in
set_option maxRecDepth 100000 in
theorem la_claim {p : Program} {l : Launch} {e : Env} {s : State} {m : MethodId} {below : List Frame} {meth : Method} {c : Code} {D : va_G} {adc : Nat → Nat} {cyc : Nat → ClassId} {adm : Nat → Nat} {cym : Nat → ClassId} {b L : Nat} {xs : Nat → Int32} {t0 t1 cells slots q : Nat} {Q : State → Prop} {wC wM : va_W} {H : Heap} {locs : List Loc} {ls : Array Slot} (hL : L ≤ 3072) (C0 : lw_At p s m meth c b L xs) (hZ : ww_Zs t0 t1 (fun q : Nat => s.heap.size ≤ q) s s.heap) (hq : 6 * q + 6 ≤ L) (hS : lr_S adc cyc adm cym q wC wM) (hw : ww_W D (cw_t cyc ++ mw_t cym) (fun q : Nat => s.heap.size ≤ q) s (wC ++ wM) H locs) (hl : lv_has ls 4 [(0, .ref b), (1, .ref (adc 0)), (2, .ref (adm 0)), (3, .int (nI (6 * q)))]) (hcs : cells ≤ room_1.cells ∧ slots ≤ room_1.slots)
    (kk : ∀ (wC' wM' : va_W) (H1 : Heap) (locs1 : List Loc), lr_S adc cyc adm cym (q + 1) wC' wM' → ww_W D (cw_t cyc ++ mw_t cym) (fun q : Nat => s.heap.size ≤ q) s (wC' ++ wM') H1 locs1 → W p l e room_1 s m #[Value.ref b] below meth c H1 locs1 cells slots Q (F0 m 806 ls [])) : W p l e room_1 s m #[Value.ref b] below meth c H locs cells slots Q (F0 m 514 ls []) := by
  obtain ⟨hx, hb, hr, hml, hown, hts, hX, hbl, hlocks, hgv⟩ := C0
  have hA : ∀ q : Nat, s.heap.size ≤ q → (fun q : Nat => s.heap.size ≤ q) q := fun _ h => h
  have hbA : ¬ (fun q : Nat => s.heap.size ≤ q) b := Nat.not_le.mpr hbl
  obtain ⟨r, wC', wM', kc, km, hS'⟩ := ar_claim l D (show q < 512 by omega) hS (xs (6 * q + 1))
  obtain ⟨⟨fs, hc0⟩, ⟨fm, hm0⟩⟩ := lr_c0 hS
  refine lv_aload_n hx hb dL_law_514 rfl (lv_at hl 1 rfl) ?_
  refine lv_aload_n hx hb dL_law_515 rfl (lv_at hl 0 rfl) ?_
  refine lv_iload_n hx hb dL_law_516 rfl (lv_at hl 3 rfl) ?_
  refine lv_iconst (v := 1) hx hb dL_law_517 (by decide) ?_
  refine lv_iadd hx hb dL_law_518 ?_
  refine ww_top (show nI (6 * q) + 1 = nI (6 * q + 1) from nI_add (6 * q) 1) ?_
  refine va_sld hx hb hX hbl hbA hw.2.2.2.1 (vp_in_nI (n := 6 * q + 1) (by omega) (by omega)) dL_law_519 ?_
  refine ww_top (congrArg xs (nI_clamp (n := 6 * q + 1) (by omega))) ?_
  refine ww_cMIL (As := [.int (xs (6 * q + 1))]) (rest := []) hx hb hml hown hts hA hw hl.1 kc (cwV 1 hts gL_law_X3_claim rfl rfl rfl (by decide +kernel) ⟨(Nat.le_of_ble_eq_true rfl), (Nat.le_of_ble_eq_true rfl)⟩) rfl 0 hc0 rfl rfl rfl (Nat.le_of_ble_eq_true rfl) hcs dL_law_520 (fun H locs hw => ?_)
  refine lv_aload_n hx hb dL_law_523 rfl (lv_at hl 2 rfl) ?_
  refine lv_aload_n hx hb dL_law_524 rfl (lv_at hl 0 rfl) ?_
  refine lv_iload_n hx hb dL_law_525 rfl (lv_at hl 3 rfl) ?_
  refine lv_iconst (v := 1) hx hb dL_law_526 (by decide) ?_
  refine lv_iadd hx hb dL_law_527 ?_
  refine ww_top (show nI (6 * q) + 1 = nI (6 * q + 1) from nI_add (6 * q) 1) ?_
  refine va_sld hx hb hX hbl hbA hw.2.2.2.1 (vp_in_nI (n := 6 * q + 1) (by omega) (by omega)) dL_law_528 ?_
  refine ww_top (congrArg xs (nI_clamp (n := 6 * q + 1) (by omega))) ?_
  refine ww_cMIR (As := [.int (xs (6 * q + 1))]) (rest := [.int r]) hx hb hml hown hts hA hw hl.1 km (cwV 1 hts gL_law_X4_claim rfl rfl rfl (by decide +kernel) ⟨(Nat.le_of_ble_eq_true rfl), (Nat.le_of_ble_eq_true rfl)⟩) rfl 0 hm0 rfl rfl rfl (Nat.le_of_ble_eq_true rfl) hcs dL_law_529 (fun H locs hw => ?_)
  exact lv_icmp_eq (tgt := 806) hx hb dL_law_532 (by decide) (fun _ => kk wC' wM' H locs hS' hw) (fun h => absurd rfl h)
set_option maxHeartbeats 8000000 in
set_option maxRecDepth 100000 in
theorem la_check {p : Program} {l : Launch} {e : Env} {s : State} {m : MethodId} {below : List Frame} {meth : Method} {c : Code} {D : va_G} {adc : Nat → Nat} {cyc : Nat → ClassId} {adm : Nat → Nat} {cym : Nat → ClassId} {b L : Nat} {xs : Nat → Int32} {t0 t1 cells slots q : Nat} {Q : State → Prop} {wC wM : va_W} {H : Heap} {locs : List Loc} {ls : Array Slot} (hL : L ≤ 3072) (C0 : lw_At p s m meth c b L xs) (hZ : ww_Zs t0 t1 (fun q : Nat => s.heap.size ≤ q) s s.heap) (hq : 6 * q + 6 ≤ L) (hS : lr_S adc cyc adm cym q wC wM) (hw : ww_W D (cw_t cyc ++ mw_t cym) (fun q : Nat => s.heap.size ≤ q) s (wC ++ wM) H locs) (hl : lv_has ls 4 [(0, .ref b), (1, .ref (adc 0)), (2, .ref (adm 0)), (3, .int (nI (6 * q)))]) (hcs : cells ≤ room_1.cells ∧ slots ≤ room_1.slots)
    (kk : ∀ (wC' wM' : va_W) (H1 : Heap) (locs1 : List Loc), lr_S adc cyc adm cym (q + 1) wC' wM' → ww_W D (cw_t cyc ++ mw_t cym) (fun q : Nat => s.heap.size ≤ q) s (wC' ++ wM') H1 locs1 → W p l e room_1 s m #[Value.ref b] below meth c H1 locs1 cells slots Q (F0 m 806 ls [])) : W p l e room_1 s m #[Value.ref b] below meth c H locs cells slots Q (F0 m 537 ls []) := by
  obtain ⟨hx, hb, hr, hml, hown, hts, hX, hbl, hlocks, hgv⟩ := C0
  have hA : ∀ q : Nat, s.heap.size ≤ q → (fun q : Nat => s.heap.size ≤ q) q := fun _ h => h
  have hbA : ¬ (fun q : Nat => s.heap.size ≤ q) b := Nat.not_le.mpr hbl
  obtain ⟨r, wC', wM', kc, km, hS'⟩ := ar_check l D (show q < 512 by omega) hS 
  obtain ⟨⟨fs, hc0⟩, ⟨fm, hm0⟩⟩ := lr_c0 hS
  refine lv_aload_n hx hb dL_law_537 rfl (lv_at hl 1 rfl) ?_
  refine ww_cMIL (As := []) (rest := []) hx hb hml hown hts hA hw hl.1 kc (cwV 0 hts gL_law_X3_check rfl rfl rfl (by decide +kernel) ⟨(Nat.le_of_ble_eq_true rfl), (Nat.le_of_ble_eq_true rfl)⟩) rfl 0 hc0 rfl rfl rfl (Nat.le_of_ble_eq_true rfl) hcs dL_law_538 (fun H locs hw => ?_)
  refine lv_aload_n hx hb dL_law_541 rfl (lv_at hl 2 rfl) ?_
  refine ww_cMIR (As := []) (rest := [.int r]) hx hb hml hown hts hA hw hl.1 km (cwV 0 hts gL_law_X4_check rfl rfl rfl (by decide +kernel) ⟨(Nat.le_of_ble_eq_true rfl), (Nat.le_of_ble_eq_true rfl)⟩) rfl 0 hm0 rfl rfl rfl (Nat.le_of_ble_eq_true rfl) hcs dL_law_542 (fun H locs hw => ?_)
  exact lv_icmp_eq (tgt := 806) hx hb dL_law_545 (by decide) (fun _ => kk wC' wM' H locs hS' hw) (fun h => absurd rfl h)
set_option maxHeartbeats 8000000 in
set_option maxRecDepth 100000 in
theorem la_would {p : Program} {l : Launch} {e : Env} {s : State} {m : MethodId} {below : List Frame} {meth : Method} {c : Code} {D : va_G} {adc : Nat → Nat} {cyc : Nat → ClassId} {adm : Nat → Nat} {cym : Nat → ClassId} {b L : Nat} {xs : Nat → Int32} {t0 t1 cells slots q : Nat} {Q : State → Prop} {wC wM : va_W} {H : Heap} {locs : List Loc} {ls : Array Slot} (hL : L ≤ 3072) (C0 : lw_At p s m meth c b L xs) (hZ : ww_Zs t0 t1 (fun q : Nat => s.heap.size ≤ q) s s.heap) (hq : 6 * q + 6 ≤ L) (hS : lr_S adc cyc adm cym q wC wM) (hw : ww_W D (cw_t cyc ++ mw_t cym) (fun q : Nat => s.heap.size ≤ q) s (wC ++ wM) H locs) (hl : lv_has ls 4 [(0, .ref b), (1, .ref (adc 0)), (2, .ref (adm 0)), (3, .int (nI (6 * q)))]) (hcs : cells ≤ room_1.cells ∧ slots ≤ room_1.slots)
    (kk : ∀ (wC' wM' : va_W) (H1 : Heap) (locs1 : List Loc), lr_S adc cyc adm cym (q + 1) wC' wM' → ww_W D (cw_t cyc ++ mw_t cym) (fun q : Nat => s.heap.size ≤ q) s (wC' ++ wM') H1 locs1 → W p l e room_1 s m #[Value.ref b] below meth c H1 locs1 cells slots Q (F0 m 806 ls [])) : W p l e room_1 s m #[Value.ref b] below meth c H locs cells slots Q (F0 m 550 ls []) := by
  obtain ⟨hx, hb, hr, hml, hown, hts, hX, hbl, hlocks, hgv⟩ := C0
  have hA : ∀ q : Nat, s.heap.size ≤ q → (fun q : Nat => s.heap.size ≤ q) q := fun _ h => h
  have hbA : ¬ (fun q : Nat => s.heap.size ≤ q) b := Nat.not_le.mpr hbl
  obtain ⟨r, wC', wM', kc, km, hS'⟩ := ar_would l D (show q < 512 by omega) hS (xs (6 * q + 1)) (f_lg (xs (6 * q + 2)) (xs (6 * q + 3))) (f_bl (xs (6 * q + 4))) (xs (6 * q + 5))
  obtain ⟨⟨fs, hc0⟩, ⟨fm, hm0⟩⟩ := lr_c0 hS
  refine lv_aload_n hx hb dL_law_550 rfl (lv_at hl 1 rfl) ?_
  refine lv_aload_n hx hb dL_law_551 rfl (lv_at hl 0 rfl) ?_
  refine lv_iload_n hx hb dL_law_552 rfl (lv_at hl 3 rfl) ?_
  refine lv_iconst (v := 1) hx hb dL_law_553 (by decide) ?_
  refine lv_iadd hx hb dL_law_554 ?_
  refine ww_top (show nI (6 * q) + 1 = nI (6 * q + 1) from nI_add (6 * q) 1) ?_
  refine va_sld hx hb hX hbl hbA hw.2.2.2.1 (vp_in_nI (n := 6 * q + 1) (by omega) (by omega)) dL_law_555 ?_
  refine ww_top (congrArg xs (nI_clamp (n := 6 * q + 1) (by omega))) ?_
  refine lv_aload_n hx hb dL_law_556 rfl (lv_at hl 0 rfl) ?_
  refine lv_iload_n hx hb dL_law_557 rfl (lv_at hl 3 rfl) ?_
  refine lv_iconst (v := 2) hx hb dL_law_558 (by decide) ?_
  refine lv_iadd hx hb dL_law_559 ?_
  refine ww_top (show nI (6 * q) + 2 = nI (6 * q + 2) from nI_add (6 * q) 2) ?_
  refine va_sld hx hb hX hbl hbA hw.2.2.2.1 (vp_in_nI (n := 6 * q + 2) (by omega) (by omega)) dL_law_560 ?_
  refine ww_top (congrArg xs (nI_clamp (n := 6 * q + 2) (by omega))) ?_
  refine lv_i2l hx hb dL_law_561 rfl ?_
  refine lv_bipush (v := 32) hx hb dL_law_562 (by decide) ?_
  refine lv_lshl hx hb dL_law_564 rfl ?_
  refine lv_aload_n hx hb dL_law_565 rfl (lv_at hl 0 rfl) ?_
  refine lv_iload_n hx hb dL_law_566 rfl (lv_at hl 3 rfl) ?_
  refine lv_iconst (v := 3) hx hb dL_law_567 (by decide) ?_
  refine lv_iadd hx hb dL_law_568 ?_
  refine ww_top (show nI (6 * q) + 3 = nI (6 * q + 3) from nI_add (6 * q) 3) ?_
  refine va_sld hx hb hX hbl hbA hw.2.2.2.1 (vp_in_nI (n := 6 * q + 3) (by omega) (by omega)) dL_law_569 ?_
  refine ww_top (congrArg xs (nI_clamp (n := 6 * q + 3) (by omega))) ?_
  refine lv_i2l hx hb dL_law_570 rfl ?_
  refine lv_ldc2 (v := 4294967295) hx hb hown (hts (.constantLong RL 18 4294967295) (List.mem_of_getElem? (i := 621) rfl)) dL_law_571 ?_
  refine lv_land hx hb dL_law_574 ?_
  refine lv_lor hx hb dL_law_575 ?_
  refine ww_topl (show _ = f_lg (xs (6 * q + 2)) (xs (6 * q + 3)) from rfl) ?_
  refine lv_aload_n hx hb dL_law_576 rfl (lv_at hl 0 rfl) ?_
  refine lv_iload_n hx hb dL_law_577 rfl (lv_at hl 3 rfl) ?_
  refine lv_iconst (v := 4) hx hb dL_law_578 (by decide) ?_
  refine lv_iadd hx hb dL_law_579 ?_
  refine ww_top (show nI (6 * q) + 4 = nI (6 * q + 4) from nI_add (6 * q) 4) ?_
  refine va_sld hx hb hX hbl hbA hw.2.2.2.1 (vp_in_nI (n := 6 * q + 4) (by omega) (by omega)) dL_law_580 ?_
  refine ww_top (congrArg xs (nI_clamp (n := 6 * q + 4) (by omega))) ?_
  refine ww_joinI (rest := [.long (f_lg (xs (6 * q + 2)) (xs (6 * q + 3))), .int (xs (6 * q + 1)), .ref (adc 0)]) 589 (f_bl (xs (6 * q + 4))) (fun K1 => ?_) ?_
  · refine lv_if_eq (tgt := 588) hx hb dL_law_581 (by decide) (fun h1 => ?_) (fun h1 => ?_)
    · refine lv_iconst (v := 0) hx hb dL_law_588 (by decide) ?_
      exact ww_top (by unfold f_bl; rw [if_pos h1]) K1
    · refine lv_iconst (v := 1) hx hb dL_law_584 (by decide) ?_
      refine lv_goto (tgt := 589) hx hb dL_law_585 (by decide) ?_
      exact ww_top (by unfold f_bl; rw [if_neg h1]) K1
  refine lv_aload_n hx hb dL_law_589 rfl (lv_at hl 0 rfl) ?_
  refine lv_iload_n hx hb dL_law_590 rfl (lv_at hl 3 rfl) ?_
  refine lv_iconst (v := 5) hx hb dL_law_591 (by decide) ?_
  refine lv_iadd hx hb dL_law_592 ?_
  refine ww_top (show nI (6 * q) + 5 = nI (6 * q + 5) from nI_add (6 * q) 5) ?_
  refine va_sld hx hb hX hbl hbA hw.2.2.2.1 (vp_in_nI (n := 6 * q + 5) (by omega) (by omega)) dL_law_593 ?_
  refine ww_top (congrArg xs (nI_clamp (n := 6 * q + 5) (by omega))) ?_
  refine ww_cMIL (As := [.int (xs (6 * q + 1)), .long (f_lg (xs (6 * q + 2)) (xs (6 * q + 3))), .int (f_bl (xs (6 * q + 4))), .int (xs (6 * q + 5))]) (rest := []) hx hb hml hown hts hA hw hl.1 kc (cwV 4 hts gL_law_X3_would rfl rfl rfl (by decide +kernel) ⟨(Nat.le_of_ble_eq_true rfl), (Nat.le_of_ble_eq_true rfl)⟩) rfl 0 hc0 rfl rfl rfl (Nat.le_of_ble_eq_true rfl) hcs dL_law_594 (fun H locs hw => ?_)
  refine lv_aload_n hx hb dL_law_597 rfl (lv_at hl 2 rfl) ?_
  refine lv_aload_n hx hb dL_law_598 rfl (lv_at hl 0 rfl) ?_
  refine lv_iload_n hx hb dL_law_599 rfl (lv_at hl 3 rfl) ?_
  refine lv_iconst (v := 1) hx hb dL_law_600 (by decide) ?_
  refine lv_iadd hx hb dL_law_601 ?_
  refine ww_top (show nI (6 * q) + 1 = nI (6 * q + 1) from nI_add (6 * q) 1) ?_
  refine va_sld hx hb hX hbl hbA hw.2.2.2.1 (vp_in_nI (n := 6 * q + 1) (by omega) (by omega)) dL_law_602 ?_
  refine ww_top (congrArg xs (nI_clamp (n := 6 * q + 1) (by omega))) ?_
  refine lv_aload_n hx hb dL_law_603 rfl (lv_at hl 0 rfl) ?_
  refine lv_iload_n hx hb dL_law_604 rfl (lv_at hl 3 rfl) ?_
  refine lv_iconst (v := 2) hx hb dL_law_605 (by decide) ?_
  refine lv_iadd hx hb dL_law_606 ?_
  refine ww_top (show nI (6 * q) + 2 = nI (6 * q + 2) from nI_add (6 * q) 2) ?_
  refine va_sld hx hb hX hbl hbA hw.2.2.2.1 (vp_in_nI (n := 6 * q + 2) (by omega) (by omega)) dL_law_607 ?_
  refine ww_top (congrArg xs (nI_clamp (n := 6 * q + 2) (by omega))) ?_
  refine lv_i2l hx hb dL_law_608 rfl ?_
  refine lv_bipush (v := 32) hx hb dL_law_609 (by decide) ?_
  refine lv_lshl hx hb dL_law_611 rfl ?_
  refine lv_aload_n hx hb dL_law_612 rfl (lv_at hl 0 rfl) ?_
  refine lv_iload_n hx hb dL_law_613 rfl (lv_at hl 3 rfl) ?_
  refine lv_iconst (v := 3) hx hb dL_law_614 (by decide) ?_
  refine lv_iadd hx hb dL_law_615 ?_
  refine ww_top (show nI (6 * q) + 3 = nI (6 * q + 3) from nI_add (6 * q) 3) ?_
  refine va_sld hx hb hX hbl hbA hw.2.2.2.1 (vp_in_nI (n := 6 * q + 3) (by omega) (by omega)) dL_law_616 ?_
  refine ww_top (congrArg xs (nI_clamp (n := 6 * q + 3) (by omega))) ?_
  refine lv_i2l hx hb dL_law_617 rfl ?_
  refine lv_ldc2 (v := 4294967295) hx hb hown (hts (.constantLong RL 18 4294967295) (List.mem_of_getElem? (i := 621) rfl)) dL_law_618 ?_
  refine lv_land hx hb dL_law_621 ?_
  refine lv_lor hx hb dL_law_622 ?_
  refine ww_topl (show _ = f_lg (xs (6 * q + 2)) (xs (6 * q + 3)) from rfl) ?_
  refine lv_aload_n hx hb dL_law_623 rfl (lv_at hl 0 rfl) ?_
  refine lv_iload_n hx hb dL_law_624 rfl (lv_at hl 3 rfl) ?_
  refine lv_iconst (v := 4) hx hb dL_law_625 (by decide) ?_
  refine lv_iadd hx hb dL_law_626 ?_
  refine ww_top (show nI (6 * q) + 4 = nI (6 * q + 4) from nI_add (6 * q) 4) ?_
  refine va_sld hx hb hX hbl hbA hw.2.2.2.1 (vp_in_nI (n := 6 * q + 4) (by omega) (by omega)) dL_law_627 ?_
  refine ww_top (congrArg xs (nI_clamp (n := 6 * q + 4) (by omega))) ?_
  refine ww_joinI (rest := [.long (f_lg (xs (6 * q + 2)) (xs (6 * q + 3))), .int (xs (6 * q + 1)), .ref (adm 0), .int r]) 636 (f_bl (xs (6 * q + 4))) (fun K1 => ?_) ?_
  · refine lv_if_eq (tgt := 635) hx hb dL_law_628 (by decide) (fun h1 => ?_) (fun h1 => ?_)
    · refine lv_iconst (v := 0) hx hb dL_law_635 (by decide) ?_
      exact ww_top (by unfold f_bl; rw [if_pos h1]) K1
    · refine lv_iconst (v := 1) hx hb dL_law_631 (by decide) ?_
      refine lv_goto (tgt := 636) hx hb dL_law_632 (by decide) ?_
      exact ww_top (by unfold f_bl; rw [if_neg h1]) K1
  refine lv_aload_n hx hb dL_law_636 rfl (lv_at hl 0 rfl) ?_
  refine lv_iload_n hx hb dL_law_637 rfl (lv_at hl 3 rfl) ?_
  refine lv_iconst (v := 5) hx hb dL_law_638 (by decide) ?_
  refine lv_iadd hx hb dL_law_639 ?_
  refine ww_top (show nI (6 * q) + 5 = nI (6 * q + 5) from nI_add (6 * q) 5) ?_
  refine va_sld hx hb hX hbl hbA hw.2.2.2.1 (vp_in_nI (n := 6 * q + 5) (by omega) (by omega)) dL_law_640 ?_
  refine ww_top (congrArg xs (nI_clamp (n := 6 * q + 5) (by omega))) ?_
  refine ww_cMIR (As := [.int (xs (6 * q + 1)), .long (f_lg (xs (6 * q + 2)) (xs (6 * q + 3))), .int (f_bl (xs (6 * q + 4))), .int (xs (6 * q + 5))]) (rest := [.int r]) hx hb hml hown hts hA hw hl.1 km (cwV 4 hts gL_law_X4_would rfl rfl rfl (by decide +kernel) ⟨(Nat.le_of_ble_eq_true rfl), (Nat.le_of_ble_eq_true rfl)⟩) rfl 0 hm0 rfl rfl rfl (Nat.le_of_ble_eq_true rfl) hcs dL_law_641 (fun H locs hw => ?_)
  exact lv_icmp_eq (tgt := 806) hx hb dL_law_644 (by decide) (fun _ => kk wC' wM' H locs hS' hw) (fun h => absurd rfl h)
set_option maxHeartbeats 8000000 in
set_option maxRecDepth 100000 in
theorem la_choices {p : Program} {l : Launch} {e : Env} {s : State} {m : MethodId} {below : List Frame} {meth : Method} {c : Code} {D : va_G} {adc : Nat → Nat} {cyc : Nat → ClassId} {adm : Nat → Nat} {cym : Nat → ClassId} {b L : Nat} {xs : Nat → Int32} {t0 t1 cells slots q : Nat} {Q : State → Prop} {wC wM : va_W} {H : Heap} {locs : List Loc} {ls : Array Slot} (hL : L ≤ 3072) (C0 : lw_At p s m meth c b L xs) (hZ : ww_Zs t0 t1 (fun q : Nat => s.heap.size ≤ q) s s.heap) (hq : 6 * q + 6 ≤ L) (hS : lr_S adc cyc adm cym q wC wM) (hw : ww_W D (cw_t cyc ++ mw_t cym) (fun q : Nat => s.heap.size ≤ q) s (wC ++ wM) H locs) (hl : lv_has ls 4 [(0, .ref b), (1, .ref (adc 0)), (2, .ref (adm 0)), (3, .int (nI (6 * q)))]) (hcs : cells ≤ room_1.cells ∧ slots ≤ room_1.slots)
    (kk : ∀ (wC' wM' : va_W) (H1 : Heap) (locs1 : List Loc), lr_S adc cyc adm cym (q + 1) wC' wM' → ww_W D (cw_t cyc ++ mw_t cym) (fun q : Nat => s.heap.size ≤ q) s (wC' ++ wM') H1 locs1 → W p l e room_1 s m #[Value.ref b] below meth c H1 locs1 cells slots Q (F0 m 806 ls [])) : W p l e room_1 s m #[Value.ref b] below meth c H locs cells slots Q (F0 m 649 ls []) := by
  obtain ⟨hx, hb, hr, hml, hown, hts, hX, hbl, hlocks, hgv⟩ := C0
  have hA : ∀ q : Nat, s.heap.size ≤ q → (fun q : Nat => s.heap.size ≤ q) q := fun _ h => h
  have hbA : ¬ (fun q : Nat => s.heap.size ≤ q) b := Nat.not_le.mpr hbl
  obtain ⟨r, wC', wM', kc, km, hS'⟩ := ar_choices l D (show q < 512 by omega) hS 
  obtain ⟨⟨fs, hc0⟩, ⟨fm, hm0⟩⟩ := lr_c0 hS
  refine lv_aload_n hx hb dL_law_649 rfl (lv_at hl 1 rfl) ?_
  refine ww_cMIL (As := []) (rest := []) hx hb hml hown hts hA hw hl.1 kc (cwV 0 hts gL_law_X3_choices rfl rfl rfl (by decide +kernel) ⟨(Nat.le_of_ble_eq_true rfl), (Nat.le_of_ble_eq_true rfl)⟩) rfl 0 hc0 rfl rfl rfl (Nat.le_of_ble_eq_true rfl) hcs dL_law_650 (fun H locs hw => ?_)
  refine lv_aload_n hx hb dL_law_653 rfl (lv_at hl 2 rfl) ?_
  refine ww_cMIR (As := []) (rest := [.int r]) hx hb hml hown hts hA hw hl.1 km (cwV 0 hts gL_law_X4_choices rfl rfl rfl (by decide +kernel) ⟨(Nat.le_of_ble_eq_true rfl), (Nat.le_of_ble_eq_true rfl)⟩) rfl 0 hm0 rfl rfl rfl (Nat.le_of_ble_eq_true rfl) hcs dL_law_654 (fun H locs hw => ?_)
  exact lv_icmp_eq (tgt := 806) hx hb dL_law_657 (by decide) (fun _ => kk wC' wM' H locs hS' hw) (fun h => absurd rfl h)
set_option maxHeartbeats 8000000 in
set_option maxRecDepth 100000 in
theorem la_digest {p : Program} {l : Launch} {e : Env} {s : State} {m : MethodId} {below : List Frame} {meth : Method} {c : Code} {D : va_G} {adc : Nat → Nat} {cyc : Nat → ClassId} {adm : Nat → Nat} {cym : Nat → ClassId} {b L : Nat} {xs : Nat → Int32} {t0 t1 cells slots q : Nat} {Q : State → Prop} {wC wM : va_W} {H : Heap} {locs : List Loc} {ls : Array Slot} (hL : L ≤ 3072) (C0 : lw_At p s m meth c b L xs) (hZ : ww_Zs t0 t1 (fun q : Nat => s.heap.size ≤ q) s s.heap) (hq : 6 * q + 6 ≤ L) (hS : lr_S adc cyc adm cym q wC wM) (hw : ww_W D (cw_t cyc ++ mw_t cym) (fun q : Nat => s.heap.size ≤ q) s (wC ++ wM) H locs) (hl : lv_has ls 4 [(0, .ref b), (1, .ref (adc 0)), (2, .ref (adm 0)), (3, .int (nI (6 * q)))]) (hcs : cells ≤ room_1.cells ∧ slots ≤ room_1.slots)
    (kk : ∀ (wC' wM' : va_W) (H1 : Heap) (locs1 : List Loc), lr_S adc cyc adm cym (q + 1) wC' wM' → ww_W D (cw_t cyc ++ mw_t cym) (fun q : Nat => s.heap.size ≤ q) s (wC' ++ wM') H1 locs1 → W p l e room_1 s m #[Value.ref b] below meth c H1 locs1 cells slots Q (F0 m 806 ls [])) : W p l e room_1 s m #[Value.ref b] below meth c H locs cells slots Q (F0 m 662 ls []) := by
  obtain ⟨hx, hb, hr, hml, hown, hts, hX, hbl, hlocks, hgv⟩ := C0
  have hA : ∀ q : Nat, s.heap.size ≤ q → (fun q : Nat => s.heap.size ≤ q) q := fun _ h => h
  have hbA : ¬ (fun q : Nat => s.heap.size ≤ q) b := Nat.not_le.mpr hbl
  obtain ⟨r, wC', wM', kc, km, hS'⟩ := ar_digest l D (show q < 512 by omega) hS (xs (6 * q + 1)) (f_lg (xs (6 * q + 2)) (xs (6 * q + 3)))
  obtain ⟨⟨fs, hc0⟩, ⟨fm, hm0⟩⟩ := lr_c0 hS
  refine lv_aload_n hx hb dL_law_662 rfl (lv_at hl 1 rfl) ?_
  refine lv_aload_n hx hb dL_law_663 rfl (lv_at hl 0 rfl) ?_
  refine lv_iload_n hx hb dL_law_664 rfl (lv_at hl 3 rfl) ?_
  refine lv_iconst (v := 1) hx hb dL_law_665 (by decide) ?_
  refine lv_iadd hx hb dL_law_666 ?_
  refine ww_top (show nI (6 * q) + 1 = nI (6 * q + 1) from nI_add (6 * q) 1) ?_
  refine va_sld hx hb hX hbl hbA hw.2.2.2.1 (vp_in_nI (n := 6 * q + 1) (by omega) (by omega)) dL_law_667 ?_
  refine ww_top (congrArg xs (nI_clamp (n := 6 * q + 1) (by omega))) ?_
  refine lv_aload_n hx hb dL_law_668 rfl (lv_at hl 0 rfl) ?_
  refine lv_iload_n hx hb dL_law_669 rfl (lv_at hl 3 rfl) ?_
  refine lv_iconst (v := 2) hx hb dL_law_670 (by decide) ?_
  refine lv_iadd hx hb dL_law_671 ?_
  refine ww_top (show nI (6 * q) + 2 = nI (6 * q + 2) from nI_add (6 * q) 2) ?_
  refine va_sld hx hb hX hbl hbA hw.2.2.2.1 (vp_in_nI (n := 6 * q + 2) (by omega) (by omega)) dL_law_672 ?_
  refine ww_top (congrArg xs (nI_clamp (n := 6 * q + 2) (by omega))) ?_
  refine lv_i2l hx hb dL_law_673 rfl ?_
  refine lv_bipush (v := 32) hx hb dL_law_674 (by decide) ?_
  refine lv_lshl hx hb dL_law_676 rfl ?_
  refine lv_aload_n hx hb dL_law_677 rfl (lv_at hl 0 rfl) ?_
  refine lv_iload_n hx hb dL_law_678 rfl (lv_at hl 3 rfl) ?_
  refine lv_iconst (v := 3) hx hb dL_law_679 (by decide) ?_
  refine lv_iadd hx hb dL_law_680 ?_
  refine ww_top (show nI (6 * q) + 3 = nI (6 * q + 3) from nI_add (6 * q) 3) ?_
  refine va_sld hx hb hX hbl hbA hw.2.2.2.1 (vp_in_nI (n := 6 * q + 3) (by omega) (by omega)) dL_law_681 ?_
  refine ww_top (congrArg xs (nI_clamp (n := 6 * q + 3) (by omega))) ?_
  refine lv_i2l hx hb dL_law_682 rfl ?_
  refine lv_ldc2 (v := 4294967295) hx hb hown (hts (.constantLong RL 18 4294967295) (List.mem_of_getElem? (i := 621) rfl)) dL_law_683 ?_
  refine lv_land hx hb dL_law_686 ?_
  refine lv_lor hx hb dL_law_687 ?_
  refine ww_topl (show _ = f_lg (xs (6 * q + 2)) (xs (6 * q + 3)) from rfl) ?_
  refine ww_cMLL (As := [.int (xs (6 * q + 1)), .long (f_lg (xs (6 * q + 2)) (xs (6 * q + 3)))]) (rest := []) hx hb hml hown hts hA hw hl.1 kc (cwV 2 hts gL_law_X3_digest rfl rfl rfl (by decide +kernel) ⟨(Nat.le_of_ble_eq_true rfl), (Nat.le_of_ble_eq_true rfl)⟩) rfl 0 hc0 rfl rfl rfl (Nat.le_of_ble_eq_true rfl) hcs dL_law_688 (fun H locs hw => ?_)
  refine lv_aload_n hx hb dL_law_691 rfl (lv_at hl 2 rfl) ?_
  refine lv_aload_n hx hb dL_law_692 rfl (lv_at hl 0 rfl) ?_
  refine lv_iload_n hx hb dL_law_693 rfl (lv_at hl 3 rfl) ?_
  refine lv_iconst (v := 1) hx hb dL_law_694 (by decide) ?_
  refine lv_iadd hx hb dL_law_695 ?_
  refine ww_top (show nI (6 * q) + 1 = nI (6 * q + 1) from nI_add (6 * q) 1) ?_
  refine va_sld hx hb hX hbl hbA hw.2.2.2.1 (vp_in_nI (n := 6 * q + 1) (by omega) (by omega)) dL_law_696 ?_
  refine ww_top (congrArg xs (nI_clamp (n := 6 * q + 1) (by omega))) ?_
  refine lv_aload_n hx hb dL_law_697 rfl (lv_at hl 0 rfl) ?_
  refine lv_iload_n hx hb dL_law_698 rfl (lv_at hl 3 rfl) ?_
  refine lv_iconst (v := 2) hx hb dL_law_699 (by decide) ?_
  refine lv_iadd hx hb dL_law_700 ?_
  refine ww_top (show nI (6 * q) + 2 = nI (6 * q + 2) from nI_add (6 * q) 2) ?_
  refine va_sld hx hb hX hbl hbA hw.2.2.2.1 (vp_in_nI (n := 6 * q + 2) (by omega) (by omega)) dL_law_701 ?_
  refine ww_top (congrArg xs (nI_clamp (n := 6 * q + 2) (by omega))) ?_
  refine lv_i2l hx hb dL_law_702 rfl ?_
  refine lv_bipush (v := 32) hx hb dL_law_703 (by decide) ?_
  refine lv_lshl hx hb dL_law_705 rfl ?_
  refine lv_aload_n hx hb dL_law_706 rfl (lv_at hl 0 rfl) ?_
  refine lv_iload_n hx hb dL_law_707 rfl (lv_at hl 3 rfl) ?_
  refine lv_iconst (v := 3) hx hb dL_law_708 (by decide) ?_
  refine lv_iadd hx hb dL_law_709 ?_
  refine ww_top (show nI (6 * q) + 3 = nI (6 * q + 3) from nI_add (6 * q) 3) ?_
  refine va_sld hx hb hX hbl hbA hw.2.2.2.1 (vp_in_nI (n := 6 * q + 3) (by omega) (by omega)) dL_law_710 ?_
  refine ww_top (congrArg xs (nI_clamp (n := 6 * q + 3) (by omega))) ?_
  refine lv_i2l hx hb dL_law_711 rfl ?_
  refine lv_ldc2 (v := 4294967295) hx hb hown (hts (.constantLong RL 18 4294967295) (List.mem_of_getElem? (i := 621) rfl)) dL_law_712 ?_
  refine lv_land hx hb dL_law_715 ?_
  refine lv_lor hx hb dL_law_716 ?_
  refine ww_topl (show _ = f_lg (xs (6 * q + 2)) (xs (6 * q + 3)) from rfl) ?_
  refine ww_cMLR (As := [.int (xs (6 * q + 1)), .long (f_lg (xs (6 * q + 2)) (xs (6 * q + 3)))]) (rest := [.long r]) hx hb hml hown hts hA hw hl.1 km (cwV 2 hts gL_law_X4_digest rfl rfl rfl (by decide +kernel) ⟨(Nat.le_of_ble_eq_true rfl), (Nat.le_of_ble_eq_true rfl)⟩) rfl 0 hm0 rfl rfl rfl (Nat.le_of_ble_eq_true rfl) hcs dL_law_717 (fun H locs hw => ?_)
  exact ww_lif_eq (tgt := 806) hx hb dL_law_720 dL_law_721 (by decide) (fun _ => kk wC' wM' H locs hS' hw) (fun h => absurd rfl h)
set_option maxHeartbeats 8000000 in
set_option maxRecDepth 100000 in
theorem la_node {p : Program} {l : Launch} {e : Env} {s : State} {m : MethodId} {below : List Frame} {meth : Method} {c : Code} {D : va_G} {adc : Nat → Nat} {cyc : Nat → ClassId} {adm : Nat → Nat} {cym : Nat → ClassId} {b L : Nat} {xs : Nat → Int32} {t0 t1 cells slots q : Nat} {Q : State → Prop} {wC wM : va_W} {H : Heap} {locs : List Loc} {ls : Array Slot} (hL : L ≤ 3072) (C0 : lw_At p s m meth c b L xs) (hZ : ww_Zs t0 t1 (fun q : Nat => s.heap.size ≤ q) s s.heap) (hq : 6 * q + 6 ≤ L) (hS : lr_S adc cyc adm cym q wC wM) (hw : ww_W D (cw_t cyc ++ mw_t cym) (fun q : Nat => s.heap.size ≤ q) s (wC ++ wM) H locs) (hl : lv_has ls 4 [(0, .ref b), (1, .ref (adc 0)), (2, .ref (adm 0)), (3, .int (nI (6 * q)))]) (hcs : cells ≤ room_1.cells ∧ slots ≤ room_1.slots)
    (kk : ∀ (wC' wM' : va_W) (H1 : Heap) (locs1 : List Loc), lr_S adc cyc adm cym (q + 1) wC' wM' → ww_W D (cw_t cyc ++ mw_t cym) (fun q : Nat => s.heap.size ≤ q) s (wC' ++ wM') H1 locs1 → W p l e room_1 s m #[Value.ref b] below meth c H1 locs1 cells slots Q (F0 m 806 ls [])) : W p l e room_1 s m #[Value.ref b] below meth c H locs cells slots Q (F0 m 726 ls []) := by
  obtain ⟨hx, hb, hr, hml, hown, hts, hX, hbl, hlocks, hgv⟩ := C0
  have hA : ∀ q : Nat, s.heap.size ≤ q → (fun q : Nat => s.heap.size ≤ q) q := fun _ h => h
  have hbA : ¬ (fun q : Nat => s.heap.size ≤ q) b := Nat.not_le.mpr hbl
  obtain ⟨r, wC', wM', kc, km, hS'⟩ := ar_node l D (show q < 512 by omega) hS (xs (6 * q + 1)) (xs (6 * q + 2))
  obtain ⟨⟨fs, hc0⟩, ⟨fm, hm0⟩⟩ := lr_c0 hS
  refine lv_aload_n hx hb dL_law_726 rfl (lv_at hl 1 rfl) ?_
  refine lv_aload_n hx hb dL_law_727 rfl (lv_at hl 0 rfl) ?_
  refine lv_iload_n hx hb dL_law_728 rfl (lv_at hl 3 rfl) ?_
  refine lv_iconst (v := 1) hx hb dL_law_729 (by decide) ?_
  refine lv_iadd hx hb dL_law_730 ?_
  refine ww_top (show nI (6 * q) + 1 = nI (6 * q + 1) from nI_add (6 * q) 1) ?_
  refine va_sld hx hb hX hbl hbA hw.2.2.2.1 (vp_in_nI (n := 6 * q + 1) (by omega) (by omega)) dL_law_731 ?_
  refine ww_top (congrArg xs (nI_clamp (n := 6 * q + 1) (by omega))) ?_
  refine lv_aload_n hx hb dL_law_732 rfl (lv_at hl 0 rfl) ?_
  refine lv_iload_n hx hb dL_law_733 rfl (lv_at hl 3 rfl) ?_
  refine lv_iconst (v := 2) hx hb dL_law_734 (by decide) ?_
  refine lv_iadd hx hb dL_law_735 ?_
  refine ww_top (show nI (6 * q) + 2 = nI (6 * q + 2) from nI_add (6 * q) 2) ?_
  refine va_sld hx hb hX hbl hbA hw.2.2.2.1 (vp_in_nI (n := 6 * q + 2) (by omega) (by omega)) dL_law_736 ?_
  refine ww_top (congrArg xs (nI_clamp (n := 6 * q + 2) (by omega))) ?_
  refine ww_cMIL (As := [.int (xs (6 * q + 1)), .int (xs (6 * q + 2))]) (rest := []) hx hb hml hown hts hA hw hl.1 kc (cwV 2 hts gL_law_X3_node rfl rfl rfl (by decide +kernel) ⟨(Nat.le_of_ble_eq_true rfl), (Nat.le_of_ble_eq_true rfl)⟩) rfl 0 hc0 rfl rfl rfl (Nat.le_of_ble_eq_true rfl) hcs dL_law_737 (fun H locs hw => ?_)
  refine lv_aload_n hx hb dL_law_740 rfl (lv_at hl 2 rfl) ?_
  refine lv_aload_n hx hb dL_law_741 rfl (lv_at hl 0 rfl) ?_
  refine lv_iload_n hx hb dL_law_742 rfl (lv_at hl 3 rfl) ?_
  refine lv_iconst (v := 1) hx hb dL_law_743 (by decide) ?_
  refine lv_iadd hx hb dL_law_744 ?_
  refine ww_top (show nI (6 * q) + 1 = nI (6 * q + 1) from nI_add (6 * q) 1) ?_
  refine va_sld hx hb hX hbl hbA hw.2.2.2.1 (vp_in_nI (n := 6 * q + 1) (by omega) (by omega)) dL_law_745 ?_
  refine ww_top (congrArg xs (nI_clamp (n := 6 * q + 1) (by omega))) ?_
  refine lv_aload_n hx hb dL_law_746 rfl (lv_at hl 0 rfl) ?_
  refine lv_iload_n hx hb dL_law_747 rfl (lv_at hl 3 rfl) ?_
  refine lv_iconst (v := 2) hx hb dL_law_748 (by decide) ?_
  refine lv_iadd hx hb dL_law_749 ?_
  refine ww_top (show nI (6 * q) + 2 = nI (6 * q + 2) from nI_add (6 * q) 2) ?_
  refine va_sld hx hb hX hbl hbA hw.2.2.2.1 (vp_in_nI (n := 6 * q + 2) (by omega) (by omega)) dL_law_750 ?_
  refine ww_top (congrArg xs (nI_clamp (n := 6 * q + 2) (by omega))) ?_
  refine ww_cMIR (As := [.int (xs (6 * q + 1)), .int (xs (6 * q + 2))]) (rest := [.int r]) hx hb hml hown hts hA hw hl.1 km (cwV 2 hts gL_law_X4_node rfl rfl rfl (by decide +kernel) ⟨(Nat.le_of_ble_eq_true rfl), (Nat.le_of_ble_eq_true rfl)⟩) rfl 0 hm0 rfl rfl rfl (Nat.le_of_ble_eq_true rfl) hcs dL_law_751 (fun H locs hw => ?_)
  exact lv_icmp_eq (tgt := 806) hx hb dL_law_754 (by decide) (fun _ => kk wC' wM' H locs hS' hw) (fun h => absurd rfl h)
set_option maxHeartbeats 8000000 in
set_option maxRecDepth 100000 in
theorem la_amount {p : Program} {l : Launch} {e : Env} {s : State} {m : MethodId} {below : List Frame} {meth : Method} {c : Code} {D : va_G} {adc : Nat → Nat} {cyc : Nat → ClassId} {adm : Nat → Nat} {cym : Nat → ClassId} {b L : Nat} {xs : Nat → Int32} {t0 t1 cells slots q : Nat} {Q : State → Prop} {wC wM : va_W} {H : Heap} {locs : List Loc} {ls : Array Slot} (hL : L ≤ 3072) (C0 : lw_At p s m meth c b L xs) (hZ : ww_Zs t0 t1 (fun q : Nat => s.heap.size ≤ q) s s.heap) (hq : 6 * q + 6 ≤ L) (hS : lr_S adc cyc adm cym q wC wM) (hw : ww_W D (cw_t cyc ++ mw_t cym) (fun q : Nat => s.heap.size ≤ q) s (wC ++ wM) H locs) (hl : lv_has ls 4 [(0, .ref b), (1, .ref (adc 0)), (2, .ref (adm 0)), (3, .int (nI (6 * q)))]) (hcs : cells ≤ room_1.cells ∧ slots ≤ room_1.slots)
    (kk : ∀ (wC' wM' : va_W) (H1 : Heap) (locs1 : List Loc), lr_S adc cyc adm cym (q + 1) wC' wM' → ww_W D (cw_t cyc ++ mw_t cym) (fun q : Nat => s.heap.size ≤ q) s (wC' ++ wM') H1 locs1 → W p l e room_1 s m #[Value.ref b] below meth c H1 locs1 cells slots Q (F0 m 806 ls [])) : W p l e room_1 s m #[Value.ref b] below meth c H locs cells slots Q (F0 m 759 ls []) := by
  obtain ⟨hx, hb, hr, hml, hown, hts, hX, hbl, hlocks, hgv⟩ := C0
  have hA : ∀ q : Nat, s.heap.size ≤ q → (fun q : Nat => s.heap.size ≤ q) q := fun _ h => h
  have hbA : ¬ (fun q : Nat => s.heap.size ≤ q) b := Nat.not_le.mpr hbl
  obtain ⟨r, wC', wM', kc, km, hS'⟩ := ar_amount l D (show q < 512 by omega) hS (xs (6 * q + 1))
  obtain ⟨⟨fs, hc0⟩, ⟨fm, hm0⟩⟩ := lr_c0 hS
  refine lv_aload_n hx hb dL_law_759 rfl (lv_at hl 1 rfl) ?_
  refine lv_aload_n hx hb dL_law_760 rfl (lv_at hl 0 rfl) ?_
  refine lv_iload_n hx hb dL_law_761 rfl (lv_at hl 3 rfl) ?_
  refine lv_iconst (v := 1) hx hb dL_law_762 (by decide) ?_
  refine lv_iadd hx hb dL_law_763 ?_
  refine ww_top (show nI (6 * q) + 1 = nI (6 * q + 1) from nI_add (6 * q) 1) ?_
  refine va_sld hx hb hX hbl hbA hw.2.2.2.1 (vp_in_nI (n := 6 * q + 1) (by omega) (by omega)) dL_law_764 ?_
  refine ww_top (congrArg xs (nI_clamp (n := 6 * q + 1) (by omega))) ?_
  refine ww_cMLL (As := [.int (xs (6 * q + 1))]) (rest := []) hx hb hml hown hts hA hw hl.1 kc (cwV 1 hts gL_law_X3_amount rfl rfl rfl (by decide +kernel) ⟨(Nat.le_of_ble_eq_true rfl), (Nat.le_of_ble_eq_true rfl)⟩) rfl 0 hc0 rfl rfl rfl (Nat.le_of_ble_eq_true rfl) hcs dL_law_765 (fun H locs hw => ?_)
  refine lv_aload_n hx hb dL_law_768 rfl (lv_at hl 2 rfl) ?_
  refine lv_aload_n hx hb dL_law_769 rfl (lv_at hl 0 rfl) ?_
  refine lv_iload_n hx hb dL_law_770 rfl (lv_at hl 3 rfl) ?_
  refine lv_iconst (v := 1) hx hb dL_law_771 (by decide) ?_
  refine lv_iadd hx hb dL_law_772 ?_
  refine ww_top (show nI (6 * q) + 1 = nI (6 * q + 1) from nI_add (6 * q) 1) ?_
  refine va_sld hx hb hX hbl hbA hw.2.2.2.1 (vp_in_nI (n := 6 * q + 1) (by omega) (by omega)) dL_law_773 ?_
  refine ww_top (congrArg xs (nI_clamp (n := 6 * q + 1) (by omega))) ?_
  refine ww_cMLR (As := [.int (xs (6 * q + 1))]) (rest := [.long r]) hx hb hml hown hts hA hw hl.1 km (cwV 1 hts gL_law_X4_amount rfl rfl rfl (by decide +kernel) ⟨(Nat.le_of_ble_eq_true rfl), (Nat.le_of_ble_eq_true rfl)⟩) rfl 0 hm0 rfl rfl rfl (Nat.le_of_ble_eq_true rfl) hcs dL_law_774 (fun H locs hw => ?_)
  exact ww_lif_eq (tgt := 806) hx hb dL_law_777 dL_law_778 (by decide) (fun _ => kk wC' wM' H locs hS' hw) (fun h => absurd rfl h)
set_option maxHeartbeats 8000000 in
set_option maxRecDepth 100000 in
theorem la_told {p : Program} {l : Launch} {e : Env} {s : State} {m : MethodId} {below : List Frame} {meth : Method} {c : Code} {D : va_G} {adc : Nat → Nat} {cyc : Nat → ClassId} {adm : Nat → Nat} {cym : Nat → ClassId} {b L : Nat} {xs : Nat → Int32} {t0 t1 cells slots q : Nat} {Q : State → Prop} {wC wM : va_W} {H : Heap} {locs : List Loc} {ls : Array Slot} (hL : L ≤ 3072) (C0 : lw_At p s m meth c b L xs) (hZ : ww_Zs t0 t1 (fun q : Nat => s.heap.size ≤ q) s s.heap) (hq : 6 * q + 6 ≤ L) (hS : lr_S adc cyc adm cym q wC wM) (hw : ww_W D (cw_t cyc ++ mw_t cym) (fun q : Nat => s.heap.size ≤ q) s (wC ++ wM) H locs) (hl : lv_has ls 4 [(0, .ref b), (1, .ref (adc 0)), (2, .ref (adm 0)), (3, .int (nI (6 * q)))]) (hcs : cells ≤ room_1.cells ∧ slots ≤ room_1.slots)
    (kk : ∀ (wC' wM' : va_W) (H1 : Heap) (locs1 : List Loc), lr_S adc cyc adm cym (q + 1) wC' wM' → ww_W D (cw_t cyc ++ mw_t cym) (fun q : Nat => s.heap.size ≤ q) s (wC' ++ wM') H1 locs1 → W p l e room_1 s m #[Value.ref b] below meth c H1 locs1 cells slots Q (F0 m 806 ls [])) : W p l e room_1 s m #[Value.ref b] below meth c H locs cells slots Q (F0 m 783 ls []) := by
  obtain ⟨hx, hb, hr, hml, hown, hts, hX, hbl, hlocks, hgv⟩ := C0
  have hA : ∀ q : Nat, s.heap.size ≤ q → (fun q : Nat => s.heap.size ≤ q) q := fun _ h => h
  have hbA : ¬ (fun q : Nat => s.heap.size ≤ q) b := Nat.not_le.mpr hbl
  obtain ⟨r, wC', wM', kc, km, hS'⟩ := ar_told l D (show q < 512 by omega) hS (xs (6 * q + 1))
  obtain ⟨⟨fs, hc0⟩, ⟨fm, hm0⟩⟩ := lr_c0 hS
  refine lv_aload_n hx hb dL_law_783 rfl (lv_at hl 1 rfl) ?_
  refine lv_aload_n hx hb dL_law_784 rfl (lv_at hl 0 rfl) ?_
  refine lv_iload_n hx hb dL_law_785 rfl (lv_at hl 3 rfl) ?_
  refine lv_iconst (v := 1) hx hb dL_law_786 (by decide) ?_
  refine lv_iadd hx hb dL_law_787 ?_
  refine ww_top (show nI (6 * q) + 1 = nI (6 * q + 1) from nI_add (6 * q) 1) ?_
  refine va_sld hx hb hX hbl hbA hw.2.2.2.1 (vp_in_nI (n := 6 * q + 1) (by omega) (by omega)) dL_law_788 ?_
  refine ww_top (congrArg xs (nI_clamp (n := 6 * q + 1) (by omega))) ?_
  refine ww_cMIL (As := [.int (xs (6 * q + 1))]) (rest := []) hx hb hml hown hts hA hw hl.1 kc (cwV 1 hts gL_law_X3_told rfl rfl rfl (by decide +kernel) ⟨(Nat.le_of_ble_eq_true rfl), (Nat.le_of_ble_eq_true rfl)⟩) rfl 0 hc0 rfl rfl rfl (Nat.le_of_ble_eq_true rfl) hcs dL_law_789 (fun H locs hw => ?_)
  refine lv_aload_n hx hb dL_law_792 rfl (lv_at hl 2 rfl) ?_
  refine lv_aload_n hx hb dL_law_793 rfl (lv_at hl 0 rfl) ?_
  refine lv_iload_n hx hb dL_law_794 rfl (lv_at hl 3 rfl) ?_
  refine lv_iconst (v := 1) hx hb dL_law_795 (by decide) ?_
  refine lv_iadd hx hb dL_law_796 ?_
  refine ww_top (show nI (6 * q) + 1 = nI (6 * q + 1) from nI_add (6 * q) 1) ?_
  refine va_sld hx hb hX hbl hbA hw.2.2.2.1 (vp_in_nI (n := 6 * q + 1) (by omega) (by omega)) dL_law_797 ?_
  refine ww_top (congrArg xs (nI_clamp (n := 6 * q + 1) (by omega))) ?_
  refine ww_cMIR (As := [.int (xs (6 * q + 1))]) (rest := [.int r]) hx hb hml hown hts hA hw hl.1 km (cwV 1 hts gL_law_X4_told rfl rfl rfl (by decide +kernel) ⟨(Nat.le_of_ble_eq_true rfl), (Nat.le_of_ble_eq_true rfl)⟩) rfl 0 hm0 rfl rfl rfl (Nat.le_of_ble_eq_true rfl) hcs dL_law_798 (fun H locs hw => ?_)
  exact lv_icmp_eq (tgt := 806) hx hb dL_law_801 (by decide) (fun _ => kk wC' wM' H locs hS' hw) (fun h => absurd rfl h)
