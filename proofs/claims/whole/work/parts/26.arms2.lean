theorem ww_MZ_mk {l : Launch} {D : va_G} {tys : List (ClassId × FieldType)} {t0 t1 : Nat} {y : MethodName} {wq wq' : List Cond} {rm : Room} {av : List Value} {ws0 ws1 : va_W} {r : Int32} {cc : ByteArray} {maxL : Nat} (rt : FieldType) (hy : plainName y.cls = true) (hw : wq = Cond.code y cc maxL (some rt) :: wq') (hlen : (lg_sl av).length ≤ maxL)
    (body : ∀ (p : Program) (e : Env) (s : State) (m : MethodId) (below : List Frame) (meth : Method) (c : Code) (A : Nat → Prop) (ls : Array Slot), p.tables.exec = Jvm.exec → c.code = cc → meth.sig.returnType = some rt → (∀ w ∈ wq, w.before av.toArray s = true) → s.vm.findClass y.cls = some m.cls → meth.locks = false → c.maxLocals = maxL → (∀ q : Nat, s.heap.size ≤ q → A q) → ww_W D tys A s ws0 s.heap [] → ww_Zs t0 t1 A s s.heap → lv_has ls maxL (lv_args 0 av) → W p l e rm s m av.toArray below meth c s.heap [] 0 0 (MQ below (ww_Qi D tys A ws1 r) av.toArray s 0 0 A) (F0 m 0 ls [])) : ww_MZ l D tys t0 t1 y wq rm av ws0 ws1 r := by
  intro sz
  refine Met.ofW (cc := cc) (maxL := maxL) (ret := some rt) hy hw ?_
  intro p e s m args below meth c s₁ B hml hv
  obtain ⟨rfl, ⟨hsz, hP, hK, hD0, hE⟩, hZ⟩ := hv
  subst hsz
  rw [lg_entry_eq]
  exact body p e s m below meth c _ _ B.exec B.bytes B.returns (atoms_spec (ws := wq) B.pre) (findClass_of_methodNamed B.named) B.notSynchronized hml (fun q h => Or.inr h) ⟨hK, hP, hD0.self, va_S.rf, hE⟩ hZ (lv_entry av hlen)
theorem tb_l {k : Nat} (hk : k < 4) : (if 2 ≤ nI k then (1 : Int64) else 0) = (f_lst k).toInt64 := by
  rcases (show k = 0 ∨ k = 1 ∨ k = 2 ∨ k = 3 by omega) with rfl | rfl | rfl | rfl <;> decide +kernel
theorem tb_m {k : Nat} (hk : k < 4) : (if 2 ≤ nI k then (20 : Int64) else 100) = (f_mst k).toInt64 := by
  rcases (show k = 0 ∨ k = 1 ∨ k = 2 ∨ k = 3 by omega) with rfl | rfl | rfl | rfl <;> decide +kernel
theorem tb_lo {k : Nat} {v : Int32} (hk : k < 4) (h : v < f_lst k) : f_in v.toInt64 (if 2 ≤ nI k then 1 else 0) (if 2 ≤ nI k then 20 else 100) = 0 := in_lo _ (tb_l hk) h
theorem tb_hi {k : Nat} {v : Int32} (hk : k < 4) (h : ¬ v ≤ f_mst k) : f_in v.toInt64 (if 2 ≤ nI k then 1 else 0) (if 2 ≤ nI k then 20 else 100) = 0 := in_hi _ (tb_m hk) h
theorem tb_ok {k : Nat} {v : Int32} (hk : k < 4) (h : ¬ v < f_lst k) (h2 : v ≤ f_mst k) : ¬ f_in v.toInt64 (if 2 ≤ nI k then 1 else 0) (if 2 ≤ nI k then 20 else 100) = 0 := in_ok _ _ (tb_l hk) (tb_m hk) h h2
theorem t4_in {x : Int32} (h1 : ¬ x < 0) (h2 : ¬ 4 ≤ x) : ∃ k : Nat, k < 4 ∧ x = nI k := by
  rcases pk_ix x (n := 4) (by decide) with h3 | h3 | h3
  · exact absurd h3 h1
  · exact absurd h3 h2
  · exact h3
set_option maxHeartbeats 4000000 in
set_option maxRecDepth 100000 in
theorem k_X3_term (l : Launch) {D : va_G} {ad : Nat → Nat} {cy : Nat → ClassId} {claims phase epoch nxt : Int32} {seed pot : Int64} {terms claimed : Nat → Int32} {ecnt esum efac : Int32} {estr : Int64} {enum : Int32} {ewt ewa : Nat → Int32} {rlen rsum : Int32} {rlead rnum nw nwa nled nmis nmio nas nmem ncom nop : Nat → Int32} {ndep ndig nnum : Nat → Int64} (t0 t1 : Nat) (what : Int32) (v : Int32)  : ww_MZ l D (cw_t cy) t0 t1 yX3_term wsX3_term (ww_rm 0 0) [.ref (ad 0), .int what, .int v] (cw_w ad cy claims phase epoch nxt seed pot terms claimed ecnt esum efac estr enum ewt ewa rlen rsum rlead rnum nw nwa nled nmis nmio nas nmem ncom nop ndep ndig nnum) (cw_w ad cy claims phase epoch nxt seed pot (if f_in what.toInt64 0 3 = 0 then terms else if f_in v.toInt64 (if 2 ≤ what then 1 else 0) (if 2 ≤ what then 20 else 100) = 0 then terms else if phase = 0 then upd terms what.toNatClampNeg v else terms) claimed ecnt esum efac estr enum ewt ewa rlen rsum rlead rnum nw nwa nled nmis nmio nas nmem ncom nop ndep ndig nnum) (if f_in what.toInt64 0 3 = 0 then -1 else if f_in v.toInt64 (if 2 ≤ what then 1 else 0) (if 2 ≤ what then 20 else 100) = 0 then -1 else if phase = 0 then terms what.toNatClampNeg else -3) := by
  refine ww_MZ_mk .int (cc := cX3_term) (maxL := 4) (by decide) rfl (Nat.le_of_ble_eq_true rfl) ?_
  intro p e s m below meth c A ls hx hb hr hts hown hlk hml hA hw hZ hl
  have hown : s.vm.findClass RX3 = some m.cls := hown
  have hl : lv_has ls 4 [(0, .ref (ad 0)), (1, .int what), (2, .int v)] := hl
  have hn3 : ∀ w ∈ wsX30, w ∈ wsX3_term := by decide +kernel
  refine lv_iload_n hx hb dX3_term_0 rfl (lv_at hl 1 rfl) ?_
  refine lv_if_lt (tgt := 27) hx hb dX3_term_1 (by decide) (fun h1 => ?_) (fun h1 => ?_)
  · refine lv_iconst (v := (-1)) hx hb dX3_term_27 (by decide) ?_
    exact ww_ri hx hb hr hlk hw dX3_term_28 (by simp only [if_pos (in_lo 0 (L := 0) (U := 3) rfl h1)]) (cw_c rfl rfl rfl rfl rfl rfl (by simp only [if_pos (in_lo 0 (L := 0) (U := 3) rfl h1)]) rfl rfl rfl rfl rfl rfl rfl rfl rfl rfl rfl rfl rfl rfl rfl rfl rfl rfl rfl rfl rfl rfl rfl rfl)
  · refine lv_iload_n hx hb dX3_term_4 rfl (lv_at hl 1 rfl) ?_
    refine lv_iconst (v := 4) hx hb dX3_term_5 (by decide) ?_
    refine lv_icmp_ge (tgt := 27) hx hb dX3_term_6 (by decide) (fun h2 => ?_) (fun h2 => ?_)
    · refine lv_iconst (v := (-1)) hx hb dX3_term_27 (by decide) ?_
      exact ww_ri hx hb hr hlk hw dX3_term_28 (by simp only [if_pos (in_hi 3 (L := 0) (U := 3) rfl (hi_of h2))]) (cw_c rfl rfl rfl rfl rfl rfl (by simp only [if_pos (in_hi 3 (L := 0) (U := 3) rfl (hi_of h2))]) rfl rfl rfl rfl rfl rfl rfl rfl rfl rfl rfl rfl rfl rfl rfl rfl rfl rfl rfl rfl rfl rfl rfl rfl)
    · obtain ⟨k, hk, rfl⟩ := t4_in h1 h2
      have ek : (nI k).toNatClampNeg = k := nI_clamp (by omega)
      refine lv_iload_n hx hb dX3_term_9 rfl (lv_at hl 2 rfl) ?_
      refine va_gets hx hb hZ.1 hw.2.2.2.1 hown (hts (.fieldLink RX3 58 "LeaderRows" "LEAST_OF_TERM" "[I") (by decide +kernel)) (fun _ h9 => h9) dX3_term_10 ?_
      refine lv_iload_n hx hb dX3_term_13 rfl (lv_at hl 1 rfl) ?_
      refine va_ti (v := .int (f_lst k)) hx hb hZ.2.1 hw.2.2.2.1 (vp_in_nI (by omega) (by decide)) (by rw [nI_clamp (by omega)]) dX3_term_14 ?_
      refine lv_icmp_lt (tgt := 27) hx hb dX3_term_15 (by decide) (fun h3 => ?_) (fun h3 => ?_)
      · refine lv_iconst (v := (-1)) hx hb dX3_term_27 (by decide) ?_
        exact ww_ri hx hb hr hlk hw dX3_term_28 (by simp only [ek, if_neg (in_ok 0 3 (L := 0) (U := 3) rfl rfl h1 (ok_of h2)), if_pos (tb_lo hk h3)]) (cw_c rfl rfl rfl rfl rfl rfl (by simp only [ek, if_neg (in_ok 0 3 (L := 0) (U := 3) rfl rfl h1 (ok_of h2)), if_pos (tb_lo hk h3)]) rfl rfl rfl rfl rfl rfl rfl rfl rfl rfl rfl rfl rfl rfl rfl rfl rfl rfl rfl rfl rfl rfl rfl rfl)
      · refine lv_iload_n hx hb dX3_term_18 rfl (lv_at hl 2 rfl) ?_
        refine va_gets hx hb hZ.2.2.1 hw.2.2.2.1 hown (hts (.fieldLink RX3 61 "LeaderRows" "MOST_OF_TERM" "[I") (by decide +kernel)) (fun _ h9 => h9) dX3_term_19 ?_
        refine lv_iload_n hx hb dX3_term_22 rfl (lv_at hl 1 rfl) ?_
        refine va_ti (v := .int (f_mst k)) hx hb hZ.2.2.2 hw.2.2.2.1 (vp_in_nI (by omega) (by decide)) (by rw [nI_clamp (by omega)]) dX3_term_23 ?_
        refine lv_icmp_le (tgt := 29) hx hb dX3_term_24 (by decide) (fun h4 => ?_) (fun h4 => ?_)
        · refine lv_aload_n hx hb dX3_term_29 rfl (lv_at hl 0 rfl) ?_
          refine cg_X3_phase hx hb hts hn3 hown hw (hts (.fieldLink RX3 41 "LeaderRows" "phase" "I") (by decide +kernel)) dX3_term_30 ?_
          refine lv_if_eq (tgt := 39) hx hb dX3_term_33 (by decide) (fun h5 => ?_) (fun h5 => ?_)
          · refine lv_aload_n hx hb dX3_term_39 rfl (lv_at hl 0 rfl) ?_
            refine cg_X3_terms hx hb hts hn3 hown hw (hts (.fieldLink RX3 16 "LeaderRows" "terms" "[I") (by decide +kernel)) dX3_term_40 ?_
            refine lv_iload_n hx hb dX3_term_43 rfl (lv_at hl 1 rfl) ?_
            refine ca_terms hx hb hw k (by omega) rfl dX3_term_44 ?_
            refine lv_istore_n (lv' := [(3, .int (terms k)), (0, .ref (ad 0)), (1, .int (nI k)), (2, .int v)]) hx hb dX3_term_45 rfl hl (by decide) rfl (fun ls hl => ?_)
            refine lv_aload_n hx hb dX3_term_46 rfl (lv_at hl 1 rfl) ?_
            refine cg_X3_terms hx hb hts hn3 hown hw (hts (.fieldLink RX3 16 "LeaderRows" "terms" "[I") (by decide +kernel)) dX3_term_47 ?_
            refine lv_iload_n hx hb dX3_term_50 rfl (lv_at hl 2 rfl) ?_
            refine lv_iload_n hx hb dX3_term_51 rfl (lv_at hl 3 rfl) ?_
            refine cs_terms hx hb hw k (by omega) rfl dX3_term_52 (fun H locs hw => ?_)
            refine lv_iload_n hx hb dX3_term_53 rfl (lv_at hl 0 rfl) ?_
            exact ww_ri hx hb hr hlk hw dX3_term_54 (by simp only [ek, if_neg (in_ok 0 3 (L := 0) (U := 3) rfl rfl h1 (ok_of h2)), if_neg (tb_ok hk h3 h4), if_pos h5]) (cw_c rfl rfl rfl rfl rfl rfl (by simp only [ek, if_neg (in_ok 0 3 (L := 0) (U := 3) rfl rfl h1 (ok_of h2)), if_neg (tb_ok hk h3 h4), if_pos h5]) rfl rfl rfl rfl rfl rfl rfl rfl rfl rfl rfl rfl rfl rfl rfl rfl rfl rfl rfl rfl rfl rfl rfl rfl)
          · refine lv_bipush (v := (-3)) hx hb dX3_term_36 (by decide) ?_
            exact ww_ri hx hb hr hlk hw dX3_term_38 (by simp only [ek, if_neg (in_ok 0 3 (L := 0) (U := 3) rfl rfl h1 (ok_of h2)), if_neg (tb_ok hk h3 h4), if_neg h5]) (cw_c rfl rfl rfl rfl rfl rfl (by simp only [ek, if_neg (in_ok 0 3 (L := 0) (U := 3) rfl rfl h1 (ok_of h2)), if_neg (tb_ok hk h3 h4), if_neg h5]) rfl rfl rfl rfl rfl rfl rfl rfl rfl rfl rfl rfl rfl rfl rfl rfl rfl rfl rfl rfl rfl rfl rfl rfl)
        · refine lv_iconst (v := (-1)) hx hb dX3_term_27 (by decide) ?_
          exact ww_ri hx hb hr hlk hw dX3_term_28 (by simp only [ek, if_neg (in_ok 0 3 (L := 0) (U := 3) rfl rfl h1 (ok_of h2)), if_pos (tb_hi hk h4)]) (cw_c rfl rfl rfl rfl rfl rfl (by simp only [ek, if_neg (in_ok 0 3 (L := 0) (U := 3) rfl rfl h1 (ok_of h2)), if_pos (tb_hi hk h4)]) rfl rfl rfl rfl rfl rfl rfl rfl rfl rfl rfl rfl rfl rfl rfl rfl rfl rfl rfl rfl rfl rfl rfl rfl)
/-! ===== fines stay inside ===== -/
theorem fin_b {d : Int64} {b : Nat} (hb : b ≤ 100) (h0 : 0 ≤ d) (h1 : d ≤ 1000000000000) : 0 ≤ d - f_fine d (nI b) ∧ d - f_fine d (nI b) ≤ 1000000000000 := by
  have z0 : (0 : Int64).toInt = 0 := rfl
  obtain ⟨n, hn, rfl⟩ := pk_lOf (x := d) (i64_not h0)
  have hn2 : n ≤ 1000000000000 := (pk_lLE (b := 1000000000000) hn (by decide)).mp h1
  have hp : n * b ≤ 1000000000000 * 100 := Nat.mul_le_mul hn2 hb
  have e1 : f_fine (lN n) (nI b) = lN (n * b / 100) := by
    unfold f_fine
    rw [nI_l (by omega), lN_mul]
    exact pk_lDiv (b := 100) (by omega) (by decide) (by decide)
  have hle : n * b / 100 ≤ n := by
    have : n * b ≤ n * 100 := Nat.mul_le_mul_left n hb
    omega
  rw [e1, lN_sub hle]
  exact ⟨(pk_lLE (a := 0) (by decide) (by omega)).mpr (by omega), (pk_lLE (b := 1000000000000) (by omega) (by decide)).mpr (by omega)⟩
theorem isL_ix {t : Int32} (h : ¬ f_isL t = 0) : ∃ k : Nat, 1 ≤ k ∧ k ≤ 60 ∧ t = nI k := by
  rw [← isL_in] at h
  obtain ⟨h1, h2⟩ := in32 1 60 rfl rfl h
  have h0 : ¬ t < 0 := i32_not (by
    rw [Int32.le_iff_toInt_le] at h1 ⊢
    have a : (0 : Int32).toInt = 0 := rfl
    have b : (1 : Int32).toInt = 1 := rfl
    omega)
  obtain ⟨j, q1, q2⟩ := nI_of2 (x := t) (M := 60) (n := 60) rfl h0 h2
  refine ⟨j, ?_, q1, q2⟩
  rw [q2] at h1
  exact (nI_leI (a := 1) (by decide) (by omega)).mp h1
theorem fmax_e {e a : Nat} (he : e ≤ 512) (ha : a ≤ 20) : f_max 0 (nI e + nI a) = nI e + nI a := by
  rw [nI_add]
  unfold f_max
  rcases Nat.eq_zero_or_pos (e + a) with h | h
  · rw [h]; decide
  · rw [if_pos (show 0 < nI (e + a) from nI_lt (a := 0) h (by omega))]
set_option maxHeartbeats 4000000 in
set_option maxRecDepth 100000 in
theorem ar_term (l : Launch) (D : va_G) {adc : Nat → Nat} {cyc : Nat → ClassId} {adm : Nat → Nat} {cym : Nat → ClassId} {q : Nat} {wC wM : va_W} (t0 t1 : Nat) (hq : q < 512) (hS : lr_S adc cyc adm cym q wC wM) (what v : Int32) : ∃ (r : Int32) (wC' wM' : va_W), ww_MZ l D (cw_t cyc) t0 t1 yX3_term wsX3_term (ww_rm 0 0) (.ref (adc 0) :: [.int what, .int v]) wC wC' r ∧ ww_MI l D (mw_t cym) yX4_term wsX4_term (ww_rm 1 25) (.ref (adm 0) :: [.int what, .int v]) wM wM' r ∧ lr_S adc cyc adm cym (q + 1) wC' wM' := by
  obtain ⟨qc, T, phase, epoch, nxt, nextTurn, rsum, ecnt, esum, efac, enum, sum, seed, pot, estr, rowSeed, stream, terms, claimed, ewt, ewa, rlead, rnum, nw, nwa, nled, nmis, nmio, nas, nmem, ncom, nop, isMem, hasCom, hasOp, elects, waits, rowLeads, rowDraws, ndep, ndig, nnum, rfl, rfl, hI⟩ := hS
  refine ⟨_, _, _, k_X3_term l t0 t1 what v, k_X4_term l what v, _, _, _, _, _, _, _, _, _, _, _, _, _, _, _, _, _, _, _, _, _, _, _, _, _, _, _, _, _, _, _, _, _, _, _, _, _, _, _, _, _, _, rfl, rfl, ?_⟩
  by_cases h1 : f_in what.toInt64 0 3 = 0
  · simp only [if_pos h1]; exact lr_mono hI
  · by_cases h2 : f_in v.toInt64 (if 2 ≤ what then 1 else 0) (if 2 ≤ what then 20 else 100) = 0
    · simp only [if_neg h1, if_pos h2]; exact lr_mono hI
    · by_cases h3 : phase = 0
      · simp only [if_neg h1, if_neg h2, if_pos h3]
        obtain ⟨i1, i2, i3, i4, i5, i6, i7, i8, i9, i10, i11, i12, i13⟩ := lr_mono hI
        refine ⟨i1, i2, i3, i4, i5, i6, i7, i8, i9, i10, i11, i12, ?_, ?_⟩
        · obtain ⟨k, hk, rfl⟩ := in_idx 3 (by decide) rfl h1
          have ek : (nI k).toNatClampNeg = k := nI_clamp (by omega)
          rw [ek]
          by_cases h4 : 2 = k
          · subst h4
            rw [upd_s]
            rw [if_pos (by decide), if_pos (by decide)] at h2
            obtain ⟨a1, a2⟩ := in32 1 20 rfl rfl h2
            obtain ⟨j, q1, q2⟩ := nI_of2 (x := v) (M := 20) (n := 20) rfl (i32_not (by
              rw [Int32.le_iff_toInt_le] at a1 ⊢
              have a : (0 : Int32).toInt = 0 := rfl
              have b : (1 : Int32).toInt = 1 := rfl
              omega)) a2
            exact ⟨j, q1, q2⟩
          · rw [upd_o h4]; exact i13.1
        · obtain ⟨k, hk, rfl⟩ := in_idx 3 (by decide) rfl h1
          have ek : (nI k).toNatClampNeg = k := nI_clamp (by omega)
          rw [ek]
          by_cases h4 : 1 = k
          · subst h4
            rw [upd_s]
            rw [if_neg (by decide), if_neg (by decide)] at h2
            obtain ⟨a1, a2⟩ := in32 0 100 rfl rfl h2
            obtain ⟨j, q1, q2⟩ := nI_of2 (x := v) (M := 100) (n := 100) rfl (i32_not a1) a2
            exact ⟨j, q1, q2⟩
          · rw [upd_o h4]; exact i13.2
      · simp only [if_neg h1, if_neg h2, if_neg h3]; exact lr_mono hI
set_option maxHeartbeats 4000000 in
set_option maxRecDepth 100000 in
theorem ar_draw (l : Launch) (D : va_G) {adc : Nat → Nat} {cyc : Nat → ClassId} {adm : Nat → Nat} {cym : Nat → ClassId} {q : Nat} {wC wM : va_W} (hq : q < 512) (hS : lr_S adc cyc adm cym q wC wM) (t : Int32) : lr_A l D adc cyc adm cym q yX3_draw wsX3_draw (ww_rm 3 69) yX4_draw wsX4_draw (ww_rm 3 75) [.int t] wC wM := by
  obtain ⟨qc, T, phase, epoch, nxt, nextTurn, rsum, ecnt, esum, efac, enum, sum, seed, pot, estr, rowSeed, stream, terms, claimed, ewt, ewa, rlead, rnum, nw, nwa, nled, nmis, nmio, nas, nmem, ncom, nop, isMem, hasCom, hasOp, elects, waits, rowLeads, rowDraws, ndep, ndig, nnum, rfl, rfl, hI⟩ := hS
  by_cases hr : f_dref t phase = 0
  · have hL0 : ¬ f_isL t = 0 := fun h => by unfold f_dref at hr; rw [if_pos h] at hr; exact absurd hr (by decide)
    have hp2 : phase = 2 := by
      unfold f_dref at hr
      rw [if_neg hL0] at hr
      by_cases h : phase = 2
      · exact h
      · rw [if_neg h] at hr; exact absurd hr (by decide)
    obtain ⟨t, ht, ht6, rfl⟩ := isL_ix hL0
    subst hp2
    obtain ⟨e1, e2, e3⟩ := hI.2.2.2.2.1 (by decide)
    subst e1; subst e2; subst e3
    obtain ⟨i1, i2, i3, i4, i5, i6, i7, i8, i9, i10, i11, i12, i13⟩ := lr_mono hI
    have hE : ∀ j, j < 12 → (g_e (-2) nmem ncom nop) j = (e_m (-1) 0 nmem ncom nop) j := fun j hj => el_d hj
    have hwt : ∀ j : Nat, j < 12 → ¬ (e_m (-1) 0 nmem ncom nop) j = 0 → 0 < nw j ∧ nw j ≤ 1000 := fun j hj h => by
      refine ⟨i9 (by decide) j hj (fun h2 => h ?_), (i8 j hj).1.2⟩
      unfold e_m
      rw [if_pos h2]
    have hsum : g_sum (g_w (g_e (-2) nmem ncom nop) nw) 12 = g_sum (g_w (e_m (-1) 0 nmem ncom nop) nw) 12 := cg_sum (gw_c hE) 12 (by omega)
    have hcnt : f_cn (g_e (-2) nmem ncom nop) 12 = f_cn (e_m (-1) 0 nmem ncom nop) 12 := cg_cn hE 12 (by omega)
    have hseed := sd_d (dig := ndig) (num := nnum) (fun j hj h => (i11 (by decide) j hj h).2) (g_s0 seed epoch)
    have hi12 := i12
    obtain ⟨e, he, hee⟩ := hi12
    obtain ⟨⟨a, ha, haa⟩, ⟨b, hb, hbb⟩⟩ := i13
    have hfm : ∀ j : Nat, j < 12 → ¬ f_wh (ncom j) (nop j) = 0 → f_max (nas j) (epoch + terms 2) = epoch + terms 2 := fun j hj h => by
      have hc : ¬ ncom j = 0 := fun h2 => h ((wh_iff _ _).mpr (Or.inl h2))
      have h10 := i10 (Or.inr rfl) j hj
      rw [h10.2 (h10.1 hc), hee, haa]
      exact fmax_e (by omega) ha
    have hdep : ∀ j : Nat, j < 12 → 0 ≤ mx 12 (g_fin ncom nop ndep (terms 1)) ndep j ∧ mx 12 (g_fin ncom nop ndep (terms 1)) ndep j ≤ 1000000000000 := fun j hj => by
      rw [mx_lo _ _ hj]
      unfold g_fin
      split
      · exact (i8 j hj).2
      · rw [hbb]; exact fin_b hb (i8 j hj).2.1 (i8 j hj).2.2
    have hnx : nxt = 0 := by rw [i3, if_neg (by decide)]
    by_cases hc : f_cn (e_m (-1) 0 nmem ncom nop) 12 = 0
    · have kc := k_X3_draw0 l t ht ht6 (hcnt.trans hc) (D := D) (ad := adc) (cy := cyc) (claims := (nI qc)) (epoch := epoch) (nxt := nxt) (seed := seed) (pot := pot) (terms := terms) (claimed := claimed) (ecnt := ecnt) (esum := esum) (efac := efac) (estr := estr) (enum := enum) (ewt := ewt) (ewa := ewa) (rlen := (nI T)) (rsum := rsum) (rlead := rlead) (rnum := rnum) (nw := nw) (nwa := nwa) (nled := nled) (nmis := nmis) (nmio := nmio) (nas := nas) (nmem := nmem) (ncom := ncom) (nop := nop) (ndep := ndep) (ndig := ndig) (nnum := nnum)
      have km := k_X4_draw0 l t ht ht6 hc hfm (D := D) (ad := adm) (cy := cym) (epoch := epoch) (turns := (nI T)) (nextTurn := nextTurn) (all := rsum) (claims := (nI qc)) (sum := sum) (seed := seed) (pot := pot) (rowSeed := rowSeed) (stream := stream) (terms := terms) (weight := nw) (wait := nwa) (led := nled) (missed := nmis) (running := nmio) (aside := nas) (isMem := nmem) (hasCom := ncom) (hasOp := nop) (leads := rlead) (draws := rnum) (claim := claimed) (elects := elects) (waits := waits) (rowLeads := rowLeads) (rowDraws := rowDraws) (deposit := ndep) (committed := ndig) (opened := nnum)
      rw [hseed, hsum] at kc
      rw [show ∀ (w : Nat → Int32) (f z : Int32) (g : Int64), mx 12 (g_S w f z g (mx 12 nwa waits) 0).2 nwa = nwa from fun w f z g => mx_s (fun j hj => mx_lo _ _ hj)] at km
      simp only [mx_0] at km
      refine ⟨_, _, _, kc, km, _, 0, _, _, _, _, _, _, _, _, _, _, _, _, _, _, _, _, _, _, _, _, _, _, _, _, _, _, _, _, _, _, _, _, _, _, _, _, _, _, _, _, rfl, rfl, ?_⟩
      refine ⟨⟨i1.1, by omega⟩, Or.inl rfl, (if_neg (by decide)).symm, fun h => absurd h (by decide), fun h => absurd rfl h, fun _ j hj => ?_, fun j hj => ?_, fun j hj => ⟨(i8 j hj).1, hdep j hj⟩, fun h => absurd rfl h, fun h => h.elim (fun q => absurd q (by decide)) (fun q => absurd q (by decide)), fun h => absurd rfl h, i12, ⟨a, ha, haa⟩, ⟨b, hb, hbb⟩⟩
      · rw [mx_lo _ _ hj, mx_lo _ _ hj, mx_lo _ _ hj]; exact ⟨rfl, rfl, rfl⟩
      · rw [mx_hi _ _ hj, mx_hi _ _ hj, mx_hi _ _ hj]; exact ⟨rfl, rfl, rfl⟩
    · have hF := fit_of elects hwt hc
      have hok : ∀ z : Int64, g_ok (g_t (g_sum (g_w (g_e (-2) nmem ncom nop) nw) 12)) z (g_n (g_t (g_sum (g_w (g_e (-2) nmem ncom nop) nw) 12)) z) := fun z => by rw [hsum]; exact fit_ok hF z
      have kc := k_X3_draw1 l t ht ht6 (fun h => hc (hcnt.symm.trans h)) hok (D := D) (ad := adc) (cy := cyc) (claims := (nI qc)) (epoch := epoch) (nxt := nxt) (seed := seed) (pot := pot) (terms := terms) (claimed := claimed) (ecnt := ecnt) (esum := esum) (efac := efac) (estr := estr) (enum := enum) (ewt := ewt) (ewa := ewa) (rlen := (nI T)) (rsum := rsum) (rlead := rlead) (rnum := rnum) (nw := nw) (nwa := nwa) (nled := nled) (nmis := nmis) (nmio := nmio) (nas := nas) (nmem := nmem) (ncom := ncom) (nop := nop) (ndep := ndep) (ndig := ndig) (nnum := nnum)
      have km := k_X4_draw1 l t ht ht6 hc hF hfm (D := D) (ad := adm) (cy := cym) (epoch := epoch) (turns := (nI T)) (nextTurn := nextTurn) (all := rsum) (claims := (nI qc)) (sum := sum) (seed := seed) (pot := pot) (rowSeed := rowSeed) (stream := stream) (terms := terms) (weight := nw) (wait := nwa) (led := nled) (missed := nmis) (running := nmio) (aside := nas) (isMem := nmem) (hasCom := ncom) (hasOp := nop) (leads := rlead) (draws := rnum) (claim := claimed) (elects := elects) (waits := waits) (rowLeads := rowLeads) (rowDraws := rowDraws) (deposit := ndep) (committed := ndig) (opened := nnum)
      have hw1 := gw_mx (nw := nw) elects ewt hE
      have hw2 : ∀ j, j < 12 → mx 12 nwa ewa j = mx 12 nwa waits j := fun j hj => by rw [mx_lo _ _ hj, mx_lo _ _ hj]
      rw [hseed, hsum, hcnt, cg_L hw1 hw2, cg_N hw1 hw2, mx_c (n := 12) (cg_S hw1 hw2 (terms 0) _ _ t).2 (fun j _ => (rfl : nwa j = nwa j))] at kc
      refine ⟨_, _, _, kc, km, _, t, _, _, _, _, _, _, _, _, _, _, _, _, _, _, _, _, _, _, _, _, _, _, _, _, _, _, _, _, _, _, _, _, _, _, _, _, _, _, _, _, rfl, rfl, ?_⟩
      refine ⟨⟨i1.1, ht6⟩, Or.inr (Or.inr (Or.inr rfl)), by rw [hnx, if_pos rfl], fun _ => ⟨⟨0, by omega, rfl⟩, fun k hk => ?_⟩, fun _ => ⟨rfl, rfl, rfl⟩, fun h => absurd h (by decide), fun j hj => ⟨rfl, rfl, rfl⟩, fun j hj => ⟨(i8 j hj).1, hdep j hj⟩, fun _ => i9 (by decide), fun h => h.elim (fun q => absurd q (by decide)) (fun q => absurd q (by decide)), fun _ => i11 (by decide), i12, ⟨a, ha, haa⟩, ⟨b, hb, hbb⟩⟩
      rw [mx_lo _ _ hk]
      obtain ⟨f, f1, f2, _⟩ := who_el (waits := (g_S (g_w (mx 12 (e_m (-1) 0 nmem ncom nop) elects) nw) (terms 0) (g_sum (g_w (e_m (-1) 0 nmem ncom nop) nw) 12) (g_sd (h_m (-1) 0 nop) (d_m (-1) 0 nnum) (v_m (-1) 0 nnum) (g_s0 seed epoch) 12) (mx 12 nwa waits) k).2) (fac := terms 0) hF (g_S (g_w (mx 12 (e_m (-1) 0 nmem ncom nop) elects) nw) (terms 0) (g_sum (g_w (e_m (-1) 0 nmem ncom nop) nw) 12) (g_sd (h_m (-1) 0 nop) (d_m (-1) 0 nnum) (v_m (-1) 0 nnum) (g_s0 seed epoch) 12) (mx 12 nwa waits) k).1 (g_n (g_t (g_sum (g_w (e_m (-1) 0 nmem ncom nop) nw) 12)) (g_S (g_w (mx 12 (e_m (-1) 0 nmem ncom nop) elects) nw) (terms 0) (g_sum (g_w (e_m (-1) 0 nmem ncom nop) nw) 12) (g_sd (h_m (-1) 0 nop) (d_m (-1) 0 nnum) (v_m (-1) 0 nnum) (g_s0 seed epoch) 12) (mx 12 nwa waits) k).1)
      exact ⟨f, f1, f2⟩
  · exact ⟨_, _, _, k_X3_drawR l t hr, k_X4_drawR l t hr, _, _, _, _, _, _, _, _, _, _, _, _, _, _, _, _, _, _, _, _, _, _, _, _, _, _, _, _, _, _, _, _, _, _, _, _, _, _, _, _, _, _, rfl, rfl, lr_mono hI⟩
set_option maxHeartbeats 4000000 in
set_option maxRecDepth 100000 in
theorem ar_would (l : Launch) (D : va_G) {adc : Nat → Nat} {cyc : Nat → ClassId} {adm : Nat → Nat} {cym : Nat → ClassId} {q : Nat} {wC wM : va_W} (hq : q < 512) (hS : lr_S adc cyc adm cym q wC wM) (node : Int32) (number : Int64) (opens : Int32) (t : Int32) : lr_A l D adc cyc adm cym q yX3_would wsX3_would (ww_rm 3 69) yX4_would wsX4_would (ww_rm 3 75) [.int node, .long number, .int opens, .int t] wC wM := by
  obtain ⟨qc, T, phase, epoch, nxt, nextTurn, rsum, ecnt, esum, efac, enum, sum, seed, pot, estr, rowSeed, stream, terms, claimed, ewt, ewa, rlead, rnum, nw, nwa, nled, nmis, nmio, nas, nmem, ncom, nop, isMem, hasCom, hasOp, elects, waits, rowLeads, rowDraws, ndep, ndig, nnum, rfl, rfl, hI⟩ := hS
  by_cases h0 : phase = 0
  · have n2 : ¬ phase = 2 := by rw [h0]; decide
    have hx : ∀ com op : Int32, f_ref node t phase com op opens (ndig node.toNatClampNeg) number = if f_isN node = 0 then -1 else if f_isL t = 0 then -1 else -3 := fun com op => by
      unfold f_ref
      rw [if_neg n2]
    have hne : ¬ (if f_isN node = 0 then -1 else if f_isL t = 0 then -1 else -3 : Int32) = 0 := by
      split
      · decide
      · split <;> decide
    have kc := k_X3_wouldR l node number opens t (by rw [hx]; exact hne) (D := D) (ad := adc) (cy := cyc) (claims := (nI qc)) (phase := phase) (epoch := epoch) (nxt := nxt) (seed := seed) (pot := pot) (terms := terms) (claimed := claimed) (ecnt := ecnt) (esum := esum) (efac := efac) (estr := estr) (enum := enum) (ewt := ewt) (ewa := ewa) (rlen := (nI T)) (rsum := rsum) (rlead := rlead) (rnum := rnum) (nw := nw) (nwa := nwa) (nled := nled) (nmis := nmis) (nmio := nmio) (nas := nas) (nmem := nmem) (ncom := ncom) (nop := nop) (ndep := ndep) (ndig := ndig) (nnum := nnum)
    have km := k_X4_wouldR l node number opens t (by rw [hx]; exact hne) (D := D) (ad := adm) (cy := cym) (phase := phase) (epoch := epoch) (turns := (nI T)) (nextTurn := nextTurn) (all := rsum) (claims := (nI qc)) (sum := sum) (seed := seed) (pot := pot) (rowSeed := rowSeed) (stream := stream) (terms := terms) (weight := nw) (wait := nwa) (led := nled) (missed := nmis) (running := nmio) (aside := nas) (isMem := isMem) (hasCom := hasCom) (hasOp := hasOp) (leads := rlead) (draws := rnum) (claim := claimed) (elects := elects) (waits := waits) (rowLeads := rowLeads) (rowDraws := rowDraws) (deposit := ndep) (committed := ndig) (opened := nnum)
    rw [hx] at kc km
    exact ⟨_, _, _, kc, km, _, _, _, _, _, _, _, _, _, _, _, _, _, _, _, _, _, _, _, _, _, _, _, _, _, _, _, _, _, _, _, _, _, _, _, _, _, _, _, _, _, _, rfl, rfl, lr_mono hI⟩
  · obtain ⟨e1, e2, e3⟩ := hI.2.2.2.2.1 h0
    subst e1; subst e2; subst e3
    by_cases hr : f_ref node t phase (ncom node.toNatClampNeg) (nop node.toNatClampNeg) opens (ndig node.toNatClampNeg) number = 0
    · unfold f_ref at hr
      have q1 : ¬ f_isN node = 0 := fun h => by rw [if_pos h] at hr; exact absurd hr (by decide)
      rw [if_neg q1] at hr
      have q2 : ¬ f_isL t = 0 := fun h => by rw [if_pos h] at hr; exact absurd hr (by decide)
      rw [if_neg q2] at hr
      have q3 : phase = 2 := Classical.byContradiction fun h => by rw [if_neg h] at hr; exact absurd hr (by decide)
      rw [if_pos q3] at hr
      have q4 : ¬ f_wh (ncom node.toNatClampNeg) (nop node.toNatClampNeg) = 0 := fun h => by rw [if_pos h] at hr; exact absurd hr (by decide)
      rw [if_neg q4] at hr
      have q5 : ¬ opens = 0 → ndig node.toNatClampNeg = f_dig node number := fun h => by
        rw [if_neg h] at hr
        exact Classical.byContradiction fun h2 => by rw [if_neg h2] at hr; exact absurd hr (by decide)
      obtain ⟨t, ht, ht6, rfl⟩ := isL_ix q2
      obtain ⟨j, hj, rfl⟩ := f_isN_in q1
      have ek : (nI j).toNatClampNeg = j := nI_clamp (by omega)
      rw [ek] at q4 q5
      subst q3
      obtain ⟨i1, i2, i3, i4, i5, i6, i7, i8, i9, i10, i11, i12, i13⟩ := lr_mono hI
      have hcm : ¬ ncom j = 0 := fun h => q4 ((wh_iff _ _).mpr (Or.inl h))
      have hop : nop j = 0 := Classical.byContradiction fun h => q4 ((wh_iff _ _).mpr (Or.inr h))
      have hE : ∀ i, i < 12 → (g_e (if opens = 0 then -2 else nI j) nmem ncom nop) i = (e_m (nI j) opens nmem ncom nop) i := fun i hi => el_w hj hi hcm hop
      have hwt : ∀ i : Nat, i < 12 → ¬ (e_m (nI j) opens nmem ncom nop) i = 0 → 0 < nw i ∧ nw i ≤ 1000 := fun i hi h => by
        refine ⟨i9 (by decide) i hi (fun h2 => h ?_), (i8 i hi).1.2⟩
        unfold e_m
        rw [if_pos h2]
      have hsum : g_sum (g_w (g_e (if opens = 0 then -2 else nI j) nmem ncom nop) nw) 12 = g_sum (g_w (e_m (nI j) opens nmem ncom nop) nw) 12 := cg_sum (gw_c hE) 12 (by omega)
      have hseed := sd_w (dig := ndig) (num := nnum) (number := number) (opens := opens) hj hop (fun i hi h => (i11 (by decide) i hi h).2) q5 (g_s0 seed epoch)
      by_cases hc : f_cn (e_m (nI j) opens nmem ncom nop) 12 ≤ 0
      · have hz := cn_0 (cn_le hc)
        have hw0 : ∀ i, i < 12 → g_w (g_e (if opens = 0 then -2 else nI j) nmem ncom nop) nw i = 0 := fun i hi => gw_0 (by rw [hE i hi]; exact hz i hi)
        have hs0 : g_sum (g_w (g_e (if opens = 0 then -2 else nI j) nmem ncom nop) nw) 12 = 0 := w0_sum hw0
        have kc := k_X3_would l j t number opens hj ht ht6 q4 q5 (fun z => by rw [hs0]; exact ok_0 z) (D := D) (ad := adc) (cy := cyc) (claims := (nI qc)) (epoch := epoch) (nxt := nxt) (seed := seed) (pot := pot) (terms := terms) (claimed := claimed) (ecnt := ecnt) (esum := esum) (efac := efac) (estr := estr) (enum := enum) (ewt := ewt) (ewa := ewa) (rlen := (nI T)) (rsum := rsum) (rlead := rlead) (rnum := rnum) (nw := nw) (nwa := nwa) (nled := nled) (nmis := nmis) (nmio := nmio) (nas := nas) (nmem := nmem) (ncom := ncom) (nop := nop) (ndep := ndep) (ndig := ndig) (nnum := nnum)
        have km := k_X4_would0 l j t number opens hj ht ht6 hcm hop q5 hc (D := D) (ad := adm) (cy := cym) (epoch := epoch) (turns := (nI T)) (nextTurn := nextTurn) (all := rsum) (claims := (nI qc)) (sum := sum) (seed := seed) (pot := pot) (rowSeed := rowSeed) (stream := stream) (terms := terms) (weight := nw) (wait := nwa) (led := nled) (missed := nmis) (running := nmio) (aside := nas) (isMem := nmem) (hasCom := ncom) (hasOp := nop) (leads := rlead) (draws := rnum) (claim := claimed) (elects := elects) (waits := waits) (rowLeads := rowLeads) (rowDraws := rowDraws) (deposit := ndep) (committed := ndig) (opened := nnum)
        rw [hs0, w0_cl (fun i hi => by rw [mx_lo _ _ hi]; exact hw0 i hi) _ _ _ hj] at kc
        exact ⟨_, _, _, kc, km, _, _, _, _, _, _, _, _, _, _, _, _, _, _, _, _, _, _, _, _, _, _, _, _, _, _, _, _, _, _, _, _, _, _, _, _, _, _, _, _, _, _, rfl, rfl, lr_mono hI⟩
      · have hF := fit_of elects hwt (fun h => hc (by rw [h]; decide))
        have kc := k_X3_would l j t number opens hj ht ht6 q4 q5 (fun z => by rw [hsum]; exact fit_ok hF z) (D := D) (ad := adc) (cy := cyc) (claims := (nI qc)) (epoch := epoch) (nxt := nxt) (seed := seed) (pot := pot) (terms := terms) (claimed := claimed) (ecnt := ecnt) (esum := esum) (efac := efac) (estr := estr) (enum := enum) (ewt := ewt) (ewa := ewa) (rlen := (nI T)) (rsum := rsum) (rlead := rlead) (rnum := rnum) (nw := nw) (nwa := nwa) (nled := nled) (nmis := nmis) (nmio := nmio) (nas := nas) (nmem := nmem) (ncom := ncom) (nop := nop) (ndep := ndep) (ndig := ndig) (nnum := nnum)
        have km := k_X4_would1 l j t number opens hj ht ht6 hcm hop q5 hc hF (D := D) (ad := adm) (cy := cym) (epoch := epoch) (turns := (nI T)) (nextTurn := nextTurn) (all := rsum) (claims := (nI qc)) (sum := sum) (seed := seed) (pot := pot) (rowSeed := rowSeed) (stream := stream) (terms := terms) (weight := nw) (wait := nwa) (led := nled) (missed := nmis) (running := nmio) (aside := nas) (isMem := nmem) (hasCom := ncom) (hasOp := nop) (leads := rlead) (draws := rnum) (claim := claimed) (elects := elects) (waits := waits) (rowLeads := rowLeads) (rowDraws := rowDraws) (deposit := ndep) (committed := ndig) (opened := nnum)
        have hw1 := gw_mx (nw := nw) elects ewt hE
        have hw2 : ∀ i, i < 12 → mx 12 nwa ewa i = mx 12 nwa waits i := fun i hi => by rw [mx_lo _ _ hi, mx_lo _ _ hi]
        rw [hseed, hsum, cg_L hw1 hw2] at kc
        exact ⟨_, _, _, kc, km, _, _, _, _, _, _, _, _, _, _, _, _, _, _, _, _, _, _, _, _, _, _, _, _, _, _, _, _, _, _, _, _, _, _, _, _, _, _, _, _, _, _, rfl, rfl, lr_mono hI⟩
    · exact ⟨_, _, _, k_X3_wouldR l node number opens t hr, k_X4_wouldR l node number opens t hr, _, _, _, _, _, _, _, _, _, _, _, _, _, _, _, _, _, _, _, _, _, _, _, _, _, _, _, _, _, _, _, _, _, _, _, _, _, _, _, _, _, _, rfl, rfl, lr_mono hI⟩
