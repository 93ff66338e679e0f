set_option maxHeartbeats 4000000 in
set_option maxRecDepth 100000 in
theorem k_X3_firstUnlike (l : Launch) {D : va_G} {ad : Nat → Nat} {cy : Nat → ClassId} {phase epoch nxt : Int32} {seed pot : Int64} {terms claimed : Nat → Int32} {ecnt esum efac : Int32} {estr : Int64} {enum : Int32} {ewt ewa : Nat → Int32} {rsum : Int32} {rlead rnum nw nwa nled nmis nmio nas nmem ncom nop : Nat → Int32} {ndep ndig nnum : Nat → Int64} (q T : Nat)  (hq : q ≤ 60) (hT : T ≤ 60)  : ww_MI l D (cw_t cy) yX3_firstUnlike wsX3_firstUnlike (ww_rm 1 24) [.ref (ad 0)] (cw_w ad cy (nI q) phase epoch nxt seed pot terms claimed ecnt esum efac estr enum ewt ewa (nI T) rsum rlead rnum nw nwa nled nmis nmio nas nmem ncom nop ndep ndig nnum) (cw_w ad cy (nI q) phase epoch nxt seed pot terms claimed ecnt esum efac estr enum ewt ewa (nI T) rsum rlead rnum nw nwa nled nmis nmio nas nmem ncom nop ndep ndig nnum) (g_fu claimed rlead (if nI q = nI T then -2 else nI (min q T)) (min q T) 0) := by
  refine ww_MI_mk .int (cc := cX3_firstUnlike) (maxL := 3) (by decide) rfl (Nat.le_of_ble_eq_true rfl) ?_
  intro p e s m below meth c A ls hx hb hr hts hown hlk hml hA hw hl
  have hown : s.vm.findClass RX3 = some m.cls := hown
  have hl : lv_has ls 3 [(0, .ref (ad 0))] := hl
  have hn2 : ∀ w ∈ wsX20, w ∈ wsX3_firstUnlike := by decide +kernel
  have hn3 : ∀ w ∈ wsX30, w ∈ wsX3_firstUnlike := by decide +kernel
  refine lv_aload_n hx hb dX3_firstUnlike_0 rfl (lv_at hl 0 rfl) ?_
  refine cg_X3_claims hx hb hts hn3 hown hw (hts (.fieldLink RX3 162 "LeaderRows" "claims" "I") (by decide +kernel)) dX3_firstUnlike_1 ?_
  refine lv_aload_n hx hb dX3_firstUnlike_4 rfl (lv_at hl 0 rfl) ?_
  refine cg_X3_row hx hb hts hn3 hown hw (hts (.fieldLink RX3 30 "LeaderRows" "row" "LLeaderRows$Row;") (by decide +kernel)) dX3_firstUnlike_5 ?_
  refine cg_X2_length hx hb hts hn2 hown hw (hts (.fieldLink RX3 156 "LeaderRows$Row" "length" "I") (by decide +kernel)) dX3_firstUnlike_8 ?_
  refine va_mmin hx hb (by rw [hml]; exact hl.1.symm) hown (hts (.methodLink RX3 201 yJ9_min_7cf53) (by decide +kernel)) (hts (.static yJ9_min_7cf53) (by decide +kernel)) (hts (.initialized RJ9) (by decide +kernel)) (hts (.code yJ9_min_7cf53 cJ9_min_7cf53 2 (some .int)) (by decide +kernel)) (Nat.le_of_ble_eq_true rfl) (Nat.le_of_ble_eq_true rfl) (Nat.zero_le _) (Nat.zero_le _) dX3_firstUnlike_11 ?_
  rw [show (if nI T < nI q then nI T else nI q) = nI (min q T) from nI_min (by omega) (by omega)]
  generalize hB : min q T = B
  have hB6 : B ≤ 60 := by omega
  refine lv_istore_n (lv' := [(1, .int (nI B)), (0, .ref (ad 0))]) hx hb dX3_firstUnlike_14 rfl hl (by decide) rfl (fun ls hl => ?_)
  refine lv_iconst (v := 0) hx hb dX3_firstUnlike_15 (by decide) ?_
  refine lv_istore_n (lv' := [(2, .int 0), (1, .int (nI B)), (0, .ref (ad 0))]) hx hb dX3_firstUnlike_16 rfl hl (by decide) rfl (fun ls hl => ?_)
  have L17 : ∀ (L17n k : Nat), k + L17n = B → (g_fu claimed rlead (if nI q = nI T then -2 else nI B) B 0 = g_fu claimed rlead (if nI q = nI T then -2 else nI B) L17n k) → ∀ (H : Heap) (locs : List Loc) (ls : Array Slot), ww_W D (cw_t cy) A s (cw_w ad cy (nI q) phase epoch nxt seed pot terms claimed ecnt esum efac estr enum ewt ewa (nI T) rsum rlead rnum nw nwa nled nmis nmio nas nmem ncom nop ndep ndig nnum) H locs → lv_has ls 3 [(0, .ref (ad 0)), (1, .int (nI B)), (2, .int (nI k))] → W p l e (ww_rm 1 24) s m ([.ref (ad 0)] : List Value).toArray below meth c H locs 0 0 (MQ below (ww_Qi D (cw_t cy) A (cw_w ad cy (nI q) phase epoch nxt seed pot terms claimed ecnt esum efac estr enum ewt ewa (nI T) rsum rlead rnum nw nwa nled nmis nmio nas nmem ncom nop ndep ndig nnum) (g_fu claimed rlead (if nI q = nI T then -2 else nI (B)) (B) 0)) ([.ref (ad 0)] : List Value).toArray s 0 0 A) (F0 m 17 ls []) := by
    intro L17n
    induction L17n with
    | zero =>
      intro k hkk hans H locs ls hw hl
      obtain rfl : B = k := by omega
      refine lv_iload_n hx hb dX3_firstUnlike_17 rfl (lv_at hl 2 rfl) ?_
      refine lv_iload_n hx hb dX3_firstUnlike_18 rfl (lv_at hl 1 rfl) ?_
      refine lv_icmp_ge (tgt := 48) hx hb dX3_firstUnlike_19 (by decide) (fun _ => ?_) (fun h1 => absurd (nI_le (Nat.le_refl _) (by omega)) h1)
      refine lv_aload_n hx hb dX3_firstUnlike_48 rfl (lv_at hl 0 rfl) ?_
      refine cg_X3_claims hx hb hts hn3 hown hw (hts (.fieldLink RX3 162 "LeaderRows" "claims" "I") (by decide +kernel)) dX3_firstUnlike_49 ?_
      refine lv_aload_n hx hb dX3_firstUnlike_52 rfl (lv_at hl 0 rfl) ?_
      refine cg_X3_row hx hb hts hn3 hown hw (hts (.fieldLink RX3 30 "LeaderRows" "row" "LLeaderRows$Row;") (by decide +kernel)) dX3_firstUnlike_53 ?_
      refine cg_X2_length hx hb hts hn2 hown hw (hts (.fieldLink RX3 156 "LeaderRows$Row" "length" "I") (by decide +kernel)) dX3_firstUnlike_56 ?_
      refine ww_joinI (rest := []) 68 (if (nI q) = (nI T) then (-2) else (nI B)) (fun K2 => ?_) ?_
      · refine lv_icmp_ne (tgt := 67) hx hb dX3_firstUnlike_59 (by decide) (fun h3 => ?_) (fun h3 => ?_)
        · refine lv_iload_n hx hb dX3_firstUnlike_67 rfl (lv_at hl 1 rfl) ?_
          exact ww_top (by rw [if_neg h3]) K2
        · refine lv_bipush (v := (-2)) hx hb dX3_firstUnlike_62 (by decide) ?_
          refine lv_goto (tgt := 68) hx hb dX3_firstUnlike_64 (by decide) ?_
          exact ww_top (by rw [if_pos h3]) K2
      exact ww_ri hx hb hr hlk hw dX3_firstUnlike_68 (by rw [hans]; rfl) rfl
    | succ L17n ihL17 =>
      intro k hkk hans H locs ls hw hl
      have hkkl : k < B := by omega
      refine lv_iload_n hx hb dX3_firstUnlike_17 rfl (lv_at hl 2 rfl) ?_
      refine lv_iload_n hx hb dX3_firstUnlike_18 rfl (lv_at hl 1 rfl) ?_
      refine lv_icmp_ge (tgt := 48) hx hb dX3_firstUnlike_19 (by decide) (fun h4 => absurd h4 (nI_ge hkkl (by omega))) (fun _ => ?_)
      refine lv_aload_n hx hb dX3_firstUnlike_22 rfl (lv_at hl 0 rfl) ?_
      refine cg_X3_claimed hx hb hts hn3 hown hw (hts (.fieldLink RX3 34 "LeaderRows" "claimed" "[I") (by decide +kernel)) dX3_firstUnlike_23 ?_
      refine lv_iload_n hx hb dX3_firstUnlike_26 rfl (lv_at hl 2 rfl) ?_
      refine ca_claimed hx hb hw k (by omega) rfl dX3_firstUnlike_27 ?_
      refine lv_aload_n hx hb dX3_firstUnlike_28 rfl (lv_at hl 0 rfl) ?_
      refine cg_X3_row hx hb hts hn3 hown hw (hts (.fieldLink RX3 30 "LeaderRows" "row" "LLeaderRows$Row;") (by decide +kernel)) dX3_firstUnlike_29 ?_
      refine cg_X2_leaders hx hb hts hn2 hown hw (hts (.fieldLink RX3 207 "LeaderRows$Row" "leaders" "[I") (by decide +kernel)) dX3_firstUnlike_32 ?_
      refine lv_iload_n hx hb dX3_firstUnlike_35 rfl (lv_at hl 2 rfl) ?_
      refine ca_rlead hx hb hw k (by omega) rfl dX3_firstUnlike_36 ?_
      refine lv_icmp_eq (tgt := 42) hx hb dX3_firstUnlike_37 (by decide) (fun h5 => ?_) (fun h5 => ?_)
      · refine lv_iinc (v := nI (k + 1)) (lv' := [(2, .int (nI (k + 1))), (0, .ref (ad 0)), (1, .int (nI B))]) hx hb dX3_firstUnlike_42 hl (k := 2) rfl (nI_1 k) (by decide) rfl (fun ls hl => ?_)
        refine lv_goto (tgt := 17) hx hb dX3_firstUnlike_45 (by decide) ?_
        exact ihL17 (k + 1) (by omega) (by rw [hans, g_fu, if_pos h5]) _ _ ls hw (lv_sub hl [1, 2, 0] rfl)
      · refine lv_iload_n hx hb dX3_firstUnlike_40 rfl (lv_at hl 2 rfl) ?_
        exact ww_ri hx hb hr hlk hw dX3_firstUnlike_41 (by rw [hans, g_fu, if_neg h5]) rfl
  exact L17 B 0 (by omega) rfl _ _ ls hw (lv_sub hl [2, 1, 0] (by first | rfl | (simp [lv_pick])))
set_option maxHeartbeats 4000000 in
set_option maxRecDepth 100000 in
theorem k_X3_check (l : Launch) {D : va_G} {ad : Nat → Nat} {cy : Nat → ClassId} {phase epoch nxt : Int32} {seed pot : Int64} {terms claimed : Nat → Int32} {ecnt esum efac : Int32} {estr : Int64} {enum : Int32} {ewt ewa : Nat → Int32} {rsum : Int32} {rlead rnum nw nwa nled nmis nmio nas nmem ncom nop : Nat → Int32} {ndep ndig nnum : Nat → Int64} (q T : Nat)  (hq : q ≤ 60) (hT : T ≤ 60)  : ww_MI l D (cw_t cy) yX3_check wsX3_check (ww_rm 2 46) [.ref (ad 0)] (cw_w ad cy (nI q) phase epoch nxt seed pot terms claimed ecnt esum efac estr enum ewt ewa (nI T) rsum rlead rnum nw nwa nled nmis nmio nas nmem ncom nop ndep ndig nnum) (cw_w ad cy 0 phase epoch nxt seed pot terms claimed ecnt esum efac estr enum ewt ewa (nI T) rsum rlead rnum nw nwa nled nmis nmio nas nmem ncom nop ndep ndig nnum) (g_fu claimed rlead (if nI q = nI T then -2 else nI (min q T)) (min q T) 0) := by
  refine ww_MI_mk .int (cc := cX3_check) (maxL := 2) (by decide) rfl (Nat.le_of_ble_eq_true rfl) ?_
  intro p e s m below meth c A ls hx hb hr hts hown hlk hml hA hw hl
  have hown : s.vm.findClass RX3 = some m.cls := hown
  have hl : lv_has ls 2 [(0, .ref (ad 0))] := hl
  have hn3 : ∀ w ∈ wsX30, w ∈ wsX3_check := by decide +kernel
  refine lv_aload_n hx hb dX3_check_0 rfl (lv_at hl 0 rfl) ?_
  refine ww_cMI (As := []) (rest := []) hx hb hml hown hts hA hw hl.1 (k_X3_firstUnlike l q T  (by omega) (by omega)) (cwV 0 hts gX3_check_X3_firstUnlike rfl rfl rfl (by decide +kernel) ⟨Nat.le_of_ble_eq_true rfl, Nat.le_of_ble_eq_true rfl⟩) rfl 0 rfl rfl rfl rfl (Nat.le_of_ble_eq_true rfl) ⟨Nat.zero_le _, Nat.zero_le _⟩ dX3_check_1 (fun H locs hw => ?_)
  refine lv_istore_n (lv' := [(1, .int (g_fu claimed rlead (if nI q = nI T then -2 else nI (min q T)) (min q T) 0)), (0, .ref (ad 0))]) hx hb dX3_check_4 rfl hl (by decide) rfl (fun ls hl => ?_)
  refine lv_aload_n hx hb dX3_check_5 rfl (lv_at hl 1 rfl) ?_
  refine lv_iconst (v := 0) hx hb dX3_check_6 (by decide) ?_
  refine cp_claims hx hb hts hn3 hown hw (hts (.fieldLink RX3 162 "LeaderRows" "claims" "I") (by decide +kernel)) dX3_check_7 (fun H locs hw => ?_)
  refine lv_iload_n hx hb dX3_check_10 rfl (lv_at hl 0 rfl) ?_
  exact ww_ri hx hb hr hlk hw dX3_check_11 rfl rfl
set_option maxHeartbeats 4000000 in
set_option maxRecDepth 100000 in
theorem k_X0_mostOverdue (l : Launch) {D : va_G} {ad : Nat → Nat} {cy : Nat → ClassId} {claims phase epoch nxt : Int32} {seed pot : Int64} {terms claimed : Nat → Int32} {ecnt esum efac : Int32} {estr : Int64} {enum : Int32} {ewt ewa : Nat → Int32} {rlen rsum : Int32} {rlead rnum nw nwa nled nmis nmio nas nmem ncom nop : Nat → Int32} {ndep ndig nnum : Nat → Int64}   : ww_MI l D (cw_t cy) yX0_mostOverdue wsX0_mostOverdue (ww_rm 0 0) [.ref (ad 3)] (cw_w ad cy claims phase epoch nxt seed pot terms claimed ecnt esum efac estr enum ewt ewa rlen rsum rlead rnum nw nwa nled nmis nmio nas nmem ncom nop ndep ndig nnum) (cw_w ad cy claims phase epoch nxt seed pot terms claimed ecnt esum efac estr enum ewt ewa rlen rsum rlead rnum nw nwa nled nmis nmio nas nmem ncom nop ndep ndig nnum) (g_od ewt ewa efac esum) := by
  refine ww_MI_mk .int (cc := cX0_mostOverdue) (maxL := 7) (by decide) rfl (Nat.le_of_ble_eq_true rfl) ?_
  intro p e s m below meth c A ls hx hb hr hts hown hlk hml hA hw hl
  have hown : s.vm.findClass RX0 = some m.cls := hown
  have hl : lv_has ls 7 [(0, .ref (ad 3))] := hl
  have hn0 : ∀ w ∈ wsX00, w ∈ wsX0_mostOverdue := by decide +kernel
  refine lv_aload_n hx hb dX0_mostOverdue_0 rfl (lv_at hl 0 rfl) ?_
  refine cg_X0_factor hx hb hts hn0 hown hw (hts (.fieldLink RX0 25 "LeaderRows$Electors" "factor" "I") (by decide +kernel)) dX0_mostOverdue_1 ?_
  refine lv_if_gt (tgt := 10) hx hb dX0_mostOverdue_4 (by decide) (fun h1 => ?_) (fun h1 => ?_)
  · refine lv_bipush (v := (-2)) hx hb dX0_mostOverdue_10 (by decide) ?_
    refine lv_istore_n (lv' := [(1, .int (-2)), (0, .ref (ad 3))]) hx hb dX0_mostOverdue_12 rfl hl (by decide) rfl (fun ls hl => ?_)
    refine lv_aload_n hx hb dX0_mostOverdue_13 rfl (lv_at hl 1 rfl) ?_
    refine cg_X0_factor hx hb hts hn0 hown hw (hts (.fieldLink RX0 25 "LeaderRows$Electors" "factor" "I") (by decide +kernel)) dX0_mostOverdue_14 ?_
    refine lv_i2l hx hb dX0_mostOverdue_17 rfl ?_
    refine lv_aload_n hx hb dX0_mostOverdue_18 rfl (lv_at hl 1 rfl) ?_
    refine cg_X0_sum hx hb hts hn0 hown hw (hts (.fieldLink RX0 22 "LeaderRows$Electors" "sum" "I") (by decide +kernel)) dX0_mostOverdue_19 ?_
    refine lv_i2l hx hb dX0_mostOverdue_22 rfl ?_
    refine lv_lmul hx hb dX0_mostOverdue_23 ?_
    refine lv_lconst (v := 1) hx hb dX0_mostOverdue_24 (by decide) ?_
    refine lv_lsub hx hb dX0_mostOverdue_25 ?_
    refine lv_lstore_n (lv' := [(2, .long (((efac.toInt64) * (esum.toInt64)) - 1)), (1, .int (-2)), (0, .ref (ad 3))]) hx hb dX0_mostOverdue_26 rfl hl (by decide) rfl (fun ls hl => ?_)
    refine lv_iconst (v := 0) hx hb dX0_mostOverdue_27 (by decide) ?_
    refine lv_istore (lv' := [(4, .int 0), (2, .long (((efac.toInt64) * (esum.toInt64)) - 1)), (1, .int (-2)), (0, .ref (ad 3))]) hx hb dX0_mostOverdue_28 hl (by decide) rfl (fun ls hl => ?_)
    have L30 : ∀ (L30n k : Nat), k + L30n = 12 → ∀ (H : Heap) (locs : List Loc) (ls : Array Slot), ww_W D (cw_t cy) A s (cw_w ad cy claims phase epoch nxt seed pot terms claimed ecnt esum efac estr enum ewt ewa rlen rsum rlead rnum nw nwa nled nmis nmio nas nmem ncom nop ndep ndig nnum) H locs → lv_has ls 7 [(0, .ref (ad 3)), (1, .int ((g_mo ewt ewa (efac.toInt64 * esum.toInt64 - 1) k).1)), (2, .long ((g_mo ewt ewa (efac.toInt64 * esum.toInt64 - 1) k).2)), (4, .int (nI k))] → W p l e (ww_rm 0 0) s m ([.ref (ad 3)] : List Value).toArray below meth c H locs 0 0 (MQ below (ww_Qi D (cw_t cy) A (cw_w ad cy claims phase epoch nxt seed pot terms claimed ecnt esum efac estr enum ewt ewa rlen rsum rlead rnum nw nwa nled nmis nmio nas nmem ncom nop ndep ndig nnum) (g_od ewt ewa efac esum)) ([.ref (ad 3)] : List Value).toArray s 0 0 A) (F0 m 30 ls []) := by
      intro L30n
      induction L30n with
      | zero =>
        intro k hkk  H locs ls hw hl
        obtain rfl : 12 = k := by omega
        refine lv_iload hx hb dX0_mostOverdue_30 (lv_at hl 3 rfl) ?_
        refine lv_bipush (v := 12) hx hb dX0_mostOverdue_32 (by decide) ?_
        refine lv_icmp_ge (tgt := 85) hx hb dX0_mostOverdue_34 (by decide) (fun _ => ?_) (fun h2 => absurd (by decide) h2)
        refine lv_iload_n hx hb dX0_mostOverdue_85 rfl (lv_at hl 1 rfl) ?_
        exact ww_ri hx hb hr hlk hw dX0_mostOverdue_86 (by simp only [g_od, if_pos h1]) rfl
      | succ L30n ihL30 =>
        intro k hkk  H locs ls hw hl
        have hkkl : k < 12 := by omega
        refine lv_iload hx hb dX0_mostOverdue_30 (lv_at hl 3 rfl) ?_
        refine lv_bipush (v := 12) hx hb dX0_mostOverdue_32 (by decide) ?_
        refine lv_icmp_ge (tgt := 85) hx hb dX0_mostOverdue_34 (by decide) (fun h3 => absurd h3 (nI_nge 12 rfl hkkl (by decide))) (fun _ => ?_)
        refine lv_aload_n hx hb dX0_mostOverdue_37 rfl (lv_at hl 0 rfl) ?_
        refine cg_X0_waits hx hb hts hn0 hown hw (hts (.fieldLink RX0 15 "LeaderRows$Electors" "waits" "[I") (by decide +kernel)) dX0_mostOverdue_38 ?_
        refine lv_iload hx hb dX0_mostOverdue_41 (lv_at hl 3 rfl) ?_
        refine ca_ewa hx hb hw k (by omega) rfl dX0_mostOverdue_43 ?_
        refine lv_i2l hx hb dX0_mostOverdue_44 rfl ?_
        refine lv_aload_n hx hb dX0_mostOverdue_45 rfl (lv_at hl 0 rfl) ?_
        refine cg_X0_weights hx hb hts hn0 hown hw (hts (.fieldLink RX0 9 "LeaderRows$Electors" "weights" "[I") (by decide +kernel)) dX0_mostOverdue_46 ?_
        refine lv_iload hx hb dX0_mostOverdue_49 (lv_at hl 3 rfl) ?_
        refine ca_ewt hx hb hw k (by omega) rfl dX0_mostOverdue_51 ?_
        refine lv_i2l hx hb dX0_mostOverdue_52 rfl ?_
        refine lv_lmul hx hb dX0_mostOverdue_53 ?_
        refine lv_lstore (lv' := [(5, .long (((ewa k).toInt64) * ((ewt k).toInt64))), (0, .ref (ad 3)), (1, .int ((g_mo ewt ewa (efac.toInt64 * esum.toInt64 - 1) k).1)), (2, .long ((g_mo ewt ewa (efac.toInt64 * esum.toInt64 - 1) k).2)), (4, .int (nI k))]) hx hb dX0_mostOverdue_54 hl (by decide) rfl (fun ls hl => ?_)
        refine lv_aload_n hx hb dX0_mostOverdue_56 rfl (lv_at hl 1 rfl) ?_
        refine cg_X0_weights hx hb hts hn0 hown hw (hts (.fieldLink RX0 9 "LeaderRows$Electors" "weights" "[I") (by decide +kernel)) dX0_mostOverdue_57 ?_
        refine lv_iload hx hb dX0_mostOverdue_60 (lv_at hl 4 rfl) ?_
        refine ca_ewt hx hb hw k (by omega) rfl dX0_mostOverdue_62 ?_
        refine lv_if_le (tgt := 79) hx hb dX0_mostOverdue_63 (by decide) (fun h4 => ?_) (fun h4 => ?_)
        · refine lv_iinc (v := nI (k + 1)) (lv' := [(4, .int (nI (k + 1))), (5, .long (((ewa k).toInt64) * ((ewt k).toInt64))), (0, .ref (ad 3)), (1, .int ((g_mo ewt ewa (efac.toInt64 * esum.toInt64 - 1) k).1)), (2, .long ((g_mo ewt ewa (efac.toInt64 * esum.toInt64 - 1) k).2))]) hx hb dX0_mostOverdue_79 hl (k := 4) rfl (nI_1 k) (by decide) rfl (fun ls hl => ?_)
          refine lv_goto (tgt := 30) hx hb dX0_mostOverdue_82 (by decide) ?_
          have q5 : ((g_mo ewt ewa (efac.toInt64 * esum.toInt64 - 1) k).1) = (g_mo ewt ewa (efac.toInt64 * esum.toInt64 - 1) (k + 1)).1 := by simp only [g_mo, if_pos h1, if_pos h4]
          have q6 : ((g_mo ewt ewa (efac.toInt64 * esum.toInt64 - 1) k).2) = (g_mo ewt ewa (efac.toInt64 * esum.toInt64 - 1) (k + 1)).2 := by simp only [g_mo, if_pos h1, if_pos h4]
          have hl9 : lv_has ls 7 [(0, .ref (ad 3)), (1, .int ((g_mo ewt ewa (efac.toInt64 * esum.toInt64 - 1) (k + 1)).1)), (2, .long ((g_mo ewt ewa (efac.toInt64 * esum.toInt64 - 1) (k + 1)).2)), (4, .int (nI (k + 1)))] := by rw [← q5, ← q6]; exact lv_sub hl [2, 3, 4, 0] rfl
          exact ihL30 (k + 1) (by omega)  _ _ ls hw hl9
        · refine lv_lload hx hb dX0_mostOverdue_66 (lv_at hl 0 rfl) ?_
          refine lv_lload_n hx hb dX0_mostOverdue_68 rfl (lv_at hl 3 rfl) ?_
          refine ww_lif_le (tgt := 79) hx hb dX0_mostOverdue_69 dX0_mostOverdue_70 (by decide) (fun h7 => ?_) (fun h7 => ?_)
          · refine lv_iinc (v := nI (k + 1)) (lv' := [(4, .int (nI (k + 1))), (5, .long (((ewa k).toInt64) * ((ewt k).toInt64))), (0, .ref (ad 3)), (1, .int ((g_mo ewt ewa (efac.toInt64 * esum.toInt64 - 1) k).1)), (2, .long ((g_mo ewt ewa (efac.toInt64 * esum.toInt64 - 1) k).2))]) hx hb dX0_mostOverdue_79 hl (k := 4) rfl (nI_1 k) (by decide) rfl (fun ls hl => ?_)
            refine lv_goto (tgt := 30) hx hb dX0_mostOverdue_82 (by decide) ?_
            have q8 : ((g_mo ewt ewa (efac.toInt64 * esum.toInt64 - 1) k).1) = (g_mo ewt ewa (efac.toInt64 * esum.toInt64 - 1) (k + 1)).1 := by simp only [g_mo, if_pos h1, if_neg h4, if_pos h7]
            have q9 : ((g_mo ewt ewa (efac.toInt64 * esum.toInt64 - 1) k).2) = (g_mo ewt ewa (efac.toInt64 * esum.toInt64 - 1) (k + 1)).2 := by simp only [g_mo, if_pos h1, if_neg h4, if_pos h7]
            have hl9 : lv_has ls 7 [(0, .ref (ad 3)), (1, .int ((g_mo ewt ewa (efac.toInt64 * esum.toInt64 - 1) (k + 1)).1)), (2, .long ((g_mo ewt ewa (efac.toInt64 * esum.toInt64 - 1) (k + 1)).2)), (4, .int (nI (k + 1)))] := by rw [← q8, ← q9]; exact lv_sub hl [2, 3, 4, 0] rfl
            exact ihL30 (k + 1) (by omega)  _ _ ls hw hl9
          · refine lv_iload hx hb dX0_mostOverdue_73 (lv_at hl 4 rfl) ?_
            refine lv_istore_n (lv' := [(1, .int (nI k)), (5, .long (((ewa k).toInt64) * ((ewt k).toInt64))), (0, .ref (ad 3)), (2, .long ((g_mo ewt ewa (efac.toInt64 * esum.toInt64 - 1) k).2)), (4, .int (nI k))]) hx hb dX0_mostOverdue_75 rfl hl (by decide) rfl (fun ls hl => ?_)
            refine lv_lload hx hb dX0_mostOverdue_76 (lv_at hl 1 rfl) ?_
            refine lv_lstore_n (lv' := [(2, .long (((ewa k).toInt64) * ((ewt k).toInt64))), (1, .int (nI k)), (5, .long (((ewa k).toInt64) * ((ewt k).toInt64))), (0, .ref (ad 3)), (4, .int (nI k))]) hx hb dX0_mostOverdue_78 rfl hl (by decide) rfl (fun ls hl => ?_)
            refine lv_iinc (v := nI (k + 1)) (lv' := [(4, .int (nI (k + 1))), (2, .long (((ewa k).toInt64) * ((ewt k).toInt64))), (1, .int (nI k)), (5, .long (((ewa k).toInt64) * ((ewt k).toInt64))), (0, .ref (ad 3))]) hx hb dX0_mostOverdue_79 hl (k := 4) rfl (nI_1 k) (by decide) rfl (fun ls hl => ?_)
            refine lv_goto (tgt := 30) hx hb dX0_mostOverdue_82 (by decide) ?_
            have q10 : (nI k) = (g_mo ewt ewa (efac.toInt64 * esum.toInt64 - 1) (k + 1)).1 := by simp only [g_mo, if_pos h1, if_neg h4, if_neg h7]
            have q11 : (((ewa k).toInt64) * ((ewt k).toInt64)) = (g_mo ewt ewa (efac.toInt64 * esum.toInt64 - 1) (k + 1)).2 := by simp only [g_mo, if_pos h1, if_neg h4, if_neg h7]
            have hl9 : lv_has ls 7 [(0, .ref (ad 3)), (1, .int ((g_mo ewt ewa (efac.toInt64 * esum.toInt64 - 1) (k + 1)).1)), (2, .long ((g_mo ewt ewa (efac.toInt64 * esum.toInt64 - 1) (k + 1)).2)), (4, .int (nI (k + 1)))] := by rw [← q10, ← q11]; exact lv_sub hl [4, 2, 1, 0] rfl
            exact ihL30 (k + 1) (by omega)  _ _ ls hw hl9
    exact L30 12 0 (by omega)  _ _ ls hw (lv_sub hl [3, 2, 1, 0] (by first | rfl | (simp [lv_pick])))
  · refine lv_bipush (v := (-2)) hx hb dX0_mostOverdue_7 (by decide) ?_
    exact ww_ri hx hb hr hlk hw dX0_mostOverdue_9 (by simp only [g_od, if_neg h1]) rfl
set_option maxHeartbeats 4000000 in
set_option maxRecDepth 100000 in
theorem k_X0_holderOf (l : Launch) {D : va_G} {ad : Nat → Nat} {cy : Nat → ClassId} {claims phase epoch nxt : Int32} {seed pot : Int64} {terms claimed : Nat → Int32} {ecnt esum efac : Int32} {estr : Int64} {enum : Int32} {ewt ewa : Nat → Int32} {rlen rsum : Int32} {rlead rnum nw nwa nled nmis nmio nas nmem ncom nop : Nat → Int32} {ndep ndig nnum : Nat → Int64} (r : Int64)  : ww_MI l D (cw_t cy) yX0_holderOf wsX0_holderOf (ww_rm 0 0) [.ref (ad 3), .long r] (cw_w ad cy claims phase epoch nxt seed pot terms claimed ecnt esum efac estr enum ewt ewa rlen rsum rlead rnum nw nwa nled nmis nmio nas nmem ncom nop ndep ndig nnum) (cw_w ad cy claims phase epoch nxt seed pot terms claimed ecnt esum efac estr enum ewt ewa rlen rsum rlead rnum nw nwa nled nmis nmio nas nmem ncom nop ndep ndig nnum) (g_hk ewt r 12 0) := by
  refine ww_MI_mk .int (cc := cX0_holderOf) (maxL := 6) (by decide) rfl (Nat.le_of_ble_eq_true rfl) ?_
  intro p e s m below meth c A ls hx hb hr hts hown hlk hml hA hw hl
  have hown : s.vm.findClass RX0 = some m.cls := hown
  have hl : lv_has ls 6 [(0, .ref (ad 3)), (1, .long r)] := hl
  have hn0 : ∀ w ∈ wsX00, w ∈ wsX0_holderOf := by decide +kernel
  refine lv_lconst (v := 0) hx hb dX0_holderOf_0 (by decide) ?_
  refine lv_lstore_n (lv' := [(3, .long 0), (0, .ref (ad 3)), (1, .long r)]) hx hb dX0_holderOf_1 rfl hl (by decide) rfl (fun ls hl => ?_)
  refine lv_iconst (v := 0) hx hb dX0_holderOf_2 (by decide) ?_
  refine lv_istore (lv' := [(5, .int 0), (3, .long 0), (0, .ref (ad 3)), (1, .long r)]) hx hb dX0_holderOf_3 hl (by decide) rfl (fun ls hl => ?_)
  have L5 : ∀ (L5n k : Nat), k + L5n = 12 → (g_hk ewt r 12 0 = g_hk ewt r L5n k) → ∀ (H : Heap) (locs : List Loc) (ls : Array Slot), ww_W D (cw_t cy) A s (cw_w ad cy claims phase epoch nxt seed pot terms claimed ecnt esum efac estr enum ewt ewa rlen rsum rlead rnum nw nwa nled nmis nmio nas nmem ncom nop ndep ndig nnum) H locs → lv_has ls 6 [(0, .ref (ad 3)), (1, .long r), (3, .long (g_sl ewt k)), (5, .int (nI k))] → W p l e (ww_rm 0 0) s m ([.ref (ad 3), .long r] : List Value).toArray below meth c H locs 0 0 (MQ below (ww_Qi D (cw_t cy) A (cw_w ad cy claims phase epoch nxt seed pot terms claimed ecnt esum efac estr enum ewt ewa rlen rsum rlead rnum nw nwa nled nmis nmio nas nmem ncom nop ndep ndig nnum) (g_hk ewt r 12 0)) ([.ref (ad 3), .long r] : List Value).toArray s 0 0 A) (F0 m 5 ls []) := by
    intro L5n
    induction L5n with
    | zero =>
      intro k hkk hans H locs ls hw hl
      obtain rfl : 12 = k := by omega
      refine lv_iload hx hb dX0_holderOf_5 (lv_at hl 3 rfl) ?_
      refine lv_bipush (v := 12) hx hb dX0_holderOf_7 (by decide) ?_
      refine lv_icmp_ge (tgt := 38) hx hb dX0_holderOf_9 (by decide) (fun _ => ?_) (fun h1 => absurd (by decide) h1)
      refine lv_bipush (v := (-2)) hx hb dX0_holderOf_38 (by decide) ?_
      exact ww_ri hx hb hr hlk hw dX0_holderOf_40 (by rw [hans]; rfl) rfl
    | succ L5n ihL5 =>
      intro k hkk hans H locs ls hw hl
      have hkkl : k < 12 := by omega
      refine lv_iload hx hb dX0_holderOf_5 (lv_at hl 3 rfl) ?_
      refine lv_bipush (v := 12) hx hb dX0_holderOf_7 (by decide) ?_
      refine lv_icmp_ge (tgt := 38) hx hb dX0_holderOf_9 (by decide) (fun h2 => absurd h2 (nI_nge 12 rfl hkkl (by decide))) (fun _ => ?_)
      refine lv_lload_n hx hb dX0_holderOf_12 rfl (lv_at hl 2 rfl) ?_
      refine lv_aload_n hx hb dX0_holderOf_13 rfl (lv_at hl 0 rfl) ?_
      refine cg_X0_weights hx hb hts hn0 hown hw (hts (.fieldLink RX0 9 "LeaderRows$Electors" "weights" "[I") (by decide +kernel)) dX0_holderOf_14 ?_
      refine lv_iload hx hb dX0_holderOf_17 (lv_at hl 3 rfl) ?_
      refine ca_ewt hx hb hw k (by omega) rfl dX0_holderOf_19 ?_
      refine lv_i2l hx hb dX0_holderOf_20 rfl ?_
      refine lv_ladd hx hb dX0_holderOf_21 ?_
      refine lv_lstore_n (lv' := [(3, .long ((g_sl ewt k) + ((ewt k).toInt64))), (0, .ref (ad 3)), (1, .long r), (5, .int (nI k))]) hx hb dX0_holderOf_22 rfl hl (by decide) rfl (fun ls hl => ?_)
      refine lv_lload_n hx hb dX0_holderOf_23 rfl (lv_at hl 0 rfl) ?_
      refine lv_lload_n hx hb dX0_holderOf_24 rfl (lv_at hl 2 rfl) ?_
      refine ww_lif_le (tgt := 32) hx hb dX0_holderOf_25 dX0_holderOf_26 (by decide) (fun h3 => ?_) (fun h3 => ?_)
      · refine lv_iinc (v := nI (k + 1)) (lv' := [(5, .int (nI (k + 1))), (3, .long ((g_sl ewt k) + ((ewt k).toInt64))), (0, .ref (ad 3)), (1, .long r)]) hx hb dX0_holderOf_32 hl (k := 3) rfl (nI_1 k) (by decide) rfl (fun ls hl => ?_)
        refine lv_goto (tgt := 5) hx hb dX0_holderOf_35 (by decide) ?_
        have q4 : ((g_sl ewt k) + ((ewt k).toInt64)) = g_sl ewt (k + 1) := rfl
        have hl9 : lv_has ls 6 [(0, .ref (ad 3)), (1, .long r), (3, .long (g_sl ewt (k + 1))), (5, .int (nI (k + 1)))] := by rw [← q4]; exact lv_sub hl [2, 3, 1, 0] rfl
        exact ihL5 (k + 1) (by omega) (by rw [hans, g_hk, if_pos h3]) _ _ ls hw hl9
      · refine lv_iload hx hb dX0_holderOf_29 (lv_at hl 3 rfl) ?_
        exact ww_ri hx hb hr hlk hw dX0_holderOf_31 (by rw [hans, g_hk, if_neg h3]) rfl
  exact L5 12 0 (by omega) rfl _ _ ls hw (lv_sub hl [2, 3, 1, 0] (by first | rfl | (simp [lv_pick])))
set_option maxHeartbeats 4000000 in
set_option maxRecDepth 100000 in
theorem k_X0_passTurn (l : Launch) {D : va_G} {ad : Nat → Nat} {cy : Nat → ClassId} {claims phase epoch nxt : Int32} {seed pot : Int64} {terms claimed : Nat → Int32} {ecnt esum efac : Int32} {estr : Int64} {enum : Int32} {ewt ewa : Nat → Int32} {rlen rsum : Int32} {rlead rnum nw nwa nled nmis nmio nas nmem ncom nop : Nat → Int32} {ndep ndig nnum : Nat → Int64} (who : Int32)  : ww_MV l D (cw_t cy) yX0_passTurn wsX0_passTurn (ww_rm 0 0) [.ref (ad 3), .int who] (cw_w ad cy claims phase epoch nxt seed pot terms claimed ecnt esum efac estr enum ewt ewa rlen rsum rlead rnum nw nwa nled nmis nmio nas nmem ncom nop ndep ndig nnum) (cw_w ad cy claims phase epoch nxt seed pot terms claimed ecnt esum efac estr enum ewt (mx 12 (g_pt ewt ewa who) ewa) rlen rsum rlead rnum nw nwa nled nmis nmio nas nmem ncom nop ndep ndig nnum) := by
  refine ww_MV_mk (cc := cX0_passTurn) (maxL := 3) (by decide) rfl (Nat.le_of_ble_eq_true rfl) ?_
  intro p e s m below meth c A ls hx hb hr hts hown hlk hml hA hw hl
  have hown : s.vm.findClass RX0 = some m.cls := hown
  have hl : lv_has ls 3 [(0, .ref (ad 3)), (1, .int who)] := hl
  have hn0 : ∀ w ∈ wsX00, w ∈ wsX0_passTurn := by decide +kernel
  refine lv_iconst (v := 0) hx hb dX0_passTurn_0 (by decide) ?_
  refine lv_istore_n (lv' := [(2, .int 0), (0, .ref (ad 3)), (1, .int who)]) hx hb dX0_passTurn_1 rfl hl (by decide) rfl (fun ls hl => ?_)
  have L2 : ∀ (L2n k : Nat), k + L2n = 12 → ∀ (H : Heap) (locs : List Loc) (ls : Array Slot), ww_W D (cw_t cy) A s (cw_w ad cy claims phase epoch nxt seed pot terms claimed ecnt esum efac estr enum ewt (mx k (g_pt ewt ewa who) ewa) rlen rsum rlead rnum nw nwa nled nmis nmio nas nmem ncom nop ndep ndig nnum) H locs → lv_has ls 3 [(0, .ref (ad 3)), (1, .int who), (2, .int (nI k))] → W p l e (ww_rm 0 0) s m ([.ref (ad 3), .int who] : List Value).toArray below meth c H locs 0 0 (MQ below (ww_Qv D (cw_t cy) A (cw_w ad cy claims phase epoch nxt seed pot terms claimed ecnt esum efac estr enum ewt (mx 12 (g_pt ewt ewa who) ewa) rlen rsum rlead rnum nw nwa nled nmis nmio nas nmem ncom nop ndep ndig nnum)) ([.ref (ad 3), .int who] : List Value).toArray s 0 0 A) (F0 m 2 ls []) := by
    intro L2n
    induction L2n with
    | zero =>
      intro k hkk  H locs ls hw hl
      obtain rfl : 12 = k := by omega
      refine lv_iload_n hx hb dX0_passTurn_2 rfl (lv_at hl 2 rfl) ?_
      refine lv_bipush (v := 12) hx hb dX0_passTurn_3 (by decide) ?_
      refine lv_icmp_ge (tgt := 46) hx hb dX0_passTurn_5 (by decide) (fun _ => ?_) (fun h1 => absurd (by decide) h1)
      exact ww_rv hx hb hr hlk hw dX0_passTurn_46 rfl
    | succ L2n ihL2 =>
      intro k hkk  H locs ls hw hl
      have hkkl : k < 12 := by omega
      refine lv_iload_n hx hb dX0_passTurn_2 rfl (lv_at hl 2 rfl) ?_
      refine lv_bipush (v := 12) hx hb dX0_passTurn_3 (by decide) ?_
      refine lv_icmp_ge (tgt := 46) hx hb dX0_passTurn_5 (by decide) (fun h2 => absurd h2 (nI_nge 12 rfl hkkl (by decide))) (fun _ => ?_)
      refine lv_aload_n hx hb dX0_passTurn_8 rfl (lv_at hl 0 rfl) ?_
      refine cg_X0_weights hx hb hts hn0 hown hw (hts (.fieldLink RX0 9 "LeaderRows$Electors" "weights" "[I") (by decide +kernel)) dX0_passTurn_9 ?_
      refine lv_iload_n hx hb dX0_passTurn_12 rfl (lv_at hl 2 rfl) ?_
      refine ca_ewt hx hb hw k (by omega) rfl dX0_passTurn_13 ?_
      refine lv_if_le (tgt := 40) hx hb dX0_passTurn_14 (by decide) (fun h3 => ?_) (fun h3 => ?_)
      · refine lv_iinc (v := nI (k + 1)) (lv' := [(2, .int (nI (k + 1))), (0, .ref (ad 3)), (1, .int who)]) hx hb dX0_passTurn_40 hl (k := 2) rfl (nI_1 k) (by decide) rfl (fun ls hl => ?_)
        refine lv_goto (tgt := 2) hx hb dX0_passTurn_43 (by decide) ?_
        exact ihL2 (k + 1) (by omega)  _ _ ls ((cw_c rfl rfl rfl rfl rfl rfl rfl rfl rfl rfl rfl rfl rfl rfl (by first | exact mx_sk (by simp only [g_pt, if_pos h3]) | exact mx_up (by simp only [g_pt, mx_at, if_neg h3])) rfl rfl rfl rfl rfl rfl rfl rfl rfl rfl rfl rfl rfl rfl rfl rfl : cw_w ad cy claims phase epoch nxt seed pot terms claimed ecnt esum efac estr enum ewt (mx k (g_pt ewt ewa who) ewa) rlen rsum rlead rnum nw nwa nled nmis nmio nas nmem ncom nop ndep ndig nnum = cw_w ad cy claims phase epoch nxt seed pot terms claimed ecnt esum efac estr enum ewt (mx (k + 1) (g_pt ewt ewa who) ewa) rlen rsum rlead rnum nw nwa nled nmis nmio nas nmem ncom nop ndep ndig nnum) ▸ hw) (lv_sub hl [1, 2, 0] rfl)
      · refine lv_aload_n hx hb dX0_passTurn_17 rfl (lv_at hl 0 rfl) ?_
        refine cg_X0_waits hx hb hts hn0 hown hw (hts (.fieldLink RX0 15 "LeaderRows$Electors" "waits" "[I") (by decide +kernel)) dX0_passTurn_18 ?_
        refine lv_iload_n hx hb dX0_passTurn_21 rfl (lv_at hl 2 rfl) ?_
        refine lv_iload_n hx hb dX0_passTurn_22 rfl (lv_at hl 2 rfl) ?_
        refine lv_iload_n hx hb dX0_passTurn_23 rfl (lv_at hl 1 rfl) ?_
        refine ww_joinI (rest := [.int (nI k), .ref (ad 7)]) 39 (if (nI k) = who then 0 else ((mx k (g_pt ewt ewa who) ewa) k) + 1) (fun K4 => ?_) ?_
        · refine lv_icmp_ne (tgt := 31) hx hb dX0_passTurn_24 (by decide) (fun h5 => ?_) (fun h5 => ?_)
          · refine lv_aload_n hx hb dX0_passTurn_31 rfl (lv_at hl 0 rfl) ?_
            refine cg_X0_waits hx hb hts hn0 hown hw (hts (.fieldLink RX0 15 "LeaderRows$Electors" "waits" "[I") (by decide +kernel)) dX0_passTurn_32 ?_
            refine lv_iload_n hx hb dX0_passTurn_35 rfl (lv_at hl 2 rfl) ?_
            refine ca_ewa hx hb hw k (by omega) rfl dX0_passTurn_36 ?_
            refine lv_iconst (v := 1) hx hb dX0_passTurn_37 (by decide) ?_
            refine lv_iadd hx hb dX0_passTurn_38 ?_
            exact ww_top (by rw [if_neg h5]) K4
          · refine lv_iconst (v := 0) hx hb dX0_passTurn_27 (by decide) ?_
            refine lv_goto (tgt := 39) hx hb dX0_passTurn_28 (by decide) ?_
            exact ww_top (by rw [if_pos h5]) K4
        refine cs_ewa hx hb hw k (by omega) rfl dX0_passTurn_39 (fun H locs hw => ?_)
        refine lv_iinc (v := nI (k + 1)) (lv' := [(2, .int (nI (k + 1))), (0, .ref (ad 3)), (1, .int who)]) hx hb dX0_passTurn_40 hl (k := 2) rfl (nI_1 k) (by decide) rfl (fun ls hl => ?_)
        refine lv_goto (tgt := 2) hx hb dX0_passTurn_43 (by decide) ?_
        exact ihL2 (k + 1) (by omega)  _ _ ls ((cw_c rfl rfl rfl rfl rfl rfl rfl rfl rfl rfl rfl rfl rfl rfl (by first | exact mx_sk (by simp only [g_pt, if_pos h3]) | exact mx_up (by simp only [g_pt, mx_at, if_neg h3])) rfl rfl rfl rfl rfl rfl rfl rfl rfl rfl rfl rfl rfl rfl rfl rfl : cw_w ad cy claims phase epoch nxt seed pot terms claimed ecnt esum efac estr enum ewt (upd (mx k (g_pt ewt ewa who) ewa) k (if (nI k) = who then 0 else ((mx k (g_pt ewt ewa who) ewa) k) + 1)) rlen rsum rlead rnum nw nwa nled nmis nmio nas nmem ncom nop ndep ndig nnum = cw_w ad cy claims phase epoch nxt seed pot terms claimed ecnt esum efac estr enum ewt (mx (k + 1) (g_pt ewt ewa who) ewa) rlen rsum rlead rnum nw nwa nled nmis nmio nas nmem ncom nop ndep ndig nnum) ▸ hw) (lv_sub hl [1, 2, 0] rfl)
  exact L2 12 0 (by omega)  _ _ ls ((cw_c rfl rfl rfl rfl rfl rfl rfl rfl rfl rfl rfl rfl rfl rfl ((mx_0 _ _).symm) rfl rfl rfl rfl rfl rfl rfl rfl rfl rfl rfl rfl rfl rfl rfl rfl : cw_w ad cy claims phase epoch nxt seed pot terms claimed ecnt esum efac estr enum ewt ewa rlen rsum rlead rnum nw nwa nled nmis nmio nas nmem ncom nop ndep ndig nnum = cw_w ad cy claims phase epoch nxt seed pot terms claimed ecnt esum efac estr enum ewt (mx 0 (g_pt ewt ewa who) ewa) rlen rsum rlead rnum nw nwa nled nmis nmio nas nmem ncom nop ndep ndig nnum) ▸ hw) (lv_sub hl [1, 2, 0] (by first | rfl | (simp [lv_pick])))
set_option maxHeartbeats 4000000 in
set_option maxRecDepth 100000 in
theorem k_X0_drawBelowSum (l : Launch) {D : va_G} {ad : Nat → Nat} {cy : Nat → ClassId} {claims phase epoch nxt : Int32} {seed pot : Int64} {terms claimed : Nat → Int32} {ecnt esum efac : Int32} {estr : Int64} {ewt ewa : Nat → Int32} {rlen rsum : Int32} {rlead rnum nw nwa nled nmis nmio nas nmem ncom nop : Nat → Int32} {ndep ndig nnum : Nat → Int64} (n : Nat)  (hn : g_ok (g_t esum) estr n)  : ww_ML l D (cw_t cy) yX0_drawBelowSum wsX0_drawBelowSum (ww_rm 1 23) [.ref (ad 3)] (cw_w ad cy claims phase epoch nxt seed pot terms claimed ecnt esum efac estr 0 ewt ewa rlen rsum rlead rnum nw nwa nled nmis nmio nas nmem ncom nop ndep ndig nnum) (cw_w ad cy claims phase epoch nxt seed pot terms claimed ecnt esum efac (sG estr n) (nI n) ewt ewa rlen rsum rlead rnum nw nwa nled nmis nmio nas nmem ncom nop ndep ndig nnum) (f_rem (f_mix (sG estr n)) esum) := by
  refine ww_ML_mk (cc := cX0_drawBelowSum) (maxL := 6) (by decide) rfl (Nat.le_of_ble_eq_true rfl) ?_
  intro p e s m below meth c A ls hx hb hr hts hown hlk hml hA hw hl
  have hown : s.vm.findClass RX0 = some m.cls := hown
  have hl : lv_has ls 6 [(0, .ref (ad 3))] := hl
  have hn0 : ∀ w ∈ wsX00, w ∈ wsX0_drawBelowSum := by decide +kernel
  have hn1 : 1 ≤ n := hn.1
  have hn2 : n < 1000000 := hn.2.1
  refine lv_aload_n hx hb dX0_drawBelowSum_0 rfl (lv_at hl 0 rfl) ?_
  refine cg_X0_sum hx hb hts hn0 hown hw (hts (.fieldLink RX0 22 "LeaderRows$Electors" "sum" "I") (by decide +kernel)) dX0_drawBelowSum_1 ?_
  refine lv_ineg hx hb dX0_drawBelowSum_4 ?_
  refine lv_i2l hx hb dX0_drawBelowSum_5 rfl ?_
  refine lv_aload_n hx hb dX0_drawBelowSum_6 rfl (lv_at hl 0 rfl) ?_
  refine cg_X0_sum hx hb hts hn0 hown hw (hts (.fieldLink RX0 22 "LeaderRows$Electors" "sum" "I") (by decide +kernel)) dX0_drawBelowSum_7 ?_
  refine ww_cSL (As := [.long ((-esum).toInt64), .int esum]) (rest := []) hx hb hml hown hts hl.1 (k_X0_remainderUnsigned l ((-esum).toInt64) esum) (va_cwS 2 hts gX0_drawBelowSum_X0_remainderUnsigned rfl rfl rfl (by decide +kernel) ⟨Nat.le_of_ble_eq_true rfl, Nat.le_of_ble_eq_true rfl⟩) rfl rfl (Nat.le_of_ble_eq_true rfl) ⟨Nat.zero_le _, Nat.zero_le _⟩ dX0_drawBelowSum_10 ?_
  refine lv_lstore_n (lv' := [(1, .long (f_rem ((-esum).toInt64) esum)), (0, .ref (ad 3))]) hx hb dX0_drawBelowSum_13 rfl hl (by decide) rfl (fun ls hl => ?_)
  refine lv_lconst (v := 0) hx hb dX0_drawBelowSum_14 (by decide) ?_
  refine lv_lstore_n (lv' := [(3, .long 0), (1, .long (f_rem ((-esum).toInt64) esum)), (0, .ref (ad 3))]) hx hb dX0_drawBelowSum_15 rfl hl (by decide) rfl (fun ls hl => ?_)
  refine lv_iconst (v := 0) hx hb dX0_drawBelowSum_16 (by decide) ?_
  refine lv_istore (lv' := [(5, .int 0), (3, .long 0), (1, .long (f_rem ((-esum).toInt64) esum)), (0, .ref (ad 3))]) hx hb dX0_drawBelowSum_17 hl (by decide) rfl (fun ls hl => ?_)
  have L19 : ∀ (L19n j : Nat), j + L19n = n → ∀ (H : Heap) (locs : List Loc) (ls : Array Slot), ww_W D (cw_t cy) A s (cw_w ad cy claims phase epoch nxt seed pot terms claimed ecnt esum efac (sG estr j) (nI j) ewt ewa rlen rsum rlead rnum nw nwa nled nmis nmio nas nmem ncom nop ndep ndig nnum) H locs → lv_has ls 6 [(0, .ref (ad 3)), (1, .long (f_rem ((-esum).toInt64) esum)), (3, .long (f_z estr j)), (5, .int (f_us n j))] → W p l e (ww_rm 1 23) s m ([.ref (ad 3)] : List Value).toArray below meth c H locs 0 0 (MQ below (ww_Ql D (cw_t cy) A (cw_w ad cy claims phase epoch nxt seed pot terms claimed ecnt esum efac (sG estr n) (nI n) ewt ewa rlen rsum rlead rnum nw nwa nled nmis nmio nas nmem ncom nop ndep ndig nnum) (f_rem (f_mix (sG estr n)) esum)) ([.ref (ad 3)] : List Value).toArray s 0 0 A) (F0 m 19 ls []) := by
    intro L19n
    induction L19n with
    | zero =>
      intro j hkj  H locs ls hw hl
      obtain rfl : n = j := by omega
      refine lv_iload hx hb dX0_drawBelowSum_19 (lv_at hl 3 rfl) ?_
      refine lv_if_ne (tgt := 86) hx hb dX0_drawBelowSum_21 (by decide) (fun _ => ?_) (fun h1 => absurd h1 (f_us_n n))
      refine lv_lload_n hx hb dX0_drawBelowSum_86 rfl (lv_at hl 2 rfl) ?_
      refine lv_aload_n hx hb dX0_drawBelowSum_87 rfl (lv_at hl 0 rfl) ?_
      refine cg_X0_sum hx hb hts hn0 hown hw (hts (.fieldLink RX0 22 "LeaderRows$Electors" "sum" "I") (by decide +kernel)) dX0_drawBelowSum_88 ?_
      refine ww_cSL (As := [.long (f_z estr n), .int esum]) (rest := []) hx hb hml hown hts hl.1 (k_X0_remainderUnsigned l (f_z estr n) esum) (va_cwS 2 hts gX0_drawBelowSum_X0_remainderUnsigned rfl rfl rfl (by decide +kernel) ⟨Nat.le_of_ble_eq_true rfl, Nat.le_of_ble_eq_true rfl⟩) rfl rfl (Nat.le_of_ble_eq_true rfl) ⟨Nat.zero_le _, Nat.zero_le _⟩ dX0_drawBelowSum_91 ?_
      exact ww_rl hx hb hr hlk hw dX0_drawBelowSum_94 (by rw [f_z_n _ hn1]) rfl
    | succ L19n ihL19 =>
      intro j hkj  H locs ls hw hl
      have hkjl : j < n := by omega
      refine lv_iload hx hb dX0_drawBelowSum_19 (lv_at hl 3 rfl) ?_
      refine lv_if_ne (tgt := 86) hx hb dX0_drawBelowSum_21 (by decide) (fun h2 => absurd (f_us_l hkjl) h2) (fun _ => ?_)
      refine lv_aload_n hx hb dX0_drawBelowSum_24 rfl (lv_at hl 0 rfl) ?_
      refine cg_X0_numbers hx hb hts hn0 hown hw (hts (.fieldLink RX0 48 "LeaderRows$Electors" "numbers" "I") (by decide +kernel)) dX0_drawBelowSum_25 ?_
      refine lv_ldc (v := 1000000) hx hb hown (hts (.constant RX0 71 1000000) (by decide +kernel)) dX0_drawBelowSum_28 ?_
      refine lv_icmp_ge (tgt := 86) hx hb dX0_drawBelowSum_30 (by decide) (fun h3 => absurd h3 (nI_nge 1000000 rfl (by omega) (by decide))) (fun _ => ?_)
      refine lv_aload_n hx hb dX0_drawBelowSum_33 rfl (lv_at hl 0 rfl) ?_
      refine lv_dup hx hb dX0_drawBelowSum_34 rfl ?_
      refine cg_X0_stream hx hb hts hn0 hown hw (hts (.fieldLink RX0 28 "LeaderRows$Electors" "stream" "J") (by decide +kernel)) dX0_drawBelowSum_35 ?_
      refine lv_ldc2 (v := (-7046029254386353131)) hx hb hown (hts (.constantLong RX0 72 (-7046029254386353131)) (by decide +kernel)) dX0_drawBelowSum_38 ?_
      refine lv_ladd hx hb dX0_drawBelowSum_41 ?_
      refine cp_estr hx hb hts hn0 hown hw (hts (.fieldLink RX0 28 "LeaderRows$Electors" "stream" "J") (by decide +kernel)) dX0_drawBelowSum_42 (fun H locs hw => ?_)
      refine lv_aload_n hx hb dX0_drawBelowSum_45 rfl (lv_at hl 0 rfl) ?_
      refine lv_dup hx hb dX0_drawBelowSum_46 rfl ?_
      refine cg_X0_numbers hx hb hts hn0 hown hw (hts (.fieldLink RX0 48 "LeaderRows$Electors" "numbers" "I") (by decide +kernel)) dX0_drawBelowSum_47 ?_
      refine lv_iconst (v := 1) hx hb dX0_drawBelowSum_50 (by decide) ?_
      refine lv_iadd hx hb dX0_drawBelowSum_51 ?_
      refine cp_enum hx hb hts hn0 hown hw (hts (.fieldLink RX0 48 "LeaderRows$Electors" "numbers" "I") (by decide +kernel)) dX0_drawBelowSum_52 (fun H locs hw => ?_)
      refine lv_aload_n hx hb dX0_drawBelowSum_55 rfl (lv_at hl 0 rfl) ?_
      refine cg_X0_stream hx hb hts hn0 hown hw (hts (.fieldLink RX0 28 "LeaderRows$Electors" "stream" "J") (by decide +kernel)) dX0_drawBelowSum_56 ?_
      refine ww_cSNL (As := [.long ((sG estr j) + (-7046029254386353131))]) (rest := []) hx hb hml hown hts hl.1 (k_X3_mix l ((sG estr j) + (-7046029254386353131))) ⟨va_cnB 1 hts gX0_drawBelowSum_X3_mix_n74 rfl rfl rfl hw.2.2.2.2 (hts (.initialized RX3) (by decide +kernel)) (by decide +kernel) ⟨Nat.le_of_ble_eq_true rfl, Nat.le_of_ble_eq_true rfl⟩, hts (.static yX3_mix) (by decide +kernel), trivial⟩ rfl rfl (Nat.le_of_ble_eq_true rfl) ⟨Nat.zero_le _, Nat.zero_le _⟩ dX0_drawBelowSum_59 ?_
      refine lv_lstore_n (lv' := [(3, .long (f_mix ((sG estr j) + (-7046029254386353131)))), (0, .ref (ad 3)), (1, .long (f_rem ((-esum).toInt64) esum)), (5, .int (f_us n j))]) hx hb dX0_drawBelowSum_62 rfl hl (by decide) rfl (fun ls hl => ?_)
      refine lv_lload_n hx hb dX0_drawBelowSum_63 rfl (lv_at hl 0 rfl) ?_
      refine lv_lconst (v := 0) hx hb dX0_drawBelowSum_64 (by decide) ?_
      refine ww_joinI (rest := []) 81 (if 0 ≤ (f_mix ((sG estr j) + (-7046029254386353131))) then 1 else if (-(f_rem ((-esum).toInt64) esum)) ≤ (f_mix ((sG estr j) + (-7046029254386353131))) then 0 else 1) (fun K4 => ?_) ?_
      · refine ww_lif_ge (tgt := 76) hx hb dX0_drawBelowSum_65 dX0_drawBelowSum_66 (by decide) (fun h5 => ?_) (fun h5 => ?_)
        · refine lv_iconst (v := 1) hx hb dX0_drawBelowSum_76 (by decide) ?_
          refine lv_goto (tgt := 81) hx hb dX0_drawBelowSum_77 (by decide) ?_
          exact ww_top (by rw [if_pos h5]) K4
        · refine lv_lload_n hx hb dX0_drawBelowSum_69 rfl (lv_at hl 0 rfl) ?_
          refine lv_lload_n hx hb dX0_drawBelowSum_70 rfl (lv_at hl 2 rfl) ?_
          refine lv_lneg hx hb dX0_drawBelowSum_71 ?_
          refine ww_lif_ge (tgt := 80) hx hb dX0_drawBelowSum_72 dX0_drawBelowSum_73 (by decide) (fun h6 => ?_) (fun h6 => ?_)
          · refine lv_iconst (v := 0) hx hb dX0_drawBelowSum_80 (by decide) ?_
            exact ww_top (by rw [if_neg h5, if_pos h6]) K4
          · refine lv_iconst (v := 1) hx hb dX0_drawBelowSum_76 (by decide) ?_
            refine lv_goto (tgt := 81) hx hb dX0_drawBelowSum_77 (by decide) ?_
            exact ww_top (by rw [if_neg h5, if_neg h6]) K4
      refine lv_istore (lv' := [(5, .int (if 0 ≤ (f_mix ((sG estr j) + (-7046029254386353131))) then 1 else if (-(f_rem ((-esum).toInt64) esum)) ≤ (f_mix ((sG estr j) + (-7046029254386353131))) then 0 else 1)), (3, .long (f_mix ((sG estr j) + (-7046029254386353131)))), (0, .ref (ad 3)), (1, .long (f_rem ((-esum).toInt64) esum))]) hx hb dX0_drawBelowSum_81 hl (by decide) rfl (fun ls hl => ?_)
      refine lv_goto (tgt := 19) hx hb dX0_drawBelowSum_83 (by decide) ?_
      have q7 : (f_mix ((sG estr j) + (-7046029254386353131))) = f_z estr (j + 1) := f_z_s j estr
      have q8 : (if 0 ≤ (f_mix ((sG estr j) + (-7046029254386353131))) then 1 else if (-(f_rem ((-esum).toInt64) esum)) ≤ (f_mix ((sG estr j) + (-7046029254386353131))) then 0 else 1) = f_us n (j + 1) := f_us_u hn hkjl
      have hl9 : lv_has ls 6 [(0, .ref (ad 3)), (1, .long (f_rem ((-esum).toInt64) esum)), (3, .long (f_z estr (j + 1))), (5, .int (f_us n (j + 1)))] := by rw [← q7, ← q8]; exact lv_sub hl [2, 3, 1, 0] rfl
      exact ihL19 (j + 1) (by omega)  _ _ ls ((cw_c rfl rfl rfl rfl rfl rfl rfl rfl rfl rfl rfl (rfl) (nI_1 j) rfl rfl rfl rfl rfl rfl rfl rfl rfl rfl rfl rfl rfl rfl rfl rfl rfl rfl : cw_w ad cy claims phase epoch nxt seed pot terms claimed ecnt esum efac ((sG estr j) + (-7046029254386353131)) ((nI j) + 1) ewt ewa rlen rsum rlead rnum nw nwa nled nmis nmio nas nmem ncom nop ndep ndig nnum = cw_w ad cy claims phase epoch nxt seed pot terms claimed ecnt esum efac (sG estr (j + 1)) (nI (j + 1)) ewt ewa rlen rsum rlead rnum nw nwa nled nmis nmio nas nmem ncom nop ndep ndig nnum) ▸ hw) hl9
  exact L19 n 0 (by omega)  _ _ ls ((cw_c rfl rfl rfl rfl rfl rfl rfl rfl rfl rfl rfl (rfl) (rfl) rfl rfl rfl rfl rfl rfl rfl rfl rfl rfl rfl rfl rfl rfl rfl rfl rfl rfl : cw_w ad cy claims phase epoch nxt seed pot terms claimed ecnt esum efac estr 0 ewt ewa rlen rsum rlead rnum nw nwa nled nmis nmio nas nmem ncom nop ndep ndig nnum = cw_w ad cy claims phase epoch nxt seed pot terms claimed ecnt esum efac (sG estr 0) (nI 0) ewt ewa rlen rsum rlead rnum nw nwa nled nmis nmio nas nmem ncom nop ndep ndig nnum) ▸ hw) (lv_sub hl [3, 2, 1, 0] (by first | rfl | (rw [f_us_l (show 0 < n by omega)]; rfl)))
set_option maxHeartbeats 4000000 in
set_option maxRecDepth 100000 in
theorem k_X0_nextLeader (l : Launch) {D : va_G} {ad : Nat → Nat} {cy : Nat → ClassId} {claims phase epoch nxt : Int32} {seed pot : Int64} {terms claimed : Nat → Int32} {ecnt esum efac : Int32} {estr : Int64} {enum : Int32} {ewt ewa : Nat → Int32} {rlen rsum : Int32} {rlead rnum nw nwa nled nmis nmio nas nmem ncom nop : Nat → Int32} {ndep ndig nnum : Nat → Int64} (n : Nat)  (hn : g_ok (g_t esum) estr n)  : ww_MI l D (cw_t cy) yX0_nextLeader wsX0_nextLeader (ww_rm 2 48) [.ref (ad 3)] (cw_w ad cy claims phase epoch nxt seed pot terms claimed ecnt esum efac estr enum ewt ewa rlen rsum rlead rnum nw nwa nled nmis nmio nas nmem ncom nop ndep ndig nnum) (cw_w ad cy claims phase epoch nxt seed pot terms claimed ecnt esum efac (g_ns ewt ewa efac esum estr n) (g_nn ewt ewa efac esum n) ewt (mx 12 (g_pt ewt ewa (g_who ewt ewa efac esum estr n)) ewa) rlen rsum rlead rnum nw nwa nled nmis nmio nas nmem ncom nop ndep ndig nnum) (g_who ewt ewa efac esum estr n) := by
  refine ww_MI_mk .int (cc := cX0_nextLeader) (maxL := 2) (by decide) rfl (Nat.le_of_ble_eq_true rfl) ?_
  intro p e s m below meth c A ls hx hb hr hts hown hlk hml hA hw hl
  have hown : s.vm.findClass RX0 = some m.cls := hown
  have hl : lv_has ls 2 [(0, .ref (ad 3))] := hl
  have hn0 : ∀ w ∈ wsX00, w ∈ wsX0_nextLeader := by decide +kernel
  refine lv_aload_n hx hb dX0_nextLeader_0 rfl (lv_at hl 0 rfl) ?_
  refine lv_iconst (v := 0) hx hb dX0_nextLeader_1 (by decide) ?_
  refine cp_enum hx hb hts hn0 hown hw (hts (.fieldLink RX0 48 "LeaderRows$Electors" "numbers" "I") (by decide +kernel)) dX0_nextLeader_2 (fun H locs hw => ?_)
  refine lv_aload_n hx hb dX0_nextLeader_5 rfl (lv_at hl 0 rfl) ?_
  refine ww_cMI (As := []) (rest := []) hx hb hml hown hts hA hw hl.1 (k_X0_mostOverdue l ) (cwV 0 hts gX0_nextLeader_X0_mostOverdue rfl rfl rfl (by decide +kernel) ⟨Nat.le_of_ble_eq_true rfl, Nat.le_of_ble_eq_true rfl⟩) rfl 3 rfl rfl rfl rfl (Nat.le_of_ble_eq_true rfl) ⟨Nat.zero_le _, Nat.zero_le _⟩ dX0_nextLeader_6 (fun H locs hw => ?_)
  refine lv_istore_n (lv' := [(1, .int (g_od ewt ewa efac esum)), (0, .ref (ad 3))]) hx hb dX0_nextLeader_9 rfl hl (by decide) rfl (fun ls hl => ?_)
  refine lv_iload_n hx hb dX0_nextLeader_10 rfl (lv_at hl 0 rfl) ?_
  refine lv_bipush (v := (-2)) hx hb dX0_nextLeader_11 (by decide) ?_
  refine lv_icmp_ne (tgt := 25) hx hb dX0_nextLeader_13 (by decide) (fun h1 => ?_) (fun h1 => ?_)
  · refine lv_aload_n hx hb dX0_nextLeader_25 rfl (lv_at hl 1 rfl) ?_
    refine lv_iload_n hx hb dX0_nextLeader_26 rfl (lv_at hl 0 rfl) ?_
    refine ww_cMV (As := [.int (g_od ewt ewa efac esum)]) (rest := []) hx hb hml hown hts hA hw hl.1 (k_X0_passTurn l (g_od ewt ewa efac esum)) (cwV 1 hts gX0_nextLeader_X0_passTurn rfl rfl rfl (by decide +kernel) ⟨Nat.le_of_ble_eq_true rfl, Nat.le_of_ble_eq_true rfl⟩) rfl 3 rfl rfl rfl rfl (Nat.le_of_ble_eq_true rfl) ⟨Nat.zero_le _, Nat.zero_le _⟩ dX0_nextLeader_27 (fun H locs hw => ?_)
    refine lv_iload_n hx hb dX0_nextLeader_30 rfl (lv_at hl 0 rfl) ?_
    exact ww_ri hx hb hr hlk hw dX0_nextLeader_31 (by simp only [g_who, g_nn, g_ns, if_neg h1]) (cw_c rfl rfl rfl rfl rfl rfl rfl rfl rfl rfl rfl (by simp only [g_who, g_nn, g_ns, if_neg h1]) (by simp only [g_who, g_nn, g_ns, if_neg h1]) rfl (by simp only [g_who, g_nn, g_ns, if_neg h1]) rfl rfl rfl rfl rfl rfl rfl rfl rfl rfl rfl rfl rfl rfl rfl rfl)
  · refine lv_aload_n hx hb dX0_nextLeader_16 rfl (lv_at hl 1 rfl) ?_
    refine lv_aload_n hx hb dX0_nextLeader_17 rfl (lv_at hl 1 rfl) ?_
    refine ww_cML (As := []) (rest := [.ref (ad 3)]) hx hb hml hown hts hA hw hl.1 (k_X0_drawBelowSum l n  hn) (cwV 0 hts gX0_nextLeader_X0_drawBelowSum rfl rfl rfl (by decide +kernel) ⟨Nat.le_of_ble_eq_true rfl, Nat.le_of_ble_eq_true rfl⟩) rfl 3 rfl rfl rfl rfl (Nat.le_of_ble_eq_true rfl) ⟨Nat.zero_le _, Nat.zero_le _⟩ dX0_nextLeader_18 (fun H locs hw => ?_)
    refine ww_cMI (As := [.long (f_rem (f_mix (sG estr n)) esum)]) (rest := []) hx hb hml hown hts hA hw hl.1 (k_X0_holderOf l (f_rem (f_mix (sG estr n)) esum)) (cwV 1 hts gX0_nextLeader_X0_holderOf rfl rfl rfl (by decide +kernel) ⟨Nat.le_of_ble_eq_true rfl, Nat.le_of_ble_eq_true rfl⟩) rfl 3 rfl rfl rfl rfl (Nat.le_of_ble_eq_true rfl) ⟨Nat.zero_le _, Nat.zero_le _⟩ dX0_nextLeader_21 (fun H locs hw => ?_)
    refine lv_istore_n (lv' := [(1, .int (g_hk ewt (f_rem (f_mix (sG estr n)) esum) 12 0)), (0, .ref (ad 3))]) hx hb dX0_nextLeader_24 rfl hl (by decide) rfl (fun ls hl => ?_)
    refine lv_aload_n hx hb dX0_nextLeader_25 rfl (lv_at hl 1 rfl) ?_
    refine lv_iload_n hx hb dX0_nextLeader_26 rfl (lv_at hl 0 rfl) ?_
    refine ww_cMV (As := [.int (g_hk ewt (f_rem (f_mix (sG estr n)) esum) 12 0)]) (rest := []) hx hb hml hown hts hA hw hl.1 (k_X0_passTurn l (g_hk ewt (f_rem (f_mix (sG estr n)) esum) 12 0)) (cwV 1 hts gX0_nextLeader_X0_passTurn rfl rfl rfl (by decide +kernel) ⟨Nat.le_of_ble_eq_true rfl, Nat.le_of_ble_eq_true rfl⟩) rfl 3 rfl rfl rfl rfl (Nat.le_of_ble_eq_true rfl) ⟨Nat.zero_le _, Nat.zero_le _⟩ dX0_nextLeader_27 (fun H locs hw => ?_)
    refine lv_iload_n hx hb dX0_nextLeader_30 rfl (lv_at hl 0 rfl) ?_
    exact ww_ri hx hb hr hlk hw dX0_nextLeader_31 (by simp only [g_who, g_nn, g_ns, if_pos h1]) (cw_c rfl rfl rfl rfl rfl rfl rfl rfl rfl rfl rfl (by simp only [g_who, g_nn, g_ns, if_pos h1]) (by simp only [g_who, g_nn, g_ns, if_pos h1]) rfl (by simp only [g_who, g_nn, g_ns, if_pos h1]) rfl rfl rfl rfl rfl rfl rfl rfl rfl rfl rfl rfl rfl rfl rfl rfl)
set_option maxHeartbeats 4000000 in
set_option maxRecDepth 100000 in
theorem k_X3_seedOfDraw (l : Launch) {D : va_G} {ad : Nat → Nat} {cy : Nat → ClassId} {claims phase epoch nxt : Int32} {seed pot : Int64} {terms claimed : Nat → Int32} {ecnt esum efac : Int32} {estr : Int64} {enum : Int32} {ewt ewa : Nat → Int32} {rlen rsum : Int32} {rlead rnum nw nwa nled nmis nmio nas nmem ncom nop : Nat → Int32} {ndep ndig nnum : Nat → Int64} (op : Int32) (number : Int64)  : ww_ML l D (cw_t cy) yX3_seedOfDraw wsX3_seedOfDraw (ww_rm 1 23) [.ref (ad 0), .int op, .long number] (cw_w ad cy claims phase epoch nxt seed pot terms claimed ecnt esum efac estr enum ewt ewa rlen rsum rlead rnum nw nwa nled nmis nmio nas nmem ncom nop ndep ndig nnum) (cw_w ad cy claims phase epoch nxt seed pot terms claimed ecnt esum efac estr enum ewt ewa rlen rsum rlead rnum nw nwa nled nmis nmio nas nmem ncom nop ndep ndig nnum) (g_sd (h_c op nop) ndig (v_c op number nnum) (g_s0 seed epoch) 12) := by
  refine ww_ML_mk (cc := cX3_seedOfDraw) (maxL := 8) (by decide) rfl (Nat.le_of_ble_eq_true rfl) ?_
  intro p e s m below meth c A ls hx hb hr hts hown hlk hml hA hw hl
  have hown : s.vm.findClass RX3 = some m.cls := hown
  have hl : lv_has ls 8 [(0, .ref (ad 0)), (1, .int op), (2, .long number)] := hl
  have hn1 : ∀ w ∈ wsX10, w ∈ wsX3_seedOfDraw := by decide +kernel
  have hn3 : ∀ w ∈ wsX30, w ∈ wsX3_seedOfDraw := by decide +kernel
  refine lv_aload_n hx hb dX3_seedOfDraw_0 rfl (lv_at hl 0 rfl) ?_
  refine cg_X3_seed hx hb hts hn3 hown hw (hts (.fieldLink RX3 108 "LeaderRows" "seed" "J") (by decide +kernel)) dX3_seedOfDraw_1 ?_
  refine lv_aload_n hx hb dX3_seedOfDraw_4 rfl (lv_at hl 0 rfl) ?_
  refine cg_X3_epoch hx hb hts hn3 hown hw (hts (.fieldLink RX3 64 "LeaderRows" "epoch" "I") (by decide +kernel)) dX3_seedOfDraw_5 ?_
  refine lv_i2l hx hb dX3_seedOfDraw_8 rfl ?_
  refine lv_ldc2 (v := (-7046029254386353131)) hx hb hown (hts (.constantLong RX3 183 (-7046029254386353131)) (by decide +kernel)) dX3_seedOfDraw_9 ?_
  refine lv_lmul hx hb dX3_seedOfDraw_12 ?_
  refine lv_ladd hx hb dX3_seedOfDraw_13 ?_
  refine ww_cSL (As := [.long (seed + ((epoch.toInt64) * (-7046029254386353131)))]) (rest := []) hx hb hml hown hts hl.1 (k_X3_mix l (seed + ((epoch.toInt64) * (-7046029254386353131)))) (va_cwS 1 hts gX3_seedOfDraw_X3_mix rfl rfl rfl (by decide +kernel) ⟨Nat.le_of_ble_eq_true rfl, Nat.le_of_ble_eq_true rfl⟩) rfl rfl (Nat.le_of_ble_eq_true rfl) ⟨Nat.zero_le _, Nat.zero_le _⟩ dX3_seedOfDraw_14 ?_
  refine lv_lstore (lv' := [(4, .long (f_mix (seed + ((epoch.toInt64) * (-7046029254386353131))))), (0, .ref (ad 0)), (1, .int op), (2, .long number)]) hx hb dX3_seedOfDraw_17 hl (by decide) rfl (fun ls hl => ?_)
  refine lv_iconst (v := 0) hx hb dX3_seedOfDraw_19 (by decide) ?_
  refine lv_istore (lv' := [(6, .int 0), (4, .long (f_mix (seed + ((epoch.toInt64) * (-7046029254386353131))))), (0, .ref (ad 0)), (1, .int op), (2, .long number)]) hx hb dX3_seedOfDraw_20 hl (by decide) rfl (fun ls hl => ?_)
  have L22 : ∀ (L22n k : Nat), k + L22n = 12 → ∀ (H : Heap) (locs : List Loc) (ls : Array Slot), ww_W D (cw_t cy) A s (cw_w ad cy claims phase epoch nxt seed pot terms claimed ecnt esum efac estr enum ewt ewa rlen rsum rlead rnum nw nwa nled nmis nmio nas nmem ncom nop ndep ndig nnum) H locs → lv_has ls 8 [(0, .ref (ad 0)), (1, .int op), (2, .long number), (4, .long (g_sd (h_c op nop) ndig (v_c op number nnum) (g_s0 seed epoch) k)), (6, .int (nI k))] → W p l e (ww_rm 1 23) s m ([.ref (ad 0), .int op, .long number] : List Value).toArray below meth c H locs 0 0 (MQ below (ww_Ql D (cw_t cy) A (cw_w ad cy claims phase epoch nxt seed pot terms claimed ecnt esum efac estr enum ewt ewa rlen rsum rlead rnum nw nwa nled nmis nmio nas nmem ncom nop ndep ndig nnum) (g_sd (h_c op nop) ndig (v_c op number nnum) (g_s0 seed epoch) 12)) ([.ref (ad 0), .int op, .long number] : List Value).toArray s 0 0 A) (F0 m 22 ls []) := by
    intro L22n
    induction L22n with
    | zero =>
      intro k hkk  H locs ls hw hl
      obtain rfl : 12 = k := by omega
      refine lv_iload hx hb dX3_seedOfDraw_22 (lv_at hl 4 rfl) ?_
      refine lv_bipush (v := 12) hx hb dX3_seedOfDraw_24 (by decide) ?_
      refine lv_icmp_ge (tgt := 87) hx hb dX3_seedOfDraw_26 (by decide) (fun _ => ?_) (fun h1 => absurd (by decide) h1)
      refine lv_lload hx hb dX3_seedOfDraw_87 (lv_at hl 3 rfl) ?_
      exact ww_rl hx hb hr hlk hw dX3_seedOfDraw_89 rfl rfl
    | succ L22n ihL22 =>
      intro k hkk  H locs ls hw hl
      have hkkl : k < 12 := by omega
      refine lv_iload hx hb dX3_seedOfDraw_22 (lv_at hl 4 rfl) ?_
      refine lv_bipush (v := 12) hx hb dX3_seedOfDraw_24 (by decide) ?_
      refine lv_icmp_ge (tgt := 87) hx hb dX3_seedOfDraw_26 (by decide) (fun h2 => absurd h2 (nI_nge 12 rfl hkkl (by decide))) (fun _ => ?_)
      refine lv_aload_n hx hb dX3_seedOfDraw_29 rfl (lv_at hl 0 rfl) ?_
      refine cg_X3_nodes hx hb hts hn3 hown hw (hts (.fieldLink RX3 11 "LeaderRows" "nodes" "[LLeaderRows$Node;") (by decide +kernel)) dX3_seedOfDraw_30 ?_
      refine lv_iload hx hb dX3_seedOfDraw_33 (lv_at hl 4 rfl) ?_
      refine ca_nodes hx hb hw k (by omega) rfl dX3_seedOfDraw_35 ?_
      refine lv_astore (lv' := [(7, .ref (ad (10 + k))), (0, .ref (ad 0)), (1, .int op), (2, .long number), (4, .long (g_sd (h_c op nop) ndig (v_c op number nnum) (g_s0 seed epoch) k)), (6, .int (nI k))]) hx hb dX3_seedOfDraw_36 hl (by decide) rfl (fun ls hl => ?_)
      refine lv_aload hx hb dX3_seedOfDraw_38 (lv_at hl 0 rfl) ?_
      refine cg_X1_opened hx hb hts hn1 hown hw (by omega) (hts (.fieldLink RX3 93 "LeaderRows$Node" "opened" "Z") (by decide +kernel)) dX3_seedOfDraw_40 ?_
      refine lv_if_ne (tgt := 52) hx hb dX3_seedOfDraw_43 (by decide) (fun h3 => ?_) (fun h3 => ?_)
      · refine lv_lload hx hb dX3_seedOfDraw_52 (lv_at hl 4 rfl) ?_
        refine lv_aload hx hb dX3_seedOfDraw_54 (lv_at hl 0 rfl) ?_
        refine cg_X1_digest hx hb hts hn1 hown hw (by omega) (hts (.fieldLink RX3 78 "LeaderRows$Node" "digest" "J") (by decide +kernel)) dX3_seedOfDraw_56 ?_
        refine lv_lxor hx hb dX3_seedOfDraw_59 ?_
        refine lv_iload hx hb dX3_seedOfDraw_60 (lv_at hl 5 rfl) ?_
        refine lv_iload_n hx hb dX3_seedOfDraw_62 rfl (lv_at hl 2 rfl) ?_
        refine ww_joinL (rest := [.long ((g_sd (h_c op nop) ndig (v_c op number nnum) (g_s0 seed epoch) k) ^^^ (ndig k))]) 75 (if (nI k) = op then number else nnum k) (fun K4 => ?_) ?_
        · refine lv_icmp_ne (tgt := 70) hx hb dX3_seedOfDraw_63 (by decide) (fun h5 => ?_) (fun h5 => ?_)
          · refine lv_aload hx hb dX3_seedOfDraw_70 (lv_at hl 0 rfl) ?_
            refine cg_X1_number hx hb hts hn1 hown hw (by omega) (hts (.fieldLink RX3 96 "LeaderRows$Node" "number" "J") (by decide +kernel)) dX3_seedOfDraw_72 ?_
            exact ww_topl (by rw [if_neg h5]) K4
          · refine lv_lload_n hx hb dX3_seedOfDraw_66 rfl (lv_at hl 3 rfl) ?_
            refine lv_goto (tgt := 75) hx hb dX3_seedOfDraw_67 (by decide) ?_
            exact ww_topl (by rw [if_pos h5]) K4
        refine lv_lxor hx hb dX3_seedOfDraw_75 ?_
        refine ww_cSL (As := [.long (((g_sd (h_c op nop) ndig (v_c op number nnum) (g_s0 seed epoch) k) ^^^ (ndig k)) ^^^ (if (nI k) = op then number else nnum k))]) (rest := []) hx hb hml hown hts hl.1 (k_X3_mix l (((g_sd (h_c op nop) ndig (v_c op number nnum) (g_s0 seed epoch) k) ^^^ (ndig k)) ^^^ (if (nI k) = op then number else nnum k))) (va_cwS 1 hts gX3_seedOfDraw_X3_mix rfl rfl rfl (by decide +kernel) ⟨Nat.le_of_ble_eq_true rfl, Nat.le_of_ble_eq_true rfl⟩) rfl rfl (Nat.le_of_ble_eq_true rfl) ⟨Nat.zero_le _, Nat.zero_le _⟩ dX3_seedOfDraw_76 ?_
        refine lv_lstore (lv' := [(4, .long (f_mix (((g_sd (h_c op nop) ndig (v_c op number nnum) (g_s0 seed epoch) k) ^^^ (ndig k)) ^^^ (if (nI k) = op then number else nnum k)))), (7, .ref (ad (10 + k))), (0, .ref (ad 0)), (1, .int op), (2, .long number), (6, .int (nI k))]) hx hb dX3_seedOfDraw_79 hl (by decide) rfl (fun ls hl => ?_)
        refine lv_iinc (v := nI (k + 1)) (lv' := [(6, .int (nI (k + 1))), (4, .long (f_mix (((g_sd (h_c op nop) ndig (v_c op number nnum) (g_s0 seed epoch) k) ^^^ (ndig k)) ^^^ (if (nI k) = op then number else nnum k)))), (7, .ref (ad (10 + k))), (0, .ref (ad 0)), (1, .int op), (2, .long number)]) hx hb dX3_seedOfDraw_81 hl (k := 5) rfl (nI_1 k) (by decide) rfl (fun ls hl => ?_)
        refine lv_goto (tgt := 22) hx hb dX3_seedOfDraw_84 (by decide) ?_
        have q6 : (f_mix (((g_sd (h_c op nop) ndig (v_c op number nnum) (g_s0 seed epoch) k) ^^^ (ndig k)) ^^^ (if (nI k) = op then number else nnum k))) = g_sd (h_c op nop) ndig (v_c op number nnum) (g_s0 seed epoch) (k + 1) := by first | (rw [g_sd, if_neg (h_c1 h3), v_c]; done) | (rw [g_sd, if_neg (h_c2 h3 h3), v_c]; done) | (rw [g_sd, if_pos (h_c3 h3 h3)]; done)
        have hl9 : lv_has ls 8 [(0, .ref (ad 0)), (1, .int op), (2, .long number), (4, .long (g_sd (h_c op nop) ndig (v_c op number nnum) (g_s0 seed epoch) (k + 1))), (6, .int (nI (k + 1)))] := by rw [← q6]; exact lv_sub hl [3, 4, 5, 1, 0] rfl
        exact ihL22 (k + 1) (by omega)  _ _ ls hw hl9
      · refine lv_iload hx hb dX3_seedOfDraw_46 (lv_at hl 5 rfl) ?_
        refine lv_iload_n hx hb dX3_seedOfDraw_48 rfl (lv_at hl 2 rfl) ?_
        refine lv_icmp_ne (tgt := 81) hx hb dX3_seedOfDraw_49 (by decide) (fun h7 => ?_) (fun h7 => ?_)
        · refine lv_iinc (v := nI (k + 1)) (lv' := [(6, .int (nI (k + 1))), (7, .ref (ad (10 + k))), (0, .ref (ad 0)), (1, .int op), (2, .long number), (4, .long (g_sd (h_c op nop) ndig (v_c op number nnum) (g_s0 seed epoch) k))]) hx hb dX3_seedOfDraw_81 hl (k := 5) rfl (nI_1 k) (by decide) rfl (fun ls hl => ?_)
          refine lv_goto (tgt := 22) hx hb dX3_seedOfDraw_84 (by decide) ?_
          have q8 : (g_sd (h_c op nop) ndig (v_c op number nnum) (g_s0 seed epoch) k) = g_sd (h_c op nop) ndig (v_c op number nnum) (g_s0 seed epoch) (k + 1) := by first | (rw [g_sd, if_neg (h_c1 h3), v_c]; done) | (rw [g_sd, if_neg (h_c2 h3 h7), v_c]; done) | (rw [g_sd, if_pos (h_c3 h3 h7)]; done)
          have hl9 : lv_has ls 8 [(0, .ref (ad 0)), (1, .int op), (2, .long number), (4, .long (g_sd (h_c op nop) ndig (v_c op number nnum) (g_s0 seed epoch) (k + 1))), (6, .int (nI (k + 1)))] := by rw [← q8]; exact lv_sub hl [2, 3, 4, 5, 0] rfl
          exact ihL22 (k + 1) (by omega)  _ _ ls hw hl9
        · refine lv_lload hx hb dX3_seedOfDraw_52 (lv_at hl 4 rfl) ?_
          refine lv_aload hx hb dX3_seedOfDraw_54 (lv_at hl 0 rfl) ?_
          refine cg_X1_digest hx hb hts hn1 hown hw (by omega) (hts (.fieldLink RX3 78 "LeaderRows$Node" "digest" "J") (by decide +kernel)) dX3_seedOfDraw_56 ?_
          refine lv_lxor hx hb dX3_seedOfDraw_59 ?_
          refine lv_iload hx hb dX3_seedOfDraw_60 (lv_at hl 5 rfl) ?_
          refine lv_iload_n hx hb dX3_seedOfDraw_62 rfl (lv_at hl 2 rfl) ?_
          refine ww_joinL (rest := [.long ((g_sd (h_c op nop) ndig (v_c op number nnum) (g_s0 seed epoch) k) ^^^ (ndig k))]) 75 (if (nI k) = op then number else nnum k) (fun K9 => ?_) ?_
          · refine lv_icmp_ne (tgt := 70) hx hb dX3_seedOfDraw_63 (by decide) (fun h10 => ?_) (fun h10 => ?_)
            · refine lv_aload hx hb dX3_seedOfDraw_70 (lv_at hl 0 rfl) ?_
              refine cg_X1_number hx hb hts hn1 hown hw (by omega) (hts (.fieldLink RX3 96 "LeaderRows$Node" "number" "J") (by decide +kernel)) dX3_seedOfDraw_72 ?_
              exact ww_topl (by rw [if_neg h10]) K9
            · refine lv_lload_n hx hb dX3_seedOfDraw_66 rfl (lv_at hl 3 rfl) ?_
              refine lv_goto (tgt := 75) hx hb dX3_seedOfDraw_67 (by decide) ?_
              exact ww_topl (by rw [if_pos h10]) K9
          refine lv_lxor hx hb dX3_seedOfDraw_75 ?_
          refine ww_cSL (As := [.long (((g_sd (h_c op nop) ndig (v_c op number nnum) (g_s0 seed epoch) k) ^^^ (ndig k)) ^^^ (if (nI k) = op then number else nnum k))]) (rest := []) hx hb hml hown hts hl.1 (k_X3_mix l (((g_sd (h_c op nop) ndig (v_c op number nnum) (g_s0 seed epoch) k) ^^^ (ndig k)) ^^^ (if (nI k) = op then number else nnum k))) (va_cwS 1 hts gX3_seedOfDraw_X3_mix rfl rfl rfl (by decide +kernel) ⟨Nat.le_of_ble_eq_true rfl, Nat.le_of_ble_eq_true rfl⟩) rfl rfl (Nat.le_of_ble_eq_true rfl) ⟨Nat.zero_le _, Nat.zero_le _⟩ dX3_seedOfDraw_76 ?_
          refine lv_lstore (lv' := [(4, .long (f_mix (((g_sd (h_c op nop) ndig (v_c op number nnum) (g_s0 seed epoch) k) ^^^ (ndig k)) ^^^ (if (nI k) = op then number else nnum k)))), (7, .ref (ad (10 + k))), (0, .ref (ad 0)), (1, .int op), (2, .long number), (6, .int (nI k))]) hx hb dX3_seedOfDraw_79 hl (by decide) rfl (fun ls hl => ?_)
          refine lv_iinc (v := nI (k + 1)) (lv' := [(6, .int (nI (k + 1))), (4, .long (f_mix (((g_sd (h_c op nop) ndig (v_c op number nnum) (g_s0 seed epoch) k) ^^^ (ndig k)) ^^^ (if (nI k) = op then number else nnum k)))), (7, .ref (ad (10 + k))), (0, .ref (ad 0)), (1, .int op), (2, .long number)]) hx hb dX3_seedOfDraw_81 hl (k := 5) rfl (nI_1 k) (by decide) rfl (fun ls hl => ?_)
          refine lv_goto (tgt := 22) hx hb dX3_seedOfDraw_84 (by decide) ?_
          have q11 : (f_mix (((g_sd (h_c op nop) ndig (v_c op number nnum) (g_s0 seed epoch) k) ^^^ (ndig k)) ^^^ (if (nI k) = op then number else nnum k))) = g_sd (h_c op nop) ndig (v_c op number nnum) (g_s0 seed epoch) (k + 1) := by first | (rw [g_sd, if_neg (h_c1 h3), v_c]; done) | (rw [g_sd, if_neg (h_c2 h3 h7), v_c]; done) | (rw [g_sd, if_pos (h_c3 h3 h7)]; done)
          have hl9 : lv_has ls 8 [(0, .ref (ad 0)), (1, .int op), (2, .long number), (4, .long (g_sd (h_c op nop) ndig (v_c op number nnum) (g_s0 seed epoch) (k + 1))), (6, .int (nI (k + 1)))] := by rw [← q11]; exact lv_sub hl [3, 4, 5, 1, 0] rfl
          exact ihL22 (k + 1) (by omega)  _ _ ls hw hl9
  exact L22 12 0 (by omega)  _ _ ls hw (lv_sub hl [2, 3, 4, 1, 0] (by first | rfl | (simp [lv_pick])))
set_option maxHeartbeats 4000000 in
set_option maxRecDepth 100000 in
theorem k_X0_gather (l : Launch) {D : va_G} {ad : Nat → Nat} {cy : Nat → ClassId} {claims phase epoch nxt : Int32} {seed pot : Int64} {terms claimed : Nat → Int32} {ecnt esum efac : Int32} {estr : Int64} {enum : Int32} {ewt ewa : Nat → Int32} {rlen rsum : Int32} {rlead rnum nw nwa nled nmis nmio nas nmem ncom nop : Nat → Int32} {ndep ndig nnum : Nat → Int64} (op : Int32) (fn : Int32) (sm : Int64)  : ww_MV l D (cw_t cy) yX0_gather wsX0_gather (ww_rm 1 20) [.ref (ad 3), .ref (ad 1), .int op, .int fn, .long sm] (cw_w ad cy claims phase epoch nxt seed pot terms claimed ecnt esum efac estr enum ewt ewa rlen rsum rlead rnum nw nwa nled nmis nmio nas nmem ncom nop ndep ndig nnum) (cw_w ad cy claims phase epoch nxt seed pot terms claimed (f_cn (g_e op nmem ncom nop) 12) (g_sum (g_w (g_e op nmem ncom nop) nw) 12) fn sm enum (mx 12 (g_w (g_e op nmem ncom nop) nw) ewt) (mx 12 nwa ewa) rlen rsum rlead rnum nw nwa nled nmis nmio nas nmem ncom nop ndep ndig nnum) := by
  refine ww_MV_mk (cc := cX0_gather) (maxL := 9) (by decide) rfl (Nat.le_of_ble_eq_true rfl) ?_
  intro p e s m below meth c A ls hx hb hr hts hown hlk hml hA hw hl
  have hown : s.vm.findClass RX0 = some m.cls := hown
  have hl : lv_has ls 9 [(0, .ref (ad 3)), (1, .ref (ad 1)), (2, .int op), (3, .int fn), (4, .long sm)] := hl
  have hn0 : ∀ w ∈ wsX00, w ∈ wsX0_gather := by decide +kernel
  have hn1 : ∀ w ∈ wsX10, w ∈ wsX0_gather := by decide +kernel
  refine lv_aload_n hx hb dX0_gather_0 rfl (lv_at hl 0 rfl) ?_
  refine lv_iconst (v := 0) hx hb dX0_gather_1 (by decide) ?_
  refine cp_ecnt hx hb hts hn0 hown hw (hts (.fieldLink RX0 18 "LeaderRows$Electors" "count" "I") (by decide +kernel)) dX0_gather_2 (fun H locs hw => ?_)
  refine lv_aload_n hx hb dX0_gather_5 rfl (lv_at hl 0 rfl) ?_
  refine lv_iconst (v := 0) hx hb dX0_gather_6 (by decide) ?_
  refine cp_esum hx hb hts hn0 hown hw (hts (.fieldLink RX0 22 "LeaderRows$Electors" "sum" "I") (by decide +kernel)) dX0_gather_7 (fun H locs hw => ?_)
  refine lv_aload_n hx hb dX0_gather_10 rfl (lv_at hl 0 rfl) ?_
  refine lv_iload_n hx hb dX0_gather_11 rfl (lv_at hl 3 rfl) ?_
  refine cp_efac hx hb hts hn0 hown hw (hts (.fieldLink RX0 25 "LeaderRows$Electors" "factor" "I") (by decide +kernel)) dX0_gather_12 (fun H locs hw => ?_)
  refine lv_aload_n hx hb dX0_gather_15 rfl (lv_at hl 0 rfl) ?_
  refine lv_lload hx hb dX0_gather_16 (lv_at hl 4 rfl) ?_
  refine cp_estr hx hb hts hn0 hown hw (hts (.fieldLink RX0 28 "LeaderRows$Electors" "stream" "J") (by decide +kernel)) dX0_gather_18 (fun H locs hw => ?_)
  refine lv_iconst (v := 0) hx hb dX0_gather_21 (by decide) ?_
  refine lv_istore (lv' := [(6, .int 0), (0, .ref (ad 3)), (1, .ref (ad 1)), (2, .int op), (3, .int fn), (4, .long sm)]) hx hb dX0_gather_22 hl (by decide) rfl (fun ls hl => ?_)
  have L24 : ∀ (L24n k : Nat), k + L24n = 12 → ∀ (H : Heap) (locs : List Loc) (ls : Array Slot), ww_W D (cw_t cy) A s (cw_w ad cy claims phase epoch nxt seed pot terms claimed (f_cn (g_e op nmem ncom nop) k) (g_sum (g_w (g_e op nmem ncom nop) nw) k) fn sm enum (mx k (g_w (g_e op nmem ncom nop) nw) ewt) (mx k nwa ewa) rlen rsum rlead rnum nw nwa nled nmis nmio nas nmem ncom nop ndep ndig nnum) H locs → lv_has ls 9 [(0, .ref (ad 3)), (1, .ref (ad 1)), (2, .int op), (6, .int (nI k))] → W p l e (ww_rm 1 20) s m ([.ref (ad 3), .ref (ad 1), .int op, .int fn, .long sm] : List Value).toArray below meth c H locs 0 0 (MQ below (ww_Qv D (cw_t cy) A (cw_w ad cy claims phase epoch nxt seed pot terms claimed (f_cn (g_e op nmem ncom nop) 12) (g_sum (g_w (g_e op nmem ncom nop) nw) 12) fn sm enum (mx 12 (g_w (g_e op nmem ncom nop) nw) ewt) (mx 12 nwa ewa) rlen rsum rlead rnum nw nwa nled nmis nmio nas nmem ncom nop ndep ndig nnum)) ([.ref (ad 3), .ref (ad 1), .int op, .int fn, .long sm] : List Value).toArray s 0 0 A) (F0 m 24 ls []) := by
    intro L24n
    induction L24n with
    | zero =>
      intro k hkk  H locs ls hw hl
      obtain rfl : 12 = k := by omega
      refine lv_iload hx hb dX0_gather_24 (lv_at hl 3 rfl) ?_
      refine lv_bipush (v := 12) hx hb dX0_gather_26 (by decide) ?_
      refine lv_icmp_ge (tgt := 136) hx hb dX0_gather_28 (by decide) (fun _ => ?_) (fun h1 => absurd (by decide) h1)
      exact ww_rv hx hb hr hlk hw dX0_gather_136 rfl
    | succ L24n ihL24 =>
      intro k hkk  H locs ls hw hl
      have hkkl : k < 12 := by omega
      refine lv_iload hx hb dX0_gather_24 (lv_at hl 3 rfl) ?_
      refine lv_bipush (v := 12) hx hb dX0_gather_26 (by decide) ?_
      refine lv_icmp_ge (tgt := 136) hx hb dX0_gather_28 (by decide) (fun h2 => absurd h2 (nI_nge 12 rfl hkkl (by decide))) (fun _ => ?_)
      refine lv_aload_n hx hb dX0_gather_31 rfl (lv_at hl 1 rfl) ?_
      refine lv_iload hx hb dX0_gather_32 (lv_at hl 3 rfl) ?_
      refine ca_nodes hx hb hw k (by omega) rfl dX0_gather_34 ?_
      refine lv_astore (lv' := [(7, .ref (ad (10 + k))), (0, .ref (ad 3)), (1, .ref (ad 1)), (2, .int op), (6, .int (nI k))]) hx hb dX0_gather_35 hl (by decide) rfl (fun ls hl => ?_)
      refine lv_aload hx hb dX0_gather_37 (lv_at hl 0 rfl) ?_
      refine cg_X1_member hx hb hts hn1 hown hw (by omega) (hts (.fieldLink RX0 32 "LeaderRows$Node" "member" "Z") (by decide +kernel)) dX0_gather_39 ?_
      refine lv_if_eq (tgt := 63) hx hb dX0_gather_42 (by decide) (fun h3 => ?_) (fun h3 => ?_)
      · refine lv_iconst (v := 0) hx hb dX0_gather_63 (by decide) ?_
        refine lv_istore (lv' := [(8, .int 0), (7, .ref (ad (10 + k))), (0, .ref (ad 3)), (1, .ref (ad 1)), (2, .int op), (6, .int (nI k))]) hx hb dX0_gather_64 hl (by decide) rfl (fun ls hl => ?_)
        refine lv_aload_n hx hb dX0_gather_66 rfl (lv_at hl 2 rfl) ?_
        refine cg_X0_weights hx hb hts hn0 hown hw (hts (.fieldLink RX0 9 "LeaderRows$Electors" "weights" "[I") (by decide +kernel)) dX0_gather_67 ?_
        refine lv_iload hx hb dX0_gather_70 (lv_at hl 5 rfl) ?_
        refine lv_iload hx hb dX0_gather_72 (lv_at hl 0 rfl) ?_
        refine ww_joinI (rest := [.int (nI k), .ref (ad 6)]) 86 (if (0 : Int32) = 0 then 0 else nw k) (fun K4 => ?_) ?_
        · refine lv_if_eq (tgt := 85) hx hb dX0_gather_74 (by decide) (fun h5 => ?_) (fun h5 => ?_)
          · refine lv_iconst (v := 0) hx hb dX0_gather_85 (by decide) ?_
            exact ww_top (by rw [if_pos h5]) K4
          · refine lv_aload hx hb dX0_gather_77 (lv_at hl 1 rfl) ?_
            refine cg_X1_weight hx hb hts hn1 hown hw (by omega) (hts (.fieldLink RX0 42 "LeaderRows$Node" "weight" "I") (by decide +kernel)) dX0_gather_79 ?_
            refine lv_goto (tgt := 86) hx hb dX0_gather_82 (by decide) ?_
            exact ww_top (by rw [if_neg h5]) K4
        refine cs_ewt hx hb hw k (by omega) rfl dX0_gather_86 (fun H locs hw => ?_)
        refine lv_aload_n hx hb dX0_gather_87 rfl (lv_at hl 2 rfl) ?_
        refine cg_X0_waits hx hb hts hn0 hown hw (hts (.fieldLink RX0 15 "LeaderRows$Electors" "waits" "[I") (by decide +kernel)) dX0_gather_88 ?_
        refine lv_iload hx hb dX0_gather_91 (lv_at hl 5 rfl) ?_
        refine lv_aload hx hb dX0_gather_93 (lv_at hl 1 rfl) ?_
        refine cg_X1_wait hx hb hts hn1 hown hw (by omega) (hts (.fieldLink RX0 45 "LeaderRows$Node" "wait" "I") (by decide +kernel)) dX0_gather_95 ?_
        refine cs_ewa hx hb hw k (by omega) rfl dX0_gather_98 (fun H locs hw => ?_)
        refine lv_aload_n hx hb dX0_gather_99 rfl (lv_at hl 2 rfl) ?_
        refine lv_dup hx hb dX0_gather_100 rfl ?_
        refine cg_X0_sum hx hb hts hn0 hown hw (hts (.fieldLink RX0 22 "LeaderRows$Electors" "sum" "I") (by decide +kernel)) dX0_gather_101 ?_
        refine lv_aload_n hx hb dX0_gather_104 rfl (lv_at hl 2 rfl) ?_
        refine cg_X0_weights hx hb hts hn0 hown hw (hts (.fieldLink RX0 9 "LeaderRows$Electors" "weights" "[I") (by decide +kernel)) dX0_gather_105 ?_
        refine lv_iload hx hb dX0_gather_108 (lv_at hl 5 rfl) ?_
        refine ca_ewt hx hb hw k (by omega) rfl dX0_gather_110 ?_
        refine lv_iadd hx hb dX0_gather_111 ?_
        refine cp_esum hx hb hts hn0 hown hw (hts (.fieldLink RX0 22 "LeaderRows$Electors" "sum" "I") (by decide +kernel)) dX0_gather_112 (fun H locs hw => ?_)
        refine lv_iload hx hb dX0_gather_115 (lv_at hl 0 rfl) ?_
        refine lv_if_eq (tgt := 130) hx hb dX0_gather_117 (by decide) (fun _ => ?_) (fun h6 => absurd (by decide) h6)
        refine lv_iinc (v := nI (k + 1)) (lv' := [(6, .int (nI (k + 1))), (8, .int 0), (7, .ref (ad (10 + k))), (0, .ref (ad 3)), (1, .ref (ad 1)), (2, .int op)]) hx hb dX0_gather_130 hl (k := 5) rfl (nI_1 k) (by decide) rfl (fun ls hl => ?_)
        refine lv_goto (tgt := 24) hx hb dX0_gather_133 (by decide) ?_
        exact ihL24 (k + 1) (by omega)  _ _ ls ((cw_c rfl rfl rfl rfl rfl rfl rfl rfl (ge_c1 h3) (congrArg (g_sum (g_w (g_e op nmem ncom nop) nw) k + ·) ((upd_s _ _ _).trans (ge_w1 h3))) rfl rfl rfl (mx_up (ge_w1 h3)) (mx_up rfl) rfl rfl rfl rfl rfl rfl rfl rfl rfl rfl rfl rfl rfl rfl rfl rfl : cw_w ad cy claims phase epoch nxt seed pot terms claimed (f_cn (g_e op nmem ncom nop) k) ((g_sum (g_w (g_e op nmem ncom nop) nw) k) + ((upd (mx k (g_w (g_e op nmem ncom nop) nw) ewt) k (if (0 : Int32) = 0 then 0 else nw k)) k)) fn sm enum (upd (mx k (g_w (g_e op nmem ncom nop) nw) ewt) k (if (0 : Int32) = 0 then 0 else nw k)) (upd (mx k nwa ewa) k (nwa k)) rlen rsum rlead rnum nw nwa nled nmis nmio nas nmem ncom nop ndep ndig nnum = cw_w ad cy claims phase epoch nxt seed pot terms claimed (f_cn (g_e op nmem ncom nop) (k + 1)) (g_sum (g_w (g_e op nmem ncom nop) nw) (k + 1)) fn sm enum (mx (k + 1) (g_w (g_e op nmem ncom nop) nw) ewt) (mx (k + 1) nwa ewa) rlen rsum rlead rnum nw nwa nled nmis nmio nas nmem ncom nop ndep ndig nnum) ▸ hw) (lv_sub hl [3, 4, 5, 0] rfl)
      · refine lv_aload hx hb dX0_gather_45 (lv_at hl 0 rfl) ?_
        refine ww_cMI (As := []) (rest := []) hx hb hml hown hts hA hw hl.1 (k_X1_withholds l k  (by omega)) (cwV 0 hts gX0_gather_X1_withholds rfl rfl rfl (by decide +kernel) ⟨Nat.le_of_ble_eq_true rfl, Nat.le_of_ble_eq_true rfl⟩) rfl (10 + k) (cw_at rfl _ (by omega)) rfl rfl rfl (Nat.le_of_ble_eq_true rfl) ⟨Nat.zero_le _, Nat.zero_le _⟩ dX0_gather_47 (fun H locs hw => ?_)
        refine lv_if_eq (tgt := 59) hx hb dX0_gather_50 (by decide) (fun h7 => ?_) (fun h7 => ?_)
        · refine lv_iconst (v := 1) hx hb dX0_gather_59 (by decide) ?_
          refine lv_goto (tgt := 64) hx hb dX0_gather_60 (by decide) ?_
          refine lv_istore (lv' := [(8, .int 1), (7, .ref (ad (10 + k))), (0, .ref (ad 3)), (1, .ref (ad 1)), (2, .int op), (6, .int (nI k))]) hx hb dX0_gather_64 hl (by decide) rfl (fun ls hl => ?_)
          refine lv_aload_n hx hb dX0_gather_66 rfl (lv_at hl 2 rfl) ?_
          refine cg_X0_weights hx hb hts hn0 hown hw (hts (.fieldLink RX0 9 "LeaderRows$Electors" "weights" "[I") (by decide +kernel)) dX0_gather_67 ?_
          refine lv_iload hx hb dX0_gather_70 (lv_at hl 5 rfl) ?_
          refine lv_iload hx hb dX0_gather_72 (lv_at hl 0 rfl) ?_
          refine ww_joinI (rest := [.int (nI k), .ref (ad 6)]) 86 (if (1 : Int32) = 0 then 0 else nw k) (fun K8 => ?_) ?_
          · refine lv_if_eq (tgt := 85) hx hb dX0_gather_74 (by decide) (fun h9 => ?_) (fun h9 => ?_)
            · refine lv_iconst (v := 0) hx hb dX0_gather_85 (by decide) ?_
              exact ww_top (by rw [if_pos h9]) K8
            · refine lv_aload hx hb dX0_gather_77 (lv_at hl 1 rfl) ?_
              refine cg_X1_weight hx hb hts hn1 hown hw (by omega) (hts (.fieldLink RX0 42 "LeaderRows$Node" "weight" "I") (by decide +kernel)) dX0_gather_79 ?_
              refine lv_goto (tgt := 86) hx hb dX0_gather_82 (by decide) ?_
              exact ww_top (by rw [if_neg h9]) K8
          refine cs_ewt hx hb hw k (by omega) rfl dX0_gather_86 (fun H locs hw => ?_)
          refine lv_aload_n hx hb dX0_gather_87 rfl (lv_at hl 2 rfl) ?_
          refine cg_X0_waits hx hb hts hn0 hown hw (hts (.fieldLink RX0 15 "LeaderRows$Electors" "waits" "[I") (by decide +kernel)) dX0_gather_88 ?_
          refine lv_iload hx hb dX0_gather_91 (lv_at hl 5 rfl) ?_
          refine lv_aload hx hb dX0_gather_93 (lv_at hl 1 rfl) ?_
          refine cg_X1_wait hx hb hts hn1 hown hw (by omega) (hts (.fieldLink RX0 45 "LeaderRows$Node" "wait" "I") (by decide +kernel)) dX0_gather_95 ?_
          refine cs_ewa hx hb hw k (by omega) rfl dX0_gather_98 (fun H locs hw => ?_)
          refine lv_aload_n hx hb dX0_gather_99 rfl (lv_at hl 2 rfl) ?_
          refine lv_dup hx hb dX0_gather_100 rfl ?_
          refine cg_X0_sum hx hb hts hn0 hown hw (hts (.fieldLink RX0 22 "LeaderRows$Electors" "sum" "I") (by decide +kernel)) dX0_gather_101 ?_
          refine lv_aload_n hx hb dX0_gather_104 rfl (lv_at hl 2 rfl) ?_
          refine cg_X0_weights hx hb hts hn0 hown hw (hts (.fieldLink RX0 9 "LeaderRows$Electors" "weights" "[I") (by decide +kernel)) dX0_gather_105 ?_
          refine lv_iload hx hb dX0_gather_108 (lv_at hl 5 rfl) ?_
          refine ca_ewt hx hb hw k (by omega) rfl dX0_gather_110 ?_
          refine lv_iadd hx hb dX0_gather_111 ?_
          refine cp_esum hx hb hts hn0 hown hw (hts (.fieldLink RX0 22 "LeaderRows$Electors" "sum" "I") (by decide +kernel)) dX0_gather_112 (fun H locs hw => ?_)
          refine lv_iload hx hb dX0_gather_115 (lv_at hl 0 rfl) ?_
          refine lv_if_eq (tgt := 130) hx hb dX0_gather_117 (by decide) (fun h10 => absurd h10 (by decide)) (fun _ => ?_)
          refine lv_aload_n hx hb dX0_gather_120 rfl (lv_at hl 2 rfl) ?_
          refine lv_dup hx hb dX0_gather_121 rfl ?_
          refine cg_X0_count hx hb hts hn0 hown hw (hts (.fieldLink RX0 18 "LeaderRows$Electors" "count" "I") (by decide +kernel)) dX0_gather_122 ?_
          refine lv_iconst (v := 1) hx hb dX0_gather_125 (by decide) ?_
          refine lv_iadd hx hb dX0_gather_126 ?_
          refine cp_ecnt hx hb hts hn0 hown hw (hts (.fieldLink RX0 18 "LeaderRows$Electors" "count" "I") (by decide +kernel)) dX0_gather_127 (fun H locs hw => ?_)
          refine lv_iinc (v := nI (k + 1)) (lv' := [(6, .int (nI (k + 1))), (8, .int 1), (7, .ref (ad (10 + k))), (0, .ref (ad 3)), (1, .ref (ad 1)), (2, .int op)]) hx hb dX0_gather_130 hl (k := 5) rfl (nI_1 k) (by decide) rfl (fun ls hl => ?_)
          refine lv_goto (tgt := 24) hx hb dX0_gather_133 (by decide) ?_
          exact ihL24 (k + 1) (by omega)  _ _ ls ((cw_c rfl rfl rfl rfl rfl rfl rfl rfl (ge_c2 h3 h7) (congrArg (g_sum (g_w (g_e op nmem ncom nop) nw) k + ·) ((upd_s _ _ _).trans (ge_w2 h3 h7))) rfl rfl rfl (mx_up (ge_w2 h3 h7)) (mx_up rfl) rfl rfl rfl rfl rfl rfl rfl rfl rfl rfl rfl rfl rfl rfl rfl rfl : cw_w ad cy claims phase epoch nxt seed pot terms claimed ((f_cn (g_e op nmem ncom nop) k) + 1) ((g_sum (g_w (g_e op nmem ncom nop) nw) k) + ((upd (mx k (g_w (g_e op nmem ncom nop) nw) ewt) k (if (1 : Int32) = 0 then 0 else nw k)) k)) fn sm enum (upd (mx k (g_w (g_e op nmem ncom nop) nw) ewt) k (if (1 : Int32) = 0 then 0 else nw k)) (upd (mx k nwa ewa) k (nwa k)) rlen rsum rlead rnum nw nwa nled nmis nmio nas nmem ncom nop ndep ndig nnum = cw_w ad cy claims phase epoch nxt seed pot terms claimed (f_cn (g_e op nmem ncom nop) (k + 1)) (g_sum (g_w (g_e op nmem ncom nop) nw) (k + 1)) fn sm enum (mx (k + 1) (g_w (g_e op nmem ncom nop) nw) ewt) (mx (k + 1) nwa ewa) rlen rsum rlead rnum nw nwa nled nmis nmio nas nmem ncom nop ndep ndig nnum) ▸ hw) (lv_sub hl [3, 4, 5, 0] rfl)
        · refine lv_iload hx hb dX0_gather_53 (lv_at hl 4 rfl) ?_
          refine lv_iload_n hx hb dX0_gather_55 rfl (lv_at hl 3 rfl) ?_
          refine lv_icmp_ne (tgt := 63) hx hb dX0_gather_56 (by decide) (fun h11 => ?_) (fun h11 => ?_)
          · refine lv_iconst (v := 0) hx hb dX0_gather_63 (by decide) ?_
            refine lv_istore (lv' := [(8, .int 0), (7, .ref (ad (10 + k))), (0, .ref (ad 3)), (1, .ref (ad 1)), (2, .int op), (6, .int (nI k))]) hx hb dX0_gather_64 hl (by decide) rfl (fun ls hl => ?_)
            refine lv_aload_n hx hb dX0_gather_66 rfl (lv_at hl 2 rfl) ?_
            refine cg_X0_weights hx hb hts hn0 hown hw (hts (.fieldLink RX0 9 "LeaderRows$Electors" "weights" "[I") (by decide +kernel)) dX0_gather_67 ?_
            refine lv_iload hx hb dX0_gather_70 (lv_at hl 5 rfl) ?_
            refine lv_iload hx hb dX0_gather_72 (lv_at hl 0 rfl) ?_
            refine ww_joinI (rest := [.int (nI k), .ref (ad 6)]) 86 (if (0 : Int32) = 0 then 0 else nw k) (fun K12 => ?_) ?_
            · refine lv_if_eq (tgt := 85) hx hb dX0_gather_74 (by decide) (fun h13 => ?_) (fun h13 => ?_)
              · refine lv_iconst (v := 0) hx hb dX0_gather_85 (by decide) ?_
                exact ww_top (by rw [if_pos h13]) K12
              · refine lv_aload hx hb dX0_gather_77 (lv_at hl 1 rfl) ?_
                refine cg_X1_weight hx hb hts hn1 hown hw (by omega) (hts (.fieldLink RX0 42 "LeaderRows$Node" "weight" "I") (by decide +kernel)) dX0_gather_79 ?_
                refine lv_goto (tgt := 86) hx hb dX0_gather_82 (by decide) ?_
                exact ww_top (by rw [if_neg h13]) K12
            refine cs_ewt hx hb hw k (by omega) rfl dX0_gather_86 (fun H locs hw => ?_)
            refine lv_aload_n hx hb dX0_gather_87 rfl (lv_at hl 2 rfl) ?_
            refine cg_X0_waits hx hb hts hn0 hown hw (hts (.fieldLink RX0 15 "LeaderRows$Electors" "waits" "[I") (by decide +kernel)) dX0_gather_88 ?_
            refine lv_iload hx hb dX0_gather_91 (lv_at hl 5 rfl) ?_
            refine lv_aload hx hb dX0_gather_93 (lv_at hl 1 rfl) ?_
            refine cg_X1_wait hx hb hts hn1 hown hw (by omega) (hts (.fieldLink RX0 45 "LeaderRows$Node" "wait" "I") (by decide +kernel)) dX0_gather_95 ?_
            refine cs_ewa hx hb hw k (by omega) rfl dX0_gather_98 (fun H locs hw => ?_)
            refine lv_aload_n hx hb dX0_gather_99 rfl (lv_at hl 2 rfl) ?_
            refine lv_dup hx hb dX0_gather_100 rfl ?_
            refine cg_X0_sum hx hb hts hn0 hown hw (hts (.fieldLink RX0 22 "LeaderRows$Electors" "sum" "I") (by decide +kernel)) dX0_gather_101 ?_
            refine lv_aload_n hx hb dX0_gather_104 rfl (lv_at hl 2 rfl) ?_
            refine cg_X0_weights hx hb hts hn0 hown hw (hts (.fieldLink RX0 9 "LeaderRows$Electors" "weights" "[I") (by decide +kernel)) dX0_gather_105 ?_
            refine lv_iload hx hb dX0_gather_108 (lv_at hl 5 rfl) ?_
            refine ca_ewt hx hb hw k (by omega) rfl dX0_gather_110 ?_
            refine lv_iadd hx hb dX0_gather_111 ?_
            refine cp_esum hx hb hts hn0 hown hw (hts (.fieldLink RX0 22 "LeaderRows$Electors" "sum" "I") (by decide +kernel)) dX0_gather_112 (fun H locs hw => ?_)
            refine lv_iload hx hb dX0_gather_115 (lv_at hl 0 rfl) ?_
            refine lv_if_eq (tgt := 130) hx hb dX0_gather_117 (by decide) (fun _ => ?_) (fun h14 => absurd (by decide) h14)
            refine lv_iinc (v := nI (k + 1)) (lv' := [(6, .int (nI (k + 1))), (8, .int 0), (7, .ref (ad (10 + k))), (0, .ref (ad 3)), (1, .ref (ad 1)), (2, .int op)]) hx hb dX0_gather_130 hl (k := 5) rfl (nI_1 k) (by decide) rfl (fun ls hl => ?_)
            refine lv_goto (tgt := 24) hx hb dX0_gather_133 (by decide) ?_
            exact ihL24 (k + 1) (by omega)  _ _ ls ((cw_c rfl rfl rfl rfl rfl rfl rfl rfl (ge_c4 h3 h7 h11) (congrArg (g_sum (g_w (g_e op nmem ncom nop) nw) k + ·) ((upd_s _ _ _).trans (ge_w4 h3 h7 h11))) rfl rfl rfl (mx_up (ge_w4 h3 h7 h11)) (mx_up rfl) rfl rfl rfl rfl rfl rfl rfl rfl rfl rfl rfl rfl rfl rfl rfl rfl : cw_w ad cy claims phase epoch nxt seed pot terms claimed (f_cn (g_e op nmem ncom nop) k) ((g_sum (g_w (g_e op nmem ncom nop) nw) k) + ((upd (mx k (g_w (g_e op nmem ncom nop) nw) ewt) k (if (0 : Int32) = 0 then 0 else nw k)) k)) fn sm enum (upd (mx k (g_w (g_e op nmem ncom nop) nw) ewt) k (if (0 : Int32) = 0 then 0 else nw k)) (upd (mx k nwa ewa) k (nwa k)) rlen rsum rlead rnum nw nwa nled nmis nmio nas nmem ncom nop ndep ndig nnum = cw_w ad cy claims phase epoch nxt seed pot terms claimed (f_cn (g_e op nmem ncom nop) (k + 1)) (g_sum (g_w (g_e op nmem ncom nop) nw) (k + 1)) fn sm enum (mx (k + 1) (g_w (g_e op nmem ncom nop) nw) ewt) (mx (k + 1) nwa ewa) rlen rsum rlead rnum nw nwa nled nmis nmio nas nmem ncom nop ndep ndig nnum) ▸ hw) (lv_sub hl [3, 4, 5, 0] rfl)
          · refine lv_iconst (v := 1) hx hb dX0_gather_59 (by decide) ?_
            refine lv_goto (tgt := 64) hx hb dX0_gather_60 (by decide) ?_
            refine lv_istore (lv' := [(8, .int 1), (7, .ref (ad (10 + k))), (0, .ref (ad 3)), (1, .ref (ad 1)), (2, .int op), (6, .int (nI k))]) hx hb dX0_gather_64 hl (by decide) rfl (fun ls hl => ?_)
            refine lv_aload_n hx hb dX0_gather_66 rfl (lv_at hl 2 rfl) ?_
            refine cg_X0_weights hx hb hts hn0 hown hw (hts (.fieldLink RX0 9 "LeaderRows$Electors" "weights" "[I") (by decide +kernel)) dX0_gather_67 ?_
            refine lv_iload hx hb dX0_gather_70 (lv_at hl 5 rfl) ?_
            refine lv_iload hx hb dX0_gather_72 (lv_at hl 0 rfl) ?_
            refine ww_joinI (rest := [.int (nI k), .ref (ad 6)]) 86 (if (1 : Int32) = 0 then 0 else nw k) (fun K15 => ?_) ?_
            · refine lv_if_eq (tgt := 85) hx hb dX0_gather_74 (by decide) (fun h16 => ?_) (fun h16 => ?_)
              · refine lv_iconst (v := 0) hx hb dX0_gather_85 (by decide) ?_
                exact ww_top (by rw [if_pos h16]) K15
              · refine lv_aload hx hb dX0_gather_77 (lv_at hl 1 rfl) ?_
                refine cg_X1_weight hx hb hts hn1 hown hw (by omega) (hts (.fieldLink RX0 42 "LeaderRows$Node" "weight" "I") (by decide +kernel)) dX0_gather_79 ?_
                refine lv_goto (tgt := 86) hx hb dX0_gather_82 (by decide) ?_
                exact ww_top (by rw [if_neg h16]) K15
            refine cs_ewt hx hb hw k (by omega) rfl dX0_gather_86 (fun H locs hw => ?_)
            refine lv_aload_n hx hb dX0_gather_87 rfl (lv_at hl 2 rfl) ?_
            refine cg_X0_waits hx hb hts hn0 hown hw (hts (.fieldLink RX0 15 "LeaderRows$Electors" "waits" "[I") (by decide +kernel)) dX0_gather_88 ?_
            refine lv_iload hx hb dX0_gather_91 (lv_at hl 5 rfl) ?_
            refine lv_aload hx hb dX0_gather_93 (lv_at hl 1 rfl) ?_
            refine cg_X1_wait hx hb hts hn1 hown hw (by omega) (hts (.fieldLink RX0 45 "LeaderRows$Node" "wait" "I") (by decide +kernel)) dX0_gather_95 ?_
            refine cs_ewa hx hb hw k (by omega) rfl dX0_gather_98 (fun H locs hw => ?_)
            refine lv_aload_n hx hb dX0_gather_99 rfl (lv_at hl 2 rfl) ?_
            refine lv_dup hx hb dX0_gather_100 rfl ?_
            refine cg_X0_sum hx hb hts hn0 hown hw (hts (.fieldLink RX0 22 "LeaderRows$Electors" "sum" "I") (by decide +kernel)) dX0_gather_101 ?_
            refine lv_aload_n hx hb dX0_gather_104 rfl (lv_at hl 2 rfl) ?_
            refine cg_X0_weights hx hb hts hn0 hown hw (hts (.fieldLink RX0 9 "LeaderRows$Electors" "weights" "[I") (by decide +kernel)) dX0_gather_105 ?_
            refine lv_iload hx hb dX0_gather_108 (lv_at hl 5 rfl) ?_
            refine ca_ewt hx hb hw k (by omega) rfl dX0_gather_110 ?_
            refine lv_iadd hx hb dX0_gather_111 ?_
            refine cp_esum hx hb hts hn0 hown hw (hts (.fieldLink RX0 22 "LeaderRows$Electors" "sum" "I") (by decide +kernel)) dX0_gather_112 (fun H locs hw => ?_)
            refine lv_iload hx hb dX0_gather_115 (lv_at hl 0 rfl) ?_
            refine lv_if_eq (tgt := 130) hx hb dX0_gather_117 (by decide) (fun h17 => absurd h17 (by decide)) (fun _ => ?_)
            refine lv_aload_n hx hb dX0_gather_120 rfl (lv_at hl 2 rfl) ?_
            refine lv_dup hx hb dX0_gather_121 rfl ?_
            refine cg_X0_count hx hb hts hn0 hown hw (hts (.fieldLink RX0 18 "LeaderRows$Electors" "count" "I") (by decide +kernel)) dX0_gather_122 ?_
            refine lv_iconst (v := 1) hx hb dX0_gather_125 (by decide) ?_
            refine lv_iadd hx hb dX0_gather_126 ?_
            refine cp_ecnt hx hb hts hn0 hown hw (hts (.fieldLink RX0 18 "LeaderRows$Electors" "count" "I") (by decide +kernel)) dX0_gather_127 (fun H locs hw => ?_)
            refine lv_iinc (v := nI (k + 1)) (lv' := [(6, .int (nI (k + 1))), (8, .int 1), (7, .ref (ad (10 + k))), (0, .ref (ad 3)), (1, .ref (ad 1)), (2, .int op)]) hx hb dX0_gather_130 hl (k := 5) rfl (nI_1 k) (by decide) rfl (fun ls hl => ?_)
            refine lv_goto (tgt := 24) hx hb dX0_gather_133 (by decide) ?_
            exact ihL24 (k + 1) (by omega)  _ _ ls ((cw_c rfl rfl rfl rfl rfl rfl rfl rfl (ge_c3 h3 h7 h11) (congrArg (g_sum (g_w (g_e op nmem ncom nop) nw) k + ·) ((upd_s _ _ _).trans (ge_w3 h3 h7 h11))) rfl rfl rfl (mx_up (ge_w3 h3 h7 h11)) (mx_up rfl) rfl rfl rfl rfl rfl rfl rfl rfl rfl rfl rfl rfl rfl rfl rfl rfl : cw_w ad cy claims phase epoch nxt seed pot terms claimed ((f_cn (g_e op nmem ncom nop) k) + 1) ((g_sum (g_w (g_e op nmem ncom nop) nw) k) + ((upd (mx k (g_w (g_e op nmem ncom nop) nw) ewt) k (if (1 : Int32) = 0 then 0 else nw k)) k)) fn sm enum (upd (mx k (g_w (g_e op nmem ncom nop) nw) ewt) k (if (1 : Int32) = 0 then 0 else nw k)) (upd (mx k nwa ewa) k (nwa k)) rlen rsum rlead rnum nw nwa nled nmis nmio nas nmem ncom nop ndep ndig nnum = cw_w ad cy claims phase epoch nxt seed pot terms claimed (f_cn (g_e op nmem ncom nop) (k + 1)) (g_sum (g_w (g_e op nmem ncom nop) nw) (k + 1)) fn sm enum (mx (k + 1) (g_w (g_e op nmem ncom nop) nw) ewt) (mx (k + 1) nwa ewa) rlen rsum rlead rnum nw nwa nled nmis nmio nas nmem ncom nop ndep ndig nnum) ▸ hw) (lv_sub hl [3, 4, 5, 0] rfl)
  exact L24 12 0 (by omega)  _ _ ls ((cw_c rfl rfl rfl rfl rfl rfl rfl rfl (rfl) (rfl) rfl rfl rfl ((mx_0 _ _).symm) ((mx_0 _ _).symm) rfl rfl rfl rfl rfl rfl rfl rfl rfl rfl rfl rfl rfl rfl rfl rfl : cw_w ad cy claims phase epoch nxt seed pot terms claimed 0 0 fn sm enum ewt ewa rlen rsum rlead rnum nw nwa nled nmis nmio nas nmem ncom nop ndep ndig nnum = cw_w ad cy claims phase epoch nxt seed pot terms claimed (f_cn (g_e op nmem ncom nop) 0) (g_sum (g_w (g_e op nmem ncom nop) nw) 0) fn sm enum (mx 0 (g_w (g_e op nmem ncom nop) nw) ewt) (mx 0 nwa ewa) rlen rsum rlead rnum nw nwa nled nmis nmio nas nmem ncom nop ndep ndig nnum) ▸ hw) (lv_sub hl [1, 2, 3, 0] (by first | rfl | (simp [lv_pick])))
set_option maxHeartbeats 4000000 in
set_option maxRecDepth 100000 in
theorem k_X3_fineWithholders (l : Launch) {D : va_G} {ad : Nat → Nat} {cy : Nat → ClassId} {claims phase epoch nxt : Int32} {seed pot : Int64} {terms claimed : Nat → Int32} {ecnt esum efac : Int32} {estr : Int64} {enum : Int32} {ewt ewa : Nat → Int32} {rlen rsum : Int32} {rlead rnum nw nwa nled nmis nmio nas nmem ncom nop : Nat → Int32} {ndep ndig nnum : Nat → Int64}   : ww_MV l D (cw_t cy) yX3_fineWithholders wsX3_fineWithholders (ww_rm 2 45) [.ref (ad 0)] (cw_w ad cy claims phase epoch nxt seed pot terms claimed ecnt esum efac estr enum ewt ewa rlen rsum rlead rnum nw nwa nled nmis nmio nas nmem ncom nop ndep ndig nnum) (cw_w ad cy claims phase epoch nxt seed (g_pot ncom nop ndep (terms 1) pot 12) terms claimed ecnt esum efac estr enum ewt ewa rlen rsum rlead rnum nw nwa nled nmis nmio (mx 12 (g_fas ncom nop nas (epoch + terms 2)) nas) nmem ncom nop (mx 12 (g_fin ncom nop ndep (terms 1)) ndep) ndig nnum) := by
  refine ww_MV_mk (cc := cX3_fineWithholders) (maxL := 2) (by decide) rfl (Nat.le_of_ble_eq_true rfl) ?_
  intro p e s m below meth c A ls hx hb hr hts hown hlk hml hA hw hl
  have hown : s.vm.findClass RX3 = some m.cls := hown
  have hl : lv_has ls 2 [(0, .ref (ad 0))] := hl
  have hn3 : ∀ w ∈ wsX30, w ∈ wsX3_fineWithholders := by decide +kernel
  refine lv_iconst (v := 0) hx hb dX3_fineWithholders_0 (by decide) ?_
  refine lv_istore_n (lv' := [(1, .int 0), (0, .ref (ad 0))]) hx hb dX3_fineWithholders_1 rfl hl (by decide) rfl (fun ls hl => ?_)
  have L2 : ∀ (L2n k : Nat), k + L2n = 12 → ∀ (H : Heap) (locs : List Loc) (ls : Array Slot), ww_W D (cw_t cy) A s (cw_w ad cy claims phase epoch nxt seed (g_pot ncom nop ndep (terms 1) pot k) terms claimed ecnt esum efac estr enum ewt ewa rlen rsum rlead rnum nw nwa nled nmis nmio (mx k (g_fas ncom nop nas (epoch + terms 2)) nas) nmem ncom nop (mx k (g_fin ncom nop ndep (terms 1)) ndep) ndig nnum) H locs → lv_has ls 2 [(0, .ref (ad 0)), (1, .int (nI k))] → W p l e (ww_rm 2 45) s m ([.ref (ad 0)] : List Value).toArray below meth c H locs 0 0 (MQ below (ww_Qv D (cw_t cy) A (cw_w ad cy claims phase epoch nxt seed (g_pot ncom nop ndep (terms 1) pot 12) terms claimed ecnt esum efac estr enum ewt ewa rlen rsum rlead rnum nw nwa nled nmis nmio (mx 12 (g_fas ncom nop nas (epoch + terms 2)) nas) nmem ncom nop (mx 12 (g_fin ncom nop ndep (terms 1)) ndep) ndig nnum)) ([.ref (ad 0)] : List Value).toArray s 0 0 A) (F0 m 2 ls []) := by
    intro L2n
    induction L2n with
    | zero =>
      intro k hkk  H locs ls hw hl
      obtain rfl : 12 = k := by omega
      refine lv_iload_n hx hb dX3_fineWithholders_2 rfl (lv_at hl 1 rfl) ?_
      refine lv_bipush (v := 12) hx hb dX3_fineWithholders_3 (by decide) ?_
      refine lv_icmp_ge (tgt := 70) hx hb dX3_fineWithholders_5 (by decide) (fun _ => ?_) (fun h1 => absurd (by decide) h1)
      exact ww_rv hx hb hr hlk hw dX3_fineWithholders_70 rfl
    | succ L2n ihL2 =>
      intro k hkk  H locs ls hw hl
      have hkkl : k < 12 := by omega
      refine lv_iload_n hx hb dX3_fineWithholders_2 rfl (lv_at hl 1 rfl) ?_
      refine lv_bipush (v := 12) hx hb dX3_fineWithholders_3 (by decide) ?_
      refine lv_icmp_ge (tgt := 70) hx hb dX3_fineWithholders_5 (by decide) (fun h2 => absurd h2 (nI_nge 12 rfl hkkl (by decide))) (fun _ => ?_)
      refine lv_aload_n hx hb dX3_fineWithholders_8 rfl (lv_at hl 0 rfl) ?_
      refine cg_X3_nodes hx hb hts hn3 hown hw (hts (.fieldLink RX3 11 "LeaderRows" "nodes" "[LLeaderRows$Node;") (by decide +kernel)) dX3_fineWithholders_9 ?_
      refine lv_iload_n hx hb dX3_fineWithholders_12 rfl (lv_at hl 1 rfl) ?_
      refine ca_nodes hx hb hw k (by omega) rfl dX3_fineWithholders_13 ?_
      refine ww_cMI (As := []) (rest := []) hx hb hml hown hts hA hw hl.1 (k_X1_withholds l k  (by omega)) (cwV 0 hts gX3_fineWithholders_X1_withholds rfl rfl rfl (by decide +kernel) ⟨Nat.le_of_ble_eq_true rfl, Nat.le_of_ble_eq_true rfl⟩) rfl (10 + k) (cw_at rfl _ (by omega)) rfl rfl rfl (Nat.le_of_ble_eq_true rfl) ⟨Nat.zero_le _, Nat.zero_le _⟩ dX3_fineWithholders_14 (fun H locs hw => ?_)
      refine lv_if_eq (tgt := 64) hx hb dX3_fineWithholders_17 (by decide) (fun h3 => ?_) (fun h3 => ?_)
      · refine lv_iinc (v := nI (k + 1)) (lv' := [(1, .int (nI (k + 1))), (0, .ref (ad 0))]) hx hb dX3_fineWithholders_64 hl (k := 1) rfl (nI_1 k) (by decide) rfl (fun ls hl => ?_)
        refine lv_goto (tgt := 2) hx hb dX3_fineWithholders_67 (by decide) ?_
        exact ihL2 (k + 1) (by omega)  _ _ ls ((cw_c rfl rfl rfl rfl rfl (by first | (simp only [g_pot, if_pos h3]; done) | (simp only [g_pot, mx_at, if_neg h3]; done)) rfl rfl rfl rfl rfl rfl rfl rfl rfl rfl rfl rfl rfl rfl rfl rfl rfl rfl (by first | exact mx_sk (by simp only [g_fas, if_pos h3]) | exact mx_up (by simp only [g_fas, mx_at, if_neg h3])) rfl rfl rfl (by first | exact mx_sk (by simp only [g_fin, if_pos h3]) | exact mx_upL (by simp only [g_fin, mx_at, if_neg h3])) rfl rfl : cw_w ad cy claims phase epoch nxt seed (g_pot ncom nop ndep (terms 1) pot k) terms claimed ecnt esum efac estr enum ewt ewa rlen rsum rlead rnum nw nwa nled nmis nmio (mx k (g_fas ncom nop nas (epoch + terms 2)) nas) nmem ncom nop (mx k (g_fin ncom nop ndep (terms 1)) ndep) ndig nnum = cw_w ad cy claims phase epoch nxt seed (g_pot ncom nop ndep (terms 1) pot (k + 1)) terms claimed ecnt esum efac estr enum ewt ewa rlen rsum rlead rnum nw nwa nled nmis nmio (mx (k + 1) (g_fas ncom nop nas (epoch + terms 2)) nas) nmem ncom nop (mx (k + 1) (g_fin ncom nop ndep (terms 1)) ndep) ndig nnum) ▸ hw) (lv_sub hl [1, 0] rfl)
      · refine lv_aload_n hx hb dX3_fineWithholders_20 rfl (lv_at hl 0 rfl) ?_
        refine lv_dup hx hb dX3_fineWithholders_21 rfl ?_
        refine cg_X3_pot hx hb hts hn3 hown hw (hts (.fieldLink RX3 171 "LeaderRows" "pot" "J") (by decide +kernel)) dX3_fineWithholders_22 ?_
        refine lv_aload_n hx hb dX3_fineWithholders_25 rfl (lv_at hl 0 rfl) ?_
        refine cg_X3_nodes hx hb hts hn3 hown hw (hts (.fieldLink RX3 11 "LeaderRows" "nodes" "[LLeaderRows$Node;") (by decide +kernel)) dX3_fineWithholders_26 ?_
        refine lv_iload_n hx hb dX3_fineWithholders_29 rfl (lv_at hl 1 rfl) ?_
        refine ca_nodes hx hb hw k (by omega) rfl dX3_fineWithholders_30 ?_
        refine lv_aload_n hx hb dX3_fineWithholders_31 rfl (lv_at hl 0 rfl) ?_
        refine cg_X3_terms hx hb hts hn3 hown hw (hts (.fieldLink RX3 16 "LeaderRows" "terms" "[I") (by decide +kernel)) dX3_fineWithholders_32 ?_
        refine lv_iconst (v := 1) hx hb dX3_fineWithholders_35 (by decide) ?_
        refine ca_terms hx hb hw 1 (by decide) rfl dX3_fineWithholders_36 ?_
        refine ww_cML (As := [.int (terms 1)]) (rest := [.long (g_pot ncom nop ndep (terms 1) pot k), .ref (ad 0)]) hx hb hml hown hts hA hw hl.1 (k_X1_fine l k (terms 1) (by omega)) (cwV 1 hts gX3_fineWithholders_X1_fine rfl rfl rfl (by decide +kernel) ⟨Nat.le_of_ble_eq_true rfl, Nat.le_of_ble_eq_true rfl⟩) rfl (10 + k) (cw_at rfl _ (by omega)) rfl rfl rfl (Nat.le_of_ble_eq_true rfl) ⟨Nat.zero_le _, Nat.zero_le _⟩ dX3_fineWithholders_37 (fun H locs hw => ?_)
        refine lv_ladd hx hb dX3_fineWithholders_40 ?_
        refine cp_pot hx hb hts hn3 hown hw (hts (.fieldLink RX3 171 "LeaderRows" "pot" "J") (by decide +kernel)) dX3_fineWithholders_41 (fun H locs hw => ?_)
        refine lv_aload_n hx hb dX3_fineWithholders_44 rfl (lv_at hl 0 rfl) ?_
        refine cg_X3_nodes hx hb hts hn3 hown hw (hts (.fieldLink RX3 11 "LeaderRows" "nodes" "[LLeaderRows$Node;") (by decide +kernel)) dX3_fineWithholders_45 ?_
        refine lv_iload_n hx hb dX3_fineWithholders_48 rfl (lv_at hl 1 rfl) ?_
        refine ca_nodes hx hb hw k (by omega) rfl dX3_fineWithholders_49 ?_
        refine lv_aload_n hx hb dX3_fineWithholders_50 rfl (lv_at hl 0 rfl) ?_
        refine cg_X3_epoch hx hb hts hn3 hown hw (hts (.fieldLink RX3 64 "LeaderRows" "epoch" "I") (by decide +kernel)) dX3_fineWithholders_51 ?_
        refine lv_aload_n hx hb dX3_fineWithholders_54 rfl (lv_at hl 0 rfl) ?_
        refine cg_X3_terms hx hb hts hn3 hown hw (hts (.fieldLink RX3 16 "LeaderRows" "terms" "[I") (by decide +kernel)) dX3_fineWithholders_55 ?_
        refine lv_iconst (v := 2) hx hb dX3_fineWithholders_58 (by decide) ?_
        refine ca_terms hx hb hw 2 (by decide) rfl dX3_fineWithholders_59 ?_
        refine lv_iadd hx hb dX3_fineWithholders_60 ?_
        refine ww_cMV (As := [.int (epoch + (terms 2))]) (rest := []) hx hb hml hown hts hA hw hl.1 (k_X1_putAside l k (epoch + (terms 2)) (by omega)) (cwV 1 hts gX3_fineWithholders_X1_putAside rfl rfl rfl (by decide +kernel) ⟨Nat.le_of_ble_eq_true rfl, Nat.le_of_ble_eq_true rfl⟩) rfl (10 + k) (cw_at rfl _ (by omega)) rfl rfl rfl (Nat.le_of_ble_eq_true rfl) ⟨Nat.zero_le _, Nat.zero_le _⟩ dX3_fineWithholders_61 (fun H locs hw => ?_)
        refine lv_iinc (v := nI (k + 1)) (lv' := [(1, .int (nI (k + 1))), (0, .ref (ad 0))]) hx hb dX3_fineWithholders_64 hl (k := 1) rfl (nI_1 k) (by decide) rfl (fun ls hl => ?_)
        refine lv_goto (tgt := 2) hx hb dX3_fineWithholders_67 (by decide) ?_
        exact ihL2 (k + 1) (by omega)  _ _ ls ((cw_c rfl rfl rfl rfl rfl (by first | (simp only [g_pot, if_pos h3]; done) | (simp only [g_pot, mx_at, if_neg h3]; done)) rfl rfl rfl rfl rfl rfl rfl rfl rfl rfl rfl rfl rfl rfl rfl rfl rfl rfl (by first | exact mx_sk (by simp only [g_fas, if_pos h3]) | exact mx_up (by simp only [g_fas, mx_at, if_neg h3])) rfl rfl rfl (by first | exact mx_sk (by simp only [g_fin, if_pos h3]) | exact mx_upL (by simp only [g_fin, mx_at, if_neg h3])) rfl rfl : cw_w ad cy claims phase epoch nxt seed ((g_pot ncom nop ndep (terms 1) pot k) + (f_fine ((mx k (g_fin ncom nop ndep (terms 1)) ndep) k) (terms 1))) terms claimed ecnt esum efac estr enum ewt ewa rlen rsum rlead rnum nw nwa nled nmis nmio (upd (mx k (g_fas ncom nop nas (epoch + terms 2)) nas) k (f_max ((mx k (g_fas ncom nop nas (epoch + terms 2)) nas) k) (epoch + (terms 2)))) nmem ncom nop (vp_updL (mx k (g_fin ncom nop ndep (terms 1)) ndep) k ((mx k (g_fin ncom nop ndep (terms 1)) ndep) k - f_fine ((mx k (g_fin ncom nop ndep (terms 1)) ndep) k) (terms 1))) ndig nnum = cw_w ad cy claims phase epoch nxt seed (g_pot ncom nop ndep (terms 1) pot (k + 1)) terms claimed ecnt esum efac estr enum ewt ewa rlen rsum rlead rnum nw nwa nled nmis nmio (mx (k + 1) (g_fas ncom nop nas (epoch + terms 2)) nas) nmem ncom nop (mx (k + 1) (g_fin ncom nop ndep (terms 1)) ndep) ndig nnum) ▸ hw) (lv_sub hl [1, 0] rfl)
  exact L2 12 0 (by omega)  _ _ ls ((cw_c rfl rfl rfl rfl rfl (rfl) rfl rfl rfl rfl rfl rfl rfl rfl rfl rfl rfl rfl rfl rfl rfl rfl rfl rfl ((mx_0 _ _).symm) rfl rfl rfl ((mx_0 _ _).symm) rfl rfl : cw_w ad cy claims phase epoch nxt seed pot terms claimed ecnt esum efac estr enum ewt ewa rlen rsum rlead rnum nw nwa nled nmis nmio nas nmem ncom nop ndep ndig nnum = cw_w ad cy claims phase epoch nxt seed (g_pot ncom nop ndep (terms 1) pot 0) terms claimed ecnt esum efac estr enum ewt ewa rlen rsum rlead rnum nw nwa nled nmis nmio (mx 0 (g_fas ncom nop nas (epoch + terms 2)) nas) nmem ncom nop (mx 0 (g_fin ncom nop ndep (terms 1)) ndep) ndig nnum) ▸ hw) (lv_sub hl [1, 0] (by first | rfl | (simp [lv_pick])))
