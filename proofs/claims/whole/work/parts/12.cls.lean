set_option maxHeartbeats 4000000 in
set_option maxRecDepth 100000 in
theorem k_X3_countCommitted (l : Launch) {D : va_G} {ad : Nat → Nat} {cy : Nat → ClassId} {claims phase epoch nxt : Int32} {seed pot : Int64} {terms claimed : Nat → Int32} {ecnt esum efac : Int32} {estr : Int64} {enum : Int32} {ewt ewa : Nat → Int32} {rlen rsum : Int32} {rlead rnum nw nwa nled nmis nmio nas nmem ncom nop : Nat → Int32} {ndep ndig nnum : Nat → Int64}   : ww_MI l D (cw_t cy) yX3_countCommitted wsX3_countCommitted (ww_rm 0 0) [.ref (ad 0)] (cw_w ad cy claims phase epoch nxt seed pot terms claimed ecnt esum efac estr enum ewt ewa rlen rsum rlead rnum nw nwa nled nmis nmio nas nmem ncom nop ndep ndig nnum) (cw_w ad cy claims phase epoch nxt seed pot terms claimed ecnt esum efac estr enum ewt ewa rlen rsum rlead rnum nw nwa nled nmis nmio nas nmem ncom nop ndep ndig nnum) (f_cn ncom 12) := by
  refine ww_MI_mk .int (cc := cX3_countCommitted) (maxL := 3) (by decide) rfl (Nat.le_of_ble_eq_true rfl) ?_
  intro p e s m below meth c A ls hx hb hr hts hown hlk hml hA hw hl
  have hown : s.vm.findClass RX3 = some m.cls := hown
  have hl : lv_has ls 3 [(0, .ref (ad 0))] := hl
  have hn1 : ∀ w ∈ wsX10, w ∈ wsX3_countCommitted := by decide +kernel
  have hn3 : ∀ w ∈ wsX30, w ∈ wsX3_countCommitted := by decide +kernel
  refine lv_iconst (v := 0) hx hb dX3_countCommitted_0 (by decide) ?_
  refine lv_istore_n (lv' := [(1, .int 0), (0, .ref (ad 0))]) hx hb dX3_countCommitted_1 rfl hl (by decide) rfl (fun ls hl => ?_)
  refine lv_iconst (v := 0) hx hb dX3_countCommitted_2 (by decide) ?_
  refine lv_istore_n (lv' := [(2, .int 0), (1, .int 0), (0, .ref (ad 0))]) hx hb dX3_countCommitted_3 rfl hl (by decide) rfl (fun ls hl => ?_)
  have L4 : ∀ (L4n k : Nat), k + L4n = 12 → ∀ (H : Heap) (locs : List Loc) (ls : Array Slot), ww_W D (cw_t cy) A s (cw_w ad cy claims phase epoch nxt seed pot terms claimed ecnt esum efac estr enum ewt ewa rlen rsum rlead rnum nw nwa nled nmis nmio nas nmem ncom nop ndep ndig nnum) H locs → lv_has ls 3 [(0, .ref (ad 0)), (1, .int (f_cn ncom k)), (2, .int (nI k))] → W p l e (ww_rm 0 0) s m ([.ref (ad 0)] : List Value).toArray below meth c H locs 0 0 (MQ below (ww_Qi D (cw_t cy) A (cw_w ad cy claims phase epoch nxt seed pot terms claimed ecnt esum efac estr enum ewt ewa rlen rsum rlead rnum nw nwa nled nmis nmio nas nmem ncom nop ndep ndig nnum) (f_cn ncom 12)) ([.ref (ad 0)] : List Value).toArray s 0 0 A) (F0 m 4 ls []) := by
    intro L4n
    induction L4n with
    | zero =>
      intro k hkk  H locs ls hw hl
      obtain rfl : 12 = k := by omega
      refine lv_iload_n hx hb dX3_countCommitted_4 rfl (lv_at hl 2 rfl) ?_
      refine lv_bipush (v := 12) hx hb dX3_countCommitted_5 (by decide) ?_
      refine lv_icmp_ge (tgt := 31) hx hb dX3_countCommitted_7 (by decide) (fun _ => ?_) (fun h1 => absurd (by decide) h1)
      refine lv_iload_n hx hb dX3_countCommitted_31 rfl (lv_at hl 1 rfl) ?_
      exact ww_ri hx hb hr hlk hw dX3_countCommitted_32 rfl rfl
    | succ L4n ihL4 =>
      intro k hkk  H locs ls hw hl
      have hkkl : k < 12 := by omega
      refine lv_iload_n hx hb dX3_countCommitted_4 rfl (lv_at hl 2 rfl) ?_
      refine lv_bipush (v := 12) hx hb dX3_countCommitted_5 (by decide) ?_
      refine lv_icmp_ge (tgt := 31) hx hb dX3_countCommitted_7 (by decide) (fun h2 => absurd h2 (nI_nge 12 rfl hkkl (by decide))) (fun _ => ?_)
      refine lv_aload_n hx hb dX3_countCommitted_10 rfl (lv_at hl 0 rfl) ?_
      refine cg_X3_nodes hx hb hts hn3 hown hw (hts (.fieldLink RX3 11 "LeaderRows" "nodes" "[LLeaderRows$Node;") (by decide +kernel)) dX3_countCommitted_11 ?_
      refine lv_iload_n hx hb dX3_countCommitted_14 rfl (lv_at hl 2 rfl) ?_
      refine ca_nodes hx hb hw k (by omega) rfl dX3_countCommitted_15 ?_
      refine cg_X1_committed hx hb hts hn1 hown hw (by omega) (hts (.fieldLink RX3 75 "LeaderRows$Node" "committed" "Z") (by decide +kernel)) dX3_countCommitted_16 ?_
      refine lv_if_eq (tgt := 25) hx hb dX3_countCommitted_19 (by decide) (fun h3 => ?_) (fun h3 => ?_)
      · refine lv_iinc (v := nI (k + 1)) (lv' := [(2, .int (nI (k + 1))), (0, .ref (ad 0)), (1, .int (f_cn ncom k))]) hx hb dX3_countCommitted_25 hl (k := 2) rfl (nI_1 k) (by decide) rfl (fun ls hl => ?_)
        refine lv_goto (tgt := 4) hx hb dX3_countCommitted_28 (by decide) ?_
        have q4 : (f_cn ncom k) = f_cn ncom (k + 1) := by simp only [f_cn, if_pos h3]
        have hl9 : lv_has ls 3 [(0, .ref (ad 0)), (1, .int (f_cn ncom (k + 1))), (2, .int (nI (k + 1)))] := by rw [← q4]; exact lv_sub hl [1, 2, 0] rfl
        exact ihL4 (k + 1) (by omega)  _ _ ls hw hl9
      · refine lv_iinc (v := (f_cn ncom k) + 1) (lv' := [(1, .int ((f_cn ncom k) + 1)), (0, .ref (ad 0)), (2, .int (nI k))]) hx hb dX3_countCommitted_22 hl (k := 1) rfl rfl (by decide) rfl (fun ls hl => ?_)
        refine lv_iinc (v := nI (k + 1)) (lv' := [(2, .int (nI (k + 1))), (1, .int ((f_cn ncom k) + 1)), (0, .ref (ad 0))]) hx hb dX3_countCommitted_25 hl (k := 2) rfl (nI_1 k) (by decide) rfl (fun ls hl => ?_)
        refine lv_goto (tgt := 4) hx hb dX3_countCommitted_28 (by decide) ?_
        have q5 : ((f_cn ncom k) + 1) = f_cn ncom (k + 1) := by simp only [f_cn, if_neg h3]
        have hl9 : lv_has ls 3 [(0, .ref (ad 0)), (1, .int (f_cn ncom (k + 1))), (2, .int (nI (k + 1)))] := by rw [← q5]; exact lv_sub hl [2, 1, 0] rfl
        exact ihL4 (k + 1) (by omega)  _ _ ls hw hl9
  exact L4 12 0 (by omega)  _ _ ls hw (lv_sub hl [2, 1, 0] (by first | rfl | (simp [lv_pick])))
set_option maxHeartbeats 4000000 in
set_option maxRecDepth 100000 in
theorem k_X3_countOpened (l : Launch) {D : va_G} {ad : Nat → Nat} {cy : Nat → ClassId} {claims phase epoch nxt : Int32} {seed pot : Int64} {terms claimed : Nat → Int32} {ecnt esum efac : Int32} {estr : Int64} {enum : Int32} {ewt ewa : Nat → Int32} {rlen rsum : Int32} {rlead rnum nw nwa nled nmis nmio nas nmem ncom nop : Nat → Int32} {ndep ndig nnum : Nat → Int64}   : ww_MI l D (cw_t cy) yX3_countOpened wsX3_countOpened (ww_rm 0 0) [.ref (ad 0)] (cw_w ad cy claims phase epoch nxt seed pot terms claimed ecnt esum efac estr enum ewt ewa rlen rsum rlead rnum nw nwa nled nmis nmio nas nmem ncom nop ndep ndig nnum) (cw_w ad cy claims phase epoch nxt seed pot terms claimed ecnt esum efac estr enum ewt ewa rlen rsum rlead rnum nw nwa nled nmis nmio nas nmem ncom nop ndep ndig nnum) (f_cn nop 12) := by
  refine ww_MI_mk .int (cc := cX3_countOpened) (maxL := 3) (by decide) rfl (Nat.le_of_ble_eq_true rfl) ?_
  intro p e s m below meth c A ls hx hb hr hts hown hlk hml hA hw hl
  have hown : s.vm.findClass RX3 = some m.cls := hown
  have hl : lv_has ls 3 [(0, .ref (ad 0))] := hl
  have hn1 : ∀ w ∈ wsX10, w ∈ wsX3_countOpened := by decide +kernel
  have hn3 : ∀ w ∈ wsX30, w ∈ wsX3_countOpened := by decide +kernel
  refine lv_iconst (v := 0) hx hb dX3_countOpened_0 (by decide) ?_
  refine lv_istore_n (lv' := [(1, .int 0), (0, .ref (ad 0))]) hx hb dX3_countOpened_1 rfl hl (by decide) rfl (fun ls hl => ?_)
  refine lv_iconst (v := 0) hx hb dX3_countOpened_2 (by decide) ?_
  refine lv_istore_n (lv' := [(2, .int 0), (1, .int 0), (0, .ref (ad 0))]) hx hb dX3_countOpened_3 rfl hl (by decide) rfl (fun ls hl => ?_)
  have L4 : ∀ (L4n k : Nat), k + L4n = 12 → ∀ (H : Heap) (locs : List Loc) (ls : Array Slot), ww_W D (cw_t cy) A s (cw_w ad cy claims phase epoch nxt seed pot terms claimed ecnt esum efac estr enum ewt ewa rlen rsum rlead rnum nw nwa nled nmis nmio nas nmem ncom nop ndep ndig nnum) H locs → lv_has ls 3 [(0, .ref (ad 0)), (1, .int (f_cn nop k)), (2, .int (nI k))] → W p l e (ww_rm 0 0) s m ([.ref (ad 0)] : List Value).toArray below meth c H locs 0 0 (MQ below (ww_Qi D (cw_t cy) A (cw_w ad cy claims phase epoch nxt seed pot terms claimed ecnt esum efac estr enum ewt ewa rlen rsum rlead rnum nw nwa nled nmis nmio nas nmem ncom nop ndep ndig nnum) (f_cn nop 12)) ([.ref (ad 0)] : List Value).toArray s 0 0 A) (F0 m 4 ls []) := by
    intro L4n
    induction L4n with
    | zero =>
      intro k hkk  H locs ls hw hl
      obtain rfl : 12 = k := by omega
      refine lv_iload_n hx hb dX3_countOpened_4 rfl (lv_at hl 2 rfl) ?_
      refine lv_bipush (v := 12) hx hb dX3_countOpened_5 (by decide) ?_
      refine lv_icmp_ge (tgt := 31) hx hb dX3_countOpened_7 (by decide) (fun _ => ?_) (fun h1 => absurd (by decide) h1)
      refine lv_iload_n hx hb dX3_countOpened_31 rfl (lv_at hl 1 rfl) ?_
      exact ww_ri hx hb hr hlk hw dX3_countOpened_32 rfl rfl
    | succ L4n ihL4 =>
      intro k hkk  H locs ls hw hl
      have hkkl : k < 12 := by omega
      refine lv_iload_n hx hb dX3_countOpened_4 rfl (lv_at hl 2 rfl) ?_
      refine lv_bipush (v := 12) hx hb dX3_countOpened_5 (by decide) ?_
      refine lv_icmp_ge (tgt := 31) hx hb dX3_countOpened_7 (by decide) (fun h2 => absurd h2 (nI_nge 12 rfl hkkl (by decide))) (fun _ => ?_)
      refine lv_aload_n hx hb dX3_countOpened_10 rfl (lv_at hl 0 rfl) ?_
      refine cg_X3_nodes hx hb hts hn3 hown hw (hts (.fieldLink RX3 11 "LeaderRows" "nodes" "[LLeaderRows$Node;") (by decide +kernel)) dX3_countOpened_11 ?_
      refine lv_iload_n hx hb dX3_countOpened_14 rfl (lv_at hl 2 rfl) ?_
      refine ca_nodes hx hb hw k (by omega) rfl dX3_countOpened_15 ?_
      refine cg_X1_opened hx hb hts hn1 hown hw (by omega) (hts (.fieldLink RX3 93 "LeaderRows$Node" "opened" "Z") (by decide +kernel)) dX3_countOpened_16 ?_
      refine lv_if_eq (tgt := 25) hx hb dX3_countOpened_19 (by decide) (fun h3 => ?_) (fun h3 => ?_)
      · refine lv_iinc (v := nI (k + 1)) (lv' := [(2, .int (nI (k + 1))), (0, .ref (ad 0)), (1, .int (f_cn nop k))]) hx hb dX3_countOpened_25 hl (k := 2) rfl (nI_1 k) (by decide) rfl (fun ls hl => ?_)
        refine lv_goto (tgt := 4) hx hb dX3_countOpened_28 (by decide) ?_
        have q4 : (f_cn nop k) = f_cn nop (k + 1) := by simp only [f_cn, if_pos h3]
        have hl9 : lv_has ls 3 [(0, .ref (ad 0)), (1, .int (f_cn nop (k + 1))), (2, .int (nI (k + 1)))] := by rw [← q4]; exact lv_sub hl [1, 2, 0] rfl
        exact ihL4 (k + 1) (by omega)  _ _ ls hw hl9
      · refine lv_iinc (v := (f_cn nop k) + 1) (lv' := [(1, .int ((f_cn nop k) + 1)), (0, .ref (ad 0)), (2, .int (nI k))]) hx hb dX3_countOpened_22 hl (k := 1) rfl rfl (by decide) rfl (fun ls hl => ?_)
        refine lv_iinc (v := nI (k + 1)) (lv' := [(2, .int (nI (k + 1))), (1, .int ((f_cn nop k) + 1)), (0, .ref (ad 0))]) hx hb dX3_countOpened_25 hl (k := 2) rfl (nI_1 k) (by decide) rfl (fun ls hl => ?_)
        refine lv_goto (tgt := 4) hx hb dX3_countOpened_28 (by decide) ?_
        have q5 : ((f_cn nop k) + 1) = f_cn nop (k + 1) := by simp only [f_cn, if_neg h3]
        have hl9 : lv_has ls 3 [(0, .ref (ad 0)), (1, .int (f_cn nop (k + 1))), (2, .int (nI (k + 1)))] := by rw [← q5]; exact lv_sub hl [2, 1, 0] rfl
        exact ihL4 (k + 1) (by omega)  _ _ ls hw hl9
  exact L4 12 0 (by omega)  _ _ ls hw (lv_sub hl [2, 1, 0] (by first | rfl | (simp [lv_pick])))
set_option maxHeartbeats 4000000 in
set_option maxRecDepth 100000 in
theorem k_X3_weight (l : Launch) {D : va_G} {ad : Nat → Nat} {cy : Nat → ClassId} {claims phase epoch nxt : Int32} {seed pot : Int64} {terms claimed : Nat → Int32} {ecnt esum efac : Int32} {estr : Int64} {enum : Int32} {ewt ewa : Nat → Int32} {rlen rsum : Int32} {rlead rnum nw nwa nled nmis nmio nas nmem ncom nop : Nat → Int32} {ndep ndig nnum : Nat → Int64} (node : Int32) (w : Int32)  : ww_MI l D (cw_t cy) yX3_weight wsX3_weight (ww_rm 1 20) [.ref (ad 0), .int node, .int w] (cw_w ad cy claims phase epoch nxt seed pot terms claimed ecnt esum efac estr enum ewt ewa rlen rsum rlead rnum nw nwa nled nmis nmio nas nmem ncom nop ndep ndig nnum) (cw_w ad cy claims phase epoch nxt seed pot terms claimed ecnt esum efac estr enum ewt ewa rlen rsum rlead rnum (if f_isN node = 0 then nw else if f_in w.toInt64 0 1000 = 0 then nw else if phase = 0 then upd nw node.toNatClampNeg w else nw) nwa nled nmis nmio nas nmem ncom nop ndep ndig nnum) (if f_isN node = 0 then -1 else if f_in w.toInt64 0 1000 = 0 then -1 else if phase = 0 then nw node.toNatClampNeg else -3) := by
  refine ww_MI_mk .int (cc := cX3_weight) (maxL := 4) (by decide) rfl (Nat.le_of_ble_eq_true rfl) ?_
  intro p e s m below meth c A ls hx hb hr hts hown hlk hml hA hw hl
  have hown : s.vm.findClass RX3 = some m.cls := hown
  have hl : lv_has ls 4 [(0, .ref (ad 0)), (1, .int node), (2, .int w)] := hl
  have hn1 : ∀ w ∈ wsX10, w ∈ wsX3_weight := by decide +kernel
  have hn3 : ∀ w ∈ wsX30, w ∈ wsX3_weight := by decide +kernel
  refine lv_iload_n hx hb dX3_weight_0 rfl (lv_at hl 1 rfl) ?_
  refine ww_cSI (As := [.int node]) (rest := []) hx hb hml hown hts hl.1 (k_X3_isNode l node) (va_cwS 1 hts gX3_weight_X3_isNode rfl rfl rfl (by decide +kernel) ⟨Nat.le_of_ble_eq_true rfl, Nat.le_of_ble_eq_true rfl⟩) rfl rfl (Nat.le_of_ble_eq_true rfl) ⟨Nat.zero_le _, Nat.zero_le _⟩ dX3_weight_1 ?_
  refine lv_if_eq (tgt := 18) hx hb dX3_weight_4 (by decide) (fun h1 => ?_) (fun h1 => ?_)
  · refine lv_iconst (v := (-1)) hx hb dX3_weight_18 (by decide) ?_
    exact ww_ri hx hb hr hlk hw dX3_weight_19 (by simp only [if_pos h1]) (cw_c rfl rfl rfl rfl rfl rfl rfl rfl rfl rfl rfl rfl rfl rfl rfl rfl rfl rfl rfl (by simp only [if_pos h1]) rfl rfl rfl rfl rfl rfl rfl rfl rfl rfl rfl)
  · refine lv_iload_n hx hb dX3_weight_7 rfl (lv_at hl 2 rfl) ?_
    refine lv_if_lt (tgt := 18) hx hb dX3_weight_8 (by decide) (fun h2 => ?_) (fun h2 => ?_)
    · refine lv_iconst (v := (-1)) hx hb dX3_weight_18 (by decide) ?_
      exact ww_ri hx hb hr hlk hw dX3_weight_19 (by simp only [if_neg h1, if_pos (in_lo 0 (L := 0) (U := 1000) rfl h2)]) (cw_c rfl rfl rfl rfl rfl rfl rfl rfl rfl rfl rfl rfl rfl rfl rfl rfl rfl rfl rfl (by simp only [if_neg h1, if_pos (in_lo 0 (L := 0) (U := 1000) rfl h2)]) rfl rfl rfl rfl rfl rfl rfl rfl rfl rfl rfl)
    · refine lv_iload_n hx hb dX3_weight_11 rfl (lv_at hl 2 rfl) ?_
      refine lv_sipush (v := 1000) hx hb dX3_weight_12 (by decide) ?_
      refine lv_icmp_le (tgt := 20) hx hb dX3_weight_15 (by decide) (fun h3 => ?_) (fun h3 => ?_)
      · refine lv_aload_n hx hb dX3_weight_20 rfl (lv_at hl 0 rfl) ?_
        refine cg_X3_phase hx hb hts hn3 hown hw (hts (.fieldLink RX3 41 "LeaderRows" "phase" "I") (by decide +kernel)) dX3_weight_21 ?_
        refine lv_if_eq (tgt := 30) hx hb dX3_weight_24 (by decide) (fun h4 => ?_) (fun h4 => ?_)
        · obtain ⟨k, hk, rfl⟩ := f_isN_in h1
          have ek : (nI k).toNatClampNeg = k := nI_clamp (by omega)
          refine lv_aload_n hx hb dX3_weight_30 rfl (lv_at hl 0 rfl) ?_
          refine cg_X3_nodes hx hb hts hn3 hown hw (hts (.fieldLink RX3 11 "LeaderRows" "nodes" "[LLeaderRows$Node;") (by decide +kernel)) dX3_weight_31 ?_
          refine lv_iload_n hx hb dX3_weight_34 rfl (lv_at hl 1 rfl) ?_
          refine ca_nodes hx hb hw k (by omega) rfl dX3_weight_35 ?_
          refine cg_X1_weight hx hb hts hn1 hown hw (by omega) (hts (.fieldLink RX3 45 "LeaderRows$Node" "weight" "I") (by decide +kernel)) dX3_weight_36 ?_
          refine lv_istore_n (lv' := [(3, .int (nw k)), (0, .ref (ad 0)), (1, .int (nI k)), (2, .int w)]) hx hb dX3_weight_39 rfl hl (by decide) rfl (fun ls hl => ?_)
          refine lv_aload_n hx hb dX3_weight_40 rfl (lv_at hl 1 rfl) ?_
          refine cg_X3_nodes hx hb hts hn3 hown hw (hts (.fieldLink RX3 11 "LeaderRows" "nodes" "[LLeaderRows$Node;") (by decide +kernel)) dX3_weight_41 ?_
          refine lv_iload_n hx hb dX3_weight_44 rfl (lv_at hl 2 rfl) ?_
          refine ca_nodes hx hb hw k (by omega) rfl dX3_weight_45 ?_
          refine lv_iload_n hx hb dX3_weight_46 rfl (lv_at hl 3 rfl) ?_
          refine cp_nw hx hb hts hn1 hown hw (by omega) (hts (.fieldLink RX3 45 "LeaderRows$Node" "weight" "I") (by decide +kernel)) dX3_weight_47 (fun H locs hw => ?_)
          refine lv_iload_n hx hb dX3_weight_50 rfl (lv_at hl 0 rfl) ?_
          exact ww_ri hx hb hr hlk hw dX3_weight_51 (by simp only [ek, if_neg h1, if_neg (in_ok 0 1000 (L := 0) (U := 1000) rfl rfl h2 h3), if_pos h4]) (cw_c rfl rfl rfl rfl rfl rfl rfl rfl rfl rfl rfl rfl rfl rfl rfl rfl rfl rfl rfl (by simp only [ek, if_neg h1, if_neg (in_ok 0 1000 (L := 0) (U := 1000) rfl rfl h2 h3), if_pos h4]) rfl rfl rfl rfl rfl rfl rfl rfl rfl rfl rfl)
        · refine lv_bipush (v := (-3)) hx hb dX3_weight_27 (by decide) ?_
          exact ww_ri hx hb hr hlk hw dX3_weight_29 (by simp only [if_neg h1, if_neg (in_ok 0 1000 (L := 0) (U := 1000) rfl rfl h2 h3), if_neg h4]) (cw_c rfl rfl rfl rfl rfl rfl rfl rfl rfl rfl rfl rfl rfl rfl rfl rfl rfl rfl rfl (by simp only [if_neg h1, if_neg (in_ok 0 1000 (L := 0) (U := 1000) rfl rfl h2 h3), if_neg h4]) rfl rfl rfl rfl rfl rfl rfl rfl rfl rfl rfl)
      · refine lv_iconst (v := (-1)) hx hb dX3_weight_18 (by decide) ?_
        exact ww_ri hx hb hr hlk hw dX3_weight_19 (by simp only [if_neg h1, if_pos (in_hi 1000 (L := 0) (U := 1000) rfl h3)]) (cw_c rfl rfl rfl rfl rfl rfl rfl rfl rfl rfl rfl rfl rfl rfl rfl rfl rfl rfl rfl (by simp only [if_neg h1, if_pos (in_hi 1000 (L := 0) (U := 1000) rfl h3)]) rfl rfl rfl rfl rfl rfl rfl rfl rfl rfl rfl)
set_option maxHeartbeats 4000000 in
set_option maxRecDepth 100000 in
theorem k_X3_deposit (l : Launch) {D : va_G} {ad : Nat → Nat} {cy : Nat → ClassId} {claims phase epoch nxt : Int32} {seed pot : Int64} {terms claimed : Nat → Int32} {ecnt esum efac : Int32} {estr : Int64} {enum : Int32} {ewt ewa : Nat → Int32} {rlen rsum : Int32} {rlead rnum nw nwa nled nmis nmio nas nmem ncom nop : Nat → Int32} {ndep ndig nnum : Nat → Int64} (node : Int32) (more : Int64)  : ww_ML l D (cw_t cy) yX3_deposit wsX3_deposit (ww_rm 1 20) [.ref (ad 0), .int node, .long more] (cw_w ad cy claims phase epoch nxt seed pot terms claimed ecnt esum efac estr enum ewt ewa rlen rsum rlead rnum nw nwa nled nmis nmio nas nmem ncom nop ndep ndig nnum) (cw_w ad cy claims phase epoch nxt seed pot terms claimed ecnt esum efac estr enum ewt ewa rlen rsum rlead rnum nw nwa nled nmis nmio nas nmem ncom nop (if f_isN node = 0 then ndep else if g_dep more (ndep node.toNatClampNeg) = 0 then ndep else if phase = 0 then vp_updL ndep node.toNatClampNeg (ndep node.toNatClampNeg + more) else ndep) ndig nnum) (if f_isN node = 0 then -1 else if g_dep more (ndep node.toNatClampNeg) = 0 then -1 else if phase = 0 then ndep node.toNatClampNeg + more else -3) := by
  refine ww_ML_mk (cc := cX3_deposit) (maxL := 6) (by decide) rfl (Nat.le_of_ble_eq_true rfl) ?_
  intro p e s m below meth c A ls hx hb hr hts hown hlk hml hA hw hl
  have hown : s.vm.findClass RX3 = some m.cls := hown
  have hl : lv_has ls 6 [(0, .ref (ad 0)), (1, .int node), (2, .long more)] := hl
  have hn1 : ∀ w ∈ wsX10, w ∈ wsX3_deposit := by decide +kernel
  have hn3 : ∀ w ∈ wsX30, w ∈ wsX3_deposit := by decide +kernel
  refine lv_iload_n hx hb dX3_deposit_0 rfl (lv_at hl 1 rfl) ?_
  refine ww_cSI (As := [.int node]) (rest := []) hx hb hml hown hts hl.1 (k_X3_isNode l node) (va_cwS 1 hts gX3_deposit_X3_isNode rfl rfl rfl (by decide +kernel) ⟨Nat.le_of_ble_eq_true rfl, Nat.le_of_ble_eq_true rfl⟩) rfl rfl (Nat.le_of_ble_eq_true rfl) ⟨Nat.zero_le _, Nat.zero_le _⟩ dX3_deposit_1 ?_
  refine lv_if_ne (tgt := 11) hx hb dX3_deposit_4 (by decide) (fun h1 => ?_) (fun h1 => ?_)
  · obtain ⟨k, hk, rfl⟩ := f_isN_in h1
    have ek : (nI k).toNatClampNeg = k := nI_clamp (by omega)
    refine lv_aload_n hx hb dX3_deposit_11 rfl (lv_at hl 0 rfl) ?_
    refine cg_X3_nodes hx hb hts hn3 hown hw (hts (.fieldLink RX3 11 "LeaderRows" "nodes" "[LLeaderRows$Node;") (by decide +kernel)) dX3_deposit_12 ?_
    refine lv_iload_n hx hb dX3_deposit_15 rfl (lv_at hl 1 rfl) ?_
    refine ca_nodes hx hb hw k (by omega) rfl dX3_deposit_16 ?_
    refine cg_X1_deposit hx hb hts hn1 hown hw (by omega) (hts (.fieldLink RX3 50 "LeaderRows$Node" "deposit" "J") (by decide +kernel)) dX3_deposit_17 ?_
    refine lv_lstore (lv' := [(4, .long (ndep k)), (0, .ref (ad 0)), (1, .int (nI k)), (2, .long more)]) hx hb dX3_deposit_20 hl (by decide) rfl (fun ls hl => ?_)
    refine lv_lload_n hx hb dX3_deposit_22 rfl (lv_at hl 3 rfl) ?_
    refine lv_lload hx hb dX3_deposit_23 (lv_at hl 0 rfl) ?_
    refine lv_lneg hx hb dX3_deposit_25 ?_
    refine ww_lif_lt (tgt := 41) hx hb dX3_deposit_26 dX3_deposit_27 (by decide) (fun h2 => ?_) (fun h2 => ?_)
    · refine lv_ldc2 (v := (-1)) hx hb hown (hts (.constantLong RX3 48 (-1)) (by decide +kernel)) dX3_deposit_41 ?_
      exact ww_rl hx hb hr hlk hw dX3_deposit_44 (by simp only [if_neg h1, ek, if_pos (g_dep0 h2)]) (cw_c rfl rfl rfl rfl rfl rfl rfl rfl rfl rfl rfl rfl rfl rfl rfl rfl rfl rfl rfl rfl rfl rfl rfl rfl rfl rfl rfl rfl (by simp only [if_neg h1, ek, if_pos (g_dep0 h2)]) rfl rfl)
    · refine lv_lload_n hx hb dX3_deposit_30 rfl (lv_at hl 3 rfl) ?_
      refine lv_ldc2 (v := 1000000000000) hx hb hown (hts (.constantLong RX3 54 1000000000000) (by decide +kernel)) dX3_deposit_31 ?_
      refine lv_lload hx hb dX3_deposit_34 (lv_at hl 0 rfl) ?_
      refine lv_lsub hx hb dX3_deposit_36 ?_
      refine ww_lif_le (tgt := 45) hx hb dX3_deposit_37 dX3_deposit_38 (by decide) (fun h3 => ?_) (fun h3 => ?_)
      · refine lv_aload_n hx hb dX3_deposit_45 rfl (lv_at hl 1 rfl) ?_
        refine cg_X3_phase hx hb hts hn3 hown hw (hts (.fieldLink RX3 41 "LeaderRows" "phase" "I") (by decide +kernel)) dX3_deposit_46 ?_
        refine lv_if_eq (tgt := 56) hx hb dX3_deposit_49 (by decide) (fun h4 => ?_) (fun h4 => ?_)
        · refine lv_aload_n hx hb dX3_deposit_56 rfl (lv_at hl 1 rfl) ?_
          refine cg_X3_nodes hx hb hts hn3 hown hw (hts (.fieldLink RX3 11 "LeaderRows" "nodes" "[LLeaderRows$Node;") (by decide +kernel)) dX3_deposit_57 ?_
          refine lv_iload_n hx hb dX3_deposit_60 rfl (lv_at hl 2 rfl) ?_
          refine ca_nodes hx hb hw k (by omega) rfl dX3_deposit_61 ?_
          refine lv_lload hx hb dX3_deposit_62 (lv_at hl 0 rfl) ?_
          refine lv_lload_n hx hb dX3_deposit_64 rfl (lv_at hl 3 rfl) ?_
          refine lv_ladd hx hb dX3_deposit_65 ?_
          refine cp_ndep hx hb hts hn1 hown hw (by omega) (hts (.fieldLink RX3 50 "LeaderRows$Node" "deposit" "J") (by decide +kernel)) dX3_deposit_66 (fun H locs hw => ?_)
          refine lv_lload hx hb dX3_deposit_69 (lv_at hl 0 rfl) ?_
          refine lv_lload_n hx hb dX3_deposit_71 rfl (lv_at hl 3 rfl) ?_
          refine lv_ladd hx hb dX3_deposit_72 ?_
          exact ww_rl hx hb hr hlk hw dX3_deposit_73 (by simp only [if_neg h1, ek, if_neg (g_dep2 h2 h3), if_pos h4]) (cw_c rfl rfl rfl rfl rfl rfl rfl rfl rfl rfl rfl rfl rfl rfl rfl rfl rfl rfl rfl rfl rfl rfl rfl rfl rfl rfl rfl rfl (by simp only [if_neg h1, ek, if_neg (g_dep2 h2 h3), if_pos h4]) rfl rfl)
        · refine lv_ldc2 (v := (-3)) hx hb hown (hts (.constantLong RX3 56 (-3)) (by decide +kernel)) dX3_deposit_52 ?_
          exact ww_rl hx hb hr hlk hw dX3_deposit_55 (by simp only [if_neg h1, ek, if_neg (g_dep2 h2 h3), if_neg h4]) (cw_c rfl rfl rfl rfl rfl rfl rfl rfl rfl rfl rfl rfl rfl rfl rfl rfl rfl rfl rfl rfl rfl rfl rfl rfl rfl rfl rfl rfl (by simp only [if_neg h1, ek, if_neg (g_dep2 h2 h3), if_neg h4]) rfl rfl)
      · refine lv_ldc2 (v := (-1)) hx hb hown (hts (.constantLong RX3 48 (-1)) (by decide +kernel)) dX3_deposit_41 ?_
        exact ww_rl hx hb hr hlk hw dX3_deposit_44 (by simp only [if_neg h1, ek, if_pos (g_dep1 h3)]) (cw_c rfl rfl rfl rfl rfl rfl rfl rfl rfl rfl rfl rfl rfl rfl rfl rfl rfl rfl rfl rfl rfl rfl rfl rfl rfl rfl rfl rfl (by simp only [if_neg h1, ek, if_pos (g_dep1 h3)]) rfl rfl)
  · refine lv_ldc2 (v := (-1)) hx hb hown (hts (.constantLong RX3 48 (-1)) (by decide +kernel)) dX3_deposit_7 ?_
    exact ww_rl hx hb hr hlk hw dX3_deposit_10 (by simp only [if_pos h1]) (cw_c rfl rfl rfl rfl rfl rfl rfl rfl rfl rfl rfl rfl rfl rfl rfl rfl rfl rfl rfl rfl rfl rfl rfl rfl rfl rfl rfl rfl (by simp only [if_pos h1]) rfl rfl)
set_option maxHeartbeats 4000000 in
set_option maxRecDepth 100000 in
theorem k_X3_begin (l : Launch) {D : va_G} {ad : Nat → Nat} {cy : Nat → ClassId} {claims phase epoch nxt : Int32} {seed pot : Int64} {terms claimed : Nat → Int32} {ecnt esum efac : Int32} {estr : Int64} {enum : Int32} {ewt ewa : Nat → Int32} {rlen rsum : Int32} {rlead rnum nw nwa nled nmis nmio nas nmem ncom nop : Nat → Int32} {ndep ndig nnum : Nat → Int64}   : ww_MI l D (cw_t cy) yX3_begin wsX3_begin (ww_rm 1 21) [.ref (ad 0)] (cw_w ad cy claims phase epoch nxt seed pot terms claimed ecnt esum efac estr enum ewt ewa rlen rsum rlead rnum nw nwa nled nmis nmio nas nmem ncom nop ndep ndig nnum) (cw_w ad cy claims (if phase = 0 then 1 else phase) (if phase = 0 then epoch + 1 else epoch) nxt seed pot terms claimed ecnt esum efac estr enum ewt ewa rlen rsum rlead rnum nw nwa nled nmis nmio (if phase = 0 then mx 12 (b_as epoch nas) nas else nas) (if phase = 0 then mx 12 (b_mem epoch nas nw ndep) nmem else nmem) ncom nop ndep ndig nnum) (if phase = 0 then f_cn (b_mem epoch nas nw ndep) 12 else -3) := by
  refine ww_MI_mk .int (cc := cX3_begin) (maxL := 3) (by decide) rfl (Nat.le_of_ble_eq_true rfl) ?_
  intro p e s m below meth c A ls hx hb hr hts hown hlk hml hA hw hl
  have hown : s.vm.findClass RX3 = some m.cls := hown
  have hl : lv_has ls 3 [(0, .ref (ad 0))] := hl
  have hn1 : ∀ w ∈ wsX10, w ∈ wsX3_begin := by decide +kernel
  have hn3 : ∀ w ∈ wsX30, w ∈ wsX3_begin := by decide +kernel
  refine lv_aload_n hx hb dX3_begin_0 rfl (lv_at hl 0 rfl) ?_
  refine cg_X3_phase hx hb hts hn3 hown hw (hts (.fieldLink RX3 41 "LeaderRows" "phase" "I") (by decide +kernel)) dX3_begin_1 ?_
  refine lv_if_eq (tgt := 10) hx hb dX3_begin_4 (by decide) (fun h1 => ?_) (fun h1 => ?_)
  · refine lv_aload_n hx hb dX3_begin_10 rfl (lv_at hl 0 rfl) ?_
    refine lv_iconst (v := 1) hx hb dX3_begin_11 (by decide) ?_
    refine cp_phase hx hb hts hn3 hown hw (hts (.fieldLink RX3 41 "LeaderRows" "phase" "I") (by decide +kernel)) dX3_begin_12 (fun H locs hw => ?_)
    refine lv_aload_n hx hb dX3_begin_15 rfl (lv_at hl 0 rfl) ?_
    refine lv_dup hx hb dX3_begin_16 rfl ?_
    refine cg_X3_epoch hx hb hts hn3 hown hw (hts (.fieldLink RX3 64 "LeaderRows" "epoch" "I") (by decide +kernel)) dX3_begin_17 ?_
    refine lv_iconst (v := 1) hx hb dX3_begin_20 (by decide) ?_
    refine lv_iadd hx hb dX3_begin_21 ?_
    refine cp_epoch hx hb hts hn3 hown hw (hts (.fieldLink RX3 64 "LeaderRows" "epoch" "I") (by decide +kernel)) dX3_begin_22 (fun H locs hw => ?_)
    refine lv_iconst (v := 0) hx hb dX3_begin_25 (by decide) ?_
    refine lv_istore_n (lv' := [(1, .int 0), (0, .ref (ad 0))]) hx hb dX3_begin_26 rfl hl (by decide) rfl (fun ls hl => ?_)
    refine lv_iconst (v := 0) hx hb dX3_begin_27 (by decide) ?_
    refine lv_istore_n (lv' := [(2, .int 0), (1, .int 0), (0, .ref (ad 0))]) hx hb dX3_begin_28 rfl hl (by decide) rfl (fun ls hl => ?_)
    have L29 : ∀ (L29n k : Nat), k + L29n = 12 → ∀ (H : Heap) (locs : List Loc) (ls : Array Slot), ww_W D (cw_t cy) A s (cw_w ad cy claims 1 (epoch + 1) nxt seed pot terms claimed ecnt esum efac estr enum ewt ewa rlen rsum rlead rnum nw nwa nled nmis nmio (mx k (b_as epoch nas) nas) (mx k (b_mem epoch nas nw ndep) nmem) ncom nop ndep ndig nnum) H locs → lv_has ls 3 [(0, .ref (ad 0)), (1, .int (f_cn (b_mem epoch nas nw ndep) k)), (2, .int (nI k))] → W p l e (ww_rm 1 21) s m ([.ref (ad 0)] : List Value).toArray below meth c H locs 0 0 (MQ below (ww_Qi D (cw_t cy) A (cw_w ad cy claims (if phase = 0 then 1 else phase) (if phase = 0 then epoch + 1 else epoch) nxt seed pot terms claimed ecnt esum efac estr enum ewt ewa rlen rsum rlead rnum nw nwa nled nmis nmio (if phase = 0 then mx 12 (b_as epoch nas) nas else nas) (if phase = 0 then mx 12 (b_mem epoch nas nw ndep) nmem else nmem) ncom nop ndep ndig nnum) (if phase = 0 then f_cn (b_mem epoch nas nw ndep) 12 else -3)) ([.ref (ad 0)] : List Value).toArray s 0 0 A) (F0 m 29 ls []) := by
      intro L29n
      induction L29n with
      | zero =>
        intro k hkk  H locs ls hw hl
        obtain rfl : 12 = k := by omega
        refine lv_iload_n hx hb dX3_begin_29 rfl (lv_at hl 2 rfl) ?_
        refine lv_bipush (v := 12) hx hb dX3_begin_30 (by decide) ?_
        refine lv_icmp_ge (tgt := 69) hx hb dX3_begin_32 (by decide) (fun _ => ?_) (fun h2 => absurd (by decide) h2)
        refine lv_iload_n hx hb dX3_begin_69 rfl (lv_at hl 1 rfl) ?_
        exact ww_ri hx hb hr hlk hw dX3_begin_70 (by simp only [if_pos h1]) (cw_c rfl (by simp only [if_pos h1]) (by simp only [if_pos h1]) rfl rfl rfl rfl rfl rfl rfl rfl rfl rfl rfl rfl rfl rfl rfl rfl rfl rfl rfl rfl rfl (by simp only [if_pos h1]) (by simp only [if_pos h1]) rfl rfl rfl rfl rfl)
      | succ L29n ihL29 =>
        intro k hkk  H locs ls hw hl
        have hkkl : k < 12 := by omega
        refine lv_iload_n hx hb dX3_begin_29 rfl (lv_at hl 2 rfl) ?_
        refine lv_bipush (v := 12) hx hb dX3_begin_30 (by decide) ?_
        refine lv_icmp_ge (tgt := 69) hx hb dX3_begin_32 (by decide) (fun h3 => absurd h3 (nI_nge 12 rfl hkkl (by decide))) (fun _ => ?_)
        refine lv_aload_n hx hb dX3_begin_35 rfl (lv_at hl 0 rfl) ?_
        refine cg_X3_nodes hx hb hts hn3 hown hw (hts (.fieldLink RX3 11 "LeaderRows" "nodes" "[LLeaderRows$Node;") (by decide +kernel)) dX3_begin_36 ?_
        refine lv_iload_n hx hb dX3_begin_39 rfl (lv_at hl 2 rfl) ?_
        refine ca_nodes hx hb hw k (by omega) rfl dX3_begin_40 ?_
        refine lv_aload_n hx hb dX3_begin_41 rfl (lv_at hl 0 rfl) ?_
        refine cg_X3_epoch hx hb hts hn3 hown hw (hts (.fieldLink RX3 64 "LeaderRows" "epoch" "I") (by decide +kernel)) dX3_begin_42 ?_
        refine ww_cMV (As := [.int (epoch + 1)]) (rest := []) hx hb hml hown hts hA hw hl.1 (k_X1_enterEpoch l k (epoch + 1) (by omega)) (cwV 1 hts gX3_begin_X1_enterEpoch rfl rfl rfl (by decide +kernel) ⟨Nat.le_of_ble_eq_true rfl, Nat.le_of_ble_eq_true rfl⟩) rfl (10 + k) (cw_at rfl _ (by omega)) rfl rfl rfl (Nat.le_of_ble_eq_true rfl) ⟨Nat.zero_le _, Nat.zero_le _⟩ dX3_begin_45 (fun H locs hw => ?_)
        refine lv_aload_n hx hb dX3_begin_48 rfl (lv_at hl 0 rfl) ?_
        refine cg_X3_nodes hx hb hts hn3 hown hw (hts (.fieldLink RX3 11 "LeaderRows" "nodes" "[LLeaderRows$Node;") (by decide +kernel)) dX3_begin_49 ?_
        refine lv_iload_n hx hb dX3_begin_52 rfl (lv_at hl 2 rfl) ?_
        refine ca_nodes hx hb hw k (by omega) rfl dX3_begin_53 ?_
        refine cg_X1_member hx hb hts hn1 hown hw (by omega) (hts (.fieldLink RX3 71 "LeaderRows$Node" "member" "Z") (by decide +kernel)) dX3_begin_54 ?_
        refine lv_if_eq (tgt := 63) hx hb dX3_begin_57 (by decide) (fun h4 => ?_) (fun h4 => ?_)
        · refine lv_iinc (v := nI (k + 1)) (lv' := [(2, .int (nI (k + 1))), (0, .ref (ad 0)), (1, .int (f_cn (b_mem epoch nas nw ndep) k))]) hx hb dX3_begin_63 hl (k := 2) rfl (nI_1 k) (by decide) rfl (fun ls hl => ?_)
          refine lv_goto (tgt := 29) hx hb dX3_begin_66 (by decide) ?_
          have q5 : (f_cn (b_mem epoch nas nw ndep) k) = f_cn (b_mem epoch nas nw ndep) (k + 1) := by have q9 := h4; simp only [upd_s, mx_at] at q9; rw [f_cn]; first | rw [if_pos (show b_mem epoch nas nw ndep k = 0 from q9)] | rw [if_neg (show ¬ b_mem epoch nas nw ndep k = 0 from q9)]
          have hl9 : lv_has ls 3 [(0, .ref (ad 0)), (1, .int (f_cn (b_mem epoch nas nw ndep) (k + 1))), (2, .int (nI (k + 1)))] := by rw [← q5]; exact lv_sub hl [1, 2, 0] rfl
          exact ihL29 (k + 1) (by omega)  _ _ ls ((cw_c rfl rfl rfl rfl rfl rfl rfl rfl rfl rfl rfl rfl rfl rfl rfl rfl rfl rfl rfl rfl rfl rfl rfl rfl (mx_up (by simp only [mx_at, b_as])) (mx_up (by simp only [mx_at, b_mem])) rfl rfl rfl rfl rfl : cw_w ad cy claims 1 (epoch + 1) nxt seed pot terms claimed ecnt esum efac estr enum ewt ewa rlen rsum rlead rnum nw nwa nled nmis nmio (upd (mx k (b_as epoch nas) nas) k (f_as ((mx k (b_as epoch nas) nas) k) (epoch + 1))) (upd (mx k (b_mem epoch nas nw ndep) nmem) k (f_mem (f_as ((mx k (b_as epoch nas) nas) k) (epoch + 1)) (nw k) (ndep k))) ncom nop ndep ndig nnum = cw_w ad cy claims 1 (epoch + 1) nxt seed pot terms claimed ecnt esum efac estr enum ewt ewa rlen rsum rlead rnum nw nwa nled nmis nmio (mx (k + 1) (b_as epoch nas) nas) (mx (k + 1) (b_mem epoch nas nw ndep) nmem) ncom nop ndep ndig nnum) ▸ hw) hl9
        · refine lv_iinc (v := (f_cn (b_mem epoch nas nw ndep) k) + 1) (lv' := [(1, .int ((f_cn (b_mem epoch nas nw ndep) k) + 1)), (0, .ref (ad 0)), (2, .int (nI k))]) hx hb dX3_begin_60 hl (k := 1) rfl rfl (by decide) rfl (fun ls hl => ?_)
          refine lv_iinc (v := nI (k + 1)) (lv' := [(2, .int (nI (k + 1))), (1, .int ((f_cn (b_mem epoch nas nw ndep) k) + 1)), (0, .ref (ad 0))]) hx hb dX3_begin_63 hl (k := 2) rfl (nI_1 k) (by decide) rfl (fun ls hl => ?_)
          refine lv_goto (tgt := 29) hx hb dX3_begin_66 (by decide) ?_
          have q6 : ((f_cn (b_mem epoch nas nw ndep) k) + 1) = f_cn (b_mem epoch nas nw ndep) (k + 1) := by have q9 := h4; simp only [upd_s, mx_at] at q9; rw [f_cn]; first | rw [if_pos (show b_mem epoch nas nw ndep k = 0 from q9)] | rw [if_neg (show ¬ b_mem epoch nas nw ndep k = 0 from q9)]
          have hl9 : lv_has ls 3 [(0, .ref (ad 0)), (1, .int (f_cn (b_mem epoch nas nw ndep) (k + 1))), (2, .int (nI (k + 1)))] := by rw [← q6]; exact lv_sub hl [2, 1, 0] rfl
          exact ihL29 (k + 1) (by omega)  _ _ ls ((cw_c rfl rfl rfl rfl rfl rfl rfl rfl rfl rfl rfl rfl rfl rfl rfl rfl rfl rfl rfl rfl rfl rfl rfl rfl (mx_up (by simp only [mx_at, b_as])) (mx_up (by simp only [mx_at, b_mem])) rfl rfl rfl rfl rfl : cw_w ad cy claims 1 (epoch + 1) nxt seed pot terms claimed ecnt esum efac estr enum ewt ewa rlen rsum rlead rnum nw nwa nled nmis nmio (upd (mx k (b_as epoch nas) nas) k (f_as ((mx k (b_as epoch nas) nas) k) (epoch + 1))) (upd (mx k (b_mem epoch nas nw ndep) nmem) k (f_mem (f_as ((mx k (b_as epoch nas) nas) k) (epoch + 1)) (nw k) (ndep k))) ncom nop ndep ndig nnum = cw_w ad cy claims 1 (epoch + 1) nxt seed pot terms claimed ecnt esum efac estr enum ewt ewa rlen rsum rlead rnum nw nwa nled nmis nmio (mx (k + 1) (b_as epoch nas) nas) (mx (k + 1) (b_mem epoch nas nw ndep) nmem) ncom nop ndep ndig nnum) ▸ hw) hl9
    exact L29 12 0 (by omega)  _ _ ls ((cw_c rfl rfl rfl rfl rfl rfl rfl rfl rfl rfl rfl rfl rfl rfl rfl rfl rfl rfl rfl rfl rfl rfl rfl rfl ((mx_0 _ _).symm) ((mx_0 _ _).symm) rfl rfl rfl rfl rfl : cw_w ad cy claims 1 (epoch + 1) nxt seed pot terms claimed ecnt esum efac estr enum ewt ewa rlen rsum rlead rnum nw nwa nled nmis nmio nas nmem ncom nop ndep ndig nnum = cw_w ad cy claims 1 (epoch + 1) nxt seed pot terms claimed ecnt esum efac estr enum ewt ewa rlen rsum rlead rnum nw nwa nled nmis nmio (mx 0 (b_as epoch nas) nas) (mx 0 (b_mem epoch nas nw ndep) nmem) ncom nop ndep ndig nnum) ▸ hw) (lv_sub hl [2, 1, 0] (by first | rfl | (simp [lv_pick])))
  · refine lv_bipush (v := (-3)) hx hb dX3_begin_7 (by decide) ?_
    exact ww_ri hx hb hr hlk hw dX3_begin_9 (by simp only [if_neg h1]) (cw_c rfl (by simp only [if_neg h1]) (by simp only [if_neg h1]) rfl rfl rfl rfl rfl rfl rfl rfl rfl rfl rfl rfl rfl rfl rfl rfl rfl rfl rfl rfl rfl (by simp only [if_neg h1]) (by simp only [if_neg h1]) rfl rfl rfl rfl rfl)
set_option maxHeartbeats 4000000 in
set_option maxRecDepth 100000 in
theorem k_X3_commit (l : Launch) {D : va_G} {ad : Nat → Nat} {cy : Nat → ClassId} {claims phase epoch nxt : Int32} {seed pot : Int64} {terms claimed : Nat → Int32} {ecnt esum efac : Int32} {estr : Int64} {enum : Int32} {ewt ewa : Nat → Int32} {rlen rsum : Int32} {rlead rnum nw nwa nled nmis nmio nas nmem ncom nop : Nat → Int32} {ndep ndig nnum : Nat → Int64} (node : Int32) (dg : Int64)  : ww_MI l D (cw_t cy) yX3_commit wsX3_commit (ww_rm 1 22) [.ref (ad 0), .int node, .long dg] (cw_w ad cy claims phase epoch nxt seed pot terms claimed ecnt esum efac estr enum ewt ewa rlen rsum rlead rnum nw nwa nled nmis nmio nas nmem ncom nop ndep ndig nnum) (cw_w ad cy claims phase epoch nxt seed pot terms claimed ecnt esum efac estr enum ewt ewa rlen rsum rlead rnum nw nwa nled nmis nmio nas nmem (if f_isN node = 0 then ncom else if phase = 1 then if nmem node.toNatClampNeg = 0 then ncom else if ncom node.toNatClampNeg = 0 then upd ncom node.toNatClampNeg 1 else ncom else ncom) nop ndep (if f_isN node = 0 then ndig else if phase = 1 then if nmem node.toNatClampNeg = 0 then ndig else if ncom node.toNatClampNeg = 0 then vp_updL ndig node.toNatClampNeg dg else ndig else ndig) nnum) (if f_isN node = 0 then -1 else if phase = 1 then if nmem node.toNatClampNeg = 0 then -3 else if ncom node.toNatClampNeg = 0 then f_cn (upd ncom node.toNatClampNeg 1) 12 else -3 else -3) := by
  refine ww_MI_mk .int (cc := cX3_commit) (maxL := 5) (by decide) rfl (Nat.le_of_ble_eq_true rfl) ?_
  intro p e s m below meth c A ls hx hb hr hts hown hlk hml hA hw hl
  have hown : s.vm.findClass RX3 = some m.cls := hown
  have hl : lv_has ls 5 [(0, .ref (ad 0)), (1, .int node), (2, .long dg)] := hl
  have hn1 : ∀ w ∈ wsX10, w ∈ wsX3_commit := by decide +kernel
  have hn3 : ∀ w ∈ wsX30, w ∈ wsX3_commit := by decide +kernel
  refine lv_iload_n hx hb dX3_commit_0 rfl (lv_at hl 1 rfl) ?_
  refine ww_cSI (As := [.int node]) (rest := []) hx hb hml hown hts hl.1 (k_X3_isNode l node) (va_cwS 1 hts gX3_commit_X3_isNode rfl rfl rfl (by decide +kernel) ⟨Nat.le_of_ble_eq_true rfl, Nat.le_of_ble_eq_true rfl⟩) rfl rfl (Nat.le_of_ble_eq_true rfl) ⟨Nat.zero_le _, Nat.zero_le _⟩ dX3_commit_1 ?_
  refine lv_if_ne (tgt := 9) hx hb dX3_commit_4 (by decide) (fun h1 => ?_) (fun h1 => ?_)
  · obtain ⟨k, hk, rfl⟩ := f_isN_in h1
    have ek : (nI k).toNatClampNeg = k := nI_clamp (by omega)
    refine lv_aload_n hx hb dX3_commit_9 rfl (lv_at hl 0 rfl) ?_
    refine cg_X3_nodes hx hb hts hn3 hown hw (hts (.fieldLink RX3 11 "LeaderRows" "nodes" "[LLeaderRows$Node;") (by decide +kernel)) dX3_commit_10 ?_
    refine lv_iload_n hx hb dX3_commit_13 rfl (lv_at hl 1 rfl) ?_
    refine ca_nodes hx hb hw k (by omega) rfl dX3_commit_14 ?_
    refine lv_astore (lv' := [(4, .ref (ad (10 + k))), (0, .ref (ad 0)), (1, .int (nI k)), (2, .long dg)]) hx hb dX3_commit_15 hl (by decide) rfl (fun ls hl => ?_)
    refine lv_aload_n hx hb dX3_commit_17 rfl (lv_at hl 1 rfl) ?_
    refine cg_X3_phase hx hb hts hn3 hown hw (hts (.fieldLink RX3 41 "LeaderRows" "phase" "I") (by decide +kernel)) dX3_commit_18 ?_
    refine lv_iconst (v := 1) hx hb dX3_commit_21 (by decide) ?_
    refine lv_icmp_ne (tgt := 41) hx hb dX3_commit_22 (by decide) (fun h2 => ?_) (fun h2 => ?_)
    · refine lv_bipush (v := (-3)) hx hb dX3_commit_41 (by decide) ?_
      exact ww_ri hx hb hr hlk hw dX3_commit_43 (by simp only [ek, if_neg h1, if_neg h2]) (cw_c rfl rfl rfl rfl rfl rfl rfl rfl rfl rfl rfl rfl rfl rfl rfl rfl rfl rfl rfl rfl rfl rfl rfl rfl rfl rfl (by simp only [ek, if_neg h1, if_neg h2]) rfl rfl (by simp only [ek, if_neg h1, if_neg h2]) rfl)
    · refine lv_aload hx hb dX3_commit_25 (lv_at hl 0 rfl) ?_
      refine cg_X1_member hx hb hts hn1 hown hw (by omega) (hts (.fieldLink RX3 71 "LeaderRows$Node" "member" "Z") (by decide +kernel)) dX3_commit_27 ?_
      refine lv_if_eq (tgt := 41) hx hb dX3_commit_30 (by decide) (fun h3 => ?_) (fun h3 => ?_)
      · refine lv_bipush (v := (-3)) hx hb dX3_commit_41 (by decide) ?_
        exact ww_ri hx hb hr hlk hw dX3_commit_43 (by simp only [ek, if_neg h1, if_pos h2, if_pos h3]) (cw_c rfl rfl rfl rfl rfl rfl rfl rfl rfl rfl rfl rfl rfl rfl rfl rfl rfl rfl rfl rfl rfl rfl rfl rfl rfl rfl (by simp only [ek, if_neg h1, if_pos h2, if_pos h3]) rfl rfl (by simp only [ek, if_neg h1, if_pos h2, if_pos h3]) rfl)
      · refine lv_aload hx hb dX3_commit_33 (lv_at hl 0 rfl) ?_
        refine cg_X1_committed hx hb hts hn1 hown hw (by omega) (hts (.fieldLink RX3 75 "LeaderRows$Node" "committed" "Z") (by decide +kernel)) dX3_commit_35 ?_
        refine lv_if_eq (tgt := 44) hx hb dX3_commit_38 (by decide) (fun h4 => ?_) (fun h4 => ?_)
        · refine lv_aload hx hb dX3_commit_44 (lv_at hl 0 rfl) ?_
          refine lv_iconst (v := 1) hx hb dX3_commit_46 (by decide) ?_
          refine cp_ncom hx hb hts hn1 hown hw (by omega) rfl rfl (hts (.fieldLink RX3 75 "LeaderRows$Node" "committed" "Z") (by decide +kernel)) dX3_commit_47 (fun H locs hw => ?_)
          refine lv_aload hx hb dX3_commit_50 (lv_at hl 0 rfl) ?_
          refine lv_lload_n hx hb dX3_commit_52 rfl (lv_at hl 3 rfl) ?_
          refine cp_ndig hx hb hts hn1 hown hw (by omega) (hts (.fieldLink RX3 78 "LeaderRows$Node" "digest" "J") (by decide +kernel)) dX3_commit_53 (fun H locs hw => ?_)
          refine lv_aload_n hx hb dX3_commit_56 rfl (lv_at hl 1 rfl) ?_
          refine ww_cMI (As := []) (rest := []) hx hb hml hown hts hA hw hl.1 (k_X3_countCommitted l ) (cwV 0 hts gX3_commit_X3_countCommitted rfl rfl rfl (by decide +kernel) ⟨Nat.le_of_ble_eq_true rfl, Nat.le_of_ble_eq_true rfl⟩) rfl 0 rfl rfl rfl rfl (Nat.le_of_ble_eq_true rfl) ⟨Nat.zero_le _, Nat.zero_le _⟩ dX3_commit_57 (fun H locs hw => ?_)
          exact ww_ri hx hb hr hlk hw dX3_commit_60 (by simp only [ek, if_neg h1, if_pos h2, if_neg h3, if_pos h4]) (cw_c rfl rfl rfl rfl rfl rfl rfl rfl rfl rfl rfl rfl rfl rfl rfl rfl rfl rfl rfl rfl rfl rfl rfl rfl rfl rfl (by simp only [ek, if_neg h1, if_pos h2, if_neg h3, if_pos h4]) rfl rfl (by simp only [ek, if_neg h1, if_pos h2, if_neg h3, if_pos h4]) rfl)
        · refine lv_bipush (v := (-3)) hx hb dX3_commit_41 (by decide) ?_
          exact ww_ri hx hb hr hlk hw dX3_commit_43 (by simp only [ek, if_neg h1, if_pos h2, if_neg h3, if_neg h4]) (cw_c rfl rfl rfl rfl rfl rfl rfl rfl rfl rfl rfl rfl rfl rfl rfl rfl rfl rfl rfl rfl rfl rfl rfl rfl rfl rfl (by simp only [ek, if_neg h1, if_pos h2, if_neg h3, if_neg h4]) rfl rfl (by simp only [ek, if_neg h1, if_pos h2, if_neg h3, if_neg h4]) rfl)
  · refine lv_iconst (v := (-1)) hx hb dX3_commit_7 (by decide) ?_
    exact ww_ri hx hb hr hlk hw dX3_commit_8 (by simp only [if_pos h1]) (cw_c rfl rfl rfl rfl rfl rfl rfl rfl rfl rfl rfl rfl rfl rfl rfl rfl rfl rfl rfl rfl rfl rfl rfl rfl rfl rfl (by simp only [if_pos h1]) rfl rfl (by simp only [if_pos h1]) rfl)
set_option maxHeartbeats 4000000 in
set_option maxRecDepth 100000 in
theorem k_X3_opening (l : Launch) {D : va_G} {ad : Nat → Nat} {cy : Nat → ClassId} {claims phase epoch nxt : Int32} {seed pot : Int64} {terms claimed : Nat → Int32} {ecnt esum efac : Int32} {estr : Int64} {enum : Int32} {ewt ewa : Nat → Int32} {rlen rsum : Int32} {rlead rnum nw nwa nled nmis nmio nas nmem ncom nop : Nat → Int32} {ndep ndig nnum : Nat → Int64}   : ww_MI l D (cw_t cy) yX3_opening wsX3_opening (ww_rm 1 22) [.ref (ad 0)] (cw_w ad cy claims phase epoch nxt seed pot terms claimed ecnt esum efac estr enum ewt ewa rlen rsum rlead rnum nw nwa nled nmis nmio nas nmem ncom nop ndep ndig nnum) (cw_w ad cy claims (if phase = 1 then 2 else phase) epoch nxt seed pot terms claimed ecnt esum efac estr enum ewt ewa rlen rsum rlead rnum nw nwa nled nmis nmio nas nmem ncom nop ndep ndig nnum) (if phase = 1 then f_cn ncom 12 else -3) := by
  refine ww_MI_mk .int (cc := cX3_opening) (maxL := 1) (by decide) rfl (Nat.le_of_ble_eq_true rfl) ?_
  intro p e s m below meth c A ls hx hb hr hts hown hlk hml hA hw hl
  have hown : s.vm.findClass RX3 = some m.cls := hown
  have hl : lv_has ls 1 [(0, .ref (ad 0))] := hl
  have hn3 : ∀ w ∈ wsX30, w ∈ wsX3_opening := by decide +kernel
  refine lv_aload_n hx hb dX3_opening_0 rfl (lv_at hl 0 rfl) ?_
  refine cg_X3_phase hx hb hts hn3 hown hw (hts (.fieldLink RX3 41 "LeaderRows" "phase" "I") (by decide +kernel)) dX3_opening_1 ?_
  refine lv_iconst (v := 1) hx hb dX3_opening_4 (by decide) ?_
  refine lv_icmp_eq (tgt := 11) hx hb dX3_opening_5 (by decide) (fun h1 => ?_) (fun h1 => ?_)
  · refine lv_aload_n hx hb dX3_opening_11 rfl (lv_at hl 0 rfl) ?_
    refine lv_iconst (v := 2) hx hb dX3_opening_12 (by decide) ?_
    refine cp_phase hx hb hts hn3 hown hw (hts (.fieldLink RX3 41 "LeaderRows" "phase" "I") (by decide +kernel)) dX3_opening_13 (fun H locs hw => ?_)
    refine lv_aload_n hx hb dX3_opening_16 rfl (lv_at hl 0 rfl) ?_
    refine ww_cMI (As := []) (rest := []) hx hb hml hown hts hA hw hl.1 (k_X3_countCommitted l ) (cwV 0 hts gX3_opening_X3_countCommitted rfl rfl rfl (by decide +kernel) ⟨Nat.le_of_ble_eq_true rfl, Nat.le_of_ble_eq_true rfl⟩) rfl 0 rfl rfl rfl rfl (Nat.le_of_ble_eq_true rfl) ⟨Nat.zero_le _, Nat.zero_le _⟩ dX3_opening_17 (fun H locs hw => ?_)
    exact ww_ri hx hb hr hlk hw dX3_opening_20 (by simp only [if_pos h1]) (cw_c rfl (by simp only [if_pos h1]) rfl rfl rfl rfl rfl rfl rfl rfl rfl rfl rfl rfl rfl rfl rfl rfl rfl rfl rfl rfl rfl rfl rfl rfl rfl rfl rfl rfl rfl)
  · refine lv_bipush (v := (-3)) hx hb dX3_opening_8 (by decide) ?_
    exact ww_ri hx hb hr hlk hw dX3_opening_10 (by simp only [if_neg h1]) (cw_c rfl (by simp only [if_neg h1]) rfl rfl rfl rfl rfl rfl rfl rfl rfl rfl rfl rfl rfl rfl rfl rfl rfl rfl rfl rfl rfl rfl rfl rfl rfl rfl rfl rfl rfl)
set_option maxHeartbeats 4000000 in
set_option maxRecDepth 100000 in
theorem k_X3_open (l : Launch) {D : va_G} {ad : Nat → Nat} {cy : Nat → ClassId} {claims phase epoch nxt : Int32} {seed pot : Int64} {terms claimed : Nat → Int32} {ecnt esum efac : Int32} {estr : Int64} {enum : Int32} {ewt ewa : Nat → Int32} {rlen rsum : Int32} {rlead rnum nw nwa nled nmis nmio nas nmem ncom nop : Nat → Int32} {ndep ndig nnum : Nat → Int64} (node : Int32) (number : Int64)  : ww_MI l D (cw_t cy) yX3_open wsX3_open (ww_rm 2 45) [.ref (ad 0), .int node, .long number] (cw_w ad cy claims phase epoch nxt seed pot terms claimed ecnt esum efac estr enum ewt ewa rlen rsum rlead rnum nw nwa nled nmis nmio nas nmem ncom nop ndep ndig nnum) (cw_w ad cy claims phase epoch nxt seed pot terms claimed ecnt esum efac estr enum ewt ewa rlen rsum rlead rnum nw nwa nled nmis nmio nas nmem ncom (if f_isN node = 0 then nop else if phase = 2 then if f_wh (ncom node.toNatClampNeg) (nop node.toNatClampNeg) = 0 then nop else if ndig node.toNatClampNeg = f_dig node number then upd nop node.toNatClampNeg 1 else nop else nop) ndep ndig (if f_isN node = 0 then nnum else if phase = 2 then if f_wh (ncom node.toNatClampNeg) (nop node.toNatClampNeg) = 0 then nnum else if ndig node.toNatClampNeg = f_dig node number then vp_updL nnum node.toNatClampNeg number else nnum else nnum)) (if f_isN node = 0 then -1 else if phase = 2 then if f_wh (ncom node.toNatClampNeg) (nop node.toNatClampNeg) = 0 then -3 else if ndig node.toNatClampNeg = f_dig node number then f_cn (upd nop node.toNatClampNeg 1) 12 else -3 else -3) := by
  refine ww_MI_mk .int (cc := cX3_open) (maxL := 5) (by decide) rfl (Nat.le_of_ble_eq_true rfl) ?_
  intro p e s m below meth c A ls hx hb hr hts hown hlk hml hA hw hl
  have hown : s.vm.findClass RX3 = some m.cls := hown
  have hl : lv_has ls 5 [(0, .ref (ad 0)), (1, .int node), (2, .long number)] := hl
  have hn1 : ∀ w ∈ wsX10, w ∈ wsX3_open := by decide +kernel
  have hn3 : ∀ w ∈ wsX30, w ∈ wsX3_open := by decide +kernel
  refine lv_iload_n hx hb dX3_open_0 rfl (lv_at hl 1 rfl) ?_
  refine ww_cSI (As := [.int node]) (rest := []) hx hb hml hown hts hl.1 (k_X3_isNode l node) (va_cwS 1 hts gX3_open_X3_isNode rfl rfl rfl (by decide +kernel) ⟨Nat.le_of_ble_eq_true rfl, Nat.le_of_ble_eq_true rfl⟩) rfl rfl (Nat.le_of_ble_eq_true rfl) ⟨Nat.zero_le _, Nat.zero_le _⟩ dX3_open_1 ?_
  refine lv_if_ne (tgt := 9) hx hb dX3_open_4 (by decide) (fun h1 => ?_) (fun h1 => ?_)
  · obtain ⟨k, hk, rfl⟩ := f_isN_in h1
    have ek : (nI k).toNatClampNeg = k := nI_clamp (by omega)
    refine lv_aload_n hx hb dX3_open_9 rfl (lv_at hl 0 rfl) ?_
    refine cg_X3_nodes hx hb hts hn3 hown hw (hts (.fieldLink RX3 11 "LeaderRows" "nodes" "[LLeaderRows$Node;") (by decide +kernel)) dX3_open_10 ?_
    refine lv_iload_n hx hb dX3_open_13 rfl (lv_at hl 1 rfl) ?_
    refine ca_nodes hx hb hw k (by omega) rfl dX3_open_14 ?_
    refine lv_astore (lv' := [(4, .ref (ad (10 + k))), (0, .ref (ad 0)), (1, .int (nI k)), (2, .long number)]) hx hb dX3_open_15 hl (by decide) rfl (fun ls hl => ?_)
    refine lv_aload_n hx hb dX3_open_17 rfl (lv_at hl 1 rfl) ?_
    refine cg_X3_phase hx hb hts hn3 hown hw (hts (.fieldLink RX3 41 "LeaderRows" "phase" "I") (by decide +kernel)) dX3_open_18 ?_
    refine lv_iconst (v := 2) hx hb dX3_open_21 (by decide) ?_
    refine lv_icmp_ne (tgt := 47) hx hb dX3_open_22 (by decide) (fun h2 => ?_) (fun h2 => ?_)
    · refine lv_bipush (v := (-3)) hx hb dX3_open_47 (by decide) ?_
      exact ww_ri hx hb hr hlk hw dX3_open_49 (by simp only [ek, if_neg h1, if_neg h2]) (cw_c rfl rfl rfl rfl rfl rfl rfl rfl rfl rfl rfl rfl rfl rfl rfl rfl rfl rfl rfl rfl rfl rfl rfl rfl rfl rfl rfl (by simp only [ek, if_neg h1, if_neg h2]) rfl rfl (by simp only [ek, if_neg h1, if_neg h2]))
    · refine lv_aload hx hb dX3_open_25 (lv_at hl 0 rfl) ?_
      refine ww_cMI (As := []) (rest := []) hx hb hml hown hts hA hw hl.1 (k_X1_withholds l k  (by omega)) (cwV 0 hts gX3_open_X1_withholds rfl rfl rfl (by decide +kernel) ⟨Nat.le_of_ble_eq_true rfl, Nat.le_of_ble_eq_true rfl⟩) rfl (10 + k) (cw_at rfl _ (by omega)) rfl rfl rfl (Nat.le_of_ble_eq_true rfl) ⟨Nat.zero_le _, Nat.zero_le _⟩ dX3_open_27 (fun H locs hw => ?_)
      refine lv_if_eq (tgt := 47) hx hb dX3_open_30 (by decide) (fun h3 => ?_) (fun h3 => ?_)
      · refine lv_bipush (v := (-3)) hx hb dX3_open_47 (by decide) ?_
        exact ww_ri hx hb hr hlk hw dX3_open_49 (by simp only [ek, if_neg h1, if_pos h2, if_pos h3]) (cw_c rfl rfl rfl rfl rfl rfl rfl rfl rfl rfl rfl rfl rfl rfl rfl rfl rfl rfl rfl rfl rfl rfl rfl rfl rfl rfl rfl (by simp only [ek, if_neg h1, if_pos h2, if_pos h3]) rfl rfl (by simp only [ek, if_neg h1, if_pos h2, if_pos h3]))
      · refine lv_aload hx hb dX3_open_33 (lv_at hl 0 rfl) ?_
        refine cg_X1_digest hx hb hts hn1 hown hw (by omega) (hts (.fieldLink RX3 78 "LeaderRows$Node" "digest" "J") (by decide +kernel)) dX3_open_35 ?_
        refine lv_iload_n hx hb dX3_open_38 rfl (lv_at hl 2 rfl) ?_
        refine lv_lload_n hx hb dX3_open_39 rfl (lv_at hl 3 rfl) ?_
        refine ww_cSL (As := [.int (nI k), .long number]) (rest := [.long (ndig k)]) hx hb hml hown hts hl.1 (k_X3_digestOf l (nI k) number) (va_cwS 2 hts gX3_open_X3_digestOf rfl rfl rfl (by decide +kernel) ⟨Nat.le_of_ble_eq_true rfl, Nat.le_of_ble_eq_true rfl⟩) rfl rfl (Nat.le_of_ble_eq_true rfl) ⟨Nat.zero_le _, Nat.zero_le _⟩ dX3_open_40 ?_
        refine ww_lif_eq (tgt := 50) hx hb dX3_open_43 dX3_open_44 (by decide) (fun h4 => ?_) (fun h4 => ?_)
        · refine lv_aload hx hb dX3_open_50 (lv_at hl 0 rfl) ?_
          refine lv_iconst (v := 1) hx hb dX3_open_52 (by decide) ?_
          refine cp_nop hx hb hts hn1 hown hw (by omega) rfl rfl (hts (.fieldLink RX3 93 "LeaderRows$Node" "opened" "Z") (by decide +kernel)) dX3_open_53 (fun H locs hw => ?_)
          refine lv_aload hx hb dX3_open_56 (lv_at hl 0 rfl) ?_
          refine lv_lload_n hx hb dX3_open_58 rfl (lv_at hl 3 rfl) ?_
          refine cp_nnum hx hb hts hn1 hown hw (by omega) (hts (.fieldLink RX3 96 "LeaderRows$Node" "number" "J") (by decide +kernel)) dX3_open_59 (fun H locs hw => ?_)
          refine lv_aload_n hx hb dX3_open_62 rfl (lv_at hl 1 rfl) ?_
          refine ww_cMI (As := []) (rest := []) hx hb hml hown hts hA hw hl.1 (k_X3_countOpened l ) (cwV 0 hts gX3_open_X3_countOpened rfl rfl rfl (by decide +kernel) ⟨Nat.le_of_ble_eq_true rfl, Nat.le_of_ble_eq_true rfl⟩) rfl 0 rfl rfl rfl rfl (Nat.le_of_ble_eq_true rfl) ⟨Nat.zero_le _, Nat.zero_le _⟩ dX3_open_63 (fun H locs hw => ?_)
          exact ww_ri hx hb hr hlk hw dX3_open_66 (by simp only [ek, if_neg h1, if_pos h2, if_neg h3, if_pos h4]) (cw_c rfl rfl rfl rfl rfl rfl rfl rfl rfl rfl rfl rfl rfl rfl rfl rfl rfl rfl rfl rfl rfl rfl rfl rfl rfl rfl rfl (by simp only [ek, if_neg h1, if_pos h2, if_neg h3, if_pos h4]) rfl rfl (by simp only [ek, if_neg h1, if_pos h2, if_neg h3, if_pos h4]))
        · refine lv_bipush (v := (-3)) hx hb dX3_open_47 (by decide) ?_
          exact ww_ri hx hb hr hlk hw dX3_open_49 (by simp only [ek, if_neg h1, if_pos h2, if_neg h3, if_neg h4]) (cw_c rfl rfl rfl rfl rfl rfl rfl rfl rfl rfl rfl rfl rfl rfl rfl rfl rfl rfl rfl rfl rfl rfl rfl rfl rfl rfl rfl (by simp only [ek, if_neg h1, if_pos h2, if_neg h3, if_neg h4]) rfl rfl (by simp only [ek, if_neg h1, if_pos h2, if_neg h3, if_neg h4]))
  · refine lv_iconst (v := (-1)) hx hb dX3_open_7 (by decide) ?_
    exact ww_ri hx hb hr hlk hw dX3_open_8 (by simp only [if_pos h1]) (cw_c rfl rfl rfl rfl rfl rfl rfl rfl rfl rfl rfl rfl rfl rfl rfl rfl rfl rfl rfl rfl rfl rfl rfl rfl rfl rfl rfl (by simp only [if_pos h1]) rfl rfl (by simp only [if_pos h1]))
set_option maxHeartbeats 4000000 in
set_option maxRecDepth 100000 in
theorem k_X3_leader (l : Launch) {D : va_G} {ad : Nat → Nat} {cy : Nat → ClassId} {claims phase epoch nxt : Int32} {seed pot : Int64} {terms claimed : Nat → Int32} {ecnt esum efac : Int32} {estr : Int64} {enum : Int32} {ewt ewa : Nat → Int32} {rsum : Int32} {rlead rnum nw nwa nled nmis nmio nas nmem ncom nop : Nat → Int32} {ndep ndig nnum : Nat → Int64} (T : Nat) (k : Int32) (hT : T ≤ 60)  : ww_MI l D (cw_t cy) yX3_leader wsX3_leader (ww_rm 2 42) [.ref (ad 0), .int k] (cw_w ad cy claims phase epoch nxt seed pot terms claimed ecnt esum efac estr enum ewt ewa (nI T) rsum rlead rnum nw nwa nled nmis nmio nas nmem ncom nop ndep ndig nnum) (cw_w ad cy claims phase epoch nxt seed pot terms claimed ecnt esum efac estr enum ewt ewa (nI T) rsum rlead rnum nw nwa nled nmis nmio nas nmem ncom nop ndep ndig nnum) (if 0 ≤ k then f_at k (nI T) rlead else -1) := by
  refine ww_MI_mk .int (cc := cX3_leader) (maxL := 2) (by decide) rfl (Nat.le_of_ble_eq_true rfl) ?_
  intro p e s m below meth c A ls hx hb hr hts hown hlk hml hA hw hl
  have hown : s.vm.findClass RX3 = some m.cls := hown
  have hl : lv_has ls 2 [(0, .ref (ad 0)), (1, .int k)] := hl
  have hn3 : ∀ w ∈ wsX30, w ∈ wsX3_leader := by decide +kernel
  refine lv_iload_n hx hb dX3_leader_0 rfl (lv_at hl 1 rfl) ?_
  refine lv_if_ge (tgt := 8) hx hb dX3_leader_1 (by decide) (fun h1 => ?_) (fun h1 => ?_)
  · refine lv_aload_n hx hb dX3_leader_8 rfl (lv_at hl 0 rfl) ?_
    refine cg_X3_row hx hb hts hn3 hown hw (hts (.fieldLink RX3 30 "LeaderRows" "row" "LLeaderRows$Row;") (by decide +kernel)) dX3_leader_9 ?_
    refine lv_iload_n hx hb dX3_leader_12 rfl (lv_at hl 1 rfl) ?_
    refine ww_cMI (As := [.int k]) (rest := []) hx hb hml hown hts hA hw hl.1 (k_X2_leaderOf l T k (by omega)) (cwV 1 hts gX3_leader_X2_leaderOf rfl rfl rfl (by decide +kernel) ⟨Nat.le_of_ble_eq_true rfl, Nat.le_of_ble_eq_true rfl⟩) rfl 4 rfl rfl rfl rfl (Nat.le_of_ble_eq_true rfl) ⟨Nat.zero_le _, Nat.zero_le _⟩ dX3_leader_13 (fun H locs hw => ?_)
    exact ww_ri hx hb hr hlk hw dX3_leader_16 (by simp only [if_pos h1]) rfl
  · refine lv_iconst (v := (-1)) hx hb dX3_leader_4 (by decide) ?_
    refine lv_goto (tgt := 16) hx hb dX3_leader_5 (by decide) ?_
    exact ww_ri hx hb hr hlk hw dX3_leader_16 (by simp only [if_neg h1]) rfl
set_option maxHeartbeats 4000000 in
set_option maxRecDepth 100000 in
theorem k_X3_drawn (l : Launch) {D : va_G} {ad : Nat → Nat} {cy : Nat → ClassId} {claims phase epoch nxt : Int32} {seed pot : Int64} {terms claimed : Nat → Int32} {ecnt esum efac : Int32} {estr : Int64} {enum : Int32} {ewt ewa : Nat → Int32} {rsum : Int32} {rlead rnum nw nwa nled nmis nmio nas nmem ncom nop : Nat → Int32} {ndep ndig nnum : Nat → Int64} (T : Nat) (k : Int32) (hT : T ≤ 60)  : ww_MI l D (cw_t cy) yX3_drawn wsX3_drawn (ww_rm 2 42) [.ref (ad 0), .int k] (cw_w ad cy claims phase epoch nxt seed pot terms claimed ecnt esum efac estr enum ewt ewa (nI T) rsum rlead rnum nw nwa nled nmis nmio nas nmem ncom nop ndep ndig nnum) (cw_w ad cy claims phase epoch nxt seed pot terms claimed ecnt esum efac estr enum ewt ewa (nI T) rsum rlead rnum nw nwa nled nmis nmio nas nmem ncom nop ndep ndig nnum) (if 0 ≤ k then f_at k (nI T) rnum else -1) := by
  refine ww_MI_mk .int (cc := cX3_drawn) (maxL := 2) (by decide) rfl (Nat.le_of_ble_eq_true rfl) ?_
  intro p e s m below meth c A ls hx hb hr hts hown hlk hml hA hw hl
  have hown : s.vm.findClass RX3 = some m.cls := hown
  have hl : lv_has ls 2 [(0, .ref (ad 0)), (1, .int k)] := hl
  have hn3 : ∀ w ∈ wsX30, w ∈ wsX3_drawn := by decide +kernel
  refine lv_iload_n hx hb dX3_drawn_0 rfl (lv_at hl 1 rfl) ?_
  refine lv_if_ge (tgt := 8) hx hb dX3_drawn_1 (by decide) (fun h1 => ?_) (fun h1 => ?_)
  · refine lv_aload_n hx hb dX3_drawn_8 rfl (lv_at hl 0 rfl) ?_
    refine cg_X3_row hx hb hts hn3 hown hw (hts (.fieldLink RX3 30 "LeaderRows" "row" "LLeaderRows$Row;") (by decide +kernel)) dX3_drawn_9 ?_
    refine lv_iload_n hx hb dX3_drawn_12 rfl (lv_at hl 1 rfl) ?_
    refine ww_cMI (As := [.int k]) (rest := []) hx hb hml hown hts hA hw hl.1 (k_X2_numbersOf l T k (by omega)) (cwV 1 hts gX3_drawn_X2_numbersOf rfl rfl rfl (by decide +kernel) ⟨Nat.le_of_ble_eq_true rfl, Nat.le_of_ble_eq_true rfl⟩) rfl 4 rfl rfl rfl rfl (Nat.le_of_ble_eq_true rfl) ⟨Nat.zero_le _, Nat.zero_le _⟩ dX3_drawn_13 (fun H locs hw => ?_)
    exact ww_ri hx hb hr hlk hw dX3_drawn_16 (by simp only [if_pos h1]) rfl
  · refine lv_iconst (v := (-1)) hx hb dX3_drawn_4 (by decide) ?_
    refine lv_goto (tgt := 16) hx hb dX3_drawn_5 (by decide) ?_
    exact ww_ri hx hb hr hlk hw dX3_drawn_16 (by simp only [if_neg h1]) rfl
set_option maxHeartbeats 4000000 in
set_option maxRecDepth 100000 in
theorem k_X3_claim (l : Launch) {D : va_G} {ad : Nat → Nat} {cy : Nat → ClassId} {phase epoch nxt : Int32} {seed pot : Int64} {terms claimed : Nat → Int32} {ecnt esum efac : Int32} {estr : Int64} {enum : Int32} {ewt ewa : Nat → Int32} {rlen rsum : Int32} {rlead rnum nw nwa nled nmis nmio nas nmem ncom nop : Nat → Int32} {ndep ndig nnum : Nat → Int64} (q : Nat) (node : Int32) (hq : q ≤ 60)  : ww_MI l D (cw_t cy) yX3_claim wsX3_claim (ww_rm 1 20) [.ref (ad 0), .int node] (cw_w ad cy (nI q) phase epoch nxt seed pot terms claimed ecnt esum efac estr enum ewt ewa rlen rsum rlead rnum nw nwa nled nmis nmio nas nmem ncom nop ndep ndig nnum) (cw_w ad cy (if f_isN node = 0 then nI q else if q < 60 then nI (q + 1) else nI q) phase epoch nxt seed pot terms (if f_isN node = 0 then claimed else if q < 60 then upd claimed q node else claimed) ecnt esum efac estr enum ewt ewa rlen rsum rlead rnum nw nwa nled nmis nmio nas nmem ncom nop ndep ndig nnum) (if f_isN node = 0 then -1 else if q < 60 then nI (q + 1) else -3) := by
  refine ww_MI_mk .int (cc := cX3_claim) (maxL := 2) (by decide) rfl (Nat.le_of_ble_eq_true rfl) ?_
  intro p e s m below meth c A ls hx hb hr hts hown hlk hml hA hw hl
  have hown : s.vm.findClass RX3 = some m.cls := hown
  have hl : lv_has ls 2 [(0, .ref (ad 0)), (1, .int node)] := hl
  have hn3 : ∀ w ∈ wsX30, w ∈ wsX3_claim := by decide +kernel
  refine lv_iload_n hx hb dX3_claim_0 rfl (lv_at hl 1 rfl) ?_
  refine ww_cSI (As := [.int node]) (rest := []) hx hb hml hown hts hl.1 (k_X3_isNode l node) (va_cwS 1 hts gX3_claim_X3_isNode rfl rfl rfl (by decide +kernel) ⟨Nat.le_of_ble_eq_true rfl, Nat.le_of_ble_eq_true rfl⟩) rfl rfl (Nat.le_of_ble_eq_true rfl) ⟨Nat.zero_le _, Nat.zero_le _⟩ dX3_claim_1 ?_
  refine lv_if_ne (tgt := 9) hx hb dX3_claim_4 (by decide) (fun h1 => ?_) (fun h1 => ?_)
  · refine lv_aload_n hx hb dX3_claim_9 rfl (lv_at hl 0 rfl) ?_
    refine cg_X3_claims hx hb hts hn3 hown hw (hts (.fieldLink RX3 162 "LeaderRows" "claims" "I") (by decide +kernel)) dX3_claim_10 ?_
    refine lv_bipush (v := 60) hx hb dX3_claim_13 (by decide) ?_
    refine lv_icmp_lt (tgt := 21) hx hb dX3_claim_15 (by decide) (fun h2 => ?_) (fun h2 => ?_)
    · have hq6 : q < 60 := lt_of60 h2 hq
      refine lv_aload_n hx hb dX3_claim_21 rfl (lv_at hl 0 rfl) ?_
      refine cg_X3_claimed hx hb hts hn3 hown hw (hts (.fieldLink RX3 34 "LeaderRows" "claimed" "[I") (by decide +kernel)) dX3_claim_22 ?_
      refine lv_aload_n hx hb dX3_claim_25 rfl (lv_at hl 0 rfl) ?_
      refine cg_X3_claims hx hb hts hn3 hown hw (hts (.fieldLink RX3 162 "LeaderRows" "claims" "I") (by decide +kernel)) dX3_claim_26 ?_
      refine lv_iload_n hx hb dX3_claim_29 rfl (lv_at hl 1 rfl) ?_
      refine cs_claimed hx hb hw q (by omega) rfl dX3_claim_30 (fun H locs hw => ?_)
      refine lv_aload_n hx hb dX3_claim_31 rfl (lv_at hl 0 rfl) ?_
      refine lv_dup hx hb dX3_claim_32 rfl ?_
      refine cg_X3_claims hx hb hts hn3 hown hw (hts (.fieldLink RX3 162 "LeaderRows" "claims" "I") (by decide +kernel)) dX3_claim_33 ?_
      refine lv_iconst (v := 1) hx hb dX3_claim_36 (by decide) ?_
      refine lv_iadd hx hb dX3_claim_37 ?_
      refine cp_claims hx hb hts hn3 hown hw (hts (.fieldLink RX3 162 "LeaderRows" "claims" "I") (by decide +kernel)) dX3_claim_38 (fun H locs hw => ?_)
      refine lv_aload_n hx hb dX3_claim_41 rfl (lv_at hl 0 rfl) ?_
      refine cg_X3_claims hx hb hts hn3 hown hw (hts (.fieldLink RX3 162 "LeaderRows" "claims" "I") (by decide +kernel)) dX3_claim_42 ?_
      exact ww_ri hx hb hr hlk hw dX3_claim_45 (by simp only [nI_1, if_neg h1, if_pos (lt_of60 h2 hq)]) (cw_c (by simp only [nI_1, if_neg h1, if_pos (lt_of60 h2 hq)]) rfl rfl rfl rfl rfl rfl (by simp only [nI_1, if_neg h1, if_pos (lt_of60 h2 hq)]) rfl rfl rfl rfl rfl rfl rfl rfl rfl rfl rfl rfl rfl rfl rfl rfl rfl rfl rfl rfl rfl rfl rfl)
    · refine lv_bipush (v := (-3)) hx hb dX3_claim_18 (by decide) ?_
      exact ww_ri hx hb hr hlk hw dX3_claim_20 (by simp only [nI_1, if_neg h1, if_neg (nlt_of60 h2)]) (cw_c (by simp only [nI_1, if_neg h1, if_neg (nlt_of60 h2)]) rfl rfl rfl rfl rfl rfl (by simp only [nI_1, if_neg h1, if_neg (nlt_of60 h2)]) rfl rfl rfl rfl rfl rfl rfl rfl rfl rfl rfl rfl rfl rfl rfl rfl rfl rfl rfl rfl rfl rfl rfl)
  · refine lv_iconst (v := (-1)) hx hb dX3_claim_7 (by decide) ?_
    exact ww_ri hx hb hr hlk hw dX3_claim_8 (by simp only [nI_1, if_pos h1]) (cw_c (by simp only [nI_1, if_pos h1]) rfl rfl rfl rfl rfl rfl (by simp only [nI_1, if_pos h1]) rfl rfl rfl rfl rfl rfl rfl rfl rfl rfl rfl rfl rfl rfl rfl rfl rfl rfl rfl rfl rfl rfl rfl)
set_option maxHeartbeats 4000000 in
set_option maxRecDepth 100000 in
theorem k_X3_choices (l : Launch) {D : va_G} {ad : Nat → Nat} {cy : Nat → ClassId} {claims phase epoch nxt : Int32} {seed pot : Int64} {terms claimed : Nat → Int32} {ecnt esum efac : Int32} {estr : Int64} {enum : Int32} {ewt ewa : Nat → Int32} {rlen rsum : Int32} {rlead rnum nw nwa nled nmis nmio nas nmem ncom nop : Nat → Int32} {ndep ndig nnum : Nat → Int64}   : ww_MI l D (cw_t cy) yX3_choices wsX3_choices (ww_rm 1 22) [.ref (ad 0)] (cw_w ad cy claims phase epoch nxt seed pot terms claimed ecnt esum efac estr enum ewt ewa rlen rsum rlead rnum nw nwa nled nmis nmio nas nmem ncom nop ndep ndig nnum) (cw_w ad cy claims phase epoch nxt seed pot terms claimed ecnt esum efac estr enum ewt ewa rlen rsum rlead rnum nw nwa nled nmis nmio nas nmem ncom nop ndep ndig nnum) (if phase = 2 then f_cn ncom 12 - f_cn nop 12 else 0) := by
  refine ww_MI_mk .int (cc := cX3_choices) (maxL := 1) (by decide) rfl (Nat.le_of_ble_eq_true rfl) ?_
  intro p e s m below meth c A ls hx hb hr hts hown hlk hml hA hw hl
  have hown : s.vm.findClass RX3 = some m.cls := hown
  have hl : lv_has ls 1 [(0, .ref (ad 0))] := hl
  have hn3 : ∀ w ∈ wsX30, w ∈ wsX3_choices := by decide +kernel
  refine lv_aload_n hx hb dX3_choices_0 rfl (lv_at hl 0 rfl) ?_
  refine cg_X3_phase hx hb hts hn3 hown hw (hts (.fieldLink RX3 41 "LeaderRows" "phase" "I") (by decide +kernel)) dX3_choices_1 ?_
  refine lv_iconst (v := 2) hx hb dX3_choices_4 (by decide) ?_
  refine lv_icmp_ne (tgt := 20) hx hb dX3_choices_5 (by decide) (fun h1 => ?_) (fun h1 => ?_)
  · refine lv_iconst (v := 0) hx hb dX3_choices_20 (by decide) ?_
    exact ww_ri hx hb hr hlk hw dX3_choices_21 (by simp only [if_neg h1]) rfl
  · refine lv_aload_n hx hb dX3_choices_8 rfl (lv_at hl 0 rfl) ?_
    refine ww_cMI (As := []) (rest := []) hx hb hml hown hts hA hw hl.1 (k_X3_countCommitted l ) (cwV 0 hts gX3_choices_X3_countCommitted rfl rfl rfl (by decide +kernel) ⟨Nat.le_of_ble_eq_true rfl, Nat.le_of_ble_eq_true rfl⟩) rfl 0 rfl rfl rfl rfl (Nat.le_of_ble_eq_true rfl) ⟨Nat.zero_le _, Nat.zero_le _⟩ dX3_choices_9 (fun H locs hw => ?_)
    refine lv_aload_n hx hb dX3_choices_12 rfl (lv_at hl 0 rfl) ?_
    refine ww_cMI (As := []) (rest := [.int (f_cn ncom 12)]) hx hb hml hown hts hA hw hl.1 (k_X3_countOpened l ) (cwV 0 hts gX3_choices_X3_countOpened rfl rfl rfl (by decide +kernel) ⟨Nat.le_of_ble_eq_true rfl, Nat.le_of_ble_eq_true rfl⟩) rfl 0 rfl rfl rfl rfl (Nat.le_of_ble_eq_true rfl) ⟨Nat.zero_le _, Nat.zero_le _⟩ dX3_choices_13 (fun H locs hw => ?_)
    refine lv_isub hx hb dX3_choices_16 ?_
    refine lv_goto (tgt := 21) hx hb dX3_choices_17 (by decide) ?_
    exact ww_ri hx hb hr hlk hw dX3_choices_21 (by simp only [if_pos h1]) rfl
set_option maxHeartbeats 4000000 in
set_option maxRecDepth 100000 in
theorem k_X3_digest (l : Launch) {D : va_G} {ad : Nat → Nat} {cy : Nat → ClassId} {claims phase epoch nxt : Int32} {seed pot : Int64} {terms claimed : Nat → Int32} {ecnt esum efac : Int32} {estr : Int64} {enum : Int32} {ewt ewa : Nat → Int32} {rlen rsum : Int32} {rlead rnum nw nwa nled nmis nmio nas nmem ncom nop : Nat → Int32} {ndep ndig nnum : Nat → Int64} (node : Int32) (number : Int64)  : ww_ML l D (cw_t cy) yX3_digest wsX3_digest (ww_rm 2 45) [.ref (ad 0), .int node, .long number] (cw_w ad cy claims phase epoch nxt seed pot terms claimed ecnt esum efac estr enum ewt ewa rlen rsum rlead rnum nw nwa nled nmis nmio nas nmem ncom nop ndep ndig nnum) (cw_w ad cy claims phase epoch nxt seed pot terms claimed ecnt esum efac estr enum ewt ewa rlen rsum rlead rnum nw nwa nled nmis nmio nas nmem ncom nop ndep ndig nnum) (if f_isN node = 0 then 0 else f_dig node number) := by
  refine ww_ML_mk (cc := cX3_digest) (maxL := 4) (by decide) rfl (Nat.le_of_ble_eq_true rfl) ?_
  intro p e s m below meth c A ls hx hb hr hts hown hlk hml hA hw hl
  have hown : s.vm.findClass RX3 = some m.cls := hown
  have hl : lv_has ls 4 [(0, .ref (ad 0)), (1, .int node), (2, .long number)] := hl
  refine lv_iload_n hx hb dX3_digest_0 rfl (lv_at hl 1 rfl) ?_
  refine ww_cSI (As := [.int node]) (rest := []) hx hb hml hown hts hl.1 (k_X3_isNode l node) (va_cwS 1 hts gX3_digest_X3_isNode rfl rfl rfl (by decide +kernel) ⟨Nat.le_of_ble_eq_true rfl, Nat.le_of_ble_eq_true rfl⟩) rfl rfl (Nat.le_of_ble_eq_true rfl) ⟨Nat.zero_le _, Nat.zero_le _⟩ dX3_digest_1 ?_
  refine ww_joinL (rest := []) 16 (if (f_isN node) = 0 then 0 else f_dig node number) (fun K1 => ?_) ?_
  · refine lv_if_eq (tgt := 15) hx hb dX3_digest_4 (by decide) (fun h2 => ?_) (fun h2 => ?_)
    · refine lv_lconst (v := 0) hx hb dX3_digest_15 (by decide) ?_
      exact ww_topl (by rw [if_pos h2]) K1
    · refine lv_iload_n hx hb dX3_digest_7 rfl (lv_at hl 1 rfl) ?_
      refine lv_lload_n hx hb dX3_digest_8 rfl (lv_at hl 2 rfl) ?_
      refine ww_cSL (As := [.int node, .long number]) (rest := []) hx hb hml hown hts hl.1 (k_X3_digestOf l node number) (va_cwS 2 hts gX3_digest_X3_digestOf rfl rfl rfl (by decide +kernel) ⟨Nat.le_of_ble_eq_true rfl, Nat.le_of_ble_eq_true rfl⟩) rfl rfl (Nat.le_of_ble_eq_true rfl) ⟨Nat.zero_le _, Nat.zero_le _⟩ dX3_digest_9 ?_
      refine lv_goto (tgt := 16) hx hb dX3_digest_12 (by decide) ?_
      exact ww_topl (by rw [if_neg h2]) K1
  exact ww_rl hx hb hr hlk hw dX3_digest_16 (by simp only []) rfl
set_option maxHeartbeats 4000000 in
set_option maxRecDepth 100000 in
theorem k_X3_node (l : Launch) {D : va_G} {ad : Nat → Nat} {cy : Nat → ClassId} {claims phase epoch nxt : Int32} {seed pot : Int64} {terms claimed : Nat → Int32} {ecnt esum efac : Int32} {estr : Int64} {enum : Int32} {ewt ewa : Nat → Int32} {rlen rsum : Int32} {rlead rnum nw nwa nled nmis nmio nas nmem ncom nop : Nat → Int32} {ndep ndig nnum : Nat → Int64} (node : Int32) (what : Int32)  : ww_MI l D (cw_t cy) yX3_node wsX3_node (ww_rm 1 21) [.ref (ad 0), .int node, .int what] (cw_w ad cy claims phase epoch nxt seed pot terms claimed ecnt esum efac estr enum ewt ewa rlen rsum rlead rnum nw nwa nled nmis nmio nas nmem ncom nop ndep ndig nnum) (cw_w ad cy claims phase epoch nxt seed pot terms claimed ecnt esum efac estr enum ewt ewa rlen rsum rlead rnum nw nwa nled nmis nmio nas nmem ncom nop ndep ndig nnum) (if f_isN node = 0 then -1 else f_tell what (nw node.toNatClampNeg) (nwa node.toNatClampNeg) (nled node.toNatClampNeg) (nmis node.toNatClampNeg) (nas node.toNatClampNeg) (nmem node.toNatClampNeg) (ncom node.toNatClampNeg) (nop node.toNatClampNeg) (nmio node.toNatClampNeg)) := by
  refine ww_MI_mk .int (cc := cX3_node) (maxL := 3) (by decide) rfl (Nat.le_of_ble_eq_true rfl) ?_
  intro p e s m below meth c A ls hx hb hr hts hown hlk hml hA hw hl
  have hown : s.vm.findClass RX3 = some m.cls := hown
  have hl : lv_has ls 3 [(0, .ref (ad 0)), (1, .int node), (2, .int what)] := hl
  have hn3 : ∀ w ∈ wsX30, w ∈ wsX3_node := by decide +kernel
  refine lv_iload_n hx hb dX3_node_0 rfl (lv_at hl 1 rfl) ?_
  refine ww_cSI (As := [.int node]) (rest := []) hx hb hml hown hts hl.1 (k_X3_isNode l node) (va_cwS 1 hts gX3_node_X3_isNode rfl rfl rfl (by decide +kernel) ⟨Nat.le_of_ble_eq_true rfl, Nat.le_of_ble_eq_true rfl⟩) rfl rfl (Nat.le_of_ble_eq_true rfl) ⟨Nat.zero_le _, Nat.zero_le _⟩ dX3_node_1 ?_
  refine lv_if_eq (tgt := 20) hx hb dX3_node_4 (by decide) (fun h1 => ?_) (fun h1 => ?_)
  · refine lv_iconst (v := (-1)) hx hb dX3_node_20 (by decide) ?_
    exact ww_ri hx hb hr hlk hw dX3_node_21 (by simp only [if_pos h1]) rfl
  · obtain ⟨k, hk, rfl⟩ := f_isN_in h1
    have ek : (nI k).toNatClampNeg = k := nI_clamp (by omega)
    refine lv_aload_n hx hb dX3_node_7 rfl (lv_at hl 0 rfl) ?_
    refine cg_X3_nodes hx hb hts hn3 hown hw (hts (.fieldLink RX3 11 "LeaderRows" "nodes" "[LLeaderRows$Node;") (by decide +kernel)) dX3_node_8 ?_
    refine lv_iload_n hx hb dX3_node_11 rfl (lv_at hl 1 rfl) ?_
    refine ca_nodes hx hb hw k (by omega) rfl dX3_node_12 ?_
    refine lv_iload_n hx hb dX3_node_13 rfl (lv_at hl 2 rfl) ?_
    refine ww_cMI (As := [.int what]) (rest := []) hx hb hml hown hts hA hw hl.1 (k_X1_tell l k what (by omega)) (cwV 1 hts gX3_node_X1_tell rfl rfl rfl (by decide +kernel) ⟨Nat.le_of_ble_eq_true rfl, Nat.le_of_ble_eq_true rfl⟩) rfl (10 + k) (cw_at rfl _ (by omega)) rfl rfl rfl (Nat.le_of_ble_eq_true rfl) ⟨Nat.zero_le _, Nat.zero_le _⟩ dX3_node_14 (fun H locs hw => ?_)
    refine lv_goto (tgt := 21) hx hb dX3_node_17 (by decide) ?_
    exact ww_ri hx hb hr hlk hw dX3_node_21 (by simp only [ek, if_neg h1]) rfl
set_option maxHeartbeats 4000000 in
set_option maxRecDepth 100000 in
theorem k_X3_amount (l : Launch) {D : va_G} {ad : Nat → Nat} {cy : Nat → ClassId} {claims phase epoch nxt : Int32} {seed pot : Int64} {terms claimed : Nat → Int32} {ecnt esum efac : Int32} {estr : Int64} {enum : Int32} {ewt ewa : Nat → Int32} {rlen rsum : Int32} {rlead rnum nw nwa nled nmis nmio nas nmem ncom nop : Nat → Int32} {ndep ndig nnum : Nat → Int64} (what : Int32)  : ww_ML l D (cw_t cy) yX3_amount wsX3_amount (ww_rm 0 0) [.ref (ad 0), .int what] (cw_w ad cy claims phase epoch nxt seed pot terms claimed ecnt esum efac estr enum ewt ewa rlen rsum rlead rnum nw nwa nled nmis nmio nas nmem ncom nop ndep ndig nnum) (cw_w ad cy claims phase epoch nxt seed pot terms claimed ecnt esum efac estr enum ewt ewa rlen rsum rlead rnum nw nwa nled nmis nmio nas nmem ncom nop ndep ndig nnum) (f_amt what seed pot ndep) := by
  refine ww_ML_mk (cc := cX3_amount) (maxL := 2) (by decide) rfl (Nat.le_of_ble_eq_true rfl) ?_
  intro p e s m below meth c A ls hx hb hr hts hown hlk hml hA hw hl
  have hown : s.vm.findClass RX3 = some m.cls := hown
  have hl : lv_has ls 2 [(0, .ref (ad 0)), (1, .int what)] := hl
  have hn1 : ∀ w ∈ wsX10, w ∈ wsX3_amount := by decide +kernel
  have hn3 : ∀ w ∈ wsX30, w ∈ wsX3_amount := by decide +kernel
  refine lv_iload_n hx hb dX3_amount_0 rfl (lv_at hl 1 rfl) ?_
  refine lv_if_ne (tgt := 9) hx hb dX3_amount_1 (by decide) (fun h1 => ?_) (fun h1 => ?_)
  · refine lv_iload_n hx hb dX3_amount_9 rfl (lv_at hl 1 rfl) ?_
    refine lv_iconst (v := 1) hx hb dX3_amount_10 (by decide) ?_
    refine lv_icmp_ne (tgt := 19) hx hb dX3_amount_11 (by decide) (fun h2 => ?_) (fun h2 => ?_)
    · refine lv_iload_n hx hb dX3_amount_19 rfl (lv_at hl 1 rfl) ?_
      refine lv_iconst (v := 2) hx hb dX3_amount_20 (by decide) ?_
      refine lv_icmp_lt (tgt := 44) hx hb dX3_amount_21 (by decide) (fun h3 => ?_) (fun h3 => ?_)
      · refine lv_lconst (v := 0) hx hb dX3_amount_44 (by decide) ?_
        exact ww_rl hx hb hr hlk hw dX3_amount_45 (by simp only [f_amt, if_neg h1, if_neg h2, if_pos (in_lo 2 (L := 2) (U := 13) rfl h3)]) rfl
      · refine lv_iload_n hx hb dX3_amount_24 rfl (lv_at hl 1 rfl) ?_
        refine lv_bipush (v := 14) hx hb dX3_amount_25 (by decide) ?_
        refine lv_icmp_ge (tgt := 44) hx hb dX3_amount_27 (by decide) (fun h4 => ?_) (fun h4 => ?_)
        · refine lv_lconst (v := 0) hx hb dX3_amount_44 (by decide) ?_
          exact ww_rl hx hb hr hlk hw dX3_amount_45 (by simp only [f_amt, if_neg h1, if_neg h2, if_pos (in_hi 13 (L := 2) (U := 13) rfl (hi_of h4))]) rfl
        · obtain ⟨j, hj, e1, ej⟩ := sub_in 2 12 (by decide) h3 h4
          have ej : what - 2 = nI j := ej
          have ek : (nI j).toNatClampNeg = j := nI_clamp (by omega)
          refine lv_aload_n hx hb dX3_amount_30 rfl (lv_at hl 0 rfl) ?_
          refine cg_X3_nodes hx hb hts hn3 hown hw (hts (.fieldLink RX3 11 "LeaderRows" "nodes" "[LLeaderRows$Node;") (by decide +kernel)) dX3_amount_31 ?_
          refine lv_iload_n hx hb dX3_amount_34 rfl (lv_at hl 1 rfl) ?_
          refine lv_iconst (v := 2) hx hb dX3_amount_35 (by decide) ?_
          refine lv_isub hx hb dX3_amount_36 ?_
          refine ca_nodes hx hb hw j hj ej dX3_amount_37 ?_
          refine cg_X1_deposit hx hb hts hn1 hown hw (by omega) (hts (.fieldLink RX3 50 "LeaderRows$Node" "deposit" "J") (by decide +kernel)) dX3_amount_38 ?_
          refine lv_goto (tgt := 45) hx hb dX3_amount_41 (by decide) ?_
          exact ww_rl hx hb hr hlk hw dX3_amount_45 (by simp only [f_amt, if_neg h1, if_neg h2, if_neg (in_ok 2 13 (L := 2) (U := 13) rfl rfl h3 (ok_of h4)), ej, ek]) rfl
    · refine lv_aload_n hx hb dX3_amount_14 rfl (lv_at hl 0 rfl) ?_
      refine cg_X3_pot hx hb hts hn3 hown hw (hts (.fieldLink RX3 171 "LeaderRows" "pot" "J") (by decide +kernel)) dX3_amount_15 ?_
      exact ww_rl hx hb hr hlk hw dX3_amount_18 (by simp only [f_amt, if_neg h1, if_pos h2]) rfl
  · refine lv_aload_n hx hb dX3_amount_4 rfl (lv_at hl 0 rfl) ?_
    refine cg_X3_seed hx hb hts hn3 hown hw (hts (.fieldLink RX3 108 "LeaderRows" "seed" "J") (by decide +kernel)) dX3_amount_5 ?_
    exact ww_rl hx hb hr hlk hw dX3_amount_8 (by simp only [f_amt, if_pos h1]) rfl
set_option maxHeartbeats 4000000 in
set_option maxRecDepth 100000 in
theorem k_X3_told (l : Launch) {D : va_G} {ad : Nat → Nat} {cy : Nat → ClassId} {claims phase epoch nxt : Int32} {seed pot : Int64} {terms claimed : Nat → Int32} {ecnt esum efac : Int32} {estr : Int64} {enum : Int32} {ewt ewa : Nat → Int32} {rlen rsum : Int32} {rlead rnum nw nwa nled nmis nmio nas nmem ncom nop : Nat → Int32} {ndep ndig nnum : Nat → Int64} (what : Int32)  : ww_MI l D (cw_t cy) yX3_told wsX3_told (ww_rm 0 0) [.ref (ad 0), .int what] (cw_w ad cy claims phase epoch nxt seed pot terms claimed ecnt esum efac estr enum ewt ewa rlen rsum rlead rnum nw nwa nled nmis nmio nas nmem ncom nop ndep ndig nnum) (cw_w ad cy claims phase epoch nxt seed pot terms claimed ecnt esum efac estr enum ewt ewa rlen rsum rlead rnum nw nwa nled nmis nmio nas nmem ncom nop ndep ndig nnum) (f_told what phase epoch rlen nxt rsum terms) := by
  refine ww_MI_mk .int (cc := cX3_told) (maxL := 2) (by decide) rfl (Nat.le_of_ble_eq_true rfl) ?_
  intro p e s m below meth c A ls hx hb hr hts hown hlk hml hA hw hl
  have hown : s.vm.findClass RX3 = some m.cls := hown
  have hl : lv_has ls 2 [(0, .ref (ad 0)), (1, .int what)] := hl
  have hn2 : ∀ w ∈ wsX20, w ∈ wsX3_told := by decide +kernel
  have hn3 : ∀ w ∈ wsX30, w ∈ wsX3_told := by decide +kernel
  refine lv_iload_n hx hb dX3_told_0 rfl (lv_at hl 1 rfl) ?_
  by_cases h1 : what = 0
  · refine lv_tableIn (tgt := 36) hx hb dX3_told_1 (by rw [h1]; decide) (by rw [h1]; decide) (by rw [h1]; rfl) (by decide) ?_
    refine lv_aload_n hx hb dX3_told_36 rfl (lv_at hl 0 rfl) ?_
    refine cg_X3_phase hx hb hts hn3 hown hw (hts (.fieldLink RX3 41 "LeaderRows" "phase" "I") (by decide +kernel)) dX3_told_37 ?_
    exact ww_ri hx hb hr hlk hw dX3_told_40 (by simp only [f_told, if_pos h1]) rfl
  by_cases h2 : what = 1
  · refine lv_tableIn (tgt := 41) hx hb dX3_told_1 (by rw [h2]; decide) (by rw [h2]; decide) (by rw [h2]; rfl) (by decide) ?_
    refine lv_aload_n hx hb dX3_told_41 rfl (lv_at hl 0 rfl) ?_
    refine cg_X3_epoch hx hb hts hn3 hown hw (hts (.fieldLink RX3 64 "LeaderRows" "epoch" "I") (by decide +kernel)) dX3_told_42 ?_
    exact ww_ri hx hb hr hlk hw dX3_told_45 (by simp only [f_told, if_neg h1, if_pos h2]) rfl
  by_cases h3 : what = 2
  · refine lv_tableIn (tgt := 46) hx hb dX3_told_1 (by rw [h3]; decide) (by rw [h3]; decide) (by rw [h3]; rfl) (by decide) ?_
    refine lv_aload_n hx hb dX3_told_46 rfl (lv_at hl 0 rfl) ?_
    refine cg_X3_row hx hb hts hn3 hown hw (hts (.fieldLink RX3 30 "LeaderRows" "row" "LLeaderRows$Row;") (by decide +kernel)) dX3_told_47 ?_
    refine cg_X2_length hx hb hts hn2 hown hw (hts (.fieldLink RX3 156 "LeaderRows$Row" "length" "I") (by decide +kernel)) dX3_told_50 ?_
    exact ww_ri hx hb hr hlk hw dX3_told_53 (by simp only [f_told, if_neg h1, if_neg h2, if_pos h3]) rfl
  by_cases h4 : what = 3
  · refine lv_tableIn (tgt := 54) hx hb dX3_told_1 (by rw [h4]; decide) (by rw [h4]; decide) (by rw [h4]; rfl) (by decide) ?_
    refine lv_aload_n hx hb dX3_told_54 rfl (lv_at hl 0 rfl) ?_
    refine cg_X3_next hx hb hts hn3 hown hw (hts (.fieldLink RX3 143 "LeaderRows" "next" "I") (by decide +kernel)) dX3_told_55 ?_
    exact ww_ri hx hb hr hlk hw dX3_told_58 (by simp only [f_told, if_neg h1, if_neg h2, if_neg h3, if_pos h4]) rfl
  by_cases h5 : what = 4
  · refine lv_tableIn (tgt := 59) hx hb dX3_told_1 (by rw [h5]; decide) (by rw [h5]; decide) (by rw [h5]; rfl) (by decide) ?_
    refine lv_aload_n hx hb dX3_told_59 rfl (lv_at hl 0 rfl) ?_
    refine cg_X3_row hx hb hts hn3 hown hw (hts (.fieldLink RX3 30 "LeaderRows" "row" "LLeaderRows$Row;") (by decide +kernel)) dX3_told_60 ?_
    refine cg_X2_sum hx hb hts hn2 hown hw (hts (.fieldLink RX3 174 "LeaderRows$Row" "sum" "I") (by decide +kernel)) dX3_told_63 ?_
    exact ww_ri hx hb hr hlk hw dX3_told_66 (by simp only [f_told, if_neg h1, if_neg h2, if_neg h3, if_neg h4, if_pos h5]) rfl
  refine lv_tableOut (tgt := 67) hx hb dX3_told_1 (sw_out 4 (by decide) (fun k hk => by rcases (show k = 0 ∨ k = 1 ∨ k = 2 ∨ k = 3 ∨ k = 4 by omega) with rfl | rfl | rfl | rfl | rfl <;> first | exact h1 | exact h2 | exact h3 | exact h4 | exact h5)) (by decide) ?_
  refine lv_iload_n hx hb dX3_told_67 rfl (lv_at hl 1 rfl) ?_
  refine lv_iconst (v := 5) hx hb dX3_told_68 (by decide) ?_
  refine lv_icmp_lt (tgt := 89) hx hb dX3_told_69 (by decide) (fun h6 => ?_) (fun h6 => ?_)
  · refine lv_iconst (v := (-1)) hx hb dX3_told_89 (by decide) ?_
    exact ww_ri hx hb hr hlk hw dX3_told_90 (by simp only [f_told, if_neg h1, if_neg h2, if_neg h3, if_neg h4, if_neg h5, if_pos (in_lo 5 (L := 5) (U := 8) rfl h6)]) rfl
  · refine lv_iload_n hx hb dX3_told_72 rfl (lv_at hl 1 rfl) ?_
    refine lv_bipush (v := 9) hx hb dX3_told_73 (by decide) ?_
    refine lv_icmp_ge (tgt := 89) hx hb dX3_told_75 (by decide) (fun h7 => ?_) (fun h7 => ?_)
    · refine lv_iconst (v := (-1)) hx hb dX3_told_89 (by decide) ?_
      exact ww_ri hx hb hr hlk hw dX3_told_90 (by simp only [f_told, if_neg h1, if_neg h2, if_neg h3, if_neg h4, if_neg h5, if_pos (in_hi 8 (L := 5) (U := 8) rfl (hi_of h7))]) rfl
    · obtain ⟨j, hj, e1, ej⟩ := sub_in 5 4 (by decide) h6 h7
      have ej : what - 5 = nI j := ej
      have ek : (nI j).toNatClampNeg = j := nI_clamp (by omega)
      refine lv_aload_n hx hb dX3_told_78 rfl (lv_at hl 0 rfl) ?_
      refine cg_X3_terms hx hb hts hn3 hown hw (hts (.fieldLink RX3 16 "LeaderRows" "terms" "[I") (by decide +kernel)) dX3_told_79 ?_
      refine lv_iload_n hx hb dX3_told_82 rfl (lv_at hl 1 rfl) ?_
      refine lv_iconst (v := 5) hx hb dX3_told_83 (by decide) ?_
      refine lv_isub hx hb dX3_told_84 ?_
      refine ca_terms hx hb hw j hj ej dX3_told_85 ?_
      refine lv_goto (tgt := 90) hx hb dX3_told_86 (by decide) ?_
      exact ww_ri hx hb hr hlk hw dX3_told_90 (by simp only [f_told, if_neg h1, if_neg h2, if_neg h3, if_neg h4, if_neg h5, if_neg (in_ok 5 8 (L := 5) (U := 8) rfl rfl h6 (ok_of h7)), ej, ek]) rfl
set_option maxHeartbeats 4000000 in
set_option maxRecDepth 100000 in
theorem k_X3_keepWaits (l : Launch) {D : va_G} {ad : Nat → Nat} {cy : Nat → ClassId} {claims phase epoch nxt : Int32} {seed pot : Int64} {terms claimed : Nat → Int32} {ecnt esum efac : Int32} {estr : Int64} {enum : Int32} {ewt ewa : Nat → Int32} {rlen rsum : Int32} {rlead rnum nw nwa nled nmis nmio nas nmem ncom nop : Nat → Int32} {ndep ndig nnum : Nat → Int64}   : ww_MV l D (cw_t cy) yX3_keepWaits wsX3_keepWaits (ww_rm 0 0) [.ref (ad 0)] (cw_w ad cy claims phase epoch nxt seed pot terms claimed ecnt esum efac estr enum ewt ewa rlen rsum rlead rnum nw nwa nled nmis nmio nas nmem ncom nop ndep ndig nnum) (cw_w ad cy claims phase epoch nxt seed pot terms claimed ecnt esum efac estr enum ewt ewa rlen rsum rlead rnum nw (mx 12 ewa nwa) nled nmis nmio nas nmem ncom nop ndep ndig nnum) := by
  refine ww_MV_mk (cc := cX3_keepWaits) (maxL := 2) (by decide) rfl (Nat.le_of_ble_eq_true rfl) ?_
  intro p e s m below meth c A ls hx hb hr hts hown hlk hml hA hw hl
  have hown : s.vm.findClass RX3 = some m.cls := hown
  have hl : lv_has ls 2 [(0, .ref (ad 0))] := hl
  have hn0 : ∀ w ∈ wsX00, w ∈ wsX3_keepWaits := by decide +kernel
  have hn1 : ∀ w ∈ wsX10, w ∈ wsX3_keepWaits := by decide +kernel
  have hn3 : ∀ w ∈ wsX30, w ∈ wsX3_keepWaits := by decide +kernel
  refine lv_iconst (v := 0) hx hb dX3_keepWaits_0 (by decide) ?_
  refine lv_istore_n (lv' := [(1, .int 0), (0, .ref (ad 0))]) hx hb dX3_keepWaits_1 rfl hl (by decide) rfl (fun ls hl => ?_)
  have L2 : ∀ (L2n k : Nat), k + L2n = 12 → ∀ (H : Heap) (locs : List Loc) (ls : Array Slot), ww_W D (cw_t cy) A s (cw_w ad cy claims phase epoch nxt seed pot terms claimed ecnt esum efac estr enum ewt ewa rlen rsum rlead rnum nw (mx k ewa nwa) nled nmis nmio nas nmem ncom nop ndep ndig nnum) H locs → lv_has ls 2 [(0, .ref (ad 0)), (1, .int (nI k))] → W p l e (ww_rm 0 0) s m ([.ref (ad 0)] : List Value).toArray below meth c H locs 0 0 (MQ below (ww_Qv D (cw_t cy) A (cw_w ad cy claims phase epoch nxt seed pot terms claimed ecnt esum efac estr enum ewt ewa rlen rsum rlead rnum nw (mx 12 ewa nwa) nled nmis nmio nas nmem ncom nop ndep ndig nnum)) ([.ref (ad 0)] : List Value).toArray s 0 0 A) (F0 m 2 ls []) := by
    intro L2n
    induction L2n with
    | zero =>
      intro k hkk  H locs ls hw hl
      obtain rfl : 12 = k := by omega
      refine lv_iload_n hx hb dX3_keepWaits_2 rfl (lv_at hl 1 rfl) ?_
      refine lv_bipush (v := 12) hx hb dX3_keepWaits_3 (by decide) ?_
      refine lv_icmp_ge (tgt := 32) hx hb dX3_keepWaits_5 (by decide) (fun _ => ?_) (fun h1 => absurd (by decide) h1)
      exact ww_rv hx hb hr hlk hw dX3_keepWaits_32 rfl
    | succ L2n ihL2 =>
      intro k hkk  H locs ls hw hl
      have hkkl : k < 12 := by omega
      refine lv_iload_n hx hb dX3_keepWaits_2 rfl (lv_at hl 1 rfl) ?_
      refine lv_bipush (v := 12) hx hb dX3_keepWaits_3 (by decide) ?_
      refine lv_icmp_ge (tgt := 32) hx hb dX3_keepWaits_5 (by decide) (fun h2 => absurd h2 (nI_nge 12 rfl hkkl (by decide))) (fun _ => ?_)
      refine lv_aload_n hx hb dX3_keepWaits_8 rfl (lv_at hl 0 rfl) ?_
      refine cg_X3_nodes hx hb hts hn3 hown hw (hts (.fieldLink RX3 11 "LeaderRows" "nodes" "[LLeaderRows$Node;") (by decide +kernel)) dX3_keepWaits_9 ?_
      refine lv_iload_n hx hb dX3_keepWaits_12 rfl (lv_at hl 1 rfl) ?_
      refine ca_nodes hx hb hw k (by omega) rfl dX3_keepWaits_13 ?_
      refine lv_aload_n hx hb dX3_keepWaits_14 rfl (lv_at hl 0 rfl) ?_
      refine cg_X3_electors hx hb hts hn3 hown hw (hts (.fieldLink RX3 23 "LeaderRows" "electors" "LLeaderRows$Electors;") (by decide +kernel)) dX3_keepWaits_15 ?_
      refine cg_X0_waits hx hb hts hn0 hown hw (hts (.fieldLink RX3 192 "LeaderRows$Electors" "waits" "[I") (by decide +kernel)) dX3_keepWaits_18 ?_
      refine lv_iload_n hx hb dX3_keepWaits_21 rfl (lv_at hl 1 rfl) ?_
      refine ca_ewa hx hb hw k (by omega) rfl dX3_keepWaits_22 ?_
      refine cp_nwa hx hb hts hn1 hown hw (by omega) (hts (.fieldLink RX3 195 "LeaderRows$Node" "wait" "I") (by decide +kernel)) dX3_keepWaits_23 (fun H locs hw => ?_)
      refine lv_iinc (v := nI (k + 1)) (lv' := [(1, .int (nI (k + 1))), (0, .ref (ad 0))]) hx hb dX3_keepWaits_26 hl (k := 1) rfl (nI_1 k) (by decide) rfl (fun ls hl => ?_)
      refine lv_goto (tgt := 2) hx hb dX3_keepWaits_29 (by decide) ?_
      exact ihL2 (k + 1) (by omega)  _ _ ls ((cw_c rfl rfl rfl rfl rfl rfl rfl rfl rfl rfl rfl rfl rfl rfl rfl rfl rfl rfl rfl rfl (mx_up rfl) rfl rfl rfl rfl rfl rfl rfl rfl rfl rfl : cw_w ad cy claims phase epoch nxt seed pot terms claimed ecnt esum efac estr enum ewt ewa rlen rsum rlead rnum nw (upd (mx k ewa nwa) k (ewa k)) nled nmis nmio nas nmem ncom nop ndep ndig nnum = cw_w ad cy claims phase epoch nxt seed pot terms claimed ecnt esum efac estr enum ewt ewa rlen rsum rlead rnum nw (mx (k + 1) ewa nwa) nled nmis nmio nas nmem ncom nop ndep ndig nnum) ▸ hw) (lv_sub hl [1, 0] rfl)
  exact L2 12 0 (by omega)  _ _ ls ((cw_c rfl rfl rfl rfl rfl rfl rfl rfl rfl rfl rfl rfl rfl rfl rfl rfl rfl rfl rfl rfl ((mx_0 _ _).symm) rfl rfl rfl rfl rfl rfl rfl rfl rfl rfl : cw_w ad cy claims phase epoch nxt seed pot terms claimed ecnt esum efac estr enum ewt ewa rlen rsum rlead rnum nw nwa nled nmis nmio nas nmem ncom nop ndep ndig nnum = cw_w ad cy claims phase epoch nxt seed pot terms claimed ecnt esum efac estr enum ewt ewa rlen rsum rlead rnum nw (mx 0 ewa nwa) nled nmis nmio nas nmem ncom nop ndep ndig nnum) ▸ hw) (lv_sub hl [1, 0] (by first | rfl | (simp [lv_pick])))
set_option maxHeartbeats 4000000 in
set_option maxRecDepth 100000 in
theorem k_X3_endEpoch (l : Launch) {D : va_G} {ad : Nat → Nat} {cy : Nat → ClassId} {claims phase epoch nxt : Int32} {seed pot : Int64} {terms claimed : Nat → Int32} {ecnt esum efac : Int32} {estr : Int64} {enum : Int32} {ewt ewa : Nat → Int32} {rlen rsum : Int32} {rlead rnum nw nwa nled nmis nmio nas nmem ncom nop : Nat → Int32} {ndep ndig nnum : Nat → Int64}   : ww_MV l D (cw_t cy) yX3_endEpoch wsX3_endEpoch (ww_rm 1 20) [.ref (ad 0)] (cw_w ad cy claims phase epoch nxt seed pot terms claimed ecnt esum efac estr enum ewt ewa rlen rsum rlead rnum nw nwa nled nmis nmio nas nmem ncom nop ndep ndig nnum) (cw_w ad cy claims 0 epoch 0 seed pot terms claimed ecnt esum efac estr enum ewt ewa rlen rsum rlead rnum nw nwa nled nmis nmio nas (mx 12 f_0 nmem) (mx 12 f_0 ncom) (mx 12 f_0 nop) ndep ndig nnum) := by
  refine ww_MV_mk (cc := cX3_endEpoch) (maxL := 2) (by decide) rfl (Nat.le_of_ble_eq_true rfl) ?_
  intro p e s m below meth c A ls hx hb hr hts hown hlk hml hA hw hl
  have hown : s.vm.findClass RX3 = some m.cls := hown
  have hl : lv_has ls 2 [(0, .ref (ad 0))] := hl
  have hn3 : ∀ w ∈ wsX30, w ∈ wsX3_endEpoch := by decide +kernel
  refine lv_aload_n hx hb dX3_endEpoch_0 rfl (lv_at hl 0 rfl) ?_
  refine lv_iconst (v := 0) hx hb dX3_endEpoch_1 (by decide) ?_
  refine cp_phase hx hb hts hn3 hown hw (hts (.fieldLink RX3 41 "LeaderRows" "phase" "I") (by decide +kernel)) dX3_endEpoch_2 (fun H locs hw => ?_)
  refine lv_aload_n hx hb dX3_endEpoch_5 rfl (lv_at hl 0 rfl) ?_
  refine lv_iconst (v := 0) hx hb dX3_endEpoch_6 (by decide) ?_
  refine cp_nxt hx hb hts hn3 hown hw (hts (.fieldLink RX3 143 "LeaderRows" "next" "I") (by decide +kernel)) dX3_endEpoch_7 (fun H locs hw => ?_)
  refine lv_iconst (v := 0) hx hb dX3_endEpoch_10 (by decide) ?_
  refine lv_istore_n (lv' := [(1, .int 0), (0, .ref (ad 0))]) hx hb dX3_endEpoch_11 rfl hl (by decide) rfl (fun ls hl => ?_)
  have L12 : ∀ (L12n k : Nat), k + L12n = 12 → ∀ (H : Heap) (locs : List Loc) (ls : Array Slot), ww_W D (cw_t cy) A s (cw_w ad cy claims 0 epoch 0 seed pot terms claimed ecnt esum efac estr enum ewt ewa rlen rsum rlead rnum nw nwa nled nmis nmio nas (mx k f_0 nmem) (mx k f_0 ncom) (mx k f_0 nop) ndep ndig nnum) H locs → lv_has ls 2 [(0, .ref (ad 0)), (1, .int (nI k))] → W p l e (ww_rm 1 20) s m ([.ref (ad 0)] : List Value).toArray below meth c H locs 0 0 (MQ below (ww_Qv D (cw_t cy) A (cw_w ad cy claims 0 epoch 0 seed pot terms claimed ecnt esum efac estr enum ewt ewa rlen rsum rlead rnum nw nwa nled nmis nmio nas (mx 12 f_0 nmem) (mx 12 f_0 ncom) (mx 12 f_0 nop) ndep ndig nnum)) ([.ref (ad 0)] : List Value).toArray s 0 0 A) (F0 m 12 ls []) := by
    intro L12n
    induction L12n with
    | zero =>
      intro k hkk  H locs ls hw hl
      obtain rfl : 12 = k := by omega
      refine lv_iload_n hx hb dX3_endEpoch_12 rfl (lv_at hl 1 rfl) ?_
      refine lv_bipush (v := 12) hx hb dX3_endEpoch_13 (by decide) ?_
      refine lv_icmp_ge (tgt := 33) hx hb dX3_endEpoch_15 (by decide) (fun _ => ?_) (fun h1 => absurd (by decide) h1)
      exact ww_rv hx hb hr hlk hw dX3_endEpoch_33 rfl
    | succ L12n ihL12 =>
      intro k hkk  H locs ls hw hl
      have hkkl : k < 12 := by omega
      refine lv_iload_n hx hb dX3_endEpoch_12 rfl (lv_at hl 1 rfl) ?_
      refine lv_bipush (v := 12) hx hb dX3_endEpoch_13 (by decide) ?_
      refine lv_icmp_ge (tgt := 33) hx hb dX3_endEpoch_15 (by decide) (fun h2 => absurd h2 (nI_nge 12 rfl hkkl (by decide))) (fun _ => ?_)
      refine lv_aload_n hx hb dX3_endEpoch_18 rfl (lv_at hl 0 rfl) ?_
      refine cg_X3_nodes hx hb hts hn3 hown hw (hts (.fieldLink RX3 11 "LeaderRows" "nodes" "[LLeaderRows$Node;") (by decide +kernel)) dX3_endEpoch_19 ?_
      refine lv_iload_n hx hb dX3_endEpoch_22 rfl (lv_at hl 1 rfl) ?_
      refine ca_nodes hx hb hw k (by omega) rfl dX3_endEpoch_23 ?_
      refine ww_cMV (As := []) (rest := []) hx hb hml hown hts hA hw hl.1 (k_X1_leaveEpoch l k  (by omega)) (cwV 0 hts gX3_endEpoch_X1_leaveEpoch rfl rfl rfl (by decide +kernel) ⟨Nat.le_of_ble_eq_true rfl, Nat.le_of_ble_eq_true rfl⟩) rfl (10 + k) (cw_at rfl _ (by omega)) rfl rfl rfl (Nat.le_of_ble_eq_true rfl) ⟨Nat.zero_le _, Nat.zero_le _⟩ dX3_endEpoch_24 (fun H locs hw => ?_)
      refine lv_iinc (v := nI (k + 1)) (lv' := [(1, .int (nI (k + 1))), (0, .ref (ad 0))]) hx hb dX3_endEpoch_27 hl (k := 1) rfl (nI_1 k) (by decide) rfl (fun ls hl => ?_)
      refine lv_goto (tgt := 12) hx hb dX3_endEpoch_30 (by decide) ?_
      exact ihL12 (k + 1) (by omega)  _ _ ls ((cw_c rfl rfl rfl rfl rfl rfl rfl rfl rfl rfl rfl rfl rfl rfl rfl rfl rfl rfl rfl rfl rfl rfl rfl rfl rfl (mx_up rfl) (mx_up rfl) (mx_up rfl) rfl rfl rfl : cw_w ad cy claims 0 epoch 0 seed pot terms claimed ecnt esum efac estr enum ewt ewa rlen rsum rlead rnum nw nwa nled nmis nmio nas (upd (mx k f_0 nmem) k 0) (upd (mx k f_0 ncom) k 0) (upd (mx k f_0 nop) k 0) ndep ndig nnum = cw_w ad cy claims 0 epoch 0 seed pot terms claimed ecnt esum efac estr enum ewt ewa rlen rsum rlead rnum nw nwa nled nmis nmio nas (mx (k + 1) f_0 nmem) (mx (k + 1) f_0 ncom) (mx (k + 1) f_0 nop) ndep ndig nnum) ▸ hw) (lv_sub hl [1, 0] rfl)
  exact L12 12 0 (by omega)  _ _ ls ((cw_c rfl rfl rfl rfl rfl rfl rfl rfl rfl rfl rfl rfl rfl rfl rfl rfl rfl rfl rfl rfl rfl rfl rfl rfl rfl ((mx_0 _ _).symm) ((mx_0 _ _).symm) ((mx_0 _ _).symm) rfl rfl rfl : cw_w ad cy claims 0 epoch 0 seed pot terms claimed ecnt esum efac estr enum ewt ewa rlen rsum rlead rnum nw nwa nled nmis nmio nas nmem ncom nop ndep ndig nnum = cw_w ad cy claims 0 epoch 0 seed pot terms claimed ecnt esum efac estr enum ewt ewa rlen rsum rlead rnum nw nwa nled nmis nmio nas (mx 0 f_0 nmem) (mx 0 f_0 ncom) (mx 0 f_0 nop) ndep ndig nnum) ▸ hw) (lv_sub hl [1, 0] (by first | rfl | (simp [lv_pick])))
