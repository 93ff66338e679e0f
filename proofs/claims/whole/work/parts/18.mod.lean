set_option maxHeartbeats 4000000 in
set_option maxRecDepth 100000 in
theorem k_X4_weight (l : Launch) {D : va_G} {ad : Nat → Nat} {cy : Nat → ClassId} {phase epoch turns nextTurn all claims sum : Int32} {seed pot rowSeed stream : Int64} {terms weight wait led missed running aside isMem hasCom hasOp leads draws claim elects waits rowLeads rowDraws : Nat → Int32} {deposit committed opened : Nat → Int64} (node : Int32) (w : Int32)  : ww_MI l D (mw_t cy) yX4_weight wsX4_weight (ww_rm 2 45) [.ref (ad 0), .int node, .int w] (mw_w ad cy phase epoch turns nextTurn all claims sum seed pot rowSeed stream terms weight wait led missed running aside isMem hasCom hasOp leads draws claim elects waits rowLeads rowDraws deposit committed opened) (mw_w ad cy phase epoch turns nextTurn all claims sum seed pot rowSeed stream terms (if f_isN node = 0 then weight else if f_in w.toInt64 0 1000 = 0 then weight else if phase = 0 then upd weight node.toNatClampNeg w else weight) wait led missed running aside isMem hasCom hasOp leads draws claim elects waits rowLeads rowDraws deposit committed opened) (if f_isN node = 0 then -1 else if f_in w.toInt64 0 1000 = 0 then -1 else if phase = 0 then weight node.toNatClampNeg else -3) := by
  refine ww_MI_mk .int (cc := cX4_weight) (maxL := 4) (by decide) rfl (Nat.le_of_ble_eq_true rfl) ?_
  intro p e s m below meth c A ls hx hb hr hts hown hlk hml hA hw hl
  have hown : s.vm.findClass RX4 = some m.cls := hown
  have hl : lv_has ls 4 [(0, .ref (ad 0)), (1, .int node), (2, .int w)] := hl
  have hn4 : ∀ w ∈ wsX40, w ∈ wsX4_weight := by decide +kernel
  refine lv_iload_n hx hb dX4_weight_0 rfl (lv_at hl 1 rfl) ?_
  refine ww_cSI (As := [.int node]) (rest := []) hx hb hml hown hts hl.1 (k_X4_isN l node) (va_cwS 1 hts gX4_weight_X4_isNode rfl rfl rfl (by decide +kernel) ⟨Nat.le_of_ble_eq_true rfl, Nat.le_of_ble_eq_true rfl⟩) rfl rfl (Nat.le_of_ble_eq_true rfl) ⟨Nat.zero_le _, Nat.zero_le _⟩ dX4_weight_1 ?_
  refine lv_if_eq (tgt := 19) hx hb dX4_weight_4 (by decide) (fun h1 => ?_) (fun h1 => ?_)
  · refine lv_iconst (v := (-1)) hx hb dX4_weight_19 (by decide) ?_
    exact ww_ri hx hb hr hlk hw dX4_weight_20 (by simp only [if_pos h1]) (mw_c rfl rfl rfl rfl rfl rfl rfl rfl rfl rfl rfl rfl (by simp only [if_pos h1]) rfl rfl rfl rfl rfl rfl rfl rfl rfl rfl rfl rfl rfl rfl rfl rfl rfl rfl)
  · obtain ⟨k, hk, rfl⟩ := f_isN_in h1
    have ek : (nI k).toNatClampNeg = k := nI_clamp (by omega)
    refine lv_iload_n hx hb dX4_weight_7 rfl (lv_at hl 2 rfl) ?_
    refine lv_i2l hx hb dX4_weight_8 rfl ?_
    refine lv_lconst (v := 0) hx hb dX4_weight_9 (by decide) ?_
    refine lv_ldc2 (v := 1000) hx hb hown (hts (.constantLong RX4 92 1000) (by decide +kernel)) dX4_weight_10 ?_
    refine ww_cSI (As := [.long (w.toInt64), .long 0, .long 1000]) (rest := []) hx hb hml hown hts hl.1 (k_X4_in l (w.toInt64) 0 1000) (va_cwS 3 hts gX4_weight_X4_in rfl rfl rfl (by decide +kernel) ⟨Nat.le_of_ble_eq_true rfl, Nat.le_of_ble_eq_true rfl⟩) rfl rfl (Nat.le_of_ble_eq_true rfl) ⟨Nat.zero_le _, Nat.zero_le _⟩ dX4_weight_13 ?_
    refine lv_if_ne (tgt := 21) hx hb dX4_weight_16 (by decide) (fun h2 => ?_) (fun h2 => ?_)
    · refine lv_aload_n hx hb dX4_weight_21 rfl (lv_at hl 0 rfl) ?_
      refine mg_phase hx hb hts hn4 hown hw (hts (.fieldLink RX4 94 "LeaderRowsModel" "phase" "I") (by decide +kernel)) dX4_weight_22 ?_
      refine lv_if_eq (tgt := 31) hx hb dX4_weight_25 (by decide) (fun h3 => ?_) (fun h3 => ?_)
      · refine lv_aload_n hx hb dX4_weight_31 rfl (lv_at hl 0 rfl) ?_
        refine mg_weight hx hb hts hn4 hown hw (hts (.fieldLink RX4 13 "LeaderRowsModel" "weight" "[I") (by decide +kernel)) dX4_weight_32 ?_
        refine lv_iload_n hx hb dX4_weight_35 rfl (lv_at hl 1 rfl) ?_
        refine ma_weight hx hb hw k (by omega) rfl dX4_weight_36 ?_
        refine lv_istore_n (lv' := [(3, .int (weight k)), (0, .ref (ad 0)), (1, .int (nI k)), (2, .int w)]) hx hb dX4_weight_37 rfl hl (by decide) rfl (fun ls hl => ?_)
        refine lv_aload_n hx hb dX4_weight_38 rfl (lv_at hl 1 rfl) ?_
        refine mg_weight hx hb hts hn4 hown hw (hts (.fieldLink RX4 13 "LeaderRowsModel" "weight" "[I") (by decide +kernel)) dX4_weight_39 ?_
        refine lv_iload_n hx hb dX4_weight_42 rfl (lv_at hl 2 rfl) ?_
        refine lv_iload_n hx hb dX4_weight_43 rfl (lv_at hl 3 rfl) ?_
        refine ms_weight hx hb hw k (by omega) rfl dX4_weight_44 (fun H locs hw => ?_)
        refine lv_iload_n hx hb dX4_weight_45 rfl (lv_at hl 0 rfl) ?_
        exact ww_ri hx hb hr hlk hw dX4_weight_46 (by simp only [ek, if_neg h1, if_neg h2, if_pos h3]) (mw_c rfl rfl rfl rfl rfl rfl rfl rfl rfl rfl rfl rfl (by simp only [ek, if_neg h1, if_neg h2, if_pos h3]) rfl rfl rfl rfl rfl rfl rfl rfl rfl rfl rfl rfl rfl rfl rfl rfl rfl rfl)
      · refine lv_bipush (v := (-3)) hx hb dX4_weight_28 (by decide) ?_
        exact ww_ri hx hb hr hlk hw dX4_weight_30 (by simp only [ek, if_neg h1, if_neg h2, if_neg h3]) (mw_c rfl rfl rfl rfl rfl rfl rfl rfl rfl rfl rfl rfl (by simp only [ek, if_neg h1, if_neg h2, if_neg h3]) rfl rfl rfl rfl rfl rfl rfl rfl rfl rfl rfl rfl rfl rfl rfl rfl rfl rfl)
    · refine lv_iconst (v := (-1)) hx hb dX4_weight_19 (by decide) ?_
      exact ww_ri hx hb hr hlk hw dX4_weight_20 (by simp only [ek, if_neg h1, if_pos h2]) (mw_c rfl rfl rfl rfl rfl rfl rfl rfl rfl rfl rfl rfl (by simp only [ek, if_neg h1, if_pos h2]) rfl rfl rfl rfl rfl rfl rfl rfl rfl rfl rfl rfl rfl rfl rfl rfl rfl rfl)
set_option maxHeartbeats 4000000 in
set_option maxRecDepth 100000 in
theorem k_X4_deposit (l : Launch) {D : va_G} {ad : Nat → Nat} {cy : Nat → ClassId} {phase epoch turns nextTurn all claims sum : Int32} {seed pot rowSeed stream : Int64} {terms weight wait led missed running aside isMem hasCom hasOp leads draws claim elects waits rowLeads rowDraws : Nat → Int32} {deposit committed opened : Nat → Int64} (node : Int32) (more : Int64) (hd : ∀ j : Nat, j < 12 → 0 ≤ deposit j ∧ deposit j ≤ 1000000000000)  : ww_ML l D (mw_t cy) yX4_deposit wsX4_deposit (ww_rm 2 45) [.ref (ad 0), .int node, .long more] (mw_w ad cy phase epoch turns nextTurn all claims sum seed pot rowSeed stream terms weight wait led missed running aside isMem hasCom hasOp leads draws claim elects waits rowLeads rowDraws deposit committed opened) (mw_w ad cy phase epoch turns nextTurn all claims sum seed pot rowSeed stream terms weight wait led missed running aside isMem hasCom hasOp leads draws claim elects waits rowLeads rowDraws (if f_isN node = 0 then deposit else if g_dep more (deposit node.toNatClampNeg) = 0 then deposit else if phase = 0 then vp_updL deposit node.toNatClampNeg (deposit node.toNatClampNeg + more) else deposit) committed opened) (if f_isN node = 0 then -1 else if g_dep more (deposit node.toNatClampNeg) = 0 then -1 else if phase = 0 then deposit node.toNatClampNeg + more else -3) := by
  refine ww_ML_mk (cc := cX4_deposit) (maxL := 4) (by decide) rfl (Nat.le_of_ble_eq_true rfl) ?_
  intro p e s m below meth c A ls hx hb hr hts hown hlk hml hA hw hl
  have hown : s.vm.findClass RX4 = some m.cls := hown
  have hl : lv_has ls 4 [(0, .ref (ad 0)), (1, .int node), (2, .long more)] := hl
  have hn4 : ∀ w ∈ wsX40, w ∈ wsX4_deposit := by decide +kernel
  refine lv_iload_n hx hb dX4_deposit_0 rfl (lv_at hl 1 rfl) ?_
  refine ww_cSI (As := [.int node]) (rest := []) hx hb hml hown hts hl.1 (k_X4_isN l node) (va_cwS 1 hts gX4_deposit_X4_isNode rfl rfl rfl (by decide +kernel) ⟨Nat.le_of_ble_eq_true rfl, Nat.le_of_ble_eq_true rfl⟩) rfl rfl (Nat.le_of_ble_eq_true rfl) ⟨Nat.zero_le _, Nat.zero_le _⟩ dX4_deposit_1 ?_
  refine lv_if_eq (tgt := 38) hx hb dX4_deposit_4 (by decide) (fun h1 => ?_) (fun h1 => ?_)
  · refine lv_ldc2 (v := (-1)) hx hb hown (hts (.constantLong RX4 102 (-1)) (by decide +kernel)) dX4_deposit_38 ?_
    exact ww_rl hx hb hr hlk hw dX4_deposit_41 (by simp only [if_pos h1]) (mw_c rfl rfl rfl rfl rfl rfl rfl rfl rfl rfl rfl rfl rfl rfl rfl rfl rfl rfl rfl rfl rfl rfl rfl rfl rfl rfl rfl rfl (by simp only [if_pos h1]) rfl rfl)
  · obtain ⟨k, hk, rfl⟩ := f_isN_in h1
    have ek : (nI k).toNatClampNeg = k := nI_clamp (by omega)
    refine lv_lload_n hx hb dX4_deposit_7 rfl (lv_at hl 2 rfl) ?_
    refine lv_ldc2 (v := (-1000000000000)) hx hb hown (hts (.constantLong RX4 98 (-1000000000000)) (by decide +kernel)) dX4_deposit_8 ?_
    refine lv_ldc2 (v := 1000000000000) hx hb hown (hts (.constantLong RX4 100 1000000000000) (by decide +kernel)) dX4_deposit_11 ?_
    refine ww_cSI (As := [.long more, .long (-1000000000000), .long 1000000000000]) (rest := []) hx hb hml hown hts hl.1 (k_X4_in l more (-1000000000000) 1000000000000) (va_cwS 3 hts gX4_deposit_X4_in rfl rfl rfl (by decide +kernel) ⟨Nat.le_of_ble_eq_true rfl, Nat.le_of_ble_eq_true rfl⟩) rfl rfl (Nat.le_of_ble_eq_true rfl) ⟨Nat.zero_le _, Nat.zero_le _⟩ dX4_deposit_14 ?_
    refine lv_if_eq (tgt := 38) hx hb dX4_deposit_17 (by decide) (fun h2 => ?_) (fun h2 => ?_)
    · refine lv_ldc2 (v := (-1)) hx hb hown (hts (.constantLong RX4 102 (-1)) (by decide +kernel)) dX4_deposit_38 ?_
      exact ww_rl hx hb hr hlk hw dX4_deposit_41 (by simp only [ek, if_neg h1, if_pos ((g_depE (hd k hk).1 (hd k hk).2).mpr (Or.inl h2))]) (mw_c rfl rfl rfl rfl rfl rfl rfl rfl rfl rfl rfl rfl rfl rfl rfl rfl rfl rfl rfl rfl rfl rfl rfl rfl rfl rfl rfl rfl (by simp only [ek, if_neg h1, if_pos ((g_depE (hd k hk).1 (hd k hk).2).mpr (Or.inl h2))]) rfl rfl)
    · refine lv_aload_n hx hb dX4_deposit_20 rfl (lv_at hl 0 rfl) ?_
      refine mg_deposit hx hb hts hn4 hown hw (hts (.fieldLink RX4 16 "LeaderRowsModel" "deposit" "[J") (by decide +kernel)) dX4_deposit_21 ?_
      refine lv_iload_n hx hb dX4_deposit_24 rfl (lv_at hl 1 rfl) ?_
      refine ma_deposit hx hb hw k (by omega) rfl dX4_deposit_25 ?_
      refine lv_lload_n hx hb dX4_deposit_26 rfl (lv_at hl 2 rfl) ?_
      refine lv_ladd hx hb dX4_deposit_27 ?_
      refine lv_lconst (v := 0) hx hb dX4_deposit_28 (by decide) ?_
      refine lv_ldc2 (v := 1000000000000) hx hb hown (hts (.constantLong RX4 100 1000000000000) (by decide +kernel)) dX4_deposit_29 ?_
      refine ww_cSI (As := [.long ((deposit k) + more), .long 0, .long 1000000000000]) (rest := []) hx hb hml hown hts hl.1 (k_X4_in l ((deposit k) + more) 0 1000000000000) (va_cwS 3 hts gX4_deposit_X4_in rfl rfl rfl (by decide +kernel) ⟨Nat.le_of_ble_eq_true rfl, Nat.le_of_ble_eq_true rfl⟩) rfl rfl (Nat.le_of_ble_eq_true rfl) ⟨Nat.zero_le _, Nat.zero_le _⟩ dX4_deposit_32 ?_
      refine lv_if_ne (tgt := 42) hx hb dX4_deposit_35 (by decide) (fun h3 => ?_) (fun h3 => ?_)
      · refine lv_aload_n hx hb dX4_deposit_42 rfl (lv_at hl 0 rfl) ?_
        refine mg_phase hx hb hts hn4 hown hw (hts (.fieldLink RX4 94 "LeaderRowsModel" "phase" "I") (by decide +kernel)) dX4_deposit_43 ?_
        refine lv_if_eq (tgt := 53) hx hb dX4_deposit_46 (by decide) (fun h4 => ?_) (fun h4 => ?_)
        · refine lv_aload_n hx hb dX4_deposit_53 rfl (lv_at hl 0 rfl) ?_
          refine mg_deposit hx hb hts hn4 hown hw (hts (.fieldLink RX4 16 "LeaderRowsModel" "deposit" "[J") (by decide +kernel)) dX4_deposit_54 ?_
          refine lv_iload_n hx hb dX4_deposit_57 rfl (lv_at hl 1 rfl) ?_
          refine lv_dup2_11 hx hb dX4_deposit_58 rfl rfl ?_
          refine ma_deposit hx hb hw k (by omega) rfl dX4_deposit_59 ?_
          refine lv_lload_n hx hb dX4_deposit_60 rfl (lv_at hl 2 rfl) ?_
          refine lv_ladd hx hb dX4_deposit_61 ?_
          refine ms_deposit hx hb hw k (by omega) rfl dX4_deposit_62 (fun H locs hw => ?_)
          refine lv_aload_n hx hb dX4_deposit_63 rfl (lv_at hl 0 rfl) ?_
          refine mg_deposit hx hb hts hn4 hown hw (hts (.fieldLink RX4 16 "LeaderRowsModel" "deposit" "[J") (by decide +kernel)) dX4_deposit_64 ?_
          refine lv_iload_n hx hb dX4_deposit_67 rfl (lv_at hl 1 rfl) ?_
          refine ma_deposit hx hb hw k (by omega) rfl dX4_deposit_68 ?_
          exact ww_rl hx hb hr hlk hw dX4_deposit_69 (by simp only [ek, if_neg h1, if_neg (fun h9 => ((g_depE (hd k hk).1 (hd k hk).2).mp h9).elim h2 h3), if_pos h4, updL_s]) (mw_c rfl rfl rfl rfl rfl rfl rfl rfl rfl rfl rfl rfl rfl rfl rfl rfl rfl rfl rfl rfl rfl rfl rfl rfl rfl rfl rfl rfl (by simp only [ek, if_neg h1, if_neg (fun h9 => ((g_depE (hd k hk).1 (hd k hk).2).mp h9).elim h2 h3), if_pos h4, updL_s]) rfl rfl)
        · refine lv_ldc2 (v := (-3)) hx hb hown (hts (.constantLong RX4 104 (-3)) (by decide +kernel)) dX4_deposit_49 ?_
          exact ww_rl hx hb hr hlk hw dX4_deposit_52 (by simp only [ek, if_neg h1, if_neg (fun h9 => ((g_depE (hd k hk).1 (hd k hk).2).mp h9).elim h2 h3), if_neg h4, updL_s]) (mw_c rfl rfl rfl rfl rfl rfl rfl rfl rfl rfl rfl rfl rfl rfl rfl rfl rfl rfl rfl rfl rfl rfl rfl rfl rfl rfl rfl rfl (by simp only [ek, if_neg h1, if_neg (fun h9 => ((g_depE (hd k hk).1 (hd k hk).2).mp h9).elim h2 h3), if_neg h4, updL_s]) rfl rfl)
      · refine lv_ldc2 (v := (-1)) hx hb hown (hts (.constantLong RX4 102 (-1)) (by decide +kernel)) dX4_deposit_38 ?_
        exact ww_rl hx hb hr hlk hw dX4_deposit_41 (by simp only [ek, if_neg h1, if_pos ((g_depE (hd k hk).1 (hd k hk).2).mpr (Or.inr h3))]) (mw_c rfl rfl rfl rfl rfl rfl rfl rfl rfl rfl rfl rfl rfl rfl rfl rfl rfl rfl rfl rfl rfl rfl rfl rfl rfl rfl rfl rfl (by simp only [ek, if_neg h1, if_pos ((g_depE (hd k hk).1 (hd k hk).2).mpr (Or.inr h3))]) rfl rfl)
set_option maxHeartbeats 4000000 in
set_option maxRecDepth 100000 in
theorem k_X4_term (l : Launch) {D : va_G} {ad : Nat → Nat} {cy : Nat → ClassId} {phase epoch turns nextTurn all claims sum : Int32} {seed pot rowSeed stream : Int64} {terms weight wait led missed running aside isMem hasCom hasOp leads draws claim elects waits rowLeads rowDraws : Nat → Int32} {deposit committed opened : Nat → Int64} (what : Int32) (v : Int32)  : ww_MI l D (mw_t cy) yX4_term wsX4_term (ww_rm 1 25) [.ref (ad 0), .int what, .int v] (mw_w ad cy phase epoch turns nextTurn all claims sum seed pot rowSeed stream terms weight wait led missed running aside isMem hasCom hasOp leads draws claim elects waits rowLeads rowDraws deposit committed opened) (mw_w ad cy phase epoch turns nextTurn all claims sum seed pot rowSeed stream (if f_in what.toInt64 0 3 = 0 then terms else if f_in v.toInt64 (if 2 ≤ what then 1 else 0) (if 2 ≤ what then 20 else 100) = 0 then terms else if phase = 0 then upd terms what.toNatClampNeg v else terms) weight wait led missed running aside isMem hasCom hasOp leads draws claim elects waits rowLeads rowDraws deposit committed opened) (if f_in what.toInt64 0 3 = 0 then -1 else if f_in v.toInt64 (if 2 ≤ what then 1 else 0) (if 2 ≤ what then 20 else 100) = 0 then -1 else if phase = 0 then terms what.toNatClampNeg else -3) := by
  refine ww_MI_mk .int (cc := cX4_term) (maxL := 4) (by decide) rfl (Nat.le_of_ble_eq_true rfl) ?_
  intro p e s m below meth c A ls hx hb hr hts hown hlk hml hA hw hl
  have hown : s.vm.findClass RX4 = some m.cls := hown
  have hl : lv_has ls 4 [(0, .ref (ad 0)), (1, .int what), (2, .int v)] := hl
  have hn4 : ∀ w ∈ wsX40, w ∈ wsX4_term := by decide +kernel
  refine lv_iload_n hx hb dX4_term_0 rfl (lv_at hl 1 rfl) ?_
  refine lv_i2l hx hb dX4_term_1 rfl ?_
  refine lv_lconst (v := 0) hx hb dX4_term_2 (by decide) ?_
  refine lv_ldc2 (v := 3) hx hb hown (hts (.constantLong RX4 106 3) (by decide +kernel)) dX4_term_3 ?_
  refine ww_cSI (As := [.long (what.toInt64), .long 0, .long 3]) (rest := []) hx hb hml hown hts hl.1 (k_X4_in l (what.toInt64) 0 3) (va_cwS 3 hts gX4_term_X4_in rfl rfl rfl (by decide +kernel) ⟨Nat.le_of_ble_eq_true rfl, Nat.le_of_ble_eq_true rfl⟩) rfl rfl (Nat.le_of_ble_eq_true rfl) ⟨Nat.zero_le _, Nat.zero_le _⟩ dX4_term_6 ?_
  refine lv_if_eq (tgt := 44) hx hb dX4_term_9 (by decide) (fun h1 => ?_) (fun h1 => ?_)
  · refine lv_iconst (v := (-1)) hx hb dX4_term_44 (by decide) ?_
    exact ww_ri hx hb hr hlk hw dX4_term_45 (by simp only [if_pos h1]) (mw_c rfl rfl rfl rfl rfl rfl rfl rfl rfl rfl rfl (by simp only [if_pos h1]) rfl rfl rfl rfl rfl rfl rfl rfl rfl rfl rfl rfl rfl rfl rfl rfl rfl rfl rfl)
  · refine lv_iload_n hx hb dX4_term_12 rfl (lv_at hl 2 rfl) ?_
    refine lv_i2l hx hb dX4_term_13 rfl ?_
    refine lv_iload_n hx hb dX4_term_14 rfl (lv_at hl 1 rfl) ?_
    refine lv_iconst (v := 2) hx hb dX4_term_15 (by decide) ?_
    refine ww_joinL (rest := [.long (v.toInt64)]) 24 (if 2 ≤ what then 1 else 0) (fun K2 => ?_) ?_
    · refine lv_icmp_ge (tgt := 23) hx hb dX4_term_16 (by decide) (fun h3 => ?_) (fun h3 => ?_)
      · refine lv_lconst (v := 1) hx hb dX4_term_23 (by decide) ?_
        exact ww_topl (by rw [if_pos h3]) K2
      · refine lv_lconst (v := 0) hx hb dX4_term_19 (by decide) ?_
        refine lv_goto (tgt := 24) hx hb dX4_term_20 (by decide) ?_
        exact ww_topl (by rw [if_neg h3]) K2
    refine lv_iload_n hx hb dX4_term_24 rfl (lv_at hl 1 rfl) ?_
    refine lv_iconst (v := 2) hx hb dX4_term_25 (by decide) ?_
    refine ww_joinL (rest := [.long (if 2 ≤ what then 1 else 0), .long (v.toInt64)]) 38 (if 2 ≤ what then 20 else 100) (fun K4 => ?_) ?_
    · refine lv_icmp_ge (tgt := 35) hx hb dX4_term_26 (by decide) (fun h5 => ?_) (fun h5 => ?_)
      · refine lv_ldc2 (v := 20) hx hb hown (hts (.constantLong RX4 110 20) (by decide +kernel)) dX4_term_35 ?_
        exact ww_topl (by rw [if_pos h5]) K4
      · refine lv_ldc2 (v := 100) hx hb hown (hts (.constantLong RX4 108 100) (by decide +kernel)) dX4_term_29 ?_
        refine lv_goto (tgt := 38) hx hb dX4_term_32 (by decide) ?_
        exact ww_topl (by rw [if_neg h5]) K4
    refine ww_cSI (As := [.long (v.toInt64), .long (if 2 ≤ what then 1 else 0), .long (if 2 ≤ what then 20 else 100)]) (rest := []) hx hb hml hown hts hl.1 (k_X4_in l (v.toInt64) (if 2 ≤ what then 1 else 0) (if 2 ≤ what then 20 else 100)) (va_cwS 3 hts gX4_term_X4_in rfl rfl rfl (by decide +kernel) ⟨Nat.le_of_ble_eq_true rfl, Nat.le_of_ble_eq_true rfl⟩) rfl rfl (Nat.le_of_ble_eq_true rfl) ⟨Nat.zero_le _, Nat.zero_le _⟩ dX4_term_38 ?_
    refine lv_if_ne (tgt := 46) hx hb dX4_term_41 (by decide) (fun h6 => ?_) (fun h6 => ?_)
    · obtain ⟨k, hk, rfl⟩ := in_idx 3 (by decide) rfl h1
      have ek : (nI k).toNatClampNeg = k := nI_clamp (by omega)
      refine lv_aload_n hx hb dX4_term_46 rfl (lv_at hl 0 rfl) ?_
      refine mg_phase hx hb hts hn4 hown hw (hts (.fieldLink RX4 94 "LeaderRowsModel" "phase" "I") (by decide +kernel)) dX4_term_47 ?_
      refine lv_if_eq (tgt := 56) hx hb dX4_term_50 (by decide) (fun h7 => ?_) (fun h7 => ?_)
      · refine lv_aload_n hx hb dX4_term_56 rfl (lv_at hl 0 rfl) ?_
        refine mg_terms hx hb hts hn4 hown hw (hts (.fieldLink RX4 7 "LeaderRowsModel" "terms" "[I") (by decide +kernel)) dX4_term_57 ?_
        refine lv_iload_n hx hb dX4_term_60 rfl (lv_at hl 1 rfl) ?_
        refine ma_terms hx hb hw k (by omega) rfl dX4_term_61 ?_
        refine lv_istore_n (lv' := [(3, .int (terms k)), (0, .ref (ad 0)), (1, .int (nI k)), (2, .int v)]) hx hb dX4_term_62 rfl hl (by decide) rfl (fun ls hl => ?_)
        refine lv_aload_n hx hb dX4_term_63 rfl (lv_at hl 1 rfl) ?_
        refine mg_terms hx hb hts hn4 hown hw (hts (.fieldLink RX4 7 "LeaderRowsModel" "terms" "[I") (by decide +kernel)) dX4_term_64 ?_
        refine lv_iload_n hx hb dX4_term_67 rfl (lv_at hl 2 rfl) ?_
        refine lv_iload_n hx hb dX4_term_68 rfl (lv_at hl 3 rfl) ?_
        refine ms_terms hx hb hw k (by omega) rfl dX4_term_69 (fun H locs hw => ?_)
        refine lv_iload_n hx hb dX4_term_70 rfl (lv_at hl 0 rfl) ?_
        exact ww_ri hx hb hr hlk hw dX4_term_71 (by simp only [ek, if_neg h1, if_neg h6, if_pos h7]) (mw_c rfl rfl rfl rfl rfl rfl rfl rfl rfl rfl rfl (by simp only [ek, if_neg h1, if_neg h6, if_pos h7]) rfl rfl rfl rfl rfl rfl rfl rfl rfl rfl rfl rfl rfl rfl rfl rfl rfl rfl rfl)
      · refine lv_bipush (v := (-3)) hx hb dX4_term_53 (by decide) ?_
        exact ww_ri hx hb hr hlk hw dX4_term_55 (by simp only [ek, if_neg h1, if_neg h6, if_neg h7]) (mw_c rfl rfl rfl rfl rfl rfl rfl rfl rfl rfl rfl (by simp only [ek, if_neg h1, if_neg h6, if_neg h7]) rfl rfl rfl rfl rfl rfl rfl rfl rfl rfl rfl rfl rfl rfl rfl rfl rfl rfl rfl)
    · refine lv_iconst (v := (-1)) hx hb dX4_term_44 (by decide) ?_
      exact ww_ri hx hb hr hlk hw dX4_term_45 (by simp only [if_neg h1, if_pos h6]) (mw_c rfl rfl rfl rfl rfl rfl rfl rfl rfl rfl rfl (by simp only [if_neg h1, if_pos h6]) rfl rfl rfl rfl rfl rfl rfl rfl rfl rfl rfl rfl rfl rfl rfl rfl rfl rfl rfl)
set_option maxHeartbeats 4000000 in
set_option maxRecDepth 100000 in
theorem k_X4_begin (l : Launch) {D : va_G} {ad : Nat → Nat} {cy : Nat → ClassId} {phase epoch turns nextTurn all claims sum : Int32} {seed pot rowSeed stream : Int64} {terms weight wait led missed running aside isMem hasCom hasOp leads draws claim elects waits rowLeads rowDraws : Nat → Int32} {deposit committed opened : Nat → Int64}   : ww_MI l D (mw_t cy) yX4_begin wsX4_begin (ww_rm 0 0) [.ref (ad 0)] (mw_w ad cy phase epoch turns nextTurn all claims sum seed pot rowSeed stream terms weight wait led missed running aside isMem hasCom hasOp leads draws claim elects waits rowLeads rowDraws deposit committed opened) (mw_w ad cy (if phase = 0 then 1 else phase) (if phase = 0 then epoch + 1 else epoch) turns nextTurn all claims sum seed pot rowSeed stream terms weight wait led missed running (if phase = 0 then mx 12 (b_as epoch aside) aside else aside) (if phase = 0 then mx 12 (b_mem epoch aside weight deposit) isMem else isMem) (if phase = 0 then mx 12 f_0 hasCom else hasCom) (if phase = 0 then mx 12 f_0 hasOp else hasOp) leads draws claim elects waits rowLeads rowDraws deposit committed opened) (if phase = 0 then f_cn (b_mem epoch aside weight deposit) 12 else -3) := by
  refine ww_MI_mk .int (cc := cX4_begin) (maxL := 3) (by decide) rfl (Nat.le_of_ble_eq_true rfl) ?_
  intro p e s m below meth c A ls hx hb hr hts hown hlk hml hA hw hl
  have hown : s.vm.findClass RX4 = some m.cls := hown
  have hl : lv_has ls 3 [(0, .ref (ad 0))] := hl
  have hn4 : ∀ w ∈ wsX40, w ∈ wsX4_begin := by decide +kernel
  refine lv_aload_n hx hb dX4_begin_0 rfl (lv_at hl 0 rfl) ?_
  refine mg_phase hx hb hts hn4 hown hw (hts (.fieldLink RX4 94 "LeaderRowsModel" "phase" "I") (by decide +kernel)) dX4_begin_1 ?_
  refine lv_if_eq (tgt := 10) hx hb dX4_begin_4 (by decide) (fun h1 => ?_) (fun h1 => ?_)
  · refine lv_aload_n hx hb dX4_begin_10 rfl (lv_at hl 0 rfl) ?_
    refine lv_dup hx hb dX4_begin_11 rfl ?_
    refine mg_epoch hx hb hts hn4 hown hw (hts (.fieldLink RX4 112 "LeaderRowsModel" "epoch" "I") (by decide +kernel)) dX4_begin_12 ?_
    refine lv_iconst (v := 1) hx hb dX4_begin_15 (by decide) ?_
    refine lv_iadd hx hb dX4_begin_16 ?_
    refine mp_epoch hx hb hts hn4 hown hw (hts (.fieldLink RX4 112 "LeaderRowsModel" "epoch" "I") (by decide +kernel)) dX4_begin_17 (fun H locs hw => ?_)
    refine lv_aload_n hx hb dX4_begin_20 rfl (lv_at hl 0 rfl) ?_
    refine lv_iconst (v := 1) hx hb dX4_begin_21 (by decide) ?_
    refine mp_phase hx hb hts hn4 hown hw (hts (.fieldLink RX4 94 "LeaderRowsModel" "phase" "I") (by decide +kernel)) dX4_begin_22 (fun H locs hw => ?_)
    refine lv_iconst (v := 0) hx hb dX4_begin_25 (by decide) ?_
    refine lv_istore_n (lv' := [(1, .int 0), (0, .ref (ad 0))]) hx hb dX4_begin_26 rfl hl (by decide) rfl (fun ls hl => ?_)
    refine lv_iconst (v := 0) hx hb dX4_begin_27 (by decide) ?_
    refine lv_istore_n (lv' := [(2, .int 0), (1, .int 0), (0, .ref (ad 0))]) hx hb dX4_begin_28 rfl hl (by decide) rfl (fun ls hl => ?_)
    have L29 : ∀ (L29n k : Nat), k + L29n = 12 → ∀ (H : Heap) (locs : List Loc) (ls : Array Slot), ww_W D (mw_t cy) A s (mw_w ad cy 1 (epoch + 1) turns nextTurn all claims sum seed pot rowSeed stream terms weight wait led missed running (mx k (b_as epoch aside) aside) (mx k (b_mem epoch aside weight deposit) isMem) (mx k f_0 hasCom) (mx k f_0 hasOp) leads draws claim elects waits rowLeads rowDraws deposit committed opened) H locs → lv_has ls 3 [(0, .ref (ad 0)), (1, .int (f_cn (b_mem epoch aside weight deposit) k)), (2, .int (nI k))] → W p l e (ww_rm 0 0) s m ([.ref (ad 0)] : List Value).toArray below meth c H locs 0 0 (MQ below (ww_Qi D (mw_t cy) A (mw_w ad cy (if phase = 0 then 1 else phase) (if phase = 0 then epoch + 1 else epoch) turns nextTurn all claims sum seed pot rowSeed stream terms weight wait led missed running (if phase = 0 then mx 12 (b_as epoch aside) aside else aside) (if phase = 0 then mx 12 (b_mem epoch aside weight deposit) isMem else isMem) (if phase = 0 then mx 12 f_0 hasCom else hasCom) (if phase = 0 then mx 12 f_0 hasOp else hasOp) leads draws claim elects waits rowLeads rowDraws deposit committed opened) (if phase = 0 then f_cn (b_mem epoch aside weight deposit) 12 else -3)) ([.ref (ad 0)] : List Value).toArray s 0 0 A) (F0 m 29 ls []) := by
      intro L29n
      induction L29n with
      | zero =>
        intro k hkk  H locs ls hw hl
        obtain rfl : 12 = k := by omega
        refine lv_iload_n hx hb dX4_begin_29 rfl (lv_at hl 2 rfl) ?_
        refine lv_bipush (v := 12) hx hb dX4_begin_30 (by decide) ?_
        refine lv_icmp_ge (tgt := 141) hx hb dX4_begin_32 (by decide) (fun _ => ?_) (fun h2 => absurd (by decide) h2)
        refine lv_iload_n hx hb dX4_begin_141 rfl (lv_at hl 1 rfl) ?_
        exact ww_ri hx hb hr hlk hw dX4_begin_142 (by simp only [if_pos h1]) (mw_c (by simp only [if_pos h1]) (by simp only [if_pos h1]) rfl rfl rfl rfl rfl rfl rfl rfl rfl rfl rfl rfl rfl rfl rfl (by simp only [if_pos h1]) (by simp only [if_pos h1]) (by simp only [if_pos h1]) (by simp only [if_pos h1]) rfl rfl rfl rfl rfl rfl rfl rfl rfl rfl)
      | succ L29n ihL29 =>
        intro k hkk  H locs ls hw hl
        have hkkl : k < 12 := by omega
        refine lv_iload_n hx hb dX4_begin_29 rfl (lv_at hl 2 rfl) ?_
        refine lv_bipush (v := 12) hx hb dX4_begin_30 (by decide) ?_
        refine lv_icmp_ge (tgt := 141) hx hb dX4_begin_32 (by decide) (fun h3 => absurd h3 (nI_nge 12 rfl hkkl (by decide))) (fun _ => ?_)
        refine lv_aload_n hx hb dX4_begin_35 rfl (lv_at hl 0 rfl) ?_
        refine mg_aside hx hb hts hn4 hown hw (hts (.fieldLink RX4 32 "LeaderRowsModel" "aside" "[I") (by decide +kernel)) dX4_begin_36 ?_
        refine lv_iload_n hx hb dX4_begin_39 rfl (lv_at hl 2 rfl) ?_
        refine lv_aload_n hx hb dX4_begin_40 rfl (lv_at hl 0 rfl) ?_
        refine mg_aside hx hb hts hn4 hown hw (hts (.fieldLink RX4 32 "LeaderRowsModel" "aside" "[I") (by decide +kernel)) dX4_begin_41 ?_
        refine lv_iload_n hx hb dX4_begin_44 rfl (lv_at hl 2 rfl) ?_
        refine ma_aside hx hb hw k (by omega) rfl dX4_begin_45 ?_
        refine lv_aload_n hx hb dX4_begin_46 rfl (lv_at hl 0 rfl) ?_
        refine mg_epoch hx hb hts hn4 hown hw (hts (.fieldLink RX4 112 "LeaderRowsModel" "epoch" "I") (by decide +kernel)) dX4_begin_47 ?_
        refine ww_joinI (rest := [.int (nI k), .ref (ad 8)]) 63 (if (epoch + 1) ≤ ((mx k (b_as epoch aside) aside) k) then (mx k (b_as epoch aside) aside) k else 0) (fun K4 => ?_) ?_
        · refine lv_icmp_ge (tgt := 57) hx hb dX4_begin_50 (by decide) (fun h5 => ?_) (fun h5 => ?_)
          · refine lv_aload_n hx hb dX4_begin_57 rfl (lv_at hl 0 rfl) ?_
            refine mg_aside hx hb hts hn4 hown hw (hts (.fieldLink RX4 32 "LeaderRowsModel" "aside" "[I") (by decide +kernel)) dX4_begin_58 ?_
            refine lv_iload_n hx hb dX4_begin_61 rfl (lv_at hl 2 rfl) ?_
            refine ma_aside hx hb hw k (by omega) rfl dX4_begin_62 ?_
            exact ww_top (by rw [if_pos h5]) K4
          · refine lv_iconst (v := 0) hx hb dX4_begin_53 (by decide) ?_
            refine lv_goto (tgt := 63) hx hb dX4_begin_54 (by decide) ?_
            exact ww_top (by rw [if_neg h5]) K4
        refine ms_aside hx hb hw k (by omega) rfl dX4_begin_63 (fun H locs hw => ?_)
        refine lv_aload_n hx hb dX4_begin_64 rfl (lv_at hl 0 rfl) ?_
        refine mg_isMember hx hb hts hn4 hown hw (hts (.fieldLink RX4 35 "LeaderRowsModel" "isMember" "[Z") (by decide +kernel)) dX4_begin_65 ?_
        refine lv_iload_n hx hb dX4_begin_68 rfl (lv_at hl 2 rfl) ?_
        refine lv_aload_n hx hb dX4_begin_69 rfl (lv_at hl 0 rfl) ?_
        refine mg_aside hx hb hts hn4 hown hw (hts (.fieldLink RX4 32 "LeaderRowsModel" "aside" "[I") (by decide +kernel)) dX4_begin_70 ?_
        refine lv_iload_n hx hb dX4_begin_73 rfl (lv_at hl 2 rfl) ?_
        refine ma_aside hx hb hw k (by omega) rfl dX4_begin_74 ?_
        refine ww_joinI (rest := [.int (nI k), .ref (ad 9)]) 103 (if ((upd (mx k (b_as epoch aside) aside) k (if (epoch + 1) ≤ ((mx k (b_as epoch aside) aside) k) then (mx k (b_as epoch aside) aside) k else 0)) k) = 0 then if (weight k) ≤ 0 then 0 else if (deposit k) ≤ 0 then 0 else 1 else 0) (fun K6 => ?_) ?_
        · refine lv_if_ne (tgt := 102) hx hb dX4_begin_75 (by decide) (fun h7 => ?_) (fun h7 => ?_)
          · refine lv_iconst (v := 0) hx hb dX4_begin_102 (by decide) ?_
            exact ww_top (by rw [if_neg h7]) K6
          · refine lv_aload_n hx hb dX4_begin_78 rfl (lv_at hl 0 rfl) ?_
            refine mg_weight hx hb hts hn4 hown hw (hts (.fieldLink RX4 13 "LeaderRowsModel" "weight" "[I") (by decide +kernel)) dX4_begin_79 ?_
            refine lv_iload_n hx hb dX4_begin_82 rfl (lv_at hl 2 rfl) ?_
            refine ma_weight hx hb hw k (by omega) rfl dX4_begin_83 ?_
            refine lv_if_le (tgt := 102) hx hb dX4_begin_84 (by decide) (fun h8 => ?_) (fun h8 => ?_)
            · refine lv_iconst (v := 0) hx hb dX4_begin_102 (by decide) ?_
              exact ww_top (by rw [if_pos h7, if_pos h8]) K6
            · refine lv_aload_n hx hb dX4_begin_87 rfl (lv_at hl 0 rfl) ?_
              refine mg_deposit hx hb hts hn4 hown hw (hts (.fieldLink RX4 16 "LeaderRowsModel" "deposit" "[J") (by decide +kernel)) dX4_begin_88 ?_
              refine lv_iload_n hx hb dX4_begin_91 rfl (lv_at hl 2 rfl) ?_
              refine ma_deposit hx hb hw k (by omega) rfl dX4_begin_92 ?_
              refine lv_lconst (v := 0) hx hb dX4_begin_93 (by decide) ?_
              refine ww_lif_le (tgt := 102) hx hb dX4_begin_94 dX4_begin_95 (by decide) (fun h9 => ?_) (fun h9 => ?_)
              · refine lv_iconst (v := 0) hx hb dX4_begin_102 (by decide) ?_
                exact ww_top (by rw [if_pos h7, if_neg h8, if_pos h9]) K6
              · refine lv_iconst (v := 1) hx hb dX4_begin_98 (by decide) ?_
                refine lv_goto (tgt := 103) hx hb dX4_begin_99 (by decide) ?_
                exact ww_top (by rw [if_pos h7, if_neg h8, if_neg h9]) K6
        refine ms_isMem hx hb hw k (by omega) rfl (by (repeat' split) <;> rfl) dX4_begin_103 (fun H locs hw => ?_)
        refine lv_aload_n hx hb dX4_begin_104 rfl (lv_at hl 0 rfl) ?_
        refine mg_hasCommitted hx hb hts hn4 hown hw (hts (.fieldLink RX4 39 "LeaderRowsModel" "hasCommitted" "[Z") (by decide +kernel)) dX4_begin_105 ?_
        refine lv_iload_n hx hb dX4_begin_108 rfl (lv_at hl 2 rfl) ?_
        refine lv_iconst (v := 0) hx hb dX4_begin_109 (by decide) ?_
        refine ms_hasCom hx hb hw k (by omega) rfl rfl dX4_begin_110 (fun H locs hw => ?_)
        refine lv_aload_n hx hb dX4_begin_111 rfl (lv_at hl 0 rfl) ?_
        refine mg_hasOpened hx hb hts hn4 hown hw (hts (.fieldLink RX4 42 "LeaderRowsModel" "hasOpened" "[Z") (by decide +kernel)) dX4_begin_112 ?_
        refine lv_iload_n hx hb dX4_begin_115 rfl (lv_at hl 2 rfl) ?_
        refine lv_iconst (v := 0) hx hb dX4_begin_116 (by decide) ?_
        refine ms_hasOp hx hb hw k (by omega) rfl rfl dX4_begin_117 (fun H locs hw => ?_)
        refine lv_iload_n hx hb dX4_begin_118 rfl (lv_at hl 1 rfl) ?_
        refine lv_aload_n hx hb dX4_begin_119 rfl (lv_at hl 0 rfl) ?_
        refine mg_isMember hx hb hts hn4 hown hw (hts (.fieldLink RX4 35 "LeaderRowsModel" "isMember" "[Z") (by decide +kernel)) dX4_begin_120 ?_
        refine lv_iload_n hx hb dX4_begin_123 rfl (lv_at hl 2 rfl) ?_
        refine ma_isMem hx hb hw k (by omega) rfl dX4_begin_124 ?_
        refine ww_joinI (rest := [.int (f_cn (b_mem epoch aside weight deposit) k)]) 133 (if ((upd (mx k (b_mem epoch aside weight deposit) isMem) k (if ((upd (mx k (b_as epoch aside) aside) k (if (epoch + 1) ≤ ((mx k (b_as epoch aside) aside) k) then (mx k (b_as epoch aside) aside) k else 0)) k) = 0 then if (weight k) ≤ 0 then 0 else if (deposit k) ≤ 0 then 0 else 1 else 0)) k) = 0 then 0 else 1) (fun K10 => ?_) ?_
        · refine lv_if_eq (tgt := 132) hx hb dX4_begin_125 (by decide) (fun h11 => ?_) (fun h11 => ?_)
          · refine lv_iconst (v := 0) hx hb dX4_begin_132 (by decide) ?_
            exact ww_top (by rw [if_pos h11]) K10
          · refine lv_iconst (v := 1) hx hb dX4_begin_128 (by decide) ?_
            refine lv_goto (tgt := 133) hx hb dX4_begin_129 (by decide) ?_
            exact ww_top (by rw [if_neg h11]) K10
        refine lv_iadd hx hb dX4_begin_133 ?_
        refine lv_istore_n (lv' := [(1, .int ((f_cn (b_mem epoch aside weight deposit) k) + (if ((upd (mx k (b_mem epoch aside weight deposit) isMem) k (if ((upd (mx k (b_as epoch aside) aside) k (if (epoch + 1) ≤ ((mx k (b_as epoch aside) aside) k) then (mx k (b_as epoch aside) aside) k else 0)) k) = 0 then if (weight k) ≤ 0 then 0 else if (deposit k) ≤ 0 then 0 else 1 else 0)) k) = 0 then 0 else 1))), (0, .ref (ad 0)), (2, .int (nI k))]) hx hb dX4_begin_134 rfl hl (by decide) rfl (fun ls hl => ?_)
        refine lv_iinc (v := nI (k + 1)) (lv' := [(2, .int (nI (k + 1))), (1, .int ((f_cn (b_mem epoch aside weight deposit) k) + (if ((upd (mx k (b_mem epoch aside weight deposit) isMem) k (if ((upd (mx k (b_as epoch aside) aside) k (if (epoch + 1) ≤ ((mx k (b_as epoch aside) aside) k) then (mx k (b_as epoch aside) aside) k else 0)) k) = 0 then if (weight k) ≤ 0 then 0 else if (deposit k) ≤ 0 then 0 else 1 else 0)) k) = 0 then 0 else 1))), (0, .ref (ad 0))]) hx hb dX4_begin_135 hl (k := 2) rfl (nI_1 k) (by decide) rfl (fun ls hl => ?_)
        refine lv_goto (tgt := 29) hx hb dX4_begin_138 (by decide) ?_
        have q12 : ((f_cn (b_mem epoch aside weight deposit) k) + (if ((upd (mx k (b_mem epoch aside weight deposit) isMem) k (if ((upd (mx k (b_as epoch aside) aside) k (if (epoch + 1) ≤ ((mx k (b_as epoch aside) aside) k) then (mx k (b_as epoch aside) aside) k else 0)) k) = 0 then if (weight k) ≤ 0 then 0 else if (deposit k) ≤ 0 then 0 else 1 else 0)) k) = 0 then 0 else 1)) = f_cn (b_mem epoch aside weight deposit) (k + 1) := by show f_cn (b_mem epoch aside weight deposit) k + (if upd (mx k (b_mem epoch aside weight deposit) isMem) k (f_mem (upd (mx k (b_as epoch aside) aside) k (f_as (mx k (b_as epoch aside) aside k) (epoch + 1)) k) (weight k) (deposit k)) k = 0 then 0 else 1) = _; rw [upd_s (mx k (b_mem epoch aside weight deposit) isMem), show f_mem (upd (mx k (b_as epoch aside) aside) k (f_as (mx k (b_as epoch aside) aside k) (epoch + 1)) k) (weight k) (deposit k) = (b_mem epoch aside weight deposit) k from by rw [upd_s, mx_at]; rfl, f_cn_s]
        have hl9 : lv_has ls 3 [(0, .ref (ad 0)), (1, .int (f_cn (b_mem epoch aside weight deposit) (k + 1))), (2, .int (nI (k + 1)))] := by rw [← q12]; exact lv_sub hl [2, 1, 0] rfl
        exact ihL29 (k + 1) (by omega)  _ _ ls ((mw_c rfl rfl rfl rfl rfl rfl rfl rfl rfl rfl rfl rfl rfl rfl rfl rfl rfl (mx_up (by simp only [mx_at, b_as, f_as])) (mx_up (show f_mem (upd (mx k (b_as epoch aside) aside) k (f_as (mx k (b_as epoch aside) aside k) (epoch + 1)) k) (weight k) (deposit k) = _ from by rw [upd_s, mx_at]; rfl)) (mx_up rfl) (mx_up rfl) rfl rfl rfl rfl rfl rfl rfl rfl rfl rfl : mw_w ad cy 1 (epoch + 1) turns nextTurn all claims sum seed pot rowSeed stream terms weight wait led missed running (upd (mx k (b_as epoch aside) aside) k (if (epoch + 1) ≤ ((mx k (b_as epoch aside) aside) k) then (mx k (b_as epoch aside) aside) k else 0)) (upd (mx k (b_mem epoch aside weight deposit) isMem) k (if ((upd (mx k (b_as epoch aside) aside) k (if (epoch + 1) ≤ ((mx k (b_as epoch aside) aside) k) then (mx k (b_as epoch aside) aside) k else 0)) k) = 0 then if (weight k) ≤ 0 then 0 else if (deposit k) ≤ 0 then 0 else 1 else 0)) (upd (mx k f_0 hasCom) k 0) (upd (mx k f_0 hasOp) k 0) leads draws claim elects waits rowLeads rowDraws deposit committed opened = mw_w ad cy 1 (epoch + 1) turns nextTurn all claims sum seed pot rowSeed stream terms weight wait led missed running (mx (k + 1) (b_as epoch aside) aside) (mx (k + 1) (b_mem epoch aside weight deposit) isMem) (mx (k + 1) f_0 hasCom) (mx (k + 1) f_0 hasOp) leads draws claim elects waits rowLeads rowDraws deposit committed opened) ▸ hw) hl9
    exact L29 12 0 (by omega)  _ _ ls ((mw_c rfl rfl rfl rfl rfl rfl rfl rfl rfl rfl rfl rfl rfl rfl rfl rfl rfl ((mx_0 _ _).symm) ((mx_0 _ _).symm) ((mx_0 _ _).symm) ((mx_0 _ _).symm) rfl rfl rfl rfl rfl rfl rfl rfl rfl rfl : mw_w ad cy 1 (epoch + 1) turns nextTurn all claims sum seed pot rowSeed stream terms weight wait led missed running aside isMem hasCom hasOp leads draws claim elects waits rowLeads rowDraws deposit committed opened = mw_w ad cy 1 (epoch + 1) turns nextTurn all claims sum seed pot rowSeed stream terms weight wait led missed running (mx 0 (b_as epoch aside) aside) (mx 0 (b_mem epoch aside weight deposit) isMem) (mx 0 f_0 hasCom) (mx 0 f_0 hasOp) leads draws claim elects waits rowLeads rowDraws deposit committed opened) ▸ hw) (lv_sub hl [2, 1, 0] (by first | rfl | (simp [lv_pick])))
  · refine lv_bipush (v := (-3)) hx hb dX4_begin_7 (by decide) ?_
    exact ww_ri hx hb hr hlk hw dX4_begin_9 (by simp only [if_neg h1]) (mw_c (by simp only [if_neg h1]) (by simp only [if_neg h1]) rfl rfl rfl rfl rfl rfl rfl rfl rfl rfl rfl rfl rfl rfl rfl (by simp only [if_neg h1]) (by simp only [if_neg h1]) (by simp only [if_neg h1]) (by simp only [if_neg h1]) rfl rfl rfl rfl rfl rfl rfl rfl rfl rfl)
set_option maxHeartbeats 4000000 in
set_option maxRecDepth 100000 in
theorem k_X4_count (l : Launch) {D : va_G} {ad : Nat → Nat} {cy : Nat → ClassId} {phase epoch turns nextTurn all claims sum : Int32} {seed pot rowSeed stream : Int64} {terms weight wait led missed running aside isMem hasCom hasOp leads draws claim elects waits rowLeads rowDraws : Nat → Int32} {deposit committed opened : Nat → Int64} (o : Int32)  : ww_MI l D (mw_t cy) yX4_count wsX4_count (ww_rm 0 0) [.ref (ad 0), .int o] (mw_w ad cy phase epoch turns nextTurn all claims sum seed pot rowSeed stream terms weight wait led missed running aside isMem hasCom hasOp leads draws claim elects waits rowLeads rowDraws deposit committed opened) (mw_w ad cy phase epoch turns nextTurn all claims sum seed pot rowSeed stream terms weight wait led missed running aside isMem hasCom hasOp leads draws claim elects waits rowLeads rowDraws deposit committed opened) (f_cn (f_sel o hasCom hasOp) 12) := by
  refine ww_MI_mk .int (cc := cX4_count) (maxL := 4) (by decide) rfl (Nat.le_of_ble_eq_true rfl) ?_
  intro p e s m below meth c A ls hx hb hr hts hown hlk hml hA hw hl
  have hown : s.vm.findClass RX4 = some m.cls := hown
  have hl : lv_has ls 4 [(0, .ref (ad 0)), (1, .int o)] := hl
  have hn4 : ∀ w ∈ wsX40, w ∈ wsX4_count := by decide +kernel
  refine lv_iconst (v := 0) hx hb dX4_count_0 (by decide) ?_
  refine lv_istore_n (lv' := [(2, .int 0), (0, .ref (ad 0)), (1, .int o)]) hx hb dX4_count_1 rfl hl (by decide) rfl (fun ls hl => ?_)
  refine lv_iconst (v := 0) hx hb dX4_count_2 (by decide) ?_
  refine lv_istore_n (lv' := [(3, .int 0), (2, .int 0), (0, .ref (ad 0)), (1, .int o)]) hx hb dX4_count_3 rfl hl (by decide) rfl (fun ls hl => ?_)
  have L4 : ∀ (L4n k : Nat), k + L4n = 12 → ∀ (H : Heap) (locs : List Loc) (ls : Array Slot), ww_W D (mw_t cy) A s (mw_w ad cy phase epoch turns nextTurn all claims sum seed pot rowSeed stream terms weight wait led missed running aside isMem hasCom hasOp leads draws claim elects waits rowLeads rowDraws deposit committed opened) H locs → lv_has ls 4 [(0, .ref (ad 0)), (1, .int o), (2, .int (f_cn (f_sel o hasCom hasOp) k)), (3, .int (nI k))] → W p l e (ww_rm 0 0) s m ([.ref (ad 0), .int o] : List Value).toArray below meth c H locs 0 0 (MQ below (ww_Qi D (mw_t cy) A (mw_w ad cy phase epoch turns nextTurn all claims sum seed pot rowSeed stream terms weight wait led missed running aside isMem hasCom hasOp leads draws claim elects waits rowLeads rowDraws deposit committed opened) (f_cn (f_sel o hasCom hasOp) 12)) ([.ref (ad 0), .int o] : List Value).toArray s 0 0 A) (F0 m 4 ls []) := by
    intro L4n
    induction L4n with
    | zero =>
      intro k hkk  H locs ls hw hl
      obtain rfl : 12 = k := by omega
      refine lv_iload_n hx hb dX4_count_4 rfl (lv_at hl 3 rfl) ?_
      refine lv_bipush (v := 12) hx hb dX4_count_5 (by decide) ?_
      refine lv_icmp_ge (tgt := 49) hx hb dX4_count_7 (by decide) (fun _ => ?_) (fun h1 => absurd (by decide) h1)
      refine lv_iload_n hx hb dX4_count_49 rfl (lv_at hl 2 rfl) ?_
      exact ww_ri hx hb hr hlk hw dX4_count_50 rfl rfl
    | succ L4n ihL4 =>
      intro k hkk  H locs ls hw hl
      have hkkl : k < 12 := by omega
      refine lv_iload_n hx hb dX4_count_4 rfl (lv_at hl 3 rfl) ?_
      refine lv_bipush (v := 12) hx hb dX4_count_5 (by decide) ?_
      refine lv_icmp_ge (tgt := 49) hx hb dX4_count_7 (by decide) (fun h2 => absurd h2 (nI_nge 12 rfl hkkl (by decide))) (fun _ => ?_)
      refine lv_iload_n hx hb dX4_count_10 rfl (lv_at hl 2 rfl) ?_
      refine lv_iload_n hx hb dX4_count_11 rfl (lv_at hl 1 rfl) ?_
      refine ww_joinI (rest := [.int (f_cn (f_sel o hasCom hasOp) k)]) 41 (if o = 0 then if (hasCom k) = 0 then 0 else 1 else if (hasOp k) = 0 then 0 else 1) (fun K3 => ?_) ?_
      · refine lv_if_eq (tgt := 27) hx hb dX4_count_12 (by decide) (fun h4 => ?_) (fun h4 => ?_)
        · refine lv_aload_n hx hb dX4_count_27 rfl (lv_at hl 0 rfl) ?_
          refine mg_hasCommitted hx hb hts hn4 hown hw (hts (.fieldLink RX4 39 "LeaderRowsModel" "hasCommitted" "[Z") (by decide +kernel)) dX4_count_28 ?_
          refine lv_iload_n hx hb dX4_count_31 rfl (lv_at hl 3 rfl) ?_
          refine ma_hasCom hx hb hw k (by omega) rfl dX4_count_32 ?_
          refine lv_if_eq (tgt := 40) hx hb dX4_count_33 (by decide) (fun h5 => ?_) (fun h5 => ?_)
          · refine lv_iconst (v := 0) hx hb dX4_count_40 (by decide) ?_
            exact ww_top (by rw [if_pos h4, if_pos h5]) K3
          · refine lv_iconst (v := 1) hx hb dX4_count_36 (by decide) ?_
            refine lv_goto (tgt := 41) hx hb dX4_count_37 (by decide) ?_
            exact ww_top (by rw [if_pos h4, if_neg h5]) K3
        · refine lv_aload_n hx hb dX4_count_15 rfl (lv_at hl 0 rfl) ?_
          refine mg_hasOpened hx hb hts hn4 hown hw (hts (.fieldLink RX4 42 "LeaderRowsModel" "hasOpened" "[Z") (by decide +kernel)) dX4_count_16 ?_
          refine lv_iload_n hx hb dX4_count_19 rfl (lv_at hl 3 rfl) ?_
          refine ma_hasOp hx hb hw k (by omega) rfl dX4_count_20 ?_
          refine lv_if_eq (tgt := 40) hx hb dX4_count_21 (by decide) (fun h6 => ?_) (fun h6 => ?_)
          · refine lv_iconst (v := 0) hx hb dX4_count_40 (by decide) ?_
            exact ww_top (by rw [if_neg h4, if_pos h6]) K3
          · refine lv_goto (tgt := 36) hx hb dX4_count_24 (by decide) ?_
            refine lv_iconst (v := 1) hx hb dX4_count_36 (by decide) ?_
            refine lv_goto (tgt := 41) hx hb dX4_count_37 (by decide) ?_
            exact ww_top (by rw [if_neg h4, if_neg h6]) K3
      refine lv_iadd hx hb dX4_count_41 ?_
      refine lv_istore_n (lv' := [(2, .int ((f_cn (f_sel o hasCom hasOp) k) + (if o = 0 then if (hasCom k) = 0 then 0 else 1 else if (hasOp k) = 0 then 0 else 1))), (0, .ref (ad 0)), (1, .int o), (3, .int (nI k))]) hx hb dX4_count_42 rfl hl (by decide) rfl (fun ls hl => ?_)
      refine lv_iinc (v := nI (k + 1)) (lv' := [(3, .int (nI (k + 1))), (2, .int ((f_cn (f_sel o hasCom hasOp) k) + (if o = 0 then if (hasCom k) = 0 then 0 else 1 else if (hasOp k) = 0 then 0 else 1))), (0, .ref (ad 0)), (1, .int o)]) hx hb dX4_count_43 hl (k := 3) rfl (nI_1 k) (by decide) rfl (fun ls hl => ?_)
      refine lv_goto (tgt := 4) hx hb dX4_count_46 (by decide) ?_
      have q7 : ((f_cn (f_sel o hasCom hasOp) k) + (if o = 0 then if (hasCom k) = 0 then 0 else 1 else if (hasOp k) = 0 then 0 else 1)) = f_cn (f_sel o hasCom hasOp) (k + 1) := by rw [f_cn_s]; unfold f_sel; by_cases h9 : o = 0 <;> simp only [h9, if_true, if_false, ↓reduceIte]
      have hl9 : lv_has ls 4 [(0, .ref (ad 0)), (1, .int o), (2, .int (f_cn (f_sel o hasCom hasOp) (k + 1))), (3, .int (nI (k + 1)))] := by rw [← q7]; exact lv_sub hl [2, 3, 1, 0] rfl
      exact ihL4 (k + 1) (by omega)  _ _ ls hw hl9
  exact L4 12 0 (by omega)  _ _ ls hw (lv_sub hl [2, 3, 1, 0] (by first | rfl | (simp [lv_pick])))
set_option maxHeartbeats 4000000 in
set_option maxRecDepth 100000 in
theorem k_X4_commit (l : Launch) {D : va_G} {ad : Nat → Nat} {cy : Nat → ClassId} {phase epoch turns nextTurn all claims sum : Int32} {seed pot rowSeed stream : Int64} {terms weight wait led missed running aside isMem hasCom hasOp leads draws claim elects waits rowLeads rowDraws : Nat → Int32} {deposit committed opened : Nat → Int64} (node : Int32) (dg : Int64)  : ww_MI l D (mw_t cy) yX4_commit wsX4_commit (ww_rm 2 45) [.ref (ad 0), .int node, .long dg] (mw_w ad cy phase epoch turns nextTurn all claims sum seed pot rowSeed stream terms weight wait led missed running aside isMem hasCom hasOp leads draws claim elects waits rowLeads rowDraws deposit committed opened) (mw_w ad cy phase epoch turns nextTurn all claims sum seed pot rowSeed stream terms weight wait led missed running aside isMem (if f_isN node = 0 then hasCom else if phase = 1 then if isMem node.toNatClampNeg = 0 then hasCom else if hasCom node.toNatClampNeg = 0 then upd hasCom node.toNatClampNeg 1 else hasCom else hasCom) hasOp leads draws claim elects waits rowLeads rowDraws deposit (if f_isN node = 0 then committed else if phase = 1 then if isMem node.toNatClampNeg = 0 then committed else if hasCom node.toNatClampNeg = 0 then vp_updL committed node.toNatClampNeg dg else committed else committed) opened) (if f_isN node = 0 then -1 else if phase = 1 then if isMem node.toNatClampNeg = 0 then -3 else if hasCom node.toNatClampNeg = 0 then f_cn (upd hasCom node.toNatClampNeg 1) 12 else -3 else -3) := by
  refine ww_MI_mk .int (cc := cX4_commit) (maxL := 4) (by decide) rfl (Nat.le_of_ble_eq_true rfl) ?_
  intro p e s m below meth c A ls hx hb hr hts hown hlk hml hA hw hl
  have hown : s.vm.findClass RX4 = some m.cls := hown
  have hl : lv_has ls 4 [(0, .ref (ad 0)), (1, .int node), (2, .long dg)] := hl
  have hn4 : ∀ w ∈ wsX40, w ∈ wsX4_commit := by decide +kernel
  refine lv_iload_n hx hb dX4_commit_0 rfl (lv_at hl 1 rfl) ?_
  refine ww_cSI (As := [.int node]) (rest := []) hx hb hml hown hts hl.1 (k_X4_isN l node) (va_cwS 1 hts gX4_commit_X4_isNode rfl rfl rfl (by decide +kernel) ⟨Nat.le_of_ble_eq_true rfl, Nat.le_of_ble_eq_true rfl⟩) rfl rfl (Nat.le_of_ble_eq_true rfl) ⟨Nat.zero_le _, Nat.zero_le _⟩ dX4_commit_1 ?_
  refine lv_if_ne (tgt := 9) hx hb dX4_commit_4 (by decide) (fun h1 => ?_) (fun h1 => ?_)
  · obtain ⟨k, hk, rfl⟩ := f_isN_in h1
    have ek : (nI k).toNatClampNeg = k := nI_clamp (by omega)
    refine lv_aload_n hx hb dX4_commit_9 rfl (lv_at hl 0 rfl) ?_
    refine mg_phase hx hb hts hn4 hown hw (hts (.fieldLink RX4 94 "LeaderRowsModel" "phase" "I") (by decide +kernel)) dX4_commit_10 ?_
    refine lv_iconst (v := 1) hx hb dX4_commit_13 (by decide) ?_
    refine lv_icmp_ne (tgt := 35) hx hb dX4_commit_14 (by decide) (fun h2 => ?_) (fun h2 => ?_)
    · refine lv_bipush (v := (-3)) hx hb dX4_commit_35 (by decide) ?_
      exact ww_ri hx hb hr hlk hw dX4_commit_37 (by simp only [f_sel0, ek, if_neg h1, if_neg h2]) (mw_c rfl rfl rfl rfl rfl rfl rfl rfl rfl rfl rfl rfl rfl rfl rfl rfl rfl rfl rfl (by simp only [f_sel0, ek, if_neg h1, if_neg h2]) rfl rfl rfl rfl rfl rfl rfl rfl rfl (by simp only [f_sel0, ek, if_neg h1, if_neg h2]) rfl)
    · refine lv_aload_n hx hb dX4_commit_17 rfl (lv_at hl 0 rfl) ?_
      refine mg_isMember hx hb hts hn4 hown hw (hts (.fieldLink RX4 35 "LeaderRowsModel" "isMember" "[Z") (by decide +kernel)) dX4_commit_18 ?_
      refine lv_iload_n hx hb dX4_commit_21 rfl (lv_at hl 1 rfl) ?_
      refine ma_isMem hx hb hw k (by omega) rfl dX4_commit_22 ?_
      refine lv_if_eq (tgt := 35) hx hb dX4_commit_23 (by decide) (fun h3 => ?_) (fun h3 => ?_)
      · refine lv_bipush (v := (-3)) hx hb dX4_commit_35 (by decide) ?_
        exact ww_ri hx hb hr hlk hw dX4_commit_37 (by simp only [f_sel0, ek, if_neg h1, if_pos h2, if_pos h3]) (mw_c rfl rfl rfl rfl rfl rfl rfl rfl rfl rfl rfl rfl rfl rfl rfl rfl rfl rfl rfl (by simp only [f_sel0, ek, if_neg h1, if_pos h2, if_pos h3]) rfl rfl rfl rfl rfl rfl rfl rfl rfl (by simp only [f_sel0, ek, if_neg h1, if_pos h2, if_pos h3]) rfl)
      · refine lv_aload_n hx hb dX4_commit_26 rfl (lv_at hl 0 rfl) ?_
        refine mg_hasCommitted hx hb hts hn4 hown hw (hts (.fieldLink RX4 39 "LeaderRowsModel" "hasCommitted" "[Z") (by decide +kernel)) dX4_commit_27 ?_
        refine lv_iload_n hx hb dX4_commit_30 rfl (lv_at hl 1 rfl) ?_
        refine ma_hasCom hx hb hw k (by omega) rfl dX4_commit_31 ?_
        refine lv_if_eq (tgt := 38) hx hb dX4_commit_32 (by decide) (fun h4 => ?_) (fun h4 => ?_)
        · refine lv_aload_n hx hb dX4_commit_38 rfl (lv_at hl 0 rfl) ?_
          refine mg_hasCommitted hx hb hts hn4 hown hw (hts (.fieldLink RX4 39 "LeaderRowsModel" "hasCommitted" "[Z") (by decide +kernel)) dX4_commit_39 ?_
          refine lv_iload_n hx hb dX4_commit_42 rfl (lv_at hl 1 rfl) ?_
          refine lv_iconst (v := 1) hx hb dX4_commit_43 (by decide) ?_
          refine ms_hasCom hx hb hw k (by omega) rfl rfl dX4_commit_44 (fun H locs hw => ?_)
          refine lv_aload_n hx hb dX4_commit_45 rfl (lv_at hl 0 rfl) ?_
          refine mg_committed hx hb hts hn4 hown hw (hts (.fieldLink RX4 45 "LeaderRowsModel" "committed" "[J") (by decide +kernel)) dX4_commit_46 ?_
          refine lv_iload_n hx hb dX4_commit_49 rfl (lv_at hl 1 rfl) ?_
          refine lv_lload_n hx hb dX4_commit_50 rfl (lv_at hl 2 rfl) ?_
          refine ms_committed hx hb hw k (by omega) rfl dX4_commit_51 (fun H locs hw => ?_)
          refine lv_aload_n hx hb dX4_commit_52 rfl (lv_at hl 0 rfl) ?_
          refine lv_iconst (v := 0) hx hb dX4_commit_53 (by decide) ?_
          refine ww_cMI (As := [.int 0]) (rest := []) hx hb hml hown hts hA hw hl.1 (k_X4_count l 0) (cwV 1 hts gX4_commit_X4_count rfl rfl rfl (by decide +kernel) ⟨Nat.le_of_ble_eq_true rfl, Nat.le_of_ble_eq_true rfl⟩) rfl 0 rfl rfl rfl rfl (Nat.le_of_ble_eq_true rfl) ⟨Nat.zero_le _, Nat.zero_le _⟩ dX4_commit_54 (fun H locs hw => ?_)
          exact ww_ri hx hb hr hlk hw dX4_commit_57 (by simp only [f_sel0, ek, if_neg h1, if_pos h2, if_neg h3, if_pos h4]) (mw_c rfl rfl rfl rfl rfl rfl rfl rfl rfl rfl rfl rfl rfl rfl rfl rfl rfl rfl rfl (by simp only [f_sel0, ek, if_neg h1, if_pos h2, if_neg h3, if_pos h4]) rfl rfl rfl rfl rfl rfl rfl rfl rfl (by simp only [f_sel0, ek, if_neg h1, if_pos h2, if_neg h3, if_pos h4]) rfl)
        · refine lv_bipush (v := (-3)) hx hb dX4_commit_35 (by decide) ?_
          exact ww_ri hx hb hr hlk hw dX4_commit_37 (by simp only [f_sel0, ek, if_neg h1, if_pos h2, if_neg h3, if_neg h4]) (mw_c rfl rfl rfl rfl rfl rfl rfl rfl rfl rfl rfl rfl rfl rfl rfl rfl rfl rfl rfl (by simp only [f_sel0, ek, if_neg h1, if_pos h2, if_neg h3, if_neg h4]) rfl rfl rfl rfl rfl rfl rfl rfl rfl (by simp only [f_sel0, ek, if_neg h1, if_pos h2, if_neg h3, if_neg h4]) rfl)
  · refine lv_iconst (v := (-1)) hx hb dX4_commit_7 (by decide) ?_
    exact ww_ri hx hb hr hlk hw dX4_commit_8 (by simp only [f_sel0, if_pos h1]) (mw_c rfl rfl rfl rfl rfl rfl rfl rfl rfl rfl rfl rfl rfl rfl rfl rfl rfl rfl rfl (by simp only [f_sel0, if_pos h1]) rfl rfl rfl rfl rfl rfl rfl rfl rfl (by simp only [f_sel0, if_pos h1]) rfl)
set_option maxHeartbeats 4000000 in
set_option maxRecDepth 100000 in
theorem k_X4_opening (l : Launch) {D : va_G} {ad : Nat → Nat} {cy : Nat → ClassId} {phase epoch turns nextTurn all claims sum : Int32} {seed pot rowSeed stream : Int64} {terms weight wait led missed running aside isMem hasCom hasOp leads draws claim elects waits rowLeads rowDraws : Nat → Int32} {deposit committed opened : Nat → Int64}   : ww_MI l D (mw_t cy) yX4_opening wsX4_opening (ww_rm 1 23) [.ref (ad 0)] (mw_w ad cy phase epoch turns nextTurn all claims sum seed pot rowSeed stream terms weight wait led missed running aside isMem hasCom hasOp leads draws claim elects waits rowLeads rowDraws deposit committed opened) (mw_w ad cy (if phase = 1 then 2 else phase) epoch turns nextTurn all claims sum seed pot rowSeed stream terms weight wait led missed running aside isMem hasCom hasOp leads draws claim elects waits rowLeads rowDraws deposit committed opened) (if phase = 1 then f_cn hasCom 12 else -3) := by
  refine ww_MI_mk .int (cc := cX4_opening) (maxL := 1) (by decide) rfl (Nat.le_of_ble_eq_true rfl) ?_
  intro p e s m below meth c A ls hx hb hr hts hown hlk hml hA hw hl
  have hown : s.vm.findClass RX4 = some m.cls := hown
  have hl : lv_has ls 1 [(0, .ref (ad 0))] := hl
  have hn4 : ∀ w ∈ wsX40, w ∈ wsX4_opening := by decide +kernel
  refine lv_aload_n hx hb dX4_opening_0 rfl (lv_at hl 0 rfl) ?_
  refine mg_phase hx hb hts hn4 hown hw (hts (.fieldLink RX4 94 "LeaderRowsModel" "phase" "I") (by decide +kernel)) dX4_opening_1 ?_
  refine lv_iconst (v := 1) hx hb dX4_opening_4 (by decide) ?_
  refine lv_icmp_eq (tgt := 11) hx hb dX4_opening_5 (by decide) (fun h1 => ?_) (fun h1 => ?_)
  · refine lv_aload_n hx hb dX4_opening_11 rfl (lv_at hl 0 rfl) ?_
    refine lv_iconst (v := 2) hx hb dX4_opening_12 (by decide) ?_
    refine mp_phase hx hb hts hn4 hown hw (hts (.fieldLink RX4 94 "LeaderRowsModel" "phase" "I") (by decide +kernel)) dX4_opening_13 (fun H locs hw => ?_)
    refine lv_aload_n hx hb dX4_opening_16 rfl (lv_at hl 0 rfl) ?_
    refine lv_iconst (v := 0) hx hb dX4_opening_17 (by decide) ?_
    refine ww_cMI (As := [.int 0]) (rest := []) hx hb hml hown hts hA hw hl.1 (k_X4_count l 0) (cwV 1 hts gX4_opening_X4_count rfl rfl rfl (by decide +kernel) ⟨Nat.le_of_ble_eq_true rfl, Nat.le_of_ble_eq_true rfl⟩) rfl 0 rfl rfl rfl rfl (Nat.le_of_ble_eq_true rfl) ⟨Nat.zero_le _, Nat.zero_le _⟩ dX4_opening_18 (fun H locs hw => ?_)
    exact ww_ri hx hb hr hlk hw dX4_opening_21 (by simp only [f_sel0, if_pos h1]) (mw_c (by simp only [f_sel0, if_pos h1]) rfl rfl rfl rfl rfl rfl rfl rfl rfl rfl rfl rfl rfl rfl rfl rfl rfl rfl rfl rfl rfl rfl rfl rfl rfl rfl rfl rfl rfl rfl)
  · refine lv_bipush (v := (-3)) hx hb dX4_opening_8 (by decide) ?_
    exact ww_ri hx hb hr hlk hw dX4_opening_10 (by simp only [f_sel0, if_neg h1]) (mw_c (by simp only [f_sel0, if_neg h1]) rfl rfl rfl rfl rfl rfl rfl rfl rfl rfl rfl rfl rfl rfl rfl rfl rfl rfl rfl rfl rfl rfl rfl rfl rfl rfl rfl rfl rfl rfl)
set_option maxHeartbeats 4000000 in
set_option maxRecDepth 100000 in
theorem k_X4_open (l : Launch) {D : va_G} {ad : Nat → Nat} {cy : Nat → ClassId} {phase epoch turns nextTurn all claims sum : Int32} {seed pot rowSeed stream : Int64} {terms weight wait led missed running aside isMem hasCom hasOp leads draws claim elects waits rowLeads rowDraws : Nat → Int32} {deposit committed opened : Nat → Int64} (node : Int32) (number : Int64)  : ww_MI l D (mw_t cy) yX4_open wsX4_open (ww_rm 2 45) [.ref (ad 0), .int node, .long number] (mw_w ad cy phase epoch turns nextTurn all claims sum seed pot rowSeed stream terms weight wait led missed running aside isMem hasCom hasOp leads draws claim elects waits rowLeads rowDraws deposit committed opened) (mw_w ad cy phase epoch turns nextTurn all claims sum seed pot rowSeed stream terms weight wait led missed running aside isMem hasCom (if f_isN node = 0 then hasOp else if phase = 2 then if f_wh (hasCom node.toNatClampNeg) (hasOp node.toNatClampNeg) = 0 then hasOp else if committed node.toNatClampNeg = f_dig node number then upd hasOp node.toNatClampNeg 1 else hasOp else hasOp) leads draws claim elects waits rowLeads rowDraws deposit committed (if f_isN node = 0 then opened else if phase = 2 then if f_wh (hasCom node.toNatClampNeg) (hasOp node.toNatClampNeg) = 0 then opened else if committed node.toNatClampNeg = f_dig node number then vp_updL opened node.toNatClampNeg number else opened else opened)) (if f_isN node = 0 then -1 else if phase = 2 then if f_wh (hasCom node.toNatClampNeg) (hasOp node.toNatClampNeg) = 0 then -3 else if committed node.toNatClampNeg = f_dig node number then f_cn (upd hasOp node.toNatClampNeg 1) 12 else -3 else -3) := by
  refine ww_MI_mk .int (cc := cX4_open) (maxL := 4) (by decide) rfl (Nat.le_of_ble_eq_true rfl) ?_
  intro p e s m below meth c A ls hx hb hr hts hown hlk hml hA hw hl
  have hown : s.vm.findClass RX4 = some m.cls := hown
  have hl : lv_has ls 4 [(0, .ref (ad 0)), (1, .int node), (2, .long number)] := hl
  have hn4 : ∀ w ∈ wsX40, w ∈ wsX4_open := by decide +kernel
  refine lv_iload_n hx hb dX4_open_0 rfl (lv_at hl 1 rfl) ?_
  refine ww_cSI (As := [.int node]) (rest := []) hx hb hml hown hts hl.1 (k_X4_isN l node) (va_cwS 1 hts gX4_open_X4_isNode rfl rfl rfl (by decide +kernel) ⟨Nat.le_of_ble_eq_true rfl, Nat.le_of_ble_eq_true rfl⟩) rfl rfl (Nat.le_of_ble_eq_true rfl) ⟨Nat.zero_le _, Nat.zero_le _⟩ dX4_open_1 ?_
  refine lv_if_ne (tgt := 9) hx hb dX4_open_4 (by decide) (fun h1 => ?_) (fun h1 => ?_)
  · obtain ⟨k, hk, rfl⟩ := f_isN_in h1
    have ek : (nI k).toNatClampNeg = k := nI_clamp (by omega)
    refine lv_aload_n hx hb dX4_open_9 rfl (lv_at hl 0 rfl) ?_
    refine mg_phase hx hb hts hn4 hown hw (hts (.fieldLink RX4 94 "LeaderRowsModel" "phase" "I") (by decide +kernel)) dX4_open_10 ?_
    refine lv_iconst (v := 2) hx hb dX4_open_13 (by decide) ?_
    refine lv_icmp_ne (tgt := 50) hx hb dX4_open_14 (by decide) (fun h2 => ?_) (fun h2 => ?_)
    · refine lv_bipush (v := (-3)) hx hb dX4_open_50 (by decide) ?_
      exact ww_ri hx hb hr hlk hw dX4_open_52 (by simp only [f_sel1, ek, if_neg h1, if_neg h2]) (mw_c rfl rfl rfl rfl rfl rfl rfl rfl rfl rfl rfl rfl rfl rfl rfl rfl rfl rfl rfl rfl (by simp only [f_sel1, ek, if_neg h1, if_neg h2]) rfl rfl rfl rfl rfl rfl rfl rfl rfl (by simp only [f_sel1, ek, if_neg h1, if_neg h2]))
    · refine lv_aload_n hx hb dX4_open_17 rfl (lv_at hl 0 rfl) ?_
      refine mg_hasCommitted hx hb hts hn4 hown hw (hts (.fieldLink RX4 39 "LeaderRowsModel" "hasCommitted" "[Z") (by decide +kernel)) dX4_open_18 ?_
      refine lv_iload_n hx hb dX4_open_21 rfl (lv_at hl 1 rfl) ?_
      refine ma_hasCom hx hb hw k (by omega) rfl dX4_open_22 ?_
      refine lv_if_eq (tgt := 50) hx hb dX4_open_23 (by decide) (fun h3 => ?_) (fun h3 => ?_)
      · refine lv_bipush (v := (-3)) hx hb dX4_open_50 (by decide) ?_
        exact ww_ri hx hb hr hlk hw dX4_open_52 (by simp only [f_sel1, ek, if_neg h1, if_pos h2, if_pos (wh_0 (b := hasOp k) h3)]) (mw_c rfl rfl rfl rfl rfl rfl rfl rfl rfl rfl rfl rfl rfl rfl rfl rfl rfl rfl rfl rfl (by simp only [f_sel1, ek, if_neg h1, if_pos h2, if_pos (wh_0 (b := hasOp k) h3)]) rfl rfl rfl rfl rfl rfl rfl rfl rfl (by simp only [f_sel1, ek, if_neg h1, if_pos h2, if_pos (wh_0 (b := hasOp k) h3)]))
      · refine lv_aload_n hx hb dX4_open_26 rfl (lv_at hl 0 rfl) ?_
        refine mg_hasOpened hx hb hts hn4 hown hw (hts (.fieldLink RX4 42 "LeaderRowsModel" "hasOpened" "[Z") (by decide +kernel)) dX4_open_27 ?_
        refine lv_iload_n hx hb dX4_open_30 rfl (lv_at hl 1 rfl) ?_
        refine ma_hasOp hx hb hw k (by omega) rfl dX4_open_31 ?_
        refine lv_if_ne (tgt := 50) hx hb dX4_open_32 (by decide) (fun h4 => ?_) (fun h4 => ?_)
        · refine lv_bipush (v := (-3)) hx hb dX4_open_50 (by decide) ?_
          exact ww_ri hx hb hr hlk hw dX4_open_52 (by simp only [f_sel1, ek, if_neg h1, if_pos h2, if_pos (wh_1 (a := hasCom k) h4)]) (mw_c rfl rfl rfl rfl rfl rfl rfl rfl rfl rfl rfl rfl rfl rfl rfl rfl rfl rfl rfl rfl (by simp only [f_sel1, ek, if_neg h1, if_pos h2, if_pos (wh_1 (a := hasCom k) h4)]) rfl rfl rfl rfl rfl rfl rfl rfl rfl (by simp only [f_sel1, ek, if_neg h1, if_pos h2, if_pos (wh_1 (a := hasCom k) h4)]))
        · refine lv_iload_n hx hb dX4_open_35 rfl (lv_at hl 1 rfl) ?_
          refine lv_lload_n hx hb dX4_open_36 rfl (lv_at hl 2 rfl) ?_
          refine ww_cSL (As := [.int (nI k), .long number]) (rest := []) hx hb hml hown hts hl.1 (k_X4_digestOf l (nI k) number) (va_cwS 2 hts gX4_open_X4_digestOf rfl rfl rfl (by decide +kernel) ⟨Nat.le_of_ble_eq_true rfl, Nat.le_of_ble_eq_true rfl⟩) rfl rfl (Nat.le_of_ble_eq_true rfl) ⟨Nat.zero_le _, Nat.zero_le _⟩ dX4_open_37 ?_
          refine lv_aload_n hx hb dX4_open_40 rfl (lv_at hl 0 rfl) ?_
          refine mg_committed hx hb hts hn4 hown hw (hts (.fieldLink RX4 45 "LeaderRowsModel" "committed" "[J") (by decide +kernel)) dX4_open_41 ?_
          refine lv_iload_n hx hb dX4_open_44 rfl (lv_at hl 1 rfl) ?_
          refine ma_committed hx hb hw k (by omega) rfl dX4_open_45 ?_
          refine ww_lif_eq (tgt := 53) hx hb dX4_open_46 dX4_open_47 (by decide) (fun h5 => ?_) (fun h5 => ?_)
          · refine lv_aload_n hx hb dX4_open_53 rfl (lv_at hl 0 rfl) ?_
            refine mg_hasOpened hx hb hts hn4 hown hw (hts (.fieldLink RX4 42 "LeaderRowsModel" "hasOpened" "[Z") (by decide +kernel)) dX4_open_54 ?_
            refine lv_iload_n hx hb dX4_open_57 rfl (lv_at hl 1 rfl) ?_
            refine lv_iconst (v := 1) hx hb dX4_open_58 (by decide) ?_
            refine ms_hasOp hx hb hw k (by omega) rfl rfl dX4_open_59 (fun H locs hw => ?_)
            refine lv_aload_n hx hb dX4_open_60 rfl (lv_at hl 0 rfl) ?_
            refine mg_opened hx hb hts hn4 hown hw (hts (.fieldLink RX4 48 "LeaderRowsModel" "opened" "[J") (by decide +kernel)) dX4_open_61 ?_
            refine lv_iload_n hx hb dX4_open_64 rfl (lv_at hl 1 rfl) ?_
            refine lv_lload_n hx hb dX4_open_65 rfl (lv_at hl 2 rfl) ?_
            refine ms_opened hx hb hw k (by omega) rfl dX4_open_66 (fun H locs hw => ?_)
            refine lv_aload_n hx hb dX4_open_67 rfl (lv_at hl 0 rfl) ?_
            refine lv_iconst (v := 1) hx hb dX4_open_68 (by decide) ?_
            refine ww_cMI (As := [.int 1]) (rest := []) hx hb hml hown hts hA hw hl.1 (k_X4_count l 1) (cwV 1 hts gX4_open_X4_count rfl rfl rfl (by decide +kernel) ⟨Nat.le_of_ble_eq_true rfl, Nat.le_of_ble_eq_true rfl⟩) rfl 0 rfl rfl rfl rfl (Nat.le_of_ble_eq_true rfl) ⟨Nat.zero_le _, Nat.zero_le _⟩ dX4_open_69 (fun H locs hw => ?_)
            exact ww_ri hx hb hr hlk hw dX4_open_72 (by simp only [f_sel1, ek, if_neg h1, if_pos h2, if_neg (wh_2 h3 h4), if_pos h5.symm]) (mw_c rfl rfl rfl rfl rfl rfl rfl rfl rfl rfl rfl rfl rfl rfl rfl rfl rfl rfl rfl rfl (by simp only [f_sel1, ek, if_neg h1, if_pos h2, if_neg (wh_2 h3 h4), if_pos h5.symm]) rfl rfl rfl rfl rfl rfl rfl rfl rfl (by simp only [f_sel1, ek, if_neg h1, if_pos h2, if_neg (wh_2 h3 h4), if_pos h5.symm]))
          · refine lv_bipush (v := (-3)) hx hb dX4_open_50 (by decide) ?_
            exact ww_ri hx hb hr hlk hw dX4_open_52 (by simp only [f_sel1, ek, if_neg h1, if_pos h2, if_neg (wh_2 h3 h4), if_neg (fun h9 => h5 (Eq.symm h9))]) (mw_c rfl rfl rfl rfl rfl rfl rfl rfl rfl rfl rfl rfl rfl rfl rfl rfl rfl rfl rfl rfl (by simp only [f_sel1, ek, if_neg h1, if_pos h2, if_neg (wh_2 h3 h4), if_neg (fun h9 => h5 (Eq.symm h9))]) rfl rfl rfl rfl rfl rfl rfl rfl rfl (by simp only [f_sel1, ek, if_neg h1, if_pos h2, if_neg (wh_2 h3 h4), if_neg (fun h9 => h5 (Eq.symm h9))]))
  · refine lv_iconst (v := (-1)) hx hb dX4_open_7 (by decide) ?_
    exact ww_ri hx hb hr hlk hw dX4_open_8 (by simp only [f_sel1, if_pos h1]) (mw_c rfl rfl rfl rfl rfl rfl rfl rfl rfl rfl rfl rfl rfl rfl rfl rfl rfl rfl rfl rfl (by simp only [f_sel1, if_pos h1]) rfl rfl rfl rfl rfl rfl rfl rfl rfl (by simp only [f_sel1, if_pos h1]))
set_option maxHeartbeats 4000000 in
set_option maxRecDepth 100000 in
theorem k_X4_leader (l : Launch) {D : va_G} {ad : Nat → Nat} {cy : Nat → ClassId} {phase epoch nextTurn all claims sum : Int32} {seed pot rowSeed stream : Int64} {terms weight wait led missed running aside isMem hasCom hasOp leads draws claim elects waits rowLeads rowDraws : Nat → Int32} {deposit committed opened : Nat → Int64} (T : Nat) (k : Int32) (hT : T ≤ 60)  : ww_MI l D (mw_t cy) yX4_leader wsX4_leader (ww_rm 0 0) [.ref (ad 0), .int k] (mw_w ad cy phase epoch (nI T) nextTurn all claims sum seed pot rowSeed stream terms weight wait led missed running aside isMem hasCom hasOp leads draws claim elects waits rowLeads rowDraws deposit committed opened) (mw_w ad cy phase epoch (nI T) nextTurn all claims sum seed pot rowSeed stream terms weight wait led missed running aside isMem hasCom hasOp leads draws claim elects waits rowLeads rowDraws deposit committed opened) (if 0 ≤ k then f_at k (nI T) leads else -1) := by
  refine ww_MI_mk .int (cc := cX4_leader) (maxL := 2) (by decide) rfl (Nat.le_of_ble_eq_true rfl) ?_
  intro p e s m below meth c A ls hx hb hr hts hown hlk hml hA hw hl
  have hown : s.vm.findClass RX4 = some m.cls := hown
  have hl : lv_has ls 2 [(0, .ref (ad 0)), (1, .int k)] := hl
  have hn4 : ∀ w ∈ wsX40, w ∈ wsX4_leader := by decide +kernel
  refine lv_iload_n hx hb dX4_leader_0 rfl (lv_at hl 1 rfl) ?_
  refine lv_if_ge (tgt := 8) hx hb dX4_leader_1 (by decide) (fun h1 => ?_) (fun h1 => ?_)
  · refine lv_iload_n hx hb dX4_leader_8 rfl (lv_at hl 1 rfl) ?_
    refine lv_aload_n hx hb dX4_leader_9 rfl (lv_at hl 0 rfl) ?_
    refine mg_turns hx hb hts hn4 hown hw (hts (.fieldLink RX4 169 "LeaderRowsModel" "turns" "I") (by decide +kernel)) dX4_leader_10 ?_
    refine lv_icmp_lt (tgt := 21) hx hb dX4_leader_13 (by decide) (fun h2 => ?_) (fun h2 => ?_)
    · obtain ⟨j, hj, rfl⟩ := at_ix (by omega) h1 h2
      refine lv_aload_n hx hb dX4_leader_21 rfl (lv_at hl 0 rfl) ?_
      refine mg_leads hx hb hts hn4 hown hw (hts (.fieldLink RX4 51 "LeaderRowsModel" "leads" "[I") (by decide +kernel)) dX4_leader_22 ?_
      refine lv_iload_n hx hb dX4_leader_25 rfl (lv_at hl 1 rfl) ?_
      refine ma_leads hx hb hw j (by omega) rfl dX4_leader_26 ?_
      exact ww_ri hx hb hr hlk hw dX4_leader_27 (by first | (rw [if_pos h1, f_at_in _ hj (by omega)]; done) | (rw [if_pos h1, at_o _ h2]; done) | (rw [if_neg h1]; done)) rfl
    · refine lv_bipush (v := (-2)) hx hb dX4_leader_16 (by decide) ?_
      refine lv_goto (tgt := 27) hx hb dX4_leader_18 (by decide) ?_
      exact ww_ri hx hb hr hlk hw dX4_leader_27 (by first | (rw [if_pos h1, f_at_in _ hj (by omega)]; done) | (rw [if_pos h1, at_o _ h2]; done) | (rw [if_neg h1]; done)) rfl
  · refine lv_iconst (v := (-1)) hx hb dX4_leader_4 (by decide) ?_
    refine lv_goto (tgt := 27) hx hb dX4_leader_5 (by decide) ?_
    exact ww_ri hx hb hr hlk hw dX4_leader_27 (by first | (rw [if_pos h1, f_at_in _ hj (by omega)]; done) | (rw [if_pos h1, at_o _ h1]; done) | (rw [if_neg h1]; done)) rfl
set_option maxHeartbeats 4000000 in
set_option maxRecDepth 100000 in
theorem k_X4_drawn (l : Launch) {D : va_G} {ad : Nat → Nat} {cy : Nat → ClassId} {phase epoch nextTurn all claims sum : Int32} {seed pot rowSeed stream : Int64} {terms weight wait led missed running aside isMem hasCom hasOp leads draws claim elects waits rowLeads rowDraws : Nat → Int32} {deposit committed opened : Nat → Int64} (T : Nat) (k : Int32) (hT : T ≤ 60)  : ww_MI l D (mw_t cy) yX4_drawn wsX4_drawn (ww_rm 0 0) [.ref (ad 0), .int k] (mw_w ad cy phase epoch (nI T) nextTurn all claims sum seed pot rowSeed stream terms weight wait led missed running aside isMem hasCom hasOp leads draws claim elects waits rowLeads rowDraws deposit committed opened) (mw_w ad cy phase epoch (nI T) nextTurn all claims sum seed pot rowSeed stream terms weight wait led missed running aside isMem hasCom hasOp leads draws claim elects waits rowLeads rowDraws deposit committed opened) (if 0 ≤ k then f_at k (nI T) draws else -1) := by
  refine ww_MI_mk .int (cc := cX4_drawn) (maxL := 2) (by decide) rfl (Nat.le_of_ble_eq_true rfl) ?_
  intro p e s m below meth c A ls hx hb hr hts hown hlk hml hA hw hl
  have hown : s.vm.findClass RX4 = some m.cls := hown
  have hl : lv_has ls 2 [(0, .ref (ad 0)), (1, .int k)] := hl
  have hn4 : ∀ w ∈ wsX40, w ∈ wsX4_drawn := by decide +kernel
  refine lv_iload_n hx hb dX4_drawn_0 rfl (lv_at hl 1 rfl) ?_
  refine lv_if_ge (tgt := 8) hx hb dX4_drawn_1 (by decide) (fun h1 => ?_) (fun h1 => ?_)
  · refine lv_iload_n hx hb dX4_drawn_8 rfl (lv_at hl 1 rfl) ?_
    refine lv_aload_n hx hb dX4_drawn_9 rfl (lv_at hl 0 rfl) ?_
    refine mg_turns hx hb hts hn4 hown hw (hts (.fieldLink RX4 169 "LeaderRowsModel" "turns" "I") (by decide +kernel)) dX4_drawn_10 ?_
    refine lv_icmp_lt (tgt := 21) hx hb dX4_drawn_13 (by decide) (fun h2 => ?_) (fun h2 => ?_)
    · obtain ⟨j, hj, rfl⟩ := at_ix (by omega) h1 h2
      refine lv_aload_n hx hb dX4_drawn_21 rfl (lv_at hl 0 rfl) ?_
      refine mg_draws hx hb hts hn4 hown hw (hts (.fieldLink RX4 54 "LeaderRowsModel" "draws" "[I") (by decide +kernel)) dX4_drawn_22 ?_
      refine lv_iload_n hx hb dX4_drawn_25 rfl (lv_at hl 1 rfl) ?_
      refine ma_draws hx hb hw j (by omega) rfl dX4_drawn_26 ?_
      exact ww_ri hx hb hr hlk hw dX4_drawn_27 (by first | (rw [if_pos h1, f_at_in _ hj (by omega)]; done) | (rw [if_pos h1, at_o _ h2]; done) | (rw [if_neg h1]; done)) rfl
    · refine lv_bipush (v := (-2)) hx hb dX4_drawn_16 (by decide) ?_
      refine lv_goto (tgt := 27) hx hb dX4_drawn_18 (by decide) ?_
      exact ww_ri hx hb hr hlk hw dX4_drawn_27 (by first | (rw [if_pos h1, f_at_in _ hj (by omega)]; done) | (rw [if_pos h1, at_o _ h2]; done) | (rw [if_neg h1]; done)) rfl
  · refine lv_iconst (v := (-1)) hx hb dX4_drawn_4 (by decide) ?_
    refine lv_goto (tgt := 27) hx hb dX4_drawn_5 (by decide) ?_
    exact ww_ri hx hb hr hlk hw dX4_drawn_27 (by first | (rw [if_pos h1, f_at_in _ hj (by omega)]; done) | (rw [if_pos h1, at_o _ h1]; done) | (rw [if_neg h1]; done)) rfl
set_option maxHeartbeats 4000000 in
set_option maxRecDepth 100000 in
theorem k_X4_claim (l : Launch) {D : va_G} {ad : Nat → Nat} {cy : Nat → ClassId} {phase epoch turns nextTurn all sum : Int32} {seed pot rowSeed stream : Int64} {terms weight wait led missed running aside isMem hasCom hasOp leads draws claim elects waits rowLeads rowDraws : Nat → Int32} {deposit committed opened : Nat → Int64} (q : Nat) (node : Int32) (hq : q ≤ 60)  : ww_MI l D (mw_t cy) yX4_claim wsX4_claim (ww_rm 2 45) [.ref (ad 0), .int node] (mw_w ad cy phase epoch turns nextTurn all (nI q) sum seed pot rowSeed stream terms weight wait led missed running aside isMem hasCom hasOp leads draws claim elects waits rowLeads rowDraws deposit committed opened) (mw_w ad cy phase epoch turns nextTurn all (if f_isN node = 0 then nI q else if q < 60 then nI (q + 1) else nI q) sum seed pot rowSeed stream terms weight wait led missed running aside isMem hasCom hasOp leads draws (if f_isN node = 0 then claim else if q < 60 then upd claim q node else claim) elects waits rowLeads rowDraws deposit committed opened) (if f_isN node = 0 then -1 else if q < 60 then nI (q + 1) else -3) := by
  refine ww_MI_mk .int (cc := cX4_claim) (maxL := 2) (by decide) rfl (Nat.le_of_ble_eq_true rfl) ?_
  intro p e s m below meth c A ls hx hb hr hts hown hlk hml hA hw hl
  have hown : s.vm.findClass RX4 = some m.cls := hown
  have hl : lv_has ls 2 [(0, .ref (ad 0)), (1, .int node)] := hl
  have hn4 : ∀ w ∈ wsX40, w ∈ wsX4_claim := by decide +kernel
  refine lv_iload_n hx hb dX4_claim_0 rfl (lv_at hl 1 rfl) ?_
  refine ww_cSI (As := [.int node]) (rest := []) hx hb hml hown hts hl.1 (k_X4_isN l node) (va_cwS 1 hts gX4_claim_X4_isNode rfl rfl rfl (by decide +kernel) ⟨Nat.le_of_ble_eq_true rfl, Nat.le_of_ble_eq_true rfl⟩) rfl rfl (Nat.le_of_ble_eq_true rfl) ⟨Nat.zero_le _, Nat.zero_le _⟩ dX4_claim_1 ?_
  refine lv_if_ne (tgt := 9) hx hb dX4_claim_4 (by decide) (fun h1 => ?_) (fun h1 => ?_)
  · refine lv_aload_n hx hb dX4_claim_9 rfl (lv_at hl 0 rfl) ?_
    refine mg_claims hx hb hts hn4 hown hw (hts (.fieldLink RX4 176 "LeaderRowsModel" "claims" "I") (by decide +kernel)) dX4_claim_10 ?_
    refine lv_bipush (v := 60) hx hb dX4_claim_13 (by decide) ?_
    refine lv_icmp_ne (tgt := 21) hx hb dX4_claim_15 (by decide) (fun h2 => ?_) (fun h2 => ?_)
    · have hq6 : q < 60 := q60' hq h2
      refine lv_aload_n hx hb dX4_claim_21 rfl (lv_at hl 0 rfl) ?_
      refine mg_claim hx hb hts hn4 hown hw (hts (.fieldLink RX4 57 "LeaderRowsModel" "claim" "[I") (by decide +kernel)) dX4_claim_22 ?_
      refine lv_aload_n hx hb dX4_claim_25 rfl (lv_at hl 0 rfl) ?_
      refine mg_claims hx hb hts hn4 hown hw (hts (.fieldLink RX4 176 "LeaderRowsModel" "claims" "I") (by decide +kernel)) dX4_claim_26 ?_
      refine lv_iload_n hx hb dX4_claim_29 rfl (lv_at hl 1 rfl) ?_
      refine ms_claim hx hb hw q (by omega) rfl dX4_claim_30 (fun H locs hw => ?_)
      refine lv_aload_n hx hb dX4_claim_31 rfl (lv_at hl 0 rfl) ?_
      refine lv_dup hx hb dX4_claim_32 rfl ?_
      refine mg_claims hx hb hts hn4 hown hw (hts (.fieldLink RX4 176 "LeaderRowsModel" "claims" "I") (by decide +kernel)) dX4_claim_33 ?_
      refine lv_iconst (v := 1) hx hb dX4_claim_36 (by decide) ?_
      refine lv_iadd hx hb dX4_claim_37 ?_
      refine mp_claims hx hb hts hn4 hown hw (hts (.fieldLink RX4 176 "LeaderRowsModel" "claims" "I") (by decide +kernel)) dX4_claim_38 (fun H locs hw => ?_)
      refine lv_aload_n hx hb dX4_claim_41 rfl (lv_at hl 0 rfl) ?_
      refine mg_claims hx hb hts hn4 hown hw (hts (.fieldLink RX4 176 "LeaderRowsModel" "claims" "I") (by decide +kernel)) dX4_claim_42 ?_
      exact ww_ri hx hb hr hlk hw dX4_claim_45 (by simp only [nI_1, if_neg h1, if_pos (q60' hq h2)]) (mw_c rfl rfl rfl rfl rfl (by simp only [nI_1, if_neg h1, if_pos (q60' hq h2)]) rfl rfl rfl rfl rfl rfl rfl rfl rfl rfl rfl rfl rfl rfl rfl rfl rfl (by simp only [nI_1, if_neg h1, if_pos (q60' hq h2)]) rfl rfl rfl rfl rfl rfl rfl)
    · refine lv_bipush (v := (-3)) hx hb dX4_claim_18 (by decide) ?_
      exact ww_ri hx hb hr hlk hw dX4_claim_20 (by simp only [nI_1, if_neg h1, if_neg (q60 hq h2)]) (mw_c rfl rfl rfl rfl rfl (by simp only [nI_1, if_neg h1, if_neg (q60 hq h2)]) rfl rfl rfl rfl rfl rfl rfl rfl rfl rfl rfl rfl rfl rfl rfl rfl rfl (by simp only [nI_1, if_neg h1, if_neg (q60 hq h2)]) rfl rfl rfl rfl rfl rfl rfl)
  · refine lv_iconst (v := (-1)) hx hb dX4_claim_7 (by decide) ?_
    exact ww_ri hx hb hr hlk hw dX4_claim_8 (by simp only [nI_1, if_pos h1]) (mw_c rfl rfl rfl rfl rfl (by simp only [nI_1, if_pos h1]) rfl rfl rfl rfl rfl rfl rfl rfl rfl rfl rfl rfl rfl rfl rfl rfl rfl (by simp only [nI_1, if_pos h1]) rfl rfl rfl rfl rfl rfl rfl)
set_option maxHeartbeats 4000000 in
set_option maxRecDepth 100000 in
theorem k_X4_check (l : Launch) {D : va_G} {ad : Nat → Nat} {cy : Nat → ClassId} {phase epoch nextTurn all sum : Int32} {seed pot rowSeed stream : Int64} {terms weight wait led missed running aside isMem hasCom hasOp leads draws claim elects waits rowLeads rowDraws : Nat → Int32} {deposit committed opened : Nat → Int64} (q T : Nat)  (hq : q ≤ 60) (hT : T ≤ 60)  : ww_MI l D (mw_t cy) yX4_check wsX4_check (ww_rm 0 0) [.ref (ad 0)] (mw_w ad cy phase epoch (nI T) nextTurn all (nI q) sum seed pot rowSeed stream terms weight wait led missed running aside isMem hasCom hasOp leads draws claim elects waits rowLeads rowDraws deposit committed opened) (mw_w ad cy phase epoch (nI T) nextTurn all 0 sum seed pot rowSeed stream terms weight wait led missed running aside isMem hasCom hasOp leads draws claim elects waits rowLeads rowDraws deposit committed opened) (g_fu claim leads (if nI q = nI T then -2 else nI (min q T)) (min q T) 0) := by
  refine ww_MI_mk .int (cc := cX4_check) (maxL := 4) (by decide) rfl (Nat.le_of_ble_eq_true rfl) ?_
  intro p e s m below meth c A ls hx hb hr hts hown hlk hml hA hw hl
  have hown : s.vm.findClass RX4 = some m.cls := hown
  have hl : lv_has ls 4 [(0, .ref (ad 0))] := hl
  have hn4 : ∀ w ∈ wsX40, w ∈ wsX4_check := by decide +kernel
  refine lv_aload_n hx hb dX4_check_0 rfl (lv_at hl 0 rfl) ?_
  refine mg_claims hx hb hts hn4 hown hw (hts (.fieldLink RX4 176 "LeaderRowsModel" "claims" "I") (by decide +kernel)) dX4_check_1 ?_
  refine lv_aload_n hx hb dX4_check_4 rfl (lv_at hl 0 rfl) ?_
  refine mg_turns hx hb hts hn4 hown hw (hts (.fieldLink RX4 169 "LeaderRowsModel" "turns" "I") (by decide +kernel)) dX4_check_5 ?_
  refine ww_joinI (rest := []) 22 (if (nI T) ≤ (nI q) then nI T else nI q) (fun K1 => ?_) ?_
  · refine lv_icmp_ge (tgt := 18) hx hb dX4_check_8 (by decide) (fun h2 => ?_) (fun h2 => ?_)
    · refine lv_aload_n hx hb dX4_check_18 rfl (lv_at hl 0 rfl) ?_
      refine mg_turns hx hb hts hn4 hown hw (hts (.fieldLink RX4 169 "LeaderRowsModel" "turns" "I") (by decide +kernel)) dX4_check_19 ?_
      exact ww_top (by rw [if_pos h2]) K1
    · refine lv_aload_n hx hb dX4_check_11 rfl (lv_at hl 0 rfl) ?_
      refine mg_claims hx hb hts hn4 hown hw (hts (.fieldLink RX4 176 "LeaderRowsModel" "claims" "I") (by decide +kernel)) dX4_check_12 ?_
      refine lv_goto (tgt := 22) hx hb dX4_check_15 (by decide) ?_
      exact ww_top (by rw [if_neg h2]) K1
  rw [minM hq hT]
  generalize hB : min q T = B
  have hB6 : B ≤ 60 := by omega
  refine lv_istore_n (lv' := [(1, .int (nI B)), (0, .ref (ad 0))]) hx hb dX4_check_22 rfl hl (by decide) rfl (fun ls hl => ?_)
  refine lv_aload_n hx hb dX4_check_23 rfl (lv_at hl 1 rfl) ?_
  refine mg_claims hx hb hts hn4 hown hw (hts (.fieldLink RX4 176 "LeaderRowsModel" "claims" "I") (by decide +kernel)) dX4_check_24 ?_
  refine lv_aload_n hx hb dX4_check_27 rfl (lv_at hl 1 rfl) ?_
  refine mg_turns hx hb hts hn4 hown hw (hts (.fieldLink RX4 169 "LeaderRowsModel" "turns" "I") (by decide +kernel)) dX4_check_28 ?_
  refine ww_joinI (rest := []) 40 (if (nI q) = (nI T) then (-2) else (nI B)) (fun K3 => ?_) ?_
  · refine lv_icmp_ne (tgt := 39) hx hb dX4_check_31 (by decide) (fun h4 => ?_) (fun h4 => ?_)
    · refine lv_iload_n hx hb dX4_check_39 rfl (lv_at hl 0 rfl) ?_
      exact ww_top (by rw [if_neg h4]) K3
    · refine lv_bipush (v := (-2)) hx hb dX4_check_34 (by decide) ?_
      refine lv_goto (tgt := 40) hx hb dX4_check_36 (by decide) ?_
      exact ww_top (by rw [if_pos h4]) K3
  refine lv_istore_n (lv' := [(2, .int (if (nI q) = (nI T) then (-2) else (nI B))), (1, .int (nI B)), (0, .ref (ad 0))]) hx hb dX4_check_40 rfl hl (by decide) rfl (fun ls hl => ?_)
  refine lv_iload_n hx hb dX4_check_41 rfl (lv_at hl 1 rfl) ?_
  refine lv_iconst (v := 1) hx hb dX4_check_42 (by decide) ?_
  refine lv_isub hx hb dX4_check_43 ?_
  rw [f_dn0 B]
  refine lv_istore_n (lv' := [(3, .int (f_dn B 0)), (2, .int (if (nI q) = (nI T) then (-2) else (nI B))), (1, .int (nI B)), (0, .ref (ad 0))]) hx hb dX4_check_44 rfl hl (by decide) rfl (fun ls hl => ?_)
  have L45 : ∀ (L45n c_ : Nat), c_ + L45n = B → ∀ (H : Heap) (locs : List Loc) (ls : Array Slot), ww_W D (mw_t cy) A s (mw_w ad cy phase epoch (nI T) nextTurn all (nI q) sum seed pot rowSeed stream terms weight wait led missed running aside isMem hasCom hasOp leads draws claim elects waits rowLeads rowDraws deposit committed opened) H locs → lv_has ls 4 [(0, .ref (ad 0)), (1, .int (nI B)), (2, .int (g_fu claim leads (if nI q = nI T then -2 else nI B) c_ (B - c_))), (3, .int (f_dn B c_))] → W p l e (ww_rm 0 0) s m ([.ref (ad 0)] : List Value).toArray below meth c H locs 0 0 (MQ below (ww_Qi D (mw_t cy) A (mw_w ad cy phase epoch (nI T) nextTurn all 0 sum seed pot rowSeed stream terms weight wait led missed running aside isMem hasCom hasOp leads draws claim elects waits rowLeads rowDraws deposit committed opened) (g_fu claim leads (if nI q = nI T then -2 else nI (B)) (B) 0)) ([.ref (ad 0)] : List Value).toArray s 0 0 A) (F0 m 45 ls []) := by
    intro L45n
    induction L45n with
    | zero =>
      intro c_ hkc_  H locs ls hw hl
      obtain rfl : B = c_ := by omega
      refine lv_iload_n hx hb dX4_check_45 rfl (lv_at hl 3 rfl) ?_
      refine lv_if_lt (tgt := 76) hx hb dX4_check_46 (by decide) (fun _ => ?_) (fun h5 => absurd (f_dnB B) h5)
      refine lv_aload_n hx hb dX4_check_76 rfl (lv_at hl 0 rfl) ?_
      refine lv_iconst (v := 0) hx hb dX4_check_77 (by decide) ?_
      refine mp_claims hx hb hts hn4 hown hw (hts (.fieldLink RX4 176 "LeaderRowsModel" "claims" "I") (by decide +kernel)) dX4_check_78 (fun H locs hw => ?_)
      refine lv_iload_n hx hb dX4_check_81 rfl (lv_at hl 2 rfl) ?_
      exact ww_ri hx hb hr hlk hw dX4_check_82 (by rw [Nat.sub_self]) rfl
    | succ L45n ihL45 =>
      intro c_ hkc_  H locs ls hw hl
      have hkc_l : c_ < B := by omega
      refine lv_iload_n hx hb dX4_check_45 rfl (lv_at hl 3 rfl) ?_
      refine lv_if_lt (tgt := 76) hx hb dX4_check_46 (by decide) (fun h6 => absurd h6 (f_dnp hkc_l hB6)) (fun _ => ?_)
      refine lv_aload_n hx hb dX4_check_49 rfl (lv_at hl 0 rfl) ?_
      refine mg_claim hx hb hts hn4 hown hw (hts (.fieldLink RX4 57 "LeaderRowsModel" "claim" "[I") (by decide +kernel)) dX4_check_50 ?_
      refine lv_iload_n hx hb dX4_check_53 rfl (lv_at hl 3 rfl) ?_
      refine ma_claim hx hb hw (B - c_ - 1) (by omega) (f_dne hkc_l) dX4_check_54 ?_
      refine lv_aload_n hx hb dX4_check_55 rfl (lv_at hl 0 rfl) ?_
      refine mg_leads hx hb hts hn4 hown hw (hts (.fieldLink RX4 51 "LeaderRowsModel" "leads" "[I") (by decide +kernel)) dX4_check_56 ?_
      refine lv_iload_n hx hb dX4_check_59 rfl (lv_at hl 3 rfl) ?_
      refine ma_leads hx hb hw (B - c_ - 1) (by omega) (f_dne hkc_l) dX4_check_60 ?_
      refine ww_joinI (rest := []) 69 (if (claim (B - c_ - 1)) = (leads (B - c_ - 1)) then g_fu claim leads (if nI q = nI T then -2 else nI B) c_ (B - c_) else f_dn B c_) (fun K7 => ?_) ?_
      · refine lv_icmp_eq (tgt := 68) hx hb dX4_check_61 (by decide) (fun h8 => ?_) (fun h8 => ?_)
        · refine lv_iload_n hx hb dX4_check_68 rfl (lv_at hl 2 rfl) ?_
          exact ww_top (by rw [if_pos h8]) K7
        · refine lv_iload_n hx hb dX4_check_64 rfl (lv_at hl 3 rfl) ?_
          refine lv_goto (tgt := 69) hx hb dX4_check_65 (by decide) ?_
          exact ww_top (by rw [if_neg h8]) K7
      refine lv_istore_n (lv' := [(2, .int (if (claim (B - c_ - 1)) = (leads (B - c_ - 1)) then g_fu claim leads (if nI q = nI T then -2 else nI B) c_ (B - c_) else f_dn B c_)), (0, .ref (ad 0)), (1, .int (nI B)), (3, .int (f_dn B c_))]) hx hb dX4_check_69 rfl hl (by decide) rfl (fun ls hl => ?_)
      refine lv_iinc (v := (f_dn B c_) + (-1)) (lv' := [(3, .int ((f_dn B c_) + (-1))), (2, .int (if (claim (B - c_ - 1)) = (leads (B - c_ - 1)) then g_fu claim leads (if nI q = nI T then -2 else nI B) c_ (B - c_) else f_dn B c_)), (0, .ref (ad 0)), (1, .int (nI B))]) hx hb dX4_check_70 hl (k := 3) rfl rfl (by decide) rfl (fun ls hl => ?_)
      refine lv_goto (tgt := 45) hx hb dX4_check_73 (by decide) ?_
      have q9 : (if (claim (B - c_ - 1)) = (leads (B - c_ - 1)) then g_fu claim leads (if nI q = nI T then -2 else nI B) c_ (B - c_) else f_dn B c_) = g_fu claim leads (if nI q = nI T then -2 else nI B) (c_ + 1) (B - (c_ + 1)) := fu_dn hkc_l
      have q10 : ((f_dn B c_) + (-1)) = f_dn B (c_ + 1) := f_dns hkc_l
      have hl9 : lv_has ls 4 [(0, .ref (ad 0)), (1, .int (nI B)), (2, .int (g_fu claim leads (if nI q = nI T then -2 else nI B) (c_ + 1) (B - (c_ + 1)))), (3, .int (f_dn B (c_ + 1)))] := by rw [← q9, ← q10]; exact lv_sub hl [2, 3, 1, 0] rfl
      exact ihL45 (c_ + 1) (by omega)  _ _ ls hw hl9
  exact L45 B 0 (by omega)  _ _ ls hw (lv_sub hl [3, 2, 1, 0] (by first | rfl | (simp [lv_pick])))
set_option maxHeartbeats 4000000 in
set_option maxRecDepth 100000 in
theorem k_X4_choices (l : Launch) {D : va_G} {ad : Nat → Nat} {cy : Nat → ClassId} {phase epoch turns nextTurn all claims sum : Int32} {seed pot rowSeed stream : Int64} {terms weight wait led missed running aside isMem hasCom hasOp leads draws claim elects waits rowLeads rowDraws : Nat → Int32} {deposit committed opened : Nat → Int64}   : ww_MI l D (mw_t cy) yX4_choices wsX4_choices (ww_rm 1 23) [.ref (ad 0)] (mw_w ad cy phase epoch turns nextTurn all claims sum seed pot rowSeed stream terms weight wait led missed running aside isMem hasCom hasOp leads draws claim elects waits rowLeads rowDraws deposit committed opened) (mw_w ad cy phase epoch turns nextTurn all claims sum seed pot rowSeed stream terms weight wait led missed running aside isMem hasCom hasOp leads draws claim elects waits rowLeads rowDraws deposit committed opened) (if phase = 2 then f_cn hasCom 12 - f_cn hasOp 12 else 0) := by
  refine ww_MI_mk .int (cc := cX4_choices) (maxL := 1) (by decide) rfl (Nat.le_of_ble_eq_true rfl) ?_
  intro p e s m below meth c A ls hx hb hr hts hown hlk hml hA hw hl
  have hown : s.vm.findClass RX4 = some m.cls := hown
  have hl : lv_has ls 1 [(0, .ref (ad 0))] := hl
  have hn4 : ∀ w ∈ wsX40, w ∈ wsX4_choices := by decide +kernel
  refine lv_aload_n hx hb dX4_choices_0 rfl (lv_at hl 0 rfl) ?_
  refine mg_phase hx hb hts hn4 hown hw (hts (.fieldLink RX4 94 "LeaderRowsModel" "phase" "I") (by decide +kernel)) dX4_choices_1 ?_
  refine lv_iconst (v := 2) hx hb dX4_choices_4 (by decide) ?_
  refine lv_icmp_ne (tgt := 22) hx hb dX4_choices_5 (by decide) (fun h1 => ?_) (fun h1 => ?_)
  · refine lv_iconst (v := 0) hx hb dX4_choices_22 (by decide) ?_
    exact ww_ri hx hb hr hlk hw dX4_choices_23 (by simp only [f_sel0, f_sel1, if_neg h1]) rfl
  · refine lv_aload_n hx hb dX4_choices_8 rfl (lv_at hl 0 rfl) ?_
    refine lv_iconst (v := 0) hx hb dX4_choices_9 (by decide) ?_
    refine ww_cMI (As := [.int 0]) (rest := []) hx hb hml hown hts hA hw hl.1 (k_X4_count l 0) (cwV 1 hts gX4_choices_X4_count rfl rfl rfl (by decide +kernel) ⟨Nat.le_of_ble_eq_true rfl, Nat.le_of_ble_eq_true rfl⟩) rfl 0 rfl rfl rfl rfl (Nat.le_of_ble_eq_true rfl) ⟨Nat.zero_le _, Nat.zero_le _⟩ dX4_choices_10 (fun H locs hw => ?_)
    refine lv_aload_n hx hb dX4_choices_13 rfl (lv_at hl 0 rfl) ?_
    refine lv_iconst (v := 1) hx hb dX4_choices_14 (by decide) ?_
    refine ww_cMI (As := [.int 1]) (rest := [.int (f_cn (f_sel 0 hasCom hasOp) 12)]) hx hb hml hown hts hA hw hl.1 (k_X4_count l 1) (cwV 1 hts gX4_choices_X4_count rfl rfl rfl (by decide +kernel) ⟨Nat.le_of_ble_eq_true rfl, Nat.le_of_ble_eq_true rfl⟩) rfl 0 rfl rfl rfl rfl (Nat.le_of_ble_eq_true rfl) ⟨Nat.zero_le _, Nat.zero_le _⟩ dX4_choices_15 (fun H locs hw => ?_)
    refine lv_isub hx hb dX4_choices_18 ?_
    refine lv_goto (tgt := 23) hx hb dX4_choices_19 (by decide) ?_
    exact ww_ri hx hb hr hlk hw dX4_choices_23 (by simp only [f_sel0, f_sel1, if_pos h1]) rfl
set_option maxHeartbeats 4000000 in
set_option maxRecDepth 100000 in
theorem k_X4_digest (l : Launch) {D : va_G} {ad : Nat → Nat} {cy : Nat → ClassId} {phase epoch turns nextTurn all claims sum : Int32} {seed pot rowSeed stream : Int64} {terms weight wait led missed running aside isMem hasCom hasOp leads draws claim elects waits rowLeads rowDraws : Nat → Int32} {deposit committed opened : Nat → Int64} (node : Int32) (number : Int64)  : ww_ML l D (mw_t cy) yX4_digest wsX4_digest (ww_rm 2 45) [.ref (ad 0), .int node, .long number] (mw_w ad cy phase epoch turns nextTurn all claims sum seed pot rowSeed stream terms weight wait led missed running aside isMem hasCom hasOp leads draws claim elects waits rowLeads rowDraws deposit committed opened) (mw_w ad cy phase epoch turns nextTurn all claims sum seed pot rowSeed stream terms weight wait led missed running aside isMem hasCom hasOp leads draws claim elects waits rowLeads rowDraws deposit committed opened) (if f_isN node = 0 then 0 else f_dig node number) := by
  refine ww_ML_mk (cc := cX4_digest) (maxL := 4) (by decide) rfl (Nat.le_of_ble_eq_true rfl) ?_
  intro p e s m below meth c A ls hx hb hr hts hown hlk hml hA hw hl
  have hown : s.vm.findClass RX4 = some m.cls := hown
  have hl : lv_has ls 4 [(0, .ref (ad 0)), (1, .int node), (2, .long number)] := hl
  refine lv_iload_n hx hb dX4_digest_0 rfl (lv_at hl 1 rfl) ?_
  refine ww_cSI (As := [.int node]) (rest := []) hx hb hml hown hts hl.1 (k_X4_isN l node) (va_cwS 1 hts gX4_digest_X4_isNode rfl rfl rfl (by decide +kernel) ⟨Nat.le_of_ble_eq_true rfl, Nat.le_of_ble_eq_true rfl⟩) rfl rfl (Nat.le_of_ble_eq_true rfl) ⟨Nat.zero_le _, Nat.zero_le _⟩ dX4_digest_1 ?_
  refine ww_joinL (rest := []) 16 (if (f_isN node) = 0 then 0 else f_dig node number) (fun K1 => ?_) ?_
  · refine lv_if_eq (tgt := 15) hx hb dX4_digest_4 (by decide) (fun h2 => ?_) (fun h2 => ?_)
    · refine lv_lconst (v := 0) hx hb dX4_digest_15 (by decide) ?_
      exact ww_topl (by rw [if_pos h2]) K1
    · refine lv_iload_n hx hb dX4_digest_7 rfl (lv_at hl 1 rfl) ?_
      refine lv_lload_n hx hb dX4_digest_8 rfl (lv_at hl 2 rfl) ?_
      refine ww_cSL (As := [.int node, .long number]) (rest := []) hx hb hml hown hts hl.1 (k_X4_digestOf l node number) (va_cwS 2 hts gX4_digest_X4_digestOf rfl rfl rfl (by decide +kernel) ⟨Nat.le_of_ble_eq_true rfl, Nat.le_of_ble_eq_true rfl⟩) rfl rfl (Nat.le_of_ble_eq_true rfl) ⟨Nat.zero_le _, Nat.zero_le _⟩ dX4_digest_9 ?_
      refine lv_goto (tgt := 16) hx hb dX4_digest_12 (by decide) ?_
      exact ww_topl (by rw [if_neg h2]) K1
  exact ww_rl hx hb hr hlk hw dX4_digest_16 (by simp only []) rfl
set_option maxHeartbeats 4000000 in
set_option maxRecDepth 100000 in
theorem k_X4_node (l : Launch) {D : va_G} {ad : Nat → Nat} {cy : Nat → ClassId} {phase epoch turns nextTurn all claims sum : Int32} {seed pot rowSeed stream : Int64} {terms weight wait led missed running aside isMem hasCom hasOp leads draws claim elects waits rowLeads rowDraws : Nat → Int32} {deposit committed opened : Nat → Int64} (node : Int32) (what : Int32)  : ww_MI l D (mw_t cy) yX4_node wsX4_node (ww_rm 2 45) [.ref (ad 0), .int node, .int what] (mw_w ad cy phase epoch turns nextTurn all claims sum seed pot rowSeed stream terms weight wait led missed running aside isMem hasCom hasOp leads draws claim elects waits rowLeads rowDraws deposit committed opened) (mw_w ad cy phase epoch turns nextTurn all claims sum seed pot rowSeed stream terms weight wait led missed running aside isMem hasCom hasOp leads draws claim elects waits rowLeads rowDraws deposit committed opened) (if f_isN node = 0 then -1 else f_tell what (weight node.toNatClampNeg) (wait node.toNatClampNeg) (led node.toNatClampNeg) (missed node.toNatClampNeg) (aside node.toNatClampNeg) (g_now phase (isMem node.toNatClampNeg)) (g_now phase (hasCom node.toNatClampNeg)) (g_now phase (hasOp node.toNatClampNeg)) (running node.toNatClampNeg)) := by
  refine ww_MI_mk .int (cc := cX4_node) (maxL := 4) (by decide) rfl (Nat.le_of_ble_eq_true rfl) ?_
  intro p e s m below meth c A ls hx hb hr hts hown hlk hml hA hw hl
  have hown : s.vm.findClass RX4 = some m.cls := hown
  have hl : lv_has ls 4 [(0, .ref (ad 0)), (1, .int node), (2, .int what)] := hl
  have hn4 : ∀ w ∈ wsX40, w ∈ wsX4_node := by decide +kernel
  refine lv_iload_n hx hb dX4_node_0 rfl (lv_at hl 1 rfl) ?_
  refine ww_cSI (As := [.int node]) (rest := []) hx hb hml hown hts hl.1 (k_X4_isN l node) (va_cwS 1 hts gX4_node_X4_isNode rfl rfl rfl (by decide +kernel) ⟨Nat.le_of_ble_eq_true rfl, Nat.le_of_ble_eq_true rfl⟩) rfl rfl (Nat.le_of_ble_eq_true rfl) ⟨Nat.zero_le _, Nat.zero_le _⟩ dX4_node_1 ?_
  refine lv_if_eq (tgt := 19) hx hb dX4_node_4 (by decide) (fun h1 => ?_) (fun h1 => ?_)
  · refine lv_iconst (v := (-1)) hx hb dX4_node_19 (by decide) ?_
    exact ww_ri hx hb hr hlk hw dX4_node_20 (by first | (rw [if_pos h1]; done) | (rw [if_neg h1, tell_o h1]; done)) rfl
  · obtain ⟨k, hk, rfl⟩ := f_isN_in h1
    have ek : (nI k).toNatClampNeg = k := nI_clamp (by omega)
    refine lv_iload_n hx hb dX4_node_7 rfl (lv_at hl 2 rfl) ?_
    refine lv_i2l hx hb dX4_node_8 rfl ?_
    refine lv_lconst (v := 0) hx hb dX4_node_9 (by decide) ?_
    refine lv_ldc2 (v := 8) hx hb hown (hts (.constantLong RX4 179 8) (by decide +kernel)) dX4_node_10 ?_
    refine ww_cSI (As := [.long (what.toInt64), .long 0, .long 8]) (rest := []) hx hb hml hown hts hl.1 (k_X4_in l (what.toInt64) 0 8) (va_cwS 3 hts gX4_node_X4_in rfl rfl rfl (by decide +kernel) ⟨Nat.le_of_ble_eq_true rfl, Nat.le_of_ble_eq_true rfl⟩) rfl rfl (Nat.le_of_ble_eq_true rfl) ⟨Nat.zero_le _, Nat.zero_le _⟩ dX4_node_13 ?_
    refine lv_if_ne (tgt := 21) hx hb dX4_node_16 (by decide) (fun h2 => ?_) (fun h2 => ?_)
    · refine lv_aload_n hx hb dX4_node_21 rfl (lv_at hl 0 rfl) ?_
      refine mg_phase hx hb hts hn4 hown hw (hts (.fieldLink RX4 94 "LeaderRowsModel" "phase" "I") (by decide +kernel)) dX4_node_22 ?_
      refine ww_joinI (rest := []) 33 (if phase ≤ 0 then 0 else 1) (fun K3 => ?_) ?_
      · refine lv_if_le (tgt := 32) hx hb dX4_node_25 (by decide) (fun h4 => ?_) (fun h4 => ?_)
        · refine lv_iconst (v := 0) hx hb dX4_node_32 (by decide) ?_
          exact ww_top (by rw [if_pos h4]) K3
        · refine lv_iconst (v := 1) hx hb dX4_node_28 (by decide) ?_
          refine lv_goto (tgt := 33) hx hb dX4_node_29 (by decide) ?_
          exact ww_top (by rw [if_neg h4]) K3
      refine lv_istore_n (lv' := [(3, .int (if phase ≤ 0 then 0 else 1)), (0, .ref (ad 0)), (1, .int (nI k)), (2, .int what)]) hx hb dX4_node_33 rfl hl (by decide) rfl (fun ls hl => ?_)
      refine lv_iload_n hx hb dX4_node_34 rfl (lv_at hl 3 rfl) ?_
      by_cases h5 : what = 0
      · refine lv_tableIn (tgt := 80) hx hb dX4_node_35 (by rw [h5]; decide) (by rw [h5]; decide) (by rw [h5]; rfl) (by decide) ?_
        refine lv_aload_n hx hb dX4_node_80 rfl (lv_at hl 1 rfl) ?_
        refine mg_weight hx hb hts hn4 hown hw (hts (.fieldLink RX4 13 "LeaderRowsModel" "weight" "[I") (by decide +kernel)) dX4_node_81 ?_
        refine lv_iload_n hx hb dX4_node_84 rfl (lv_at hl 2 rfl) ?_
        refine ma_weight hx hb hw k (by omega) rfl dX4_node_85 ?_
        exact ww_ri hx hb hr hlk hw dX4_node_86 (by simp only [ek, if_neg h1, now_e]; simp only [f_tell]; first | (simp only [if_neg h1, if_neg h2, if_pos h5]; done) | skip) rfl
      by_cases h6 : what = 1
      · refine lv_tableIn (tgt := 87) hx hb dX4_node_35 (by rw [h6]; decide) (by rw [h6]; decide) (by rw [h6]; rfl) (by decide) ?_
        refine lv_aload_n hx hb dX4_node_87 rfl (lv_at hl 1 rfl) ?_
        refine mg_wait hx hb hts hn4 hown hw (hts (.fieldLink RX4 20 "LeaderRowsModel" "wait" "[I") (by decide +kernel)) dX4_node_88 ?_
        refine lv_iload_n hx hb dX4_node_91 rfl (lv_at hl 2 rfl) ?_
        refine ma_wait hx hb hw k (by omega) rfl dX4_node_92 ?_
        exact ww_ri hx hb hr hlk hw dX4_node_93 (by simp only [ek, if_neg h1, now_e]; simp only [f_tell]; first | (simp only [if_neg h1, if_neg h2, if_neg h5, if_pos h6]; done) | skip) rfl
      by_cases h7 : what = 2
      · refine lv_tableIn (tgt := 94) hx hb dX4_node_35 (by rw [h7]; decide) (by rw [h7]; decide) (by rw [h7]; rfl) (by decide) ?_
        refine lv_aload_n hx hb dX4_node_94 rfl (lv_at hl 1 rfl) ?_
        refine mg_led hx hb hts hn4 hown hw (hts (.fieldLink RX4 23 "LeaderRowsModel" "led" "[I") (by decide +kernel)) dX4_node_95 ?_
        refine lv_iload_n hx hb dX4_node_98 rfl (lv_at hl 2 rfl) ?_
        refine ma_led hx hb hw k (by omega) rfl dX4_node_99 ?_
        exact ww_ri hx hb hr hlk hw dX4_node_100 (by simp only [ek, if_neg h1, now_e]; simp only [f_tell]; first | (simp only [if_neg h1, if_neg h2, if_neg h5, if_neg h6, if_pos h7]; done) | skip) rfl
      by_cases h8 : what = 3
      · refine lv_tableIn (tgt := 101) hx hb dX4_node_35 (by rw [h8]; decide) (by rw [h8]; decide) (by rw [h8]; rfl) (by decide) ?_
        refine lv_aload_n hx hb dX4_node_101 rfl (lv_at hl 1 rfl) ?_
        refine mg_missed hx hb hts hn4 hown hw (hts (.fieldLink RX4 26 "LeaderRowsModel" "missed" "[I") (by decide +kernel)) dX4_node_102 ?_
        refine lv_iload_n hx hb dX4_node_105 rfl (lv_at hl 2 rfl) ?_
        refine ma_missed hx hb hw k (by omega) rfl dX4_node_106 ?_
        exact ww_ri hx hb hr hlk hw dX4_node_107 (by simp only [ek, if_neg h1, now_e]; simp only [f_tell]; first | (simp only [if_neg h1, if_neg h2, if_neg h5, if_neg h6, if_neg h7, if_pos h8]; done) | skip) rfl
      by_cases h9 : what = 4
      · refine lv_tableIn (tgt := 108) hx hb dX4_node_35 (by rw [h9]; decide) (by rw [h9]; decide) (by rw [h9]; rfl) (by decide) ?_
        refine lv_aload_n hx hb dX4_node_108 rfl (lv_at hl 1 rfl) ?_
        refine mg_aside hx hb hts hn4 hown hw (hts (.fieldLink RX4 32 "LeaderRowsModel" "aside" "[I") (by decide +kernel)) dX4_node_109 ?_
        refine lv_iload_n hx hb dX4_node_112 rfl (lv_at hl 2 rfl) ?_
        refine ma_aside hx hb hw k (by omega) rfl dX4_node_113 ?_
        exact ww_ri hx hb hr hlk hw dX4_node_114 (by simp only [ek, if_neg h1, now_e]; simp only [f_tell]; first | (simp only [if_neg h1, if_neg h2, if_neg h5, if_neg h6, if_neg h7, if_neg h8, if_pos h9]; done) | skip) rfl
      by_cases h10 : what = 5
      · refine lv_tableIn (tgt := 115) hx hb dX4_node_35 (by rw [h10]; decide) (by rw [h10]; decide) (by rw [h10]; rfl) (by decide) ?_
        refine lv_iload_n hx hb dX4_node_115 rfl (lv_at hl 0 rfl) ?_
        refine ww_joinI (rest := []) 133 (if ((if phase ≤ 0 then 0 else 1) : Int32) = 0 then 0 else if (isMem k) = 0 then 0 else 1) (fun K11 => ?_) ?_
        · refine lv_if_eq (tgt := 132) hx hb dX4_node_116 (by decide) (fun h12 => ?_) (fun h12 => ?_)
          · refine lv_iconst (v := 0) hx hb dX4_node_132 (by decide) ?_
            exact ww_top (by rw [if_pos h12]) K11
          · refine lv_aload_n hx hb dX4_node_119 rfl (lv_at hl 1 rfl) ?_
            refine mg_isMember hx hb hts hn4 hown hw (hts (.fieldLink RX4 35 "LeaderRowsModel" "isMember" "[Z") (by decide +kernel)) dX4_node_120 ?_
            refine lv_iload_n hx hb dX4_node_123 rfl (lv_at hl 2 rfl) ?_
            refine ma_isMem hx hb hw k (by omega) rfl dX4_node_124 ?_
            refine lv_if_eq (tgt := 132) hx hb dX4_node_125 (by decide) (fun h13 => ?_) (fun h13 => ?_)
            · refine lv_iconst (v := 0) hx hb dX4_node_132 (by decide) ?_
              exact ww_top (by rw [if_neg h12, if_pos h13]) K11
            · refine lv_iconst (v := 1) hx hb dX4_node_128 (by decide) ?_
              refine lv_goto (tgt := 133) hx hb dX4_node_129 (by decide) ?_
              exact ww_top (by rw [if_neg h12, if_neg h13]) K11
        exact ww_ri hx hb hr hlk hw dX4_node_133 (by simp only [ek, if_neg h1, now_e]; simp only [f_tell]; first | (simp only [if_neg h1, if_neg h2, if_neg h5, if_neg h6, if_neg h7, if_neg h8, if_neg h9, if_pos h10]; done) | skip) rfl
      by_cases h14 : what = 6
      · refine lv_tableIn (tgt := 134) hx hb dX4_node_35 (by rw [h14]; decide) (by rw [h14]; decide) (by rw [h14]; rfl) (by decide) ?_
        refine lv_iload_n hx hb dX4_node_134 rfl (lv_at hl 0 rfl) ?_
        refine ww_joinI (rest := []) 152 (if ((if phase ≤ 0 then 0 else 1) : Int32) = 0 then 0 else if (hasCom k) = 0 then 0 else 1) (fun K15 => ?_) ?_
        · refine lv_if_eq (tgt := 151) hx hb dX4_node_135 (by decide) (fun h16 => ?_) (fun h16 => ?_)
          · refine lv_iconst (v := 0) hx hb dX4_node_151 (by decide) ?_
            exact ww_top (by rw [if_pos h16]) K15
          · refine lv_aload_n hx hb dX4_node_138 rfl (lv_at hl 1 rfl) ?_
            refine mg_hasCommitted hx hb hts hn4 hown hw (hts (.fieldLink RX4 39 "LeaderRowsModel" "hasCommitted" "[Z") (by decide +kernel)) dX4_node_139 ?_
            refine lv_iload_n hx hb dX4_node_142 rfl (lv_at hl 2 rfl) ?_
            refine ma_hasCom hx hb hw k (by omega) rfl dX4_node_143 ?_
            refine lv_if_eq (tgt := 151) hx hb dX4_node_144 (by decide) (fun h17 => ?_) (fun h17 => ?_)
            · refine lv_iconst (v := 0) hx hb dX4_node_151 (by decide) ?_
              exact ww_top (by rw [if_neg h16, if_pos h17]) K15
            · refine lv_iconst (v := 1) hx hb dX4_node_147 (by decide) ?_
              refine lv_goto (tgt := 152) hx hb dX4_node_148 (by decide) ?_
              exact ww_top (by rw [if_neg h16, if_neg h17]) K15
        exact ww_ri hx hb hr hlk hw dX4_node_152 (by simp only [ek, if_neg h1, now_e]; simp only [f_tell]; first | (simp only [if_neg h1, if_neg h2, if_neg h5, if_neg h6, if_neg h7, if_neg h8, if_neg h9, if_neg h10, if_pos h14]; done) | skip) rfl
      by_cases h18 : what = 7
      · refine lv_tableIn (tgt := 153) hx hb dX4_node_35 (by rw [h18]; decide) (by rw [h18]; decide) (by rw [h18]; rfl) (by decide) ?_
        refine lv_iload_n hx hb dX4_node_153 rfl (lv_at hl 0 rfl) ?_
        refine ww_joinI (rest := []) 171 (if ((if phase ≤ 0 then 0 else 1) : Int32) = 0 then 0 else if (hasOp k) = 0 then 0 else 1) (fun K19 => ?_) ?_
        · refine lv_if_eq (tgt := 170) hx hb dX4_node_154 (by decide) (fun h20 => ?_) (fun h20 => ?_)
          · refine lv_iconst (v := 0) hx hb dX4_node_170 (by decide) ?_
            exact ww_top (by rw [if_pos h20]) K19
          · refine lv_aload_n hx hb dX4_node_157 rfl (lv_at hl 1 rfl) ?_
            refine mg_hasOpened hx hb hts hn4 hown hw (hts (.fieldLink RX4 42 "LeaderRowsModel" "hasOpened" "[Z") (by decide +kernel)) dX4_node_158 ?_
            refine lv_iload_n hx hb dX4_node_161 rfl (lv_at hl 2 rfl) ?_
            refine ma_hasOp hx hb hw k (by omega) rfl dX4_node_162 ?_
            refine lv_if_eq (tgt := 170) hx hb dX4_node_163 (by decide) (fun h21 => ?_) (fun h21 => ?_)
            · refine lv_iconst (v := 0) hx hb dX4_node_170 (by decide) ?_
              exact ww_top (by rw [if_neg h20, if_pos h21]) K19
            · refine lv_iconst (v := 1) hx hb dX4_node_166 (by decide) ?_
              refine lv_goto (tgt := 171) hx hb dX4_node_167 (by decide) ?_
              exact ww_top (by rw [if_neg h20, if_neg h21]) K19
        exact ww_ri hx hb hr hlk hw dX4_node_171 (by simp only [ek, if_neg h1, now_e]; simp only [f_tell]; first | (simp only [if_neg h1, if_neg h2, if_neg h5, if_neg h6, if_neg h7, if_neg h8, if_neg h9, if_neg h10, if_neg h14, if_pos h18]; done) | skip) rfl
      refine lv_tableOut (tgt := 172) hx hb dX4_node_35 (sw_out 7 (by decide) (fun k hk => by rcases (show k = 0 ∨ k = 1 ∨ k = 2 ∨ k = 3 ∨ k = 4 ∨ k = 5 ∨ k = 6 ∨ k = 7 by omega) with rfl | rfl | rfl | rfl | rfl | rfl | rfl | rfl <;> first | exact h5 | exact h6 | exact h7 | exact h8 | exact h9 | exact h10 | exact h14 | exact h18)) (by decide) ?_
      have h8 : what = 8 := tell_8 h2 (fun j hj => by rcases (show j = 0 ∨ j = 1 ∨ j = 2 ∨ j = 3 ∨ j = 4 ∨ j = 5 ∨ j = 6 ∨ j = 7 by omega) with rfl | rfl | rfl | rfl | rfl | rfl | rfl | rfl <;> assumption)
      refine lv_aload_n hx hb dX4_node_172 rfl (lv_at hl 1 rfl) ?_
      refine mg_running hx hb hts hn4 hown hw (hts (.fieldLink RX4 29 "LeaderRowsModel" "running" "[I") (by decide +kernel)) dX4_node_173 ?_
      refine lv_iload_n hx hb dX4_node_176 rfl (lv_at hl 2 rfl) ?_
      refine ma_running hx hb hw k (by omega) rfl dX4_node_177 ?_
      exact ww_ri hx hb hr hlk hw dX4_node_178 (by subst h8; simp only [ek, if_neg h1]; rfl) rfl
    · refine lv_iconst (v := (-1)) hx hb dX4_node_19 (by decide) ?_
      exact ww_ri hx hb hr hlk hw dX4_node_20 (by first | (rw [if_pos h1]; done) | (rw [if_neg h1, tell_o h2]; done)) rfl
set_option maxHeartbeats 4000000 in
set_option maxRecDepth 100000 in
theorem k_X4_amount (l : Launch) {D : va_G} {ad : Nat → Nat} {cy : Nat → ClassId} {phase epoch turns nextTurn all claims sum : Int32} {seed pot rowSeed stream : Int64} {terms weight wait led missed running aside isMem hasCom hasOp leads draws claim elects waits rowLeads rowDraws : Nat → Int32} {deposit committed opened : Nat → Int64} (what : Int32)  : ww_ML l D (mw_t cy) yX4_amount wsX4_amount (ww_rm 1 25) [.ref (ad 0), .int what] (mw_w ad cy phase epoch turns nextTurn all claims sum seed pot rowSeed stream terms weight wait led missed running aside isMem hasCom hasOp leads draws claim elects waits rowLeads rowDraws deposit committed opened) (mw_w ad cy phase epoch turns nextTurn all claims sum seed pot rowSeed stream terms weight wait led missed running aside isMem hasCom hasOp leads draws claim elects waits rowLeads rowDraws deposit committed opened) (f_amt what seed pot deposit) := by
  refine ww_ML_mk (cc := cX4_amount) (maxL := 2) (by decide) rfl (Nat.le_of_ble_eq_true rfl) ?_
  intro p e s m below meth c A ls hx hb hr hts hown hlk hml hA hw hl
  have hown : s.vm.findClass RX4 = some m.cls := hown
  have hl : lv_has ls 2 [(0, .ref (ad 0)), (1, .int what)] := hl
  have hn4 : ∀ w ∈ wsX40, w ∈ wsX4_amount := by decide +kernel
  refine lv_iload_n hx hb dX4_amount_0 rfl (lv_at hl 1 rfl) ?_
  refine lv_if_ne (tgt := 11) hx hb dX4_amount_1 (by decide) (fun h1 => ?_) (fun h1 => ?_)
  · refine lv_iload_n hx hb dX4_amount_11 rfl (lv_at hl 1 rfl) ?_
    refine lv_iconst (v := 1) hx hb dX4_amount_12 (by decide) ?_
    refine lv_icmp_ne (tgt := 23) hx hb dX4_amount_13 (by decide) (fun h2 => ?_) (fun h2 => ?_)
    · refine lv_iload_n hx hb dX4_amount_23 rfl (lv_at hl 1 rfl) ?_
      refine lv_i2l hx hb dX4_amount_24 rfl ?_
      refine lv_ldc2 (v := 2) hx hb hown (hts (.constantLong RX4 135 2) (by decide +kernel)) dX4_amount_25 ?_
      refine lv_ldc2 (v := 13) hx hb hown (hts (.constantLong RX4 181 13) (by decide +kernel)) dX4_amount_28 ?_
      refine ww_cSI (As := [.long (what.toInt64), .long 2, .long 13]) (rest := []) hx hb hml hown hts hl.1 (k_X4_in l (what.toInt64) 2 13) (va_cwS 3 hts gX4_amount_X4_in rfl rfl rfl (by decide +kernel) ⟨Nat.le_of_ble_eq_true rfl, Nat.le_of_ble_eq_true rfl⟩) rfl rfl (Nat.le_of_ble_eq_true rfl) ⟨Nat.zero_le _, Nat.zero_le _⟩ dX4_amount_31 ?_
      refine lv_if_eq (tgt := 48) hx hb dX4_amount_34 (by decide) (fun h3 => ?_) (fun h3 => ?_)
      · refine lv_lconst (v := 0) hx hb dX4_amount_48 (by decide) ?_
        exact ww_rl hx hb hr hlk hw dX4_amount_49 (by simp only [f_amt, if_neg h1, if_neg h2, if_pos h3]) rfl
      · obtain ⟨j, hj, ej⟩ := in_sub 2 11 (by decide) rfl rfl h3
        have ej : what - 2 = nI j := ej
        have ek : (nI j).toNatClampNeg = j := nI_clamp (by omega)
        refine lv_aload_n hx hb dX4_amount_37 rfl (lv_at hl 0 rfl) ?_
        refine mg_deposit hx hb hts hn4 hown hw (hts (.fieldLink RX4 16 "LeaderRowsModel" "deposit" "[J") (by decide +kernel)) dX4_amount_38 ?_
        refine lv_iload_n hx hb dX4_amount_41 rfl (lv_at hl 1 rfl) ?_
        refine lv_iconst (v := 2) hx hb dX4_amount_42 (by decide) ?_
        refine lv_isub hx hb dX4_amount_43 ?_
        refine ma_deposit hx hb hw j hj ej dX4_amount_44 ?_
        refine lv_goto (tgt := 49) hx hb dX4_amount_45 (by decide) ?_
        exact ww_rl hx hb hr hlk hw dX4_amount_49 (by simp only [f_amt, if_neg h1, if_neg h2, if_neg h3, ej, ek]) rfl
    · refine lv_aload_n hx hb dX4_amount_16 rfl (lv_at hl 0 rfl) ?_
      refine mg_pot hx hb hts hn4 hown hw (hts (.fieldLink RX4 163 "LeaderRowsModel" "pot" "J") (by decide +kernel)) dX4_amount_17 ?_
      refine lv_goto (tgt := 49) hx hb dX4_amount_20 (by decide) ?_
      exact ww_rl hx hb hr hlk hw dX4_amount_49 (by simp only [f_amt, if_neg h1, if_pos h2]) rfl
  · refine lv_aload_n hx hb dX4_amount_4 rfl (lv_at hl 0 rfl) ?_
    refine mg_seed hx hb hts hn4 hown hw (hts (.fieldLink RX4 126 "LeaderRowsModel" "seed" "J") (by decide +kernel)) dX4_amount_5 ?_
    refine lv_goto (tgt := 49) hx hb dX4_amount_8 (by decide) ?_
    exact ww_rl hx hb hr hlk hw dX4_amount_49 (by simp only [f_amt, if_pos h1]) rfl
set_option maxHeartbeats 4000000 in
set_option maxRecDepth 100000 in
theorem k_X4_told (l : Launch) {D : va_G} {ad : Nat → Nat} {cy : Nat → ClassId} {phase epoch turns nextTurn all claims sum : Int32} {seed pot rowSeed stream : Int64} {terms weight wait led missed running aside isMem hasCom hasOp leads draws claim elects waits rowLeads rowDraws : Nat → Int32} {deposit committed opened : Nat → Int64} (what : Int32)  : ww_MI l D (mw_t cy) yX4_told wsX4_told (ww_rm 1 25) [.ref (ad 0), .int what] (mw_w ad cy phase epoch turns nextTurn all claims sum seed pot rowSeed stream terms weight wait led missed running aside isMem hasCom hasOp leads draws claim elects waits rowLeads rowDraws deposit committed opened) (mw_w ad cy phase epoch turns nextTurn all claims sum seed pot rowSeed stream terms weight wait led missed running aside isMem hasCom hasOp leads draws claim elects waits rowLeads rowDraws deposit committed opened) (f_told what phase epoch turns (if phase = 3 then nextTurn else 0) all terms) := by
  refine ww_MI_mk .int (cc := cX4_told) (maxL := 2) (by decide) rfl (Nat.le_of_ble_eq_true rfl) ?_
  intro p e s m below meth c A ls hx hb hr hts hown hlk hml hA hw hl
  have hown : s.vm.findClass RX4 = some m.cls := hown
  have hl : lv_has ls 2 [(0, .ref (ad 0)), (1, .int what)] := hl
  have hn4 : ∀ w ∈ wsX40, w ∈ wsX4_told := by decide +kernel
  refine lv_iload_n hx hb dX4_told_0 rfl (lv_at hl 1 rfl) ?_
  refine lv_if_ne (tgt := 11) hx hb dX4_told_1 (by decide) (fun h1 => ?_) (fun h1 => ?_)
  · refine lv_iload_n hx hb dX4_told_11 rfl (lv_at hl 1 rfl) ?_
    refine lv_iconst (v := 1) hx hb dX4_told_12 (by decide) ?_
    refine lv_icmp_ne (tgt := 23) hx hb dX4_told_13 (by decide) (fun h2 => ?_) (fun h2 => ?_)
    · refine lv_iload_n hx hb dX4_told_23 rfl (lv_at hl 1 rfl) ?_
      refine lv_iconst (v := 2) hx hb dX4_told_24 (by decide) ?_
      refine lv_icmp_ne (tgt := 35) hx hb dX4_told_25 (by decide) (fun h3 => ?_) (fun h3 => ?_)
      · refine lv_iload_n hx hb dX4_told_35 rfl (lv_at hl 1 rfl) ?_
        refine lv_iconst (v := 3) hx hb dX4_told_36 (by decide) ?_
        refine lv_icmp_ne (tgt := 59) hx hb dX4_told_37 (by decide) (fun h4 => ?_) (fun h4 => ?_)
        · refine lv_iload_n hx hb dX4_told_59 rfl (lv_at hl 1 rfl) ?_
          refine lv_iconst (v := 4) hx hb dX4_told_60 (by decide) ?_
          refine lv_icmp_ne (tgt := 71) hx hb dX4_told_61 (by decide) (fun h5 => ?_) (fun h5 => ?_)
          · refine lv_iload_n hx hb dX4_told_71 rfl (lv_at hl 1 rfl) ?_
            refine lv_i2l hx hb dX4_told_72 rfl ?_
            refine lv_ldc2 (v := 5) hx hb hown (hts (.constantLong RX4 183 5) (by decide +kernel)) dX4_told_73 ?_
            refine lv_ldc2 (v := 8) hx hb hown (hts (.constantLong RX4 179 8) (by decide +kernel)) dX4_told_76 ?_
            refine ww_cSI (As := [.long (what.toInt64), .long 5, .long 8]) (rest := []) hx hb hml hown hts hl.1 (k_X4_in l (what.toInt64) 5 8) (va_cwS 3 hts gX4_told_X4_in rfl rfl rfl (by decide +kernel) ⟨Nat.le_of_ble_eq_true rfl, Nat.le_of_ble_eq_true rfl⟩) rfl rfl (Nat.le_of_ble_eq_true rfl) ⟨Nat.zero_le _, Nat.zero_le _⟩ dX4_told_79 ?_
            refine lv_if_eq (tgt := 96) hx hb dX4_told_82 (by decide) (fun h6 => ?_) (fun h6 => ?_)
            · refine lv_iconst (v := (-1)) hx hb dX4_told_96 (by decide) ?_
              exact ww_ri hx hb hr hlk hw dX4_told_97 (by simp only [f_told, if_neg h1, if_neg h2, if_neg h3, if_neg h4, if_neg h5, if_pos h6]) rfl
            · obtain ⟨j, hj, ej⟩ := in_sub 5 3 (by decide) rfl rfl h6
              have ej : what - 5 = nI j := ej
              have ek : (nI j).toNatClampNeg = j := nI_clamp (by omega)
              refine lv_aload_n hx hb dX4_told_85 rfl (lv_at hl 0 rfl) ?_
              refine mg_terms hx hb hts hn4 hown hw (hts (.fieldLink RX4 7 "LeaderRowsModel" "terms" "[I") (by decide +kernel)) dX4_told_86 ?_
              refine lv_iload_n hx hb dX4_told_89 rfl (lv_at hl 1 rfl) ?_
              refine lv_iconst (v := 5) hx hb dX4_told_90 (by decide) ?_
              refine lv_isub hx hb dX4_told_91 ?_
              refine ma_terms hx hb hw j hj ej dX4_told_92 ?_
              refine lv_goto (tgt := 97) hx hb dX4_told_93 (by decide) ?_
              exact ww_ri hx hb hr hlk hw dX4_told_97 (by simp only [f_told, if_neg h1, if_neg h2, if_neg h3, if_neg h4, if_neg h5, if_neg h6, ej, ek]) rfl
          · refine lv_aload_n hx hb dX4_told_64 rfl (lv_at hl 0 rfl) ?_
            refine mg_all hx hb hts hn4 hown hw (hts (.fieldLink RX4 160 "LeaderRowsModel" "all" "I") (by decide +kernel)) dX4_told_65 ?_
            refine lv_goto (tgt := 97) hx hb dX4_told_68 (by decide) ?_
            exact ww_ri hx hb hr hlk hw dX4_told_97 (by simp only [f_told, if_neg h1, if_neg h2, if_neg h3, if_neg h4, if_pos h5]) rfl
        · refine lv_aload_n hx hb dX4_told_40 rfl (lv_at hl 0 rfl) ?_
          refine mg_phase hx hb hts hn4 hown hw (hts (.fieldLink RX4 94 "LeaderRowsModel" "phase" "I") (by decide +kernel)) dX4_told_41 ?_
          refine lv_iconst (v := 3) hx hb dX4_told_44 (by decide) ?_
          refine lv_icmp_ne (tgt := 55) hx hb dX4_told_45 (by decide) (fun h7 => ?_) (fun h7 => ?_)
          · refine lv_iconst (v := 0) hx hb dX4_told_55 (by decide) ?_
            refine lv_goto (tgt := 97) hx hb dX4_told_56 (by decide) ?_
            exact ww_ri hx hb hr hlk hw dX4_told_97 (by simp only [f_told, if_neg h1, if_neg h2, if_neg h3, if_pos h4, if_neg h7]) rfl
          · refine lv_aload_n hx hb dX4_told_48 rfl (lv_at hl 0 rfl) ?_
            refine mg_nextTurn hx hb hts hn4 hown hw (hts (.fieldLink RX4 166 "LeaderRowsModel" "nextTurn" "I") (by decide +kernel)) dX4_told_49 ?_
            refine lv_goto (tgt := 97) hx hb dX4_told_52 (by decide) ?_
            exact ww_ri hx hb hr hlk hw dX4_told_97 (by simp only [f_told, if_neg h1, if_neg h2, if_neg h3, if_pos h4, if_pos h7]) rfl
      · refine lv_aload_n hx hb dX4_told_28 rfl (lv_at hl 0 rfl) ?_
        refine mg_turns hx hb hts hn4 hown hw (hts (.fieldLink RX4 169 "LeaderRowsModel" "turns" "I") (by decide +kernel)) dX4_told_29 ?_
        refine lv_goto (tgt := 97) hx hb dX4_told_32 (by decide) ?_
        exact ww_ri hx hb hr hlk hw dX4_told_97 (by simp only [f_told, if_neg h1, if_neg h2, if_pos h3]) rfl
    · refine lv_aload_n hx hb dX4_told_16 rfl (lv_at hl 0 rfl) ?_
      refine mg_epoch hx hb hts hn4 hown hw (hts (.fieldLink RX4 112 "LeaderRowsModel" "epoch" "I") (by decide +kernel)) dX4_told_17 ?_
      refine lv_goto (tgt := 97) hx hb dX4_told_20 (by decide) ?_
      exact ww_ri hx hb hr hlk hw dX4_told_97 (by simp only [f_told, if_neg h1, if_pos h2]) rfl
  · refine lv_aload_n hx hb dX4_told_4 rfl (lv_at hl 0 rfl) ?_
    refine mg_phase hx hb hts hn4 hown hw (hts (.fieldLink RX4 94 "LeaderRowsModel" "phase" "I") (by decide +kernel)) dX4_told_5 ?_
    refine lv_goto (tgt := 97) hx hb dX4_told_8 (by decide) ?_
    exact ww_ri hx hb hr hlk hw dX4_told_97 (by simp only [f_told, if_pos h1]) rfl
set_option maxHeartbeats 4000000 in
set_option maxRecDepth 100000 in
theorem k_X4_turnN (l : Launch) {D : va_G} {ad : Nat → Nat} {cy : Nat → ClassId} {phase epoch turns nextTurn all claims sum : Int32} {seed pot rowSeed stream : Int64} {terms weight wait led missed running aside isMem hasCom hasOp leads draws claim elects waits rowLeads rowDraws : Nat → Int32} {deposit committed opened : Nat → Int64} (done : Int32) (hp : ¬ phase = 3)  : ww_MI l D (mw_t cy) yX4_turn wsX4_turn (ww_rm 0 0) [.ref (ad 0), .int done] (mw_w ad cy phase epoch turns nextTurn all claims sum seed pot rowSeed stream terms weight wait led missed running aside isMem hasCom hasOp leads draws claim elects waits rowLeads rowDraws deposit committed opened) (mw_w ad cy phase epoch turns nextTurn all claims sum seed pot rowSeed stream terms weight wait led missed running aside isMem hasCom hasOp leads draws claim elects waits rowLeads rowDraws deposit committed opened) (-3) := by
  refine ww_MI_mk .int (cc := cX4_turn) (maxL := 4) (by decide) rfl (Nat.le_of_ble_eq_true rfl) ?_
  intro p e s m below meth c A ls hx hb hr hts hown hlk hml hA hw hl
  have hown : s.vm.findClass RX4 = some m.cls := hown
  have hl : lv_has ls 4 [(0, .ref (ad 0)), (1, .int done)] := hl
  have hn4 : ∀ w ∈ wsX40, w ∈ wsX4_turn := by decide +kernel
  refine lv_aload_n hx hb dX4_turn_0 rfl (lv_at hl 0 rfl) ?_
  refine mg_phase hx hb hts hn4 hown hw (hts (.fieldLink RX4 94 "LeaderRowsModel" "phase" "I") (by decide +kernel)) dX4_turn_1 ?_
  refine lv_iconst (v := 3) hx hb dX4_turn_4 (by decide) ?_
  refine lv_icmp_eq (tgt := 11) hx hb dX4_turn_5 (by decide) (fun h1 => absurd h1 hp) (fun _ => ?_)
  refine lv_bipush (v := (-3)) hx hb dX4_turn_8 (by decide) ?_
  exact ww_ri hx hb hr hlk hw dX4_turn_10 (rfl) rfl
set_option maxHeartbeats 4000000 in
set_option maxRecDepth 100000 in
theorem k_X4_turn (l : Launch) {D : va_G} {ad : Nat → Nat} {cy : Nat → ClassId} {epoch all claims sum : Int32} {seed pot rowSeed stream : Int64} {terms weight wait led missed running aside isMem hasCom hasOp leads draws claim elects waits rowLeads rowDraws : Nat → Int32} {deposit committed opened : Nat → Int64} (x T j : Nat) (done : Int32) (hxT : x < T) (hT : T ≤ 60) (hj : j < 12) (hlj : leads x = nI j)  : ww_MI l D (mw_t cy) yX4_turn wsX4_turn (ww_rm 0 0) [.ref (ad 0), .int done] (mw_w ad cy 3 epoch (nI T) (nI x) all claims sum seed pot rowSeed stream terms weight wait led missed running aside isMem hasCom hasOp leads draws claim elects waits rowLeads rowDraws deposit committed opened) (mw_w ad cy (if x + 1 < T then 3 else 0) epoch (nI T) (nI (x + 1)) all claims sum seed pot rowSeed stream terms weight wait (if done = 0 then led else upd led j (led j + 1)) (if done = 0 then upd missed j (missed j + 1) else missed) (if done = 0 then upd running j (if running j + 1 < terms 3 then running j + 1 else 0) else upd running j 0) (if done = 0 then upd aside j (if running j + 1 < terms 3 then aside j else f_max (aside j) (epoch + terms 2)) else aside) isMem hasCom hasOp leads draws claim elects waits rowLeads rowDraws deposit committed opened) (nI (T - (x + 1))) := by
  refine ww_MI_mk .int (cc := cX4_turn) (maxL := 4) (by decide) rfl (Nat.le_of_ble_eq_true rfl) ?_
  intro p e s m below meth c A ls hx hb hr hts hown hlk hml hA hw hl
  have hown : s.vm.findClass RX4 = some m.cls := hown
  have hl : lv_has ls 4 [(0, .ref (ad 0)), (1, .int done)] := hl
  have hn4 : ∀ w ∈ wsX40, w ∈ wsX4_turn := by decide +kernel
  refine lv_aload_n hx hb dX4_turn_0 rfl (lv_at hl 0 rfl) ?_
  refine mg_phase hx hb hts hn4 hown hw (hts (.fieldLink RX4 94 "LeaderRowsModel" "phase" "I") (by decide +kernel)) dX4_turn_1 ?_
  refine lv_iconst (v := 3) hx hb dX4_turn_4 (by decide) ?_
  refine lv_icmp_eq (tgt := 11) hx hb dX4_turn_5 (by decide) (fun _ => ?_) (fun h1 => absurd rfl h1)
  refine lv_aload_n hx hb dX4_turn_11 rfl (lv_at hl 0 rfl) ?_
  refine mg_leads hx hb hts hn4 hown hw (hts (.fieldLink RX4 51 "LeaderRowsModel" "leads" "[I") (by decide +kernel)) dX4_turn_12 ?_
  refine lv_aload_n hx hb dX4_turn_15 rfl (lv_at hl 0 rfl) ?_
  refine mg_nextTurn hx hb hts hn4 hown hw (hts (.fieldLink RX4 166 "LeaderRowsModel" "nextTurn" "I") (by decide +kernel)) dX4_turn_16 ?_
  refine ma_leads hx hb hw x (by omega) rfl dX4_turn_19 ?_
  refine lv_istore_n (lv' := [(2, .int (leads x)), (0, .ref (ad 0)), (1, .int done)]) hx hb dX4_turn_20 rfl hl (by decide) rfl (fun ls hl => ?_)
  refine lv_aload_n hx hb dX4_turn_21 rfl (lv_at hl 1 rfl) ?_
  refine lv_dup hx hb dX4_turn_22 rfl ?_
  refine mg_nextTurn hx hb hts hn4 hown hw (hts (.fieldLink RX4 166 "LeaderRowsModel" "nextTurn" "I") (by decide +kernel)) dX4_turn_23 ?_
  refine lv_iconst (v := 1) hx hb dX4_turn_26 (by decide) ?_
  refine lv_iadd hx hb dX4_turn_27 ?_
  refine mp_nextTurn hx hb hts hn4 hown hw (hts (.fieldLink RX4 166 "LeaderRowsModel" "nextTurn" "I") (by decide +kernel)) dX4_turn_28 (fun H locs hw => ?_)
  refine lv_iload_n hx hb dX4_turn_31 rfl (lv_at hl 2 rfl) ?_
  refine lv_if_eq (tgt := 55) hx hb dX4_turn_32 (by decide) (fun h2 => ?_) (fun h2 => ?_)
  · refine lv_aload_n hx hb dX4_turn_55 rfl (lv_at hl 1 rfl) ?_
    refine mg_missed hx hb hts hn4 hown hw (hts (.fieldLink RX4 26 "LeaderRowsModel" "missed" "[I") (by decide +kernel)) dX4_turn_56 ?_
    refine lv_iload_n hx hb dX4_turn_59 rfl (lv_at hl 0 rfl) ?_
    refine lv_dup2_11 hx hb dX4_turn_60 rfl rfl ?_
    refine ma_missed hx hb hw j hj hlj dX4_turn_61 ?_
    refine lv_iconst (v := 1) hx hb dX4_turn_62 (by decide) ?_
    refine lv_iadd hx hb dX4_turn_63 ?_
    refine ms_missed hx hb hw j hj hlj dX4_turn_64 (fun H locs hw => ?_)
    refine lv_aload_n hx hb dX4_turn_65 rfl (lv_at hl 1 rfl) ?_
    refine mg_running hx hb hts hn4 hown hw (hts (.fieldLink RX4 29 "LeaderRowsModel" "running" "[I") (by decide +kernel)) dX4_turn_66 ?_
    refine lv_iload_n hx hb dX4_turn_69 rfl (lv_at hl 0 rfl) ?_
    refine lv_dup2_11 hx hb dX4_turn_70 rfl rfl ?_
    refine ma_running hx hb hw j hj hlj dX4_turn_71 ?_
    refine lv_iconst (v := 1) hx hb dX4_turn_72 (by decide) ?_
    refine lv_iadd hx hb dX4_turn_73 ?_
    refine ms_running hx hb hw j hj hlj dX4_turn_74 (fun H locs hw => ?_)
    refine lv_aload_n hx hb dX4_turn_75 rfl (lv_at hl 1 rfl) ?_
    refine mg_running hx hb hts hn4 hown hw (hts (.fieldLink RX4 29 "LeaderRowsModel" "running" "[I") (by decide +kernel)) dX4_turn_76 ?_
    refine lv_iload_n hx hb dX4_turn_79 rfl (lv_at hl 0 rfl) ?_
    refine ma_running hx hb hw j hj hlj dX4_turn_80 ?_
    refine lv_aload_n hx hb dX4_turn_81 rfl (lv_at hl 1 rfl) ?_
    refine mg_terms hx hb hts hn4 hown hw (hts (.fieldLink RX4 7 "LeaderRowsModel" "terms" "[I") (by decide +kernel)) dX4_turn_82 ?_
    refine lv_iconst (v := 3) hx hb dX4_turn_85 (by decide) ?_
    refine ma_terms hx hb hw 3 (by decide) rfl dX4_turn_86 ?_
    refine lv_icmp_lt (tgt := 135) hx hb dX4_turn_87 (by decide) (fun h3 => ?_) (fun h3 => ?_)
    · refine lv_aload_n hx hb dX4_turn_135 rfl (lv_at hl 1 rfl) ?_
      refine mg_nextTurn hx hb hts hn4 hown hw (hts (.fieldLink RX4 166 "LeaderRowsModel" "nextTurn" "I") (by decide +kernel)) dX4_turn_136 ?_
      refine lv_aload_n hx hb dX4_turn_139 rfl (lv_at hl 1 rfl) ?_
      refine mg_turns hx hb hts hn4 hown hw (hts (.fieldLink RX4 169 "LeaderRowsModel" "turns" "I") (by decide +kernel)) dX4_turn_140 ?_
      refine lv_icmp_ne (tgt := 151) hx hb dX4_turn_143 (by decide) (fun h4 => ?_) (fun h4 => ?_)
      · refine lv_aload_n hx hb dX4_turn_151 rfl (lv_at hl 1 rfl) ?_
        refine mg_turns hx hb hts hn4 hown hw (hts (.fieldLink RX4 169 "LeaderRowsModel" "turns" "I") (by decide +kernel)) dX4_turn_152 ?_
        refine lv_aload_n hx hb dX4_turn_155 rfl (lv_at hl 1 rfl) ?_
        refine mg_nextTurn hx hb hts hn4 hown hw (hts (.fieldLink RX4 166 "LeaderRowsModel" "nextTurn" "I") (by decide +kernel)) dX4_turn_156 ?_
        refine lv_isub hx hb dX4_turn_159 ?_
        exact ww_ri hx hb hr hlk hw dX4_turn_160 (left_e hxT) (mw_c (by simp only [if_pos h2, if_pos (show running j + 1 < terms 3 by simpa only [upd_s] using h3), if_pos (turn_n hxT hT h4), nI_1, upd_s, upd_upd, max_m, left_e hxT, upd_id]) rfl rfl (nI_1 x) rfl rfl rfl rfl rfl rfl rfl rfl rfl rfl (by simp only [if_pos h2, if_pos (show running j + 1 < terms 3 by simpa only [upd_s] using h3), if_pos (turn_n hxT hT h4), nI_1, upd_s, upd_upd, max_m, left_e hxT, upd_id]) (by simp only [if_pos h2, if_pos (show running j + 1 < terms 3 by simpa only [upd_s] using h3), if_pos (turn_n hxT hT h4), nI_1, upd_s, upd_upd, max_m, left_e hxT, upd_id]) (by simp only [if_pos h2, if_pos (show running j + 1 < terms 3 by simpa only [upd_s] using h3), if_pos (turn_n hxT hT h4), nI_1, upd_s, upd_upd, max_m, left_e hxT, upd_id]) (by simp only [if_pos h2, if_pos (show running j + 1 < terms 3 by simpa only [upd_s] using h3), if_pos (turn_n hxT hT h4), nI_1, upd_s, upd_upd, max_m, left_e hxT, upd_id]) rfl rfl rfl rfl rfl rfl rfl rfl rfl rfl rfl rfl rfl)
      · refine lv_aload_n hx hb dX4_turn_146 rfl (lv_at hl 1 rfl) ?_
        refine lv_iconst (v := 0) hx hb dX4_turn_147 (by decide) ?_
        refine mp_phase hx hb hts hn4 hown hw (hts (.fieldLink RX4 94 "LeaderRowsModel" "phase" "I") (by decide +kernel)) dX4_turn_148 (fun H locs hw => ?_)
        refine lv_aload_n hx hb dX4_turn_151 rfl (lv_at hl 1 rfl) ?_
        refine mg_turns hx hb hts hn4 hown hw (hts (.fieldLink RX4 169 "LeaderRowsModel" "turns" "I") (by decide +kernel)) dX4_turn_152 ?_
        refine lv_aload_n hx hb dX4_turn_155 rfl (lv_at hl 1 rfl) ?_
        refine mg_nextTurn hx hb hts hn4 hown hw (hts (.fieldLink RX4 166 "LeaderRowsModel" "nextTurn" "I") (by decide +kernel)) dX4_turn_156 ?_
        refine lv_isub hx hb dX4_turn_159 ?_
        exact ww_ri hx hb hr hlk hw dX4_turn_160 (left_e hxT) (mw_c (by simp only [if_pos h2, if_pos (show running j + 1 < terms 3 by simpa only [upd_s] using h3), if_neg (turn_e hxT hT h4), nI_1, upd_s, upd_upd, max_m, left_e hxT, upd_id]) rfl rfl (nI_1 x) rfl rfl rfl rfl rfl rfl rfl rfl rfl rfl (by simp only [if_pos h2, if_pos (show running j + 1 < terms 3 by simpa only [upd_s] using h3), if_neg (turn_e hxT hT h4), nI_1, upd_s, upd_upd, max_m, left_e hxT, upd_id]) (by simp only [if_pos h2, if_pos (show running j + 1 < terms 3 by simpa only [upd_s] using h3), if_neg (turn_e hxT hT h4), nI_1, upd_s, upd_upd, max_m, left_e hxT, upd_id]) (by simp only [if_pos h2, if_pos (show running j + 1 < terms 3 by simpa only [upd_s] using h3), if_neg (turn_e hxT hT h4), nI_1, upd_s, upd_upd, max_m, left_e hxT, upd_id]) (by simp only [if_pos h2, if_pos (show running j + 1 < terms 3 by simpa only [upd_s] using h3), if_neg (turn_e hxT hT h4), nI_1, upd_s, upd_upd, max_m, left_e hxT, upd_id]) rfl rfl rfl rfl rfl rfl rfl rfl rfl rfl rfl rfl rfl)
    · refine lv_aload_n hx hb dX4_turn_90 rfl (lv_at hl 1 rfl) ?_
      refine mg_epoch hx hb hts hn4 hown hw (hts (.fieldLink RX4 112 "LeaderRowsModel" "epoch" "I") (by decide +kernel)) dX4_turn_91 ?_
      refine lv_aload_n hx hb dX4_turn_94 rfl (lv_at hl 1 rfl) ?_
      refine mg_terms hx hb hts hn4 hown hw (hts (.fieldLink RX4 7 "LeaderRowsModel" "terms" "[I") (by decide +kernel)) dX4_turn_95 ?_
      refine lv_iconst (v := 2) hx hb dX4_turn_98 (by decide) ?_
      refine ma_terms hx hb hw 2 (by decide) rfl dX4_turn_99 ?_
      refine lv_iadd hx hb dX4_turn_100 ?_
      refine lv_istore_n (lv' := [(3, .int (epoch + (terms 2))), (2, .int (leads x)), (0, .ref (ad 0)), (1, .int done)]) hx hb dX4_turn_101 rfl hl (by decide) rfl (fun ls hl => ?_)
      refine lv_aload_n hx hb dX4_turn_102 rfl (lv_at hl 2 rfl) ?_
      refine mg_aside hx hb hts hn4 hown hw (hts (.fieldLink RX4 32 "LeaderRowsModel" "aside" "[I") (by decide +kernel)) dX4_turn_103 ?_
      refine lv_iload_n hx hb dX4_turn_106 rfl (lv_at hl 1 rfl) ?_
      refine lv_aload_n hx hb dX4_turn_107 rfl (lv_at hl 2 rfl) ?_
      refine mg_aside hx hb hts hn4 hown hw (hts (.fieldLink RX4 32 "LeaderRowsModel" "aside" "[I") (by decide +kernel)) dX4_turn_108 ?_
      refine lv_iload_n hx hb dX4_turn_111 rfl (lv_at hl 1 rfl) ?_
      refine ma_aside hx hb hw j hj hlj dX4_turn_112 ?_
      refine lv_iload_n hx hb dX4_turn_113 rfl (lv_at hl 0 rfl) ?_
      refine ww_joinI (rest := [.int (leads x), .ref (ad 8)]) 127 (if (aside j) ≤ (epoch + (terms 2)) then epoch + (terms 2) else aside j) (fun K5 => ?_) ?_
      · refine lv_icmp_le (tgt := 126) hx hb dX4_turn_114 (by decide) (fun h6 => ?_) (fun h6 => ?_)
        · refine lv_iload_n hx hb dX4_turn_126 rfl (lv_at hl 0 rfl) ?_
          exact ww_top (by rw [if_pos h6]) K5
        · refine lv_aload_n hx hb dX4_turn_117 rfl (lv_at hl 2 rfl) ?_
          refine mg_aside hx hb hts hn4 hown hw (hts (.fieldLink RX4 32 "LeaderRowsModel" "aside" "[I") (by decide +kernel)) dX4_turn_118 ?_
          refine lv_iload_n hx hb dX4_turn_121 rfl (lv_at hl 1 rfl) ?_
          refine ma_aside hx hb hw j hj hlj dX4_turn_122 ?_
          refine lv_goto (tgt := 127) hx hb dX4_turn_123 (by decide) ?_
          exact ww_top (by rw [if_neg h6]) K5
      refine ms_aside hx hb hw j hj hlj dX4_turn_127 (fun H locs hw => ?_)
      refine lv_aload_n hx hb dX4_turn_128 rfl (lv_at hl 2 rfl) ?_
      refine mg_running hx hb hts hn4 hown hw (hts (.fieldLink RX4 29 "LeaderRowsModel" "running" "[I") (by decide +kernel)) dX4_turn_129 ?_
      refine lv_iload_n hx hb dX4_turn_132 rfl (lv_at hl 1 rfl) ?_
      refine lv_iconst (v := 0) hx hb dX4_turn_133 (by decide) ?_
      refine ms_running hx hb hw j hj hlj dX4_turn_134 (fun H locs hw => ?_)
      refine lv_aload_n hx hb dX4_turn_135 rfl (lv_at hl 2 rfl) ?_
      refine mg_nextTurn hx hb hts hn4 hown hw (hts (.fieldLink RX4 166 "LeaderRowsModel" "nextTurn" "I") (by decide +kernel)) dX4_turn_136 ?_
      refine lv_aload_n hx hb dX4_turn_139 rfl (lv_at hl 2 rfl) ?_
      refine mg_turns hx hb hts hn4 hown hw (hts (.fieldLink RX4 169 "LeaderRowsModel" "turns" "I") (by decide +kernel)) dX4_turn_140 ?_
      refine lv_icmp_ne (tgt := 151) hx hb dX4_turn_143 (by decide) (fun h7 => ?_) (fun h7 => ?_)
      · refine lv_aload_n hx hb dX4_turn_151 rfl (lv_at hl 2 rfl) ?_
        refine mg_turns hx hb hts hn4 hown hw (hts (.fieldLink RX4 169 "LeaderRowsModel" "turns" "I") (by decide +kernel)) dX4_turn_152 ?_
        refine lv_aload_n hx hb dX4_turn_155 rfl (lv_at hl 2 rfl) ?_
        refine mg_nextTurn hx hb hts hn4 hown hw (hts (.fieldLink RX4 166 "LeaderRowsModel" "nextTurn" "I") (by decide +kernel)) dX4_turn_156 ?_
        refine lv_isub hx hb dX4_turn_159 ?_
        exact ww_ri hx hb hr hlk hw dX4_turn_160 (left_e hxT) (mw_c (by simp only [if_pos h2, if_neg (show ¬ running j + 1 < terms 3 by simpa only [upd_s] using h3), if_pos (turn_n hxT hT h7), nI_1, upd_s, upd_upd, max_m, left_e hxT, upd_id]) rfl rfl (nI_1 x) rfl rfl rfl rfl rfl rfl rfl rfl rfl rfl (by simp only [if_pos h2, if_neg (show ¬ running j + 1 < terms 3 by simpa only [upd_s] using h3), if_pos (turn_n hxT hT h7), nI_1, upd_s, upd_upd, max_m, left_e hxT, upd_id]) (by simp only [if_pos h2, if_neg (show ¬ running j + 1 < terms 3 by simpa only [upd_s] using h3), if_pos (turn_n hxT hT h7), nI_1, upd_s, upd_upd, max_m, left_e hxT, upd_id]) (by simp only [if_pos h2, if_neg (show ¬ running j + 1 < terms 3 by simpa only [upd_s] using h3), if_pos (turn_n hxT hT h7), nI_1, upd_s, upd_upd, max_m, left_e hxT, upd_id]) (by simp only [if_pos h2, if_neg (show ¬ running j + 1 < terms 3 by simpa only [upd_s] using h3), if_pos (turn_n hxT hT h7), nI_1, upd_s, upd_upd, max_m, left_e hxT, upd_id]) rfl rfl rfl rfl rfl rfl rfl rfl rfl rfl rfl rfl rfl)
      · refine lv_aload_n hx hb dX4_turn_146 rfl (lv_at hl 2 rfl) ?_
        refine lv_iconst (v := 0) hx hb dX4_turn_147 (by decide) ?_
        refine mp_phase hx hb hts hn4 hown hw (hts (.fieldLink RX4 94 "LeaderRowsModel" "phase" "I") (by decide +kernel)) dX4_turn_148 (fun H locs hw => ?_)
        refine lv_aload_n hx hb dX4_turn_151 rfl (lv_at hl 2 rfl) ?_
        refine mg_turns hx hb hts hn4 hown hw (hts (.fieldLink RX4 169 "LeaderRowsModel" "turns" "I") (by decide +kernel)) dX4_turn_152 ?_
        refine lv_aload_n hx hb dX4_turn_155 rfl (lv_at hl 2 rfl) ?_
        refine mg_nextTurn hx hb hts hn4 hown hw (hts (.fieldLink RX4 166 "LeaderRowsModel" "nextTurn" "I") (by decide +kernel)) dX4_turn_156 ?_
        refine lv_isub hx hb dX4_turn_159 ?_
        exact ww_ri hx hb hr hlk hw dX4_turn_160 (left_e hxT) (mw_c (by simp only [if_pos h2, if_neg (show ¬ running j + 1 < terms 3 by simpa only [upd_s] using h3), if_neg (turn_e hxT hT h7), nI_1, upd_s, upd_upd, max_m, left_e hxT, upd_id]) rfl rfl (nI_1 x) rfl rfl rfl rfl rfl rfl rfl rfl rfl rfl (by simp only [if_pos h2, if_neg (show ¬ running j + 1 < terms 3 by simpa only [upd_s] using h3), if_neg (turn_e hxT hT h7), nI_1, upd_s, upd_upd, max_m, left_e hxT, upd_id]) (by simp only [if_pos h2, if_neg (show ¬ running j + 1 < terms 3 by simpa only [upd_s] using h3), if_neg (turn_e hxT hT h7), nI_1, upd_s, upd_upd, max_m, left_e hxT, upd_id]) (by simp only [if_pos h2, if_neg (show ¬ running j + 1 < terms 3 by simpa only [upd_s] using h3), if_neg (turn_e hxT hT h7), nI_1, upd_s, upd_upd, max_m, left_e hxT, upd_id]) (by simp only [if_pos h2, if_neg (show ¬ running j + 1 < terms 3 by simpa only [upd_s] using h3), if_neg (turn_e hxT hT h7), nI_1, upd_s, upd_upd, max_m, left_e hxT, upd_id]) rfl rfl rfl rfl rfl rfl rfl rfl rfl rfl rfl rfl rfl)
  · refine lv_aload_n hx hb dX4_turn_35 rfl (lv_at hl 1 rfl) ?_
    refine mg_led hx hb hts hn4 hown hw (hts (.fieldLink RX4 23 "LeaderRowsModel" "led" "[I") (by decide +kernel)) dX4_turn_36 ?_
    refine lv_iload_n hx hb dX4_turn_39 rfl (lv_at hl 0 rfl) ?_
    refine lv_dup2_11 hx hb dX4_turn_40 rfl rfl ?_
    refine ma_led hx hb hw j hj hlj dX4_turn_41 ?_
    refine lv_iconst (v := 1) hx hb dX4_turn_42 (by decide) ?_
    refine lv_iadd hx hb dX4_turn_43 ?_
    refine ms_led hx hb hw j hj hlj dX4_turn_44 (fun H locs hw => ?_)
    refine lv_aload_n hx hb dX4_turn_45 rfl (lv_at hl 1 rfl) ?_
    refine mg_running hx hb hts hn4 hown hw (hts (.fieldLink RX4 29 "LeaderRowsModel" "running" "[I") (by decide +kernel)) dX4_turn_46 ?_
    refine lv_iload_n hx hb dX4_turn_49 rfl (lv_at hl 0 rfl) ?_
    refine lv_iconst (v := 0) hx hb dX4_turn_50 (by decide) ?_
    refine ms_running hx hb hw j hj hlj dX4_turn_51 (fun H locs hw => ?_)
    refine lv_goto (tgt := 135) hx hb dX4_turn_52 (by decide) ?_
    refine lv_aload_n hx hb dX4_turn_135 rfl (lv_at hl 1 rfl) ?_
    refine mg_nextTurn hx hb hts hn4 hown hw (hts (.fieldLink RX4 166 "LeaderRowsModel" "nextTurn" "I") (by decide +kernel)) dX4_turn_136 ?_
    refine lv_aload_n hx hb dX4_turn_139 rfl (lv_at hl 1 rfl) ?_
    refine mg_turns hx hb hts hn4 hown hw (hts (.fieldLink RX4 169 "LeaderRowsModel" "turns" "I") (by decide +kernel)) dX4_turn_140 ?_
    refine lv_icmp_ne (tgt := 151) hx hb dX4_turn_143 (by decide) (fun h8 => ?_) (fun h8 => ?_)
    · refine lv_aload_n hx hb dX4_turn_151 rfl (lv_at hl 1 rfl) ?_
      refine mg_turns hx hb hts hn4 hown hw (hts (.fieldLink RX4 169 "LeaderRowsModel" "turns" "I") (by decide +kernel)) dX4_turn_152 ?_
      refine lv_aload_n hx hb dX4_turn_155 rfl (lv_at hl 1 rfl) ?_
      refine mg_nextTurn hx hb hts hn4 hown hw (hts (.fieldLink RX4 166 "LeaderRowsModel" "nextTurn" "I") (by decide +kernel)) dX4_turn_156 ?_
      refine lv_isub hx hb dX4_turn_159 ?_
      exact ww_ri hx hb hr hlk hw dX4_turn_160 (left_e hxT) (mw_c (by simp only [if_neg h2, if_pos (turn_n hxT hT h8), nI_1, upd_s, upd_upd, max_m, left_e hxT, upd_id]) rfl rfl (nI_1 x) rfl rfl rfl rfl rfl rfl rfl rfl rfl rfl (by simp only [if_neg h2, if_pos (turn_n hxT hT h8), nI_1, upd_s, upd_upd, max_m, left_e hxT, upd_id]) (by simp only [if_neg h2, if_pos (turn_n hxT hT h8), nI_1, upd_s, upd_upd, max_m, left_e hxT, upd_id]) (by simp only [if_neg h2, if_pos (turn_n hxT hT h8), nI_1, upd_s, upd_upd, max_m, left_e hxT, upd_id]) (by simp only [if_neg h2, if_pos (turn_n hxT hT h8), nI_1, upd_s, upd_upd, max_m, left_e hxT, upd_id]) rfl rfl rfl rfl rfl rfl rfl rfl rfl rfl rfl rfl rfl)
    · refine lv_aload_n hx hb dX4_turn_146 rfl (lv_at hl 1 rfl) ?_
      refine lv_iconst (v := 0) hx hb dX4_turn_147 (by decide) ?_
      refine mp_phase hx hb hts hn4 hown hw (hts (.fieldLink RX4 94 "LeaderRowsModel" "phase" "I") (by decide +kernel)) dX4_turn_148 (fun H locs hw => ?_)
      refine lv_aload_n hx hb dX4_turn_151 rfl (lv_at hl 1 rfl) ?_
      refine mg_turns hx hb hts hn4 hown hw (hts (.fieldLink RX4 169 "LeaderRowsModel" "turns" "I") (by decide +kernel)) dX4_turn_152 ?_
      refine lv_aload_n hx hb dX4_turn_155 rfl (lv_at hl 1 rfl) ?_
      refine mg_nextTurn hx hb hts hn4 hown hw (hts (.fieldLink RX4 166 "LeaderRowsModel" "nextTurn" "I") (by decide +kernel)) dX4_turn_156 ?_
      refine lv_isub hx hb dX4_turn_159 ?_
      exact ww_ri hx hb hr hlk hw dX4_turn_160 (left_e hxT) (mw_c (by simp only [if_neg h2, if_neg (turn_e hxT hT h8), nI_1, upd_s, upd_upd, max_m, left_e hxT, upd_id]) rfl rfl (nI_1 x) rfl rfl rfl rfl rfl rfl rfl rfl rfl rfl (by simp only [if_neg h2, if_neg (turn_e hxT hT h8), nI_1, upd_s, upd_upd, max_m, left_e hxT, upd_id]) (by simp only [if_neg h2, if_neg (turn_e hxT hT h8), nI_1, upd_s, upd_upd, max_m, left_e hxT, upd_id]) (by simp only [if_neg h2, if_neg (turn_e hxT hT h8), nI_1, upd_s, upd_upd, max_m, left_e hxT, upd_id]) (by simp only [if_neg h2, if_neg (turn_e hxT hT h8), nI_1, upd_s, upd_upd, max_m, left_e hxT, upd_id]) rfl rfl rfl rfl rfl rfl rfl rfl rfl rfl rfl rfl rfl)
