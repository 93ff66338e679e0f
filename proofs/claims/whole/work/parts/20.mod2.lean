set_option maxHeartbeats 4000000 in
set_option maxRecDepth 100000 in
theorem k_X4_prepare (l : Launch) {D : va_G} {ad : Nat → Nat} {cy : Nat → ClassId} {phase epoch turns nextTurn all claims sum : Int32} {seed pot rowSeed stream : Int64} {terms weight wait led missed running aside isMem hasCom hasOp leads draws claim elects waits rowLeads rowDraws : Nat → Int32} {deposit committed opened : Nat → Int64} (but : Int32) (number : Int64) (opens : Int32)  : ww_MI l D (mw_t cy) yX4_prepare wsX4_prepare (ww_rm 2 45) [.ref (ad 0), .int but, .long number, .int opens] (mw_w ad cy phase epoch turns nextTurn all claims sum seed pot rowSeed stream terms weight wait led missed running aside isMem hasCom hasOp leads draws claim elects waits rowLeads rowDraws deposit committed opened) (mw_w ad cy phase epoch turns nextTurn all claims (g_sum (g_w (e_m but opens isMem hasCom hasOp) weight) 12) seed pot (g_sd (h_m but opens hasOp) (d_m but number opened) (v_m but number opened) (g_s0 seed epoch) 12) stream terms weight wait led missed running aside isMem hasCom hasOp leads draws claim (mx 12 (e_m but opens isMem hasCom hasOp) elects) (mx 12 wait waits) rowLeads rowDraws deposit committed opened) (f_cn (e_m but opens isMem hasCom hasOp) 12) := by
  refine ww_MI_mk .int (cc := cX4_prepare) (maxL := 10) (by decide) rfl (Nat.le_of_ble_eq_true rfl) ?_
  intro p e s m below meth c A ls hx hb hr hts hown hlk hml hA hw hl
  have hown : s.vm.findClass RX4 = some m.cls := hown
  have hl : lv_has ls 10 [(0, .ref (ad 0)), (1, .int but), (2, .long number), (4, .int opens)] := hl
  have hn4 : ∀ w ∈ wsX40, w ∈ wsX4_prepare := by decide +kernel
  refine lv_iconst (v := 0) hx hb dX4_prepare_0 (by decide) ?_
  refine lv_istore (lv' := [(5, .int 0), (0, .ref (ad 0)), (1, .int but), (2, .long number), (4, .int opens)]) hx hb dX4_prepare_1 hl (by decide) rfl (fun ls hl => ?_)
  refine lv_aload_n hx hb dX4_prepare_3 rfl (lv_at hl 1 rfl) ?_
  refine lv_iconst (v := 0) hx hb dX4_prepare_4 (by decide) ?_
  refine mp_sum hx hb hts hn4 hown hw (hts (.fieldLink RX4 123 "LeaderRowsModel" "sum" "I") (by decide +kernel)) dX4_prepare_5 (fun H locs hw => ?_)
  refine lv_aload_n hx hb dX4_prepare_8 rfl (lv_at hl 1 rfl) ?_
  refine lv_aload_n hx hb dX4_prepare_9 rfl (lv_at hl 1 rfl) ?_
  refine mg_seed hx hb hts hn4 hown hw (hts (.fieldLink RX4 126 "LeaderRowsModel" "seed" "J") (by decide +kernel)) dX4_prepare_10 ?_
  refine lv_aload_n hx hb dX4_prepare_13 rfl (lv_at hl 1 rfl) ?_
  refine mg_epoch hx hb hts hn4 hown hw (hts (.fieldLink RX4 112 "LeaderRowsModel" "epoch" "I") (by decide +kernel)) dX4_prepare_14 ?_
  refine lv_i2l hx hb dX4_prepare_17 rfl ?_
  refine lv_ldc2 (v := (-7046029254386353131)) hx hb hown (hts (.constantLong RX4 86 (-7046029254386353131)) (by decide +kernel)) dX4_prepare_18 ?_
  refine lv_lmul hx hb dX4_prepare_21 ?_
  refine lv_ladd hx hb dX4_prepare_22 ?_
  refine ww_cSL (As := [.long (seed + ((epoch.toInt64) * (-7046029254386353131)))]) (rest := [.ref (ad 0)]) hx hb hml hown hts hl.1 (k_X4_mix l (seed + ((epoch.toInt64) * (-7046029254386353131)))) (va_cwS 1 hts gX4_prepare_X4_mix rfl rfl rfl (by decide +kernel) ⟨Nat.le_of_ble_eq_true rfl, Nat.le_of_ble_eq_true rfl⟩) rfl rfl (Nat.le_of_ble_eq_true rfl) ⟨Nat.zero_le _, Nat.zero_le _⟩ dX4_prepare_23 ?_
  refine mp_rowSeed hx hb hts hn4 hown hw (hts (.fieldLink RX4 130 "LeaderRowsModel" "rowSeed" "J") (by decide +kernel)) dX4_prepare_26 (fun H locs hw => ?_)
  refine lv_iconst (v := 0) hx hb dX4_prepare_29 (by decide) ?_
  refine lv_istore (lv' := [(6, .int 0), (5, .int 0), (0, .ref (ad 0)), (1, .int but), (2, .long number), (4, .int opens)]) hx hb dX4_prepare_30 hl (by decide) rfl (fun ls hl => ?_)
  have L32 : ∀ (L32n k : Nat), k + L32n = 12 → ∀ (H : Heap) (locs : List Loc) (ls : Array Slot), ww_W D (mw_t cy) A s (mw_w ad cy phase epoch turns nextTurn all claims (g_sum (g_w (e_m but opens isMem hasCom hasOp) weight) k) seed pot (g_sd (h_m but opens hasOp) (d_m but number opened) (v_m but number opened) (g_s0 seed epoch) k) stream terms weight wait led missed running aside isMem hasCom hasOp leads draws claim (mx k (e_m but opens isMem hasCom hasOp) elects) (mx k wait waits) rowLeads rowDraws deposit committed opened) H locs → lv_has ls 10 [(0, .ref (ad 0)), (1, .int but), (2, .long number), (4, .int opens), (5, .int (f_cn (e_m but opens isMem hasCom hasOp) k)), (6, .int (nI k))] → W p l e (ww_rm 2 45) s m ([.ref (ad 0), .int but, .long number, .int opens] : List Value).toArray below meth c H locs 0 0 (MQ below (ww_Qi D (mw_t cy) A (mw_w ad cy phase epoch turns nextTurn all claims (g_sum (g_w (e_m but opens isMem hasCom hasOp) weight) 12) seed pot (g_sd (h_m but opens hasOp) (d_m but number opened) (v_m but number opened) (g_s0 seed epoch) 12) stream terms weight wait led missed running aside isMem hasCom hasOp leads draws claim (mx 12 (e_m but opens isMem hasCom hasOp) elects) (mx 12 wait waits) rowLeads rowDraws deposit committed opened) (f_cn (e_m but opens isMem hasCom hasOp) 12)) ([.ref (ad 0), .int but, .long number, .int opens] : List Value).toArray s 0 0 A) (F0 m 32 ls []) := by
    intro L32n
    induction L32n with
    | zero =>
      intro k hkk  H locs ls hw hl
      obtain rfl : 12 = k := by omega
      refine lv_iload hx hb dX4_prepare_32 (lv_at hl 5 rfl) ?_
      refine lv_bipush (v := 12) hx hb dX4_prepare_34 (by decide) ?_
      refine lv_icmp_ge (tgt := 191) hx hb dX4_prepare_36 (by decide) (fun _ => ?_) (fun h1 => absurd (by decide) h1)
      refine lv_iload hx hb dX4_prepare_191 (lv_at hl 4 rfl) ?_
      exact ww_ri hx hb hr hlk hw dX4_prepare_193 rfl rfl
    | succ L32n ihL32 =>
      intro k hkk  H locs ls hw hl
      have hkkl : k < 12 := by omega
      refine lv_iload hx hb dX4_prepare_32 (lv_at hl 5 rfl) ?_
      refine lv_bipush (v := 12) hx hb dX4_prepare_34 (by decide) ?_
      refine lv_icmp_ge (tgt := 191) hx hb dX4_prepare_36 (by decide) (fun h2 => absurd h2 (nI_nge 12 rfl hkkl (by decide))) (fun _ => ?_)
      refine lv_iload hx hb dX4_prepare_39 (lv_at hl 5 rfl) ?_
      refine lv_iload_n hx hb dX4_prepare_41 rfl (lv_at hl 1 rfl) ?_
      refine ww_joinI (rest := []) 57 (if (nI k) = but then opens else hasOp k) (fun K3 => ?_) ?_
      · refine lv_icmp_ne (tgt := 50) hx hb dX4_prepare_42 (by decide) (fun h4 => ?_) (fun h4 => ?_)
        · refine lv_aload_n hx hb dX4_prepare_50 rfl (lv_at hl 0 rfl) ?_
          refine mg_hasOpened hx hb hts hn4 hown hw (hts (.fieldLink RX4 42 "LeaderRowsModel" "hasOpened" "[Z") (by decide +kernel)) dX4_prepare_51 ?_
          refine lv_iload hx hb dX4_prepare_54 (lv_at hl 5 rfl) ?_
          refine ma_hasOp hx hb hw k (by omega) rfl dX4_prepare_56 ?_
          exact ww_top (by rw [if_neg h4]) K3
        · refine lv_iload hx hb dX4_prepare_45 (lv_at hl 3 rfl) ?_
          refine lv_goto (tgt := 57) hx hb dX4_prepare_47 (by decide) ?_
          exact ww_top (by rw [if_pos h4]) K3
      refine lv_istore (lv' := [(7, .int (if (nI k) = but then opens else hasOp k)), (0, .ref (ad 0)), (1, .int but), (2, .long number), (4, .int opens), (5, .int (f_cn (e_m but opens isMem hasCom hasOp) k)), (6, .int (nI k))]) hx hb dX4_prepare_57 hl (by decide) rfl (fun ls hl => ?_)
      refine lv_aload_n hx hb dX4_prepare_59 rfl (lv_at hl 1 rfl) ?_
      refine mg_elects hx hb hts hn4 hown hw (hts (.fieldLink RX4 60 "LeaderRowsModel" "elects" "[Z") (by decide +kernel)) dX4_prepare_60 ?_
      refine lv_iload hx hb dX4_prepare_63 (lv_at hl 6 rfl) ?_
      refine lv_aload_n hx hb dX4_prepare_65 rfl (lv_at hl 1 rfl) ?_
      refine mg_isMember hx hb hts hn4 hown hw (hts (.fieldLink RX4 35 "LeaderRowsModel" "isMember" "[Z") (by decide +kernel)) dX4_prepare_66 ?_
      refine lv_iload hx hb dX4_prepare_69 (lv_at hl 6 rfl) ?_
      refine ma_isMem hx hb hw k (by omega) rfl dX4_prepare_71 ?_
      refine ww_joinI (rest := [.int (nI k), .ref (ad 17)]) 95 (if (isMem k) = 0 then 0 else if ((if (nI k) = but then opens else hasOp k) : Int32) = 0 then if (hasCom k) = 0 then 1 else 0 else 1) (fun K5 => ?_) ?_
      · refine lv_if_eq (tgt := 94) hx hb dX4_prepare_72 (by decide) (fun h6 => ?_) (fun h6 => ?_)
        · refine lv_iconst (v := 0) hx hb dX4_prepare_94 (by decide) ?_
          exact ww_top (by rw [if_pos h6]) K5
        · refine lv_iload hx hb dX4_prepare_75 (lv_at hl 0 rfl) ?_
          refine lv_if_ne (tgt := 90) hx hb dX4_prepare_77 (by decide) (fun h7 => ?_) (fun h7 => ?_)
          · refine lv_iconst (v := 1) hx hb dX4_prepare_90 (by decide) ?_
            refine lv_goto (tgt := 95) hx hb dX4_prepare_91 (by decide) ?_
            exact ww_top (by rw [if_neg h6, if_neg h7]) K5
          · refine lv_aload_n hx hb dX4_prepare_80 rfl (lv_at hl 1 rfl) ?_
            refine mg_hasCommitted hx hb hts hn4 hown hw (hts (.fieldLink RX4 39 "LeaderRowsModel" "hasCommitted" "[Z") (by decide +kernel)) dX4_prepare_81 ?_
            refine lv_iload hx hb dX4_prepare_84 (lv_at hl 6 rfl) ?_
            refine ma_hasCom hx hb hw k (by omega) rfl dX4_prepare_86 ?_
            refine lv_if_ne (tgt := 94) hx hb dX4_prepare_87 (by decide) (fun h8 => ?_) (fun h8 => ?_)
            · refine lv_iconst (v := 0) hx hb dX4_prepare_94 (by decide) ?_
              exact ww_top (by rw [if_neg h6, if_pos h7, if_neg h8]) K5
            · refine lv_iconst (v := 1) hx hb dX4_prepare_90 (by decide) ?_
              refine lv_goto (tgt := 95) hx hb dX4_prepare_91 (by decide) ?_
              exact ww_top (by rw [if_neg h6, if_pos h7, if_pos h8]) K5
      refine ms_elects hx hb hw k (by omega) rfl (by (repeat' split) <;> rfl) dX4_prepare_95 (fun H locs hw => ?_)
      refine lv_aload_n hx hb dX4_prepare_96 rfl (lv_at hl 1 rfl) ?_
      refine mg_waits hx hb hts hn4 hown hw (hts (.fieldLink RX4 63 "LeaderRowsModel" "waits" "[I") (by decide +kernel)) dX4_prepare_97 ?_
      refine lv_iload hx hb dX4_prepare_100 (lv_at hl 6 rfl) ?_
      refine lv_aload_n hx hb dX4_prepare_102 rfl (lv_at hl 1 rfl) ?_
      refine mg_wait hx hb hts hn4 hown hw (hts (.fieldLink RX4 20 "LeaderRowsModel" "wait" "[I") (by decide +kernel)) dX4_prepare_103 ?_
      refine lv_iload hx hb dX4_prepare_106 (lv_at hl 6 rfl) ?_
      refine ma_wait hx hb hw k (by omega) rfl dX4_prepare_108 ?_
      refine ms_waits hx hb hw k (by omega) rfl dX4_prepare_109 (fun H locs hw => ?_)
      refine lv_iload hx hb dX4_prepare_110 (lv_at hl 0 rfl) ?_
      refine lv_if_eq (tgt := 156) hx hb dX4_prepare_112 (by decide) (fun h9 => ?_) (fun h9 => ?_)
      · refine lv_aload_n hx hb dX4_prepare_156 rfl (lv_at hl 1 rfl) ?_
        refine mg_elects hx hb hts hn4 hown hw (hts (.fieldLink RX4 60 "LeaderRowsModel" "elects" "[Z") (by decide +kernel)) dX4_prepare_157 ?_
        refine lv_iload hx hb dX4_prepare_160 (lv_at hl 6 rfl) ?_
        refine ma_elects hx hb hw k (by omega) rfl dX4_prepare_162 ?_
        refine lv_if_eq (tgt := 185) hx hb dX4_prepare_163 (by decide) (fun h10 => ?_) (fun h10 => ?_)
        · refine lv_iinc (v := nI (k + 1)) (lv' := [(6, .int (nI (k + 1))), (7, .int (if (nI k) = but then opens else hasOp k)), (0, .ref (ad 0)), (1, .int but), (2, .long number), (4, .int opens), (5, .int (f_cn (e_m but opens isMem hasCom hasOp) k))]) hx hb dX4_prepare_185 hl (k := 6) rfl (nI_1 k) (by decide) rfl (fun ls hl => ?_)
          refine lv_goto (tgt := 32) hx hb dX4_prepare_188 (by decide) ?_
          have q11 : (f_cn (e_m but opens isMem hasCom hasOp) k) = f_cn (e_m but opens isMem hasCom hasOp) (k + 1) := by first | exact cn_p (ix_e h10 rfl) | exact cn_n (ix_n h10 rfl)
          have hl9 : lv_has ls 10 [(0, .ref (ad 0)), (1, .int but), (2, .long number), (4, .int opens), (5, .int (f_cn (e_m but opens isMem hasCom hasOp) (k + 1))), (6, .int (nI (k + 1)))] := by rw [← q11]; exact lv_sub hl [2, 3, 4, 5, 6, 0] rfl
          exact ihL32 (k + 1) (by omega)  _ _ ls ((mw_c rfl rfl rfl rfl rfl rfl (by first | exact e_mS (ix_e h10 rfl) | exact e_mT (ix_n h10 rfl)) rfl rfl (by first | exact sd_p (has := (h_m but opens hasOp)) h9 | exact sd_n (has := (h_m but opens hasOp)) (dg := (d_m but number opened)) (vv := (v_m but number opened)) h9) rfl rfl rfl rfl rfl rfl rfl rfl rfl rfl rfl rfl rfl rfl (mx_up rfl) (mx_up rfl) rfl rfl rfl rfl rfl : mw_w ad cy phase epoch turns nextTurn all claims (g_sum (g_w (e_m but opens isMem hasCom hasOp) weight) k) seed pot (g_sd (h_m but opens hasOp) (d_m but number opened) (v_m but number opened) (g_s0 seed epoch) k) stream terms weight wait led missed running aside isMem hasCom hasOp leads draws claim (upd (mx k (e_m but opens isMem hasCom hasOp) elects) k (if (isMem k) = 0 then 0 else if ((if (nI k) = but then opens else hasOp k) : Int32) = 0 then if (hasCom k) = 0 then 1 else 0 else 1)) (upd (mx k wait waits) k (wait k)) rowLeads rowDraws deposit committed opened = mw_w ad cy phase epoch turns nextTurn all claims (g_sum (g_w (e_m but opens isMem hasCom hasOp) weight) (k + 1)) seed pot (g_sd (h_m but opens hasOp) (d_m but number opened) (v_m but number opened) (g_s0 seed epoch) (k + 1)) stream terms weight wait led missed running aside isMem hasCom hasOp leads draws claim (mx (k + 1) (e_m but opens isMem hasCom hasOp) elects) (mx (k + 1) wait waits) rowLeads rowDraws deposit committed opened) ▸ hw) hl9
        · refine lv_iinc (v := (f_cn (e_m but opens isMem hasCom hasOp) k) + 1) (lv' := [(5, .int ((f_cn (e_m but opens isMem hasCom hasOp) k) + 1)), (7, .int (if (nI k) = but then opens else hasOp k)), (0, .ref (ad 0)), (1, .int but), (2, .long number), (4, .int opens), (6, .int (nI k))]) hx hb dX4_prepare_166 hl (k := 5) rfl rfl (by decide) rfl (fun ls hl => ?_)
          refine lv_aload_n hx hb dX4_prepare_169 rfl (lv_at hl 2 rfl) ?_
          refine lv_dup hx hb dX4_prepare_170 rfl ?_
          refine mg_sum hx hb hts hn4 hown hw (hts (.fieldLink RX4 123 "LeaderRowsModel" "sum" "I") (by decide +kernel)) dX4_prepare_171 ?_
          refine lv_aload_n hx hb dX4_prepare_174 rfl (lv_at hl 2 rfl) ?_
          refine mg_weight hx hb hts hn4 hown hw (hts (.fieldLink RX4 13 "LeaderRowsModel" "weight" "[I") (by decide +kernel)) dX4_prepare_175 ?_
          refine lv_iload hx hb dX4_prepare_178 (lv_at hl 6 rfl) ?_
          refine ma_weight hx hb hw k (by omega) rfl dX4_prepare_180 ?_
          refine lv_iadd hx hb dX4_prepare_181 ?_
          refine mp_sum hx hb hts hn4 hown hw (hts (.fieldLink RX4 123 "LeaderRowsModel" "sum" "I") (by decide +kernel)) dX4_prepare_182 (fun H locs hw => ?_)
          refine lv_iinc (v := nI (k + 1)) (lv' := [(6, .int (nI (k + 1))), (5, .int ((f_cn (e_m but opens isMem hasCom hasOp) k) + 1)), (7, .int (if (nI k) = but then opens else hasOp k)), (0, .ref (ad 0)), (1, .int but), (2, .long number), (4, .int opens)]) hx hb dX4_prepare_185 hl (k := 6) rfl (nI_1 k) (by decide) rfl (fun ls hl => ?_)
          refine lv_goto (tgt := 32) hx hb dX4_prepare_188 (by decide) ?_
          have q12 : ((f_cn (e_m but opens isMem hasCom hasOp) k) + 1) = f_cn (e_m but opens isMem hasCom hasOp) (k + 1) := by first | exact cn_p (ix_e h10 rfl) | exact cn_n (ix_n h10 rfl)
          have hl9 : lv_has ls 10 [(0, .ref (ad 0)), (1, .int but), (2, .long number), (4, .int opens), (5, .int (f_cn (e_m but opens isMem hasCom hasOp) (k + 1))), (6, .int (nI (k + 1)))] := by rw [← q12]; exact lv_sub hl [3, 4, 5, 6, 1, 0] rfl
          exact ihL32 (k + 1) (by omega)  _ _ ls ((mw_c rfl rfl rfl rfl rfl rfl (by first | exact e_mS (ix_e h10 rfl) | exact e_mT (ix_n h10 rfl)) rfl rfl (by first | exact sd_p (has := (h_m but opens hasOp)) h9 | exact sd_n (has := (h_m but opens hasOp)) (dg := (d_m but number opened)) (vv := (v_m but number opened)) h9) rfl rfl rfl rfl rfl rfl rfl rfl rfl rfl rfl rfl rfl rfl (mx_up rfl) (mx_up rfl) rfl rfl rfl rfl rfl : mw_w ad cy phase epoch turns nextTurn all claims ((g_sum (g_w (e_m but opens isMem hasCom hasOp) weight) k) + (weight k)) seed pot (g_sd (h_m but opens hasOp) (d_m but number opened) (v_m but number opened) (g_s0 seed epoch) k) stream terms weight wait led missed running aside isMem hasCom hasOp leads draws claim (upd (mx k (e_m but opens isMem hasCom hasOp) elects) k (if (isMem k) = 0 then 0 else if ((if (nI k) = but then opens else hasOp k) : Int32) = 0 then if (hasCom k) = 0 then 1 else 0 else 1)) (upd (mx k wait waits) k (wait k)) rowLeads rowDraws deposit committed opened = mw_w ad cy phase epoch turns nextTurn all claims (g_sum (g_w (e_m but opens isMem hasCom hasOp) weight) (k + 1)) seed pot (g_sd (h_m but opens hasOp) (d_m but number opened) (v_m but number opened) (g_s0 seed epoch) (k + 1)) stream terms weight wait led missed running aside isMem hasCom hasOp leads draws claim (mx (k + 1) (e_m but opens isMem hasCom hasOp) elects) (mx (k + 1) wait waits) rowLeads rowDraws deposit committed opened) ▸ hw) hl9
      · refine lv_iload hx hb dX4_prepare_115 (lv_at hl 6 rfl) ?_
        refine lv_iload_n hx hb dX4_prepare_117 rfl (lv_at hl 2 rfl) ?_
        refine ww_joinL (rest := []) 132 (if (nI k) = but then number else opened k) (fun K13 => ?_) ?_
        · refine lv_icmp_ne (tgt := 125) hx hb dX4_prepare_118 (by decide) (fun h14 => ?_) (fun h14 => ?_)
          · refine lv_aload_n hx hb dX4_prepare_125 rfl (lv_at hl 1 rfl) ?_
            refine mg_opened hx hb hts hn4 hown hw (hts (.fieldLink RX4 48 "LeaderRowsModel" "opened" "[J") (by decide +kernel)) dX4_prepare_126 ?_
            refine lv_iload hx hb dX4_prepare_129 (lv_at hl 6 rfl) ?_
            refine ma_opened hx hb hw k (by omega) rfl dX4_prepare_131 ?_
            exact ww_topl (by rw [if_neg h14]) K13
          · refine lv_lload_n hx hb dX4_prepare_121 rfl (lv_at hl 3 rfl) ?_
            refine lv_goto (tgt := 132) hx hb dX4_prepare_122 (by decide) ?_
            exact ww_topl (by rw [if_pos h14]) K13
        refine lv_lstore (lv' := [(8, .long (if (nI k) = but then number else opened k)), (7, .int (if (nI k) = but then opens else hasOp k)), (0, .ref (ad 0)), (1, .int but), (2, .long number), (4, .int opens), (5, .int (f_cn (e_m but opens isMem hasCom hasOp) k)), (6, .int (nI k))]) hx hb dX4_prepare_132 hl (by decide) rfl (fun ls hl => ?_)
        refine lv_aload_n hx hb dX4_prepare_134 rfl (lv_at hl 2 rfl) ?_
        refine lv_aload_n hx hb dX4_prepare_135 rfl (lv_at hl 2 rfl) ?_
        refine mg_rowSeed hx hb hts hn4 hown hw (hts (.fieldLink RX4 130 "LeaderRowsModel" "rowSeed" "J") (by decide +kernel)) dX4_prepare_136 ?_
        refine lv_iload hx hb dX4_prepare_139 (lv_at hl 7 rfl) ?_
        refine lv_lload hx hb dX4_prepare_141 (lv_at hl 0 rfl) ?_
        refine ww_cSL (As := [.int (nI k), .long (if (nI k) = but then number else opened k)]) (rest := [.long (g_sd (h_m but opens hasOp) (d_m but number opened) (v_m but number opened) (g_s0 seed epoch) k), .ref (ad 0)]) hx hb hml hown hts hl.1 (k_X4_digestOf l (nI k) (if (nI k) = but then number else opened k)) (va_cwS 2 hts gX4_prepare_X4_digestOf rfl rfl rfl (by decide +kernel) ⟨Nat.le_of_ble_eq_true rfl, Nat.le_of_ble_eq_true rfl⟩) rfl rfl (Nat.le_of_ble_eq_true rfl) ⟨Nat.zero_le _, Nat.zero_le _⟩ dX4_prepare_143 ?_
        refine lv_lxor hx hb dX4_prepare_146 ?_
        refine lv_lload hx hb dX4_prepare_147 (lv_at hl 0 rfl) ?_
        refine lv_lxor hx hb dX4_prepare_149 ?_
        refine ww_cSL (As := [.long (((g_sd (h_m but opens hasOp) (d_m but number opened) (v_m but number opened) (g_s0 seed epoch) k) ^^^ (f_dig (nI k) (if (nI k) = but then number else opened k))) ^^^ (if (nI k) = but then number else opened k))]) (rest := [.ref (ad 0)]) hx hb hml hown hts hl.1 (k_X4_mix l (((g_sd (h_m but opens hasOp) (d_m but number opened) (v_m but number opened) (g_s0 seed epoch) k) ^^^ (f_dig (nI k) (if (nI k) = but then number else opened k))) ^^^ (if (nI k) = but then number else opened k))) (va_cwS 1 hts gX4_prepare_X4_mix rfl rfl rfl (by decide +kernel) ⟨Nat.le_of_ble_eq_true rfl, Nat.le_of_ble_eq_true rfl⟩) rfl rfl (Nat.le_of_ble_eq_true rfl) ⟨Nat.zero_le _, Nat.zero_le _⟩ dX4_prepare_150 ?_
        refine mp_rowSeed hx hb hts hn4 hown hw (hts (.fieldLink RX4 130 "LeaderRowsModel" "rowSeed" "J") (by decide +kernel)) dX4_prepare_153 (fun H locs hw => ?_)
        refine lv_aload_n hx hb dX4_prepare_156 rfl (lv_at hl 2 rfl) ?_
        refine mg_elects hx hb hts hn4 hown hw (hts (.fieldLink RX4 60 "LeaderRowsModel" "elects" "[Z") (by decide +kernel)) dX4_prepare_157 ?_
        refine lv_iload hx hb dX4_prepare_160 (lv_at hl 7 rfl) ?_
        refine ma_elects hx hb hw k (by omega) rfl dX4_prepare_162 ?_
        refine lv_if_eq (tgt := 185) hx hb dX4_prepare_163 (by decide) (fun h15 => ?_) (fun h15 => ?_)
        · refine lv_iinc (v := nI (k + 1)) (lv' := [(6, .int (nI (k + 1))), (8, .long (if (nI k) = but then number else opened k)), (7, .int (if (nI k) = but then opens else hasOp k)), (0, .ref (ad 0)), (1, .int but), (2, .long number), (4, .int opens), (5, .int (f_cn (e_m but opens isMem hasCom hasOp) k))]) hx hb dX4_prepare_185 hl (k := 7) rfl (nI_1 k) (by decide) rfl (fun ls hl => ?_)
          refine lv_goto (tgt := 32) hx hb dX4_prepare_188 (by decide) ?_
          have q16 : (f_cn (e_m but opens isMem hasCom hasOp) k) = f_cn (e_m but opens isMem hasCom hasOp) (k + 1) := by first | exact cn_p (ix_e h15 rfl) | exact cn_n (ix_n h15 rfl)
          have hl9 : lv_has ls 10 [(0, .ref (ad 0)), (1, .int but), (2, .long number), (4, .int opens), (5, .int (f_cn (e_m but opens isMem hasCom hasOp) (k + 1))), (6, .int (nI (k + 1)))] := by rw [← q16]; exact lv_sub hl [3, 4, 5, 6, 7, 0] rfl
          exact ihL32 (k + 1) (by omega)  _ _ ls ((mw_c rfl rfl rfl rfl rfl rfl (by first | exact e_mS (ix_e h15 rfl) | exact e_mT (ix_n h15 rfl)) rfl rfl (by first | exact sd_p (has := (h_m but opens hasOp)) h9 | exact sd_n (has := (h_m but opens hasOp)) (dg := (d_m but number opened)) (vv := (v_m but number opened)) h9) rfl rfl rfl rfl rfl rfl rfl rfl rfl rfl rfl rfl rfl rfl (mx_up rfl) (mx_up rfl) rfl rfl rfl rfl rfl : mw_w ad cy phase epoch turns nextTurn all claims (g_sum (g_w (e_m but opens isMem hasCom hasOp) weight) k) seed pot (f_mix (((g_sd (h_m but opens hasOp) (d_m but number opened) (v_m but number opened) (g_s0 seed epoch) k) ^^^ (f_dig (nI k) (if (nI k) = but then number else opened k))) ^^^ (if (nI k) = but then number else opened k))) stream terms weight wait led missed running aside isMem hasCom hasOp leads draws claim (upd (mx k (e_m but opens isMem hasCom hasOp) elects) k (if (isMem k) = 0 then 0 else if ((if (nI k) = but then opens else hasOp k) : Int32) = 0 then if (hasCom k) = 0 then 1 else 0 else 1)) (upd (mx k wait waits) k (wait k)) rowLeads rowDraws deposit committed opened = mw_w ad cy phase epoch turns nextTurn all claims (g_sum (g_w (e_m but opens isMem hasCom hasOp) weight) (k + 1)) seed pot (g_sd (h_m but opens hasOp) (d_m but number opened) (v_m but number opened) (g_s0 seed epoch) (k + 1)) stream terms weight wait led missed running aside isMem hasCom hasOp leads draws claim (mx (k + 1) (e_m but opens isMem hasCom hasOp) elects) (mx (k + 1) wait waits) rowLeads rowDraws deposit committed opened) ▸ hw) hl9
        · refine lv_iinc (v := (f_cn (e_m but opens isMem hasCom hasOp) k) + 1) (lv' := [(5, .int ((f_cn (e_m but opens isMem hasCom hasOp) k) + 1)), (8, .long (if (nI k) = but then number else opened k)), (7, .int (if (nI k) = but then opens else hasOp k)), (0, .ref (ad 0)), (1, .int but), (2, .long number), (4, .int opens), (6, .int (nI k))]) hx hb dX4_prepare_166 hl (k := 6) rfl rfl (by decide) rfl (fun ls hl => ?_)
          refine lv_aload_n hx hb dX4_prepare_169 rfl (lv_at hl 3 rfl) ?_
          refine lv_dup hx hb dX4_prepare_170 rfl ?_
          refine mg_sum hx hb hts hn4 hown hw (hts (.fieldLink RX4 123 "LeaderRowsModel" "sum" "I") (by decide +kernel)) dX4_prepare_171 ?_
          refine lv_aload_n hx hb dX4_prepare_174 rfl (lv_at hl 3 rfl) ?_
          refine mg_weight hx hb hts hn4 hown hw (hts (.fieldLink RX4 13 "LeaderRowsModel" "weight" "[I") (by decide +kernel)) dX4_prepare_175 ?_
          refine lv_iload hx hb dX4_prepare_178 (lv_at hl 7 rfl) ?_
          refine ma_weight hx hb hw k (by omega) rfl dX4_prepare_180 ?_
          refine lv_iadd hx hb dX4_prepare_181 ?_
          refine mp_sum hx hb hts hn4 hown hw (hts (.fieldLink RX4 123 "LeaderRowsModel" "sum" "I") (by decide +kernel)) dX4_prepare_182 (fun H locs hw => ?_)
          refine lv_iinc (v := nI (k + 1)) (lv' := [(6, .int (nI (k + 1))), (5, .int ((f_cn (e_m but opens isMem hasCom hasOp) k) + 1)), (8, .long (if (nI k) = but then number else opened k)), (7, .int (if (nI k) = but then opens else hasOp k)), (0, .ref (ad 0)), (1, .int but), (2, .long number), (4, .int opens)]) hx hb dX4_prepare_185 hl (k := 7) rfl (nI_1 k) (by decide) rfl (fun ls hl => ?_)
          refine lv_goto (tgt := 32) hx hb dX4_prepare_188 (by decide) ?_
          have q17 : ((f_cn (e_m but opens isMem hasCom hasOp) k) + 1) = f_cn (e_m but opens isMem hasCom hasOp) (k + 1) := by first | exact cn_p (ix_e h15 rfl) | exact cn_n (ix_n h15 rfl)
          have hl9 : lv_has ls 10 [(0, .ref (ad 0)), (1, .int but), (2, .long number), (4, .int opens), (5, .int (f_cn (e_m but opens isMem hasCom hasOp) (k + 1))), (6, .int (nI (k + 1)))] := by rw [← q17]; exact lv_sub hl [4, 5, 6, 7, 1, 0] rfl
          exact ihL32 (k + 1) (by omega)  _ _ ls ((mw_c rfl rfl rfl rfl rfl rfl (by first | exact e_mS (ix_e h15 rfl) | exact e_mT (ix_n h15 rfl)) rfl rfl (by first | exact sd_p (has := (h_m but opens hasOp)) h9 | exact sd_n (has := (h_m but opens hasOp)) (dg := (d_m but number opened)) (vv := (v_m but number opened)) h9) rfl rfl rfl rfl rfl rfl rfl rfl rfl rfl rfl rfl rfl rfl (mx_up rfl) (mx_up rfl) rfl rfl rfl rfl rfl : mw_w ad cy phase epoch turns nextTurn all claims ((g_sum (g_w (e_m but opens isMem hasCom hasOp) weight) k) + (weight k)) seed pot (f_mix (((g_sd (h_m but opens hasOp) (d_m but number opened) (v_m but number opened) (g_s0 seed epoch) k) ^^^ (f_dig (nI k) (if (nI k) = but then number else opened k))) ^^^ (if (nI k) = but then number else opened k))) stream terms weight wait led missed running aside isMem hasCom hasOp leads draws claim (upd (mx k (e_m but opens isMem hasCom hasOp) elects) k (if (isMem k) = 0 then 0 else if ((if (nI k) = but then opens else hasOp k) : Int32) = 0 then if (hasCom k) = 0 then 1 else 0 else 1)) (upd (mx k wait waits) k (wait k)) rowLeads rowDraws deposit committed opened = mw_w ad cy phase epoch turns nextTurn all claims (g_sum (g_w (e_m but opens isMem hasCom hasOp) weight) (k + 1)) seed pot (g_sd (h_m but opens hasOp) (d_m but number opened) (v_m but number opened) (g_s0 seed epoch) (k + 1)) stream terms weight wait led missed running aside isMem hasCom hasOp leads draws claim (mx (k + 1) (e_m but opens isMem hasCom hasOp) elects) (mx (k + 1) wait waits) rowLeads rowDraws deposit committed opened) ▸ hw) hl9
  exact L32 12 0 (by omega)  _ _ ls ((mw_c rfl rfl rfl rfl rfl rfl (rfl) rfl rfl (rfl) rfl rfl rfl rfl rfl rfl rfl rfl rfl rfl rfl rfl rfl rfl ((mx_0 _ _).symm) ((mx_0 _ _).symm) rfl rfl rfl rfl rfl : mw_w ad cy phase epoch turns nextTurn all claims 0 seed pot (f_mix (seed + ((epoch.toInt64) * (-7046029254386353131)))) stream terms weight wait led missed running aside isMem hasCom hasOp leads draws claim elects waits rowLeads rowDraws deposit committed opened = mw_w ad cy phase epoch turns nextTurn all claims (g_sum (g_w (e_m but opens isMem hasCom hasOp) weight) 0) seed pot (g_sd (h_m but opens hasOp) (d_m but number opened) (v_m but number opened) (g_s0 seed epoch) 0) stream terms weight wait led missed running aside isMem hasCom hasOp leads draws claim (mx 0 (e_m but opens isMem hasCom hasOp) elects) (mx 0 wait waits) rowLeads rowDraws deposit committed opened) ▸ hw) (lv_sub hl [2, 3, 4, 5, 1, 0] (by first | rfl | (simp [lv_pick])))
set_option maxHeartbeats 4000000 in
set_option maxRecDepth 100000 in
theorem k_X4_below (l : Launch) {D : va_G} {ad : Nat → Nat} {cy : Nat → ClassId} {phase epoch turns nextTurn all claims sum : Int32} {seed pot rowSeed stream : Int64} {terms weight wait led missed running aside isMem hasCom hasOp leads draws claim elects waits rowLeads rowDraws : Nat → Int32} {deposit committed opened : Nat → Int64} (t n : Nat)  (ht : t < 60) (hf1 : 0 < sum) (hrest : f_rest sum.toInt64 = g_t sum) (hum : ∀ z : Int64, f_um (g_t sum) z = f_u (g_t sum) z) (hn : g_ok (g_t sum) stream n) (hrd : rowDraws t = 0)  : ww_MI l D (mw_t cy) yX4_below wsX4_below (ww_rm 1 23) [.ref (ad 0), .int (nI t)] (mw_w ad cy phase epoch turns nextTurn all claims sum seed pot rowSeed stream terms weight wait led missed running aside isMem hasCom hasOp leads draws claim elects waits rowLeads rowDraws deposit committed opened) (mw_w ad cy phase epoch turns nextTurn all claims sum seed pot rowSeed (sG stream n) terms weight wait led missed running aside isMem hasCom hasOp leads draws claim elects waits rowLeads (upd rowDraws t (nI n)) deposit committed opened) ((f_ru (f_mix (sG stream n)) sum.toInt64).toInt32) := by
  refine ww_MI_mk .int (cc := cX4_below) (maxL := 9) (by decide) rfl (Nat.le_of_ble_eq_true rfl) ?_
  intro p e s m below meth c A ls hx hb hr hts hown hlk hml hA hw hl
  have hown : s.vm.findClass RX4 = some m.cls := hown
  have hl : lv_has ls 9 [(0, .ref (ad 0)), (1, .int (nI t))] := hl
  have hn4 : ∀ w ∈ wsX40, w ∈ wsX4_below := by decide +kernel
  have hn1 : 1 ≤ n := hn.1
  have hne : ¬ sum.toInt64 = 0 := i64_ne0 hf1
  refine lv_aload_n hx hb dX4_below_0 rfl (lv_at hl 0 rfl) ?_
  refine mg_sum hx hb hts hn4 hown hw (hts (.fieldLink RX4 123 "LeaderRowsModel" "sum" "I") (by decide +kernel)) dX4_below_1 ?_
  refine lv_i2l hx hb dX4_below_4 rfl ?_
  refine lv_lstore_n (lv' := [(2, .long (sum.toInt64)), (0, .ref (ad 0)), (1, .int (nI t))]) hx hb dX4_below_5 rfl hl (by decide) rfl (fun ls hl => ?_)
  refine lv_ldc2 (v := 9223372036854775807) hx hb hown (hts (.constantLong RX4 133 9223372036854775807) (by decide +kernel)) dX4_below_6 ?_
  refine lv_lload_n hx hb dX4_below_9 rfl (lv_at hl 0 rfl) ?_
  refine lv_lrem hx hb dX4_below_10 hne ?_
  refine lv_lconst (v := 1) hx hb dX4_below_11 (by decide) ?_
  refine lv_ladd hx hb dX4_below_12 ?_
  refine lv_lload_n hx hb dX4_below_13 rfl (lv_at hl 0 rfl) ?_
  refine lv_lrem hx hb dX4_below_14 hne ?_
  refine lv_ldc2 (v := 2) hx hb hown (hts (.constantLong RX4 135 2) (by decide +kernel)) dX4_below_15 ?_
  refine lv_lmul hx hb dX4_below_18 ?_
  refine lv_lload_n hx hb dX4_below_19 rfl (lv_at hl 0 rfl) ?_
  refine lv_lrem hx hb dX4_below_20 hne ?_
  refine ww_topl (show _ = g_t sum from hrest) ?_
  refine lv_lstore (lv' := [(4, .long (g_t sum)), (2, .long (sum.toInt64)), (0, .ref (ad 0)), (1, .int (nI t))]) hx hb dX4_below_21 hl (by decide) rfl (fun ls hl => ?_)
  refine lv_lconst (v := 0) hx hb dX4_below_23 (by decide) ?_
  refine lv_lstore (lv' := [(6, .long 0), (4, .long (g_t sum)), (2, .long (sum.toInt64)), (0, .ref (ad 0)), (1, .int (nI t))]) hx hb dX4_below_24 hl (by decide) rfl (fun ls hl => ?_)
  refine lv_iconst (v := 0) hx hb dX4_below_26 (by decide) ?_
  refine lv_istore (lv' := [(8, .int 0), (6, .long 0), (4, .long (g_t sum)), (2, .long (sum.toInt64)), (0, .ref (ad 0)), (1, .int (nI t))]) hx hb dX4_below_27 hl (by decide) rfl (fun ls hl => ?_)
  have L29 : ∀ (L29n j : Nat), j + L29n = n → ∀ (H : Heap) (locs : List Loc) (ls : Array Slot), ww_W D (mw_t cy) A s (mw_w ad cy phase epoch turns nextTurn all claims sum seed pot rowSeed (sG stream j) terms weight wait led missed running aside isMem hasCom hasOp leads draws claim elects waits rowLeads (upd rowDraws t (nI j)) deposit committed opened) H locs → lv_has ls 9 [(0, .ref (ad 0)), (1, .int (nI t)), (2, .long (sum.toInt64)), (4, .long (g_t sum)), (6, .long (f_z stream j)), (8, .int (f_us n j))] → W p l e (ww_rm 1 23) s m ([.ref (ad 0), .int (nI t)] : List Value).toArray below meth c H locs 0 0 (MQ below (ww_Qi D (mw_t cy) A (mw_w ad cy phase epoch turns nextTurn all claims sum seed pot rowSeed (sG stream n) terms weight wait led missed running aside isMem hasCom hasOp leads draws claim elects waits rowLeads (upd rowDraws t (nI n)) deposit committed opened) ((f_ru (f_mix (sG stream n)) sum.toInt64).toInt32)) ([.ref (ad 0), .int (nI t)] : List Value).toArray s 0 0 A) (F0 m 29 ls []) := by
    intro L29n
    induction L29n with
    | zero =>
      intro j hkj  H locs ls hw hl
      obtain rfl : n = j := by omega
      refine lv_iload hx hb dX4_below_29 (lv_at hl 5 rfl) ?_
      refine lv_if_ne (tgt := 99) hx hb dX4_below_31 (by decide) (fun _ => ?_) (fun h1 => absurd h1 (f_us_n n))
      refine lv_lload hx hb dX4_below_99 (lv_at hl 4 rfl) ?_
      refine lv_iconst (v := 1) hx hb dX4_below_101 (by decide) ?_
      refine lv_lushr hx hb dX4_below_102 rfl ?_
      refine lv_lload_n hx hb dX4_below_103 rfl (lv_at hl 2 rfl) ?_
      refine lv_lrem hx hb dX4_below_104 hne ?_
      refine lv_ldc2 (v := 2) hx hb hown (hts (.constantLong RX4 135 2) (by decide +kernel)) dX4_below_105 ?_
      refine lv_lmul hx hb dX4_below_108 ?_
      refine lv_lload hx hb dX4_below_109 (lv_at hl 4 rfl) ?_
      refine lv_lconst (v := 1) hx hb dX4_below_111 (by decide) ?_
      refine lv_land hx hb dX4_below_112 ?_
      refine lv_ladd hx hb dX4_below_113 ?_
      refine lv_lload_n hx hb dX4_below_114 rfl (lv_at hl 2 rfl) ?_
      refine lv_lrem hx hb dX4_below_115 hne ?_
      refine lv_l2i hx hb dX4_below_116 rfl ?_
      exact ww_ri hx hb hr hlk hw dX4_below_117 (by rw [f_z_n _ hn1]; rfl) rfl
    | succ L29n ihL29 =>
      intro j hkj  H locs ls hw hl
      have hkjl : j < n := by omega
      refine lv_iload hx hb dX4_below_29 (lv_at hl 5 rfl) ?_
      refine lv_if_ne (tgt := 99) hx hb dX4_below_31 (by decide) (fun h2 => absurd (f_us_l hkjl) h2) (fun _ => ?_)
      refine lv_aload_n hx hb dX4_below_34 rfl (lv_at hl 0 rfl) ?_
      refine lv_dup hx hb dX4_below_35 rfl ?_
      refine mg_stream hx hb hts hn4 hown hw (hts (.fieldLink RX4 137 "LeaderRowsModel" "stream" "J") (by decide +kernel)) dX4_below_36 ?_
      refine lv_ldc2 (v := (-7046029254386353131)) hx hb hown (hts (.constantLong RX4 86 (-7046029254386353131)) (by decide +kernel)) dX4_below_39 ?_
      refine lv_ladd hx hb dX4_below_42 ?_
      refine mp_stream hx hb hts hn4 hown hw (hts (.fieldLink RX4 137 "LeaderRowsModel" "stream" "J") (by decide +kernel)) dX4_below_43 (fun H locs hw => ?_)
      refine lv_aload_n hx hb dX4_below_46 rfl (lv_at hl 0 rfl) ?_
      refine mg_stream hx hb hts hn4 hown hw (hts (.fieldLink RX4 137 "LeaderRowsModel" "stream" "J") (by decide +kernel)) dX4_below_47 ?_
      refine ww_cSL (As := [.long ((sG stream j) + (-7046029254386353131))]) (rest := []) hx hb hml hown hts hl.1 (k_X4_mix l ((sG stream j) + (-7046029254386353131))) (va_cwS 1 hts gX4_below_X4_mix rfl rfl rfl (by decide +kernel) ⟨Nat.le_of_ble_eq_true rfl, Nat.le_of_ble_eq_true rfl⟩) rfl rfl (Nat.le_of_ble_eq_true rfl) ⟨Nat.zero_le _, Nat.zero_le _⟩ dX4_below_50 ?_
      refine lv_lstore (lv' := [(6, .long (f_mix ((sG stream j) + (-7046029254386353131)))), (0, .ref (ad 0)), (1, .int (nI t)), (2, .long (sum.toInt64)), (4, .long (g_t sum)), (8, .int (f_us n j))]) hx hb dX4_below_53 hl (by decide) rfl (fun ls hl => ?_)
      refine lv_aload_n hx hb dX4_below_55 rfl (lv_at hl 1 rfl) ?_
      refine mg_rowDraws hx hb hts hn4 hown hw (hts (.fieldLink RX4 69 "LeaderRowsModel" "rowDraws" "[I") (by decide +kernel)) dX4_below_56 ?_
      refine lv_iload_n hx hb dX4_below_59 rfl (lv_at hl 2 rfl) ?_
      refine lv_dup2_11 hx hb dX4_below_60 rfl rfl ?_
      refine ma_rowDraws hx hb hw t (by omega) rfl dX4_below_61 ?_
      refine lv_iconst (v := 1) hx hb dX4_below_62 (by decide) ?_
      refine lv_iadd hx hb dX4_below_63 ?_
      refine ms_rowDraws hx hb hw t (by omega) rfl dX4_below_64 (fun H locs hw => ?_)
      refine lv_lload hx hb dX4_below_65 (lv_at hl 4 rfl) ?_
      refine lv_lconst (v := 0) hx hb dX4_below_67 (by decide) ?_
      refine ww_joinI (rest := []) 94 (if (g_t sum) = 0 then 1 else if ((-(g_t sum)) ^^^ (-9223372036854775808)) ≤ ((f_mix ((sG stream j) + (-7046029254386353131))) ^^^ (-9223372036854775808)) then 0 else 1) (fun K3 => ?_) ?_
      · refine ww_lif_eq (tgt := 89) hx hb dX4_below_68 dX4_below_69 (by decide) (fun h4 => ?_) (fun h4 => ?_)
        · refine lv_iconst (v := 1) hx hb dX4_below_89 (by decide) ?_
          refine lv_goto (tgt := 94) hx hb dX4_below_90 (by decide) ?_
          exact ww_top (by rw [if_pos h4]) K3
        · refine lv_lload hx hb dX4_below_72 (lv_at hl 0 rfl) ?_
          refine lv_ldc2 (v := (-9223372036854775808)) hx hb hown (hts (.constantLong RX4 140 (-9223372036854775808)) (by decide +kernel)) dX4_below_74 ?_
          refine lv_lxor hx hb dX4_below_77 ?_
          refine lv_lload hx hb dX4_below_78 (lv_at hl 4 rfl) ?_
          refine lv_lneg hx hb dX4_below_80 ?_
          refine lv_ldc2 (v := (-9223372036854775808)) hx hb hown (hts (.constantLong RX4 140 (-9223372036854775808)) (by decide +kernel)) dX4_below_81 ?_
          refine lv_lxor hx hb dX4_below_84 ?_
          refine ww_lif_ge (tgt := 93) hx hb dX4_below_85 dX4_below_86 (by decide) (fun h5 => ?_) (fun h5 => ?_)
          · refine lv_iconst (v := 0) hx hb dX4_below_93 (by decide) ?_
            exact ww_top (by rw [if_neg h4, if_pos h5]) K3
          · refine lv_iconst (v := 1) hx hb dX4_below_89 (by decide) ?_
            refine lv_goto (tgt := 94) hx hb dX4_below_90 (by decide) ?_
            exact ww_top (by rw [if_neg h4, if_neg h5]) K3
      refine lv_istore (lv' := [(8, .int (if (g_t sum) = 0 then 1 else if ((-(g_t sum)) ^^^ (-9223372036854775808)) ≤ ((f_mix ((sG stream j) + (-7046029254386353131))) ^^^ (-9223372036854775808)) then 0 else 1)), (6, .long (f_mix ((sG stream j) + (-7046029254386353131)))), (0, .ref (ad 0)), (1, .int (nI t)), (2, .long (sum.toInt64)), (4, .long (g_t sum))]) hx hb dX4_below_94 hl (by decide) rfl (fun ls hl => ?_)
      refine lv_goto (tgt := 29) hx hb dX4_below_96 (by decide) ?_
      have q6 : (f_mix ((sG stream j) + (-7046029254386353131))) = f_z stream (j + 1) := f_z_s j stream
      have q7 : (if (g_t sum) = 0 then 1 else if ((-(g_t sum)) ^^^ (-9223372036854775808)) ≤ ((f_mix ((sG stream j) + (-7046029254386353131))) ^^^ (-9223372036854775808)) then 0 else 1) = f_us n (j + 1) := by show f_um (g_t sum) (f_mix (sG stream j + (-7046029254386353131))) = _; rw [hum]; exact f_us_u hn hkjl
      have hl9 : lv_has ls 9 [(0, .ref (ad 0)), (1, .int (nI t)), (2, .long (sum.toInt64)), (4, .long (g_t sum)), (6, .long (f_z stream (j + 1))), (8, .int (f_us n (j + 1)))] := by rw [← q6, ← q7]; exact lv_sub hl [2, 3, 4, 5, 1, 0] rfl
      exact ihL29 (j + 1) (by omega)  _ _ ls ((mw_c rfl rfl rfl rfl rfl rfl rfl rfl rfl rfl (rfl) rfl rfl rfl rfl rfl rfl rfl rfl rfl rfl rfl rfl rfl rfl rfl rfl (by rw [upd_s, upd_upd, nI_1]) rfl rfl rfl : mw_w ad cy phase epoch turns nextTurn all claims sum seed pot rowSeed ((sG stream j) + (-7046029254386353131)) terms weight wait led missed running aside isMem hasCom hasOp leads draws claim elects waits rowLeads (upd (upd rowDraws t (nI j)) t (((upd rowDraws t (nI j)) t) + 1)) deposit committed opened = mw_w ad cy phase epoch turns nextTurn all claims sum seed pot rowSeed (sG stream (j + 1)) terms weight wait led missed running aside isMem hasCom hasOp leads draws claim elects waits rowLeads (upd rowDraws t (nI (j + 1))) deposit committed opened) ▸ hw) hl9
  exact L29 n 0 (by omega)  _ _ ls ((mw_c rfl rfl rfl rfl rfl rfl rfl rfl rfl rfl (rfl) rfl rfl rfl rfl rfl rfl rfl rfl rfl rfl rfl rfl rfl rfl rfl rfl (by rw [show nI 0 = rowDraws t from hrd.symm, upd_id]) rfl rfl rfl : mw_w ad cy phase epoch turns nextTurn all claims sum seed pot rowSeed stream terms weight wait led missed running aside isMem hasCom hasOp leads draws claim elects waits rowLeads rowDraws deposit committed opened = mw_w ad cy phase epoch turns nextTurn all claims sum seed pot rowSeed (sG stream 0) terms weight wait led missed running aside isMem hasCom hasOp leads draws claim elects waits rowLeads (upd rowDraws t (nI 0)) deposit committed opened) ▸ hw) (lv_sub hl [4, 5, 3, 2, 1, 0] (by first | rfl | (rw [f_us_l (show 0 < n by omega)]; rfl)))
set_option maxHeartbeats 4000000 in
set_option maxRecDepth 100000 in
theorem k_X4_overdue (l : Launch) {D : va_G} {ad : Nat → Nat} {cy : Nat → ClassId} {phase epoch turns nextTurn all claims sum : Int32} {seed pot rowSeed stream : Int64} {terms weight wait led missed running aside isMem hasCom hasOp leads draws claim elects waits rowLeads rowDraws : Nat → Int32} {deposit committed opened : Nat → Int64}   : ww_MI l D (mw_t cy) yX4_overdue wsX4_overdue (ww_rm 0 0) [.ref (ad 0)] (mw_w ad cy phase epoch turns nextTurn all claims sum seed pot rowSeed stream terms weight wait led missed running aside isMem hasCom hasOp leads draws claim elects waits rowLeads rowDraws deposit committed opened) (mw_w ad cy phase epoch turns nextTurn all claims sum seed pot rowSeed stream terms weight wait led missed running aside isMem hasCom hasOp leads draws claim elects waits rowLeads rowDraws deposit committed opened) (g_mf elects weight waits (terms 0) sum 12) := by
  refine ww_MI_mk .int (cc := cX4_overdue) (maxL := 6) (by decide) rfl (Nat.le_of_ble_eq_true rfl) ?_
  intro p e s m below meth c A ls hx hb hr hts hown hlk hml hA hw hl
  have hown : s.vm.findClass RX4 = some m.cls := hown
  have hl : lv_has ls 6 [(0, .ref (ad 0))] := hl
  have hn4 : ∀ w ∈ wsX40, w ∈ wsX4_overdue := by decide +kernel
  refine lv_iconst (v := (-1)) hx hb dX4_overdue_0 (by decide) ?_
  refine lv_istore_n (lv' := [(1, .int (-1)), (0, .ref (ad 0))]) hx hb dX4_overdue_1 rfl hl (by decide) rfl (fun ls hl => ?_)
  refine lv_iconst (v := 0) hx hb dX4_overdue_2 (by decide) ?_
  refine lv_istore_n (lv' := [(2, .int 0), (1, .int (-1)), (0, .ref (ad 0))]) hx hb dX4_overdue_3 rfl hl (by decide) rfl (fun ls hl => ?_)
  have L4 : ∀ (L4n k : Nat), k + L4n = 12 → ∀ (H : Heap) (locs : List Loc) (ls : Array Slot), ww_W D (mw_t cy) A s (mw_w ad cy phase epoch turns nextTurn all claims sum seed pot rowSeed stream terms weight wait led missed running aside isMem hasCom hasOp leads draws claim elects waits rowLeads rowDraws deposit committed opened) H locs → lv_has ls 6 [(0, .ref (ad 0)), (1, .int (g_mf elects weight waits (terms 0) sum k)), (2, .int (nI k))] → W p l e (ww_rm 0 0) s m ([.ref (ad 0)] : List Value).toArray below meth c H locs 0 0 (MQ below (ww_Qi D (mw_t cy) A (mw_w ad cy phase epoch turns nextTurn all claims sum seed pot rowSeed stream terms weight wait led missed running aside isMem hasCom hasOp leads draws claim elects waits rowLeads rowDraws deposit committed opened) (g_mf elects weight waits (terms 0) sum 12)) ([.ref (ad 0)] : List Value).toArray s 0 0 A) (F0 m 4 ls []) := by
    intro L4n
    induction L4n with
    | zero =>
      intro k hkk  H locs ls hw hl
      obtain rfl : 12 = k := by omega
      refine lv_iload_n hx hb dX4_overdue_4 rfl (lv_at hl 2 rfl) ?_
      refine lv_bipush (v := 12) hx hb dX4_overdue_5 (by decide) ?_
      refine lv_icmp_ge (tgt := 110) hx hb dX4_overdue_7 (by decide) (fun _ => ?_) (fun h1 => absurd (by decide) h1)
      refine lv_iload_n hx hb dX4_overdue_110 rfl (lv_at hl 1 rfl) ?_
      exact ww_ri hx hb hr hlk hw dX4_overdue_111 rfl rfl
    | succ L4n ihL4 =>
      intro k hkk  H locs ls hw hl
      have hkkl : k < 12 := by omega
      refine lv_iload_n hx hb dX4_overdue_4 rfl (lv_at hl 2 rfl) ?_
      refine lv_bipush (v := 12) hx hb dX4_overdue_5 (by decide) ?_
      refine lv_icmp_ge (tgt := 110) hx hb dX4_overdue_7 (by decide) (fun h2 => absurd h2 (nI_nge 12 rfl hkkl (by decide))) (fun _ => ?_)
      refine lv_aload_n hx hb dX4_overdue_10 rfl (lv_at hl 0 rfl) ?_
      refine mg_waits hx hb hts hn4 hown hw (hts (.fieldLink RX4 63 "LeaderRowsModel" "waits" "[I") (by decide +kernel)) dX4_overdue_11 ?_
      refine lv_iload_n hx hb dX4_overdue_14 rfl (lv_at hl 2 rfl) ?_
      refine ma_waits hx hb hw k (by omega) rfl dX4_overdue_15 ?_
      refine lv_i2l hx hb dX4_overdue_16 rfl ?_
      refine lv_aload_n hx hb dX4_overdue_17 rfl (lv_at hl 0 rfl) ?_
      refine mg_weight hx hb hts hn4 hown hw (hts (.fieldLink RX4 13 "LeaderRowsModel" "weight" "[I") (by decide +kernel)) dX4_overdue_18 ?_
      refine lv_iload_n hx hb dX4_overdue_21 rfl (lv_at hl 2 rfl) ?_
      refine ma_weight hx hb hw k (by omega) rfl dX4_overdue_22 ?_
      refine lv_i2l hx hb dX4_overdue_23 rfl ?_
      refine lv_lmul hx hb dX4_overdue_24 ?_
      refine lv_lstore_n (lv' := [(3, .long (((waits k).toInt64) * ((weight k).toInt64))), (0, .ref (ad 0)), (1, .int (g_mf elects weight waits (terms 0) sum k)), (2, .int (nI k))]) hx hb dX4_overdue_25 rfl hl (by decide) rfl (fun ls hl => ?_)
      refine lv_aload_n hx hb dX4_overdue_26 rfl (lv_at hl 1 rfl) ?_
      refine mg_elects hx hb hts hn4 hown hw (hts (.fieldLink RX4 60 "LeaderRowsModel" "elects" "[Z") (by decide +kernel)) dX4_overdue_27 ?_
      refine lv_iload_n hx hb dX4_overdue_30 rfl (lv_at hl 3 rfl) ?_
      refine ma_elects hx hb hw k (by omega) rfl dX4_overdue_31 ?_
      refine ww_joinI (rest := []) 67 (if (elects k) = 0 then 0 else if (terms 0) ≤ 0 then 0 else if (((waits k).toInt64) * ((weight k).toInt64)) < (((terms 0).toInt64) * (sum.toInt64)) then 0 else 1) (fun K3 => ?_) ?_
      · refine lv_if_eq (tgt := 66) hx hb dX4_overdue_32 (by decide) (fun h4 => ?_) (fun h4 => ?_)
        · refine lv_iconst (v := 0) hx hb dX4_overdue_66 (by decide) ?_
          exact ww_top (by rw [if_pos h4]) K3
        · refine lv_aload_n hx hb dX4_overdue_35 rfl (lv_at hl 1 rfl) ?_
          refine mg_terms hx hb hts hn4 hown hw (hts (.fieldLink RX4 7 "LeaderRowsModel" "terms" "[I") (by decide +kernel)) dX4_overdue_36 ?_
          refine lv_iconst (v := 0) hx hb dX4_overdue_39 (by decide) ?_
          refine ma_terms hx hb hw 0 (by decide) rfl dX4_overdue_40 ?_
          refine lv_if_le (tgt := 66) hx hb dX4_overdue_41 (by decide) (fun h5 => ?_) (fun h5 => ?_)
          · refine lv_iconst (v := 0) hx hb dX4_overdue_66 (by decide) ?_
            exact ww_top (by rw [if_neg h4, if_pos h5]) K3
          · refine lv_lload_n hx hb dX4_overdue_44 rfl (lv_at hl 0 rfl) ?_
            refine lv_aload_n hx hb dX4_overdue_45 rfl (lv_at hl 1 rfl) ?_
            refine mg_terms hx hb hts hn4 hown hw (hts (.fieldLink RX4 7 "LeaderRowsModel" "terms" "[I") (by decide +kernel)) dX4_overdue_46 ?_
            refine lv_iconst (v := 0) hx hb dX4_overdue_49 (by decide) ?_
            refine ma_terms hx hb hw 0 (by decide) rfl dX4_overdue_50 ?_
            refine lv_i2l hx hb dX4_overdue_51 rfl ?_
            refine lv_aload_n hx hb dX4_overdue_52 rfl (lv_at hl 1 rfl) ?_
            refine mg_sum hx hb hts hn4 hown hw (hts (.fieldLink RX4 123 "LeaderRowsModel" "sum" "I") (by decide +kernel)) dX4_overdue_53 ?_
            refine lv_i2l hx hb dX4_overdue_56 rfl ?_
            refine lv_lmul hx hb dX4_overdue_57 ?_
            refine ww_lif_lt (tgt := 66) hx hb dX4_overdue_58 dX4_overdue_59 (by decide) (fun h6 => ?_) (fun h6 => ?_)
            · refine lv_iconst (v := 0) hx hb dX4_overdue_66 (by decide) ?_
              exact ww_top (by rw [if_neg h4, if_neg h5, if_pos h6]) K3
            · refine lv_iconst (v := 1) hx hb dX4_overdue_62 (by decide) ?_
              refine lv_goto (tgt := 67) hx hb dX4_overdue_63 (by decide) ?_
              exact ww_top (by rw [if_neg h4, if_neg h5, if_neg h6]) K3
      refine lv_istore (lv' := [(5, .int (if (elects k) = 0 then 0 else if (terms 0) ≤ 0 then 0 else if (((waits k).toInt64) * ((weight k).toInt64)) < (((terms 0).toInt64) * (sum.toInt64)) then 0 else 1)), (3, .long (((waits k).toInt64) * ((weight k).toInt64))), (0, .ref (ad 0)), (1, .int (g_mf elects weight waits (terms 0) sum k)), (2, .int (nI k))]) hx hb dX4_overdue_67 hl (by decide) rfl (fun ls hl => ?_)
      refine lv_iload hx hb dX4_overdue_69 (lv_at hl 0 rfl) ?_
      refine ww_joinI (rest := []) 103 (if ((if (elects k) = 0 then 0 else if (terms 0) ≤ 0 then 0 else if (((waits k).toInt64) * ((weight k).toInt64)) < (((terms 0).toInt64) * (sum.toInt64)) then 0 else 1) : Int32) = 0 then g_mf elects weight waits (terms 0) sum k else if (g_mf elects weight waits (terms 0) sum k) < 0 then nI k else if (((waits k).toInt64) * ((weight k).toInt64)) ≤ (((waits ((g_mf elects weight waits (terms 0) sum k).toNatClampNeg)).toInt64) * ((weight ((g_mf elects weight waits (terms 0) sum k).toNatClampNeg)).toInt64)) then g_mf elects weight waits (terms 0) sum k else nI k) (fun K7 => ?_) ?_
      · refine lv_if_eq (tgt := 102) hx hb dX4_overdue_71 (by decide) (fun h8 => ?_) (fun h8 => ?_)
        · refine lv_iload_n hx hb dX4_overdue_102 rfl (lv_at hl 3 rfl) ?_
          exact ww_top (by rw [if_pos h8]) K7
        · refine lv_iload_n hx hb dX4_overdue_74 rfl (lv_at hl 3 rfl) ?_
          refine lv_if_lt (tgt := 98) hx hb dX4_overdue_75 (by decide) (fun h9 => ?_) (fun h9 => ?_)
          · refine lv_iload_n hx hb dX4_overdue_98 rfl (lv_at hl 4 rfl) ?_
            refine lv_goto (tgt := 103) hx hb dX4_overdue_99 (by decide) ?_
            exact ww_top (by rw [if_neg h8, if_pos h9]) K7
          · refine lv_lload_n hx hb dX4_overdue_78 rfl (lv_at hl 1 rfl) ?_
            refine lv_aload_n hx hb dX4_overdue_79 rfl (lv_at hl 2 rfl) ?_
            refine mg_waits hx hb hts hn4 hown hw (hts (.fieldLink RX4 63 "LeaderRowsModel" "waits" "[I") (by decide +kernel)) dX4_overdue_80 ?_
            refine lv_iload_n hx hb dX4_overdue_83 rfl (lv_at hl 3 rfl) ?_
            refine ma_waits hx hb hw ((g_mf elects weight waits (terms 0) sum k).toNatClampNeg) (mf_lt (by omega) (by assumption)) (mf_eq (by omega) (by assumption)) dX4_overdue_84 ?_
            refine lv_i2l hx hb dX4_overdue_85 rfl ?_
            refine lv_aload_n hx hb dX4_overdue_86 rfl (lv_at hl 2 rfl) ?_
            refine mg_weight hx hb hts hn4 hown hw (hts (.fieldLink RX4 13 "LeaderRowsModel" "weight" "[I") (by decide +kernel)) dX4_overdue_87 ?_
            refine lv_iload_n hx hb dX4_overdue_90 rfl (lv_at hl 3 rfl) ?_
            refine ma_weight hx hb hw ((g_mf elects weight waits (terms 0) sum k).toNatClampNeg) (mf_lt (by omega) (by assumption)) (mf_eq (by omega) (by assumption)) dX4_overdue_91 ?_
            refine lv_i2l hx hb dX4_overdue_92 rfl ?_
            refine lv_lmul hx hb dX4_overdue_93 ?_
            refine ww_lif_le (tgt := 102) hx hb dX4_overdue_94 dX4_overdue_95 (by decide) (fun h10 => ?_) (fun h10 => ?_)
            · refine lv_iload_n hx hb dX4_overdue_102 rfl (lv_at hl 3 rfl) ?_
              exact ww_top (by rw [if_neg h8, if_neg h9, if_pos h10]) K7
            · refine lv_iload_n hx hb dX4_overdue_98 rfl (lv_at hl 4 rfl) ?_
              refine lv_goto (tgt := 103) hx hb dX4_overdue_99 (by decide) ?_
              exact ww_top (by rw [if_neg h8, if_neg h9, if_neg h10]) K7
      refine lv_istore_n (lv' := [(1, .int (if ((if (elects k) = 0 then 0 else if (terms 0) ≤ 0 then 0 else if (((waits k).toInt64) * ((weight k).toInt64)) < (((terms 0).toInt64) * (sum.toInt64)) then 0 else 1) : Int32) = 0 then g_mf elects weight waits (terms 0) sum k else if (g_mf elects weight waits (terms 0) sum k) < 0 then nI k else if (((waits k).toInt64) * ((weight k).toInt64)) ≤ (((waits ((g_mf elects weight waits (terms 0) sum k).toNatClampNeg)).toInt64) * ((weight ((g_mf elects weight waits (terms 0) sum k).toNatClampNeg)).toInt64)) then g_mf elects weight waits (terms 0) sum k else nI k)), (5, .int (if (elects k) = 0 then 0 else if (terms 0) ≤ 0 then 0 else if (((waits k).toInt64) * ((weight k).toInt64)) < (((terms 0).toInt64) * (sum.toInt64)) then 0 else 1)), (3, .long (((waits k).toInt64) * ((weight k).toInt64))), (0, .ref (ad 0)), (2, .int (nI k))]) hx hb dX4_overdue_103 rfl hl (by decide) rfl (fun ls hl => ?_)
      refine lv_iinc (v := nI (k + 1)) (lv' := [(2, .int (nI (k + 1))), (1, .int (if ((if (elects k) = 0 then 0 else if (terms 0) ≤ 0 then 0 else if (((waits k).toInt64) * ((weight k).toInt64)) < (((terms 0).toInt64) * (sum.toInt64)) then 0 else 1) : Int32) = 0 then g_mf elects weight waits (terms 0) sum k else if (g_mf elects weight waits (terms 0) sum k) < 0 then nI k else if (((waits k).toInt64) * ((weight k).toInt64)) ≤ (((waits ((g_mf elects weight waits (terms 0) sum k).toNatClampNeg)).toInt64) * ((weight ((g_mf elects weight waits (terms 0) sum k).toNatClampNeg)).toInt64)) then g_mf elects weight waits (terms 0) sum k else nI k)), (5, .int (if (elects k) = 0 then 0 else if (terms 0) ≤ 0 then 0 else if (((waits k).toInt64) * ((weight k).toInt64)) < (((terms 0).toInt64) * (sum.toInt64)) then 0 else 1)), (3, .long (((waits k).toInt64) * ((weight k).toInt64))), (0, .ref (ad 0))]) hx hb dX4_overdue_104 hl (k := 4) rfl (nI_1 k) (by decide) rfl (fun ls hl => ?_)
      refine lv_goto (tgt := 4) hx hb dX4_overdue_107 (by decide) ?_
      have q11 : (if ((if (elects k) = 0 then 0 else if (terms 0) ≤ 0 then 0 else if (((waits k).toInt64) * ((weight k).toInt64)) < (((terms 0).toInt64) * (sum.toInt64)) then 0 else 1) : Int32) = 0 then g_mf elects weight waits (terms 0) sum k else if (g_mf elects weight waits (terms 0) sum k) < 0 then nI k else if (((waits k).toInt64) * ((weight k).toInt64)) ≤ (((waits ((g_mf elects weight waits (terms 0) sum k).toNatClampNeg)).toInt64) * ((weight ((g_mf elects weight waits (terms 0) sum k).toNatClampNeg)).toInt64)) then g_mf elects weight waits (terms 0) sum k else nI k) = g_mf elects weight waits (terms 0) sum (k + 1) := rfl
      have hl9 : lv_has ls 6 [(0, .ref (ad 0)), (1, .int (g_mf elects weight waits (terms 0) sum (k + 1))), (2, .int (nI (k + 1)))] := by rw [← q11]; exact lv_sub hl [4, 1, 0] rfl
      exact ihL4 (k + 1) (by omega)  _ _ ls hw hl9
  exact L4 12 0 (by omega)  _ _ ls hw (lv_sub hl [2, 1, 0] (by first | rfl | (simp [lv_pick])))
set_option maxHeartbeats 4000000 in
set_option maxRecDepth 100000 in
theorem k_X4_electorAt (l : Launch) {D : va_G} {ad : Nat → Nat} {cy : Nat → ClassId} {phase epoch turns nextTurn all claims sum : Int32} {seed pot rowSeed stream : Int64} {terms weight wait led missed running aside isMem hasCom hasOp leads draws claim elects waits rowLeads rowDraws : Nat → Int32} {deposit committed opened : Nat → Int64} (r : Int64)  : ww_MI l D (mw_t cy) yX4_electorAt wsX4_electorAt (ww_rm 0 0) [.ref (ad 0), .long r] (mw_w ad cy phase epoch turns nextTurn all claims sum seed pot rowSeed stream terms weight wait led missed running aside isMem hasCom hasOp leads draws claim elects waits rowLeads rowDraws deposit committed opened) (mw_w ad cy phase epoch turns nextTurn all claims sum seed pot rowSeed stream terms weight wait led missed running aside isMem hasCom hasOp leads draws claim elects waits rowLeads rowDraws deposit committed opened) (g_ea elects weight r 12 0) := by
  refine ww_MI_mk .int (cc := cX4_electorAt) (maxL := 6) (by decide) rfl (Nat.le_of_ble_eq_true rfl) ?_
  intro p e s m below meth c A ls hx hb hr hts hown hlk hml hA hw hl
  have hown : s.vm.findClass RX4 = some m.cls := hown
  have hl : lv_has ls 6 [(0, .ref (ad 0)), (1, .long r)] := hl
  have hn4 : ∀ w ∈ wsX40, w ∈ wsX4_electorAt := by decide +kernel
  refine lv_lconst (v := 0) hx hb dX4_electorAt_0 (by decide) ?_
  refine lv_lstore_n (lv' := [(3, .long 0), (0, .ref (ad 0)), (1, .long r)]) hx hb dX4_electorAt_1 rfl hl (by decide) rfl (fun ls hl => ?_)
  refine lv_iconst (v := 0) hx hb dX4_electorAt_2 (by decide) ?_
  refine lv_istore (lv' := [(5, .int 0), (3, .long 0), (0, .ref (ad 0)), (1, .long r)]) hx hb dX4_electorAt_3 hl (by decide) rfl (fun ls hl => ?_)
  have L5 : ∀ (L5n k : Nat), k + L5n = 12 → (g_ea elects weight r 12 0 = g_ea elects weight r L5n k) → ∀ (H : Heap) (locs : List Loc) (ls : Array Slot), ww_W D (mw_t cy) A s (mw_w ad cy phase epoch turns nextTurn all claims sum seed pot rowSeed stream terms weight wait led missed running aside isMem hasCom hasOp leads draws claim elects waits rowLeads rowDraws deposit committed opened) H locs → lv_has ls 6 [(0, .ref (ad 0)), (1, .long r), (3, .long (g_sa elects weight k)), (5, .int (nI k))] → W p l e (ww_rm 0 0) s m ([.ref (ad 0), .long r] : List Value).toArray below meth c H locs 0 0 (MQ below (ww_Qi D (mw_t cy) A (mw_w ad cy phase epoch turns nextTurn all claims sum seed pot rowSeed stream terms weight wait led missed running aside isMem hasCom hasOp leads draws claim elects waits rowLeads rowDraws deposit committed opened) (g_ea elects weight r 12 0)) ([.ref (ad 0), .long r] : List Value).toArray s 0 0 A) (F0 m 5 ls []) := by
    intro L5n
    induction L5n with
    | zero =>
      intro k hkk hans H locs ls hw hl
      obtain rfl : 12 = k := by omega
      refine lv_iload hx hb dX4_electorAt_5 (lv_at hl 3 rfl) ?_
      refine lv_bipush (v := 12) hx hb dX4_electorAt_7 (by decide) ?_
      refine lv_icmp_ge (tgt := 62) hx hb dX4_electorAt_9 (by decide) (fun _ => ?_) (fun h1 => absurd (by decide) h1)
      refine lv_iconst (v := (-1)) hx hb dX4_electorAt_62 (by decide) ?_
      exact ww_ri hx hb hr hlk hw dX4_electorAt_63 (by rw [hans]; rfl) rfl
    | succ L5n ihL5 =>
      intro k hkk hans H locs ls hw hl
      have hkkl : k < 12 := by omega
      refine lv_iload hx hb dX4_electorAt_5 (lv_at hl 3 rfl) ?_
      refine lv_bipush (v := 12) hx hb dX4_electorAt_7 (by decide) ?_
      refine lv_icmp_ge (tgt := 62) hx hb dX4_electorAt_9 (by decide) (fun h2 => absurd h2 (nI_nge 12 rfl hkkl (by decide))) (fun _ => ?_)
      refine lv_lload_n hx hb dX4_electorAt_12 rfl (lv_at hl 2 rfl) ?_
      refine lv_aload_n hx hb dX4_electorAt_13 rfl (lv_at hl 0 rfl) ?_
      refine mg_elects hx hb hts hn4 hown hw (hts (.fieldLink RX4 60 "LeaderRowsModel" "elects" "[Z") (by decide +kernel)) dX4_electorAt_14 ?_
      refine lv_iload hx hb dX4_electorAt_17 (lv_at hl 3 rfl) ?_
      refine ma_elects hx hb hw k (by omega) rfl dX4_electorAt_19 ?_
      refine ww_joinL (rest := [.long (g_sa elects weight k)]) 35 (if (elects k) = 0 then 0 else (weight k).toInt64) (fun K3 => ?_) ?_
      · refine lv_if_eq (tgt := 34) hx hb dX4_electorAt_20 (by decide) (fun h4 => ?_) (fun h4 => ?_)
        · refine lv_lconst (v := 0) hx hb dX4_electorAt_34 (by decide) ?_
          exact ww_topl (by rw [if_pos h4]) K3
        · refine lv_aload_n hx hb dX4_electorAt_23 rfl (lv_at hl 0 rfl) ?_
          refine mg_weight hx hb hts hn4 hown hw (hts (.fieldLink RX4 13 "LeaderRowsModel" "weight" "[I") (by decide +kernel)) dX4_electorAt_24 ?_
          refine lv_iload hx hb dX4_electorAt_27 (lv_at hl 3 rfl) ?_
          refine ma_weight hx hb hw k (by omega) rfl dX4_electorAt_29 ?_
          refine lv_i2l hx hb dX4_electorAt_30 rfl ?_
          refine lv_goto (tgt := 35) hx hb dX4_electorAt_31 (by decide) ?_
          exact ww_topl (by rw [if_neg h4]) K3
      refine lv_ladd hx hb dX4_electorAt_35 ?_
      refine lv_lstore_n (lv' := [(3, .long ((g_sa elects weight k) + (if (elects k) = 0 then 0 else (weight k).toInt64))), (0, .ref (ad 0)), (1, .long r), (5, .int (nI k))]) hx hb dX4_electorAt_36 rfl hl (by decide) rfl (fun ls hl => ?_)
      refine lv_aload_n hx hb dX4_electorAt_37 rfl (lv_at hl 1 rfl) ?_
      refine mg_elects hx hb hts hn4 hown hw (hts (.fieldLink RX4 60 "LeaderRowsModel" "elects" "[Z") (by decide +kernel)) dX4_electorAt_38 ?_
      refine lv_iload hx hb dX4_electorAt_41 (lv_at hl 3 rfl) ?_
      refine ma_elects hx hb hw k (by omega) rfl dX4_electorAt_43 ?_
      refine lv_if_eq (tgt := 56) hx hb dX4_electorAt_44 (by decide) (fun h5 => ?_) (fun h5 => ?_)
      · refine lv_iinc (v := nI (k + 1)) (lv' := [(5, .int (nI (k + 1))), (3, .long ((g_sa elects weight k) + (if (elects k) = 0 then 0 else (weight k).toInt64))), (0, .ref (ad 0)), (1, .long r)]) hx hb dX4_electorAt_56 hl (k := 3) rfl (nI_1 k) (by decide) rfl (fun ls hl => ?_)
        refine lv_goto (tgt := 5) hx hb dX4_electorAt_59 (by decide) ?_
        have q6 : ((g_sa elects weight k) + (if (elects k) = 0 then 0 else (weight k).toInt64)) = g_sa elects weight (k + 1) := rfl
        have hl9 : lv_has ls 6 [(0, .ref (ad 0)), (1, .long r), (3, .long (g_sa elects weight (k + 1))), (5, .int (nI (k + 1)))] := by rw [← q6]; exact lv_sub hl [2, 3, 1, 0] rfl
        exact ihL5 (k + 1) (by omega) (by rw [hans, g_ea]; first | (rw [if_pos h5]; done) | (rw [if_neg rfl, if_pos (show g_sa elects weight (k + 1) ≤ r from h5)]; done)) _ _ ls hw hl9
      · refine lv_lload_n hx hb dX4_electorAt_47 rfl (lv_at hl 0 rfl) ?_
        refine lv_lload_n hx hb dX4_electorAt_48 rfl (lv_at hl 2 rfl) ?_
        refine ww_lif_le (tgt := 56) hx hb dX4_electorAt_49 dX4_electorAt_50 (by decide) (fun h7 => ?_) (fun h7 => ?_)
        · refine lv_iinc (v := nI (k + 1)) (lv' := [(5, .int (nI (k + 1))), (3, .long ((g_sa elects weight k) + (if (elects k) = 0 then 0 else (weight k).toInt64))), (0, .ref (ad 0)), (1, .long r)]) hx hb dX4_electorAt_56 hl (k := 3) rfl (nI_1 k) (by decide) rfl (fun ls hl => ?_)
          refine lv_goto (tgt := 5) hx hb dX4_electorAt_59 (by decide) ?_
          have q8 : ((g_sa elects weight k) + (if (elects k) = 0 then 0 else (weight k).toInt64)) = g_sa elects weight (k + 1) := rfl
          have hl9 : lv_has ls 6 [(0, .ref (ad 0)), (1, .long r), (3, .long (g_sa elects weight (k + 1))), (5, .int (nI (k + 1)))] := by rw [← q8]; exact lv_sub hl [2, 3, 1, 0] rfl
          exact ihL5 (k + 1) (by omega) (by rw [hans, g_ea]; first | (rw [if_pos h7]; done) | (rw [if_neg h5, if_pos (show g_sa elects weight (k + 1) ≤ r from h7)]; done)) _ _ ls hw hl9
        · refine lv_iload hx hb dX4_electorAt_53 (lv_at hl 3 rfl) ?_
          exact ww_ri hx hb hr hlk hw dX4_electorAt_55 (by rw [hans, g_ea, if_neg h5, if_neg (show ¬ g_sa elects weight (k + 1) ≤ r from h7)]) rfl
  exact L5 12 0 (by omega) rfl _ _ ls hw (lv_sub hl [2, 3, 1, 0] (by first | rfl | (simp [lv_pick])))
set_option maxHeartbeats 4000000 in
set_option maxRecDepth 100000 in
theorem k_X4_make (l : Launch) {D : va_G} {ad : Nat → Nat} {cy : Nat → ClassId} {phase epoch turns nextTurn all claims sum : Int32} {seed pot rowSeed stream : Int64} {terms weight wait led missed running aside isMem hasCom hasOp leads draws claim elects waits rowLeads rowDraws : Nat → Int32} {deposit committed opened : Nat → Int64} (t : Nat)  (ht : t ≤ 60) (hf : 0 < t → g_fit elects weight sum)  : ww_MV l D (mw_t cy) yX4_make wsX4_make (ww_rm 2 51) [.ref (ad 0), .int (nI t)] (mw_w ad cy phase epoch turns nextTurn all claims sum seed pot rowSeed stream terms weight wait led missed running aside isMem hasCom hasOp leads draws claim elects waits rowLeads rowDraws deposit committed opened) (mw_w ad cy phase epoch turns nextTurn all claims sum seed pot rowSeed ((g_S (g_w elects weight) (terms 0) sum rowSeed waits t).1) terms weight wait led missed running aside isMem hasCom hasOp leads draws claim elects ((g_S (g_w elects weight) (terms 0) sum rowSeed waits t).2) (mx t (g_L (g_w elects weight) (terms 0) sum rowSeed waits) rowLeads) (mx t (g_N (g_w elects weight) (terms 0) sum rowSeed waits) rowDraws) deposit committed opened) := by
  refine ww_MV_mk (cc := cX4_make) (maxL := 5) (by decide) rfl (Nat.le_of_ble_eq_true rfl) ?_
  intro p e s m below meth c A ls hx hb hr hts hown hlk hml hA hw hl
  have hown : s.vm.findClass RX4 = some m.cls := hown
  have hl : lv_has ls 5 [(0, .ref (ad 0)), (1, .int (nI t))] := hl
  have hn4 : ∀ w ∈ wsX40, w ∈ wsX4_make := by decide +kernel
  refine lv_aload_n hx hb dX4_make_0 rfl (lv_at hl 0 rfl) ?_
  refine lv_aload_n hx hb dX4_make_1 rfl (lv_at hl 0 rfl) ?_
  refine mg_rowSeed hx hb hts hn4 hown hw (hts (.fieldLink RX4 130 "LeaderRowsModel" "rowSeed" "J") (by decide +kernel)) dX4_make_2 ?_
  refine mp_stream hx hb hts hn4 hown hw (hts (.fieldLink RX4 137 "LeaderRowsModel" "stream" "J") (by decide +kernel)) dX4_make_5 (fun H locs hw => ?_)
  refine lv_iconst (v := 0) hx hb dX4_make_8 (by decide) ?_
  refine lv_istore_n (lv' := [(2, .int 0), (0, .ref (ad 0)), (1, .int (nI t))]) hx hb dX4_make_9 rfl hl (by decide) rfl (fun ls hl => ?_)
  have L10 : ∀ (L10n k : Nat), k + L10n = t → ∀ (H : Heap) (locs : List Loc) (ls : Array Slot), ww_W D (mw_t cy) A s (mw_w ad cy phase epoch turns nextTurn all claims sum seed pot rowSeed ((g_S (g_w elects weight) (terms 0) sum rowSeed waits k).1) terms weight wait led missed running aside isMem hasCom hasOp leads draws claim elects ((g_S (g_w elects weight) (terms 0) sum rowSeed waits k).2) (mx k (g_L (g_w elects weight) (terms 0) sum rowSeed waits) rowLeads) (mx k (g_N (g_w elects weight) (terms 0) sum rowSeed waits) rowDraws) deposit committed opened) H locs → lv_has ls 5 [(0, .ref (ad 0)), (1, .int (nI t)), (2, .int (nI k))] → W p l e (ww_rm 2 51) s m ([.ref (ad 0), .int (nI t)] : List Value).toArray below meth c H locs 0 0 (MQ below (ww_Qv D (mw_t cy) A (mw_w ad cy phase epoch turns nextTurn all claims sum seed pot rowSeed ((g_S (g_w elects weight) (terms 0) sum rowSeed waits t).1) terms weight wait led missed running aside isMem hasCom hasOp leads draws claim elects ((g_S (g_w elects weight) (terms 0) sum rowSeed waits t).2) (mx t (g_L (g_w elects weight) (terms 0) sum rowSeed waits) rowLeads) (mx t (g_N (g_w elects weight) (terms 0) sum rowSeed waits) rowDraws) deposit committed opened)) ([.ref (ad 0), .int (nI t)] : List Value).toArray s 0 0 A) (F0 m 10 ls []) := by
    intro L10n
    induction L10n with
    | zero =>
      intro k hkk  H locs ls hw hl
      obtain rfl : t = k := by omega
      refine lv_iload_n hx hb dX4_make_10 rfl (lv_at hl 2 rfl) ?_
      refine lv_iload_n hx hb dX4_make_11 rfl (lv_at hl 1 rfl) ?_
      refine lv_icmp_ge (tgt := 117) hx hb dX4_make_12 (by decide) (fun _ => ?_) (fun h1 => absurd (nI_le (Nat.le_refl _) (by omega)) h1)
      exact ww_rv hx hb hr hlk hw dX4_make_117 rfl
    | succ L10n ihL10 =>
      intro k hkk  H locs ls hw hl
      have hkkl : k < t := by omega
      have hF : g_fit elects weight sum := hf (by omega)
      refine lv_iload_n hx hb dX4_make_10 rfl (lv_at hl 2 rfl) ?_
      refine lv_iload_n hx hb dX4_make_11 rfl (lv_at hl 1 rfl) ?_
      refine lv_icmp_ge (tgt := 117) hx hb dX4_make_12 (by decide) (fun h2 => absurd h2 (nI_ge hkkl (by omega))) (fun _ => ?_)
      refine lv_aload_n hx hb dX4_make_15 rfl (lv_at hl 0 rfl) ?_
      refine mg_rowDraws hx hb hts hn4 hown hw (hts (.fieldLink RX4 69 "LeaderRowsModel" "rowDraws" "[I") (by decide +kernel)) dX4_make_16 ?_
      refine lv_iload_n hx hb dX4_make_19 rfl (lv_at hl 2 rfl) ?_
      refine lv_iconst (v := 0) hx hb dX4_make_20 (by decide) ?_
      refine ms_rowDraws hx hb hw k (by omega) rfl dX4_make_21 (fun H locs hw => ?_)
      refine lv_aload_n hx hb dX4_make_22 rfl (lv_at hl 0 rfl) ?_
      refine ww_cMI (As := []) (rest := []) hx hb hml hown hts hA hw hl.1 (k_X4_overdue l ) (cwV 0 hts gX4_make_X4_overdue rfl rfl rfl (by decide +kernel) ⟨Nat.le_of_ble_eq_true rfl, Nat.le_of_ble_eq_true rfl⟩) rfl 0 rfl rfl rfl rfl (Nat.le_of_ble_eq_true rfl) ⟨Nat.zero_le _, Nat.zero_le _⟩ dX4_make_23 (fun H locs hw => ?_)
      refine lv_istore_n (lv' := [(3, .int (g_mf elects weight ((g_S (g_w elects weight) (terms 0) sum rowSeed waits k).2) (terms 0) sum 12)), (0, .ref (ad 0)), (1, .int (nI t)), (2, .int (nI k))]) hx hb dX4_make_26 rfl hl (by decide) rfl (fun ls hl => ?_)
      refine lv_iload_n hx hb dX4_make_27 rfl (lv_at hl 0 rfl) ?_
      refine lv_if_ge (tgt := 42) hx hb dX4_make_28 (by decide) (fun h3 => ?_) (fun h3 => ?_)
      · try (have hW9 : g_mf elects weight ((g_S (g_w elects weight) (terms 0) sum rowSeed waits k).2) (terms 0) sum 12 = g_who (g_w elects weight) (g_S (g_w elects weight) (terms 0) sum rowSeed waits k).2 (terms 0) sum (g_S (g_w elects weight) (terms 0) sum rowSeed waits k).1 (g_n (g_t sum) (g_S (g_w elects weight) (terms 0) sum rowSeed waits k).1) := od_who hF (by assumption); rw [hW9] at hl)
        refine lv_aload_n hx hb dX4_make_42 rfl (lv_at hl 1 rfl) ?_
        refine mg_rowLeads hx hb hts hn4 hown hw (hts (.fieldLink RX4 66 "LeaderRowsModel" "rowLeads" "[I") (by decide +kernel)) dX4_make_43 ?_
        refine lv_iload_n hx hb dX4_make_46 rfl (lv_at hl 3 rfl) ?_
        refine lv_iload_n hx hb dX4_make_47 rfl (lv_at hl 0 rfl) ?_
        refine ms_rowLeads hx hb hw k (by omega) rfl dX4_make_48 (fun H locs hw => ?_)
        refine lv_iconst (v := 0) hx hb dX4_make_49 (by decide) ?_
        refine lv_istore (lv' := [(4, .int 0), (3, .int (g_who (g_w elects weight) (g_S (g_w elects weight) (terms 0) sum rowSeed waits k).2 (terms 0) sum (g_S (g_w elects weight) (terms 0) sum rowSeed waits k).1 (g_n (g_t sum) (g_S (g_w elects weight) (terms 0) sum rowSeed waits k).1))), (0, .ref (ad 0)), (1, .int (nI t)), (2, .int (nI k))]) hx hb dX4_make_50 hl (by decide) rfl (fun ls hl => ?_)
        have L52 : ∀ (L52n m_ : Nat), m_ + L52n = 12 → ∀ (H : Heap) (locs : List Loc) (ls : Array Slot), ww_W D (mw_t cy) A s (mw_w ad cy phase epoch turns nextTurn all claims sum seed pot rowSeed ((g_S (g_w elects weight) (terms 0) sum rowSeed waits k).1) terms weight wait led missed running aside isMem hasCom hasOp leads draws claim elects (mx m_ (g_pt (g_w elects weight) (g_S (g_w elects weight) (terms 0) sum rowSeed waits k).2 (g_who (g_w elects weight) (g_S (g_w elects weight) (terms 0) sum rowSeed waits k).2 (terms 0) sum (g_S (g_w elects weight) (terms 0) sum rowSeed waits k).1 (g_n (g_t sum) (g_S (g_w elects weight) (terms 0) sum rowSeed waits k).1))) (g_S (g_w elects weight) (terms 0) sum rowSeed waits k).2) (upd (mx k (g_L (g_w elects weight) (terms 0) sum rowSeed waits) rowLeads) k (g_who (g_w elects weight) (g_S (g_w elects weight) (terms 0) sum rowSeed waits k).2 (terms 0) sum (g_S (g_w elects weight) (terms 0) sum rowSeed waits k).1 (g_n (g_t sum) (g_S (g_w elects weight) (terms 0) sum rowSeed waits k).1))) (upd (mx k (g_N (g_w elects weight) (terms 0) sum rowSeed waits) rowDraws) k 0) deposit committed opened) H locs → lv_has ls 5 [(0, .ref (ad 0)), (1, .int (nI t)), (2, .int (nI k)), (3, .int (g_who (g_w elects weight) (g_S (g_w elects weight) (terms 0) sum rowSeed waits k).2 (terms 0) sum (g_S (g_w elects weight) (terms 0) sum rowSeed waits k).1 (g_n (g_t sum) (g_S (g_w elects weight) (terms 0) sum rowSeed waits k).1))), (4, .int (nI m_))] → W p l e (ww_rm 2 51) s m ([.ref (ad 0), .int (nI t)] : List Value).toArray below meth c H locs 0 0 (MQ below (ww_Qv D (mw_t cy) A (mw_w ad cy phase epoch turns nextTurn all claims sum seed pot rowSeed ((g_S (g_w elects weight) (terms 0) sum rowSeed waits t).1) terms weight wait led missed running aside isMem hasCom hasOp leads draws claim elects ((g_S (g_w elects weight) (terms 0) sum rowSeed waits t).2) (mx t (g_L (g_w elects weight) (terms 0) sum rowSeed waits) rowLeads) (mx t (g_N (g_w elects weight) (terms 0) sum rowSeed waits) rowDraws) deposit committed opened)) ([.ref (ad 0), .int (nI t)] : List Value).toArray s 0 0 A) (F0 m 52 ls []) := by
          intro L52n
          induction L52n with
          | zero =>
            intro m_ hkm_  H locs ls hw hl
            obtain rfl : 12 = m_ := by omega
            refine lv_iload hx hb dX4_make_52 (lv_at hl 4 rfl) ?_
            refine lv_bipush (v := 12) hx hb dX4_make_54 (by decide) ?_
            refine lv_icmp_ge (tgt := 111) hx hb dX4_make_56 (by decide) (fun _ => ?_) (fun h4 => absurd (by decide) h4)
            refine lv_iinc (v := nI (k + 1)) (lv' := [(2, .int (nI (k + 1))), (0, .ref (ad 0)), (1, .int (nI t)), (3, .int (g_who (g_w elects weight) (g_S (g_w elects weight) (terms 0) sum rowSeed waits k).2 (terms 0) sum (g_S (g_w elects weight) (terms 0) sum rowSeed waits k).1 (g_n (g_t sum) (g_S (g_w elects weight) (terms 0) sum rowSeed waits k).1))), (4, .int (nI 12))]) hx hb dX4_make_111 hl (k := 2) rfl (nI_1 k) (by decide) rfl (fun ls hl => ?_)
            refine lv_goto (tgt := 10) hx hb dX4_make_114 (by decide) ?_
            exact ihL10 (k + 1) (by omega)  _ _ ls ((mw_c rfl rfl rfl rfl rfl rfl rfl rfl rfl rfl (by show _ = g_ns (g_w elects weight) (g_S (g_w elects weight) (terms 0) sum rowSeed waits k).2 (terms 0) sum (g_S (g_w elects weight) (terms 0) sum rowSeed waits k).1 (g_n (g_t sum) (g_S (g_w elects weight) (terms 0) sum rowSeed waits k).1); first | (rw [g_ns, if_neg (od_ge hF h3)]; done) | (rw [g_ns, if_pos (od_lt hF h3)]; done)) rfl rfl rfl rfl rfl rfl rfl rfl rfl rfl rfl rfl rfl rfl (rfl) (mx_up rfl) (by first | exact mx_up (by show _ = g_nn (g_w elects weight) (g_S (g_w elects weight) (terms 0) sum rowSeed waits k).2 (terms 0) sum (g_n (g_t sum) (g_S (g_w elects weight) (terms 0) sum rowSeed waits k).1); rw [g_nn, if_neg (od_ge hF h3)]) | (rw [upd_upd]; exact mx_up (by show _ = g_nn (g_w elects weight) (g_S (g_w elects weight) (terms 0) sum rowSeed waits k).2 (terms 0) sum (g_n (g_t sum) (g_S (g_w elects weight) (terms 0) sum rowSeed waits k).1); rw [g_nn, if_pos (od_lt hF h3)]))) rfl rfl rfl : mw_w ad cy phase epoch turns nextTurn all claims sum seed pot rowSeed ((g_S (g_w elects weight) (terms 0) sum rowSeed waits k).1) terms weight wait led missed running aside isMem hasCom hasOp leads draws claim elects (mx 12 (g_pt (g_w elects weight) (g_S (g_w elects weight) (terms 0) sum rowSeed waits k).2 (g_who (g_w elects weight) (g_S (g_w elects weight) (terms 0) sum rowSeed waits k).2 (terms 0) sum (g_S (g_w elects weight) (terms 0) sum rowSeed waits k).1 (g_n (g_t sum) (g_S (g_w elects weight) (terms 0) sum rowSeed waits k).1))) (g_S (g_w elects weight) (terms 0) sum rowSeed waits k).2) (upd (mx k (g_L (g_w elects weight) (terms 0) sum rowSeed waits) rowLeads) k (g_who (g_w elects weight) (g_S (g_w elects weight) (terms 0) sum rowSeed waits k).2 (terms 0) sum (g_S (g_w elects weight) (terms 0) sum rowSeed waits k).1 (g_n (g_t sum) (g_S (g_w elects weight) (terms 0) sum rowSeed waits k).1))) (upd (mx k (g_N (g_w elects weight) (terms 0) sum rowSeed waits) rowDraws) k 0) deposit committed opened = mw_w ad cy phase epoch turns nextTurn all claims sum seed pot rowSeed ((g_S (g_w elects weight) (terms 0) sum rowSeed waits (k + 1)).1) terms weight wait led missed running aside isMem hasCom hasOp leads draws claim elects ((g_S (g_w elects weight) (terms 0) sum rowSeed waits (k + 1)).2) (mx (k + 1) (g_L (g_w elects weight) (terms 0) sum rowSeed waits) rowLeads) (mx (k + 1) (g_N (g_w elects weight) (terms 0) sum rowSeed waits) rowDraws) deposit committed opened) ▸ hw) (lv_sub hl [1, 2, 0] rfl)
          | succ L52n ihL52 =>
            intro m_ hkm_  H locs ls hw hl
            have hkm_l : m_ < 12 := by omega
            refine lv_iload hx hb dX4_make_52 (lv_at hl 4 rfl) ?_
            refine lv_bipush (v := 12) hx hb dX4_make_54 (by decide) ?_
            refine lv_icmp_ge (tgt := 111) hx hb dX4_make_56 (by decide) (fun h5 => absurd h5 (nI_nge 12 rfl hkm_l (by decide))) (fun _ => ?_)
            refine lv_aload_n hx hb dX4_make_59 rfl (lv_at hl 0 rfl) ?_
            refine mg_waits hx hb hts hn4 hown hw (hts (.fieldLink RX4 63 "LeaderRowsModel" "waits" "[I") (by decide +kernel)) dX4_make_60 ?_
            refine lv_iload hx hb dX4_make_63 (lv_at hl 4 rfl) ?_
            refine lv_iload hx hb dX4_make_65 (lv_at hl 4 rfl) ?_
            refine lv_iload_n hx hb dX4_make_67 rfl (lv_at hl 3 rfl) ?_
            refine ww_joinI (rest := [.int (nI m_), .ref (ad 18)]) 104 (if (nI m_) = (g_who (g_w elects weight) (g_S (g_w elects weight) (terms 0) sum rowSeed waits k).2 (terms 0) sum (g_S (g_w elects weight) (terms 0) sum rowSeed waits k).1 (g_n (g_t sum) (g_S (g_w elects weight) (terms 0) sum rowSeed waits k).1)) then 0 else if (elects m_) = 0 then (mx m_ (g_pt (g_w elects weight) (g_S (g_w elects weight) (terms 0) sum rowSeed waits k).2 (g_who (g_w elects weight) (g_S (g_w elects weight) (terms 0) sum rowSeed waits k).2 (terms 0) sum (g_S (g_w elects weight) (terms 0) sum rowSeed waits k).1 (g_n (g_t sum) (g_S (g_w elects weight) (terms 0) sum rowSeed waits k).1))) (g_S (g_w elects weight) (terms 0) sum rowSeed waits k).2) m_ else ((mx m_ (g_pt (g_w elects weight) (g_S (g_w elects weight) (terms 0) sum rowSeed waits k).2 (g_who (g_w elects weight) (g_S (g_w elects weight) (terms 0) sum rowSeed waits k).2 (terms 0) sum (g_S (g_w elects weight) (terms 0) sum rowSeed waits k).1 (g_n (g_t sum) (g_S (g_w elects weight) (terms 0) sum rowSeed waits k).1))) (g_S (g_w elects weight) (terms 0) sum rowSeed waits k).2) m_) + 1) (fun K6 => ?_) ?_
            · refine lv_icmp_ne (tgt := 75) hx hb dX4_make_68 (by decide) (fun h7 => ?_) (fun h7 => ?_)
              · refine lv_aload_n hx hb dX4_make_75 rfl (lv_at hl 0 rfl) ?_
                refine mg_elects hx hb hts hn4 hown hw (hts (.fieldLink RX4 60 "LeaderRowsModel" "elects" "[Z") (by decide +kernel)) dX4_make_76 ?_
                refine lv_iload hx hb dX4_make_79 (lv_at hl 4 rfl) ?_
                refine ma_elects hx hb hw m_ (by omega) rfl dX4_make_81 ?_
                refine lv_if_eq (tgt := 97) hx hb dX4_make_82 (by decide) (fun h8 => ?_) (fun h8 => ?_)
                · refine lv_aload_n hx hb dX4_make_97 rfl (lv_at hl 0 rfl) ?_
                  refine mg_waits hx hb hts hn4 hown hw (hts (.fieldLink RX4 63 "LeaderRowsModel" "waits" "[I") (by decide +kernel)) dX4_make_98 ?_
                  refine lv_iload hx hb dX4_make_101 (lv_at hl 4 rfl) ?_
                  refine ma_waits hx hb hw m_ (by omega) rfl dX4_make_103 ?_
                  exact ww_top (by rw [if_neg h7, if_pos h8]) K6
                · refine lv_aload_n hx hb dX4_make_85 rfl (lv_at hl 0 rfl) ?_
                  refine mg_waits hx hb hts hn4 hown hw (hts (.fieldLink RX4 63 "LeaderRowsModel" "waits" "[I") (by decide +kernel)) dX4_make_86 ?_
                  refine lv_iload hx hb dX4_make_89 (lv_at hl 4 rfl) ?_
                  refine ma_waits hx hb hw m_ (by omega) rfl dX4_make_91 ?_
                  refine lv_iconst (v := 1) hx hb dX4_make_92 (by decide) ?_
                  refine lv_iadd hx hb dX4_make_93 ?_
                  refine lv_goto (tgt := 104) hx hb dX4_make_94 (by decide) ?_
                  exact ww_top (by rw [if_neg h7, if_neg h8]) K6
              · refine lv_iconst (v := 0) hx hb dX4_make_71 (by decide) ?_
                refine lv_goto (tgt := 104) hx hb dX4_make_72 (by decide) ?_
                exact ww_top (by rw [if_pos h7]) K6
            refine ms_waits hx hb hw m_ (by omega) rfl dX4_make_104 (fun H locs hw => ?_)
            refine lv_iinc (v := nI (m_ + 1)) (lv' := [(4, .int (nI (m_ + 1))), (0, .ref (ad 0)), (1, .int (nI t)), (2, .int (nI k)), (3, .int (g_who (g_w elects weight) (g_S (g_w elects weight) (terms 0) sum rowSeed waits k).2 (terms 0) sum (g_S (g_w elects weight) (terms 0) sum rowSeed waits k).1 (g_n (g_t sum) (g_S (g_w elects weight) (terms 0) sum rowSeed waits k).1)))]) hx hb dX4_make_105 hl (k := 4) rfl (nI_1 m_) (by decide) rfl (fun ls hl => ?_)
            refine lv_goto (tgt := 52) hx hb dX4_make_108 (by decide) ?_
            exact ihL52 (m_ + 1) (by omega)  _ _ ls ((mw_c rfl rfl rfl rfl rfl rfl rfl rfl rfl rfl rfl rfl rfl rfl rfl rfl rfl rfl rfl rfl rfl rfl rfl rfl rfl (mx_up (by rw [mx_at]; exact pm_e hF hkm_l)) rfl rfl rfl rfl rfl : mw_w ad cy phase epoch turns nextTurn all claims sum seed pot rowSeed ((g_S (g_w elects weight) (terms 0) sum rowSeed waits k).1) terms weight wait led missed running aside isMem hasCom hasOp leads draws claim elects (upd (mx m_ (g_pt (g_w elects weight) (g_S (g_w elects weight) (terms 0) sum rowSeed waits k).2 (g_who (g_w elects weight) (g_S (g_w elects weight) (terms 0) sum rowSeed waits k).2 (terms 0) sum (g_S (g_w elects weight) (terms 0) sum rowSeed waits k).1 (g_n (g_t sum) (g_S (g_w elects weight) (terms 0) sum rowSeed waits k).1))) (g_S (g_w elects weight) (terms 0) sum rowSeed waits k).2) m_ (if (nI m_) = (g_who (g_w elects weight) (g_S (g_w elects weight) (terms 0) sum rowSeed waits k).2 (terms 0) sum (g_S (g_w elects weight) (terms 0) sum rowSeed waits k).1 (g_n (g_t sum) (g_S (g_w elects weight) (terms 0) sum rowSeed waits k).1)) then 0 else if (elects m_) = 0 then (mx m_ (g_pt (g_w elects weight) (g_S (g_w elects weight) (terms 0) sum rowSeed waits k).2 (g_who (g_w elects weight) (g_S (g_w elects weight) (terms 0) sum rowSeed waits k).2 (terms 0) sum (g_S (g_w elects weight) (terms 0) sum rowSeed waits k).1 (g_n (g_t sum) (g_S (g_w elects weight) (terms 0) sum rowSeed waits k).1))) (g_S (g_w elects weight) (terms 0) sum rowSeed waits k).2) m_ else ((mx m_ (g_pt (g_w elects weight) (g_S (g_w elects weight) (terms 0) sum rowSeed waits k).2 (g_who (g_w elects weight) (g_S (g_w elects weight) (terms 0) sum rowSeed waits k).2 (terms 0) sum (g_S (g_w elects weight) (terms 0) sum rowSeed waits k).1 (g_n (g_t sum) (g_S (g_w elects weight) (terms 0) sum rowSeed waits k).1))) (g_S (g_w elects weight) (terms 0) sum rowSeed waits k).2) m_) + 1)) (upd (mx k (g_L (g_w elects weight) (terms 0) sum rowSeed waits) rowLeads) k (g_who (g_w elects weight) (g_S (g_w elects weight) (terms 0) sum rowSeed waits k).2 (terms 0) sum (g_S (g_w elects weight) (terms 0) sum rowSeed waits k).1 (g_n (g_t sum) (g_S (g_w elects weight) (terms 0) sum rowSeed waits k).1))) (upd (mx k (g_N (g_w elects weight) (terms 0) sum rowSeed waits) rowDraws) k 0) deposit committed opened = mw_w ad cy phase epoch turns nextTurn all claims sum seed pot rowSeed ((g_S (g_w elects weight) (terms 0) sum rowSeed waits k).1) terms weight wait led missed running aside isMem hasCom hasOp leads draws claim elects (mx (m_ + 1) (g_pt (g_w elects weight) (g_S (g_w elects weight) (terms 0) sum rowSeed waits k).2 (g_who (g_w elects weight) (g_S (g_w elects weight) (terms 0) sum rowSeed waits k).2 (terms 0) sum (g_S (g_w elects weight) (terms 0) sum rowSeed waits k).1 (g_n (g_t sum) (g_S (g_w elects weight) (terms 0) sum rowSeed waits k).1))) (g_S (g_w elects weight) (terms 0) sum rowSeed waits k).2) (upd (mx k (g_L (g_w elects weight) (terms 0) sum rowSeed waits) rowLeads) k (g_who (g_w elects weight) (g_S (g_w elects weight) (terms 0) sum rowSeed waits k).2 (terms 0) sum (g_S (g_w elects weight) (terms 0) sum rowSeed waits k).1 (g_n (g_t sum) (g_S (g_w elects weight) (terms 0) sum rowSeed waits k).1))) (upd (mx k (g_N (g_w elects weight) (terms 0) sum rowSeed waits) rowDraws) k 0) deposit committed opened) ▸ hw) (lv_sub hl [1, 2, 3, 4, 0] rfl)
        exact L52 12 0 (by omega)  _ _ ls ((mw_c rfl rfl rfl rfl rfl rfl rfl rfl rfl rfl rfl rfl rfl rfl rfl rfl rfl rfl rfl rfl rfl rfl rfl rfl rfl ((mx_0 _ _).symm) rfl rfl rfl rfl rfl : mw_w ad cy phase epoch turns nextTurn all claims sum seed pot rowSeed ((g_S (g_w elects weight) (terms 0) sum rowSeed waits k).1) terms weight wait led missed running aside isMem hasCom hasOp leads draws claim elects ((g_S (g_w elects weight) (terms 0) sum rowSeed waits k).2) (upd (mx k (g_L (g_w elects weight) (terms 0) sum rowSeed waits) rowLeads) k (g_who (g_w elects weight) (g_S (g_w elects weight) (terms 0) sum rowSeed waits k).2 (terms 0) sum (g_S (g_w elects weight) (terms 0) sum rowSeed waits k).1 (g_n (g_t sum) (g_S (g_w elects weight) (terms 0) sum rowSeed waits k).1))) (upd (mx k (g_N (g_w elects weight) (terms 0) sum rowSeed waits) rowDraws) k 0) deposit committed opened = mw_w ad cy phase epoch turns nextTurn all claims sum seed pot rowSeed ((g_S (g_w elects weight) (terms 0) sum rowSeed waits k).1) terms weight wait led missed running aside isMem hasCom hasOp leads draws claim elects (mx 0 (g_pt (g_w elects weight) (g_S (g_w elects weight) (terms 0) sum rowSeed waits k).2 (g_who (g_w elects weight) (g_S (g_w elects weight) (terms 0) sum rowSeed waits k).2 (terms 0) sum (g_S (g_w elects weight) (terms 0) sum rowSeed waits k).1 (g_n (g_t sum) (g_S (g_w elects weight) (terms 0) sum rowSeed waits k).1))) (g_S (g_w elects weight) (terms 0) sum rowSeed waits k).2) (upd (mx k (g_L (g_w elects weight) (terms 0) sum rowSeed waits) rowLeads) k (g_who (g_w elects weight) (g_S (g_w elects weight) (terms 0) sum rowSeed waits k).2 (terms 0) sum (g_S (g_w elects weight) (terms 0) sum rowSeed waits k).1 (g_n (g_t sum) (g_S (g_w elects weight) (terms 0) sum rowSeed waits k).1))) (upd (mx k (g_N (g_w elects weight) (terms 0) sum rowSeed waits) rowDraws) k 0) deposit committed opened) ▸ hw) (lv_sub hl [2, 3, 4, 1, 0] (by first | rfl | (simp [lv_pick])))
      · refine lv_aload_n hx hb dX4_make_31 rfl (lv_at hl 1 rfl) ?_
        refine lv_aload_n hx hb dX4_make_32 rfl (lv_at hl 1 rfl) ?_
        refine lv_iload_n hx hb dX4_make_33 rfl (lv_at hl 3 rfl) ?_
        refine ww_cMI (As := [.int (nI k)]) (rest := [.ref (ad 0)]) hx hb hml hown hts hA hw hl.1 (k_X4_below l k (g_n (g_t sum) (g_S (g_w elects weight) (terms 0) sum rowSeed waits k).1)  (by omega) hF.2.1 (fit_rest hF) (fit_um hF) (fit_ok hF _) (upd_s _ _ _)) (cwV 1 hts gX4_make_X4_below rfl rfl rfl (by decide +kernel) ⟨Nat.le_of_ble_eq_true rfl, Nat.le_of_ble_eq_true rfl⟩) rfl 0 rfl rfl rfl rfl (Nat.le_of_ble_eq_true rfl) ⟨Nat.zero_le _, Nat.zero_le _⟩ dX4_make_34 (fun H locs hw => ?_)
        refine lv_i2l hx hb dX4_make_37 rfl ?_
        refine ww_cMI (As := [.long (((f_ru (f_mix (sG ((g_S (g_w elects weight) (terms 0) sum rowSeed waits k).1) (g_n (g_t sum) (g_S (g_w elects weight) (terms 0) sum rowSeed waits k).1))) sum.toInt64).toInt32).toInt64)]) (rest := []) hx hb hml hown hts hA hw hl.1 (k_X4_electorAt l (((f_ru (f_mix (sG ((g_S (g_w elects weight) (terms 0) sum rowSeed waits k).1) (g_n (g_t sum) (g_S (g_w elects weight) (terms 0) sum rowSeed waits k).1))) sum.toInt64).toInt32).toInt64)) (cwV 1 hts gX4_make_X4_electorAt rfl rfl rfl (by decide +kernel) ⟨Nat.le_of_ble_eq_true rfl, Nat.le_of_ble_eq_true rfl⟩) rfl 0 rfl rfl rfl rfl (Nat.le_of_ble_eq_true rfl) ⟨Nat.zero_le _, Nat.zero_le _⟩ dX4_make_38 (fun H locs hw => ?_)
        refine ww_top (ea_who hF h3) ?_
        refine lv_istore_n (lv' := [(3, .int (g_who (g_w elects weight) (g_S (g_w elects weight) (terms 0) sum rowSeed waits k).2 (terms 0) sum (g_S (g_w elects weight) (terms 0) sum rowSeed waits k).1 (g_n (g_t sum) (g_S (g_w elects weight) (terms 0) sum rowSeed waits k).1))), (0, .ref (ad 0)), (1, .int (nI t)), (2, .int (nI k))]) hx hb dX4_make_41 rfl hl (by decide) rfl (fun ls hl => ?_)
        try (have hW9 : g_mf elects weight ((g_S (g_w elects weight) (terms 0) sum rowSeed waits k).2) (terms 0) sum 12 = g_who (g_w elects weight) (g_S (g_w elects weight) (terms 0) sum rowSeed waits k).2 (terms 0) sum (g_S (g_w elects weight) (terms 0) sum rowSeed waits k).1 (g_n (g_t sum) (g_S (g_w elects weight) (terms 0) sum rowSeed waits k).1) := od_who hF (by assumption); rw [hW9] at hl)
        refine lv_aload_n hx hb dX4_make_42 rfl (lv_at hl 1 rfl) ?_
        refine mg_rowLeads hx hb hts hn4 hown hw (hts (.fieldLink RX4 66 "LeaderRowsModel" "rowLeads" "[I") (by decide +kernel)) dX4_make_43 ?_
        refine lv_iload_n hx hb dX4_make_46 rfl (lv_at hl 3 rfl) ?_
        refine lv_iload_n hx hb dX4_make_47 rfl (lv_at hl 0 rfl) ?_
        refine ms_rowLeads hx hb hw k (by omega) rfl dX4_make_48 (fun H locs hw => ?_)
        refine lv_iconst (v := 0) hx hb dX4_make_49 (by decide) ?_
        refine lv_istore (lv' := [(4, .int 0), (3, .int (g_who (g_w elects weight) (g_S (g_w elects weight) (terms 0) sum rowSeed waits k).2 (terms 0) sum (g_S (g_w elects weight) (terms 0) sum rowSeed waits k).1 (g_n (g_t sum) (g_S (g_w elects weight) (terms 0) sum rowSeed waits k).1))), (0, .ref (ad 0)), (1, .int (nI t)), (2, .int (nI k))]) hx hb dX4_make_50 hl (by decide) rfl (fun ls hl => ?_)
        have L52 : ∀ (L52n m_ : Nat), m_ + L52n = 12 → ∀ (H : Heap) (locs : List Loc) (ls : Array Slot), ww_W D (mw_t cy) A s (mw_w ad cy phase epoch turns nextTurn all claims sum seed pot rowSeed (sG ((g_S (g_w elects weight) (terms 0) sum rowSeed waits k).1) (g_n (g_t sum) (g_S (g_w elects weight) (terms 0) sum rowSeed waits k).1)) terms weight wait led missed running aside isMem hasCom hasOp leads draws claim elects (mx m_ (g_pt (g_w elects weight) (g_S (g_w elects weight) (terms 0) sum rowSeed waits k).2 (g_who (g_w elects weight) (g_S (g_w elects weight) (terms 0) sum rowSeed waits k).2 (terms 0) sum (g_S (g_w elects weight) (terms 0) sum rowSeed waits k).1 (g_n (g_t sum) (g_S (g_w elects weight) (terms 0) sum rowSeed waits k).1))) (g_S (g_w elects weight) (terms 0) sum rowSeed waits k).2) (upd (mx k (g_L (g_w elects weight) (terms 0) sum rowSeed waits) rowLeads) k (g_who (g_w elects weight) (g_S (g_w elects weight) (terms 0) sum rowSeed waits k).2 (terms 0) sum (g_S (g_w elects weight) (terms 0) sum rowSeed waits k).1 (g_n (g_t sum) (g_S (g_w elects weight) (terms 0) sum rowSeed waits k).1))) (upd (upd (mx k (g_N (g_w elects weight) (terms 0) sum rowSeed waits) rowDraws) k 0) k (nI (g_n (g_t sum) (g_S (g_w elects weight) (terms 0) sum rowSeed waits k).1))) deposit committed opened) H locs → lv_has ls 5 [(0, .ref (ad 0)), (1, .int (nI t)), (2, .int (nI k)), (3, .int (g_who (g_w elects weight) (g_S (g_w elects weight) (terms 0) sum rowSeed waits k).2 (terms 0) sum (g_S (g_w elects weight) (terms 0) sum rowSeed waits k).1 (g_n (g_t sum) (g_S (g_w elects weight) (terms 0) sum rowSeed waits k).1))), (4, .int (nI m_))] → W p l e (ww_rm 2 51) s m ([.ref (ad 0), .int (nI t)] : List Value).toArray below meth c H locs 0 0 (MQ below (ww_Qv D (mw_t cy) A (mw_w ad cy phase epoch turns nextTurn all claims sum seed pot rowSeed ((g_S (g_w elects weight) (terms 0) sum rowSeed waits t).1) terms weight wait led missed running aside isMem hasCom hasOp leads draws claim elects ((g_S (g_w elects weight) (terms 0) sum rowSeed waits t).2) (mx t (g_L (g_w elects weight) (terms 0) sum rowSeed waits) rowLeads) (mx t (g_N (g_w elects weight) (terms 0) sum rowSeed waits) rowDraws) deposit committed opened)) ([.ref (ad 0), .int (nI t)] : List Value).toArray s 0 0 A) (F0 m 52 ls []) := by
          intro L52n
          induction L52n with
          | zero =>
            intro m_ hkm_  H locs ls hw hl
            obtain rfl : 12 = m_ := by omega
            refine lv_iload hx hb dX4_make_52 (lv_at hl 4 rfl) ?_
            refine lv_bipush (v := 12) hx hb dX4_make_54 (by decide) ?_
            refine lv_icmp_ge (tgt := 111) hx hb dX4_make_56 (by decide) (fun _ => ?_) (fun h9 => absurd (by decide) h9)
            refine lv_iinc (v := nI (k + 1)) (lv' := [(2, .int (nI (k + 1))), (0, .ref (ad 0)), (1, .int (nI t)), (3, .int (g_who (g_w elects weight) (g_S (g_w elects weight) (terms 0) sum rowSeed waits k).2 (terms 0) sum (g_S (g_w elects weight) (terms 0) sum rowSeed waits k).1 (g_n (g_t sum) (g_S (g_w elects weight) (terms 0) sum rowSeed waits k).1))), (4, .int (nI 12))]) hx hb dX4_make_111 hl (k := 2) rfl (nI_1 k) (by decide) rfl (fun ls hl => ?_)
            refine lv_goto (tgt := 10) hx hb dX4_make_114 (by decide) ?_
            exact ihL10 (k + 1) (by omega)  _ _ ls ((mw_c rfl rfl rfl rfl rfl rfl rfl rfl rfl rfl (by show _ = g_ns (g_w elects weight) (g_S (g_w elects weight) (terms 0) sum rowSeed waits k).2 (terms 0) sum (g_S (g_w elects weight) (terms 0) sum rowSeed waits k).1 (g_n (g_t sum) (g_S (g_w elects weight) (terms 0) sum rowSeed waits k).1); first | (rw [g_ns, if_neg (od_ge hF h3)]; done) | (rw [g_ns, if_pos (od_lt hF h3)]; done)) rfl rfl rfl rfl rfl rfl rfl rfl rfl rfl rfl rfl rfl rfl (rfl) (mx_up rfl) (by first | exact mx_up (by show _ = g_nn (g_w elects weight) (g_S (g_w elects weight) (terms 0) sum rowSeed waits k).2 (terms 0) sum (g_n (g_t sum) (g_S (g_w elects weight) (terms 0) sum rowSeed waits k).1); rw [g_nn, if_neg (od_ge hF h3)]) | (rw [upd_upd]; exact mx_up (by show _ = g_nn (g_w elects weight) (g_S (g_w elects weight) (terms 0) sum rowSeed waits k).2 (terms 0) sum (g_n (g_t sum) (g_S (g_w elects weight) (terms 0) sum rowSeed waits k).1); rw [g_nn, if_pos (od_lt hF h3)]))) rfl rfl rfl : mw_w ad cy phase epoch turns nextTurn all claims sum seed pot rowSeed (sG ((g_S (g_w elects weight) (terms 0) sum rowSeed waits k).1) (g_n (g_t sum) (g_S (g_w elects weight) (terms 0) sum rowSeed waits k).1)) terms weight wait led missed running aside isMem hasCom hasOp leads draws claim elects (mx 12 (g_pt (g_w elects weight) (g_S (g_w elects weight) (terms 0) sum rowSeed waits k).2 (g_who (g_w elects weight) (g_S (g_w elects weight) (terms 0) sum rowSeed waits k).2 (terms 0) sum (g_S (g_w elects weight) (terms 0) sum rowSeed waits k).1 (g_n (g_t sum) (g_S (g_w elects weight) (terms 0) sum rowSeed waits k).1))) (g_S (g_w elects weight) (terms 0) sum rowSeed waits k).2) (upd (mx k (g_L (g_w elects weight) (terms 0) sum rowSeed waits) rowLeads) k (g_who (g_w elects weight) (g_S (g_w elects weight) (terms 0) sum rowSeed waits k).2 (terms 0) sum (g_S (g_w elects weight) (terms 0) sum rowSeed waits k).1 (g_n (g_t sum) (g_S (g_w elects weight) (terms 0) sum rowSeed waits k).1))) (upd (upd (mx k (g_N (g_w elects weight) (terms 0) sum rowSeed waits) rowDraws) k 0) k (nI (g_n (g_t sum) (g_S (g_w elects weight) (terms 0) sum rowSeed waits k).1))) deposit committed opened = mw_w ad cy phase epoch turns nextTurn all claims sum seed pot rowSeed ((g_S (g_w elects weight) (terms 0) sum rowSeed waits (k + 1)).1) terms weight wait led missed running aside isMem hasCom hasOp leads draws claim elects ((g_S (g_w elects weight) (terms 0) sum rowSeed waits (k + 1)).2) (mx (k + 1) (g_L (g_w elects weight) (terms 0) sum rowSeed waits) rowLeads) (mx (k + 1) (g_N (g_w elects weight) (terms 0) sum rowSeed waits) rowDraws) deposit committed opened) ▸ hw) (lv_sub hl [1, 2, 0] rfl)
          | succ L52n ihL52 =>
            intro m_ hkm_  H locs ls hw hl
            have hkm_l : m_ < 12 := by omega
            refine lv_iload hx hb dX4_make_52 (lv_at hl 4 rfl) ?_
            refine lv_bipush (v := 12) hx hb dX4_make_54 (by decide) ?_
            refine lv_icmp_ge (tgt := 111) hx hb dX4_make_56 (by decide) (fun h10 => absurd h10 (nI_nge 12 rfl hkm_l (by decide))) (fun _ => ?_)
            refine lv_aload_n hx hb dX4_make_59 rfl (lv_at hl 0 rfl) ?_
            refine mg_waits hx hb hts hn4 hown hw (hts (.fieldLink RX4 63 "LeaderRowsModel" "waits" "[I") (by decide +kernel)) dX4_make_60 ?_
            refine lv_iload hx hb dX4_make_63 (lv_at hl 4 rfl) ?_
            refine lv_iload hx hb dX4_make_65 (lv_at hl 4 rfl) ?_
            refine lv_iload_n hx hb dX4_make_67 rfl (lv_at hl 3 rfl) ?_
            refine ww_joinI (rest := [.int (nI m_), .ref (ad 18)]) 104 (if (nI m_) = (g_who (g_w elects weight) (g_S (g_w elects weight) (terms 0) sum rowSeed waits k).2 (terms 0) sum (g_S (g_w elects weight) (terms 0) sum rowSeed waits k).1 (g_n (g_t sum) (g_S (g_w elects weight) (terms 0) sum rowSeed waits k).1)) then 0 else if (elects m_) = 0 then (mx m_ (g_pt (g_w elects weight) (g_S (g_w elects weight) (terms 0) sum rowSeed waits k).2 (g_who (g_w elects weight) (g_S (g_w elects weight) (terms 0) sum rowSeed waits k).2 (terms 0) sum (g_S (g_w elects weight) (terms 0) sum rowSeed waits k).1 (g_n (g_t sum) (g_S (g_w elects weight) (terms 0) sum rowSeed waits k).1))) (g_S (g_w elects weight) (terms 0) sum rowSeed waits k).2) m_ else ((mx m_ (g_pt (g_w elects weight) (g_S (g_w elects weight) (terms 0) sum rowSeed waits k).2 (g_who (g_w elects weight) (g_S (g_w elects weight) (terms 0) sum rowSeed waits k).2 (terms 0) sum (g_S (g_w elects weight) (terms 0) sum rowSeed waits k).1 (g_n (g_t sum) (g_S (g_w elects weight) (terms 0) sum rowSeed waits k).1))) (g_S (g_w elects weight) (terms 0) sum rowSeed waits k).2) m_) + 1) (fun K11 => ?_) ?_
            · refine lv_icmp_ne (tgt := 75) hx hb dX4_make_68 (by decide) (fun h12 => ?_) (fun h12 => ?_)
              · refine lv_aload_n hx hb dX4_make_75 rfl (lv_at hl 0 rfl) ?_
                refine mg_elects hx hb hts hn4 hown hw (hts (.fieldLink RX4 60 "LeaderRowsModel" "elects" "[Z") (by decide +kernel)) dX4_make_76 ?_
                refine lv_iload hx hb dX4_make_79 (lv_at hl 4 rfl) ?_
                refine ma_elects hx hb hw m_ (by omega) rfl dX4_make_81 ?_
                refine lv_if_eq (tgt := 97) hx hb dX4_make_82 (by decide) (fun h13 => ?_) (fun h13 => ?_)
                · refine lv_aload_n hx hb dX4_make_97 rfl (lv_at hl 0 rfl) ?_
                  refine mg_waits hx hb hts hn4 hown hw (hts (.fieldLink RX4 63 "LeaderRowsModel" "waits" "[I") (by decide +kernel)) dX4_make_98 ?_
                  refine lv_iload hx hb dX4_make_101 (lv_at hl 4 rfl) ?_
                  refine ma_waits hx hb hw m_ (by omega) rfl dX4_make_103 ?_
                  exact ww_top (by rw [if_neg h12, if_pos h13]) K11
                · refine lv_aload_n hx hb dX4_make_85 rfl (lv_at hl 0 rfl) ?_
                  refine mg_waits hx hb hts hn4 hown hw (hts (.fieldLink RX4 63 "LeaderRowsModel" "waits" "[I") (by decide +kernel)) dX4_make_86 ?_
                  refine lv_iload hx hb dX4_make_89 (lv_at hl 4 rfl) ?_
                  refine ma_waits hx hb hw m_ (by omega) rfl dX4_make_91 ?_
                  refine lv_iconst (v := 1) hx hb dX4_make_92 (by decide) ?_
                  refine lv_iadd hx hb dX4_make_93 ?_
                  refine lv_goto (tgt := 104) hx hb dX4_make_94 (by decide) ?_
                  exact ww_top (by rw [if_neg h12, if_neg h13]) K11
              · refine lv_iconst (v := 0) hx hb dX4_make_71 (by decide) ?_
                refine lv_goto (tgt := 104) hx hb dX4_make_72 (by decide) ?_
                exact ww_top (by rw [if_pos h12]) K11
            refine ms_waits hx hb hw m_ (by omega) rfl dX4_make_104 (fun H locs hw => ?_)
            refine lv_iinc (v := nI (m_ + 1)) (lv' := [(4, .int (nI (m_ + 1))), (0, .ref (ad 0)), (1, .int (nI t)), (2, .int (nI k)), (3, .int (g_who (g_w elects weight) (g_S (g_w elects weight) (terms 0) sum rowSeed waits k).2 (terms 0) sum (g_S (g_w elects weight) (terms 0) sum rowSeed waits k).1 (g_n (g_t sum) (g_S (g_w elects weight) (terms 0) sum rowSeed waits k).1)))]) hx hb dX4_make_105 hl (k := 4) rfl (nI_1 m_) (by decide) rfl (fun ls hl => ?_)
            refine lv_goto (tgt := 52) hx hb dX4_make_108 (by decide) ?_
            exact ihL52 (m_ + 1) (by omega)  _ _ ls ((mw_c rfl rfl rfl rfl rfl rfl rfl rfl rfl rfl rfl rfl rfl rfl rfl rfl rfl rfl rfl rfl rfl rfl rfl rfl rfl (mx_up (by rw [mx_at]; exact pm_e hF hkm_l)) rfl rfl rfl rfl rfl : mw_w ad cy phase epoch turns nextTurn all claims sum seed pot rowSeed (sG ((g_S (g_w elects weight) (terms 0) sum rowSeed waits k).1) (g_n (g_t sum) (g_S (g_w elects weight) (terms 0) sum rowSeed waits k).1)) terms weight wait led missed running aside isMem hasCom hasOp leads draws claim elects (upd (mx m_ (g_pt (g_w elects weight) (g_S (g_w elects weight) (terms 0) sum rowSeed waits k).2 (g_who (g_w elects weight) (g_S (g_w elects weight) (terms 0) sum rowSeed waits k).2 (terms 0) sum (g_S (g_w elects weight) (terms 0) sum rowSeed waits k).1 (g_n (g_t sum) (g_S (g_w elects weight) (terms 0) sum rowSeed waits k).1))) (g_S (g_w elects weight) (terms 0) sum rowSeed waits k).2) m_ (if (nI m_) = (g_who (g_w elects weight) (g_S (g_w elects weight) (terms 0) sum rowSeed waits k).2 (terms 0) sum (g_S (g_w elects weight) (terms 0) sum rowSeed waits k).1 (g_n (g_t sum) (g_S (g_w elects weight) (terms 0) sum rowSeed waits k).1)) then 0 else if (elects m_) = 0 then (mx m_ (g_pt (g_w elects weight) (g_S (g_w elects weight) (terms 0) sum rowSeed waits k).2 (g_who (g_w elects weight) (g_S (g_w elects weight) (terms 0) sum rowSeed waits k).2 (terms 0) sum (g_S (g_w elects weight) (terms 0) sum rowSeed waits k).1 (g_n (g_t sum) (g_S (g_w elects weight) (terms 0) sum rowSeed waits k).1))) (g_S (g_w elects weight) (terms 0) sum rowSeed waits k).2) m_ else ((mx m_ (g_pt (g_w elects weight) (g_S (g_w elects weight) (terms 0) sum rowSeed waits k).2 (g_who (g_w elects weight) (g_S (g_w elects weight) (terms 0) sum rowSeed waits k).2 (terms 0) sum (g_S (g_w elects weight) (terms 0) sum rowSeed waits k).1 (g_n (g_t sum) (g_S (g_w elects weight) (terms 0) sum rowSeed waits k).1))) (g_S (g_w elects weight) (terms 0) sum rowSeed waits k).2) m_) + 1)) (upd (mx k (g_L (g_w elects weight) (terms 0) sum rowSeed waits) rowLeads) k (g_who (g_w elects weight) (g_S (g_w elects weight) (terms 0) sum rowSeed waits k).2 (terms 0) sum (g_S (g_w elects weight) (terms 0) sum rowSeed waits k).1 (g_n (g_t sum) (g_S (g_w elects weight) (terms 0) sum rowSeed waits k).1))) (upd (upd (mx k (g_N (g_w elects weight) (terms 0) sum rowSeed waits) rowDraws) k 0) k (nI (g_n (g_t sum) (g_S (g_w elects weight) (terms 0) sum rowSeed waits k).1))) deposit committed opened = mw_w ad cy phase epoch turns nextTurn all claims sum seed pot rowSeed (sG ((g_S (g_w elects weight) (terms 0) sum rowSeed waits k).1) (g_n (g_t sum) (g_S (g_w elects weight) (terms 0) sum rowSeed waits k).1)) terms weight wait led missed running aside isMem hasCom hasOp leads draws claim elects (mx (m_ + 1) (g_pt (g_w elects weight) (g_S (g_w elects weight) (terms 0) sum rowSeed waits k).2 (g_who (g_w elects weight) (g_S (g_w elects weight) (terms 0) sum rowSeed waits k).2 (terms 0) sum (g_S (g_w elects weight) (terms 0) sum rowSeed waits k).1 (g_n (g_t sum) (g_S (g_w elects weight) (terms 0) sum rowSeed waits k).1))) (g_S (g_w elects weight) (terms 0) sum rowSeed waits k).2) (upd (mx k (g_L (g_w elects weight) (terms 0) sum rowSeed waits) rowLeads) k (g_who (g_w elects weight) (g_S (g_w elects weight) (terms 0) sum rowSeed waits k).2 (terms 0) sum (g_S (g_w elects weight) (terms 0) sum rowSeed waits k).1 (g_n (g_t sum) (g_S (g_w elects weight) (terms 0) sum rowSeed waits k).1))) (upd (upd (mx k (g_N (g_w elects weight) (terms 0) sum rowSeed waits) rowDraws) k 0) k (nI (g_n (g_t sum) (g_S (g_w elects weight) (terms 0) sum rowSeed waits k).1))) deposit committed opened) ▸ hw) (lv_sub hl [1, 2, 3, 4, 0] rfl)
        exact L52 12 0 (by omega)  _ _ ls ((mw_c rfl rfl rfl rfl rfl rfl rfl rfl rfl rfl rfl rfl rfl rfl rfl rfl rfl rfl rfl rfl rfl rfl rfl rfl rfl ((mx_0 _ _).symm) rfl rfl rfl rfl rfl : mw_w ad cy phase epoch turns nextTurn all claims sum seed pot rowSeed (sG ((g_S (g_w elects weight) (terms 0) sum rowSeed waits k).1) (g_n (g_t sum) (g_S (g_w elects weight) (terms 0) sum rowSeed waits k).1)) terms weight wait led missed running aside isMem hasCom hasOp leads draws claim elects ((g_S (g_w elects weight) (terms 0) sum rowSeed waits k).2) (upd (mx k (g_L (g_w elects weight) (terms 0) sum rowSeed waits) rowLeads) k (g_who (g_w elects weight) (g_S (g_w elects weight) (terms 0) sum rowSeed waits k).2 (terms 0) sum (g_S (g_w elects weight) (terms 0) sum rowSeed waits k).1 (g_n (g_t sum) (g_S (g_w elects weight) (terms 0) sum rowSeed waits k).1))) (upd (upd (mx k (g_N (g_w elects weight) (terms 0) sum rowSeed waits) rowDraws) k 0) k (nI (g_n (g_t sum) (g_S (g_w elects weight) (terms 0) sum rowSeed waits k).1))) deposit committed opened = mw_w ad cy phase epoch turns nextTurn all claims sum seed pot rowSeed (sG ((g_S (g_w elects weight) (terms 0) sum rowSeed waits k).1) (g_n (g_t sum) (g_S (g_w elects weight) (terms 0) sum rowSeed waits k).1)) terms weight wait led missed running aside isMem hasCom hasOp leads draws claim elects (mx 0 (g_pt (g_w elects weight) (g_S (g_w elects weight) (terms 0) sum rowSeed waits k).2 (g_who (g_w elects weight) (g_S (g_w elects weight) (terms 0) sum rowSeed waits k).2 (terms 0) sum (g_S (g_w elects weight) (terms 0) sum rowSeed waits k).1 (g_n (g_t sum) (g_S (g_w elects weight) (terms 0) sum rowSeed waits k).1))) (g_S (g_w elects weight) (terms 0) sum rowSeed waits k).2) (upd (mx k (g_L (g_w elects weight) (terms 0) sum rowSeed waits) rowLeads) k (g_who (g_w elects weight) (g_S (g_w elects weight) (terms 0) sum rowSeed waits k).2 (terms 0) sum (g_S (g_w elects weight) (terms 0) sum rowSeed waits k).1 (g_n (g_t sum) (g_S (g_w elects weight) (terms 0) sum rowSeed waits k).1))) (upd (upd (mx k (g_N (g_w elects weight) (terms 0) sum rowSeed waits) rowDraws) k 0) k (nI (g_n (g_t sum) (g_S (g_w elects weight) (terms 0) sum rowSeed waits k).1))) deposit committed opened) ▸ hw) (lv_sub hl [2, 3, 4, 1, 0] (by first | rfl | (simp [lv_pick])))
  exact L10 t 0 (by omega)  _ _ ls ((mw_c rfl rfl rfl rfl rfl rfl rfl rfl rfl rfl (rfl) rfl rfl rfl rfl rfl rfl rfl rfl rfl rfl rfl rfl rfl rfl (rfl) ((mx_0 _ _).symm) ((mx_0 _ _).symm) rfl rfl rfl : mw_w ad cy phase epoch turns nextTurn all claims sum seed pot rowSeed rowSeed terms weight wait led missed running aside isMem hasCom hasOp leads draws claim elects waits rowLeads rowDraws deposit committed opened = mw_w ad cy phase epoch turns nextTurn all claims sum seed pot rowSeed ((g_S (g_w elects weight) (terms 0) sum rowSeed waits 0).1) terms weight wait led missed running aside isMem hasCom hasOp leads draws claim elects ((g_S (g_w elects weight) (terms 0) sum rowSeed waits 0).2) (mx 0 (g_L (g_w elects weight) (terms 0) sum rowSeed waits) rowLeads) (mx 0 (g_N (g_w elects weight) (terms 0) sum rowSeed waits) rowDraws) deposit committed opened) ▸ hw) (lv_sub hl [1, 2, 0] (by first | rfl | (simp [lv_pick])))
