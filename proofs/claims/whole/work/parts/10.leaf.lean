set_option maxHeartbeats 4000000 in
set_option maxRecDepth 100000 in
theorem k_X3_isNode (l : Launch) (node : Int32)  : ww_SI l yX3_isNode wsX3_isNode (ww_rm 0 0) [.int node] (f_isN node) := by
  refine ww_SI_mk .boolean (cc := cX3_isNode) (maxL := 1) (by decide) rfl (Nat.le_of_ble_eq_true rfl) ?_
  intro p e s m below meth c ls hx hb hr hts hown hlk hml hl
  have hown : s.vm.findClass RX3 = some m.cls := hown
  have hl : lv_has ls 1 [(0, .int node)] := hl
  refine lv_iload_n hx hb dX3_isNode_0 rfl (lv_at hl 0 rfl) ?_
  refine ww_joinI (rest := []) 15 (if node < 0 then 0 else if 12 ≤ node then 0 else 1) (fun K1 => ?_) ?_
  · refine lv_if_lt (tgt := 14) hx hb dX3_isNode_1 (by decide) (fun h2 => ?_) (fun h2 => ?_)
    · refine lv_iconst (v := 0) hx hb dX3_isNode_14 (by decide) ?_
      exact ww_top (by rw [if_pos h2]) K1
    · refine lv_iload_n hx hb dX3_isNode_4 rfl (lv_at hl 0 rfl) ?_
      refine lv_bipush (v := 12) hx hb dX3_isNode_5 (by decide) ?_
      refine lv_icmp_ge (tgt := 14) hx hb dX3_isNode_7 (by decide) (fun h3 => ?_) (fun h3 => ?_)
      · refine lv_iconst (v := 0) hx hb dX3_isNode_14 (by decide) ?_
        exact ww_top (by rw [if_neg h2, if_pos h3]) K1
      · refine lv_iconst (v := 1) hx hb dX3_isNode_10 (by decide) ?_
        refine lv_goto (tgt := 15) hx hb dX3_isNode_11 (by decide) ?_
        exact ww_top (by rw [if_neg h2, if_neg h3]) K1
  exact ww_srz hx hb hr hlk dX3_isNode_15 (by (repeat' split) <;> rfl) (rfl)
set_option maxHeartbeats 4000000 in
set_option maxRecDepth 100000 in
theorem k_X3_isLengthOfRow (l : Launch) (t : Int32)  : ww_SI l yX3_isLengthOfRow wsX3_isLengthOfRow (ww_rm 0 0) [.int t] (f_isL t) := by
  refine ww_SI_mk .boolean (cc := cX3_isLengthOfRow) (maxL := 1) (by decide) rfl (Nat.le_of_ble_eq_true rfl) ?_
  intro p e s m below meth c ls hx hb hr hts hown hlk hml hl
  have hown : s.vm.findClass RX3 = some m.cls := hown
  have hl : lv_has ls 1 [(0, .int t)] := hl
  refine lv_iload_n hx hb dX3_isLengthOfRow_0 rfl (lv_at hl 0 rfl) ?_
  refine lv_iconst (v := 1) hx hb dX3_isLengthOfRow_1 (by decide) ?_
  refine ww_joinI (rest := []) 16 (if t < 1 then 0 else if 60 < t then 0 else 1) (fun K1 => ?_) ?_
  · refine lv_icmp_lt (tgt := 15) hx hb dX3_isLengthOfRow_2 (by decide) (fun h2 => ?_) (fun h2 => ?_)
    · refine lv_iconst (v := 0) hx hb dX3_isLengthOfRow_15 (by decide) ?_
      exact ww_top (by rw [if_pos h2]) K1
    · refine lv_iload_n hx hb dX3_isLengthOfRow_5 rfl (lv_at hl 0 rfl) ?_
      refine lv_bipush (v := 60) hx hb dX3_isLengthOfRow_6 (by decide) ?_
      refine lv_icmp_gt (tgt := 15) hx hb dX3_isLengthOfRow_8 (by decide) (fun h3 => ?_) (fun h3 => ?_)
      · refine lv_iconst (v := 0) hx hb dX3_isLengthOfRow_15 (by decide) ?_
        exact ww_top (by rw [if_neg h2, if_pos h3]) K1
      · refine lv_iconst (v := 1) hx hb dX3_isLengthOfRow_11 (by decide) ?_
        refine lv_goto (tgt := 16) hx hb dX3_isLengthOfRow_12 (by decide) ?_
        exact ww_top (by rw [if_neg h2, if_neg h3]) K1
  exact ww_srz hx hb hr hlk dX3_isLengthOfRow_16 (by (repeat' split) <;> rfl) (rfl)
set_option maxHeartbeats 4000000 in
set_option maxRecDepth 100000 in
theorem k_X3_mix (l : Launch) (x : Int64)  : ww_SL l yX3_mix wsX3_mix (ww_rm 0 0) [.long x] (f_mix x) := by
  refine ww_SL_mk (cc := cX3_mix) (maxL := 4) (by decide) rfl (Nat.le_of_ble_eq_true rfl) ?_
  intro p e s m below meth c ls hx hb hr hts hown hlk hml hl
  have hown : s.vm.findClass RX3 = some m.cls := hown
  have hl : lv_has ls 4 [(0, .long x)] := hl
  refine lv_lload_n hx hb dX3_mix_0 rfl (lv_at hl 0 rfl) ?_
  refine lv_lload_n hx hb dX3_mix_1 rfl (lv_at hl 0 rfl) ?_
  refine lv_bipush (v := 30) hx hb dX3_mix_2 (by decide) ?_
  refine lv_lushr hx hb dX3_mix_4 rfl ?_
  refine lv_lxor hx hb dX3_mix_5 ?_
  refine lv_ldc2 (v := (-4658895280553007687)) hx hb hown (hts (.constantLong RX3 175 (-4658895280553007687)) (by decide +kernel)) dX3_mix_6 ?_
  refine lv_lmul hx hb dX3_mix_9 ?_
  refine lv_lstore_n (lv' := [(2, .long ((x ^^^ ((x.toUInt64 >>> ((30 : Int32).toInt64.toUInt64 &&& Int64.toUInt64 63)).toInt64)) * (-4658895280553007687))), (0, .long x)]) hx hb dX3_mix_10 rfl hl (by decide) rfl (fun ls hl => ?_)
  refine lv_lload_n hx hb dX3_mix_11 rfl (lv_at hl 0 rfl) ?_
  refine lv_lload_n hx hb dX3_mix_12 rfl (lv_at hl 0 rfl) ?_
  refine lv_bipush (v := 27) hx hb dX3_mix_13 (by decide) ?_
  refine lv_lushr hx hb dX3_mix_15 rfl ?_
  refine lv_lxor hx hb dX3_mix_16 ?_
  refine lv_ldc2 (v := (-7723592293110705685)) hx hb hown (hts (.constantLong RX3 177 (-7723592293110705685)) (by decide +kernel)) dX3_mix_17 ?_
  refine lv_lmul hx hb dX3_mix_20 ?_
  refine lv_lstore_n (lv' := [(2, .long ((((x ^^^ ((x.toUInt64 >>> ((30 : Int32).toInt64.toUInt64 &&& Int64.toUInt64 63)).toInt64)) * (-4658895280553007687)) ^^^ ((((x ^^^ ((x.toUInt64 >>> ((30 : Int32).toInt64.toUInt64 &&& Int64.toUInt64 63)).toInt64)) * (-4658895280553007687)).toUInt64 >>> ((27 : Int32).toInt64.toUInt64 &&& Int64.toUInt64 63)).toInt64)) * (-7723592293110705685))), (0, .long x)]) hx hb dX3_mix_21 rfl hl (by decide) rfl (fun ls hl => ?_)
  refine lv_lload_n hx hb dX3_mix_22 rfl (lv_at hl 0 rfl) ?_
  refine lv_lload_n hx hb dX3_mix_23 rfl (lv_at hl 0 rfl) ?_
  refine lv_bipush (v := 31) hx hb dX3_mix_24 (by decide) ?_
  refine lv_lushr hx hb dX3_mix_26 rfl ?_
  refine lv_lxor hx hb dX3_mix_27 ?_
  exact ww_srl hx hb hr hlk dX3_mix_28 (rfl)
set_option maxHeartbeats 4000000 in
set_option maxRecDepth 100000 in
theorem k_X3_digestOf (l : Launch) (node : Int32) (number : Int64)  : ww_SL l yX3_digestOf wsX3_digestOf (ww_rm 1 23) [.int node, .long number] (f_dig node number) := by
  refine ww_SL_mk (cc := cX3_digestOf) (maxL := 3) (by decide) rfl (Nat.le_of_ble_eq_true rfl) ?_
  intro p e s m below meth c ls hx hb hr hts hown hlk hml hl
  have hown : s.vm.findClass RX3 = some m.cls := hown
  have hl : lv_has ls 3 [(0, .int node), (1, .long number)] := hl
  refine lv_lload_n hx hb dX3_digestOf_0 rfl (lv_at hl 1 rfl) ?_
  refine ww_cSL (As := [.long number]) (rest := []) hx hb hml hown hts hl.1 (k_X3_mix l number) (va_cwS 1 hts gX3_digestOf_X3_mix rfl rfl rfl (by decide +kernel) ⟨Nat.le_of_ble_eq_true rfl, Nat.le_of_ble_eq_true rfl⟩) rfl rfl (Nat.le_of_ble_eq_true rfl) ⟨Nat.zero_le _, Nat.zero_le _⟩ dX3_digestOf_1 ?_
  refine lv_iload_n hx hb dX3_digestOf_4 rfl (lv_at hl 0 rfl) ?_
  refine lv_iconst (v := 1) hx hb dX3_digestOf_5 (by decide) ?_
  refine lv_iadd hx hb dX3_digestOf_6 ?_
  refine lv_i2l hx hb dX3_digestOf_7 rfl ?_
  refine lv_ldc2 (v := (-7046029254386353131)) hx hb hown (hts (.constantLong RX3 183 (-7046029254386353131)) (by decide +kernel)) dX3_digestOf_8 ?_
  refine lv_lmul hx hb dX3_digestOf_11 ?_
  refine lv_ladd hx hb dX3_digestOf_12 ?_
  refine ww_cSL (As := [.long ((f_mix number) + (((node + 1).toInt64) * (-7046029254386353131)))]) (rest := []) hx hb hml hown hts hl.1 (k_X3_mix l ((f_mix number) + (((node + 1).toInt64) * (-7046029254386353131)))) (va_cwS 1 hts gX3_digestOf_X3_mix rfl rfl rfl (by decide +kernel) ⟨Nat.le_of_ble_eq_true rfl, Nat.le_of_ble_eq_true rfl⟩) rfl rfl (Nat.le_of_ble_eq_true rfl) ⟨Nat.zero_le _, Nat.zero_le _⟩ dX3_digestOf_13 ?_
  exact ww_srl hx hb hr hlk dX3_digestOf_16 (rfl)
set_option maxHeartbeats 4000000 in
set_option maxRecDepth 100000 in
theorem k_X0_remainderUnsigned (l : Launch) (z : Int64) (d : Int32)  : ww_SL l yX0_remainderUnsigned wsX0_remainderUnsigned (ww_rm 0 0) [.long z, .int d] (f_rem z d) := by
  refine ww_SL_mk (cc := cX0_remainderUnsigned) (maxL := 3) (by decide) rfl (Nat.le_of_ble_eq_true rfl) ?_
  intro p e s m below meth c ls hx hb hr hts hown hlk hml hl
  have hown : s.vm.findClass RX0 = some m.cls := hown
  have hl : lv_has ls 3 [(0, .long z), (2, .int d)] := hl
  refine lv_iload_n hx hb dX0_remainderUnsigned_0 rfl (lv_at hl 1 rfl) ?_
  refine lv_if_gt (tgt := 6) hx hb dX0_remainderUnsigned_1 (by decide) (fun h1 => ?_) (fun h1 => ?_)
  · have hne : ¬ d.toInt64 = 0 := i64_ne0 h1
    refine lv_lload_n hx hb dX0_remainderUnsigned_6 rfl (lv_at hl 0 rfl) ?_
    refine lv_iconst (v := 1) hx hb dX0_remainderUnsigned_7 (by decide) ?_
    refine lv_lushr hx hb dX0_remainderUnsigned_8 rfl ?_
    refine lv_iload_n hx hb dX0_remainderUnsigned_9 rfl (lv_at hl 1 rfl) ?_
    refine lv_i2l hx hb dX0_remainderUnsigned_10 rfl ?_
    refine lv_lrem hx hb dX0_remainderUnsigned_11 hne ?_
    refine lv_ldc2 (v := 2) hx hb hown (hts (.constantLong RX0 78 2) (by decide +kernel)) dX0_remainderUnsigned_12 ?_
    refine lv_lmul hx hb dX0_remainderUnsigned_15 ?_
    refine lv_lload_n hx hb dX0_remainderUnsigned_16 rfl (lv_at hl 0 rfl) ?_
    refine lv_lconst (v := 1) hx hb dX0_remainderUnsigned_17 (by decide) ?_
    refine lv_land hx hb dX0_remainderUnsigned_18 ?_
    refine lv_ladd hx hb dX0_remainderUnsigned_19 ?_
    refine lv_iload_n hx hb dX0_remainderUnsigned_20 rfl (lv_at hl 1 rfl) ?_
    refine lv_i2l hx hb dX0_remainderUnsigned_21 rfl ?_
    refine lv_lrem hx hb dX0_remainderUnsigned_22 hne ?_
    exact ww_srl hx hb hr hlk dX0_remainderUnsigned_23 (by simp [f_rem, f_ru, h1])
  · refine lv_lconst (v := 0) hx hb dX0_remainderUnsigned_4 (by decide) ?_
    exact ww_srl hx hb hr hlk dX0_remainderUnsigned_5 (by simp [f_rem, f_ru, h1])
set_option maxHeartbeats 4000000 in
set_option maxRecDepth 100000 in
theorem k_X4_in (l : Launch) (v : Int64) (lo : Int64) (hi : Int64)  : ww_SI l yX4_in wsX4_in (ww_rm 0 0) [.long v, .long lo, .long hi] (f_in v lo hi) := by
  refine ww_SI_mk .boolean (cc := cX4_in) (maxL := 6) (by decide) rfl (Nat.le_of_ble_eq_true rfl) ?_
  intro p e s m below meth c ls hx hb hr hts hown hlk hml hl
  have hown : s.vm.findClass RX4 = some m.cls := hown
  have hl : lv_has ls 6 [(0, .long v), (2, .long lo), (4, .long hi)] := hl
  refine lv_lload_n hx hb dX4_in_0 rfl (lv_at hl 0 rfl) ?_
  refine lv_lload_n hx hb dX4_in_1 rfl (lv_at hl 1 rfl) ?_
  refine ww_joinI (rest := []) 18 (if v < lo then 0 else if hi < v then 0 else 1) (fun K1 => ?_) ?_
  · refine ww_lif_lt (tgt := 17) hx hb dX4_in_2 dX4_in_3 (by decide) (fun h2 => ?_) (fun h2 => ?_)
    · refine lv_iconst (v := 0) hx hb dX4_in_17 (by decide) ?_
      exact ww_top (by rw [if_pos h2]) K1
    · refine lv_lload_n hx hb dX4_in_6 rfl (lv_at hl 0 rfl) ?_
      refine lv_lload hx hb dX4_in_7 (lv_at hl 2 rfl) ?_
      refine ww_lif_gt (tgt := 17) hx hb dX4_in_9 dX4_in_10 (by decide) (fun h3 => ?_) (fun h3 => ?_)
      · refine lv_iconst (v := 0) hx hb dX4_in_17 (by decide) ?_
        exact ww_top (by rw [if_neg h2, if_pos h3]) K1
      · refine lv_iconst (v := 1) hx hb dX4_in_13 (by decide) ?_
        refine lv_goto (tgt := 18) hx hb dX4_in_14 (by decide) ?_
        exact ww_top (by rw [if_neg h2, if_neg h3]) K1
  exact ww_srz hx hb hr hlk dX4_in_18 (by (repeat' split) <;> rfl) (rfl)
set_option maxHeartbeats 4000000 in
set_option maxRecDepth 100000 in
theorem k_X4_isNode (l : Launch) (n : Int32)  : ww_SI l yX4_isNode wsX4_isNode (ww_rm 1 25) [.int n] (f_in n.toInt64 0 11) := by
  refine ww_SI_mk .boolean (cc := cX4_isNode) (maxL := 1) (by decide) rfl (Nat.le_of_ble_eq_true rfl) ?_
  intro p e s m below meth c ls hx hb hr hts hown hlk hml hl
  have hown : s.vm.findClass RX4 = some m.cls := hown
  have hl : lv_has ls 1 [(0, .int n)] := hl
  refine lv_iload_n hx hb dX4_isNode_0 rfl (lv_at hl 0 rfl) ?_
  refine lv_i2l hx hb dX4_isNode_1 rfl ?_
  refine lv_lconst (v := 0) hx hb dX4_isNode_2 (by decide) ?_
  refine lv_ldc2 (v := 11) hx hb hown (hts (.constantLong RX4 72 11) (by decide +kernel)) dX4_isNode_3 ?_
  refine ww_cSI (As := [.long (n.toInt64), .long 0, .long 11]) (rest := []) hx hb hml hown hts hl.1 (k_X4_in l (n.toInt64) 0 11) (va_cwS 3 hts gX4_isNode_X4_in rfl rfl rfl (by decide +kernel) ⟨Nat.le_of_ble_eq_true rfl, Nat.le_of_ble_eq_true rfl⟩) rfl rfl (Nat.le_of_ble_eq_true rfl) ⟨Nat.zero_le _, Nat.zero_le _⟩ dX4_isNode_6 ?_
  exact ww_srz hx hb hr hlk dX4_isNode_9 (by unfold f_in; (repeat' split) <;> rfl) (by simp only [])
set_option maxHeartbeats 4000000 in
set_option maxRecDepth 100000 in
theorem k_X4_mix (l : Launch) (x : Int64)  : ww_SL l yX4_mix wsX4_mix (ww_rm 0 0) [.long x] (f_mix x) := by
  refine ww_SL_mk (cc := cX4_mix) (maxL := 4) (by decide) rfl (Nat.le_of_ble_eq_true rfl) ?_
  intro p e s m below meth c ls hx hb hr hts hown hlk hml hl
  have hown : s.vm.findClass RX4 = some m.cls := hown
  have hl : lv_has ls 4 [(0, .long x)] := hl
  refine lv_lload_n hx hb dX4_mix_0 rfl (lv_at hl 0 rfl) ?_
  refine lv_lstore_n (lv' := [(2, .long x), (0, .long x)]) hx hb dX4_mix_1 rfl hl (by decide) rfl (fun ls hl => ?_)
  refine lv_lload_n hx hb dX4_mix_2 rfl (lv_at hl 0 rfl) ?_
  refine lv_lload_n hx hb dX4_mix_3 rfl (lv_at hl 0 rfl) ?_
  refine lv_bipush (v := 30) hx hb dX4_mix_4 (by decide) ?_
  refine lv_lushr hx hb dX4_mix_6 rfl ?_
  refine lv_lxor hx hb dX4_mix_7 ?_
  refine lv_ldc2 (v := (-4658895280553007687)) hx hb hown (hts (.constantLong RX4 78 (-4658895280553007687)) (by decide +kernel)) dX4_mix_8 ?_
  refine lv_lmul hx hb dX4_mix_11 ?_
  refine lv_lstore_n (lv' := [(2, .long ((x ^^^ ((x.toUInt64 >>> ((30 : Int32).toInt64.toUInt64 &&& Int64.toUInt64 63)).toInt64)) * (-4658895280553007687))), (0, .long x)]) hx hb dX4_mix_12 rfl hl (by decide) rfl (fun ls hl => ?_)
  refine lv_lload_n hx hb dX4_mix_13 rfl (lv_at hl 0 rfl) ?_
  refine lv_lload_n hx hb dX4_mix_14 rfl (lv_at hl 0 rfl) ?_
  refine lv_bipush (v := 27) hx hb dX4_mix_15 (by decide) ?_
  refine lv_lushr hx hb dX4_mix_17 rfl ?_
  refine lv_lxor hx hb dX4_mix_18 ?_
  refine lv_ldc2 (v := (-7723592293110705685)) hx hb hown (hts (.constantLong RX4 80 (-7723592293110705685)) (by decide +kernel)) dX4_mix_19 ?_
  refine lv_lmul hx hb dX4_mix_22 ?_
  refine lv_lstore_n (lv' := [(2, .long ((((x ^^^ ((x.toUInt64 >>> ((30 : Int32).toInt64.toUInt64 &&& Int64.toUInt64 63)).toInt64)) * (-4658895280553007687)) ^^^ ((((x ^^^ ((x.toUInt64 >>> ((30 : Int32).toInt64.toUInt64 &&& Int64.toUInt64 63)).toInt64)) * (-4658895280553007687)).toUInt64 >>> ((27 : Int32).toInt64.toUInt64 &&& Int64.toUInt64 63)).toInt64)) * (-7723592293110705685))), (0, .long x)]) hx hb dX4_mix_23 rfl hl (by decide) rfl (fun ls hl => ?_)
  refine lv_lload_n hx hb dX4_mix_24 rfl (lv_at hl 0 rfl) ?_
  refine lv_lload_n hx hb dX4_mix_25 rfl (lv_at hl 0 rfl) ?_
  refine lv_bipush (v := 31) hx hb dX4_mix_26 (by decide) ?_
  refine lv_lushr hx hb dX4_mix_28 rfl ?_
  refine lv_lxor hx hb dX4_mix_29 ?_
  exact ww_srl hx hb hr hlk dX4_mix_30 (rfl)
set_option maxHeartbeats 4000000 in
set_option maxRecDepth 100000 in
theorem k_X4_digestOf (l : Launch) (node : Int32) (number : Int64)  : ww_SL l yX4_digestOf wsX4_digestOf (ww_rm 1 23) [.int node, .long number] (f_dig node number) := by
  refine ww_SL_mk (cc := cX4_digestOf) (maxL := 3) (by decide) rfl (Nat.le_of_ble_eq_true rfl) ?_
  intro p e s m below meth c ls hx hb hr hts hown hlk hml hl
  have hown : s.vm.findClass RX4 = some m.cls := hown
  have hl : lv_has ls 3 [(0, .int node), (1, .long number)] := hl
  refine lv_lload_n hx hb dX4_digestOf_0 rfl (lv_at hl 1 rfl) ?_
  refine ww_cSL (As := [.long number]) (rest := []) hx hb hml hown hts hl.1 (k_X4_mix l number) (va_cwS 1 hts gX4_digestOf_X4_mix rfl rfl rfl (by decide +kernel) ⟨Nat.le_of_ble_eq_true rfl, Nat.le_of_ble_eq_true rfl⟩) rfl rfl (Nat.le_of_ble_eq_true rfl) ⟨Nat.zero_le _, Nat.zero_le _⟩ dX4_digestOf_1 ?_
  refine lv_iload_n hx hb dX4_digestOf_4 rfl (lv_at hl 0 rfl) ?_
  refine lv_iconst (v := 1) hx hb dX4_digestOf_5 (by decide) ?_
  refine lv_iadd hx hb dX4_digestOf_6 ?_
  refine lv_i2l hx hb dX4_digestOf_7 rfl ?_
  refine lv_ldc2 (v := (-7046029254386353131)) hx hb hown (hts (.constantLong RX4 86 (-7046029254386353131)) (by decide +kernel)) dX4_digestOf_8 ?_
  refine lv_lmul hx hb dX4_digestOf_11 ?_
  refine lv_ladd hx hb dX4_digestOf_12 ?_
  refine ww_cSL (As := [.long ((f_mix number) + (((node + 1).toInt64) * (-7046029254386353131)))]) (rest := []) hx hb hml hown hts hl.1 (k_X4_mix l ((f_mix number) + (((node + 1).toInt64) * (-7046029254386353131)))) (va_cwS 1 hts gX4_digestOf_X4_mix rfl rfl rfl (by decide +kernel) ⟨Nat.le_of_ble_eq_true rfl, Nat.le_of_ble_eq_true rfl⟩) rfl rfl (Nat.le_of_ble_eq_true rfl) ⟨Nat.zero_le _, Nat.zero_le _⟩ dX4_digestOf_13 ?_
  exact ww_srl hx hb hr hlk dX4_digestOf_16 (rfl)
set_option maxHeartbeats 4000000 in
set_option maxRecDepth 100000 in
theorem k_X1_enterEpoch (l : Launch) {D : va_G} {ad : Nat → Nat} {cy : Nat → ClassId} {claims phase epoch nxt : Int32} {seed pot : Int64} {terms claimed : Nat → Int32} {ecnt esum efac : Int32} {estr : Int64} {enum : Int32} {ewt ewa : Nat → Int32} {rlen rsum : Int32} {rlead rnum nw nwa nled nmis nmio nas nmem ncom nop : Nat → Int32} {ndep ndig nnum : Nat → Int64} (i : Nat) (ep : Int32) (hi : i < 12)  : ww_MV l D (cw_t cy) yX1_enterEpoch wsX1_enterEpoch (ww_rm 0 0) [.ref (ad (10 + i)), .int ep] (cw_w ad cy claims phase epoch nxt seed pot terms claimed ecnt esum efac estr enum ewt ewa rlen rsum rlead rnum nw nwa nled nmis nmio nas nmem ncom nop ndep ndig nnum) (cw_w ad cy claims phase epoch nxt seed pot terms claimed ecnt esum efac estr enum ewt ewa rlen rsum rlead rnum nw nwa nled nmis nmio (upd nas i (f_as (nas i) ep)) (upd nmem i (f_mem (f_as (nas i) ep) (nw i) (ndep i))) ncom nop ndep ndig nnum) := by
  refine ww_MV_mk (cc := cX1_enterEpoch) (maxL := 2) (by decide) rfl (Nat.le_of_ble_eq_true rfl) ?_
  intro p e s m below meth c A ls hx hb hr hts hown hlk hml hA hw hl
  have hown : s.vm.findClass RX1 = some m.cls := hown
  have hl : lv_has ls 2 [(0, .ref (ad (10 + i))), (1, .int ep)] := hl
  have hn1 : ∀ w ∈ wsX10, w ∈ wsX1_enterEpoch := by decide +kernel
  refine lv_aload_n hx hb dX1_enterEpoch_0 rfl (lv_at hl 0 rfl) ?_
  refine cg_X1_aside hx hb hts hn1 hown hw (by omega) (hts (.fieldLink RX1 9 "LeaderRows$Node" "aside" "I") (by decide +kernel)) dX1_enterEpoch_1 ?_
  refine lv_iload_n hx hb dX1_enterEpoch_4 rfl (lv_at hl 1 rfl) ?_
  refine lv_icmp_ge (tgt := 13) hx hb dX1_enterEpoch_5 (by decide) (fun h1 => ?_) (fun h1 => ?_)
  · refine lv_aload_n hx hb dX1_enterEpoch_13 rfl (lv_at hl 0 rfl) ?_
    refine lv_aload_n hx hb dX1_enterEpoch_14 rfl (lv_at hl 0 rfl) ?_
    refine cg_X1_aside hx hb hts hn1 hown hw (by omega) (hts (.fieldLink RX1 9 "LeaderRows$Node" "aside" "I") (by decide +kernel)) dX1_enterEpoch_15 ?_
    refine ww_joinI (rest := [.ref (ad (10 + i))]) 42 (if (nas i) = 0 then if (nw i) ≤ 0 then 0 else if (ndep i) ≤ 0 then 0 else 1 else 0) (fun K2 => ?_) ?_
    · refine lv_if_ne (tgt := 41) hx hb dX1_enterEpoch_18 (by decide) (fun h3 => ?_) (fun h3 => ?_)
      · refine lv_iconst (v := 0) hx hb dX1_enterEpoch_41 (by decide) ?_
        exact ww_top (by rw [if_neg h3]) K2
      · refine lv_aload_n hx hb dX1_enterEpoch_21 rfl (lv_at hl 0 rfl) ?_
        refine cg_X1_weight hx hb hts hn1 hown hw (by omega) (hts (.fieldLink RX1 15 "LeaderRows$Node" "weight" "I") (by decide +kernel)) dX1_enterEpoch_22 ?_
        refine lv_if_le (tgt := 41) hx hb dX1_enterEpoch_25 (by decide) (fun h4 => ?_) (fun h4 => ?_)
        · refine lv_iconst (v := 0) hx hb dX1_enterEpoch_41 (by decide) ?_
          exact ww_top (by rw [if_pos h3, if_pos h4]) K2
        · refine lv_aload_n hx hb dX1_enterEpoch_28 rfl (lv_at hl 0 rfl) ?_
          refine cg_X1_deposit hx hb hts hn1 hown hw (by omega) (hts (.fieldLink RX1 18 "LeaderRows$Node" "deposit" "J") (by decide +kernel)) dX1_enterEpoch_29 ?_
          refine lv_lconst (v := 0) hx hb dX1_enterEpoch_32 (by decide) ?_
          refine ww_lif_le (tgt := 41) hx hb dX1_enterEpoch_33 dX1_enterEpoch_34 (by decide) (fun h5 => ?_) (fun h5 => ?_)
          · refine lv_iconst (v := 0) hx hb dX1_enterEpoch_41 (by decide) ?_
            exact ww_top (by rw [if_pos h3, if_neg h4, if_pos h5]) K2
          · refine lv_iconst (v := 1) hx hb dX1_enterEpoch_37 (by decide) ?_
            refine lv_goto (tgt := 42) hx hb dX1_enterEpoch_38 (by decide) ?_
            exact ww_top (by rw [if_pos h3, if_neg h4, if_neg h5]) K2
    refine cp_nmem hx hb hts hn1 hown hw (by omega) (by (repeat' split) <;> rfl) (by (repeat' split) <;> rfl) (hts (.fieldLink RX1 22 "LeaderRows$Node" "member" "Z") (by decide +kernel)) dX1_enterEpoch_42 (fun H locs hw => ?_)
    exact ww_rv hx hb hr hlk hw dX1_enterEpoch_45 (cw_c rfl rfl rfl rfl rfl rfl rfl rfl rfl rfl rfl rfl rfl rfl rfl rfl rfl rfl rfl rfl rfl rfl rfl rfl (by simp [f_as, f_mem, upd_s, upd_id, h1]) (by simp [f_as, f_mem, upd_s, upd_id, h1]) rfl rfl rfl rfl rfl)
  · refine lv_aload_n hx hb dX1_enterEpoch_8 rfl (lv_at hl 0 rfl) ?_
    refine lv_iconst (v := 0) hx hb dX1_enterEpoch_9 (by decide) ?_
    refine cp_nas hx hb hts hn1 hown hw (by omega) (hts (.fieldLink RX1 9 "LeaderRows$Node" "aside" "I") (by decide +kernel)) dX1_enterEpoch_10 (fun H locs hw => ?_)
    refine lv_aload_n hx hb dX1_enterEpoch_13 rfl (lv_at hl 0 rfl) ?_
    refine lv_aload_n hx hb dX1_enterEpoch_14 rfl (lv_at hl 0 rfl) ?_
    refine cg_X1_aside hx hb hts hn1 hown hw (by omega) (hts (.fieldLink RX1 9 "LeaderRows$Node" "aside" "I") (by decide +kernel)) dX1_enterEpoch_15 ?_
    refine ww_joinI (rest := [.ref (ad (10 + i))]) 42 (if ((upd nas i 0) i) = 0 then if (nw i) ≤ 0 then 0 else if (ndep i) ≤ 0 then 0 else 1 else 0) (fun K6 => ?_) ?_
    · refine lv_if_ne (tgt := 41) hx hb dX1_enterEpoch_18 (by decide) (fun h7 => ?_) (fun h7 => ?_)
      · refine lv_iconst (v := 0) hx hb dX1_enterEpoch_41 (by decide) ?_
        exact ww_top (by rw [if_neg h7]) K6
      · refine lv_aload_n hx hb dX1_enterEpoch_21 rfl (lv_at hl 0 rfl) ?_
        refine cg_X1_weight hx hb hts hn1 hown hw (by omega) (hts (.fieldLink RX1 15 "LeaderRows$Node" "weight" "I") (by decide +kernel)) dX1_enterEpoch_22 ?_
        refine lv_if_le (tgt := 41) hx hb dX1_enterEpoch_25 (by decide) (fun h8 => ?_) (fun h8 => ?_)
        · refine lv_iconst (v := 0) hx hb dX1_enterEpoch_41 (by decide) ?_
          exact ww_top (by rw [if_pos h7, if_pos h8]) K6
        · refine lv_aload_n hx hb dX1_enterEpoch_28 rfl (lv_at hl 0 rfl) ?_
          refine cg_X1_deposit hx hb hts hn1 hown hw (by omega) (hts (.fieldLink RX1 18 "LeaderRows$Node" "deposit" "J") (by decide +kernel)) dX1_enterEpoch_29 ?_
          refine lv_lconst (v := 0) hx hb dX1_enterEpoch_32 (by decide) ?_
          refine ww_lif_le (tgt := 41) hx hb dX1_enterEpoch_33 dX1_enterEpoch_34 (by decide) (fun h9 => ?_) (fun h9 => ?_)
          · refine lv_iconst (v := 0) hx hb dX1_enterEpoch_41 (by decide) ?_
            exact ww_top (by rw [if_pos h7, if_neg h8, if_pos h9]) K6
          · refine lv_iconst (v := 1) hx hb dX1_enterEpoch_37 (by decide) ?_
            refine lv_goto (tgt := 42) hx hb dX1_enterEpoch_38 (by decide) ?_
            exact ww_top (by rw [if_pos h7, if_neg h8, if_neg h9]) K6
    refine cp_nmem hx hb hts hn1 hown hw (by omega) (by (repeat' split) <;> rfl) (by (repeat' split) <;> rfl) (hts (.fieldLink RX1 22 "LeaderRows$Node" "member" "Z") (by decide +kernel)) dX1_enterEpoch_42 (fun H locs hw => ?_)
    exact ww_rv hx hb hr hlk hw dX1_enterEpoch_45 (cw_c rfl rfl rfl rfl rfl rfl rfl rfl rfl rfl rfl rfl rfl rfl rfl rfl rfl rfl rfl rfl rfl rfl rfl rfl (by simp [f_as, f_mem, upd_s, upd_id, h1]) (by simp [f_as, f_mem, upd_s, upd_id, h1]) rfl rfl rfl rfl rfl)
set_option maxHeartbeats 4000000 in
set_option maxRecDepth 100000 in
theorem k_X1_leaveEpoch (l : Launch) {D : va_G} {ad : Nat → Nat} {cy : Nat → ClassId} {claims phase epoch nxt : Int32} {seed pot : Int64} {terms claimed : Nat → Int32} {ecnt esum efac : Int32} {estr : Int64} {enum : Int32} {ewt ewa : Nat → Int32} {rlen rsum : Int32} {rlead rnum nw nwa nled nmis nmio nas nmem ncom nop : Nat → Int32} {ndep ndig nnum : Nat → Int64} (i : Nat)  (hi : i < 12)  : ww_MV l D (cw_t cy) yX1_leaveEpoch wsX1_leaveEpoch (ww_rm 0 0) [.ref (ad (10 + i))] (cw_w ad cy claims phase epoch nxt seed pot terms claimed ecnt esum efac estr enum ewt ewa rlen rsum rlead rnum nw nwa nled nmis nmio nas nmem ncom nop ndep ndig nnum) (cw_w ad cy claims phase epoch nxt seed pot terms claimed ecnt esum efac estr enum ewt ewa rlen rsum rlead rnum nw nwa nled nmis nmio nas (upd nmem i 0) (upd ncom i 0) (upd nop i 0) ndep ndig nnum) := by
  refine ww_MV_mk (cc := cX1_leaveEpoch) (maxL := 1) (by decide) rfl (Nat.le_of_ble_eq_true rfl) ?_
  intro p e s m below meth c A ls hx hb hr hts hown hlk hml hA hw hl
  have hown : s.vm.findClass RX1 = some m.cls := hown
  have hl : lv_has ls 1 [(0, .ref (ad (10 + i)))] := hl
  have hn1 : ∀ w ∈ wsX10, w ∈ wsX1_leaveEpoch := by decide +kernel
  refine lv_aload_n hx hb dX1_leaveEpoch_0 rfl (lv_at hl 0 rfl) ?_
  refine lv_iconst (v := 0) hx hb dX1_leaveEpoch_1 (by decide) ?_
  refine cp_nmem hx hb hts hn1 hown hw (by omega) rfl rfl (hts (.fieldLink RX1 22 "LeaderRows$Node" "member" "Z") (by decide +kernel)) dX1_leaveEpoch_2 (fun H locs hw => ?_)
  refine lv_aload_n hx hb dX1_leaveEpoch_5 rfl (lv_at hl 0 rfl) ?_
  refine lv_iconst (v := 0) hx hb dX1_leaveEpoch_6 (by decide) ?_
  refine cp_ncom hx hb hts hn1 hown hw (by omega) rfl rfl (hts (.fieldLink RX1 26 "LeaderRows$Node" "committed" "Z") (by decide +kernel)) dX1_leaveEpoch_7 (fun H locs hw => ?_)
  refine lv_aload_n hx hb dX1_leaveEpoch_10 rfl (lv_at hl 0 rfl) ?_
  refine lv_iconst (v := 0) hx hb dX1_leaveEpoch_11 (by decide) ?_
  refine cp_nop hx hb hts hn1 hown hw (by omega) rfl rfl (hts (.fieldLink RX1 29 "LeaderRows$Node" "opened" "Z") (by decide +kernel)) dX1_leaveEpoch_12 (fun H locs hw => ?_)
  exact ww_rv hx hb hr hlk hw dX1_leaveEpoch_15 rfl
set_option maxHeartbeats 4000000 in
set_option maxRecDepth 100000 in
theorem k_X1_withholds (l : Launch) {D : va_G} {ad : Nat → Nat} {cy : Nat → ClassId} {claims phase epoch nxt : Int32} {seed pot : Int64} {terms claimed : Nat → Int32} {ecnt esum efac : Int32} {estr : Int64} {enum : Int32} {ewt ewa : Nat → Int32} {rlen rsum : Int32} {rlead rnum nw nwa nled nmis nmio nas nmem ncom nop : Nat → Int32} {ndep ndig nnum : Nat → Int64} (i : Nat)  (hi : i < 12)  : ww_MI l D (cw_t cy) yX1_withholds wsX1_withholds (ww_rm 0 0) [.ref (ad (10 + i))] (cw_w ad cy claims phase epoch nxt seed pot terms claimed ecnt esum efac estr enum ewt ewa rlen rsum rlead rnum nw nwa nled nmis nmio nas nmem ncom nop ndep ndig nnum) (cw_w ad cy claims phase epoch nxt seed pot terms claimed ecnt esum efac estr enum ewt ewa rlen rsum rlead rnum nw nwa nled nmis nmio nas nmem ncom nop ndep ndig nnum) (f_wh (ncom i) (nop i)) := by
  refine ww_MI_mk .boolean (cc := cX1_withholds) (maxL := 1) (by decide) rfl (Nat.le_of_ble_eq_true rfl) ?_
  intro p e s m below meth c A ls hx hb hr hts hown hlk hml hA hw hl
  have hown : s.vm.findClass RX1 = some m.cls := hown
  have hl : lv_has ls 1 [(0, .ref (ad (10 + i)))] := hl
  have hn1 : ∀ w ∈ wsX10, w ∈ wsX1_withholds := by decide +kernel
  refine lv_aload_n hx hb dX1_withholds_0 rfl (lv_at hl 0 rfl) ?_
  refine cg_X1_committed hx hb hts hn1 hown hw (by omega) (hts (.fieldLink RX1 26 "LeaderRows$Node" "committed" "Z") (by decide +kernel)) dX1_withholds_1 ?_
  refine ww_joinI (rest := []) 19 (if (ncom i) = 0 then 0 else if (nop i) = 0 then 1 else 0) (fun K1 => ?_) ?_
  · refine lv_if_eq (tgt := 18) hx hb dX1_withholds_4 (by decide) (fun h2 => ?_) (fun h2 => ?_)
    · refine lv_iconst (v := 0) hx hb dX1_withholds_18 (by decide) ?_
      exact ww_top (by rw [if_pos h2]) K1
    · refine lv_aload_n hx hb dX1_withholds_7 rfl (lv_at hl 0 rfl) ?_
      refine cg_X1_opened hx hb hts hn1 hown hw (by omega) (hts (.fieldLink RX1 29 "LeaderRows$Node" "opened" "Z") (by decide +kernel)) dX1_withholds_8 ?_
      refine lv_if_ne (tgt := 18) hx hb dX1_withholds_11 (by decide) (fun h3 => ?_) (fun h3 => ?_)
      · refine lv_iconst (v := 0) hx hb dX1_withholds_18 (by decide) ?_
        exact ww_top (by rw [if_neg h2, if_neg h3]) K1
      · refine lv_iconst (v := 1) hx hb dX1_withholds_14 (by decide) ?_
        refine lv_goto (tgt := 19) hx hb dX1_withholds_15 (by decide) ?_
        exact ww_top (by rw [if_neg h2, if_pos h3]) K1
  exact ww_rz hx hb hr hlk hw dX1_withholds_19 (by (repeat' split) <;> rfl) (rfl) rfl
set_option maxHeartbeats 4000000 in
set_option maxRecDepth 100000 in
theorem k_X1_fine (l : Launch) {D : va_G} {ad : Nat → Nat} {cy : Nat → ClassId} {claims phase epoch nxt : Int32} {seed pot : Int64} {terms claimed : Nat → Int32} {ecnt esum efac : Int32} {estr : Int64} {enum : Int32} {ewt ewa : Nat → Int32} {rlen rsum : Int32} {rlead rnum nw nwa nled nmis nmio nas nmem ncom nop : Nat → Int32} {ndep ndig nnum : Nat → Int64} (i : Nat) (h : Int32) (hi : i < 12)  : ww_ML l D (cw_t cy) yX1_fine wsX1_fine (ww_rm 0 0) [.ref (ad (10 + i)), .int h] (cw_w ad cy claims phase epoch nxt seed pot terms claimed ecnt esum efac estr enum ewt ewa rlen rsum rlead rnum nw nwa nled nmis nmio nas nmem ncom nop ndep ndig nnum) (cw_w ad cy claims phase epoch nxt seed pot terms claimed ecnt esum efac estr enum ewt ewa rlen rsum rlead rnum nw nwa nled nmis nmio nas nmem ncom nop (vp_updL ndep i (ndep i - f_fine (ndep i) h)) ndig nnum) (f_fine (ndep i) h) := by
  refine ww_ML_mk (cc := cX1_fine) (maxL := 4) (by decide) rfl (Nat.le_of_ble_eq_true rfl) ?_
  intro p e s m below meth c A ls hx hb hr hts hown hlk hml hA hw hl
  have hown : s.vm.findClass RX1 = some m.cls := hown
  have hl : lv_has ls 4 [(0, .ref (ad (10 + i))), (1, .int h)] := hl
  have hn1 : ∀ w ∈ wsX10, w ∈ wsX1_fine := by decide +kernel
  refine lv_aload_n hx hb dX1_fine_0 rfl (lv_at hl 0 rfl) ?_
  refine cg_X1_deposit hx hb hts hn1 hown hw (by omega) (hts (.fieldLink RX1 18 "LeaderRows$Node" "deposit" "J") (by decide +kernel)) dX1_fine_1 ?_
  refine lv_iload_n hx hb dX1_fine_4 rfl (lv_at hl 1 rfl) ?_
  refine lv_i2l hx hb dX1_fine_5 rfl ?_
  refine lv_lmul hx hb dX1_fine_6 ?_
  refine lv_ldc2 (v := 100) hx hb hown (hts (.constantLong RX1 32 100) (by decide +kernel)) dX1_fine_7 ?_
  refine lv_ldiv hx hb dX1_fine_10 (by decide) ?_
  refine lv_lstore_n (lv' := [(2, .long (((ndep i) * (h.toInt64)) / 100)), (0, .ref (ad (10 + i))), (1, .int h)]) hx hb dX1_fine_11 rfl hl (by decide) rfl (fun ls hl => ?_)
  refine lv_aload_n hx hb dX1_fine_12 rfl (lv_at hl 1 rfl) ?_
  refine lv_dup hx hb dX1_fine_13 rfl ?_
  refine cg_X1_deposit hx hb hts hn1 hown hw (by omega) (hts (.fieldLink RX1 18 "LeaderRows$Node" "deposit" "J") (by decide +kernel)) dX1_fine_14 ?_
  refine lv_lload_n hx hb dX1_fine_17 rfl (lv_at hl 0 rfl) ?_
  refine lv_lsub hx hb dX1_fine_18 ?_
  refine cp_ndep hx hb hts hn1 hown hw (by omega) (hts (.fieldLink RX1 18 "LeaderRows$Node" "deposit" "J") (by decide +kernel)) dX1_fine_19 (fun H locs hw => ?_)
  refine lv_lload_n hx hb dX1_fine_22 rfl (lv_at hl 0 rfl) ?_
  exact ww_rl hx hb hr hlk hw dX1_fine_23 (rfl) (cw_c rfl rfl rfl rfl rfl rfl rfl rfl rfl rfl rfl rfl rfl rfl rfl rfl rfl rfl rfl rfl rfl rfl rfl rfl rfl rfl rfl rfl (rfl) rfl rfl)
set_option maxHeartbeats 4000000 in
set_option maxRecDepth 100000 in
theorem k_X1_putAside (l : Launch) {D : va_G} {ad : Nat → Nat} {cy : Nat → ClassId} {claims phase epoch nxt : Int32} {seed pot : Int64} {terms claimed : Nat → Int32} {ecnt esum efac : Int32} {estr : Int64} {enum : Int32} {ewt ewa : Nat → Int32} {rlen rsum : Int32} {rlead rnum nw nwa nled nmis nmio nas nmem ncom nop : Nat → Int32} {ndep ndig nnum : Nat → Int64} (i : Nat) (to : Int32) (hi : i < 12)  : ww_MV l D (cw_t cy) yX1_putAside wsX1_putAside (ww_rm 1 24) [.ref (ad (10 + i)), .int to] (cw_w ad cy claims phase epoch nxt seed pot terms claimed ecnt esum efac estr enum ewt ewa rlen rsum rlead rnum nw nwa nled nmis nmio nas nmem ncom nop ndep ndig nnum) (cw_w ad cy claims phase epoch nxt seed pot terms claimed ecnt esum efac estr enum ewt ewa rlen rsum rlead rnum nw nwa nled nmis nmio (upd nas i (f_max (nas i) to)) nmem ncom nop ndep ndig nnum) := by
  refine ww_MV_mk (cc := cX1_putAside) (maxL := 2) (by decide) rfl (Nat.le_of_ble_eq_true rfl) ?_
  intro p e s m below meth c A ls hx hb hr hts hown hlk hml hA hw hl
  have hown : s.vm.findClass RX1 = some m.cls := hown
  have hl : lv_has ls 2 [(0, .ref (ad (10 + i))), (1, .int to)] := hl
  have hn1 : ∀ w ∈ wsX10, w ∈ wsX1_putAside := by decide +kernel
  refine lv_aload_n hx hb dX1_putAside_0 rfl (lv_at hl 0 rfl) ?_
  refine lv_aload_n hx hb dX1_putAside_1 rfl (lv_at hl 0 rfl) ?_
  refine cg_X1_aside hx hb hts hn1 hown hw (by omega) (hts (.fieldLink RX1 9 "LeaderRows$Node" "aside" "I") (by decide +kernel)) dX1_putAside_2 ?_
  refine lv_iload_n hx hb dX1_putAside_5 rfl (lv_at hl 1 rfl) ?_
  refine va_mmax hx hb (by rw [hml]; exact hl.1.symm) hown (hts (.methodLink RX1 34 yJ9_max_7cf53) (by decide +kernel)) (hts (.static yJ9_max_7cf53) (by decide +kernel)) (hts (.initialized RJ9) (by decide +kernel)) (hts (.code yJ9_max_7cf53 cJ9_max_7cf53 2 (some .int)) (by decide +kernel)) (Nat.le_of_ble_eq_true rfl) (Nat.le_of_ble_eq_true rfl) (Nat.zero_le _) (Nat.zero_le _) dX1_putAside_6 ?_
  refine cp_nas hx hb hts hn1 hown hw (by omega) (hts (.fieldLink RX1 9 "LeaderRows$Node" "aside" "I") (by decide +kernel)) dX1_putAside_9 (fun H locs hw => ?_)
  exact ww_rv hx hb hr hlk hw dX1_putAside_12 (cw_c rfl rfl rfl rfl rfl rfl rfl rfl rfl rfl rfl rfl rfl rfl rfl rfl rfl rfl rfl rfl rfl rfl rfl rfl (rfl) rfl rfl rfl rfl rfl rfl)
set_option maxHeartbeats 4000000 in
set_option maxRecDepth 100000 in
theorem k_X1_lead (l : Launch) {D : va_G} {ad : Nat → Nat} {cy : Nat → ClassId} {claims phase epoch nxt : Int32} {seed pot : Int64} {terms claimed : Nat → Int32} {ecnt esum efac : Int32} {estr : Int64} {enum : Int32} {ewt ewa : Nat → Int32} {rlen rsum : Int32} {rlead rnum nw nwa nled nmis nmio nas nmem ncom nop : Nat → Int32} {ndep ndig nnum : Nat → Int64} (i : Nat)  (hi : i < 12)  : ww_MV l D (cw_t cy) yX1_lead wsX1_lead (ww_rm 0 0) [.ref (ad (10 + i))] (cw_w ad cy claims phase epoch nxt seed pot terms claimed ecnt esum efac estr enum ewt ewa rlen rsum rlead rnum nw nwa nled nmis nmio nas nmem ncom nop ndep ndig nnum) (cw_w ad cy claims phase epoch nxt seed pot terms claimed ecnt esum efac estr enum ewt ewa rlen rsum rlead rnum nw nwa (upd nled i (nled i + 1)) nmis (upd nmio i 0) nas nmem ncom nop ndep ndig nnum) := by
  refine ww_MV_mk (cc := cX1_lead) (maxL := 1) (by decide) rfl (Nat.le_of_ble_eq_true rfl) ?_
  intro p e s m below meth c A ls hx hb hr hts hown hlk hml hA hw hl
  have hown : s.vm.findClass RX1 = some m.cls := hown
  have hl : lv_has ls 1 [(0, .ref (ad (10 + i)))] := hl
  have hn1 : ∀ w ∈ wsX10, w ∈ wsX1_lead := by decide +kernel
  refine lv_aload_n hx hb dX1_lead_0 rfl (lv_at hl 0 rfl) ?_
  refine lv_dup hx hb dX1_lead_1 rfl ?_
  refine cg_X1_led hx hb hts hn1 hown hw (by omega) (hts (.fieldLink RX1 40 "LeaderRows$Node" "led" "I") (by decide +kernel)) dX1_lead_2 ?_
  refine lv_iconst (v := 1) hx hb dX1_lead_5 (by decide) ?_
  refine lv_iadd hx hb dX1_lead_6 ?_
  refine cp_nled hx hb hts hn1 hown hw (by omega) (hts (.fieldLink RX1 40 "LeaderRows$Node" "led" "I") (by decide +kernel)) dX1_lead_7 (fun H locs hw => ?_)
  refine lv_aload_n hx hb dX1_lead_10 rfl (lv_at hl 0 rfl) ?_
  refine lv_iconst (v := 0) hx hb dX1_lead_11 (by decide) ?_
  refine cp_nmio hx hb hts hn1 hown hw (by omega) (hts (.fieldLink RX1 43 "LeaderRows$Node" "missedInOne" "I") (by decide +kernel)) dX1_lead_12 (fun H locs hw => ?_)
  exact ww_rv hx hb hr hlk hw dX1_lead_15 (cw_c rfl rfl rfl rfl rfl rfl rfl rfl rfl rfl rfl rfl rfl rfl rfl rfl rfl rfl rfl rfl rfl (rfl) rfl rfl rfl rfl rfl rfl rfl rfl rfl)
set_option maxHeartbeats 4000000 in
set_option maxRecDepth 100000 in
theorem k_X1_miss (l : Launch) {D : va_G} {ad : Nat → Nat} {cy : Nat → ClassId} {claims phase epoch nxt : Int32} {seed pot : Int64} {terms claimed : Nat → Int32} {ecnt esum efac : Int32} {estr : Int64} {enum : Int32} {ewt ewa : Nat → Int32} {rlen rsum : Int32} {rlead rnum nw nwa nled nmis nmio nas nmem ncom nop : Nat → Int32} {ndep ndig nnum : Nat → Int64} (i : Nat) (pat : Int32) (to : Int32) (hi : i < 12)  : ww_MV l D (cw_t cy) yX1_miss wsX1_miss (ww_rm 2 45) [.ref (ad (10 + i)), .int pat, .int to] (cw_w ad cy claims phase epoch nxt seed pot terms claimed ecnt esum efac estr enum ewt ewa rlen rsum rlead rnum nw nwa nled nmis nmio nas nmem ncom nop ndep ndig nnum) (cw_w ad cy claims phase epoch nxt seed pot terms claimed ecnt esum efac estr enum ewt ewa rlen rsum rlead rnum nw nwa nled (upd nmis i (nmis i + 1)) (upd nmio i (if nmio i + 1 < pat then nmio i + 1 else 0)) (upd nas i (if nmio i + 1 < pat then nas i else f_max (nas i) to)) nmem ncom nop ndep ndig nnum) := by
  refine ww_MV_mk (cc := cX1_miss) (maxL := 3) (by decide) rfl (Nat.le_of_ble_eq_true rfl) ?_
  intro p e s m below meth c A ls hx hb hr hts hown hlk hml hA hw hl
  have hown : s.vm.findClass RX1 = some m.cls := hown
  have hl : lv_has ls 3 [(0, .ref (ad (10 + i))), (1, .int pat), (2, .int to)] := hl
  have hn1 : ∀ w ∈ wsX10, w ∈ wsX1_miss := by decide +kernel
  refine lv_aload_n hx hb dX1_miss_0 rfl (lv_at hl 0 rfl) ?_
  refine lv_dup hx hb dX1_miss_1 rfl ?_
  refine cg_X1_missed hx hb hts hn1 hown hw (by omega) (hts (.fieldLink RX1 46 "LeaderRows$Node" "missed" "I") (by decide +kernel)) dX1_miss_2 ?_
  refine lv_iconst (v := 1) hx hb dX1_miss_5 (by decide) ?_
  refine lv_iadd hx hb dX1_miss_6 ?_
  refine cp_nmis hx hb hts hn1 hown hw (by omega) (hts (.fieldLink RX1 46 "LeaderRows$Node" "missed" "I") (by decide +kernel)) dX1_miss_7 (fun H locs hw => ?_)
  refine lv_aload_n hx hb dX1_miss_10 rfl (lv_at hl 0 rfl) ?_
  refine lv_dup hx hb dX1_miss_11 rfl ?_
  refine cg_X1_missedInOne hx hb hts hn1 hown hw (by omega) (hts (.fieldLink RX1 43 "LeaderRows$Node" "missedInOne" "I") (by decide +kernel)) dX1_miss_12 ?_
  refine lv_iconst (v := 1) hx hb dX1_miss_15 (by decide) ?_
  refine lv_iadd hx hb dX1_miss_16 ?_
  refine cp_nmio hx hb hts hn1 hown hw (by omega) (hts (.fieldLink RX1 43 "LeaderRows$Node" "missedInOne" "I") (by decide +kernel)) dX1_miss_17 (fun H locs hw => ?_)
  refine lv_aload_n hx hb dX1_miss_20 rfl (lv_at hl 0 rfl) ?_
  refine cg_X1_missedInOne hx hb hts hn1 hown hw (by omega) (hts (.fieldLink RX1 43 "LeaderRows$Node" "missedInOne" "I") (by decide +kernel)) dX1_miss_21 ?_
  refine lv_iload_n hx hb dX1_miss_24 rfl (lv_at hl 1 rfl) ?_
  refine lv_icmp_lt (tgt := 38) hx hb dX1_miss_25 (by decide) (fun h1 => ?_) (fun h1 => ?_)
  · exact ww_rv hx hb hr hlk hw dX1_miss_38 (cw_c rfl rfl rfl rfl rfl rfl rfl rfl rfl rfl rfl rfl rfl rfl rfl rfl rfl rfl rfl rfl rfl rfl (by simp only [upd_s] at h1; simp [upd_s, upd_id, upd_upd, h1]) (by simp only [upd_s] at h1; simp [upd_s, upd_id, upd_upd, h1]) (by simp only [upd_s] at h1; simp [upd_s, upd_id, upd_upd, h1]) rfl rfl rfl rfl rfl rfl)
  · refine lv_aload_n hx hb dX1_miss_28 rfl (lv_at hl 0 rfl) ?_
    refine lv_iload_n hx hb dX1_miss_29 rfl (lv_at hl 2 rfl) ?_
    refine ww_cMV (As := [.int to]) (rest := []) hx hb hml hown hts hA hw hl.1 (k_X1_putAside l i to (by omega)) (cwV 1 hts gX1_miss_X1_putAside rfl rfl rfl (by decide +kernel) ⟨Nat.le_of_ble_eq_true rfl, Nat.le_of_ble_eq_true rfl⟩) rfl (10 + i) (cw_at rfl _ (by omega)) rfl rfl rfl (Nat.le_of_ble_eq_true rfl) ⟨Nat.zero_le _, Nat.zero_le _⟩ dX1_miss_30 (fun H locs hw => ?_)
    refine lv_aload_n hx hb dX1_miss_33 rfl (lv_at hl 0 rfl) ?_
    refine lv_iconst (v := 0) hx hb dX1_miss_34 (by decide) ?_
    refine cp_nmio hx hb hts hn1 hown hw (by omega) (hts (.fieldLink RX1 43 "LeaderRows$Node" "missedInOne" "I") (by decide +kernel)) dX1_miss_35 (fun H locs hw => ?_)
    exact ww_rv hx hb hr hlk hw dX1_miss_38 (cw_c rfl rfl rfl rfl rfl rfl rfl rfl rfl rfl rfl rfl rfl rfl rfl rfl rfl rfl rfl rfl rfl rfl (by simp only [upd_s] at h1; simp [upd_s, upd_id, upd_upd, h1]) (by simp only [upd_s] at h1; simp [upd_s, upd_id, upd_upd, h1]) (by simp only [upd_s] at h1; simp [upd_s, upd_id, upd_upd, h1]) rfl rfl rfl rfl rfl rfl)
set_option maxHeartbeats 4000000 in
set_option maxRecDepth 100000 in
theorem k_X1_tell (l : Launch) {D : va_G} {ad : Nat → Nat} {cy : Nat → ClassId} {claims phase epoch nxt : Int32} {seed pot : Int64} {terms claimed : Nat → Int32} {ecnt esum efac : Int32} {estr : Int64} {enum : Int32} {ewt ewa : Nat → Int32} {rlen rsum : Int32} {rlead rnum nw nwa nled nmis nmio nas nmem ncom nop : Nat → Int32} {ndep ndig nnum : Nat → Int64} (i : Nat) (what : Int32) (hi : i < 12)  : ww_MI l D (cw_t cy) yX1_tell wsX1_tell (ww_rm 0 0) [.ref (ad (10 + i)), .int what] (cw_w ad cy claims phase epoch nxt seed pot terms claimed ecnt esum efac estr enum ewt ewa rlen rsum rlead rnum nw nwa nled nmis nmio nas nmem ncom nop ndep ndig nnum) (cw_w ad cy claims phase epoch nxt seed pot terms claimed ecnt esum efac estr enum ewt ewa rlen rsum rlead rnum nw nwa nled nmis nmio nas nmem ncom nop ndep ndig nnum) (f_tell what (nw i) (nwa i) (nled i) (nmis i) (nas i) (nmem i) (ncom i) (nop i) (nmio i)) := by
  refine ww_MI_mk .int (cc := cX1_tell) (maxL := 2) (by decide) rfl (Nat.le_of_ble_eq_true rfl) ?_
  intro p e s m below meth c A ls hx hb hr hts hown hlk hml hA hw hl
  have hown : s.vm.findClass RX1 = some m.cls := hown
  have hl : lv_has ls 2 [(0, .ref (ad (10 + i))), (1, .int what)] := hl
  have hn1 : ∀ w ∈ wsX10, w ∈ wsX1_tell := by decide +kernel
  refine lv_iload_n hx hb dX1_tell_0 rfl (lv_at hl 1 rfl) ?_
  by_cases h1 : what = 0
  · refine lv_tableIn (tgt := 52) hx hb dX1_tell_1 (by rw [h1]; decide) (by rw [h1]; decide) (by rw [h1]; rfl) (by decide) ?_
    refine lv_aload_n hx hb dX1_tell_52 rfl (lv_at hl 0 rfl) ?_
    refine cg_X1_weight hx hb hts hn1 hown hw (by omega) (hts (.fieldLink RX1 15 "LeaderRows$Node" "weight" "I") (by decide +kernel)) dX1_tell_53 ?_
    exact ww_ri hx hb hr hlk hw dX1_tell_56 (by simp [f_tell, h1]) rfl
  by_cases h2 : what = 1
  · refine lv_tableIn (tgt := 57) hx hb dX1_tell_1 (by rw [h2]; decide) (by rw [h2]; decide) (by rw [h2]; rfl) (by decide) ?_
    refine lv_aload_n hx hb dX1_tell_57 rfl (lv_at hl 0 rfl) ?_
    refine cg_X1_wait hx hb hts hn1 hown hw (by omega) (hts (.fieldLink RX1 53 "LeaderRows$Node" "wait" "I") (by decide +kernel)) dX1_tell_58 ?_
    exact ww_ri hx hb hr hlk hw dX1_tell_61 (by simp [f_tell, h1, h2]) rfl
  by_cases h3 : what = 2
  · refine lv_tableIn (tgt := 62) hx hb dX1_tell_1 (by rw [h3]; decide) (by rw [h3]; decide) (by rw [h3]; rfl) (by decide) ?_
    refine lv_aload_n hx hb dX1_tell_62 rfl (lv_at hl 0 rfl) ?_
    refine cg_X1_led hx hb hts hn1 hown hw (by omega) (hts (.fieldLink RX1 40 "LeaderRows$Node" "led" "I") (by decide +kernel)) dX1_tell_63 ?_
    exact ww_ri hx hb hr hlk hw dX1_tell_66 (by simp [f_tell, h1, h2, h3]) rfl
  by_cases h4 : what = 3
  · refine lv_tableIn (tgt := 67) hx hb dX1_tell_1 (by rw [h4]; decide) (by rw [h4]; decide) (by rw [h4]; rfl) (by decide) ?_
    refine lv_aload_n hx hb dX1_tell_67 rfl (lv_at hl 0 rfl) ?_
    refine cg_X1_missed hx hb hts hn1 hown hw (by omega) (hts (.fieldLink RX1 46 "LeaderRows$Node" "missed" "I") (by decide +kernel)) dX1_tell_68 ?_
    exact ww_ri hx hb hr hlk hw dX1_tell_71 (by simp [f_tell, h1, h2, h3, h4]) rfl
  by_cases h5 : what = 4
  · refine lv_tableIn (tgt := 72) hx hb dX1_tell_1 (by rw [h5]; decide) (by rw [h5]; decide) (by rw [h5]; rfl) (by decide) ?_
    refine lv_aload_n hx hb dX1_tell_72 rfl (lv_at hl 0 rfl) ?_
    refine cg_X1_aside hx hb hts hn1 hown hw (by omega) (hts (.fieldLink RX1 9 "LeaderRows$Node" "aside" "I") (by decide +kernel)) dX1_tell_73 ?_
    exact ww_ri hx hb hr hlk hw dX1_tell_76 (by simp [f_tell, h1, h2, h3, h4, h5]) rfl
  by_cases h6 : what = 5
  · refine lv_tableIn (tgt := 77) hx hb dX1_tell_1 (by rw [h6]; decide) (by rw [h6]; decide) (by rw [h6]; rfl) (by decide) ?_
    refine lv_aload_n hx hb dX1_tell_77 rfl (lv_at hl 0 rfl) ?_
    refine cg_X1_member hx hb hts hn1 hown hw (by omega) (hts (.fieldLink RX1 22 "LeaderRows$Node" "member" "Z") (by decide +kernel)) dX1_tell_78 ?_
    refine ww_joinI (rest := []) 89 (if (nmem i) = 0 then 0 else 1) (fun K7 => ?_) ?_
    · refine lv_if_eq (tgt := 88) hx hb dX1_tell_81 (by decide) (fun h8 => ?_) (fun h8 => ?_)
      · refine lv_iconst (v := 0) hx hb dX1_tell_88 (by decide) ?_
        exact ww_top (by rw [if_pos h8]) K7
      · refine lv_iconst (v := 1) hx hb dX1_tell_84 (by decide) ?_
        refine lv_goto (tgt := 89) hx hb dX1_tell_85 (by decide) ?_
        exact ww_top (by rw [if_neg h8]) K7
    exact ww_ri hx hb hr hlk hw dX1_tell_89 (by simp [f_tell, h1, h2, h3, h4, h5, h6]) rfl
  by_cases h9 : what = 6
  · refine lv_tableIn (tgt := 90) hx hb dX1_tell_1 (by rw [h9]; decide) (by rw [h9]; decide) (by rw [h9]; rfl) (by decide) ?_
    refine lv_aload_n hx hb dX1_tell_90 rfl (lv_at hl 0 rfl) ?_
    refine cg_X1_committed hx hb hts hn1 hown hw (by omega) (hts (.fieldLink RX1 26 "LeaderRows$Node" "committed" "Z") (by decide +kernel)) dX1_tell_91 ?_
    refine ww_joinI (rest := []) 102 (if (ncom i) = 0 then 0 else 1) (fun K10 => ?_) ?_
    · refine lv_if_eq (tgt := 101) hx hb dX1_tell_94 (by decide) (fun h11 => ?_) (fun h11 => ?_)
      · refine lv_iconst (v := 0) hx hb dX1_tell_101 (by decide) ?_
        exact ww_top (by rw [if_pos h11]) K10
      · refine lv_iconst (v := 1) hx hb dX1_tell_97 (by decide) ?_
        refine lv_goto (tgt := 102) hx hb dX1_tell_98 (by decide) ?_
        exact ww_top (by rw [if_neg h11]) K10
    exact ww_ri hx hb hr hlk hw dX1_tell_102 (by simp [f_tell, h1, h2, h3, h4, h5, h6, h9]) rfl
  by_cases h12 : what = 7
  · refine lv_tableIn (tgt := 103) hx hb dX1_tell_1 (by rw [h12]; decide) (by rw [h12]; decide) (by rw [h12]; rfl) (by decide) ?_
    refine lv_aload_n hx hb dX1_tell_103 rfl (lv_at hl 0 rfl) ?_
    refine cg_X1_opened hx hb hts hn1 hown hw (by omega) (hts (.fieldLink RX1 29 "LeaderRows$Node" "opened" "Z") (by decide +kernel)) dX1_tell_104 ?_
    refine ww_joinI (rest := []) 115 (if (nop i) = 0 then 0 else 1) (fun K13 => ?_) ?_
    · refine lv_if_eq (tgt := 114) hx hb dX1_tell_107 (by decide) (fun h14 => ?_) (fun h14 => ?_)
      · refine lv_iconst (v := 0) hx hb dX1_tell_114 (by decide) ?_
        exact ww_top (by rw [if_pos h14]) K13
      · refine lv_iconst (v := 1) hx hb dX1_tell_110 (by decide) ?_
        refine lv_goto (tgt := 115) hx hb dX1_tell_111 (by decide) ?_
        exact ww_top (by rw [if_neg h14]) K13
    exact ww_ri hx hb hr hlk hw dX1_tell_115 (by simp [f_tell, h1, h2, h3, h4, h5, h6, h9, h12]) rfl
  by_cases h15 : what = 8
  · refine lv_tableIn (tgt := 116) hx hb dX1_tell_1 (by rw [h15]; decide) (by rw [h15]; decide) (by rw [h15]; rfl) (by decide) ?_
    refine lv_aload_n hx hb dX1_tell_116 rfl (lv_at hl 0 rfl) ?_
    refine cg_X1_missedInOne hx hb hts hn1 hown hw (by omega) (hts (.fieldLink RX1 43 "LeaderRows$Node" "missedInOne" "I") (by decide +kernel)) dX1_tell_117 ?_
    exact ww_ri hx hb hr hlk hw dX1_tell_120 (by simp [f_tell, h1, h2, h3, h4, h5, h6, h9, h12, h15]) rfl
  refine lv_tableOut (tgt := 121) hx hb dX1_tell_1 (sw_out 8 (by decide) (fun k hk => by rcases (show k = 0 ∨ k = 1 ∨ k = 2 ∨ k = 3 ∨ k = 4 ∨ k = 5 ∨ k = 6 ∨ k = 7 ∨ k = 8 by omega) with rfl | rfl | rfl | rfl | rfl | rfl | rfl | rfl | rfl <;> first | exact h1 | exact h2 | exact h3 | exact h4 | exact h5 | exact h6 | exact h9 | exact h12 | exact h15)) (by decide) ?_
  refine lv_iconst (v := (-1)) hx hb dX1_tell_121 (by decide) ?_
  exact ww_ri hx hb hr hlk hw dX1_tell_122 (by simp [f_tell, h1, h2, h3, h4, h5, h6, h9, h12, h15]) rfl
set_option maxHeartbeats 4000000 in
set_option maxRecDepth 100000 in
theorem k_X2_clear (l : Launch) {D : va_G} {ad : Nat → Nat} {cy : Nat → ClassId} {claims phase epoch nxt : Int32} {seed pot : Int64} {terms claimed : Nat → Int32} {ecnt esum efac : Int32} {estr : Int64} {enum : Int32} {ewt ewa : Nat → Int32} {rlen rsum : Int32} {rlead rnum nw nwa nled nmis nmio nas nmem ncom nop : Nat → Int32} {ndep ndig nnum : Nat → Int64} (sw : Int32)  : ww_MV l D (cw_t cy) yX2_clear wsX2_clear (ww_rm 0 0) [.ref (ad 4), .int sw] (cw_w ad cy claims phase epoch nxt seed pot terms claimed ecnt esum efac estr enum ewt ewa rlen rsum rlead rnum nw nwa nled nmis nmio nas nmem ncom nop ndep ndig nnum) (cw_w ad cy claims phase epoch nxt seed pot terms claimed ecnt esum efac estr enum ewt ewa 0 sw rlead rnum nw nwa nled nmis nmio nas nmem ncom nop ndep ndig nnum) := by
  refine ww_MV_mk (cc := cX2_clear) (maxL := 2) (by decide) rfl (Nat.le_of_ble_eq_true rfl) ?_
  intro p e s m below meth c A ls hx hb hr hts hown hlk hml hA hw hl
  have hown : s.vm.findClass RX2 = some m.cls := hown
  have hl : lv_has ls 2 [(0, .ref (ad 4)), (1, .int sw)] := hl
  have hn2 : ∀ w ∈ wsX20, w ∈ wsX2_clear := by decide +kernel
  refine lv_aload_n hx hb dX2_clear_0 rfl (lv_at hl 0 rfl) ?_
  refine lv_iconst (v := 0) hx hb dX2_clear_1 (by decide) ?_
  refine cp_rlen hx hb hts hn2 hown hw (hts (.fieldLink RX2 18 "LeaderRows$Row" "length" "I") (by decide +kernel)) dX2_clear_2 (fun H locs hw => ?_)
  refine lv_aload_n hx hb dX2_clear_5 rfl (lv_at hl 0 rfl) ?_
  refine lv_iload_n hx hb dX2_clear_6 rfl (lv_at hl 1 rfl) ?_
  refine cp_rsum hx hb hts hn2 hown hw (hts (.fieldLink RX2 22 "LeaderRows$Row" "sum" "I") (by decide +kernel)) dX2_clear_7 (fun H locs hw => ?_)
  exact ww_rv hx hb hr hlk hw dX2_clear_10 rfl
set_option maxHeartbeats 4000000 in
set_option maxRecDepth 100000 in
theorem k_X2_append (l : Launch) {D : va_G} {ad : Nat → Nat} {cy : Nat → ClassId} {claims phase epoch nxt : Int32} {seed pot : Int64} {terms claimed : Nat → Int32} {ecnt esum efac : Int32} {estr : Int64} {enum : Int32} {ewt ewa : Nat → Int32} {rsum : Int32} {rlead rnum nw nwa nled nmis nmio nas nmem ncom nop : Nat → Int32} {ndep ndig nnum : Nat → Int64} (t : Nat) (who : Int32) (num : Int32) (ht : t < 60)  : ww_MV l D (cw_t cy) yX2_append wsX2_append (ww_rm 0 0) [.ref (ad 4), .int who, .int num] (cw_w ad cy claims phase epoch nxt seed pot terms claimed ecnt esum efac estr enum ewt ewa (nI t) rsum rlead rnum nw nwa nled nmis nmio nas nmem ncom nop ndep ndig nnum) (cw_w ad cy claims phase epoch nxt seed pot terms claimed ecnt esum efac estr enum ewt ewa (nI (t + 1)) rsum (upd rlead t who) (upd rnum t num) nw nwa nled nmis nmio nas nmem ncom nop ndep ndig nnum) := by
  refine ww_MV_mk (cc := cX2_append) (maxL := 3) (by decide) rfl (Nat.le_of_ble_eq_true rfl) ?_
  intro p e s m below meth c A ls hx hb hr hts hown hlk hml hA hw hl
  have hown : s.vm.findClass RX2 = some m.cls := hown
  have hl : lv_has ls 3 [(0, .ref (ad 4)), (1, .int who), (2, .int num)] := hl
  have hn2 : ∀ w ∈ wsX20, w ∈ wsX2_append := by decide +kernel
  refine lv_aload_n hx hb dX2_append_0 rfl (lv_at hl 0 rfl) ?_
  refine cg_X2_length hx hb hts hn2 hown hw (hts (.fieldLink RX2 18 "LeaderRows$Row" "length" "I") (by decide +kernel)) dX2_append_1 ?_
  refine lv_bipush (v := 60) hx hb dX2_append_4 (by decide) ?_
  refine lv_icmp_ge (tgt := 39) hx hb dX2_append_6 (by decide) (fun h1 => absurd h1 (nI_nge 60 rfl ht (by decide))) (fun _ => ?_)
  refine lv_aload_n hx hb dX2_append_9 rfl (lv_at hl 0 rfl) ?_
  refine cg_X2_leaders hx hb hts hn2 hown hw (hts (.fieldLink RX2 9 "LeaderRows$Row" "leaders" "[I") (by decide +kernel)) dX2_append_10 ?_
  refine lv_aload_n hx hb dX2_append_13 rfl (lv_at hl 0 rfl) ?_
  refine cg_X2_length hx hb hts hn2 hown hw (hts (.fieldLink RX2 18 "LeaderRows$Row" "length" "I") (by decide +kernel)) dX2_append_14 ?_
  refine lv_iload_n hx hb dX2_append_17 rfl (lv_at hl 1 rfl) ?_
  refine cs_rlead hx hb hw t (by omega) rfl dX2_append_18 (fun H locs hw => ?_)
  refine lv_aload_n hx hb dX2_append_19 rfl (lv_at hl 0 rfl) ?_
  refine cg_X2_numbers hx hb hts hn2 hown hw (hts (.fieldLink RX2 15 "LeaderRows$Row" "numbers" "[I") (by decide +kernel)) dX2_append_20 ?_
  refine lv_aload_n hx hb dX2_append_23 rfl (lv_at hl 0 rfl) ?_
  refine cg_X2_length hx hb hts hn2 hown hw (hts (.fieldLink RX2 18 "LeaderRows$Row" "length" "I") (by decide +kernel)) dX2_append_24 ?_
  refine lv_iload_n hx hb dX2_append_27 rfl (lv_at hl 2 rfl) ?_
  refine cs_rnum hx hb hw t (by omega) rfl dX2_append_28 (fun H locs hw => ?_)
  refine lv_aload_n hx hb dX2_append_29 rfl (lv_at hl 0 rfl) ?_
  refine lv_dup hx hb dX2_append_30 rfl ?_
  refine cg_X2_length hx hb hts hn2 hown hw (hts (.fieldLink RX2 18 "LeaderRows$Row" "length" "I") (by decide +kernel)) dX2_append_31 ?_
  refine lv_iconst (v := 1) hx hb dX2_append_34 (by decide) ?_
  refine lv_iadd hx hb dX2_append_35 ?_
  refine cp_rlen hx hb hts hn2 hown hw (hts (.fieldLink RX2 18 "LeaderRows$Row" "length" "I") (by decide +kernel)) dX2_append_36 (fun H locs hw => ?_)
  exact ww_rv hx hb hr hlk hw dX2_append_39 (cw_c rfl rfl rfl rfl rfl rfl rfl rfl rfl rfl rfl rfl rfl rfl rfl (nI_1 t) rfl rfl rfl rfl rfl rfl rfl rfl rfl rfl rfl rfl rfl rfl rfl)
set_option maxHeartbeats 4000000 in
set_option maxRecDepth 100000 in
theorem k_X2_has (l : Launch) {D : va_G} {ad : Nat → Nat} {cy : Nat → ClassId} {claims phase epoch nxt : Int32} {seed pot : Int64} {terms claimed : Nat → Int32} {ecnt esum efac : Int32} {estr : Int64} {enum : Int32} {ewt ewa : Nat → Int32} {rlen rsum : Int32} {rlead rnum nw nwa nled nmis nmio nas nmem ncom nop : Nat → Int32} {ndep ndig nnum : Nat → Int64} (k : Int32)  : ww_MI l D (cw_t cy) yX2_has wsX2_has (ww_rm 0 0) [.ref (ad 4), .int k] (cw_w ad cy claims phase epoch nxt seed pot terms claimed ecnt esum efac estr enum ewt ewa rlen rsum rlead rnum nw nwa nled nmis nmio nas nmem ncom nop ndep ndig nnum) (cw_w ad cy claims phase epoch nxt seed pot terms claimed ecnt esum efac estr enum ewt ewa rlen rsum rlead rnum nw nwa nled nmis nmio nas nmem ncom nop ndep ndig nnum) (f_has k rlen) := by
  refine ww_MI_mk .boolean (cc := cX2_has) (maxL := 2) (by decide) rfl (Nat.le_of_ble_eq_true rfl) ?_
  intro p e s m below meth c A ls hx hb hr hts hown hlk hml hA hw hl
  have hown : s.vm.findClass RX2 = some m.cls := hown
  have hl : lv_has ls 2 [(0, .ref (ad 4)), (1, .int k)] := hl
  have hn2 : ∀ w ∈ wsX20, w ∈ wsX2_has := by decide +kernel
  refine lv_iload_n hx hb dX2_has_0 rfl (lv_at hl 1 rfl) ?_
  refine ww_joinI (rest := []) 17 (if k < 0 then 0 else if rlen ≤ k then 0 else 1) (fun K1 => ?_) ?_
  · refine lv_if_lt (tgt := 16) hx hb dX2_has_1 (by decide) (fun h2 => ?_) (fun h2 => ?_)
    · refine lv_iconst (v := 0) hx hb dX2_has_16 (by decide) ?_
      exact ww_top (by rw [if_pos h2]) K1
    · refine lv_iload_n hx hb dX2_has_4 rfl (lv_at hl 1 rfl) ?_
      refine lv_aload_n hx hb dX2_has_5 rfl (lv_at hl 0 rfl) ?_
      refine cg_X2_length hx hb hts hn2 hown hw (hts (.fieldLink RX2 18 "LeaderRows$Row" "length" "I") (by decide +kernel)) dX2_has_6 ?_
      refine lv_icmp_ge (tgt := 16) hx hb dX2_has_9 (by decide) (fun h3 => ?_) (fun h3 => ?_)
      · refine lv_iconst (v := 0) hx hb dX2_has_16 (by decide) ?_
        exact ww_top (by rw [if_neg h2, if_pos h3]) K1
      · refine lv_iconst (v := 1) hx hb dX2_has_12 (by decide) ?_
        refine lv_goto (tgt := 17) hx hb dX2_has_13 (by decide) ?_
        exact ww_top (by rw [if_neg h2, if_neg h3]) K1
  exact ww_rz hx hb hr hlk hw dX2_has_17 (by (repeat' split) <;> rfl) (rfl) rfl
set_option maxHeartbeats 4000000 in
set_option maxRecDepth 100000 in
theorem k_X2_leaderOf (l : Launch) {D : va_G} {ad : Nat → Nat} {cy : Nat → ClassId} {claims phase epoch nxt : Int32} {seed pot : Int64} {terms claimed : Nat → Int32} {ecnt esum efac : Int32} {estr : Int64} {enum : Int32} {ewt ewa : Nat → Int32} {rsum : Int32} {rlead rnum nw nwa nled nmis nmio nas nmem ncom nop : Nat → Int32} {ndep ndig nnum : Nat → Int64} (T : Nat) (k : Int32) (hT : T ≤ 60)  : ww_MI l D (cw_t cy) yX2_leaderOf wsX2_leaderOf (ww_rm 1 21) [.ref (ad 4), .int k] (cw_w ad cy claims phase epoch nxt seed pot terms claimed ecnt esum efac estr enum ewt ewa (nI T) rsum rlead rnum nw nwa nled nmis nmio nas nmem ncom nop ndep ndig nnum) (cw_w ad cy claims phase epoch nxt seed pot terms claimed ecnt esum efac estr enum ewt ewa (nI T) rsum rlead rnum nw nwa nled nmis nmio nas nmem ncom nop ndep ndig nnum) (f_at k (nI T) rlead) := by
  refine ww_MI_mk .int (cc := cX2_leaderOf) (maxL := 2) (by decide) rfl (Nat.le_of_ble_eq_true rfl) ?_
  intro p e s m below meth c A ls hx hb hr hts hown hlk hml hA hw hl
  have hown : s.vm.findClass RX2 = some m.cls := hown
  have hl : lv_has ls 2 [(0, .ref (ad 4)), (1, .int k)] := hl
  have hn2 : ∀ w ∈ wsX20, w ∈ wsX2_leaderOf := by decide +kernel
  refine lv_aload_n hx hb dX2_leaderOf_0 rfl (lv_at hl 0 rfl) ?_
  refine lv_iload_n hx hb dX2_leaderOf_1 rfl (lv_at hl 1 rfl) ?_
  refine ww_cMI (As := [.int k]) (rest := []) hx hb hml hown hts hA hw hl.1 (k_X2_has l k) (cwV 1 hts gX2_leaderOf_X2_has rfl rfl rfl (by decide +kernel) ⟨Nat.le_of_ble_eq_true rfl, Nat.le_of_ble_eq_true rfl⟩) rfl 4 rfl rfl rfl rfl (Nat.le_of_ble_eq_true rfl) ⟨Nat.zero_le _, Nat.zero_le _⟩ dX2_leaderOf_2 (fun H locs hw => ?_)
  refine lv_if_eq (tgt := 17) hx hb dX2_leaderOf_5 (by decide) (fun h1 => ?_) (fun h1 => ?_)
  · refine lv_bipush (v := (-2)) hx hb dX2_leaderOf_17 (by decide) ?_
    exact ww_ri hx hb hr hlk hw dX2_leaderOf_19 (by first | exact (f_at_in _ hj (by omega)).symm | exact (f_at_out _ h1).symm) rfl
  · obtain ⟨j, hj, rfl⟩ := f_has_in (by omega) h1
    refine lv_aload_n hx hb dX2_leaderOf_8 rfl (lv_at hl 0 rfl) ?_
    refine cg_X2_leaders hx hb hts hn2 hown hw (hts (.fieldLink RX2 9 "LeaderRows$Row" "leaders" "[I") (by decide +kernel)) dX2_leaderOf_9 ?_
    refine lv_iload_n hx hb dX2_leaderOf_12 rfl (lv_at hl 1 rfl) ?_
    refine ca_rlead hx hb hw j (by omega) rfl dX2_leaderOf_13 ?_
    refine lv_goto (tgt := 19) hx hb dX2_leaderOf_14 (by decide) ?_
    exact ww_ri hx hb hr hlk hw dX2_leaderOf_19 (by first | exact (f_at_in _ hj (by omega)).symm | exact (f_at_out _ h1).symm) rfl
set_option maxHeartbeats 4000000 in
set_option maxRecDepth 100000 in
theorem k_X2_numbersOf (l : Launch) {D : va_G} {ad : Nat → Nat} {cy : Nat → ClassId} {claims phase epoch nxt : Int32} {seed pot : Int64} {terms claimed : Nat → Int32} {ecnt esum efac : Int32} {estr : Int64} {enum : Int32} {ewt ewa : Nat → Int32} {rsum : Int32} {rlead rnum nw nwa nled nmis nmio nas nmem ncom nop : Nat → Int32} {ndep ndig nnum : Nat → Int64} (T : Nat) (k : Int32) (hT : T ≤ 60)  : ww_MI l D (cw_t cy) yX2_numbersOf wsX2_numbersOf (ww_rm 1 21) [.ref (ad 4), .int k] (cw_w ad cy claims phase epoch nxt seed pot terms claimed ecnt esum efac estr enum ewt ewa (nI T) rsum rlead rnum nw nwa nled nmis nmio nas nmem ncom nop ndep ndig nnum) (cw_w ad cy claims phase epoch nxt seed pot terms claimed ecnt esum efac estr enum ewt ewa (nI T) rsum rlead rnum nw nwa nled nmis nmio nas nmem ncom nop ndep ndig nnum) (f_at k (nI T) rnum) := by
  refine ww_MI_mk .int (cc := cX2_numbersOf) (maxL := 2) (by decide) rfl (Nat.le_of_ble_eq_true rfl) ?_
  intro p e s m below meth c A ls hx hb hr hts hown hlk hml hA hw hl
  have hown : s.vm.findClass RX2 = some m.cls := hown
  have hl : lv_has ls 2 [(0, .ref (ad 4)), (1, .int k)] := hl
  have hn2 : ∀ w ∈ wsX20, w ∈ wsX2_numbersOf := by decide +kernel
  refine lv_aload_n hx hb dX2_numbersOf_0 rfl (lv_at hl 0 rfl) ?_
  refine lv_iload_n hx hb dX2_numbersOf_1 rfl (lv_at hl 1 rfl) ?_
  refine ww_cMI (As := [.int k]) (rest := []) hx hb hml hown hts hA hw hl.1 (k_X2_has l k) (cwV 1 hts gX2_numbersOf_X2_has rfl rfl rfl (by decide +kernel) ⟨Nat.le_of_ble_eq_true rfl, Nat.le_of_ble_eq_true rfl⟩) rfl 4 rfl rfl rfl rfl (Nat.le_of_ble_eq_true rfl) ⟨Nat.zero_le _, Nat.zero_le _⟩ dX2_numbersOf_2 (fun H locs hw => ?_)
  refine lv_if_eq (tgt := 17) hx hb dX2_numbersOf_5 (by decide) (fun h1 => ?_) (fun h1 => ?_)
  · refine lv_bipush (v := (-2)) hx hb dX2_numbersOf_17 (by decide) ?_
    exact ww_ri hx hb hr hlk hw dX2_numbersOf_19 (by first | exact (f_at_in _ hj (by omega)).symm | exact (f_at_out _ h1).symm) rfl
  · obtain ⟨j, hj, rfl⟩ := f_has_in (by omega) h1
    refine lv_aload_n hx hb dX2_numbersOf_8 rfl (lv_at hl 0 rfl) ?_
    refine cg_X2_numbers hx hb hts hn2 hown hw (hts (.fieldLink RX2 15 "LeaderRows$Row" "numbers" "[I") (by decide +kernel)) dX2_numbersOf_9 ?_
    refine lv_iload_n hx hb dX2_numbersOf_12 rfl (lv_at hl 1 rfl) ?_
    refine ca_rnum hx hb hw j (by omega) rfl dX2_numbersOf_13 ?_
    refine lv_goto (tgt := 19) hx hb dX2_numbersOf_14 (by decide) ?_
    exact ww_ri hx hb hr hlk hw dX2_numbersOf_19 (by first | exact (f_at_in _ hj (by omega)).symm | exact (f_at_out _ h1).symm) rfl
