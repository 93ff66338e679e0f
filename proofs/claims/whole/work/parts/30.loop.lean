set_option maxHeartbeats 8000000 in
set_option maxRecDepth 100000 in
theorem law_loop {p : Program} {l : Launch} {e : Env} {s : State} {m : MethodId} {below : List Frame} {meth : Method} {c : Code} {D : va_G} {adc : Nat → Nat} {cyc : Nat → ClassId} {adm : Nat → Nat} {cym : Nat → ClassId} {b L : Nat} {xs : Nat → Int32} {t0 t1 : Nat} (hL : L ≤ 3072) (C0 : lw_At p s m meth c b L xs) (hZ : ww_Zs t0 t1 (fun q : Nat => s.heap.size ≤ q) s s.heap) :
    ∀ (n q : Nat), q + n = 513 → ∀ (wC wM : va_W) (H : Heap) (locs : List Loc) (ls : Array Slot), lr_S adc cyc adm cym q wC wM → ww_W D (cw_t cyc ++ mw_t cym) (fun q : Nat => s.heap.size ≤ q) s (wC ++ wM) H locs → lv_has ls 4 [(0, .ref b), (1, .ref (adc 0)), (2, .ref (adm 0)), (3, .int (nI (6 * q)))] → W p l e room_1 s m #[Value.ref b] below meth c H locs 43 889 (lw_Z below #[Value.ref b] s) (F0 m 18 ls []) := by
  obtain ⟨hx, hb, hr, hml, hown, hts, hX, hbl, hlocks, hgv⟩ := id C0
  have hA : ∀ q : Nat, s.heap.size ≤ q → (fun q : Nat => s.heap.size ≤ q) q := fun _ h => h
  have hbA : ¬ (fun q : Nat => s.heap.size ≤ q) b := Nat.not_le.mpr hbl
  have hcs : 43 ≤ room_1.cells ∧ 889 ≤ room_1.slots := ⟨(Nat.le_of_ble_eq_true rfl), (Nat.le_of_ble_eq_true rfl)⟩
  intro n
  induction n with
  | zero =>
    intro q hqn wC wM H locs ls hS hw hl
    refine lv_iload_n hx hb dL_law_18 rfl (lv_at hl 3 rfl) ?_
    refine lv_aload_n hx hb dL_law_19 rfl (lv_at hl 0 rfl) ?_
    refine va_slen hx hb hX hbl hbA hw.2.2.2.1 dL_law_20 ?_
    refine lv_bipush (v := 6) hx hb dL_law_21 (by decide) ?_
    refine lv_isub hx hb dL_law_23 ?_
    refine lv_icmp_gt (tgt := 812) hx hb dL_law_24 (by decide) (fun h1 => ?_) (fun h1 => ?_)
    · refine lv_iconst (v := 1) hx hb dL_law_812 (by decide) ?_
      refine va_forget (fun q hq => hw.2.2.2.1.2.2 q hq) ?_
      refine W.widen (k := 600000) (n := 7302250) (Nat.le_of_ble_eq_true rfl) (Nat.le_of_ble_eq_true rfl) ?_
      exact lw_ret hx hb hr hlocks dL_law_813
    · exact absurd (law_c hL (by omega) h1) (by omega)
  | succ n ih =>
    intro q hqn wC wM H locs ls hS hw hl
    refine lv_iload_n hx hb dL_law_18 rfl (lv_at hl 3 rfl) ?_
    refine lv_aload_n hx hb dL_law_19 rfl (lv_at hl 0 rfl) ?_
    refine va_slen hx hb hX hbl hbA hw.2.2.2.1 dL_law_20 ?_
    refine lv_bipush (v := 6) hx hb dL_law_21 (by decide) ?_
    refine lv_isub hx hb dL_law_23 ?_
    refine lv_icmp_gt (tgt := 812) hx hb dL_law_24 (by decide) (fun h1 => ?_) (fun h1 => ?_)
    · refine lv_iconst (v := 1) hx hb dL_law_812 (by decide) ?_
      refine va_forget (fun q hq => hw.2.2.2.1.2.2 q hq) ?_
      refine W.widen (k := 600000) (n := 7302250) (Nat.le_of_ble_eq_true rfl) (Nat.le_of_ble_eq_true rfl) ?_
      exact lw_ret hx hb hr hlocks dL_law_813
    · have hq : 6 * q + 6 ≤ L := law_c hL (by omega) h1
      have K : ∀ (wC' wM' : va_W) (H1 : Heap) (locs1 : List Loc), lr_S adc cyc adm cym (q + 1) wC' wM' → ww_W D (cw_t cyc ++ mw_t cym) (fun q : Nat => s.heap.size ≤ q) s (wC' ++ wM') H1 locs1 → W p l e room_1 s m #[Value.ref b] below meth c H1 locs1 43 889 (lw_Z below #[Value.ref b] s) (F0 m 806 ls []) := by
        intro wC' wM' H1 locs1 hS' hw'
        refine lv_iinc (v := nI (6 * (q + 1))) (lv' := [(3, .int (nI (6 * (q + 1)))), (0, .ref b), (1, .ref (adc 0)), (2, .ref (adm 0))]) hx hb dL_law_806 hl (k := 3) rfl (nI_add (6 * q) 6) (by decide) rfl (fun ls hl => ?_)
        refine lv_goto (tgt := 18) hx hb dL_law_809 (by decide) ?_
        exact ih (q + 1) (by omega) wC' wM' H1 locs1 ls hS' hw' (lv_sub hl [1, 2, 3, 0] rfl)
      refine lv_aload_n hx hb dL_law_27 rfl (lv_at hl 0 rfl) ?_
      refine lv_iload_n hx hb dL_law_28 rfl (lv_at hl 3 rfl) ?_
      refine va_sld hx hb hX hbl hbA hw.2.2.2.1 (vp_in_nI (n := 6 * q) (by omega) (by omega)) dL_law_29 ?_
      refine lv_bipush (v := 31) hx hb dL_law_30 (by decide) ?_
      refine lv_iand hx hb dL_law_32 ?_
      refine lv_topi (fun v ev => ?_)
      by_cases h0_ : v = 0
      · refine lv_tableIn (tgt := 124) hx hb dL_law_33 (by rw [h0_]; decide) (by rw [h0_]; decide) (by rw [h0_]; rfl) (by decide) ?_
        exact la_weight hL C0 hZ hq hS hw hl hcs K
      by_cases h1_ : v = 1
      · refine lv_tableIn (tgt := 157) hx hb dL_law_33 (by rw [h1_]; decide) (by rw [h1_]; decide) (by rw [h1_]; rfl) (by decide) ?_
        exact la_deposit hL C0 hZ hq hS hw hl hcs K
      by_cases h2_ : v = 2
      · refine lv_tableIn (tgt := 221) hx hb dL_law_33 (by rw [h2_]; decide) (by rw [h2_]; decide) (by rw [h2_]; rfl) (by decide) ?_
        exact la_term hL C0 hZ hq hS hw hl hcs K
      by_cases h3_ : v = 3
      · refine lv_tableIn (tgt := 254) hx hb dL_law_33 (by rw [h3_]; decide) (by rw [h3_]; decide) (by rw [h3_]; rfl) (by decide) ?_
        exact la_begin hL C0 hZ hq hS hw hl hcs K
      by_cases h4_ : v = 4
      · refine lv_tableIn (tgt := 267) hx hb dL_law_33 (by rw [h4_]; decide) (by rw [h4_]; decide) (by rw [h4_]; rfl) (by decide) ?_
        exact la_commit hL C0 hZ hq hS hw hl hcs K
      by_cases h5_ : v = 5
      · refine lv_tableIn (tgt := 330) hx hb dL_law_33 (by rw [h5_]; decide) (by rw [h5_]; decide) (by rw [h5_]; rfl) (by decide) ?_
        exact la_opening hL C0 hZ hq hS hw hl hcs K
      by_cases h6_ : v = 6
      · refine lv_tableIn (tgt := 343) hx hb dL_law_33 (by rw [h6_]; decide) (by rw [h6_]; decide) (by rw [h6_]; rfl) (by decide) ?_
        exact la_open hL C0 hZ hq hS hw hl hcs K
      by_cases h7_ : v = 7
      · refine lv_tableIn (tgt := 406) hx hb dL_law_33 (by rw [h7_]; decide) (by rw [h7_]; decide) (by rw [h7_]; rfl) (by decide) ?_
        exact la_draw hL C0 hZ hq hS hw hl hcs K
      by_cases h8_ : v = 8
      · refine lv_tableIn (tgt := 429) hx hb dL_law_33 (by rw [h8_]; decide) (by rw [h8_]; decide) (by rw [h8_]; rfl) (by decide) ?_
        exact la_turn hL C0 hZ hq hS hw hl hcs K
      by_cases h9_ : v = 9
      · refine lv_tableIn (tgt := 468) hx hb dL_law_33 (by rw [h9_]; decide) (by rw [h9_]; decide) (by rw [h9_]; rfl) (by decide) ?_
        exact la_leader hL C0 hZ hq hS hw hl hcs K
      by_cases h10_ : v = 10
      · refine lv_tableIn (tgt := 491) hx hb dL_law_33 (by rw [h10_]; decide) (by rw [h10_]; decide) (by rw [h10_]; rfl) (by decide) ?_
        exact la_drawn hL C0 hZ hq hS hw hl hcs K
      by_cases h11_ : v = 11
      · refine lv_tableIn (tgt := 514) hx hb dL_law_33 (by rw [h11_]; decide) (by rw [h11_]; decide) (by rw [h11_]; rfl) (by decide) ?_
        exact la_claim hL C0 hZ hq hS hw hl hcs K
      by_cases h12_ : v = 12
      · refine lv_tableIn (tgt := 537) hx hb dL_law_33 (by rw [h12_]; decide) (by rw [h12_]; decide) (by rw [h12_]; rfl) (by decide) ?_
        exact la_check hL C0 hZ hq hS hw hl hcs K
      by_cases h13_ : v = 13
      · refine lv_tableIn (tgt := 550) hx hb dL_law_33 (by rw [h13_]; decide) (by rw [h13_]; decide) (by rw [h13_]; rfl) (by decide) ?_
        exact la_would hL C0 hZ hq hS hw hl hcs K
      by_cases h14_ : v = 14
      · refine lv_tableIn (tgt := 649) hx hb dL_law_33 (by rw [h14_]; decide) (by rw [h14_]; decide) (by rw [h14_]; rfl) (by decide) ?_
        exact la_choices hL C0 hZ hq hS hw hl hcs K
      by_cases h15_ : v = 15
      · refine lv_tableIn (tgt := 662) hx hb dL_law_33 (by rw [h15_]; decide) (by rw [h15_]; decide) (by rw [h15_]; rfl) (by decide) ?_
        exact la_digest hL C0 hZ hq hS hw hl hcs K
      by_cases h16_ : v = 16
      · refine lv_tableIn (tgt := 726) hx hb dL_law_33 (by rw [h16_]; decide) (by rw [h16_]; decide) (by rw [h16_]; rfl) (by decide) ?_
        exact la_node hL C0 hZ hq hS hw hl hcs K
      by_cases h17_ : v = 17
      · refine lv_tableIn (tgt := 759) hx hb dL_law_33 (by rw [h17_]; decide) (by rw [h17_]; decide) (by rw [h17_]; rfl) (by decide) ?_
        exact la_amount hL C0 hZ hq hS hw hl hcs K
      by_cases h18_ : v = 18
      · refine lv_tableIn (tgt := 783) hx hb dL_law_33 (by rw [h18_]; decide) (by rw [h18_]; decide) (by rw [h18_]; rfl) (by decide) ?_
        exact la_told hL C0 hZ hq hS hw hl hcs K
      refine lv_tableOut (tgt := 806) hx hb dL_law_33 (sw_out 18 (by decide) (fun k hk => by rcases (show k = 0 ∨ k = 1 ∨ k = 2 ∨ k = 3 ∨ k = 4 ∨ k = 5 ∨ k = 6 ∨ k = 7 ∨ k = 8 ∨ k = 9 ∨ k = 10 ∨ k = 11 ∨ k = 12 ∨ k = 13 ∨ k = 14 ∨ k = 15 ∨ k = 16 ∨ k = 17 ∨ k = 18 by omega) with rfl | rfl | rfl | rfl | rfl | rfl | rfl | rfl | rfl | rfl | rfl | rfl | rfl | rfl | rfl | rfl | rfl | rfl | rfl <;> assumption)) (by decide) ?_
      exact K wC wM H locs (lr_Sm hS) hw
