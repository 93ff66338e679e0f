theorem lr_0 (adc : Nat → Nat) (cyc : Nat → ClassId) (adm : Nat → Nat) (cym : Nat → ClassId) : lr_S adc cyc adm cym 0 (cw_w adc cyc 0 0 0 0 0 0 f_T0 f_0 0 0 0 0 0 f_0 f_0 0 0 f_0 f_0 f_0 f_0 f_0 f_0 f_0 f_0 f_0 f_0 f_0 f_0L f_0L f_0L) (mw_w adm cym 0 0 0 0 0 0 0 0 0 0 0 f_T0 f_0 f_0 f_0 f_0 f_0 f_0 f_0 f_0 f_0 f_0 f_0 f_0 f_0 f_0 f_0 f_0 f_0L f_0L f_0L) := by
  refine ⟨0, 0, _, _, _, _, _, _, _, _, _, _, _, _, _, _, _, _, _, _, _, _, _, _, _, _, _, _, _, _, _, _, _, _, _, _, _, _, _, _, _, _, rfl, rfl, ?_⟩
  refine ⟨⟨by omega, by omega⟩, Or.inl rfl, (if_neg (by decide)).symm, fun h => absurd h (by decide), fun h => absurd rfl h, fun _ j hj => ⟨rfl, rfl, rfl⟩, fun j hj => ⟨rfl, rfl, rfl⟩, fun j hj => ⟨⟨?_, ?_⟩, ⟨?_, ?_⟩⟩, fun h => absurd rfl h, fun h => h.elim (fun q => absurd q (by decide)) (fun q => absurd q (by decide)), fun h => absurd rfl h, ⟨0, by omega, rfl⟩, ⟨2, by omega, rfl⟩, ⟨10, by omega, rfl⟩⟩
  · show (0 : Int32) ≤ 0; decide
  · show (0 : Int32) ≤ 1000; decide
  · show (0 : Int64) ≤ 0; decide
  · show (0 : Int64) ≤ 1000000000000; decide
set_option maxHeartbeats 8000000 in
set_option maxRecDepth 100000 in
theorem whole_start {p : Program} {e : Env} {s : State} {m : MethodId} {below : List Frame} {meth : Method} {c : Code} (l : Launch) {b L : Nat} {xs : Nat → Int32} (hL : L ≤ 3072) (C0 : lw_At p s m meth c b L xs) : W p l e room_1 s m #[Value.ref b] below meth c s.heap [] 0 0 (lw_Z below #[Value.ref b] s) (entryFrame m ([Value.ref b] : List Value).toArray 4) := by
  obtain ⟨hx, hb, hr, hml, hown, hts, hX, hbl, hlocks, hgv⟩ := id C0
  have hA : ∀ q : Nat, s.heap.size ≤ q → (fun q : Nat => s.heap.size ≤ q) q := fun _ h => h
  have hbA : ¬ (fun q : Nat => s.heap.size ≤ q) b := Nat.not_le.mpr hbl
  have hgs := flat_of_before _ hgv
  obtain ⟨t0, hvL, hTL⟩ := va_Tof (tm := (.static "LeaderRows" "LEAST_OF_TERM" "[I")) (ty := .int) (N := 4) (f := fun j => .int (f_lst j)) (A := (fun q : Nat => s.heap.size ≤ q)) (by decide) (hgs (.arrayOf (.static "LeaderRows" "LEAST_OF_TERM" "[I") .int) (by decide +kernel)) (va_eqt (hgs (.eq (.length (.static "LeaderRows" "LEAST_OF_TERM" "[I")) (.int 4)) (by decide +kernel))) (fun j hj => by
    rcases (show j = 0 ∨ j = 1 ∨ j = 2 ∨ j = 3 by omega) with rfl | rfl | rfl | rfl
    · exact va_eqt (hgs (.eq (.elem (.static "LeaderRows" "LEAST_OF_TERM" "[I") (.int 0)) (.int 0)) (by decide +kernel))
    · exact va_eqt (hgs (.eq (.elem (.static "LeaderRows" "LEAST_OF_TERM" "[I") (.int 1)) (.int 0)) (by decide +kernel))
    · exact va_eqt (hgs (.eq (.elem (.static "LeaderRows" "LEAST_OF_TERM" "[I") (.int 2)) (.int 1)) (by decide +kernel))
    · exact va_eqt (hgs (.eq (.elem (.static "LeaderRows" "LEAST_OF_TERM" "[I") (.int 3)) (.int 1)) (by decide +kernel))) (fun a h => Nat.not_le.mpr h)
  obtain ⟨t1, hvM, hTM⟩ := va_Tof (tm := (.static "LeaderRows" "MOST_OF_TERM" "[I")) (ty := .int) (N := 4) (f := fun j => .int (f_mst j)) (A := (fun q : Nat => s.heap.size ≤ q)) (by decide) (hgs (.arrayOf (.static "LeaderRows" "MOST_OF_TERM" "[I") .int) (by decide +kernel)) (va_eqt (hgs (.eq (.length (.static "LeaderRows" "MOST_OF_TERM" "[I")) (.int 4)) (by decide +kernel))) (fun j hj => by
    rcases (show j = 0 ∨ j = 1 ∨ j = 2 ∨ j = 3 by omega) with rfl | rfl | rfl | rfl
    · exact va_eqt (hgs (.eq (.elem (.static "LeaderRows" "MOST_OF_TERM" "[I") (.int 0)) (.int 100)) (by decide +kernel))
    · exact va_eqt (hgs (.eq (.elem (.static "LeaderRows" "MOST_OF_TERM" "[I") (.int 1)) (.int 100)) (by decide +kernel))
    · exact va_eqt (hgs (.eq (.elem (.static "LeaderRows" "MOST_OF_TERM" "[I") (.int 2)) (.int 20)) (by decide +kernel))
    · exact va_eqt (hgs (.eq (.elem (.static "LeaderRows" "MOST_OF_TERM" "[I") (.int 3)) (.int 20)) (by decide +kernel))) (fun a h => Nat.not_le.mpr h)
  have hZ : ww_Zs t0 t1 (fun q : Nat => s.heap.size ≤ q) s s.heap := ⟨va_Zof (hts (.laysStatic "LeaderRows" "LEAST_OF_TERM" "[I") (List.mem_of_getElem? (i := 189) rfl)) (hts (.initialized RX3) (List.mem_of_getElem? (i := 14) rfl)) hvL (fun a h => Nat.not_le.mpr h), hTL, va_Zof (hts (.laysStatic "LeaderRows" "MOST_OF_TERM" "[I") (List.mem_of_getElem? (i := 191) rfl)) (hts (.initialized RX3) (List.mem_of_getElem? (i := 14) rfl)) hvM (fun a h => Nat.not_le.mpr h), hTM⟩
  have hE : ww_E s := va_Nw.of rfl (hts (.methodLinkNest RX0 74 yX3_mix "LeaderRows") (List.mem_of_getElem? (i := 295) rfl))
  have hN1 : va_Nw (.methodLinkNest RX3 15 yX1_init "LeaderRows") s := va_Nw.of rfl (hts (.methodLinkNest RX3 15 yX1_init "LeaderRows") (List.mem_of_getElem? (i := 31) rfl))
  have hN2 : va_Nw (.methodLinkNest RX3 22 yX0_init "LeaderRows") s := va_Nw.of rfl (hts (.methodLinkNest RX3 22 yX0_init "LeaderRows") (List.mem_of_getElem? (i := 83) rfl))
  have hN3 : va_Nw (.methodLinkNest RX3 29 yX2_init "LeaderRows") s := va_Nw.of rfl (hts (.methodLinkNest RX3 29 yX2_init "LeaderRows") (List.mem_of_getElem? (i := 116) rfl))
  have hAO : va_AO RX1 s := va_AO.of (A := #[Value.ref b]) (hts (.arrayOver (.object RX1)) (List.mem_of_getElem? (i := 29) rfl))
  obtain ⟨k0, iS0, hKn0⟩ := u_known (C := RX0) (T := TX0) (N := 7) (n := 7) hts inX0 (hts (.instantiable RX0 7) (List.mem_of_getElem? (i := 82) rfl))
  obtain ⟨k1, iS1, hKn1⟩ := u_known (C := RX1) (T := TX1) (N := 12) (n := 12) hts inX1 (hts (.instantiable RX1 12) (List.mem_of_getElem? (i := 30) rfl))
  obtain ⟨k2, iS2, hKn2⟩ := u_known (C := RX2) (T := TX2) (N := 4) (n := 4) hts inX2 (hts (.instantiable RX2 4) (List.mem_of_getElem? (i := 115) rfl))
  obtain ⟨k3, iS3, hKn3⟩ := u_known (C := RX3) (T := TX3) (N := 11) (n := 11) hts inX3 (hts (.instantiable RX3 11) (List.mem_of_getElem? (i := 21) rfl))
  obtain ⟨k4, iS4, hKn4⟩ := u_known (C := RX4) (T := TX4) (N := 31) (n := 31) hts inX4 (hts (.instantiable RX4 31) (List.mem_of_getElem? (i := 389) rfl))
  obtain ⟨D, hKc⟩ : ∃ (D : va_G), ∀ (k : Nat) (q : vw_C), vwCl[k]? = some q → u_Kn s q.1 q.2.1 q.2.2 (D.1 k) (D.2 k) := by
    refine ⟨(fun k => [k0, k1, k2, k3, k4].getD k k0, fun k => [iS0, iS1, iS2, iS3, iS4].getD k iS0), ?_⟩
    intro k q hq
    match k, hq with
    | 0, hq => cases hq; exact hKn0
    | 1, hq => cases hq; exact hKn1
    | 2, hq => cases hq; exact hKn2
    | 3, hq => cases hq; exact hKn3
    | 4, hq => cases hq; exact hKn4
    | k + 5, hq => simp [vwCl] at hq
  have hS : va_S (fun q : Nat => s.heap.size ≤ q) s.heap s.heap [] := va_S.rf
  have hK : va_K D vwCl [] s := ⟨hKc, fun k q h => by simp at h⟩
  have hP : va_P D vwCl [] s.heap := fun k q h => by simp at h
  have hD : va_D (fun q : Nat => s.heap.size ≤ q) [] := ⟨fun i j p q h => by simp at h, fun k q h => by simp at h⟩
  have hl := lv_entry ([.ref b]) (n := 4) (Nat.le_of_ble_eq_true rfl)
  rw [lg_entry_eq]
  generalize (lg_sl ([.ref b]) ++ List.replicate (4 - (lg_sl ([.ref b])).length) Slot.unset).toArray = ls at hl ⊢
  have hl : lv_has ls 4 [(0, .ref b)] := hl
  refine va_new (ci := 3) (fs := [.null, .null, .null, .null, .null, .int 0, .int 0, .int 0, .int 0, .long 0, .long 0]) (C := RX3) (T := TX3) (N := 11) hx hb hts inX3 tyX3 tyX3_ok hown (hts (.classLink RL 7 RX3) (List.mem_of_getElem? (i := 20) rfl)) (hts (.instantiable RX3 11) (List.mem_of_getElem? (i := 21) rfl)) (hts (.initialized RX3) (List.mem_of_getElem? (i := 14) rfl)) hK hP hD hS hA rfl (fun j hj => by rcases (show j = 0 ∨ j = 1 ∨ j = 2 ∨ j = 3 ∨ j = 4 ∨ j = 5 ∨ j = 6 ∨ j = 7 ∨ j = 8 ∨ j = 9 ∨ j = 10 by omega) with rfl | rfl | rfl | rfl | rfl | rfl | rfl | rfl | rfl | rfl | rfl <;> rfl) (Nat.le_of_ble_eq_true rfl) (Nat.le_of_ble_eq_true rfl) dL_law_0 (fun q1 H hP hD hS => ?_)
  refine W.widen (k := 1) (n := 11) (Nat.le_of_ble_eq_true rfl) (Nat.le_of_ble_eq_true rfl) ?_
  have hP : va_P D vwCl [(q1, .inr (3, [.null, .null, .null, .null, .null, .int 0, .int 0, .int 0, .int 0, .long 0, .long 0]))] H := hP
  have hD : va_D (fun q : Nat => s.heap.size ≤ q) [(q1, .inr (3, [.null, .null, .null, .null, .null, .int 0, .int 0, .int 0, .int 0, .long 0, .long 0]))] := hD
  refine lv_dup hx hb dL_law_3 rfl ?_
  have hF1 : ∀ q, va_A [(q1, .inr (3, [.null, .null, .null, .null, .null, .int 0, .int 0, .int 0, .int 0, .long 0, .long 0]))] H.size q → (fun q : Nat => s.heap.size ≤ q) q := by
    rintro q (⟨k, e, hk⟩ | h)
    · exact hD.2 k _ hk
    · exact Nat.le_trans hS.1 h
  refine va_callv (va_runI (As := []) (rest := [.ref q1]) ⟨hx, hb, hml, hown, hts⟩ (k_X3_init l (D := D) q1 H.size) (cwI 0 hts gL_law_X3_init rfl rfl rfl (hts (.initialized RX3) (List.mem_of_getElem? (i := 14) rfl)) (hts (.methodLink RL 9 yX3_init) (List.mem_of_getElem? (i := 22) rfl)) (hts (.instanceMethod yX3_init) (List.mem_of_getElem? (i := 23) rfl)) rfl (by decide +kernel) ⟨(Nat.le_of_ble_eq_true rfl), (Nat.le_of_ble_eq_true rfl)⟩) ⟨fun a U g mk q => ?_, fun U hU hW => ?_⟩ rfl rfl hl.1 rfl (lv_room (Nat.le_of_ble_eq_true rfl)) dL_law_4 ⟨(Nat.le_of_ble_eq_true rfl), (Nat.le_of_ble_eq_true rfl)⟩) hS (fun q _ h => hF1 q h) hF1 (fun u t H1 locs ht hvm hw hB hz1 hk1 hS => ?_)
  · obtain ⟨q0, q1, qP, qK, qD, qE, qN1, qN2, qN3, qAO⟩ := q
    exact ⟨q0, q1, qP, va_K.moved (u := U) (U := U.calling g mk a) (Vm.Alike.refl U.vm) qK, qD, va_Nw.same rfl (u := U) (U := U.calling g mk a) rfl qE, va_Nw.same rfl (u := U) (U := U.calling g mk a) rfl qN1, va_Nw.same rfl (u := U) (U := U.calling g mk a) rfl qN2, va_Nw.same rfl (u := U) (U := U.calling g mk a) rfl qN3, va_AO.moved (u := U) (U := U.calling g mk a) (Vm.Alike.refl U.vm) qAO⟩
  · exact ⟨rfl, by rw [hU], by rw [hU]; exact hP, va_K.moved hW.alike hK, hD.weaken (fun _ _ _ _ => trivial), va_Nw.warmM hW hE, va_Nw.warmM hW hN1, va_Nw.warmM hW hN2, va_Nw.warmM hW hN3, hAO.moved hW.alike⟩
  obtain ⟨adc, cyc⟩ := u
  obtain ⟨hP1, hK1, hD1⟩ := hB
  rw [ht] at hP1
  have hK1 : va_K D vwCl (cw_t cyc) s := va_K.moved hvm.symm hK1
  have hw : adc 0 = q1 := hw
  subst hw
  have hP2 : va_P D vwCl (cw_w adc cyc 0 0 0 0 0 0 f_T0 f_0 0 0 0 0 0 f_0 f_0 0 0 f_0 f_0 f_0 f_0 f_0 f_0 f_0 f_0 f_0 f_0 f_0 f_0L f_0L f_0L) H1 := hP1
  have hD2 : va_D (fun q : Nat => s.heap.size ≤ q) (cw_w adc cyc 0 0 0 0 0 0 f_T0 f_0 0 0 0 0 0 f_0 f_0 0 0 f_0 f_0 f_0 f_0 f_0 f_0 f_0 f_0 f_0 f_0 f_0 f_0L f_0L f_0L) := hD1.weaken (fun _ q _ h => hF1 q.1 h)
  clear hP1 hD1 hk1 hz1 hP hD hF1
  refine W.widen (k := 22) (n := 386) (Nat.le_of_ble_eq_true rfl) (Nat.le_of_ble_eq_true rfl) ?_
  refine lv_astore_n (lv' := [(1, .ref (adc 0)), (0, .ref b)]) hx hb dL_law_7 rfl hl (by decide) rfl (fun ls hl => ?_)
  generalize hWC : (cw_w adc cyc 0 0 0 0 0 0 f_T0 f_0 0 0 0 0 0 f_0 f_0 0 0 f_0 f_0 f_0 f_0 f_0 f_0 f_0 f_0 f_0 f_0 f_0 f_0L f_0L f_0L) = WC at hP2 hD2
  refine va_new (ci := 4) (fs := [.int 0, .int 0, .long 0, .long 0, .null, .null, .null, .null, .null, .null, .null, .null, .null, .null, .null, .null, .null, .int 0, .int 0, .int 0, .null, .null, .int 0, .null, .null, .null, .long 0, .long 0, .int 0, .null, .null]) (C := RX4) (T := TX4) (N := 31) hx hb hts inX4 tyX4 tyX4_ok hown (hts (.classLink RL 10 RX4) (List.mem_of_getElem? (i := 388) rfl)) (hts (.instantiable RX4 31) (List.mem_of_getElem? (i := 389) rfl)) (hts (.initialized RX4) (List.mem_of_getElem? (i := 18) rfl)) hK1 hP2 hD2 hS hA rfl (fun j hj => by rcases (show j = 0 ∨ j = 1 ∨ j = 2 ∨ j = 3 ∨ j = 4 ∨ j = 5 ∨ j = 6 ∨ j = 7 ∨ j = 8 ∨ j = 9 ∨ j = 10 ∨ j = 11 ∨ j = 12 ∨ j = 13 ∨ j = 14 ∨ j = 15 ∨ j = 16 ∨ j = 17 ∨ j = 18 ∨ j = 19 ∨ j = 20 ∨ j = 21 ∨ j = 22 ∨ j = 23 ∨ j = 24 ∨ j = 25 ∨ j = 26 ∨ j = 27 ∨ j = 28 ∨ j = 29 ∨ j = 30 by omega) with rfl | rfl | rfl | rfl | rfl | rfl | rfl | rfl | rfl | rfl | rfl | rfl | rfl | rfl | rfl | rfl | rfl | rfl | rfl | rfl | rfl | rfl | rfl | rfl | rfl | rfl | rfl | rfl | rfl | rfl | rfl <;> rfl) (Nat.le_of_ble_eq_true rfl) (Nat.le_of_ble_eq_true rfl) dL_law_8 (fun q2 H hP hD hS => ?_)
  refine W.widen (k := 23) (n := 417) (Nat.le_of_ble_eq_true rfl) (Nat.le_of_ble_eq_true rfl) ?_
  refine lv_dup hx hb dL_law_11 rfl ?_
  have hPc : va_P D vwCl [(q2, .inr (4, [.int 0, .int 0, .long 0, .long 0, .null, .null, .null, .null, .null, .null, .null, .null, .null, .null, .null, .null, .null, .int 0, .int 0, .int 0, .null, .null, .int 0, .null, .null, .null, .long 0, .long 0, .int 0, .null, .null]))] H := fun k q hk => hP _ q (ww_aR hk)
  have hDc : va_D (fun q : Nat => s.heap.size ≤ q) [(q2, .inr (4, [.int 0, .int 0, .long 0, .long 0, .null, .null, .null, .null, .null, .null, .null, .null, .null, .null, .null, .null, .null, .int 0, .int 0, .int 0, .null, .null, .int 0, .null, .null, .null, .long 0, .long 0, .int 0, .null, .null]))] := ww_DR hD
  have hF2 : ∀ q, va_A [(q2, .inr (4, [.int 0, .int 0, .long 0, .long 0, .null, .null, .null, .null, .null, .null, .null, .null, .null, .null, .null, .null, .null, .int 0, .int 0, .int 0, .null, .null, .int 0, .null, .null, .null, .long 0, .long 0, .int 0, .null, .null]))] H.size q → (fun q : Nat => s.heap.size ≤ q) q := by
    rintro q (⟨k, e, hk⟩ | h)
    · exact hDc.2 k _ hk
    · exact Nat.le_trans hS.1 h
  refine va_callv (va_runI (As := []) (rest := [.ref q2]) ⟨hx, hb, hml, hown, hts⟩ (k_X4_init l (D := D) q2 H.size) (cwI 0 hts gL_law_X4_init rfl rfl rfl (hts (.initialized RX4) (List.mem_of_getElem? (i := 18) rfl)) (hts (.methodLink RL 12 yX4_init) (List.mem_of_getElem? (i := 390) rfl)) (hts (.instanceMethod yX4_init) (List.mem_of_getElem? (i := 391) rfl)) rfl (by decide +kernel) ⟨(Nat.le_of_ble_eq_true rfl), (Nat.le_of_ble_eq_true rfl)⟩) ⟨fun a U g mk q => ?_, fun U hU hW => ?_⟩ rfl rfl hl.1 rfl (lv_room (Nat.le_of_ble_eq_true rfl)) dL_law_12 ⟨(Nat.le_of_ble_eq_true rfl), (Nat.le_of_ble_eq_true rfl)⟩) hS (fun q _ h => hF2 q h) hF2 (fun u t H1 locs ht hvm hw hB hz1 hk1 hS => ?_)
  · obtain ⟨q0, q1, qP, qK, qD, qE⟩ := q
    exact ⟨q0, q1, qP, va_K.moved (u := U) (U := U.calling g mk a) (Vm.Alike.refl U.vm) qK, qD, va_Nw.same rfl (u := U) (U := U.calling g mk a) rfl qE⟩
  · exact ⟨rfl, by rw [hU], by rw [hU]; exact hPc, va_K.moved hW.alike hK, hDc.weaken (fun _ _ _ _ => trivial), va_Nw.warmM hW hE⟩
  obtain ⟨adm, cym⟩ := u
  obtain ⟨hP1, hK3, hD1⟩ := hB
  rw [ht] at hP1
  have hK3 : va_K D vwCl (mw_t cym) s := va_K.moved hvm.symm hK3
  have hw : adm 0 = q2 := hw
  subst hw
  obtain ⟨j1, j2⟩ := ww_jR hP hD hk1 hF2 hP1 hD1
  refine W.widen (k := 43) (n := 889) (Nat.le_of_ble_eq_true rfl) (Nat.le_of_ble_eq_true rfl) ?_
  refine lv_astore_n (lv' := [(2, .ref (adm 0)), (1, .ref (adc 0)), (0, .ref b)]) hx hb dL_law_15 rfl hl (by decide) rfl (fun ls hl => ?_)
  refine lv_iconst (v := 0) hx hb dL_law_16 (by decide) ?_
  refine lv_istore_n (lv' := [(3, .int 0), (2, .ref (adm 0)), (1, .ref (adc 0)), (0, .ref b)]) hx hb dL_law_17 rfl hl (by decide) rfl (fun ls hl => ?_)
  subst hWC
  exact law_loop hL C0 hZ 513 0 rfl _ _ H1 locs ls (lr_0 adc cyc adm cym) ⟨hK1.app hK3, j1, j2, hS, hE⟩ (lv_sub hl [3, 2, 1, 0] rfl)
