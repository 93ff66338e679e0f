theorem ww_get9 {a b : va_W} {f g : Nat → Nat × va_E} {k : Nat} (hk : ¬ k = 1) (h : ∀ i, f i = g i) {x0 y0 x1 y1 : Nat × va_E} (h0 : x0 = y0 := by rfl) (ht : a = b := by rfl) : ((x0 :: x1 :: a) ++ (List.range 12).map f)[k]? = ((y0 :: y1 :: b) ++ (List.range 12).map g)[k]? := by
  subst h0; subst ht
  rw [show f = g from funext h]
  match k, hk with
  | 0, _ => rfl
  | 1, hk => exact absurd rfl hk
  | k + 2, _ => rfl
theorem ww_dom {A : Nat → Prop} {a b : va_W} {f g : Nat → Nat × va_E} (hD : va_D A (a ++ (List.range 12).map f)) (h1 : a.map (fun q => q.1) = b.map (fun q => q.1)) (h2 : ∀ i, (f i).1 = (g i).1) : va_D A (b ++ (List.range 12).map g) := by
  have hm : (a ++ (List.range 12).map f).map (fun q => q.1) = (b ++ (List.range 12).map g).map (fun q => q.1) := by
    rw [List.map_append, List.map_append, h1, List.map_map, List.map_map]
    congr 1
    exact List.map_congr_left fun i _ => h2 i
  have key : ∀ (k : Nat) (q : Nat × va_E), (b ++ (List.range 12).map g)[k]? = some q → ∃ q', (a ++ (List.range 12).map f)[k]? = some q' ∧ q'.1 = q.1 := by
    intro k q hq
    have e := congrArg (fun l => l[k]?) hm
    simp only [List.getElem?_map, hq] at e
    cases hx : (a ++ (List.range 12).map f)[k]? with
    | none => rw [hx] at e; simp at e
    | some q' => rw [hx] at e; exact ⟨q', rfl, by simpa using e⟩
  refine ⟨fun i j p q hi hj e => ?_, fun k q hk => ?_⟩
  · obtain ⟨p', a1, a2⟩ := key i p hi
    obtain ⟨q', b1, b2⟩ := key j q hj
    exact hD.1 i j p' q' a1 b1 (by rw [a2, b2, e])
  · obtain ⟨q', a1, a2⟩ := key k q hk
    rw [← a2]
    exact hD.2 k q' a1
theorem rg_s {na : Nat → Nat} {k q : Nat} {z : va_E} : (List.range k).map (fun i => (na i, z)) ++ [(q, z)] = (List.range (k + 1)).map (fun i => ((va_up na k q) i, z)) := by
  rw [List.range_succ, List.map_append]
  congr 1
  · refine List.map_congr_left fun i hi => ?_
    have := List.mem_range.mp hi
    unfold va_up
    rw [if_neg (by omega)]
  · simp [va_up]
theorem rg_f {na : Nat → Nat} {k q : Nat} : va_up (mx k (fun i => some (na i)) (fun _ => none)) k (some q) = mx (k + 1) (fun i => some ((va_up na k q) i)) (fun _ => none) := by
  funext j
  by_cases h : j = k
  · subst h
    rw [mx_lo _ _ (Nat.lt_succ_self j)]
    simp [va_up]
  · have e : va_up (mx k (fun i => some (na i)) (fun _ => none)) k (some q) j = mx k (fun i => some (na i)) (fun _ => none) j := if_neg h
    rw [e]
    rcases Nat.lt_or_ge j k with h2 | h2
    · rw [mx_lo _ _ h2, mx_lo _ _ (by omega)]
      simp [va_up, h]
    · rw [mx_hi _ _ h2, mx_hi _ _ (by omega)]
theorem rg_cell {cA : ClassId} {f g : Nat → Option Nat} (h : ∀ i, i < 12 → f i = g i) : vp_cell cA (12, .inr (.inr (.inr (.inr f)))) = vp_cell cA (12, .inr (.inr (.inr (.inr g)))) := by
  unfold vp_cell arrV
  simp only
  congr 1
  refine congrArg Array.ofFn (funext fun j => ?_)
  show va_rf (f j.val) = va_rf (g j.val)
  rw [h j.val j.isLt]
set_option maxHeartbeats 8000000 in
set_option maxRecDepth 100000 in
theorem k_X3_init (l : Launch) {D : va_G} (h0 sz : Nat) : Met l yX3_init wsX3_init ({ frames := 2, cells := 21, slots := 375, locals := 32 }) (va_Pc [.ref h0] (fun U => U.heap.size = sz ∧ va_P D vwCl [(h0, .inr (3, [.null, .null, .null, .null, .null, .int 0, .int 0, .int 0, .int 0, .long 0, .long 0]))] U.heap ∧ va_K D vwCl [] U ∧ va_D (fun _ => True) [(h0, .inr (3, [.null, .null, .null, .null, .null, .int 0, .int 0, .int 0, .int 0, .long 0, .long 0]))] ∧ ww_E U ∧ va_Nw (.methodLinkNest RX3 15 yX1_init "LeaderRows") U ∧ va_Nw (.methodLinkNest RX3 22 yX0_init "LeaderRows") U ∧ va_Nw (.methodLinkNest RX3 29 yX2_init "LeaderRows") U ∧ va_AO RX1 U)) (va_Qv (S := (Nat → Nat) × (Nat → ClassId)) (fun u => u.1 0 = h0) (fun u t => va_P D vwCl (cw_w u.1 u.2 0 0 0 0 0 0 f_T0 f_0 0 0 0 0 0 f_0 f_0 0 0 f_0 f_0 f_0 f_0 f_0 f_0 f_0 f_0 f_0 f_0 f_0 f_0L f_0L f_0L) t.heap ∧ va_K D vwCl (cw_t u.2) t ∧ va_D (va_A [(h0, .inr (3, [.null, .null, .null, .null, .null, .int 0, .int 0, .int 0, .int 0, .long 0, .long 0]))] sz) (cw_w u.1 u.2 0 0 0 0 0 0 f_T0 f_0 0 0 0 0 0 f_0 f_0 0 0 f_0 f_0 f_0 f_0 f_0 f_0 f_0 f_0 f_0 f_0 f_0 f_0L f_0L f_0L)) (va_A [(h0, .inr (3, [.null, .null, .null, .null, .null, .int 0, .int 0, .int 0, .int 0, .long 0, .long 0]))] sz)) 21 375 (va_A [(h0, .inr (3, [.null, .null, .null, .null, .null, .int 0, .int 0, .int 0, .int 0, .long 0, .long 0]))] sz) := by
  refine Met.ofW (cc := cX3_init) (maxL := 2) (ret := none) (by decide) rfl ?_
  intro p e s m args below meth c s₁ B hml hv
  obtain ⟨rfl, hsz, hP, hK, hD0, hE, hN1, hN2, hN3, hAO⟩ := hv
  have hx := B.exec
  have hb := B.bytes
  have hr := B.returns
  have hts := atoms_spec (ws := wsX3_init) B.pre
  have hown : s.vm.findClass RX3 = some m.cls := findClass_of_methodNamed B.named
  have hlk := B.notSynchronized
  have hin : meth.name = "<init>" := (name_of_methodNamed B.named B.method).1
  subst hsz
  have hD := hD0.self (sz := s.heap.size)
  generalize hAe : va_A [(h0, .inr (3, [.null, .null, .null, .null, .null, .int 0, .int 0, .int 0, .int 0, .long 0, .long 0]))] s.heap.size = A at hD ⊢
  have hA : ∀ q : Nat, s.heap.size ≤ q → A q := fun q h => by rw [← hAe]; exact Or.inr h
  have hS : va_S A s.heap s.heap [] := va_S.rf
  have hP : va_P D vwCl [(h0, .inr (3, [.null, .null, .null, .null, .null, .int 0, .int 0, .int 0, .int 0, .long 0, .long 0]))] s.heap := hP
  have hl := lv_entry ([.ref h0]) (n := 2) (Nat.le_of_ble_eq_true rfl)
  rw [lg_entry_eq]
  generalize (lg_sl ([.ref h0]) ++ List.replicate (2 - (lg_sl ([.ref h0])).length) Slot.unset).toArray = ls at hl ⊢
  have hl : lv_has ls 2 [(0, .ref h0)] := hl
  have hn3 : ∀ w ∈ wsX30, w ∈ wsX3_init := by decide +kernel
  have hn1 : ∀ w ∈ wsX10, w ∈ wsX3_init := by decide +kernel
  have hn0 : ∀ w ∈ wsX00, w ∈ wsX3_init := by decide +kernel
  have hn2 : ∀ w ∈ wsX20, w ∈ wsX3_init := by decide +kernel
  refine lv_aload_n hx hb dX3_init_0 rfl (lv_at hl 0 rfl) ?_
  refine W.objInit hx hb hown (hts (.methodLink RX3 1 objectInit) (by decide +kernel)) (hts (.instanceMethod objectInit) (by decide +kernel)) (hts _ (List.mem_cons_of_mem _ (List.mem_append_left _ (List.mem_append_left _ (List.mem_append_left _ (List.mem_append_left _ (List.mem_append_left _ (List.mem_of_getElem? (i := 2) rfl)))))))) rfl (by rw [hml]; exact hl.1) rfl dX3_init_1 (Nat.le_of_ble_eq_true rfl) (Nat.le_of_ble_eq_true rfl) ?_
  refine W.eq (g2 := F0 m 4 ls []) rfl ?_
  refine lv_aload_n hx hb dX3_init_4 rfl (lv_at hl 0 rfl) ?_
  refine lv_bipush (v := 12) hx hb dX3_init_5 (by decide) ?_
  refine va_newq (N' := 12) hx hb hown (hts (.classLink RX3 9 RX1) (by decide +kernel)) hAO hK hP hD hS hA (nI_pos (n := 12) (by decide)) (nI_clamp (n := 12) (by decide)) (by show 12 * 4 ≤ 536870912; omega) (Nat.le_of_ble_eq_true rfl) (Nat.le_of_ble_eq_true rfl) dX3_init_7 (fun hA9 cA H hK hP hD hS => ?_)
  refine W.widen (k := 1) (n := 12) (Nat.le_of_ble_eq_true rfl) (Nat.le_of_ble_eq_true rfl) ?_
  have hP : va_P D vwCl [(h0, .inr (3, [.null, .null, .null, .null, .null, .int 0, .int 0, .int 0, .int 0, .long 0, .long 0])), (hA9, .inl (cA, 12, .inr (.inr (.inr (.inr (fun _ => none))))))] H := hP
  have hD : va_D A [(h0, .inr (3, [.null, .null, .null, .null, .null, .int 0, .int 0, .int 0, .int 0, .long 0, .long 0])), (hA9, .inl (cA, 12, .inr (.inr (.inr (.inr (fun _ => none))))))] := hD
  have hK : va_K D vwCl [(cA, .object RX1)] s := hK
  refine va_putF (D := D) (ci := 3) (v := .ref hA9) (ty := .array (.object "LeaderRows$Node")) (C := RX3) (T := TX3) (N := 11) hx hb hts hn3 tyX3 tyX3_ok nmX3 hown hK hP hD hS 0 rfl rfl 0 (by decide) (hts (.fieldLink RX3 11 "LeaderRows" "nodes" "[LLeaderRows$Node;") (by decide +kernel)) (fun _ h9 => h9) rfl hin rfl (by decide +kernel) rfl rfl (Nat.le_of_ble_eq_true rfl) dX3_init_10 (fun H locs hP hD hS => ?_)
  refine lv_iconst (v := 0) hx hb dX3_init_13 (by decide) ?_
  refine lv_istore_n (lv' := [(1, .int 0), (0, .ref h0)]) hx hb dX3_init_14 rfl hl (by decide) rfl (fun ls hl => ?_)
  have L15 : ∀ (n k : Nat), k + n = 12 → ∀ (na : Nat → Nat) (H : Heap) (locs : List Loc) (ls : Array Slot), va_P D vwCl ([(h0, .inr (3, [.ref hA9, .null, .null, .null, .null, .int 0, .int 0, .int 0, .int 0, .long 0, .long 0])), (hA9, .inl (cA, 12, .inr (.inr (.inr (.inr (mx k (fun i => some (na i)) (fun _ => none)))))))] ++ (List.range k).map (fun i => ((na i : Nat), (.inr (1, [.int 0, .long 0, .int 0, .int 0, .int 0, .int 0, .int 0, .int 0, .int 0, .int 0, .long 0, .long 0]) : va_E)))) H → va_D A ([(h0, .inr (3, [.ref hA9, .null, .null, .null, .null, .int 0, .int 0, .int 0, .int 0, .long 0, .long 0])), (hA9, .inl (cA, 12, .inr (.inr (.inr (.inr (mx k (fun i => some (na i)) (fun _ => none)))))))] ++ (List.range k).map (fun i => ((na i : Nat), (.inr (1, [.int 0, .long 0, .int 0, .int 0, .int 0, .int 0, .int 0, .int 0, .int 0, .int 0, .long 0, .long 0]) : va_E)))) → va_S A s.heap H locs → lv_has ls 2 [(0, .ref h0), (1, .int (nI k))] → W p l e ({ frames := 2, cells := 21, slots := 375, locals := 32 }) s m ([.ref h0] : List Value).toArray below meth c H locs (1 + k) (12 + 12 * k) (MQ below (va_Qv (S := (Nat → Nat) × (Nat → ClassId)) (fun u => u.1 0 = h0) (fun u t => va_P D vwCl (cw_w u.1 u.2 0 0 0 0 0 0 f_T0 f_0 0 0 0 0 0 f_0 f_0 0 0 f_0 f_0 f_0 f_0 f_0 f_0 f_0 f_0 f_0 f_0 f_0 f_0L f_0L f_0L) t.heap ∧ va_K D vwCl (cw_t u.2) t ∧ va_D A (cw_w u.1 u.2 0 0 0 0 0 0 f_T0 f_0 0 0 0 0 0 f_0 f_0 0 0 f_0 f_0 f_0 f_0 f_0 f_0 f_0 f_0 f_0 f_0 f_0 f_0L f_0L f_0L)) A) ([.ref h0] : List Value).toArray s 21 375 A) (F0 m 15 ls []) := by
    intro n
    induction n with
    | zero =>
      intro k hk na H locs ls hP hD hS hl
      obtain rfl : 12 = k := by omega
      refine lv_iload_n hx hb dX3_init_15 rfl (lv_at hl 1 rfl) ?_
      refine lv_bipush (v := 12) hx hb dX3_init_16 (by decide) ?_
      refine lv_icmp_ge (tgt := 40) hx hb dX3_init_18 (by decide) (fun _ => ?_) (fun h1 => absurd (by decide) h1)
      have hP := hP
      refine lv_aload_n hx hb dX3_init_40 rfl (lv_at hl 0 rfl) ?_
      refine lv_iconst (v := 4) hx hb dX3_init_41 (by decide) ?_
      refine va_newa (atype := .int) (a0 := (4, .inl (fun _ => 0))) (ty := .int) (N' := 4) hx hb (hts (.arrayClass .int) (by decide +kernel)) rfl hK hP hD hS hA (fun _ => rfl) (nI_pos (n := 4) (by decide)) (nI_clamp (n := 4) (by decide)) (by show 4 * 4 ≤ 536870912; omega) (Nat.le_of_ble_eq_true rfl) (Nat.le_of_ble_eq_true rfl) dX3_init_42 (fun qt ct H hK hP hD hS => ?_)
      refine W.widen (k := 14) (n := 160) (Nat.le_of_ble_eq_true rfl) (Nat.le_of_ble_eq_true rfl) ?_
      have hP := hP.swap
      have hD := hD.swap
      have hP : va_P D vwCl ([(h0, .inr (3, [.ref hA9, .null, .null, .null, .null, .int 0, .int 0, .int 0, .int 0, .long 0, .long 0])), (hA9, .inl (cA, 12, .inr (.inr (.inr (.inr (mx 12 (fun i => some (na i)) (fun _ => none))))))), (qt, .inl (ct, 4, .inl (fun _ => 0)))] ++ (List.range 12).map (fun i => ((na i : Nat), (.inr (1, [.int 0, .long 0, .int 0, .int 0, .int 0, .int 0, .int 0, .int 0, .int 0, .int 0, .long 0, .long 0]) : va_E)))) H := hP
      have hD : va_D A ([(h0, .inr (3, [.ref hA9, .null, .null, .null, .null, .int 0, .int 0, .int 0, .int 0, .long 0, .long 0])), (hA9, .inl (cA, 12, .inr (.inr (.inr (.inr (mx 12 (fun i => some (na i)) (fun _ => none))))))), (qt, .inl (ct, 4, .inl (fun _ => 0)))] ++ (List.range 12).map (fun i => ((na i : Nat), (.inr (1, [.int 0, .long 0, .int 0, .int 0, .int 0, .int 0, .int 0, .int 0, .int 0, .int 0, .long 0, .long 0]) : va_E)))) := hD
      have hK : va_K D vwCl [(cA, .object RX1), (ct, .int)] s := hK
      refine lv_dup hx hb dX3_init_44 rfl ?_
      refine lv_iconst (v := 0) hx hb dX3_init_45 (by decide) ?_
      refine lv_iconst (v := 3) hx hb dX3_init_46 (by decide) ?_
      refine va_iast hx hb hK hP hD hS 2 1 (f := (fun _ => 0)) rfl rfl (vp_in_nI (n := 0) (N := 4) (by decide) (by decide)) dX3_init_47 (fun H locs hP hD hS => ?_)
      rw [show (0 : Int32).toNatClampNeg = 0 from rfl] at hP hD
      have hP : va_P D vwCl ([(h0, .inr (3, [.ref hA9, .null, .null, .null, .null, .int 0, .int 0, .int 0, .int 0, .long 0, .long 0])), (hA9, .inl (cA, 12, .inr (.inr (.inr (.inr (mx 12 (fun i => some (na i)) (fun _ => none))))))), (qt, .inl (ct, 4, .inl (upd (fun _ => 0) 0 3)))] ++ (List.range 12).map (fun i => ((na i : Nat), (.inr (1, [.int 0, .long 0, .int 0, .int 0, .int 0, .int 0, .int 0, .int 0, .int 0, .int 0, .long 0, .long 0]) : va_E)))) H := hP
      have hD : va_D A ([(h0, .inr (3, [.ref hA9, .null, .null, .null, .null, .int 0, .int 0, .int 0, .int 0, .long 0, .long 0])), (hA9, .inl (cA, 12, .inr (.inr (.inr (.inr (mx 12 (fun i => some (na i)) (fun _ => none))))))), (qt, .inl (ct, 4, .inl (upd (fun _ => 0) 0 3)))] ++ (List.range 12).map (fun i => ((na i : Nat), (.inr (1, [.int 0, .long 0, .int 0, .int 0, .int 0, .int 0, .int 0, .int 0, .int 0, .int 0, .long 0, .long 0]) : va_E)))) := hD
      refine lv_dup hx hb dX3_init_48 rfl ?_
      refine lv_iconst (v := 1) hx hb dX3_init_49 (by decide) ?_
      refine lv_bipush (v := 10) hx hb dX3_init_50 (by decide) ?_
      refine va_iast hx hb hK hP hD hS 2 1 (f := (upd (fun _ => 0) 0 3)) rfl rfl (vp_in_nI (n := 1) (N := 4) (by decide) (by decide)) dX3_init_52 (fun H locs hP hD hS => ?_)
      rw [show (1 : Int32).toNatClampNeg = 1 from rfl] at hP hD
      have hP : va_P D vwCl ([(h0, .inr (3, [.ref hA9, .null, .null, .null, .null, .int 0, .int 0, .int 0, .int 0, .long 0, .long 0])), (hA9, .inl (cA, 12, .inr (.inr (.inr (.inr (mx 12 (fun i => some (na i)) (fun _ => none))))))), (qt, .inl (ct, 4, .inl (upd (upd (fun _ => 0) 0 3) 1 10)))] ++ (List.range 12).map (fun i => ((na i : Nat), (.inr (1, [.int 0, .long 0, .int 0, .int 0, .int 0, .int 0, .int 0, .int 0, .int 0, .int 0, .long 0, .long 0]) : va_E)))) H := hP
      have hD : va_D A ([(h0, .inr (3, [.ref hA9, .null, .null, .null, .null, .int 0, .int 0, .int 0, .int 0, .long 0, .long 0])), (hA9, .inl (cA, 12, .inr (.inr (.inr (.inr (mx 12 (fun i => some (na i)) (fun _ => none))))))), (qt, .inl (ct, 4, .inl (upd (upd (fun _ => 0) 0 3) 1 10)))] ++ (List.range 12).map (fun i => ((na i : Nat), (.inr (1, [.int 0, .long 0, .int 0, .int 0, .int 0, .int 0, .int 0, .int 0, .int 0, .int 0, .long 0, .long 0]) : va_E)))) := hD
      refine lv_dup hx hb dX3_init_53 rfl ?_
      refine lv_iconst (v := 2) hx hb dX3_init_54 (by decide) ?_
      refine lv_iconst (v := 2) hx hb dX3_init_55 (by decide) ?_
      refine va_iast hx hb hK hP hD hS 2 1 (f := (upd (upd (fun _ => 0) 0 3) 1 10)) rfl rfl (vp_in_nI (n := 2) (N := 4) (by decide) (by decide)) dX3_init_56 (fun H locs hP hD hS => ?_)
      rw [show (2 : Int32).toNatClampNeg = 2 from rfl] at hP hD
      have hP : va_P D vwCl ([(h0, .inr (3, [.ref hA9, .null, .null, .null, .null, .int 0, .int 0, .int 0, .int 0, .long 0, .long 0])), (hA9, .inl (cA, 12, .inr (.inr (.inr (.inr (mx 12 (fun i => some (na i)) (fun _ => none))))))), (qt, .inl (ct, 4, .inl (upd (upd (upd (fun _ => 0) 0 3) 1 10) 2 2)))] ++ (List.range 12).map (fun i => ((na i : Nat), (.inr (1, [.int 0, .long 0, .int 0, .int 0, .int 0, .int 0, .int 0, .int 0, .int 0, .int 0, .long 0, .long 0]) : va_E)))) H := hP
      have hD : va_D A ([(h0, .inr (3, [.ref hA9, .null, .null, .null, .null, .int 0, .int 0, .int 0, .int 0, .long 0, .long 0])), (hA9, .inl (cA, 12, .inr (.inr (.inr (.inr (mx 12 (fun i => some (na i)) (fun _ => none))))))), (qt, .inl (ct, 4, .inl (upd (upd (upd (fun _ => 0) 0 3) 1 10) 2 2)))] ++ (List.range 12).map (fun i => ((na i : Nat), (.inr (1, [.int 0, .long 0, .int 0, .int 0, .int 0, .int 0, .int 0, .int 0, .int 0, .int 0, .long 0, .long 0]) : va_E)))) := hD
      refine lv_dup hx hb dX3_init_57 rfl ?_
      refine lv_iconst (v := 3) hx hb dX3_init_58 (by decide) ?_
      refine lv_iconst (v := 3) hx hb dX3_init_59 (by decide) ?_
      refine va_iast hx hb hK hP hD hS 2 1 (f := (upd (upd (upd (fun _ => 0) 0 3) 1 10) 2 2)) rfl rfl (vp_in_nI (n := 3) (N := 4) (by decide) (by decide)) dX3_init_60 (fun H locs hP hD hS => ?_)
      rw [show (3 : Int32).toNatClampNeg = 3 from rfl] at hP hD
      have hP : va_P D vwCl ([(h0, .inr (3, [.ref hA9, .null, .null, .null, .null, .int 0, .int 0, .int 0, .int 0, .long 0, .long 0])), (hA9, .inl (cA, 12, .inr (.inr (.inr (.inr (mx 12 (fun i => some (na i)) (fun _ => none))))))), (qt, .inl (ct, 4, .inl (upd (upd (upd (upd (fun _ => 0) 0 3) 1 10) 2 2) 3 3)))] ++ (List.range 12).map (fun i => ((na i : Nat), (.inr (1, [.int 0, .long 0, .int 0, .int 0, .int 0, .int 0, .int 0, .int 0, .int 0, .int 0, .long 0, .long 0]) : va_E)))) H := hP
      have hD : va_D A ([(h0, .inr (3, [.ref hA9, .null, .null, .null, .null, .int 0, .int 0, .int 0, .int 0, .long 0, .long 0])), (hA9, .inl (cA, 12, .inr (.inr (.inr (.inr (mx 12 (fun i => some (na i)) (fun _ => none))))))), (qt, .inl (ct, 4, .inl (upd (upd (upd (upd (fun _ => 0) 0 3) 1 10) 2 2) 3 3)))] ++ (List.range 12).map (fun i => ((na i : Nat), (.inr (1, [.int 0, .long 0, .int 0, .int 0, .int 0, .int 0, .int 0, .int 0, .int 0, .int 0, .long 0, .long 0]) : va_E)))) := hD
      refine va_putF (D := D) (ci := 3) (v := .ref qt) (ty := .array .int) (C := RX3) (T := TX3) (N := 11) hx hb hts hn3 tyX3 tyX3_ok nmX3 hown hK hP hD hS 0 rfl rfl 1 (by decide) (hts (.fieldLink RX3 16 "LeaderRows" "terms" "[I") (by decide +kernel)) (fun _ h9 => h9) rfl hin rfl (by decide +kernel) rfl rfl (Nat.le_of_ble_eq_true rfl) dX3_init_61 (fun H locs hP hD hS => ?_)
      have hP : va_P D vwCl ([(h0, .inr (3, [.ref hA9, .ref qt, .null, .null, .null, .int 0, .int 0, .int 0, .int 0, .long 0, .long 0])), (hA9, .inl (cA, 12, .inr (.inr (.inr (.inr (mx 12 (fun i => some (na i)) (fun _ => none))))))), (qt, .inl (ct, 4, .inl (upd (upd (upd (upd (fun _ => 0) 0 3) 1 10) 2 2) 3 3)))] ++ (List.range 12).map (fun i => ((na i : Nat), (.inr (1, [.int 0, .long 0, .int 0, .int 0, .int 0, .int 0, .int 0, .int 0, .int 0, .int 0, .long 0, .long 0]) : va_E)))) H := hP
      have hD : va_D A ([(h0, .inr (3, [.ref hA9, .ref qt, .null, .null, .null, .int 0, .int 0, .int 0, .int 0, .long 0, .long 0])), (hA9, .inl (cA, 12, .inr (.inr (.inr (.inr (mx 12 (fun i => some (na i)) (fun _ => none))))))), (qt, .inl (ct, 4, .inl (upd (upd (upd (upd (fun _ => 0) 0 3) 1 10) 2 2) 3 3)))] ++ (List.range 12).map (fun i => ((na i : Nat), (.inr (1, [.int 0, .long 0, .int 0, .int 0, .int 0, .int 0, .int 0, .int 0, .int 0, .int 0, .long 0, .long 0]) : va_E)))) := hD
      refine lv_aload_n hx hb dX3_init_64 rfl (lv_at hl 0 rfl) ?_
      refine va_new (ci := 0) (fs := [.null, .null, .int 0, .int 0, .int 0, .long 0, .int 0]) (C := RX0) (T := TX0) (N := 7) hx hb hts hn0 tyX0 tyX0_ok hown (hts (.classLink RX3 20 RX0) (by decide +kernel)) (hts (.instantiable RX0 7) (by decide +kernel)) (hts (.initialized RX0) (by decide +kernel)) hK hP hD hS hA rfl (fun j hj => by rcases (show j = 0 ∨ j = 1 ∨ j = 2 ∨ j = 3 ∨ j = 4 ∨ j = 5 ∨ j = 6 by omega) with rfl | rfl | rfl | rfl | rfl | rfl | rfl <;> rfl) (Nat.le_of_ble_eq_true rfl) (Nat.le_of_ble_eq_true rfl) dX3_init_65 (fun qe H hP hD hS => ?_)
      refine W.widen (k := 15) (n := 167) (Nat.le_of_ble_eq_true rfl) (Nat.le_of_ble_eq_true rfl) ?_
      have hP := hP.swap
      have hD := hD.swap
      have hP : va_P D vwCl ([(h0, .inr (3, [.ref hA9, .ref qt, .null, .null, .null, .int 0, .int 0, .int 0, .int 0, .long 0, .long 0])), (hA9, .inl (cA, 12, .inr (.inr (.inr (.inr (mx 12 (fun i => some (na i)) (fun _ => none))))))), (qt, .inl (ct, 4, .inl (upd (upd (upd (upd (fun _ => 0) 0 3) 1 10) 2 2) 3 3))), (qe, .inr (0, [.null, .null, .int 0, .int 0, .int 0, .long 0, .int 0]))] ++ (List.range 12).map (fun i => ((na i : Nat), (.inr (1, [.int 0, .long 0, .int 0, .int 0, .int 0, .int 0, .int 0, .int 0, .int 0, .int 0, .long 0, .long 0]) : va_E)))) H := hP
      have hD : va_D A ([(h0, .inr (3, [.ref hA9, .ref qt, .null, .null, .null, .int 0, .int 0, .int 0, .int 0, .long 0, .long 0])), (hA9, .inl (cA, 12, .inr (.inr (.inr (.inr (mx 12 (fun i => some (na i)) (fun _ => none))))))), (qt, .inl (ct, 4, .inl (upd (upd (upd (upd (fun _ => 0) 0 3) 1 10) 2 2) 3 3))), (qe, .inr (0, [.null, .null, .int 0, .int 0, .int 0, .long 0, .int 0]))] ++ (List.range 12).map (fun i => ((na i : Nat), (.inr (1, [.int 0, .long 0, .int 0, .int 0, .int 0, .int 0, .int 0, .int 0, .int 0, .int 0, .long 0, .long 0]) : va_E)))) := hD
      refine lv_dup hx hb dX3_init_68 rfl ?_
      have hPp := hP.part (cx := [(qe, .inr (0, [.null, .null, .int 0, .int 0, .int 0, .long 0, .int 0]))]) [3] rfl
      have hPc : va_P D vwCl [(qe, .inr (0, [.null, .null, .int 0, .int 0, .int 0, .long 0, .int 0]))] H := fun k q hk => hPp k q (ww_aL hk)
      have hDc : va_D A [(qe, .inr (0, [.null, .null, .int 0, .int 0, .int 0, .long 0, .int 0]))] := ww_DL (hD.part (cx := [(qe, .inr (0, [.null, .null, .int 0, .int 0, .int 0, .long 0, .int 0]))]) [3] (by decide) rfl)
      have hKc : va_K D vwCl [] s := hK.sub [] rfl
      have hFc : ∀ q, va_A [(qe, .inr (0, [.null, .null, .int 0, .int 0, .int 0, .long 0, .int 0]))] H.size q → A q := by
        rintro q9 (⟨k, e, hk⟩ | h)
        · exact hDc.2 k _ hk
        · exact hA q9 (Nat.le_trans hS.1 h)
      refine va_callv (va_runIN (As := []) (rest := [.ref qe, .ref h0]) ⟨hx, hb, hml, hown, hts⟩ (k_X0_init l (D := D) qe H.size) ⟨va_cnB 0 hts gX3_init_X0_init_n22 rfl rfl rfl hN2 (hts (.initialized RX0) (by decide +kernel)) (by decide +kernel) ⟨(Nat.le_of_ble_eq_true rfl), (Nat.le_of_ble_eq_true rfl)⟩, rfl, hts (.instanceMethod yX0_init) (by decide +kernel)⟩ ⟨fun a U g mk q => by obtain ⟨q0, q1, qP, qK, qD, qE⟩ := q; exact ⟨q0, q1, qP, va_K.moved (u := U) (U := U.calling g mk a) (Vm.Alike.refl U.vm) qK, qD, va_Nw.same rfl (u := U) (U := U.calling g mk a) rfl qE⟩, fun U hU hW => ⟨rfl, by rw [hU], by rw [hU]; exact hPc, va_K.moved hW.alike hKc, hDc.weaken (fun _ _ _ _ => trivial), va_Nw.warmM hW hE⟩⟩ rfl rfl hl.1 rfl (lv_room (Nat.le_of_ble_eq_true rfl)) dX3_init_69 ⟨(Nat.le_of_ble_eq_true rfl), (Nat.le_of_ble_eq_true rfl)⟩) hS (fun q _ h => hFc q h) hFc (fun u t H1 locs ht hvm hw hB hz1 hk1 hS => ?_)
      obtain ⟨qae, qbe, cae, cbe⟩ := u
      obtain ⟨hP1, hK1, hD1⟩ := hB
      rw [ht] at hP1
      have hK1 := va_K.moved hvm.symm hK1
      obtain ⟨hP, hD⟩ := va_joinQ (cx := [(qe, .inr (0, [.null, .null, .int 0, .int 0, .int 0, .long 0, .int 0]))]) (wr := [(h0, .inr (3, [.ref hA9, .ref qt, .null, .null, .null, .int 0, .int 0, .int 0, .int 0, .long 0, .long 0])), (hA9, .inl (cA, 12, .inr (.inr (.inr (.inr (mx 12 (fun i => some (na i)) (fun _ => none))))))), (qt, .inl (ct, 4, .inl (upd (upd (upd (upd (fun _ => 0) 0 3) 1 10) 2 2) 3 3)))]) (w1 := [(qe, .inr (0, [.ref qae, .ref qbe, .int 0, .int 0, .int 0, .long 0, .int 0])), (qae, .inl (cae, 12, .inl (fun _ => 0))), (qbe, .inl (cbe, 12, .inl (fun _ => 0)))]) hP hD [3] [0, 1, 2] rfl rfl (by decide) (by decide) hk1 hFc hP1 hD1
      generalize H1 = H at hP hS ⊢
      have hP : va_P D vwCl ([(h0, .inr (3, [.ref hA9, .ref qt, .null, .null, .null, .int 0, .int 0, .int 0, .int 0, .long 0, .long 0])), (hA9, .inl (cA, 12, .inr (.inr (.inr (.inr (mx 12 (fun i => some (na i)) (fun _ => none))))))), (qt, .inl (ct, 4, .inl (upd (upd (upd (upd (fun _ => 0) 0 3) 1 10) 2 2) 3 3))), (qe, .inr (0, [.ref qae, .ref qbe, .int 0, .int 0, .int 0, .long 0, .int 0])), (qae, .inl (cae, 12, .inl (fun _ => 0))), (qbe, .inl (cbe, 12, .inl (fun _ => 0)))] ++ (List.range 12).map (fun i => ((na i : Nat), (.inr (1, [.int 0, .long 0, .int 0, .int 0, .int 0, .int 0, .int 0, .int 0, .int 0, .int 0, .long 0, .long 0]) : va_E)))) H := hP
      have hD : va_D A ([(h0, .inr (3, [.ref hA9, .ref qt, .null, .null, .null, .int 0, .int 0, .int 0, .int 0, .long 0, .long 0])), (hA9, .inl (cA, 12, .inr (.inr (.inr (.inr (mx 12 (fun i => some (na i)) (fun _ => none))))))), (qt, .inl (ct, 4, .inl (upd (upd (upd (upd (fun _ => 0) 0 3) 1 10) 2 2) 3 3))), (qe, .inr (0, [.ref qae, .ref qbe, .int 0, .int 0, .int 0, .long 0, .int 0])), (qae, .inl (cae, 12, .inl (fun _ => 0))), (qbe, .inl (cbe, 12, .inl (fun _ => 0)))] ++ (List.range 12).map (fun i => ((na i : Nat), (.inr (1, [.int 0, .long 0, .int 0, .int 0, .int 0, .int 0, .int 0, .int 0, .int 0, .int 0, .long 0, .long 0]) : va_E)))) := hD
      have hK : va_K D vwCl [(cA, .object RX1), (ct, .int), (cae, .int), (cbe, .int)] s := hK.app hK1
      refine W.widen (k := 17) (n := 191) (Nat.le_of_ble_eq_true rfl) (Nat.le_of_ble_eq_true rfl) ?_
      refine va_putF (D := D) (ci := 3) (v := .ref qe) (ty := .object "LeaderRows$Electors") (C := RX3) (T := TX3) (N := 11) hx hb hts hn3 tyX3 tyX3_ok nmX3 hown hK hP hD hS 0 rfl rfl 2 (by decide) (hts (.fieldLink RX3 23 "LeaderRows" "electors" "LLeaderRows$Electors;") (by decide +kernel)) (fun _ h9 => h9) rfl hin rfl (by decide +kernel) rfl rfl (Nat.le_of_ble_eq_true rfl) dX3_init_72 (fun H locs hP hD hS => ?_)
      have hP : va_P D vwCl ([(h0, .inr (3, [.ref hA9, .ref qt, .ref qe, .null, .null, .int 0, .int 0, .int 0, .int 0, .long 0, .long 0])), (hA9, .inl (cA, 12, .inr (.inr (.inr (.inr (mx 12 (fun i => some (na i)) (fun _ => none))))))), (qt, .inl (ct, 4, .inl (upd (upd (upd (upd (fun _ => 0) 0 3) 1 10) 2 2) 3 3))), (qe, .inr (0, [.ref qae, .ref qbe, .int 0, .int 0, .int 0, .long 0, .int 0])), (qae, .inl (cae, 12, .inl (fun _ => 0))), (qbe, .inl (cbe, 12, .inl (fun _ => 0)))] ++ (List.range 12).map (fun i => ((na i : Nat), (.inr (1, [.int 0, .long 0, .int 0, .int 0, .int 0, .int 0, .int 0, .int 0, .int 0, .int 0, .long 0, .long 0]) : va_E)))) H := hP
      have hD : va_D A ([(h0, .inr (3, [.ref hA9, .ref qt, .ref qe, .null, .null, .int 0, .int 0, .int 0, .int 0, .long 0, .long 0])), (hA9, .inl (cA, 12, .inr (.inr (.inr (.inr (mx 12 (fun i => some (na i)) (fun _ => none))))))), (qt, .inl (ct, 4, .inl (upd (upd (upd (upd (fun _ => 0) 0 3) 1 10) 2 2) 3 3))), (qe, .inr (0, [.ref qae, .ref qbe, .int 0, .int 0, .int 0, .long 0, .int 0])), (qae, .inl (cae, 12, .inl (fun _ => 0))), (qbe, .inl (cbe, 12, .inl (fun _ => 0)))] ++ (List.range 12).map (fun i => ((na i : Nat), (.inr (1, [.int 0, .long 0, .int 0, .int 0, .int 0, .int 0, .int 0, .int 0, .int 0, .int 0, .long 0, .long 0]) : va_E)))) := hD
      refine lv_aload_n hx hb dX3_init_75 rfl (lv_at hl 0 rfl) ?_
      refine va_new (ci := 2) (fs := [.null, .null, .int 0, .int 0]) (C := RX2) (T := TX2) (N := 4) hx hb hts hn2 tyX2 tyX2_ok hown (hts (.classLink RX3 27 RX2) (by decide +kernel)) (hts (.instantiable RX2 4) (by decide +kernel)) (hts (.initialized RX2) (by decide +kernel)) hK hP hD hS hA rfl (fun j hj => by rcases (show j = 0 ∨ j = 1 ∨ j = 2 ∨ j = 3 by omega) with rfl | rfl | rfl | rfl <;> rfl) (Nat.le_of_ble_eq_true rfl) (Nat.le_of_ble_eq_true rfl) dX3_init_76 (fun qr H hP hD hS => ?_)
      refine W.widen (k := 18) (n := 195) (Nat.le_of_ble_eq_true rfl) (Nat.le_of_ble_eq_true rfl) ?_
      have hP := hP.swap
      have hD := hD.swap
      have hP : va_P D vwCl ([(h0, .inr (3, [.ref hA9, .ref qt, .ref qe, .null, .null, .int 0, .int 0, .int 0, .int 0, .long 0, .long 0])), (hA9, .inl (cA, 12, .inr (.inr (.inr (.inr (mx 12 (fun i => some (na i)) (fun _ => none))))))), (qt, .inl (ct, 4, .inl (upd (upd (upd (upd (fun _ => 0) 0 3) 1 10) 2 2) 3 3))), (qe, .inr (0, [.ref qae, .ref qbe, .int 0, .int 0, .int 0, .long 0, .int 0])), (qae, .inl (cae, 12, .inl (fun _ => 0))), (qbe, .inl (cbe, 12, .inl (fun _ => 0))), (qr, .inr (2, [.null, .null, .int 0, .int 0]))] ++ (List.range 12).map (fun i => ((na i : Nat), (.inr (1, [.int 0, .long 0, .int 0, .int 0, .int 0, .int 0, .int 0, .int 0, .int 0, .int 0, .long 0, .long 0]) : va_E)))) H := hP
      have hD : va_D A ([(h0, .inr (3, [.ref hA9, .ref qt, .ref qe, .null, .null, .int 0, .int 0, .int 0, .int 0, .long 0, .long 0])), (hA9, .inl (cA, 12, .inr (.inr (.inr (.inr (mx 12 (fun i => some (na i)) (fun _ => none))))))), (qt, .inl (ct, 4, .inl (upd (upd (upd (upd (fun _ => 0) 0 3) 1 10) 2 2) 3 3))), (qe, .inr (0, [.ref qae, .ref qbe, .int 0, .int 0, .int 0, .long 0, .int 0])), (qae, .inl (cae, 12, .inl (fun _ => 0))), (qbe, .inl (cbe, 12, .inl (fun _ => 0))), (qr, .inr (2, [.null, .null, .int 0, .int 0]))] ++ (List.range 12).map (fun i => ((na i : Nat), (.inr (1, [.int 0, .long 0, .int 0, .int 0, .int 0, .int 0, .int 0, .int 0, .int 0, .int 0, .long 0, .long 0]) : va_E)))) := hD
      refine lv_dup hx hb dX3_init_79 rfl ?_
      have hPp := hP.part (cx := [(qr, .inr (2, [.null, .null, .int 0, .int 0]))]) [6] rfl
      have hPc : va_P D vwCl [(qr, .inr (2, [.null, .null, .int 0, .int 0]))] H := fun k q hk => hPp k q (ww_aL hk)
      have hDc : va_D A [(qr, .inr (2, [.null, .null, .int 0, .int 0]))] := ww_DL (hD.part (cx := [(qr, .inr (2, [.null, .null, .int 0, .int 0]))]) [6] (by decide) rfl)
      have hKc : va_K D vwCl [] s := hK.sub [] rfl
      have hFc : ∀ q, va_A [(qr, .inr (2, [.null, .null, .int 0, .int 0]))] H.size q → A q := by
        rintro q9 (⟨k, e, hk⟩ | h)
        · exact hDc.2 k _ hk
        · exact hA q9 (Nat.le_trans hS.1 h)
      refine va_callv (va_runIN (As := []) (rest := [.ref qr, .ref h0]) ⟨hx, hb, hml, hown, hts⟩ (k_X2_init l (D := D) qr H.size) ⟨va_cnB 0 hts gX3_init_X2_init_n29 rfl rfl rfl hN3 (hts (.initialized RX2) (by decide +kernel)) (by decide +kernel) ⟨(Nat.le_of_ble_eq_true rfl), (Nat.le_of_ble_eq_true rfl)⟩, rfl, hts (.instanceMethod yX2_init) (by decide +kernel)⟩ ⟨fun a U g mk q => by obtain ⟨q0, q1, qP, qK, qD, qE⟩ := q; exact ⟨q0, q1, qP, va_K.moved (u := U) (U := U.calling g mk a) (Vm.Alike.refl U.vm) qK, qD, va_Nw.same rfl (u := U) (U := U.calling g mk a) rfl qE⟩, fun U hU hW => ⟨rfl, by rw [hU], by rw [hU]; exact hPc, va_K.moved hW.alike hKc, hDc.weaken (fun _ _ _ _ => trivial), va_Nw.warmM hW hE⟩⟩ rfl rfl hl.1 rfl (lv_room (Nat.le_of_ble_eq_true rfl)) dX3_init_80 ⟨(Nat.le_of_ble_eq_true rfl), (Nat.le_of_ble_eq_true rfl)⟩) hS (fun q _ h => hFc q h) hFc (fun u t H1 locs ht hvm hw hB hz1 hk1 hS => ?_)
      obtain ⟨qar, qbr, car, cbr⟩ := u
      obtain ⟨hP1, hK1, hD1⟩ := hB
      rw [ht] at hP1
      have hK1 := va_K.moved hvm.symm hK1
      obtain ⟨hP, hD⟩ := va_joinQ (cx := [(qr, .inr (2, [.null, .null, .int 0, .int 0]))]) (wr := [(h0, .inr (3, [.ref hA9, .ref qt, .ref qe, .null, .null, .int 0, .int 0, .int 0, .int 0, .long 0, .long 0])), (hA9, .inl (cA, 12, .inr (.inr (.inr (.inr (mx 12 (fun i => some (na i)) (fun _ => none))))))), (qt, .inl (ct, 4, .inl (upd (upd (upd (upd (fun _ => 0) 0 3) 1 10) 2 2) 3 3))), (qe, .inr (0, [.ref qae, .ref qbe, .int 0, .int 0, .int 0, .long 0, .int 0])), (qae, .inl (cae, 12, .inl (fun _ => 0))), (qbe, .inl (cbe, 12, .inl (fun _ => 0)))]) (w1 := [(qr, .inr (2, [.ref qar, .ref qbr, .int 0, .int 0])), (qar, .inl (car, 60, .inl (fun _ => 0))), (qbr, .inl (cbr, 60, .inl (fun _ => 0)))]) hP hD [6] [0, 1, 2, 3, 4, 5] rfl rfl (by decide) (by decide) hk1 hFc hP1 hD1
      generalize H1 = H at hP hS ⊢
      have hP : va_P D vwCl ([(h0, .inr (3, [.ref hA9, .ref qt, .ref qe, .null, .null, .int 0, .int 0, .int 0, .int 0, .long 0, .long 0])), (hA9, .inl (cA, 12, .inr (.inr (.inr (.inr (mx 12 (fun i => some (na i)) (fun _ => none))))))), (qt, .inl (ct, 4, .inl (upd (upd (upd (upd (fun _ => 0) 0 3) 1 10) 2 2) 3 3))), (qe, .inr (0, [.ref qae, .ref qbe, .int 0, .int 0, .int 0, .long 0, .int 0])), (qae, .inl (cae, 12, .inl (fun _ => 0))), (qbe, .inl (cbe, 12, .inl (fun _ => 0))), (qr, .inr (2, [.ref qar, .ref qbr, .int 0, .int 0])), (qar, .inl (car, 60, .inl (fun _ => 0))), (qbr, .inl (cbr, 60, .inl (fun _ => 0)))] ++ (List.range 12).map (fun i => ((na i : Nat), (.inr (1, [.int 0, .long 0, .int 0, .int 0, .int 0, .int 0, .int 0, .int 0, .int 0, .int 0, .long 0, .long 0]) : va_E)))) H := hP
      have hD : va_D A ([(h0, .inr (3, [.ref hA9, .ref qt, .ref qe, .null, .null, .int 0, .int 0, .int 0, .int 0, .long 0, .long 0])), (hA9, .inl (cA, 12, .inr (.inr (.inr (.inr (mx 12 (fun i => some (na i)) (fun _ => none))))))), (qt, .inl (ct, 4, .inl (upd (upd (upd (upd (fun _ => 0) 0 3) 1 10) 2 2) 3 3))), (qe, .inr (0, [.ref qae, .ref qbe, .int 0, .int 0, .int 0, .long 0, .int 0])), (qae, .inl (cae, 12, .inl (fun _ => 0))), (qbe, .inl (cbe, 12, .inl (fun _ => 0))), (qr, .inr (2, [.ref qar, .ref qbr, .int 0, .int 0])), (qar, .inl (car, 60, .inl (fun _ => 0))), (qbr, .inl (cbr, 60, .inl (fun _ => 0)))] ++ (List.range 12).map (fun i => ((na i : Nat), (.inr (1, [.int 0, .long 0, .int 0, .int 0, .int 0, .int 0, .int 0, .int 0, .int 0, .int 0, .long 0, .long 0]) : va_E)))) := hD
      have hK : va_K D vwCl [(cA, .object RX1), (ct, .int), (cae, .int), (cbe, .int), (car, .int), (cbr, .int)] s := hK.app hK1
      refine W.widen (k := 20) (n := 315) (Nat.le_of_ble_eq_true rfl) (Nat.le_of_ble_eq_true rfl) ?_
      refine va_putF (D := D) (ci := 3) (v := .ref qr) (ty := .object "LeaderRows$Row") (C := RX3) (T := TX3) (N := 11) hx hb hts hn3 tyX3 tyX3_ok nmX3 hown hK hP hD hS 0 rfl rfl 3 (by decide) (hts (.fieldLink RX3 30 "LeaderRows" "row" "LLeaderRows$Row;") (by decide +kernel)) (fun _ h9 => h9) rfl hin rfl (by decide +kernel) rfl rfl (Nat.le_of_ble_eq_true rfl) dX3_init_83 (fun H locs hP hD hS => ?_)
      have hP : va_P D vwCl ([(h0, .inr (3, [.ref hA9, .ref qt, .ref qe, .ref qr, .null, .int 0, .int 0, .int 0, .int 0, .long 0, .long 0])), (hA9, .inl (cA, 12, .inr (.inr (.inr (.inr (mx 12 (fun i => some (na i)) (fun _ => none))))))), (qt, .inl (ct, 4, .inl (upd (upd (upd (upd (fun _ => 0) 0 3) 1 10) 2 2) 3 3))), (qe, .inr (0, [.ref qae, .ref qbe, .int 0, .int 0, .int 0, .long 0, .int 0])), (qae, .inl (cae, 12, .inl (fun _ => 0))), (qbe, .inl (cbe, 12, .inl (fun _ => 0))), (qr, .inr (2, [.ref qar, .ref qbr, .int 0, .int 0])), (qar, .inl (car, 60, .inl (fun _ => 0))), (qbr, .inl (cbr, 60, .inl (fun _ => 0)))] ++ (List.range 12).map (fun i => ((na i : Nat), (.inr (1, [.int 0, .long 0, .int 0, .int 0, .int 0, .int 0, .int 0, .int 0, .int 0, .int 0, .long 0, .long 0]) : va_E)))) H := hP
      have hD : va_D A ([(h0, .inr (3, [.ref hA9, .ref qt, .ref qe, .ref qr, .null, .int 0, .int 0, .int 0, .int 0, .long 0, .long 0])), (hA9, .inl (cA, 12, .inr (.inr (.inr (.inr (mx 12 (fun i => some (na i)) (fun _ => none))))))), (qt, .inl (ct, 4, .inl (upd (upd (upd (upd (fun _ => 0) 0 3) 1 10) 2 2) 3 3))), (qe, .inr (0, [.ref qae, .ref qbe, .int 0, .int 0, .int 0, .long 0, .int 0])), (qae, .inl (cae, 12, .inl (fun _ => 0))), (qbe, .inl (cbe, 12, .inl (fun _ => 0))), (qr, .inr (2, [.ref qar, .ref qbr, .int 0, .int 0])), (qar, .inl (car, 60, .inl (fun _ => 0))), (qbr, .inl (cbr, 60, .inl (fun _ => 0)))] ++ (List.range 12).map (fun i => ((na i : Nat), (.inr (1, [.int 0, .long 0, .int 0, .int 0, .int 0, .int 0, .int 0, .int 0, .int 0, .int 0, .long 0, .long 0]) : va_E)))) := hD
      refine lv_aload_n hx hb dX3_init_86 rfl (lv_at hl 0 rfl) ?_
      refine lv_bipush (v := 60) hx hb dX3_init_87 (by decide) ?_
      refine va_newa (atype := .int) (a0 := (60, .inl (fun _ => 0))) (ty := .int) (N' := 60) hx hb (hts (.arrayClass .int) (by decide +kernel)) rfl hK hP hD hS hA (fun _ => rfl) (nI_pos (n := 60) (by decide)) (nI_clamp (n := 60) (by decide)) (by show 60 * 4 ≤ 536870912; omega) (Nat.le_of_ble_eq_true rfl) (Nat.le_of_ble_eq_true rfl) dX3_init_89 (fun qk ck H hK hP hD hS => ?_)
      refine W.widen (k := 21) (n := 375) (Nat.le_of_ble_eq_true rfl) (Nat.le_of_ble_eq_true rfl) ?_
      have hP := hP.swap
      have hD := hD.swap
      have hP : va_P D vwCl ([(h0, .inr (3, [.ref hA9, .ref qt, .ref qe, .ref qr, .null, .int 0, .int 0, .int 0, .int 0, .long 0, .long 0])), (hA9, .inl (cA, 12, .inr (.inr (.inr (.inr (mx 12 (fun i => some (na i)) (fun _ => none))))))), (qt, .inl (ct, 4, .inl (upd (upd (upd (upd (fun _ => 0) 0 3) 1 10) 2 2) 3 3))), (qe, .inr (0, [.ref qae, .ref qbe, .int 0, .int 0, .int 0, .long 0, .int 0])), (qae, .inl (cae, 12, .inl (fun _ => 0))), (qbe, .inl (cbe, 12, .inl (fun _ => 0))), (qr, .inr (2, [.ref qar, .ref qbr, .int 0, .int 0])), (qar, .inl (car, 60, .inl (fun _ => 0))), (qbr, .inl (cbr, 60, .inl (fun _ => 0))), (qk, .inl (ck, 60, .inl (fun _ => 0)))] ++ (List.range 12).map (fun i => ((na i : Nat), (.inr (1, [.int 0, .long 0, .int 0, .int 0, .int 0, .int 0, .int 0, .int 0, .int 0, .int 0, .long 0, .long 0]) : va_E)))) H := hP
      have hD : va_D A ([(h0, .inr (3, [.ref hA9, .ref qt, .ref qe, .ref qr, .null, .int 0, .int 0, .int 0, .int 0, .long 0, .long 0])), (hA9, .inl (cA, 12, .inr (.inr (.inr (.inr (mx 12 (fun i => some (na i)) (fun _ => none))))))), (qt, .inl (ct, 4, .inl (upd (upd (upd (upd (fun _ => 0) 0 3) 1 10) 2 2) 3 3))), (qe, .inr (0, [.ref qae, .ref qbe, .int 0, .int 0, .int 0, .long 0, .int 0])), (qae, .inl (cae, 12, .inl (fun _ => 0))), (qbe, .inl (cbe, 12, .inl (fun _ => 0))), (qr, .inr (2, [.ref qar, .ref qbr, .int 0, .int 0])), (qar, .inl (car, 60, .inl (fun _ => 0))), (qbr, .inl (cbr, 60, .inl (fun _ => 0))), (qk, .inl (ck, 60, .inl (fun _ => 0)))] ++ (List.range 12).map (fun i => ((na i : Nat), (.inr (1, [.int 0, .long 0, .int 0, .int 0, .int 0, .int 0, .int 0, .int 0, .int 0, .int 0, .long 0, .long 0]) : va_E)))) := hD
      have hK : va_K D vwCl [(cA, .object RX1), (ct, .int), (cae, .int), (cbe, .int), (car, .int), (cbr, .int), (ck, .int)] s := hK
      refine va_putF (D := D) (ci := 3) (v := .ref qk) (ty := .array .int) (C := RX3) (T := TX3) (N := 11) hx hb hts hn3 tyX3 tyX3_ok nmX3 hown hK hP hD hS 0 rfl rfl 4 (by decide) (hts (.fieldLink RX3 34 "LeaderRows" "claimed" "[I") (by decide +kernel)) (fun _ h9 => h9) rfl hin rfl (by decide +kernel) rfl rfl (Nat.le_of_ble_eq_true rfl) dX3_init_91 (fun H locs hP hD hS => ?_)
      have hP : va_P D vwCl ([(h0, .inr (3, [.ref hA9, .ref qt, .ref qe, .ref qr, .ref qk, .int 0, .int 0, .int 0, .int 0, .long 0, .long 0])), (hA9, .inl (cA, 12, .inr (.inr (.inr (.inr (mx 12 (fun i => some (na i)) (fun _ => none))))))), (qt, .inl (ct, 4, .inl (upd (upd (upd (upd (fun _ => 0) 0 3) 1 10) 2 2) 3 3))), (qe, .inr (0, [.ref qae, .ref qbe, .int 0, .int 0, .int 0, .long 0, .int 0])), (qae, .inl (cae, 12, .inl (fun _ => 0))), (qbe, .inl (cbe, 12, .inl (fun _ => 0))), (qr, .inr (2, [.ref qar, .ref qbr, .int 0, .int 0])), (qar, .inl (car, 60, .inl (fun _ => 0))), (qbr, .inl (cbr, 60, .inl (fun _ => 0))), (qk, .inl (ck, 60, .inl (fun _ => 0)))] ++ (List.range 12).map (fun i => ((na i : Nat), (.inr (1, [.int 0, .long 0, .int 0, .int 0, .int 0, .int 0, .int 0, .int 0, .int 0, .int 0, .long 0, .long 0]) : va_E)))) H := hP
      have hD : va_D A ([(h0, .inr (3, [.ref hA9, .ref qt, .ref qe, .ref qr, .ref qk, .int 0, .int 0, .int 0, .int 0, .long 0, .long 0])), (hA9, .inl (cA, 12, .inr (.inr (.inr (.inr (mx 12 (fun i => some (na i)) (fun _ => none))))))), (qt, .inl (ct, 4, .inl (upd (upd (upd (upd (fun _ => 0) 0 3) 1 10) 2 2) 3 3))), (qe, .inr (0, [.ref qae, .ref qbe, .int 0, .int 0, .int 0, .long 0, .int 0])), (qae, .inl (cae, 12, .inl (fun _ => 0))), (qbe, .inl (cbe, 12, .inl (fun _ => 0))), (qr, .inr (2, [.ref qar, .ref qbr, .int 0, .int 0])), (qar, .inl (car, 60, .inl (fun _ => 0))), (qbr, .inl (cbr, 60, .inl (fun _ => 0))), (qk, .inl (ck, 60, .inl (fun _ => 0)))] ++ (List.range 12).map (fun i => ((na i : Nat), (.inr (1, [.int 0, .long 0, .int 0, .int 0, .int 0, .int 0, .int 0, .int 0, .int 0, .int 0, .long 0, .long 0]) : va_E)))) := hD
      have hP := hP.part (cx := [(h0, .inr (3, [.ref hA9, .ref qt, .ref qe, .ref qr, .ref qk, .int 0, .int 0, .int 0, .int 0, .long 0, .long 0])), (hA9, .inl (cA, 12, .inr (.inr (.inr (.inr (mx 12 (fun i => some (na i)) (fun _ => none))))))), (qt, .inl (ct, 4, .inl (upd (upd (upd (upd (fun _ => 0) 0 3) 1 10) 2 2) 3 3))), (qe, .inr (0, [.ref qae, .ref qbe, .int 0, .int 0, .int 0, .long 0, .int 0])), (qr, .inr (2, [.ref qar, .ref qbr, .int 0, .int 0])), (qk, .inl (ck, 60, .inl (fun _ => 0))), (qae, .inl (cae, 12, .inl (fun _ => 0))), (qbe, .inl (cbe, 12, .inl (fun _ => 0))), (qar, .inl (car, 60, .inl (fun _ => 0))), (qbr, .inl (cbr, 60, .inl (fun _ => 0)))]) [0, 1, 2, 3, 6, 9, 4, 5, 7, 8] rfl
      have hD := hD.part (cx := [(h0, .inr (3, [.ref hA9, .ref qt, .ref qe, .ref qr, .ref qk, .int 0, .int 0, .int 0, .int 0, .long 0, .long 0])), (hA9, .inl (cA, 12, .inr (.inr (.inr (.inr (mx 12 (fun i => some (na i)) (fun _ => none))))))), (qt, .inl (ct, 4, .inl (upd (upd (upd (upd (fun _ => 0) 0 3) 1 10) 2 2) 3 3))), (qe, .inr (0, [.ref qae, .ref qbe, .int 0, .int 0, .int 0, .long 0, .int 0])), (qr, .inr (2, [.ref qar, .ref qbr, .int 0, .int 0])), (qk, .inl (ck, 60, .inl (fun _ => 0))), (qae, .inl (cae, 12, .inl (fun _ => 0))), (qbe, .inl (cbe, 12, .inl (fun _ => 0))), (qar, .inl (car, 60, .inl (fun _ => 0))), (qbr, .inl (cbr, 60, .inl (fun _ => 0)))]) [0, 1, 2, 3, 6, 9, 4, 5, 7, 8] (by decide) rfl
      have hK := hK.sub (tys' := [(cA, .object RX1), (ct, .int), (ck, .int), (cae, .int), (cbe, .int), (car, .int), (cbr, .int)]) [0, 1, 6, 2, 3, 4, 5] rfl
      obtain ⟨ad, cy, e0, hP, hD, hK⟩ : ∃ (ad : Nat → Nat) (cy : Nat → ClassId), ad 0 = h0 ∧ va_P D vwCl (cw_w ad cy 0 0 0 0 0 0 f_T0 f_0 0 0 0 0 0 f_0 f_0 0 0 f_0 f_0 f_0 f_0 f_0 f_0 f_0 f_0 f_0 f_0 f_0 f_0L f_0L f_0L) H ∧ va_D A (cw_w ad cy 0 0 0 0 0 0 f_T0 f_0 0 0 0 0 0 f_0 f_0 0 0 f_0 f_0 f_0 f_0 f_0 f_0 f_0 f_0 f_0 f_0 f_0 f_0L f_0L f_0L) ∧ va_K D vwCl (cw_t cy) s := by
        refine ⟨fun k => if k < 10 then [h0, hA9, qt, qe, qr, qk, qae, qbe, qar, qbr].getD k 0 else na (k - 10), fun k => [cA, cA, ct, cA, cA, ck, cae, cbe, car, cbr].getD k cA, rfl, ?_, ?_, hK⟩
        · refine fun k q hk => ?_
          by_cases hk1 : k = 1
          · subst hk1
            have h9 := hP 1 _ rfl
            have hq : q = (hA9, .inl (cA, 12, .inr (.inr (.inr (.inr (fun i => some (if 10 + i < 10 then [h0, hA9, qt, qe, qr, qk, qae, qbe, qar, qbr].getD (10 + i) 0 else na (10 + i - 10)))))))) := (Option.some.inj hk).symm
            subst hq
            show H[hA9]? = some (vp_cell cA (12, .inr (.inr (.inr (.inr _)))))
            rw [← rg_cell (f := mx 12 (fun i => some (na i)) (fun _ => none)) (fun i hi => by rw [mx_lo _ _ hi, if_neg (by omega), Nat.add_sub_cancel_left])]
            exact h9
          · refine hP k q ?_
            rw [← hk]
            exact ww_get9 hk1 (fun i => by show (na i, _) = ((if 10 + i < 10 then _ else na (10 + i - 10)), _); rw [if_neg (by omega), Nat.add_sub_cancel_left]; rfl)
        · exact ww_dom hD rfl (fun i => by show na i = (if 10 + i < 10 then _ else na (10 + i - 10)); rw [if_neg (by omega), Nat.add_sub_cancel_left])
      exact W.vret hx hb hr (fun t ht hW => ⟨⟨(ad, cy), rfl, e0, by rw [ht]; exact hP, va_K.moved hW.alike hK, hD⟩, hS.F ht⟩) hS.2.2 dX3_init_94 hlk
    | succ n ih =>
      intro k hk na H locs ls hP hD hS hl
      have hkl : k < 12 := by omega
      refine lv_iload_n hx hb dX3_init_15 rfl (lv_at hl 1 rfl) ?_
      refine lv_bipush (v := 12) hx hb dX3_init_16 (by decide) ?_
      refine lv_icmp_ge (tgt := 40) hx hb dX3_init_18 (by decide) (fun h1 => absurd h1 (nI_nge 12 rfl hkl (by decide))) (fun _ => ?_)
      refine lv_aload_n hx hb dX3_init_21 rfl (lv_at hl 0 rfl) ?_
      refine va_get (D := D) (ci := 3) (v := .ref hA9) (C := RX3) (T := TX3) (N := 11) hx hb hts hn3 hown hK hP 0 rfl rfl 0 (by decide) (hts (.fieldLink RX3 11 "LeaderRows" "nodes" "[LLeaderRows$Node;") (by decide +kernel)) (fun _ h9 => h9) rfl dX3_init_22 ?_
      refine lv_iload_n hx hb dX3_init_25 rfl (lv_at hl 1 rfl) ?_
      refine va_new (ci := 1) (fs := [.int 0, .long 0, .int 0, .int 0, .int 0, .int 0, .int 0, .int 0, .int 0, .int 0, .long 0, .long 0]) (C := RX1) (T := TX1) (N := 12) hx hb hts hn1 tyX1 tyX1_ok hown (hts (.classLink RX3 9 RX1) (by decide +kernel)) (hts (.instantiable RX1 12) (by decide +kernel)) (hts (.initialized RX1) (by decide +kernel)) hK hP hD hS hA rfl (fun j hj => by rcases (show j = 0 ∨ j = 1 ∨ j = 2 ∨ j = 3 ∨ j = 4 ∨ j = 5 ∨ j = 6 ∨ j = 7 ∨ j = 8 ∨ j = 9 ∨ j = 10 ∨ j = 11 by omega) with rfl | rfl | rfl | rfl | rfl | rfl | rfl | rfl | rfl | rfl | rfl | rfl <;> rfl) (show 1 + k + 1 ≤ 21 by omega) (show 12 + 12 * k + 12 ≤ 375 by omega) dX3_init_26 (fun q H hP hD hS => ?_)
      rw [List.append_assoc, rg_s] at hP hD
      refine lv_dup hx hb dX3_init_29 rfl ?_
      refine va_csv (va_Run.run (va_runIN (As := []) (rest := [.ref q, .int (nI k), .ref hA9]) ⟨hx, hb, hml, hown, hts⟩ (k_X1_init l q) ⟨va_cnB 0 hts gX3_init_X1_init_n15 rfl rfl rfl hN1 (hts (.initialized RX1) (by decide +kernel)) (by decide +kernel) ⟨(Nat.le_of_ble_eq_true rfl), (Nat.le_of_ble_eq_true rfl)⟩, rfl, hts (.instanceMethod yX1_init) (by decide +kernel)⟩ preEq rfl rfl hl.1 rfl (lv_room (Nat.le_of_ble_eq_true rfl)) dX3_init_30 ⟨show 1 + k + 1 + 0 ≤ 21 by omega, show 12 + 12 * k + 12 + 0 ≤ 375 by omega⟩)) (fun _ => ?_)
      refine va_astq hx hb hK hP hD hS 1 0 (2 + k) 1 (f := mx k (fun i => some (na i)) (fun _ => none)) (r := (RX1, TX1, 12)) rfl rfl (by
        rw [List.getElem?_append_right (by show 2 ≤ 2 + k; omega)]
        show ((List.range (k + 1)).map _)[2 + k - 2]? = _
        rw [Nat.add_sub_cancel_left]
        simp [va_up]
        rfl) rfl (vp_in_nI hkl (by decide)) dX3_init_33 (fun H locs hP hD hS => ?_)
      rw [nI_clamp (by omega), rg_f] at hP hD
      refine lv_iinc (v := nI (k + 1)) (lv' := [(1, .int (nI (k + 1))), (0, .ref h0)]) hx hb dX3_init_34 hl (k := 1) rfl (nI_1 k) (by decide) rfl (fun ls hl => ?_)
      refine lv_goto (tgt := 15) hx hb dX3_init_37 (by decide) ?_
      refine W.widen (k := 1 + (k + 1)) (n := 12 + 12 * (k + 1)) (by omega) (by omega) ?_
      exact ih (k + 1) (by omega) (va_up na k q) _ _ ls hP hD hS (lv_sub hl [1, 0] rfl)
  exact L15 12 0 rfl (fun _ => 0) _ _ ls (by rw [mx_0]; exact hP) (by rw [mx_0]; exact hD) hS (lv_sub hl [1, 0] rfl)
