/-! ===== only the twelve count ===== -/
theorem cg_sum {w w' : Nat → Int32} (h : ∀ j, j < 12 → w j = w' j) : ∀ k, k ≤ 12 → g_sum w k = g_sum w' k := by
  intro k
  induction k with
  | zero => intro _; rfl
  | succ k ih => intro hk; rw [g_sum, g_sum, ih (by omega), h k (by omega)]
theorem cg_sl {w w' : Nat → Int32} (h : ∀ j, j < 12 → w j = w' j) : ∀ k, k ≤ 12 → g_sl w k = g_sl w' k := by
  intro k
  induction k with
  | zero => intro _; rfl
  | succ k ih => intro hk; rw [g_sl, g_sl, ih (by omega), h k (by omega)]
theorem cg_cn {w w' : Nat → Int32} (h : ∀ j, j < 12 → w j = w' j) : ∀ k, k ≤ 12 → f_cn w k = f_cn w' k := by
  intro k
  induction k with
  | zero => intro _; rfl
  | succ k ih => intro hk; rw [f_cn, f_cn, ih (by omega), h k (by omega)]
theorem cg_mo {w w' wa wa' : Nat → Int32} (h : ∀ j, j < 12 → w j = w' j) (h2 : ∀ j, j < 12 → wa j = wa' j) (x : Int64) : ∀ k, k ≤ 12 → g_mo w wa x k = g_mo w' wa' x k := by
  intro k
  induction k with
  | zero => intro _; rfl
  | succ k ih => intro hk; rw [g_mo, g_mo, ih (by omega), h k (by omega), h2 k (by omega)]
theorem cg_od {w w' wa wa' : Nat → Int32} (h : ∀ j, j < 12 → w j = w' j) (h2 : ∀ j, j < 12 → wa j = wa' j) (fac sum : Int32) : g_od w wa fac sum = g_od w' wa' fac sum := by
  unfold g_od
  rw [cg_mo h h2 _ 12 (by omega)]
theorem cg_hk {w w' : Nat → Int32} (h : ∀ j, j < 12 → w j = w' j) (r : Int64) : ∀ n k, k + n = 12 → g_hk w r n k = g_hk w' r n k := by
  intro n
  induction n with
  | zero => intro k _; rfl
  | succ n ih => intro k hk; rw [g_hk, g_hk, ih (k + 1) (by omega), cg_sl h k (by omega), h k (by omega)]
theorem cg_who {w w' wa wa' : Nat → Int32} (h : ∀ j, j < 12 → w j = w' j) (h2 : ∀ j, j < 12 → wa j = wa' j) (fac sum : Int32) (s : Int64) (n : Nat) : g_who w wa fac sum s n = g_who w' wa' fac sum s n := by
  unfold g_who
  rw [cg_od h h2, cg_hk h _ 12 0 rfl]
theorem cg_S {w w' wa wa' : Nat → Int32} (h : ∀ j, j < 12 → w j = w' j) (h2 : ∀ j, j < 12 → wa j = wa' j) (fac sum : Int32) (s : Int64) : ∀ k, (g_S w fac sum s wa k).1 = (g_S w' fac sum s wa' k).1 ∧ ∀ j, j < 12 → (g_S w fac sum s wa k).2 j = (g_S w' fac sum s wa' k).2 j := by
  intro k
  induction k with
  | zero => exact ⟨rfl, h2⟩
  | succ k ih =>
    obtain ⟨i1, i2⟩ := ih
    refine ⟨?_, fun j hj => ?_⟩
    · show g_ns _ _ _ _ _ _ = g_ns _ _ _ _ _ _
      unfold g_ns
      rw [cg_od h i2, i1]
    · show mx 12 (g_pt _ _ _) _ j = mx 12 (g_pt _ _ _) _ j
      rw [mx_lo _ _ hj, mx_lo _ _ hj, i1, cg_who h i2]
      unfold g_pt
      rw [h j hj, i2 j hj]
theorem cg_L {w w' wa wa' : Nat → Int32} (h : ∀ j, j < 12 → w j = w' j) (h2 : ∀ j, j < 12 → wa j = wa' j) (fac sum : Int32) (s : Int64) : g_L w fac sum s wa = g_L w' fac sum s wa' := by
  funext k
  unfold g_L
  rw [cg_who h (cg_S h h2 fac sum s k).2, (cg_S h h2 fac sum s k).1]
theorem cg_N {w w' wa wa' : Nat → Int32} (h : ∀ j, j < 12 → w j = w' j) (h2 : ∀ j, j < 12 → wa j = wa' j) (fac sum : Int32) (s : Int64) : g_N w fac sum s wa = g_N w' fac sum s wa' := by
  funext k
  unfold g_N g_nn
  rw [cg_od h (cg_S h h2 fac sum s k).2, (cg_S h h2 fac sum s k).1]
theorem cg_sd {a a' : Nat → Int32} {d d' v v' : Nat → Int64} (s0 : Int64) (h : ∀ j, j < 12 → (a j = 0 ↔ a' j = 0) ∧ (¬ a j = 0 → d j = d' j ∧ v j = v' j)) : ∀ k, k ≤ 12 → g_sd a d v s0 k = g_sd a' d' v' s0 k := by
  intro k
  induction k with
  | zero => intro _; rfl
  | succ k ih =>
    intro hk
    rw [g_sd, g_sd, ih (by omega)]
    obtain ⟨h1, h2⟩ := h k (by omega)
    by_cases h3 : a k = 0
    · rw [if_pos h3, if_pos (h1.mp h3)]
    · rw [if_neg h3, if_neg (fun q => h3 (h1.mpr q)), (h2 h3).1, (h2 h3).2]
theorem mx_c {α : Type} {n : Nat} {a a' b b' : Nat → α} (h : ∀ j, j < n → a j = a' j) (h2 : ∀ j, n ≤ j → b j = b' j) : mx n a b = mx n a' b' := by
  funext j
  unfold mx
  by_cases h3 : j < n
  · rw [if_pos h3, if_pos h3, h j h3]
  · rw [if_neg h3, if_neg h3, h2 j (by omega)]
theorem mx_s {α : Type} {n : Nat} {a b : Nat → α} (h : ∀ j, j < n → a j = b j) : mx n a b = b := by
  funext j
  unfold mx
  by_cases h3 : j < n
  · rw [if_pos h3, h j h3]
  · rw [if_neg h3]
/-! ===== who elects, in the class and in the reference ===== -/
theorem nI_neg {j : Nat} (hj : j < 12) : ¬ nI j = -2 ∧ ¬ nI j = -1 := by
  refine ⟨nI_ne2 (by omega), fun h => ?_⟩
  have h2 := congrArg Int32.toInt h
  rw [nI_toInt (by omega)] at h2
  have : (-1 : Int32).toInt = -1 := rfl
  omega
theorem wh_iff (a b : Int32) : f_wh a b = 0 ↔ (a = 0 ∨ ¬ b = 0) := by
  unfold f_wh
  by_cases h1 : a = 0
  · simp [h1]
  · by_cases h2 : b = 0
    · rw [if_neg h1, if_pos h2]
      exact ⟨fun h => absurd h (by decide), fun h => h.elim (fun q => absurd q h1) (fun q => absurd h2 q)⟩
    · rw [if_neg h1, if_neg h2]
      exact ⟨fun _ => Or.inr h2, fun _ => rfl⟩
theorem el_d {mem com op : Nat → Int32} {j : Nat} (hj : j < 12) : g_e (-2) mem com op j = e_m (-1) 0 mem com op j := by
  unfold g_e e_m h_m
  rw [if_neg (nI_neg hj).2, if_neg (nI_neg hj).1]
  by_cases h1 : mem j = 0
  · rw [if_pos h1, if_pos h1]
  · rw [if_neg h1, if_neg h1]
    by_cases h2 : op j = 0
    · rw [if_pos h2]
      by_cases h3 : com j = 0
      · rw [if_pos h3, if_pos ((wh_iff _ _).mpr (Or.inl h3))]
      · rw [if_neg h3, if_neg (fun h => ((wh_iff _ _).mp h).elim h3 (fun q => q h2))]
    · rw [if_neg h2, if_pos ((wh_iff _ _).mpr (Or.inr h2))]
theorem el_w {mem com op : Nat → Int32} {opens : Int32} {i j : Nat} (hi : i < 12) (hj : j < 12) (hc : ¬ com i = 0) (ho : op i = 0) : g_e (if opens = 0 then -2 else nI i) mem com op j = e_m (nI i) opens mem com op j := by
  unfold g_e e_m h_m
  by_cases h1 : mem j = 0
  · rw [if_pos h1, if_pos h1]
  · rw [if_neg h1, if_neg h1]
    by_cases hij : j = i
    · subst hij
      rw [if_pos rfl, if_neg (wh_2 hc ho), if_neg hc]
      by_cases h2 : opens = 0
      · rw [if_pos h2, if_pos h2, if_neg (nI_neg hj).1]
      · rw [if_neg h2, if_neg h2, if_pos rfl]
    · have hne : ¬ nI j = nI i := fun h => hij ((nI_eq (by omega) (by omega)).mp h)
      have hno : ¬ nI j = (if opens = 0 then -2 else nI i) := by
        by_cases h2 : opens = 0
        · rw [if_pos h2]; exact (nI_neg hj).1
        · rw [if_neg h2]; exact hne
      rw [if_neg hne, if_neg hno]
      by_cases h2 : op j = 0
      · rw [if_pos h2]
        by_cases h3 : com j = 0
        · rw [if_pos h3, if_pos ((wh_iff _ _).mpr (Or.inl h3))]
        · rw [if_neg h3, if_neg (fun h => ((wh_iff _ _).mp h).elim h3 (fun q => q h2))]
      · rw [if_neg h2, if_pos ((wh_iff _ _).mpr (Or.inr h2))]
theorem sd_d {op : Nat → Int32} {dig num : Nat → Int64} (hI : ∀ j, j < 12 → ¬ op j = 0 → dig j = f_dig (nI j) (num j)) (s0 : Int64) : g_sd (h_c (-2) op) dig (v_c (-2) 0 num) s0 12 = g_sd (h_m (-1) 0 op) (d_m (-1) 0 num) (v_m (-1) 0 num) s0 12 := by
  refine cg_sd s0 (fun j hj => ?_) 12 (by omega)
  unfold h_c h_m d_m v_c v_m
  rw [if_neg (nI_neg hj).1, if_neg (nI_neg hj).2, if_neg (nI_neg hj).1, if_neg (nI_neg hj).2]
  by_cases h : op j = 0
  · rw [if_pos h, h]
    exact ⟨Iff.rfl, fun q => absurd rfl q⟩
  · rw [if_neg h]
    exact ⟨⟨fun q => absurd q (by decide), fun q => absurd q h⟩, fun _ => ⟨hI j hj h, rfl⟩⟩
theorem sd_w {op : Nat → Int32} {dig num : Nat → Int64} {opens : Int32} {i : Nat} {number : Int64} (hi : i < 12) (ho : op i = 0) (hI : ∀ j, j < 12 → ¬ op j = 0 → dig j = f_dig (nI j) (num j)) (hd : ¬ opens = 0 → dig i = f_dig (nI i) number) (s0 : Int64) :
    g_sd (h_c (if opens = 0 then -2 else nI i) op) dig (v_c (if opens = 0 then -2 else nI i) number num) s0 12 = g_sd (h_m (nI i) opens op) (d_m (nI i) number num) (v_m (nI i) number num) s0 12 := by
  refine cg_sd s0 (fun j hj => ?_) 12 (by omega)
  unfold h_c h_m d_m v_c v_m
  by_cases hij : j = i
  · subst hij
    rw [if_pos ho, if_pos rfl, if_pos rfl]
    by_cases h2 : opens = 0
    · rw [if_pos h2, if_neg (nI_neg hj).1, h2]
      exact ⟨Iff.rfl, fun q => absurd rfl q⟩
    · rw [if_neg h2, if_pos rfl]
      exact ⟨⟨fun q => absurd q (by decide), fun q => absurd q h2⟩, fun _ => ⟨hd h2, if_pos rfl⟩⟩
  · have hne : ¬ nI j = nI i := fun h => hij ((nI_eq (by omega) (by omega)).mp h)
    have hno : ¬ nI j = (if opens = 0 then -2 else nI i) := by
      by_cases h2 : opens = 0
      · rw [if_pos h2]; exact (nI_neg hj).1
      · rw [if_neg h2]; exact hne
    rw [if_neg hno, if_neg hne, if_neg hne, if_neg hno]
    by_cases h : op j = 0
    · rw [if_pos h, h]
      exact ⟨Iff.rfl, fun q => absurd rfl q⟩
    · rw [if_neg h]
      exact ⟨⟨fun q => absurd q (by decide), fun q => absurd q h⟩, fun _ => ⟨hI j hj h, rfl⟩⟩
theorem cn_N (f : Nat → Int32) : ∀ k, k ≤ 12 → ∃ c : Nat, c ≤ k ∧ f_cn f k = nI c ∧ (c = 0 → ∀ j, j < k → f j = 0) := by
  intro k
  induction k with
  | zero => intro _; exact ⟨0, by omega, rfl, fun _ j hj => by omega⟩
  | succ k ih =>
    intro hk
    obtain ⟨c, h1, h2, h3⟩ := ih (by omega)
    rw [f_cn]
    by_cases he : f k = 0
    · rw [if_pos he]
      refine ⟨c, by omega, h2, fun h0 j hj => ?_⟩
      rcases Nat.lt_or_ge j k with q | q
      · exact h3 h0 j q
      · obtain rfl : j = k := by omega
        exact he
    · rw [if_neg he]
      exact ⟨c + 1, by omega, by rw [h2, nI_1], fun h0 => by omega⟩
theorem cn_0 {f : Nat → Int32} (h : f_cn f 12 = 0) : ∀ j, j < 12 → f j = 0 := by
  obtain ⟨c, h1, h2, h3⟩ := cn_N f 12 (by omega)
  rw [h2] at h
  have : c = 0 := (nI_eq (b := 0) (by omega) (by omega)).mp h
  exact h3 this
theorem cn_le {f : Nat → Int32} (h : f_cn f 12 ≤ 0) : f_cn f 12 = 0 := by
  obtain ⟨c, h1, h2, h3⟩ := cn_N f 12 (by omega)
  rw [h2] at h ⊢
  have : c ≤ 0 := (nI_leI (b := 0) (by omega) (by omega)).mp h
  obtain rfl : c = 0 := by omega
  rfl
theorem sum_P {el nw : Nat → Int32} (hw : ∀ j : Nat, j < 12 → ¬ el j = 0 → 0 < nw j ∧ nw j ≤ 1000) : ∀ k : Nat, k ≤ 12 → ∃ S : Nat, S ≤ 1000 * k ∧ g_sum (g_w el nw) k = nI S ∧ (S = 0 → ∀ j, j < k → el j = 0) := by
  intro k
  induction k with
  | zero => intro _; exact ⟨0, by omega, rfl, fun _ j hj => by omega⟩
  | succ k ih =>
    intro hk
    obtain ⟨S, h1, h2, h3⟩ := ih (by omega)
    by_cases he : el k = 0
    · refine ⟨S, by omega, by rw [g_sum, gw_0 he, h2]; exact Int32.add_zero _, fun h0 j hj => ?_⟩
      rcases Nat.lt_or_ge j k with q | q
      · exact h3 h0 j q
      · obtain rfl : j = k := by omega
        exact he
    · obtain ⟨p1, p2⟩ := hw k (by omega) he
      obtain ⟨a, q1, q2⟩ := nI_of2 (x := nw k) (M := 1000) (n := 1000) rfl (i32_not (by
          rw [Int32.lt_iff_toInt_lt] at p1
          rw [Int32.le_iff_toInt_le]
          omega)) p2
      have ha : 0 < a := by
        rcases Nat.eq_zero_or_pos a with z | z
        · rw [q2, z] at p1; exact absurd p1 (by decide)
        · exact z
      exact ⟨S + a, by omega, by rw [g_sum, gw_e he, h2, q2, nI_add], fun h0 => by omega⟩
theorem fit_of {el nw : Nat → Int32} (el0 : Nat → Int32) (hw : ∀ j : Nat, j < 12 → ¬ el j = 0 → 0 < nw j ∧ nw j ≤ 1000) (hc : ¬ f_cn el 12 = 0) : g_fit (mx 12 el el0) nw (g_sum (g_w el nw) 12) := by
  refine ⟨fun j hj h => hw j hj (by rw [mx_lo _ _ hj] at h; exact h), ?_, ?_⟩
  · obtain ⟨S, h1, h2, h3⟩ := sum_P hw 12 (by omega)
    rw [h2]
    refine nI_lt (a := 0) ?_ (by omega)
    rcases Nat.eq_zero_or_pos S with z | z
    · have h0 := h3 z
      exact absurd (by rw [cg_cn (w' := f_0) h0 12 (by omega)]; rfl) hc
    · exact z
  · exact cg_sum (fun j hj => by unfold g_w; rw [mx_lo _ _ hj]) 12 (by omega)
theorem gw_mx {el el' nw : Nat → Int32} (el0 ew : Nat → Int32) (h : ∀ j, j < 12 → el j = el' j) : ∀ j, j < 12 → mx 12 (g_w el nw) ew j = g_w (mx 12 el' el0) nw j := by
  intro j hj
  rw [mx_lo _ _ hj]
  unfold g_w
  rw [mx_lo _ _ hj, h j hj]
theorem gw_c {el el' nw : Nat → Int32} (h : ∀ j, j < 12 → el j = el' j) : ∀ j, j < 12 → g_w el nw j = g_w el' nw j := by
  intro j hj
  unfold g_w
  rw [h j hj]
/-! ===== a row of nobody ===== -/
theorem w0_mo {w wa : Nat → Int32} (h : ∀ j, j < 12 → w j = 0) (x : Int64) : ∀ k, k ≤ 12 → g_mo w wa x k = (-2, x) := by
  intro k
  induction k with
  | zero => intro _; rfl
  | succ k ih => intro hk; rw [g_mo, h k (by omega), if_pos (by decide), ih (by omega)]
theorem w0_sl {w : Nat → Int32} (h : ∀ j, j < 12 → w j = 0) : ∀ k, k ≤ 12 → g_sl w k = 0 := by
  intro k
  induction k with
  | zero => intro _; rfl
  | succ k ih => intro hk; rw [g_sl, h k (by omega), ih (by omega)]; rfl
theorem w0_hk {w : Nat → Int32} (h : ∀ j, j < 12 → w j = 0) : ∀ n k, k + n = 12 → g_hk w 0 n k = -2 := by
  intro n
  induction n with
  | zero => intro k _; rfl
  | succ n ih => intro k hk; rw [g_hk, h k (by omega), w0_sl h k (by omega), if_pos (by decide), ih (k + 1) (by omega)]
theorem w0_who {w wa : Nat → Int32} (h : ∀ j, j < 12 → w j = 0) (fac : Int32) (s : Int64) (n : Nat) : g_who w wa fac 0 s n = -2 := by
  have e : g_od w wa fac 0 = -2 := by
    unfold g_od
    rw [w0_mo h _ 12 (by omega), ite_self]
  unfold g_who
  rw [if_pos e]
  unfold f_rem
  rw [if_neg (by decide)]
  exact w0_hk h 12 0 rfl
theorem w0_cl {w : Nat → Int32} (h : ∀ j, j < 12 → w j = 0) (fac : Int32) (s : Int64) (wa : Nat → Int32) {j : Nat} (hj : j < 12) : ∀ t, g_cl (g_L w fac 0 s wa) (nI j) t = 0 := by
  intro t
  induction t with
  | zero => rfl
  | succ t ih =>
    rw [g_cl, ih]
    have e : g_L w fac 0 s wa t = -2 := w0_who h fac _ _
    rw [e, if_neg (fun q => (nI_neg hj).1 q.symm)]
theorem w0_sum {w : Nat → Int32} (h : ∀ j, j < 12 → w j = 0) : g_sum w 12 = 0 := by
  rw [cg_sum (w' := f_0) h 12 (by omega)]; rfl
