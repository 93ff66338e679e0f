theorem isN_in (n : Int32) : f_in n.toInt64 0 11 = f_isN n := by
  unfold f_isN
  by_cases h1 : n < 0
  · rw [if_pos h1]; exact in_lo 0 rfl h1
  · rw [if_neg h1]
    by_cases h2 : 12 ≤ n
    · rw [if_pos h2]; exact in_hi 11 rfl (hi_of h2)
    · rw [if_neg h2]
      unfold f_in
      rw [if_neg (show ¬ n.toInt64 < 0 from fun h => h1 (i32_l (y := 0) |>.mp h)), if_neg (show ¬ 11 < n.toInt64 from fun h => i32_not (ok_of h2) (i32_l (x := 11) |>.mp h))]
theorem isL_in (n : Int32) : f_in n.toInt64 1 60 = f_isL n := by
  unfold f_isL
  by_cases h1 : n < 1
  · rw [if_pos h1]; exact in_lo 1 rfl h1
  · rw [if_neg h1]
    by_cases h2 : 60 < n
    · rw [if_pos h2]; exact in_hi 60 rfl (fun h => i32_not h h2)
    · rw [if_neg h2]
      unfold f_in
      rw [if_neg (show ¬ n.toInt64 < 1 from fun h => h1 (i32_l (y := 1) |>.mp h)), if_neg (show ¬ 60 < n.toInt64 from fun h => h2 (i32_l (x := 60) |>.mp h))]
theorem in_idx {w : Int32} (n : Nat) (hn : n < 1000) {U : Int64} (hU : U = (nI n).toInt64) (h : ¬ f_in w.toInt64 0 U = 0) : ∃ j : Nat, j < n + 1 ∧ w = nI j := by
  rcases pk_ix w (n := n + 1) (by omega) with h1 | h1 | h1
  · exact absurd (in_lo 0 rfl h1) h
  · refine absurd (in_hi (nI n) hU (fun h2 => ?_)) h
    have h3 := Int32.le_iff_toInt_le.mp h1
    have h4 := Int32.le_iff_toInt_le.mp h2
    rw [nI_toInt (by omega)] at h3 h4
    omega
  · exact h1
theorem in_sub {w : Int32} (lo n : Nat) (hn : lo + n < 900) {L U : Int64} (hL : L = (nI lo).toInt64) (hU : U = (nI (lo + n)).toInt64) (h : ¬ f_in w.toInt64 L U = 0) : ∃ j : Nat, j < n + 1 ∧ w - nI lo = nI j := by
  obtain ⟨j, h1, _, h3⟩ := sub_in (x := w) lo (n + 1) (by omega) (fun h1 => h (in_lo (nI lo) hL h1)) (fun h1 => h (in_hi (nI (lo + n)) hU (fun h2 => by
    have h3 := Int32.le_iff_toInt_le.mp h1
    have h4 := Int32.le_iff_toInt_le.mp h2
    rw [nI_toInt (by omega)] at h3 h4
    omega)))
  exact ⟨j, h1, h3⟩
theorem f_cn_s (f : Nat → Int32) (k : Nat) : f_cn f (k + 1) = f_cn f k + (if f k = 0 then 0 else 1) := by
  rw [f_cn]
  by_cases h : f k = 0
  · rw [if_pos h, if_pos h, Int32.add_zero]
  · rw [if_neg h, if_neg h]
def f_sel (o : Int32) (a b : Nat → Int32) : Nat → Int32 := fun k => if o = 0 then a k else b k
theorem f_sel0 (a b : Nat → Int32) : f_sel 0 a b = a := funext fun _ => if_pos rfl
theorem f_sel1 (a b : Nat → Int32) : f_sel 1 a b = b := funext fun _ => if_neg (by decide)
theorem wh_0 {a b : Int32} (h : a = 0) : f_wh a b = 0 := if_pos h
theorem wh_1 {a b : Int32} (h : ¬ b = 0) : f_wh a b = 0 := by unfold f_wh; rw [if_neg h, ite_self]
theorem wh_2 {a b : Int32} (h : ¬ a = 0) (h2 : b = 0) : ¬ f_wh a b = 0 := by unfold f_wh; rw [if_neg h, if_pos h2]; decide
theorem at_o {k len : Int32} (f : Nat → Int32) (h : ¬ k < len) : f_at k len f = -2 := by
  unfold f_at
  rw [if_pos (i32_nlt h), ite_self]
theorem at_ix {k : Int32} {T : Nat} (hT : T < 2 ^ 31) (h0 : 0 ≤ k) (h1 : k < nI T) : ∃ j : Nat, j < T ∧ k = nI j := by
  rcases pk_ix k hT with h3 | h3 | h3
  · exact absurd h3 (i32_not h0)
  · exact absurd h1 (i32_not h3)
  · exact h3
theorem q60 {q : Nat} (hq : q ≤ 60) (h : nI q = 60) : ¬ q < 60 := by
  have h2 : q = 60 := (nI_eq (by omega) (by decide)).mp h
  omega
theorem q60' {q : Nat} (hq : q ≤ 60) (h : ¬ nI q = 60) : q < 60 := by
  rcases Nat.lt_or_ge q 60 with h1 | h1
  · exact h1
  · obtain rfl : q = 60 := by omega
    exact absurd rfl h
theorem minM {q T : Nat} (hq : q ≤ 60) (hT : T ≤ 60) : (if nI T ≤ nI q then nI T else nI q) = nI (min q T) := by
  by_cases h : T ≤ q
  · rw [if_pos (nI_le h (by omega)), Nat.min_eq_right h]
  · rw [if_neg (nI_ge (by omega) (by omega)), Nat.min_eq_left (by omega)]
def f_dn (B c : Nat) : Int32 := nI (B - c) - 1
theorem f_dn0 (B : Nat) : nI B - 1 = f_dn B 0 := rfl
theorem f_dnB (B : Nat) : f_dn B B < 0 := by unfold f_dn; rw [Nat.sub_self]; decide
theorem f_dne {B c : Nat} (h : c < B) : f_dn B c = nI (B - c - 1) := by
  unfold f_dn
  have e : B - c = (B - c - 1) + 1 := by omega
  rw [e, nI_pred]
  congr 1
theorem f_dns {B c : Nat} (h : c < B) : f_dn B c + (-1) = f_dn B (c + 1) := by
  rw [f_dne h]
  unfold f_dn
  rw [Int32.sub_eq_add_neg]
  congr 2
theorem f_dnp {B c : Nat} (h : c < B) (hB : B ≤ 60) : ¬ f_dn B c < 0 := by rw [f_dne h]; exact nI_pos (by omega)
theorem fu_dn {a b : Nat → Int32} {d : Int32} {B c : Nat} (h : c < B) : (if a (B - c - 1) = b (B - c - 1) then g_fu a b d c (B - c) else f_dn B c) = g_fu a b d (c + 1) (B - (c + 1)) := by
  rw [g_fu, f_dne h]
  have e1 : B - (c + 1) = B - c - 1 := by omega
  have e2 : B - (c + 1) + 1 = B - c := by omega
  rw [e2, e1]
def g_now (phase x : Int32) : Int32 := if phase ≤ 0 then 0 else x
theorem now_e (phase x : Int32) : (if (if phase ≤ 0 then (0 : Int32) else 1) = 0 then (0 : Int32) else if x = 0 then 0 else 1) = (if g_now phase x = 0 then 0 else 1) := by
  unfold g_now
  by_cases h : phase ≤ 0
  · simp only [if_pos h, if_pos]
  · simp only [if_neg h]
    rw [if_neg (by decide)]
theorem tell_o {what a0 a1 a2 a3 a4 a5 a6 a7 a8 : Int32} (h : f_in what.toInt64 0 8 = 0) : f_tell what a0 a1 a2 a3 a4 a5 a6 a7 a8 = -1 := by
  have q : ∀ j : Nat, j ≤ 8 → ¬ what = nI j := by
    intro j hj e
    subst e
    refine in_ok (w := nI j) 0 8 (L := 0) (U := 8) rfl rfl (nI_pos (by omega)) (nI_le (b := 8) hj (by decide)) h
  unfold f_tell
  rw [if_neg (show ¬ what = 0 from q 0 (by decide)), if_neg (show ¬ what = 1 from q 1 (by decide)), if_neg (show ¬ what = 2 from q 2 (by decide)), if_neg (show ¬ what = 3 from q 3 (by decide)), if_neg (show ¬ what = 4 from q 4 (by decide)), if_neg (show ¬ what = 5 from q 5 (by decide)), if_neg (show ¬ what = 6 from q 6 (by decide)), if_neg (show ¬ what = 7 from q 7 (by decide)), if_neg (show ¬ what = 8 from q 8 (by decide))]
theorem tell_8 {what : Int32} (h : ¬ f_in what.toInt64 0 8 = 0) (q : ∀ j : Nat, j < 8 → ¬ what = nI j) : what = 8 := by
  obtain ⟨j, hj, e⟩ := in_idx 8 (by decide) rfl h
  rcases Nat.lt_or_ge j 8 with h1 | h1
  · exact absurd e (q j h1)
  · obtain rfl : j = 8 := by omega
    exact e
theorem max_m (a b : Int32) : (if a ≤ b then b else a) = f_max a b := by
  unfold f_max
  by_cases h : a < b
  · rw [if_pos h, if_pos (by rw [Int32.le_iff_toInt_le]; have := Int32.lt_iff_toInt_lt.mp h; omega)]
  · rw [if_neg h]
    by_cases h2 : a ≤ b
    · rw [if_pos h2]
      apply Int32.toInt_inj.mp
      have h3 := Int32.le_iff_toInt_le.mp h2
      have h4 := Int32.le_iff_toInt_le.mp (i32_nlt h)
      omega
    · rw [if_neg h2]
theorem turn_e {x T : Nat} (hx : x < T) (hT : T ≤ 60) (h : nI x + 1 = nI T) : ¬ x + 1 < T := by
  rw [nI_1] at h
  have := (nI_eq (by omega) (by omega)).mp h
  omega
theorem turn_n {x T : Nat} (hx : x < T) (hT : T ≤ 60) (h : ¬ nI x + 1 = nI T) : x + 1 < T := by
  rw [nI_1] at h
  rcases Nat.lt_or_ge (x + 1) T with h1 | h1
  · exact h1
  · exact absurd (by rw [show x + 1 = T by omega]) h
theorem mx_mx {α : Type} (k : Nat) (a b c : Nat → α) : mx k (mx k a b) c = mx k a c := by
  funext j
  unfold mx
  by_cases h : j < k
  · rw [if_pos h, if_pos h, if_pos h]
  · rw [if_neg h, if_neg h]
def h_m (but opens : Int32) (hasOp : Nat → Int32) : Nat → Int32 := fun k => if nI k = but then opens else hasOp k
def v_m (but : Int32) (number : Int64) (opened : Nat → Int64) : Nat → Int64 := fun k => if nI k = but then number else opened k
def d_m (but : Int32) (number : Int64) (opened : Nat → Int64) : Nat → Int64 := fun k => f_dig (nI k) (v_m but number opened k)
def e_m (but opens : Int32) (isMem hasCom hasOp : Nat → Int32) : Nat → Int32 := fun k => if isMem k = 0 then 0 else if h_m but opens hasOp k = 0 then if hasCom k = 0 then 1 else 0 else 1
def f_rest (w : Int64) : Int64 :=
  let a := 9223372036854775807 - 9223372036854775807 / w * w
  let b := (a + 1) - (a + 1) / w * w
  b * 2 - b * 2 / w * w
def f_um (t z : Int64) : Int32 := if t = 0 then 1 else if (-t) ^^^ (-9223372036854775808) ≤ z ^^^ (-9223372036854775808) then 0 else 1
def g_is (elects weight waits : Nat → Int32) (fac sum : Int32) (k : Nat) : Int32 := if elects k = 0 then 0 else if fac ≤ 0 then 0 else if (waits k).toInt64 * (weight k).toInt64 < fac.toInt64 * sum.toInt64 then 0 else 1
def g_mf (elects weight waits : Nat → Int32) (fac sum : Int32) : Nat → Int32
  | 0 => -1
  | k + 1 => if g_is elects weight waits fac sum k = 0 then g_mf elects weight waits fac sum k else if g_mf elects weight waits fac sum k < 0 then nI k else if (waits k).toInt64 * (weight k).toInt64 ≤ (waits (g_mf elects weight waits fac sum k).toNatClampNeg).toInt64 * (weight (g_mf elects weight waits fac sum k).toNatClampNeg).toInt64 then g_mf elects weight waits fac sum k else nI k
theorem g_mf_in (elects weight waits : Nat → Int32) (fac sum : Int32) (k : Nat) : g_mf elects weight waits fac sum k = -1 ∨ ∃ f : Nat, f < k ∧ g_mf elects weight waits fac sum k = nI f := by
  induction k with
  | zero => exact Or.inl rfl
  | succ k ih =>
    have ih2 : g_mf elects weight waits fac sum k = -1 ∨ ∃ f : Nat, f < k + 1 ∧ g_mf elects weight waits fac sum k = nI f := by
      rcases ih with h | ⟨f, h1, h2⟩
      · exact Or.inl h
      · exact Or.inr ⟨f, by omega, h2⟩
    rw [g_mf]
    split
    · exact ih2
    · split
      · exact Or.inr ⟨k, by omega, rfl⟩
      · split
        · exact ih2
        · exact Or.inr ⟨k, by omega, rfl⟩
theorem mf_lt {elects weight waits : Nat → Int32} {fac sum : Int32} {k : Nat} (hk : k ≤ 12) (h : ¬ g_mf elects weight waits fac sum k < 0) : (g_mf elects weight waits fac sum k).toNatClampNeg < 12 := by
  rcases g_mf_in elects weight waits fac sum k with h1 | ⟨f, h1, h2⟩
  · rw [h1] at h; exact absurd (by decide) h
  · rw [h2, nI_clamp (by omega)]; omega
theorem mf_eq {elects weight waits : Nat → Int32} {fac sum : Int32} {k : Nat} (hk : k ≤ 12) (h : ¬ g_mf elects weight waits fac sum k < 0) : g_mf elects weight waits fac sum k = nI (g_mf elects weight waits fac sum k).toNatClampNeg := by
  rcases g_mf_in elects weight waits fac sum k with h1 | ⟨f, h1, h2⟩
  · rw [h1] at h; exact absurd (by decide) h
  · rw [h2, nI_clamp (by omega)]
def g_sa (elects weight : Nat → Int32) : Nat → Int64
  | 0 => 0
  | k + 1 => g_sa elects weight k + (if elects k = 0 then 0 else (weight k).toInt64)
def g_ea (elects weight : Nat → Int32) (r : Int64) : Nat → Nat → Int32
  | 0, _ => -1
  | n + 1, k => if elects k = 0 then g_ea elects weight r n (k + 1) else if g_sa elects weight (k + 1) ≤ r then g_ea elects weight r n (k + 1) else nI k
theorem k_X4_isN (l : Launch) (n : Int32) : ww_SI l yX4_isNode wsX4_isNode (ww_rm 1 25) [.int n] (f_isN n) := by
  rw [← isN_in]
  exact k_X4_isNode l n
theorem g_depE {more held : Int64} (h0 : 0 ≤ held) (h1 : held ≤ 1000000000000) : g_dep more held = 0 ↔ (f_in more (-1000000000000) 1000000000000 = 0 ∨ f_in (held + more) 0 1000000000000 = 0) := by
  have a0 : (0 : Int64).toInt = 0 := rfl
  have a1 : (1000000000000 : Int64).toInt = 1000000000000 := rfl
  have a2 : (-1000000000000 : Int64).toInt = -1000000000000 := rfl
  have b0 := Int64.le_iff_toInt_le.mp h0
  have b1 := Int64.le_iff_toInt_le.mp h1
  rw [a0] at b0
  rw [a1] at b1
  have c1 : (-held).toInt = -held.toInt := by
    rw [Int64.toInt_neg]
    exact Int.bmod_eq_of_le (by omega) (by omega)
  have c2 : (1000000000000 - held).toInt = 1000000000000 - held.toInt := by
    rw [Int64.toInt_sub, a1]
    exact Int.bmod_eq_of_le (by omega) (by omega)
  have e1 : (1 : Int32) ≠ 0 := by decide
  unfold g_dep f_in
  by_cases p1 : more < -1000000000000
  · have q1 := Int64.lt_iff_toInt_lt.mp p1
    rw [if_pos p1, if_pos (show more < -held by rw [Int64.lt_iff_toInt_lt]; omega)]
    simp
  · rw [if_neg p1]
    have q1 : ¬ more.toInt < -1000000000000 := fun h => p1 (Int64.lt_iff_toInt_lt.mpr (by rw [a2]; exact h))
    by_cases p2 : 1000000000000 < more
    · have q2 := Int64.lt_iff_toInt_lt.mp p2
      rw [if_pos p2, if_neg (show ¬ more < -held by rw [Int64.lt_iff_toInt_lt]; omega), if_neg (show ¬ more ≤ 1000000000000 - held by rw [Int64.le_iff_toInt_le]; omega)]
      simp
    · rw [if_neg p2]
      have q2 : ¬ 1000000000000 < more.toInt := fun h => p2 (Int64.lt_iff_toInt_lt.mpr (by rw [a1]; exact h))
      have c3 : (held + more).toInt = held.toInt + more.toInt := by
        rw [Int64.toInt_add]
        exact Int.bmod_eq_of_le (by omega) (by omega)
      by_cases p3 : held + more < 0
      · have q3 := Int64.lt_iff_toInt_lt.mp p3
        rw [if_pos p3, if_pos (show more < -held by rw [Int64.lt_iff_toInt_lt]; omega)]
        simp
      · rw [if_neg p3]
        have q3 : ¬ (held + more).toInt < 0 := fun h => p3 (Int64.lt_iff_toInt_lt.mpr (by rw [a0]; exact h))
        rw [if_neg (show ¬ more < -held by rw [Int64.lt_iff_toInt_lt]; omega)]
        by_cases p4 : 1000000000000 < held + more
        · have q4 := Int64.lt_iff_toInt_lt.mp p4
          rw [if_pos p4, if_neg (show ¬ more ≤ 1000000000000 - held by rw [Int64.le_iff_toInt_le]; omega)]
          simp
        · have q4 : ¬ 1000000000000 < (held + more).toInt := fun h => p4 (Int64.lt_iff_toInt_lt.mpr (by rw [a1]; exact h))
          rw [if_neg p4, if_pos (show more ≤ 1000000000000 - held by rw [Int64.le_iff_toInt_le]; omega)]
          simp
