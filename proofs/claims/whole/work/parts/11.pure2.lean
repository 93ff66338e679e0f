def f_cn (f : Nat → Int32) : Nat → Int32
  | 0 => 0
  | k + 1 => if f k = 0 then f_cn f k else f_cn f k + 1
def b_as (epoch : Int32) (nas : Nat → Int32) : Nat → Int32 := fun j => f_as (nas j) (epoch + 1)
def b_mem (epoch : Int32) (nas nw : Nat → Int32) (ndep : Nat → Int64) : Nat → Int32 := fun j => f_mem (f_as (nas j) (epoch + 1)) (nw j) (ndep j)
def f_0 : Nat → Int32 := fun _ => 0
theorem i32_l {x y : Int32} : x.toInt64 < y.toInt64 ↔ x < y := by
  rw [Int64.lt_iff_toInt_lt, Int32.lt_iff_toInt_lt, Int32.toInt_toInt64, Int32.toInt_toInt64]
theorem in_lo {w : Int32} (lo : Int32) {L U : Int64} (hL : L = lo.toInt64) (h : w < lo) : f_in w.toInt64 L U = 0 := by
  subst hL
  unfold f_in
  rw [if_pos (i32_l.mpr h)]
theorem i32_nle {x y : Int32} (h : ¬ x ≤ y) : y < x := by
  rw [Int32.le_iff_toInt_le] at h
  rw [Int32.lt_iff_toInt_lt]
  omega
theorem i32_nlt {x y : Int32} (h : ¬ x < y) : y ≤ x := by
  rw [Int32.lt_iff_toInt_lt] at h
  rw [Int32.le_iff_toInt_le]
  omega
theorem i64_nle {x y : Int64} (h : ¬ x ≤ y) : y < x := by
  rw [Int64.le_iff_toInt_le] at h
  rw [Int64.lt_iff_toInt_lt]
  omega
theorem i64_nlt {x y : Int64} (h : ¬ x < y) : y ≤ x := by
  rw [Int64.lt_iff_toInt_lt] at h
  rw [Int64.le_iff_toInt_le]
  omega
theorem i64_not {x y : Int64} (h : y ≤ x) : ¬ x < y := by
  rw [Int64.le_iff_toInt_le] at h
  rw [Int64.lt_iff_toInt_lt]
  omega
theorem i32_not {x y : Int32} (h : y ≤ x) : ¬ x < y := by
  rw [Int32.le_iff_toInt_le] at h
  rw [Int32.lt_iff_toInt_lt]
  omega
theorem in_hi {w : Int32} (hi : Int32) {L U : Int64} (hU : U = hi.toInt64) (h : ¬ w ≤ hi) : f_in w.toInt64 L U = 0 := by
  subst hU
  unfold f_in
  rw [if_pos (i32_l.mpr (i32_nle h)), ite_self]
theorem in_ok {w : Int32} (lo hi : Int32) {L U : Int64} (hL : L = lo.toInt64) (hU : U = hi.toInt64) (h1 : ¬ w < lo) (h2 : w ≤ hi) : ¬ f_in w.toInt64 L U = 0 := by
  subst hL; subst hU
  unfold f_in
  rw [if_neg (fun h => h1 (i32_l.mp h)), if_neg (fun h => i32_not h2 (i32_l.mp h))]
  decide
def g_dep (more held : Int64) : Int32 := if more < -held then 0 else if more ≤ 1000000000000 - held then 1 else 0
theorem g_dep0 {more held : Int64} (h : more < -held) : g_dep more held = 0 := if_pos h
theorem g_dep1 {more held : Int64} (h : ¬ more ≤ 1000000000000 - held) : g_dep more held = 0 := by
  unfold g_dep
  rw [if_neg h, ite_self]
theorem g_dep2 {more held : Int64} (h : ¬ more < -held) (h2 : more ≤ 1000000000000 - held) : ¬ g_dep more held = 0 := by
  unfold g_dep
  rw [if_neg h, if_pos h2]
  decide
def g_fu (a b : Nat → Int32) (d : Int32) : Nat → Nat → Int32
  | 0, _ => d
  | n + 1, k => if a k = b k then g_fu a b d n (k + 1) else nI k
def f_told (what phase epoch len nx sum : Int32) (terms : Nat → Int32) : Int32 := if what = 0 then phase else if what = 1 then epoch else if what = 2 then len else if what = 3 then nx else if what = 4 then sum else if f_in what.toInt64 5 8 = 0 then -1 else terms (what - 5).toNatClampNeg
def f_amt (what : Int32) (seed pot : Int64) (dep : Nat → Int64) : Int64 := if what = 0 then seed else if what = 1 then pot else if f_in what.toInt64 2 13 = 0 then 0 else dep (what - 2).toNatClampNeg
theorem sub_in {x : Int32} (lo n : Nat) (hn : lo + n < 1000) (h1 : ¬ x < nI lo) (h2 : ¬ nI (lo + n) ≤ x) : ∃ j : Nat, j < n ∧ x = nI (lo + j) ∧ x - nI lo = nI j := by
  rcases pk_ix x (n := lo + n) (by omega) with h | h | ⟨j, hj, rfl⟩
  · exact absurd (show x < nI lo by
      rw [Int32.lt_iff_toInt_lt] at h ⊢
      rw [nI_toInt (by omega)]
      have : (0 : Int32).toInt = 0 := rfl
      omega) h1
  · exact absurd h h2
  · have hlj : lo ≤ j := by
      rcases Nat.lt_or_ge j lo with q | q
      · exact absurd (nI_lt q (by omega)) h1
      · exact q
    refine ⟨j - lo, by omega, ?_, pk_sub hlj⟩
    congr 1; omega
theorem lt_of60 {q : Nat} (h : nI q < 60) (hq : q ≤ 60) : q < 60 := by
  rcases Nat.lt_or_ge q 60 with h1 | h1
  · exact h1
  · obtain rfl : q = 60 := by omega
    exact absurd h (by decide)
theorem nlt_of60 {q : Nat} (h : ¬ nI q < 60) : ¬ q < 60 := fun h1 => h (nI_lt h1 (by decide))
theorem hi_of {x a b : Int32} (h : b ≤ x) (hab : a.toInt + 1 = b.toInt := by decide) : ¬ x ≤ a := by
  rw [Int32.le_iff_toInt_le] at h ⊢
  omega
theorem ok_of {x a b : Int32} (h : ¬ b ≤ x) (hab : a.toInt + 1 = b.toInt := by decide) : x ≤ a := by
  rw [Int32.le_iff_toInt_le] at h ⊢
  omega
theorem nI_min {q T : Nat} (hq : q < 2 ^ 31) (hT : T < 2 ^ 31) : (if nI T < nI q then nI T else nI q) = nI (min q T) := by
  by_cases h : T < q
  · rw [if_pos (nI_lt h hq), Nat.min_eq_right (by omega)]
  · rw [if_neg (nI_nlt (by omega) hT), Nat.min_eq_left (by omega)]
