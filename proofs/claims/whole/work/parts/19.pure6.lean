/-- what a row can be drawn from: the electors have weights, W is their sum -/
def g_fit (elects weight : Nat → Int32) (sum : Int32) : Prop := (∀ j : Nat, j < 12 → ¬ elects j = 0 → 0 < weight j ∧ weight j ≤ 1000) ∧ 0 < sum ∧ sum = g_sum (g_w elects weight) 12
theorem e_mS {but opens : Int32} {isMem hasCom hasOp weight : Nat → Int32} {k : Nat} (h : e_m but opens isMem hasCom hasOp k = 0) : g_sum (g_w (e_m but opens isMem hasCom hasOp) weight) k = g_sum (g_w (e_m but opens isMem hasCom hasOp) weight) (k + 1) := by
  rw [g_sum, g_w, if_pos h, Int32.add_zero]
theorem e_mT {but opens : Int32} {isMem hasCom hasOp weight : Nat → Int32} {k : Nat} (h : ¬ e_m but opens isMem hasCom hasOp k = 0) : g_sum (g_w (e_m but opens isMem hasCom hasOp) weight) k + weight k = g_sum (g_w (e_m but opens isMem hasCom hasOp) weight) (k + 1) := by
  rw [g_sum]
  congr 1
  exact (if_neg h).symm
theorem cn_p {f : Nat → Int32} {k : Nat} (h : f k = 0) : f_cn f k = f_cn f (k + 1) := by rw [f_cn, if_pos h]
theorem cn_n {f : Nat → Int32} {k : Nat} (h : ¬ f k = 0) : f_cn f k + 1 = f_cn f (k + 1) := by rw [f_cn, if_neg h]
theorem sd_p {has : Nat → Int32} {dg vv : Nat → Int64} {s0 : Int64} {k : Nat} (h : has k = 0) : g_sd has dg vv s0 k = g_sd has dg vv s0 (k + 1) := by rw [g_sd, if_pos h]
theorem sd_n {has : Nat → Int32} {dg vv : Nat → Int64} {s0 : Int64} {k : Nat} (h : ¬ has k = 0) : f_mix (g_sd has dg vv s0 k ^^^ dg k ^^^ vv k) = g_sd has dg vv s0 (k + 1) := by rw [g_sd, if_neg h]
theorem ix_e {f : Nat → Int32} {k : Nat} {v : Int32} {b : Nat → Int32} (h : upd f k v k = 0) (e : v = b k) : b k = 0 := by rw [← e]; rwa [upd_s] at h
theorem ix_n {f : Nat → Int32} {k : Nat} {v : Int32} {b : Nat → Int32} (h : ¬ upd f k v k = 0) (e : v = b k) : ¬ b k = 0 := by rw [← e]; rwa [upd_s] at h
theorem od_ge {elects weight waits : Nat → Int32} {fac sum : Int32} (hF : g_fit elects weight sum) (h : 0 ≤ g_mf elects weight waits fac sum 12) : ¬ g_od (g_w elects weight) waits fac sum = -2 := sorry
theorem od_lt {elects weight waits : Nat → Int32} {fac sum : Int32} (hF : g_fit elects weight sum) (h : ¬ 0 ≤ g_mf elects weight waits fac sum 12) : g_od (g_w elects weight) waits fac sum = -2 := sorry
theorem od_who {elects weight waits : Nat → Int32} {fac sum : Int32} {s : Int64} {n : Nat} (hF : g_fit elects weight sum) (h : 0 ≤ g_mf elects weight waits fac sum 12) : g_mf elects weight waits fac sum 12 = g_who (g_w elects weight) waits fac sum s n := sorry
theorem ea_who {elects weight waits : Nat → Int32} {fac sum : Int32} {s : Int64} {n : Nat} (hF : g_fit elects weight sum) (h : ¬ 0 ≤ g_mf elects weight waits fac sum 12) : g_ea elects weight (f_ru (f_mix (sG s n)) sum.toInt64).toInt32.toInt64 12 0 = g_who (g_w elects weight) waits fac sum s n := sorry
theorem pm_e {elects weight waits : Nat → Int32} {fac sum : Int32} {s : Int64} {n m : Nat} (hF : g_fit elects weight sum) (hm : m < 12) : (if nI m = g_who (g_w elects weight) waits fac sum s n then 0 else if elects m = 0 then waits m else waits m + 1) = g_pt (g_w elects weight) waits (g_who (g_w elects weight) waits fac sum s n) m := sorry
theorem fit_rest {elects weight : Nat → Int32} {sum : Int32} (hF : g_fit elects weight sum) : f_rest sum.toInt64 = g_t sum := sorry
theorem fit_um {elects weight : Nat → Int32} {sum : Int32} (hF : g_fit elects weight sum) (z : Int64) : f_um (g_t sum) z = f_u (g_t sum) z := sorry
theorem fit_ok {elects weight : Nat → Int32} {sum : Int32} (hF : g_fit elects weight sum) (z : Int64) : g_ok (g_t sum) z (g_n (g_t sum) z) := sorry
