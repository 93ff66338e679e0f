theorem upd_s (f : Nat → Int32) (k : Nat) (x : Int32) : upd f k x k = x := if_pos rfl
theorem upd_id (f : Nat → Int32) (k : Nat) : upd f k (f k) = f := by
  funext j
  unfold upd
  by_cases h : j = k
  · rw [if_pos h, h]
  · rw [if_neg h]
theorem updL_s (f : Nat → Int64) (k : Nat) (x : Int64) : vp_updL f k x k = x := if_pos rfl
theorem updL_id (f : Nat → Int64) (k : Nat) : vp_updL f k (f k) = f := by
  funext j
  unfold vp_updL
  by_cases h : j = k
  · rw [if_pos h, h]
  · rw [if_neg h]
theorem upd_upd (f : Nat → Int32) (k : Nat) (x y : Int32) : upd (upd f k x) k y = upd f k y := by
  funext j
  unfold upd
  by_cases h : j = k
  · rw [if_pos h, if_pos h]
  · rw [if_neg h, if_neg h, if_neg h]
theorem sw_out {x : Int32} (n : Nat) (hn : n < 1000) (h : ∀ k : Nat, k ≤ n → ¬ x = nI k) : x.toInt < 0 ∨ (n : Int) < x.toInt := by
  by_cases h1 : x.toInt < 0
  · exact Or.inl h1
  · by_cases h2 : (n : Int) < x.toInt
    · exact Or.inr h2
    · exfalso
      refine h x.toInt.toNat (by omega) (Int32.toInt_inj.mp ?_)
      rw [nI_toInt (by omega)]
      omega
theorem i64_ne0 {d : Int32} (h : 0 < d) : ¬ d.toInt64 = 0 := by
  intro h2
  have h3 : (d.toInt64).toInt = 0 := by rw [h2]; rfl
  rw [Int32.toInt_toInt64] at h3
  have h4 : (0 : Int32).toInt < d.toInt := Int32.lt_iff_toInt_lt.mp h
  have h5 : (0 : Int32).toInt = 0 := rfl
  omega
def f_isN (node : Int32) : Int32 := if node < 0 then 0 else if 12 ≤ node then 0 else 1
def f_isL (t : Int32) : Int32 := if t < 1 then 0 else if 60 < t then 0 else 1
def f_in (v lo hi : Int64) : Int32 := if v < lo then 0 else if hi < v then 0 else 1
def f_mix (x : Int64) : Int64 :=
  let y := (x ^^^ (x.toUInt64 >>> ((30 : Int32).toInt64.toUInt64 &&& Int64.toUInt64 63)).toInt64) * (-4658895280553007687)
  let z := (y ^^^ (y.toUInt64 >>> ((27 : Int32).toInt64.toUInt64 &&& Int64.toUInt64 63)).toInt64) * (-7723592293110705685)
  z ^^^ (z.toUInt64 >>> ((31 : Int32).toInt64.toUInt64 &&& Int64.toUInt64 63)).toInt64
def f_dig (node : Int32) (number : Int64) : Int64 := f_mix (f_mix number + (node + 1).toInt64 * (-7046029254386353131))
def f_ru (z w : Int64) : Int64 :=
  let a := (z.toUInt64 >>> ((1 : Int32).toInt64.toUInt64 &&& Int64.toUInt64 63)).toInt64
  let b := (a - a / w * w) * 2 + (z &&& 1)
  b - b / w * w
def f_rem (z : Int64) (d : Int32) : Int64 := if 0 < d then f_ru z d.toInt64 else 0
def f_as (a ep : Int32) : Int32 := if ep ≤ a then a else 0
def f_mem (a w : Int32) (d : Int64) : Int32 := if a = 0 then if w ≤ 0 then 0 else if d ≤ 0 then 0 else 1 else 0
def f_wh (a b : Int32) : Int32 := if a = 0 then 0 else if b = 0 then 1 else 0
def f_fine (d : Int64) (h : Int32) : Int64 := d * h.toInt64 / 100
def f_max (a b : Int32) : Int32 := if a < b then b else a
def f_tell (what a0 a1 a2 a3 a4 a5 a6 a7 a8 : Int32) : Int32 := if what = 0 then a0 else if what = 1 then a1 else if what = 2 then a2 else if what = 3 then a3 else if what = 4 then a4 else if what = 5 then (if a5 = 0 then 0 else 1) else if what = 6 then (if a6 = 0 then 0 else 1) else if what = 7 then (if a7 = 0 then 0 else 1) else if what = 8 then a8 else -1
def f_has (k len : Int32) : Int32 := if k < 0 then 0 else if len ≤ k then 0 else 1
def f_at (k len : Int32) (f : Nat → Int32) : Int32 := if k < 0 then -2 else if len ≤ k then -2 else f k.toNatClampNeg
theorem f_has_in {k : Int32} {T : Nat} (hT : T < 2 ^ 31) (h : ¬ f_has k (nI T) = 0) : ∃ j : Nat, j < T ∧ k = nI j := by
  unfold f_has at h
  by_cases h1 : k < 0
  · rw [if_pos h1] at h; exact absurd rfl h
  · rw [if_neg h1] at h
    by_cases h2 : nI T ≤ k
    · rw [if_pos h2] at h; exact absurd rfl h
    · rcases pk_ix k hT with h3 | h3 | h3
      · exact absurd h3 h1
      · exact absurd h3 h2
      · exact h3
theorem f_at_in {j T : Nat} (f : Nat → Int32) (hj : j < T) (hT : T < 2 ^ 31) : f_at (nI j) (nI T) f = f j := by
  unfold f_at
  rw [if_neg (nI_pos (by omega)), if_neg (nI_ge hj hT), nI_clamp (by omega)]
theorem f_at_out {k len : Int32} (f : Nat → Int32) (h : f_has k len = 0) : f_at k len f = -2 := by
  unfold f_at
  unfold f_has at h
  by_cases h1 : k < 0
  · rw [if_pos h1]
  · rw [if_neg h1] at h ⊢
    by_cases h2 : len ≤ k
    · rw [if_pos h2]
    · rw [if_neg h2] at h; exact absurd h (by decide)
theorem f_isN_in {k : Int32} (h : ¬ f_isN k = 0) : ∃ j : Nat, j < 12 ∧ k = nI j := by
  unfold f_isN at h
  by_cases h1 : k < 0
  · rw [if_pos h1] at h; exact absurd rfl h
  · rw [if_neg h1] at h
    by_cases h2 : 12 ≤ k
    · rw [if_pos h2] at h; exact absurd rfl h
    · rcases pk_ix k (n := 12) (by decide) with h3 | h3 | h3
      · exact absurd h3 h1
      · exact absurd h3 h2
      · exact h3
