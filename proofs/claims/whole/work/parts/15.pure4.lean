def f_ref (node t phase com op opens : Int32) (dig number : Int64) : Int32 := if f_isN node = 0 then -1 else if f_isL t = 0 then -1 else if phase = 2 then if f_wh com op = 0 then -3 else if opens = 0 then 0 else if dig = f_dig node number then 0 else -3 else -3
def f_dref (t phase : Int32) : Int32 := if f_isL t = 0 then -1 else if phase = 2 then 0 else -3
theorem isL_ok {t : Nat} (h1 : 1 ≤ t) (h2 : t ≤ 60) : ¬ f_isL (nI t) = 0 := by
  unfold f_isL
  rw [if_neg (show ¬ nI t < 1 from nI_nlt (b := 1) h1 (by omega)), if_neg (show ¬ 60 < nI t from nI_nlt (a := 60) h2 (by decide))]
  decide
theorem isN_ok {t : Nat} (h1 : t < 12) : ¬ f_isN (nI t) = 0 := by
  unfold f_isN
  rw [if_neg (nI_pos (by omega)), if_neg (show ¬ 12 ≤ nI t from nI_ge h1 (by decide))]
  decide
theorem left_e {T x : Nat} (h : x < T) : nI T - (nI x + 1) = nI (T - (x + 1)) := by
  rw [nI_1, pk_sub (by omega)]
theorem left_p {T x : Nat} (hT : T ≤ 60) (h : 0 < nI (T - (x + 1))) : x + 1 < T := by
  rcases Nat.lt_or_ge (x + 1) T with h1 | h1
  · exact h1
  · rw [show T - (x + 1) = 0 by omega] at h
    exact absurd h (by decide)
theorem left_n {T x : Nat} (hT : T ≤ 60) (h : ¬ 0 < nI (T - (x + 1))) : ¬ x + 1 < T := fun h1 => h (nI_lt (a := 0) (by omega) (by omega))
