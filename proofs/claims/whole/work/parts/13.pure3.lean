def g_sd (has : Nat → Int32) (dg vv : Nat → Int64) (s0 : Int64) : Nat → Int64
  | 0 => s0
  | k + 1 => if has k = 0 then g_sd has dg vv s0 k else f_mix (g_sd has dg vv s0 k ^^^ dg k ^^^ vv k)
def h_c (op : Int32) (nop : Nat → Int32) : Nat → Int32 := fun k => if nop k = 0 then if nI k = op then 1 else 0 else 1
def v_c (op : Int32) (number : Int64) (nnum : Nat → Int64) : Nat → Int64 := fun k => if nI k = op then number else nnum k
def g_s0 (seed : Int64) (epoch : Int32) : Int64 := f_mix (seed + epoch.toInt64 * (-7046029254386353131))
theorem h_c1 {op : Int32} {nop : Nat → Int32} {k : Nat} (h : ¬ nop k = 0) : ¬ h_c op nop k = 0 := by
  unfold h_c; rw [if_neg h]; decide
theorem h_c2 {op : Int32} {nop : Nat → Int32} {k : Nat} (h : nop k = 0) (h2 : nI k = op) : ¬ h_c op nop k = 0 := by
  unfold h_c; rw [if_pos h, if_pos h2]; decide
theorem h_c3 {op : Int32} {nop : Nat → Int32} {k : Nat} (h : nop k = 0) (h2 : ¬ nI k = op) : h_c op nop k = 0 := by
  unfold h_c; rw [if_pos h, if_neg h2]
def g_e (op : Int32) (nmem ncom nop : Nat → Int32) : Nat → Int32 := fun j => if nmem j = 0 then 0 else if f_wh (ncom j) (nop j) = 0 then 1 else if nI j = op then 1 else 0
def g_w (e nw : Nat → Int32) : Nat → Int32 := fun j => if e j = 0 then 0 else nw j
def g_sum (w : Nat → Int32) : Nat → Int32
  | 0 => 0
  | k + 1 => g_sum w k + w k
def g_fin (ncom nop : Nat → Int32) (ndep : Nat → Int64) (h : Int32) : Nat → Int64 := fun j => if f_wh (ncom j) (nop j) = 0 then ndep j else ndep j - f_fine (ndep j) h
def g_fas (ncom nop nas : Nat → Int32) (to : Int32) : Nat → Int32 := fun j => if f_wh (ncom j) (nop j) = 0 then nas j else f_max (nas j) to
def g_pot (ncom nop : Nat → Int32) (ndep : Nat → Int64) (h : Int32) (pot : Int64) : Nat → Int64
  | 0 => pot
  | k + 1 => if f_wh (ncom k) (nop k) = 0 then g_pot ncom nop ndep h pot k else g_pot ncom nop ndep h pot k + f_fine (ndep k) h
def g_mo (w wa : Nat → Int32) (x0 : Int64) : Nat → Int32 × Int64
  | 0 => (-2, x0)
  | k + 1 => if w k ≤ 0 then g_mo w wa x0 k else if (wa k).toInt64 * (w k).toInt64 ≤ (g_mo w wa x0 k).2 then g_mo w wa x0 k else (nI k, (wa k).toInt64 * (w k).toInt64)
def g_od (w wa : Nat → Int32) (fac sum : Int32) : Int32 := if 0 < fac then (g_mo w wa (fac.toInt64 * sum.toInt64 - 1) 12).1 else -2
def g_sl (w : Nat → Int32) : Nat → Int64
  | 0 => 0
  | k + 1 => g_sl w k + (w k).toInt64
def g_hk (w : Nat → Int32) (r : Int64) : Nat → Nat → Int32
  | 0, _ => -2
  | n + 1, k => if g_sl w k + (w k).toInt64 ≤ r then g_hk w r n (k + 1) else nI k
def g_pt (w wa : Nat → Int32) (who : Int32) : Nat → Int32 := fun j => if w j ≤ 0 then wa j else if nI j = who then 0 else wa j + 1
def sG (s : Int64) : Nat → Int64
  | 0 => s
  | n + 1 => sG s n + (-7046029254386353131)
def f_u (t z : Int64) : Int32 := if 0 ≤ z then 1 else if -t ≤ z then 0 else 1
def g_nf (t : Int64) : Nat → Int64 → Nat
  | 0, _ => 0
  | f + 1, s => if f_u t (f_mix (s + (-7046029254386353131))) = 0 then g_nf t f (s + (-7046029254386353131)) + 1 else 1
def g_n (t s : Int64) : Nat := g_nf t 20000 s
def f_us (n j : Nat) : Int32 := if j = n then 1 else 0
def f_z (s : Int64) (j : Nat) : Int64 := if j = 0 then 0 else f_mix (sG s j)
theorem f_us_n (n : Nat) : ¬ f_us n n = 0 := by unfold f_us; rw [if_pos rfl]; decide
theorem f_us_l {n j : Nat} (h : j < n) : f_us n j = 0 := by unfold f_us; rw [if_neg (by omega)]
theorem f_z_n {n : Nat} (s : Int64) (h : 1 ≤ n) : f_z s n = f_mix (sG s n) := by unfold f_z; rw [if_neg (by omega)]
theorem f_z_s (n : Nat) (s : Int64) : f_mix (sG s n + (-7046029254386353131)) = f_z s (n + 1) := by unfold f_z; rw [if_neg (by omega)]; rfl
/-- n is the first number that is used -/
def g_ok (t s : Int64) (n : Nat) : Prop := 1 ≤ n ∧ n < 1000000 ∧ f_u t (f_mix (sG s n)) = 1 ∧ ∀ j, 1 ≤ j → j < n → f_u t (f_mix (sG s j)) = 0
theorem f_us_u {t s : Int64} {n j : Nat} (h : g_ok t s n) (hj : j < n) : f_u t (f_mix (sG s j + (-7046029254386353131))) = f_us n (j + 1) := by
  unfold f_us
  by_cases h1 : j + 1 = n
  · rw [if_pos h1]
    subst h1
    exact h.2.2.1
  · rw [if_neg h1]
    exact h.2.2.2 (j + 1) (by omega) (by omega)
def g_t (sum : Int32) : Int64 := f_rem (-sum).toInt64 sum
def g_who (w wa : Nat → Int32) (fac sum : Int32) (s : Int64) (n : Nat) : Int32 := if g_od w wa fac sum = -2 then g_hk w (f_rem (f_mix (sG s n)) sum) 12 0 else g_od w wa fac sum
def g_nn (w wa : Nat → Int32) (fac sum : Int32) (n : Nat) : Int32 := if g_od w wa fac sum = -2 then nI n else 0
def g_ns (w wa : Nat → Int32) (fac sum : Int32) (s : Int64) (n : Nat) : Int64 := if g_od w wa fac sum = -2 then sG s n else s
/-- the stream and the waits behind k turns of a row -/
def g_S (w : Nat → Int32) (fac sum : Int32) (s0 : Int64) (wa0 : Nat → Int32) : Nat → Int64 × (Nat → Int32)
  | 0 => (s0, wa0)
  | k + 1 => (g_ns w (g_S w fac sum s0 wa0 k).2 fac sum (g_S w fac sum s0 wa0 k).1 (g_n (g_t sum) (g_S w fac sum s0 wa0 k).1), mx 12 (g_pt w (g_S w fac sum s0 wa0 k).2 (g_who w (g_S w fac sum s0 wa0 k).2 fac sum (g_S w fac sum s0 wa0 k).1 (g_n (g_t sum) (g_S w fac sum s0 wa0 k).1))) (g_S w fac sum s0 wa0 k).2)
def g_L (w : Nat → Int32) (fac sum : Int32) (s0 : Int64) (wa0 : Nat → Int32) : Nat → Int32 := fun k => g_who w (g_S w fac sum s0 wa0 k).2 fac sum (g_S w fac sum s0 wa0 k).1 (g_n (g_t sum) (g_S w fac sum s0 wa0 k).1)
def g_N (w : Nat → Int32) (fac sum : Int32) (s0 : Int64) (wa0 : Nat → Int32) : Nat → Int32 := fun k => g_nn w (g_S w fac sum s0 wa0 k).2 fac sum (g_n (g_t sum) (g_S w fac sum s0 wa0 k).1)
def f_en (e : Int32) (f : Nat → Int32) : Nat → Int32
  | 0 => e
  | k + 1 => f k
def g_cl (f : Nat → Int32) (node : Int32) : Nat → Int32
  | 0 => 0
  | k + 1 => if f k = node then g_cl f node k + 1 else g_cl f node k
theorem ge_w1 {op : Int32} {nmem ncom nop nw : Nat → Int32} {k : Nat} (h : nmem k = 0) : (if (0 : Int32) = 0 then 0 else nw k) = g_w (g_e op nmem ncom nop) nw k := by
  unfold g_w g_e; simp only [if_pos h, if_pos]
theorem ge_w2 {op : Int32} {nmem ncom nop nw : Nat → Int32} {k : Nat} (h : ¬ nmem k = 0) (h2 : f_wh (ncom k) (nop k) = 0) : (if (1 : Int32) = 0 then 0 else nw k) = g_w (g_e op nmem ncom nop) nw k := by
  unfold g_w g_e; simp only [if_neg h, if_pos h2]
theorem ge_w3 {op : Int32} {nmem ncom nop nw : Nat → Int32} {k : Nat} (h : ¬ nmem k = 0) (h2 : ¬ f_wh (ncom k) (nop k) = 0) (h3 : nI k = op) : (if (1 : Int32) = 0 then 0 else nw k) = g_w (g_e op nmem ncom nop) nw k := by
  unfold g_w g_e; simp only [if_neg h, if_neg h2, if_pos h3]
theorem ge_w4 {op : Int32} {nmem ncom nop nw : Nat → Int32} {k : Nat} (h : ¬ nmem k = 0) (h2 : ¬ f_wh (ncom k) (nop k) = 0) (h3 : ¬ nI k = op) : (if (0 : Int32) = 0 then 0 else nw k) = g_w (g_e op nmem ncom nop) nw k := by
  unfold g_w g_e; simp only [if_neg h, if_neg h2, if_neg h3, if_pos]
theorem ge_c1 {op : Int32} {nmem ncom nop : Nat → Int32} {k : Nat} (h : nmem k = 0) : f_cn (g_e op nmem ncom nop) k = f_cn (g_e op nmem ncom nop) (k + 1) := by
  rw [f_cn, if_pos (by unfold g_e; rw [if_pos h])]
theorem ge_c2 {op : Int32} {nmem ncom nop : Nat → Int32} {k : Nat} (h : ¬ nmem k = 0) (h2 : f_wh (ncom k) (nop k) = 0) : f_cn (g_e op nmem ncom nop) k + 1 = f_cn (g_e op nmem ncom nop) (k + 1) := by
  rw [f_cn, if_neg (by unfold g_e; rw [if_neg h, if_pos h2]; decide)]
theorem ge_c3 {op : Int32} {nmem ncom nop : Nat → Int32} {k : Nat} (h : ¬ nmem k = 0) (h2 : ¬ f_wh (ncom k) (nop k) = 0) (h3 : nI k = op) : f_cn (g_e op nmem ncom nop) k + 1 = f_cn (g_e op nmem ncom nop) (k + 1) := by
  rw [f_cn, if_neg (by unfold g_e; rw [if_neg h, if_neg h2, if_pos h3]; decide)]
theorem ge_c4 {op : Int32} {nmem ncom nop : Nat → Int32} {k : Nat} (h : ¬ nmem k = 0) (h2 : ¬ f_wh (ncom k) (nop k) = 0) (h3 : ¬ nI k = op) : f_cn (g_e op nmem ncom nop) k = f_cn (g_e op nmem ncom nop) (k + 1) := by
  rw [f_cn, if_pos (by unfold g_e; rw [if_neg h, if_neg h2, if_neg h3])]
