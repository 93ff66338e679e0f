/-- what a row can be drawn from: the electors have weights, W is their sum -/
def g_fit (elects weight : Nat → Int32) (sum : Int32) : Prop := (∀ j : Nat, j < 12 → ¬ elects j = 0 → 0 < weight j ∧ weight j ≤ 1000) ∧ 0 < sum ∧ sum = g_sum (g_w elects weight) 12
theorem e_mS {but opens : Int32} {isMem hasCom hasOp weight : Nat → Int32} {k : Nat} (h : e_m but opens isMem hasCom hasOp k = 0) : g_sum (g_w (e_m but opens isMem hasCom hasOp) weight) k = g_sum (g_w (e_m but opens isMem hasCom hasOp) weight) (k + 1) := by
  rw [g_sum, g_w, if_pos h, Int32.add_zero]
theorem e_mT {but opens : Int32} {isMem hasCom hasOp weight : Nat → Int32} {k : Nat} (h : ¬ e_m but opens isMem hasCom hasOp k = 0) : g_sum (g_w (e_m but opens isMem hasCom hasOp) weight) k + weight k = g_sum (g_w (e_m but opens isMem hasCom hasOp) weight) (k + 1) := by
  rw [g_sum]
  congr 1
  exact (if_neg h).symm
theorem cn_p {f : Nat → Int32} {k : Nat} (h : f k = 0) : f_cn f k = f_cn f (k + 1) := by rw [f_cn, if_pos h]
theorem cn_n {f : Nat → Int32} {k : Nat} (h : ¬ f k = 0) : f_cn f k + 1 = f_cn f (k + 1) := by rw [f_cn, if_neg h]
theorem sd_p {has : Nat → Int32} {dg vv : Nat → Int64} {s0 : Int64} {k : Nat} (h : has k = 0) : g_sd has dg vv s0 k = g_sd has dg vv s0 (k + 1) := by rw [g_sd, if_pos h]
theorem sd_n {has : Nat → Int32} {dg vv : Nat → Int64} {s0 : Int64} {k : Nat} (h : ¬ has k = 0) : f_mix (g_sd has dg vv s0 k ^^^ dg k ^^^ vv k) = g_sd has dg vv s0 (k + 1) := by rw [g_sd, if_neg h]
theorem ix_e {f : Nat → Int32} {k : Nat} {v : Int32} {b : Nat → Int32} (h : upd f k v k = 0) (e : v = b k) : b k = 0 := by rw [← e]; rwa [upd_s] at h
theorem ix_n {f : Nat → Int32} {k : Nat} {v : Int32} {b : Nat → Int32} (h : ¬ upd f k v k = 0) (e : v = b k) : ¬ b k = 0 := by rw [← e]; rwa [upd_s] at h
/-! ===== lN n to 2^64: shifts, and, or, masks, one bit ===== -/
theorem wb_tb (n : Nat) : (lN n).toBitVec = BitVec.ofNat 64 n := rfl
theorem wb_inj {a b : Int64} (h : a.toBitVec = b.toBitVec) : a = b := Int64.toBitVec_inj.mp h
theorem wb_tn {n : Nat} (h : n < 2 ^ 64) : (lN n).toBitVec.toNat = n := by rw [wb_tb, BitVec.toNat_ofNat, Nat.mod_eq_of_lt h]
theorem wb_of (x : Int64) : ∃ n, n < 2 ^ 64 ∧ x = lN n := ⟨x.toBitVec.toNat, x.toBitVec.isLt, wb_inj (by rw [wb_tb]; simp)⟩
theorem wb_of32 (x : Int32) : ∃ n, n < 2 ^ 32 ∧ x = nI n := ⟨x.toBitVec.toNat, x.toBitVec.isLt, Int32.toBitVec_inj.mp (by show _ = BitVec.ofNat 32 _; simp)⟩
theorem wb_c : ∀ k, k < 64 → ((nI k).toInt64 &&& 63) = lN k := by decide +kernel
theorem wb_cu : ∀ k, k < 64 → ((nI k).toInt64.toUInt64 &&& Int64.toUInt64 63) = UInt64.ofNat k := by decide +kernel
theorem wb_sm : ∀ k, k < 64 → (BitVec.ofNat 64 k).smod 64 = BitVec.ofNat 64 k := by decide +kernel
theorem wb_pw {a b : Nat} (h : a ≤ b) : 2 ^ b = 2 ^ a * 2 ^ (b - a) := by rw [← Nat.pow_add]; congr 1; omega
theorem wb_lt2 {a b : Nat} (h : a < b) : 2 ^ a < 2 ^ b := Nat.pow_lt_pow_right (by decide) h
theorem wb_mod (n : Nat) : lN n = lN (n % 2 ^ 64) := wb_inj (by rw [wb_tb, wb_tb]; apply BitVec.eq_of_toNat_eq; rw [BitVec.toNat_ofNat, BitVec.toNat_ofNat, Nat.mod_mod])
theorem wb_shr {n k : Nat} (hn : n < 2 ^ 64) (hk : k < 64) : ((lN n).toUInt64 >>> ((nI k).toInt64.toUInt64 &&& Int64.toUInt64 63)).toInt64 = lN (n / 2 ^ k) := by
  rw [wb_cu k hk]
  apply wb_inj
  apply BitVec.eq_of_toNat_eq
  show ((lN n).toUInt64 >>> UInt64.ofNat k).toNat = (BitVec.ofNat 64 _).toNat
  have h1 : (UInt64.ofNat k).toNat = k := by
    show (BitVec.ofNat 64 k).toNat = k
    rw [BitVec.toNat_ofNat, Nat.mod_eq_of_lt (by omega)]
  have h2 : (lN n).toUInt64.toNat = n := wb_tn hn
  rw [UInt64.toNat_shiftRight, h1, h2, Nat.mod_eq_of_lt hk, Nat.shiftRight_eq_div_pow, BitVec.toNat_ofNat, Nat.mod_eq_of_lt (Nat.lt_of_le_of_lt (Nat.div_le_self _ _) hn)]
theorem wb_shl (n : Nat) {k : Nat} (hk : k < 64) : lN n <<< ((nI k).toInt64 &&& 63) = lN (n * 2 ^ k) := by
  rw [wb_c k hk]
  apply wb_inj
  rw [Int64.toBitVec_shiftLeft, wb_tb, wb_tb, wb_tb, wb_sm k hk]
  apply BitVec.eq_of_toNat_eq
  rw [BitVec.shiftLeft_eq', BitVec.toNat_shiftLeft, BitVec.toNat_ofNat, BitVec.toNat_ofNat, BitVec.toNat_ofNat, Nat.mod_eq_of_lt (show k < 2 ^ 64 by omega), Nat.shiftLeft_eq, Nat.mul_mod, Nat.mod_mod, ← Nat.mul_mod]
theorem wb_and {a b : Nat} (ha : a < 2 ^ 64) (hb : b < 2 ^ 64) : lN a &&& lN b = lN (a &&& b) := by
  apply wb_inj
  rw [Int64.toBitVec_and, wb_tb, wb_tb, wb_tb]
  apply BitVec.eq_of_toNat_eq
  rw [BitVec.toNat_and, BitVec.toNat_ofNat, BitVec.toNat_ofNat, BitVec.toNat_ofNat, Nat.mod_eq_of_lt ha, Nat.mod_eq_of_lt hb, Nat.mod_eq_of_lt (Nat.and_lt_two_pow _ hb)]
theorem wb_or {a b : Nat} (ha : a < 2 ^ 64) (hb : b < 2 ^ 64) : lN a ||| lN b = lN (a ||| b) := by
  apply wb_inj
  rw [Int64.toBitVec_or, wb_tb, wb_tb, wb_tb]
  apply BitVec.eq_of_toNat_eq
  rw [BitVec.toNat_or, BitVec.toNat_ofNat, BitVec.toNat_ofNat, BitVec.toNat_ofNat, Nat.mod_eq_of_lt ha, Nat.mod_eq_of_lt hb, Nat.mod_eq_of_lt (Nat.or_lt_two_pow ha hb)]
theorem wb_mask {n k : Nat} (hn : n < 2 ^ 64) (hk : k < 64) : lN n &&& lN (2 ^ k - 1) = lN (n % 2 ^ k) := by
  rw [wb_and hn (by have := wb_lt2 hk; omega), Nat.and_two_pow_sub_one_eq_mod]
theorem wb_a1 {n : Nat} (hn : n < 2 ^ 64) : lN n &&& 1 = lN (n % 2) := wb_mask (k := 1) hn (by decide)
theorem wb_bit {n k : Nat} (hn : n < 2 ^ 64) (hk : k < 64) : ((lN n).toUInt64 >>> ((nI k).toInt64.toUInt64 &&& Int64.toUInt64 63)).toInt64 &&& 1 = lN (n / 2 ^ k % 2) := by
  rw [wb_shr hn hk, wb_a1 (Nat.lt_of_le_of_lt (Nat.div_le_self _ _) hn)]
theorem wb_xor {q k : Nat} (hk : k < 63) (h : 2 ^ k ≤ q) (h2 : q < 2 ^ (k + 1)) : lN q ^^^ lN (2 ^ k) = lN (q - 2 ^ k) := by
  obtain ⟨r, rfl⟩ : ∃ r, q = 2 ^ k + r := ⟨q - 2 ^ k, by omega⟩
  have hr : r < 2 ^ k := by rw [Nat.pow_succ] at h2; omega
  have hx : (2 ^ k + r) ^^^ 2 ^ k = r := by
    apply Nat.eq_of_testBit_eq
    intro i
    rw [Nat.testBit_xor, Nat.testBit_two_pow]
    rcases Nat.lt_trichotomy i k with h | h | h
    · rw [Nat.testBit_two_pow_add_gt h]
      simp [show ¬ k = i by omega]
    · subst h
      rw [Nat.testBit_two_pow_add_eq]
      simp
    · have a1 : 2 ^ (k + 1) ≤ 2 ^ i := Nat.pow_le_pow_right (by decide) h
      rw [Nat.testBit_lt_two_pow (show 2 ^ k + r < 2 ^ i by omega), Nat.testBit_lt_two_pow (show r < 2 ^ i by omega)]
      simp [show ¬ k = i by omega]
  have b1 := wb_lt2 (show k + 1 < 64 by omega)
  have b2 := wb_lt2 (show k < 64 by omega)
  apply wb_inj
  rw [Int64.toBitVec_xor, wb_tb, wb_tb, wb_tb]
  apply BitVec.eq_of_toNat_eq
  rw [BitVec.toNat_xor, BitVec.toNat_ofNat, BitVec.toNat_ofNat, BitVec.toNat_ofNat, Nat.mod_eq_of_lt (by omega : 2 ^ k + r < 2 ^ 64), Nat.mod_eq_of_lt b2, hx, Nat.add_sub_cancel_left, Nat.mod_eq_of_lt (by omega)]
/-! ===== unsigned comparison by xor with the least ===== -/
theorem lN_bv (n : Nat) : (lN n).toBitVec = BitVec.ofNat 64 n := rfl
theorem lN_nat {n : Nat} (h : n < 2 ^ 64) : (lN n).toBitVec.toNat = n := by rw [lN_bv, BitVec.toNat_ofNat]; exact Nat.mod_eq_of_lt h
theorem lN_xor (a b : Nat) : lN a ^^^ lN b = lN (a ^^^ b) := by
  apply Int64.toBitVec_inj.mp; rw [Int64.toBitVec_xor, lN_bv, lN_bv, lN_bv]; apply BitVec.eq_of_getLsbD_eq; intro i hi; simp [BitVec.getLsbD_ofNat, Nat.testBit_xor, hi]
theorem lN_ti {m : Nat} (h : m < 2 ^ 64) : (lN m).toInt = if m < 2 ^ 63 then (m : Int) else (m : Int) - 2 ^ 64 := by
  have c := BitVec.toInt_eq_toNat_cond (lN m).toBitVec
  rw [lN_nat h] at c
  show (lN m).toBitVec.toInt = _
  rw [c]
  split <;> split <;> omega
theorem xor63 {x : Nat} (h : x < 2 ^ 63) : x ^^^ 2 ^ 63 = 2 ^ 63 + x := by
  apply Nat.eq_of_testBit_eq
  intro i
  rw [Nat.testBit_xor, Nat.testBit_two_pow]
  rcases Nat.lt_trichotomy i 63 with z | z | z
  · rw [Nat.testBit_two_pow_add_gt z, decide_eq_false (by omega)]; simp
  · subst z; rw [Nat.testBit_two_pow_add_eq]; simp
  · have hp : 2 ^ 64 ≤ 2 ^ i := Nat.pow_le_pow_right (by decide) z
    rw [Nat.testBit_lt_two_pow (show x < 2 ^ i by omega), Nat.testBit_lt_two_pow (show 2 ^ 63 + x < 2 ^ i by omega), decide_eq_false (by omega)]; rfl
theorem xorS {a : Nat} (h : a < 2 ^ 64) : (lN a ^^^ (-9223372036854775808)).toInt = (a : Int) - 2 ^ 63 := by
  rw [show (-9223372036854775808 : Int64) = lN (2 ^ 63) from by decide +kernel, lN_xor]
  rcases Nat.lt_or_ge a (2 ^ 63) with z | z
  · rw [xor63 z, lN_ti (by omega), if_neg (by omega)]; omega
  · obtain ⟨x, rfl⟩ : ∃ x, a = 2 ^ 63 + x := ⟨a - 2 ^ 63, by omega⟩
    rw [← xor63 (by omega), Nat.xor_assoc, Nat.xor_self, Nat.xor_zero, lN_ti (by omega), if_pos (by omega), xor63 (by omega)]; omega
theorem ultL {a b : Nat} (ha : a < 2 ^ 64) (hb : b < 2 ^ 64) : ((lN b ^^^ (-9223372036854775808)) ≤ (lN a ^^^ (-9223372036854775808))) ↔ b ≤ a := by
  rw [Int64.le_iff_toInt_le, xorS ha, xorS hb]; omega

/-! ===== overdue: the class's search and the reference's ===== -/
theorem gw_e {elects weight : Nat → Int32} {k : Nat} (h : ¬ elects k = 0) : g_w elects weight k = weight k := if_neg h
theorem gw_0 {elects weight : Nat → Int32} {k : Nat} (h : elects k = 0) : g_w elects weight k = 0 := if_pos h
theorem i32_np {x : Int32} (h : 0 < x) : ¬ x ≤ 0 := by
  rw [Int32.lt_iff_toInt_lt] at h
  rw [Int32.le_iff_toInt_le]
  omega
theorem fs_pos {fac sum : Int32} (h1 : 0 < fac) (h2 : 0 < sum) : 0 < (fac.toInt64 * sum.toInt64).toInt := by
  have a1 := Int32.lt_iff_toInt_lt.mp h1
  have a2 := Int32.lt_iff_toInt_lt.mp h2
  have z : (0 : Int32).toInt = 0 := rfl
  rw [z] at a1 a2
  have b1 := Int32.toInt_lt fac
  have b2 := Int32.toInt_lt sum
  have c1 : 0 < fac.toInt * sum.toInt := Int.mul_pos a1 a2
  have c2 : fac.toInt * sum.toInt ≤ 2147483647 * 2147483647 := Int.mul_le_mul (by omega) (by omega) (by omega) (by omega)
  rw [Int64.toInt_mul, Int32.toInt_toInt64, Int32.toInt_toInt64, Int.bmod_eq_of_le (by omega) (by omega)]
  exact c1
theorem lt_pre {v x : Int64} (hx : 0 < x.toInt) : v ≤ x - 1 ↔ v < x := by
  have b := Int64.toInt_lt x
  have o : (1 : Int64).toInt = 1 := rfl
  rw [Int64.le_iff_toInt_le, Int64.lt_iff_toInt_lt, Int64.toInt_sub, o, Int.bmod_eq_of_le (by omega) (by omega)]
  omega
theorem mf_0 {elects weight waits : Nat → Int32} {fac sum : Int32} (h : ¬ 0 < fac) (k : Nat) : g_mf elects weight waits fac sum k = -1 := by
  have h2 : fac ≤ 0 := i32_nlt h
  induction k with
  | zero => rfl
  | succ k ih =>
    rw [g_mf]
    have e : g_is elects weight waits fac sum k = 0 := by
      unfold g_is
      by_cases h3 : elects k = 0
      · rw [if_pos h3]
      · rw [if_neg h3, if_pos h2]
    rw [if_pos e, ih]
theorem mf_mo {elects weight waits : Nat → Int32} {fac sum : Int32} (hw : ∀ j : Nat, j < 12 → ¬ elects j = 0 → 0 < weight j) (hs : 0 < sum) (hf : 0 < fac) :
    ∀ k : Nat, k ≤ 12 → (g_mf elects weight waits fac sum k = -1 ∧ g_mo (g_w elects weight) waits (fac.toInt64 * sum.toInt64 - 1) k = (-2, fac.toInt64 * sum.toInt64 - 1)) ∨ ∃ f : Nat, f < k ∧ g_mf elects weight waits fac sum k = nI f ∧ g_mo (g_w elects weight) waits (fac.toInt64 * sum.toInt64 - 1) k = (nI f, (waits f).toInt64 * (weight f).toInt64) ∧ fac.toInt64 * sum.toInt64 ≤ (waits f).toInt64 * (weight f).toInt64 ∧ ¬ elects f = 0 := by
  have hx := fs_pos hf hs
  generalize hX : fac.toInt64 * sum.toInt64 = X at hx ⊢
  intro k
  induction k with
  | zero => intro _; exact Or.inl ⟨rfl, rfl⟩
  | succ k ih =>
    intro hk
    have ih := ih (by omega)
    by_cases he : elects k = 0
    · have e1 : g_mf elects weight waits fac sum (k + 1) = g_mf elects weight waits fac sum k := by
        rw [g_mf, if_pos]
        unfold g_is
        rw [if_pos he]
      have e2 : g_mo (g_w elects weight) waits (X - 1) (k + 1) = g_mo (g_w elects weight) waits (X - 1) k := by
        rw [g_mo, gw_0 he, if_pos (by decide)]
      rw [e1, e2]
      rcases ih with h | ⟨f, h1, h2⟩
      · exact Or.inl h
      · exact Or.inr ⟨f, by omega, h2⟩
    · have hwk := i32_np (hw k (by omega) he)
      have e2 : g_mo (g_w elects weight) waits (X - 1) (k + 1) = if (waits k).toInt64 * (weight k).toInt64 ≤ (g_mo (g_w elects weight) waits (X - 1) k).2 then g_mo (g_w elects weight) waits (X - 1) k else (nI k, (waits k).toInt64 * (weight k).toInt64) := by
        rw [g_mo, gw_e he, if_neg hwk]
      have e1 : g_mf elects weight waits fac sum (k + 1) = if (waits k).toInt64 * (weight k).toInt64 < X then g_mf elects weight waits fac sum k else if g_mf elects weight waits fac sum k < 0 then nI k else if (waits k).toInt64 * (weight k).toInt64 ≤ (waits (g_mf elects weight waits fac sum k).toNatClampNeg).toInt64 * (weight (g_mf elects weight waits fac sum k).toNatClampNeg).toInt64 then g_mf elects weight waits fac sum k else nI k := by
        rw [g_mf]
        by_cases h3 : (waits k).toInt64 * (weight k).toInt64 < X
        · rw [if_pos h3, if_pos]
          unfold g_is
          rw [if_neg he, if_neg (i32_np hf), hX, if_pos h3]
        · rw [if_neg h3, if_neg]
          unfold g_is
          rw [if_neg he, if_neg (i32_np hf), hX, if_neg h3]
          decide
      rw [e1, e2]
      rcases ih with ⟨h1, h2⟩ | ⟨f, h1, h2, h3, h4, h5⟩
      · rw [h1, h2]
        by_cases h3 : (waits k).toInt64 * (weight k).toInt64 < X
        · rw [if_pos h3, if_pos ((lt_pre hx).mpr h3)]
          exact Or.inl ⟨rfl, rfl⟩
        · rw [if_neg h3, if_neg (fun h => h3 ((lt_pre hx).mp h)), if_pos (by decide)]
          exact Or.inr ⟨k, by omega, rfl, rfl, i64_nlt h3, he⟩
      · rw [h2, h3]
        have hc : (nI f).toNatClampNeg = f := nI_clamp (by omega)
        rw [hc]
        by_cases h6 : (waits k).toInt64 * (weight k).toInt64 < X
        · have h7 : (waits k).toInt64 * (weight k).toInt64 ≤ (waits f).toInt64 * (weight f).toInt64 := by
            have a := Int64.lt_iff_toInt_lt.mp h6
            have b := Int64.le_iff_toInt_le.mp h4
            rw [Int64.le_iff_toInt_le]
            omega
          rw [if_pos h6, if_pos h7]
          exact Or.inr ⟨f, by omega, rfl, rfl, h4, h5⟩
        · rw [if_neg h6, if_neg (nI_pos (by omega))]
          by_cases h7 : (waits k).toInt64 * (weight k).toInt64 ≤ (waits f).toInt64 * (weight f).toInt64
          · rw [if_pos h7, if_pos h7]
            exact Or.inr ⟨f, by omega, rfl, rfl, h4, h5⟩
          · rw [if_neg h7, if_neg h7]
            exact Or.inr ⟨k, by omega, rfl, rfl, i64_nlt h6, he⟩
theorem nI_ne2 {f : Nat} (hf : f < 2 ^ 31) : ¬ nI f = -2 := by
  intro h
  have h2 := congrArg Int32.toInt h
  rw [nI_toInt hf] at h2
  have : (-2 : Int32).toInt = -2 := rfl
  omega
theorem od_all {elects weight waits : Nat → Int32} {fac sum : Int32} (hF : g_fit elects weight sum) : (g_mf elects weight waits fac sum 12 = -1 ∧ g_od (g_w elects weight) waits fac sum = -2) ∨ ∃ f : Nat, f < 12 ∧ g_mf elects weight waits fac sum 12 = nI f ∧ g_od (g_w elects weight) waits fac sum = nI f ∧ ¬ elects f = 0 := by
  by_cases hf : 0 < fac
  · rcases mf_mo (waits := waits) (fun j h1 h2 => (hF.1 j h1 h2).1) hF.2.1 hf 12 (by omega) with ⟨h1, h2⟩ | ⟨f, h1, h2, h3, h4, h5⟩
    · refine Or.inl ⟨h1, ?_⟩
      unfold g_od
      rw [if_pos hf, h2]
    · refine Or.inr ⟨f, h1, h2, ?_, h5⟩
      unfold g_od
      rw [if_pos hf, h3]
  · refine Or.inl ⟨mf_0 hf 12, ?_⟩
    unfold g_od
    rw [if_neg hf]
theorem od_ge {elects weight waits : Nat → Int32} {fac sum : Int32} (hF : g_fit elects weight sum) (h : 0 ≤ g_mf elects weight waits fac sum 12) : ¬ g_od (g_w elects weight) waits fac sum = -2 := by
  rcases od_all (waits := waits) (fac := fac) hF with ⟨h1, h2⟩ | ⟨f, h1, h2, h3, h4⟩
  · rw [h1] at h; exact absurd h (by decide)
  · rw [h3]; exact nI_ne2 (by omega)
theorem od_lt {elects weight waits : Nat → Int32} {fac sum : Int32} (hF : g_fit elects weight sum) (h : ¬ 0 ≤ g_mf elects weight waits fac sum 12) : g_od (g_w elects weight) waits fac sum = -2 := by
  rcases od_all (waits := waits) (fac := fac) hF with ⟨h1, h2⟩ | ⟨f, h1, h2, h3, h4⟩
  · exact h2
  · rw [h2] at h; exact absurd (nI_pos' (by omega)) h
theorem od_who {elects weight waits : Nat → Int32} {fac sum : Int32} {s : Int64} {n : Nat} (hF : g_fit elects weight sum) (h : 0 ≤ g_mf elects weight waits fac sum 12) : g_mf elects weight waits fac sum 12 = g_who (g_w elects weight) waits fac sum s n := by
  unfold g_who
  rw [if_neg (od_ge hF h)]
  rcases od_all (waits := waits) (fac := fac) hF with ⟨h1, h2⟩ | ⟨f, h1, h2, h3, h4⟩
  · rw [h1] at h; exact absurd h (by decide)
  · rw [h2, h3]
/-! ===== sums, remainders ===== -/
theorem sum_N {elects weight : Nat → Int32} (hw : ∀ j : Nat, j < 12 → ¬ elects j = 0 → 0 < weight j ∧ weight j ≤ 1000) : ∀ k : Nat, k ≤ 12 → ∃ S : Nat, S ≤ 1000 * k ∧ g_sum (g_w elects weight) k = nI S ∧ g_sl (g_w elects weight) k = lN S := by
  intro k
  induction k with
  | zero => intro _; exact ⟨0, by omega, rfl, rfl⟩
  | succ k ih =>
    intro hk
    obtain ⟨S, h1, h2, h3⟩ := ih (by omega)
    have hv : ∃ a : Nat, a ≤ 1000 ∧ g_w elects weight k = nI a := by
      by_cases he : elects k = 0
      · exact ⟨0, by omega, gw_0 he⟩
      · obtain ⟨p1, p2⟩ := hw k (by omega) he
        obtain ⟨j, q1, q2⟩ := nI_of2 (x := weight k) (M := 1000) (n := 1000) rfl (i32_not (by
          rw [Int32.lt_iff_toInt_lt] at p1
          rw [Int32.le_iff_toInt_le]
          omega)) p2
        exact ⟨j, q1, by rw [gw_e he, q2]⟩
    obtain ⟨a, ha, hv⟩ := hv
    refine ⟨S + a, by omega, ?_, ?_⟩
    · rw [g_sum, h2, hv, nI_add]
    · rw [g_sl, h3, hv, nI_l (by omega), lN_add]
theorem fit_N {elects weight : Nat → Int32} {sum : Int32} (hF : g_fit elects weight sum) : ∃ S : Nat, 0 < S ∧ S ≤ 12000 ∧ sum = nI S ∧ g_sl (g_w elects weight) 12 = lN S := by
  obtain ⟨S, h1, h2, h3⟩ := sum_N hF.1 12 (by omega)
  refine ⟨S, ?_, by omega, by rw [hF.2.2, h2], h3⟩
  rcases Nat.eq_zero_or_pos S with h | h
  · have := hF.2.1
    rw [hF.2.2, h2, h] at this
    exact absurd this (by decide)
  · exact h
theorem ru_N {Z S : Nat} (hZ : Z < 2 ^ 64) (h0 : 0 < S) (hS : S ≤ 12000) : f_ru (lN Z) (lN S) = lN (Z % S) := by
  have e1 : ((lN Z).toUInt64 >>> ((1 : Int32).toInt64.toUInt64 &&& Int64.toUInt64 63)).toInt64 = lN (Z / 2) := wb_shr (k := 1) hZ (by decide)
  have e2 : lN Z &&& 1 = lN (Z % 2) := wb_a1 hZ
  have e3 : lN (Z / 2) - lN (Z / 2) / lN S * lN S = lN (Z / 2 % S) := pk_lRem (by omega) h0 (by omega)
  have hm : Z / 2 % S < S := Nat.mod_lt _ h0
  have e4 : (lN (Z / 2 % S) : Int64) * 2 = lN (Z / 2 % S * 2) := lN_mul _ 2
  unfold f_ru
  simp only [e1, e2, e3, e4, lN_add]
  rw [pk_lRem (by omega) h0 (by omega)]
  congr 1
  have e5 : (Z / 2 % S * 2 + Z % 2) % S = (Z / 2 * 2 + Z % 2) % S := by
    rw [Nat.add_mod, Nat.mul_mod, Nat.mod_mod, ← Nat.mul_mod, ← Nat.add_mod]
  rw [e5]
  congr 1
  omega
theorem neg_N {S : Nat} (h0 : 0 < S) (hS : S ≤ 12000) : (-nI S).toInt64 = lN (2 ^ 64 - S) := by
  apply Int64.toInt_inj.mp
  rw [Int32.toInt_toInt64, sb_negT (by omega), lN_ti (by omega), if_neg (by omega)]
  omega
theorem t_N {S : Nat} (h0 : 0 < S) (hS : S ≤ 12000) : g_t (nI S) = lN (2 ^ 64 % S) := by
  unfold g_t f_rem
  rw [if_pos (show 0 < nI S from nI_lt (a := 0) h0 (by omega)), neg_N h0 hS, nI_l (by omega), ru_N (by omega) h0 hS]
  congr 1
  exact (Nat.mod_eq_sub_mod (by omega)).symm
theorem rest_N {S : Nat} (h0 : 0 < S) (hS : S ≤ 12000) : f_rest (lN S) = lN (2 ^ 64 % S) := by
  have e0 : (9223372036854775807 : Int64) = lN (2 ^ 63 - 1) := by decide +kernel
  have e1 : lN (2 ^ 63 - 1) - lN (2 ^ 63 - 1) / lN S * lN S = lN ((2 ^ 63 - 1) % S) := pk_lRem (by omega) h0 (by omega)
  have m1 : (2 ^ 63 - 1) % S < S := Nat.mod_lt _ h0
  have e2 : lN ((2 ^ 63 - 1) % S) + 1 = lN ((2 ^ 63 - 1) % S + 1) := lN_1 _
  have e3 : lN ((2 ^ 63 - 1) % S + 1) - lN ((2 ^ 63 - 1) % S + 1) / lN S * lN S = lN (((2 ^ 63 - 1) % S + 1) % S) := pk_lRem (by omega) h0 (by omega)
  have m2 : ((2 ^ 63 - 1) % S + 1) % S < S := Nat.mod_lt _ h0
  have e4 : lN (((2 ^ 63 - 1) % S + 1) % S) * 2 = lN (((2 ^ 63 - 1) % S + 1) % S * 2) := lN_mul _ 2
  have e5 : lN (((2 ^ 63 - 1) % S + 1) % S * 2) - lN (((2 ^ 63 - 1) % S + 1) % S * 2) / lN S * lN S = lN (((2 ^ 63 - 1) % S + 1) % S * 2 % S) := pk_lRem (by omega) h0 (by omega)
  unfold f_rest
  simp only [e0, e1, e2, e3, e4, e5]
  congr 1
  rw [Nat.mod_add_mod, Nat.mul_mod, Nat.mod_mod, ← Nat.mul_mod]
theorem fit_rest {elects weight : Nat → Int32} {sum : Int32} (hF : g_fit elects weight sum) : f_rest sum.toInt64 = g_t sum := by
  obtain ⟨S, h0, hS, rfl, _⟩ := fit_N hF
  rw [t_N h0 hS, nI_l (by omega), rest_N h0 hS]
theorem neg_T {T : Nat} (h0 : 0 < T) (hT : T ≤ 12000) : -lN T = lN (2 ^ 64 - T) := by
  apply Int64.toInt_inj.mp
  rw [Int64.toInt_neg, lN_toInt (by omega), lN_ti (by omega), if_neg (by omega), Int.bmod_eq_of_le (by omega) (by omega)]
  omega
theorem um_N {T : Nat} (hT : T ≤ 12000) (z : Int64) : f_um (lN T) z = f_u (lN T) z := by
  obtain ⟨Z, hZ, rfl⟩ := wb_of z
  unfold f_um f_u
  have z0 : (0 : Int64).toInt = 0 := rfl
  rcases Nat.eq_zero_or_pos T with h | h
  · subst h
    rw [if_pos (show lN 0 = 0 from rfl)]
    by_cases h1 : 0 ≤ lN Z
    · rw [if_pos h1]
    · rw [if_neg h1, if_neg (show ¬ -lN 0 ≤ lN Z from h1)]
  · have hne : ¬ lN T = 0 := fun e => by
      have := congrArg Int64.toInt e
      rw [lN_toInt (by omega), z0] at this
      omega
    rw [if_neg hne, neg_T h hT]
    have q : (lN (2 ^ 64 - T) ^^^ (-9223372036854775808) ≤ lN Z ^^^ (-9223372036854775808)) ↔ 2 ^ 64 - T ≤ Z := ultL hZ (by omega)
    have r : (0 ≤ lN Z) ↔ Z < 2 ^ 63 := by
      rw [Int64.le_iff_toInt_le, z0, lN_ti hZ]
      split <;> omega
    have t : (lN (2 ^ 64 - T) ≤ lN Z) ↔ Z < 2 ^ 63 ∨ 2 ^ 64 - T ≤ Z := by
      rw [Int64.le_iff_toInt_le, lN_ti hZ, lN_ti (by omega), if_neg (by omega)]
      split <;> omega
    by_cases h1 : 2 ^ 64 - T ≤ Z
    · rw [if_pos (q.mpr h1), if_neg (fun h2 => by have := r.mp h2; omega), if_pos (t.mpr (Or.inr h1))]
    · rw [if_neg (fun h2 => h1 (q.mp h2))]
      by_cases h2 : Z < 2 ^ 63
      · rw [if_pos (r.mpr h2)]
      · rw [if_neg (fun h3 => h2 (r.mp h3)), if_neg (fun h3 => by rcases t.mp h3 with h4 | h4 <;> omega)]
theorem fit_um {elects weight : Nat → Int32} {sum : Int32} (hF : g_fit elects weight sum) (z : Int64) : f_um (g_t sum) z = f_u (g_t sum) z := by
  obtain ⟨S, h0, hS, rfl, _⟩ := fit_N hF
  rw [t_N h0 hS]
  exact um_N (by have := Nat.mod_lt (2 ^ 64) h0; omega) z
/-! ===== holder of a number ===== -/
theorem ea_hk {elects weight : Nat → Int32} {r : Int64} (hr : ¬ g_sl (g_w elects weight) 12 ≤ r) : ∀ n k : Nat, k + n = 12 → g_sl (g_w elects weight) k ≤ r → g_sa elects weight k = g_sl (g_w elects weight) k → g_ea elects weight r n k = g_hk (g_w elects weight) r n k ∧ ∃ f : Nat, f < 12 ∧ g_ea elects weight r n k = nI f ∧ ¬ elects f = 0 := by
  intro n
  induction n with
  | zero =>
    intro k hk h1 h2
    obtain rfl : k = 12 := by omega
    exact absurd h1 hr
  | succ n ih =>
    intro k hk h1 h2
    by_cases he : elects k = 0
    · have e : g_sl (g_w elects weight) (k + 1) = g_sl (g_w elects weight) k := by
        rw [g_sl, gw_0 he]
        exact Int64.add_zero _
      rw [g_ea, if_pos he, g_hk, gw_0 he, if_pos (show g_sl (g_w elects weight) k + (0 : Int32).toInt64 ≤ r by rw [show (0 : Int32).toInt64 = 0 from rfl, Int64.add_zero]; exact h1)]
      exact ih (k + 1) (by omega) (by rw [e]; exact h1) (by rw [e, g_sa, if_pos he, Int64.add_zero, h2])
    · have e : g_sa elects weight (k + 1) = g_sl (g_w elects weight) (k + 1) := by
        rw [g_sa, g_sl, if_neg he, gw_e he, h2]
      have e2 : g_sl (g_w elects weight) (k + 1) = g_sl (g_w elects weight) k + (g_w elects weight k).toInt64 := rfl
      rw [g_ea, if_neg he, g_hk, ← e2, e]
      by_cases h3 : g_sl (g_w elects weight) (k + 1) ≤ r
      · rw [if_pos h3, if_pos h3]
        exact ih (k + 1) (by omega) h3 e
      · rw [if_neg h3, if_neg h3]
        exact ⟨rfl, k, by omega, rfl, he⟩
theorem ea_all {elects weight : Nat → Int32} {sum : Int32} (hF : g_fit elects weight sum) (z : Int64) : g_ea elects weight (f_ru z sum.toInt64).toInt32.toInt64 12 0 = g_hk (g_w elects weight) (f_rem z sum) 12 0 ∧ ∃ f : Nat, f < 12 ∧ g_hk (g_w elects weight) (f_rem z sum) 12 0 = nI f ∧ ¬ elects f = 0 := by
  have hp := hF.2.1
  obtain ⟨S, h0, hS, rfl, h3⟩ := fit_N hF
  obtain ⟨Z, hZ, rfl⟩ := wb_of z
  unfold f_rem
  have hm : Z % S < S := Nat.mod_lt _ h0
  rw [if_pos hp, nI_l (by omega), ru_N hZ h0 hS, lN_i, nI_l (by omega)]
  have q := ea_hk (r := lN (Z % S)) (by rw [h3]; exact fun h => by have := (lN_le (by omega) (by omega)).mp h; omega) 12 0 rfl ((lN_le (a := 0) (by omega) (by omega)).mpr (by omega)) rfl
  refine ⟨q.1, ?_⟩
  rw [← q.1]
  exact q.2
theorem ea_who {elects weight waits : Nat → Int32} {fac sum : Int32} {s : Int64} {n : Nat} (hF : g_fit elects weight sum) (h : ¬ 0 ≤ g_mf elects weight waits fac sum 12) : g_ea elects weight (f_ru (f_mix (sG s n)) sum.toInt64).toInt32.toInt64 12 0 = g_who (g_w elects weight) waits fac sum s n := by
  unfold g_who
  rw [if_pos (od_lt hF h)]
  exact (ea_all hF _).1
theorem who_el {elects weight waits : Nat → Int32} {fac sum : Int32} (hF : g_fit elects weight sum) (s : Int64) (n : Nat) : ∃ f : Nat, f < 12 ∧ g_who (g_w elects weight) waits fac sum s n = nI f ∧ ¬ elects f = 0 := by
  unfold g_who
  rcases od_all (waits := waits) (fac := fac) hF with ⟨h1, h2⟩ | ⟨f, h1, h2, h3, h4⟩
  · rw [if_pos h2]
    exact (ea_all hF _).2
  · rw [h3, if_neg (nI_ne2 (by omega))]
    exact ⟨f, h1, rfl, h4⟩
theorem pm_e {elects weight waits : Nat → Int32} {fac sum : Int32} {s : Int64} {n m : Nat} (hF : g_fit elects weight sum) (hm : m < 12) : (if nI m = g_who (g_w elects weight) waits fac sum s n then 0 else if elects m = 0 then waits m else waits m + 1) = g_pt (g_w elects weight) waits (g_who (g_w elects weight) waits fac sum s n) m := by
  obtain ⟨f, h1, h2, h3⟩ := who_el (waits := waits) (fac := fac) hF s n
  rw [h2]
  unfold g_pt
  by_cases he : elects m = 0
  · have hne : ¬ nI m = nI f := fun e => h3 (by rw [← (nI_eq (by omega) (by omega)).mp e]; exact he)
    rw [if_neg hne, if_pos he, gw_0 he, if_pos (by decide)]
  · rw [gw_e he, if_neg (i32_np (hF.1 m hm he).1), if_neg he]
/-! ===== the numbers end: mix is one to one, G is odd ===== -/
theorem php : ∀ (T : Nat) (f : Nat → Nat), (∀ m, m ≤ T → f m < T) → ∃ i j, i < j ∧ j ≤ T ∧ f i = f j := by
  intro T
  induction T with
  | zero => intro f h; exact absurd (h 0 (Nat.le_refl 0)) (Nat.not_lt_zero _)
  | succ T ih =>
    intro f h
    by_cases hc : ∃ i, i ≤ T ∧ f i = f (T + 1)
    · obtain ⟨i, h1, h2⟩ := hc
      exact ⟨i, T + 1, by omega, by omega, h2⟩
    · have hc : ∀ i, i ≤ T → ¬ f i = f (T + 1) := fun i h1 h2 => hc ⟨i, h1, h2⟩
      have hl := h (T + 1) (Nat.le_refl _)
      obtain ⟨i, j, h1, h2, h3⟩ := ih (fun m => if f (T + 1) < f m then f m - 1 else f m) (fun m hm => by
        have a := h m (by omega)
        have b := hc m hm
        show (if f (T + 1) < f m then f m - 1 else f m) < T
        split <;> omega)
      refine ⟨i, j, h1, by omega, ?_⟩
      have a := hc i (by omega)
      have b := hc j h2
      have h3 : (if f (T + 1) < f i then f i - 1 else f i) = (if f (T + 1) < f j then f j - 1 else f j) := h3
      split at h3 <;> split at h3 <;> omega
theorem xs_inj {s : Nat} (hs : 0 < s) {x y : BitVec 64} (h : x ^^^ (x >>> s) = y ^^^ (y >>> s)) : x = y := by
  have key : ∀ n i : Nat, 64 - i ≤ n → x.getLsbD i = y.getLsbD i := by
    intro n
    induction n with
    | zero => intro i hi; rw [BitVec.getLsbD_of_ge x i (by omega), BitVec.getLsbD_of_ge y i (by omega)]
    | succ n ih =>
      intro i hi
      have h1 := congrArg (fun v => v.getLsbD i) h
      simp only [BitVec.getLsbD_xor, BitVec.getLsbD_ushiftRight] at h1
      have h2 : x.getLsbD (s + i) = y.getLsbD (s + i) := by
        rcases Nat.lt_or_ge i 64 with h3 | h3
        · exact ih (s + i) (by omega)
        · rw [BitVec.getLsbD_of_ge x _ (by omega), BitVec.getLsbD_of_ge y _ (by omega)]
      rw [h2] at h1
      cases hx : x.getLsbD i <;> cases hy : y.getLsbD i <;> simp_all
  exact BitVec.eq_of_getLsbD_eq fun i _ => key 64 i (by omega)
theorem xsh_inj {k : Nat} (hk : k < 64) (h0 : 0 < k) {x y : Int64} (h : x ^^^ (x.toUInt64 >>> ((nI k).toInt64.toUInt64 &&& Int64.toUInt64 63)).toInt64 = y ^^^ (y.toUInt64 >>> ((nI k).toInt64.toUInt64 &&& Int64.toUInt64 63)).toInt64) : x = y := by
  have e : ∀ v : Int64, (v.toUInt64 >>> ((nI k).toInt64.toUInt64 &&& Int64.toUInt64 63)).toInt64.toBitVec = v.toBitVec >>> k := by
    intro v
    obtain ⟨n, hn, rfl⟩ := wb_of v
    rw [wb_shr hn hk, wb_tb, wb_tb]
    apply BitVec.eq_of_toNat_eq
    rw [BitVec.toNat_ushiftRight, BitVec.toNat_ofNat, BitVec.toNat_ofNat, Nat.mod_eq_of_lt hn, Nat.shiftRight_eq_div_pow, Nat.mod_eq_of_lt (Nat.lt_of_le_of_lt (Nat.div_le_self _ _) hn)]
  apply wb_inj
  apply xs_inj h0
  have h2 := congrArg Int64.toBitVec h
  rw [Int64.toBitVec_xor, Int64.toBitVec_xor, e, e] at h2
  exact h2
theorem mul_inj {c d x y : Int64} (hcd : c * d = 1) (h : x * c = y * c) : x = y := by
  have h2 := congrArg (· * d) h
  simp only [Int64.mul_assoc, hcd, Int64.mul_one] at h2
  exact h2
theorem mix_inj {x y : Int64} (h : f_mix x = f_mix y) : x = y := by
  unfold f_mix at h
  have h1 := xsh_inj (k := 31) (by decide) (by decide) h
  have h2 := mul_inj (c := -7723592293110705685) (d := 3573116690164977347) (by decide +kernel) h1
  have h3 := xsh_inj (k := 27) (by decide) (by decide) h2
  have h4 := mul_inj (c := -4658895280553007687) (d := (-7575587736534282103)) (by decide +kernel) h3
  exact xsh_inj (k := 30) (by decide) (by decide) h4
theorem sG_e (s : Int64) (n : Nat) : sG s n = s + lN n * (-7046029254386353131) := by
  induction n with
  | zero =>
    show s = s + 0 * (-7046029254386353131)
    rw [Int64.zero_mul, Int64.add_zero]
  | succ n ih =>
    rw [sG, ih, ← lN_1, Int64.add_mul, Int64.one_mul, Int64.add_assoc]
theorem sG_inj {s : Int64} {i j : Nat} (hi : i < 2 ^ 31) (hj : j < 2 ^ 31) (h : sG s i = sG s j) : i = j := by
  rw [sG_e, sG_e] at h
  have h2 := mul_inj (c := -7046029254386353131) (d := (-1018231460777725123)) (by decide +kernel) ((Int64.add_right_inj s).mp h)
  exact (lN_eq hi hj).mp h2
theorem sG_s (s : Int64) (n : Nat) : sG s (n + 1) = sG (s + (-7046029254386353131)) n := by
  induction n with
  | zero => simp only [sG]
  | succ n ih => rw [sG, ih, sG]
theorem u_01 (t z : Int64) : f_u t z = 0 ∨ f_u t z = 1 := by
  unfold f_u
  split
  · exact Or.inr rfl
  · split
    · exact Or.inl rfl
    · exact Or.inr rfl
theorem nf_ok (t : Int64) : ∀ (f : Nat) (s : Int64), (∃ m, 1 ≤ m ∧ m ≤ f ∧ ¬ f_u t (f_mix (sG s m)) = 0) → 1 ≤ g_nf t f s ∧ g_nf t f s ≤ f ∧ f_u t (f_mix (sG s (g_nf t f s))) = 1 ∧ ∀ j, 1 ≤ j → j < g_nf t f s → f_u t (f_mix (sG s j)) = 0 := by
  intro f
  induction f with
  | zero => rintro s ⟨m, h1, h2, _⟩; omega
  | succ f ih =>
    rintro s ⟨m, h1, h2, h3⟩
    rw [g_nf]
    by_cases h : f_u t (f_mix (s + (-7046029254386353131))) = 0
    · rw [if_pos h]
      have hm : 1 < m := by
        rcases Nat.lt_or_ge 1 m with q | q
        · exact q
        · obtain rfl : m = 1 := by omega
          exact absurd h h3
      obtain ⟨m', rfl⟩ : ∃ m', m = m' + 1 := ⟨m - 1, by omega⟩
      rw [sG_s] at h3
      obtain ⟨a1, a2, a3, a4⟩ := ih (s + (-7046029254386353131)) ⟨m', by omega, by omega, h3⟩
      refine ⟨by omega, by omega, by rw [sG_s]; exact a3, fun j j1 j2 => ?_⟩
      rcases Nat.lt_or_ge 1 j with q | q
      · obtain ⟨j', rfl⟩ : ∃ j', j = j' + 1 := ⟨j - 1, by omega⟩
        rw [sG_s]
        exact a4 j' (by omega) (by omega)
      · obtain rfl : j = 1 := by omega
        exact h
    · rw [if_neg h]
      refine ⟨Nat.le_refl 1, by omega, ?_, fun j j1 j2 => by omega⟩
      rcases u_01 t (f_mix (sG s 1)) with q | q
      · exact absurd q h
      · exact q
theorem u_0 {T : Nat} (hT : T ≤ 12000) {z : Int64} (h : f_u (lN T) z = 0) : -(T : Int) ≤ z.toInt ∧ z.toInt < 0 := by
  unfold f_u at h
  have z0 : (0 : Int64).toInt = 0 := rfl
  by_cases h1 : 0 ≤ z
  · rw [if_pos h1] at h; exact absurd h (by decide)
  · rw [if_neg h1] at h
    have h1 := Int64.lt_iff_toInt_lt.mp (i64_nle h1)
    by_cases h2 : -lN T ≤ z
    · have h2 := Int64.le_iff_toInt_le.mp h2
      rw [Int64.toInt_neg, lN_toInt (by omega), Int.bmod_eq_of_le (by omega) (by omega)] at h2
      omega
    · rw [if_neg h2] at h; exact absurd h (by decide)
theorem ok_N {T : Nat} (hT : T ≤ 12000) (s : Int64) : g_ok (lN T) s (g_n (lN T) s) := by
  have hex : ∃ m, 1 ≤ m ∧ m ≤ 20000 ∧ ¬ f_u (lN T) (f_mix (sG s m)) = 0 := by
    apply Classical.byContradiction
    intro hno
    have hall : ∀ m, 1 ≤ m → m ≤ 20000 → f_u (lN T) (f_mix (sG s m)) = 0 := fun m h1 h2 => Classical.byContradiction fun h3 => hno ⟨m, h1, h2, h3⟩
    obtain ⟨i, j, h1, h2, h3⟩ := php T (fun m => ((f_mix (sG s (m + 1))).toInt + T).toNat) (fun m hm => by
      have := u_0 hT (hall (m + 1) (by omega) (by omega))
      show ((f_mix (sG s (m + 1))).toInt + T).toNat < T
      omega)
    have a := u_0 hT (hall (i + 1) (by omega) (by omega))
    have b := u_0 hT (hall (j + 1) (by omega) (by omega))
    have e : (f_mix (sG s (i + 1))).toInt = (f_mix (sG s (j + 1))).toInt := by
      have h3 : ((f_mix (sG s (i + 1))).toInt + T).toNat = ((f_mix (sG s (j + 1))).toInt + T).toNat := h3
      omega
    have := sG_inj (by omega) (by omega) (mix_inj (Int64.toInt_inj.mp e))
    omega
  obtain ⟨a1, a2, a3, a4⟩ := nf_ok (lN T) 20000 s hex
  exact ⟨a1, by unfold g_n; omega, a3, a4⟩
theorem fit_ok {elects weight : Nat → Int32} {sum : Int32} (hF : g_fit elects weight sum) (z : Int64) : g_ok (g_t sum) z (g_n (g_t sum) z) := by
  obtain ⟨S, h0, hS, rfl, _⟩ := fit_N hF
  rw [t_N h0 hS]
  exact ok_N (by have := Nat.mod_lt (2 ^ 64) h0; omega) z
theorem ok_0 (z : Int64) : g_ok (g_t 0) z (g_n (g_t 0) z) := ok_N (T := 0) (by omega) z
