/-- what holds between the class and the reference behind q calls -/
def lr_I (q qc T : Nat) (phase epoch nxt nextTurn : Int32) (terms rlead nw nas nmem ncom nop isMem hasCom hasOp : Nat → Int32) (ndep ndig nnum : Nat → Int64) : Prop :=
  (qc ≤ 60 ∧ T ≤ 60) ∧ (phase = 0 ∨ phase = 1 ∨ phase = 2 ∨ phase = 3) ∧ nxt = (if phase = 3 then nextTurn else 0) ∧
  (phase = 3 → (∃ x : Nat, x < T ∧ nextTurn = nI x) ∧ ∀ k : Nat, k < T → ∃ j : Nat, j < 12 ∧ rlead k = nI j) ∧
  (¬ phase = 0 → nmem = isMem ∧ ncom = hasCom ∧ nop = hasOp) ∧
  (phase = 0 → ∀ j : Nat, j < 12 → nmem j = 0 ∧ ncom j = 0 ∧ nop j = 0) ∧
  (∀ j : Nat, 12 ≤ j → nmem j = isMem j ∧ ncom j = hasCom j ∧ nop j = hasOp j) ∧
  (∀ j : Nat, j < 12 → (0 ≤ nw j ∧ nw j ≤ 1000) ∧ (0 ≤ ndep j ∧ ndep j ≤ 1000000000000)) ∧
  (¬ phase = 0 → ∀ j : Nat, j < 12 → ¬ nmem j = 0 → 0 < nw j) ∧
  (phase = 1 ∨ phase = 2 → ∀ j : Nat, j < 12 → (¬ ncom j = 0 → ¬ nmem j = 0) ∧ (¬ nmem j = 0 → nas j = 0)) ∧
  (¬ phase = 0 → ∀ j : Nat, j < 12 → ¬ nop j = 0 → ¬ ncom j = 0 ∧ ndig j = f_dig (nI j) (nnum j)) ∧
  (∃ e : Nat, e ≤ q ∧ epoch = nI e) ∧ (∃ a : Nat, a ≤ 20 ∧ terms 2 = nI a) ∧ (∃ b : Nat, b ≤ 100 ∧ terms 1 = nI b)
theorem lr_mono {q qc T : Nat} {phase epoch nxt nextTurn : Int32} {terms rlead nw nas nmem ncom nop isMem hasCom hasOp : Nat → Int32} {ndep ndig nnum : Nat → Int64} (h : lr_I q qc T phase epoch nxt nextTurn terms rlead nw nas nmem ncom nop isMem hasCom hasOp ndep ndig nnum) : lr_I (q + 1) qc T phase epoch nxt nextTurn terms rlead nw nas nmem ncom nop isMem hasCom hasOp ndep ndig nnum := by
  obtain ⟨i1, i2, i3, i4, i5, i6, i7, i8, i9, i10, i11, i12, i13⟩ := h
  obtain ⟨e, h1, h2⟩ := i12
  exact ⟨i1, i2, i3, i4, i5, i6, i7, i8, i9, i10, i11, ⟨e, by omega, h2⟩, i13⟩
def lr_S (adc : Nat → Nat) (cyc : Nat → ClassId) (adm : Nat → Nat) (cym : Nat → ClassId) (q : Nat) (wC wM : va_W) : Prop :=
  ∃ (qc T : Nat) (phase epoch nxt nextTurn rsum ecnt esum efac enum sum : Int32) (seed pot estr rowSeed stream : Int64) (terms claimed ewt ewa rlead rnum nw nwa nled nmis nmio nas nmem ncom nop isMem hasCom hasOp elects waits rowLeads rowDraws : Nat → Int32) (ndep ndig nnum : Nat → Int64), wC = cw_w adc cyc (nI qc) phase epoch nxt seed pot terms claimed ecnt esum efac estr enum ewt ewa (nI T) rsum rlead rnum nw nwa nled nmis nmio nas nmem ncom nop ndep ndig nnum ∧ wM = mw_w adm cym phase epoch (nI T) nextTurn rsum (nI qc) sum seed pot rowSeed stream terms nw nwa nled nmis nmio nas isMem hasCom hasOp rlead rnum claimed elects waits rowLeads rowDraws ndep ndig nnum ∧ lr_I q qc T phase epoch nxt nextTurn terms rlead nw nas nmem ncom nop isMem hasCom hasOp ndep ndig nnum
def lr_A (l : Launch) (D : va_G) (adc : Nat → Nat) (cyc : Nat → ClassId) (adm : Nat → Nat) (cym : Nat → ClassId) (q : Nat) (yc : MethodName) (wc : List Cond) (rc : Room) (ym : MethodName) (wm : List Cond) (rm : Room) (av : List Value) (wC wM : va_W) : Prop :=
  ∃ (r : Int32) (wC' wM' : va_W), ww_MI l D (cw_t cyc) yc wc rc (.ref (adc 0) :: av) wC wC' r ∧ ww_MI l D (mw_t cym) ym wm rm (.ref (adm 0) :: av) wM wM' r ∧ lr_S adc cyc adm cym (q + 1) wC' wM'
def lr_AL (l : Launch) (D : va_G) (adc : Nat → Nat) (cyc : Nat → ClassId) (adm : Nat → Nat) (cym : Nat → ClassId) (q : Nat) (yc : MethodName) (wc : List Cond) (rc : Room) (ym : MethodName) (wm : List Cond) (rm : Room) (av : List Value) (wC wM : va_W) : Prop :=
  ∃ (r : Int64) (wC' wM' : va_W), ww_ML l D (cw_t cyc) yc wc rc (.ref (adc 0) :: av) wC wC' r ∧ ww_ML l D (mw_t cym) ym wm rm (.ref (adm 0) :: av) wM wM' r ∧ lr_S adc cyc adm cym (q + 1) wC' wM'
theorem in64 {v lo hi : Int64} (h : ¬ f_in v lo hi = 0) : lo ≤ v ∧ v ≤ hi := by
  unfold f_in at h
  by_cases h1 : v < lo
  · rw [if_pos h1] at h; exact absurd rfl h
  · rw [if_neg h1] at h
    by_cases h2 : hi < v
    · rw [if_pos h2] at h; exact absurd rfl h
    · exact ⟨i64_nlt h1, i64_nlt h2⟩
theorem in32 {v : Int32} (lo hi : Int32) {L U : Int64} (hL : L = lo.toInt64) (hU : U = hi.toInt64) (h : ¬ f_in v.toInt64 L U = 0) : lo ≤ v ∧ v ≤ hi := by
  obtain ⟨h1, h2⟩ := in64 h
  subst hL; subst hU
  rw [Int64.le_iff_toInt_le, Int32.toInt_toInt64, Int32.toInt_toInt64] at h1 h2
  exact ⟨Int32.le_iff_toInt_le.mpr h1, Int32.le_iff_toInt_le.mpr h2⟩
theorem upd_o {f : Nat → Int32} {k j : Nat} {v : Int32} (h : ¬ j = k) : upd f k v j = f j := if_neg h
theorem updL_o {f : Nat → Int64} {k j : Nat} {v : Int64} (h : ¬ j = k) : vp_updL f k v j = f j := if_neg h
set_option maxHeartbeats 4000000 in
set_option maxRecDepth 100000 in
theorem ar_leader (l : Launch) (D : va_G) {adc : Nat → Nat} {cyc : Nat → ClassId} {adm : Nat → Nat} {cym : Nat → ClassId} {q : Nat} {wC wM : va_W} (hq : q < 512) (hS : lr_S adc cyc adm cym q wC wM) (k : Int32) : lr_A l D adc cyc adm cym q yX3_leader wsX3_leader (ww_rm 2 42) yX4_leader wsX4_leader (ww_rm 0 0) [.int k] wC wM := by
  obtain ⟨qc, T, phase, epoch, nxt, nextTurn, rsum, ecnt, esum, efac, enum, sum, seed, pot, estr, rowSeed, stream, terms, claimed, ewt, ewa, rlead, rnum, nw, nwa, nled, nmis, nmio, nas, nmem, ncom, nop, isMem, hasCom, hasOp, elects, waits, rowLeads, rowDraws, ndep, ndig, nnum, rfl, rfl, hI⟩ := hS
  exact ⟨_, _, _, k_X3_leader l T k hI.1.2, k_X4_leader l T k hI.1.2, _, _, _, _, _, _, _, _, _, _, _, _, _, _, _, _, _, _, _, _, _, _, _, _, _, _, _, _, _, _, _, _, _, _, _, _, _, _, _, _, _, _, rfl, rfl, lr_mono hI⟩
set_option maxHeartbeats 4000000 in
set_option maxRecDepth 100000 in
theorem ar_drawn (l : Launch) (D : va_G) {adc : Nat → Nat} {cyc : Nat → ClassId} {adm : Nat → Nat} {cym : Nat → ClassId} {q : Nat} {wC wM : va_W} (hq : q < 512) (hS : lr_S adc cyc adm cym q wC wM) (k : Int32) : lr_A l D adc cyc adm cym q yX3_drawn wsX3_drawn (ww_rm 2 42) yX4_drawn wsX4_drawn (ww_rm 0 0) [.int k] wC wM := by
  obtain ⟨qc, T, phase, epoch, nxt, nextTurn, rsum, ecnt, esum, efac, enum, sum, seed, pot, estr, rowSeed, stream, terms, claimed, ewt, ewa, rlead, rnum, nw, nwa, nled, nmis, nmio, nas, nmem, ncom, nop, isMem, hasCom, hasOp, elects, waits, rowLeads, rowDraws, ndep, ndig, nnum, rfl, rfl, hI⟩ := hS
  exact ⟨_, _, _, k_X3_drawn l T k hI.1.2, k_X4_drawn l T k hI.1.2, _, _, _, _, _, _, _, _, _, _, _, _, _, _, _, _, _, _, _, _, _, _, _, _, _, _, _, _, _, _, _, _, _, _, _, _, _, _, _, _, _, _, rfl, rfl, lr_mono hI⟩
set_option maxHeartbeats 4000000 in
set_option maxRecDepth 100000 in
theorem ar_digest (l : Launch) (D : va_G) {adc : Nat → Nat} {cyc : Nat → ClassId} {adm : Nat → Nat} {cym : Nat → ClassId} {q : Nat} {wC wM : va_W} (hq : q < 512) (hS : lr_S adc cyc adm cym q wC wM) (node : Int32) (number : Int64) : lr_AL l D adc cyc adm cym q yX3_digest wsX3_digest (ww_rm 2 45) yX4_digest wsX4_digest (ww_rm 2 45) [.int node, .long number] wC wM := by
  obtain ⟨qc, T, phase, epoch, nxt, nextTurn, rsum, ecnt, esum, efac, enum, sum, seed, pot, estr, rowSeed, stream, terms, claimed, ewt, ewa, rlead, rnum, nw, nwa, nled, nmis, nmio, nas, nmem, ncom, nop, isMem, hasCom, hasOp, elects, waits, rowLeads, rowDraws, ndep, ndig, nnum, rfl, rfl, hI⟩ := hS
  exact ⟨_, _, _, k_X3_digest l node number, k_X4_digest l node number, _, _, _, _, _, _, _, _, _, _, _, _, _, _, _, _, _, _, _, _, _, _, _, _, _, _, _, _, _, _, _, _, _, _, _, _, _, _, _, _, _, _, rfl, rfl, lr_mono hI⟩
set_option maxHeartbeats 4000000 in
set_option maxRecDepth 100000 in
theorem ar_amount (l : Launch) (D : va_G) {adc : Nat → Nat} {cyc : Nat → ClassId} {adm : Nat → Nat} {cym : Nat → ClassId} {q : Nat} {wC wM : va_W} (hq : q < 512) (hS : lr_S adc cyc adm cym q wC wM) (what : Int32) : lr_AL l D adc cyc adm cym q yX3_amount wsX3_amount (ww_rm 0 0) yX4_amount wsX4_amount (ww_rm 1 25) [.int what] wC wM := by
  obtain ⟨qc, T, phase, epoch, nxt, nextTurn, rsum, ecnt, esum, efac, enum, sum, seed, pot, estr, rowSeed, stream, terms, claimed, ewt, ewa, rlead, rnum, nw, nwa, nled, nmis, nmio, nas, nmem, ncom, nop, isMem, hasCom, hasOp, elects, waits, rowLeads, rowDraws, ndep, ndig, nnum, rfl, rfl, hI⟩ := hS
  exact ⟨_, _, _, k_X3_amount l what, k_X4_amount l what, _, _, _, _, _, _, _, _, _, _, _, _, _, _, _, _, _, _, _, _, _, _, _, _, _, _, _, _, _, _, _, _, _, _, _, _, _, _, _, _, _, _, rfl, rfl, lr_mono hI⟩
set_option maxHeartbeats 4000000 in
set_option maxRecDepth 100000 in
theorem ar_told (l : Launch) (D : va_G) {adc : Nat → Nat} {cyc : Nat → ClassId} {adm : Nat → Nat} {cym : Nat → ClassId} {q : Nat} {wC wM : va_W} (hq : q < 512) (hS : lr_S adc cyc adm cym q wC wM) (what : Int32) : lr_A l D adc cyc adm cym q yX3_told wsX3_told (ww_rm 0 0) yX4_told wsX4_told (ww_rm 1 25) [.int what] wC wM := by
  obtain ⟨qc, T, phase, epoch, nxt, nextTurn, rsum, ecnt, esum, efac, enum, sum, seed, pot, estr, rowSeed, stream, terms, claimed, ewt, ewa, rlead, rnum, nw, nwa, nled, nmis, nmio, nas, nmem, ncom, nop, isMem, hasCom, hasOp, elects, waits, rowLeads, rowDraws, ndep, ndig, nnum, rfl, rfl, hI⟩ := hS
  have kc := k_X3_told l what (D := D) (ad := adc) (cy := cyc) (claims := (nI qc)) (phase := phase) (epoch := epoch) (nxt := nxt) (seed := seed) (pot := pot) (terms := terms) (claimed := claimed) (ecnt := ecnt) (esum := esum) (efac := efac) (estr := estr) (enum := enum) (ewt := ewt) (ewa := ewa) (rlen := (nI T)) (rsum := rsum) (rlead := rlead) (rnum := rnum) (nw := nw) (nwa := nwa) (nled := nled) (nmis := nmis) (nmio := nmio) (nas := nas) (nmem := nmem) (ncom := ncom) (nop := nop) (ndep := ndep) (ndig := ndig) (nnum := nnum)
  rw [show f_told what phase epoch (nI T) nxt rsum terms = f_told what phase epoch (nI T) (if phase = 3 then nextTurn else 0) rsum terms from by rw [← hI.2.2.1]] at kc
  exact ⟨_, _, _, kc, k_X4_told l what, _, _, _, _, _, _, _, _, _, _, _, _, _, _, _, _, _, _, _, _, _, _, _, _, _, _, _, _, _, _, _, _, _, _, _, _, _, _, _, _, _, _, rfl, rfl, lr_mono hI⟩
set_option maxHeartbeats 4000000 in
set_option maxRecDepth 100000 in
theorem ar_weight (l : Launch) (D : va_G) {adc : Nat → Nat} {cyc : Nat → ClassId} {adm : Nat → Nat} {cym : Nat → ClassId} {q : Nat} {wC wM : va_W} (hq : q < 512) (hS : lr_S adc cyc adm cym q wC wM) (node : Int32) (w : Int32) : lr_A l D adc cyc adm cym q yX3_weight wsX3_weight (ww_rm 1 20) yX4_weight wsX4_weight (ww_rm 2 45) [.int node, .int w] wC wM := by
  obtain ⟨qc, T, phase, epoch, nxt, nextTurn, rsum, ecnt, esum, efac, enum, sum, seed, pot, estr, rowSeed, stream, terms, claimed, ewt, ewa, rlead, rnum, nw, nwa, nled, nmis, nmio, nas, nmem, ncom, nop, isMem, hasCom, hasOp, elects, waits, rowLeads, rowDraws, ndep, ndig, nnum, rfl, rfl, hI⟩ := hS
  refine ⟨_, _, _, k_X3_weight l node w, k_X4_weight l node w, _, _, _, _, _, _, _, _, _, _, _, _, _, _, _, _, _, _, _, _, _, _, _, _, _, _, _, _, _, _, _, _, _, _, _, _, _, _, _, _, _, _, rfl, rfl, ?_⟩
  by_cases h1 : f_isN node = 0
  · simp only [if_pos h1]; exact lr_mono hI
  · by_cases h2 : f_in w.toInt64 0 1000 = 0
    · simp only [if_neg h1, if_pos h2]; exact lr_mono hI
    · by_cases h3 : phase = 0
      · simp only [if_neg h1, if_neg h2, if_pos h3]
        obtain ⟨i1, i2, i3, i4, i5, i6, i7, i8, i9, i10, i11, i12, i13⟩ := lr_mono hI
        refine ⟨i1, i2, i3, i4, i5, i6, i7, fun j hj => ?_, fun h => absurd h3 h, i10, i11, i12, i13⟩
        refine ⟨?_, (i8 j hj).2⟩
        unfold upd
        by_cases h4 : j = node.toNatClampNeg
        · rw [if_pos h4]; exact in32 0 1000 rfl rfl h2
        · rw [if_neg h4]; exact (i8 j hj).1
      · simp only [if_neg h1, if_neg h2, if_neg h3]; exact lr_mono hI
set_option maxHeartbeats 4000000 in
set_option maxRecDepth 100000 in
theorem ar_deposit (l : Launch) (D : va_G) {adc : Nat → Nat} {cyc : Nat → ClassId} {adm : Nat → Nat} {cym : Nat → ClassId} {q : Nat} {wC wM : va_W} (hq : q < 512) (hS : lr_S adc cyc adm cym q wC wM) (node : Int32) (more : Int64) : lr_AL l D adc cyc adm cym q yX3_deposit wsX3_deposit (ww_rm 1 20) yX4_deposit wsX4_deposit (ww_rm 2 45) [.int node, .long more] wC wM := by
  obtain ⟨qc, T, phase, epoch, nxt, nextTurn, rsum, ecnt, esum, efac, enum, sum, seed, pot, estr, rowSeed, stream, terms, claimed, ewt, ewa, rlead, rnum, nw, nwa, nled, nmis, nmio, nas, nmem, ncom, nop, isMem, hasCom, hasOp, elects, waits, rowLeads, rowDraws, ndep, ndig, nnum, rfl, rfl, hI⟩ := hS
  have hd : ∀ j : Nat, j < 12 → 0 ≤ ndep j ∧ ndep j ≤ 1000000000000 := fun j hj => (hI.2.2.2.2.2.2.2.1 j hj).2
  refine ⟨_, _, _, k_X3_deposit l node more, k_X4_deposit l node more hd, _, _, _, _, _, _, _, _, _, _, _, _, _, _, _, _, _, _, _, _, _, _, _, _, _, _, _, _, _, _, _, _, _, _, _, _, _, _, _, _, _, _, rfl, rfl, ?_⟩
  by_cases h1 : f_isN node = 0
  · simp only [if_pos h1]; exact lr_mono hI
  · by_cases h2 : g_dep more (ndep node.toNatClampNeg) = 0
    · simp only [if_neg h1, if_pos h2]; exact lr_mono hI
    · by_cases h3 : phase = 0
      · simp only [if_neg h1, if_neg h2, if_pos h3]
        obtain ⟨i1, i2, i3, i4, i5, i6, i7, i8, i9, i10, i11, i12, i13⟩ := lr_mono hI
        refine ⟨i1, i2, i3, i4, i5, i6, i7, fun j hj => ?_, i9, i10, i11, i12, i13⟩
        refine ⟨(i8 j hj).1, ?_⟩
        obtain ⟨k, hk, rfl⟩ := f_isN_in h1
        have ek : (nI k).toNatClampNeg = k := nI_clamp (by omega)
        rw [ek] at h2 ⊢
        unfold vp_updL
        by_cases h4 : j = k
        · rw [if_pos h4]
          exact in64 (fun h => h2 ((g_depE (hd k hk).1 (hd k hk).2).mpr (Or.inr h)))
        · rw [if_neg h4]; exact (i8 j hj).2
      · simp only [if_neg h1, if_neg h2, if_neg h3]; exact lr_mono hI
set_option maxHeartbeats 4000000 in
set_option maxRecDepth 100000 in
theorem ar_begin (l : Launch) (D : va_G) {adc : Nat → Nat} {cyc : Nat → ClassId} {adm : Nat → Nat} {cym : Nat → ClassId} {q : Nat} {wC wM : va_W} (hq : q < 512) (hS : lr_S adc cyc adm cym q wC wM)  : lr_A l D adc cyc adm cym q yX3_begin wsX3_begin (ww_rm 1 21) yX4_begin wsX4_begin (ww_rm 0 0) [] wC wM := by
  obtain ⟨qc, T, phase, epoch, nxt, nextTurn, rsum, ecnt, esum, efac, enum, sum, seed, pot, estr, rowSeed, stream, terms, claimed, ewt, ewa, rlead, rnum, nw, nwa, nled, nmis, nmio, nas, nmem, ncom, nop, isMem, hasCom, hasOp, elects, waits, rowLeads, rowDraws, ndep, ndig, nnum, rfl, rfl, hI⟩ := hS
  refine ⟨_, _, _, k_X3_begin l, k_X4_begin l, _, _, _, _, _, _, _, _, _, _, _, _, _, _, _, _, _, _, _, _, _, _, _, _, _, _, _, _, _, _, _, _, _, _, _, _, _, _, _, _, _, _, rfl, rfl, ?_⟩
  by_cases h0 : phase = 0
  · simp only [if_pos h0]
    obtain ⟨i1, i2, i3, i4, i5, i6, i7, i8, i9, i10, i11, i12, i13⟩ := id hI
    obtain ⟨e, he, rfl⟩ := i12
    refine ⟨i1, Or.inr (Or.inl rfl), ?_, fun h => absurd h (by decide), fun _ => ⟨?_, ?_, ?_⟩, fun h => absurd h (by decide), fun j hj => ?_, i8, fun _ j hj hm => ?_, fun _ j hj => ⟨fun hc => ?_, fun hm => ?_⟩, fun _ j hj ho => ?_, ⟨e + 1, by omega, nI_1 e⟩, i13⟩
    · rw [i3, if_neg (by rw [h0]; decide), if_neg (by decide)]
    · exact mx_c (fun _ _ => rfl) (fun j hj => (i7 j hj).1)
    · funext j
      rcases Nat.lt_or_ge j 12 with hj | hj
      · rw [mx_lo _ _ hj, (i6 h0 j hj).2.1]; rfl
      · rw [mx_hi _ _ hj, (i7 j hj).2.1]
    · funext j
      rcases Nat.lt_or_ge j 12 with hj | hj
      · rw [mx_lo _ _ hj, (i6 h0 j hj).2.2]; rfl
      · rw [mx_hi _ _ hj, (i7 j hj).2.2]
    · rw [mx_hi _ _ hj, mx_hi _ _ hj, mx_hi _ _ hj, mx_hi _ _ hj]; exact i7 j hj
    · rw [mx_lo _ _ hj] at hm
      unfold b_mem f_mem at hm
      by_cases h1 : f_as (nas j) (nI e + 1) = 0
      · rw [if_pos h1] at hm
        by_cases h2 : nw j ≤ 0
        · rw [if_pos h2] at hm; exact absurd rfl hm
        · exact i32_nle h2
      · rw [if_neg h1] at hm; exact absurd rfl hm
    · exact absurd (i6 h0 j hj).2.1 hc
    · rw [mx_lo _ _ hj] at hm ⊢
      unfold b_mem f_mem at hm
      by_cases h1 : f_as (nas j) (nI e + 1) = 0
      · exact h1
      · rw [if_neg h1] at hm; exact absurd rfl hm
    · exact absurd (i6 h0 j hj).2.2 ho
  · simp only [if_neg h0]; exact lr_mono hI
set_option maxHeartbeats 4000000 in
set_option maxRecDepth 100000 in
theorem ar_commit (l : Launch) (D : va_G) {adc : Nat → Nat} {cyc : Nat → ClassId} {adm : Nat → Nat} {cym : Nat → ClassId} {q : Nat} {wC wM : va_W} (hq : q < 512) (hS : lr_S adc cyc adm cym q wC wM) (node : Int32) (dg : Int64) : lr_A l D adc cyc adm cym q yX3_commit wsX3_commit (ww_rm 1 22) yX4_commit wsX4_commit (ww_rm 2 45) [.int node, .long dg] wC wM := by
  obtain ⟨qc, T, phase, epoch, nxt, nextTurn, rsum, ecnt, esum, efac, enum, sum, seed, pot, estr, rowSeed, stream, terms, claimed, ewt, ewa, rlead, rnum, nw, nwa, nled, nmis, nmio, nas, nmem, ncom, nop, isMem, hasCom, hasOp, elects, waits, rowLeads, rowDraws, ndep, ndig, nnum, rfl, rfl, hI⟩ := hS
  by_cases h0 : phase = 0
  · have n1 : ¬ phase = 1 := by rw [h0]; decide
    have kc := k_X3_commit l node dg (D := D) (ad := adc) (cy := cyc) (claims := (nI qc)) (phase := phase) (epoch := epoch) (nxt := nxt) (seed := seed) (pot := pot) (terms := terms) (claimed := claimed) (ecnt := ecnt) (esum := esum) (efac := efac) (estr := estr) (enum := enum) (ewt := ewt) (ewa := ewa) (rlen := (nI T)) (rsum := rsum) (rlead := rlead) (rnum := rnum) (nw := nw) (nwa := nwa) (nled := nled) (nmis := nmis) (nmio := nmio) (nas := nas) (nmem := nmem) (ncom := ncom) (nop := nop) (ndep := ndep) (ndig := ndig) (nnum := nnum)
    have km := k_X4_commit l node dg (D := D) (ad := adm) (cy := cym) (phase := phase) (epoch := epoch) (turns := (nI T)) (nextTurn := nextTurn) (all := rsum) (claims := (nI qc)) (sum := sum) (seed := seed) (pot := pot) (rowSeed := rowSeed) (stream := stream) (terms := terms) (weight := nw) (wait := nwa) (led := nled) (missed := nmis) (running := nmio) (aside := nas) (isMem := isMem) (hasCom := hasCom) (hasOp := hasOp) (leads := rlead) (draws := rnum) (claim := claimed) (elects := elects) (waits := waits) (rowLeads := rowLeads) (rowDraws := rowDraws) (deposit := ndep) (committed := ndig) (opened := nnum)
    simp only [if_neg n1, ite_self] at kc km
    exact ⟨_, _, _, kc, km, _, _, _, _, _, _, _, _, _, _, _, _, _, _, _, _, _, _, _, _, _, _, _, _, _, _, _, _, _, _, _, _, _, _, _, _, _, _, _, _, _, _, rfl, rfl, lr_mono hI⟩
  · obtain ⟨e1, e2, e3⟩ := hI.2.2.2.2.1 h0
    subst e1; subst e2; subst e3
    refine ⟨_, _, _, k_X3_commit l node dg, k_X4_commit l node dg, _, _, _, _, _, _, _, _, _, _, _, _, _, _, _, _, _, _, _, _, _, _, _, _, _, _, _, _, _, _, _, _, _, _, _, _, _, _, _, _, _, _, rfl, rfl, ?_⟩
    by_cases h1 : f_isN node = 0
    · simp only [if_pos h1]; exact lr_mono hI
    · by_cases h2 : phase = 1
      · by_cases h3 : nmem node.toNatClampNeg = 0
        · simp only [if_neg h1, if_pos h2, if_pos h3]; exact lr_mono hI
        · by_cases h4 : ncom node.toNatClampNeg = 0
          · simp only [if_neg h1, if_pos h2, if_neg h3, if_pos h4]
            obtain ⟨i1, i2, i3, i4, i5, i6, i7, i8, i9, i10, i11, i12, i13⟩ := lr_mono hI
            refine ⟨i1, i2, i3, i4, fun _ => ⟨rfl, rfl, rfl⟩, fun h => absurd h h0, fun j hj => ⟨rfl, rfl, rfl⟩, i8, i9, fun h j hj => ⟨fun hc => ?_, (i10 h j hj).2⟩, fun _ j hj ho => ?_, i12, i13⟩
            · by_cases h5 : j = node.toNatClampNeg
              · rw [h5]; exact h3
              · rw [upd_o h5] at hc; exact (i10 h j hj).1 hc
            · obtain ⟨a1, a2⟩ := i11 h0 j hj ho
              have h5 : ¬ j = node.toNatClampNeg := fun e => a1 (by rw [e]; exact h4)
              rw [upd_o h5, updL_o h5]
              exact ⟨a1, a2⟩
          · simp only [if_neg h1, if_pos h2, if_neg h3, if_neg h4]; exact lr_mono hI
      · simp only [if_neg h1, if_neg h2]; exact lr_mono hI
set_option maxHeartbeats 4000000 in
set_option maxRecDepth 100000 in
theorem ar_opening (l : Launch) (D : va_G) {adc : Nat → Nat} {cyc : Nat → ClassId} {adm : Nat → Nat} {cym : Nat → ClassId} {q : Nat} {wC wM : va_W} (hq : q < 512) (hS : lr_S adc cyc adm cym q wC wM)  : lr_A l D adc cyc adm cym q yX3_opening wsX3_opening (ww_rm 1 22) yX4_opening wsX4_opening (ww_rm 1 23) [] wC wM := by
  obtain ⟨qc, T, phase, epoch, nxt, nextTurn, rsum, ecnt, esum, efac, enum, sum, seed, pot, estr, rowSeed, stream, terms, claimed, ewt, ewa, rlead, rnum, nw, nwa, nled, nmis, nmio, nas, nmem, ncom, nop, isMem, hasCom, hasOp, elects, waits, rowLeads, rowDraws, ndep, ndig, nnum, rfl, rfl, hI⟩ := hS
  by_cases h1 : phase = 1
  · have h0 : ¬ phase = 0 := by rw [h1]; decide
    obtain ⟨e1, e2, e3⟩ := hI.2.2.2.2.1 h0
    subst e1; subst e2; subst e3
    refine ⟨_, _, _, k_X3_opening l, k_X4_opening l, _, _, _, _, _, _, _, _, _, _, _, _, _, _, _, _, _, _, _, _, _, _, _, _, _, _, _, _, _, _, _, _, _, _, _, _, _, _, _, _, _, _, rfl, rfl, ?_⟩
    simp only [if_pos h1]
    obtain ⟨i1, i2, i3, i4, i5, i6, i7, i8, i9, i10, i11, i12, i13⟩ := lr_mono hI
    refine ⟨i1, Or.inr (Or.inr (Or.inl rfl)), ?_, fun h => absurd h (by decide), fun _ => ⟨rfl, rfl, rfl⟩, fun h => absurd h (by decide), fun j hj => ⟨rfl, rfl, rfl⟩, i8, fun _ => i9 h0, fun _ => i10 (Or.inl h1), fun _ => i11 h0, i12, i13⟩
    rw [i3, if_neg (by rw [h1]; decide), if_neg (by decide)]
  · have kc := k_X3_opening l (D := D) (ad := adc) (cy := cyc) (claims := (nI qc)) (phase := phase) (epoch := epoch) (nxt := nxt) (seed := seed) (pot := pot) (terms := terms) (claimed := claimed) (ecnt := ecnt) (esum := esum) (efac := efac) (estr := estr) (enum := enum) (ewt := ewt) (ewa := ewa) (rlen := (nI T)) (rsum := rsum) (rlead := rlead) (rnum := rnum) (nw := nw) (nwa := nwa) (nled := nled) (nmis := nmis) (nmio := nmio) (nas := nas) (nmem := nmem) (ncom := ncom) (nop := nop) (ndep := ndep) (ndig := ndig) (nnum := nnum)
    have km := k_X4_opening l (D := D) (ad := adm) (cy := cym) (phase := phase) (epoch := epoch) (turns := (nI T)) (nextTurn := nextTurn) (all := rsum) (claims := (nI qc)) (sum := sum) (seed := seed) (pot := pot) (rowSeed := rowSeed) (stream := stream) (terms := terms) (weight := nw) (wait := nwa) (led := nled) (missed := nmis) (running := nmio) (aside := nas) (isMem := isMem) (hasCom := hasCom) (hasOp := hasOp) (leads := rlead) (draws := rnum) (claim := claimed) (elects := elects) (waits := waits) (rowLeads := rowLeads) (rowDraws := rowDraws) (deposit := ndep) (committed := ndig) (opened := nnum)
    simp only [if_neg h1] at kc km
    exact ⟨_, _, _, kc, km, _, _, _, _, _, _, _, _, _, _, _, _, _, _, _, _, _, _, _, _, _, _, _, _, _, _, _, _, _, _, _, _, _, _, _, _, _, _, _, _, _, _, rfl, rfl, lr_mono hI⟩
set_option maxHeartbeats 4000000 in
set_option maxRecDepth 100000 in
theorem ar_open (l : Launch) (D : va_G) {adc : Nat → Nat} {cyc : Nat → ClassId} {adm : Nat → Nat} {cym : Nat → ClassId} {q : Nat} {wC wM : va_W} (hq : q < 512) (hS : lr_S adc cyc adm cym q wC wM) (node : Int32) (number : Int64) : lr_A l D adc cyc adm cym q yX3_open wsX3_open (ww_rm 2 45) yX4_open wsX4_open (ww_rm 2 45) [.int node, .long number] wC wM := by
  obtain ⟨qc, T, phase, epoch, nxt, nextTurn, rsum, ecnt, esum, efac, enum, sum, seed, pot, estr, rowSeed, stream, terms, claimed, ewt, ewa, rlead, rnum, nw, nwa, nled, nmis, nmio, nas, nmem, ncom, nop, isMem, hasCom, hasOp, elects, waits, rowLeads, rowDraws, ndep, ndig, nnum, rfl, rfl, hI⟩ := hS
  by_cases h0 : phase = 0
  · have n1 : ¬ phase = 2 := by rw [h0]; decide
    have kc := k_X3_open l node number (D := D) (ad := adc) (cy := cyc) (claims := (nI qc)) (phase := phase) (epoch := epoch) (nxt := nxt) (seed := seed) (pot := pot) (terms := terms) (claimed := claimed) (ecnt := ecnt) (esum := esum) (efac := efac) (estr := estr) (enum := enum) (ewt := ewt) (ewa := ewa) (rlen := (nI T)) (rsum := rsum) (rlead := rlead) (rnum := rnum) (nw := nw) (nwa := nwa) (nled := nled) (nmis := nmis) (nmio := nmio) (nas := nas) (nmem := nmem) (ncom := ncom) (nop := nop) (ndep := ndep) (ndig := ndig) (nnum := nnum)
    have km := k_X4_open l node number (D := D) (ad := adm) (cy := cym) (phase := phase) (epoch := epoch) (turns := (nI T)) (nextTurn := nextTurn) (all := rsum) (claims := (nI qc)) (sum := sum) (seed := seed) (pot := pot) (rowSeed := rowSeed) (stream := stream) (terms := terms) (weight := nw) (wait := nwa) (led := nled) (missed := nmis) (running := nmio) (aside := nas) (isMem := isMem) (hasCom := hasCom) (hasOp := hasOp) (leads := rlead) (draws := rnum) (claim := claimed) (elects := elects) (waits := waits) (rowLeads := rowLeads) (rowDraws := rowDraws) (deposit := ndep) (committed := ndig) (opened := nnum)
    simp only [if_neg n1, ite_self] at kc km
    exact ⟨_, _, _, kc, km, _, _, _, _, _, _, _, _, _, _, _, _, _, _, _, _, _, _, _, _, _, _, _, _, _, _, _, _, _, _, _, _, _, _, _, _, _, _, _, _, _, _, rfl, rfl, lr_mono hI⟩
  · obtain ⟨e1, e2, e3⟩ := hI.2.2.2.2.1 h0
    subst e1; subst e2; subst e3
    refine ⟨_, _, _, k_X3_open l node number, k_X4_open l node number, _, _, _, _, _, _, _, _, _, _, _, _, _, _, _, _, _, _, _, _, _, _, _, _, _, _, _, _, _, _, _, _, _, _, _, _, _, _, _, _, _, _, rfl, rfl, ?_⟩
    by_cases h1 : f_isN node = 0
    · simp only [if_pos h1]; exact lr_mono hI
    · by_cases h2 : phase = 2
      · by_cases h3 : f_wh (ncom node.toNatClampNeg) (nop node.toNatClampNeg) = 0
        · simp only [if_neg h1, if_pos h2, if_pos h3]; exact lr_mono hI
        · by_cases h4 : ndig node.toNatClampNeg = f_dig node number
          · simp only [if_neg h1, if_pos h2, if_neg h3, if_pos h4]
            obtain ⟨i1, i2, i3, i4, i5, i6, i7, i8, i9, i10, i11, i12, i13⟩ := lr_mono hI
            refine ⟨i1, i2, i3, i4, fun _ => ⟨rfl, rfl, rfl⟩, fun h => absurd h h0, fun j hj => ⟨rfl, rfl, rfl⟩, i8, i9, i10, fun _ j hj ho => ?_, i12, i13⟩
            by_cases h5 : j = node.toNatClampNeg
            · obtain ⟨k, hk, rfl⟩ := f_isN_in h1
              have ek : (nI k).toNatClampNeg = k := nI_clamp (by omega)
              rw [ek] at h3 h4 h5 ⊢
              subst h5
              rw [updL_s]
              exact ⟨fun h => h3 ((wh_iff _ _).mpr (Or.inl h)), h4⟩
            · rw [upd_o h5] at ho
              rw [updL_o h5]
              exact i11 h0 j hj ho
          · simp only [if_neg h1, if_pos h2, if_neg h3, if_neg h4]; exact lr_mono hI
      · simp only [if_neg h1, if_neg h2]; exact lr_mono hI
set_option maxHeartbeats 4000000 in
set_option maxRecDepth 100000 in
theorem ar_claim (l : Launch) (D : va_G) {adc : Nat → Nat} {cyc : Nat → ClassId} {adm : Nat → Nat} {cym : Nat → ClassId} {q : Nat} {wC wM : va_W} (hq : q < 512) (hS : lr_S adc cyc adm cym q wC wM) (node : Int32) : lr_A l D adc cyc adm cym q yX3_claim wsX3_claim (ww_rm 1 20) yX4_claim wsX4_claim (ww_rm 2 45) [.int node] wC wM := by
  obtain ⟨qc, T, phase, epoch, nxt, nextTurn, rsum, ecnt, esum, efac, enum, sum, seed, pot, estr, rowSeed, stream, terms, claimed, ewt, ewa, rlead, rnum, nw, nwa, nled, nmis, nmio, nas, nmem, ncom, nop, isMem, hasCom, hasOp, elects, waits, rowLeads, rowDraws, ndep, ndig, nnum, rfl, rfl, hI⟩ := hS
  have hq6 := hI.1.1
  by_cases h1 : f_isN node = 0
  · have kc := k_X3_claim l qc node hq6 (D := D) (ad := adc) (cy := cyc) (phase := phase) (epoch := epoch) (nxt := nxt) (seed := seed) (pot := pot) (terms := terms) (claimed := claimed) (ecnt := ecnt) (esum := esum) (efac := efac) (estr := estr) (enum := enum) (ewt := ewt) (ewa := ewa) (rlen := (nI T)) (rsum := rsum) (rlead := rlead) (rnum := rnum) (nw := nw) (nwa := nwa) (nled := nled) (nmis := nmis) (nmio := nmio) (nas := nas) (nmem := nmem) (ncom := ncom) (nop := nop) (ndep := ndep) (ndig := ndig) (nnum := nnum)
    have km := k_X4_claim l qc node hq6 (D := D) (ad := adm) (cy := cym) (phase := phase) (epoch := epoch) (turns := (nI T)) (nextTurn := nextTurn) (all := rsum) (sum := sum) (seed := seed) (pot := pot) (rowSeed := rowSeed) (stream := stream) (terms := terms) (weight := nw) (wait := nwa) (led := nled) (missed := nmis) (running := nmio) (aside := nas) (isMem := isMem) (hasCom := hasCom) (hasOp := hasOp) (leads := rlead) (draws := rnum) (claim := claimed) (elects := elects) (waits := waits) (rowLeads := rowLeads) (rowDraws := rowDraws) (deposit := ndep) (committed := ndig) (opened := nnum)
    simp only [if_pos h1] at kc km
    exact ⟨_, _, _, kc, km, _, _, _, _, _, _, _, _, _, _, _, _, _, _, _, _, _, _, _, _, _, _, _, _, _, _, _, _, _, _, _, _, _, _, _, _, _, _, _, _, _, _, rfl, rfl, lr_mono hI⟩
  · by_cases h2 : qc < 60
    · have kc := k_X3_claim l qc node hq6 (D := D) (ad := adc) (cy := cyc) (phase := phase) (epoch := epoch) (nxt := nxt) (seed := seed) (pot := pot) (terms := terms) (claimed := claimed) (ecnt := ecnt) (esum := esum) (efac := efac) (estr := estr) (enum := enum) (ewt := ewt) (ewa := ewa) (rlen := (nI T)) (rsum := rsum) (rlead := rlead) (rnum := rnum) (nw := nw) (nwa := nwa) (nled := nled) (nmis := nmis) (nmio := nmio) (nas := nas) (nmem := nmem) (ncom := ncom) (nop := nop) (ndep := ndep) (ndig := ndig) (nnum := nnum)
      have km := k_X4_claim l qc node hq6 (D := D) (ad := adm) (cy := cym) (phase := phase) (epoch := epoch) (turns := (nI T)) (nextTurn := nextTurn) (all := rsum) (sum := sum) (seed := seed) (pot := pot) (rowSeed := rowSeed) (stream := stream) (terms := terms) (weight := nw) (wait := nwa) (led := nled) (missed := nmis) (running := nmio) (aside := nas) (isMem := isMem) (hasCom := hasCom) (hasOp := hasOp) (leads := rlead) (draws := rnum) (claim := claimed) (elects := elects) (waits := waits) (rowLeads := rowLeads) (rowDraws := rowDraws) (deposit := ndep) (committed := ndig) (opened := nnum)
      simp only [if_neg h1, if_pos h2] at kc km
      refine ⟨_, _, _, kc, km, _, _, _, _, _, _, _, _, _, _, _, _, _, _, _, _, _, _, _, _, _, _, _, _, _, _, _, _, _, _, _, _, _, _, _, _, _, _, _, _, _, _, rfl, rfl, ?_⟩
      obtain ⟨i1, i2, i3, i4, i5, i6, i7, i8, i9, i10, i11, i12, i13⟩ := lr_mono hI
      exact ⟨⟨by omega, i1.2⟩, i2, i3, i4, i5, i6, i7, i8, i9, i10, i11, i12, i13⟩
    · have kc := k_X3_claim l qc node hq6 (D := D) (ad := adc) (cy := cyc) (phase := phase) (epoch := epoch) (nxt := nxt) (seed := seed) (pot := pot) (terms := terms) (claimed := claimed) (ecnt := ecnt) (esum := esum) (efac := efac) (estr := estr) (enum := enum) (ewt := ewt) (ewa := ewa) (rlen := (nI T)) (rsum := rsum) (rlead := rlead) (rnum := rnum) (nw := nw) (nwa := nwa) (nled := nled) (nmis := nmis) (nmio := nmio) (nas := nas) (nmem := nmem) (ncom := ncom) (nop := nop) (ndep := ndep) (ndig := ndig) (nnum := nnum)
      have km := k_X4_claim l qc node hq6 (D := D) (ad := adm) (cy := cym) (phase := phase) (epoch := epoch) (turns := (nI T)) (nextTurn := nextTurn) (all := rsum) (sum := sum) (seed := seed) (pot := pot) (rowSeed := rowSeed) (stream := stream) (terms := terms) (weight := nw) (wait := nwa) (led := nled) (missed := nmis) (running := nmio) (aside := nas) (isMem := isMem) (hasCom := hasCom) (hasOp := hasOp) (leads := rlead) (draws := rnum) (claim := claimed) (elects := elects) (waits := waits) (rowLeads := rowLeads) (rowDraws := rowDraws) (deposit := ndep) (committed := ndig) (opened := nnum)
      simp only [if_neg h1, if_neg h2] at kc km
      exact ⟨_, _, _, kc, km, _, _, _, _, _, _, _, _, _, _, _, _, _, _, _, _, _, _, _, _, _, _, _, _, _, _, _, _, _, _, _, _, _, _, _, _, _, _, _, _, _, _, rfl, rfl, lr_mono hI⟩
set_option maxHeartbeats 4000000 in
set_option maxRecDepth 100000 in
theorem ar_check (l : Launch) (D : va_G) {adc : Nat → Nat} {cyc : Nat → ClassId} {adm : Nat → Nat} {cym : Nat → ClassId} {q : Nat} {wC wM : va_W} (hq : q < 512) (hS : lr_S adc cyc adm cym q wC wM)  : lr_A l D adc cyc adm cym q yX3_check wsX3_check (ww_rm 2 46) yX4_check wsX4_check (ww_rm 0 0) [] wC wM := by
  obtain ⟨qc, T, phase, epoch, nxt, nextTurn, rsum, ecnt, esum, efac, enum, sum, seed, pot, estr, rowSeed, stream, terms, claimed, ewt, ewa, rlead, rnum, nw, nwa, nled, nmis, nmio, nas, nmem, ncom, nop, isMem, hasCom, hasOp, elects, waits, rowLeads, rowDraws, ndep, ndig, nnum, rfl, rfl, hI⟩ := hS
  refine ⟨_, _, _, k_X3_check l qc T hI.1.1 hI.1.2, k_X4_check l qc T hI.1.1 hI.1.2, 0, _, _, _, _, _, _, _, _, _, _, _, _, _, _, _, _, _, _, _, _, _, _, _, _, _, _, _, _, _, _, _, _, _, _, _, _, _, _, _, _, _, rfl, rfl, ?_⟩
  obtain ⟨i1, i2, i3, i4, i5, i6, i7, i8, i9, i10, i11, i12, i13⟩ := lr_mono hI
  exact ⟨⟨by omega, i1.2⟩, i2, i3, i4, i5, i6, i7, i8, i9, i10, i11, i12, i13⟩
set_option maxHeartbeats 4000000 in
set_option maxRecDepth 100000 in
theorem ar_choices (l : Launch) (D : va_G) {adc : Nat → Nat} {cyc : Nat → ClassId} {adm : Nat → Nat} {cym : Nat → ClassId} {q : Nat} {wC wM : va_W} (hq : q < 512) (hS : lr_S adc cyc adm cym q wC wM)  : lr_A l D adc cyc adm cym q yX3_choices wsX3_choices (ww_rm 1 22) yX4_choices wsX4_choices (ww_rm 1 23) [] wC wM := by
  obtain ⟨qc, T, phase, epoch, nxt, nextTurn, rsum, ecnt, esum, efac, enum, sum, seed, pot, estr, rowSeed, stream, terms, claimed, ewt, ewa, rlead, rnum, nw, nwa, nled, nmis, nmio, nas, nmem, ncom, nop, isMem, hasCom, hasOp, elects, waits, rowLeads, rowDraws, ndep, ndig, nnum, rfl, rfl, hI⟩ := hS
  by_cases h0 : phase = 0
  · have n1 : ¬ phase = 2 := by rw [h0]; decide
    have kc := k_X3_choices l (D := D) (ad := adc) (cy := cyc) (claims := (nI qc)) (phase := phase) (epoch := epoch) (nxt := nxt) (seed := seed) (pot := pot) (terms := terms) (claimed := claimed) (ecnt := ecnt) (esum := esum) (efac := efac) (estr := estr) (enum := enum) (ewt := ewt) (ewa := ewa) (rlen := (nI T)) (rsum := rsum) (rlead := rlead) (rnum := rnum) (nw := nw) (nwa := nwa) (nled := nled) (nmis := nmis) (nmio := nmio) (nas := nas) (nmem := nmem) (ncom := ncom) (nop := nop) (ndep := ndep) (ndig := ndig) (nnum := nnum)
    have km := k_X4_choices l (D := D) (ad := adm) (cy := cym) (phase := phase) (epoch := epoch) (turns := (nI T)) (nextTurn := nextTurn) (all := rsum) (claims := (nI qc)) (sum := sum) (seed := seed) (pot := pot) (rowSeed := rowSeed) (stream := stream) (terms := terms) (weight := nw) (wait := nwa) (led := nled) (missed := nmis) (running := nmio) (aside := nas) (isMem := isMem) (hasCom := hasCom) (hasOp := hasOp) (leads := rlead) (draws := rnum) (claim := claimed) (elects := elects) (waits := waits) (rowLeads := rowLeads) (rowDraws := rowDraws) (deposit := ndep) (committed := ndig) (opened := nnum)
    simp only [if_neg n1] at kc km
    exact ⟨_, _, _, kc, km, _, _, _, _, _, _, _, _, _, _, _, _, _, _, _, _, _, _, _, _, _, _, _, _, _, _, _, _, _, _, _, _, _, _, _, _, _, _, _, _, _, _, rfl, rfl, lr_mono hI⟩
  · obtain ⟨e1, e2, e3⟩ := hI.2.2.2.2.1 h0
    subst e1; subst e2; subst e3
    exact ⟨_, _, _, k_X3_choices l, k_X4_choices l, _, _, _, _, _, _, _, _, _, _, _, _, _, _, _, _, _, _, _, _, _, _, _, _, _, _, _, _, _, _, _, _, _, _, _, _, _, _, _, _, _, _, rfl, rfl, lr_mono hI⟩
theorem now_i {q qc T : Nat} {phase epoch nxt nextTurn : Int32} {terms rlead nw nas nmem ncom nop isMem hasCom hasOp : Nat → Int32} {ndep ndig nnum : Nat → Int64} (h : lr_I q qc T phase epoch nxt nextTurn terms rlead nw nas nmem ncom nop isMem hasCom hasOp ndep ndig nnum) {k : Nat} (hk : k < 12) : g_now phase (isMem k) = nmem k ∧ g_now phase (hasCom k) = ncom k ∧ g_now phase (hasOp k) = nop k := by
  unfold g_now
  by_cases h0 : phase = 0
  · rw [if_pos (show phase ≤ 0 by rw [h0]; decide), if_pos (show phase ≤ 0 by rw [h0]; decide), if_pos (show phase ≤ 0 by rw [h0]; decide)]
    obtain ⟨a, b, c⟩ := h.2.2.2.2.2.1 h0 k hk
    exact ⟨a.symm, b.symm, c.symm⟩
  · have hp : ¬ phase ≤ 0 := by
      rcases h.2.1 with q | q | q | q
      · exact absurd q h0
      · rw [q]; decide
      · rw [q]; decide
      · rw [q]; decide
    obtain ⟨a, b, c⟩ := h.2.2.2.2.1 h0
    rw [if_neg hp, if_neg hp, if_neg hp, a, b, c]
    exact ⟨rfl, rfl, rfl⟩
set_option maxHeartbeats 4000000 in
set_option maxRecDepth 100000 in
theorem ar_node (l : Launch) (D : va_G) {adc : Nat → Nat} {cyc : Nat → ClassId} {adm : Nat → Nat} {cym : Nat → ClassId} {q : Nat} {wC wM : va_W} (hq : q < 512) (hS : lr_S adc cyc adm cym q wC wM) (node : Int32) (what : Int32) : lr_A l D adc cyc adm cym q yX3_node wsX3_node (ww_rm 1 21) yX4_node wsX4_node (ww_rm 2 45) [.int node, .int what] wC wM := by
  obtain ⟨qc, T, phase, epoch, nxt, nextTurn, rsum, ecnt, esum, efac, enum, sum, seed, pot, estr, rowSeed, stream, terms, claimed, ewt, ewa, rlead, rnum, nw, nwa, nled, nmis, nmio, nas, nmem, ncom, nop, isMem, hasCom, hasOp, elects, waits, rowLeads, rowDraws, ndep, ndig, nnum, rfl, rfl, hI⟩ := hS
  have km := k_X4_node l node what (D := D) (ad := adm) (cy := cym) (phase := phase) (epoch := epoch) (turns := (nI T)) (nextTurn := nextTurn) (all := rsum) (claims := (nI qc)) (sum := sum) (seed := seed) (pot := pot) (rowSeed := rowSeed) (stream := stream) (terms := terms) (weight := nw) (wait := nwa) (led := nled) (missed := nmis) (running := nmio) (aside := nas) (isMem := isMem) (hasCom := hasCom) (hasOp := hasOp) (leads := rlead) (draws := rnum) (claim := claimed) (elects := elects) (waits := waits) (rowLeads := rowLeads) (rowDraws := rowDraws) (deposit := ndep) (committed := ndig) (opened := nnum)
  by_cases h1 : f_isN node = 0
  · have kc := k_X3_node l node what (D := D) (ad := adc) (cy := cyc) (claims := (nI qc)) (phase := phase) (epoch := epoch) (nxt := nxt) (seed := seed) (pot := pot) (terms := terms) (claimed := claimed) (ecnt := ecnt) (esum := esum) (efac := efac) (estr := estr) (enum := enum) (ewt := ewt) (ewa := ewa) (rlen := (nI T)) (rsum := rsum) (rlead := rlead) (rnum := rnum) (nw := nw) (nwa := nwa) (nled := nled) (nmis := nmis) (nmio := nmio) (nas := nas) (nmem := nmem) (ncom := ncom) (nop := nop) (ndep := ndep) (ndig := ndig) (nnum := nnum)
    simp only [if_pos h1] at kc km
    exact ⟨_, _, _, kc, km, _, _, _, _, _, _, _, _, _, _, _, _, _, _, _, _, _, _, _, _, _, _, _, _, _, _, _, _, _, _, _, _, _, _, _, _, _, _, _, _, _, _, rfl, rfl, lr_mono hI⟩
  · obtain ⟨k, hk, rfl⟩ := f_isN_in h1
    have ek : (nI k).toNatClampNeg = k := nI_clamp (by omega)
    obtain ⟨a, b, c⟩ := now_i hI hk
    have kc := k_X3_node l (nI k) what (D := D) (ad := adc) (cy := cyc) (claims := (nI qc)) (phase := phase) (epoch := epoch) (nxt := nxt) (seed := seed) (pot := pot) (terms := terms) (claimed := claimed) (ecnt := ecnt) (esum := esum) (efac := efac) (estr := estr) (enum := enum) (ewt := ewt) (ewa := ewa) (rlen := (nI T)) (rsum := rsum) (rlead := rlead) (rnum := rnum) (nw := nw) (nwa := nwa) (nled := nled) (nmis := nmis) (nmio := nmio) (nas := nas) (nmem := nmem) (ncom := ncom) (nop := nop) (ndep := ndep) (ndig := ndig) (nnum := nnum)
    rw [ek] at kc km
    rw [a, b, c] at km
    exact ⟨_, _, _, kc, km, _, _, _, _, _, _, _, _, _, _, _, _, _, _, _, _, _, _, _, _, _, _, _, _, _, _, _, _, _, _, _, _, _, _, _, _, _, _, _, _, _, _, rfl, rfl, lr_mono hI⟩
set_option maxHeartbeats 4000000 in
set_option maxRecDepth 100000 in
theorem ar_turn (l : Launch) (D : va_G) {adc : Nat → Nat} {cyc : Nat → ClassId} {adm : Nat → Nat} {cym : Nat → ClassId} {q : Nat} {wC wM : va_W} (hq : q < 512) (hS : lr_S adc cyc adm cym q wC wM) (done : Int32) : lr_A l D adc cyc adm cym q yX3_turn wsX3_turn (ww_rm 3 67) yX4_turn wsX4_turn (ww_rm 0 0) [.int done] wC wM := by
  obtain ⟨qc, T, phase, epoch, nxt, nextTurn, rsum, ecnt, esum, efac, enum, sum, seed, pot, estr, rowSeed, stream, terms, claimed, ewt, ewa, rlead, rnum, nw, nwa, nled, nmis, nmio, nas, nmem, ncom, nop, isMem, hasCom, hasOp, elects, waits, rowLeads, rowDraws, ndep, ndig, nnum, rfl, rfl, hI⟩ := hS
  by_cases h3 : phase = 3
  · obtain ⟨⟨x, hx, rfl⟩, hl⟩ := hI.2.2.2.1 h3
    obtain ⟨j, hj, hlj⟩ := hl x hx
    have hn := hI.2.2.1
    rw [if_pos h3] at hn
    subst hn; subst h3
    obtain ⟨e1, e2, e3⟩ := hI.2.2.2.2.1 (by decide)
    subst e1; subst e2; subst e3
    refine ⟨_, _, _, k_X3_turn l x T j done hx hI.1.2 hj hlj, k_X4_turn l x T j done hx hI.1.2 hj hlj, _, _, _, _, _, _, _, _, _, _, _, _, _, _, _, _, _, _, _, _, _, _, _, _, _, _, _, _, _, _, _, _, _, _, _, _, _, _, _, _, _, _, rfl, rfl, ?_⟩
    obtain ⟨i1, i2, i3, i4, i5, i6, i7, i8, i9, i10, i11, i12, i13⟩ := lr_mono hI
    by_cases h4 : x + 1 < T
    · simp only [if_pos h4]
      refine ⟨i1, Or.inr (Or.inr (Or.inr rfl)), (if_pos rfl).symm, fun _ => ⟨⟨x + 1, h4, rfl⟩, hl⟩, fun _ => ⟨rfl, rfl, rfl⟩, fun h => absurd h (by decide), fun j hj => ⟨rfl, rfl, rfl⟩, i8, fun _ => i9 (by decide), fun h => h.elim (fun q => absurd q (by decide)) (fun q => absurd q (by decide)), fun _ => i11 (by decide), i12, i13⟩
    · simp only [if_neg h4]
      refine ⟨i1, Or.inl rfl, (if_neg (by decide)).symm, fun h => absurd h (by decide), fun h => absurd rfl h, fun _ j hj => ?_, fun j hj => ?_, i8, fun h => absurd rfl h, fun h => h.elim (fun q => absurd q (by decide)) (fun q => absurd q (by decide)), fun h => absurd rfl h, i12, i13⟩
      · rw [mx_lo _ _ hj, mx_lo _ _ hj, mx_lo _ _ hj]; exact ⟨rfl, rfl, rfl⟩
      · rw [mx_hi _ _ hj, mx_hi _ _ hj, mx_hi _ _ hj]; exact ⟨rfl, rfl, rfl⟩
  · exact ⟨_, _, _, k_X3_turnN l done h3, k_X4_turnN l done h3, _, _, _, _, _, _, _, _, _, _, _, _, _, _, _, _, _, _, _, _, _, _, _, _, _, _, _, _, _, _, _, _, _, _, _, _, _, _, _, _, _, _, rfl, rfl, lr_mono hI⟩
