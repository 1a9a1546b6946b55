/-! the walk stays near its circle -/
theorem sq_b {U : Int} (h : U * U ≤ 25100000) : -9999 ≤ U ∧ U ≤ 9999 := by
  constructor
  · rcases Int.lt_or_le U (-9999) with q | q
    · have h1 : 10000 ≤ -U := by omega
      have h2 : (10000 : Int) * 10000 ≤ -U * -U := Int.mul_le_mul h1 h1 (by omega) (by omega)
      rw [Int.neg_mul_neg] at h2
      omega
    · exact q
  · rcases Int.lt_or_le 9999 U with q | q
    · have h1 : 10000 ≤ U := by omega
      have h2 : (10000 : Int) * 10000 ≤ U * U := Int.mul_le_mul h1 h1 (by omega) (by omega)
      omega
    · exact q
theorem sq_0 (U : Int) : 0 ≤ U * U := by
  rcases Int.lt_or_le U 0 with q | q
  · have := Int.mul_nonneg (show 0 ≤ -U by omega) (show 0 ≤ -U by omega)
    rw [Int.neg_mul_neg] at this
    exact this
  · exact Int.mul_nonneg q q
/-- a step along an axis, chosen by what is wanted -/
theorem cd_i (lf : Int32) {dx dy sq : Int64} (hx : dx.toInt.natAbs ≤ 250000) (hy : dy.toInt.natAbs ≤ 250000) (hs : 0 ≤ sq.toInt ∧ sq.toInt ≤ 25000000) (hne : ¬ (dx.toInt = 0 ∧ dy.toInt = 0)) {M : Int} (h1 : -M ≤ dx.toInt ∧ dx.toInt ≤ M) (h2 : -M ≤ dy.toInt ∧ dy.toInt ≤ M) {A : Int} (hA : -A ≤ dx.toInt * dx.toInt + dy.toInt * dy.toInt - sq.toInt ∧ dx.toInt * dx.toInt + dy.toInt * dy.toInt - sq.toInt ≤ A) (hAM : 2 * M ≤ A) :
    ∃ i, i < 8 ∧ st_c lf dx dy i = true ∧ (st_b dx dy sq i).toInt ≤ A + 1 := by
  have e0 : (0 : Int64).toInt = 0 := by decide
  have cL : ∀ i, i < 8 → ¬ lf = 0 → 0 < dx.toInt * (st_Y i).toInt - dy.toInt * (st_X i).toInt → st_c lf dx dy i = true := fun i hi hl h => by
    unfold st_c
    rw [if_neg hl]
    exact decide_eq_true (Int64.lt_iff_toInt_lt.mpr (by rw [e0, tn_t hi hx hy]; exact h))
  have cR : ∀ i, i < 8 → lf = 0 → dx.toInt * (st_Y i).toInt - dy.toInt * (st_X i).toInt < 0 → st_c lf dx dy i = true := fun i hi hl h => by
    unfold st_c
    rw [if_pos hl]
    exact decide_eq_true (Int64.lt_iff_toInt_lt.mpr (by rw [e0, tn_t hi hx hy]; exact h))
  have x0 : (st_X 0).toInt = 1 := by decide
  have y0 : (st_Y 0).toInt = 0 := by decide
  have x2 : (st_X 2).toInt = 0 := by decide
  have y2 : (st_Y 2).toInt = 1 := by decide
  have x4 : (st_X 4).toInt = -1 := by decide
  have y4 : (st_Y 4).toInt = 0 := by decide
  have x6 : (st_X 6).toInt = 0 := by decide
  have y6 : (st_Y 6).toInt = -1 := by decide
  generalize hU : dx.toInt = U at *
  generalize hV : dy.toInt = V at *
  generalize hSS : sq.toInt = S at *
  generalize hP : U * U = P at *
  generalize hQ : V * V = Q at *
  have q0 : (st_b dx dy sq 0).toInt = (P + 2 * U + 1 + Q - S).natAbs := by
    rw [sb_t (by omega) (by omega) (by omega) (by omega), hU, hV, hSS, x0, y0, ← hP, ← hQ, Int.mul_add, Int.add_mul, Int.add_zero]; omega
  have q2 : (st_b dx dy sq 2).toInt = (P + 2 * V + 1 + Q - S).natAbs := by
    rw [sb_t (by omega) (by omega) (by omega) (by omega), hU, hV, hSS, x2, y2, ← hP, ← hQ, Int.mul_add (V + 1), Int.add_mul V, Int.add_zero]; omega
  have q4 : (st_b dx dy sq 4).toInt = (P - 2 * U + 1 + Q - S).natAbs := by
    rw [sb_t (by omega) (by omega) (by omega) (by omega), hU, hV, hSS, x4, y4, ← hP, ← hQ, Int.mul_add, Int.add_mul, Int.add_zero]; omega
  have q6 : (st_b dx dy sq 6).toInt = (P - 2 * V + 1 + Q - S).natAbs := by
    rw [sb_t (by omega) (by omega) (by omega) (by omega), hU, hV, hSS, x6, y6, ← hP, ← hQ, Int.mul_add (V + -1), Int.add_mul V, Int.add_zero]; omega
  by_cases hl : lf = 0
  · have c0 := cR 0 (by omega) hl
    have c2 := cR 2 (by omega) hl
    have c4 := cR 4 (by omega) hl
    have c6 := cR 6 (by omega) hl
    rw [x0, y0] at c0
    rw [x2, y2] at c2
    rw [x4, y4] at c4
    rw [x6, y6] at c6
    -- right: E if V > 0, N if U < 0, W if V < 0, S if U > 0
    rcases Int.lt_or_le S (P + Q) with g | g
    · rcases Int.lt_trichotomy U 0 with u | u | u
      · rcases Int.lt_or_le 0 V with v | v
        · exact ⟨0, by omega, c0 (by omega), by rw [q0]; omega⟩
        · exact ⟨2, by omega, c2 (by omega), by rw [q2]; omega⟩
      · rcases Int.lt_or_le 0 V with v | v
        · exact ⟨0, by omega, c0 (by omega), by rw [q0]; omega⟩
        · exact ⟨4, by omega, c4 (by omega), by rw [q4]; omega⟩
      · rcases Int.lt_or_le V 0 with v | v
        · exact ⟨4, by omega, c4 (by omega), by rw [q4]; omega⟩
        · exact ⟨6, by omega, c6 (by omega), by rw [q6]; omega⟩
    · rcases Int.lt_trichotomy U 0 with u | u | u
      · rcases Int.lt_or_le V 0 with v | v
        · exact ⟨4, by omega, c4 (by omega), by rw [q4]; omega⟩
        · exact ⟨2, by omega, c2 (by omega), by rw [q2]; omega⟩
      · rcases Int.lt_or_le 0 V with v | v
        · exact ⟨0, by omega, c0 (by omega), by rw [q0]; omega⟩
        · exact ⟨4, by omega, c4 (by omega), by rw [q4]; omega⟩
      · rcases Int.lt_or_le 0 V with v | v
        · exact ⟨0, by omega, c0 (by omega), by rw [q0]; omega⟩
        · exact ⟨6, by omega, c6 (by omega), by rw [q6]; omega⟩
  · have c0 := cL 0 (by omega) hl
    have c2 := cL 2 (by omega) hl
    have c4 := cL 4 (by omega) hl
    have c6 := cL 6 (by omega) hl
    rw [x0, y0] at c0
    rw [x2, y2] at c2
    rw [x4, y4] at c4
    rw [x6, y6] at c6
    -- left: E if V < 0, N if U > 0, W if V > 0, S if U < 0
    rcases Int.lt_or_le S (P + Q) with g | g
    · rcases Int.lt_trichotomy U 0 with u | u | u
      · rcases Int.lt_or_le V 0 with v | v
        · exact ⟨0, by omega, c0 (by omega), by rw [q0]; omega⟩
        · exact ⟨6, by omega, c6 (by omega), by rw [q6]; omega⟩
      · rcases Int.lt_or_le V 0 with v | v
        · exact ⟨0, by omega, c0 (by omega), by rw [q0]; omega⟩
        · exact ⟨4, by omega, c4 (by omega), by rw [q4]; omega⟩
      · rcases Int.lt_or_le 0 V with v | v
        · exact ⟨4, by omega, c4 (by omega), by rw [q4]; omega⟩
        · exact ⟨2, by omega, c2 (by omega), by rw [q2]; omega⟩
    · rcases Int.lt_trichotomy U 0 with u | u | u
      · rcases Int.lt_or_le 0 V with v | v
        · exact ⟨4, by omega, c4 (by omega), by rw [q4]; omega⟩
        · exact ⟨6, by omega, c6 (by omega), by rw [q6]; omega⟩
      · rcases Int.lt_or_le V 0 with v | v
        · exact ⟨0, by omega, c0 (by omega), by rw [q0]; omega⟩
        · exact ⟨4, by omega, c4 (by omega), by rw [q4]; omega⟩
      · rcases Int.lt_or_le V 0 with v | v
        · exact ⟨0, by omega, c0 (by omega), by rw [q0]; omega⟩
        · exact ⟨2, by omega, c2 (by omega), by rw [q2]; omega⟩
def ob_a (lf : Int32) (sq : Int64) (cx cy : Int32) (q : Int32 × Int32) (n : Nat) : Int64 := ab_l (sq_c (ob_p lf sq cx cy q n).1 cx (ob_p lf sq cx cy q n).2 cy - sq)
theorem sc_t {a b d e : Int32} (ha : -200000 ≤ a.toInt ∧ a.toInt ≤ 200000) (hb : -40000 ≤ b.toInt ∧ b.toInt ≤ 40000) (hd : -200000 ≤ d.toInt ∧ d.toInt ≤ 200000) (he : -40000 ≤ e.toInt ∧ e.toInt ≤ 40000) : (sq_c a b d e).toInt = (a.toInt - b.toInt) * (a.toInt - b.toInt) + (d.toInt - e.toInt) * (d.toInt - e.toInt) := by
  have e1 := df_t ha hb
  have e2 := df_t hd he
  have p1 := pr_n (x := a.toInt - b.toInt) (y := a.toInt - b.toInt) (B := 250000) (C := 250000) (by omega) (by omega)
  have p2 := pr_n (x := d.toInt - e.toInt) (y := d.toInt - e.toInt) (B := 250000) (C := 250000) (by omega) (by omega)
  unfold sq_c
  have m1 : ((a - b).toInt64 * (a - b).toInt64).toInt = (a.toInt - b.toInt) * (a.toInt - b.toInt) := by rw [mu_l (by rw [e1]; omega) (by rw [e1]; omega), e1]
  have m2 : ((d - e).toInt64 * (d - e).toInt64).toInt = (d.toInt - e.toInt) * (d.toInt - e.toInt) := by rw [mu_l (by rw [e2]; omega) (by rw [e2]; omega), e2]
  rw [ad_l (by rw [m1, m2]; omega) (by rw [m1, m2]; omega), m1, m2]
theorem oa_b {lf : Int32} {sq : Int64} {cx cy : Int32} {q : Int32 × Int32} (hx : pl_in q.1) (hy : pl_in q.2) (hcx : ce_in cx) (hcy : ce_in cy) (hq : sq = sq_c q.1 cx q.2 cy) (hs : 1 ≤ sq.toInt ∧ sq.toInt ≤ 25000000) :
    ∀ n : Nat, n ≤ 40000 → (∀ j, j < n → ¬ ob_d lf sq cx cy (ob_p lf sq cx cy q j) < 0) → 0 ≤ (ob_a lf sq cx cy q n).toInt ∧ (ob_a lf sq cx cy q n).toInt ≤ 20000 + n := by
  intro n
  induction n with
  | zero =>
    intro _ _
    have e : ob_a lf sq cx cy q 0 = 0 := by
      unfold ob_a
      simp only [ob_p]
      rw [← hq, Int64.sub_self]
      rfl
    rw [e]
    decide
  | succ n ih =>
    intro hn hd
    obtain ⟨i1, i2⟩ := ih (by omega) (fun j h => hd j (by omega))
    obtain ⟨⟨b1, b2⟩, b3, b4⟩ := ob_b (lf := lf) (sq := sq) (cx := cx) (cy := cy) hx hy n (by omega)
    have c1 := ce_t hcx
    have c2 := ce_t hcy
    obtain ⟨j, hj, hdj⟩ := ob_ix (hd n (by omega))
    have hsj := sx_t hj
    have ux := df_t (a := (ob_p lf sq cx cy q n).1) (b := cx) (by omega) (by omega)
    have uy := df_t (a := (ob_p lf sq cx cy q n).2) (b := cy) (by omega) (by omega)
    -- the present place's amount
    have s0 := sc_t (a := (ob_p lf sq cx cy q n).1) (b := cx) (d := (ob_p lf sq cx cy q n).2) (e := cy) (by omega) (by omega) (by omega) (by omega)
    have p1 := pr_n (x := (ob_p lf sq cx cy q n).1.toInt - cx.toInt) (y := (ob_p lf sq cx cy q n).1.toInt - cx.toInt) (B := 250000) (C := 250000) (by omega) (by omega)
    have p2 := pr_n (x := (ob_p lf sq cx cy q n).2.toInt - cy.toInt) (y := (ob_p lf sq cx cy q n).2.toInt - cy.toInt) (B := 250000) (C := 250000) (by omega) (by omega)
    have s1 := sb_l (a := sq_c (ob_p lf sq cx cy q n).1 cx (ob_p lf sq cx cy q n).2 cy) (b := sq) (by rw [s0]; omega) (by rw [s0]; omega)
    rw [s0] at s1
    have a0 : (ob_a lf sq cx cy q n).toInt = ((((ob_p lf sq cx cy q n).1.toInt - cx.toInt) * ((ob_p lf sq cx cy q n).1.toInt - cx.toInt) + ((ob_p lf sq cx cy q n).2.toInt - cy.toInt) * ((ob_p lf sq cx cy q n).2.toInt - cy.toInt) - sq.toInt).natAbs : Int) := by
      unfold ob_a
      rw [ab_t (by rw [s1]; omega), s1]
    -- the next place's amount is the chosen neighbour's
    have e1 : ob_a lf sq cx cy q (n + 1) = st_b ((ob_p lf sq cx cy q n).1 - cx).toInt64 ((ob_p lf sq cx cy q n).2 - cy).toInt64 sq j := by
      unfold ob_a st_b sq_c
      rw [show ob_p lf sq cx cy q (n + 1) = ((ob_p lf sq cx cy q n).1 + st_X j, (ob_p lf sq cx cy q n).2 + st_Y j) by rw [ob_p]; exact ob_sj hj hdj]
      dsimp only
      rw [← l6_step (by omega) c1 hsj.1, ← l6_step (by omega) c2 hsj.2]
    obtain ⟨k1, k2⟩ := st_F_ok lf ((ob_p lf sq cx cy q n).1 - cx).toInt64 ((ob_p lf sq cx cy q n).2 - cy).toInt64 sq 8 (by decide) j hj hdj
    have g1 := sq_0 ((ob_p lf sq cx cy q n).1.toInt - cx.toInt)
    have g2 := sq_0 ((ob_p lf sq cx cy q n).2.toInt - cy.toInt)
    have g3 := sq_b (U := (ob_p lf sq cx cy q n).1.toInt - cx.toInt) (by omega)
    have g4 := sq_b (U := (ob_p lf sq cx cy q n).2.toInt - cy.toInt) (by omega)
    have e0 : (0 : Int64).toInt = 0 := by decide
    have hne : ¬ (((ob_p lf sq cx cy q n).1 - cx).toInt64.toInt = 0 ∧ ((ob_p lf sq cx cy q n).2 - cy).toInt64.toInt = 0) := by
      intro h
      have t0 := tn_t (dx := ((ob_p lf sq cx cy q n).1 - cx).toInt64) (dy := ((ob_p lf sq cx cy q n).2 - cy).toInt64) hj (by omega) (by omega)
      rw [h.1, h.2, Int.zero_mul, Int.zero_mul] at t0
      unfold st_c at k1
      by_cases hl : lf = 0
      · rw [if_pos hl] at k1
        have := Int64.lt_iff_toInt_lt.mp (of_decide_eq_true k1)
        omega
      · rw [if_neg hl] at k1
        have := Int64.lt_iff_toInt_lt.mp (of_decide_eq_true k1)
        omega
    obtain ⟨i, hi, hc, hle⟩ := cd_i lf (dx := ((ob_p lf sq cx cy q n).1 - cx).toInt64) (dy := ((ob_p lf sq cx cy q n).2 - cy).toInt64) (sq := sq) (by omega) (by omega) (by omega) hne (M := 9999) (by omega) (by omega) (A := 20000 + n) (by rw [ux, uy]; omega) (by omega)
    obtain ⟨-, m2⟩ := st_F_min lf ((ob_p lf sq cx cy q n).1 - cx).toInt64 ((ob_p lf sq cx cy q n).2 - cy).toInt64 sq 8 (by decide) i hi hc
    rw [k2] at m2
    have m3 := Int64.le_iff_toInt_le.mp m2
    have t1 := sb_t (dx := ((ob_p lf sq cx cy q n).1 - cx).toInt64) (dy := ((ob_p lf sq cx cy q n).2 - cy).toInt64) (sq := sq) hj (by omega) (by omega) (by omega)
    rw [e1]
    omega
theorem ow_eq {lf : Int32} {sq : Int64} {cx cy : Int32} {q : Int32 × Int32} (hx : pl_in q.1) (hy : pl_in q.2) (hcx : ce_in cx) (hcy : ce_in cy) (hq : sq = sq_c q.1 cx q.2 cy) (hs : 1 ≤ sq.toInt ∧ sq.toInt ≤ 25000000) :
    ∀ n : Nat, n ≤ 40000 → (∀ j, j < n → ¬ ob_d lf sq cx cy (ob_p lf sq cx cy q j) < 0) → (0 ≤ (ob_w lf sq cx cy q n).toInt ∧ (ob_w lf sq cx cy q n).toInt ≤ 60000) ∧ (ob_w lf sq cx cy q n).toInt32 = ob_o lf sq cx cy q n := by
  have s32 : ∀ z : Int64, 0 ≤ z.toInt → z.toInt ≤ 60000 → z.toInt32.toInt = z.toInt := fun z h1 h2 => by
    rw [Int64.toInt_toInt32, Int.bmod_eq_of_le (by omega) (by omega)]
  intro n
  induction n with
  | zero => intro _ _; exact ⟨show 0 ≤ (0 : Int64).toInt ∧ (0 : Int64).toInt ≤ 60000 by decide, rfl⟩
  | succ n ih =>
    intro hn hd
    obtain ⟨⟨i1, i2⟩, i3⟩ := ih (by omega) (fun j h => hd j (by omega))
    obtain ⟨a1, a2⟩ := oa_b hx hy hcx hcy hq hs (n + 1) hn hd
    have ea : ab_l (sq_c (ob_p lf sq cx cy q (n + 1)).1 cx (ob_p lf sq cx cy q (n + 1)).2 cy - sq) = ob_a lf sq cx cy q (n + 1) := rfl
    rw [ob_w, ob_o, ea, ← i3]
    have t1 := s32 _ i1 i2
    have t2 := s32 _ a1 (by omega)
    unfold mx_i
    by_cases h : ob_a lf sq cx cy q (n + 1) < ob_w lf sq cx cy q n
    · have h1 := Int64.lt_iff_toInt_lt.mp h
      rw [if_pos h, if_neg (fun g => by have := Int32.lt_iff_toInt_lt.mp g; omega)]
      exact ⟨⟨i1, i2⟩, rfl⟩
    · have h1 := Int64.le_iff_toInt_le.mp (Int64.not_lt.mp h)
      rw [if_neg h]
      refine ⟨⟨a1, by omega⟩, ?_⟩
      by_cases g : (ob_w lf sq cx cy q n).toInt32 < (ob_a lf sq cx cy q (n + 1)).toInt32
      · rw [if_pos g]
      · rw [if_neg g]
        have g2 := Int32.le_iff_toInt_le.mp (Int32.not_lt.mp g)
        exact Int32.toInt_inj.mp (by omega)
