/-! lines: class and reference -/
theorem ga_am (x y z : Int32) : ga_m x y z = mx_i (am_i x) (mx_i (am_i y) (am_i z)) := by
  unfold ga_m
  rw [ab_am, ab_am, ab_am]
theorem am_t {x : Int32} (h : -1000000 ≤ x.toInt ∧ x.toInt ≤ 1000000) : (am_i x).toInt = x.toInt.natAbs := by
  have e : (0 : Int32).toInt = 0 := by decide
  unfold am_i
  by_cases g : 0 ≤ x
  · rw [if_pos g]
    have := Int32.le_iff_toInt_le.mp g
    omega
  · rw [if_neg g]
    have g2 := Int32.lt_iff_toInt_lt.mp (Int32.not_le.mp g)
    rw [Int32.toInt_neg, Int.bmod_eq_of_le (by omega) (by omega)]
    omega
theorem mx_t (x y : Int32) : (mx_i x y).toInt = if x.toInt < y.toInt then y.toInt else x.toInt := by
  unfold mx_i
  by_cases g : x < y
  · rw [if_pos g, if_pos (Int32.lt_iff_toInt_lt.mp g)]
  · rw [if_neg g, if_neg (fun h => g (Int32.lt_iff_toInt_lt.mpr h))]
/-- how many ticks a line has: at least each amount, and one of them -/
theorem ga_t {x y z : Int32} (hx : -1000000 ≤ x.toInt ∧ x.toInt ≤ 1000000) (hy : -1000000 ≤ y.toInt ∧ y.toInt ≤ 1000000) (hz : -1000000 ≤ z.toInt ∧ z.toInt ≤ 1000000) : x.toInt.natAbs ≤ (ga_m x y z).toInt ∧ y.toInt.natAbs ≤ (ga_m x y z).toInt ∧ z.toInt.natAbs ≤ (ga_m x y z).toInt ∧ ((ga_m x y z).toInt = x.toInt.natAbs ∨ (ga_m x y z).toInt = y.toInt.natAbs ∨ (ga_m x y z).toInt = z.toInt.natAbs) := by
  rw [ga_am, mx_t, mx_t, am_t hx, am_t hy, am_t hz]
  split <;> split <;> omega
theorem i32_nI {x : Int32} (h : 0 ≤ x.toInt) : ∃ n : Nat, (n : Int) = x.toInt ∧ x = nI n := by
  have e : (0 : Int32).toInt = 0 := by decide
  obtain ⟨j, hj, rfl⟩ := nI_of (x := x) (fun g => by have := Int32.lt_iff_toInt_lt.mp g; omega)
  exact ⟨j, (nI_toInt hj).symm, rfl⟩
/-- a line's division, in whole numbers -/
theorem fd_t {a b : Int64} (ha : a.toInt.natAbs ≤ 100000000000) (hb : 0 < b.toInt) : (fd_d a b).toInt = a.toInt / b.toInt := by
  have e0 : (0 : Int64).toInt = 0 := by decide
  have e1 : (1 : Int64).toInt = 1 := by decide
  have hbl := Int64.toInt_lt b
  have nat : (a.toInt.tdiv b.toInt).natAbs ≤ 100000000000 := by
    rw [Int.natAbs_tdiv]
    exact Nat.le_trans (Nat.div_le_self _ _) ha
  have q : (a / b).toInt = a.toInt.tdiv b.toInt := by
    rw [Int64.toInt_div, Int.bmod_eq_of_le (by omega) (by omega)]
  have tm := Int.tmod_add_mul_tdiv a.toInt b.toInt
  have tdm := Int.tdiv_eq_ediv (a := a.toInt) (b := b.toInt)
  have nm : (a.toInt.tdiv b.toInt * b.toInt).natAbs ≤ 100000000000 := by
    rw [Int.natAbs_mul, Int.natAbs_tdiv]
    exact Nat.le_trans (Nat.div_mul_le_self _ _) ha
  have m : (a / b * b).toInt = a.toInt.tdiv b.toInt * b.toInt := by
    rw [Int64.toInt_mul, q, Int.bmod_eq_of_le (by omega) (by omega)]
  have sm : (a - a / b * b).toInt = a.toInt - a.toInt.tdiv b.toInt * b.toInt := by
    rw [sb_l (by rw [m]; omega) (by rw [m]; omega), m]
  have sg : b.toInt.sign = 1 := Int.sign_eq_one_of_pos hb
  rw [sg] at tdm
  unfold fd_d
  by_cases h : a < 0 ∧ ¬ a - a / b * b = 0
  · rw [if_pos h]
    have h1 := Int64.lt_iff_toInt_lt.mp h.1
    have hnd : ¬ b.toInt ∣ a.toInt := fun g => h.2 (Int64.toInt_inj.mp (by rw [sm, e0, Int.tdiv_mul_cancel g]; omega))
    rw [if_neg (fun g => by rcases g with g | g; omega; exact hnd g)] at tdm
    rw [sb_l (by rw [q, e1]; omega) (by rw [q, e1]; omega), q, e1]
    omega
  · rw [if_neg h, q]
    have hor : 0 ≤ a.toInt ∨ b.toInt ∣ a.toInt := by
      rcases Int.lt_or_le a.toInt 0 with g | g
      · refine Or.inr ?_
        have h2 : a - a / b * b = 0 := Decidable.not_not.mp (fun h3 => h ⟨Int64.lt_iff_toInt_lt.mpr (by omega), h3⟩)
        have h3 := congrArg Int64.toInt h2
        rw [sm, e0] at h3
        exact ⟨a.toInt.tdiv b.toInt, by rw [Int.mul_comm]; omega⟩
      · exact Or.inl g
    rw [if_pos hor] at tdm
    omega
theorem l2_t {x : Int32} (h : -1000000 ≤ x.toInt ∧ x.toInt ≤ 1000000) : ((2 : Int64) * x.toInt64).toInt = 2 * x.toInt := by
  have e2 : (2 : Int64).toInt = 2 := by decide
  rw [Int64.toInt_mul, Int32.toInt_toInt64, e2, Int.bmod_eq_of_le (by omega) (by omega)]
/-- the reference's part, in whole numbers, and how far it lies -/
theorem pt_t {cn b k : Int32} {N : Nat} (hc : cn.toInt = N) (hN : 0 < N ∧ N ≤ 60000) (hb : b.toInt.natAbs ≤ N) (hk : 0 ≤ k.toInt ∧ k.toInt ≤ N) : (pt_v cn b k).toInt = (2 * b.toInt * k.toInt + N) / (2 * N) ∧ (pt_v cn b k).toInt.natAbs ≤ N + 1 := by
  have e0 : (0 : Int32).toInt = 0 := by decide
  have hne : ¬ cn = 0 := fun h => by rw [h] at hc; omega
  have p := pr_n (x := b.toInt) (y := k.toInt) (B := N) (C := N) hb (by omega)
  have pN : N * N ≤ 60000 * 60000 := Nat.mul_le_mul hN.2 hN.2
  have t1 := l2_t (x := b) (by omega)
  have t2 := l2_t (x := cn) (by omega)
  have asc : 2 * b.toInt * k.toInt = 2 * (b.toInt * k.toInt) := Int.mul_assoc 2 b.toInt k.toInt
  have t3 : ((2 : Int64) * b.toInt64 * k.toInt64).toInt = 2 * b.toInt * k.toInt := by
    rw [Int64.toInt_mul, t1, Int32.toInt_toInt64, Int.bmod_eq_of_le (by omega) (by omega)]
  have t4 : ((2 : Int64) * b.toInt64 * k.toInt64 + cn.toInt64).toInt = 2 * b.toInt * k.toInt + N := by
    rw [ad_l (by rw [t3, Int32.toInt_toInt64]; omega) (by rw [t3, Int32.toInt_toInt64]; omega), t3, Int32.toInt_toInt64, hc]
  have f := fd_t (a := (2 : Int64) * b.toInt64 * k.toInt64 + cn.toInt64) (b := 2 * cn.toInt64) (by rw [t4]; omega) (by rw [t2]; omega)
  rw [t4, t2, hc] at f
  have hpos : (0 : Int) < 2 * N := by omega
  have NN : (N : Int) * N = ((N * N : Nat) : Int) := by omega
  have lo : -(N : Int) - 1 ≤ (2 * b.toInt * k.toInt + N) / (2 * N) := by
    rw [Int.le_ediv_iff_mul_le hpos]
    have : (-(N : Int) - 1) * (2 * N) = -(2 * ((N : Int) * N)) - 2 * N := by
      rw [Int.sub_mul, Int.neg_mul, Int.mul_left_comm]; omega
    omega
  have hi : (2 * b.toInt * k.toInt + N) / (2 * N) < (N : Int) + 1 := by
    rw [Int.ediv_lt_iff_lt_mul hpos]
    have : ((N : Int) + 1) * (2 * N) = 2 * ((N : Int) * N) + 2 * N := by
      rw [Int.add_mul, Int.mul_left_comm]; omega
    omega
  unfold pt_v
  rw [if_neg hne, Int64.toInt_toInt32, f, Int.bmod_eq_of_le (by omega) (by omega)]
  exact ⟨rfl, by omega⟩
/-- a place of the class is the reference's -/
theorem lp_eq {f b ln k : Int32} (h : 0 ≤ ln.toInt) : ln_p f b ln k = f + pt_v ln b k := by
  unfold ln_p pt_v
  by_cases g : ln = 0
  · rw [if_pos g, if_pos g, Int32.add_zero]
  · have e0 : (0 : Int64).toInt = 0 := by decide
    have hl := Int32.toInt_lt ln
    have e2 : (2 : Int64).toInt = 2 := by decide
    rw [if_neg g, if_neg g, fd_eq (fun z => by
      have := Int64.lt_iff_toInt_lt.mp z
      rw [Int64.toInt_mul, Int32.toInt_toInt64, e2, Int.bmod_eq_of_le (by omega) (by omega)] at this
      omega)]
theorem pt_0 {cn b : Int32} {N : Nat} (hc : cn.toInt = N) (hN : 0 < N ∧ N ≤ 60000) (hb : b.toInt.natAbs ≤ N) : pt_v cn b (nI 0) = 0 := by
  have e0 : (nI 0).toInt = 0 := by decide
  have e1 : (0 : Int32).toInt = 0 := by decide
  have h := (pt_t (k := nI 0) hc hN hb (by omega)).1
  rw [e0, Int.mul_zero, Int.zero_add] at h
  have : (N : Int) / (2 * N) = 0 := Int.ediv_eq_zero_of_lt (by omega) (by omega)
  exact Int32.toInt_inj.mp (by rw [h, this, e1])
theorem lq_d {f b ln : Int32} {N k : Nat} (hc : ln.toInt = N) (hN : 0 < N ∧ N ≤ 60000) (hb : b.toInt.natAbs ≤ N) : ln_q f b ln (k + 1) - ln_q f b ln k = pt_v ln b (nI (k + 1)) - pt_v ln b (nI k) := by
  have h0 : 0 ≤ ln.toInt := by omega
  have can : ∀ x y : Int32, f + x - (f + y) = x - y := fun x y => by
    apply Int32.toBitVec_inj.mp; rw [Int32.toBitVec_sub, Int32.toBitVec_sub, Int32.toBitVec_add, Int32.toBitVec_add]; bv_omega
  cases k with
  | zero =>
    show ln_p f b ln (nI (0 + 1)) - f = _
    rw [lp_eq h0, pt_0 hc hN hb, Int32.sub_zero, Int32.add_comm, Int32.add_sub_cancel]
  | succ k =>
    show ln_p f b ln (nI (k + 1 + 1)) - ln_p f b ln (nI (k + 1)) = _
    rw [lp_eq h0, lp_eq h0, can]
theorem rs_ga {x y z : Int32} (hx : -1000000 ≤ x.toInt ∧ x.toInt ≤ 1000000) (hy : -1000000 ≤ y.toInt ∧ y.toInt ≤ 1000000) (hz : -1000000 ≤ z.toInt ∧ z.toInt ≤ 1000000) : ga_m x y z = 1 ↔ ¬ (1 < am_i x ∨ 1 < am_i y ∨ 1 < am_i z ∨ am_i x + am_i y + am_i z = 0) := by
  have e0 : (0 : Int32).toInt = 0 := by decide
  have e1 : (1 : Int32).toInt = 1 := by decide
  have t1 := am_t hx
  have t2 := am_t hy
  have t3 := am_t hz
  have s1 : (am_i x + am_i y).toInt = x.toInt.natAbs + y.toInt.natAbs := by rw [ad_i (by omega) (by omega), t1, t2]
  have s2 : (am_i x + am_i y + am_i z).toInt = x.toInt.natAbs + y.toInt.natAbs + z.toInt.natAbs := by rw [ad_i (by omega) (by omega), s1, t3]
  have g := ga_t hx hy hz
  rw [← Int32.toInt_inj, ← Int32.toInt_inj (x := am_i x + am_i y + am_i z), Int32.lt_iff_toInt_lt, Int32.lt_iff_toInt_lt, Int32.lt_iff_toInt_lt, s2, t1, t2, t3, e0, e1]
  omega
theorem lc_rs {fv bv : Nat → Int32} {ln : Int32} {N : Nat} (hc : ln.toInt = N) (hN : N ≤ 60000) (h0 : (bv 0).toInt.natAbs ≤ N) (h1 : (bv 1).toInt.natAbs ≤ N) (h2 : (bv 2).toInt.natAbs ≤ N) : ∀ k, k ≤ N → ln_c fv bv ln k = rs_c (bv 0) (bv 1) (bv 2) ln k := by
  intro k
  induction k with
  | zero => intro _; rfl
  | succ k ih =>
    intro hk
    have hN2 : 0 < N ∧ N ≤ 60000 := ⟨by omega, hN⟩
    have ek : (nI k).toInt = k := nI_toInt (by omega)
    have ek1 : (nI (k + 1)).toInt = (k + 1 : Nat) := nI_toInt (by omega)
    have bd : ∀ b : Int32, b.toInt.natAbs ≤ N → -1000000 ≤ (pt_v ln b (nI (k + 1)) - pt_v ln b (nI k)).toInt ∧ (pt_v ln b (nI (k + 1)) - pt_v ln b (nI k)).toInt ≤ 1000000 := fun b hb => by
      have p1 := (pt_t (k := nI (k + 1)) hc hN2 hb (by omega)).2
      have p2 := (pt_t (k := nI k) hc hN2 hb (by omega)).2
      rw [sb_i (by omega) (by omega)]
      omega
    have key := rs_ga (bd (bv 0) h0) (bd (bv 1) h1) (bd (bv 2) h2)
    rw [ln_c, lq_d hc hN2 h0, lq_d hc hN2 h1, lq_d hc hN2 h2, ih (by omega)]
    by_cases g : rs_b (bv 0) (bv 1) (bv 2) ln k
    · rw [rs_y g, if_neg (fun z => key.mp z g)]
    · rw [rs_n g, if_pos (key.mpr g)]
theorem tk_rl {fv bv : Nat → Int32} {ln k ax : Int32} (h : 0 ≤ ln.toInt) : tk_l fv bv ln k ax = rl_t (fv 0) (fv 1) (fv 2) (bv 0) (bv 1) (bv 2) ln k ax := by
  unfold tk_l rl_t
  by_cases g : (0 ≤ ax ∧ ax < 3) ∧ 0 ≤ k ∧ k ≤ ln
  · rw [if_pos g, if_pos g]
    obtain ⟨j, hj, rfl⟩ := ax_in g.1
    rw [nI_clamp (by omega), lp_eq h]
    rcases (show j = 0 ∨ j = 1 ∨ j = 2 by omega) with rfl | rfl | rfl
    · rw [if_pos (by decide)]
    · rw [if_neg (by decide), if_pos (by decide)]
    · rw [if_neg (by decide), if_neg (by decide)]
  · rw [if_neg g, if_neg g]
theorem at_eq {sv : Nat → Int32} {a : Int32} : at_v sv a = (if a = 0 then sv 0 else if a = 1 then sv 1 else if a = 2 then sv 2 else 0) := by
  unfold at_v
  by_cases g : 0 ≤ a ∧ a < 3
  · rw [if_pos g]
    obtain ⟨j, hj, rfl⟩ := ax_in g
    rw [nI_clamp (by omega)]
    rcases (show j = 0 ∨ j = 1 ∨ j = 2 by omega) with rfl | rfl | rfl
    · rw [if_pos (by decide)]
    · rw [if_neg (by decide), if_pos (by decide)]
    · rw [if_neg (by decide), if_neg (by decide), if_pos (by decide)]
  · rw [if_neg g, if_neg (fun h => g (by rw [h]; decide)), if_neg (fun h => g (by rw [h]; decide)), if_neg (fun h => g (by rw [h]; decide))]
