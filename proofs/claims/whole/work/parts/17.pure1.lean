/-! both divisions are one, for a divisor above 0 -/
theorem xo_neg {a b : Int64} (hb : ¬ b < 0) : a ^^^ b < 0 ↔ a < 0 := by
  have key : ∀ z : Int64, z < 0 ↔ z.toBitVec.msb = true := fun z => by
    rw [Int64.lt_iff_toInt_lt, BitVec.msb_eq_toInt]
    have e : (0 : Int64).toInt = 0 := by decide
    rw [e]
    exact (decide_eq_true_iff).symm
  rw [key, key, Int64.toBitVec_xor, BitVec.msb_xor]
  have h2 : b.toBitVec.msb = false := by
    cases h : b.toBitVec.msb with
    | false => rfl
    | true => exact absurd ((key b).mpr h) hb
  rw [h2, Bool.xor_false]
theorem fd_eq {a b : Int64} (hb : ¬ b < 0) : fd_f a b = fd_d a b := by
  unfold fd_f fd_d
  have e : (a ^^^ b < 0 ∧ ¬ a / b * b = a) ↔ (a < 0 ∧ ¬ a - a / b * b = 0) := by
    rw [xo_neg hb]
    constructor
    · intro h
      refine ⟨h.1, fun g => h.2 ?_⟩
      have g2 : a - a / b * b + a / b * b = 0 + a / b * b := by rw [g]
      rw [Int64.sub_add_cancel, Int64.zero_add] at g2
      exact g2.symm
    · intro h
      refine ⟨h.1, fun g => h.2 ?_⟩
      rw [g, Int64.sub_self]
  by_cases h : a ^^^ b < 0 ∧ ¬ a / b * b = a
  · rw [if_pos h, if_pos (e.mp h)]
  · rw [if_neg h, if_neg (fun g => h (e.mpr g))]
/-! products in range -/
theorem pr_n {x y : Int} {B C : Nat} (hx : x.natAbs ≤ B) (hy : y.natAbs ≤ C) : (x * y).natAbs ≤ B * C := by
  rw [Int.natAbs_mul]
  exact Nat.mul_le_mul hx hy
theorem mu_l {x y : Int64} (hx : x.toInt.natAbs ≤ 300000) (hy : y.toInt.natAbs ≤ 300000) : (x * y).toInt = x.toInt * y.toInt := by
  have h := pr_n hx hy
  rw [Int64.toInt_mul, Int.bmod_eq_of_le (by omega) (by omega)]
theorem ab_t {x : Int64} (h : -9223372036854775808 < x.toInt) : (ab_l x).toInt = x.toInt.natAbs := by
  unfold ab_l
  have e : (0 : Int64).toInt = 0 := by decide
  by_cases g : 0 < x
  · rw [if_pos g]
    have g2 := Int64.lt_iff_toInt_lt.mp g
    rw [e] at g2
    omega
  · rw [if_neg g]
    have g2 := Int64.le_iff_toInt_le.mp (Int64.not_lt.mp g)
    rw [e] at g2
    have h3 := Int64.toInt_lt x
    rw [Int64.toInt_neg, Int.bmod_eq_of_le (by omega) (by omega)]
    omega
theorem df_t {a b : Int32} (ha : -200000 ≤ a.toInt ∧ a.toInt ≤ 200000) (hb : -40000 ≤ b.toInt ∧ b.toInt ≤ 40000) : (a - b).toInt64.toInt = a.toInt - b.toInt := by
  rw [Int32.toInt_toInt64, sb_i (by omega) (by omega)]
/-- the neighbour's amount beside, in whole numbers -/
theorem sb_t {dx dy sq : Int64} {i : Nat} (hi : i < 8) (hx : dx.toInt.natAbs ≤ 250000) (hy : dy.toInt.natAbs ≤ 250000) (hs : 0 ≤ sq.toInt ∧ sq.toInt ≤ 25000000) :
    (st_b dx dy sq i).toInt = ((dx.toInt + (st_X i).toInt) * (dx.toInt + (st_X i).toInt) + (dy.toInt + (st_Y i).toInt) * (dy.toInt + (st_Y i).toInt) - sq.toInt).natAbs := by
  obtain ⟨⟨b1, b2⟩, b3, b4⟩ := sx_t hi
  have e1 : (dx + (st_X i).toInt64).toInt = dx.toInt + (st_X i).toInt := by rw [ad_l (by rw [Int32.toInt_toInt64]; omega) (by rw [Int32.toInt_toInt64]; omega), Int32.toInt_toInt64]
  have e2 : (dy + (st_Y i).toInt64).toInt = dy.toInt + (st_Y i).toInt := by rw [ad_l (by rw [Int32.toInt_toInt64]; omega) (by rw [Int32.toInt_toInt64]; omega), Int32.toInt_toInt64]
  have p1 := pr_n (x := dx.toInt + (st_X i).toInt) (y := dx.toInt + (st_X i).toInt) (B := 250001) (C := 250001) (by omega) (by omega)
  have p2 := pr_n (x := dy.toInt + (st_Y i).toInt) (y := dy.toInt + (st_Y i).toInt) (B := 250001) (C := 250001) (by omega) (by omega)
  have m1 : ((dx + (st_X i).toInt64) * (dx + (st_X i).toInt64)).toInt = (dx.toInt + (st_X i).toInt) * (dx.toInt + (st_X i).toInt) := by rw [mu_l (by rw [e1]; omega) (by rw [e1]; omega), e1]
  have m2 : ((dy + (st_Y i).toInt64) * (dy + (st_Y i).toInt64)).toInt = (dy.toInt + (st_Y i).toInt) * (dy.toInt + (st_Y i).toInt) := by rw [mu_l (by rw [e2]; omega) (by rw [e2]; omega), e2]
  have a1 := ad_l (a := (dx + (st_X i).toInt64) * (dx + (st_X i).toInt64)) (b := (dy + (st_Y i).toInt64) * (dy + (st_Y i).toInt64)) (by rw [m1, m2]; omega) (by rw [m1, m2]; omega)
  rw [m1, m2] at a1
  have s1 := sb_l (a := (dx + (st_X i).toInt64) * (dx + (st_X i).toInt64) + (dy + (st_Y i).toInt64) * (dy + (st_Y i).toInt64)) (b := sq) (by rw [a1]; omega) (by rw [a1]; omega)
  rw [a1] at s1
  unfold st_b
  rw [ab_t (by rw [s1]; omega), s1]
/-- the turn, in whole numbers -/
theorem tn_t {dx dy : Int64} {i : Nat} (hi : i < 8) (hx : dx.toInt.natAbs ≤ 250000) (hy : dy.toInt.natAbs ≤ 250000) :
    (st_t dx dy i).toInt = dx.toInt * (st_Y i).toInt - dy.toInt * (st_X i).toInt := by
  obtain ⟨⟨b1, b2⟩, b3, b4⟩ := sx_t hi
  have e1 : (dx + (st_X i).toInt64).toInt = dx.toInt + (st_X i).toInt := by rw [ad_l (by rw [Int32.toInt_toInt64]; omega) (by rw [Int32.toInt_toInt64]; omega), Int32.toInt_toInt64]
  have e2 : (dy + (st_Y i).toInt64).toInt = dy.toInt + (st_Y i).toInt := by rw [ad_l (by rw [Int32.toInt_toInt64]; omega) (by rw [Int32.toInt_toInt64]; omega), Int32.toInt_toInt64]
  have p1 := pr_n (x := dx.toInt) (y := dy.toInt + (st_Y i).toInt) (B := 250001) (C := 250001) (by omega) (by omega)
  have p2 := pr_n (x := dy.toInt) (y := dx.toInt + (st_X i).toInt) (B := 250001) (C := 250001) (by omega) (by omega)
  have m1 : (dx * (dy + (st_Y i).toInt64)).toInt = dx.toInt * (dy.toInt + (st_Y i).toInt) := by rw [mu_l (by omega) (by rw [e2]; omega), e2]
  have m2 : (dy * (dx + (st_X i).toInt64)).toInt = dy.toInt * (dx.toInt + (st_X i).toInt) := by rw [mu_l (by omega) (by rw [e1]; omega), e1]
  have s1 := sb_l (a := dx * (dy + (st_Y i).toInt64)) (b := dy * (dx + (st_X i).toInt64)) (by rw [m1, m2]; omega) (by rw [m1, m2]; omega)
  unfold st_t
  rw [s1, m1, m2, Int.mul_add, Int.mul_add, Int.mul_comm dy.toInt dx.toInt]
  omega
/-- what the chosen neighbour is -/
theorem st_F_ok (lf : Int32) (dx dy sq : Int64) : ∀ n : Nat, n < 2 ^ 31 → ∀ j, j < n → (st_F lf dx dy sq n).1 = nI j → st_c lf dx dy j = true ∧ (st_F lf dx dy sq n).2 = st_b dx dy sq j := by
  intro n
  induction n with
  | zero => intro _ j h; omega
  | succ n ih =>
    intro hn j hj e
    have old : st_F lf dx dy sq (n + 1) = st_F lf dx dy sq n → st_c lf dx dy j = true ∧ (st_F lf dx dy sq (n + 1)).2 = st_b dx dy sq j := by
      intro g
      rw [g] at e ⊢
      rcases st_F_ix lf dx dy sq n (by omega) with h | ⟨i, hi, h⟩
      · rw [h] at e
        exact absurd (show (0 : Int32) ≤ -1 by rw [e]; exact nI_pos' (by omega)) (by decide)
      · have hij : i = j := (nI_eq (by omega) (by omega)).mp (h.symm.trans e)
        subst hij
        exact ih (by omega) i hi e
    by_cases h : st_c lf dx dy n = true
    · by_cases h2 : (st_F lf dx dy sq n).1 < 0 ∨ st_b dx dy sq n < (st_F lf dx dy sq n).2
      · have g := st_F_take h h2
        rw [g] at e ⊢
        have hij : n = j := (nI_eq (by omega) (by omega)).mp e
        subst hij
        exact ⟨h, rfl⟩
      · exact old (st_F_keep h h2)
    · exact old (st_F_skip (by cases g : st_c lf dx dy n with | false => rfl | true => exact absurd g h))
theorem st_F_min (lf : Int32) (dx dy sq : Int64) : ∀ n : Nat, n < 2 ^ 31 → ∀ i, i < n → st_c lf dx dy i = true → ¬ (st_F lf dx dy sq n).1 < 0 ∧ (st_F lf dx dy sq n).2 ≤ st_b dx dy sq i := by
  intro n
  induction n with
  | zero => intro _ i h; omega
  | succ n ih =>
    intro hn i hi hc
    by_cases h : st_c lf dx dy n = true
    · by_cases h2 : (st_F lf dx dy sq n).1 < 0 ∨ st_b dx dy sq n < (st_F lf dx dy sq n).2
      · rw [st_F_take h h2]
        refine ⟨nI_pos (by omega), ?_⟩
        rcases Nat.lt_or_ge i n with q | q
        · obtain ⟨g1, g2⟩ := ih (by omega) i q hc
          rcases h2 with h3 | h3
          · exact absurd h3 g1
          · exact Int64.le_trans (Int64.le_of_lt h3) g2
        · rw [show i = n by omega]; exact Int64.le_refl _
      · rw [st_F_keep h h2]
        rcases Nat.lt_or_ge i n with q | q
        · exact ih (by omega) i q hc
        · rw [show i = n by omega]
          exact ⟨fun g => h2 (Or.inl g), Int64.not_lt.mp (fun g => h2 (Or.inr g))⟩
    · have g : st_c lf dx dy n = false := by cases g : st_c lf dx dy n with | false => rfl | true => exact absurd g h
      rw [st_F_skip g]
      rcases Nat.lt_or_ge i n with q | q
      · exact ih (by omega) i q hc
      · rw [show i = n by omega] at hc
        exact absurd hc h
