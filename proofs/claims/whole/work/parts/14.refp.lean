/-! pure words of the reference, and numbers in range -/
theorem ad_i {a b : Int32} (h : -2147483648 ≤ a.toInt + b.toInt) (h2 : a.toInt + b.toInt < 2147483648) : (a + b).toInt = a.toInt + b.toInt := by
  rw [Int32.toInt_add, Int.bmod_eq_of_le (by omega) (by omega)]
theorem sb_i {a b : Int32} (h : -2147483648 ≤ a.toInt - b.toInt) (h2 : a.toInt - b.toInt < 2147483648) : (a - b).toInt = a.toInt - b.toInt := by
  rw [Int32.toInt_sub, Int.bmod_eq_of_le (by omega) (by omega)]
theorem ad_l {a b : Int64} (h : -9223372036854775808 ≤ a.toInt + b.toInt) (h2 : a.toInt + b.toInt < 9223372036854775808) : (a + b).toInt = a.toInt + b.toInt := by
  rw [Int64.toInt_add, Int.bmod_eq_of_le (by omega) (by omega)]
theorem sb_l {a b : Int64} (h : -9223372036854775808 ≤ a.toInt - b.toInt) (h2 : a.toInt - b.toInt < 9223372036854775808) : (a - b).toInt = a.toInt - b.toInt := by
  rw [Int64.toInt_sub, Int.bmod_eq_of_le (by omega) (by omega)]
theorem pl_t {v : Int32} (h : pl_in v) : -30000 ≤ v.toInt ∧ v.toInt ≤ 30000 := by
  have h1 := Int32.le_iff_toInt_le.mp h.1
  have h2 := Int32.le_iff_toInt_le.mp h.2
  have e1 : (-30000 : Int32).toInt = -30000 := by decide
  have e2 : (30000 : Int32).toInt = 30000 := by decide
  rw [e1] at h1
  rw [e2] at h2
  exact ⟨h1, h2⟩
theorem ce_t {v : Int32} (h : ce_in v) : -40000 ≤ v.toInt ∧ v.toInt ≤ 40000 := by
  have h1 := Int32.le_iff_toInt_le.mp h.1
  have h2 := Int32.le_iff_toInt_le.mp h.2
  have e1 : (-40000 : Int32).toInt = -40000 := by decide
  have e2 : (40000 : Int32).toInt = 40000 := by decide
  rw [e1] at h1
  rw [e2] at h2
  exact ⟨h1, h2⟩
theorem sx_t {j : Nat} (hj : j < 8) : (-1 ≤ (st_X j).toInt ∧ (st_X j).toInt ≤ 1) ∧ -1 ≤ (st_Y j).toInt ∧ (st_Y j).toInt ≤ 1 := by
  rcases (show j = 0 ∨ j = 1 ∨ j = 2 ∨ j = 3 ∨ j = 4 ∨ j = 5 ∨ j = 6 ∨ j = 7 by omega) with rfl | rfl | rfl | rfl | rfl | rfl | rfl | rfl <;> decide
theorem ob_ix {lf : Int32} {sq : Int64} {cx cy : Int32} {q : Int32 × Int32} (h : ¬ ob_d lf sq cx cy q < 0) : ∃ j, j < 8 ∧ ob_d lf sq cx cy q = nI j := by
  rcases st_F_ix lf (q.1 - cx).toInt64 (q.2 - cy).toInt64 sq 8 (by decide) with g | g
  · exact absurd (show ob_d lf sq cx cy q < 0 by unfold ob_d; rw [g]; decide) h
  · exact g
theorem ob_sj {lf : Int32} {sq : Int64} {cx cy : Int32} {q : Int32 × Int32} {j : Nat} (hj : j < 8) (h : ob_d lf sq cx cy q = nI j) : ob_s lf sq cx cy q = (q.1 + st_X j, q.2 + st_Y j) := by
  unfold ob_s
  rw [h, if_neg (nI_pos (by omega)), nI_clamp (by omega)]
/-- after n ticks it is not far -/
theorem ob_b {lf : Int32} {sq : Int64} {cx cy : Int32} {q : Int32 × Int32} (hx : pl_in q.1) (hy : pl_in q.2) : ∀ n : Nat, n ≤ 100000 → (-30000 - (n : Int) ≤ (ob_p lf sq cx cy q n).1.toInt ∧ (ob_p lf sq cx cy q n).1.toInt ≤ 30000 + n) ∧ -30000 - (n : Int) ≤ (ob_p lf sq cx cy q n).2.toInt ∧ (ob_p lf sq cx cy q n).2.toInt ≤ 30000 + n := by
  intro n
  induction n with
  | zero =>
    intro _
    have h1 := pl_t hx
    have h2 := pl_t hy
    simp only [ob_p]
    omega
  | succ n ih =>
    intro hn
    obtain ⟨⟨a1, a2⟩, a3, a4⟩ := ih (by omega)
    by_cases h : ob_d lf sq cx cy (ob_p lf sq cx cy q n) < 0
    · have e : ob_p lf sq cx cy q (n + 1) = ob_p lf sq cx cy q n := by rw [ob_p]; unfold ob_s; rw [if_pos h]
      rw [e]
      omega
    · obtain ⟨j, hj, g⟩ := ob_ix h
      have e : ob_p lf sq cx cy q (n + 1) = ((ob_p lf sq cx cy q n).1 + st_X j, (ob_p lf sq cx cy q n).2 + st_Y j) := by rw [ob_p]; exact ob_sj hj g
      obtain ⟨⟨b1, b2⟩, b3, b4⟩ := sx_t hj
      rw [e]
      dsimp only
      rw [ad_i (by omega) (by omega), ad_i (by omega) (by omega)]
      omega
theorem l6_step {a b d : Int32} (ha : -200000 ≤ a.toInt ∧ a.toInt ≤ 200000) (hb : -40000 ≤ b.toInt ∧ b.toInt ≤ 40000) (hd : -1 ≤ d.toInt ∧ d.toInt ≤ 1) : (a - b).toInt64 + d.toInt64 = (a + d - b).toInt64 := by
  apply Int64.toInt_inj.mp
  have e1 : (a - b).toInt = a.toInt - b.toInt := sb_i (by omega) (by omega)
  have e2 : (a + d).toInt = a.toInt + d.toInt := ad_i (by omega) (by omega)
  have e3 : (a + d - b).toInt = a.toInt + d.toInt - b.toInt := by rw [sb_i (by rw [e2]; omega) (by rw [e2]; omega), e2]
  rw [ad_l (by rw [Int32.toInt_toInt64, Int32.toInt_toInt64, e1]; omega) (by rw [Int32.toInt_toInt64, Int32.toInt_toInt64, e1]; omega), Int32.toInt_toInt64, Int32.toInt_toInt64, Int32.toInt_toInt64, e1, e3]
  omega
theorem l6_inj {a b d : Int32} (h : (a - b).toInt64 = (d - b).toInt64) : a = d := by
  have h1 := congrArg Int64.toInt h
  rw [Int32.toInt_toInt64, Int32.toInt_toInt64] at h1
  have h2 := Int32.toInt_inj.mp h1
  have h3 : a - b + b = d - b + b := by rw [h2]
  rw [Int32.sub_add_cancel, Int32.sub_add_cancel] at h3
  exact h3
theorem ab_l_ge {x : Int64} (h : 0 ≤ x) : x = ab_l x := by
  unfold ab_l
  by_cases g : 0 < x
  · rw [if_pos g]
  · rw [if_neg g]
    have e : x = 0 := Int64.toInt_inj.mp (by
      have h1 := Int64.le_iff_toInt_le.mp h
      have h2 := Int64.le_iff_toInt_le.mp (Int64.not_lt.mp g)
      omega)
    rw [e]; rfl
theorem ab_l_lt {x : Int64} (h : ¬ 0 ≤ x) : -x = ab_l x := by
  unfold ab_l
  rw [if_neg (fun g => h (Int64.le_of_lt g))]
theorem ab_am (x : Int32) : ab_i x = am_i x := by
  unfold ab_i am_i
  by_cases h : 0 ≤ x
  · rw [if_pos h, if_pos h]
  · rw [if_neg h, if_neg h, Int32.zero_sub]
theorem nar_b {j : Nat} (hj : j < 8) : vp_nar .byte (nI j).toInt8.toInt32 = nI j := by
  rcases (show j = 0 ∨ j = 1 ∨ j = 2 ∨ j = 3 ∨ j = 4 ∨ j = 5 ∨ j = 6 ∨ j = 7 by omega) with rfl | rfl | rfl | rfl | rfl | rfl | rfl | rfl <;> rfl
theorem nar_c {j : Nat} (hj : j < 8) : vp_nar .byte (nI j) = nI j := by
  rcases (show j = 0 ∨ j = 1 ∨ j = 2 ∨ j = 3 ∨ j = 4 ∨ j = 5 ∨ j = 6 ∨ j = 7 by omega) with rfl | rfl | rfl | rfl | rfl | rfl | rfl | rfl <;> rfl
/-- the reference's part of a line behind tick k -/
def pt_v (cn b k : Int32) : Int32 := if cn = 0 then 0 else (fd_d (2 * b.toInt64 * k.toInt64 + cn.toInt64) (2 * cn.toInt64)).toInt32
/-- the ways of the first n ticks stand in f -/
def wy_P (lf : Int32) (sq : Int64) (cx cy : Int32) (q : Int32 × Int32) (f : Nat → Int32) (n : Nat) : Prop := ∀ i, i < n → ∃ j, j < 8 ∧ f i = nI j ∧ ob_p lf sq cx cy q (i + 1) = ((ob_p lf sq cx cy q i).1 + st_X j, (ob_p lf sq cx cy q i).2 + st_Y j)
def rs_b (vx vy vz cn : Int32) (k : Nat) : Prop := 1 < am_i (pt_v cn vx (nI (k + 1)) - pt_v cn vx (nI k)) ∨ 1 < am_i (pt_v cn vy (nI (k + 1)) - pt_v cn vy (nI k)) ∨ 1 < am_i (pt_v cn vz (nI (k + 1)) - pt_v cn vz (nI k)) ∨ am_i (pt_v cn vx (nI (k + 1)) - pt_v cn vx (nI k)) + am_i (pt_v cn vy (nI (k + 1)) - pt_v cn vy (nI k)) + am_i (pt_v cn vz (nI (k + 1)) - pt_v cn vz (nI k)) = 0
noncomputable def rs_c (vx vy vz cn : Int32) : Nat → Int32
  | 0 => 0
  | k + 1 => @ite _ (rs_b vx vy vz cn k) (Classical.propDecidable _) (rs_c vx vy vz cn k + 1) (rs_c vx vy vz cn k)
theorem rs_y {vx vy vz cn : Int32} {k : Nat} (h : rs_b vx vy vz cn k) : rs_c vx vy vz cn (k + 1) = rs_c vx vy vz cn k + 1 := by rw [rs_c, if_pos h]
theorem rs_n {vx vy vz cn : Int32} {k : Nat} (h : ¬ rs_b vx vy vz cn k) : rs_c vx vy vz cn (k + 1) = rs_c vx vy vz cn k := by rw [rs_c, if_neg h]
/-- the greatest amount beside, as the reference reckons it -/
def ob_w (lf : Int32) (sq : Int64) (cx cy : Int32) (q : Int32 × Int32) : Nat → Int64
  | 0 => 0
  | k + 1 => if ab_l (sq_c (ob_p lf sq cx cy q (k + 1)).1 cx (ob_p lf sq cx cy q (k + 1)).2 cy - sq) < ob_w lf sq cx cy q k then ob_w lf sq cx cy q k else ab_l (sq_c (ob_p lf sq cx cy q (k + 1)).1 cx (ob_p lf sq cx cy q (k + 1)).2 cy - sq)
def rl_t (ux uy uz vx vy vz cn k ax : Int32) : Int32 := if (0 ≤ ax ∧ ax < 3) ∧ 0 ≤ k ∧ k ≤ cn then (if ax = 0 then ux + pt_v cn vx k else if ax = 1 then uy + pt_v cn vy k else uz + pt_v cn vz k) else 0
theorem ax_le {ax : Int32} : ax ≤ 2 ↔ ax < 3 := by
  rw [Int32.le_iff_toInt_le, Int32.lt_iff_toInt_lt]
  have e1 : (2 : Int32).toInt = 2 := by decide
  have e2 : (3 : Int32).toInt = 3 := by decide
  rw [e1, e2]
  omega
