/-! the places of an arc: (lf, sq, cx, cy) name it, q is a place -/
def ob_d (lf : Int32) (sq : Int64) (cx cy : Int32) (q : Int32 × Int32) : Int32 := (st_F lf (q.1 - cx).toInt64 (q.2 - cy).toInt64 sq 8).1
def ob_s (lf : Int32) (sq : Int64) (cx cy : Int32) (q : Int32 × Int32) : Int32 × Int32 := if ob_d lf sq cx cy q < 0 then q else (q.1 + st_X (ob_d lf sq cx cy q).toNatClampNeg, q.2 + st_Y (ob_d lf sq cx cy q).toNatClampNeg)
def ob_p (lf : Int32) (sq : Int64) (cx cy : Int32) (q : Int32 × Int32) : Nat → Int32 × Int32
  | 0 => q
  | k + 1 => ob_s lf sq cx cy (ob_p lf sq cx cy q k)
/-- the arc from q to t has n ticks -/
def ob_H (lf : Int32) (sq : Int64) (cx cy : Int32) (q t : Int32 × Int32) (n : Nat) : Prop := 1 ≤ n ∧ n ≤ 40000 ∧ (∀ j, j < n → ¬ ob_d lf sq cx cy (ob_p lf sq cx cy q j) < 0) ∧ ob_p lf sq cx cy q n = t ∧ ∀ j, 1 ≤ j → j < n → ob_p lf sq cx cy q j ≠ t
/-- the greatest amount beside, as the class reckons it -/
def ob_o (lf : Int32) (sq : Int64) (cx cy : Int32) (q : Int32 × Int32) : Nat → Int32
  | 0 => 0
  | k + 1 => mx_i (ob_o lf sq cx cy q k) (ab_l (sq_c (ob_p lf sq cx cy q (k + 1)).1 cx (ob_p lf sq cx cy q (k + 1)).2 cy - sq)).toInt32
def ob_M (lf : Int32) (sq : Int64) (cx cy : Int32) (q : Int32 × Int32) (mx my : Nat → Int32) (n : Nat) : Prop := ∀ r, r * 100 ≤ n → mx r = (ob_p lf sq cx cy q (r * 100)).1 ∧ my r = (ob_p lf sq cx cy q (r * 100)).2
theorem ob_H_uniq {lf : Int32} {sq : Int64} {cx cy : Int32} {q t : Int32 × Int32} {n k : Nat} (h : ob_H lf sq cx cy q t n) (g : ob_H lf sq cx cy q t k) : n = k := by
  rcases Nat.lt_trichotomy n k with a | a | a
  · exact absurd h.2.2.2.1 (g.2.2.2.2 n h.1 a)
  · exact a
  · exact absurd g.2.2.2.1 (h.2.2.2.2 k g.1 a)
theorem ob_p_add (lf : Int32) (sq : Int64) (cx cy : Int32) (q : Int32 × Int32) {j : Nat} (h : ob_p lf sq cx cy q j = q) : ∀ k, ob_p lf sq cx cy q (j + k) = ob_p lf sq cx cy q k := by
  intro k
  induction k with
  | zero => exact h
  | succ k ih => rw [← Nat.add_assoc, ob_p, ih, ob_p]
theorem ob_p_per (lf : Int32) (sq : Int64) (cx cy : Int32) (q : Int32 × Int32) {j : Nat} (hj : 1 ≤ j) (h : ob_p lf sq cx cy q j = q) : ∀ n, 1 ≤ n → ∃ i, 1 ≤ i ∧ i ≤ j ∧ ob_p lf sq cx cy q n = ob_p lf sq cx cy q i := by
  intro n
  induction n using Nat.strongRecOn with
  | ind n ih =>
    intro hn
    rcases Nat.lt_or_ge j n with a | a
    · obtain ⟨i, h1, h2, h3⟩ := ih (n - j) (by omega) (by omega)
      refine ⟨i, h1, h2, ?_⟩
      rw [← h3, ← ob_p_add lf sq cx cy q h (n - j), show j + (n - j) = n by omega]
    · exact ⟨n, hn, a, rfl⟩
/-- back at the beginning without having met the end: it never comes there -/
theorem ob_no {lf : Int32} {sq : Int64} {cx cy : Int32} {q t : Int32 × Int32} {j : Nat} (hj : 1 ≤ j) (h : ob_p lf sq cx cy q j = q) (ht : ∀ i, 1 ≤ i → i ≤ j → ob_p lf sq cx cy q i ≠ t) (n : Nat) : ¬ ob_H lf sq cx cy q t n := by
  intro g
  obtain ⟨i, h1, h2, h3⟩ := ob_p_per lf sq cx cy q hj h n g.1
  exact ht i h1 h2 (h3.symm.trans g.2.2.2.1)
theorem ob_no_d {lf : Int32} {sq : Int64} {cx cy : Int32} {q t : Int32 × Int32} {j : Nat} (h : ob_d lf sq cx cy (ob_p lf sq cx cy q j) < 0) (ht : ∀ i, 1 ≤ i → i ≤ j → ob_p lf sq cx cy q i ≠ t) (n : Nat) : ¬ ob_H lf sq cx cy q t n := by
  intro g
  rcases Nat.lt_or_ge j n with a | a
  · exact g.2.2.1 j a h
  · exact ht n g.1 a g.2.2.2.1
theorem ob_no_e {lf : Int32} {sq : Int64} {cx cy : Int32} {q t : Int32 × Int32} (ht : ∀ i, 1 ≤ i → i ≤ 40000 → ob_p lf sq cx cy q i ≠ t) (n : Nat) : ¬ ob_H lf sq cx cy q t n := fun g => ht n g.1 g.2.1 g.2.2.2.1
theorem sp_ob {lf : Int32} {sq : Int64} {fx cx fy cy r gx gy : Int32} (h : sp_P lf sq fx cx fy cy r gx gy) : (gx, gy) = ob_s lf sq cx cy (fx, fy) ∧ ((r = 0 ∧ ob_d lf sq cx cy (fx, fy) < 0 ∧ gx = fx ∧ gy = fy) ∨ (r = 1 ∧ ¬ ob_d lf sq cx cy (fx, fy) < 0 ∧ ∃ j, j < 8 ∧ ob_d lf sq cx cy (fx, fy) = nI j ∧ gx = fx + st_X j ∧ gy = fy + st_Y j)) := by
  rcases h with ⟨h1, h2, h3, h4⟩ | ⟨j, hj, h1, h2, h3, h4⟩
  · have g : ob_d lf sq cx cy (fx, fy) < 0 := h2
    refine ⟨?_, Or.inl ⟨h1, h2, h3, h4⟩⟩
    unfold ob_s
    rw [if_pos g, h3, h4]
  · have g : ob_d lf sq cx cy (fx, fy) = nI j := h1
    have g2 : ¬ ob_d lf sq cx cy (fx, fy) < 0 := by rw [g]; exact nI_pos (by omega)
    refine ⟨?_, Or.inr ⟨h2, g2, j, hj, g, h3, h4⟩⟩
    unfold ob_s
    rw [if_neg g2, g, nI_clamp (by omega), h3, h4]
theorem sp_ga {fx fy : Int32} {j : Nat} (hj : j < 8) : ga_m (fx + st_X j - fx) (fy + st_Y j - fy) 0 = 1 := by
  rw [show fx + st_X j - fx = st_X j by rw [Int32.add_comm, Int32.add_sub_cancel], show fy + st_Y j - fy = st_Y j by rw [Int32.add_comm, Int32.add_sub_cancel]]
  rcases (show j = 0 ∨ j = 1 ∨ j = 2 ∨ j = 3 ∨ j = 4 ∨ j = 5 ∨ j = 6 ∨ j = 7 by omega) with rfl | rfl | rfl | rfl | rfl | rfl | rfl | rfl <;> decide
/-- Arc.walk: what it answers and leaves -/
def wk_P (lf : Int32) (sq : Int64) (cx cy : Int32) (q t : Int32 × Int32) (r : Int32) (nx ny : Nat → Int32) (nl no ns : Int32) : Prop :=
  (r = 1 ∧ (1 ≤ sq ∧ sq ≤ 25000000) ∧ ∃ n, ob_H lf sq cx cy q t n ∧ nl = nI n ∧ no = ob_o lf sq cx cy q n ∧ ns = 0 ∧ ob_M lf sq cx cy q nx ny n) ∨ (r = 0 ∧ (¬ (1 ≤ sq ∧ sq ≤ 25000000) ∨ ∀ n, ¬ ob_H lf sq cx cy q t n))
theorem ob_M_mk {lf : Int32} {sq : Int64} {cx cy : Int32} {q : Int32 × Int32} {mx my : Nat → Int32} {n : Nat} {gx gy : Int32} (h : ob_M lf sq cx cy q mx my n) (hg : (gx, gy) = ob_p lf sq cx cy q (n + 1)) : ob_M lf sq cx cy q (mk_u mx (n + 1) gx) (mk_u my (n + 1) gy) (n + 1) := by
  intro r hr
  unfold mk_u
  by_cases h0 : (n + 1) % 100 = 0
  · rw [if_pos h0, if_pos h0]
    by_cases h1 : r = (n + 1) / 100
    · rw [h1, pk_us, pk_us, show (n + 1) / 100 * 100 = n + 1 by omega, ← hg]
      exact ⟨rfl, rfl⟩
    · rw [pk_un h1, pk_un h1]
      exact h r (by omega)
  · rw [if_neg h0, if_neg h0]
    exact h r (by omega)
