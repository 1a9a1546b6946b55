section CTT
variable {p : Program} {l : Launch} {e : Env} {R : Room} {s : State} {m : MethodId} {args : Array Value} {below : List Frame} {meth : Method} {c : Code} {H : Heap} {locs : List Loc} {cells slots : Nat} {Q : State → Prop} {pc : Nat} {ls : Array Slot} {rest : List Value}
theorem ct_topi {x y : Int32} (h : x = y) (k : W p l e R s m args below meth c H locs cells slots Q (F0 m pc ls (.int y :: rest))) : W p l e R s m args below meth c H locs cells slots Q (F0 m pc ls (.int x :: rest)) := by rw [h]; exact k
theorem ct_topl {x y : Int64} (h : x = y) (k : W p l e R s m args below meth c H locs cells slots Q (F0 m pc ls (.long y :: rest))) : W p l e R s m args below meth c H locs cells slots Q (F0 m pc ls (.long x :: rest)) := by rw [h]; exact k
end CTT
/-! pure words of an arc's tick, as the machine reckons it -/
def sq_c (fx cx fy cy : Int32) : Int64 := (fx - cx).toInt64 * (fx - cx).toInt64 + (fy - cy).toInt64 * (fy - cy).toInt64
def ab_l (x : Int64) : Int64 := if 0 < x then x else -x
def st_t (dx dy : Int64) (i : Nat) : Int64 := dx * (dy + (st_Y i).toInt64) - dy * (dx + (st_X i).toInt64)
def st_b (dx dy sq : Int64) (i : Nat) : Int64 := ab_l ((dx + (st_X i).toInt64) * (dx + (st_X i).toInt64) + (dy + (st_Y i).toInt64) * (dy + (st_Y i).toInt64) - sq)
def st_c (lf : Int32) (dx dy : Int64) (i : Nat) : Bool := if lf = 0 then decide (st_t dx dy i < 0) else decide (0 < st_t dx dy i)
/-- the nearest of the first i neighbours: its number (or -1), and how far beside it lies -/
def st_F (lf : Int32) (dx dy sq : Int64) : Nat → Int32 × Int64
  | 0 => (-1, 0)
  | i + 1 => if st_c lf dx dy i = true then (if (st_F lf dx dy sq i).1 < 0 ∨ st_b dx dy sq i < (st_F lf dx dy sq i).2 then (nI i, st_b dx dy sq i) else st_F lf dx dy sq i) else st_F lf dx dy sq i
theorem st_F_skip {lf : Int32} {dx dy sq : Int64} {i : Nat} (h : st_c lf dx dy i = false) : st_F lf dx dy sq (i + 1) = st_F lf dx dy sq i := by
  rw [st_F, if_neg (by rw [h]; decide)]
theorem st_F_take {lf : Int32} {dx dy sq : Int64} {i : Nat} (h : st_c lf dx dy i = true) (h2 : (st_F lf dx dy sq i).1 < 0 ∨ st_b dx dy sq i < (st_F lf dx dy sq i).2) : st_F lf dx dy sq (i + 1) = (nI i, st_b dx dy sq i) := by
  rw [st_F, if_pos h, if_pos h2]
theorem st_F_keep {lf : Int32} {dx dy sq : Int64} {i : Nat} (h : st_c lf dx dy i = true) (h2 : ¬ ((st_F lf dx dy sq i).1 < 0 ∨ st_b dx dy sq i < (st_F lf dx dy sq i).2)) : st_F lf dx dy sq (i + 1) = st_F lf dx dy sq i := by
  rw [st_F, if_pos h, if_neg h2]
theorem st_F_ix (lf : Int32) (dx dy sq : Int64) : ∀ i : Nat, i < 2 ^ 31 → (st_F lf dx dy sq i).1 = -1 ∨ ∃ j, j < i ∧ (st_F lf dx dy sq i).1 = nI j := by
  intro i
  induction i with
  | zero => exact fun _ => Or.inl rfl
  | succ i ih =>
    intro hi
    have key : st_F lf dx dy sq (i + 1) = st_F lf dx dy sq i ∨ st_F lf dx dy sq (i + 1) = (nI i, st_b dx dy sq i) := by
      rw [st_F]
      by_cases h : st_c lf dx dy i = true
      · rw [if_pos h]
        by_cases h2 : (st_F lf dx dy sq i).1 < 0 ∨ st_b dx dy sq i < (st_F lf dx dy sq i).2
        · rw [if_pos h2]; exact Or.inr rfl
        · rw [if_neg h2]; exact Or.inl rfl
      · rw [if_neg h]; exact Or.inl rfl
    rcases key with h | h
    · rw [h]
      rcases ih (by omega) with g | ⟨j, hj, g⟩
      · exact Or.inl g
      · exact Or.inr ⟨j, by omega, g⟩
    · rw [h]
      exact Or.inr ⟨i, by omega, rfl⟩
/-- Arc.step: what it answers and where it goes -/
def sp_P (lf : Int32) (sq : Int64) (fx cx fy cy r gx gy : Int32) : Prop :=
  (r = 0 ∧ (st_F lf (fx - cx).toInt64 (fy - cy).toInt64 sq 8).1 < 0 ∧ gx = fx ∧ gy = fy) ∨ ∃ j, j < 8 ∧ (st_F lf (fx - cx).toInt64 (fy - cy).toInt64 sq 8).1 = nI j ∧ r = 1 ∧ gx = fx + st_X j ∧ gy = fy + st_Y j
def mk_u (f : Nat → Int32) (j : Nat) (v : Int32) : Nat → Int32 := if j % 100 = 0 then upd f (j / 100) v else f
theorem i8_le {i : Nat} (h : i ≤ 8) (h2 : (8 : Int32) ≤ nI i) : i = 8 := by
  have h3 : nI 8 ≤ nI i := h2
  rw [nI_leI (by omega) (by omega)] at h3
  omega
theorem i8_lt {i : Nat} (h : i ≤ 8) (h2 : ¬ (8 : Int32) ≤ nI i) : i < 8 := by
  rcases Nat.lt_or_ge i 8 with q | q
  · exact q
  · have : i = 8 := by omega
    subst this
    exact absurd (by decide) h2
