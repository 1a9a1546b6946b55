/-! pure words of the class's reads -/
def at_v (sv : Nat → Int32) (a : Int32) : Int32 := if 0 ≤ a ∧ a < 3 then sv a.toNatClampNeg else 0
theorem ax_in {a : Int32} (h : 0 ≤ a ∧ a < 3) : ∃ j, j < 3 ∧ a = nI j := by
  obtain ⟨j, hj, rfl⟩ := nI_of (Int32.not_lt.mpr h.1)
  exact ⟨j, (nI_ltI (b := 3) hj (by omega)).mp h.2, rfl⟩
/-- a line's place behind tick k on an axis, as tick() answers it -/
def tk_l (fv bv : Nat → Int32) (ln k ax : Int32) : Int32 := if (0 ≤ ax ∧ ax < 3) ∧ 0 ≤ k ∧ k ≤ ln then ln_p (fv ax.toNatClampNeg) (bv ax.toNatClampNeg) ln k else 0
def tk_a (lf : Int32) (sq : Int64) (cx cy : Int32) (q : Int32 × Int32) (ht ln k ax : Int32) : Int32 := if (0 ≤ ax ∧ ax < 3) ∧ 0 ≤ k ∧ k ≤ ln then (if ax = 2 then ht else if ax = 0 then (ob_p lf sq cx cy q k.toNatClampNeg).1 else (ob_p lf sq cx cy q k.toNatClampNeg).2) else 0
