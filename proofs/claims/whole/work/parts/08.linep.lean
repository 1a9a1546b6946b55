theorem ct_cB {D : va_G} {cl : List vw_C} {tys : List (ClassId × FieldType)} {s : State} {c1 c2 : ClassId} (hK : va_K D cl tys s) (i j : Nat) (h1 : tys[i]? = some (c1, .byte)) (h2 : tys[j]? = some (c2, .byte)) : c1 = c2 := by
  have q1 : s.vm.findClass _ = some c1 := (hK.2 i _ h1).2
  have q2 : s.vm.findClass _ = some c2 := (hK.2 j _ h2).2
  exact Option.some.inj (q1.symm.trans q2)
/-! pure words of a line -/
def ln_p (f b ln k : Int32) : Int32 := if ln = 0 then f else f + (fd_f (2 * b.toInt64 * k.toInt64 + ln.toInt64) (2 * ln.toInt64)).toInt32
/-- behind tick k on an axis, as countStrays walks -/
def ln_q (f b ln : Int32) : Nat → Int32
  | 0 => f
  | k + 1 => ln_p f b ln (nI (k + 1))
def ln_c (fv bv : Nat → Int32) (ln : Int32) : Nat → Int32
  | 0 => 0
  | k + 1 => if ga_m (ln_q (fv 0) (bv 0) ln (k + 1) - ln_q (fv 0) (bv 0) ln k) (ln_q (fv 1) (bv 1) ln (k + 1) - ln_q (fv 1) (bv 1) ln k) (ln_q (fv 2) (bv 2) ln (k + 1) - ln_q (fv 2) (bv 2) ln k) = 1 then ln_c fv bv ln k else ln_c fv bv ln k + 1
theorem ne_2l {x : Int32} (h : ¬ x = 0) : ¬ (2 : Int64) * x.toInt64 = 0 := by
  intro g
  apply h
  have h1 := congrArg Int64.toInt g
  rw [Int64.toInt_mul, Int32.toInt_toInt64] at h1
  have h2 := Int32.toInt_lt x
  have h3 := Int32.le_toInt x
  have h4 : (2 : Int64).toInt = 2 := rfl
  have h5 : (0 : Int64).toInt = 0 := rfl
  rw [h4, h5, Int.bmod_eq_of_le (by omega) (by omega)] at h1
  exact Int32.toInt_inj.mp (by rw [show x.toInt = 0 by omega]; rfl)
