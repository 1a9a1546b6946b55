/-- class and reference stand alike -/
def lw_R (sv : Nat → Int32) (lt : Value) (ql : Nat) (a1 : Nat) (fv : Nat → Int32) (bv : Nat → Int32) (ln : Int32) (sr : Int32) (ht1 : Int32) (cx1 : Int32) (cy1 : Int32) (lf1 : Int32) (sq1 : Int64) (ln1 : Int32) (of1 : Int32) (sr1 : Int32) (mx1 : Nat → Int32) (my1 : Nat → Int32) (rx : Int32) (ry : Int32) (rz : Int32) (rw : Int32) (ri : Int32) (ux : Int32) (uy : Int32) (uz : Int32) (vx : Int32) (vy : Int32) (vz : Int32) (cn : Int32) (mo : Int32) (wf : Nat → Int32) : Prop :=
  (sv 0 = rx ∧ sv 1 = ry ∧ sv 2 = rz) ∧ (pl_in rx ∧ pl_in ry ∧ pl_in rz) ∧
  ((lt = .null ∧ rw = 0 ∧ cn = 0 ∧ mo = 0) ∨
   (lt = .ref ql ∧ rw = 1 ∧ ri = 0 ∧ (fv 0 = ux ∧ fv 1 = uy ∧ fv 2 = uz) ∧ (bv 0 = vx ∧ bv 1 = vy ∧ bv 2 = vz) ∧ ln = cn ∧ mo = 0 ∧ ∃ N : Nat, cn.toInt = N ∧ cn = nI N ∧ N ≤ 60000 ∧ (vx.toInt.natAbs ≤ N ∧ vy.toInt.natAbs ≤ N ∧ vz.toInt.natAbs ≤ N) ∧ (sr = -1 ∨ sr = ln_c fv bv ln N)) ∨
   (lt = .ref a1 ∧ rw = 1 ∧ ri = 1 ∧ ht1 = uz ∧ ln1 = cn ∧ of1 = mo ∧ sr1 = 0 ∧ ∃ N : Nat, cn = nI N ∧ N ≤ 40000 ∧ ob_M lf1 sq1 cx1 cy1 (ux, uy) mx1 my1 N ∧ wy_P lf1 sq1 cx1 cy1 (ux, uy) wf N))
theorem lr_place {sv : Nat → Int32} {lt : Value} {ql : Nat} {a1 : Nat} {fv : Nat → Int32} {bv : Nat → Int32} {ln : Int32} {sr : Int32} {ht1 : Int32} {cx1 : Int32} {cy1 : Int32} {lf1 : Int32} {sq1 : Int64} {ln1 : Int32} {of1 : Int32} {sr1 : Int32} {mx1 : Nat → Int32} {my1 : Nat → Int32} {rx : Int32} {ry : Int32} {rz : Int32} {rw : Int32} {ri : Int32} {ux : Int32} {uy : Int32} {uz : Int32} {vx : Int32} {vy : Int32} {vz : Int32} {cn : Int32} {mo : Int32} {wf : Nat → Int32} {x y z : Int32} {r1 r2 : Int32} {nv : Nat → Int32} {nt : Value} {nx ny nz nw nc no : Int32} (hR : lw_R sv lt ql a1 fv bv ln sr ht1 cx1 cy1 lf1 sq1 ln1 of1 sr1 mx1 my1 rx ry rz rw ri ux uy uz vx vy vz cn mo wf) (h1 : (r1 = 1 ∧ (pl_in x ∧ pl_in y ∧ pl_in z) ∧ nt = .null ∧ (nv 0 = x ∧ nv 1 = y ∧ nv 2 = z)) ∨ (r1 = 0 ∧ ¬ (pl_in x ∧ pl_in y ∧ pl_in z) ∧ nt = lt ∧ nv = sv)) (h2 : (r2 = 1 ∧ (pl_in x ∧ pl_in y ∧ pl_in z) ∧ nx = x ∧ ny = y ∧ nz = z ∧ nw = 0 ∧ nc = 0 ∧ no = 0) ∨ (r2 = 0 ∧ ¬ (pl_in x ∧ pl_in y ∧ pl_in z) ∧ nx = rx ∧ ny = ry ∧ nz = rz ∧ nw = rw ∧ nc = cn ∧ no = mo)) : r1 = r2 ∧ lw_R nv nt ql a1 fv bv ln sr ht1 cx1 cy1 lf1 sq1 ln1 of1 sr1 mx1 my1 nx ny nz nw ri ux uy uz vx vy vz nc no wf := by
  obtain ⟨⟨e0, e1, e2⟩, hpl, hm⟩ := hR
  rcases h1 with ⟨a1, a2, a3, a4, a5, a6⟩ | ⟨a1, a2, a3, a4⟩ <;> rcases h2 with ⟨b1, b2, b3, b4, b5, b6, b7, b8⟩ | ⟨b1, b2, b3, b4, b5, b6, b7, b8⟩
  · exact ⟨a1.trans b1.symm, ⟨a4.trans b3.symm, a5.trans b4.symm, a6.trans b5.symm⟩, by rw [b3, b4, b5]; exact b2, Or.inl ⟨a3, b6, b7, b8⟩⟩
  · exact absurd a2 b2
  · exact absurd b2 a2
  · subst a3 a4 b3 b4 b5 b6 b7 b8
    exact ⟨a1.trans b1.symm, ⟨e0, e1, e2⟩, hpl, hm⟩
theorem lr_df {x y : Int32} (hx : pl_in x) (hy : pl_in y) : -60000 ≤ (x - y).toInt ∧ (x - y).toInt ≤ 60000 := by
  have h1 := pl_t hx
  have h2 := pl_t hy
  rw [sb_i (by omega) (by omega)]
  omega
theorem lr_line {sv : Nat → Int32} {lt : Value} {ql : Nat} {a1 : Nat} {fv : Nat → Int32} {bv : Nat → Int32} {ln : Int32} {sr : Int32} {ht1 : Int32} {cx1 : Int32} {cy1 : Int32} {lf1 : Int32} {sq1 : Int64} {ln1 : Int32} {of1 : Int32} {sr1 : Int32} {mx1 : Nat → Int32} {my1 : Nat → Int32} {rx : Int32} {ry : Int32} {rz : Int32} {rw : Int32} {ri : Int32} {ux : Int32} {uy : Int32} {uz : Int32} {vx : Int32} {vy : Int32} {vz : Int32} {cn : Int32} {mo : Int32} {wf : Nat → Int32} {x y z : Int32} {r1 r2 : Int32} {nv nf nb : Nat → Int32} {nt : Value} {nl ns nx ny nz nw ni gx gy gz bx bb bz nc no : Int32} (hR : lw_R sv lt ql a1 fv bv ln sr ht1 cx1 cy1 lf1 sq1 ln1 of1 sr1 mx1 my1 rx ry rz rw ri ux uy uz vx vy vz cn mo wf) (h1 : (r1 = nl ∧ (pl_in x ∧ pl_in y ∧ pl_in z) ∧ nt = .ref ql ∧ ns = -1 ∧ (nv 0 = x ∧ nv 1 = y ∧ nv 2 = z) ∧ (nf 0 = sv 0 ∧ nf 1 = sv 1 ∧ nf 2 = sv 2) ∧ (nb 0 = x - sv 0 ∧ nb 1 = y - sv 1 ∧ nb 2 = z - sv 2) ∧ nl = ga_m (nb 0) (nb 1) (nb 2)) ∨ (r1 = -1 ∧ ¬ (pl_in x ∧ pl_in y ∧ pl_in z) ∧ nt = lt ∧ nv = sv ∧ nf = fv ∧ nb = bv ∧ nl = ln ∧ ns = sr)) (h2 : (r2 = nc ∧ (pl_in x ∧ pl_in y ∧ pl_in z) ∧ (nx = x ∧ ny = y ∧ nz = z) ∧ (nw = 1 ∧ ni = 0) ∧ (gx = rx ∧ gy = ry ∧ gz = rz) ∧ (bx = x - rx ∧ bb = y - ry ∧ bz = z - rz) ∧ nc = mx_i (am_i bx) (mx_i (am_i bb) (am_i bz)) ∧ no = 0) ∨ (r2 = -1 ∧ ¬ (pl_in x ∧ pl_in y ∧ pl_in z) ∧ (nx = rx ∧ ny = ry ∧ nz = rz) ∧ (nw = rw ∧ ni = ri) ∧ (gx = ux ∧ gy = uy ∧ gz = uz) ∧ (bx = vx ∧ bb = vy ∧ bz = vz) ∧ nc = cn ∧ no = mo)) : r1 = r2 ∧ lw_R nv nt ql a1 nf nb nl ns ht1 cx1 cy1 lf1 sq1 ln1 of1 sr1 mx1 my1 nx ny nz nw ni gx gy gz bx bb bz nc no wf := by
  obtain ⟨⟨e0, e1, e2⟩, hpl, hm⟩ := hR
  rcases h1 with ⟨a1, a2, a3, a4, a5, a6, a7, a8⟩ | ⟨a1, a2, a3, a4, a5, a6, a7, a8⟩ <;> rcases h2 with ⟨b1, b2, b3, b4, b5, b6, b7, b8⟩ | ⟨b1, b2, b3, b4, b5, b6, b7, b8⟩
  · have f0 : nb 0 = bx := by rw [a7.1, b6.1, e0]
    have f1 : nb 1 = bb := by rw [a7.2.1, b6.2.1, e1]
    have f2 : nb 2 = bz := by rw [a7.2.2, b6.2.2, e2]
    have hnl : nl = nc := by rw [a8, b7, f0, f1, f2, ga_am]
    have d0 : -60000 ≤ bx.toInt ∧ bx.toInt ≤ 60000 := by rw [b6.1]; exact lr_df a2.1 hpl.1
    have d1 : -60000 ≤ bb.toInt ∧ bb.toInt ≤ 60000 := by rw [b6.2.1]; exact lr_df a2.2.1 hpl.2.1
    have d2 : -60000 ≤ bz.toInt ∧ bz.toInt ≤ 60000 := by rw [b6.2.2]; exact lr_df a2.2.2 hpl.2.2
    have g := ga_t (x := bx) (y := bb) (z := bz) (by omega) (by omega) (by omega)
    have hg : nc = ga_m bx bb bz := by rw [b7, ga_am]
    rw [← hg] at g
    obtain ⟨N, hN1, hN2⟩ := i32_nI (x := nc) (by omega)
    refine ⟨by rw [a1, b1, hnl], ⟨a5.1.trans b3.1.symm, a5.2.1.trans b3.2.1.symm, a5.2.2.trans b3.2.2.symm⟩, by rw [b3.1, b3.2.1, b3.2.2]; exact a2, Or.inr (Or.inl ⟨a3, b4.1, b4.2, ⟨by rw [a6.1, b5.1, e0], by rw [a6.2.1, b5.2.1, e1], by rw [a6.2.2, b5.2.2, e2]⟩, ⟨f0, f1, f2⟩, hnl, b8, N, hN1.symm, hN2, by omega, ⟨by omega, by omega, by omega⟩, Or.inl a4⟩)⟩
  · exact absurd a2 b2
  · exact absurd b2 a2
  · obtain ⟨b31, b32, b33⟩ := b3
    obtain ⟨b41, b42⟩ := b4
    obtain ⟨b51, b52, b53⟩ := b5
    obtain ⟨b61, b62, b63⟩ := b6
    subst a3 a4 a5 a6 a7 a8 b31 b32 b33 b41 b42 b51 b52 b53 b61 b62 b63 b7 b8
    exact ⟨a1.trans b1.symm, ⟨e0, e1, e2⟩, hpl, hm⟩
theorem lr_arc {sv : Nat → Int32} {lt : Value} {ql : Nat} {a1 : Nat} {fv : Nat → Int32} {bv : Nat → Int32} {ln : Int32} {sr : Int32} {ht1 : Int32} {cx1 : Int32} {cy1 : Int32} {lf1 : Int32} {sq1 : Int64} {ln1 : Int32} {of1 : Int32} {sr1 : Int32} {mx1 : Nat → Int32} {my1 : Nat → Int32} {rx : Int32} {ry : Int32} {rz : Int32} {rw : Int32} {ri : Int32} {ux : Int32} {uy : Int32} {uz : Int32} {vx : Int32} {vy : Int32} {vz : Int32} {cn : Int32} {mo : Int32} {wf : Nat → Int32} {x y cx cy al : Int32} {r1 r2 : Int32} {n1 : Nat} {nv mx3 my3 nwf : Nat → Int32} {nt : Value} {ht3 cx3 cy3 lf3 ln3 of3 sr3 : Int32} {sq3 : Int64} {nx ny nw ni gx gy gz nc no : Int32} (hR : lw_R sv lt ql a1 fv bv ln sr ht1 cx1 cy1 lf1 sq1 ln1 of1 sr1 mx1 my1 rx ry rz rw ri ux uy uz vx vy vz cn mo wf) (h1 : (r1 = ln3 ∧ (pl_in x ∧ pl_in y) ∧ (ce_in cx ∧ ce_in cy) ∧ nt = .ref n1 ∧ (nv 0 = x ∧ nv 1 = y ∧ nv 2 = sv 2) ∧ (ht3 = sv 2 ∧ cx3 = cx ∧ cy3 = cy ∧ lf3 = al ∧ sq3 = (sq_c (sv 0) cx (sv 1) cy)) ∧ (1 ≤ sq3 ∧ sq3 ≤ 25000000) ∧ sr3 = 0 ∧ ∃ n, ob_H al sq3 cx cy (sv 0, sv 1) (x, y) n ∧ ln3 = nI n ∧ of3 = ob_o al sq3 cx cy (sv 0, sv 1) n ∧ ob_M al sq3 cx cy (sv 0, sv 1) mx3 my3 n) ∨ (r1 = -1 ∧ ¬ ((pl_in x ∧ pl_in y) ∧ (ce_in cx ∧ ce_in cy) ∧ (1 ≤ (sq_c (sv 0) cx (sv 1) cy) ∧ (sq_c (sv 0) cx (sv 1) cy) ≤ 25000000) ∧ ∃ n, ob_H al (sq_c (sv 0) cx (sv 1) cy) cx cy (sv 0, sv 1) (x, y) n) ∧ nt = lt ∧ nv = sv ∧ n1 = a1 ∧ (ht3 = ht1 ∧ cx3 = cx1 ∧ cy3 = cy1 ∧ lf3 = lf1 ∧ sq3 = sq1 ∧ ln3 = ln1 ∧ of3 = of1 ∧ sr3 = sr1 ∧ mx3 = mx1 ∧ my3 = my1))) (h2 : (∃ n, r2 = nI n ∧ (pl_in x ∧ pl_in y) ∧ (ce_in cx ∧ ce_in cy) ∧ (1 ≤ (sq_c rx cx ry cy) ∧ (sq_c rx cx ry cy) ≤ 25000000) ∧ ob_H al (sq_c rx cx ry cy) cx cy (rx, ry) (x, y) n ∧ (nx = x ∧ ny = y) ∧ (nw = 1 ∧ ni = 1) ∧ (gx = rx ∧ gy = ry ∧ gz = rz) ∧ nc = nI n ∧ no = (ob_w al (sq_c rx cx ry cy) cx cy (rx, ry) n).toInt32 ∧ wy_P al (sq_c rx cx ry cy) cx cy (rx, ry) nwf n) ∨ (r2 = -1 ∧ ¬ ((pl_in x ∧ pl_in y) ∧ (ce_in cx ∧ ce_in cy) ∧ (1 ≤ (sq_c rx cx ry cy) ∧ (sq_c rx cx ry cy) ≤ 25000000) ∧ ∃ n, ob_H al (sq_c rx cx ry cy) cx cy (rx, ry) (x, y) n) ∧ (nx = rx ∧ ny = ry) ∧ (nw = rw ∧ ni = ri) ∧ (gx = ux ∧ gy = uy ∧ gz = uz) ∧ nc = cn ∧ no = mo ∧ nwf = wf)) : r1 = r2 ∧ lw_R nv nt ql n1 fv bv ln sr ht3 cx3 cy3 lf3 sq3 ln3 of3 sr3 mx3 my3 nx ny rz nw ni gx gy gz vx vy vz nc no nwf := by
  obtain ⟨⟨e0, e1, e2⟩, hpl, hm⟩ := hR
  rcases h1 with ⟨a1, a2, a3, a4, a5, ⟨c1, c2, c3, c4, c5⟩, a6, a7, n, a8, a9, a10, a11⟩ | ⟨a1, a2, a3, a4, a5, ⟨c1, c2, c3, c4, c5, c6, c7, c8, c9, c10⟩⟩ <;> rcases h2 with ⟨k, b1, b2, b3, b4, b5, b6, b7, b8, b9, b10, b11⟩ | ⟨b1, b2, b3, b4, b5, b6, b7, b8⟩
  · subst c2 c3 c4
    rw [e0, e1] at a8 a10 a11 c5
    rw [← c5] at b4 b5 b10 b11
    have hnk : n = k := ob_H_uniq a8 b5
    subst hnk
    have q1 := Int64.le_iff_toInt_le.mp a6.1
    have q2 := Int64.le_iff_toInt_le.mp a6.2
    have z1 : (1 : Int64).toInt = 1 := by decide
    have z2 : (25000000 : Int64).toInt = 25000000 := by decide
    have w := (ow_eq (lf := lf3) (q := (rx, ry)) hpl.1 hpl.2.1 a3.1 a3.2 c5 (by omega) n a8.2.1 a8.2.2.1).2
    refine ⟨by rw [a1, b1, a9], ⟨a5.1.trans b6.1.symm, a5.2.1.trans b6.2.symm, a5.2.2.trans e2⟩, ⟨by rw [b6.1]; exact a2.1, by rw [b6.2]; exact a2.2, hpl.2.2⟩, Or.inr (Or.inr ⟨a4, b7.1, b7.2, by rw [c1, b8.2.2, e2], a9.trans b9.symm, by rw [a10, b10, w], a7, n, b9, a8.2.1, by rw [b8.1, b8.2.1]; exact a11, by rw [b8.1, b8.2.1]; exact b11⟩)⟩
  · refine absurd ⟨a2, a3, ?_, n, ?_⟩ b2
    · rw [e0, e1] at c5; rw [← c5]; exact a6
    · rw [e0, e1] at a8 c5; rw [← c5]; exact a8
  · refine absurd ⟨b2, b3, ?_, k, ?_⟩ a2
    · rw [e0, e1]; exact b4
    · rw [e0, e1]; exact b5
  · obtain ⟨b31, b32⟩ := b3
    obtain ⟨b41, b42⟩ := b4
    obtain ⟨b51, b52, b53⟩ := b5
    subst a3 a4 a5 c1 c2 c3 c4 c5 c6 c7 c8 c9 c10 b31 b32 b41 b42 b51 b52 b53 b6 b7 b8
    exact ⟨a1.trans b1.symm, ⟨e0, e1, e2⟩, hpl, hm⟩
theorem lw_in {L i : Nat} (hL : L ≤ 3072) (hi : i ≤ L) (h : ¬ nI L - 6 < nI i) : i + 6 ≤ L := by
  have h1 := Int32.le_iff_toInt_le.mp (Int32.not_lt.mp h)
  have h2 := pk_sub_toInt (a := L) (b := 6) (by omega) (by omega)
  have h3 : (nI L - 6).toInt = (L : Int) - 6 := h2
  rw [h3, nI_toInt (by omega)] at h1
  omega
theorem lw_and (x : Int32) : ∃ j, j < 8 ∧ x &&& 7 = nI j := pk_andE x 3 (by decide)
