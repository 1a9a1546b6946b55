set_option maxHeartbeats 4000000 in
set_option maxRecDepth 100000 in
/-- THE LAW'S LOOP: at its head, with i ints read, class and reference stand alike -/
theorem law_loop {p : Program} {l : Launch} {e : Env} {s : State} {m : MethodId} {below : List Frame} {meth : Method} {c : Code} {dC : Nat → ClassId} {dI : Nat → Nat → Nat} {cA cB : ClassId} {A : Nat → Prop} {b L : Nat} {xs : Nat → Int32} (C1 : lw_C p s m meth c b L xs A dC dI cA cB) (hL : L ≤ 3072) (hr : meth.sig.returnType = ret) (hlocks : meth.locks = false) (hAs : ∀ q, A q → s.heap.size ≤ q) {t0 m0 : Nat} :
    ∀ (n i : Nat), i ≤ L → L + 1 ≤ i + n → ∀ (qs : Nat) (ql : Nat) (a1 : Nat) (a2 : Nat) (lt : Value) (sv : Nat → Int32) (qf : Nat) (qb : Nat) (ln : Int32) (sr : Int32) (fv : Nat → Int32) (bv : Nat → Int32) (qx1 : Nat) (qy1 : Nat) (ht1 : Int32) (cx1 : Int32) (cy1 : Int32) (lf1 : Int32) (sq1 : Int64) (ln1 : Int32) (of1 : Int32) (sr1 : Int32) (fx1 : Int32) (fy1 : Int32) (mx1 : Nat → Int32) (my1 : Nat → Int32) (qx2 : Nat) (qy2 : Nat) (ht2 : Int32) (cx2 : Int32) (cy2 : Int32) (lf2 : Int32) (sq2 : Int64) (ln2 : Int32) (of2 : Int32) (sr2 : Int32) (fx2 : Int32) (fy2 : Int32) (mx2 : Nat → Int32) (my2 : Nat → Int32) (rx : Int32) (ry : Int32) (rz : Int32) (rw : Int32) (ri : Int32) (ux : Int32) (uy : Int32) (uz : Int32) (vx : Int32) (vy : Int32) (vz : Int32) (cn : Int32) (mo : Int32) (qw : Nat) (qt : Nat) (wf : Nat → Int32) (tf : Nat → Int32), lw_R sv lt ql a1 fv bv ln sr ht1 cx1 cy1 lf1 sq1 ln1 of1 sr1 mx1 my1 rx ry rz rw ri ux uy uz vx vy vz cn mo wf → ∀ (H : Heap) (locs : List Loc) (ls : Array Slot), va_P (dC, dI) vwCl [(t0, .inr (2, [.ref qs, .ref ql, .ref a1, .ref a2, lt])), (qs, .inl (cA, 3, .inl sv)), (ql, .inr (1, [.ref qf, .ref qb, .int ln, .int sr])), (qf, .inl (cA, 3, .inl fv)), (qb, .inl (cA, 3, .inl bv)), (a1, .inr (0, [.ref qx1, .ref qy1, .int ht1, .int cx1, .int cy1, .int lf1, .long sq1, .int ln1, .int of1, .int sr1, .int fx1, .int fy1])), (qx1, .inl (cA, 401, .inl mx1)), (qy1, .inl (cA, 401, .inl my1)), (a2, .inr (0, [.ref qx2, .ref qy2, .int ht2, .int cx2, .int cy2, .int lf2, .long sq2, .int ln2, .int of2, .int sr2, .int fx2, .int fy2])), (qx2, .inl (cA, 401, .inl mx2)), (qy2, .inl (cA, 401, .inl my2)), (m0, .inr (3, [.int rx, .int ry, .int rz, .int rw, .int ri, .int ux, .int uy, .int uz, .int vx, .int vy, .int vz, .int cn, .int mo, .ref qw, .ref qt])), (qw, .inl (cB, 40000, .inl wf)), (qt, .inl (cB, 40000, .inl tf))] H → va_D A [(t0, .inr (2, [.ref qs, .ref ql, .ref a1, .ref a2, lt])), (qs, .inl (cA, 3, .inl sv)), (ql, .inr (1, [.ref qf, .ref qb, .int ln, .int sr])), (qf, .inl (cA, 3, .inl fv)), (qb, .inl (cA, 3, .inl bv)), (a1, .inr (0, [.ref qx1, .ref qy1, .int ht1, .int cx1, .int cy1, .int lf1, .long sq1, .int ln1, .int of1, .int sr1, .int fx1, .int fy1])), (qx1, .inl (cA, 401, .inl mx1)), (qy1, .inl (cA, 401, .inl my1)), (a2, .inr (0, [.ref qx2, .ref qy2, .int ht2, .int cx2, .int cy2, .int lf2, .long sq2, .int ln2, .int of2, .int sr2, .int fx2, .int fy2])), (qx2, .inl (cA, 401, .inl mx2)), (qy2, .inl (cA, 401, .inl my2)), (m0, .inr (3, [.int rx, .int ry, .int rz, .int rw, .int ri, .int ux, .int uy, .int uz, .int vx, .int vy, .int vz, .int cn, .int mo, .ref qw, .ref qt])), (qw, .inl (cB, 40000, .inl wf)), (qt, .inl (cB, 40000, .inl tf))] → va_S A s.heap H locs → lv_has ls 4 [(3, .int (nI i)), (2, .ref m0), (1, .ref t0), (0, .ref b)] → W p l e room_1 s m #[Value.ref b] below meth c H locs 600000 7302250 (lw_Z below #[Value.ref b] s) (F0 m 18 ls []) := by
  intro n
  induction n with
  | zero =>
    intro i h1 h2
    exact absurd h2 (by omega)
  | succ n ih =>
    intro i hi hin qs ql a1 a2 lt sv qf qb ln sr fv bv qx1 qy1 ht1 cx1 cy1 lf1 sq1 ln1 of1 sr1 fx1 fy1 mx1 my1 qx2 qy2 ht2 cx2 cy2 lf2 sq2 ln2 of2 sr2 fx2 fy2 mx2 my2 rx ry rz rw ri ux uy uz vx vy vz cn mo qw qt wf tf hR H locs ls hP hD hS hl
    obtain ⟨hx, hb, hml, hown, hts, hX, hbl, hbA, hA, hK, hZ, hN⟩ := id C1
    refine lv_iload_n hx hb dL_law_18 rfl (lv_at hl 0 rfl) ?_
    refine lv_aload_n hx hb dL_law_19 rfl (lv_at hl 3 rfl) ?_
    refine va_slen hx hb hX hbl hbA hS dL_law_20 ?_
    refine ct_topi (y := nI L) rfl ?_
    refine lv_bipush (v := 6) hx hb dL_law_21 (by decide) ?_
    refine lv_isub hx hb dL_law_23 ?_
    refine lv_icmp_gt (tgt := 346) hx hb dL_law_24 (by decide) (fun c_24 => ?_) (fun c_24 => ?_)
    · refine lv_iconst (v := 1) hx hb dL_law_346 (by decide) ?_
      refine va_forget (fun q hq => hAs _ (hS.2.2 q hq)) ?_
      exact lw_ret hx hb hr hlocks dL_law_347
    · have hi6 : i + 6 ≤ L := lw_in hL hi c_24
      have hk : ∀ (qs : Nat) (ql : Nat) (a1 : Nat) (a2 : Nat) (lt : Value) (sv : Nat → Int32) (qf : Nat) (qb : Nat) (ln : Int32) (sr : Int32) (fv : Nat → Int32) (bv : Nat → Int32) (qx1 : Nat) (qy1 : Nat) (ht1 : Int32) (cx1 : Int32) (cy1 : Int32) (lf1 : Int32) (sq1 : Int64) (ln1 : Int32) (of1 : Int32) (sr1 : Int32) (fx1 : Int32) (fy1 : Int32) (mx1 : Nat → Int32) (my1 : Nat → Int32) (qx2 : Nat) (qy2 : Nat) (ht2 : Int32) (cx2 : Int32) (cy2 : Int32) (lf2 : Int32) (sq2 : Int64) (ln2 : Int32) (of2 : Int32) (sr2 : Int32) (fx2 : Int32) (fy2 : Int32) (mx2 : Nat → Int32) (my2 : Nat → Int32) (rx : Int32) (ry : Int32) (rz : Int32) (rw : Int32) (ri : Int32) (ux : Int32) (uy : Int32) (uz : Int32) (vx : Int32) (vy : Int32) (vz : Int32) (cn : Int32) (mo : Int32) (qw : Nat) (qt : Nat) (wf : Nat → Int32) (tf : Nat → Int32), lw_R sv lt ql a1 fv bv ln sr ht1 cx1 cy1 lf1 sq1 ln1 of1 sr1 mx1 my1 rx ry rz rw ri ux uy uz vx vy vz cn mo wf → ∀ (H : Heap) (locs : List Loc) (ls : Array Slot), va_P (dC, dI) vwCl [(t0, .inr (2, [.ref qs, .ref ql, .ref a1, .ref a2, lt])), (qs, .inl (cA, 3, .inl sv)), (ql, .inr (1, [.ref qf, .ref qb, .int ln, .int sr])), (qf, .inl (cA, 3, .inl fv)), (qb, .inl (cA, 3, .inl bv)), (a1, .inr (0, [.ref qx1, .ref qy1, .int ht1, .int cx1, .int cy1, .int lf1, .long sq1, .int ln1, .int of1, .int sr1, .int fx1, .int fy1])), (qx1, .inl (cA, 401, .inl mx1)), (qy1, .inl (cA, 401, .inl my1)), (a2, .inr (0, [.ref qx2, .ref qy2, .int ht2, .int cx2, .int cy2, .int lf2, .long sq2, .int ln2, .int of2, .int sr2, .int fx2, .int fy2])), (qx2, .inl (cA, 401, .inl mx2)), (qy2, .inl (cA, 401, .inl my2)), (m0, .inr (3, [.int rx, .int ry, .int rz, .int rw, .int ri, .int ux, .int uy, .int uz, .int vx, .int vy, .int vz, .int cn, .int mo, .ref qw, .ref qt])), (qw, .inl (cB, 40000, .inl wf)), (qt, .inl (cB, 40000, .inl tf))] H → va_D A [(t0, .inr (2, [.ref qs, .ref ql, .ref a1, .ref a2, lt])), (qs, .inl (cA, 3, .inl sv)), (ql, .inr (1, [.ref qf, .ref qb, .int ln, .int sr])), (qf, .inl (cA, 3, .inl fv)), (qb, .inl (cA, 3, .inl bv)), (a1, .inr (0, [.ref qx1, .ref qy1, .int ht1, .int cx1, .int cy1, .int lf1, .long sq1, .int ln1, .int of1, .int sr1, .int fx1, .int fy1])), (qx1, .inl (cA, 401, .inl mx1)), (qy1, .inl (cA, 401, .inl my1)), (a2, .inr (0, [.ref qx2, .ref qy2, .int ht2, .int cx2, .int cy2, .int lf2, .long sq2, .int ln2, .int of2, .int sr2, .int fx2, .int fy2])), (qx2, .inl (cA, 401, .inl mx2)), (qy2, .inl (cA, 401, .inl my2)), (m0, .inr (3, [.int rx, .int ry, .int rz, .int rw, .int ri, .int ux, .int uy, .int uz, .int vx, .int vy, .int vz, .int cn, .int mo, .ref qw, .ref qt])), (qw, .inl (cB, 40000, .inl wf)), (qt, .inl (cB, 40000, .inl tf))] → va_S A s.heap H locs → lv_has ls 4 [(3, .int (nI i)), (2, .ref m0), (1, .ref t0), (0, .ref b)] → W p l e room_1 s m #[Value.ref b] below meth c H locs 600000 7302250 (lw_Z below #[Value.ref b] s) (F0 m 340 ls []) := by
        intro qs ql a1 a2 lt sv qf qb ln sr fv bv qx1 qy1 ht1 cx1 cy1 lf1 sq1 ln1 of1 sr1 fx1 fy1 mx1 my1 qx2 qy2 ht2 cx2 cy2 lf2 sq2 ln2 of2 sr2 fx2 fy2 mx2 my2 rx ry rz rw ri ux uy uz vx vy vz cn mo qw qt wf tf hR H locs ls hP hD hS hl
        refine lv_iinc (v := nI (i + 6)) (lv' := [(3, .int (nI (i + 6))), (2, .ref m0), (1, .ref t0), (0, .ref b)]) hx hb dL_law_340 hl (k := 0) rfl (nI_add i 6) (by decide) rfl (fun ls hl => ?_)
        refine lv_goto (tgt := 18) hx hb dL_law_343 (by decide) ?_
        exact ih (i + 6) hi6 (by omega) qs ql a1 a2 lt sv qf qb ln sr fv bv qx1 qy1 ht1 cx1 cy1 lf1 sq1 ln1 of1 sr1 fx1 fy1 mx1 my1 qx2 qy2 ht2 cx2 cy2 lf2 sq2 ln2 of2 sr2 fx2 fy2 mx2 my2 rx ry rz rw ri ux uy uz vx vy vz cn mo qw qt wf tf hR _ _ ls hP hD hS hl
      refine lv_aload_n hx hb dL_law_27 rfl (lv_at hl 3 rfl) ?_
      refine lv_iload_n hx hb dL_law_28 rfl (lv_at hl 0 rfl) ?_
      refine va_sld hx hb hX hbl hbA hS (vp_in_nI (by omega) (by omega)) dL_law_29 ?_
      refine ct_topi (y := xs i) (congrArg xs (nI_clamp (by omega))) ?_
      refine lv_bipush (v := 7) hx hb dL_law_30 (by decide) ?_
      refine lv_iand hx hb dL_law_32 ?_
      obtain ⟨j, hj, ej⟩ := lw_and (xs i)
      refine ct_topi ej ?_
      rcases (show j = 0 ∨ j = 1 ∨ j = 2 ∨ j = 3 ∨ j = 4 ∨ j = 5 ∨ j = 6 ∨ j = 7 by omega) with rfl | rfl | rfl | rfl | rfl | rfl | rfl | rfl
      · refine lv_tableIn (off := 47) (tgt := 80) hx hb dL_law_33 (by decide) (by decide) (by decide) (by decide) ?_
        exact lw_c0 C1 hL hi6 hR hP hD hS hl hk
      · refine lv_tableIn (off := 90) (tgt := 123) hx hb dL_law_33 (by decide) (by decide) (by decide) (by decide) ?_
        exact lw_c1 C1 hL hi6 hR hP hD hS hl hk
      · refine lv_tableIn (off := 133) (tgt := 166) hx hb dL_law_33 (by decide) (by decide) (by decide) (by decide) ?_
        exact lw_c2 C1 hL hi6 hR hP hD hS hl hk
      · refine lv_tableIn (off := 212) (tgt := 245) hx hb dL_law_33 (by decide) (by decide) (by decide) (by decide) ?_
        exact lw_c3 C1 hL hi6 hR hP hD hS hl hk
      · refine lv_tableIn (off := 245) (tgt := 278) hx hb dL_law_33 (by decide) (by decide) (by decide) (by decide) ?_
        exact lw_c4 C1 hL hi6 hR hP hD hS hl hk
      · refine lv_tableIn (off := 258) (tgt := 291) hx hb dL_law_33 (by decide) (by decide) (by decide) (by decide) ?_
        exact lw_c5 C1 hL hi6 hR hP hD hS hl hk
      · refine lv_tableIn (off := 281) (tgt := 314) hx hb dL_law_33 (by decide) (by decide) (by decide) (by decide) ?_
        exact lw_c6 C1 hL hi6 hR hP hD hS hl hk
      · refine lv_tableIn (off := 294) (tgt := 327) hx hb dL_law_33 (by decide) (by decide) (by decide) (by decide) ?_
        exact lw_c7 C1 hL hi6 hR hP hD hS hl hk
