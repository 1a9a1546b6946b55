set_option maxHeartbeats 4000000 in
set_option maxRecDepth 100000 in
/-- TickWalksModel.tried -/
theorem rm_tried (l : Launch) (dC : Nat → ClassId) (dI : Nat → Nat → Nat) (cA cB : ClassId) (sz : Nat) (m0 : Nat) (rx : Int32) (ry : Int32) (rz : Int32) (rw : Int32) (ri : Int32) (ux : Int32) (uy : Int32) (uz : Int32) (vx : Int32) (vy : Int32) (vz : Int32) (cn : Int32) (mo : Int32) (qw : Nat) (qt : Nat) (tf : Nat → Int32) (gx : Int64) (gy : Int64) (cx : Int32) (cy : Int32) (sq : Int64) (al : Int32) (a : Int32) (b : Int32) (hgx : gx = (a - cx).toInt64) (hgy : gy = (b - cy).toInt64) (hpx : (pl_in rx ∧ pl_in ry) ∧ ce_in cx ∧ ce_in cy) : Met l yX4_tried wsX4_tried ({ frames := 1, cells := 0, slots := 0, locals := 20 }) (va_Pc [.ref m0, .long gx, .long gy, .int cx, .int cy, .long sq, .int al] (ct_P dC dI cA cB sz [(m0, .inr (3, [.int rx, .int ry, .int rz, .int rw, .int ri, .int ux, .int uy, .int uz, .int vx, .int vy, .int vz, .int cn, .int mo, .ref qw, .ref qt])), (qt, .inl (cB, 40000, .inl tf))])) (va_Qi (fun (r : Int32) (u : (Nat → Int32)) => (∃ n, r = nI n ∧ ob_H al sq cx cy (rx, ry) (a, b) n ∧ wy_P al sq cx cy (rx, ry) u n) ∨ (r = -1 ∧ ∀ n, ¬ ob_H al sq cx cy (rx, ry) (a, b) n)) (fun (u : (Nat → Int32)) => ct_B dC dI (va_A [(m0, .inr (3, [.int rx, .int ry, .int rz, .int rw, .int ri, .int ux, .int uy, .int uz, .int vx, .int vy, .int vz, .int cn, .int mo, .ref qw, .ref qt])), (qt, .inl (cB, 40000, .inl tf))] sz) [(m0, .inr (3, [.int rx, .int ry, .int rz, .int rw, .int ri, .int ux, .int uy, .int uz, .int vx, .int vy, .int vz, .int cn, .int mo, .ref qw, .ref qt])), (qt, .inl (cB, 40000, .inl u))]) (va_A [(m0, .inr (3, [.int rx, .int ry, .int rz, .int rw, .int ri, .int ux, .int uy, .int uz, .int vx, .int vy, .int vz, .int cn, .int mo, .ref qw, .ref qt])), (qt, .inl (cB, 40000, .inl tf))] sz)) 0 0 (va_A [(m0, .inr (3, [.int rx, .int ry, .int rz, .int rw, .int ri, .int ux, .int uy, .int uz, .int vx, .int vy, .int vz, .int cn, .int mo, .ref qw, .ref qt])), (qt, .inl (cB, 40000, .inl tf))] sz) := by
  refine Met.ofW (cc := cX4_tried) (maxL := 27) (ret := (some .int)) (by decide +kernel) rfl ?_
  intro p e s m args below meth c s₁ B hml hv
  obtain ⟨rfl, hsz, hP, hK, hD0, hZ, hN⟩ := hv
  have hx := B.exec
  have hb := B.bytes
  have hr := B.returns
  have hts := atoms_spec (ws := wsX4_tried) B.pre
  have hown : s.vm.findClass RX4 = some m.cls := findClass_of_methodNamed B.named
  have hlocks := B.notSynchronized
  have hiX4 : ∀ w ∈ u_ws RX4 TX4 15, w ∈ wsX4_tried := by decide +kernel
  subst hsz
  have hD := hD0.self (sz := s.heap.size)
  generalize hAe : va_A [(m0, .inr (3, [.int rx, .int ry, .int rz, .int rw, .int ri, .int ux, .int uy, .int uz, .int vx, .int vy, .int vz, .int cn, .int mo, .ref qw, .ref qt])), (qt, .inl (cB, 40000, .inl tf))] s.heap.size = A at hD hZ ⊢
  have hA : ∀ q : Nat, s.heap.size ≤ q → A q := fun q h => by rw [← hAe]; exact Or.inr h
  have hl := lv_entry ([.ref m0, .long gx, .long gy, .int cx, .int cy, .long sq, .int al]) (n := 27) (Nat.le_of_ble_eq_true rfl)
  rw [lg_entry_eq]
  generalize (lg_sl ([.ref m0, .long gx, .long gy, .int cx, .int cy, .long sq, .int al]) ++ List.replicate (27 - (lg_sl ([.ref m0, .long gx, .long gy, .int cx, .int cy, .long sq, .int al])).length) Slot.unset).toArray = ls at hl ⊢
  have hl : lv_has ls 27 [(0, .ref m0), (1, .long gx), (3, .long gy), (5, .int cx), (6, .int cy), (7, .long sq), (9, .int al)] := hl
  generalize hHe : s.heap = H at hP ⊢
  have hS : va_S A s.heap H [] := by rw [hHe]; exact va_S.rf
  generalize ([] : List Loc) = locs at hS ⊢
  refine lv_aload_n hx hb dX4_tried_0 rfl (lv_at hl 0 rfl) ?_
  refine va_get (D := (dC, dI)) (ci := 3) (v := .int rx) (C := RX4) (T := TX4) (N := 15) hx hb hts hiX4 hown hK hP 0 rfl rfl 0 (by decide) (hts (.fieldLink RX4 22 "TickWalksModel" "x" "I") (List.mem_of_getElem? (l := wsX4_tried) (i := 1) rfl)) (fun _ h9 => h9) rfl dX4_tried_1 ?_
  refine lv_iload hx hb dX4_tried_4 (lv_at hl 3 rfl) ?_
  refine lv_isub hx hb dX4_tried_6 ?_
  refine lv_i2l hx hb dX4_tried_7 rfl ?_
  refine lv_lstore (lv' := [(10, .long ((rx - cx).toInt64)), (0, .ref m0), (1, .long gx), (3, .long gy), (5, .int cx), (6, .int cy), (7, .long sq), (9, .int al)]) hx hb dX4_tried_8 hl (by decide) rfl (fun ls hl => ?_)
  refine lv_aload_n hx hb dX4_tried_10 rfl (lv_at hl 1 rfl) ?_
  refine va_get (D := (dC, dI)) (ci := 3) (v := .int ry) (C := RX4) (T := TX4) (N := 15) hx hb hts hiX4 hown hK hP 0 rfl rfl 1 (by decide) (hts (.fieldLink RX4 26 "TickWalksModel" "y" "I") (List.mem_of_getElem? (l := wsX4_tried) (i := 2) rfl)) (fun _ h9 => h9) rfl dX4_tried_11 ?_
  refine lv_iload hx hb dX4_tried_14 (lv_at hl 5 rfl) ?_
  refine lv_isub hx hb dX4_tried_16 ?_
  refine lv_i2l hx hb dX4_tried_17 rfl ?_
  refine lv_lstore (lv' := [(12, .long ((ry - cy).toInt64)), (10, .long ((rx - cx).toInt64)), (0, .ref m0), (1, .long gx), (3, .long gy), (5, .int cx), (6, .int cy), (7, .long sq), (9, .int al)]) hx hb dX4_tried_18 hl (by decide) rfl (fun ls hl => ?_)
  refine lv_iconst (v := 0) hx hb dX4_tried_20 (by decide) ?_
  refine lv_istore (lv' := [(14, .int 0), (12, .long ((ry - cy).toInt64)), (10, .long ((rx - cx).toInt64)), (0, .ref m0), (1, .long gx), (3, .long gy), (5, .int cx), (6, .int cy), (7, .long sq), (9, .int al)]) hx hb dX4_tried_21 hl (by decide) rfl (fun ls hl => ?_)
  refine ct_loop (σ := Nat × (Nat → Int32) × Int64 × Int64) (fun n9 w9 H locs ls => n9 = 40000 - w9.1 ∧ (w9.1 ≤ 40000) ∧ (w9.2.2.1 = ((ob_p al sq cx cy (rx, ry) w9.1).1 - cx).toInt64) ∧ (w9.2.2.2 = ((ob_p al sq cx cy (rx, ry) w9.1).2 - cy).toInt64) ∧ (∀ j, 1 ≤ j → j ≤ w9.1 → ob_p al sq cx cy (rx, ry) j ≠ (a, b)) ∧ (wy_P al sq cx cy (rx, ry) w9.2.1 w9.1) ∧ (∀ j, j < w9.1 → ¬ ob_d al sq cx cy (ob_p al sq cx cy (rx, ry) j) < 0) ∧ va_P (dC, dI) vwCl [(m0, .inr (3, [.int rx, .int ry, .int rz, .int rw, .int ri, .int ux, .int uy, .int uz, .int vx, .int vy, .int vz, .int cn, .int mo, .ref qw, .ref qt])), (qt, .inl (cB, 40000, .inl w9.2.1))] H ∧ va_D A [(m0, .inr (3, [.int rx, .int ry, .int rz, .int rw, .int ri, .int ux, .int uy, .int uz, .int vx, .int vy, .int vz, .int cn, .int mo, .ref qw, .ref qt])), (qt, .inl (cB, 40000, .inl w9.2.1))] ∧ va_S A s.heap H locs ∧ lv_has ls 27 [(14, .int (nI w9.1)), (10, .long w9.2.2.1), (12, .long w9.2.2.2), (0, .ref m0), (1, .long gx), (3, .long gy), (5, .int cx), (6, .int cy), (7, .long sq), (9, .int al)]) (fun n9 w9 H locs ls hJ ih_23 => ?_) (40000 - 0) (0, tf, (rx - cx).toInt64, (ry - cy).toInt64) _ _ _ ⟨rfl, (Nat.zero_le _), rfl, rfl, (fun j h1 h2 => absurd h1 (by omega)), (fun j h => absurd h (by omega)), (fun j h => absurd h (by omega)), (hP.sub [0, 1] rfl), (hD.sub [0, 1] (by decide) rfl), hS, (lv_sub hl [0, 2, 1, 3, 4, 5, 6, 7, 8, 9] rfl)⟩
  obtain ⟨i, zf, u, v⟩ := w9
  obtain ⟨hn_23, hi, hu, hv2, hT, hW, hd, hP, hD, hS, hl⟩ := hJ
  have hn_23 : n9 = 40000 - i := hn_23
  have hi : i ≤ 40000 := hi
  have hu : u = ((ob_p al sq cx cy (rx, ry) i).1 - cx).toInt64 := hu
  have hv2 : v = ((ob_p al sq cx cy (rx, ry) i).2 - cy).toInt64 := hv2
  have hT : ∀ j, 1 ≤ j → j ≤ i → ob_p al sq cx cy (rx, ry) j ≠ (a, b) := hT
  have hW : wy_P al sq cx cy (rx, ry) zf i := hW
  have hd : ∀ j, j < i → ¬ ob_d al sq cx cy (ob_p al sq cx cy (rx, ry) j) < 0 := hd
  have hP : va_P (dC, dI) vwCl [(m0, .inr (3, [.int rx, .int ry, .int rz, .int rw, .int ri, .int ux, .int uy, .int uz, .int vx, .int vy, .int vz, .int cn, .int mo, .ref qw, .ref qt])), (qt, .inl (cB, 40000, .inl zf))] H := hP
  have hD : va_D A [(m0, .inr (3, [.int rx, .int ry, .int rz, .int rw, .int ri, .int ux, .int uy, .int uz, .int vx, .int vy, .int vz, .int cn, .int mo, .ref qw, .ref qt])), (qt, .inl (cB, 40000, .inl zf))] := hD
  have hl : lv_has ls 27 [(14, .int (nI i)), (10, .long u), (12, .long v), (0, .ref m0), (1, .long gx), (3, .long gy), (5, .int cx), (6, .int cy), (7, .long sq), (9, .int al)] := hl
  refine lv_iload hx hb dX4_tried_23 (lv_at hl 0 rfl) ?_
  refine lv_ldc (v := 40000) hx hb hown (hts (.constant RX4 9 (40000)) (List.mem_of_getElem? (l := wsX4_tried) (i := 3) rfl)) dX4_tried_25 ?_
  refine lv_icmp_ge (tgt := 228) hx hb dX4_tried_27 (by decide) (fun c_27 => ?_) (fun c_27 => ?_)
  · refine lv_iconst (v := -1) hx hb dX4_tried_228 (by decide) ?_
    have hP9 := hP.sub (ws' := [(m0, .inr (3, [.int rx, .int ry, .int rz, .int rw, .int ri, .int ux, .int uy, .int uz, .int vx, .int vy, .int vz, .int cn, .int mo, .ref qw, .ref qt])), (qt, .inl (cB, 40000, .inl zf))]) [0, 1] rfl
    have hD9 := hD.sub (ws' := [(m0, .inr (3, [.int rx, .int ry, .int rz, .int rw, .int ri, .int ux, .int uy, .int uz, .int vx, .int vy, .int vz, .int cn, .int mo, .ref qw, .ref qt])), (qt, .inl (cB, 40000, .inl zf))]) [0, 1] (by decide) rfl
    exact W.iret (v := -1) hx hb hr (fun t9 ht9 hW9 => ⟨⟨-1, (zf), rfl, (Or.inr ⟨rfl, ob_no_e (fun j h1 h2 => hT j h1 (by have h := (nI_leI (a := 40000) (by omega) (by omega)).mp c_27; omega))⟩), by rw [ht9]; exact hP9, hD9⟩, hS.F ht9⟩) hS.2.2 dX4_tried_229
  · have hi2 : i < 40000 := by
      rcases Nat.lt_or_ge i 40000 with h | h
      · exact h
      · exact absurd (show (40000 : Int32) ≤ nI i from nI_le (a := 40000) h (by omega)) c_27
    refine lv_iconst (v := -1) hx hb dX4_tried_30 (by decide) ?_
    refine lv_istore (lv' := [(15, .int (-1)), (14, .int (nI i)), (10, .long u), (12, .long v), (0, .ref m0), (1, .long gx), (3, .long gy), (5, .int cx), (6, .int cy), (7, .long sq), (9, .int al)]) hx hb dX4_tried_31 hl (by decide) rfl (fun ls hl => ?_)
    refine lv_lconst (v := 0) hx hb dX4_tried_33 (by decide) ?_
    refine lv_lstore (lv' := [(16, .long 0), (15, .int (-1)), (14, .int (nI i)), (10, .long u), (12, .long v), (0, .ref m0), (1, .long gx), (3, .long gy), (5, .int cx), (6, .int cy), (7, .long sq), (9, .int al)]) hx hb dX4_tried_34 hl (by decide) rfl (fun ls hl => ?_)
    refine lv_iconst (v := 0) hx hb dX4_tried_36 (by decide) ?_
    refine lv_istore (lv' := [(18, .int 0), (16, .long 0), (15, .int (-1)), (14, .int (nI i)), (10, .long u), (12, .long v), (0, .ref m0), (1, .long gx), (3, .long gy), (5, .int cx), (6, .int cy), (7, .long sq), (9, .int al)]) hx hb dX4_tried_37 hl (by decide) rfl (fun ls hl => ?_)
    refine ct_loop (σ := Nat × Int32 × Int64) (fun n9 w9 H locs ls => n9 = 8 - w9.1 ∧ (w9.1 ≤ 8) ∧ ((w9.2.1, w9.2.2) = st_F al u v sq w9.1) ∧ va_P (dC, dI) vwCl [(m0, .inr (3, [.int rx, .int ry, .int rz, .int rw, .int ri, .int ux, .int uy, .int uz, .int vx, .int vy, .int vz, .int cn, .int mo, .ref qw, .ref qt])), (qt, .inl (cB, 40000, .inl zf))] H ∧ va_D A [(m0, .inr (3, [.int rx, .int ry, .int rz, .int rw, .int ri, .int ux, .int uy, .int uz, .int vx, .int vy, .int vz, .int cn, .int mo, .ref qw, .ref qt])), (qt, .inl (cB, 40000, .inl zf))] ∧ va_S A s.heap H locs ∧ lv_has ls 27 [(18, .int (nI w9.1)), (15, .int w9.2.1), (16, .long w9.2.2), (14, .int (nI i)), (10, .long u), (12, .long v), (0, .ref m0), (1, .long gx), (3, .long gy), (5, .int cx), (6, .int cy), (7, .long sq), (9, .int al)]) (fun n9 w9 H locs ls hJ ih_39 => ?_) (8 - 0) (0, -1, 0) _ _ _ ⟨rfl, (Nat.zero_le 8), rfl, (hP.sub [0, 1] rfl), (hD.sub [0, 1] (by decide) rfl), hS, (lv_sub hl [0, 2, 1, 3, 4, 5, 6, 7, 8, 9, 10, 11, 12] rfl)⟩
    obtain ⟨g, ne, le⟩ := w9
    obtain ⟨hn_39, hg, hI, hP, hD, hS, hl⟩ := hJ
    have hn_39 : n9 = 8 - g := hn_39
    have hg : g ≤ 8 := hg
    have hI : (ne, le) = st_F al u v sq g := hI
    have hP : va_P (dC, dI) vwCl [(m0, .inr (3, [.int rx, .int ry, .int rz, .int rw, .int ri, .int ux, .int uy, .int uz, .int vx, .int vy, .int vz, .int cn, .int mo, .ref qw, .ref qt])), (qt, .inl (cB, 40000, .inl zf))] H := hP
    have hD : va_D A [(m0, .inr (3, [.int rx, .int ry, .int rz, .int rw, .int ri, .int ux, .int uy, .int uz, .int vx, .int vy, .int vz, .int cn, .int mo, .ref qw, .ref qt])), (qt, .inl (cB, 40000, .inl zf))] := hD
    have hl : lv_has ls 27 [(18, .int (nI g)), (15, .int ne), (16, .long le), (14, .int (nI i)), (10, .long u), (12, .long v), (0, .ref m0), (1, .long gx), (3, .long gy), (5, .int cx), (6, .int cy), (7, .long sq), (9, .int al)] := hl
    refine lv_iload hx hb dX4_tried_39 (lv_at hl 0 rfl) ?_
    refine lv_bipush (v := 8) hx hb dX4_tried_41 (by decide) ?_
    refine lv_icmp_ge (tgt := 164) hx hb dX4_tried_43 (by decide) (fun c_43 => ?_) (fun c_43 => ?_)
    · have h8 : g = 8 := i8_le hg c_43
      subst h8
      have hdi : ne = ob_d al sq cx cy (ob_p al sq cx cy (rx, ry) i) := by
        unfold ob_d
        rw [← hu, ← hv2, ← hI]
      refine lv_iload hx hb dX4_tried_164 (lv_at hl 1 rfl) ?_
      refine lv_if_ge (tgt := 171) hx hb dX4_tried_166 (by decide) (fun c_166 => ?_) (fun c_166 => ?_)
      · have hnd : ¬ ob_d al sq cx cy (ob_p al sq cx cy (rx, ry) i) < 0 := by rw [← hdi]; exact Int32.not_lt.mpr c_166
        obtain ⟨j, hj, hdj⟩ := ob_ix hnd
        obtain rfl : ne = nI j := hdi.trans hdj
        have hps : ob_p al sq cx cy (rx, ry) (i + 1) = ((ob_p al sq cx cy (rx, ry) i).1 + st_X j, (ob_p al sq cx cy (rx, ry) i).2 + st_Y j) := by rw [ob_p]; exact ob_sj hj hdj
        have hbd := ob_b (lf := al) (sq := sq) (cx := cx) (cy := cy) (q := (rx, ry)) hpx.1.1 hpx.1.2 i (by omega)
        have hsj := sx_t hj
        refine lv_aload_n hx hb dX4_tried_171 rfl (lv_at hl 6 rfl) ?_
        refine va_get (D := (dC, dI)) (ci := 3) (v := .ref qt) (C := RX4) (T := TX4) (N := 15) hx hb hts hiX4 hown hK hP 0 rfl rfl 14 (by decide) (hts (.fieldLink RX4 14 "TickWalksModel" "tried" "[B") (List.mem_of_getElem? (l := wsX4_tried) (i := 4) rfl)) (fun _ h9 => h9) rfl dX4_tried_172 ?_
        refine lv_iload hx hb dX4_tried_175 (lv_at hl 3 rfl) ?_
        refine lv_iload hx hb dX4_tried_177 (lv_at hl 1 rfl) ?_
        refine lv_i2b hx hb dX4_tried_179 rfl ?_
        refine va_bast hx hb hK hP hD hS 1 1 rfl rfl (vp_in_nI hi2 (by decide)) dX4_tried_180 (fun H locs hP hD hS => ?_)
        rw [(nI_clamp (show i < 2 ^ 31 by omega))] at hP hD
        rw [nar_b hj] at hP hD
        have hP : va_P (dC, dI) vwCl [(m0, .inr (3, [.int rx, .int ry, .int rz, .int rw, .int ri, .int ux, .int uy, .int uz, .int vx, .int vy, .int vz, .int cn, .int mo, .ref qw, .ref qt])), (qt, .inl (cB, 40000, .inl (upd zf i (nI j))))] H := hP
        have hD : va_D A [(m0, .inr (3, [.int rx, .int ry, .int rz, .int rw, .int ri, .int ux, .int uy, .int uz, .int vx, .int vy, .int vz, .int cn, .int mo, .ref qw, .ref qt])), (qt, .inl (cB, 40000, .inl (upd zf i (nI j))))] := hD
        refine lv_lload hx hb dX4_tried_181 (lv_at hl 4 rfl) ?_
        refine lv_iload hx hb dX4_tried_183 (lv_at hl 1 rfl) ?_
        refine ct_calli (va_runS (As := [.int (nI j)]) (rest := [.long u]) ⟨hx, hb, hml, hown, hts⟩ (rf_east l dC dI cA cB H.size j hj) (va_cwS 1 hts gX4_tried_X4_eastOf rfl rfl rfl (by decide +kernel) ⟨Nat.le_of_ble_eq_true rfl, Nat.le_of_ble_eq_true rfl⟩) ⟨ct_blind, ct_pre hP hD hK hZ hN hS hA [] rfl (by decide)⟩ rfl rfl hl.1 rfl (lv_room (Nat.le_of_ble_eq_true rfl)) dX4_tried_185 ⟨Nat.le_of_ble_eq_true rfl, Nat.le_of_ble_eq_true rfl⟩) hP hD hS hA [] [0, 1] rfl (wr := [(m0, .inr (3, [.int rx, .int ry, .int rz, .int rw, .int ri, .int ux, .int uy, .int uz, .int vx, .int vy, .int vz, .int cn, .int mo, .ref qw, .ref qt])), (qt, .inl (cB, 40000, .inl (upd zf i (nI j))))]) rfl (by decide) (by decide) (fun r_1 u9 H locs hw_1 hP hD hS => ?_)
        have hw_1 : r_1 = st_X j := hw_1
        have hP : va_P (dC, dI) vwCl [(m0, .inr (3, [.int rx, .int ry, .int rz, .int rw, .int ri, .int ux, .int uy, .int uz, .int vx, .int vy, .int vz, .int cn, .int mo, .ref qw, .ref qt])), (qt, .inl (cB, 40000, .inl (upd zf i (nI j))))] H := hP
        have hD : va_D A [(m0, .inr (3, [.int rx, .int ry, .int rz, .int rw, .int ri, .int ux, .int uy, .int uz, .int vx, .int vy, .int vz, .int cn, .int mo, .ref qw, .ref qt])), (qt, .inl (cB, 40000, .inl (upd zf i (nI j))))] := hD
        refine ct_topi (y := st_X j) hw_1 ?_
        refine lv_i2l hx hb dX4_tried_188 rfl ?_
        refine lv_ladd hx hb dX4_tried_189 ?_
        refine lv_lstore (lv' := [(10, .long (u + ((st_X j).toInt64))), (18, .int (nI 8)), (15, .int (nI j)), (16, .long le), (14, .int (nI i)), (12, .long v), (0, .ref m0), (1, .long gx), (3, .long gy), (5, .int cx), (6, .int cy), (7, .long sq), (9, .int al)]) hx hb dX4_tried_190 hl (by decide) rfl (fun ls hl => ?_)
        refine lv_lload hx hb dX4_tried_192 (lv_at hl 5 rfl) ?_
        refine lv_iload hx hb dX4_tried_194 (lv_at hl 2 rfl) ?_
        refine ct_calli (va_runS (As := [.int (nI j)]) (rest := [.long v]) ⟨hx, hb, hml, hown, hts⟩ (rf_north l dC dI cA cB H.size j hj) (va_cwS 1 hts gX4_tried_X4_northOf rfl rfl rfl (by decide +kernel) ⟨Nat.le_of_ble_eq_true rfl, Nat.le_of_ble_eq_true rfl⟩) ⟨ct_blind, ct_pre hP hD hK hZ hN hS hA [] rfl (by decide)⟩ rfl rfl hl.1 rfl (lv_room (Nat.le_of_ble_eq_true rfl)) dX4_tried_196 ⟨Nat.le_of_ble_eq_true rfl, Nat.le_of_ble_eq_true rfl⟩) hP hD hS hA [] [0, 1] rfl (wr := [(m0, .inr (3, [.int rx, .int ry, .int rz, .int rw, .int ri, .int ux, .int uy, .int uz, .int vx, .int vy, .int vz, .int cn, .int mo, .ref qw, .ref qt])), (qt, .inl (cB, 40000, .inl (upd zf i (nI j))))]) rfl (by decide) (by decide) (fun r_2 u9 H locs hw_2 hP hD hS => ?_)
        have hw_2 : r_2 = st_Y j := hw_2
        have hP : va_P (dC, dI) vwCl [(m0, .inr (3, [.int rx, .int ry, .int rz, .int rw, .int ri, .int ux, .int uy, .int uz, .int vx, .int vy, .int vz, .int cn, .int mo, .ref qw, .ref qt])), (qt, .inl (cB, 40000, .inl (upd zf i (nI j))))] H := hP
        have hD : va_D A [(m0, .inr (3, [.int rx, .int ry, .int rz, .int rw, .int ri, .int ux, .int uy, .int uz, .int vx, .int vy, .int vz, .int cn, .int mo, .ref qw, .ref qt])), (qt, .inl (cB, 40000, .inl (upd zf i (nI j))))] := hD
        refine ct_topi (y := st_Y j) hw_2 ?_
        refine lv_i2l hx hb dX4_tried_199 rfl ?_
        refine lv_ladd hx hb dX4_tried_200 ?_
        refine lv_lstore (lv' := [(12, .long (v + ((st_Y j).toInt64))), (10, .long (u + ((st_X j).toInt64))), (18, .int (nI 8)), (15, .int (nI j)), (16, .long le), (14, .int (nI i)), (0, .ref m0), (1, .long gx), (3, .long gy), (5, .int cx), (6, .int cy), (7, .long sq), (9, .int al)]) hx hb dX4_tried_201 hl (by decide) rfl (fun ls hl => ?_)
        have hu2 : u + (st_X j).toInt64 = ((ob_p al sq cx cy (rx, ry) (i + 1)).1 - cx).toInt64 := by rw [hps, hu]; exact l6_step (by omega) (ce_t hpx.2.1) hsj.1
        have hv3 : v + (st_Y j).toInt64 = ((ob_p al sq cx cy (rx, ry) (i + 1)).2 - cy).toInt64 := by rw [hps, hv2]; exact l6_step (by omega) (ce_t hpx.2.2) hsj.2
        have hd2 : ∀ j, j < i + 1 → ¬ ob_d al sq cx cy (ob_p al sq cx cy (rx, ry) j) < 0 := fun j h => by
          rcases Nat.lt_or_ge j i with q | q
          · exact hd j q
          · rw [show j = i by omega]; exact hnd
        have hW2 : wy_P al sq cx cy (rx, ry) (upd zf i (nI j)) (i + 1) := fun y h => by
          rcases Nat.lt_or_ge y i with q | q
          · rw [pk_un (by omega)]; exact hW y q
          · rw [show y = i by omega, pk_us]; exact ⟨j, hj, rfl, hps⟩
        refine lv_lload hx hb dX4_tried_203 (lv_at hl 1 rfl) ?_
        refine lv_lload_n hx hb dX4_tried_205 rfl (lv_at hl 7 rfl) ?_
        refine W.lcmp hx hb dX4_tried_206 ?_
        refine lv_if_ne (tgt := 222) hx hb dX4_tried_207 (by decide) (fun c_207 => ?_) (fun c_207 => ?_)
        · have hne2 : ob_p al sq cx cy (rx, ry) (i + 1) ≠ (a, b) := fun h => c_207 ((lg_cmp_eq _ _).mpr (by rw [hu2, hgx, h]))
          have hT2 : ∀ j, 1 ≤ j → j ≤ i + 1 → ob_p al sq cx cy (rx, ry) j ≠ (a, b) := fun j h1 h2 => by
            rcases Nat.lt_or_ge j (i + 1) with q | q
            · exact hT j h1 (by omega)
            · rw [show j = i + 1 by omega]; exact hne2
          refine lv_iinc (v := nI (i + 1)) (lv' := [(14, .int (nI (i + 1))), (12, .long (v + ((st_Y j).toInt64))), (10, .long (u + ((st_X j).toInt64))), (18, .int (nI 8)), (15, .int (nI j)), (16, .long le), (0, .ref m0), (1, .long gx), (3, .long gy), (5, .int cx), (6, .int cy), (7, .long sq), (9, .int al)]) hx hb dX4_tried_222 hl (k := 5) rfl (nI_1 i) (by decide) rfl (fun ls hl => ?_)
          refine lv_goto (tgt := 23) hx hb dX4_tried_225 (by decide) ?_
          exact ih_23 _ ((i + 1), upd zf i (nI j), u + ((st_X j).toInt64), v + ((st_Y j).toInt64)) _ _ _ (by rw [hn_23]; omega) ⟨rfl, (show i + 1 ≤ 40000 by omega), hu2, hv3, hT2, hW2, hd2, (hP.sub [0, 1] rfl), (hD.sub [0, 1] (by decide) rfl), hS, (lv_sub hl [0, 2, 1, 6, 7, 8, 9, 10, 11, 12] rfl)⟩
        · refine lv_lload hx hb dX4_tried_210 (lv_at hl 0 rfl) ?_
          refine lv_lload_n hx hb dX4_tried_212 rfl (lv_at hl 8 rfl) ?_
          refine W.lcmp hx hb dX4_tried_213 ?_
          refine lv_if_ne (tgt := 222) hx hb dX4_tried_214 (by decide) (fun c_214 => ?_) (fun c_214 => ?_)
          · have hne2 : ob_p al sq cx cy (rx, ry) (i + 1) ≠ (a, b) := fun h => c_214 ((lg_cmp_eq _ _).mpr (by rw [hv3, hgy, h]))
            have hT2 : ∀ j, 1 ≤ j → j ≤ i + 1 → ob_p al sq cx cy (rx, ry) j ≠ (a, b) := fun j h1 h2 => by
              rcases Nat.lt_or_ge j (i + 1) with q | q
              · exact hT j h1 (by omega)
              · rw [show j = i + 1 by omega]; exact hne2
            refine lv_iinc (v := nI (i + 1)) (lv' := [(14, .int (nI (i + 1))), (12, .long (v + ((st_Y j).toInt64))), (10, .long (u + ((st_X j).toInt64))), (18, .int (nI 8)), (15, .int (nI j)), (16, .long le), (0, .ref m0), (1, .long gx), (3, .long gy), (5, .int cx), (6, .int cy), (7, .long sq), (9, .int al)]) hx hb dX4_tried_222 hl (k := 5) rfl (nI_1 i) (by decide) rfl (fun ls hl => ?_)
            refine lv_goto (tgt := 23) hx hb dX4_tried_225 (by decide) ?_
            exact ih_23 _ ((i + 1), upd zf i (nI j), u + ((st_X j).toInt64), v + ((st_Y j).toInt64)) _ _ _ (by rw [hn_23]; omega) ⟨rfl, (show i + 1 ≤ 40000 by omega), hu2, hv3, hT2, hW2, hd2, (hP.sub [0, 1] rfl), (hD.sub [0, 1] (by decide) rfl), hS, (lv_sub hl [0, 2, 1, 6, 7, 8, 9, 10, 11, 12] rfl)⟩
          · refine lv_iload hx hb dX4_tried_217 (lv_at hl 5 rfl) ?_
            refine lv_iconst (v := 1) hx hb dX4_tried_219 (by decide) ?_
            refine lv_iadd hx hb dX4_tried_220 ?_
            refine ct_topi (y := nI (i + 1)) (nI_1 i) ?_
            have hP9 := hP.sub (ws' := [(m0, .inr (3, [.int rx, .int ry, .int rz, .int rw, .int ri, .int ux, .int uy, .int uz, .int vx, .int vy, .int vz, .int cn, .int mo, .ref qw, .ref qt])), (qt, .inl (cB, 40000, .inl (upd zf i (nI j))))]) [0, 1] rfl
            have hD9 := hD.sub (ws' := [(m0, .inr (3, [.int rx, .int ry, .int rz, .int rw, .int ri, .int ux, .int uy, .int uz, .int vx, .int vy, .int vz, .int cn, .int mo, .ref qw, .ref qt])), (qt, .inl (cB, 40000, .inl (upd zf i (nI j))))]) [0, 1] (by decide) rfl
            exact W.iret (v := nI (i + 1)) hx hb hr (fun t9 ht9 hW9 => ⟨⟨nI (i + 1), (upd zf i (nI j)), rfl, (Or.inl ⟨i + 1, rfl, ⟨by omega, by omega, hd2, by have h1 := (lg_cmp_eq _ _).mp c_207; have h2 := (lg_cmp_eq _ _).mp c_214; rw [hu2, hgx] at h1; rw [hv3, hgy] at h2; exact Prod.ext (l6_inj h1) (l6_inj h2), fun j h1 h2 => hT j h1 (by omega)⟩, hW2⟩), by rw [ht9]; exact hP9, hD9⟩, hS.F ht9⟩) hS.2.2 dX4_tried_221
      · refine lv_iconst (v := -1) hx hb dX4_tried_169 (by decide) ?_
        have hP9 := hP.sub (ws' := [(m0, .inr (3, [.int rx, .int ry, .int rz, .int rw, .int ri, .int ux, .int uy, .int uz, .int vx, .int vy, .int vz, .int cn, .int mo, .ref qw, .ref qt])), (qt, .inl (cB, 40000, .inl zf))]) [0, 1] rfl
        have hD9 := hD.sub (ws' := [(m0, .inr (3, [.int rx, .int ry, .int rz, .int rw, .int ri, .int ux, .int uy, .int uz, .int vx, .int vy, .int vz, .int cn, .int mo, .ref qw, .ref qt])), (qt, .inl (cB, 40000, .inl zf))]) [0, 1] (by decide) rfl
        exact W.iret (v := -1) hx hb hr (fun t9 ht9 hW9 => ⟨⟨-1, (zf), rfl, (Or.inr ⟨rfl, ob_no_d (j := i) (by rw [← hdi]; exact Int32.not_le.mp c_166) hT⟩), by rw [ht9]; exact hP9, hD9⟩, hS.F ht9⟩) hS.2.2 dX4_tried_170
    · have hlt : g < 8 := i8_lt hg c_43
      refine lv_lload hx hb dX4_tried_46 (lv_at hl 4 rfl) ?_
      refine lv_iload hx hb dX4_tried_48 (lv_at hl 0 rfl) ?_
      refine ct_calli (va_runS (As := [.int (nI g)]) (rest := [.long u]) ⟨hx, hb, hml, hown, hts⟩ (rf_east l dC dI cA cB H.size g hlt) (va_cwS 1 hts gX4_tried_X4_eastOf rfl rfl rfl (by decide +kernel) ⟨Nat.le_of_ble_eq_true rfl, Nat.le_of_ble_eq_true rfl⟩) ⟨ct_blind, ct_pre hP hD hK hZ hN hS hA [] rfl (by decide)⟩ rfl rfl hl.1 rfl (lv_room (Nat.le_of_ble_eq_true rfl)) dX4_tried_50 ⟨Nat.le_of_ble_eq_true rfl, Nat.le_of_ble_eq_true rfl⟩) hP hD hS hA [] [0, 1] rfl (wr := [(m0, .inr (3, [.int rx, .int ry, .int rz, .int rw, .int ri, .int ux, .int uy, .int uz, .int vx, .int vy, .int vz, .int cn, .int mo, .ref qw, .ref qt])), (qt, .inl (cB, 40000, .inl zf))]) rfl (by decide) (by decide) (fun r_3 u9 H locs hw_3 hP hD hS => ?_)
      have hw_3 : r_3 = st_X g := hw_3
      have hP : va_P (dC, dI) vwCl [(m0, .inr (3, [.int rx, .int ry, .int rz, .int rw, .int ri, .int ux, .int uy, .int uz, .int vx, .int vy, .int vz, .int cn, .int mo, .ref qw, .ref qt])), (qt, .inl (cB, 40000, .inl zf))] H := hP
      have hD : va_D A [(m0, .inr (3, [.int rx, .int ry, .int rz, .int rw, .int ri, .int ux, .int uy, .int uz, .int vx, .int vy, .int vz, .int cn, .int mo, .ref qw, .ref qt])), (qt, .inl (cB, 40000, .inl zf))] := hD
      refine ct_topi (y := st_X g) hw_3 ?_
      refine lv_i2l hx hb dX4_tried_53 rfl ?_
      refine lv_ladd hx hb dX4_tried_54 ?_
      refine lv_topl (fun pa epa => ?_)
      refine lv_lstore (lv' := [(19, .long pa), (18, .int (nI g)), (15, .int ne), (16, .long le), (14, .int (nI i)), (10, .long u), (12, .long v), (0, .ref m0), (1, .long gx), (3, .long gy), (5, .int cx), (6, .int cy), (7, .long sq), (9, .int al)]) hx hb dX4_tried_55 hl (by decide) rfl (fun ls hl => ?_)
      refine lv_lload hx hb dX4_tried_57 (lv_at hl 6 rfl) ?_
      refine lv_iload hx hb dX4_tried_59 (lv_at hl 1 rfl) ?_
      refine ct_calli (va_runS (As := [.int (nI g)]) (rest := [.long v]) ⟨hx, hb, hml, hown, hts⟩ (rf_north l dC dI cA cB H.size g hlt) (va_cwS 1 hts gX4_tried_X4_northOf rfl rfl rfl (by decide +kernel) ⟨Nat.le_of_ble_eq_true rfl, Nat.le_of_ble_eq_true rfl⟩) ⟨ct_blind, ct_pre hP hD hK hZ hN hS hA [] rfl (by decide)⟩ rfl rfl hl.1 rfl (lv_room (Nat.le_of_ble_eq_true rfl)) dX4_tried_61 ⟨Nat.le_of_ble_eq_true rfl, Nat.le_of_ble_eq_true rfl⟩) hP hD hS hA [] [0, 1] rfl (wr := [(m0, .inr (3, [.int rx, .int ry, .int rz, .int rw, .int ri, .int ux, .int uy, .int uz, .int vx, .int vy, .int vz, .int cn, .int mo, .ref qw, .ref qt])), (qt, .inl (cB, 40000, .inl zf))]) rfl (by decide) (by decide) (fun r_4 u9 H locs hw_4 hP hD hS => ?_)
      have hw_4 : r_4 = st_Y g := hw_4
      have hP : va_P (dC, dI) vwCl [(m0, .inr (3, [.int rx, .int ry, .int rz, .int rw, .int ri, .int ux, .int uy, .int uz, .int vx, .int vy, .int vz, .int cn, .int mo, .ref qw, .ref qt])), (qt, .inl (cB, 40000, .inl zf))] H := hP
      have hD : va_D A [(m0, .inr (3, [.int rx, .int ry, .int rz, .int rw, .int ri, .int ux, .int uy, .int uz, .int vx, .int vy, .int vz, .int cn, .int mo, .ref qw, .ref qt])), (qt, .inl (cB, 40000, .inl zf))] := hD
      refine ct_topi (y := st_Y g) hw_4 ?_
      refine lv_i2l hx hb dX4_tried_64 rfl ?_
      refine lv_ladd hx hb dX4_tried_65 ?_
      refine lv_topl (fun pb epb => ?_)
      refine lv_lstore (lv' := [(21, .long pb), (19, .long pa), (18, .int (nI g)), (15, .int ne), (16, .long le), (14, .int (nI i)), (10, .long u), (12, .long v), (0, .ref m0), (1, .long gx), (3, .long gy), (5, .int cx), (6, .int cy), (7, .long sq), (9, .int al)]) hx hb dX4_tried_66 hl (by decide) rfl (fun ls hl => ?_)
      refine lv_lload hx hb dX4_tried_68 (lv_at hl 6 rfl) ?_
      refine lv_lload hx hb dX4_tried_70 (lv_at hl 0 rfl) ?_
      refine lv_lmul hx hb dX4_tried_72 ?_
      refine lv_lload hx hb dX4_tried_73 (lv_at hl 7 rfl) ?_
      refine lv_lload hx hb dX4_tried_75 (lv_at hl 1 rfl) ?_
      refine lv_lmul hx hb dX4_tried_77 ?_
      refine lv_lsub hx hb dX4_tried_78 ?_
      refine lv_topl (fun tn etn => ?_)
      refine lv_lstore (lv' := [(23, .long tn), (21, .long pb), (19, .long pa), (18, .int (nI g)), (15, .int ne), (16, .long le), (14, .int (nI i)), (10, .long u), (12, .long v), (0, .ref m0), (1, .long gx), (3, .long gy), (5, .int cx), (6, .int cy), (7, .long sq), (9, .int al)]) hx hb dX4_tried_79 hl (by decide) rfl (fun ls hl => ?_)
      have htn : tn = st_t u v g := by rw [etn, epa, epb]; rfl
      refine lv_iload hx hb dX4_tried_81 (lv_at hl 15 rfl) ?_
      refine lv_if_eq (tgt := 96) hx hb dX4_tried_83 (by decide) (fun c_83 => ?_) (fun c_83 => ?_)
      · refine lv_lload hx hb dX4_tried_96 (lv_at hl 0 rfl) ?_
        refine lv_lconst (v := 0) hx hb dX4_tried_98 (by decide) ?_
        refine W.lcmp hx hb dX4_tried_99 ?_
        refine lv_if_lt (tgt := 106) hx hb dX4_tried_100 (by decide) (fun c_100 => ?_) (fun c_100 => ?_)
        · refine lv_lload hx hb dX4_tried_106 (lv_at hl 2 rfl) ?_
          refine lv_lload hx hb dX4_tried_108 (lv_at hl 2 rfl) ?_
          refine lv_lmul hx hb dX4_tried_110 ?_
          refine lv_lload hx hb dX4_tried_111 (lv_at hl 1 rfl) ?_
          refine lv_lload hx hb dX4_tried_113 (lv_at hl 1 rfl) ?_
          refine lv_lmul hx hb dX4_tried_115 ?_
          refine lv_ladd hx hb dX4_tried_116 ?_
          refine lv_lload hx hb dX4_tried_117 (lv_at hl 14 rfl) ?_
          refine lv_lsub hx hb dX4_tried_119 ?_
          refine lv_topl (fun of1 eof1 => ?_)
          refine lv_lstore (lv' := [(25, .long of1), (23, .long tn), (21, .long pb), (19, .long pa), (18, .int (nI g)), (15, .int ne), (16, .long le), (14, .int (nI i)), (10, .long u), (12, .long v), (0, .ref m0), (1, .long gx), (3, .long gy), (5, .int cx), (6, .int cy), (7, .long sq), (9, .int al)]) hx hb dX4_tried_120 hl (by decide) rfl (fun ls hl => ?_)
          refine lv_lload hx hb dX4_tried_122 (lv_at hl 0 rfl) ?_
          refine lv_lconst (v := 0) hx hb dX4_tried_124 (by decide) ?_
          refine W.lcmp hx hb dX4_tried_125 ?_
          refine lv_if_ge (tgt := 134) hx hb dX4_tried_126 (by decide) (fun c_126 => ?_) (fun c_126 => ?_)
          · have hbs : of1 = st_b u v sq g := by rw [ab_l_ge ((lg_cmp_ge _ _).mp c_126), eof1, epa, epb]; rfl
            refine lv_iload hx hb dX4_tried_134 (lv_at hl 5 rfl) ?_
            refine lv_if_lt (tgt := 150) hx hb dX4_tried_136 (by decide) (fun c_136 => ?_) (fun c_136 => ?_)
            · refine lv_iload hx hb dX4_tried_150 (lv_at hl 4 rfl) ?_
              refine lv_istore (lv' := [(15, .int (nI g)), (25, .long of1), (23, .long tn), (21, .long pb), (19, .long pa), (18, .int (nI g)), (16, .long le), (14, .int (nI i)), (10, .long u), (12, .long v), (0, .ref m0), (1, .long gx), (3, .long gy), (5, .int cx), (6, .int cy), (7, .long sq), (9, .int al)]) hx hb dX4_tried_152 hl (by decide) rfl (fun ls hl => ?_)
              refine lv_lload hx hb dX4_tried_154 (lv_at hl 1 rfl) ?_
              refine lv_lstore (lv' := [(16, .long of1), (15, .int (nI g)), (25, .long of1), (23, .long tn), (21, .long pb), (19, .long pa), (18, .int (nI g)), (14, .int (nI i)), (10, .long u), (12, .long v), (0, .ref m0), (1, .long gx), (3, .long gy), (5, .int cx), (6, .int cy), (7, .long sq), (9, .int al)]) hx hb dX4_tried_156 hl (by decide) rfl (fun ls hl => ?_)
              refine lv_iinc (v := nI (g + 1)) (lv' := [(18, .int (nI (g + 1))), (16, .long of1), (15, .int (nI g)), (25, .long of1), (23, .long tn), (21, .long pb), (19, .long pa), (14, .int (nI i)), (10, .long u), (12, .long v), (0, .ref m0), (1, .long gx), (3, .long gy), (5, .int cx), (6, .int cy), (7, .long sq), (9, .int al)]) hx hb dX4_tried_158 hl (k := 6) rfl (nI_1 g) (by decide) rfl (fun ls hl => ?_)
              refine lv_goto (tgt := 39) hx hb dX4_tried_161 (by decide) ?_
              exact ih_39 _ ((g + 1), nI g, of1) _ _ _ (by rw [hn_39]; omega) ⟨rfl, (show g + 1 ≤ 8 by omega), (by rw [st_F_take (show st_c al u v g = true by unfold st_c; rw [if_pos c_83, ← htn]; exact decide_eq_true ((lg_cmp_lt _ _).mp c_100)) (Or.inl (by rw [← hI]; exact c_136)), ← hbs]), (hP.sub [0, 1] rfl), (hD.sub [0, 1] (by decide) rfl), hS, (lv_sub hl [0, 2, 1, 7, 8, 9, 10, 11, 12, 13, 14, 15, 16] rfl)⟩
            · refine lv_lload hx hb dX4_tried_139 (lv_at hl 0 rfl) ?_
              refine lv_lload hx hb dX4_tried_141 (lv_at hl 6 rfl) ?_
              refine W.lcmp hx hb dX4_tried_143 ?_
              refine lv_if_lt (tgt := 150) hx hb dX4_tried_144 (by decide) (fun c_144 => ?_) (fun c_144 => ?_)
              · refine lv_iload hx hb dX4_tried_150 (lv_at hl 4 rfl) ?_
                refine lv_istore (lv' := [(15, .int (nI g)), (25, .long of1), (23, .long tn), (21, .long pb), (19, .long pa), (18, .int (nI g)), (16, .long le), (14, .int (nI i)), (10, .long u), (12, .long v), (0, .ref m0), (1, .long gx), (3, .long gy), (5, .int cx), (6, .int cy), (7, .long sq), (9, .int al)]) hx hb dX4_tried_152 hl (by decide) rfl (fun ls hl => ?_)
                refine lv_lload hx hb dX4_tried_154 (lv_at hl 1 rfl) ?_
                refine lv_lstore (lv' := [(16, .long of1), (15, .int (nI g)), (25, .long of1), (23, .long tn), (21, .long pb), (19, .long pa), (18, .int (nI g)), (14, .int (nI i)), (10, .long u), (12, .long v), (0, .ref m0), (1, .long gx), (3, .long gy), (5, .int cx), (6, .int cy), (7, .long sq), (9, .int al)]) hx hb dX4_tried_156 hl (by decide) rfl (fun ls hl => ?_)
                refine lv_iinc (v := nI (g + 1)) (lv' := [(18, .int (nI (g + 1))), (16, .long of1), (15, .int (nI g)), (25, .long of1), (23, .long tn), (21, .long pb), (19, .long pa), (14, .int (nI i)), (10, .long u), (12, .long v), (0, .ref m0), (1, .long gx), (3, .long gy), (5, .int cx), (6, .int cy), (7, .long sq), (9, .int al)]) hx hb dX4_tried_158 hl (k := 6) rfl (nI_1 g) (by decide) rfl (fun ls hl => ?_)
                refine lv_goto (tgt := 39) hx hb dX4_tried_161 (by decide) ?_
                exact ih_39 _ ((g + 1), nI g, of1) _ _ _ (by rw [hn_39]; omega) ⟨rfl, (show g + 1 ≤ 8 by omega), (by rw [st_F_take (show st_c al u v g = true by unfold st_c; rw [if_pos c_83, ← htn]; exact decide_eq_true ((lg_cmp_lt _ _).mp c_100)) (Or.inr (by rw [← hI, ← hbs]; exact (lg_cmp_lt _ _).mp c_144)), ← hbs]), (hP.sub [0, 1] rfl), (hD.sub [0, 1] (by decide) rfl), hS, (lv_sub hl [0, 2, 1, 7, 8, 9, 10, 11, 12, 13, 14, 15, 16] rfl)⟩
              · refine lv_goto (tgt := 158) hx hb dX4_tried_147 (by decide) ?_
                refine lv_iinc (v := nI (g + 1)) (lv' := [(18, .int (nI (g + 1))), (25, .long of1), (23, .long tn), (21, .long pb), (19, .long pa), (15, .int ne), (16, .long le), (14, .int (nI i)), (10, .long u), (12, .long v), (0, .ref m0), (1, .long gx), (3, .long gy), (5, .int cx), (6, .int cy), (7, .long sq), (9, .int al)]) hx hb dX4_tried_158 hl (k := 4) rfl (nI_1 g) (by decide) rfl (fun ls hl => ?_)
                refine lv_goto (tgt := 39) hx hb dX4_tried_161 (by decide) ?_
                exact ih_39 _ ((g + 1), ne, le) _ _ _ (by rw [hn_39]; omega) ⟨rfl, (show g + 1 ≤ 8 by omega), (hI.trans (st_F_keep (show st_c al u v g = true by unfold st_c; rw [if_pos c_83, ← htn]; exact decide_eq_true ((lg_cmp_lt _ _).mp c_100)) (by rw [← hI, ← hbs]; intro h; rcases h with h | h; exact c_136 h; exact c_144 ((lg_cmp_lt _ _).mpr h))).symm), (hP.sub [0, 1] rfl), (hD.sub [0, 1] (by decide) rfl), hS, (lv_sub hl [0, 5, 6, 7, 8, 9, 10, 11, 12, 13, 14, 15, 16] rfl)⟩
          · refine lv_lload hx hb dX4_tried_129 (lv_at hl 0 rfl) ?_
            refine lv_lneg hx hb dX4_tried_131 ?_
            refine lv_lstore (lv' := [(25, .long (-of1)), (23, .long tn), (21, .long pb), (19, .long pa), (18, .int (nI g)), (15, .int ne), (16, .long le), (14, .int (nI i)), (10, .long u), (12, .long v), (0, .ref m0), (1, .long gx), (3, .long gy), (5, .int cx), (6, .int cy), (7, .long sq), (9, .int al)]) hx hb dX4_tried_132 hl (by decide) rfl (fun ls hl => ?_)
            have hbs : -of1 = st_b u v sq g := by rw [ab_l_lt (fun h => c_126 ((lg_cmp_ge _ _).mpr h)), eof1, epa, epb]; rfl
            refine lv_iload hx hb dX4_tried_134 (lv_at hl 5 rfl) ?_
            refine lv_if_lt (tgt := 150) hx hb dX4_tried_136 (by decide) (fun c_136 => ?_) (fun c_136 => ?_)
            · refine lv_iload hx hb dX4_tried_150 (lv_at hl 4 rfl) ?_
              refine lv_istore (lv' := [(15, .int (nI g)), (25, .long (-of1)), (23, .long tn), (21, .long pb), (19, .long pa), (18, .int (nI g)), (16, .long le), (14, .int (nI i)), (10, .long u), (12, .long v), (0, .ref m0), (1, .long gx), (3, .long gy), (5, .int cx), (6, .int cy), (7, .long sq), (9, .int al)]) hx hb dX4_tried_152 hl (by decide) rfl (fun ls hl => ?_)
              refine lv_lload hx hb dX4_tried_154 (lv_at hl 1 rfl) ?_
              refine lv_lstore (lv' := [(16, .long (-of1)), (15, .int (nI g)), (25, .long (-of1)), (23, .long tn), (21, .long pb), (19, .long pa), (18, .int (nI g)), (14, .int (nI i)), (10, .long u), (12, .long v), (0, .ref m0), (1, .long gx), (3, .long gy), (5, .int cx), (6, .int cy), (7, .long sq), (9, .int al)]) hx hb dX4_tried_156 hl (by decide) rfl (fun ls hl => ?_)
              refine lv_iinc (v := nI (g + 1)) (lv' := [(18, .int (nI (g + 1))), (16, .long (-of1)), (15, .int (nI g)), (25, .long (-of1)), (23, .long tn), (21, .long pb), (19, .long pa), (14, .int (nI i)), (10, .long u), (12, .long v), (0, .ref m0), (1, .long gx), (3, .long gy), (5, .int cx), (6, .int cy), (7, .long sq), (9, .int al)]) hx hb dX4_tried_158 hl (k := 6) rfl (nI_1 g) (by decide) rfl (fun ls hl => ?_)
              refine lv_goto (tgt := 39) hx hb dX4_tried_161 (by decide) ?_
              exact ih_39 _ ((g + 1), nI g, -of1) _ _ _ (by rw [hn_39]; omega) ⟨rfl, (show g + 1 ≤ 8 by omega), (by rw [st_F_take (show st_c al u v g = true by unfold st_c; rw [if_pos c_83, ← htn]; exact decide_eq_true ((lg_cmp_lt _ _).mp c_100)) (Or.inl (by rw [← hI]; exact c_136)), ← hbs]), (hP.sub [0, 1] rfl), (hD.sub [0, 1] (by decide) rfl), hS, (lv_sub hl [0, 2, 1, 7, 8, 9, 10, 11, 12, 13, 14, 15, 16] rfl)⟩
            · refine lv_lload hx hb dX4_tried_139 (lv_at hl 0 rfl) ?_
              refine lv_lload hx hb dX4_tried_141 (lv_at hl 6 rfl) ?_
              refine W.lcmp hx hb dX4_tried_143 ?_
              refine lv_if_lt (tgt := 150) hx hb dX4_tried_144 (by decide) (fun c_144 => ?_) (fun c_144 => ?_)
              · refine lv_iload hx hb dX4_tried_150 (lv_at hl 4 rfl) ?_
                refine lv_istore (lv' := [(15, .int (nI g)), (25, .long (-of1)), (23, .long tn), (21, .long pb), (19, .long pa), (18, .int (nI g)), (16, .long le), (14, .int (nI i)), (10, .long u), (12, .long v), (0, .ref m0), (1, .long gx), (3, .long gy), (5, .int cx), (6, .int cy), (7, .long sq), (9, .int al)]) hx hb dX4_tried_152 hl (by decide) rfl (fun ls hl => ?_)
                refine lv_lload hx hb dX4_tried_154 (lv_at hl 1 rfl) ?_
                refine lv_lstore (lv' := [(16, .long (-of1)), (15, .int (nI g)), (25, .long (-of1)), (23, .long tn), (21, .long pb), (19, .long pa), (18, .int (nI g)), (14, .int (nI i)), (10, .long u), (12, .long v), (0, .ref m0), (1, .long gx), (3, .long gy), (5, .int cx), (6, .int cy), (7, .long sq), (9, .int al)]) hx hb dX4_tried_156 hl (by decide) rfl (fun ls hl => ?_)
                refine lv_iinc (v := nI (g + 1)) (lv' := [(18, .int (nI (g + 1))), (16, .long (-of1)), (15, .int (nI g)), (25, .long (-of1)), (23, .long tn), (21, .long pb), (19, .long pa), (14, .int (nI i)), (10, .long u), (12, .long v), (0, .ref m0), (1, .long gx), (3, .long gy), (5, .int cx), (6, .int cy), (7, .long sq), (9, .int al)]) hx hb dX4_tried_158 hl (k := 6) rfl (nI_1 g) (by decide) rfl (fun ls hl => ?_)
                refine lv_goto (tgt := 39) hx hb dX4_tried_161 (by decide) ?_
                exact ih_39 _ ((g + 1), nI g, -of1) _ _ _ (by rw [hn_39]; omega) ⟨rfl, (show g + 1 ≤ 8 by omega), (by rw [st_F_take (show st_c al u v g = true by unfold st_c; rw [if_pos c_83, ← htn]; exact decide_eq_true ((lg_cmp_lt _ _).mp c_100)) (Or.inr (by rw [← hI, ← hbs]; exact (lg_cmp_lt _ _).mp c_144)), ← hbs]), (hP.sub [0, 1] rfl), (hD.sub [0, 1] (by decide) rfl), hS, (lv_sub hl [0, 2, 1, 7, 8, 9, 10, 11, 12, 13, 14, 15, 16] rfl)⟩
              · refine lv_goto (tgt := 158) hx hb dX4_tried_147 (by decide) ?_
                refine lv_iinc (v := nI (g + 1)) (lv' := [(18, .int (nI (g + 1))), (25, .long (-of1)), (23, .long tn), (21, .long pb), (19, .long pa), (15, .int ne), (16, .long le), (14, .int (nI i)), (10, .long u), (12, .long v), (0, .ref m0), (1, .long gx), (3, .long gy), (5, .int cx), (6, .int cy), (7, .long sq), (9, .int al)]) hx hb dX4_tried_158 hl (k := 4) rfl (nI_1 g) (by decide) rfl (fun ls hl => ?_)
                refine lv_goto (tgt := 39) hx hb dX4_tried_161 (by decide) ?_
                exact ih_39 _ ((g + 1), ne, le) _ _ _ (by rw [hn_39]; omega) ⟨rfl, (show g + 1 ≤ 8 by omega), (hI.trans (st_F_keep (show st_c al u v g = true by unfold st_c; rw [if_pos c_83, ← htn]; exact decide_eq_true ((lg_cmp_lt _ _).mp c_100)) (by rw [← hI, ← hbs]; intro h; rcases h with h | h; exact c_136 h; exact c_144 ((lg_cmp_lt _ _).mpr h))).symm), (hP.sub [0, 1] rfl), (hD.sub [0, 1] (by decide) rfl), hS, (lv_sub hl [0, 5, 6, 7, 8, 9, 10, 11, 12, 13, 14, 15, 16] rfl)⟩
        · refine lv_goto (tgt := 158) hx hb dX4_tried_103 (by decide) ?_
          refine lv_iinc (v := nI (g + 1)) (lv' := [(18, .int (nI (g + 1))), (23, .long tn), (21, .long pb), (19, .long pa), (15, .int ne), (16, .long le), (14, .int (nI i)), (10, .long u), (12, .long v), (0, .ref m0), (1, .long gx), (3, .long gy), (5, .int cx), (6, .int cy), (7, .long sq), (9, .int al)]) hx hb dX4_tried_158 hl (k := 3) rfl (nI_1 g) (by decide) rfl (fun ls hl => ?_)
          refine lv_goto (tgt := 39) hx hb dX4_tried_161 (by decide) ?_
          exact ih_39 _ ((g + 1), ne, le) _ _ _ (by rw [hn_39]; omega) ⟨rfl, (show g + 1 ≤ 8 by omega), (hI.trans (st_F_skip (by unfold st_c; rw [if_pos c_83, ← htn]; exact decide_eq_false (fun h => c_100 ((lg_cmp_lt _ _).mpr h)))).symm), (hP.sub [0, 1] rfl), (hD.sub [0, 1] (by decide) rfl), hS, (lv_sub hl [0, 4, 5, 6, 7, 8, 9, 10, 11, 12, 13, 14, 15] rfl)⟩
      · refine lv_lload hx hb dX4_tried_86 (lv_at hl 0 rfl) ?_
        refine lv_lconst (v := 0) hx hb dX4_tried_88 (by decide) ?_
        refine W.lcmp hx hb dX4_tried_89 ?_
        refine lv_if_gt (tgt := 106) hx hb dX4_tried_90 (by decide) (fun c_90 => ?_) (fun c_90 => ?_)
        · refine lv_lload hx hb dX4_tried_106 (lv_at hl 2 rfl) ?_
          refine lv_lload hx hb dX4_tried_108 (lv_at hl 2 rfl) ?_
          refine lv_lmul hx hb dX4_tried_110 ?_
          refine lv_lload hx hb dX4_tried_111 (lv_at hl 1 rfl) ?_
          refine lv_lload hx hb dX4_tried_113 (lv_at hl 1 rfl) ?_
          refine lv_lmul hx hb dX4_tried_115 ?_
          refine lv_ladd hx hb dX4_tried_116 ?_
          refine lv_lload hx hb dX4_tried_117 (lv_at hl 14 rfl) ?_
          refine lv_lsub hx hb dX4_tried_119 ?_
          refine lv_topl (fun of1 eof1 => ?_)
          refine lv_lstore (lv' := [(25, .long of1), (23, .long tn), (21, .long pb), (19, .long pa), (18, .int (nI g)), (15, .int ne), (16, .long le), (14, .int (nI i)), (10, .long u), (12, .long v), (0, .ref m0), (1, .long gx), (3, .long gy), (5, .int cx), (6, .int cy), (7, .long sq), (9, .int al)]) hx hb dX4_tried_120 hl (by decide) rfl (fun ls hl => ?_)
          refine lv_lload hx hb dX4_tried_122 (lv_at hl 0 rfl) ?_
          refine lv_lconst (v := 0) hx hb dX4_tried_124 (by decide) ?_
          refine W.lcmp hx hb dX4_tried_125 ?_
          refine lv_if_ge (tgt := 134) hx hb dX4_tried_126 (by decide) (fun c_126 => ?_) (fun c_126 => ?_)
          · have hbs : of1 = st_b u v sq g := by rw [ab_l_ge ((lg_cmp_ge _ _).mp c_126), eof1, epa, epb]; rfl
            refine lv_iload hx hb dX4_tried_134 (lv_at hl 5 rfl) ?_
            refine lv_if_lt (tgt := 150) hx hb dX4_tried_136 (by decide) (fun c_136 => ?_) (fun c_136 => ?_)
            · refine lv_iload hx hb dX4_tried_150 (lv_at hl 4 rfl) ?_
              refine lv_istore (lv' := [(15, .int (nI g)), (25, .long of1), (23, .long tn), (21, .long pb), (19, .long pa), (18, .int (nI g)), (16, .long le), (14, .int (nI i)), (10, .long u), (12, .long v), (0, .ref m0), (1, .long gx), (3, .long gy), (5, .int cx), (6, .int cy), (7, .long sq), (9, .int al)]) hx hb dX4_tried_152 hl (by decide) rfl (fun ls hl => ?_)
              refine lv_lload hx hb dX4_tried_154 (lv_at hl 1 rfl) ?_
              refine lv_lstore (lv' := [(16, .long of1), (15, .int (nI g)), (25, .long of1), (23, .long tn), (21, .long pb), (19, .long pa), (18, .int (nI g)), (14, .int (nI i)), (10, .long u), (12, .long v), (0, .ref m0), (1, .long gx), (3, .long gy), (5, .int cx), (6, .int cy), (7, .long sq), (9, .int al)]) hx hb dX4_tried_156 hl (by decide) rfl (fun ls hl => ?_)
              refine lv_iinc (v := nI (g + 1)) (lv' := [(18, .int (nI (g + 1))), (16, .long of1), (15, .int (nI g)), (25, .long of1), (23, .long tn), (21, .long pb), (19, .long pa), (14, .int (nI i)), (10, .long u), (12, .long v), (0, .ref m0), (1, .long gx), (3, .long gy), (5, .int cx), (6, .int cy), (7, .long sq), (9, .int al)]) hx hb dX4_tried_158 hl (k := 6) rfl (nI_1 g) (by decide) rfl (fun ls hl => ?_)
              refine lv_goto (tgt := 39) hx hb dX4_tried_161 (by decide) ?_
              exact ih_39 _ ((g + 1), nI g, of1) _ _ _ (by rw [hn_39]; omega) ⟨rfl, (show g + 1 ≤ 8 by omega), (by rw [st_F_take (show st_c al u v g = true by unfold st_c; rw [if_neg c_83, ← htn]; exact decide_eq_true ((lg_cmp_gt _ _).mp c_90)) (Or.inl (by rw [← hI]; exact c_136)), ← hbs]), (hP.sub [0, 1] rfl), (hD.sub [0, 1] (by decide) rfl), hS, (lv_sub hl [0, 2, 1, 7, 8, 9, 10, 11, 12, 13, 14, 15, 16] rfl)⟩
            · refine lv_lload hx hb dX4_tried_139 (lv_at hl 0 rfl) ?_
              refine lv_lload hx hb dX4_tried_141 (lv_at hl 6 rfl) ?_
              refine W.lcmp hx hb dX4_tried_143 ?_
              refine lv_if_lt (tgt := 150) hx hb dX4_tried_144 (by decide) (fun c_144 => ?_) (fun c_144 => ?_)
              · refine lv_iload hx hb dX4_tried_150 (lv_at hl 4 rfl) ?_
                refine lv_istore (lv' := [(15, .int (nI g)), (25, .long of1), (23, .long tn), (21, .long pb), (19, .long pa), (18, .int (nI g)), (16, .long le), (14, .int (nI i)), (10, .long u), (12, .long v), (0, .ref m0), (1, .long gx), (3, .long gy), (5, .int cx), (6, .int cy), (7, .long sq), (9, .int al)]) hx hb dX4_tried_152 hl (by decide) rfl (fun ls hl => ?_)
                refine lv_lload hx hb dX4_tried_154 (lv_at hl 1 rfl) ?_
                refine lv_lstore (lv' := [(16, .long of1), (15, .int (nI g)), (25, .long of1), (23, .long tn), (21, .long pb), (19, .long pa), (18, .int (nI g)), (14, .int (nI i)), (10, .long u), (12, .long v), (0, .ref m0), (1, .long gx), (3, .long gy), (5, .int cx), (6, .int cy), (7, .long sq), (9, .int al)]) hx hb dX4_tried_156 hl (by decide) rfl (fun ls hl => ?_)
                refine lv_iinc (v := nI (g + 1)) (lv' := [(18, .int (nI (g + 1))), (16, .long of1), (15, .int (nI g)), (25, .long of1), (23, .long tn), (21, .long pb), (19, .long pa), (14, .int (nI i)), (10, .long u), (12, .long v), (0, .ref m0), (1, .long gx), (3, .long gy), (5, .int cx), (6, .int cy), (7, .long sq), (9, .int al)]) hx hb dX4_tried_158 hl (k := 6) rfl (nI_1 g) (by decide) rfl (fun ls hl => ?_)
                refine lv_goto (tgt := 39) hx hb dX4_tried_161 (by decide) ?_
                exact ih_39 _ ((g + 1), nI g, of1) _ _ _ (by rw [hn_39]; omega) ⟨rfl, (show g + 1 ≤ 8 by omega), (by rw [st_F_take (show st_c al u v g = true by unfold st_c; rw [if_neg c_83, ← htn]; exact decide_eq_true ((lg_cmp_gt _ _).mp c_90)) (Or.inr (by rw [← hI, ← hbs]; exact (lg_cmp_lt _ _).mp c_144)), ← hbs]), (hP.sub [0, 1] rfl), (hD.sub [0, 1] (by decide) rfl), hS, (lv_sub hl [0, 2, 1, 7, 8, 9, 10, 11, 12, 13, 14, 15, 16] rfl)⟩
              · refine lv_goto (tgt := 158) hx hb dX4_tried_147 (by decide) ?_
                refine lv_iinc (v := nI (g + 1)) (lv' := [(18, .int (nI (g + 1))), (25, .long of1), (23, .long tn), (21, .long pb), (19, .long pa), (15, .int ne), (16, .long le), (14, .int (nI i)), (10, .long u), (12, .long v), (0, .ref m0), (1, .long gx), (3, .long gy), (5, .int cx), (6, .int cy), (7, .long sq), (9, .int al)]) hx hb dX4_tried_158 hl (k := 4) rfl (nI_1 g) (by decide) rfl (fun ls hl => ?_)
                refine lv_goto (tgt := 39) hx hb dX4_tried_161 (by decide) ?_
                exact ih_39 _ ((g + 1), ne, le) _ _ _ (by rw [hn_39]; omega) ⟨rfl, (show g + 1 ≤ 8 by omega), (hI.trans (st_F_keep (show st_c al u v g = true by unfold st_c; rw [if_neg c_83, ← htn]; exact decide_eq_true ((lg_cmp_gt _ _).mp c_90)) (by rw [← hI, ← hbs]; intro h; rcases h with h | h; exact c_136 h; exact c_144 ((lg_cmp_lt _ _).mpr h))).symm), (hP.sub [0, 1] rfl), (hD.sub [0, 1] (by decide) rfl), hS, (lv_sub hl [0, 5, 6, 7, 8, 9, 10, 11, 12, 13, 14, 15, 16] rfl)⟩
          · refine lv_lload hx hb dX4_tried_129 (lv_at hl 0 rfl) ?_
            refine lv_lneg hx hb dX4_tried_131 ?_
            refine lv_lstore (lv' := [(25, .long (-of1)), (23, .long tn), (21, .long pb), (19, .long pa), (18, .int (nI g)), (15, .int ne), (16, .long le), (14, .int (nI i)), (10, .long u), (12, .long v), (0, .ref m0), (1, .long gx), (3, .long gy), (5, .int cx), (6, .int cy), (7, .long sq), (9, .int al)]) hx hb dX4_tried_132 hl (by decide) rfl (fun ls hl => ?_)
            have hbs : -of1 = st_b u v sq g := by rw [ab_l_lt (fun h => c_126 ((lg_cmp_ge _ _).mpr h)), eof1, epa, epb]; rfl
            refine lv_iload hx hb dX4_tried_134 (lv_at hl 5 rfl) ?_
            refine lv_if_lt (tgt := 150) hx hb dX4_tried_136 (by decide) (fun c_136 => ?_) (fun c_136 => ?_)
            · refine lv_iload hx hb dX4_tried_150 (lv_at hl 4 rfl) ?_
              refine lv_istore (lv' := [(15, .int (nI g)), (25, .long (-of1)), (23, .long tn), (21, .long pb), (19, .long pa), (18, .int (nI g)), (16, .long le), (14, .int (nI i)), (10, .long u), (12, .long v), (0, .ref m0), (1, .long gx), (3, .long gy), (5, .int cx), (6, .int cy), (7, .long sq), (9, .int al)]) hx hb dX4_tried_152 hl (by decide) rfl (fun ls hl => ?_)
              refine lv_lload hx hb dX4_tried_154 (lv_at hl 1 rfl) ?_
              refine lv_lstore (lv' := [(16, .long (-of1)), (15, .int (nI g)), (25, .long (-of1)), (23, .long tn), (21, .long pb), (19, .long pa), (18, .int (nI g)), (14, .int (nI i)), (10, .long u), (12, .long v), (0, .ref m0), (1, .long gx), (3, .long gy), (5, .int cx), (6, .int cy), (7, .long sq), (9, .int al)]) hx hb dX4_tried_156 hl (by decide) rfl (fun ls hl => ?_)
              refine lv_iinc (v := nI (g + 1)) (lv' := [(18, .int (nI (g + 1))), (16, .long (-of1)), (15, .int (nI g)), (25, .long (-of1)), (23, .long tn), (21, .long pb), (19, .long pa), (14, .int (nI i)), (10, .long u), (12, .long v), (0, .ref m0), (1, .long gx), (3, .long gy), (5, .int cx), (6, .int cy), (7, .long sq), (9, .int al)]) hx hb dX4_tried_158 hl (k := 6) rfl (nI_1 g) (by decide) rfl (fun ls hl => ?_)
              refine lv_goto (tgt := 39) hx hb dX4_tried_161 (by decide) ?_
              exact ih_39 _ ((g + 1), nI g, -of1) _ _ _ (by rw [hn_39]; omega) ⟨rfl, (show g + 1 ≤ 8 by omega), (by rw [st_F_take (show st_c al u v g = true by unfold st_c; rw [if_neg c_83, ← htn]; exact decide_eq_true ((lg_cmp_gt _ _).mp c_90)) (Or.inl (by rw [← hI]; exact c_136)), ← hbs]), (hP.sub [0, 1] rfl), (hD.sub [0, 1] (by decide) rfl), hS, (lv_sub hl [0, 2, 1, 7, 8, 9, 10, 11, 12, 13, 14, 15, 16] rfl)⟩
            · refine lv_lload hx hb dX4_tried_139 (lv_at hl 0 rfl) ?_
              refine lv_lload hx hb dX4_tried_141 (lv_at hl 6 rfl) ?_
              refine W.lcmp hx hb dX4_tried_143 ?_
              refine lv_if_lt (tgt := 150) hx hb dX4_tried_144 (by decide) (fun c_144 => ?_) (fun c_144 => ?_)
              · refine lv_iload hx hb dX4_tried_150 (lv_at hl 4 rfl) ?_
                refine lv_istore (lv' := [(15, .int (nI g)), (25, .long (-of1)), (23, .long tn), (21, .long pb), (19, .long pa), (18, .int (nI g)), (16, .long le), (14, .int (nI i)), (10, .long u), (12, .long v), (0, .ref m0), (1, .long gx), (3, .long gy), (5, .int cx), (6, .int cy), (7, .long sq), (9, .int al)]) hx hb dX4_tried_152 hl (by decide) rfl (fun ls hl => ?_)
                refine lv_lload hx hb dX4_tried_154 (lv_at hl 1 rfl) ?_
                refine lv_lstore (lv' := [(16, .long (-of1)), (15, .int (nI g)), (25, .long (-of1)), (23, .long tn), (21, .long pb), (19, .long pa), (18, .int (nI g)), (14, .int (nI i)), (10, .long u), (12, .long v), (0, .ref m0), (1, .long gx), (3, .long gy), (5, .int cx), (6, .int cy), (7, .long sq), (9, .int al)]) hx hb dX4_tried_156 hl (by decide) rfl (fun ls hl => ?_)
                refine lv_iinc (v := nI (g + 1)) (lv' := [(18, .int (nI (g + 1))), (16, .long (-of1)), (15, .int (nI g)), (25, .long (-of1)), (23, .long tn), (21, .long pb), (19, .long pa), (14, .int (nI i)), (10, .long u), (12, .long v), (0, .ref m0), (1, .long gx), (3, .long gy), (5, .int cx), (6, .int cy), (7, .long sq), (9, .int al)]) hx hb dX4_tried_158 hl (k := 6) rfl (nI_1 g) (by decide) rfl (fun ls hl => ?_)
                refine lv_goto (tgt := 39) hx hb dX4_tried_161 (by decide) ?_
                exact ih_39 _ ((g + 1), nI g, -of1) _ _ _ (by rw [hn_39]; omega) ⟨rfl, (show g + 1 ≤ 8 by omega), (by rw [st_F_take (show st_c al u v g = true by unfold st_c; rw [if_neg c_83, ← htn]; exact decide_eq_true ((lg_cmp_gt _ _).mp c_90)) (Or.inr (by rw [← hI, ← hbs]; exact (lg_cmp_lt _ _).mp c_144)), ← hbs]), (hP.sub [0, 1] rfl), (hD.sub [0, 1] (by decide) rfl), hS, (lv_sub hl [0, 2, 1, 7, 8, 9, 10, 11, 12, 13, 14, 15, 16] rfl)⟩
              · refine lv_goto (tgt := 158) hx hb dX4_tried_147 (by decide) ?_
                refine lv_iinc (v := nI (g + 1)) (lv' := [(18, .int (nI (g + 1))), (25, .long (-of1)), (23, .long tn), (21, .long pb), (19, .long pa), (15, .int ne), (16, .long le), (14, .int (nI i)), (10, .long u), (12, .long v), (0, .ref m0), (1, .long gx), (3, .long gy), (5, .int cx), (6, .int cy), (7, .long sq), (9, .int al)]) hx hb dX4_tried_158 hl (k := 4) rfl (nI_1 g) (by decide) rfl (fun ls hl => ?_)
                refine lv_goto (tgt := 39) hx hb dX4_tried_161 (by decide) ?_
                exact ih_39 _ ((g + 1), ne, le) _ _ _ (by rw [hn_39]; omega) ⟨rfl, (show g + 1 ≤ 8 by omega), (hI.trans (st_F_keep (show st_c al u v g = true by unfold st_c; rw [if_neg c_83, ← htn]; exact decide_eq_true ((lg_cmp_gt _ _).mp c_90)) (by rw [← hI, ← hbs]; intro h; rcases h with h | h; exact c_136 h; exact c_144 ((lg_cmp_lt _ _).mpr h))).symm), (hP.sub [0, 1] rfl), (hD.sub [0, 1] (by decide) rfl), hS, (lv_sub hl [0, 5, 6, 7, 8, 9, 10, 11, 12, 13, 14, 15, 16] rfl)⟩
        · refine lv_goto (tgt := 158) hx hb dX4_tried_93 (by decide) ?_
          refine lv_iinc (v := nI (g + 1)) (lv' := [(18, .int (nI (g + 1))), (23, .long tn), (21, .long pb), (19, .long pa), (15, .int ne), (16, .long le), (14, .int (nI i)), (10, .long u), (12, .long v), (0, .ref m0), (1, .long gx), (3, .long gy), (5, .int cx), (6, .int cy), (7, .long sq), (9, .int al)]) hx hb dX4_tried_158 hl (k := 3) rfl (nI_1 g) (by decide) rfl (fun ls hl => ?_)
          refine lv_goto (tgt := 39) hx hb dX4_tried_161 (by decide) ?_
          exact ih_39 _ ((g + 1), ne, le) _ _ _ (by rw [hn_39]; omega) ⟨rfl, (show g + 1 ≤ 8 by omega), (hI.trans (st_F_skip (by unfold st_c; rw [if_neg c_83, ← htn]; exact decide_eq_false (fun h => c_90 ((lg_cmp_gt _ _).mpr h)))).symm), (hP.sub [0, 1] rfl), (hD.sub [0, 1] (by decide) rfl), hS, (lv_sub hl [0, 4, 5, 6, 7, 8, 9, 10, 11, 12, 13, 14, 15] rfl)⟩
set_option maxHeartbeats 4000000 in
set_option maxRecDepth 100000 in
/-- TickWalksModel.arc -/
theorem rm_arc (l : Launch) (dC : Nat → ClassId) (dI : Nat → Nat → Nat) (cA cB : ClassId) (sz : Nat) (m0 : Nat) (rx : Int32) (ry : Int32) (rz : Int32) (rw : Int32) (ri : Int32) (ux : Int32) (uy : Int32) (uz : Int32) (vx : Int32) (vy : Int32) (vz : Int32) (cn : Int32) (mo : Int32) (qw : Nat) (qt : Nat) (wf : Nat → Int32) (tf : Nat → Int32) (a : Int32) (b : Int32) (cx : Int32) (cy : Int32) (al : Int32) (hpr : pl_in rx ∧ pl_in ry) : Met l yX4_arc wsX4_arc ({ frames := 2, cells := 0, slots := 0, locals := 70 }) (va_Pc [.ref m0, .int a, .int b, .int cx, .int cy, .int al] (ct_P dC dI cA cB sz [(m0, .inr (3, [.int rx, .int ry, .int rz, .int rw, .int ri, .int ux, .int uy, .int uz, .int vx, .int vy, .int vz, .int cn, .int mo, .ref qw, .ref qt])), (qw, .inl (cB, 40000, .inl wf)), (qt, .inl (cB, 40000, .inl tf))])) (va_Qi (fun (r : Int32) (u : Int32 × Int32 × Int32 × Int32 × Int32 × Int32 × Int32 × Int32 × Int32 × (Nat → Int32) × (Nat → Int32)) => (∃ n, r = nI n ∧ (pl_in a ∧ pl_in b) ∧ (ce_in cx ∧ ce_in cy) ∧ (1 ≤ (sq_c rx cx ry cy) ∧ (sq_c rx cx ry cy) ≤ 25000000) ∧ ob_H al (sq_c rx cx ry cy) cx cy (rx, ry) (a, b) n ∧ (u.1 = a ∧ u.2.1 = b) ∧ (u.2.2.1 = 1 ∧ u.2.2.2.1 = 1) ∧ (u.2.2.2.2.1 = rx ∧ u.2.2.2.2.2.1 = ry ∧ u.2.2.2.2.2.2.1 = rz) ∧ u.2.2.2.2.2.2.2.1 = nI n ∧ u.2.2.2.2.2.2.2.2.1 = (ob_w al (sq_c rx cx ry cy) cx cy (rx, ry) n).toInt32 ∧ wy_P al (sq_c rx cx ry cy) cx cy (rx, ry) u.2.2.2.2.2.2.2.2.2.1 n) ∨ (r = -1 ∧ ¬ ((pl_in a ∧ pl_in b) ∧ (ce_in cx ∧ ce_in cy) ∧ (1 ≤ (sq_c rx cx ry cy) ∧ (sq_c rx cx ry cy) ≤ 25000000) ∧ ∃ n, ob_H al (sq_c rx cx ry cy) cx cy (rx, ry) (a, b) n) ∧ (u.1 = rx ∧ u.2.1 = ry) ∧ (u.2.2.1 = rw ∧ u.2.2.2.1 = ri) ∧ (u.2.2.2.2.1 = ux ∧ u.2.2.2.2.2.1 = uy ∧ u.2.2.2.2.2.2.1 = uz) ∧ u.2.2.2.2.2.2.2.1 = cn ∧ u.2.2.2.2.2.2.2.2.1 = mo ∧ u.2.2.2.2.2.2.2.2.2.1 = wf)) (fun (u : Int32 × Int32 × Int32 × Int32 × Int32 × Int32 × Int32 × Int32 × Int32 × (Nat → Int32) × (Nat → Int32)) => ct_B dC dI (va_A [(m0, .inr (3, [.int rx, .int ry, .int rz, .int rw, .int ri, .int ux, .int uy, .int uz, .int vx, .int vy, .int vz, .int cn, .int mo, .ref qw, .ref qt])), (qw, .inl (cB, 40000, .inl wf)), (qt, .inl (cB, 40000, .inl tf))] sz) [(m0, .inr (3, [.int u.1, .int u.2.1, .int rz, .int u.2.2.1, .int u.2.2.2.1, .int u.2.2.2.2.1, .int u.2.2.2.2.2.1, .int u.2.2.2.2.2.2.1, .int vx, .int vy, .int vz, .int u.2.2.2.2.2.2.2.1, .int u.2.2.2.2.2.2.2.2.1, .ref qw, .ref qt])), (qw, .inl (cB, 40000, .inl u.2.2.2.2.2.2.2.2.2.1)), (qt, .inl (cB, 40000, .inl u.2.2.2.2.2.2.2.2.2.2))]) (va_A [(m0, .inr (3, [.int rx, .int ry, .int rz, .int rw, .int ri, .int ux, .int uy, .int uz, .int vx, .int vy, .int vz, .int cn, .int mo, .ref qw, .ref qt])), (qw, .inl (cB, 40000, .inl wf)), (qt, .inl (cB, 40000, .inl tf))] sz)) 0 0 (va_A [(m0, .inr (3, [.int rx, .int ry, .int rz, .int rw, .int ri, .int ux, .int uy, .int uz, .int vx, .int vy, .int vz, .int cn, .int mo, .ref qw, .ref qt])), (qw, .inl (cB, 40000, .inl wf)), (qt, .inl (cB, 40000, .inl tf))] sz) := by
  refine Met.ofW (cc := cX4_arc) (maxL := 14) (ret := (some .int)) (by decide +kernel) rfl ?_
  intro p e s m args below meth c s₁ B hml hv
  obtain ⟨rfl, hsz, hP, hK, hD0, hZ, hN⟩ := hv
  have hx := B.exec
  have hb := B.bytes
  have hr := B.returns
  have hts := atoms_spec (ws := wsX4_arc) B.pre
  have hown : s.vm.findClass RX4 = some m.cls := findClass_of_methodNamed B.named
  have hlocks := B.notSynchronized
  have hiX4 : ∀ w ∈ u_ws RX4 TX4 15, w ∈ wsX4_arc := by decide +kernel
  subst hsz
  have hD := hD0.self (sz := s.heap.size)
  generalize hAe : va_A [(m0, .inr (3, [.int rx, .int ry, .int rz, .int rw, .int ri, .int ux, .int uy, .int uz, .int vx, .int vy, .int vz, .int cn, .int mo, .ref qw, .ref qt])), (qw, .inl (cB, 40000, .inl wf)), (qt, .inl (cB, 40000, .inl tf))] s.heap.size = A at hD hZ ⊢
  have hA : ∀ q : Nat, s.heap.size ≤ q → A q := fun q h => by rw [← hAe]; exact Or.inr h
  have hl := lv_entry ([.ref m0, .int a, .int b, .int cx, .int cy, .int al]) (n := 14) (Nat.le_of_ble_eq_true rfl)
  rw [lg_entry_eq]
  generalize (lg_sl ([.ref m0, .int a, .int b, .int cx, .int cy, .int al]) ++ List.replicate (14 - (lg_sl ([.ref m0, .int a, .int b, .int cx, .int cy, .int al])).length) Slot.unset).toArray = ls at hl ⊢
  have hl : lv_has ls 14 [(0, .ref m0), (1, .int a), (2, .int b), (3, .int cx), (4, .int cy), (5, .int al)] := hl
  generalize hHe : s.heap = H at hP ⊢
  have hS : va_S A s.heap H [] := by rw [hHe]; exact va_S.rf
  generalize ([] : List Loc) = locs at hS ⊢
  refine lv_iload_n hx hb dX4_arc_0 rfl (lv_at hl 1 rfl) ?_
  refine ct_calli (va_runS (As := [.int a]) (rest := []) ⟨hx, hb, hml, hown, hts⟩ (rf_isPlace l dC dI cA cB H.size a ) (va_cwS 1 hts gX4_arc_X4_isPlace rfl rfl rfl (by decide +kernel) ⟨Nat.le_of_ble_eq_true rfl, Nat.le_of_ble_eq_true rfl⟩) ⟨ct_blind, ct_pre hP hD hK hZ hN hS hA [] rfl (by decide)⟩ rfl rfl hl.1 rfl (lv_room (Nat.le_of_ble_eq_true rfl)) dX4_arc_1 ⟨Nat.le_of_ble_eq_true rfl, Nat.le_of_ble_eq_true rfl⟩) hP hD hS hA [] [0, 1, 2] rfl (wr := [(m0, .inr (3, [.int rx, .int ry, .int rz, .int rw, .int ri, .int ux, .int uy, .int uz, .int vx, .int vy, .int vz, .int cn, .int mo, .ref qw, .ref qt])), (qw, .inl (cB, 40000, .inl wf)), (qt, .inl (cB, 40000, .inl tf))]) rfl (by decide) (by decide) (fun r_1 u9 H locs hw_1 hP hD hS => ?_)
  have hw_1 : bo_z r_1 (pl_in a) := hw_1
  have hP : va_P (dC, dI) vwCl [(m0, .inr (3, [.int rx, .int ry, .int rz, .int rw, .int ri, .int ux, .int uy, .int uz, .int vx, .int vy, .int vz, .int cn, .int mo, .ref qw, .ref qt])), (qw, .inl (cB, 40000, .inl wf)), (qt, .inl (cB, 40000, .inl tf))] H := hP
  have hD : va_D A [(m0, .inr (3, [.int rx, .int ry, .int rz, .int rw, .int ri, .int ux, .int uy, .int uz, .int vx, .int vy, .int vz, .int cn, .int mo, .ref qw, .ref qt])), (qw, .inl (cB, 40000, .inl wf)), (qt, .inl (cB, 40000, .inl tf))] := hD
  refine lv_if_eq (tgt := 29) hx hb dX4_arc_4 (by decide) (fun c_4 => ?_) (fun c_4 => ?_)
  · refine lv_iconst (v := -1) hx hb dX4_arc_29 (by decide) ?_
    have hP9 := hP.sub (ws' := [(m0, .inr (3, [.int rx, .int ry, .int rz, .int rw, .int ri, .int ux, .int uy, .int uz, .int vx, .int vy, .int vz, .int cn, .int mo, .ref qw, .ref qt])), (qw, .inl (cB, 40000, .inl wf)), (qt, .inl (cB, 40000, .inl tf))]) [0, 1, 2] rfl
    have hD9 := hD.sub (ws' := [(m0, .inr (3, [.int rx, .int ry, .int rz, .int rw, .int ri, .int ux, .int uy, .int uz, .int vx, .int vy, .int vz, .int cn, .int mo, .ref qw, .ref qt])), (qw, .inl (cB, 40000, .inl wf)), (qt, .inl (cB, 40000, .inl tf))]) [0, 1, 2] (by decide) rfl
    exact W.iret (v := -1) hx hb hr (fun t9 ht9 hW9 => ⟨⟨-1, (rx, ry, rw, ri, ux, uy, uz, cn, mo, wf, tf), rfl, (Or.inr ⟨rfl, (fun h => hw_1.f c_4 h.1.1), ⟨rfl, rfl⟩, ⟨rfl, rfl⟩, ⟨rfl, rfl, rfl⟩, rfl, rfl, rfl⟩), by rw [ht9]; exact hP9, hD9⟩, hS.F ht9⟩) hS.2.2 dX4_arc_30
  · refine lv_iload_n hx hb dX4_arc_7 rfl (lv_at hl 2 rfl) ?_
    refine ct_calli (va_runS (As := [.int b]) (rest := []) ⟨hx, hb, hml, hown, hts⟩ (rf_isPlace l dC dI cA cB H.size b ) (va_cwS 1 hts gX4_arc_X4_isPlace rfl rfl rfl (by decide +kernel) ⟨Nat.le_of_ble_eq_true rfl, Nat.le_of_ble_eq_true rfl⟩) ⟨ct_blind, ct_pre hP hD hK hZ hN hS hA [] rfl (by decide)⟩ rfl rfl hl.1 rfl (lv_room (Nat.le_of_ble_eq_true rfl)) dX4_arc_8 ⟨Nat.le_of_ble_eq_true rfl, Nat.le_of_ble_eq_true rfl⟩) hP hD hS hA [] [0, 1, 2] rfl (wr := [(m0, .inr (3, [.int rx, .int ry, .int rz, .int rw, .int ri, .int ux, .int uy, .int uz, .int vx, .int vy, .int vz, .int cn, .int mo, .ref qw, .ref qt])), (qw, .inl (cB, 40000, .inl wf)), (qt, .inl (cB, 40000, .inl tf))]) rfl (by decide) (by decide) (fun r_2 u9 H locs hw_2 hP hD hS => ?_)
    have hw_2 : bo_z r_2 (pl_in b) := hw_2
    have hP : va_P (dC, dI) vwCl [(m0, .inr (3, [.int rx, .int ry, .int rz, .int rw, .int ri, .int ux, .int uy, .int uz, .int vx, .int vy, .int vz, .int cn, .int mo, .ref qw, .ref qt])), (qw, .inl (cB, 40000, .inl wf)), (qt, .inl (cB, 40000, .inl tf))] H := hP
    have hD : va_D A [(m0, .inr (3, [.int rx, .int ry, .int rz, .int rw, .int ri, .int ux, .int uy, .int uz, .int vx, .int vy, .int vz, .int cn, .int mo, .ref qw, .ref qt])), (qw, .inl (cB, 40000, .inl wf)), (qt, .inl (cB, 40000, .inl tf))] := hD
    refine lv_if_eq (tgt := 29) hx hb dX4_arc_11 (by decide) (fun c_11 => ?_) (fun c_11 => ?_)
    · refine lv_iconst (v := -1) hx hb dX4_arc_29 (by decide) ?_
      have hP9 := hP.sub (ws' := [(m0, .inr (3, [.int rx, .int ry, .int rz, .int rw, .int ri, .int ux, .int uy, .int uz, .int vx, .int vy, .int vz, .int cn, .int mo, .ref qw, .ref qt])), (qw, .inl (cB, 40000, .inl wf)), (qt, .inl (cB, 40000, .inl tf))]) [0, 1, 2] rfl
      have hD9 := hD.sub (ws' := [(m0, .inr (3, [.int rx, .int ry, .int rz, .int rw, .int ri, .int ux, .int uy, .int uz, .int vx, .int vy, .int vz, .int cn, .int mo, .ref qw, .ref qt])), (qw, .inl (cB, 40000, .inl wf)), (qt, .inl (cB, 40000, .inl tf))]) [0, 1, 2] (by decide) rfl
      exact W.iret (v := -1) hx hb hr (fun t9 ht9 hW9 => ⟨⟨-1, (rx, ry, rw, ri, ux, uy, uz, cn, mo, wf, tf), rfl, (Or.inr ⟨rfl, (fun h => hw_2.f c_11 h.1.2), ⟨rfl, rfl⟩, ⟨rfl, rfl⟩, ⟨rfl, rfl, rfl⟩, rfl, rfl, rfl⟩), by rw [ht9]; exact hP9, hD9⟩, hS.F ht9⟩) hS.2.2 dX4_arc_30
    · refine lv_iload_n hx hb dX4_arc_14 rfl (lv_at hl 3 rfl) ?_
      refine ct_calli (va_runS (As := [.int cx]) (rest := []) ⟨hx, hb, hml, hown, hts⟩ (rf_isCentre l dC dI cA cB H.size cx ) (va_cwS 1 hts gX4_arc_X4_isCentre rfl rfl rfl (by decide +kernel) ⟨Nat.le_of_ble_eq_true rfl, Nat.le_of_ble_eq_true rfl⟩) ⟨ct_blind, ct_pre hP hD hK hZ hN hS hA [] rfl (by decide)⟩ rfl rfl hl.1 rfl (lv_room (Nat.le_of_ble_eq_true rfl)) dX4_arc_15 ⟨Nat.le_of_ble_eq_true rfl, Nat.le_of_ble_eq_true rfl⟩) hP hD hS hA [] [0, 1, 2] rfl (wr := [(m0, .inr (3, [.int rx, .int ry, .int rz, .int rw, .int ri, .int ux, .int uy, .int uz, .int vx, .int vy, .int vz, .int cn, .int mo, .ref qw, .ref qt])), (qw, .inl (cB, 40000, .inl wf)), (qt, .inl (cB, 40000, .inl tf))]) rfl (by decide) (by decide) (fun r_3 u9 H locs hw_3 hP hD hS => ?_)
      have hw_3 : bo_z r_3 (ce_in cx) := hw_3
      have hP : va_P (dC, dI) vwCl [(m0, .inr (3, [.int rx, .int ry, .int rz, .int rw, .int ri, .int ux, .int uy, .int uz, .int vx, .int vy, .int vz, .int cn, .int mo, .ref qw, .ref qt])), (qw, .inl (cB, 40000, .inl wf)), (qt, .inl (cB, 40000, .inl tf))] H := hP
      have hD : va_D A [(m0, .inr (3, [.int rx, .int ry, .int rz, .int rw, .int ri, .int ux, .int uy, .int uz, .int vx, .int vy, .int vz, .int cn, .int mo, .ref qw, .ref qt])), (qw, .inl (cB, 40000, .inl wf)), (qt, .inl (cB, 40000, .inl tf))] := hD
      refine lv_if_eq (tgt := 29) hx hb dX4_arc_18 (by decide) (fun c_18 => ?_) (fun c_18 => ?_)
      · refine lv_iconst (v := -1) hx hb dX4_arc_29 (by decide) ?_
        have hP9 := hP.sub (ws' := [(m0, .inr (3, [.int rx, .int ry, .int rz, .int rw, .int ri, .int ux, .int uy, .int uz, .int vx, .int vy, .int vz, .int cn, .int mo, .ref qw, .ref qt])), (qw, .inl (cB, 40000, .inl wf)), (qt, .inl (cB, 40000, .inl tf))]) [0, 1, 2] rfl
        have hD9 := hD.sub (ws' := [(m0, .inr (3, [.int rx, .int ry, .int rz, .int rw, .int ri, .int ux, .int uy, .int uz, .int vx, .int vy, .int vz, .int cn, .int mo, .ref qw, .ref qt])), (qw, .inl (cB, 40000, .inl wf)), (qt, .inl (cB, 40000, .inl tf))]) [0, 1, 2] (by decide) rfl
        exact W.iret (v := -1) hx hb hr (fun t9 ht9 hW9 => ⟨⟨-1, (rx, ry, rw, ri, ux, uy, uz, cn, mo, wf, tf), rfl, (Or.inr ⟨rfl, (fun h => hw_3.f c_18 h.2.1.1), ⟨rfl, rfl⟩, ⟨rfl, rfl⟩, ⟨rfl, rfl, rfl⟩, rfl, rfl, rfl⟩), by rw [ht9]; exact hP9, hD9⟩, hS.F ht9⟩) hS.2.2 dX4_arc_30
      · refine lv_iload hx hb dX4_arc_21 (lv_at hl 4 rfl) ?_
        refine ct_calli (va_runS (As := [.int cy]) (rest := []) ⟨hx, hb, hml, hown, hts⟩ (rf_isCentre l dC dI cA cB H.size cy ) (va_cwS 1 hts gX4_arc_X4_isCentre rfl rfl rfl (by decide +kernel) ⟨Nat.le_of_ble_eq_true rfl, Nat.le_of_ble_eq_true rfl⟩) ⟨ct_blind, ct_pre hP hD hK hZ hN hS hA [] rfl (by decide)⟩ rfl rfl hl.1 rfl (lv_room (Nat.le_of_ble_eq_true rfl)) dX4_arc_23 ⟨Nat.le_of_ble_eq_true rfl, Nat.le_of_ble_eq_true rfl⟩) hP hD hS hA [] [0, 1, 2] rfl (wr := [(m0, .inr (3, [.int rx, .int ry, .int rz, .int rw, .int ri, .int ux, .int uy, .int uz, .int vx, .int vy, .int vz, .int cn, .int mo, .ref qw, .ref qt])), (qw, .inl (cB, 40000, .inl wf)), (qt, .inl (cB, 40000, .inl tf))]) rfl (by decide) (by decide) (fun r_4 u9 H locs hw_4 hP hD hS => ?_)
        have hw_4 : bo_z r_4 (ce_in cy) := hw_4
        have hP : va_P (dC, dI) vwCl [(m0, .inr (3, [.int rx, .int ry, .int rz, .int rw, .int ri, .int ux, .int uy, .int uz, .int vx, .int vy, .int vz, .int cn, .int mo, .ref qw, .ref qt])), (qw, .inl (cB, 40000, .inl wf)), (qt, .inl (cB, 40000, .inl tf))] H := hP
        have hD : va_D A [(m0, .inr (3, [.int rx, .int ry, .int rz, .int rw, .int ri, .int ux, .int uy, .int uz, .int vx, .int vy, .int vz, .int cn, .int mo, .ref qw, .ref qt])), (qw, .inl (cB, 40000, .inl wf)), (qt, .inl (cB, 40000, .inl tf))] := hD
        refine lv_if_ne (tgt := 31) hx hb dX4_arc_26 (by decide) (fun c_26 => ?_) (fun c_26 => ?_)
        · refine lv_aload_n hx hb dX4_arc_31 rfl (lv_at hl 0 rfl) ?_
          refine va_get (D := (dC, dI)) (ci := 3) (v := .int rx) (C := RX4) (T := TX4) (N := 15) hx hb hts hiX4 hown hK hP 0 rfl rfl 0 (by decide) (hts (.fieldLink RX4 22 "TickWalksModel" "x" "I") (List.mem_of_getElem? (l := wsX4_arc) (i := 1) rfl)) (fun _ h9 => h9) rfl dX4_arc_32 ?_
          refine lv_iload_n hx hb dX4_arc_35 rfl (lv_at hl 3 rfl) ?_
          refine lv_isub hx hb dX4_arc_36 ?_
          refine lv_i2l hx hb dX4_arc_37 rfl ?_
          refine ct_calll (va_runS (As := [.long ((rx - cx).toInt64)]) (rest := []) ⟨hx, hb, hml, hown, hts⟩ (rf_square l dC dI cA cB H.size ((rx - cx).toInt64) ) (va_cwS 1 hts gX4_arc_X4_square rfl rfl rfl (by decide +kernel) ⟨Nat.le_of_ble_eq_true rfl, Nat.le_of_ble_eq_true rfl⟩) ⟨ct_blind, ct_pre hP hD hK hZ hN hS hA [] rfl (by decide)⟩ rfl rfl hl.1 rfl (lv_room (Nat.le_of_ble_eq_true rfl)) dX4_arc_38 ⟨Nat.le_of_ble_eq_true rfl, Nat.le_of_ble_eq_true rfl⟩) hP hD hS hA [] [0, 1, 2] rfl (wr := [(m0, .inr (3, [.int rx, .int ry, .int rz, .int rw, .int ri, .int ux, .int uy, .int uz, .int vx, .int vy, .int vz, .int cn, .int mo, .ref qw, .ref qt])), (qw, .inl (cB, 40000, .inl wf)), (qt, .inl (cB, 40000, .inl tf))]) rfl (by decide) (by decide) (fun r_5 u9 H locs hw_5 hP hD hS => ?_)
          have hw_5 : r_5 = ((rx - cx).toInt64) * ((rx - cx).toInt64) := hw_5
          have hP : va_P (dC, dI) vwCl [(m0, .inr (3, [.int rx, .int ry, .int rz, .int rw, .int ri, .int ux, .int uy, .int uz, .int vx, .int vy, .int vz, .int cn, .int mo, .ref qw, .ref qt])), (qw, .inl (cB, 40000, .inl wf)), (qt, .inl (cB, 40000, .inl tf))] H := hP
          have hD : va_D A [(m0, .inr (3, [.int rx, .int ry, .int rz, .int rw, .int ri, .int ux, .int uy, .int uz, .int vx, .int vy, .int vz, .int cn, .int mo, .ref qw, .ref qt])), (qw, .inl (cB, 40000, .inl wf)), (qt, .inl (cB, 40000, .inl tf))] := hD
          refine lv_aload_n hx hb dX4_arc_41 rfl (lv_at hl 0 rfl) ?_
          refine va_get (D := (dC, dI)) (ci := 3) (v := .int ry) (C := RX4) (T := TX4) (N := 15) hx hb hts hiX4 hown hK hP 0 rfl rfl 1 (by decide) (hts (.fieldLink RX4 26 "TickWalksModel" "y" "I") (List.mem_of_getElem? (l := wsX4_arc) (i := 2) rfl)) (fun _ h9 => h9) rfl dX4_arc_42 ?_
          refine lv_iload hx hb dX4_arc_45 (lv_at hl 4 rfl) ?_
          refine lv_isub hx hb dX4_arc_47 ?_
          refine lv_i2l hx hb dX4_arc_48 rfl ?_
          refine ct_calll (va_runS (As := [.long ((ry - cy).toInt64)]) (rest := [.long r_5]) ⟨hx, hb, hml, hown, hts⟩ (rf_square l dC dI cA cB H.size ((ry - cy).toInt64) ) (va_cwS 1 hts gX4_arc_X4_square rfl rfl rfl (by decide +kernel) ⟨Nat.le_of_ble_eq_true rfl, Nat.le_of_ble_eq_true rfl⟩) ⟨ct_blind, ct_pre hP hD hK hZ hN hS hA [] rfl (by decide)⟩ rfl rfl hl.1 rfl (lv_room (Nat.le_of_ble_eq_true rfl)) dX4_arc_49 ⟨Nat.le_of_ble_eq_true rfl, Nat.le_of_ble_eq_true rfl⟩) hP hD hS hA [] [0, 1, 2] rfl (wr := [(m0, .inr (3, [.int rx, .int ry, .int rz, .int rw, .int ri, .int ux, .int uy, .int uz, .int vx, .int vy, .int vz, .int cn, .int mo, .ref qw, .ref qt])), (qw, .inl (cB, 40000, .inl wf)), (qt, .inl (cB, 40000, .inl tf))]) rfl (by decide) (by decide) (fun r_6 u9 H locs hw_6 hP hD hS => ?_)
          have hw_6 : r_6 = ((ry - cy).toInt64) * ((ry - cy).toInt64) := hw_6
          have hP : va_P (dC, dI) vwCl [(m0, .inr (3, [.int rx, .int ry, .int rz, .int rw, .int ri, .int ux, .int uy, .int uz, .int vx, .int vy, .int vz, .int cn, .int mo, .ref qw, .ref qt])), (qw, .inl (cB, 40000, .inl wf)), (qt, .inl (cB, 40000, .inl tf))] H := hP
          have hD : va_D A [(m0, .inr (3, [.int rx, .int ry, .int rz, .int rw, .int ri, .int ux, .int uy, .int uz, .int vx, .int vy, .int vz, .int cn, .int mo, .ref qw, .ref qt])), (qw, .inl (cB, 40000, .inl wf)), (qt, .inl (cB, 40000, .inl tf))] := hD
          refine lv_ladd hx hb dX4_arc_52 ?_
          refine ct_topl (y := sq_c rx cx ry cy) (show r_5 + r_6 = sq_c rx cx ry cy by rw [hw_5, hw_6]; rfl) ?_
          refine lv_topl (fun sq esq => ?_)
          refine lv_lstore (lv' := [(6, .long sq), (0, .ref m0), (1, .int a), (2, .int b), (3, .int cx), (4, .int cy), (5, .int al)]) hx hb dX4_arc_53 hl (by decide) rfl (fun ls hl => ?_)
          refine lv_lload hx hb dX4_arc_55 (lv_at hl 0 rfl) ?_
          refine lv_lconst (v := 1) hx hb dX4_arc_57 (by decide) ?_
          refine W.lcmp hx hb dX4_arc_58 ?_
          refine lv_if_lt (tgt := 71) hx hb dX4_arc_59 (by decide) (fun c_59 => ?_) (fun c_59 => ?_)
          · refine lv_iconst (v := -1) hx hb dX4_arc_71 (by decide) ?_
            have hP9 := hP.sub (ws' := [(m0, .inr (3, [.int rx, .int ry, .int rz, .int rw, .int ri, .int ux, .int uy, .int uz, .int vx, .int vy, .int vz, .int cn, .int mo, .ref qw, .ref qt])), (qw, .inl (cB, 40000, .inl wf)), (qt, .inl (cB, 40000, .inl tf))]) [0, 1, 2] rfl
            have hD9 := hD.sub (ws' := [(m0, .inr (3, [.int rx, .int ry, .int rz, .int rw, .int ri, .int ux, .int uy, .int uz, .int vx, .int vy, .int vz, .int cn, .int mo, .ref qw, .ref qt])), (qw, .inl (cB, 40000, .inl wf)), (qt, .inl (cB, 40000, .inl tf))]) [0, 1, 2] (by decide) rfl
            exact W.iret (v := -1) hx hb hr (fun t9 ht9 hW9 => ⟨⟨-1, (rx, ry, rw, ri, ux, uy, uz, cn, mo, wf, tf), rfl, (Or.inr ⟨rfl, (fun h => absurd h.2.2.1.1 (Int64.not_le.mpr (by rw [← esq]; exact (lg_cmp_lt _ _).mp c_59))), ⟨rfl, rfl⟩, ⟨rfl, rfl⟩, ⟨rfl, rfl, rfl⟩, rfl, rfl, rfl⟩), by rw [ht9]; exact hP9, hD9⟩, hS.F ht9⟩) hS.2.2 dX4_arc_72
          · refine lv_lload hx hb dX4_arc_62 (lv_at hl 0 rfl) ?_
            refine lv_ldc2 (v := 25000000) hx hb hown (hts (.constantLong RX4 84 (25000000)) (List.mem_of_getElem? (l := wsX4_arc) (i := 3) rfl)) dX4_arc_64 ?_
            refine W.lcmp hx hb dX4_arc_67 ?_
            refine lv_if_le (tgt := 73) hx hb dX4_arc_68 (by decide) (fun c_68 => ?_) (fun c_68 => ?_)
            · have hsq : 1 ≤ sq ∧ sq ≤ 25000000 := ⟨Int64.not_lt.mp (fun h => c_59 ((lg_cmp_lt _ _).mpr h)), (lg_cmp_le _ _).mp c_68⟩
              refine lv_aload_n hx hb dX4_arc_73 rfl (lv_at hl 1 rfl) ?_
              refine lv_iload_n hx hb dX4_arc_74 rfl (lv_at hl 2 rfl) ?_
              refine lv_iload_n hx hb dX4_arc_75 rfl (lv_at hl 4 rfl) ?_
              refine lv_isub hx hb dX4_arc_76 ?_
              refine lv_i2l hx hb dX4_arc_77 rfl ?_
              refine lv_iload_n hx hb dX4_arc_78 rfl (lv_at hl 3 rfl) ?_
              refine lv_iload hx hb dX4_arc_79 (lv_at hl 5 rfl) ?_
              refine lv_isub hx hb dX4_arc_81 ?_
              refine lv_i2l hx hb dX4_arc_82 rfl ?_
              refine lv_iload_n hx hb dX4_arc_83 rfl (lv_at hl 4 rfl) ?_
              refine lv_iload hx hb dX4_arc_84 (lv_at hl 5 rfl) ?_
              refine lv_lload hx hb dX4_arc_86 (lv_at hl 0 rfl) ?_
              refine lv_iload hx hb dX4_arc_88 (lv_at hl 6 rfl) ?_
              refine ct_calli (va_runV (As := [.long ((a - cx).toInt64), .long ((b - cy).toInt64), .int cx, .int cy, .long sq, .int al]) (rest := []) ⟨hx, hb, hml, hown, hts⟩ (rm_tried l dC dI cA cB H.size m0 rx ry rz rw ri ux uy uz vx vy vz cn mo qw qt tf ((a - cx).toInt64) ((b - cy).toInt64) cx cy sq al a b rfl rfl (⟨hpr, hw_3.t c_18, hw_4.t c_26⟩)) (cwV 6 hts gX4_arc_X4_tried rfl rfl rfl (by decide +kernel) ⟨Nat.le_of_ble_eq_true rfl, Nat.le_of_ble_eq_true rfl⟩) ⟨ct_blind, va_recv hK hP (ci := 3) (q0 := 0) rfl rfl, ct_pre hP hD hK hZ hN hS hA [0, 2] rfl (by decide)⟩ rfl rfl hl.1 rfl (lv_room (Nat.le_of_ble_eq_true rfl)) dX4_arc_90 ⟨Nat.le_of_ble_eq_true rfl, Nat.le_of_ble_eq_true rfl⟩) hP hD hS hA [0, 2] [1] rfl (wr := [(qw, .inl (cB, 40000, .inl wf))]) rfl (by decide) (by decide) (fun r_7 nt_7 H locs hw_7 hP hD hS => ?_)
              have hw_7 : (∃ n, r_7 = nI n ∧ ob_H al sq cx cy (rx, ry) (a, b) n ∧ wy_P al sq cx cy (rx, ry) nt_7 n) ∨ (r_7 = -1 ∧ ∀ n, ¬ ob_H al sq cx cy (rx, ry) (a, b) n) := hw_7
              have hP : va_P (dC, dI) vwCl [(qw, .inl (cB, 40000, .inl wf)), (m0, .inr (3, [.int rx, .int ry, .int rz, .int rw, .int ri, .int ux, .int uy, .int uz, .int vx, .int vy, .int vz, .int cn, .int mo, .ref qw, .ref qt])), (qt, .inl (cB, 40000, .inl nt_7))] H := hP
              have hD : va_D A [(qw, .inl (cB, 40000, .inl wf)), (m0, .inr (3, [.int rx, .int ry, .int rz, .int rw, .int ri, .int ux, .int uy, .int uz, .int vx, .int vy, .int vz, .int cn, .int mo, .ref qw, .ref qt])), (qt, .inl (cB, 40000, .inl nt_7))] := hD
              refine lv_istore (lv' := [(8, .int r_7), (6, .long sq), (0, .ref m0), (1, .int a), (2, .int b), (3, .int cx), (4, .int cy), (5, .int al)]) hx hb dX4_arc_93 hl (by decide) rfl (fun ls hl => ?_)
              refine lv_iload hx hb dX4_arc_95 (lv_at hl 0 rfl) ?_
              refine lv_if_ge (tgt := 102) hx hb dX4_arc_97 (by decide) (fun c_97 => ?_) (fun c_97 => ?_)
              · obtain ⟨n, ern, hH, hWy⟩ := hw_7.resolve_right (fun h => absurd (show (0 : Int32) ≤ -1 by rw [← h.1]; exact c_97) (by decide))
                subst ern
                refine lv_aload_n hx hb dX4_arc_102 rfl (lv_at hl 2 rfl) ?_
                refine lv_iconst (v := 1) hx hb dX4_arc_103 (by decide) ?_
                refine lv_iload hx hb dX4_arc_104 (lv_at hl 0 rfl) ?_
                refine ct_callv (va_runV (As := [.int 1, .int (nI n)]) (rest := []) ⟨hx, hb, hml, hown, hts⟩ (rm_begin l dC dI cA cB H.size m0 rx ry rz rw ri ux uy uz vx vy vz cn mo qw qt 1 (nI n) (Or.inr rfl)) (cwV 2 hts gX4_arc_X4_begin rfl rfl rfl (by decide +kernel) ⟨Nat.le_of_ble_eq_true rfl, Nat.le_of_ble_eq_true rfl⟩) ⟨ct_blind, va_recv hK hP (ci := 3) (q0 := 1) rfl rfl, ct_pre hP hD hK hZ hN hS hA [1] rfl (by decide)⟩ rfl rfl hl.1 rfl (lv_room (Nat.le_of_ble_eq_true rfl)) dX4_arc_106 ⟨Nat.le_of_ble_eq_true rfl, Nat.le_of_ble_eq_true rfl⟩) hP hD hS hA [1] [0, 2] rfl (wr := [(qw, .inl (cB, 40000, .inl wf)), (qt, .inl (cB, 40000, .inl nt_7))]) rfl (by decide) (by decide) (fun u9 H locs hw_8 hP hD hS => ?_)
                have hw_8 : True := hw_8
                have hP : va_P (dC, dI) vwCl [(qw, .inl (cB, 40000, .inl wf)), (qt, .inl (cB, 40000, .inl nt_7)), (m0, .inr (3, [.int rx, .int ry, .int rz, .int 1, .int 1, .int rx, .int ry, .int rz, .int vx, .int vy, .int vz, .int (nI n), .int 0, .ref qw, .ref qt]))] H := hP
                have hD : va_D A [(qw, .inl (cB, 40000, .inl wf)), (qt, .inl (cB, 40000, .inl nt_7)), (m0, .inr (3, [.int rx, .int ry, .int rz, .int 1, .int 1, .int rx, .int ry, .int rz, .int vx, .int vy, .int vz, .int (nI n), .int 0, .ref qw, .ref qt]))] := hD
                refine lv_lconst (v := 0) hx hb dX4_arc_109 (by decide) ?_
                refine lv_lstore (lv' := [(9, .long 0), (8, .int (nI n)), (6, .long sq), (0, .ref m0), (1, .int a), (2, .int b), (3, .int cx), (4, .int cy), (5, .int al)]) hx hb dX4_arc_110 hl (by decide) rfl (fun ls hl => ?_)
                refine lv_iconst (v := 0) hx hb dX4_arc_112 (by decide) ?_
                refine lv_istore (lv' := [(11, .int 0), (9, .long 0), (8, .int (nI n)), (6, .long sq), (0, .ref m0), (1, .int a), (2, .int b), (3, .int cx), (4, .int cy), (5, .int al)]) hx hb dX4_arc_113 hl (by decide) rfl (fun ls hl => ?_)
                refine ct_loop (σ := Nat × Int32 × Int32 × (Nat → Int32) × Int64) (fun n9 w9 H locs ls => n9 = n - w9.1 ∧ (w9.1 ≤ n) ∧ ((w9.2.1, w9.2.2.1) = ob_p al sq cx cy (rx, ry) w9.1) ∧ (∀ j, j < w9.1 → w9.2.2.2.1 j = nt_7 j) ∧ (w9.2.2.2.2 = ob_w al sq cx cy (rx, ry) w9.1) ∧ va_P (dC, dI) vwCl [(m0, .inr (3, [.int w9.2.1, .int w9.2.2.1, .int rz, .int 1, .int 1, .int rx, .int ry, .int rz, .int vx, .int vy, .int vz, .int (nI n), .int 0, .ref qw, .ref qt])), (qw, .inl (cB, 40000, .inl w9.2.2.2.1)), (qt, .inl (cB, 40000, .inl nt_7))] H ∧ va_D A [(m0, .inr (3, [.int w9.2.1, .int w9.2.2.1, .int rz, .int 1, .int 1, .int rx, .int ry, .int rz, .int vx, .int vy, .int vz, .int (nI n), .int 0, .ref qw, .ref qt])), (qw, .inl (cB, 40000, .inl w9.2.2.2.1)), (qt, .inl (cB, 40000, .inl nt_7))] ∧ va_S A s.heap H locs ∧ lv_has ls 14 [(11, .int (nI w9.1)), (9, .long w9.2.2.2.2), (0, .ref m0), (3, .int cx), (4, .int cy), (6, .long sq), (8, .int (nI n))]) (fun n9 w9 H locs ls hJ ih_115 => ?_) (n - 0) (0, rx, ry, wf, 0) _ _ _ ⟨rfl, (Nat.zero_le n), rfl, (fun j h => absurd h (by omega)), rfl, (hP.sub [2, 0, 1] rfl), (hD.sub [2, 0, 1] (by decide) rfl), hS, (lv_sub hl [0, 1, 4, 7, 8, 3, 2] rfl)⟩
                obtain ⟨i, px, py, zf, wd⟩ := w9
                obtain ⟨hn_115, hi, hp, hz, hwd, hP, hD, hS, hl⟩ := hJ
                have hn_115 : n9 = n - i := hn_115
                have hi : i ≤ n := hi
                have hp : (px, py) = ob_p al sq cx cy (rx, ry) i := hp
                have hz : ∀ j, j < i → zf j = nt_7 j := hz
                have hwd : wd = ob_w al sq cx cy (rx, ry) i := hwd
                have hP : va_P (dC, dI) vwCl [(m0, .inr (3, [.int px, .int py, .int rz, .int 1, .int 1, .int rx, .int ry, .int rz, .int vx, .int vy, .int vz, .int (nI n), .int 0, .ref qw, .ref qt])), (qw, .inl (cB, 40000, .inl zf)), (qt, .inl (cB, 40000, .inl nt_7))] H := hP
                have hD : va_D A [(m0, .inr (3, [.int px, .int py, .int rz, .int 1, .int 1, .int rx, .int ry, .int rz, .int vx, .int vy, .int vz, .int (nI n), .int 0, .ref qw, .ref qt])), (qw, .inl (cB, 40000, .inl zf)), (qt, .inl (cB, 40000, .inl nt_7))] := hD
                have hl : lv_has ls 14 [(11, .int (nI i)), (9, .long wd), (0, .ref m0), (3, .int cx), (4, .int cy), (6, .long sq), (8, .int (nI n))] := hl
                refine lv_iload hx hb dX4_arc_115 (lv_at hl 0 rfl) ?_
                refine lv_iload hx hb dX4_arc_117 (lv_at hl 6 rfl) ?_
                refine lv_icmp_ge (tgt := 229) hx hb dX4_arc_119 (by decide) (fun c_119 => ?_) (fun c_119 => ?_)
                · have hin : i = n := by
                    have h := (nI_leI (by have := hH.2.1; omega) (by have := hH.2.1; omega)).mp c_119
                    omega
                  subst hin
                  have epq : (px, py) = (a, b) := hp.trans hH.2.2.2.1
                  refine lv_aload_n hx hb dX4_arc_229 rfl (lv_at hl 2 rfl) ?_
                  refine lv_lload hx hb dX4_arc_230 (lv_at hl 1 rfl) ?_
                  refine lv_l2i hx hb dX4_arc_232 rfl ?_
                  refine va_put (D := (dC, dI)) (ci := 3) (v := .int wd.toInt32) (ty := .int) (C := RX4) (T := TX4) (N := 15) hx hb hts hiX4 tyX4 tyX4_ok nmX4 hown hK hP hD hS 0 rfl rfl 12 (by decide) (hts (.fieldLink RX4 39 "TickWalksModel" "most" "I") (List.mem_of_getElem? (l := wsX4_arc) (i := 10) rfl)) (fun _ h9 => h9) rfl (by decide +kernel) rfl rfl (Nat.le_of_ble_eq_true rfl) dX4_arc_233 (fun H locs hP hD hS => ?_)
                  have hP : va_P (dC, dI) vwCl [(m0, .inr (3, [.int px, .int py, .int rz, .int 1, .int 1, .int rx, .int ry, .int rz, .int vx, .int vy, .int vz, .int (nI i), .int wd.toInt32, .ref qw, .ref qt])), (qw, .inl (cB, 40000, .inl zf)), (qt, .inl (cB, 40000, .inl nt_7))] H := hP
                  have hD : va_D A [(m0, .inr (3, [.int px, .int py, .int rz, .int 1, .int 1, .int rx, .int ry, .int rz, .int vx, .int vy, .int vz, .int (nI i), .int wd.toInt32, .ref qw, .ref qt])), (qw, .inl (cB, 40000, .inl zf)), (qt, .inl (cB, 40000, .inl nt_7))] := hD
                  refine lv_iload hx hb dX4_arc_236 (lv_at hl 6 rfl) ?_
                  have hP9 := hP.sub (ws' := [(m0, .inr (3, [.int px, .int py, .int rz, .int 1, .int 1, .int rx, .int ry, .int rz, .int vx, .int vy, .int vz, .int (nI i), .int wd.toInt32, .ref qw, .ref qt])), (qw, .inl (cB, 40000, .inl zf)), (qt, .inl (cB, 40000, .inl nt_7))]) [0, 1, 2] rfl
                  have hD9 := hD.sub (ws' := [(m0, .inr (3, [.int px, .int py, .int rz, .int 1, .int 1, .int rx, .int ry, .int rz, .int vx, .int vy, .int vz, .int (nI i), .int wd.toInt32, .ref qw, .ref qt])), (qw, .inl (cB, 40000, .inl zf)), (qt, .inl (cB, 40000, .inl nt_7))]) [0, 1, 2] (by decide) rfl
                  exact W.iret (v := nI i) hx hb hr (fun t9 ht9 hW9 => ⟨⟨nI i, (px, py, 1, 1, rx, ry, rz, nI i, wd.toInt32, zf, nt_7), rfl, (Or.inl ⟨i, rfl, ⟨hw_1.t c_4, hw_2.t c_11⟩, ⟨hw_3.t c_18, hw_4.t c_26⟩, by rw [← esq]; exact hsq, by rw [← esq]; exact hH, ⟨congrArg Prod.fst epq, congrArg Prod.snd epq⟩, ⟨rfl, rfl⟩, ⟨rfl, rfl, rfl⟩, rfl, by rw [hwd, esq], fun y h => by obtain ⟨j, h1, h2, h3⟩ := hWy y h; exact ⟨j, h1, (hz y h).trans h2, by rw [← esq]; exact h3⟩⟩), by rw [ht9]; exact hP9, hD9⟩, hS.F ht9⟩) hS.2.2 dX4_arc_238
                · have hn2 : n ≤ 40000 := hH.2.1
                  have hlt : i < n := by
                    rcases Nat.lt_or_ge i n with h | h
                    · exact h
                    · exact absurd (nI_le h (by omega)) c_119
                  obtain ⟨j, hj, hwj, hpj⟩ := hWy i hlt
                  refine lv_aload_n hx hb dX4_arc_122 rfl (lv_at hl 2 rfl) ?_
                  refine va_get (D := (dC, dI)) (ci := 3) (v := .ref qw) (C := RX4) (T := TX4) (N := 15) hx hb hts hiX4 hown hK hP 0 rfl rfl 13 (by decide) (hts (.fieldLink RX4 10 "TickWalksModel" "way" "[B") (List.mem_of_getElem? (l := wsX4_arc) (i := 4) rfl)) (fun _ h9 => h9) rfl dX4_arc_123 ?_
                  refine lv_iload hx hb dX4_arc_126 (lv_at hl 0 rfl) ?_
                  refine lv_aload_n hx hb dX4_arc_128 rfl (lv_at hl 2 rfl) ?_
                  refine va_get (D := (dC, dI)) (ci := 3) (v := .ref qt) (C := RX4) (T := TX4) (N := 15) hx hb hts hiX4 hown hK hP 0 rfl rfl 14 (by decide) (hts (.fieldLink RX4 14 "TickWalksModel" "tried" "[B") (List.mem_of_getElem? (l := wsX4_arc) (i := 5) rfl)) (fun _ h9 => h9) rfl dX4_arc_129 ?_
                  refine lv_iload hx hb dX4_arc_132 (lv_at hl 0 rfl) ?_
                  refine va_bald hx hb hK hP 2 1 rfl rfl (vp_in_nI (by omega) (by decide)) dX4_arc_134 ?_
                  refine ct_topi (y := nt_7 i) (congrArg nt_7 (nI_clamp (show i < 2 ^ 31 by omega))) ?_
                  refine ct_topi (y := nI j) hwj ?_
                  refine va_bast hx hb hK hP hD hS 1 1 rfl rfl (vp_in_nI (by omega) (by decide)) dX4_arc_135 (fun H locs hP hD hS => ?_)
                  rw [(nI_clamp (show i < 2 ^ 31 by omega))] at hP hD
                  rw [nar_c hj] at hP hD
                  have hP : va_P (dC, dI) vwCl [(m0, .inr (3, [.int px, .int py, .int rz, .int 1, .int 1, .int rx, .int ry, .int rz, .int vx, .int vy, .int vz, .int (nI n), .int 0, .ref qw, .ref qt])), (qw, .inl (cB, 40000, .inl (upd zf i (nI j)))), (qt, .inl (cB, 40000, .inl nt_7))] H := hP
                  have hD : va_D A [(m0, .inr (3, [.int px, .int py, .int rz, .int 1, .int 1, .int rx, .int ry, .int rz, .int vx, .int vy, .int vz, .int (nI n), .int 0, .ref qw, .ref qt])), (qw, .inl (cB, 40000, .inl (upd zf i (nI j)))), (qt, .inl (cB, 40000, .inl nt_7))] := hD
                  refine lv_aload_n hx hb dX4_arc_136 rfl (lv_at hl 2 rfl) ?_
                  refine lv_dup hx hb dX4_arc_137 rfl ?_
                  refine va_get (D := (dC, dI)) (ci := 3) (v := .int px) (C := RX4) (T := TX4) (N := 15) hx hb hts hiX4 hown hK hP 0 rfl rfl 0 (by decide) (hts (.fieldLink RX4 22 "TickWalksModel" "x" "I") (List.mem_of_getElem? (l := wsX4_arc) (i := 1) rfl)) (fun _ h9 => h9) rfl dX4_arc_138 ?_
                  refine lv_aload_n hx hb dX4_arc_141 rfl (lv_at hl 2 rfl) ?_
                  refine va_get (D := (dC, dI)) (ci := 3) (v := .ref qw) (C := RX4) (T := TX4) (N := 15) hx hb hts hiX4 hown hK hP 0 rfl rfl 13 (by decide) (hts (.fieldLink RX4 10 "TickWalksModel" "way" "[B") (List.mem_of_getElem? (l := wsX4_arc) (i := 4) rfl)) (fun _ h9 => h9) rfl dX4_arc_142 ?_
                  refine lv_iload hx hb dX4_arc_145 (lv_at hl 0 rfl) ?_
                  refine va_bald hx hb hK hP 1 1 rfl rfl (vp_in_nI (by omega) (by decide)) dX4_arc_147 ?_
                  refine ct_topi (y := (upd zf i (nI j)) i) (congrArg (upd zf i (nI j)) (nI_clamp (show i < 2 ^ 31 by omega))) ?_
                  refine ct_topi (y := nI j) pk_us ?_
                  refine ct_calli (va_runS (As := [.int (nI j)]) (rest := [.int px, .ref m0]) ⟨hx, hb, hml, hown, hts⟩ (rf_east l dC dI cA cB H.size j hj) (va_cwS 1 hts gX4_arc_X4_eastOf rfl rfl rfl (by decide +kernel) ⟨Nat.le_of_ble_eq_true rfl, Nat.le_of_ble_eq_true rfl⟩) ⟨ct_blind, ct_pre hP hD hK hZ hN hS hA [] rfl (by decide)⟩ rfl rfl hl.1 rfl (lv_room (Nat.le_of_ble_eq_true rfl)) dX4_arc_148 ⟨Nat.le_of_ble_eq_true rfl, Nat.le_of_ble_eq_true rfl⟩) hP hD hS hA [] [0, 1, 2] rfl (wr := [(m0, .inr (3, [.int px, .int py, .int rz, .int 1, .int 1, .int rx, .int ry, .int rz, .int vx, .int vy, .int vz, .int (nI n), .int 0, .ref qw, .ref qt])), (qw, .inl (cB, 40000, .inl (upd zf i (nI j)))), (qt, .inl (cB, 40000, .inl nt_7))]) rfl (by decide) (by decide) (fun r_9 u9 H locs hw_9 hP hD hS => ?_)
                  have hw_9 : r_9 = st_X j := hw_9
                  have hP : va_P (dC, dI) vwCl [(m0, .inr (3, [.int px, .int py, .int rz, .int 1, .int 1, .int rx, .int ry, .int rz, .int vx, .int vy, .int vz, .int (nI n), .int 0, .ref qw, .ref qt])), (qw, .inl (cB, 40000, .inl (upd zf i (nI j)))), (qt, .inl (cB, 40000, .inl nt_7))] H := hP
                  have hD : va_D A [(m0, .inr (3, [.int px, .int py, .int rz, .int 1, .int 1, .int rx, .int ry, .int rz, .int vx, .int vy, .int vz, .int (nI n), .int 0, .ref qw, .ref qt])), (qw, .inl (cB, 40000, .inl (upd zf i (nI j)))), (qt, .inl (cB, 40000, .inl nt_7))] := hD
                  refine ct_topi (y := st_X j) hw_9 ?_
                  refine lv_iadd hx hb dX4_arc_151 ?_
                  refine va_put (D := (dC, dI)) (ci := 3) (v := .int (px + (st_X j))) (ty := .int) (C := RX4) (T := TX4) (N := 15) hx hb hts hiX4 tyX4 tyX4_ok nmX4 hown hK hP hD hS 0 rfl rfl 0 (by decide) (hts (.fieldLink RX4 22 "TickWalksModel" "x" "I") (List.mem_of_getElem? (l := wsX4_arc) (i := 1) rfl)) (fun _ h9 => h9) rfl (by decide +kernel) rfl rfl (Nat.le_of_ble_eq_true rfl) dX4_arc_152 (fun H locs hP hD hS => ?_)
                  have hP : va_P (dC, dI) vwCl [(m0, .inr (3, [.int (px + (st_X j)), .int py, .int rz, .int 1, .int 1, .int rx, .int ry, .int rz, .int vx, .int vy, .int vz, .int (nI n), .int 0, .ref qw, .ref qt])), (qw, .inl (cB, 40000, .inl (upd zf i (nI j)))), (qt, .inl (cB, 40000, .inl nt_7))] H := hP
                  have hD : va_D A [(m0, .inr (3, [.int (px + (st_X j)), .int py, .int rz, .int 1, .int 1, .int rx, .int ry, .int rz, .int vx, .int vy, .int vz, .int (nI n), .int 0, .ref qw, .ref qt])), (qw, .inl (cB, 40000, .inl (upd zf i (nI j)))), (qt, .inl (cB, 40000, .inl nt_7))] := hD
                  refine lv_aload_n hx hb dX4_arc_155 rfl (lv_at hl 2 rfl) ?_
                  refine lv_dup hx hb dX4_arc_156 rfl ?_
                  refine va_get (D := (dC, dI)) (ci := 3) (v := .int py) (C := RX4) (T := TX4) (N := 15) hx hb hts hiX4 hown hK hP 0 rfl rfl 1 (by decide) (hts (.fieldLink RX4 26 "TickWalksModel" "y" "I") (List.mem_of_getElem? (l := wsX4_arc) (i := 2) rfl)) (fun _ h9 => h9) rfl dX4_arc_157 ?_
                  refine lv_aload_n hx hb dX4_arc_160 rfl (lv_at hl 2 rfl) ?_
                  refine va_get (D := (dC, dI)) (ci := 3) (v := .ref qw) (C := RX4) (T := TX4) (N := 15) hx hb hts hiX4 hown hK hP 0 rfl rfl 13 (by decide) (hts (.fieldLink RX4 10 "TickWalksModel" "way" "[B") (List.mem_of_getElem? (l := wsX4_arc) (i := 4) rfl)) (fun _ h9 => h9) rfl dX4_arc_161 ?_
                  refine lv_iload hx hb dX4_arc_164 (lv_at hl 0 rfl) ?_
                  refine va_bald hx hb hK hP 1 1 rfl rfl (vp_in_nI (by omega) (by decide)) dX4_arc_166 ?_
                  refine ct_topi (y := (upd zf i (nI j)) i) (congrArg (upd zf i (nI j)) (nI_clamp (show i < 2 ^ 31 by omega))) ?_
                  refine ct_topi (y := nI j) pk_us ?_
                  refine ct_calli (va_runS (As := [.int (nI j)]) (rest := [.int py, .ref m0]) ⟨hx, hb, hml, hown, hts⟩ (rf_north l dC dI cA cB H.size j hj) (va_cwS 1 hts gX4_arc_X4_northOf rfl rfl rfl (by decide +kernel) ⟨Nat.le_of_ble_eq_true rfl, Nat.le_of_ble_eq_true rfl⟩) ⟨ct_blind, ct_pre hP hD hK hZ hN hS hA [] rfl (by decide)⟩ rfl rfl hl.1 rfl (lv_room (Nat.le_of_ble_eq_true rfl)) dX4_arc_167 ⟨Nat.le_of_ble_eq_true rfl, Nat.le_of_ble_eq_true rfl⟩) hP hD hS hA [] [0, 1, 2] rfl (wr := [(m0, .inr (3, [.int (px + (st_X j)), .int py, .int rz, .int 1, .int 1, .int rx, .int ry, .int rz, .int vx, .int vy, .int vz, .int (nI n), .int 0, .ref qw, .ref qt])), (qw, .inl (cB, 40000, .inl (upd zf i (nI j)))), (qt, .inl (cB, 40000, .inl nt_7))]) rfl (by decide) (by decide) (fun r_10 u9 H locs hw_10 hP hD hS => ?_)
                  have hw_10 : r_10 = st_Y j := hw_10
                  have hP : va_P (dC, dI) vwCl [(m0, .inr (3, [.int (px + (st_X j)), .int py, .int rz, .int 1, .int 1, .int rx, .int ry, .int rz, .int vx, .int vy, .int vz, .int (nI n), .int 0, .ref qw, .ref qt])), (qw, .inl (cB, 40000, .inl (upd zf i (nI j)))), (qt, .inl (cB, 40000, .inl nt_7))] H := hP
                  have hD : va_D A [(m0, .inr (3, [.int (px + (st_X j)), .int py, .int rz, .int 1, .int 1, .int rx, .int ry, .int rz, .int vx, .int vy, .int vz, .int (nI n), .int 0, .ref qw, .ref qt])), (qw, .inl (cB, 40000, .inl (upd zf i (nI j)))), (qt, .inl (cB, 40000, .inl nt_7))] := hD
                  refine ct_topi (y := st_Y j) hw_10 ?_
                  refine lv_iadd hx hb dX4_arc_170 ?_
                  refine va_put (D := (dC, dI)) (ci := 3) (v := .int (py + (st_Y j))) (ty := .int) (C := RX4) (T := TX4) (N := 15) hx hb hts hiX4 tyX4 tyX4_ok nmX4 hown hK hP hD hS 0 rfl rfl 1 (by decide) (hts (.fieldLink RX4 26 "TickWalksModel" "y" "I") (List.mem_of_getElem? (l := wsX4_arc) (i := 2) rfl)) (fun _ h9 => h9) rfl (by decide +kernel) rfl rfl (Nat.le_of_ble_eq_true rfl) dX4_arc_171 (fun H locs hP hD hS => ?_)
                  have hP : va_P (dC, dI) vwCl [(m0, .inr (3, [.int (px + (st_X j)), .int (py + (st_Y j)), .int rz, .int 1, .int 1, .int rx, .int ry, .int rz, .int vx, .int vy, .int vz, .int (nI n), .int 0, .ref qw, .ref qt])), (qw, .inl (cB, 40000, .inl (upd zf i (nI j)))), (qt, .inl (cB, 40000, .inl nt_7))] H := hP
                  have hD : va_D A [(m0, .inr (3, [.int (px + (st_X j)), .int (py + (st_Y j)), .int rz, .int 1, .int 1, .int rx, .int ry, .int rz, .int vx, .int vy, .int vz, .int (nI n), .int 0, .ref qw, .ref qt])), (qw, .inl (cB, 40000, .inl (upd zf i (nI j)))), (qt, .inl (cB, 40000, .inl nt_7))] := hD
                  have hp2 : (px + st_X j, py + st_Y j) = ob_p al sq cx cy (rx, ry) (i + 1) := by rw [hpj, ← hp]
                  have hz2 : ∀ y, y < i + 1 → upd zf i (nI j) y = nt_7 y := fun y h => by
                    rcases Nat.lt_or_ge y i with q | q
                    · rw [pk_un (by omega)]; exact hz y q
                    · rw [show y = i by omega, pk_us]; exact hwj.symm
                  refine lv_aload_n hx hb dX4_arc_174 rfl (lv_at hl 2 rfl) ?_
                  refine va_get (D := (dC, dI)) (ci := 3) (v := .int (px + (st_X j))) (C := RX4) (T := TX4) (N := 15) hx hb hts hiX4 hown hK hP 0 rfl rfl 0 (by decide) (hts (.fieldLink RX4 22 "TickWalksModel" "x" "I") (List.mem_of_getElem? (l := wsX4_arc) (i := 1) rfl)) (fun _ h9 => h9) rfl dX4_arc_175 ?_
                  refine lv_iload_n hx hb dX4_arc_178 rfl (lv_at hl 3 rfl) ?_
                  refine lv_isub hx hb dX4_arc_179 ?_
                  refine lv_i2l hx hb dX4_arc_180 rfl ?_
                  refine ct_calll (va_runS (As := [.long (((px + (st_X j)) - cx).toInt64)]) (rest := []) ⟨hx, hb, hml, hown, hts⟩ (rf_square l dC dI cA cB H.size (((px + (st_X j)) - cx).toInt64) ) (va_cwS 1 hts gX4_arc_X4_square rfl rfl rfl (by decide +kernel) ⟨Nat.le_of_ble_eq_true rfl, Nat.le_of_ble_eq_true rfl⟩) ⟨ct_blind, ct_pre hP hD hK hZ hN hS hA [] rfl (by decide)⟩ rfl rfl hl.1 rfl (lv_room (Nat.le_of_ble_eq_true rfl)) dX4_arc_181 ⟨Nat.le_of_ble_eq_true rfl, Nat.le_of_ble_eq_true rfl⟩) hP hD hS hA [] [0, 1, 2] rfl (wr := [(m0, .inr (3, [.int (px + (st_X j)), .int (py + (st_Y j)), .int rz, .int 1, .int 1, .int rx, .int ry, .int rz, .int vx, .int vy, .int vz, .int (nI n), .int 0, .ref qw, .ref qt])), (qw, .inl (cB, 40000, .inl (upd zf i (nI j)))), (qt, .inl (cB, 40000, .inl nt_7))]) rfl (by decide) (by decide) (fun r_11 u9 H locs hw_11 hP hD hS => ?_)
                  have hw_11 : r_11 = (((px + (st_X j)) - cx).toInt64) * (((px + (st_X j)) - cx).toInt64) := hw_11
                  have hP : va_P (dC, dI) vwCl [(m0, .inr (3, [.int (px + (st_X j)), .int (py + (st_Y j)), .int rz, .int 1, .int 1, .int rx, .int ry, .int rz, .int vx, .int vy, .int vz, .int (nI n), .int 0, .ref qw, .ref qt])), (qw, .inl (cB, 40000, .inl (upd zf i (nI j)))), (qt, .inl (cB, 40000, .inl nt_7))] H := hP
                  have hD : va_D A [(m0, .inr (3, [.int (px + (st_X j)), .int (py + (st_Y j)), .int rz, .int 1, .int 1, .int rx, .int ry, .int rz, .int vx, .int vy, .int vz, .int (nI n), .int 0, .ref qw, .ref qt])), (qw, .inl (cB, 40000, .inl (upd zf i (nI j)))), (qt, .inl (cB, 40000, .inl nt_7))] := hD
                  refine lv_aload_n hx hb dX4_arc_184 rfl (lv_at hl 2 rfl) ?_
                  refine va_get (D := (dC, dI)) (ci := 3) (v := .int (py + (st_Y j))) (C := RX4) (T := TX4) (N := 15) hx hb hts hiX4 hown hK hP 0 rfl rfl 1 (by decide) (hts (.fieldLink RX4 26 "TickWalksModel" "y" "I") (List.mem_of_getElem? (l := wsX4_arc) (i := 2) rfl)) (fun _ h9 => h9) rfl dX4_arc_185 ?_
                  refine lv_iload hx hb dX4_arc_188 (lv_at hl 4 rfl) ?_
                  refine lv_isub hx hb dX4_arc_190 ?_
                  refine lv_i2l hx hb dX4_arc_191 rfl ?_
                  refine ct_calll (va_runS (As := [.long (((py + (st_Y j)) - cy).toInt64)]) (rest := [.long r_11]) ⟨hx, hb, hml, hown, hts⟩ (rf_square l dC dI cA cB H.size (((py + (st_Y j)) - cy).toInt64) ) (va_cwS 1 hts gX4_arc_X4_square rfl rfl rfl (by decide +kernel) ⟨Nat.le_of_ble_eq_true rfl, Nat.le_of_ble_eq_true rfl⟩) ⟨ct_blind, ct_pre hP hD hK hZ hN hS hA [] rfl (by decide)⟩ rfl rfl hl.1 rfl (lv_room (Nat.le_of_ble_eq_true rfl)) dX4_arc_192 ⟨Nat.le_of_ble_eq_true rfl, Nat.le_of_ble_eq_true rfl⟩) hP hD hS hA [] [0, 1, 2] rfl (wr := [(m0, .inr (3, [.int (px + (st_X j)), .int (py + (st_Y j)), .int rz, .int 1, .int 1, .int rx, .int ry, .int rz, .int vx, .int vy, .int vz, .int (nI n), .int 0, .ref qw, .ref qt])), (qw, .inl (cB, 40000, .inl (upd zf i (nI j)))), (qt, .inl (cB, 40000, .inl nt_7))]) rfl (by decide) (by decide) (fun r_12 u9 H locs hw_12 hP hD hS => ?_)
                  have hw_12 : r_12 = (((py + (st_Y j)) - cy).toInt64) * (((py + (st_Y j)) - cy).toInt64) := hw_12
                  have hP : va_P (dC, dI) vwCl [(m0, .inr (3, [.int (px + (st_X j)), .int (py + (st_Y j)), .int rz, .int 1, .int 1, .int rx, .int ry, .int rz, .int vx, .int vy, .int vz, .int (nI n), .int 0, .ref qw, .ref qt])), (qw, .inl (cB, 40000, .inl (upd zf i (nI j)))), (qt, .inl (cB, 40000, .inl nt_7))] H := hP
                  have hD : va_D A [(m0, .inr (3, [.int (px + (st_X j)), .int (py + (st_Y j)), .int rz, .int 1, .int 1, .int rx, .int ry, .int rz, .int vx, .int vy, .int vz, .int (nI n), .int 0, .ref qw, .ref qt])), (qw, .inl (cB, 40000, .inl (upd zf i (nI j)))), (qt, .inl (cB, 40000, .inl nt_7))] := hD
                  refine lv_ladd hx hb dX4_arc_195 ?_
                  refine lv_lload hx hb dX4_arc_196 (lv_at hl 5 rfl) ?_
                  refine lv_lsub hx hb dX4_arc_198 ?_
                  refine ct_topl (y := sq_c (px + st_X j) cx (py + st_Y j) cy - sq) (show r_11 + r_12 - sq = sq_c (px + st_X j) cx (py + st_Y j) cy - sq by rw [hw_11, hw_12]; rfl) ?_
                  refine lv_topl (fun of1 eof1 => ?_)
                  refine lv_lstore (lv' := [(12, .long of1), (11, .int (nI i)), (9, .long wd), (0, .ref m0), (3, .int cx), (4, .int cy), (6, .long sq), (8, .int (nI n))]) hx hb dX4_arc_199 hl (by decide) rfl (fun ls hl => ?_)
                  refine lv_lload hx hb dX4_arc_201 (lv_at hl 2 rfl) ?_
                  refine lv_lload hx hb dX4_arc_203 (lv_at hl 0 rfl) ?_
                  refine lv_lconst (v := 0) hx hb dX4_arc_205 (by decide) ?_
                  refine W.lcmp hx hb dX4_arc_206 ?_
                  refine lv_if_ge (tgt := 216) hx hb dX4_arc_207 (by decide) (fun c_207 => ?_) (fun c_207 => ?_)
                  · refine lv_lload hx hb dX4_arc_216 (lv_at hl 0 rfl) ?_
                    refine ct_topl (y := ab_l of1) (ab_l_ge ((lg_cmp_ge _ _).mp c_207)) ?_
                    refine va_mmax_long hx hb (hml.trans hl.1.symm) hown (hts (.methodLink RX4 95 Lib.MathLoose.max_long.x) (List.mem_of_getElem? (l := wsX4_arc) (i := 6) rfl)) (hts (.static Lib.MathLoose.max_long.x) (List.mem_of_getElem? (l := wsX4_arc) (i := 7) rfl)) (hts (.initialized "java/lang/Math") (List.mem_of_getElem? (l := wsX4_arc) (i := 8) rfl)) (hts (.code Lib.MathLoose.max_long.x Lib.MathLoose.max_long.code 4 (some .long)) (List.mem_of_getElem? (l := wsX4_arc) (i := 9) rfl)) (Nat.le_of_ble_eq_true rfl) (Nat.le_of_ble_eq_true rfl) (Nat.le_of_ble_eq_true rfl) (Nat.le_of_ble_eq_true rfl) dX4_arc_218 ?_
                    have hwd2 : (if ab_l of1 < wd then wd else ab_l of1) = ob_w al sq cx cy (rx, ry) (i + 1) := by rw [ob_w, ← hp2, hwd, eof1]
                    refine lv_lstore (lv' := [(9, .long (if (ab_l of1) < wd then wd else (ab_l of1))), (12, .long of1), (11, .int (nI i)), (0, .ref m0), (3, .int cx), (4, .int cy), (6, .long sq), (8, .int (nI n))]) hx hb dX4_arc_221 hl (by decide) rfl (fun ls hl => ?_)
                    refine lv_iinc (v := nI (i + 1)) (lv' := [(11, .int (nI (i + 1))), (9, .long (if (ab_l of1) < wd then wd else (ab_l of1))), (12, .long of1), (0, .ref m0), (3, .int cx), (4, .int cy), (6, .long sq), (8, .int (nI n))]) hx hb dX4_arc_223 hl (k := 2) rfl (nI_1 i) (by decide) rfl (fun ls hl => ?_)
                    refine lv_goto (tgt := 115) hx hb dX4_arc_226 (by decide) ?_
                    exact ih_115 _ ((i + 1), px + (st_X j), py + (st_Y j), upd zf i (nI j), if (ab_l of1) < wd then wd else (ab_l of1)) _ _ _ (by rw [hn_115]; omega) ⟨rfl, (show i + 1 ≤ n by omega), hp2, hz2, hwd2, (hP.sub [0, 1, 2] rfl), (hD.sub [0, 1, 2] (by decide) rfl), hS, (lv_sub hl [0, 1, 3, 4, 5, 6, 7] rfl)⟩
                  · refine lv_lload hx hb dX4_arc_210 (lv_at hl 0 rfl) ?_
                    refine lv_lneg hx hb dX4_arc_212 ?_
                    refine lv_goto (tgt := 218) hx hb dX4_arc_213 (by decide) ?_
                    refine ct_topl (y := ab_l of1) (ab_l_lt (fun h => c_207 ((lg_cmp_ge _ _).mpr h))) ?_
                    refine va_mmax_long hx hb (hml.trans hl.1.symm) hown (hts (.methodLink RX4 95 Lib.MathLoose.max_long.x) (List.mem_of_getElem? (l := wsX4_arc) (i := 6) rfl)) (hts (.static Lib.MathLoose.max_long.x) (List.mem_of_getElem? (l := wsX4_arc) (i := 7) rfl)) (hts (.initialized "java/lang/Math") (List.mem_of_getElem? (l := wsX4_arc) (i := 8) rfl)) (hts (.code Lib.MathLoose.max_long.x Lib.MathLoose.max_long.code 4 (some .long)) (List.mem_of_getElem? (l := wsX4_arc) (i := 9) rfl)) (Nat.le_of_ble_eq_true rfl) (Nat.le_of_ble_eq_true rfl) (Nat.le_of_ble_eq_true rfl) (Nat.le_of_ble_eq_true rfl) dX4_arc_218 ?_
                    have hwd2 : (if ab_l of1 < wd then wd else ab_l of1) = ob_w al sq cx cy (rx, ry) (i + 1) := by rw [ob_w, ← hp2, hwd, eof1]
                    refine lv_lstore (lv' := [(9, .long (if (ab_l of1) < wd then wd else (ab_l of1))), (12, .long of1), (11, .int (nI i)), (0, .ref m0), (3, .int cx), (4, .int cy), (6, .long sq), (8, .int (nI n))]) hx hb dX4_arc_221 hl (by decide) rfl (fun ls hl => ?_)
                    refine lv_iinc (v := nI (i + 1)) (lv' := [(11, .int (nI (i + 1))), (9, .long (if (ab_l of1) < wd then wd else (ab_l of1))), (12, .long of1), (0, .ref m0), (3, .int cx), (4, .int cy), (6, .long sq), (8, .int (nI n))]) hx hb dX4_arc_223 hl (k := 2) rfl (nI_1 i) (by decide) rfl (fun ls hl => ?_)
                    refine lv_goto (tgt := 115) hx hb dX4_arc_226 (by decide) ?_
                    exact ih_115 _ ((i + 1), px + (st_X j), py + (st_Y j), upd zf i (nI j), if (ab_l of1) < wd then wd else (ab_l of1)) _ _ _ (by rw [hn_115]; omega) ⟨rfl, (show i + 1 ≤ n by omega), hp2, hz2, hwd2, (hP.sub [0, 1, 2] rfl), (hD.sub [0, 1, 2] (by decide) rfl), hS, (lv_sub hl [0, 1, 3, 4, 5, 6, 7] rfl)⟩
              · refine lv_iconst (v := -1) hx hb dX4_arc_100 (by decide) ?_
                have hP9 := hP.sub (ws' := [(m0, .inr (3, [.int rx, .int ry, .int rz, .int rw, .int ri, .int ux, .int uy, .int uz, .int vx, .int vy, .int vz, .int cn, .int mo, .ref qw, .ref qt])), (qw, .inl (cB, 40000, .inl wf)), (qt, .inl (cB, 40000, .inl nt_7))]) [1, 0, 2] rfl
                have hD9 := hD.sub (ws' := [(m0, .inr (3, [.int rx, .int ry, .int rz, .int rw, .int ri, .int ux, .int uy, .int uz, .int vx, .int vy, .int vz, .int cn, .int mo, .ref qw, .ref qt])), (qw, .inl (cB, 40000, .inl wf)), (qt, .inl (cB, 40000, .inl nt_7))]) [1, 0, 2] (by decide) rfl
                exact W.iret (v := -1) hx hb hr (fun t9 ht9 hW9 => ⟨⟨-1, (rx, ry, rw, ri, ux, uy, uz, cn, mo, wf, nt_7), rfl, (Or.inr ⟨rfl, (fun h => by rcases hw_7 with ⟨n, g1, g2, g3⟩ | g; exact c_97 (by rw [g1]; exact nI_pos' (by have := g2.2.1; omega)); obtain ⟨n, hn⟩ := h.2.2.2; rw [← esq] at hn; exact g.2 n hn), ⟨rfl, rfl⟩, ⟨rfl, rfl⟩, ⟨rfl, rfl, rfl⟩, rfl, rfl, rfl⟩), by rw [ht9]; exact hP9, hD9⟩, hS.F ht9⟩) hS.2.2 dX4_arc_101
            · refine lv_iconst (v := -1) hx hb dX4_arc_71 (by decide) ?_
              have hP9 := hP.sub (ws' := [(m0, .inr (3, [.int rx, .int ry, .int rz, .int rw, .int ri, .int ux, .int uy, .int uz, .int vx, .int vy, .int vz, .int cn, .int mo, .ref qw, .ref qt])), (qw, .inl (cB, 40000, .inl wf)), (qt, .inl (cB, 40000, .inl tf))]) [0, 1, 2] rfl
              have hD9 := hD.sub (ws' := [(m0, .inr (3, [.int rx, .int ry, .int rz, .int rw, .int ri, .int ux, .int uy, .int uz, .int vx, .int vy, .int vz, .int cn, .int mo, .ref qw, .ref qt])), (qw, .inl (cB, 40000, .inl wf)), (qt, .inl (cB, 40000, .inl tf))]) [0, 1, 2] (by decide) rfl
              exact W.iret (v := -1) hx hb hr (fun t9 ht9 hW9 => ⟨⟨-1, (rx, ry, rw, ri, ux, uy, uz, cn, mo, wf, tf), rfl, (Or.inr ⟨rfl, (fun h => c_68 ((lg_cmp_le _ _).mpr (by rw [esq]; exact h.2.2.1.2))), ⟨rfl, rfl⟩, ⟨rfl, rfl⟩, ⟨rfl, rfl, rfl⟩, rfl, rfl, rfl⟩), by rw [ht9]; exact hP9, hD9⟩, hS.F ht9⟩) hS.2.2 dX4_arc_72
        · refine lv_iconst (v := -1) hx hb dX4_arc_29 (by decide) ?_
          have hP9 := hP.sub (ws' := [(m0, .inr (3, [.int rx, .int ry, .int rz, .int rw, .int ri, .int ux, .int uy, .int uz, .int vx, .int vy, .int vz, .int cn, .int mo, .ref qw, .ref qt])), (qw, .inl (cB, 40000, .inl wf)), (qt, .inl (cB, 40000, .inl tf))]) [0, 1, 2] rfl
          have hD9 := hD.sub (ws' := [(m0, .inr (3, [.int rx, .int ry, .int rz, .int rw, .int ri, .int ux, .int uy, .int uz, .int vx, .int vy, .int vz, .int cn, .int mo, .ref qw, .ref qt])), (qw, .inl (cB, 40000, .inl wf)), (qt, .inl (cB, 40000, .inl tf))]) [0, 1, 2] (by decide) rfl
          exact W.iret (v := -1) hx hb hr (fun t9 ht9 hW9 => ⟨⟨-1, (rx, ry, rw, ri, ux, uy, uz, cn, mo, wf, tf), rfl, (Or.inr ⟨rfl, (fun h => hw_4.f c_26 h.2.1.2), ⟨rfl, rfl⟩, ⟨rfl, rfl⟩, ⟨rfl, rfl, rfl⟩, rfl, rfl, rfl⟩), by rw [ht9]; exact hP9, hD9⟩, hS.F ht9⟩) hS.2.2 dX4_arc_30
set_option maxHeartbeats 4000000 in
set_option maxRecDepth 100000 in
/-- TickWalksModel.<init> -/
theorem rm_init (l : Launch) (dC : Nat → ClassId) (dI : Nat → Nat → Nat) (cA cB : ClassId) (sz : Nat) (m0 : Nat) : Met l yX4_init wsX4_init ({ frames := 1, cells := 2, slots := 80000, locals := 12 }) (va_Pc [.ref m0] (ct_P dC dI cA cB sz [(m0, .inr (3, [.int 0, .int 0, .int 0, .int 0, .int 0, .int 0, .int 0, .int 0, .int 0, .int 0, .int 0, .int 0, .int 0, .null, .null]))])) (va_Qv (fun (u : Nat × Nat) => True) (fun (u : Nat × Nat) => ct_B dC dI (va_A [(m0, .inr (3, [.int 0, .int 0, .int 0, .int 0, .int 0, .int 0, .int 0, .int 0, .int 0, .int 0, .int 0, .int 0, .int 0, .null, .null]))] sz) [(m0, .inr (3, [.int 0, .int 0, .int 0, .int 0, .int 0, .int 0, .int 0, .int 0, .int 0, .int 0, .int 0, .int 0, .int 0, .ref u.1, .ref u.2])), (u.1, .inl (cB, 40000, .inl (fun _ => 0))), (u.2, .inl (cB, 40000, .inl (fun _ => 0)))]) (va_A [(m0, .inr (3, [.int 0, .int 0, .int 0, .int 0, .int 0, .int 0, .int 0, .int 0, .int 0, .int 0, .int 0, .int 0, .int 0, .null, .null]))] sz)) 2 80000 (va_A [(m0, .inr (3, [.int 0, .int 0, .int 0, .int 0, .int 0, .int 0, .int 0, .int 0, .int 0, .int 0, .int 0, .int 0, .int 0, .null, .null]))] sz) := by
  refine Met.ofW (cc := cX4_init) (maxL := 1) (ret := none) (by decide +kernel) rfl ?_
  intro p e s m args below meth c s₁ B hml hv
  obtain ⟨rfl, hsz, hP, hK, hD0, hZ, hN⟩ := hv
  have hx := B.exec
  have hb := B.bytes
  have hr := B.returns
  have hts := atoms_spec (ws := wsX4_init) B.pre
  have hown : s.vm.findClass RX4 = some m.cls := findClass_of_methodNamed B.named
  have hlocks := B.notSynchronized
  have hin : meth.name = "<init>" := (name_of_methodNamed B.named B.method).1
  have hiX4 : ∀ w ∈ u_ws RX4 TX4 15, w ∈ wsX4_init := by decide +kernel
  subst hsz
  have hD := hD0.self (sz := s.heap.size)
  generalize hAe : va_A [(m0, .inr (3, [.int 0, .int 0, .int 0, .int 0, .int 0, .int 0, .int 0, .int 0, .int 0, .int 0, .int 0, .int 0, .int 0, .null, .null]))] s.heap.size = A at hD hZ ⊢
  have hA : ∀ q : Nat, s.heap.size ≤ q → A q := fun q h => by rw [← hAe]; exact Or.inr h
  have hl := lv_entry ([.ref m0]) (n := 1) (Nat.le_of_ble_eq_true rfl)
  rw [lg_entry_eq]
  generalize (lg_sl ([.ref m0]) ++ List.replicate (1 - (lg_sl ([.ref m0])).length) Slot.unset).toArray = ls at hl ⊢
  have hl : lv_has ls 1 [(0, .ref m0)] := hl
  generalize hHe : s.heap = H at hP ⊢
  have hS : va_S A s.heap H [] := by rw [hHe]; exact va_S.rf
  generalize ([] : List Loc) = locs at hS ⊢
  refine lv_aload_n hx hb dX4_init_0 rfl (lv_at hl 0 rfl) ?_
  refine W.objInit hx hb hown (hts (.methodLink RX4 1 objectInit) (List.mem_of_getElem? (l := wsX4_init) (i := 1) rfl)) (hts (.instanceMethod objectInit) (List.mem_of_getElem? (l := wsX4_init) (i := 2) rfl)) (hts (.code objectInit ⟨#[0xb1]⟩ 1 none) (List.mem_of_getElem? (l := wsX4_init) (i := 3) rfl)) rfl (by rw [hml]; exact hl.1) rfl dX4_init_1 (Nat.le_of_ble_eq_true rfl) (Nat.le_of_ble_eq_true rfl) ?_
  refine W.eq (g2 := F0 m 4 ls []) rfl ?_
  refine lv_aload_n hx hb dX4_init_4 rfl (lv_at hl 0 rfl) ?_
  refine lv_ldc (v := 40000) hx hb hown (hts (.constant RX4 9 (40000)) (List.mem_of_getElem? (l := wsX4_init) (i := 4) rfl)) dX4_init_5 ?_
  refine va_newa (atype := .byte) (ty := .byte) (n := 40000) (N' := 40000) (a0 := (40000, .inl (fun _ => 0))) hx hb (hts (.arrayClass .byte) (List.mem_of_getElem? (l := wsX4_init) (i := 5) rfl)) rfl hK hP hD hS hA (fun _ => rfl) (by decide) (by decide) (by decide) (Nat.le_of_ble_eq_true rfl) (Nat.le_of_ble_eq_true rfl) dX4_init_7 (fun qa_1 cA9 H hK9 hP hD hS => ?_)
  obtain rfl : cB = cA9 := ct_cB hK9 1 2 rfl rfl
  have hP : va_P (dC, dI) vwCl [(m0, .inr (3, [.int 0, .int 0, .int 0, .int 0, .int 0, .int 0, .int 0, .int 0, .int 0, .int 0, .int 0, .int 0, .int 0, .null, .null])), (qa_1, .inl (cB, 40000, .inl (fun _ => 0)))] H := hP
  have hD : va_D A [(m0, .inr (3, [.int 0, .int 0, .int 0, .int 0, .int 0, .int 0, .int 0, .int 0, .int 0, .int 0, .int 0, .int 0, .int 0, .null, .null])), (qa_1, .inl (cB, 40000, .inl (fun _ => 0)))] := hD
  refine va_putF (D := (dC, dI)) (ci := 3) (v := .ref qa_1) (ty := (.array .byte)) (C := RX4) (T := TX4) (N := 15) hx hb hts hiX4 tyX4 tyX4_ok nmX4 hown hK hP hD hS 0 rfl rfl 13 (by decide) (hts (.fieldLink RX4 10 "TickWalksModel" "way" "[B") (List.mem_of_getElem? (l := wsX4_init) (i := 6) rfl)) (fun _ h9 => h9) rfl hin rfl (by decide +kernel) rfl rfl (Nat.le_of_ble_eq_true rfl) dX4_init_9 (fun H locs hP hD hS => ?_)
  have hP : va_P (dC, dI) vwCl [(m0, .inr (3, [.int 0, .int 0, .int 0, .int 0, .int 0, .int 0, .int 0, .int 0, .int 0, .int 0, .int 0, .int 0, .int 0, .ref qa_1, .null])), (qa_1, .inl (cB, 40000, .inl (fun _ => 0)))] H := hP
  have hD : va_D A [(m0, .inr (3, [.int 0, .int 0, .int 0, .int 0, .int 0, .int 0, .int 0, .int 0, .int 0, .int 0, .int 0, .int 0, .int 0, .ref qa_1, .null])), (qa_1, .inl (cB, 40000, .inl (fun _ => 0)))] := hD
  refine lv_aload_n hx hb dX4_init_12 rfl (lv_at hl 0 rfl) ?_
  refine lv_ldc (v := 40000) hx hb hown (hts (.constant RX4 9 (40000)) (List.mem_of_getElem? (l := wsX4_init) (i := 4) rfl)) dX4_init_13 ?_
  refine va_newa (atype := .byte) (ty := .byte) (n := 40000) (N' := 40000) (a0 := (40000, .inl (fun _ => 0))) hx hb (hts (.arrayClass .byte) (List.mem_of_getElem? (l := wsX4_init) (i := 5) rfl)) rfl hK hP hD hS hA (fun _ => rfl) (by decide) (by decide) (by decide) (Nat.le_of_ble_eq_true rfl) (Nat.le_of_ble_eq_true rfl) dX4_init_15 (fun qa_2 cA9 H hK9 hP hD hS => ?_)
  obtain rfl : cB = cA9 := ct_cB hK9 1 2 rfl rfl
  have hP : va_P (dC, dI) vwCl [(m0, .inr (3, [.int 0, .int 0, .int 0, .int 0, .int 0, .int 0, .int 0, .int 0, .int 0, .int 0, .int 0, .int 0, .int 0, .ref qa_1, .null])), (qa_1, .inl (cB, 40000, .inl (fun _ => 0))), (qa_2, .inl (cB, 40000, .inl (fun _ => 0)))] H := hP
  have hD : va_D A [(m0, .inr (3, [.int 0, .int 0, .int 0, .int 0, .int 0, .int 0, .int 0, .int 0, .int 0, .int 0, .int 0, .int 0, .int 0, .ref qa_1, .null])), (qa_1, .inl (cB, 40000, .inl (fun _ => 0))), (qa_2, .inl (cB, 40000, .inl (fun _ => 0)))] := hD
  refine va_putF (D := (dC, dI)) (ci := 3) (v := .ref qa_2) (ty := (.array .byte)) (C := RX4) (T := TX4) (N := 15) hx hb hts hiX4 tyX4 tyX4_ok nmX4 hown hK hP hD hS 0 rfl rfl 14 (by decide) (hts (.fieldLink RX4 14 "TickWalksModel" "tried" "[B") (List.mem_of_getElem? (l := wsX4_init) (i := 7) rfl)) (fun _ h9 => h9) rfl hin rfl (by decide +kernel) rfl rfl (Nat.le_of_ble_eq_true rfl) dX4_init_17 (fun H locs hP hD hS => ?_)
  have hP : va_P (dC, dI) vwCl [(m0, .inr (3, [.int 0, .int 0, .int 0, .int 0, .int 0, .int 0, .int 0, .int 0, .int 0, .int 0, .int 0, .int 0, .int 0, .ref qa_1, .ref qa_2])), (qa_1, .inl (cB, 40000, .inl (fun _ => 0))), (qa_2, .inl (cB, 40000, .inl (fun _ => 0)))] H := hP
  have hD : va_D A [(m0, .inr (3, [.int 0, .int 0, .int 0, .int 0, .int 0, .int 0, .int 0, .int 0, .int 0, .int 0, .int 0, .int 0, .int 0, .ref qa_1, .ref qa_2])), (qa_1, .inl (cB, 40000, .inl (fun _ => 0))), (qa_2, .inl (cB, 40000, .inl (fun _ => 0)))] := hD
  have hP9 := hP.sub (ws' := [(m0, .inr (3, [.int 0, .int 0, .int 0, .int 0, .int 0, .int 0, .int 0, .int 0, .int 0, .int 0, .int 0, .int 0, .int 0, .ref qa_1, .ref qa_2])), (qa_1, .inl (cB, 40000, .inl (fun _ => 0))), (qa_2, .inl (cB, 40000, .inl (fun _ => 0)))]) [0, 1, 2] rfl
  have hD9 := hD.sub (ws' := [(m0, .inr (3, [.int 0, .int 0, .int 0, .int 0, .int 0, .int 0, .int 0, .int 0, .int 0, .int 0, .int 0, .int 0, .int 0, .ref qa_1, .ref qa_2])), (qa_1, .inl (cB, 40000, .inl (fun _ => 0))), (qa_2, .inl (cB, 40000, .inl (fun _ => 0)))]) [0, 1, 2] (by decide) rfl
  refine W.widen (k := 2) (n := 80000) (by omega) (by omega) ?_
  exact W.vret hx hb hr (fun t9 ht9 hW9 => ⟨⟨(qa_1, qa_2), rfl, trivial, by rw [ht9]; exact hP9, hD9⟩, hS.F ht9⟩) hS.2.2 dX4_init_20
