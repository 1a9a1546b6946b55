theorem wk_M0 {lf : Int32} {sq : Int64} {cx cy : Int32} {fx fy : Int32} {mx my : Nat → Int32} (h : mx 0 = fx ∧ my 0 = fy) : ob_M lf sq cx cy (fx, fy) mx my (1 - 1) := by
  intro r hr
  have h0 : r = 0 := by omega
  subst h0
  exact h
theorem wk_end {i : Nat} (h : i ≤ 40001) (h2 : (40000 : Int32) < nI i) : i = 40001 := by
  have h3 : nI 40000 < nI i := h2
  rw [nI_ltI (by omega) (by omega)] at h3
  omega
set_option maxHeartbeats 4000000 in
set_option maxRecDepth 100000 in
/-- Arc.walk -/
theorem ar_walk (l : Launch) (dC : Nat → ClassId) (dI : Nat → Nat → Nat) (cA cB : ClassId) (sz : Nat) (h0 : Nat) (qx : Nat) (qy : Nat) (ht : Int32) (cx : Int32) (cy : Int32) (lf : Int32) (sq : Int64) (ln : Int32) (of : Int32) (sr : Int32) (fx : Int32) (fy : Int32) (mx : Nat → Int32) (my : Nat → Int32) (ex : Int32) (ey : Int32) (hm : mx 0 = fx ∧ my 0 = fy) (hof : of = 0) (hsr : sr = 0) : Met l yX0_walk wsX0_walk ({ frames := 4, cells := 0, slots := 0, locals := 90 }) (va_Pc [.ref h0, .int ex, .int ey] (ct_P dC dI cA cB sz [(h0, .inr (0, [.ref qx, .ref qy, .int ht, .int cx, .int cy, .int lf, .long sq, .int ln, .int of, .int sr, .int fx, .int fy])), (qx, .inl (cA, 401, .inl mx)), (qy, .inl (cA, 401, .inl my))])) (va_Qi (fun (r : Int32) (u : (Nat → Int32) × (Nat → Int32) × Int32 × Int32 × Int32 × Int32 × Int32) => wk_P lf sq cx cy (fx, fy) (ex, ey) r u.1 u.2.1 u.2.2.1 u.2.2.2.1 u.2.2.2.2.1) (fun (u : (Nat → Int32) × (Nat → Int32) × Int32 × Int32 × Int32 × Int32 × Int32) => ct_B dC dI (va_A [(h0, .inr (0, [.ref qx, .ref qy, .int ht, .int cx, .int cy, .int lf, .long sq, .int ln, .int of, .int sr, .int fx, .int fy])), (qx, .inl (cA, 401, .inl mx)), (qy, .inl (cA, 401, .inl my))] sz) [(h0, .inr (0, [.ref qx, .ref qy, .int ht, .int cx, .int cy, .int lf, .long sq, .int u.2.2.1, .int u.2.2.2.1, .int u.2.2.2.2.1, .int u.2.2.2.2.2.1, .int u.2.2.2.2.2.2])), (qx, .inl (cA, 401, .inl u.1)), (qy, .inl (cA, 401, .inl u.2.1))]) (va_A [(h0, .inr (0, [.ref qx, .ref qy, .int ht, .int cx, .int cy, .int lf, .long sq, .int ln, .int of, .int sr, .int fx, .int fy])), (qx, .inl (cA, 401, .inl mx)), (qy, .inl (cA, 401, .inl my))] sz)) 0 0 (va_A [(h0, .inr (0, [.ref qx, .ref qy, .int ht, .int cx, .int cy, .int lf, .long sq, .int ln, .int of, .int sr, .int fx, .int fy])), (qx, .inl (cA, 401, .inl mx)), (qy, .inl (cA, 401, .inl my))] sz) := by
  refine Met.ofW (cc := cX0_walk) (maxL := 6) (ret := (some .boolean)) (by decide +kernel) rfl ?_
  intro p e s m args below meth c s₁ B hml hv
  obtain ⟨rfl, hsz, hP, hK, hD0, hZ, hN⟩ := hv
  have hx := B.exec
  have hb := B.bytes
  have hr := B.returns
  have hts := atoms_spec (ws := wsX0_walk) B.pre
  have hown : s.vm.findClass RX0 = some m.cls := findClass_of_methodNamed B.named
  have hlocks := B.notSynchronized
  have hiX0 : ∀ w ∈ u_ws RX0 TX0 12, w ∈ wsX0_walk := by decide +kernel
  subst hsz
  have hD := hD0.self (sz := s.heap.size)
  generalize hAe : va_A [(h0, .inr (0, [.ref qx, .ref qy, .int ht, .int cx, .int cy, .int lf, .long sq, .int ln, .int of, .int sr, .int fx, .int fy])), (qx, .inl (cA, 401, .inl mx)), (qy, .inl (cA, 401, .inl my))] s.heap.size = A at hD hZ ⊢
  have hA : ∀ q : Nat, s.heap.size ≤ q → A q := fun q h => by rw [← hAe]; exact Or.inr h
  have hl := lv_entry ([.ref h0, .int ex, .int ey]) (n := 6) (Nat.le_of_ble_eq_true rfl)
  rw [lg_entry_eq]
  generalize (lg_sl ([.ref h0, .int ex, .int ey]) ++ List.replicate (6 - (lg_sl ([.ref h0, .int ex, .int ey])).length) Slot.unset).toArray = ls at hl ⊢
  have hl : lv_has ls 6 [(0, .ref h0), (1, .int ex), (2, .int ey)] := hl
  generalize hHe : s.heap = H at hP ⊢
  have hS : va_S A s.heap H [] := by rw [hHe]; exact va_S.rf
  generalize ([] : List Loc) = locs at hS ⊢
  refine lv_aload_n hx hb dX0_walk_0 rfl (lv_at hl 0 rfl) ?_
  refine va_get (D := (dC, dI)) (ci := 0) (v := .long sq) (C := RX0) (T := TX0) (N := 12) hx hb hts hiX0 hown hK hP 0 rfl rfl 6 (by decide) (hts (.fieldLink RX0 32 "TickWalks$Arc" "square" "J") (List.mem_of_getElem? (l := wsX0_walk) (i := 1) rfl)) (fun _ h9 => h9) rfl dX0_walk_1 ?_
  refine lv_lconst (v := 1) hx hb dX0_walk_4 (by decide) ?_
  refine W.lcmp hx hb dX0_walk_5 ?_
  refine lv_if_lt (tgt := 20) hx hb dX0_walk_6 (by decide) (fun c_6 => ?_) (fun c_6 => ?_)
  · refine lv_iconst (v := 0) hx hb dX0_walk_20 (by decide) ?_
    have hP9 := hP.sub (ws' := [(h0, .inr (0, [.ref qx, .ref qy, .int ht, .int cx, .int cy, .int lf, .long sq, .int ln, .int of, .int sr, .int fx, .int fy])), (qx, .inl (cA, 401, .inl mx)), (qy, .inl (cA, 401, .inl my))]) [0, 1, 2] rfl
    have hD9 := hD.sub (ws' := [(h0, .inr (0, [.ref qx, .ref qy, .int ht, .int cx, .int cy, .int lf, .long sq, .int ln, .int of, .int sr, .int fx, .int fy])), (qx, .inl (cA, 401, .inl mx)), (qy, .inl (cA, 401, .inl my))]) [0, 1, 2] (by decide) rfl
    exact W.zret (v := 0) hx hb hr rfl (fun t9 ht9 hW9 => ⟨⟨0, (mx, my, ln, of, sr, fx, fy), rfl, Or.inr ⟨rfl, Or.inl (fun h => absurd h.1 (Int64.not_le.mpr ((lg_cmp_lt _ _).mp c_6)))⟩, by rw [ht9]; exact hP9, hD9⟩, hS.F ht9⟩) hS.2.2 dX0_walk_21
  · refine lv_aload_n hx hb dX0_walk_9 rfl (lv_at hl 0 rfl) ?_
    refine va_get (D := (dC, dI)) (ci := 0) (v := .long sq) (C := RX0) (T := TX0) (N := 12) hx hb hts hiX0 hown hK hP 0 rfl rfl 6 (by decide) (hts (.fieldLink RX0 32 "TickWalks$Arc" "square" "J") (List.mem_of_getElem? (l := wsX0_walk) (i := 1) rfl)) (fun _ h9 => h9) rfl dX0_walk_10 ?_
    refine lv_ldc2 (v := 25000000) hx hb hown (hts (.constantLong RX0 59 (25000000)) (List.mem_of_getElem? (l := wsX0_walk) (i := 2) rfl)) dX0_walk_13 ?_
    refine W.lcmp hx hb dX0_walk_16 ?_
    refine lv_if_le (tgt := 22) hx hb dX0_walk_17 (by decide) (fun c_17 => ?_) (fun c_17 => ?_)
    · refine lv_iconst (v := 1) hx hb dX0_walk_22 (by decide) ?_
      refine lv_istore_n (lv' := [(3, .int 1), (0, .ref h0), (1, .int ex), (2, .int ey)]) hx hb dX0_walk_23 rfl hl (by decide) rfl (fun ls hl => ?_)
      have hsq : 1 ≤ sq ∧ sq ≤ 25000000 := ⟨Int64.not_lt.mp (fun h => c_6 ((lg_cmp_lt _ _).mpr h)), (lg_cmp_le _ _).mp c_17⟩
      refine ct_loop (σ := Nat × (Nat → Int32) × (Nat → Int32) × Int32 × Int32 × Int32 × Int32) (fun n9 w9 H locs ls => n9 = 40001 - w9.1 ∧ (1 ≤ w9.1 ∧ w9.1 ≤ 40001) ∧ ((w9.2.2.2.2.2.1, w9.2.2.2.2.2.2) = ob_p lf sq cx cy (fx, fy) (w9.1 - 1)) ∧ (ob_M lf sq cx cy (fx, fy) w9.2.1 w9.2.2.1 (w9.1 - 1)) ∧ (w9.2.2.2.1 = ob_o lf sq cx cy (fx, fy) (w9.1 - 1)) ∧ (w9.2.2.2.2.1 = 0) ∧ (∀ j, 1 ≤ j → j ≤ w9.1 - 1 → ob_p lf sq cx cy (fx, fy) j ≠ (ex, ey)) ∧ (∀ j, j < w9.1 - 1 → ¬ ob_d lf sq cx cy (ob_p lf sq cx cy (fx, fy) j) < 0) ∧ va_P (dC, dI) vwCl [(h0, .inr (0, [.ref qx, .ref qy, .int ht, .int cx, .int cy, .int lf, .long sq, .int ln, .int w9.2.2.2.1, .int w9.2.2.2.2.1, .int w9.2.2.2.2.2.1, .int w9.2.2.2.2.2.2])), (qx, .inl (cA, 401, .inl w9.2.1)), (qy, .inl (cA, 401, .inl w9.2.2.1))] H ∧ va_D A [(h0, .inr (0, [.ref qx, .ref qy, .int ht, .int cx, .int cy, .int lf, .long sq, .int ln, .int w9.2.2.2.1, .int w9.2.2.2.2.1, .int w9.2.2.2.2.2.1, .int w9.2.2.2.2.2.2])), (qx, .inl (cA, 401, .inl w9.2.1)), (qy, .inl (cA, 401, .inl w9.2.2.1))] ∧ va_S A s.heap H locs ∧ lv_has ls 6 [(3, .int (nI w9.1)), (0, .ref h0), (1, .int ex), (2, .int ey)]) (fun n9 w9 H locs ls hJ ih_24 => ?_) (40001 - 1) (1, mx, my, of, sr, fx, fy) _ _ _ ⟨rfl, (⟨Nat.le_refl 1, by omega⟩), rfl, (wk_M0 hm), hof, hsr, (fun j h1 h2 => absurd h1 (by omega)), (fun j h1 => absurd h1 (by omega)), (hP.sub [0, 1, 2] rfl), (hD.sub [0, 1, 2] (by decide) rfl), hS, (lv_sub hl [0, 1, 2, 3] rfl)⟩
      obtain ⟨i, bx, bz, bo, bs, wx, wy⟩ := w9
      obtain ⟨hn_24, hi, hO, hM, hbo, hbs, hT, hd, hP, hD, hS, hl⟩ := hJ
      have hn_24 : n9 = 40001 - i := hn_24
      have hi : 1 ≤ i ∧ i ≤ 40001 := hi
      have hO : (wx, wy) = ob_p lf sq cx cy (fx, fy) (i - 1) := hO
      have hM : ob_M lf sq cx cy (fx, fy) bx bz (i - 1) := hM
      have hbo : bo = ob_o lf sq cx cy (fx, fy) (i - 1) := hbo
      have hbs : bs = 0 := hbs
      have hT : ∀ j, 1 ≤ j → j ≤ i - 1 → ob_p lf sq cx cy (fx, fy) j ≠ (ex, ey) := hT
      have hd : ∀ j, j < i - 1 → ¬ ob_d lf sq cx cy (ob_p lf sq cx cy (fx, fy) j) < 0 := hd
      have hP : va_P (dC, dI) vwCl [(h0, .inr (0, [.ref qx, .ref qy, .int ht, .int cx, .int cy, .int lf, .long sq, .int ln, .int bo, .int bs, .int wx, .int wy])), (qx, .inl (cA, 401, .inl bx)), (qy, .inl (cA, 401, .inl bz))] H := hP
      have hD : va_D A [(h0, .inr (0, [.ref qx, .ref qy, .int ht, .int cx, .int cy, .int lf, .long sq, .int ln, .int bo, .int bs, .int wx, .int wy])), (qx, .inl (cA, 401, .inl bx)), (qy, .inl (cA, 401, .inl bz))] := hD
      have hl : lv_has ls 6 [(3, .int (nI i)), (0, .ref h0), (1, .int ex), (2, .int ey)] := hl
      refine lv_iload_n hx hb dX0_walk_24 rfl (lv_at hl 0 rfl) ?_
      refine lv_ldc (v := 40000) hx hb hown (hts (.constant RX0 61 (40000)) (List.mem_of_getElem? (l := wsX0_walk) (i := 3) rfl)) dX0_walk_25 ?_
      refine lv_icmp_gt (tgt := 131) hx hb dX0_walk_27 (by decide) (fun c_27 => ?_) (fun c_27 => ?_)
      · refine lv_iconst (v := 0) hx hb dX0_walk_131 (by decide) ?_
        have hP9 := hP.sub (ws' := [(h0, .inr (0, [.ref qx, .ref qy, .int ht, .int cx, .int cy, .int lf, .long sq, .int ln, .int bo, .int bs, .int wx, .int wy])), (qx, .inl (cA, 401, .inl bx)), (qy, .inl (cA, 401, .inl bz))]) [0, 1, 2] rfl
        have hD9 := hD.sub (ws' := [(h0, .inr (0, [.ref qx, .ref qy, .int ht, .int cx, .int cy, .int lf, .long sq, .int ln, .int bo, .int bs, .int wx, .int wy])), (qx, .inl (cA, 401, .inl bx)), (qy, .inl (cA, 401, .inl bz))]) [0, 1, 2] (by decide) rfl
        exact W.zret (v := 0) hx hb hr rfl (fun t9 ht9 hW9 => ⟨⟨0, (bx, bz, ln, bo, bs, wx, wy), rfl, Or.inr ⟨rfl, Or.inr (ob_no_e (fun j h1 h2 => hT j h1 (by have := wk_end hi.2 c_27; omega)))⟩, by rw [ht9]; exact hP9, hD9⟩, hS.F ht9⟩) hS.2.2 dX0_walk_132
      · have hi2 : i ≤ 40000 := by
          rcases Nat.lt_or_ge 40000 i with h | h
          · exact absurd (show (40000 : Int32) < nI i from nI_lt (a := 40000) h (by omega)) c_27
          · exact h
        refine lv_aload_n hx hb dX0_walk_30 rfl (lv_at hl 1 rfl) ?_
        refine va_get (D := (dC, dI)) (ci := 0) (v := .int wx) (C := RX0) (T := TX0) (N := 12) hx hb hts hiX0 hown hK hP 0 rfl rfl 10 (by decide) (hts (.fieldLink RX0 45 "TickWalks$Arc" "footX" "I") (List.mem_of_getElem? (l := wsX0_walk) (i := 4) rfl)) (fun _ h9 => h9) rfl dX0_walk_31 ?_
        refine lv_istore (lv' := [(4, .int wx), (3, .int (nI i)), (0, .ref h0), (1, .int ex), (2, .int ey)]) hx hb dX0_walk_34 hl (by decide) rfl (fun ls hl => ?_)
        refine lv_aload_n hx hb dX0_walk_36 rfl (lv_at hl 2 rfl) ?_
        refine va_get (D := (dC, dI)) (ci := 0) (v := .int wy) (C := RX0) (T := TX0) (N := 12) hx hb hts hiX0 hown hK hP 0 rfl rfl 11 (by decide) (hts (.fieldLink RX0 48 "TickWalks$Arc" "footY" "I") (List.mem_of_getElem? (l := wsX0_walk) (i := 5) rfl)) (fun _ h9 => h9) rfl dX0_walk_37 ?_
        refine lv_istore (lv' := [(5, .int wy), (4, .int wx), (3, .int (nI i)), (0, .ref h0), (1, .int ex), (2, .int ey)]) hx hb dX0_walk_40 hl (by decide) rfl (fun ls hl => ?_)
        refine lv_aload_n hx hb dX0_walk_42 rfl (lv_at hl 3 rfl) ?_
        refine ct_calli (va_runV (As := []) (rest := []) ⟨hx, hb, hml, hown, hts⟩ (ar_step l dC dI cA cB H.size h0 qx qy ht cx cy lf sq ln bo bs wx wy ) (cwV 0 hts gX0_walk_X0_step rfl rfl rfl (by decide +kernel) ⟨Nat.le_of_ble_eq_true rfl, Nat.le_of_ble_eq_true rfl⟩) ⟨ct_blind, va_recv hK hP (ci := 0) (q0 := 0) rfl rfl, ct_pre hP hD hK hZ hN hS hA [0] rfl (by decide)⟩ rfl rfl hl.1 rfl (lv_room (Nat.le_of_ble_eq_true rfl)) dX0_walk_43 ⟨Nat.le_of_ble_eq_true rfl, Nat.le_of_ble_eq_true rfl⟩) hP hD hS hA [0] [1, 2] rfl (wr := [(qx, .inl (cA, 401, .inl bx)), (qy, .inl (cA, 401, .inl bz))]) rfl (by decide) (by decide) (fun r_1 u9 H locs hw_1 hP hD hS => ?_)
        obtain ⟨gx_1, gy_1⟩ := u9
        have hw_1 : sp_P lf sq wx cx wy cy r_1 gx_1 gy_1 := hw_1
        have hP : va_P (dC, dI) vwCl [(qx, .inl (cA, 401, .inl bx)), (qy, .inl (cA, 401, .inl bz)), (h0, .inr (0, [.ref qx, .ref qy, .int ht, .int cx, .int cy, .int lf, .long sq, .int ln, .int bo, .int bs, .int gx_1, .int gy_1]))] H := hP
        have hD : va_D A [(qx, .inl (cA, 401, .inl bx)), (qy, .inl (cA, 401, .inl bz)), (h0, .inr (0, [.ref qx, .ref qy, .int ht, .int cx, .int cy, .int lf, .long sq, .int ln, .int bo, .int bs, .int gx_1, .int gy_1]))] := hD
        obtain ⟨hq1, hq2⟩ := sp_ob hw_1
        have hO1 : (gx_1, gy_1) = ob_p lf sq cx cy (fx, fy) (i - 1 + 1) := by rw [ob_p, ← hO]; exact hq1
        refine lv_if_ne (tgt := 51) hx hb dX0_walk_46 (by decide) (fun c_46 => ?_) (fun c_46 => ?_)
        · obtain ⟨hr1, hnd, j, hj, hdj, egx, egy⟩ := hq2.resolve_left (fun h => c_46 h.1)
          have hga : ga_m (gx_1 - wx) (gy_1 - wy) 0 = 1 := by rw [egx, egy]; exact sp_ga hj
          refine lv_aload_n hx hb dX0_walk_51 rfl (lv_at hl 3 rfl) ?_
          refine lv_iload_n hx hb dX0_walk_52 rfl (lv_at hl 2 rfl) ?_
          refine ct_callv (va_runV (As := [.int (nI i)]) (rest := []) ⟨hx, hb, hml, hown, hts⟩ (ar_mark l dC dI cA cB H.size h0 qx qy ht cx cy lf sq ln bo bs gx_1 gy_1 bx bz i (by omega)) (cwV 1 hts gX0_walk_X0_mark rfl rfl rfl (by decide +kernel) ⟨Nat.le_of_ble_eq_true rfl, Nat.le_of_ble_eq_true rfl⟩) ⟨ct_blind, va_recv hK hP (ci := 0) (q0 := 2) rfl rfl, ct_pre hP hD hK hZ hN hS hA [2, 0, 1] rfl (by decide)⟩ rfl rfl hl.1 rfl (lv_room (Nat.le_of_ble_eq_true rfl)) dX0_walk_53 ⟨Nat.le_of_ble_eq_true rfl, Nat.le_of_ble_eq_true rfl⟩) hP hD hS hA [2, 0, 1] [] rfl (wr := []) rfl (by decide) (by decide) (fun u9 H locs hw_2 hP hD hS => ?_)
          obtain ⟨nx_2, ny_2⟩ := u9
          have hw_2 : nx_2 = mk_u bx i gx_1 ∧ ny_2 = mk_u bz i gy_1 := hw_2
          have hP : va_P (dC, dI) vwCl [(h0, .inr (0, [.ref qx, .ref qy, .int ht, .int cx, .int cy, .int lf, .long sq, .int ln, .int bo, .int bs, .int gx_1, .int gy_1])), (qx, .inl (cA, 401, .inl nx_2)), (qy, .inl (cA, 401, .inl ny_2))] H := hP
          have hD : va_D A [(h0, .inr (0, [.ref qx, .ref qy, .int ht, .int cx, .int cy, .int lf, .long sq, .int ln, .int bo, .int bs, .int gx_1, .int gy_1])), (qx, .inl (cA, 401, .inl nx_2)), (qy, .inl (cA, 401, .inl ny_2))] := hD
          refine lv_aload_n hx hb dX0_walk_56 rfl (lv_at hl 3 rfl) ?_
          refine lv_aload_n hx hb dX0_walk_57 rfl (lv_at hl 3 rfl) ?_
          refine va_get (D := (dC, dI)) (ci := 0) (v := .int gx_1) (C := RX0) (T := TX0) (N := 12) hx hb hts hiX0 hown hK hP 0 rfl rfl 10 (by decide) (hts (.fieldLink RX0 45 "TickWalks$Arc" "footX" "I") (List.mem_of_getElem? (l := wsX0_walk) (i := 4) rfl)) (fun _ h9 => h9) rfl dX0_walk_58 ?_
          refine lv_iload hx hb dX0_walk_61 (lv_at hl 1 rfl) ?_
          refine lv_isub hx hb dX0_walk_63 ?_
          refine lv_aload_n hx hb dX0_walk_64 rfl (lv_at hl 3 rfl) ?_
          refine va_get (D := (dC, dI)) (ci := 0) (v := .int gy_1) (C := RX0) (T := TX0) (N := 12) hx hb hts hiX0 hown hK hP 0 rfl rfl 11 (by decide) (hts (.fieldLink RX0 48 "TickWalks$Arc" "footY" "I") (List.mem_of_getElem? (l := wsX0_walk) (i := 5) rfl)) (fun _ h9 => h9) rfl dX0_walk_65 ?_
          refine lv_iload hx hb dX0_walk_68 (lv_at hl 0 rfl) ?_
          refine lv_isub hx hb dX0_walk_70 ?_
          refine ct_callv (va_runV (As := [.int (gx_1 - wx), .int (gy_1 - wy)]) (rest := []) ⟨hx, hb, hml, hown, hts⟩ (ar_measure l dC dI cA cB H.size h0 qx qy ht cx cy lf sq ln bo bs gx_1 gy_1 (gx_1 - wx) (gy_1 - wy) ) (cwV 2 hts gX0_walk_X0_measure rfl rfl rfl (by decide +kernel) ⟨Nat.le_of_ble_eq_true rfl, Nat.le_of_ble_eq_true rfl⟩) ⟨ct_blind, va_recv hK hP (ci := 0) (q0 := 0) rfl rfl, ct_pre hP hD hK hZ hN hS hA [0] rfl (by decide)⟩ rfl rfl hl.1 rfl (lv_room (Nat.le_of_ble_eq_true rfl)) dX0_walk_71 ⟨Nat.le_of_ble_eq_true rfl, Nat.le_of_ble_eq_true rfl⟩) hP hD hS hA [0] [1, 2] rfl (wr := [(qx, .inl (cA, 401, .inl nx_2)), (qy, .inl (cA, 401, .inl ny_2))]) rfl (by decide) (by decide) (fun u9 H locs hw_3 hP hD hS => ?_)
          obtain ⟨no_3, ns_3⟩ := u9
          have hw_3 : no_3 = mx_i bo (ab_l (sq_c gx_1 cx gy_1 cy - sq)).toInt32 ∧ ((ga_m (gx_1 - wx) (gy_1 - wy) 0 = 1 ∧ ns_3 = bs) ∨ (¬ ga_m (gx_1 - wx) (gy_1 - wy) 0 = 1 ∧ ns_3 = bs + 1)) := hw_3
          have hP : va_P (dC, dI) vwCl [(qx, .inl (cA, 401, .inl nx_2)), (qy, .inl (cA, 401, .inl ny_2)), (h0, .inr (0, [.ref qx, .ref qy, .int ht, .int cx, .int cy, .int lf, .long sq, .int ln, .int no_3, .int ns_3, .int gx_1, .int gy_1]))] H := hP
          have hD : va_D A [(qx, .inl (cA, 401, .inl nx_2)), (qy, .inl (cA, 401, .inl ny_2)), (h0, .inr (0, [.ref qx, .ref qy, .int ht, .int cx, .int cy, .int lf, .long sq, .int ln, .int no_3, .int ns_3, .int gx_1, .int gy_1]))] := hD
          have hM2 : ob_M lf sq cx cy (fx, fy) nx_2 ny_2 (i - 1 + 1) := by rw [hw_2.1, hw_2.2, show i = i - 1 + 1 by omega]; exact ob_M_mk hM hO1
          have ho2 : no_3 = ob_o lf sq cx cy (fx, fy) (i - 1 + 1) := by rw [hw_3.1, hbo, ob_o, ← hO1]
          have hs2 : ns_3 = 0 := by
            rcases hw_3.2 with h | h
            · exact h.2.trans hbs
            · exact absurd hga h.1
          have hd2 : ∀ j, j < i - 1 + 1 → ¬ ob_d lf sq cx cy (ob_p lf sq cx cy (fx, fy) j) < 0 := fun j h => by
            rcases Nat.lt_or_ge j (i - 1) with a | a
            · exact hd j a
            · rw [show j = i - 1 by omega, ← hO]; exact hnd
          rw [show i - 1 + 1 = i by omega] at hO1 hM2 ho2 hd2
          refine lv_aload_n hx hb dX0_walk_74 rfl (lv_at hl 3 rfl) ?_
          refine va_get (D := (dC, dI)) (ci := 0) (v := .int gx_1) (C := RX0) (T := TX0) (N := 12) hx hb hts hiX0 hown hK hP 2 rfl rfl 10 (by decide) (hts (.fieldLink RX0 45 "TickWalks$Arc" "footX" "I") (List.mem_of_getElem? (l := wsX0_walk) (i := 4) rfl)) (fun _ h9 => h9) rfl dX0_walk_75 ?_
          refine lv_iload_n hx hb dX0_walk_78 rfl (lv_at hl 4 rfl) ?_
          refine lv_icmp_ne (tgt := 97) hx hb dX0_walk_79 (by decide) (fun c_79 => ?_) (fun c_79 => ?_)
          · have hne : (gx_1, gy_1) ≠ (ex, ey) := fun h => c_79 (congrArg Prod.fst h)
            have hT2 : ∀ j, 1 ≤ j → j ≤ i → ob_p lf sq cx cy (fx, fy) j ≠ (ex, ey) := fun j h1 h2 => by
              rcases Nat.lt_or_ge (i - 1) j with a | a
              · rw [show j = i by omega, ← hO1]; exact hne
              · exact hT j h1 a
            refine lv_aload_n hx hb dX0_walk_97 rfl (lv_at hl 3 rfl) ?_
            refine va_get (D := (dC, dI)) (ci := 0) (v := .int gx_1) (C := RX0) (T := TX0) (N := 12) hx hb hts hiX0 hown hK hP 2 rfl rfl 10 (by decide) (hts (.fieldLink RX0 45 "TickWalks$Arc" "footX" "I") (List.mem_of_getElem? (l := wsX0_walk) (i := 4) rfl)) (fun _ h9 => h9) rfl dX0_walk_98 ?_
            refine lv_aload_n hx hb dX0_walk_101 rfl (lv_at hl 3 rfl) ?_
            refine va_get (D := (dC, dI)) (ci := 0) (v := .ref qx) (C := RX0) (T := TX0) (N := 12) hx hb hts hiX0 hown hK hP 2 rfl rfl 0 (by decide) (hts (.fieldLink RX0 9 "TickWalks$Arc" "markX" "[I") (List.mem_of_getElem? (l := wsX0_walk) (i := 7) rfl)) (fun _ h9 => h9) rfl dX0_walk_102 ?_
            refine lv_iconst (v := 0) hx hb dX0_walk_105 (by decide) ?_
            refine va_iald hx hb hK hP 0 0 rfl rfl (show vp_in 0 401 by unfold vp_in; decide) dX0_walk_106 ?_
            refine ct_topi (y := nx_2 0) (congrArg nx_2 (show Int32.toNatClampNeg 0 = 0 by decide)) ?_
            refine lv_icmp_ne (tgt := 125) hx hb dX0_walk_107 (by decide) (fun c_107 => ?_) (fun c_107 => ?_)
            · refine lv_iinc (v := nI (i + 1)) (lv' := [(3, .int (nI (i + 1))), (5, .int wy), (4, .int wx), (0, .ref h0), (1, .int ex), (2, .int ey)]) hx hb dX0_walk_125 hl (k := 2) rfl (nI_1 i) (by decide) rfl (fun ls hl => ?_)
              refine lv_goto (tgt := 24) hx hb dX0_walk_128 (by decide) ?_
              exact ih_24 _ ((i + 1), nx_2, ny_2, no_3, ns_3, gx_1, gy_1) _ _ _ (by rw [hn_24]; omega) ⟨rfl, (⟨by omega, by omega⟩), hO1, hM2, ho2, hs2, hT2, hd2, (hP.sub [2, 0, 1] rfl), (hD.sub [2, 0, 1] (by decide) rfl), hS, (lv_sub hl [0, 3, 4, 5] rfl)⟩
            · refine lv_aload_n hx hb dX0_walk_110 rfl (lv_at hl 3 rfl) ?_
              refine va_get (D := (dC, dI)) (ci := 0) (v := .int gy_1) (C := RX0) (T := TX0) (N := 12) hx hb hts hiX0 hown hK hP 2 rfl rfl 11 (by decide) (hts (.fieldLink RX0 48 "TickWalks$Arc" "footY" "I") (List.mem_of_getElem? (l := wsX0_walk) (i := 5) rfl)) (fun _ h9 => h9) rfl dX0_walk_111 ?_
              refine lv_aload_n hx hb dX0_walk_114 rfl (lv_at hl 3 rfl) ?_
              refine va_get (D := (dC, dI)) (ci := 0) (v := .ref qy) (C := RX0) (T := TX0) (N := 12) hx hb hts hiX0 hown hK hP 2 rfl rfl 1 (by decide) (hts (.fieldLink RX0 15 "TickWalks$Arc" "markY" "[I") (List.mem_of_getElem? (l := wsX0_walk) (i := 8) rfl)) (fun _ h9 => h9) rfl dX0_walk_115 ?_
              refine lv_iconst (v := 0) hx hb dX0_walk_118 (by decide) ?_
              refine va_iald hx hb hK hP 1 0 rfl rfl (show vp_in 0 401 by unfold vp_in; decide) dX0_walk_119 ?_
              refine ct_topi (y := ny_2 0) (congrArg ny_2 (show Int32.toNatClampNeg 0 = 0 by decide)) ?_
              refine lv_icmp_ne (tgt := 125) hx hb dX0_walk_120 (by decide) (fun c_120 => ?_) (fun c_120 => ?_)
              · refine lv_iinc (v := nI (i + 1)) (lv' := [(3, .int (nI (i + 1))), (5, .int wy), (4, .int wx), (0, .ref h0), (1, .int ex), (2, .int ey)]) hx hb dX0_walk_125 hl (k := 2) rfl (nI_1 i) (by decide) rfl (fun ls hl => ?_)
                refine lv_goto (tgt := 24) hx hb dX0_walk_128 (by decide) ?_
                exact ih_24 _ ((i + 1), nx_2, ny_2, no_3, ns_3, gx_1, gy_1) _ _ _ (by rw [hn_24]; omega) ⟨rfl, (⟨by omega, by omega⟩), hO1, hM2, ho2, hs2, hT2, hd2, (hP.sub [2, 0, 1] rfl), (hD.sub [2, 0, 1] (by decide) rfl), hS, (lv_sub hl [0, 3, 4, 5] rfl)⟩
              · refine lv_iconst (v := 0) hx hb dX0_walk_123 (by decide) ?_
                have hP9 := hP.sub (ws' := [(h0, .inr (0, [.ref qx, .ref qy, .int ht, .int cx, .int cy, .int lf, .long sq, .int ln, .int no_3, .int ns_3, .int gx_1, .int gy_1])), (qx, .inl (cA, 401, .inl nx_2)), (qy, .inl (cA, 401, .inl ny_2))]) [2, 0, 1] rfl
                have hD9 := hD.sub (ws' := [(h0, .inr (0, [.ref qx, .ref qy, .int ht, .int cx, .int cy, .int lf, .long sq, .int ln, .int no_3, .int ns_3, .int gx_1, .int gy_1])), (qx, .inl (cA, 401, .inl nx_2)), (qy, .inl (cA, 401, .inl ny_2))]) [2, 0, 1] (by decide) rfl
                exact W.zret (v := 0) hx hb hr rfl (fun t9 ht9 hW9 => ⟨⟨0, (nx_2, ny_2, ln, no_3, ns_3, gx_1, gy_1), rfl, Or.inr ⟨rfl, Or.inr (ob_no (j := i) (by omega) (by rw [← hO1, c_107, c_120]; exact Prod.ext (hM2 0 (Nat.zero_le _)).1 (hM2 0 (Nat.zero_le _)).2) hT2)⟩, by rw [ht9]; exact hP9, hD9⟩, hS.F ht9⟩) hS.2.2 dX0_walk_124
          · refine lv_aload_n hx hb dX0_walk_82 rfl (lv_at hl 3 rfl) ?_
            refine va_get (D := (dC, dI)) (ci := 0) (v := .int gy_1) (C := RX0) (T := TX0) (N := 12) hx hb hts hiX0 hown hK hP 2 rfl rfl 11 (by decide) (hts (.fieldLink RX0 48 "TickWalks$Arc" "footY" "I") (List.mem_of_getElem? (l := wsX0_walk) (i := 5) rfl)) (fun _ h9 => h9) rfl dX0_walk_83 ?_
            refine lv_iload_n hx hb dX0_walk_86 rfl (lv_at hl 5 rfl) ?_
            refine lv_icmp_ne (tgt := 97) hx hb dX0_walk_87 (by decide) (fun c_87 => ?_) (fun c_87 => ?_)
            · have hne : (gx_1, gy_1) ≠ (ex, ey) := fun h => c_87 (congrArg Prod.snd h)
              have hT2 : ∀ j, 1 ≤ j → j ≤ i → ob_p lf sq cx cy (fx, fy) j ≠ (ex, ey) := fun j h1 h2 => by
                rcases Nat.lt_or_ge (i - 1) j with a | a
                · rw [show j = i by omega, ← hO1]; exact hne
                · exact hT j h1 a
              refine lv_aload_n hx hb dX0_walk_97 rfl (lv_at hl 3 rfl) ?_
              refine va_get (D := (dC, dI)) (ci := 0) (v := .int gx_1) (C := RX0) (T := TX0) (N := 12) hx hb hts hiX0 hown hK hP 2 rfl rfl 10 (by decide) (hts (.fieldLink RX0 45 "TickWalks$Arc" "footX" "I") (List.mem_of_getElem? (l := wsX0_walk) (i := 4) rfl)) (fun _ h9 => h9) rfl dX0_walk_98 ?_
              refine lv_aload_n hx hb dX0_walk_101 rfl (lv_at hl 3 rfl) ?_
              refine va_get (D := (dC, dI)) (ci := 0) (v := .ref qx) (C := RX0) (T := TX0) (N := 12) hx hb hts hiX0 hown hK hP 2 rfl rfl 0 (by decide) (hts (.fieldLink RX0 9 "TickWalks$Arc" "markX" "[I") (List.mem_of_getElem? (l := wsX0_walk) (i := 7) rfl)) (fun _ h9 => h9) rfl dX0_walk_102 ?_
              refine lv_iconst (v := 0) hx hb dX0_walk_105 (by decide) ?_
              refine va_iald hx hb hK hP 0 0 rfl rfl (show vp_in 0 401 by unfold vp_in; decide) dX0_walk_106 ?_
              refine ct_topi (y := nx_2 0) (congrArg nx_2 (show Int32.toNatClampNeg 0 = 0 by decide)) ?_
              refine lv_icmp_ne (tgt := 125) hx hb dX0_walk_107 (by decide) (fun c_107 => ?_) (fun c_107 => ?_)
              · refine lv_iinc (v := nI (i + 1)) (lv' := [(3, .int (nI (i + 1))), (5, .int wy), (4, .int wx), (0, .ref h0), (1, .int ex), (2, .int ey)]) hx hb dX0_walk_125 hl (k := 2) rfl (nI_1 i) (by decide) rfl (fun ls hl => ?_)
                refine lv_goto (tgt := 24) hx hb dX0_walk_128 (by decide) ?_
                exact ih_24 _ ((i + 1), nx_2, ny_2, no_3, ns_3, gx_1, gy_1) _ _ _ (by rw [hn_24]; omega) ⟨rfl, (⟨by omega, by omega⟩), hO1, hM2, ho2, hs2, hT2, hd2, (hP.sub [2, 0, 1] rfl), (hD.sub [2, 0, 1] (by decide) rfl), hS, (lv_sub hl [0, 3, 4, 5] rfl)⟩
              · refine lv_aload_n hx hb dX0_walk_110 rfl (lv_at hl 3 rfl) ?_
                refine va_get (D := (dC, dI)) (ci := 0) (v := .int gy_1) (C := RX0) (T := TX0) (N := 12) hx hb hts hiX0 hown hK hP 2 rfl rfl 11 (by decide) (hts (.fieldLink RX0 48 "TickWalks$Arc" "footY" "I") (List.mem_of_getElem? (l := wsX0_walk) (i := 5) rfl)) (fun _ h9 => h9) rfl dX0_walk_111 ?_
                refine lv_aload_n hx hb dX0_walk_114 rfl (lv_at hl 3 rfl) ?_
                refine va_get (D := (dC, dI)) (ci := 0) (v := .ref qy) (C := RX0) (T := TX0) (N := 12) hx hb hts hiX0 hown hK hP 2 rfl rfl 1 (by decide) (hts (.fieldLink RX0 15 "TickWalks$Arc" "markY" "[I") (List.mem_of_getElem? (l := wsX0_walk) (i := 8) rfl)) (fun _ h9 => h9) rfl dX0_walk_115 ?_
                refine lv_iconst (v := 0) hx hb dX0_walk_118 (by decide) ?_
                refine va_iald hx hb hK hP 1 0 rfl rfl (show vp_in 0 401 by unfold vp_in; decide) dX0_walk_119 ?_
                refine ct_topi (y := ny_2 0) (congrArg ny_2 (show Int32.toNatClampNeg 0 = 0 by decide)) ?_
                refine lv_icmp_ne (tgt := 125) hx hb dX0_walk_120 (by decide) (fun c_120 => ?_) (fun c_120 => ?_)
                · refine lv_iinc (v := nI (i + 1)) (lv' := [(3, .int (nI (i + 1))), (5, .int wy), (4, .int wx), (0, .ref h0), (1, .int ex), (2, .int ey)]) hx hb dX0_walk_125 hl (k := 2) rfl (nI_1 i) (by decide) rfl (fun ls hl => ?_)
                  refine lv_goto (tgt := 24) hx hb dX0_walk_128 (by decide) ?_
                  exact ih_24 _ ((i + 1), nx_2, ny_2, no_3, ns_3, gx_1, gy_1) _ _ _ (by rw [hn_24]; omega) ⟨rfl, (⟨by omega, by omega⟩), hO1, hM2, ho2, hs2, hT2, hd2, (hP.sub [2, 0, 1] rfl), (hD.sub [2, 0, 1] (by decide) rfl), hS, (lv_sub hl [0, 3, 4, 5] rfl)⟩
                · refine lv_iconst (v := 0) hx hb dX0_walk_123 (by decide) ?_
                  have hP9 := hP.sub (ws' := [(h0, .inr (0, [.ref qx, .ref qy, .int ht, .int cx, .int cy, .int lf, .long sq, .int ln, .int no_3, .int ns_3, .int gx_1, .int gy_1])), (qx, .inl (cA, 401, .inl nx_2)), (qy, .inl (cA, 401, .inl ny_2))]) [2, 0, 1] rfl
                  have hD9 := hD.sub (ws' := [(h0, .inr (0, [.ref qx, .ref qy, .int ht, .int cx, .int cy, .int lf, .long sq, .int ln, .int no_3, .int ns_3, .int gx_1, .int gy_1])), (qx, .inl (cA, 401, .inl nx_2)), (qy, .inl (cA, 401, .inl ny_2))]) [2, 0, 1] (by decide) rfl
                  exact W.zret (v := 0) hx hb hr rfl (fun t9 ht9 hW9 => ⟨⟨0, (nx_2, ny_2, ln, no_3, ns_3, gx_1, gy_1), rfl, Or.inr ⟨rfl, Or.inr (ob_no (j := i) (by omega) (by rw [← hO1, c_107, c_120]; exact Prod.ext (hM2 0 (Nat.zero_le _)).1 (hM2 0 (Nat.zero_le _)).2) hT2)⟩, by rw [ht9]; exact hP9, hD9⟩, hS.F ht9⟩) hS.2.2 dX0_walk_124
            · refine lv_aload_n hx hb dX0_walk_90 rfl (lv_at hl 3 rfl) ?_
              refine lv_iload_n hx hb dX0_walk_91 rfl (lv_at hl 2 rfl) ?_
              refine va_put (D := (dC, dI)) (ci := 0) (v := .int (nI i)) (ty := .int) (C := RX0) (T := TX0) (N := 12) hx hb hts hiX0 tyX0 tyX0_ok nmX0 hown hK hP hD hS 2 rfl rfl 7 (by decide) (hts (.fieldLink RX0 36 "TickWalks$Arc" "length" "I") (List.mem_of_getElem? (l := wsX0_walk) (i := 6) rfl)) (fun _ h9 => h9) rfl (by decide +kernel) rfl rfl (Nat.le_of_ble_eq_true rfl) dX0_walk_92 (fun H locs hP hD hS => ?_)
              have hP : va_P (dC, dI) vwCl [(qx, .inl (cA, 401, .inl nx_2)), (qy, .inl (cA, 401, .inl ny_2)), (h0, .inr (0, [.ref qx, .ref qy, .int ht, .int cx, .int cy, .int lf, .long sq, .int (nI i), .int no_3, .int ns_3, .int gx_1, .int gy_1]))] H := hP
              have hD : va_D A [(qx, .inl (cA, 401, .inl nx_2)), (qy, .inl (cA, 401, .inl ny_2)), (h0, .inr (0, [.ref qx, .ref qy, .int ht, .int cx, .int cy, .int lf, .long sq, .int (nI i), .int no_3, .int ns_3, .int gx_1, .int gy_1]))] := hD
              refine lv_iconst (v := 1) hx hb dX0_walk_95 (by decide) ?_
              have hP9 := hP.sub (ws' := [(h0, .inr (0, [.ref qx, .ref qy, .int ht, .int cx, .int cy, .int lf, .long sq, .int (nI i), .int no_3, .int ns_3, .int gx_1, .int gy_1])), (qx, .inl (cA, 401, .inl nx_2)), (qy, .inl (cA, 401, .inl ny_2))]) [2, 0, 1] rfl
              have hD9 := hD.sub (ws' := [(h0, .inr (0, [.ref qx, .ref qy, .int ht, .int cx, .int cy, .int lf, .long sq, .int (nI i), .int no_3, .int ns_3, .int gx_1, .int gy_1])), (qx, .inl (cA, 401, .inl nx_2)), (qy, .inl (cA, 401, .inl ny_2))]) [2, 0, 1] (by decide) rfl
              exact W.zret (v := 1) hx hb hr rfl (fun t9 ht9 hW9 => ⟨⟨1, (nx_2, ny_2, nI i, no_3, ns_3, gx_1, gy_1), rfl, Or.inl ⟨rfl, hsq, i, ⟨by omega, hi2, hd2, by rw [← hO1, c_79, c_87], fun j h1 h2 => hT j h1 (by omega)⟩, rfl, ho2, hs2, hM2⟩, by rw [ht9]; exact hP9, hD9⟩, hS.F ht9⟩) hS.2.2 dX0_walk_96
        · refine lv_iconst (v := 0) hx hb dX0_walk_49 (by decide) ?_
          have hP9 := hP.sub (ws' := [(h0, .inr (0, [.ref qx, .ref qy, .int ht, .int cx, .int cy, .int lf, .long sq, .int ln, .int bo, .int bs, .int gx_1, .int gy_1])), (qx, .inl (cA, 401, .inl bx)), (qy, .inl (cA, 401, .inl bz))]) [2, 0, 1] rfl
          have hD9 := hD.sub (ws' := [(h0, .inr (0, [.ref qx, .ref qy, .int ht, .int cx, .int cy, .int lf, .long sq, .int ln, .int bo, .int bs, .int gx_1, .int gy_1])), (qx, .inl (cA, 401, .inl bx)), (qy, .inl (cA, 401, .inl bz))]) [2, 0, 1] (by decide) rfl
          exact W.zret (v := 0) hx hb hr rfl (fun t9 ht9 hW9 => ⟨⟨0, (bx, bz, ln, bo, bs, gx_1, gy_1), rfl, Or.inr ⟨rfl, Or.inr (ob_no_d (j := i - 1) (by rw [← hO]; rcases hq2 with h | h; exact h.2.1; exact absurd (h.1.symm.trans c_46) (by decide)) hT)⟩, by rw [ht9]; exact hP9, hD9⟩, hS.F ht9⟩) hS.2.2 dX0_walk_50
    · refine lv_iconst (v := 0) hx hb dX0_walk_20 (by decide) ?_
      have hP9 := hP.sub (ws' := [(h0, .inr (0, [.ref qx, .ref qy, .int ht, .int cx, .int cy, .int lf, .long sq, .int ln, .int of, .int sr, .int fx, .int fy])), (qx, .inl (cA, 401, .inl mx)), (qy, .inl (cA, 401, .inl my))]) [0, 1, 2] rfl
      have hD9 := hD.sub (ws' := [(h0, .inr (0, [.ref qx, .ref qy, .int ht, .int cx, .int cy, .int lf, .long sq, .int ln, .int of, .int sr, .int fx, .int fy])), (qx, .inl (cA, 401, .inl mx)), (qy, .inl (cA, 401, .inl my))]) [0, 1, 2] (by decide) rfl
      exact W.zret (v := 0) hx hb hr rfl (fun t9 ht9 hW9 => ⟨⟨0, (mx, my, ln, of, sr, fx, fy), rfl, Or.inr ⟨rfl, Or.inl (fun h => c_17 ((lg_cmp_le _ _).mpr h.2))⟩, by rw [ht9]; exact hP9, hD9⟩, hS.F ht9⟩) hS.2.2 dX0_walk_21
set_option maxHeartbeats 4000000 in
set_option maxRecDepth 100000 in
/-- Arc.seek -/
theorem ar_seek (l : Launch) (dC : Nat → ClassId) (dI : Nat → Nat → Nat) (cA cB : ClassId) (sz : Nat) (h0 : Nat) (qx : Nat) (qy : Nat) (ht : Int32) (cx : Int32) (cy : Int32) (lf : Int32) (sq : Int64) (ln : Int32) (of : Int32) (sr : Int32) (fx : Int32) (fy : Int32) (mx : Nat → Int32) (my : Nat → Int32) (k : Nat) (N : Nat) (x0 : Int32) (y0 : Int32) (hk : k ≤ N ∧ N ≤ 40000) (hM : ob_M lf sq cx cy (x0, y0) mx my N) : Met l yX0_seek wsX0_seek ({ frames := 2, cells := 0, slots := 0, locals := 60 }) (va_Pc [.ref h0, .int (nI k)] (ct_P dC dI cA cB sz [(h0, .inr (0, [.ref qx, .ref qy, .int ht, .int cx, .int cy, .int lf, .long sq, .int ln, .int of, .int sr, .int fx, .int fy])), (qx, .inl (cA, 401, .inl mx)), (qy, .inl (cA, 401, .inl my))])) (va_Qv (fun (u : Int32 × Int32) => (u.1, u.2) = ob_p lf sq cx cy (x0, y0) k) (fun (u : Int32 × Int32) => ct_B dC dI (va_A [(h0, .inr (0, [.ref qx, .ref qy, .int ht, .int cx, .int cy, .int lf, .long sq, .int ln, .int of, .int sr, .int fx, .int fy])), (qx, .inl (cA, 401, .inl mx)), (qy, .inl (cA, 401, .inl my))] sz) [(h0, .inr (0, [.ref qx, .ref qy, .int ht, .int cx, .int cy, .int lf, .long sq, .int ln, .int of, .int sr, .int u.1, .int u.2])), (qx, .inl (cA, 401, .inl mx)), (qy, .inl (cA, 401, .inl my))]) (va_A [(h0, .inr (0, [.ref qx, .ref qy, .int ht, .int cx, .int cy, .int lf, .long sq, .int ln, .int of, .int sr, .int fx, .int fy])), (qx, .inl (cA, 401, .inl mx)), (qy, .inl (cA, 401, .inl my))] sz)) 0 0 (va_A [(h0, .inr (0, [.ref qx, .ref qy, .int ht, .int cx, .int cy, .int lf, .long sq, .int ln, .int of, .int sr, .int fx, .int fy])), (qx, .inl (cA, 401, .inl mx)), (qy, .inl (cA, 401, .inl my))] sz) := by
  refine Met.ofW (cc := cX0_seek) (maxL := 4) (ret := none) (by decide +kernel) rfl ?_
  intro p e s m args below meth c s₁ B hml hv
  obtain ⟨rfl, hsz, hP, hK, hD0, hZ, hN⟩ := hv
  have hx := B.exec
  have hb := B.bytes
  have hr := B.returns
  have hts := atoms_spec (ws := wsX0_seek) B.pre
  have hown : s.vm.findClass RX0 = some m.cls := findClass_of_methodNamed B.named
  have hlocks := B.notSynchronized
  have hiX0 : ∀ w ∈ u_ws RX0 TX0 12, w ∈ wsX0_seek := by decide +kernel
  subst hsz
  have hD := hD0.self (sz := s.heap.size)
  generalize hAe : va_A [(h0, .inr (0, [.ref qx, .ref qy, .int ht, .int cx, .int cy, .int lf, .long sq, .int ln, .int of, .int sr, .int fx, .int fy])), (qx, .inl (cA, 401, .inl mx)), (qy, .inl (cA, 401, .inl my))] s.heap.size = A at hD hZ ⊢
  have hA : ∀ q : Nat, s.heap.size ≤ q → A q := fun q h => by rw [← hAe]; exact Or.inr h
  have hl := lv_entry ([.ref h0, .int (nI k)]) (n := 4) (Nat.le_of_ble_eq_true rfl)
  rw [lg_entry_eq]
  generalize (lg_sl ([.ref h0, .int (nI k)]) ++ List.replicate (4 - (lg_sl ([.ref h0, .int (nI k)])).length) Slot.unset).toArray = ls at hl ⊢
  have hl : lv_has ls 4 [(0, .ref h0), (1, .int (nI k))] := hl
  generalize hHe : s.heap = H at hP ⊢
  have hS : va_S A s.heap H [] := by rw [hHe]; exact va_S.rf
  generalize ([] : List Loc) = locs at hS ⊢
  refine lv_iload_n hx hb dX0_seek_0 rfl (lv_at hl 1 rfl) ?_
  refine lv_bipush (v := 100) hx hb dX0_seek_1 (by decide) ?_
  refine lv_idiv hx hb dX0_seek_3 (by decide) ?_
  refine ct_topi (y := nI (k / 100)) (pk_div (d := 100) (by omega) (by omega) (by omega)) ?_
  refine lv_istore_n (lv' := [(2, .int (nI (k / 100))), (0, .ref h0), (1, .int (nI k))]) hx hb dX0_seek_4 rfl hl (by decide) rfl (fun ls hl => ?_)
  refine lv_iload_n hx hb dX0_seek_5 rfl (lv_at hl 0 rfl) ?_
  refine lv_if_lt (tgt := 16) hx hb dX0_seek_6 (by decide) (fun c_6 => ?_) (fun c_6 => ?_)
  · exact absurd c_6 (nI_pos (by omega))
  · refine lv_iload_n hx hb dX0_seek_9 rfl (lv_at hl 0 rfl) ?_
    refine lv_sipush (v := 401) hx hb dX0_seek_10 (by decide) ?_
    refine lv_icmp_lt (tgt := 17) hx hb dX0_seek_13 (by decide) (fun c_13 => ?_) (fun c_13 => ?_)
    · refine lv_aload_n hx hb dX0_seek_17 rfl (lv_at hl 1 rfl) ?_
      refine lv_aload_n hx hb dX0_seek_18 rfl (lv_at hl 1 rfl) ?_
      refine va_get (D := (dC, dI)) (ci := 0) (v := .ref qx) (C := RX0) (T := TX0) (N := 12) hx hb hts hiX0 hown hK hP 0 rfl rfl 0 (by decide) (hts (.fieldLink RX0 9 "TickWalks$Arc" "markX" "[I") (List.mem_of_getElem? (l := wsX0_seek) (i := 1) rfl)) (fun _ h9 => h9) rfl dX0_seek_19 ?_
      refine lv_iload_n hx hb dX0_seek_22 rfl (lv_at hl 0 rfl) ?_
      refine va_iald hx hb hK hP 1 0 rfl rfl (vp_in_nI (by omega) (by decide)) dX0_seek_23 ?_
      refine ct_topi (y := mx (k / 100)) (congrArg mx (nI_clamp (show k / 100 < 2 ^ 31 by omega))) ?_
      refine va_put (D := (dC, dI)) (ci := 0) (v := .int (mx (k / 100))) (ty := .int) (C := RX0) (T := TX0) (N := 12) hx hb hts hiX0 tyX0 tyX0_ok nmX0 hown hK hP hD hS 0 rfl rfl 10 (by decide) (hts (.fieldLink RX0 45 "TickWalks$Arc" "footX" "I") (List.mem_of_getElem? (l := wsX0_seek) (i := 2) rfl)) (fun _ h9 => h9) rfl (by decide +kernel) rfl rfl (Nat.le_of_ble_eq_true rfl) dX0_seek_24 (fun H locs hP hD hS => ?_)
      have hP : va_P (dC, dI) vwCl [(h0, .inr (0, [.ref qx, .ref qy, .int ht, .int cx, .int cy, .int lf, .long sq, .int ln, .int of, .int sr, .int (mx (k / 100)), .int fy])), (qx, .inl (cA, 401, .inl mx)), (qy, .inl (cA, 401, .inl my))] H := hP
      have hD : va_D A [(h0, .inr (0, [.ref qx, .ref qy, .int ht, .int cx, .int cy, .int lf, .long sq, .int ln, .int of, .int sr, .int (mx (k / 100)), .int fy])), (qx, .inl (cA, 401, .inl mx)), (qy, .inl (cA, 401, .inl my))] := hD
      refine lv_aload_n hx hb dX0_seek_27 rfl (lv_at hl 1 rfl) ?_
      refine lv_aload_n hx hb dX0_seek_28 rfl (lv_at hl 1 rfl) ?_
      refine va_get (D := (dC, dI)) (ci := 0) (v := .ref qy) (C := RX0) (T := TX0) (N := 12) hx hb hts hiX0 hown hK hP 0 rfl rfl 1 (by decide) (hts (.fieldLink RX0 15 "TickWalks$Arc" "markY" "[I") (List.mem_of_getElem? (l := wsX0_seek) (i := 3) rfl)) (fun _ h9 => h9) rfl dX0_seek_29 ?_
      refine lv_iload_n hx hb dX0_seek_32 rfl (lv_at hl 0 rfl) ?_
      refine va_iald hx hb hK hP 2 0 rfl rfl (vp_in_nI (by omega) (by decide)) dX0_seek_33 ?_
      refine ct_topi (y := my (k / 100)) (congrArg my (nI_clamp (show k / 100 < 2 ^ 31 by omega))) ?_
      refine va_put (D := (dC, dI)) (ci := 0) (v := .int (my (k / 100))) (ty := .int) (C := RX0) (T := TX0) (N := 12) hx hb hts hiX0 tyX0 tyX0_ok nmX0 hown hK hP hD hS 0 rfl rfl 11 (by decide) (hts (.fieldLink RX0 48 "TickWalks$Arc" "footY" "I") (List.mem_of_getElem? (l := wsX0_seek) (i := 4) rfl)) (fun _ h9 => h9) rfl (by decide +kernel) rfl rfl (Nat.le_of_ble_eq_true rfl) dX0_seek_34 (fun H locs hP hD hS => ?_)
      have hP : va_P (dC, dI) vwCl [(h0, .inr (0, [.ref qx, .ref qy, .int ht, .int cx, .int cy, .int lf, .long sq, .int ln, .int of, .int sr, .int (mx (k / 100)), .int (my (k / 100))])), (qx, .inl (cA, 401, .inl mx)), (qy, .inl (cA, 401, .inl my))] H := hP
      have hD : va_D A [(h0, .inr (0, [.ref qx, .ref qy, .int ht, .int cx, .int cy, .int lf, .long sq, .int ln, .int of, .int sr, .int (mx (k / 100)), .int (my (k / 100))])), (qx, .inl (cA, 401, .inl mx)), (qy, .inl (cA, 401, .inl my))] := hD
      refine lv_iload_n hx hb dX0_seek_37 rfl (lv_at hl 0 rfl) ?_
      refine lv_bipush (v := 100) hx hb dX0_seek_38 (by decide) ?_
      refine lv_imul hx hb dX0_seek_40 ?_
      refine ct_topi (y := nI (k / 100 * 100)) (pk_mul (k / 100) 100) ?_
      refine lv_istore_n (lv' := [(3, .int (nI (k / 100 * 100))), (2, .int (nI (k / 100))), (0, .ref h0), (1, .int (nI k))]) hx hb dX0_seek_41 rfl hl (by decide) rfl (fun ls hl => ?_)
      refine ct_loop (σ := Nat × Int32 × Int32) (fun n9 w9 H locs ls => n9 = k - w9.1 ∧ (w9.1 ≤ k) ∧ ((w9.2.1, w9.2.2) = ob_p lf sq cx cy (x0, y0) w9.1) ∧ va_P (dC, dI) vwCl [(h0, .inr (0, [.ref qx, .ref qy, .int ht, .int cx, .int cy, .int lf, .long sq, .int ln, .int of, .int sr, .int w9.2.1, .int w9.2.2])), (qx, .inl (cA, 401, .inl mx)), (qy, .inl (cA, 401, .inl my))] H ∧ va_D A [(h0, .inr (0, [.ref qx, .ref qy, .int ht, .int cx, .int cy, .int lf, .long sq, .int ln, .int of, .int sr, .int w9.2.1, .int w9.2.2])), (qx, .inl (cA, 401, .inl mx)), (qy, .inl (cA, 401, .inl my))] ∧ va_S A s.heap H locs ∧ lv_has ls 4 [(3, .int (nI w9.1)), (0, .ref h0), (1, .int (nI k))]) (fun n9 w9 H locs ls hJ ih_42 => ?_) (k - (k / 100 * 100)) ((k / 100 * 100), mx (k / 100), my (k / 100)) _ _ _ ⟨rfl, (Nat.div_mul_le_self k 100), (Prod.ext (hM (k / 100) (by omega)).1 (hM (k / 100) (by omega)).2), (hP.sub [0, 1, 2] rfl), (hD.sub [0, 1, 2] (by decide) rfl), hS, (lv_sub hl [0, 2, 3] rfl)⟩
      obtain ⟨i, wx, wy⟩ := w9
      obtain ⟨hn_42, hi, hO, hP, hD, hS, hl⟩ := hJ
      have hn_42 : n9 = k - i := hn_42
      have hi : i ≤ k := hi
      have hO : (wx, wy) = ob_p lf sq cx cy (x0, y0) i := hO
      have hP : va_P (dC, dI) vwCl [(h0, .inr (0, [.ref qx, .ref qy, .int ht, .int cx, .int cy, .int lf, .long sq, .int ln, .int of, .int sr, .int wx, .int wy])), (qx, .inl (cA, 401, .inl mx)), (qy, .inl (cA, 401, .inl my))] H := hP
      have hD : va_D A [(h0, .inr (0, [.ref qx, .ref qy, .int ht, .int cx, .int cy, .int lf, .long sq, .int ln, .int of, .int sr, .int wx, .int wy])), (qx, .inl (cA, 401, .inl mx)), (qy, .inl (cA, 401, .inl my))] := hD
      have hl : lv_has ls 4 [(3, .int (nI i)), (0, .ref h0), (1, .int (nI k))] := hl
      refine lv_iload_n hx hb dX0_seek_42 rfl (lv_at hl 0 rfl) ?_
      refine lv_iload_n hx hb dX0_seek_43 rfl (lv_at hl 2 rfl) ?_
      refine lv_icmp_ge (tgt := 58) hx hb dX0_seek_44 (by decide) (fun c_44 => ?_) (fun c_44 => ?_)
      · have hP9 := hP.sub (ws' := [(h0, .inr (0, [.ref qx, .ref qy, .int ht, .int cx, .int cy, .int lf, .long sq, .int ln, .int of, .int sr, .int wx, .int wy])), (qx, .inl (cA, 401, .inl mx)), (qy, .inl (cA, 401, .inl my))]) [0, 1, 2] rfl
        have hD9 := hD.sub (ws' := [(h0, .inr (0, [.ref qx, .ref qy, .int ht, .int cx, .int cy, .int lf, .long sq, .int ln, .int of, .int sr, .int wx, .int wy])), (qx, .inl (cA, 401, .inl mx)), (qy, .inl (cA, 401, .inl my))]) [0, 1, 2] (by decide) rfl
        exact W.vret hx hb hr (fun t9 ht9 hW9 => ⟨⟨(wx, wy), rfl, (by have h := (nI_leI (by omega) (by omega)).mp c_44; rw [hO, show i = k by omega]), by rw [ht9]; exact hP9, hD9⟩, hS.F ht9⟩) hS.2.2 dX0_seek_58
      · have hlt : i < k := by
          rcases Nat.lt_or_ge i k with h | h
          · exact h
          · exact absurd (nI_le h (by omega)) c_44
        refine lv_aload_n hx hb dX0_seek_47 rfl (lv_at hl 1 rfl) ?_
        refine ct_calli (va_runV (As := []) (rest := []) ⟨hx, hb, hml, hown, hts⟩ (ar_step l dC dI cA cB H.size h0 qx qy ht cx cy lf sq ln of sr wx wy ) (cwV 0 hts gX0_seek_X0_step rfl rfl rfl (by decide +kernel) ⟨Nat.le_of_ble_eq_true rfl, Nat.le_of_ble_eq_true rfl⟩) ⟨ct_blind, va_recv hK hP (ci := 0) (q0 := 0) rfl rfl, ct_pre hP hD hK hZ hN hS hA [0] rfl (by decide)⟩ rfl rfl hl.1 rfl (lv_room (Nat.le_of_ble_eq_true rfl)) dX0_seek_48 ⟨Nat.le_of_ble_eq_true rfl, Nat.le_of_ble_eq_true rfl⟩) hP hD hS hA [0] [1, 2] rfl (wr := [(qx, .inl (cA, 401, .inl mx)), (qy, .inl (cA, 401, .inl my))]) rfl (by decide) (by decide) (fun r_1 u9 H locs hw_1 hP hD hS => ?_)
        obtain ⟨gx_1, gy_1⟩ := u9
        have hw_1 : sp_P lf sq wx cx wy cy r_1 gx_1 gy_1 := hw_1
        have hP : va_P (dC, dI) vwCl [(qx, .inl (cA, 401, .inl mx)), (qy, .inl (cA, 401, .inl my)), (h0, .inr (0, [.ref qx, .ref qy, .int ht, .int cx, .int cy, .int lf, .long sq, .int ln, .int of, .int sr, .int gx_1, .int gy_1]))] H := hP
        have hD : va_D A [(qx, .inl (cA, 401, .inl mx)), (qy, .inl (cA, 401, .inl my)), (h0, .inr (0, [.ref qx, .ref qy, .int ht, .int cx, .int cy, .int lf, .long sq, .int ln, .int of, .int sr, .int gx_1, .int gy_1]))] := hD
        refine lv_pop hx hb dX0_seek_51 rfl ?_
        refine lv_iinc (v := nI (i + 1)) (lv' := [(3, .int (nI (i + 1))), (0, .ref h0), (1, .int (nI k))]) hx hb dX0_seek_52 hl (k := 0) rfl (nI_1 i) (by decide) rfl (fun ls hl => ?_)
        refine lv_goto (tgt := 42) hx hb dX0_seek_55 (by decide) ?_
        exact ih_42 _ ((i + 1), gx_1, gy_1) _ _ _ (by rw [hn_42]; omega) ⟨rfl, (show i + 1 ≤ k by omega), (by rw [ob_p, ← hO]; exact (sp_ob hw_1).1), (hP.sub [2, 0, 1] rfl), (hD.sub [2, 0, 1] (by decide) rfl), hS, (lv_sub hl [0, 1, 2] rfl)⟩
    · exact absurd (nI_lt (a := k / 100) (b := 401) (by omega) (by omega)) c_13
set_option maxHeartbeats 4000000 in
set_option maxRecDepth 100000 in
/-- Arc.placeBehind -/
theorem ar_place (l : Launch) (dC : Nat → ClassId) (dI : Nat → Nat → Nat) (cA cB : ClassId) (sz : Nat) (h0 : Nat) (qx : Nat) (qy : Nat) (ht : Int32) (cx : Int32) (cy : Int32) (lf : Int32) (sq : Int64) (ln : Int32) (of : Int32) (sr : Int32) (fx : Int32) (fy : Int32) (mx : Nat → Int32) (my : Nat → Int32) (k : Nat) (ax : Int32) (N : Nat) (x0 : Int32) (y0 : Int32) (hk : k ≤ N ∧ N ≤ 40000) (hM : ob_M lf sq cx cy (x0, y0) mx my N) : Met l yX0_placeBehind wsX0_placeBehind ({ frames := 3, cells := 0, slots := 0, locals := 90 }) (va_Pc [.ref h0, .int (nI k), .int ax] (ct_P dC dI cA cB sz [(h0, .inr (0, [.ref qx, .ref qy, .int ht, .int cx, .int cy, .int lf, .long sq, .int ln, .int of, .int sr, .int fx, .int fy])), (qx, .inl (cA, 401, .inl mx)), (qy, .inl (cA, 401, .inl my))])) (va_Qi (fun (r : Int32) (u : Int32 × Int32) => r = (if ax = 2 then ht else if ax = 0 then (ob_p lf sq cx cy (x0, y0) k).1 else (ob_p lf sq cx cy (x0, y0) k).2)) (fun (u : Int32 × Int32) => ct_B dC dI (va_A [(h0, .inr (0, [.ref qx, .ref qy, .int ht, .int cx, .int cy, .int lf, .long sq, .int ln, .int of, .int sr, .int fx, .int fy])), (qx, .inl (cA, 401, .inl mx)), (qy, .inl (cA, 401, .inl my))] sz) [(h0, .inr (0, [.ref qx, .ref qy, .int ht, .int cx, .int cy, .int lf, .long sq, .int ln, .int of, .int sr, .int u.1, .int u.2])), (qx, .inl (cA, 401, .inl mx)), (qy, .inl (cA, 401, .inl my))]) (va_A [(h0, .inr (0, [.ref qx, .ref qy, .int ht, .int cx, .int cy, .int lf, .long sq, .int ln, .int of, .int sr, .int fx, .int fy])), (qx, .inl (cA, 401, .inl mx)), (qy, .inl (cA, 401, .inl my))] sz)) 0 0 (va_A [(h0, .inr (0, [.ref qx, .ref qy, .int ht, .int cx, .int cy, .int lf, .long sq, .int ln, .int of, .int sr, .int fx, .int fy])), (qx, .inl (cA, 401, .inl mx)), (qy, .inl (cA, 401, .inl my))] sz) := by
  refine Met.ofW (cc := cX0_placeBehind) (maxL := 3) (ret := (some .int)) (by decide +kernel) rfl ?_
  intro p e s m args below meth c s₁ B hml hv
  obtain ⟨rfl, hsz, hP, hK, hD0, hZ, hN⟩ := hv
  have hx := B.exec
  have hb := B.bytes
  have hr := B.returns
  have hts := atoms_spec (ws := wsX0_placeBehind) B.pre
  have hown : s.vm.findClass RX0 = some m.cls := findClass_of_methodNamed B.named
  have hlocks := B.notSynchronized
  have hiX0 : ∀ w ∈ u_ws RX0 TX0 12, w ∈ wsX0_placeBehind := by decide +kernel
  subst hsz
  have hD := hD0.self (sz := s.heap.size)
  generalize hAe : va_A [(h0, .inr (0, [.ref qx, .ref qy, .int ht, .int cx, .int cy, .int lf, .long sq, .int ln, .int of, .int sr, .int fx, .int fy])), (qx, .inl (cA, 401, .inl mx)), (qy, .inl (cA, 401, .inl my))] s.heap.size = A at hD hZ ⊢
  have hA : ∀ q : Nat, s.heap.size ≤ q → A q := fun q h => by rw [← hAe]; exact Or.inr h
  have hl := lv_entry ([.ref h0, .int (nI k), .int ax]) (n := 3) (Nat.le_of_ble_eq_true rfl)
  rw [lg_entry_eq]
  generalize (lg_sl ([.ref h0, .int (nI k), .int ax]) ++ List.replicate (3 - (lg_sl ([.ref h0, .int (nI k), .int ax])).length) Slot.unset).toArray = ls at hl ⊢
  have hl : lv_has ls 3 [(0, .ref h0), (1, .int (nI k)), (2, .int ax)] := hl
  generalize hHe : s.heap = H at hP ⊢
  have hS : va_S A s.heap H [] := by rw [hHe]; exact va_S.rf
  generalize ([] : List Loc) = locs at hS ⊢
  refine lv_iload_n hx hb dX0_placeBehind_0 rfl (lv_at hl 2 rfl) ?_
  refine lv_iconst (v := 2) hx hb dX0_placeBehind_1 (by decide) ?_
  refine lv_icmp_ne (tgt := 10) hx hb dX0_placeBehind_2 (by decide) (fun c_2 => ?_) (fun c_2 => ?_)
  · refine lv_aload_n hx hb dX0_placeBehind_10 rfl (lv_at hl 0 rfl) ?_
    refine lv_iload_n hx hb dX0_placeBehind_11 rfl (lv_at hl 1 rfl) ?_
    refine ct_callv (va_runV (As := [.int (nI k)]) (rest := []) ⟨hx, hb, hml, hown, hts⟩ (ar_seek l dC dI cA cB H.size h0 qx qy ht cx cy lf sq ln of sr fx fy mx my k N x0 y0 hk hM) (cwV 1 hts gX0_placeBehind_X0_seek rfl rfl rfl (by decide +kernel) ⟨Nat.le_of_ble_eq_true rfl, Nat.le_of_ble_eq_true rfl⟩) ⟨ct_blind, va_recv hK hP (ci := 0) (q0 := 0) rfl rfl, ct_pre hP hD hK hZ hN hS hA [0, 1, 2] rfl (by decide)⟩ rfl rfl hl.1 rfl (lv_room (Nat.le_of_ble_eq_true rfl)) dX0_placeBehind_12 ⟨Nat.le_of_ble_eq_true rfl, Nat.le_of_ble_eq_true rfl⟩) hP hD hS hA [0, 1, 2] [] rfl (wr := []) rfl (by decide) (by decide) (fun u9 H locs hw_1 hP hD hS => ?_)
    obtain ⟨gx_1, gy_1⟩ := u9
    have hw_1 : (gx_1, gy_1) = ob_p lf sq cx cy (x0, y0) k := hw_1
    have hP : va_P (dC, dI) vwCl [(h0, .inr (0, [.ref qx, .ref qy, .int ht, .int cx, .int cy, .int lf, .long sq, .int ln, .int of, .int sr, .int gx_1, .int gy_1])), (qx, .inl (cA, 401, .inl mx)), (qy, .inl (cA, 401, .inl my))] H := hP
    have hD : va_D A [(h0, .inr (0, [.ref qx, .ref qy, .int ht, .int cx, .int cy, .int lf, .long sq, .int ln, .int of, .int sr, .int gx_1, .int gy_1])), (qx, .inl (cA, 401, .inl mx)), (qy, .inl (cA, 401, .inl my))] := hD
    refine lv_iload_n hx hb dX0_placeBehind_15 rfl (lv_at hl 2 rfl) ?_
    refine lv_if_ne (tgt := 26) hx hb dX0_placeBehind_16 (by decide) (fun c_16 => ?_) (fun c_16 => ?_)
    · refine lv_aload_n hx hb dX0_placeBehind_26 rfl (lv_at hl 0 rfl) ?_
      refine va_get (D := (dC, dI)) (ci := 0) (v := .int gy_1) (C := RX0) (T := TX0) (N := 12) hx hb hts hiX0 hown hK hP 0 rfl rfl 11 (by decide) (hts (.fieldLink RX0 48 "TickWalks$Arc" "footY" "I") (List.mem_of_getElem? (l := wsX0_placeBehind) (i := 3) rfl)) (fun _ h9 => h9) rfl dX0_placeBehind_27 ?_
      have hP9 := hP.sub (ws' := [(h0, .inr (0, [.ref qx, .ref qy, .int ht, .int cx, .int cy, .int lf, .long sq, .int ln, .int of, .int sr, .int gx_1, .int gy_1])), (qx, .inl (cA, 401, .inl mx)), (qy, .inl (cA, 401, .inl my))]) [0, 1, 2] rfl
      have hD9 := hD.sub (ws' := [(h0, .inr (0, [.ref qx, .ref qy, .int ht, .int cx, .int cy, .int lf, .long sq, .int ln, .int of, .int sr, .int gx_1, .int gy_1])), (qx, .inl (cA, 401, .inl mx)), (qy, .inl (cA, 401, .inl my))]) [0, 1, 2] (by decide) rfl
      exact W.iret (v := gy_1) hx hb hr (fun t9 ht9 hW9 => ⟨⟨gy_1, (gx_1, gy_1), rfl, (by rw [if_neg c_2, if_neg c_16, ← hw_1]), by rw [ht9]; exact hP9, hD9⟩, hS.F ht9⟩) hS.2.2 dX0_placeBehind_30
    · refine lv_aload_n hx hb dX0_placeBehind_19 rfl (lv_at hl 0 rfl) ?_
      refine va_get (D := (dC, dI)) (ci := 0) (v := .int gx_1) (C := RX0) (T := TX0) (N := 12) hx hb hts hiX0 hown hK hP 0 rfl rfl 10 (by decide) (hts (.fieldLink RX0 45 "TickWalks$Arc" "footX" "I") (List.mem_of_getElem? (l := wsX0_placeBehind) (i := 2) rfl)) (fun _ h9 => h9) rfl dX0_placeBehind_20 ?_
      refine lv_goto (tgt := 30) hx hb dX0_placeBehind_23 (by decide) ?_
      have hP9 := hP.sub (ws' := [(h0, .inr (0, [.ref qx, .ref qy, .int ht, .int cx, .int cy, .int lf, .long sq, .int ln, .int of, .int sr, .int gx_1, .int gy_1])), (qx, .inl (cA, 401, .inl mx)), (qy, .inl (cA, 401, .inl my))]) [0, 1, 2] rfl
      have hD9 := hD.sub (ws' := [(h0, .inr (0, [.ref qx, .ref qy, .int ht, .int cx, .int cy, .int lf, .long sq, .int ln, .int of, .int sr, .int gx_1, .int gy_1])), (qx, .inl (cA, 401, .inl mx)), (qy, .inl (cA, 401, .inl my))]) [0, 1, 2] (by decide) rfl
      exact W.iret (v := gx_1) hx hb hr (fun t9 ht9 hW9 => ⟨⟨gx_1, (gx_1, gy_1), rfl, (by rw [if_neg c_2, if_pos c_16, ← hw_1]), by rw [ht9]; exact hP9, hD9⟩, hS.F ht9⟩) hS.2.2 dX0_placeBehind_30
  · refine lv_aload_n hx hb dX0_placeBehind_5 rfl (lv_at hl 0 rfl) ?_
    refine va_get (D := (dC, dI)) (ci := 0) (v := .int ht) (C := RX0) (T := TX0) (N := 12) hx hb hts hiX0 hown hK hP 0 rfl rfl 2 (by decide) (hts (.fieldLink RX0 18 "TickWalks$Arc" "height" "I") (List.mem_of_getElem? (l := wsX0_placeBehind) (i := 1) rfl)) (fun _ h9 => h9) rfl dX0_placeBehind_6 ?_
    have hP9 := hP.sub (ws' := [(h0, .inr (0, [.ref qx, .ref qy, .int ht, .int cx, .int cy, .int lf, .long sq, .int ln, .int of, .int sr, .int fx, .int fy])), (qx, .inl (cA, 401, .inl mx)), (qy, .inl (cA, 401, .inl my))]) [0, 1, 2] rfl
    have hD9 := hD.sub (ws' := [(h0, .inr (0, [.ref qx, .ref qy, .int ht, .int cx, .int cy, .int lf, .long sq, .int ln, .int of, .int sr, .int fx, .int fy])), (qx, .inl (cA, 401, .inl mx)), (qy, .inl (cA, 401, .inl my))]) [0, 1, 2] (by decide) rfl
    exact W.iret (v := ht) hx hb hr (fun t9 ht9 hW9 => ⟨⟨ht, (fx, fy), rfl, (by rw [if_pos c_2]), by rw [ht9]; exact hP9, hD9⟩, hS.F ht9⟩) hS.2.2 dX0_placeBehind_9
set_option maxHeartbeats 4000000 in
set_option maxRecDepth 100000 in
/-- Arc.length -/
theorem ar_length (l : Launch) (dC : Nat → ClassId) (dI : Nat → Nat → Nat) (cA cB : ClassId) (sz : Nat) (h0 : Nat) (qx : Nat) (qy : Nat) (ht : Int32) (cx : Int32) (cy : Int32) (lf : Int32) (sq : Int64) (ln : Int32) (of : Int32) (sr : Int32) (fx : Int32) (fy : Int32) : Met l yX0_length wsX0_length ({ frames := 0, cells := 0, slots := 0, locals := 0 }) (va_Pc [.ref h0] (ct_P dC dI cA cB sz [(h0, .inr (0, [.ref qx, .ref qy, .int ht, .int cx, .int cy, .int lf, .long sq, .int ln, .int of, .int sr, .int fx, .int fy]))])) (va_Qi (fun (r : Int32) (u : Unit) => r = ln) (fun (u : Unit) => ct_B dC dI (va_A [(h0, .inr (0, [.ref qx, .ref qy, .int ht, .int cx, .int cy, .int lf, .long sq, .int ln, .int of, .int sr, .int fx, .int fy]))] sz) [(h0, .inr (0, [.ref qx, .ref qy, .int ht, .int cx, .int cy, .int lf, .long sq, .int ln, .int of, .int sr, .int fx, .int fy]))]) (va_A [(h0, .inr (0, [.ref qx, .ref qy, .int ht, .int cx, .int cy, .int lf, .long sq, .int ln, .int of, .int sr, .int fx, .int fy]))] sz)) 0 0 (va_A [(h0, .inr (0, [.ref qx, .ref qy, .int ht, .int cx, .int cy, .int lf, .long sq, .int ln, .int of, .int sr, .int fx, .int fy]))] sz) := by
  refine Met.ofW (cc := cX0_length) (maxL := 1) (ret := (some .int)) (by decide +kernel) rfl ?_
  intro p e s m args below meth c s₁ B hml hv
  obtain ⟨rfl, hsz, hP, hK, hD0, hZ, hN⟩ := hv
  have hx := B.exec
  have hb := B.bytes
  have hr := B.returns
  have hts := atoms_spec (ws := wsX0_length) B.pre
  have hown : s.vm.findClass RX0 = some m.cls := findClass_of_methodNamed B.named
  have hlocks := B.notSynchronized
  have hiX0 : ∀ w ∈ u_ws RX0 TX0 12, w ∈ wsX0_length := by decide +kernel
  subst hsz
  have hD := hD0.self (sz := s.heap.size)
  generalize hAe : va_A [(h0, .inr (0, [.ref qx, .ref qy, .int ht, .int cx, .int cy, .int lf, .long sq, .int ln, .int of, .int sr, .int fx, .int fy]))] s.heap.size = A at hD hZ ⊢
  have hA : ∀ q : Nat, s.heap.size ≤ q → A q := fun q h => by rw [← hAe]; exact Or.inr h
  have hl := lv_entry ([.ref h0]) (n := 1) (Nat.le_of_ble_eq_true rfl)
  rw [lg_entry_eq]
  generalize (lg_sl ([.ref h0]) ++ List.replicate (1 - (lg_sl ([.ref h0])).length) Slot.unset).toArray = ls at hl ⊢
  have hl : lv_has ls 1 [(0, .ref h0)] := hl
  generalize hHe : s.heap = H at hP ⊢
  have hS : va_S A s.heap H [] := by rw [hHe]; exact va_S.rf
  generalize ([] : List Loc) = locs at hS ⊢
  refine lv_aload_n hx hb dX0_length_0 rfl (lv_at hl 0 rfl) ?_
  refine va_get (D := (dC, dI)) (ci := 0) (v := .int ln) (C := RX0) (T := TX0) (N := 12) hx hb hts hiX0 hown hK hP 0 rfl rfl 7 (by decide) (hts (.fieldLink RX0 36 "TickWalks$Arc" "length" "I") (List.mem_of_getElem? (l := wsX0_length) (i := 1) rfl)) (fun _ h9 => h9) rfl dX0_length_1 ?_
  have hP9 := hP.sub (ws' := [(h0, .inr (0, [.ref qx, .ref qy, .int ht, .int cx, .int cy, .int lf, .long sq, .int ln, .int of, .int sr, .int fx, .int fy]))]) [0] rfl
  have hD9 := hD.sub (ws' := [(h0, .inr (0, [.ref qx, .ref qy, .int ht, .int cx, .int cy, .int lf, .long sq, .int ln, .int of, .int sr, .int fx, .int fy]))]) [0] (by decide) rfl
  exact W.iret (v := ln) hx hb hr (fun t9 ht9 hW9 => ⟨⟨ln, (), rfl, rfl, by rw [ht9]; exact hP9, hD9⟩, hS.F ht9⟩) hS.2.2 dX0_length_4
set_option maxHeartbeats 4000000 in
set_option maxRecDepth 100000 in
/-- Arc.greatestOff -/
theorem ar_off (l : Launch) (dC : Nat → ClassId) (dI : Nat → Nat → Nat) (cA cB : ClassId) (sz : Nat) (h0 : Nat) (qx : Nat) (qy : Nat) (ht : Int32) (cx : Int32) (cy : Int32) (lf : Int32) (sq : Int64) (ln : Int32) (of : Int32) (sr : Int32) (fx : Int32) (fy : Int32) : Met l yX0_greatestOff wsX0_greatestOff ({ frames := 0, cells := 0, slots := 0, locals := 0 }) (va_Pc [.ref h0] (ct_P dC dI cA cB sz [(h0, .inr (0, [.ref qx, .ref qy, .int ht, .int cx, .int cy, .int lf, .long sq, .int ln, .int of, .int sr, .int fx, .int fy]))])) (va_Qi (fun (r : Int32) (u : Unit) => r = of) (fun (u : Unit) => ct_B dC dI (va_A [(h0, .inr (0, [.ref qx, .ref qy, .int ht, .int cx, .int cy, .int lf, .long sq, .int ln, .int of, .int sr, .int fx, .int fy]))] sz) [(h0, .inr (0, [.ref qx, .ref qy, .int ht, .int cx, .int cy, .int lf, .long sq, .int ln, .int of, .int sr, .int fx, .int fy]))]) (va_A [(h0, .inr (0, [.ref qx, .ref qy, .int ht, .int cx, .int cy, .int lf, .long sq, .int ln, .int of, .int sr, .int fx, .int fy]))] sz)) 0 0 (va_A [(h0, .inr (0, [.ref qx, .ref qy, .int ht, .int cx, .int cy, .int lf, .long sq, .int ln, .int of, .int sr, .int fx, .int fy]))] sz) := by
  refine Met.ofW (cc := cX0_greatestOff) (maxL := 1) (ret := (some .int)) (by decide +kernel) rfl ?_
  intro p e s m args below meth c s₁ B hml hv
  obtain ⟨rfl, hsz, hP, hK, hD0, hZ, hN⟩ := hv
  have hx := B.exec
  have hb := B.bytes
  have hr := B.returns
  have hts := atoms_spec (ws := wsX0_greatestOff) B.pre
  have hown : s.vm.findClass RX0 = some m.cls := findClass_of_methodNamed B.named
  have hlocks := B.notSynchronized
  have hiX0 : ∀ w ∈ u_ws RX0 TX0 12, w ∈ wsX0_greatestOff := by decide +kernel
  subst hsz
  have hD := hD0.self (sz := s.heap.size)
  generalize hAe : va_A [(h0, .inr (0, [.ref qx, .ref qy, .int ht, .int cx, .int cy, .int lf, .long sq, .int ln, .int of, .int sr, .int fx, .int fy]))] s.heap.size = A at hD hZ ⊢
  have hA : ∀ q : Nat, s.heap.size ≤ q → A q := fun q h => by rw [← hAe]; exact Or.inr h
  have hl := lv_entry ([.ref h0]) (n := 1) (Nat.le_of_ble_eq_true rfl)
  rw [lg_entry_eq]
  generalize (lg_sl ([.ref h0]) ++ List.replicate (1 - (lg_sl ([.ref h0])).length) Slot.unset).toArray = ls at hl ⊢
  have hl : lv_has ls 1 [(0, .ref h0)] := hl
  generalize hHe : s.heap = H at hP ⊢
  have hS : va_S A s.heap H [] := by rw [hHe]; exact va_S.rf
  generalize ([] : List Loc) = locs at hS ⊢
  refine lv_aload_n hx hb dX0_greatestOff_0 rfl (lv_at hl 0 rfl) ?_
  refine va_get (D := (dC, dI)) (ci := 0) (v := .int of) (C := RX0) (T := TX0) (N := 12) hx hb hts hiX0 hown hK hP 0 rfl rfl 8 (by decide) (hts (.fieldLink RX0 39 "TickWalks$Arc" "off" "I") (List.mem_of_getElem? (l := wsX0_greatestOff) (i := 1) rfl)) (fun _ h9 => h9) rfl dX0_greatestOff_1 ?_
  have hP9 := hP.sub (ws' := [(h0, .inr (0, [.ref qx, .ref qy, .int ht, .int cx, .int cy, .int lf, .long sq, .int ln, .int of, .int sr, .int fx, .int fy]))]) [0] rfl
  have hD9 := hD.sub (ws' := [(h0, .inr (0, [.ref qx, .ref qy, .int ht, .int cx, .int cy, .int lf, .long sq, .int ln, .int of, .int sr, .int fx, .int fy]))]) [0] (by decide) rfl
  exact W.iret (v := of) hx hb hr (fun t9 ht9 hW9 => ⟨⟨of, (), rfl, rfl, by rw [ht9]; exact hP9, hD9⟩, hS.F ht9⟩) hS.2.2 dX0_greatestOff_4
set_option maxHeartbeats 4000000 in
set_option maxRecDepth 100000 in
/-- Arc.strayTicks -/
theorem ar_strays (l : Launch) (dC : Nat → ClassId) (dI : Nat → Nat → Nat) (cA cB : ClassId) (sz : Nat) (h0 : Nat) (qx : Nat) (qy : Nat) (ht : Int32) (cx : Int32) (cy : Int32) (lf : Int32) (sq : Int64) (ln : Int32) (of : Int32) (sr : Int32) (fx : Int32) (fy : Int32) : Met l yX0_strayTicks wsX0_strayTicks ({ frames := 0, cells := 0, slots := 0, locals := 0 }) (va_Pc [.ref h0] (ct_P dC dI cA cB sz [(h0, .inr (0, [.ref qx, .ref qy, .int ht, .int cx, .int cy, .int lf, .long sq, .int ln, .int of, .int sr, .int fx, .int fy]))])) (va_Qi (fun (r : Int32) (u : Unit) => r = sr) (fun (u : Unit) => ct_B dC dI (va_A [(h0, .inr (0, [.ref qx, .ref qy, .int ht, .int cx, .int cy, .int lf, .long sq, .int ln, .int of, .int sr, .int fx, .int fy]))] sz) [(h0, .inr (0, [.ref qx, .ref qy, .int ht, .int cx, .int cy, .int lf, .long sq, .int ln, .int of, .int sr, .int fx, .int fy]))]) (va_A [(h0, .inr (0, [.ref qx, .ref qy, .int ht, .int cx, .int cy, .int lf, .long sq, .int ln, .int of, .int sr, .int fx, .int fy]))] sz)) 0 0 (va_A [(h0, .inr (0, [.ref qx, .ref qy, .int ht, .int cx, .int cy, .int lf, .long sq, .int ln, .int of, .int sr, .int fx, .int fy]))] sz) := by
  refine Met.ofW (cc := cX0_strayTicks) (maxL := 1) (ret := (some .int)) (by decide +kernel) rfl ?_
  intro p e s m args below meth c s₁ B hml hv
  obtain ⟨rfl, hsz, hP, hK, hD0, hZ, hN⟩ := hv
  have hx := B.exec
  have hb := B.bytes
  have hr := B.returns
  have hts := atoms_spec (ws := wsX0_strayTicks) B.pre
  have hown : s.vm.findClass RX0 = some m.cls := findClass_of_methodNamed B.named
  have hlocks := B.notSynchronized
  have hiX0 : ∀ w ∈ u_ws RX0 TX0 12, w ∈ wsX0_strayTicks := by decide +kernel
  subst hsz
  have hD := hD0.self (sz := s.heap.size)
  generalize hAe : va_A [(h0, .inr (0, [.ref qx, .ref qy, .int ht, .int cx, .int cy, .int lf, .long sq, .int ln, .int of, .int sr, .int fx, .int fy]))] s.heap.size = A at hD hZ ⊢
  have hA : ∀ q : Nat, s.heap.size ≤ q → A q := fun q h => by rw [← hAe]; exact Or.inr h
  have hl := lv_entry ([.ref h0]) (n := 1) (Nat.le_of_ble_eq_true rfl)
  rw [lg_entry_eq]
  generalize (lg_sl ([.ref h0]) ++ List.replicate (1 - (lg_sl ([.ref h0])).length) Slot.unset).toArray = ls at hl ⊢
  have hl : lv_has ls 1 [(0, .ref h0)] := hl
  generalize hHe : s.heap = H at hP ⊢
  have hS : va_S A s.heap H [] := by rw [hHe]; exact va_S.rf
  generalize ([] : List Loc) = locs at hS ⊢
  refine lv_aload_n hx hb dX0_strayTicks_0 rfl (lv_at hl 0 rfl) ?_
  refine va_get (D := (dC, dI)) (ci := 0) (v := .int sr) (C := RX0) (T := TX0) (N := 12) hx hb hts hiX0 hown hK hP 0 rfl rfl 9 (by decide) (hts (.fieldLink RX0 42 "TickWalks$Arc" "strays" "I") (List.mem_of_getElem? (l := wsX0_strayTicks) (i := 1) rfl)) (fun _ h9 => h9) rfl dX0_strayTicks_1 ?_
  have hP9 := hP.sub (ws' := [(h0, .inr (0, [.ref qx, .ref qy, .int ht, .int cx, .int cy, .int lf, .long sq, .int ln, .int of, .int sr, .int fx, .int fy]))]) [0] rfl
  have hD9 := hD.sub (ws' := [(h0, .inr (0, [.ref qx, .ref qy, .int ht, .int cx, .int cy, .int lf, .long sq, .int ln, .int of, .int sr, .int fx, .int fy]))]) [0] (by decide) rfl
  exact W.iret (v := sr) hx hb hr (fun t9 ht9 hW9 => ⟨⟨sr, (), rfl, rfl, by rw [ht9]; exact hP9, hD9⟩, hS.F ht9⟩) hS.2.2 dX0_strayTicks_4
