set_option maxHeartbeats 4000000 in
set_option maxRecDepth 100000 in
/-- Arc.squareFromCentre -/
theorem ar_sq (l : Launch) (dC : Nat → ClassId) (dI : Nat → Nat → Nat) (cA cB : ClassId) (sz : Nat) (h0 : Nat) (qx : Nat) (qy : Nat) (ht : Int32) (cx : Int32) (cy : Int32) (lf : Int32) (sq : Int64) (ln : Int32) (of : Int32) (sr : Int32) (fx : Int32) (fy : Int32) : Met l yX0_squareFromCentre wsX0_squareFromCentre ({ frames := 0, cells := 0, slots := 0, locals := 0 }) (va_Pc [.ref h0] (ct_P dC dI cA cB sz [(h0, .inr (0, [.ref qx, .ref qy, .int ht, .int cx, .int cy, .int lf, .long sq, .int ln, .int of, .int sr, .int fx, .int fy]))])) (va_Ql (fun (r : Int64) (u : Unit) => r = sq_c fx cx fy cy) (fun (u : Unit) => ct_B dC dI (va_A [(h0, .inr (0, [.ref qx, .ref qy, .int ht, .int cx, .int cy, .int lf, .long sq, .int ln, .int of, .int sr, .int fx, .int fy]))] sz) [(h0, .inr (0, [.ref qx, .ref qy, .int ht, .int cx, .int cy, .int lf, .long sq, .int ln, .int of, .int sr, .int fx, .int fy]))]) (va_A [(h0, .inr (0, [.ref qx, .ref qy, .int ht, .int cx, .int cy, .int lf, .long sq, .int ln, .int of, .int sr, .int fx, .int fy]))] sz)) 0 0 (va_A [(h0, .inr (0, [.ref qx, .ref qy, .int ht, .int cx, .int cy, .int lf, .long sq, .int ln, .int of, .int sr, .int fx, .int fy]))] sz) := by
  refine Met.ofW (cc := cX0_squareFromCentre) (maxL := 5) (ret := (some .long)) (by decide +kernel) rfl ?_
  intro p e s m args below meth c s₁ B hml hv
  obtain ⟨rfl, hsz, hP, hK, hD0, hZ, hN⟩ := hv
  have hx := B.exec
  have hb := B.bytes
  have hr := B.returns
  have hts := atoms_spec (ws := wsX0_squareFromCentre) B.pre
  have hown : s.vm.findClass RX0 = some m.cls := findClass_of_methodNamed B.named
  have hlocks := B.notSynchronized
  have hiX0 : ∀ w ∈ u_ws RX0 TX0 12, w ∈ wsX0_squareFromCentre := by decide +kernel
  subst hsz
  have hD := hD0.self (sz := s.heap.size)
  generalize hAe : va_A [(h0, .inr (0, [.ref qx, .ref qy, .int ht, .int cx, .int cy, .int lf, .long sq, .int ln, .int of, .int sr, .int fx, .int fy]))] s.heap.size = A at hD hZ ⊢
  have hA : ∀ q : Nat, s.heap.size ≤ q → A q := fun q h => by rw [← hAe]; exact Or.inr h
  have hl := lv_entry ([.ref h0]) (n := 5) (Nat.le_of_ble_eq_true rfl)
  rw [lg_entry_eq]
  generalize (lg_sl ([.ref h0]) ++ List.replicate (5 - (lg_sl ([.ref h0])).length) Slot.unset).toArray = ls at hl ⊢
  have hl : lv_has ls 5 [(0, .ref h0)] := hl
  generalize hHe : s.heap = H at hP ⊢
  have hS : va_S A s.heap H [] := by rw [hHe]; exact va_S.rf
  generalize ([] : List Loc) = locs at hS ⊢
  refine lv_aload_n hx hb dX0_squareFromCentre_0 rfl (lv_at hl 0 rfl) ?_
  refine va_get (D := (dC, dI)) (ci := 0) (v := .int fx) (C := RX0) (T := TX0) (N := 12) hx hb hts hiX0 hown hK hP 0 rfl rfl 10 (by decide) (hts (.fieldLink RX0 45 "TickWalks$Arc" "footX" "I") (List.mem_of_getElem? (l := wsX0_squareFromCentre) (i := 1) rfl)) (fun _ h9 => h9) rfl dX0_squareFromCentre_1 ?_
  refine lv_aload_n hx hb dX0_squareFromCentre_4 rfl (lv_at hl 0 rfl) ?_
  refine va_get (D := (dC, dI)) (ci := 0) (v := .int cx) (C := RX0) (T := TX0) (N := 12) hx hb hts hiX0 hown hK hP 0 rfl rfl 3 (by decide) (hts (.fieldLink RX0 22 "TickWalks$Arc" "centreX" "I") (List.mem_of_getElem? (l := wsX0_squareFromCentre) (i := 2) rfl)) (fun _ h9 => h9) rfl dX0_squareFromCentre_5 ?_
  refine lv_isub hx hb dX0_squareFromCentre_8 ?_
  refine lv_i2l hx hb dX0_squareFromCentre_9 rfl ?_
  refine lv_lstore_n (lv' := [(1, .long ((fx - cx).toInt64)), (0, .ref h0)]) hx hb dX0_squareFromCentre_10 rfl hl (by decide) rfl (fun ls hl => ?_)
  refine lv_aload_n hx hb dX0_squareFromCentre_11 rfl (lv_at hl 1 rfl) ?_
  refine va_get (D := (dC, dI)) (ci := 0) (v := .int fy) (C := RX0) (T := TX0) (N := 12) hx hb hts hiX0 hown hK hP 0 rfl rfl 11 (by decide) (hts (.fieldLink RX0 48 "TickWalks$Arc" "footY" "I") (List.mem_of_getElem? (l := wsX0_squareFromCentre) (i := 3) rfl)) (fun _ h9 => h9) rfl dX0_squareFromCentre_12 ?_
  refine lv_aload_n hx hb dX0_squareFromCentre_15 rfl (lv_at hl 1 rfl) ?_
  refine va_get (D := (dC, dI)) (ci := 0) (v := .int cy) (C := RX0) (T := TX0) (N := 12) hx hb hts hiX0 hown hK hP 0 rfl rfl 4 (by decide) (hts (.fieldLink RX0 25 "TickWalks$Arc" "centreY" "I") (List.mem_of_getElem? (l := wsX0_squareFromCentre) (i := 4) rfl)) (fun _ h9 => h9) rfl dX0_squareFromCentre_16 ?_
  refine lv_isub hx hb dX0_squareFromCentre_19 ?_
  refine lv_i2l hx hb dX0_squareFromCentre_20 rfl ?_
  refine lv_lstore_n (lv' := [(3, .long ((fy - cy).toInt64)), (1, .long ((fx - cx).toInt64)), (0, .ref h0)]) hx hb dX0_squareFromCentre_21 rfl hl (by decide) rfl (fun ls hl => ?_)
  refine lv_lload_n hx hb dX0_squareFromCentre_22 rfl (lv_at hl 1 rfl) ?_
  refine lv_lload_n hx hb dX0_squareFromCentre_23 rfl (lv_at hl 1 rfl) ?_
  refine lv_lmul hx hb dX0_squareFromCentre_24 ?_
  refine lv_lload_n hx hb dX0_squareFromCentre_25 rfl (lv_at hl 0 rfl) ?_
  refine lv_lload_n hx hb dX0_squareFromCentre_26 rfl (lv_at hl 0 rfl) ?_
  refine lv_lmul hx hb dX0_squareFromCentre_27 ?_
  refine lv_ladd hx hb dX0_squareFromCentre_28 ?_
  have hP9 := hP.sub (ws' := [(h0, .inr (0, [.ref qx, .ref qy, .int ht, .int cx, .int cy, .int lf, .long sq, .int ln, .int of, .int sr, .int fx, .int fy]))]) [0] rfl
  have hD9 := hD.sub (ws' := [(h0, .inr (0, [.ref qx, .ref qy, .int ht, .int cx, .int cy, .int lf, .long sq, .int ln, .int of, .int sr, .int fx, .int fy]))]) [0] (by decide) rfl
  exact W.lret (v := (((fx - cx).toInt64) * ((fx - cx).toInt64)) + (((fy - cy).toInt64) * ((fy - cy).toInt64))) hx hb hr (fun t9 ht9 hW9 => ⟨⟨(((fx - cx).toInt64) * ((fx - cx).toInt64)) + (((fy - cy).toInt64) * ((fy - cy).toInt64)), (), rfl, rfl, by rw [ht9]; exact hP9, hD9⟩, hS.F ht9⟩) hS.2.2 dX0_squareFromCentre_29
set_option maxHeartbeats 4000000 in
set_option maxRecDepth 100000 in
/-- Arc.mark -/
theorem ar_mark (l : Launch) (dC : Nat → ClassId) (dI : Nat → Nat → Nat) (cA cB : ClassId) (sz : Nat) (h0 : Nat) (qx : Nat) (qy : Nat) (ht : Int32) (cx : Int32) (cy : Int32) (lf : Int32) (sq : Int64) (ln : Int32) (of : Int32) (sr : Int32) (fx : Int32) (fy : Int32) (mx : Nat → Int32) (my : Nat → Int32) (j : Nat) (hj : j ≤ 40000) : Met l yX0_mark wsX0_mark ({ frames := 0, cells := 0, slots := 0, locals := 0 }) (va_Pc [.ref h0, .int (nI j)] (ct_P dC dI cA cB sz [(h0, .inr (0, [.ref qx, .ref qy, .int ht, .int cx, .int cy, .int lf, .long sq, .int ln, .int of, .int sr, .int fx, .int fy])), (qx, .inl (cA, 401, .inl mx)), (qy, .inl (cA, 401, .inl my))])) (va_Qv (fun (u : (Nat → Int32) × (Nat → Int32)) => u.1 = mk_u mx j fx ∧ u.2 = mk_u my j fy) (fun (u : (Nat → Int32) × (Nat → Int32)) => ct_B dC dI (va_A [(h0, .inr (0, [.ref qx, .ref qy, .int ht, .int cx, .int cy, .int lf, .long sq, .int ln, .int of, .int sr, .int fx, .int fy])), (qx, .inl (cA, 401, .inl mx)), (qy, .inl (cA, 401, .inl my))] sz) [(h0, .inr (0, [.ref qx, .ref qy, .int ht, .int cx, .int cy, .int lf, .long sq, .int ln, .int of, .int sr, .int fx, .int fy])), (qx, .inl (cA, 401, .inl u.1)), (qy, .inl (cA, 401, .inl u.2))]) (va_A [(h0, .inr (0, [.ref qx, .ref qy, .int ht, .int cx, .int cy, .int lf, .long sq, .int ln, .int of, .int sr, .int fx, .int fy])), (qx, .inl (cA, 401, .inl mx)), (qy, .inl (cA, 401, .inl my))] sz)) 0 0 (va_A [(h0, .inr (0, [.ref qx, .ref qy, .int ht, .int cx, .int cy, .int lf, .long sq, .int ln, .int of, .int sr, .int fx, .int fy])), (qx, .inl (cA, 401, .inl mx)), (qy, .inl (cA, 401, .inl my))] sz) := by
  refine Met.ofW (cc := cX0_mark) (maxL := 3) (ret := none) (by decide +kernel) rfl ?_
  intro p e s m args below meth c s₁ B hml hv
  obtain ⟨rfl, hsz, hP, hK, hD0, hZ, hN⟩ := hv
  have hx := B.exec
  have hb := B.bytes
  have hr := B.returns
  have hts := atoms_spec (ws := wsX0_mark) B.pre
  have hown : s.vm.findClass RX0 = some m.cls := findClass_of_methodNamed B.named
  have hlocks := B.notSynchronized
  have hiX0 : ∀ w ∈ u_ws RX0 TX0 12, w ∈ wsX0_mark := by decide +kernel
  subst hsz
  have hD := hD0.self (sz := s.heap.size)
  generalize hAe : va_A [(h0, .inr (0, [.ref qx, .ref qy, .int ht, .int cx, .int cy, .int lf, .long sq, .int ln, .int of, .int sr, .int fx, .int fy])), (qx, .inl (cA, 401, .inl mx)), (qy, .inl (cA, 401, .inl my))] s.heap.size = A at hD hZ ⊢
  have hA : ∀ q : Nat, s.heap.size ≤ q → A q := fun q h => by rw [← hAe]; exact Or.inr h
  have hl := lv_entry ([.ref h0, .int (nI j)]) (n := 3) (Nat.le_of_ble_eq_true rfl)
  rw [lg_entry_eq]
  generalize (lg_sl ([.ref h0, .int (nI j)]) ++ List.replicate (3 - (lg_sl ([.ref h0, .int (nI j)])).length) Slot.unset).toArray = ls at hl ⊢
  have hl : lv_has ls 3 [(0, .ref h0), (1, .int (nI j))] := hl
  generalize hHe : s.heap = H at hP ⊢
  have hS : va_S A s.heap H [] := by rw [hHe]; exact va_S.rf
  generalize ([] : List Loc) = locs at hS ⊢
  refine lv_iload_n hx hb dX0_mark_0 rfl (lv_at hl 1 rfl) ?_
  refine lv_bipush (v := 100) hx hb dX0_mark_1 (by decide) ?_
  refine lv_idiv hx hb dX0_mark_3 (by decide) ?_
  refine ct_topi (y := nI (j / 100)) (pk_div (d := 100) (by omega) (by omega) (by omega)) ?_
  refine lv_istore_n (lv' := [(2, .int (nI (j / 100))), (0, .ref h0), (1, .int (nI j))]) hx hb dX0_mark_4 rfl hl (by decide) rfl (fun ls hl => ?_)
  refine lv_iload_n hx hb dX0_mark_5 rfl (lv_at hl 2 rfl) ?_
  refine lv_bipush (v := 100) hx hb dX0_mark_6 (by decide) ?_
  refine lv_irem hx hb dX0_mark_8 (by decide) ?_
  refine ct_topi (y := nI (j % 100)) (pk_rem (d := 100) (by omega) (by omega) (by omega)) ?_
  refine lv_if_ne (tgt := 43) hx hb dX0_mark_9 (by decide) (fun c_9 => ?_) (fun c_9 => ?_)
  · have hP9 := hP.sub (ws' := [(h0, .inr (0, [.ref qx, .ref qy, .int ht, .int cx, .int cy, .int lf, .long sq, .int ln, .int of, .int sr, .int fx, .int fy])), (qx, .inl (cA, 401, .inl mx)), (qy, .inl (cA, 401, .inl my))]) [0, 1, 2] rfl
    have hD9 := hD.sub (ws' := [(h0, .inr (0, [.ref qx, .ref qy, .int ht, .int cx, .int cy, .int lf, .long sq, .int ln, .int of, .int sr, .int fx, .int fy])), (qx, .inl (cA, 401, .inl mx)), (qy, .inl (cA, 401, .inl my))]) [0, 1, 2] (by decide) rfl
    exact W.vret hx hb hr (fun t9 ht9 hW9 => ⟨⟨(mx, my), rfl, (by have h9 : ¬ j % 100 = 0 := fun h => c_9 (by rw [h]; rfl); unfold mk_u; rw [if_neg h9, if_neg h9]; exact ⟨rfl, rfl⟩), by rw [ht9]; exact hP9, hD9⟩, hS.F ht9⟩) hS.2.2 dX0_mark_43
  · refine lv_iload_n hx hb dX0_mark_12 rfl (lv_at hl 0 rfl) ?_
    refine lv_if_lt (tgt := 43) hx hb dX0_mark_13 (by decide) (fun c_13 => ?_) (fun c_13 => ?_)
    · exact absurd c_13 (nI_pos (by omega))
    · refine lv_iload_n hx hb dX0_mark_16 rfl (lv_at hl 0 rfl) ?_
      refine lv_sipush (v := 401) hx hb dX0_mark_17 (by decide) ?_
      refine lv_icmp_ge (tgt := 43) hx hb dX0_mark_20 (by decide) (fun c_20 => ?_) (fun c_20 => ?_)
      · exact absurd c_20 (nI_ge (a := j / 100) (b := 401) (by omega) (by omega))
      · refine lv_aload_n hx hb dX0_mark_23 rfl (lv_at hl 1 rfl) ?_
        refine va_get (D := (dC, dI)) (ci := 0) (v := .ref qx) (C := RX0) (T := TX0) (N := 12) hx hb hts hiX0 hown hK hP 0 rfl rfl 0 (by decide) (hts (.fieldLink RX0 9 "TickWalks$Arc" "markX" "[I") (List.mem_of_getElem? (l := wsX0_mark) (i := 1) rfl)) (fun _ h9 => h9) rfl dX0_mark_24 ?_
        refine lv_iload_n hx hb dX0_mark_27 rfl (lv_at hl 0 rfl) ?_
        refine lv_aload_n hx hb dX0_mark_28 rfl (lv_at hl 1 rfl) ?_
        refine va_get (D := (dC, dI)) (ci := 0) (v := .int fx) (C := RX0) (T := TX0) (N := 12) hx hb hts hiX0 hown hK hP 0 rfl rfl 10 (by decide) (hts (.fieldLink RX0 45 "TickWalks$Arc" "footX" "I") (List.mem_of_getElem? (l := wsX0_mark) (i := 2) rfl)) (fun _ h9 => h9) rfl dX0_mark_29 ?_
        refine va_iast hx hb hK hP hD hS 1 0 rfl rfl (vp_in_nI (by omega) (by decide)) dX0_mark_32 (fun H locs hP hD hS => ?_)
        rw [(nI_clamp (show j / 100 < 2 ^ 31 by omega))] at hP hD
        have hP : va_P (dC, dI) vwCl [(h0, .inr (0, [.ref qx, .ref qy, .int ht, .int cx, .int cy, .int lf, .long sq, .int ln, .int of, .int sr, .int fx, .int fy])), (qx, .inl (cA, 401, .inl (upd mx (j / 100) fx))), (qy, .inl (cA, 401, .inl my))] H := hP
        have hD : va_D A [(h0, .inr (0, [.ref qx, .ref qy, .int ht, .int cx, .int cy, .int lf, .long sq, .int ln, .int of, .int sr, .int fx, .int fy])), (qx, .inl (cA, 401, .inl (upd mx (j / 100) fx))), (qy, .inl (cA, 401, .inl my))] := hD
        refine lv_aload_n hx hb dX0_mark_33 rfl (lv_at hl 1 rfl) ?_
        refine va_get (D := (dC, dI)) (ci := 0) (v := .ref qy) (C := RX0) (T := TX0) (N := 12) hx hb hts hiX0 hown hK hP 0 rfl rfl 1 (by decide) (hts (.fieldLink RX0 15 "TickWalks$Arc" "markY" "[I") (List.mem_of_getElem? (l := wsX0_mark) (i := 3) rfl)) (fun _ h9 => h9) rfl dX0_mark_34 ?_
        refine lv_iload_n hx hb dX0_mark_37 rfl (lv_at hl 0 rfl) ?_
        refine lv_aload_n hx hb dX0_mark_38 rfl (lv_at hl 1 rfl) ?_
        refine va_get (D := (dC, dI)) (ci := 0) (v := .int fy) (C := RX0) (T := TX0) (N := 12) hx hb hts hiX0 hown hK hP 0 rfl rfl 11 (by decide) (hts (.fieldLink RX0 48 "TickWalks$Arc" "footY" "I") (List.mem_of_getElem? (l := wsX0_mark) (i := 4) rfl)) (fun _ h9 => h9) rfl dX0_mark_39 ?_
        refine va_iast hx hb hK hP hD hS 2 0 rfl rfl (vp_in_nI (by omega) (by decide)) dX0_mark_42 (fun H locs hP hD hS => ?_)
        rw [(nI_clamp (show j / 100 < 2 ^ 31 by omega))] at hP hD
        have hP : va_P (dC, dI) vwCl [(h0, .inr (0, [.ref qx, .ref qy, .int ht, .int cx, .int cy, .int lf, .long sq, .int ln, .int of, .int sr, .int fx, .int fy])), (qx, .inl (cA, 401, .inl (upd mx (j / 100) fx))), (qy, .inl (cA, 401, .inl (upd my (j / 100) fy)))] H := hP
        have hD : va_D A [(h0, .inr (0, [.ref qx, .ref qy, .int ht, .int cx, .int cy, .int lf, .long sq, .int ln, .int of, .int sr, .int fx, .int fy])), (qx, .inl (cA, 401, .inl (upd mx (j / 100) fx))), (qy, .inl (cA, 401, .inl (upd my (j / 100) fy)))] := hD
        have hP9 := hP.sub (ws' := [(h0, .inr (0, [.ref qx, .ref qy, .int ht, .int cx, .int cy, .int lf, .long sq, .int ln, .int of, .int sr, .int fx, .int fy])), (qx, .inl (cA, 401, .inl (upd mx (j / 100) fx))), (qy, .inl (cA, 401, .inl (upd my (j / 100) fy)))]) [0, 1, 2] rfl
        have hD9 := hD.sub (ws' := [(h0, .inr (0, [.ref qx, .ref qy, .int ht, .int cx, .int cy, .int lf, .long sq, .int ln, .int of, .int sr, .int fx, .int fy])), (qx, .inl (cA, 401, .inl (upd mx (j / 100) fx))), (qy, .inl (cA, 401, .inl (upd my (j / 100) fy)))]) [0, 1, 2] (by decide) rfl
        exact W.vret hx hb hr (fun t9 ht9 hW9 => ⟨⟨(upd mx (j / 100) fx, upd my (j / 100) fy), rfl, (by have h9 : j % 100 = 0 := (nI_eq (b := 0) (by omega) (by omega)).mp c_9; unfold mk_u; rw [if_pos h9, if_pos h9]; exact ⟨rfl, rfl⟩), by rw [ht9]; exact hP9, hD9⟩, hS.F ht9⟩) hS.2.2 dX0_mark_43
set_option maxHeartbeats 4000000 in
set_option maxRecDepth 100000 in
/-- Arc.begin -/
theorem ar_begin (l : Launch) (dC : Nat → ClassId) (dI : Nat → Nat → Nat) (cA cB : ClassId) (sz : Nat) (h0 : Nat) (qx : Nat) (qy : Nat) (ht : Int32) (cx : Int32) (cy : Int32) (lf : Int32) (sq : Int64) (ln : Int32) (of : Int32) (sr : Int32) (fx : Int32) (fy : Int32) (mx : Nat → Int32) (my : Nat → Int32) (qs : Nat) (sv : Nat → Int32) (ax : Int32) (ay : Int32) (al : Int32) (hal : al = 0 ∨ al = 1) : Met l yX0_begin wsX0_begin ({ frames := 1, cells := 0, slots := 0, locals := 24 }) (va_Pc [.ref h0, .ref qs, .int ax, .int ay, .int al] (ct_P dC dI cA cB sz [(h0, .inr (0, [.ref qx, .ref qy, .int ht, .int cx, .int cy, .int lf, .long sq, .int ln, .int of, .int sr, .int fx, .int fy])), (qx, .inl (cA, 401, .inl mx)), (qy, .inl (cA, 401, .inl my)), (qs, .inl (cA, 3, .inl sv))])) (va_Qv (fun (u : (Nat → Int32) × (Nat → Int32) × Int64) => u.1 = upd mx 0 (sv 0) ∧ u.2.1 = upd my 0 (sv 1) ∧ u.2.2 = sq_c (sv 0) ax (sv 1) ay) (fun (u : (Nat → Int32) × (Nat → Int32) × Int64) => ct_B dC dI (va_A [(h0, .inr (0, [.ref qx, .ref qy, .int ht, .int cx, .int cy, .int lf, .long sq, .int ln, .int of, .int sr, .int fx, .int fy])), (qx, .inl (cA, 401, .inl mx)), (qy, .inl (cA, 401, .inl my)), (qs, .inl (cA, 3, .inl sv))] sz) [(h0, .inr (0, [.ref qx, .ref qy, .int (sv 2), .int ax, .int ay, .int al, .long u.2.2, .int 0, .int 0, .int 0, .int (sv 0), .int (sv 1)])), (qx, .inl (cA, 401, .inl u.1)), (qy, .inl (cA, 401, .inl u.2.1)), (qs, .inl (cA, 3, .inl sv))]) (va_A [(h0, .inr (0, [.ref qx, .ref qy, .int ht, .int cx, .int cy, .int lf, .long sq, .int ln, .int of, .int sr, .int fx, .int fy])), (qx, .inl (cA, 401, .inl mx)), (qy, .inl (cA, 401, .inl my)), (qs, .inl (cA, 3, .inl sv))] sz)) 0 0 (va_A [(h0, .inr (0, [.ref qx, .ref qy, .int ht, .int cx, .int cy, .int lf, .long sq, .int ln, .int of, .int sr, .int fx, .int fy])), (qx, .inl (cA, 401, .inl mx)), (qy, .inl (cA, 401, .inl my)), (qs, .inl (cA, 3, .inl sv))] sz) := by
  refine Met.ofW (cc := cX0_begin) (maxL := 5) (ret := none) (by decide +kernel) rfl ?_
  intro p e s m args below meth c s₁ B hml hv
  obtain ⟨rfl, hsz, hP, hK, hD0, hZ, hN⟩ := hv
  have hx := B.exec
  have hb := B.bytes
  have hr := B.returns
  have hts := atoms_spec (ws := wsX0_begin) B.pre
  have hown : s.vm.findClass RX0 = some m.cls := findClass_of_methodNamed B.named
  have hlocks := B.notSynchronized
  have hiX0 : ∀ w ∈ u_ws RX0 TX0 12, w ∈ wsX0_begin := by decide +kernel
  subst hsz
  have hD := hD0.self (sz := s.heap.size)
  generalize hAe : va_A [(h0, .inr (0, [.ref qx, .ref qy, .int ht, .int cx, .int cy, .int lf, .long sq, .int ln, .int of, .int sr, .int fx, .int fy])), (qx, .inl (cA, 401, .inl mx)), (qy, .inl (cA, 401, .inl my)), (qs, .inl (cA, 3, .inl sv))] s.heap.size = A at hD hZ ⊢
  have hA : ∀ q : Nat, s.heap.size ≤ q → A q := fun q h => by rw [← hAe]; exact Or.inr h
  have hl := lv_entry ([.ref h0, .ref qs, .int ax, .int ay, .int al]) (n := 5) (Nat.le_of_ble_eq_true rfl)
  rw [lg_entry_eq]
  generalize (lg_sl ([.ref h0, .ref qs, .int ax, .int ay, .int al]) ++ List.replicate (5 - (lg_sl ([.ref h0, .ref qs, .int ax, .int ay, .int al])).length) Slot.unset).toArray = ls at hl ⊢
  have hl : lv_has ls 5 [(0, .ref h0), (1, .ref qs), (2, .int ax), (3, .int ay), (4, .int al)] := hl
  generalize hHe : s.heap = H at hP ⊢
  have hS : va_S A s.heap H [] := by rw [hHe]; exact va_S.rf
  generalize ([] : List Loc) = locs at hS ⊢
  refine lv_aload_n hx hb dX0_begin_0 rfl (lv_at hl 0 rfl) ?_
  refine lv_aload_n hx hb dX0_begin_1 rfl (lv_at hl 1 rfl) ?_
  refine lv_iconst (v := 0) hx hb dX0_begin_2 (by decide) ?_
  refine va_iald hx hb hK hP 3 0 rfl rfl (show vp_in 0 3 by unfold vp_in; decide) dX0_begin_3 ?_
  refine ct_topi (y := sv 0) (congrArg sv (show Int32.toNatClampNeg 0 = 0 by decide)) ?_
  refine va_put (D := (dC, dI)) (ci := 0) (v := .int (sv 0)) (ty := .int) (C := RX0) (T := TX0) (N := 12) hx hb hts hiX0 tyX0 tyX0_ok nmX0 hown hK hP hD hS 0 rfl rfl 10 (by decide) (hts (.fieldLink RX0 45 "TickWalks$Arc" "footX" "I") (List.mem_of_getElem? (l := wsX0_begin) (i := 1) rfl)) (fun _ h9 => h9) rfl (by decide +kernel) rfl rfl (Nat.le_of_ble_eq_true rfl) dX0_begin_4 (fun H locs hP hD hS => ?_)
  have hP : va_P (dC, dI) vwCl [(h0, .inr (0, [.ref qx, .ref qy, .int ht, .int cx, .int cy, .int lf, .long sq, .int ln, .int of, .int sr, .int (sv 0), .int fy])), (qx, .inl (cA, 401, .inl mx)), (qy, .inl (cA, 401, .inl my)), (qs, .inl (cA, 3, .inl sv))] H := hP
  have hD : va_D A [(h0, .inr (0, [.ref qx, .ref qy, .int ht, .int cx, .int cy, .int lf, .long sq, .int ln, .int of, .int sr, .int (sv 0), .int fy])), (qx, .inl (cA, 401, .inl mx)), (qy, .inl (cA, 401, .inl my)), (qs, .inl (cA, 3, .inl sv))] := hD
  refine lv_aload_n hx hb dX0_begin_7 rfl (lv_at hl 0 rfl) ?_
  refine lv_aload_n hx hb dX0_begin_8 rfl (lv_at hl 1 rfl) ?_
  refine lv_iconst (v := 1) hx hb dX0_begin_9 (by decide) ?_
  refine va_iald hx hb hK hP 3 0 rfl rfl (show vp_in 1 3 by unfold vp_in; decide) dX0_begin_10 ?_
  refine ct_topi (y := sv 1) (congrArg sv (show Int32.toNatClampNeg 1 = 1 by decide)) ?_
  refine va_put (D := (dC, dI)) (ci := 0) (v := .int (sv 1)) (ty := .int) (C := RX0) (T := TX0) (N := 12) hx hb hts hiX0 tyX0 tyX0_ok nmX0 hown hK hP hD hS 0 rfl rfl 11 (by decide) (hts (.fieldLink RX0 48 "TickWalks$Arc" "footY" "I") (List.mem_of_getElem? (l := wsX0_begin) (i := 2) rfl)) (fun _ h9 => h9) rfl (by decide +kernel) rfl rfl (Nat.le_of_ble_eq_true rfl) dX0_begin_11 (fun H locs hP hD hS => ?_)
  have hP : va_P (dC, dI) vwCl [(h0, .inr (0, [.ref qx, .ref qy, .int ht, .int cx, .int cy, .int lf, .long sq, .int ln, .int of, .int sr, .int (sv 0), .int (sv 1)])), (qx, .inl (cA, 401, .inl mx)), (qy, .inl (cA, 401, .inl my)), (qs, .inl (cA, 3, .inl sv))] H := hP
  have hD : va_D A [(h0, .inr (0, [.ref qx, .ref qy, .int ht, .int cx, .int cy, .int lf, .long sq, .int ln, .int of, .int sr, .int (sv 0), .int (sv 1)])), (qx, .inl (cA, 401, .inl mx)), (qy, .inl (cA, 401, .inl my)), (qs, .inl (cA, 3, .inl sv))] := hD
  refine lv_aload_n hx hb dX0_begin_14 rfl (lv_at hl 0 rfl) ?_
  refine lv_aload_n hx hb dX0_begin_15 rfl (lv_at hl 1 rfl) ?_
  refine lv_iconst (v := 2) hx hb dX0_begin_16 (by decide) ?_
  refine va_iald hx hb hK hP 3 0 rfl rfl (show vp_in 2 3 by unfold vp_in; decide) dX0_begin_17 ?_
  refine ct_topi (y := sv 2) (congrArg sv (show Int32.toNatClampNeg 2 = 2 by decide)) ?_
  refine va_put (D := (dC, dI)) (ci := 0) (v := .int (sv 2)) (ty := .int) (C := RX0) (T := TX0) (N := 12) hx hb hts hiX0 tyX0 tyX0_ok nmX0 hown hK hP hD hS 0 rfl rfl 2 (by decide) (hts (.fieldLink RX0 18 "TickWalks$Arc" "height" "I") (List.mem_of_getElem? (l := wsX0_begin) (i := 3) rfl)) (fun _ h9 => h9) rfl (by decide +kernel) rfl rfl (Nat.le_of_ble_eq_true rfl) dX0_begin_18 (fun H locs hP hD hS => ?_)
  have hP : va_P (dC, dI) vwCl [(h0, .inr (0, [.ref qx, .ref qy, .int (sv 2), .int cx, .int cy, .int lf, .long sq, .int ln, .int of, .int sr, .int (sv 0), .int (sv 1)])), (qx, .inl (cA, 401, .inl mx)), (qy, .inl (cA, 401, .inl my)), (qs, .inl (cA, 3, .inl sv))] H := hP
  have hD : va_D A [(h0, .inr (0, [.ref qx, .ref qy, .int (sv 2), .int cx, .int cy, .int lf, .long sq, .int ln, .int of, .int sr, .int (sv 0), .int (sv 1)])), (qx, .inl (cA, 401, .inl mx)), (qy, .inl (cA, 401, .inl my)), (qs, .inl (cA, 3, .inl sv))] := hD
  refine lv_aload_n hx hb dX0_begin_21 rfl (lv_at hl 0 rfl) ?_
  refine lv_iload_n hx hb dX0_begin_22 rfl (lv_at hl 2 rfl) ?_
  refine va_put (D := (dC, dI)) (ci := 0) (v := .int ax) (ty := .int) (C := RX0) (T := TX0) (N := 12) hx hb hts hiX0 tyX0 tyX0_ok nmX0 hown hK hP hD hS 0 rfl rfl 3 (by decide) (hts (.fieldLink RX0 22 "TickWalks$Arc" "centreX" "I") (List.mem_of_getElem? (l := wsX0_begin) (i := 4) rfl)) (fun _ h9 => h9) rfl (by decide +kernel) rfl rfl (Nat.le_of_ble_eq_true rfl) dX0_begin_23 (fun H locs hP hD hS => ?_)
  have hP : va_P (dC, dI) vwCl [(h0, .inr (0, [.ref qx, .ref qy, .int (sv 2), .int ax, .int cy, .int lf, .long sq, .int ln, .int of, .int sr, .int (sv 0), .int (sv 1)])), (qx, .inl (cA, 401, .inl mx)), (qy, .inl (cA, 401, .inl my)), (qs, .inl (cA, 3, .inl sv))] H := hP
  have hD : va_D A [(h0, .inr (0, [.ref qx, .ref qy, .int (sv 2), .int ax, .int cy, .int lf, .long sq, .int ln, .int of, .int sr, .int (sv 0), .int (sv 1)])), (qx, .inl (cA, 401, .inl mx)), (qy, .inl (cA, 401, .inl my)), (qs, .inl (cA, 3, .inl sv))] := hD
  refine lv_aload_n hx hb dX0_begin_26 rfl (lv_at hl 0 rfl) ?_
  refine lv_iload_n hx hb dX0_begin_27 rfl (lv_at hl 3 rfl) ?_
  refine va_put (D := (dC, dI)) (ci := 0) (v := .int ay) (ty := .int) (C := RX0) (T := TX0) (N := 12) hx hb hts hiX0 tyX0 tyX0_ok nmX0 hown hK hP hD hS 0 rfl rfl 4 (by decide) (hts (.fieldLink RX0 25 "TickWalks$Arc" "centreY" "I") (List.mem_of_getElem? (l := wsX0_begin) (i := 5) rfl)) (fun _ h9 => h9) rfl (by decide +kernel) rfl rfl (Nat.le_of_ble_eq_true rfl) dX0_begin_28 (fun H locs hP hD hS => ?_)
  have hP : va_P (dC, dI) vwCl [(h0, .inr (0, [.ref qx, .ref qy, .int (sv 2), .int ax, .int ay, .int lf, .long sq, .int ln, .int of, .int sr, .int (sv 0), .int (sv 1)])), (qx, .inl (cA, 401, .inl mx)), (qy, .inl (cA, 401, .inl my)), (qs, .inl (cA, 3, .inl sv))] H := hP
  have hD : va_D A [(h0, .inr (0, [.ref qx, .ref qy, .int (sv 2), .int ax, .int ay, .int lf, .long sq, .int ln, .int of, .int sr, .int (sv 0), .int (sv 1)])), (qx, .inl (cA, 401, .inl mx)), (qy, .inl (cA, 401, .inl my)), (qs, .inl (cA, 3, .inl sv))] := hD
  refine lv_aload_n hx hb dX0_begin_31 rfl (lv_at hl 0 rfl) ?_
  refine lv_iload hx hb dX0_begin_32 (lv_at hl 4 rfl) ?_
  refine va_put (D := (dC, dI)) (ci := 0) (v := .int al) (ty := .boolean) (C := RX0) (T := TX0) (N := 12) hx hb hts hiX0 tyX0 tyX0_ok nmX0 hown hK hP hD hS 0 rfl rfl 5 (by decide) (hts (.fieldLink RX0 28 "TickWalks$Arc" "left" "Z") (List.mem_of_getElem? (l := wsX0_begin) (i := 6) rfl)) (fun _ h9 => h9) rfl (by decide +kernel) (by rcases hal with h | h <;> rw [h] <;> rfl) (by rcases hal with h | h <;> rw [h] <;> rfl) (Nat.le_of_ble_eq_true rfl) dX0_begin_34 (fun H locs hP hD hS => ?_)
  have hP : va_P (dC, dI) vwCl [(h0, .inr (0, [.ref qx, .ref qy, .int (sv 2), .int ax, .int ay, .int al, .long sq, .int ln, .int of, .int sr, .int (sv 0), .int (sv 1)])), (qx, .inl (cA, 401, .inl mx)), (qy, .inl (cA, 401, .inl my)), (qs, .inl (cA, 3, .inl sv))] H := hP
  have hD : va_D A [(h0, .inr (0, [.ref qx, .ref qy, .int (sv 2), .int ax, .int ay, .int al, .long sq, .int ln, .int of, .int sr, .int (sv 0), .int (sv 1)])), (qx, .inl (cA, 401, .inl mx)), (qy, .inl (cA, 401, .inl my)), (qs, .inl (cA, 3, .inl sv))] := hD
  refine lv_aload_n hx hb dX0_begin_37 rfl (lv_at hl 0 rfl) ?_
  refine lv_aload_n hx hb dX0_begin_38 rfl (lv_at hl 0 rfl) ?_
  refine ct_calll (va_runV (As := []) (rest := [.ref h0]) ⟨hx, hb, hml, hown, hts⟩ (ar_sq l dC dI cA cB H.size h0 qx qy (sv 2) ax ay al sq ln of sr (sv 0) (sv 1) ) (cwV 0 hts gX0_begin_X0_squareFromCentre rfl rfl rfl (by decide +kernel) ⟨Nat.le_of_ble_eq_true rfl, Nat.le_of_ble_eq_true rfl⟩) ⟨ct_blind, va_recv hK hP (ci := 0) (q0 := 0) rfl rfl, ct_pre hP hD hK hZ hN hS hA [0] rfl (by decide)⟩ rfl rfl hl.1 rfl (lv_room (Nat.le_of_ble_eq_true rfl)) dX0_begin_39 ⟨Nat.le_of_ble_eq_true rfl, Nat.le_of_ble_eq_true rfl⟩) hP hD hS hA [0] [1, 2, 3] rfl (wr := [(qx, .inl (cA, 401, .inl mx)), (qy, .inl (cA, 401, .inl my)), (qs, .inl (cA, 3, .inl sv))]) rfl (by decide) (by decide) (fun r_1 u9 H locs hw_1 hP hD hS => ?_)
  have hw_1 : r_1 = sq_c (sv 0) ax (sv 1) ay := hw_1
  have hP : va_P (dC, dI) vwCl [(qx, .inl (cA, 401, .inl mx)), (qy, .inl (cA, 401, .inl my)), (qs, .inl (cA, 3, .inl sv)), (h0, .inr (0, [.ref qx, .ref qy, .int (sv 2), .int ax, .int ay, .int al, .long sq, .int ln, .int of, .int sr, .int (sv 0), .int (sv 1)]))] H := hP
  have hD : va_D A [(qx, .inl (cA, 401, .inl mx)), (qy, .inl (cA, 401, .inl my)), (qs, .inl (cA, 3, .inl sv)), (h0, .inr (0, [.ref qx, .ref qy, .int (sv 2), .int ax, .int ay, .int al, .long sq, .int ln, .int of, .int sr, .int (sv 0), .int (sv 1)]))] := hD
  refine va_put (D := (dC, dI)) (ci := 0) (v := .long r_1) (ty := .long) (C := RX0) (T := TX0) (N := 12) hx hb hts hiX0 tyX0 tyX0_ok nmX0 hown hK hP hD hS 3 rfl rfl 6 (by decide) (hts (.fieldLink RX0 32 "TickWalks$Arc" "square" "J") (List.mem_of_getElem? (l := wsX0_begin) (i := 7) rfl)) (fun _ h9 => h9) rfl (by decide +kernel) rfl rfl (Nat.le_of_ble_eq_true rfl) dX0_begin_42 (fun H locs hP hD hS => ?_)
  have hP : va_P (dC, dI) vwCl [(qx, .inl (cA, 401, .inl mx)), (qy, .inl (cA, 401, .inl my)), (qs, .inl (cA, 3, .inl sv)), (h0, .inr (0, [.ref qx, .ref qy, .int (sv 2), .int ax, .int ay, .int al, .long r_1, .int ln, .int of, .int sr, .int (sv 0), .int (sv 1)]))] H := hP
  have hD : va_D A [(qx, .inl (cA, 401, .inl mx)), (qy, .inl (cA, 401, .inl my)), (qs, .inl (cA, 3, .inl sv)), (h0, .inr (0, [.ref qx, .ref qy, .int (sv 2), .int ax, .int ay, .int al, .long r_1, .int ln, .int of, .int sr, .int (sv 0), .int (sv 1)]))] := hD
  refine lv_aload_n hx hb dX0_begin_45 rfl (lv_at hl 0 rfl) ?_
  refine lv_iconst (v := 0) hx hb dX0_begin_46 (by decide) ?_
  refine va_put (D := (dC, dI)) (ci := 0) (v := .int 0) (ty := .int) (C := RX0) (T := TX0) (N := 12) hx hb hts hiX0 tyX0 tyX0_ok nmX0 hown hK hP hD hS 3 rfl rfl 7 (by decide) (hts (.fieldLink RX0 36 "TickWalks$Arc" "length" "I") (List.mem_of_getElem? (l := wsX0_begin) (i := 8) rfl)) (fun _ h9 => h9) rfl (by decide +kernel) rfl rfl (Nat.le_of_ble_eq_true rfl) dX0_begin_47 (fun H locs hP hD hS => ?_)
  have hP : va_P (dC, dI) vwCl [(qx, .inl (cA, 401, .inl mx)), (qy, .inl (cA, 401, .inl my)), (qs, .inl (cA, 3, .inl sv)), (h0, .inr (0, [.ref qx, .ref qy, .int (sv 2), .int ax, .int ay, .int al, .long r_1, .int 0, .int of, .int sr, .int (sv 0), .int (sv 1)]))] H := hP
  have hD : va_D A [(qx, .inl (cA, 401, .inl mx)), (qy, .inl (cA, 401, .inl my)), (qs, .inl (cA, 3, .inl sv)), (h0, .inr (0, [.ref qx, .ref qy, .int (sv 2), .int ax, .int ay, .int al, .long r_1, .int 0, .int of, .int sr, .int (sv 0), .int (sv 1)]))] := hD
  refine lv_aload_n hx hb dX0_begin_50 rfl (lv_at hl 0 rfl) ?_
  refine lv_iconst (v := 0) hx hb dX0_begin_51 (by decide) ?_
  refine va_put (D := (dC, dI)) (ci := 0) (v := .int 0) (ty := .int) (C := RX0) (T := TX0) (N := 12) hx hb hts hiX0 tyX0 tyX0_ok nmX0 hown hK hP hD hS 3 rfl rfl 8 (by decide) (hts (.fieldLink RX0 39 "TickWalks$Arc" "off" "I") (List.mem_of_getElem? (l := wsX0_begin) (i := 9) rfl)) (fun _ h9 => h9) rfl (by decide +kernel) rfl rfl (Nat.le_of_ble_eq_true rfl) dX0_begin_52 (fun H locs hP hD hS => ?_)
  have hP : va_P (dC, dI) vwCl [(qx, .inl (cA, 401, .inl mx)), (qy, .inl (cA, 401, .inl my)), (qs, .inl (cA, 3, .inl sv)), (h0, .inr (0, [.ref qx, .ref qy, .int (sv 2), .int ax, .int ay, .int al, .long r_1, .int 0, .int 0, .int sr, .int (sv 0), .int (sv 1)]))] H := hP
  have hD : va_D A [(qx, .inl (cA, 401, .inl mx)), (qy, .inl (cA, 401, .inl my)), (qs, .inl (cA, 3, .inl sv)), (h0, .inr (0, [.ref qx, .ref qy, .int (sv 2), .int ax, .int ay, .int al, .long r_1, .int 0, .int 0, .int sr, .int (sv 0), .int (sv 1)]))] := hD
  refine lv_aload_n hx hb dX0_begin_55 rfl (lv_at hl 0 rfl) ?_
  refine lv_iconst (v := 0) hx hb dX0_begin_56 (by decide) ?_
  refine va_put (D := (dC, dI)) (ci := 0) (v := .int 0) (ty := .int) (C := RX0) (T := TX0) (N := 12) hx hb hts hiX0 tyX0 tyX0_ok nmX0 hown hK hP hD hS 3 rfl rfl 9 (by decide) (hts (.fieldLink RX0 42 "TickWalks$Arc" "strays" "I") (List.mem_of_getElem? (l := wsX0_begin) (i := 10) rfl)) (fun _ h9 => h9) rfl (by decide +kernel) rfl rfl (Nat.le_of_ble_eq_true rfl) dX0_begin_57 (fun H locs hP hD hS => ?_)
  have hP : va_P (dC, dI) vwCl [(qx, .inl (cA, 401, .inl mx)), (qy, .inl (cA, 401, .inl my)), (qs, .inl (cA, 3, .inl sv)), (h0, .inr (0, [.ref qx, .ref qy, .int (sv 2), .int ax, .int ay, .int al, .long r_1, .int 0, .int 0, .int 0, .int (sv 0), .int (sv 1)]))] H := hP
  have hD : va_D A [(qx, .inl (cA, 401, .inl mx)), (qy, .inl (cA, 401, .inl my)), (qs, .inl (cA, 3, .inl sv)), (h0, .inr (0, [.ref qx, .ref qy, .int (sv 2), .int ax, .int ay, .int al, .long r_1, .int 0, .int 0, .int 0, .int (sv 0), .int (sv 1)]))] := hD
  refine lv_aload_n hx hb dX0_begin_60 rfl (lv_at hl 0 rfl) ?_
  refine lv_iconst (v := 0) hx hb dX0_begin_61 (by decide) ?_
  refine ct_topi (y := nI 0) rfl ?_
  refine ct_callv (va_runV (As := [.int (nI 0)]) (rest := []) ⟨hx, hb, hml, hown, hts⟩ (ar_mark l dC dI cA cB H.size h0 qx qy (sv 2) ax ay al r_1 0 0 0 (sv 0) (sv 1) mx my 0 (by omega)) (cwV 1 hts gX0_begin_X0_mark rfl rfl rfl (by decide +kernel) ⟨Nat.le_of_ble_eq_true rfl, Nat.le_of_ble_eq_true rfl⟩) ⟨ct_blind, va_recv hK hP (ci := 0) (q0 := 3) rfl rfl, ct_pre hP hD hK hZ hN hS hA [3, 0, 1] rfl (by decide)⟩ rfl rfl hl.1 rfl (lv_room (Nat.le_of_ble_eq_true rfl)) dX0_begin_62 ⟨Nat.le_of_ble_eq_true rfl, Nat.le_of_ble_eq_true rfl⟩) hP hD hS hA [3, 0, 1] [2] rfl (wr := [(qs, .inl (cA, 3, .inl sv))]) rfl (by decide) (by decide) (fun u9 H locs hw_2 hP hD hS => ?_)
  obtain ⟨nx_2, ny_2⟩ := u9
  have hw_2 : nx_2 = mk_u mx 0 (sv 0) ∧ ny_2 = mk_u my 0 (sv 1) := hw_2
  have hP : va_P (dC, dI) vwCl [(qs, .inl (cA, 3, .inl sv)), (h0, .inr (0, [.ref qx, .ref qy, .int (sv 2), .int ax, .int ay, .int al, .long r_1, .int 0, .int 0, .int 0, .int (sv 0), .int (sv 1)])), (qx, .inl (cA, 401, .inl nx_2)), (qy, .inl (cA, 401, .inl ny_2))] H := hP
  have hD : va_D A [(qs, .inl (cA, 3, .inl sv)), (h0, .inr (0, [.ref qx, .ref qy, .int (sv 2), .int ax, .int ay, .int al, .long r_1, .int 0, .int 0, .int 0, .int (sv 0), .int (sv 1)])), (qx, .inl (cA, 401, .inl nx_2)), (qy, .inl (cA, 401, .inl ny_2))] := hD
  have hP9 := hP.sub (ws' := [(h0, .inr (0, [.ref qx, .ref qy, .int (sv 2), .int ax, .int ay, .int al, .long r_1, .int 0, .int 0, .int 0, .int (sv 0), .int (sv 1)])), (qx, .inl (cA, 401, .inl nx_2)), (qy, .inl (cA, 401, .inl ny_2)), (qs, .inl (cA, 3, .inl sv))]) [1, 2, 3, 0] rfl
  have hD9 := hD.sub (ws' := [(h0, .inr (0, [.ref qx, .ref qy, .int (sv 2), .int ax, .int ay, .int al, .long r_1, .int 0, .int 0, .int 0, .int (sv 0), .int (sv 1)])), (qx, .inl (cA, 401, .inl nx_2)), (qy, .inl (cA, 401, .inl ny_2)), (qs, .inl (cA, 3, .inl sv))]) [1, 2, 3, 0] (by decide) rfl
  exact W.vret hx hb hr (fun t9 ht9 hW9 => ⟨⟨(nx_2, ny_2, r_1), rfl, ⟨hw_2.1, hw_2.2, hw_1⟩, by rw [ht9]; exact hP9, hD9⟩, hS.F ht9⟩) hS.2.2 dX0_begin_65
set_option maxHeartbeats 4000000 in
set_option maxRecDepth 100000 in
/-- Arc.step -/
theorem ar_step (l : Launch) (dC : Nat → ClassId) (dI : Nat → Nat → Nat) (cA cB : ClassId) (sz : Nat) (h0 : Nat) (qx : Nat) (qy : Nat) (ht : Int32) (cx : Int32) (cy : Int32) (lf : Int32) (sq : Int64) (ln : Int32) (of : Int32) (sr : Int32) (fx : Int32) (fy : Int32) : Met l yX0_step wsX0_step ({ frames := 1, cells := 0, slots := 0, locals := 16 }) (va_Pc [.ref h0] (ct_P dC dI cA cB sz [(h0, .inr (0, [.ref qx, .ref qy, .int ht, .int cx, .int cy, .int lf, .long sq, .int ln, .int of, .int sr, .int fx, .int fy]))])) (va_Qi (fun (r : Int32) (u : Int32 × Int32) => sp_P lf sq fx cx fy cy r u.1 u.2) (fun (u : Int32 × Int32) => ct_B dC dI (va_A [(h0, .inr (0, [.ref qx, .ref qy, .int ht, .int cx, .int cy, .int lf, .long sq, .int ln, .int of, .int sr, .int fx, .int fy]))] sz) [(h0, .inr (0, [.ref qx, .ref qy, .int ht, .int cx, .int cy, .int lf, .long sq, .int ln, .int of, .int sr, .int u.1, .int u.2]))]) (va_A [(h0, .inr (0, [.ref qx, .ref qy, .int ht, .int cx, .int cy, .int lf, .long sq, .int ln, .int of, .int sr, .int fx, .int fy]))] sz)) 0 0 (va_A [(h0, .inr (0, [.ref qx, .ref qy, .int ht, .int cx, .int cy, .int lf, .long sq, .int ln, .int of, .int sr, .int fx, .int fy]))] sz) := by
  refine Met.ofW (cc := cX0_step) (maxL := 17) (ret := (some .boolean)) (by decide +kernel) rfl ?_
  intro p e s m args below meth c s₁ B hml hv
  obtain ⟨rfl, hsz, hP, hK, hD0, hZ, hN⟩ := hv
  have hx := B.exec
  have hb := B.bytes
  have hr := B.returns
  have hts := atoms_spec (ws := wsX0_step) B.pre
  have hown : s.vm.findClass RX0 = some m.cls := findClass_of_methodNamed B.named
  have hlocks := B.notSynchronized
  have hiX0 : ∀ w ∈ u_ws RX0 TX0 12, w ∈ wsX0_step := by decide +kernel
  subst hsz
  have hD := hD0.self (sz := s.heap.size)
  generalize hAe : va_A [(h0, .inr (0, [.ref qx, .ref qy, .int ht, .int cx, .int cy, .int lf, .long sq, .int ln, .int of, .int sr, .int fx, .int fy]))] s.heap.size = A at hD hZ ⊢
  have hA : ∀ q : Nat, s.heap.size ≤ q → A q := fun q h => by rw [← hAe]; exact Or.inr h
  have hl := lv_entry ([.ref h0]) (n := 17) (Nat.le_of_ble_eq_true rfl)
  rw [lg_entry_eq]
  generalize (lg_sl ([.ref h0]) ++ List.replicate (17 - (lg_sl ([.ref h0])).length) Slot.unset).toArray = ls at hl ⊢
  have hl : lv_has ls 17 [(0, .ref h0)] := hl
  generalize hHe : s.heap = H at hP ⊢
  have hS : va_S A s.heap H [] := by rw [hHe]; exact va_S.rf
  generalize ([] : List Loc) = locs at hS ⊢
  obtain ⟨tx, ty, hZx, hTx, hZy, hTy⟩ := id hZ
  refine lv_aload_n hx hb dX0_step_0 rfl (lv_at hl 0 rfl) ?_
  refine va_get (D := (dC, dI)) (ci := 0) (v := .int fx) (C := RX0) (T := TX0) (N := 12) hx hb hts hiX0 hown hK hP 0 rfl rfl 10 (by decide) (hts (.fieldLink RX0 45 "TickWalks$Arc" "footX" "I") (List.mem_of_getElem? (l := wsX0_step) (i := 1) rfl)) (fun _ h9 => h9) rfl dX0_step_1 ?_
  refine lv_aload_n hx hb dX0_step_4 rfl (lv_at hl 0 rfl) ?_
  refine va_get (D := (dC, dI)) (ci := 0) (v := .int cx) (C := RX0) (T := TX0) (N := 12) hx hb hts hiX0 hown hK hP 0 rfl rfl 3 (by decide) (hts (.fieldLink RX0 22 "TickWalks$Arc" "centreX" "I") (List.mem_of_getElem? (l := wsX0_step) (i := 2) rfl)) (fun _ h9 => h9) rfl dX0_step_5 ?_
  refine lv_isub hx hb dX0_step_8 ?_
  refine lv_i2l hx hb dX0_step_9 rfl ?_
  refine lv_topl (fun dx edx => ?_)
  refine lv_lstore_n (lv' := [(1, .long dx), (0, .ref h0)]) hx hb dX0_step_10 rfl hl (by decide) rfl (fun ls hl => ?_)
  refine lv_aload_n hx hb dX0_step_11 rfl (lv_at hl 1 rfl) ?_
  refine va_get (D := (dC, dI)) (ci := 0) (v := .int fy) (C := RX0) (T := TX0) (N := 12) hx hb hts hiX0 hown hK hP 0 rfl rfl 11 (by decide) (hts (.fieldLink RX0 48 "TickWalks$Arc" "footY" "I") (List.mem_of_getElem? (l := wsX0_step) (i := 3) rfl)) (fun _ h9 => h9) rfl dX0_step_12 ?_
  refine lv_aload_n hx hb dX0_step_15 rfl (lv_at hl 1 rfl) ?_
  refine va_get (D := (dC, dI)) (ci := 0) (v := .int cy) (C := RX0) (T := TX0) (N := 12) hx hb hts hiX0 hown hK hP 0 rfl rfl 4 (by decide) (hts (.fieldLink RX0 25 "TickWalks$Arc" "centreY" "I") (List.mem_of_getElem? (l := wsX0_step) (i := 4) rfl)) (fun _ h9 => h9) rfl dX0_step_16 ?_
  refine lv_isub hx hb dX0_step_19 ?_
  refine lv_i2l hx hb dX0_step_20 rfl ?_
  refine lv_topl (fun dy edy => ?_)
  refine lv_lstore_n (lv' := [(3, .long dy), (1, .long dx), (0, .ref h0)]) hx hb dX0_step_21 rfl hl (by decide) rfl (fun ls hl => ?_)
  refine lv_iconst (v := -1) hx hb dX0_step_22 (by decide) ?_
  refine lv_istore (lv' := [(5, .int (-1)), (3, .long dy), (1, .long dx), (0, .ref h0)]) hx hb dX0_step_23 hl (by decide) rfl (fun ls hl => ?_)
  refine lv_lconst (v := 0) hx hb dX0_step_25 (by decide) ?_
  refine lv_lstore (lv' := [(6, .long 0), (5, .int (-1)), (3, .long dy), (1, .long dx), (0, .ref h0)]) hx hb dX0_step_26 hl (by decide) rfl (fun ls hl => ?_)
  refine lv_iconst (v := 0) hx hb dX0_step_28 (by decide) ?_
  refine lv_istore (lv' := [(8, .int 0), (6, .long 0), (5, .int (-1)), (3, .long dy), (1, .long dx), (0, .ref h0)]) hx hb dX0_step_29 hl (by decide) rfl (fun ls hl => ?_)
  refine ct_loop (σ := Nat × Int32 × Int64) (fun n9 w9 H locs ls => n9 = 8 - w9.1 ∧ (w9.1 ≤ 8) ∧ ((w9.2.1, w9.2.2) = st_F lf dx dy sq w9.1) ∧ va_P (dC, dI) vwCl [(h0, .inr (0, [.ref qx, .ref qy, .int ht, .int cx, .int cy, .int lf, .long sq, .int ln, .int of, .int sr, .int fx, .int fy]))] H ∧ va_D A [(h0, .inr (0, [.ref qx, .ref qy, .int ht, .int cx, .int cy, .int lf, .long sq, .int ln, .int of, .int sr, .int fx, .int fy]))] ∧ va_S A s.heap H locs ∧ lv_has ls 17 [(8, .int (nI w9.1)), (5, .int w9.2.1), (6, .long w9.2.2), (1, .long dx), (3, .long dy), (0, .ref h0)]) (fun n9 w9 H locs ls hJ ih_31 => ?_) (8 - 0) (0, -1, 0) _ _ _ ⟨rfl, (Nat.zero_le 8), rfl, (hP.sub [0] rfl), (hD.sub [0] (by decide) rfl), hS, (lv_sub hl [0, 2, 1, 4, 3, 5] rfl)⟩
  obtain ⟨i, ne, le⟩ := w9
  obtain ⟨hn_31, hi, hI, hP, hD, hS, hl⟩ := hJ
  have hn_31 : n9 = 8 - i := hn_31
  have hi : i ≤ 8 := hi
  have hI : (ne, le) = st_F lf dx dy sq i := hI
  have hP : va_P (dC, dI) vwCl [(h0, .inr (0, [.ref qx, .ref qy, .int ht, .int cx, .int cy, .int lf, .long sq, .int ln, .int of, .int sr, .int fx, .int fy]))] H := hP
  have hD : va_D A [(h0, .inr (0, [.ref qx, .ref qy, .int ht, .int cx, .int cy, .int lf, .long sq, .int ln, .int of, .int sr, .int fx, .int fy]))] := hD
  have hl : lv_has ls 17 [(8, .int (nI i)), (5, .int ne), (6, .long le), (1, .long dx), (3, .long dy), (0, .ref h0)] := hl
  refine lv_iload hx hb dX0_step_31 (lv_at hl 0 rfl) ?_
  refine lv_bipush (v := 8) hx hb dX0_step_33 (by decide) ?_
  refine lv_icmp_ge (tgt := 143) hx hb dX0_step_35 (by decide) (fun c_35 => ?_) (fun c_35 => ?_)
  · have h8 : i = 8 := i8_le hi c_35
    subst h8
    refine lv_iload hx hb dX0_step_143 (lv_at hl 1 rfl) ?_
    refine lv_if_ge (tgt := 150) hx hb dX0_step_145 (by decide) (fun c_145 => ?_) (fun c_145 => ?_)
    · have hne := st_F_ix lf dx dy sq 8 (by decide)
      rw [← hI] at hne
      obtain ⟨j, hj, hnj⟩ : ∃ j, j < 8 ∧ ne = nI j := by
        rcases hne with h | h
        · exact absurd (show (0 : Int32) ≤ -1 by rw [← h]; exact c_145) (by decide)
        · exact h
      subst hnj
      refine lv_aload_n hx hb dX0_step_150 rfl (lv_at hl 5 rfl) ?_
      refine lv_dup hx hb dX0_step_151 rfl ?_
      refine va_get (D := (dC, dI)) (ci := 0) (v := .int fx) (C := RX0) (T := TX0) (N := 12) hx hb hts hiX0 hown hK hP 0 rfl rfl 10 (by decide) (hts (.fieldLink RX0 45 "TickWalks$Arc" "footX" "I") (List.mem_of_getElem? (l := wsX0_step) (i := 1) rfl)) (fun _ h9 => h9) rfl dX0_step_152 ?_
      refine va_getsN hx hb hZx hS hown (va_Nw.use rfl hN.2.2.2.2.2.1) (fun _ h9 => h9) dX0_step_155 ?_
      refine lv_iload hx hb dX0_step_158 (lv_at hl 1 rfl) ?_
      refine va_ti (v := .int (st_X j)) hx hb hTx hS (vp_in_nI hj (by decide)) (congrArg (fun j => Value.int (st_X j)) (nI_clamp (show j < 2 ^ 31 by omega))) dX0_step_160 ?_
      refine lv_iadd hx hb dX0_step_161 ?_
      refine va_put (D := (dC, dI)) (ci := 0) (v := .int (fx + (st_X j))) (ty := .int) (C := RX0) (T := TX0) (N := 12) hx hb hts hiX0 tyX0 tyX0_ok nmX0 hown hK hP hD hS 0 rfl rfl 10 (by decide) (hts (.fieldLink RX0 45 "TickWalks$Arc" "footX" "I") (List.mem_of_getElem? (l := wsX0_step) (i := 1) rfl)) (fun _ h9 => h9) rfl (by decide +kernel) rfl rfl (Nat.le_of_ble_eq_true rfl) dX0_step_162 (fun H locs hP hD hS => ?_)
      have hP : va_P (dC, dI) vwCl [(h0, .inr (0, [.ref qx, .ref qy, .int ht, .int cx, .int cy, .int lf, .long sq, .int ln, .int of, .int sr, .int (fx + (st_X j)), .int fy]))] H := hP
      have hD : va_D A [(h0, .inr (0, [.ref qx, .ref qy, .int ht, .int cx, .int cy, .int lf, .long sq, .int ln, .int of, .int sr, .int (fx + (st_X j)), .int fy]))] := hD
      refine lv_aload_n hx hb dX0_step_165 rfl (lv_at hl 5 rfl) ?_
      refine lv_dup hx hb dX0_step_166 rfl ?_
      refine va_get (D := (dC, dI)) (ci := 0) (v := .int fy) (C := RX0) (T := TX0) (N := 12) hx hb hts hiX0 hown hK hP 0 rfl rfl 11 (by decide) (hts (.fieldLink RX0 48 "TickWalks$Arc" "footY" "I") (List.mem_of_getElem? (l := wsX0_step) (i := 3) rfl)) (fun _ h9 => h9) rfl dX0_step_167 ?_
      refine va_getsN hx hb hZy hS hown (va_Nw.use rfl hN.2.2.2.2.2.2.1) (fun _ h9 => h9) dX0_step_170 ?_
      refine lv_iload hx hb dX0_step_173 (lv_at hl 1 rfl) ?_
      refine va_ti (v := .int (st_Y j)) hx hb hTy hS (vp_in_nI hj (by decide)) (congrArg (fun j => Value.int (st_Y j)) (nI_clamp (show j < 2 ^ 31 by omega))) dX0_step_175 ?_
      refine lv_iadd hx hb dX0_step_176 ?_
      refine va_put (D := (dC, dI)) (ci := 0) (v := .int (fy + (st_Y j))) (ty := .int) (C := RX0) (T := TX0) (N := 12) hx hb hts hiX0 tyX0 tyX0_ok nmX0 hown hK hP hD hS 0 rfl rfl 11 (by decide) (hts (.fieldLink RX0 48 "TickWalks$Arc" "footY" "I") (List.mem_of_getElem? (l := wsX0_step) (i := 3) rfl)) (fun _ h9 => h9) rfl (by decide +kernel) rfl rfl (Nat.le_of_ble_eq_true rfl) dX0_step_177 (fun H locs hP hD hS => ?_)
      have hP : va_P (dC, dI) vwCl [(h0, .inr (0, [.ref qx, .ref qy, .int ht, .int cx, .int cy, .int lf, .long sq, .int ln, .int of, .int sr, .int (fx + (st_X j)), .int (fy + (st_Y j))]))] H := hP
      have hD : va_D A [(h0, .inr (0, [.ref qx, .ref qy, .int ht, .int cx, .int cy, .int lf, .long sq, .int ln, .int of, .int sr, .int (fx + (st_X j)), .int (fy + (st_Y j))]))] := hD
      refine lv_iconst (v := 1) hx hb dX0_step_180 (by decide) ?_
      have hP9 := hP.sub (ws' := [(h0, .inr (0, [.ref qx, .ref qy, .int ht, .int cx, .int cy, .int lf, .long sq, .int ln, .int of, .int sr, .int (fx + (st_X j)), .int (fy + (st_Y j))]))]) [0] rfl
      have hD9 := hD.sub (ws' := [(h0, .inr (0, [.ref qx, .ref qy, .int ht, .int cx, .int cy, .int lf, .long sq, .int ln, .int of, .int sr, .int (fx + (st_X j)), .int (fy + (st_Y j))]))]) [0] (by decide) rfl
      exact W.zret (v := 1) hx hb hr rfl (fun t9 ht9 hW9 => ⟨⟨1, (fx + (st_X j), fy + (st_Y j)), rfl, Or.inr ⟨j, hj, by rw [← edx, ← edy, ← hI], rfl, rfl, rfl⟩, by rw [ht9]; exact hP9, hD9⟩, hS.F ht9⟩) hS.2.2 dX0_step_181
    · refine lv_iconst (v := 0) hx hb dX0_step_148 (by decide) ?_
      have hP9 := hP.sub (ws' := [(h0, .inr (0, [.ref qx, .ref qy, .int ht, .int cx, .int cy, .int lf, .long sq, .int ln, .int of, .int sr, .int fx, .int fy]))]) [0] rfl
      have hD9 := hD.sub (ws' := [(h0, .inr (0, [.ref qx, .ref qy, .int ht, .int cx, .int cy, .int lf, .long sq, .int ln, .int of, .int sr, .int fx, .int fy]))]) [0] (by decide) rfl
      exact W.zret (v := 0) hx hb hr rfl (fun t9 ht9 hW9 => ⟨⟨0, (fx, fy), rfl, Or.inl ⟨rfl, by rw [← edx, ← edy, ← hI]; exact Int32.not_le.mp c_145, rfl, rfl⟩, by rw [ht9]; exact hP9, hD9⟩, hS.F ht9⟩) hS.2.2 dX0_step_149
  · have hlt : i < 8 := i8_lt hi c_35
    refine lv_lload_n hx hb dX0_step_38 rfl (lv_at hl 3 rfl) ?_
    refine va_getsN hx hb hZx hS hown (va_Nw.use rfl hN.2.2.2.2.2.1) (fun _ h9 => h9) dX0_step_39 ?_
    refine lv_iload hx hb dX0_step_42 (lv_at hl 0 rfl) ?_
    refine va_ti (v := .int (st_X i)) hx hb hTx hS (vp_in_nI hlt (by decide)) (congrArg (fun j => Value.int (st_X j)) (nI_clamp (show i < 2 ^ 31 by omega))) dX0_step_44 ?_
    refine lv_i2l hx hb dX0_step_45 rfl ?_
    refine lv_ladd hx hb dX0_step_46 ?_
    refine lv_topl (fun px epx => ?_)
    refine lv_lstore (lv' := [(9, .long px), (8, .int (nI i)), (5, .int ne), (6, .long le), (1, .long dx), (3, .long dy), (0, .ref h0)]) hx hb dX0_step_47 hl (by decide) rfl (fun ls hl => ?_)
    refine lv_lload_n hx hb dX0_step_49 rfl (lv_at hl 5 rfl) ?_
    refine va_getsN hx hb hZy hS hown (va_Nw.use rfl hN.2.2.2.2.2.2.1) (fun _ h9 => h9) dX0_step_50 ?_
    refine lv_iload hx hb dX0_step_53 (lv_at hl 1 rfl) ?_
    refine va_ti (v := .int (st_Y i)) hx hb hTy hS (vp_in_nI hlt (by decide)) (congrArg (fun j => Value.int (st_Y j)) (nI_clamp (show i < 2 ^ 31 by omega))) dX0_step_55 ?_
    refine lv_i2l hx hb dX0_step_56 rfl ?_
    refine lv_ladd hx hb dX0_step_57 ?_
    refine lv_topl (fun py epy => ?_)
    refine lv_lstore (lv' := [(11, .long py), (9, .long px), (8, .int (nI i)), (5, .int ne), (6, .long le), (1, .long dx), (3, .long dy), (0, .ref h0)]) hx hb dX0_step_58 hl (by decide) rfl (fun ls hl => ?_)
    refine lv_lload_n hx hb dX0_step_60 rfl (lv_at hl 5 rfl) ?_
    refine lv_lload hx hb dX0_step_61 (lv_at hl 0 rfl) ?_
    refine lv_lmul hx hb dX0_step_63 ?_
    refine lv_lload_n hx hb dX0_step_64 rfl (lv_at hl 6 rfl) ?_
    refine lv_lload hx hb dX0_step_65 (lv_at hl 1 rfl) ?_
    refine lv_lmul hx hb dX0_step_67 ?_
    refine lv_lsub hx hb dX0_step_68 ?_
    refine lv_topl (fun tn etn => ?_)
    refine lv_lstore (lv' := [(13, .long tn), (11, .long py), (9, .long px), (8, .int (nI i)), (5, .int ne), (6, .long le), (1, .long dx), (3, .long dy), (0, .ref h0)]) hx hb dX0_step_69 hl (by decide) rfl (fun ls hl => ?_)
    have htn : tn = st_t dx dy i := by rw [etn, epx, epy]; rfl
    refine lv_aload_n hx hb dX0_step_71 rfl (lv_at hl 8 rfl) ?_
    refine va_get (D := (dC, dI)) (ci := 0) (v := .int lf) (C := RX0) (T := TX0) (N := 12) hx hb hts hiX0 hown hK hP 0 rfl rfl 5 (by decide) (hts (.fieldLink RX0 28 "TickWalks$Arc" "left" "Z") (List.mem_of_getElem? (l := wsX0_step) (i := 5) rfl)) (fun _ h9 => h9) rfl dX0_step_72 ?_
    refine lv_if_eq (tgt := 88) hx hb dX0_step_75 (by decide) (fun c_75 => ?_) (fun c_75 => ?_)
    · refine lv_lload hx hb dX0_step_88 (lv_at hl 0 rfl) ?_
      refine lv_lconst (v := 0) hx hb dX0_step_90 (by decide) ?_
      refine W.lcmp hx hb dX0_step_91 ?_
      refine lv_if_ge (tgt := 137) hx hb dX0_step_92 (by decide) (fun c_92 => ?_) (fun c_92 => ?_)
      · refine lv_iinc (v := nI (i + 1)) (lv' := [(8, .int (nI (i + 1))), (13, .long tn), (11, .long py), (9, .long px), (5, .int ne), (6, .long le), (1, .long dx), (3, .long dy), (0, .ref h0)]) hx hb dX0_step_137 hl (k := 3) rfl (nI_1 i) (by decide) rfl (fun ls hl => ?_)
        refine lv_goto (tgt := 31) hx hb dX0_step_140 (by decide) ?_
        exact ih_31 _ ((i + 1), ne, le) _ _ _ (by rw [hn_31]; omega) ⟨rfl, (show i + 1 ≤ 8 by omega), (hI.trans (st_F_skip (by unfold st_c; rw [if_pos c_75, ← htn]; exact decide_eq_false (Int64.not_lt.mpr ((lg_cmp_ge _ _).mp c_92)))).symm), (hP.sub [0] rfl), (hD.sub [0] (by decide) rfl), hS, (lv_sub hl [0, 4, 5, 6, 7, 8] rfl)⟩
      · refine lv_lload hx hb dX0_step_95 (lv_at hl 2 rfl) ?_
        refine lv_lload hx hb dX0_step_97 (lv_at hl 2 rfl) ?_
        refine lv_lmul hx hb dX0_step_99 ?_
        refine lv_lload hx hb dX0_step_100 (lv_at hl 1 rfl) ?_
        refine lv_lload hx hb dX0_step_102 (lv_at hl 1 rfl) ?_
        refine lv_lmul hx hb dX0_step_104 ?_
        refine lv_ladd hx hb dX0_step_105 ?_
        refine lv_aload_n hx hb dX0_step_106 rfl (lv_at hl 8 rfl) ?_
        refine va_get (D := (dC, dI)) (ci := 0) (v := .long sq) (C := RX0) (T := TX0) (N := 12) hx hb hts hiX0 hown hK hP 0 rfl rfl 6 (by decide) (hts (.fieldLink RX0 32 "TickWalks$Arc" "square" "J") (List.mem_of_getElem? (l := wsX0_step) (i := 6) rfl)) (fun _ h9 => h9) rfl dX0_step_107 ?_
        refine lv_lsub hx hb dX0_step_110 ?_
        refine va_mabs_long hx hb (hml.trans hl.1.symm) hown (hts (.methodLink RX0 73 Lib.MathLoose.abs_long.x) (List.mem_of_getElem? (l := wsX0_step) (i := 7) rfl)) (hts (.static Lib.MathLoose.abs_long.x) (List.mem_of_getElem? (l := wsX0_step) (i := 8) rfl)) (hts (.initialized "java/lang/Math") (List.mem_of_getElem? (l := wsX0_step) (i := 9) rfl)) (hts (.code Lib.MathLoose.abs_long.x Lib.MathLoose.abs_long.code 2 (some .long)) (List.mem_of_getElem? (l := wsX0_step) (i := 10) rfl)) (Nat.le_of_ble_eq_true rfl) (Nat.le_of_ble_eq_true rfl) (Nat.le_of_ble_eq_true rfl) (Nat.le_of_ble_eq_true rfl) dX0_step_111 ?_
        refine lv_topl (fun bs ebs => ?_)
        refine lv_lstore (lv' := [(15, .long bs), (13, .long tn), (11, .long py), (9, .long px), (8, .int (nI i)), (5, .int ne), (6, .long le), (1, .long dx), (3, .long dy), (0, .ref h0)]) hx hb dX0_step_114 hl (by decide) rfl (fun ls hl => ?_)
        have hbs : bs = st_b dx dy sq i := by rw [ebs, epx, epy]; rfl
        refine lv_iload hx hb dX0_step_116 (lv_at hl 5 rfl) ?_
        refine lv_if_lt (tgt := 129) hx hb dX0_step_118 (by decide) (fun c_118 => ?_) (fun c_118 => ?_)
        · refine lv_iload hx hb dX0_step_129 (lv_at hl 4 rfl) ?_
          refine lv_istore (lv' := [(5, .int (nI i)), (15, .long bs), (13, .long tn), (11, .long py), (9, .long px), (8, .int (nI i)), (6, .long le), (1, .long dx), (3, .long dy), (0, .ref h0)]) hx hb dX0_step_131 hl (by decide) rfl (fun ls hl => ?_)
          refine lv_lload hx hb dX0_step_133 (lv_at hl 1 rfl) ?_
          refine lv_lstore (lv' := [(6, .long bs), (5, .int (nI i)), (15, .long bs), (13, .long tn), (11, .long py), (9, .long px), (8, .int (nI i)), (1, .long dx), (3, .long dy), (0, .ref h0)]) hx hb dX0_step_135 hl (by decide) rfl (fun ls hl => ?_)
          refine lv_iinc (v := nI (i + 1)) (lv' := [(8, .int (nI (i + 1))), (6, .long bs), (5, .int (nI i)), (15, .long bs), (13, .long tn), (11, .long py), (9, .long px), (1, .long dx), (3, .long dy), (0, .ref h0)]) hx hb dX0_step_137 hl (k := 6) rfl (nI_1 i) (by decide) rfl (fun ls hl => ?_)
          refine lv_goto (tgt := 31) hx hb dX0_step_140 (by decide) ?_
          exact ih_31 _ ((i + 1), nI i, bs) _ _ _ (by rw [hn_31]; omega) ⟨rfl, (show i + 1 ≤ 8 by omega), (by rw [st_F_take (show st_c lf dx dy i = true by unfold st_c; rw [if_pos c_75, ← htn]; exact decide_eq_true (Int64.not_le.mp (fun h => c_92 ((lg_cmp_ge _ _).mpr h)))) (Or.inl (by rw [← hI]; exact c_118)), hbs]), (hP.sub [0] rfl), (hD.sub [0] (by decide) rfl), hS, (lv_sub hl [0, 2, 1, 7, 8, 9] rfl)⟩
        · refine lv_lload hx hb dX0_step_121 (lv_at hl 0 rfl) ?_
          refine lv_lload hx hb dX0_step_123 (lv_at hl 6 rfl) ?_
          refine W.lcmp hx hb dX0_step_125 ?_
          refine lv_if_ge (tgt := 137) hx hb dX0_step_126 (by decide) (fun c_126 => ?_) (fun c_126 => ?_)
          · refine lv_iinc (v := nI (i + 1)) (lv' := [(8, .int (nI (i + 1))), (15, .long bs), (13, .long tn), (11, .long py), (9, .long px), (5, .int ne), (6, .long le), (1, .long dx), (3, .long dy), (0, .ref h0)]) hx hb dX0_step_137 hl (k := 4) rfl (nI_1 i) (by decide) rfl (fun ls hl => ?_)
            refine lv_goto (tgt := 31) hx hb dX0_step_140 (by decide) ?_
            exact ih_31 _ ((i + 1), ne, le) _ _ _ (by rw [hn_31]; omega) ⟨rfl, (show i + 1 ≤ 8 by omega), (hI.trans (st_F_keep (show st_c lf dx dy i = true by unfold st_c; rw [if_pos c_75, ← htn]; exact decide_eq_true (Int64.not_le.mp (fun h => c_92 ((lg_cmp_ge _ _).mpr h)))) (by rw [← hI, ← hbs]; intro h; rcases h with h | h; exact c_118 h; exact absurd h (Int64.not_lt.mpr ((lg_cmp_ge _ _).mp c_126)))).symm), (hP.sub [0] rfl), (hD.sub [0] (by decide) rfl), hS, (lv_sub hl [0, 5, 6, 7, 8, 9] rfl)⟩
          · refine lv_iload hx hb dX0_step_129 (lv_at hl 4 rfl) ?_
            refine lv_istore (lv' := [(5, .int (nI i)), (15, .long bs), (13, .long tn), (11, .long py), (9, .long px), (8, .int (nI i)), (6, .long le), (1, .long dx), (3, .long dy), (0, .ref h0)]) hx hb dX0_step_131 hl (by decide) rfl (fun ls hl => ?_)
            refine lv_lload hx hb dX0_step_133 (lv_at hl 1 rfl) ?_
            refine lv_lstore (lv' := [(6, .long bs), (5, .int (nI i)), (15, .long bs), (13, .long tn), (11, .long py), (9, .long px), (8, .int (nI i)), (1, .long dx), (3, .long dy), (0, .ref h0)]) hx hb dX0_step_135 hl (by decide) rfl (fun ls hl => ?_)
            refine lv_iinc (v := nI (i + 1)) (lv' := [(8, .int (nI (i + 1))), (6, .long bs), (5, .int (nI i)), (15, .long bs), (13, .long tn), (11, .long py), (9, .long px), (1, .long dx), (3, .long dy), (0, .ref h0)]) hx hb dX0_step_137 hl (k := 6) rfl (nI_1 i) (by decide) rfl (fun ls hl => ?_)
            refine lv_goto (tgt := 31) hx hb dX0_step_140 (by decide) ?_
            exact ih_31 _ ((i + 1), nI i, bs) _ _ _ (by rw [hn_31]; omega) ⟨rfl, (show i + 1 ≤ 8 by omega), (by rw [st_F_take (show st_c lf dx dy i = true by unfold st_c; rw [if_pos c_75, ← htn]; exact decide_eq_true (Int64.not_le.mp (fun h => c_92 ((lg_cmp_ge _ _).mpr h)))) (Or.inr (by rw [← hI, ← hbs]; exact Int64.not_le.mp (fun h => c_126 ((lg_cmp_ge _ _).mpr h)))), hbs]), (hP.sub [0] rfl), (hD.sub [0] (by decide) rfl), hS, (lv_sub hl [0, 2, 1, 7, 8, 9] rfl)⟩
    · refine lv_lload hx hb dX0_step_78 (lv_at hl 0 rfl) ?_
      refine lv_lconst (v := 0) hx hb dX0_step_80 (by decide) ?_
      refine W.lcmp hx hb dX0_step_81 ?_
      refine lv_if_le (tgt := 137) hx hb dX0_step_82 (by decide) (fun c_82 => ?_) (fun c_82 => ?_)
      · refine lv_iinc (v := nI (i + 1)) (lv' := [(8, .int (nI (i + 1))), (13, .long tn), (11, .long py), (9, .long px), (5, .int ne), (6, .long le), (1, .long dx), (3, .long dy), (0, .ref h0)]) hx hb dX0_step_137 hl (k := 3) rfl (nI_1 i) (by decide) rfl (fun ls hl => ?_)
        refine lv_goto (tgt := 31) hx hb dX0_step_140 (by decide) ?_
        exact ih_31 _ ((i + 1), ne, le) _ _ _ (by rw [hn_31]; omega) ⟨rfl, (show i + 1 ≤ 8 by omega), (hI.trans (st_F_skip (by unfold st_c; rw [if_neg c_75, ← htn]; exact decide_eq_false (Int64.not_lt.mpr ((lg_cmp_le _ _).mp c_82)))).symm), (hP.sub [0] rfl), (hD.sub [0] (by decide) rfl), hS, (lv_sub hl [0, 4, 5, 6, 7, 8] rfl)⟩
      · refine lv_goto (tgt := 95) hx hb dX0_step_85 (by decide) ?_
        refine lv_lload hx hb dX0_step_95 (lv_at hl 2 rfl) ?_
        refine lv_lload hx hb dX0_step_97 (lv_at hl 2 rfl) ?_
        refine lv_lmul hx hb dX0_step_99 ?_
        refine lv_lload hx hb dX0_step_100 (lv_at hl 1 rfl) ?_
        refine lv_lload hx hb dX0_step_102 (lv_at hl 1 rfl) ?_
        refine lv_lmul hx hb dX0_step_104 ?_
        refine lv_ladd hx hb dX0_step_105 ?_
        refine lv_aload_n hx hb dX0_step_106 rfl (lv_at hl 8 rfl) ?_
        refine va_get (D := (dC, dI)) (ci := 0) (v := .long sq) (C := RX0) (T := TX0) (N := 12) hx hb hts hiX0 hown hK hP 0 rfl rfl 6 (by decide) (hts (.fieldLink RX0 32 "TickWalks$Arc" "square" "J") (List.mem_of_getElem? (l := wsX0_step) (i := 6) rfl)) (fun _ h9 => h9) rfl dX0_step_107 ?_
        refine lv_lsub hx hb dX0_step_110 ?_
        refine va_mabs_long hx hb (hml.trans hl.1.symm) hown (hts (.methodLink RX0 73 Lib.MathLoose.abs_long.x) (List.mem_of_getElem? (l := wsX0_step) (i := 7) rfl)) (hts (.static Lib.MathLoose.abs_long.x) (List.mem_of_getElem? (l := wsX0_step) (i := 8) rfl)) (hts (.initialized "java/lang/Math") (List.mem_of_getElem? (l := wsX0_step) (i := 9) rfl)) (hts (.code Lib.MathLoose.abs_long.x Lib.MathLoose.abs_long.code 2 (some .long)) (List.mem_of_getElem? (l := wsX0_step) (i := 10) rfl)) (Nat.le_of_ble_eq_true rfl) (Nat.le_of_ble_eq_true rfl) (Nat.le_of_ble_eq_true rfl) (Nat.le_of_ble_eq_true rfl) dX0_step_111 ?_
        refine lv_topl (fun bs ebs => ?_)
        refine lv_lstore (lv' := [(15, .long bs), (13, .long tn), (11, .long py), (9, .long px), (8, .int (nI i)), (5, .int ne), (6, .long le), (1, .long dx), (3, .long dy), (0, .ref h0)]) hx hb dX0_step_114 hl (by decide) rfl (fun ls hl => ?_)
        have hbs : bs = st_b dx dy sq i := by rw [ebs, epx, epy]; rfl
        refine lv_iload hx hb dX0_step_116 (lv_at hl 5 rfl) ?_
        refine lv_if_lt (tgt := 129) hx hb dX0_step_118 (by decide) (fun c_118 => ?_) (fun c_118 => ?_)
        · refine lv_iload hx hb dX0_step_129 (lv_at hl 4 rfl) ?_
          refine lv_istore (lv' := [(5, .int (nI i)), (15, .long bs), (13, .long tn), (11, .long py), (9, .long px), (8, .int (nI i)), (6, .long le), (1, .long dx), (3, .long dy), (0, .ref h0)]) hx hb dX0_step_131 hl (by decide) rfl (fun ls hl => ?_)
          refine lv_lload hx hb dX0_step_133 (lv_at hl 1 rfl) ?_
          refine lv_lstore (lv' := [(6, .long bs), (5, .int (nI i)), (15, .long bs), (13, .long tn), (11, .long py), (9, .long px), (8, .int (nI i)), (1, .long dx), (3, .long dy), (0, .ref h0)]) hx hb dX0_step_135 hl (by decide) rfl (fun ls hl => ?_)
          refine lv_iinc (v := nI (i + 1)) (lv' := [(8, .int (nI (i + 1))), (6, .long bs), (5, .int (nI i)), (15, .long bs), (13, .long tn), (11, .long py), (9, .long px), (1, .long dx), (3, .long dy), (0, .ref h0)]) hx hb dX0_step_137 hl (k := 6) rfl (nI_1 i) (by decide) rfl (fun ls hl => ?_)
          refine lv_goto (tgt := 31) hx hb dX0_step_140 (by decide) ?_
          exact ih_31 _ ((i + 1), nI i, bs) _ _ _ (by rw [hn_31]; omega) ⟨rfl, (show i + 1 ≤ 8 by omega), (by rw [st_F_take (show st_c lf dx dy i = true by unfold st_c; rw [if_neg c_75, ← htn]; exact decide_eq_true (Int64.not_le.mp (fun h => c_82 ((lg_cmp_le _ _).mpr h)))) (Or.inl (by rw [← hI]; exact c_118)), hbs]), (hP.sub [0] rfl), (hD.sub [0] (by decide) rfl), hS, (lv_sub hl [0, 2, 1, 7, 8, 9] rfl)⟩
        · refine lv_lload hx hb dX0_step_121 (lv_at hl 0 rfl) ?_
          refine lv_lload hx hb dX0_step_123 (lv_at hl 6 rfl) ?_
          refine W.lcmp hx hb dX0_step_125 ?_
          refine lv_if_ge (tgt := 137) hx hb dX0_step_126 (by decide) (fun c_126 => ?_) (fun c_126 => ?_)
          · refine lv_iinc (v := nI (i + 1)) (lv' := [(8, .int (nI (i + 1))), (15, .long bs), (13, .long tn), (11, .long py), (9, .long px), (5, .int ne), (6, .long le), (1, .long dx), (3, .long dy), (0, .ref h0)]) hx hb dX0_step_137 hl (k := 4) rfl (nI_1 i) (by decide) rfl (fun ls hl => ?_)
            refine lv_goto (tgt := 31) hx hb dX0_step_140 (by decide) ?_
            exact ih_31 _ ((i + 1), ne, le) _ _ _ (by rw [hn_31]; omega) ⟨rfl, (show i + 1 ≤ 8 by omega), (hI.trans (st_F_keep (show st_c lf dx dy i = true by unfold st_c; rw [if_neg c_75, ← htn]; exact decide_eq_true (Int64.not_le.mp (fun h => c_82 ((lg_cmp_le _ _).mpr h)))) (by rw [← hI, ← hbs]; intro h; rcases h with h | h; exact c_118 h; exact absurd h (Int64.not_lt.mpr ((lg_cmp_ge _ _).mp c_126)))).symm), (hP.sub [0] rfl), (hD.sub [0] (by decide) rfl), hS, (lv_sub hl [0, 5, 6, 7, 8, 9] rfl)⟩
          · refine lv_iload hx hb dX0_step_129 (lv_at hl 4 rfl) ?_
            refine lv_istore (lv' := [(5, .int (nI i)), (15, .long bs), (13, .long tn), (11, .long py), (9, .long px), (8, .int (nI i)), (6, .long le), (1, .long dx), (3, .long dy), (0, .ref h0)]) hx hb dX0_step_131 hl (by decide) rfl (fun ls hl => ?_)
            refine lv_lload hx hb dX0_step_133 (lv_at hl 1 rfl) ?_
            refine lv_lstore (lv' := [(6, .long bs), (5, .int (nI i)), (15, .long bs), (13, .long tn), (11, .long py), (9, .long px), (8, .int (nI i)), (1, .long dx), (3, .long dy), (0, .ref h0)]) hx hb dX0_step_135 hl (by decide) rfl (fun ls hl => ?_)
            refine lv_iinc (v := nI (i + 1)) (lv' := [(8, .int (nI (i + 1))), (6, .long bs), (5, .int (nI i)), (15, .long bs), (13, .long tn), (11, .long py), (9, .long px), (1, .long dx), (3, .long dy), (0, .ref h0)]) hx hb dX0_step_137 hl (k := 6) rfl (nI_1 i) (by decide) rfl (fun ls hl => ?_)
            refine lv_goto (tgt := 31) hx hb dX0_step_140 (by decide) ?_
            exact ih_31 _ ((i + 1), nI i, bs) _ _ _ (by rw [hn_31]; omega) ⟨rfl, (show i + 1 ≤ 8 by omega), (by rw [st_F_take (show st_c lf dx dy i = true by unfold st_c; rw [if_neg c_75, ← htn]; exact decide_eq_true (Int64.not_le.mp (fun h => c_82 ((lg_cmp_le _ _).mpr h)))) (Or.inr (by rw [← hI, ← hbs]; exact Int64.not_le.mp (fun h => c_126 ((lg_cmp_ge _ _).mpr h)))), hbs]), (hP.sub [0] rfl), (hD.sub [0] (by decide) rfl), hS, (lv_sub hl [0, 2, 1, 7, 8, 9] rfl)⟩
set_option maxHeartbeats 4000000 in
set_option maxRecDepth 100000 in
/-- Arc.measure -/
theorem ar_measure (l : Launch) (dC : Nat → ClassId) (dI : Nat → Nat → Nat) (cA cB : ClassId) (sz : Nat) (h0 : Nat) (qx : Nat) (qy : Nat) (ht : Int32) (cx : Int32) (cy : Int32) (lf : Int32) (sq : Int64) (ln : Int32) (of : Int32) (sr : Int32) (fx : Int32) (fy : Int32) (px : Int32) (py : Int32) : Met l yX0_measure wsX0_measure ({ frames := 3, cells := 0, slots := 0, locals := 60 }) (va_Pc [.ref h0, .int px, .int py] (ct_P dC dI cA cB sz [(h0, .inr (0, [.ref qx, .ref qy, .int ht, .int cx, .int cy, .int lf, .long sq, .int ln, .int of, .int sr, .int fx, .int fy]))])) (va_Qv (fun (u : Int32 × Int32) => u.1 = mx_i of (ab_l (sq_c fx cx fy cy - sq)).toInt32 ∧ ((ga_m px py 0 = 1 ∧ u.2 = sr) ∨ (¬ ga_m px py 0 = 1 ∧ u.2 = sr + 1))) (fun (u : Int32 × Int32) => ct_B dC dI (va_A [(h0, .inr (0, [.ref qx, .ref qy, .int ht, .int cx, .int cy, .int lf, .long sq, .int ln, .int of, .int sr, .int fx, .int fy]))] sz) [(h0, .inr (0, [.ref qx, .ref qy, .int ht, .int cx, .int cy, .int lf, .long sq, .int ln, .int u.1, .int u.2, .int fx, .int fy]))]) (va_A [(h0, .inr (0, [.ref qx, .ref qy, .int ht, .int cx, .int cy, .int lf, .long sq, .int ln, .int of, .int sr, .int fx, .int fy]))] sz)) 0 0 (va_A [(h0, .inr (0, [.ref qx, .ref qy, .int ht, .int cx, .int cy, .int lf, .long sq, .int ln, .int of, .int sr, .int fx, .int fy]))] sz) := by
  refine Met.ofW (cc := cX0_measure) (maxL := 3) (ret := none) (by decide +kernel) rfl ?_
  intro p e s m args below meth c s₁ B hml hv
  obtain ⟨rfl, hsz, hP, hK, hD0, hZ, hN⟩ := hv
  have hx := B.exec
  have hb := B.bytes
  have hr := B.returns
  have hts := atoms_spec (ws := wsX0_measure) B.pre
  have hown : s.vm.findClass RX0 = some m.cls := findClass_of_methodNamed B.named
  have hlocks := B.notSynchronized
  have hiX0 : ∀ w ∈ u_ws RX0 TX0 12, w ∈ wsX0_measure := by decide +kernel
  subst hsz
  have hD := hD0.self (sz := s.heap.size)
  generalize hAe : va_A [(h0, .inr (0, [.ref qx, .ref qy, .int ht, .int cx, .int cy, .int lf, .long sq, .int ln, .int of, .int sr, .int fx, .int fy]))] s.heap.size = A at hD hZ ⊢
  have hA : ∀ q : Nat, s.heap.size ≤ q → A q := fun q h => by rw [← hAe]; exact Or.inr h
  have hl := lv_entry ([.ref h0, .int px, .int py]) (n := 3) (Nat.le_of_ble_eq_true rfl)
  rw [lg_entry_eq]
  generalize (lg_sl ([.ref h0, .int px, .int py]) ++ List.replicate (3 - (lg_sl ([.ref h0, .int px, .int py])).length) Slot.unset).toArray = ls at hl ⊢
  have hl : lv_has ls 3 [(0, .ref h0), (1, .int px), (2, .int py)] := hl
  generalize hHe : s.heap = H at hP ⊢
  have hS : va_S A s.heap H [] := by rw [hHe]; exact va_S.rf
  generalize ([] : List Loc) = locs at hS ⊢
  refine lv_aload_n hx hb dX0_measure_0 rfl (lv_at hl 0 rfl) ?_
  refine lv_aload_n hx hb dX0_measure_1 rfl (lv_at hl 0 rfl) ?_
  refine va_get (D := (dC, dI)) (ci := 0) (v := .int of) (C := RX0) (T := TX0) (N := 12) hx hb hts hiX0 hown hK hP 0 rfl rfl 8 (by decide) (hts (.fieldLink RX0 39 "TickWalks$Arc" "off" "I") (List.mem_of_getElem? (l := wsX0_measure) (i := 1) rfl)) (fun _ h9 => h9) rfl dX0_measure_2 ?_
  refine lv_aload_n hx hb dX0_measure_5 rfl (lv_at hl 0 rfl) ?_
  refine ct_calll (va_runV (As := []) (rest := [.int of, .ref h0]) ⟨hx, hb, hml, hown, hts⟩ (ar_sq l dC dI cA cB H.size h0 qx qy ht cx cy lf sq ln of sr fx fy ) (cwV 0 hts gX0_measure_X0_squareFromCentre rfl rfl rfl (by decide +kernel) ⟨Nat.le_of_ble_eq_true rfl, Nat.le_of_ble_eq_true rfl⟩) ⟨ct_blind, va_recv hK hP (ci := 0) (q0 := 0) rfl rfl, ct_pre hP hD hK hZ hN hS hA [0] rfl (by decide)⟩ rfl rfl hl.1 rfl (lv_room (Nat.le_of_ble_eq_true rfl)) dX0_measure_6 ⟨Nat.le_of_ble_eq_true rfl, Nat.le_of_ble_eq_true rfl⟩) hP hD hS hA [0] [] rfl (wr := []) rfl (by decide) (by decide) (fun r_1 u9 H locs hw_1 hP hD hS => ?_)
  have hw_1 : r_1 = sq_c fx cx fy cy := hw_1
  have hP : va_P (dC, dI) vwCl [(h0, .inr (0, [.ref qx, .ref qy, .int ht, .int cx, .int cy, .int lf, .long sq, .int ln, .int of, .int sr, .int fx, .int fy]))] H := hP
  have hD : va_D A [(h0, .inr (0, [.ref qx, .ref qy, .int ht, .int cx, .int cy, .int lf, .long sq, .int ln, .int of, .int sr, .int fx, .int fy]))] := hD
  refine lv_aload_n hx hb dX0_measure_9 rfl (lv_at hl 0 rfl) ?_
  refine va_get (D := (dC, dI)) (ci := 0) (v := .long sq) (C := RX0) (T := TX0) (N := 12) hx hb hts hiX0 hown hK hP 0 rfl rfl 6 (by decide) (hts (.fieldLink RX0 32 "TickWalks$Arc" "square" "J") (List.mem_of_getElem? (l := wsX0_measure) (i := 2) rfl)) (fun _ h9 => h9) rfl dX0_measure_10 ?_
  refine lv_lsub hx hb dX0_measure_13 ?_
  refine va_mabs_long hx hb (hml.trans hl.1.symm) hown (hts (.methodLink RX0 73 Lib.MathLoose.abs_long.x) (List.mem_of_getElem? (l := wsX0_measure) (i := 3) rfl)) (hts (.static Lib.MathLoose.abs_long.x) (List.mem_of_getElem? (l := wsX0_measure) (i := 4) rfl)) (hts (.initialized "java/lang/Math") (List.mem_of_getElem? (l := wsX0_measure) (i := 5) rfl)) (hts (.code Lib.MathLoose.abs_long.x Lib.MathLoose.abs_long.code 2 (some .long)) (List.mem_of_getElem? (l := wsX0_measure) (i := 6) rfl)) (Nat.le_of_ble_eq_true rfl) (Nat.le_of_ble_eq_true rfl) (Nat.le_of_ble_eq_true rfl) (Nat.le_of_ble_eq_true rfl) dX0_measure_14 ?_
  refine lv_l2i hx hb dX0_measure_17 rfl ?_
  refine va_mmax hx hb (hml.trans hl.1.symm) hown (hts (.methodLink RX0 79 Lib.Math.max.name) (List.mem_of_getElem? (l := wsX0_measure) (i := 7) rfl)) (hts (.static Lib.Math.max.name) (List.mem_of_getElem? (l := wsX0_measure) (i := 8) rfl)) (hts (.initialized "java/lang/Math") (List.mem_of_getElem? (l := wsX0_measure) (i := 5) rfl)) (hts (.code Lib.Math.max.name Lib.Math.max.code 2 (some .int)) (List.mem_of_getElem? (l := wsX0_measure) (i := 9) rfl)) (Nat.le_of_ble_eq_true rfl) (Nat.le_of_ble_eq_true rfl) (Nat.le_of_ble_eq_true rfl) (Nat.le_of_ble_eq_true rfl) dX0_measure_18 ?_
  refine va_put (D := (dC, dI)) (ci := 0) (v := .int (if of < ((if 0 < (r_1 - sq) then (r_1 - sq) else -(r_1 - sq)).toInt32) then ((if 0 < (r_1 - sq) then (r_1 - sq) else -(r_1 - sq)).toInt32) else of)) (ty := .int) (C := RX0) (T := TX0) (N := 12) hx hb hts hiX0 tyX0 tyX0_ok nmX0 hown hK hP hD hS 0 rfl rfl 8 (by decide) (hts (.fieldLink RX0 39 "TickWalks$Arc" "off" "I") (List.mem_of_getElem? (l := wsX0_measure) (i := 1) rfl)) (fun _ h9 => h9) rfl (by decide +kernel) rfl rfl (Nat.le_of_ble_eq_true rfl) dX0_measure_21 (fun H locs hP hD hS => ?_)
  have hP : va_P (dC, dI) vwCl [(h0, .inr (0, [.ref qx, .ref qy, .int ht, .int cx, .int cy, .int lf, .long sq, .int ln, .int (if of < ((if 0 < (r_1 - sq) then (r_1 - sq) else -(r_1 - sq)).toInt32) then ((if 0 < (r_1 - sq) then (r_1 - sq) else -(r_1 - sq)).toInt32) else of), .int sr, .int fx, .int fy]))] H := hP
  have hD : va_D A [(h0, .inr (0, [.ref qx, .ref qy, .int ht, .int cx, .int cy, .int lf, .long sq, .int ln, .int (if of < ((if 0 < (r_1 - sq) then (r_1 - sq) else -(r_1 - sq)).toInt32) then ((if 0 < (r_1 - sq) then (r_1 - sq) else -(r_1 - sq)).toInt32) else of), .int sr, .int fx, .int fy]))] := hD
  refine lv_iload_n hx hb dX0_measure_24 rfl (lv_at hl 1 rfl) ?_
  refine lv_iload_n hx hb dX0_measure_25 rfl (lv_at hl 2 rfl) ?_
  refine lv_iconst (v := 0) hx hb dX0_measure_26 (by decide) ?_
  refine ct_calli (va_runSN (As := [.int px, .int py, .int 0]) (rest := []) ⟨hx, hb, hml, hown, hts⟩ (ct_isStray l dC dI cA cB H.size px py 0 ) ⟨va_cnB (host := "TickWalks") 3 hts gX0_measure_X3_isStray_n83 rfl rfl rfl hN.2.2.2.2.2.2.2.1 (hts (.initialized RX3) (List.mem_of_getElem? (l := wsX0_measure) (i := 21) rfl)) (by decide +kernel) ⟨Nat.le_of_ble_eq_true rfl, Nat.le_of_ble_eq_true rfl⟩, (hts (.static yX3_isStray) (List.mem_of_getElem? (l := wsX0_measure) (i := 20) rfl)), trivial⟩ ⟨ct_blind, ct_pre hP hD hK hZ hN hS hA [] rfl (by decide)⟩ rfl rfl hl.1 rfl (lv_room (Nat.le_of_ble_eq_true rfl)) dX0_measure_27 ⟨Nat.le_of_ble_eq_true rfl, Nat.le_of_ble_eq_true rfl⟩) hP hD hS hA [] [0] rfl (wr := [(h0, .inr (0, [.ref qx, .ref qy, .int ht, .int cx, .int cy, .int lf, .long sq, .int ln, .int (if of < ((if 0 < (r_1 - sq) then (r_1 - sq) else -(r_1 - sq)).toInt32) then ((if 0 < (r_1 - sq) then (r_1 - sq) else -(r_1 - sq)).toInt32) else of), .int sr, .int fx, .int fy]))]) rfl (by decide) (by decide) (fun r_2 u9 H locs hw_2 hP hD hS => ?_)
  have hw_2 : bo_z r_2 (¬ ga_m px py 0 = 1) := hw_2
  have hP : va_P (dC, dI) vwCl [(h0, .inr (0, [.ref qx, .ref qy, .int ht, .int cx, .int cy, .int lf, .long sq, .int ln, .int (if of < ((if 0 < (r_1 - sq) then (r_1 - sq) else -(r_1 - sq)).toInt32) then ((if 0 < (r_1 - sq) then (r_1 - sq) else -(r_1 - sq)).toInt32) else of), .int sr, .int fx, .int fy]))] H := hP
  have hD : va_D A [(h0, .inr (0, [.ref qx, .ref qy, .int ht, .int cx, .int cy, .int lf, .long sq, .int ln, .int (if of < ((if 0 < (r_1 - sq) then (r_1 - sq) else -(r_1 - sq)).toInt32) then ((if 0 < (r_1 - sq) then (r_1 - sq) else -(r_1 - sq)).toInt32) else of), .int sr, .int fx, .int fy]))] := hD
  refine lv_if_eq (tgt := 43) hx hb dX0_measure_30 (by decide) (fun c_30 => ?_) (fun c_30 => ?_)
  · have hP9 := hP.sub (ws' := [(h0, .inr (0, [.ref qx, .ref qy, .int ht, .int cx, .int cy, .int lf, .long sq, .int ln, .int (if of < ((if 0 < (r_1 - sq) then (r_1 - sq) else -(r_1 - sq)).toInt32) then ((if 0 < (r_1 - sq) then (r_1 - sq) else -(r_1 - sq)).toInt32) else of), .int sr, .int fx, .int fy]))]) [0] rfl
    have hD9 := hD.sub (ws' := [(h0, .inr (0, [.ref qx, .ref qy, .int ht, .int cx, .int cy, .int lf, .long sq, .int ln, .int (if of < ((if 0 < (r_1 - sq) then (r_1 - sq) else -(r_1 - sq)).toInt32) then ((if 0 < (r_1 - sq) then (r_1 - sq) else -(r_1 - sq)).toInt32) else of), .int sr, .int fx, .int fy]))]) [0] (by decide) rfl
    exact W.vret hx hb hr (fun t9 ht9 hW9 => ⟨⟨(if of < ((if 0 < (r_1 - sq) then (r_1 - sq) else -(r_1 - sq)).toInt32) then ((if 0 < (r_1 - sq) then (r_1 - sq) else -(r_1 - sq)).toInt32) else of, sr), rfl, ⟨by rw [hw_1]; rfl, Or.inl ⟨Decidable.not_not.mp (hw_2.f c_30), rfl⟩⟩, by rw [ht9]; exact hP9, hD9⟩, hS.F ht9⟩) hS.2.2 dX0_measure_43
  · refine lv_aload_n hx hb dX0_measure_33 rfl (lv_at hl 0 rfl) ?_
    refine lv_dup hx hb dX0_measure_34 rfl ?_
    refine va_get (D := (dC, dI)) (ci := 0) (v := .int sr) (C := RX0) (T := TX0) (N := 12) hx hb hts hiX0 hown hK hP 0 rfl rfl 9 (by decide) (hts (.fieldLink RX0 42 "TickWalks$Arc" "strays" "I") (List.mem_of_getElem? (l := wsX0_measure) (i := 10) rfl)) (fun _ h9 => h9) rfl dX0_measure_35 ?_
    refine lv_iconst (v := 1) hx hb dX0_measure_38 (by decide) ?_
    refine lv_iadd hx hb dX0_measure_39 ?_
    refine va_put (D := (dC, dI)) (ci := 0) (v := .int (sr + 1)) (ty := .int) (C := RX0) (T := TX0) (N := 12) hx hb hts hiX0 tyX0 tyX0_ok nmX0 hown hK hP hD hS 0 rfl rfl 9 (by decide) (hts (.fieldLink RX0 42 "TickWalks$Arc" "strays" "I") (List.mem_of_getElem? (l := wsX0_measure) (i := 10) rfl)) (fun _ h9 => h9) rfl (by decide +kernel) rfl rfl (Nat.le_of_ble_eq_true rfl) dX0_measure_40 (fun H locs hP hD hS => ?_)
    have hP : va_P (dC, dI) vwCl [(h0, .inr (0, [.ref qx, .ref qy, .int ht, .int cx, .int cy, .int lf, .long sq, .int ln, .int (if of < ((if 0 < (r_1 - sq) then (r_1 - sq) else -(r_1 - sq)).toInt32) then ((if 0 < (r_1 - sq) then (r_1 - sq) else -(r_1 - sq)).toInt32) else of), .int (sr + 1), .int fx, .int fy]))] H := hP
    have hD : va_D A [(h0, .inr (0, [.ref qx, .ref qy, .int ht, .int cx, .int cy, .int lf, .long sq, .int ln, .int (if of < ((if 0 < (r_1 - sq) then (r_1 - sq) else -(r_1 - sq)).toInt32) then ((if 0 < (r_1 - sq) then (r_1 - sq) else -(r_1 - sq)).toInt32) else of), .int (sr + 1), .int fx, .int fy]))] := hD
    have hP9 := hP.sub (ws' := [(h0, .inr (0, [.ref qx, .ref qy, .int ht, .int cx, .int cy, .int lf, .long sq, .int ln, .int (if of < ((if 0 < (r_1 - sq) then (r_1 - sq) else -(r_1 - sq)).toInt32) then ((if 0 < (r_1 - sq) then (r_1 - sq) else -(r_1 - sq)).toInt32) else of), .int (sr + 1), .int fx, .int fy]))]) [0] rfl
    have hD9 := hD.sub (ws' := [(h0, .inr (0, [.ref qx, .ref qy, .int ht, .int cx, .int cy, .int lf, .long sq, .int ln, .int (if of < ((if 0 < (r_1 - sq) then (r_1 - sq) else -(r_1 - sq)).toInt32) then ((if 0 < (r_1 - sq) then (r_1 - sq) else -(r_1 - sq)).toInt32) else of), .int (sr + 1), .int fx, .int fy]))]) [0] (by decide) rfl
    exact W.vret hx hb hr (fun t9 ht9 hW9 => ⟨⟨(if of < ((if 0 < (r_1 - sq) then (r_1 - sq) else -(r_1 - sq)).toInt32) then ((if 0 < (r_1 - sq) then (r_1 - sq) else -(r_1 - sq)).toInt32) else of, sr + 1), rfl, ⟨by rw [hw_1]; rfl, Or.inr ⟨hw_2.t c_30, rfl⟩⟩, by rw [ht9]; exact hP9, hD9⟩, hS.F ht9⟩) hS.2.2 dX0_measure_43
