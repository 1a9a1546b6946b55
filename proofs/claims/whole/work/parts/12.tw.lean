set_option maxHeartbeats 4000000 in
set_option maxRecDepth 100000 in
/-- TickWalks.standAt -/
theorem tw_stand (l : Launch) (dC : Nat → ClassId) (dI : Nat → Nat → Nat) (cA cB : ClassId) (sz : Nat) (t0 : Nat) (qs : Nat) (ql : Nat) (a1 : Nat) (a2 : Nat) (lt : Value) (sv : Nat → Int32) (x : Int32) (y : Int32) (z : Int32) : Met l yX3_standAt wsX3_standAt ({ frames := 0, cells := 0, slots := 0, locals := 0 }) (va_Pc [.ref t0, .int x, .int y, .int z] (ct_P dC dI cA cB sz [(t0, .inr (2, [.ref qs, .ref ql, .ref a1, .ref a2, lt])), (qs, .inl (cA, 3, .inl sv))])) (va_Qv (fun (u : (Nat → Int32)) => u 0 = x ∧ u 1 = y ∧ u 2 = z) (fun (u : (Nat → Int32)) => ct_B dC dI (va_A [(t0, .inr (2, [.ref qs, .ref ql, .ref a1, .ref a2, lt])), (qs, .inl (cA, 3, .inl sv))] sz) [(t0, .inr (2, [.ref qs, .ref ql, .ref a1, .ref a2, lt])), (qs, .inl (cA, 3, .inl u))]) (va_A [(t0, .inr (2, [.ref qs, .ref ql, .ref a1, .ref a2, lt])), (qs, .inl (cA, 3, .inl sv))] sz)) 0 0 (va_A [(t0, .inr (2, [.ref qs, .ref ql, .ref a1, .ref a2, lt])), (qs, .inl (cA, 3, .inl sv))] sz) := by
  refine Met.ofW (cc := cX3_standAt) (maxL := 4) (ret := none) (by decide +kernel) rfl ?_
  intro p e s m args below meth c s₁ B hml hv
  obtain ⟨rfl, hsz, hP, hK, hD0, hZ, hN⟩ := hv
  have hx := B.exec
  have hb := B.bytes
  have hr := B.returns
  have hts := atoms_spec (ws := wsX3_standAt) B.pre
  have hown : s.vm.findClass RX3 = some m.cls := findClass_of_methodNamed B.named
  have hlocks := B.notSynchronized
  have hiX3 : ∀ w ∈ u_ws RX3 TX3 5, w ∈ wsX3_standAt := by decide +kernel
  subst hsz
  have hD := hD0.self (sz := s.heap.size)
  generalize hAe : va_A [(t0, .inr (2, [.ref qs, .ref ql, .ref a1, .ref a2, lt])), (qs, .inl (cA, 3, .inl sv))] s.heap.size = A at hD hZ ⊢
  have hA : ∀ q : Nat, s.heap.size ≤ q → A q := fun q h => by rw [← hAe]; exact Or.inr h
  have hl := lv_entry ([.ref t0, .int x, .int y, .int z]) (n := 4) (Nat.le_of_ble_eq_true rfl)
  rw [lg_entry_eq]
  generalize (lg_sl ([.ref t0, .int x, .int y, .int z]) ++ List.replicate (4 - (lg_sl ([.ref t0, .int x, .int y, .int z])).length) Slot.unset).toArray = ls at hl ⊢
  have hl : lv_has ls 4 [(0, .ref t0), (1, .int x), (2, .int y), (3, .int z)] := hl
  generalize hHe : s.heap = H at hP ⊢
  have hS : va_S A s.heap H [] := by rw [hHe]; exact va_S.rf
  generalize ([] : List Loc) = locs at hS ⊢
  refine lv_aload_n hx hb dX3_standAt_0 rfl (lv_at hl 0 rfl) ?_
  refine va_get (D := (dC, dI)) (ci := 2) (v := .ref qs) (C := RX3) (T := TX3) (N := 5) hx hb hts hiX3 hown hK hP 0 rfl rfl 0 (by decide) (hts (.fieldLink RX3 9 "TickWalks" "stand" "[I") (List.mem_of_getElem? (l := wsX3_standAt) (i := 1) rfl)) (fun _ h9 => h9) rfl dX3_standAt_1 ?_
  refine lv_iconst (v := 0) hx hb dX3_standAt_4 (by decide) ?_
  refine lv_iload_n hx hb dX3_standAt_5 rfl (lv_at hl 1 rfl) ?_
  refine va_iast hx hb hK hP hD hS 1 0 rfl rfl (show vp_in 0 3 by unfold vp_in; decide) dX3_standAt_6 (fun H locs hP hD hS => ?_)
  rw [(show Int32.toNatClampNeg 0 = 0 by decide)] at hP hD
  have hP : va_P (dC, dI) vwCl [(t0, .inr (2, [.ref qs, .ref ql, .ref a1, .ref a2, lt])), (qs, .inl (cA, 3, .inl (upd sv 0 x)))] H := hP
  have hD : va_D A [(t0, .inr (2, [.ref qs, .ref ql, .ref a1, .ref a2, lt])), (qs, .inl (cA, 3, .inl (upd sv 0 x)))] := hD
  refine lv_aload_n hx hb dX3_standAt_7 rfl (lv_at hl 0 rfl) ?_
  refine va_get (D := (dC, dI)) (ci := 2) (v := .ref qs) (C := RX3) (T := TX3) (N := 5) hx hb hts hiX3 hown hK hP 0 rfl rfl 0 (by decide) (hts (.fieldLink RX3 9 "TickWalks" "stand" "[I") (List.mem_of_getElem? (l := wsX3_standAt) (i := 1) rfl)) (fun _ h9 => h9) rfl dX3_standAt_8 ?_
  refine lv_iconst (v := 1) hx hb dX3_standAt_11 (by decide) ?_
  refine lv_iload_n hx hb dX3_standAt_12 rfl (lv_at hl 2 rfl) ?_
  refine va_iast hx hb hK hP hD hS 1 0 rfl rfl (show vp_in 1 3 by unfold vp_in; decide) dX3_standAt_13 (fun H locs hP hD hS => ?_)
  rw [(show Int32.toNatClampNeg 1 = 1 by decide)] at hP hD
  have hP : va_P (dC, dI) vwCl [(t0, .inr (2, [.ref qs, .ref ql, .ref a1, .ref a2, lt])), (qs, .inl (cA, 3, .inl (upd (upd sv 0 x) 1 y)))] H := hP
  have hD : va_D A [(t0, .inr (2, [.ref qs, .ref ql, .ref a1, .ref a2, lt])), (qs, .inl (cA, 3, .inl (upd (upd sv 0 x) 1 y)))] := hD
  refine lv_aload_n hx hb dX3_standAt_14 rfl (lv_at hl 0 rfl) ?_
  refine va_get (D := (dC, dI)) (ci := 2) (v := .ref qs) (C := RX3) (T := TX3) (N := 5) hx hb hts hiX3 hown hK hP 0 rfl rfl 0 (by decide) (hts (.fieldLink RX3 9 "TickWalks" "stand" "[I") (List.mem_of_getElem? (l := wsX3_standAt) (i := 1) rfl)) (fun _ h9 => h9) rfl dX3_standAt_15 ?_
  refine lv_iconst (v := 2) hx hb dX3_standAt_18 (by decide) ?_
  refine lv_iload_n hx hb dX3_standAt_19 rfl (lv_at hl 3 rfl) ?_
  refine va_iast hx hb hK hP hD hS 1 0 rfl rfl (show vp_in 2 3 by unfold vp_in; decide) dX3_standAt_20 (fun H locs hP hD hS => ?_)
  rw [(show Int32.toNatClampNeg 2 = 2 by decide)] at hP hD
  have hP : va_P (dC, dI) vwCl [(t0, .inr (2, [.ref qs, .ref ql, .ref a1, .ref a2, lt])), (qs, .inl (cA, 3, .inl (upd (upd (upd sv 0 x) 1 y) 2 z)))] H := hP
  have hD : va_D A [(t0, .inr (2, [.ref qs, .ref ql, .ref a1, .ref a2, lt])), (qs, .inl (cA, 3, .inl (upd (upd (upd sv 0 x) 1 y) 2 z)))] := hD
  have hP9 := hP.sub (ws' := [(t0, .inr (2, [.ref qs, .ref ql, .ref a1, .ref a2, lt])), (qs, .inl (cA, 3, .inl (upd (upd (upd sv 0 x) 1 y) 2 z)))]) [0, 1] rfl
  have hD9 := hD.sub (ws' := [(t0, .inr (2, [.ref qs, .ref ql, .ref a1, .ref a2, lt])), (qs, .inl (cA, 3, .inl (upd (upd (upd sv 0 x) 1 y) 2 z)))]) [0, 1] (by decide) rfl
  exact W.vret hx hb hr (fun t9 ht9 hW9 => ⟨⟨(upd (upd (upd sv 0 x) 1 y) 2 z), rfl, ⟨rfl, rfl, rfl⟩, by rw [ht9]; exact hP9, hD9⟩, hS.F ht9⟩) hS.2.2 dX3_standAt_21
set_option maxHeartbeats 4000000 in
set_option maxRecDepth 100000 in
/-- TickWalks.place -/
theorem tw_place (l : Launch) (dC : Nat → ClassId) (dI : Nat → Nat → Nat) (cA cB : ClassId) (sz : Nat) (t0 : Nat) (qs : Nat) (ql : Nat) (a1 : Nat) (a2 : Nat) (lt : Value) (sv : Nat → Int32) (x : Int32) (y : Int32) (z : Int32) : Met l yX3_place wsX3_place ({ frames := 2, cells := 0, slots := 0, locals := 50 }) (va_Pc [.ref t0, .int x, .int y, .int z] (ct_P dC dI cA cB sz [(t0, .inr (2, [.ref qs, .ref ql, .ref a1, .ref a2, lt])), (qs, .inl (cA, 3, .inl sv))])) (va_Qi (fun (r : Int32) (u : (Nat → Int32) × Value) => (r = 1 ∧ (pl_in x ∧ pl_in y ∧ pl_in z) ∧ u.2 = .null ∧ (u.1 0 = x ∧ u.1 1 = y ∧ u.1 2 = z)) ∨ (r = 0 ∧ ¬ (pl_in x ∧ pl_in y ∧ pl_in z) ∧ u.2 = lt ∧ u.1 = sv)) (fun (u : (Nat → Int32) × Value) => ct_B dC dI (va_A [(t0, .inr (2, [.ref qs, .ref ql, .ref a1, .ref a2, lt])), (qs, .inl (cA, 3, .inl sv))] sz) [(t0, .inr (2, [.ref qs, .ref ql, .ref a1, .ref a2, u.2])), (qs, .inl (cA, 3, .inl u.1))]) (va_A [(t0, .inr (2, [.ref qs, .ref ql, .ref a1, .ref a2, lt])), (qs, .inl (cA, 3, .inl sv))] sz)) 0 0 (va_A [(t0, .inr (2, [.ref qs, .ref ql, .ref a1, .ref a2, lt])), (qs, .inl (cA, 3, .inl sv))] sz) := by
  refine Met.ofW (cc := cX3_place) (maxL := 4) (ret := (some .boolean)) (by decide +kernel) rfl ?_
  intro p e s m args below meth c s₁ B hml hv
  obtain ⟨rfl, hsz, hP, hK, hD0, hZ, hN⟩ := hv
  have hx := B.exec
  have hb := B.bytes
  have hr := B.returns
  have hts := atoms_spec (ws := wsX3_place) B.pre
  have hown : s.vm.findClass RX3 = some m.cls := findClass_of_methodNamed B.named
  have hlocks := B.notSynchronized
  have hiX3 : ∀ w ∈ u_ws RX3 TX3 5, w ∈ wsX3_place := by decide +kernel
  subst hsz
  have hD := hD0.self (sz := s.heap.size)
  generalize hAe : va_A [(t0, .inr (2, [.ref qs, .ref ql, .ref a1, .ref a2, lt])), (qs, .inl (cA, 3, .inl sv))] s.heap.size = A at hD hZ ⊢
  have hA : ∀ q : Nat, s.heap.size ≤ q → A q := fun q h => by rw [← hAe]; exact Or.inr h
  have hl := lv_entry ([.ref t0, .int x, .int y, .int z]) (n := 4) (Nat.le_of_ble_eq_true rfl)
  rw [lg_entry_eq]
  generalize (lg_sl ([.ref t0, .int x, .int y, .int z]) ++ List.replicate (4 - (lg_sl ([.ref t0, .int x, .int y, .int z])).length) Slot.unset).toArray = ls at hl ⊢
  have hl : lv_has ls 4 [(0, .ref t0), (1, .int x), (2, .int y), (3, .int z)] := hl
  generalize hHe : s.heap = H at hP ⊢
  have hS : va_S A s.heap H [] := by rw [hHe]; exact va_S.rf
  generalize ([] : List Loc) = locs at hS ⊢
  refine lv_iload_n hx hb dX3_place_0 rfl (lv_at hl 1 rfl) ?_
  refine lv_iload_n hx hb dX3_place_1 rfl (lv_at hl 2 rfl) ?_
  refine lv_iload_n hx hb dX3_place_2 rfl (lv_at hl 3 rfl) ?_
  refine ct_calli (va_runS (As := [.int x, .int y, .int z]) (rest := []) ⟨hx, hb, hml, hown, hts⟩ (ct_isPlace l dC dI cA cB H.size x y z ) (va_cwS 3 hts gX3_place_X3_isPlace rfl rfl rfl (by decide +kernel) ⟨Nat.le_of_ble_eq_true rfl, Nat.le_of_ble_eq_true rfl⟩) ⟨ct_blind, ct_pre hP hD hK hZ hN hS hA [] rfl (by decide)⟩ rfl rfl hl.1 rfl (lv_room (Nat.le_of_ble_eq_true rfl)) dX3_place_3 ⟨Nat.le_of_ble_eq_true rfl, Nat.le_of_ble_eq_true rfl⟩) hP hD hS hA [] [0, 1] rfl (wr := [(t0, .inr (2, [.ref qs, .ref ql, .ref a1, .ref a2, lt])), (qs, .inl (cA, 3, .inl sv))]) rfl (by decide) (by decide) (fun r_1 u9 H locs hw_1 hP hD hS => ?_)
  have hw_1 : bo_z r_1 (pl_in x ∧ pl_in y ∧ pl_in z) := hw_1
  have hP : va_P (dC, dI) vwCl [(t0, .inr (2, [.ref qs, .ref ql, .ref a1, .ref a2, lt])), (qs, .inl (cA, 3, .inl sv))] H := hP
  have hD : va_D A [(t0, .inr (2, [.ref qs, .ref ql, .ref a1, .ref a2, lt])), (qs, .inl (cA, 3, .inl sv))] := hD
  refine lv_if_ne (tgt := 11) hx hb dX3_place_6 (by decide) (fun c_6 => ?_) (fun c_6 => ?_)
  · refine lv_aload_n hx hb dX3_place_11 rfl (lv_at hl 0 rfl) ?_
    refine lv_iload_n hx hb dX3_place_12 rfl (lv_at hl 1 rfl) ?_
    refine lv_iload_n hx hb dX3_place_13 rfl (lv_at hl 2 rfl) ?_
    refine lv_iload_n hx hb dX3_place_14 rfl (lv_at hl 3 rfl) ?_
    refine ct_callv (va_runV (As := [.int x, .int y, .int z]) (rest := []) ⟨hx, hb, hml, hown, hts⟩ (tw_stand l dC dI cA cB H.size t0 qs ql a1 a2 lt sv x y z ) (cwV 3 hts gX3_place_X3_standAt rfl rfl rfl (by decide +kernel) ⟨Nat.le_of_ble_eq_true rfl, Nat.le_of_ble_eq_true rfl⟩) ⟨ct_blind, va_recv hK hP (ci := 2) (q0 := 0) rfl rfl, ct_pre hP hD hK hZ hN hS hA [0, 1] rfl (by decide)⟩ rfl rfl hl.1 rfl (lv_room (Nat.le_of_ble_eq_true rfl)) dX3_place_15 ⟨Nat.le_of_ble_eq_true rfl, Nat.le_of_ble_eq_true rfl⟩) hP hD hS hA [0, 1] [] rfl (wr := []) rfl (by decide) (by decide) (fun nv_2 H locs hw_2 hP hD hS => ?_)
    have hw_2 : nv_2 0 = x ∧ nv_2 1 = y ∧ nv_2 2 = z := hw_2
    have hP : va_P (dC, dI) vwCl [(t0, .inr (2, [.ref qs, .ref ql, .ref a1, .ref a2, lt])), (qs, .inl (cA, 3, .inl nv_2))] H := hP
    have hD : va_D A [(t0, .inr (2, [.ref qs, .ref ql, .ref a1, .ref a2, lt])), (qs, .inl (cA, 3, .inl nv_2))] := hD
    refine lv_aload_n hx hb dX3_place_18 rfl (lv_at hl 0 rfl) ?_
    refine lv_null hx hb dX3_place_19 ?_
    refine va_put (D := (dC, dI)) (ci := 2) (v := .null) (ty := (.object "TickWalks$Walk")) (C := RX3) (T := TX3) (N := 5) hx hb hts hiX3 tyX3 tyX3_ok nmX3 hown hK hP hD hS 0 rfl rfl 4 (by decide) (hts (.fieldLink RX3 30 "TickWalks" "latest" "LTickWalks$Walk;") (List.mem_of_getElem? (l := wsX3_place) (i := 1) rfl)) (fun _ h9 => h9) rfl (by decide +kernel) rfl rfl (Nat.le_of_ble_eq_true rfl) dX3_place_20 (fun H locs hP hD hS => ?_)
    have hP : va_P (dC, dI) vwCl [(t0, .inr (2, [.ref qs, .ref ql, .ref a1, .ref a2, .null])), (qs, .inl (cA, 3, .inl nv_2))] H := hP
    have hD : va_D A [(t0, .inr (2, [.ref qs, .ref ql, .ref a1, .ref a2, .null])), (qs, .inl (cA, 3, .inl nv_2))] := hD
    refine lv_iconst (v := 1) hx hb dX3_place_23 (by decide) ?_
    have hP9 := hP.sub (ws' := [(t0, .inr (2, [.ref qs, .ref ql, .ref a1, .ref a2, .null])), (qs, .inl (cA, 3, .inl nv_2))]) [0, 1] rfl
    have hD9 := hD.sub (ws' := [(t0, .inr (2, [.ref qs, .ref ql, .ref a1, .ref a2, .null])), (qs, .inl (cA, 3, .inl nv_2))]) [0, 1] (by decide) rfl
    exact W.zret (v := 1) hx hb hr rfl (fun t9 ht9 hW9 => ⟨⟨1, (nv_2, .null), rfl, Or.inl ⟨rfl, hw_1.t c_6, rfl, hw_2⟩, by rw [ht9]; exact hP9, hD9⟩, hS.F ht9⟩) hS.2.2 dX3_place_24
  · refine lv_iconst (v := 0) hx hb dX3_place_9 (by decide) ?_
    have hP9 := hP.sub (ws' := [(t0, .inr (2, [.ref qs, .ref ql, .ref a1, .ref a2, lt])), (qs, .inl (cA, 3, .inl sv))]) [0, 1] rfl
    have hD9 := hD.sub (ws' := [(t0, .inr (2, [.ref qs, .ref ql, .ref a1, .ref a2, lt])), (qs, .inl (cA, 3, .inl sv))]) [0, 1] (by decide) rfl
    exact W.zret (v := 0) hx hb hr rfl (fun t9 ht9 hW9 => ⟨⟨0, (sv, lt), rfl, Or.inr ⟨rfl, hw_1.f c_6, rfl, rfl⟩, by rw [ht9]; exact hP9, hD9⟩, hS.F ht9⟩) hS.2.2 dX3_place_10
set_option maxHeartbeats 4000000 in
set_option maxRecDepth 100000 in
/-- TickWalks.line -/
theorem tw_line (l : Launch) (dC : Nat → ClassId) (dI : Nat → Nat → Nat) (cA cB : ClassId) (sz : Nat) (t0 : Nat) (qs : Nat) (ql : Nat) (a1 : Nat) (a2 : Nat) (lt : Value) (sv : Nat → Int32) (qf : Nat) (qb : Nat) (ln : Int32) (sr : Int32) (fv : Nat → Int32) (bv : Nat → Int32) (x : Int32) (y : Int32) (z : Int32) : Met l yX3_line wsX3_line ({ frames := 3, cells := 0, slots := 0, locals := 70 }) (va_Pc [.ref t0, .int x, .int y, .int z] (ct_P dC dI cA cB sz [(t0, .inr (2, [.ref qs, .ref ql, .ref a1, .ref a2, lt])), (qs, .inl (cA, 3, .inl sv)), (ql, .inr (1, [.ref qf, .ref qb, .int ln, .int sr])), (qf, .inl (cA, 3, .inl fv)), (qb, .inl (cA, 3, .inl bv))])) (va_Qi (fun (r : Int32) (u : (Nat → Int32) × Value × (Nat → Int32) × (Nat → Int32) × Int32 × Int32) => (r = u.2.2.2.2.1 ∧ (pl_in x ∧ pl_in y ∧ pl_in z) ∧ u.2.1 = .ref ql ∧ u.2.2.2.2.2 = -1 ∧ (u.1 0 = x ∧ u.1 1 = y ∧ u.1 2 = z) ∧ (u.2.2.1 0 = sv 0 ∧ u.2.2.1 1 = sv 1 ∧ u.2.2.1 2 = sv 2) ∧ (u.2.2.2.1 0 = x - sv 0 ∧ u.2.2.2.1 1 = y - sv 1 ∧ u.2.2.2.1 2 = z - sv 2) ∧ u.2.2.2.2.1 = ga_m (u.2.2.2.1 0) (u.2.2.2.1 1) (u.2.2.2.1 2)) ∨ (r = -1 ∧ ¬ (pl_in x ∧ pl_in y ∧ pl_in z) ∧ u.2.1 = lt ∧ u.1 = sv ∧ u.2.2.1 = fv ∧ u.2.2.2.1 = bv ∧ u.2.2.2.2.1 = ln ∧ u.2.2.2.2.2 = sr)) (fun (u : (Nat → Int32) × Value × (Nat → Int32) × (Nat → Int32) × Int32 × Int32) => ct_B dC dI (va_A [(t0, .inr (2, [.ref qs, .ref ql, .ref a1, .ref a2, lt])), (qs, .inl (cA, 3, .inl sv)), (ql, .inr (1, [.ref qf, .ref qb, .int ln, .int sr])), (qf, .inl (cA, 3, .inl fv)), (qb, .inl (cA, 3, .inl bv))] sz) [(t0, .inr (2, [.ref qs, .ref ql, .ref a1, .ref a2, u.2.1])), (qs, .inl (cA, 3, .inl u.1)), (ql, .inr (1, [.ref qf, .ref qb, .int u.2.2.2.2.1, .int u.2.2.2.2.2])), (qf, .inl (cA, 3, .inl u.2.2.1)), (qb, .inl (cA, 3, .inl u.2.2.2.1))]) (va_A [(t0, .inr (2, [.ref qs, .ref ql, .ref a1, .ref a2, lt])), (qs, .inl (cA, 3, .inl sv)), (ql, .inr (1, [.ref qf, .ref qb, .int ln, .int sr])), (qf, .inl (cA, 3, .inl fv)), (qb, .inl (cA, 3, .inl bv))] sz)) 0 0 (va_A [(t0, .inr (2, [.ref qs, .ref ql, .ref a1, .ref a2, lt])), (qs, .inl (cA, 3, .inl sv)), (ql, .inr (1, [.ref qf, .ref qb, .int ln, .int sr])), (qf, .inl (cA, 3, .inl fv)), (qb, .inl (cA, 3, .inl bv))] sz) := by
  refine Met.ofW (cc := cX3_line) (maxL := 4) (ret := (some .int)) (by decide +kernel) rfl ?_
  intro p e s m args below meth c s₁ B hml hv
  obtain ⟨rfl, hsz, hP, hK, hD0, hZ, hN⟩ := hv
  have hx := B.exec
  have hb := B.bytes
  have hr := B.returns
  have hts := atoms_spec (ws := wsX3_line) B.pre
  have hown : s.vm.findClass RX3 = some m.cls := findClass_of_methodNamed B.named
  have hlocks := B.notSynchronized
  have hiX3 : ∀ w ∈ u_ws RX3 TX3 5, w ∈ wsX3_line := by decide +kernel
  have hiX1 : ∀ w ∈ u_ws RX1 TX1 4, w ∈ wsX3_line := by decide +kernel
  subst hsz
  have hD := hD0.self (sz := s.heap.size)
  generalize hAe : va_A [(t0, .inr (2, [.ref qs, .ref ql, .ref a1, .ref a2, lt])), (qs, .inl (cA, 3, .inl sv)), (ql, .inr (1, [.ref qf, .ref qb, .int ln, .int sr])), (qf, .inl (cA, 3, .inl fv)), (qb, .inl (cA, 3, .inl bv))] s.heap.size = A at hD hZ ⊢
  have hA : ∀ q : Nat, s.heap.size ≤ q → A q := fun q h => by rw [← hAe]; exact Or.inr h
  have hl := lv_entry ([.ref t0, .int x, .int y, .int z]) (n := 4) (Nat.le_of_ble_eq_true rfl)
  rw [lg_entry_eq]
  generalize (lg_sl ([.ref t0, .int x, .int y, .int z]) ++ List.replicate (4 - (lg_sl ([.ref t0, .int x, .int y, .int z])).length) Slot.unset).toArray = ls at hl ⊢
  have hl : lv_has ls 4 [(0, .ref t0), (1, .int x), (2, .int y), (3, .int z)] := hl
  generalize hHe : s.heap = H at hP ⊢
  have hS : va_S A s.heap H [] := by rw [hHe]; exact va_S.rf
  generalize ([] : List Loc) = locs at hS ⊢
  refine lv_iload_n hx hb dX3_line_0 rfl (lv_at hl 1 rfl) ?_
  refine lv_iload_n hx hb dX3_line_1 rfl (lv_at hl 2 rfl) ?_
  refine lv_iload_n hx hb dX3_line_2 rfl (lv_at hl 3 rfl) ?_
  refine ct_calli (va_runS (As := [.int x, .int y, .int z]) (rest := []) ⟨hx, hb, hml, hown, hts⟩ (ct_isPlace l dC dI cA cB H.size x y z ) (va_cwS 3 hts gX3_line_X3_isPlace rfl rfl rfl (by decide +kernel) ⟨Nat.le_of_ble_eq_true rfl, Nat.le_of_ble_eq_true rfl⟩) ⟨ct_blind, ct_pre hP hD hK hZ hN hS hA [] rfl (by decide)⟩ rfl rfl hl.1 rfl (lv_room (Nat.le_of_ble_eq_true rfl)) dX3_line_3 ⟨Nat.le_of_ble_eq_true rfl, Nat.le_of_ble_eq_true rfl⟩) hP hD hS hA [] [0, 1, 2, 3, 4] rfl (wr := [(t0, .inr (2, [.ref qs, .ref ql, .ref a1, .ref a2, lt])), (qs, .inl (cA, 3, .inl sv)), (ql, .inr (1, [.ref qf, .ref qb, .int ln, .int sr])), (qf, .inl (cA, 3, .inl fv)), (qb, .inl (cA, 3, .inl bv))]) rfl (by decide) (by decide) (fun r_1 u9 H locs hw_1 hP hD hS => ?_)
  have hw_1 : bo_z r_1 (pl_in x ∧ pl_in y ∧ pl_in z) := hw_1
  have hP : va_P (dC, dI) vwCl [(t0, .inr (2, [.ref qs, .ref ql, .ref a1, .ref a2, lt])), (qs, .inl (cA, 3, .inl sv)), (ql, .inr (1, [.ref qf, .ref qb, .int ln, .int sr])), (qf, .inl (cA, 3, .inl fv)), (qb, .inl (cA, 3, .inl bv))] H := hP
  have hD : va_D A [(t0, .inr (2, [.ref qs, .ref ql, .ref a1, .ref a2, lt])), (qs, .inl (cA, 3, .inl sv)), (ql, .inr (1, [.ref qf, .ref qb, .int ln, .int sr])), (qf, .inl (cA, 3, .inl fv)), (qb, .inl (cA, 3, .inl bv))] := hD
  refine lv_if_ne (tgt := 11) hx hb dX3_line_6 (by decide) (fun c_6 => ?_) (fun c_6 => ?_)
  · refine lv_aload_n hx hb dX3_line_11 rfl (lv_at hl 0 rfl) ?_
    refine va_get (D := (dC, dI)) (ci := 2) (v := .ref ql) (C := RX3) (T := TX3) (N := 5) hx hb hts hiX3 hown hK hP 0 rfl rfl 1 (by decide) (hts (.fieldLink RX3 16 "TickWalks" "latestLine" "LTickWalks$Line;") (List.mem_of_getElem? (l := wsX3_line) (i := 1) rfl)) (fun _ h9 => h9) rfl dX3_line_12 ?_
    refine lv_aload_n hx hb dX3_line_15 rfl (lv_at hl 0 rfl) ?_
    refine va_get (D := (dC, dI)) (ci := 2) (v := .ref qs) (C := RX3) (T := TX3) (N := 5) hx hb hts hiX3 hown hK hP 0 rfl rfl 0 (by decide) (hts (.fieldLink RX3 9 "TickWalks" "stand" "[I") (List.mem_of_getElem? (l := wsX3_line) (i := 2) rfl)) (fun _ h9 => h9) rfl dX3_line_16 ?_
    refine lv_iload_n hx hb dX3_line_19 rfl (lv_at hl 1 rfl) ?_
    refine lv_iload_n hx hb dX3_line_20 rfl (lv_at hl 2 rfl) ?_
    refine lv_iload_n hx hb dX3_line_21 rfl (lv_at hl 3 rfl) ?_
    refine ct_callv (va_runV (As := [.ref qs, .int x, .int y, .int z]) (rest := []) ⟨hx, hb, hml, hown, hts⟩ (li_walk l dC dI cA cB H.size ql qf qb ln sr fv bv qs sv x y z ) (cwV 4 hts gX3_line_X1_walk rfl rfl rfl (by decide +kernel) ⟨Nat.le_of_ble_eq_true rfl, Nat.le_of_ble_eq_true rfl⟩) ⟨ct_blind, va_recv hK hP (ci := 1) (q0 := 2) rfl rfl, ct_pre hP hD hK hZ hN hS hA [2, 3, 4, 1] rfl (by decide)⟩ rfl rfl hl.1 rfl (lv_room (Nat.le_of_ble_eq_true rfl)) dX3_line_22 ⟨Nat.le_of_ble_eq_true rfl, Nat.le_of_ble_eq_true rfl⟩) hP hD hS hA [2, 3, 4, 1] [0] rfl (wr := [(t0, .inr (2, [.ref qs, .ref ql, .ref a1, .ref a2, lt]))]) rfl (by decide) (by decide) (fun u9 H locs hw_2 hP hD hS => ?_)
    obtain ⟨nf_2, nb_2, nl_2⟩ := u9
    have hw_2 : (nf_2 0 = sv 0 ∧ nf_2 1 = sv 1 ∧ nf_2 2 = sv 2) ∧ (nb_2 0 = x - sv 0 ∧ nb_2 1 = y - sv 1 ∧ nb_2 2 = z - sv 2) ∧ nl_2 = ga_m (nb_2 0) (nb_2 1) (nb_2 2) := hw_2
    have hP : va_P (dC, dI) vwCl [(t0, .inr (2, [.ref qs, .ref ql, .ref a1, .ref a2, lt])), (ql, .inr (1, [.ref qf, .ref qb, .int nl_2, .int (-1)])), (qf, .inl (cA, 3, .inl nf_2)), (qb, .inl (cA, 3, .inl nb_2)), (qs, .inl (cA, 3, .inl sv))] H := hP
    have hD : va_D A [(t0, .inr (2, [.ref qs, .ref ql, .ref a1, .ref a2, lt])), (ql, .inr (1, [.ref qf, .ref qb, .int nl_2, .int (-1)])), (qf, .inl (cA, 3, .inl nf_2)), (qb, .inl (cA, 3, .inl nb_2)), (qs, .inl (cA, 3, .inl sv))] := hD
    refine lv_aload_n hx hb dX3_line_25 rfl (lv_at hl 0 rfl) ?_
    refine lv_aload_n hx hb dX3_line_26 rfl (lv_at hl 0 rfl) ?_
    refine va_get (D := (dC, dI)) (ci := 2) (v := .ref ql) (C := RX3) (T := TX3) (N := 5) hx hb hts hiX3 hown hK hP 0 rfl rfl 1 (by decide) (hts (.fieldLink RX3 16 "TickWalks" "latestLine" "LTickWalks$Line;") (List.mem_of_getElem? (l := wsX3_line) (i := 1) rfl)) (fun _ h9 => h9) rfl dX3_line_27 ?_
    refine va_put (D := (dC, dI)) (ci := 2) (v := .ref ql) (ty := (.object "TickWalks$Walk")) (C := RX3) (T := TX3) (N := 5) hx hb hts hiX3 tyX3 tyX3_ok nmX3 hown hK hP hD hS 0 rfl rfl 4 (by decide) (hts (.fieldLink RX3 30 "TickWalks" "latest" "LTickWalks$Walk;") (List.mem_of_getElem? (l := wsX3_line) (i := 3) rfl)) (fun _ h9 => h9) rfl (by decide +kernel) rfl rfl (Nat.le_of_ble_eq_true rfl) dX3_line_30 (fun H locs hP hD hS => ?_)
    have hP : va_P (dC, dI) vwCl [(t0, .inr (2, [.ref qs, .ref ql, .ref a1, .ref a2, .ref ql])), (ql, .inr (1, [.ref qf, .ref qb, .int nl_2, .int (-1)])), (qf, .inl (cA, 3, .inl nf_2)), (qb, .inl (cA, 3, .inl nb_2)), (qs, .inl (cA, 3, .inl sv))] H := hP
    have hD : va_D A [(t0, .inr (2, [.ref qs, .ref ql, .ref a1, .ref a2, .ref ql])), (ql, .inr (1, [.ref qf, .ref qb, .int nl_2, .int (-1)])), (qf, .inl (cA, 3, .inl nf_2)), (qb, .inl (cA, 3, .inl nb_2)), (qs, .inl (cA, 3, .inl sv))] := hD
    refine lv_aload_n hx hb dX3_line_33 rfl (lv_at hl 0 rfl) ?_
    refine lv_iload_n hx hb dX3_line_34 rfl (lv_at hl 1 rfl) ?_
    refine lv_iload_n hx hb dX3_line_35 rfl (lv_at hl 2 rfl) ?_
    refine lv_iload_n hx hb dX3_line_36 rfl (lv_at hl 3 rfl) ?_
    refine ct_callv (va_runV (As := [.int x, .int y, .int z]) (rest := []) ⟨hx, hb, hml, hown, hts⟩ (tw_stand l dC dI cA cB H.size t0 qs ql a1 a2 (.ref ql) sv x y z ) (cwV 3 hts gX3_line_X3_standAt rfl rfl rfl (by decide +kernel) ⟨Nat.le_of_ble_eq_true rfl, Nat.le_of_ble_eq_true rfl⟩) ⟨ct_blind, va_recv hK hP (ci := 2) (q0 := 0) rfl rfl, ct_pre hP hD hK hZ hN hS hA [0, 4] rfl (by decide)⟩ rfl rfl hl.1 rfl (lv_room (Nat.le_of_ble_eq_true rfl)) dX3_line_37 ⟨Nat.le_of_ble_eq_true rfl, Nat.le_of_ble_eq_true rfl⟩) hP hD hS hA [0, 4] [1, 2, 3] rfl (wr := [(ql, .inr (1, [.ref qf, .ref qb, .int nl_2, .int (-1)])), (qf, .inl (cA, 3, .inl nf_2)), (qb, .inl (cA, 3, .inl nb_2))]) rfl (by decide) (by decide) (fun nv_3 H locs hw_3 hP hD hS => ?_)
    have hw_3 : nv_3 0 = x ∧ nv_3 1 = y ∧ nv_3 2 = z := hw_3
    have hP : va_P (dC, dI) vwCl [(ql, .inr (1, [.ref qf, .ref qb, .int nl_2, .int (-1)])), (qf, .inl (cA, 3, .inl nf_2)), (qb, .inl (cA, 3, .inl nb_2)), (t0, .inr (2, [.ref qs, .ref ql, .ref a1, .ref a2, (.ref ql)])), (qs, .inl (cA, 3, .inl nv_3))] H := hP
    have hD : va_D A [(ql, .inr (1, [.ref qf, .ref qb, .int nl_2, .int (-1)])), (qf, .inl (cA, 3, .inl nf_2)), (qb, .inl (cA, 3, .inl nb_2)), (t0, .inr (2, [.ref qs, .ref ql, .ref a1, .ref a2, (.ref ql)])), (qs, .inl (cA, 3, .inl nv_3))] := hD
    refine lv_aload_n hx hb dX3_line_40 rfl (lv_at hl 0 rfl) ?_
    refine va_get (D := (dC, dI)) (ci := 2) (v := .ref ql) (C := RX3) (T := TX3) (N := 5) hx hb hts hiX3 hown hK hP 3 rfl rfl 1 (by decide) (hts (.fieldLink RX3 16 "TickWalks" "latestLine" "LTickWalks$Line;") (List.mem_of_getElem? (l := wsX3_line) (i := 1) rfl)) (fun _ h9 => h9) rfl dX3_line_41 ?_
    refine ct_calli (va_runV (As := []) (rest := []) ⟨hx, hb, hml, hown, hts⟩ (li_length l dC dI cA cB H.size ql qf qb nl_2 (-1) ) (cwV 0 hts gX3_line_X1_length rfl rfl rfl (by decide +kernel) ⟨Nat.le_of_ble_eq_true rfl, Nat.le_of_ble_eq_true rfl⟩) ⟨ct_blind, va_recv hK hP (ci := 1) (q0 := 0) rfl rfl, ct_pre hP hD hK hZ hN hS hA [0] rfl (by decide)⟩ rfl rfl hl.1 rfl (lv_room (Nat.le_of_ble_eq_true rfl)) dX3_line_44 ⟨Nat.le_of_ble_eq_true rfl, Nat.le_of_ble_eq_true rfl⟩) hP hD hS hA [0] [1, 2, 3, 4] rfl (wr := [(qf, .inl (cA, 3, .inl nf_2)), (qb, .inl (cA, 3, .inl nb_2)), (t0, .inr (2, [.ref qs, .ref ql, .ref a1, .ref a2, (.ref ql)])), (qs, .inl (cA, 3, .inl nv_3))]) rfl (by decide) (by decide) (fun r_4 u9 H locs hw_4 hP hD hS => ?_)
    have hw_4 : r_4 = nl_2 := hw_4
    have hP : va_P (dC, dI) vwCl [(qf, .inl (cA, 3, .inl nf_2)), (qb, .inl (cA, 3, .inl nb_2)), (t0, .inr (2, [.ref qs, .ref ql, .ref a1, .ref a2, (.ref ql)])), (qs, .inl (cA, 3, .inl nv_3)), (ql, .inr (1, [.ref qf, .ref qb, .int nl_2, .int (-1)]))] H := hP
    have hD : va_D A [(qf, .inl (cA, 3, .inl nf_2)), (qb, .inl (cA, 3, .inl nb_2)), (t0, .inr (2, [.ref qs, .ref ql, .ref a1, .ref a2, (.ref ql)])), (qs, .inl (cA, 3, .inl nv_3)), (ql, .inr (1, [.ref qf, .ref qb, .int nl_2, .int (-1)]))] := hD
    have hP9 := hP.sub (ws' := [(t0, .inr (2, [.ref qs, .ref ql, .ref a1, .ref a2, (.ref ql)])), (qs, .inl (cA, 3, .inl nv_3)), (ql, .inr (1, [.ref qf, .ref qb, .int nl_2, .int (-1)])), (qf, .inl (cA, 3, .inl nf_2)), (qb, .inl (cA, 3, .inl nb_2))]) [2, 3, 4, 0, 1] rfl
    have hD9 := hD.sub (ws' := [(t0, .inr (2, [.ref qs, .ref ql, .ref a1, .ref a2, (.ref ql)])), (qs, .inl (cA, 3, .inl nv_3)), (ql, .inr (1, [.ref qf, .ref qb, .int nl_2, .int (-1)])), (qf, .inl (cA, 3, .inl nf_2)), (qb, .inl (cA, 3, .inl nb_2))]) [2, 3, 4, 0, 1] (by decide) rfl
    exact W.iret (v := r_4) hx hb hr (fun t9 ht9 hW9 => ⟨⟨r_4, (nv_3, (.ref ql), nf_2, nb_2, nl_2, (-1)), rfl, Or.inl ⟨hw_4, hw_1.t c_6, rfl, rfl, hw_3, hw_2.1, hw_2.2.1, hw_2.2.2⟩, by rw [ht9]; exact hP9, hD9⟩, hS.F ht9⟩) hS.2.2 dX3_line_47
  · refine lv_iconst (v := -1) hx hb dX3_line_9 (by decide) ?_
    have hP9 := hP.sub (ws' := [(t0, .inr (2, [.ref qs, .ref ql, .ref a1, .ref a2, lt])), (qs, .inl (cA, 3, .inl sv)), (ql, .inr (1, [.ref qf, .ref qb, .int ln, .int sr])), (qf, .inl (cA, 3, .inl fv)), (qb, .inl (cA, 3, .inl bv))]) [0, 1, 2, 3, 4] rfl
    have hD9 := hD.sub (ws' := [(t0, .inr (2, [.ref qs, .ref ql, .ref a1, .ref a2, lt])), (qs, .inl (cA, 3, .inl sv)), (ql, .inr (1, [.ref qf, .ref qb, .int ln, .int sr])), (qf, .inl (cA, 3, .inl fv)), (qb, .inl (cA, 3, .inl bv))]) [0, 1, 2, 3, 4] (by decide) rfl
    exact W.iret (v := -1) hx hb hr (fun t9 ht9 hW9 => ⟨⟨-1, (sv, lt, fv, bv, ln, sr), rfl, Or.inr ⟨rfl, hw_1.f c_6, rfl, rfl, rfl, rfl, rfl, rfl⟩, by rw [ht9]; exact hP9, hD9⟩, hS.F ht9⟩) hS.2.2 dX3_line_10
set_option maxHeartbeats 4000000 in
set_option maxRecDepth 100000 in
/-- TickWalks.arc -/
theorem tw_arc (l : Launch) (dC : Nat → ClassId) (dI : Nat → Nat → Nat) (cA cB : ClassId) (sz : Nat) (t0 : Nat) (qs : Nat) (ql : Nat) (a1 : Nat) (a2 : Nat) (lt : Value) (sv : Nat → Int32) (qx1 : Nat) (qy1 : Nat) (ht1 : Int32) (cx1 : Int32) (cy1 : Int32) (lf1 : Int32) (sq1 : Int64) (ln1 : Int32) (of1 : Int32) (sr1 : Int32) (fx1 : Int32) (fy1 : Int32) (mx1 : Nat → Int32) (my1 : Nat → Int32) (qx2 : Nat) (qy2 : Nat) (ht2 : Int32) (cx2 : Int32) (cy2 : Int32) (lf2 : Int32) (sq2 : Int64) (ln2 : Int32) (of2 : Int32) (sr2 : Int32) (fx2 : Int32) (fy2 : Int32) (mx2 : Nat → Int32) (my2 : Nat → Int32) (x : Int32) (y : Int32) (cx : Int32) (cy : Int32) (al : Int32) (hal : al = 0 ∨ al = 1) (hsz2 : pl_in (sv 2)) : Met l yX3_arc wsX3_arc ({ frames := 5, cells := 0, slots := 0, locals := 120 }) (va_Pc [.ref t0, .int x, .int y, .int cx, .int cy, .int al] (ct_P dC dI cA cB sz [(t0, .inr (2, [.ref qs, .ref ql, .ref a1, .ref a2, lt])), (qs, .inl (cA, 3, .inl sv)), (a1, .inr (0, [.ref qx1, .ref qy1, .int ht1, .int cx1, .int cy1, .int lf1, .long sq1, .int ln1, .int of1, .int sr1, .int fx1, .int fy1])), (qx1, .inl (cA, 401, .inl mx1)), (qy1, .inl (cA, 401, .inl my1)), (a2, .inr (0, [.ref qx2, .ref qy2, .int ht2, .int cx2, .int cy2, .int lf2, .long sq2, .int ln2, .int of2, .int sr2, .int fx2, .int fy2])), (qx2, .inl (cA, 401, .inl mx2)), (qy2, .inl (cA, 401, .inl my2))])) (va_Qi (fun (r : Int32) (u : Nat × Nat × Value × (Nat → Int32) × Nat × Nat × Int32 × Int32 × Int32 × Int32 × Int64 × Int32 × Int32 × Int32 × Int32 × Int32 × (Nat → Int32) × (Nat → Int32) × Nat × Nat × Int32 × Int32 × Int32 × Int32 × Int64 × Int32 × Int32 × Int32 × Int32 × Int32 × (Nat → Int32) × (Nat → Int32)) => (r = u.2.2.2.2.2.2.2.2.2.2.2.1 ∧ (pl_in x ∧ pl_in y) ∧ (ce_in cx ∧ ce_in cy) ∧ u.2.2.1 = .ref u.1 ∧ (u.2.2.2.1 0 = x ∧ u.2.2.2.1 1 = y ∧ u.2.2.2.1 2 = sv 2) ∧ (u.2.2.2.2.2.2.1 = sv 2 ∧ u.2.2.2.2.2.2.2.1 = cx ∧ u.2.2.2.2.2.2.2.2.1 = cy ∧ u.2.2.2.2.2.2.2.2.2.1 = al ∧ u.2.2.2.2.2.2.2.2.2.2.1 = (sq_c (sv 0) cx (sv 1) cy)) ∧ (1 ≤ u.2.2.2.2.2.2.2.2.2.2.1 ∧ u.2.2.2.2.2.2.2.2.2.2.1 ≤ 25000000) ∧ u.2.2.2.2.2.2.2.2.2.2.2.2.2.1 = 0 ∧ ∃ n, ob_H al u.2.2.2.2.2.2.2.2.2.2.1 cx cy (sv 0, sv 1) (x, y) n ∧ u.2.2.2.2.2.2.2.2.2.2.2.1 = nI n ∧ u.2.2.2.2.2.2.2.2.2.2.2.2.1 = ob_o al u.2.2.2.2.2.2.2.2.2.2.1 cx cy (sv 0, sv 1) n ∧ ob_M al u.2.2.2.2.2.2.2.2.2.2.1 cx cy (sv 0, sv 1) u.2.2.2.2.2.2.2.2.2.2.2.2.2.2.2.2.1 u.2.2.2.2.2.2.2.2.2.2.2.2.2.2.2.2.2.1 n) ∨ (r = -1 ∧ ¬ ((pl_in x ∧ pl_in y) ∧ (ce_in cx ∧ ce_in cy) ∧ (1 ≤ (sq_c (sv 0) cx (sv 1) cy) ∧ (sq_c (sv 0) cx (sv 1) cy) ≤ 25000000) ∧ ∃ n, ob_H al (sq_c (sv 0) cx (sv 1) cy) cx cy (sv 0, sv 1) (x, y) n) ∧ u.2.2.1 = lt ∧ u.2.2.2.1 = sv ∧ u.1 = a1 ∧ (u.2.2.2.2.2.2.1 = ht1 ∧ u.2.2.2.2.2.2.2.1 = cx1 ∧ u.2.2.2.2.2.2.2.2.1 = cy1 ∧ u.2.2.2.2.2.2.2.2.2.1 = lf1 ∧ u.2.2.2.2.2.2.2.2.2.2.1 = sq1 ∧ u.2.2.2.2.2.2.2.2.2.2.2.1 = ln1 ∧ u.2.2.2.2.2.2.2.2.2.2.2.2.1 = of1 ∧ u.2.2.2.2.2.2.2.2.2.2.2.2.2.1 = sr1 ∧ u.2.2.2.2.2.2.2.2.2.2.2.2.2.2.2.2.1 = mx1 ∧ u.2.2.2.2.2.2.2.2.2.2.2.2.2.2.2.2.2.1 = my1))) (fun (u : Nat × Nat × Value × (Nat → Int32) × Nat × Nat × Int32 × Int32 × Int32 × Int32 × Int64 × Int32 × Int32 × Int32 × Int32 × Int32 × (Nat → Int32) × (Nat → Int32) × Nat × Nat × Int32 × Int32 × Int32 × Int32 × Int64 × Int32 × Int32 × Int32 × Int32 × Int32 × (Nat → Int32) × (Nat → Int32)) => ct_B dC dI (va_A [(t0, .inr (2, [.ref qs, .ref ql, .ref a1, .ref a2, lt])), (qs, .inl (cA, 3, .inl sv)), (a1, .inr (0, [.ref qx1, .ref qy1, .int ht1, .int cx1, .int cy1, .int lf1, .long sq1, .int ln1, .int of1, .int sr1, .int fx1, .int fy1])), (qx1, .inl (cA, 401, .inl mx1)), (qy1, .inl (cA, 401, .inl my1)), (a2, .inr (0, [.ref qx2, .ref qy2, .int ht2, .int cx2, .int cy2, .int lf2, .long sq2, .int ln2, .int of2, .int sr2, .int fx2, .int fy2])), (qx2, .inl (cA, 401, .inl mx2)), (qy2, .inl (cA, 401, .inl my2))] sz) [(t0, .inr (2, [.ref qs, .ref ql, .ref u.1, .ref u.2.1, u.2.2.1])), (qs, .inl (cA, 3, .inl u.2.2.2.1)), (u.1, .inr (0, [.ref u.2.2.2.2.1, .ref u.2.2.2.2.2.1, .int u.2.2.2.2.2.2.1, .int u.2.2.2.2.2.2.2.1, .int u.2.2.2.2.2.2.2.2.1, .int u.2.2.2.2.2.2.2.2.2.1, .long u.2.2.2.2.2.2.2.2.2.2.1, .int u.2.2.2.2.2.2.2.2.2.2.2.1, .int u.2.2.2.2.2.2.2.2.2.2.2.2.1, .int u.2.2.2.2.2.2.2.2.2.2.2.2.2.1, .int u.2.2.2.2.2.2.2.2.2.2.2.2.2.2.1, .int u.2.2.2.2.2.2.2.2.2.2.2.2.2.2.2.1])), (u.2.2.2.2.1, .inl (cA, 401, .inl u.2.2.2.2.2.2.2.2.2.2.2.2.2.2.2.2.1)), (u.2.2.2.2.2.1, .inl (cA, 401, .inl u.2.2.2.2.2.2.2.2.2.2.2.2.2.2.2.2.2.1)), (u.2.1, .inr (0, [.ref u.2.2.2.2.2.2.2.2.2.2.2.2.2.2.2.2.2.2.1, .ref u.2.2.2.2.2.2.2.2.2.2.2.2.2.2.2.2.2.2.2.1, .int u.2.2.2.2.2.2.2.2.2.2.2.2.2.2.2.2.2.2.2.2.1, .int u.2.2.2.2.2.2.2.2.2.2.2.2.2.2.2.2.2.2.2.2.2.1, .int u.2.2.2.2.2.2.2.2.2.2.2.2.2.2.2.2.2.2.2.2.2.2.1, .int u.2.2.2.2.2.2.2.2.2.2.2.2.2.2.2.2.2.2.2.2.2.2.2.1, .long u.2.2.2.2.2.2.2.2.2.2.2.2.2.2.2.2.2.2.2.2.2.2.2.2.1, .int u.2.2.2.2.2.2.2.2.2.2.2.2.2.2.2.2.2.2.2.2.2.2.2.2.2.1, .int u.2.2.2.2.2.2.2.2.2.2.2.2.2.2.2.2.2.2.2.2.2.2.2.2.2.2.1, .int u.2.2.2.2.2.2.2.2.2.2.2.2.2.2.2.2.2.2.2.2.2.2.2.2.2.2.2.1, .int u.2.2.2.2.2.2.2.2.2.2.2.2.2.2.2.2.2.2.2.2.2.2.2.2.2.2.2.2.1, .int u.2.2.2.2.2.2.2.2.2.2.2.2.2.2.2.2.2.2.2.2.2.2.2.2.2.2.2.2.2.1])), (u.2.2.2.2.2.2.2.2.2.2.2.2.2.2.2.2.2.2.1, .inl (cA, 401, .inl u.2.2.2.2.2.2.2.2.2.2.2.2.2.2.2.2.2.2.2.2.2.2.2.2.2.2.2.2.2.2.1)), (u.2.2.2.2.2.2.2.2.2.2.2.2.2.2.2.2.2.2.2.1, .inl (cA, 401, .inl u.2.2.2.2.2.2.2.2.2.2.2.2.2.2.2.2.2.2.2.2.2.2.2.2.2.2.2.2.2.2.2))]) (va_A [(t0, .inr (2, [.ref qs, .ref ql, .ref a1, .ref a2, lt])), (qs, .inl (cA, 3, .inl sv)), (a1, .inr (0, [.ref qx1, .ref qy1, .int ht1, .int cx1, .int cy1, .int lf1, .long sq1, .int ln1, .int of1, .int sr1, .int fx1, .int fy1])), (qx1, .inl (cA, 401, .inl mx1)), (qy1, .inl (cA, 401, .inl my1)), (a2, .inr (0, [.ref qx2, .ref qy2, .int ht2, .int cx2, .int cy2, .int lf2, .long sq2, .int ln2, .int of2, .int sr2, .int fx2, .int fy2])), (qx2, .inl (cA, 401, .inl mx2)), (qy2, .inl (cA, 401, .inl my2))] sz)) 0 0 (va_A [(t0, .inr (2, [.ref qs, .ref ql, .ref a1, .ref a2, lt])), (qs, .inl (cA, 3, .inl sv)), (a1, .inr (0, [.ref qx1, .ref qy1, .int ht1, .int cx1, .int cy1, .int lf1, .long sq1, .int ln1, .int of1, .int sr1, .int fx1, .int fy1])), (qx1, .inl (cA, 401, .inl mx1)), (qy1, .inl (cA, 401, .inl my1)), (a2, .inr (0, [.ref qx2, .ref qy2, .int ht2, .int cx2, .int cy2, .int lf2, .long sq2, .int ln2, .int of2, .int sr2, .int fx2, .int fy2])), (qx2, .inl (cA, 401, .inl mx2)), (qy2, .inl (cA, 401, .inl my2))] sz) := by
  refine Met.ofW (cc := cX3_arc) (maxL := 7) (ret := (some .int)) (by decide +kernel) rfl ?_
  intro p e s m args below meth c s₁ B hml hv
  obtain ⟨rfl, hsz, hP, hK, hD0, hZ, hN⟩ := hv
  have hx := B.exec
  have hb := B.bytes
  have hr := B.returns
  have hts := atoms_spec (ws := wsX3_arc) B.pre
  have hown : s.vm.findClass RX3 = some m.cls := findClass_of_methodNamed B.named
  have hlocks := B.notSynchronized
  have hiX3 : ∀ w ∈ u_ws RX3 TX3 5, w ∈ wsX3_arc := by decide +kernel
  have hiX0 : ∀ w ∈ u_ws RX0 TX0 12, w ∈ wsX3_arc := by decide +kernel
  subst hsz
  have hD := hD0.self (sz := s.heap.size)
  generalize hAe : va_A [(t0, .inr (2, [.ref qs, .ref ql, .ref a1, .ref a2, lt])), (qs, .inl (cA, 3, .inl sv)), (a1, .inr (0, [.ref qx1, .ref qy1, .int ht1, .int cx1, .int cy1, .int lf1, .long sq1, .int ln1, .int of1, .int sr1, .int fx1, .int fy1])), (qx1, .inl (cA, 401, .inl mx1)), (qy1, .inl (cA, 401, .inl my1)), (a2, .inr (0, [.ref qx2, .ref qy2, .int ht2, .int cx2, .int cy2, .int lf2, .long sq2, .int ln2, .int of2, .int sr2, .int fx2, .int fy2])), (qx2, .inl (cA, 401, .inl mx2)), (qy2, .inl (cA, 401, .inl my2))] s.heap.size = A at hD hZ ⊢
  have hA : ∀ q : Nat, s.heap.size ≤ q → A q := fun q h => by rw [← hAe]; exact Or.inr h
  have hl := lv_entry ([.ref t0, .int x, .int y, .int cx, .int cy, .int al]) (n := 7) (Nat.le_of_ble_eq_true rfl)
  rw [lg_entry_eq]
  generalize (lg_sl ([.ref t0, .int x, .int y, .int cx, .int cy, .int al]) ++ List.replicate (7 - (lg_sl ([.ref t0, .int x, .int y, .int cx, .int cy, .int al])).length) Slot.unset).toArray = ls at hl ⊢
  have hl : lv_has ls 7 [(0, .ref t0), (1, .int x), (2, .int y), (3, .int cx), (4, .int cy), (5, .int al)] := hl
  generalize hHe : s.heap = H at hP ⊢
  have hS : va_S A s.heap H [] := by rw [hHe]; exact va_S.rf
  generalize ([] : List Loc) = locs at hS ⊢
  refine lv_iload_n hx hb dX3_arc_0 rfl (lv_at hl 1 rfl) ?_
  refine lv_iload_n hx hb dX3_arc_1 rfl (lv_at hl 2 rfl) ?_
  refine lv_aload_n hx hb dX3_arc_2 rfl (lv_at hl 0 rfl) ?_
  refine va_get (D := (dC, dI)) (ci := 2) (v := .ref qs) (C := RX3) (T := TX3) (N := 5) hx hb hts hiX3 hown hK hP 0 rfl rfl 0 (by decide) (hts (.fieldLink RX3 9 "TickWalks" "stand" "[I") (List.mem_of_getElem? (l := wsX3_arc) (i := 1) rfl)) (fun _ h9 => h9) rfl dX3_arc_3 ?_
  refine lv_iconst (v := 2) hx hb dX3_arc_6 (by decide) ?_
  refine va_iald hx hb hK hP 1 0 rfl rfl (show vp_in 2 3 by unfold vp_in; decide) dX3_arc_7 ?_
  refine ct_topi (y := sv 2) (congrArg sv (show Int32.toNatClampNeg 2 = 2 by decide)) ?_
  refine ct_calli (va_runS (As := [.int x, .int y, .int (sv 2)]) (rest := []) ⟨hx, hb, hml, hown, hts⟩ (ct_isPlace l dC dI cA cB H.size x y (sv 2) ) (va_cwS 3 hts gX3_arc_X3_isPlace rfl rfl rfl (by decide +kernel) ⟨Nat.le_of_ble_eq_true rfl, Nat.le_of_ble_eq_true rfl⟩) ⟨ct_blind, ct_pre hP hD hK hZ hN hS hA [] rfl (by decide)⟩ rfl rfl hl.1 rfl (lv_room (Nat.le_of_ble_eq_true rfl)) dX3_arc_8 ⟨Nat.le_of_ble_eq_true rfl, Nat.le_of_ble_eq_true rfl⟩) hP hD hS hA [] [0, 1, 2, 3, 4, 5, 6, 7] rfl (wr := [(t0, .inr (2, [.ref qs, .ref ql, .ref a1, .ref a2, lt])), (qs, .inl (cA, 3, .inl sv)), (a1, .inr (0, [.ref qx1, .ref qy1, .int ht1, .int cx1, .int cy1, .int lf1, .long sq1, .int ln1, .int of1, .int sr1, .int fx1, .int fy1])), (qx1, .inl (cA, 401, .inl mx1)), (qy1, .inl (cA, 401, .inl my1)), (a2, .inr (0, [.ref qx2, .ref qy2, .int ht2, .int cx2, .int cy2, .int lf2, .long sq2, .int ln2, .int of2, .int sr2, .int fx2, .int fy2])), (qx2, .inl (cA, 401, .inl mx2)), (qy2, .inl (cA, 401, .inl my2))]) rfl (by decide) (by decide) (fun r_1 u9 H locs hw_1 hP hD hS => ?_)
  have hw_1 : bo_z r_1 (pl_in x ∧ pl_in y ∧ pl_in (sv 2)) := hw_1
  have hP : va_P (dC, dI) vwCl [(t0, .inr (2, [.ref qs, .ref ql, .ref a1, .ref a2, lt])), (qs, .inl (cA, 3, .inl sv)), (a1, .inr (0, [.ref qx1, .ref qy1, .int ht1, .int cx1, .int cy1, .int lf1, .long sq1, .int ln1, .int of1, .int sr1, .int fx1, .int fy1])), (qx1, .inl (cA, 401, .inl mx1)), (qy1, .inl (cA, 401, .inl my1)), (a2, .inr (0, [.ref qx2, .ref qy2, .int ht2, .int cx2, .int cy2, .int lf2, .long sq2, .int ln2, .int of2, .int sr2, .int fx2, .int fy2])), (qx2, .inl (cA, 401, .inl mx2)), (qy2, .inl (cA, 401, .inl my2))] H := hP
  have hD : va_D A [(t0, .inr (2, [.ref qs, .ref ql, .ref a1, .ref a2, lt])), (qs, .inl (cA, 3, .inl sv)), (a1, .inr (0, [.ref qx1, .ref qy1, .int ht1, .int cx1, .int cy1, .int lf1, .long sq1, .int ln1, .int of1, .int sr1, .int fx1, .int fy1])), (qx1, .inl (cA, 401, .inl mx1)), (qy1, .inl (cA, 401, .inl my1)), (a2, .inr (0, [.ref qx2, .ref qy2, .int ht2, .int cx2, .int cy2, .int lf2, .long sq2, .int ln2, .int of2, .int sr2, .int fx2, .int fy2])), (qx2, .inl (cA, 401, .inl mx2)), (qy2, .inl (cA, 401, .inl my2))] := hD
  refine lv_if_eq (tgt := 33) hx hb dX3_arc_11 (by decide) (fun c_11 => ?_) (fun c_11 => ?_)
  · refine lv_iconst (v := -1) hx hb dX3_arc_33 (by decide) ?_
    have hP9 := hP.sub (ws' := [(t0, .inr (2, [.ref qs, .ref ql, .ref a1, .ref a2, lt])), (qs, .inl (cA, 3, .inl sv)), (a1, .inr (0, [.ref qx1, .ref qy1, .int ht1, .int cx1, .int cy1, .int lf1, .long sq1, .int ln1, .int of1, .int sr1, .int fx1, .int fy1])), (qx1, .inl (cA, 401, .inl mx1)), (qy1, .inl (cA, 401, .inl my1)), (a2, .inr (0, [.ref qx2, .ref qy2, .int ht2, .int cx2, .int cy2, .int lf2, .long sq2, .int ln2, .int of2, .int sr2, .int fx2, .int fy2])), (qx2, .inl (cA, 401, .inl mx2)), (qy2, .inl (cA, 401, .inl my2))]) [0, 1, 2, 3, 4, 5, 6, 7] rfl
    have hD9 := hD.sub (ws' := [(t0, .inr (2, [.ref qs, .ref ql, .ref a1, .ref a2, lt])), (qs, .inl (cA, 3, .inl sv)), (a1, .inr (0, [.ref qx1, .ref qy1, .int ht1, .int cx1, .int cy1, .int lf1, .long sq1, .int ln1, .int of1, .int sr1, .int fx1, .int fy1])), (qx1, .inl (cA, 401, .inl mx1)), (qy1, .inl (cA, 401, .inl my1)), (a2, .inr (0, [.ref qx2, .ref qy2, .int ht2, .int cx2, .int cy2, .int lf2, .long sq2, .int ln2, .int of2, .int sr2, .int fx2, .int fy2])), (qx2, .inl (cA, 401, .inl mx2)), (qy2, .inl (cA, 401, .inl my2))]) [0, 1, 2, 3, 4, 5, 6, 7] (by decide) rfl
    exact W.iret (v := -1) hx hb hr (fun t9 ht9 hW9 => ⟨⟨-1, (a1, a2, lt, sv, qx1, qy1, ht1, cx1, cy1, lf1, sq1, ln1, of1, sr1, fx1, fy1, mx1, my1, qx2, qy2, ht2, cx2, cy2, lf2, sq2, ln2, of2, sr2, fx2, fy2, mx2, my2), rfl, Or.inr ⟨rfl, fun h => hw_1.f c_11 ⟨h.1.1, h.1.2, hsz2⟩, rfl, rfl, rfl, ⟨rfl, rfl, rfl, rfl, rfl, rfl, rfl, rfl, rfl, rfl⟩⟩, by rw [ht9]; exact hP9, hD9⟩, hS.F ht9⟩) hS.2.2 dX3_arc_34
  · refine lv_iload_n hx hb dX3_arc_14 rfl (lv_at hl 3 rfl) ?_
    refine lv_ldc (v := 40000) hx hb hown (hts (.constant RX3 50 (40000)) (List.mem_of_getElem? (l := wsX3_arc) (i := 2) rfl)) dX3_arc_15 ?_
    refine ct_calli (va_runS (As := [.int cx, .int 40000]) (rest := []) ⟨hx, hb, hml, hown, hts⟩ (ct_isWithin l dC dI cA cB H.size cx 40000 ) (va_cwS 2 hts gX3_arc_X3_isWithin rfl rfl rfl (by decide +kernel) ⟨Nat.le_of_ble_eq_true rfl, Nat.le_of_ble_eq_true rfl⟩) ⟨ct_blind, ct_pre hP hD hK hZ hN hS hA [] rfl (by decide)⟩ rfl rfl hl.1 rfl (lv_room (Nat.le_of_ble_eq_true rfl)) dX3_arc_17 ⟨Nat.le_of_ble_eq_true rfl, Nat.le_of_ble_eq_true rfl⟩) hP hD hS hA [] [0, 1, 2, 3, 4, 5, 6, 7] rfl (wr := [(t0, .inr (2, [.ref qs, .ref ql, .ref a1, .ref a2, lt])), (qs, .inl (cA, 3, .inl sv)), (a1, .inr (0, [.ref qx1, .ref qy1, .int ht1, .int cx1, .int cy1, .int lf1, .long sq1, .int ln1, .int of1, .int sr1, .int fx1, .int fy1])), (qx1, .inl (cA, 401, .inl mx1)), (qy1, .inl (cA, 401, .inl my1)), (a2, .inr (0, [.ref qx2, .ref qy2, .int ht2, .int cx2, .int cy2, .int lf2, .long sq2, .int ln2, .int of2, .int sr2, .int fx2, .int fy2])), (qx2, .inl (cA, 401, .inl mx2)), (qy2, .inl (cA, 401, .inl my2))]) rfl (by decide) (by decide) (fun r_2 u9 H locs hw_2 hP hD hS => ?_)
    have hw_2 : bo_z r_2 (-40000 ≤ cx ∧ cx ≤ 40000) := hw_2
    have hP : va_P (dC, dI) vwCl [(t0, .inr (2, [.ref qs, .ref ql, .ref a1, .ref a2, lt])), (qs, .inl (cA, 3, .inl sv)), (a1, .inr (0, [.ref qx1, .ref qy1, .int ht1, .int cx1, .int cy1, .int lf1, .long sq1, .int ln1, .int of1, .int sr1, .int fx1, .int fy1])), (qx1, .inl (cA, 401, .inl mx1)), (qy1, .inl (cA, 401, .inl my1)), (a2, .inr (0, [.ref qx2, .ref qy2, .int ht2, .int cx2, .int cy2, .int lf2, .long sq2, .int ln2, .int of2, .int sr2, .int fx2, .int fy2])), (qx2, .inl (cA, 401, .inl mx2)), (qy2, .inl (cA, 401, .inl my2))] H := hP
    have hD : va_D A [(t0, .inr (2, [.ref qs, .ref ql, .ref a1, .ref a2, lt])), (qs, .inl (cA, 3, .inl sv)), (a1, .inr (0, [.ref qx1, .ref qy1, .int ht1, .int cx1, .int cy1, .int lf1, .long sq1, .int ln1, .int of1, .int sr1, .int fx1, .int fy1])), (qx1, .inl (cA, 401, .inl mx1)), (qy1, .inl (cA, 401, .inl my1)), (a2, .inr (0, [.ref qx2, .ref qy2, .int ht2, .int cx2, .int cy2, .int lf2, .long sq2, .int ln2, .int of2, .int sr2, .int fx2, .int fy2])), (qx2, .inl (cA, 401, .inl mx2)), (qy2, .inl (cA, 401, .inl my2))] := hD
    refine lv_if_eq (tgt := 33) hx hb dX3_arc_20 (by decide) (fun c_20 => ?_) (fun c_20 => ?_)
    · refine lv_iconst (v := -1) hx hb dX3_arc_33 (by decide) ?_
      have hP9 := hP.sub (ws' := [(t0, .inr (2, [.ref qs, .ref ql, .ref a1, .ref a2, lt])), (qs, .inl (cA, 3, .inl sv)), (a1, .inr (0, [.ref qx1, .ref qy1, .int ht1, .int cx1, .int cy1, .int lf1, .long sq1, .int ln1, .int of1, .int sr1, .int fx1, .int fy1])), (qx1, .inl (cA, 401, .inl mx1)), (qy1, .inl (cA, 401, .inl my1)), (a2, .inr (0, [.ref qx2, .ref qy2, .int ht2, .int cx2, .int cy2, .int lf2, .long sq2, .int ln2, .int of2, .int sr2, .int fx2, .int fy2])), (qx2, .inl (cA, 401, .inl mx2)), (qy2, .inl (cA, 401, .inl my2))]) [0, 1, 2, 3, 4, 5, 6, 7] rfl
      have hD9 := hD.sub (ws' := [(t0, .inr (2, [.ref qs, .ref ql, .ref a1, .ref a2, lt])), (qs, .inl (cA, 3, .inl sv)), (a1, .inr (0, [.ref qx1, .ref qy1, .int ht1, .int cx1, .int cy1, .int lf1, .long sq1, .int ln1, .int of1, .int sr1, .int fx1, .int fy1])), (qx1, .inl (cA, 401, .inl mx1)), (qy1, .inl (cA, 401, .inl my1)), (a2, .inr (0, [.ref qx2, .ref qy2, .int ht2, .int cx2, .int cy2, .int lf2, .long sq2, .int ln2, .int of2, .int sr2, .int fx2, .int fy2])), (qx2, .inl (cA, 401, .inl mx2)), (qy2, .inl (cA, 401, .inl my2))]) [0, 1, 2, 3, 4, 5, 6, 7] (by decide) rfl
      exact W.iret (v := -1) hx hb hr (fun t9 ht9 hW9 => ⟨⟨-1, (a1, a2, lt, sv, qx1, qy1, ht1, cx1, cy1, lf1, sq1, ln1, of1, sr1, fx1, fy1, mx1, my1, qx2, qy2, ht2, cx2, cy2, lf2, sq2, ln2, of2, sr2, fx2, fy2, mx2, my2), rfl, Or.inr ⟨rfl, fun h => hw_2.f c_20 h.2.1.1, rfl, rfl, rfl, ⟨rfl, rfl, rfl, rfl, rfl, rfl, rfl, rfl, rfl, rfl⟩⟩, by rw [ht9]; exact hP9, hD9⟩, hS.F ht9⟩) hS.2.2 dX3_arc_34
    · refine lv_iload hx hb dX3_arc_23 (lv_at hl 4 rfl) ?_
      refine lv_ldc (v := 40000) hx hb hown (hts (.constant RX3 50 (40000)) (List.mem_of_getElem? (l := wsX3_arc) (i := 2) rfl)) dX3_arc_25 ?_
      refine ct_calli (va_runS (As := [.int cy, .int 40000]) (rest := []) ⟨hx, hb, hml, hown, hts⟩ (ct_isWithin l dC dI cA cB H.size cy 40000 ) (va_cwS 2 hts gX3_arc_X3_isWithin rfl rfl rfl (by decide +kernel) ⟨Nat.le_of_ble_eq_true rfl, Nat.le_of_ble_eq_true rfl⟩) ⟨ct_blind, ct_pre hP hD hK hZ hN hS hA [] rfl (by decide)⟩ rfl rfl hl.1 rfl (lv_room (Nat.le_of_ble_eq_true rfl)) dX3_arc_27 ⟨Nat.le_of_ble_eq_true rfl, Nat.le_of_ble_eq_true rfl⟩) hP hD hS hA [] [0, 1, 2, 3, 4, 5, 6, 7] rfl (wr := [(t0, .inr (2, [.ref qs, .ref ql, .ref a1, .ref a2, lt])), (qs, .inl (cA, 3, .inl sv)), (a1, .inr (0, [.ref qx1, .ref qy1, .int ht1, .int cx1, .int cy1, .int lf1, .long sq1, .int ln1, .int of1, .int sr1, .int fx1, .int fy1])), (qx1, .inl (cA, 401, .inl mx1)), (qy1, .inl (cA, 401, .inl my1)), (a2, .inr (0, [.ref qx2, .ref qy2, .int ht2, .int cx2, .int cy2, .int lf2, .long sq2, .int ln2, .int of2, .int sr2, .int fx2, .int fy2])), (qx2, .inl (cA, 401, .inl mx2)), (qy2, .inl (cA, 401, .inl my2))]) rfl (by decide) (by decide) (fun r_3 u9 H locs hw_3 hP hD hS => ?_)
      have hw_3 : bo_z r_3 (-40000 ≤ cy ∧ cy ≤ 40000) := hw_3
      have hP : va_P (dC, dI) vwCl [(t0, .inr (2, [.ref qs, .ref ql, .ref a1, .ref a2, lt])), (qs, .inl (cA, 3, .inl sv)), (a1, .inr (0, [.ref qx1, .ref qy1, .int ht1, .int cx1, .int cy1, .int lf1, .long sq1, .int ln1, .int of1, .int sr1, .int fx1, .int fy1])), (qx1, .inl (cA, 401, .inl mx1)), (qy1, .inl (cA, 401, .inl my1)), (a2, .inr (0, [.ref qx2, .ref qy2, .int ht2, .int cx2, .int cy2, .int lf2, .long sq2, .int ln2, .int of2, .int sr2, .int fx2, .int fy2])), (qx2, .inl (cA, 401, .inl mx2)), (qy2, .inl (cA, 401, .inl my2))] H := hP
      have hD : va_D A [(t0, .inr (2, [.ref qs, .ref ql, .ref a1, .ref a2, lt])), (qs, .inl (cA, 3, .inl sv)), (a1, .inr (0, [.ref qx1, .ref qy1, .int ht1, .int cx1, .int cy1, .int lf1, .long sq1, .int ln1, .int of1, .int sr1, .int fx1, .int fy1])), (qx1, .inl (cA, 401, .inl mx1)), (qy1, .inl (cA, 401, .inl my1)), (a2, .inr (0, [.ref qx2, .ref qy2, .int ht2, .int cx2, .int cy2, .int lf2, .long sq2, .int ln2, .int of2, .int sr2, .int fx2, .int fy2])), (qx2, .inl (cA, 401, .inl mx2)), (qy2, .inl (cA, 401, .inl my2))] := hD
      refine lv_if_ne (tgt := 35) hx hb dX3_arc_30 (by decide) (fun c_30 => ?_) (fun c_30 => ?_)
      · refine lv_aload_n hx hb dX3_arc_35 rfl (lv_at hl 0 rfl) ?_
        refine va_get (D := (dC, dI)) (ci := 2) (v := .ref a2) (C := RX3) (T := TX3) (N := 5) hx hb hts hiX3 hown hK hP 0 rfl rfl 3 (by decide) (hts (.fieldLink RX3 27 "TickWalks" "triedArc" "LTickWalks$Arc;") (List.mem_of_getElem? (l := wsX3_arc) (i := 3) rfl)) (fun _ h9 => h9) rfl dX3_arc_36 ?_
        refine lv_aload_n hx hb dX3_arc_39 rfl (lv_at hl 0 rfl) ?_
        refine va_get (D := (dC, dI)) (ci := 2) (v := .ref qs) (C := RX3) (T := TX3) (N := 5) hx hb hts hiX3 hown hK hP 0 rfl rfl 0 (by decide) (hts (.fieldLink RX3 9 "TickWalks" "stand" "[I") (List.mem_of_getElem? (l := wsX3_arc) (i := 1) rfl)) (fun _ h9 => h9) rfl dX3_arc_40 ?_
        refine lv_iload_n hx hb dX3_arc_43 rfl (lv_at hl 3 rfl) ?_
        refine lv_iload hx hb dX3_arc_44 (lv_at hl 4 rfl) ?_
        refine lv_iload hx hb dX3_arc_46 (lv_at hl 5 rfl) ?_
        refine ct_callv (va_runV (As := [.ref qs, .int cx, .int cy, .int al]) (rest := []) ⟨hx, hb, hml, hown, hts⟩ (ar_begin l dC dI cA cB H.size a2 qx2 qy2 ht2 cx2 cy2 lf2 sq2 ln2 of2 sr2 fx2 fy2 mx2 my2 qs sv cx cy al hal) (cwV 4 hts gX3_arc_X0_begin rfl rfl rfl (by decide +kernel) ⟨Nat.le_of_ble_eq_true rfl, Nat.le_of_ble_eq_true rfl⟩) ⟨ct_blind, va_recv hK hP (ci := 0) (q0 := 5) rfl rfl, ct_pre hP hD hK hZ hN hS hA [5, 6, 7, 1] rfl (by decide)⟩ rfl rfl hl.1 rfl (lv_room (Nat.le_of_ble_eq_true rfl)) dX3_arc_48 ⟨Nat.le_of_ble_eq_true rfl, Nat.le_of_ble_eq_true rfl⟩) hP hD hS hA [5, 6, 7, 1] [0, 2, 3, 4] rfl (wr := [(t0, .inr (2, [.ref qs, .ref ql, .ref a1, .ref a2, lt])), (a1, .inr (0, [.ref qx1, .ref qy1, .int ht1, .int cx1, .int cy1, .int lf1, .long sq1, .int ln1, .int of1, .int sr1, .int fx1, .int fy1])), (qx1, .inl (cA, 401, .inl mx1)), (qy1, .inl (cA, 401, .inl my1))]) rfl (by decide) (by decide) (fun u9 H locs hw_4 hP hD hS => ?_)
        obtain ⟨nx_4, ny_4, nq_4⟩ := u9
        have hw_4 : nx_4 = upd mx2 0 (sv 0) ∧ ny_4 = upd my2 0 (sv 1) ∧ nq_4 = sq_c (sv 0) cx (sv 1) cy := hw_4
        have hP : va_P (dC, dI) vwCl [(t0, .inr (2, [.ref qs, .ref ql, .ref a1, .ref a2, lt])), (a1, .inr (0, [.ref qx1, .ref qy1, .int ht1, .int cx1, .int cy1, .int lf1, .long sq1, .int ln1, .int of1, .int sr1, .int fx1, .int fy1])), (qx1, .inl (cA, 401, .inl mx1)), (qy1, .inl (cA, 401, .inl my1)), (a2, .inr (0, [.ref qx2, .ref qy2, .int (sv 2), .int cx, .int cy, .int al, .long nq_4, .int 0, .int 0, .int 0, .int (sv 0), .int (sv 1)])), (qx2, .inl (cA, 401, .inl nx_4)), (qy2, .inl (cA, 401, .inl ny_4)), (qs, .inl (cA, 3, .inl sv))] H := hP
        have hD : va_D A [(t0, .inr (2, [.ref qs, .ref ql, .ref a1, .ref a2, lt])), (a1, .inr (0, [.ref qx1, .ref qy1, .int ht1, .int cx1, .int cy1, .int lf1, .long sq1, .int ln1, .int of1, .int sr1, .int fx1, .int fy1])), (qx1, .inl (cA, 401, .inl mx1)), (qy1, .inl (cA, 401, .inl my1)), (a2, .inr (0, [.ref qx2, .ref qy2, .int (sv 2), .int cx, .int cy, .int al, .long nq_4, .int 0, .int 0, .int 0, .int (sv 0), .int (sv 1)])), (qx2, .inl (cA, 401, .inl nx_4)), (qy2, .inl (cA, 401, .inl ny_4)), (qs, .inl (cA, 3, .inl sv))] := hD
        refine lv_aload_n hx hb dX3_arc_51 rfl (lv_at hl 0 rfl) ?_
        refine va_get (D := (dC, dI)) (ci := 2) (v := .ref a2) (C := RX3) (T := TX3) (N := 5) hx hb hts hiX3 hown hK hP 0 rfl rfl 3 (by decide) (hts (.fieldLink RX3 27 "TickWalks" "triedArc" "LTickWalks$Arc;") (List.mem_of_getElem? (l := wsX3_arc) (i := 3) rfl)) (fun _ h9 => h9) rfl dX3_arc_52 ?_
        refine lv_iload_n hx hb dX3_arc_55 rfl (lv_at hl 1 rfl) ?_
        refine lv_iload_n hx hb dX3_arc_56 rfl (lv_at hl 2 rfl) ?_
        refine ct_calli (va_runV (As := [.int x, .int y]) (rest := []) ⟨hx, hb, hml, hown, hts⟩ (ar_walk l dC dI cA cB H.size a2 qx2 qy2 (sv 2) cx cy al nq_4 0 0 0 (sv 0) (sv 1) nx_4 ny_4 x y (⟨by rw [hw_4.1]; exact pk_us, by rw [hw_4.2.1]; exact pk_us⟩) rfl rfl) (cwV 2 hts gX3_arc_X0_walk rfl rfl rfl (by decide +kernel) ⟨Nat.le_of_ble_eq_true rfl, Nat.le_of_ble_eq_true rfl⟩) ⟨ct_blind, va_recv hK hP (ci := 0) (q0 := 4) rfl rfl, ct_pre hP hD hK hZ hN hS hA [4, 5, 6] rfl (by decide)⟩ rfl rfl hl.1 rfl (lv_room (Nat.le_of_ble_eq_true rfl)) dX3_arc_57 ⟨Nat.le_of_ble_eq_true rfl, Nat.le_of_ble_eq_true rfl⟩) hP hD hS hA [4, 5, 6] [0, 1, 2, 3, 7] rfl (wr := [(t0, .inr (2, [.ref qs, .ref ql, .ref a1, .ref a2, lt])), (a1, .inr (0, [.ref qx1, .ref qy1, .int ht1, .int cx1, .int cy1, .int lf1, .long sq1, .int ln1, .int of1, .int sr1, .int fx1, .int fy1])), (qx1, .inl (cA, 401, .inl mx1)), (qy1, .inl (cA, 401, .inl my1)), (qs, .inl (cA, 3, .inl sv))]) rfl (by decide) (by decide) (fun r_5 u9 H locs hw_5 hP hD hS => ?_)
        obtain ⟨nx_5, ny_5, nl_5, no_5, ns_5, gx_5, gy_5⟩ := u9
        have hw_5 : wk_P al nq_4 cx cy ((sv 0), (sv 1)) (x, y) r_5 nx_5 ny_5 nl_5 no_5 ns_5 := hw_5
        have hP : va_P (dC, dI) vwCl [(t0, .inr (2, [.ref qs, .ref ql, .ref a1, .ref a2, lt])), (a1, .inr (0, [.ref qx1, .ref qy1, .int ht1, .int cx1, .int cy1, .int lf1, .long sq1, .int ln1, .int of1, .int sr1, .int fx1, .int fy1])), (qx1, .inl (cA, 401, .inl mx1)), (qy1, .inl (cA, 401, .inl my1)), (qs, .inl (cA, 3, .inl sv)), (a2, .inr (0, [.ref qx2, .ref qy2, .int (sv 2), .int cx, .int cy, .int al, .long nq_4, .int nl_5, .int no_5, .int ns_5, .int gx_5, .int gy_5])), (qx2, .inl (cA, 401, .inl nx_5)), (qy2, .inl (cA, 401, .inl ny_5))] H := hP
        have hD : va_D A [(t0, .inr (2, [.ref qs, .ref ql, .ref a1, .ref a2, lt])), (a1, .inr (0, [.ref qx1, .ref qy1, .int ht1, .int cx1, .int cy1, .int lf1, .long sq1, .int ln1, .int of1, .int sr1, .int fx1, .int fy1])), (qx1, .inl (cA, 401, .inl mx1)), (qy1, .inl (cA, 401, .inl my1)), (qs, .inl (cA, 3, .inl sv)), (a2, .inr (0, [.ref qx2, .ref qy2, .int (sv 2), .int cx, .int cy, .int al, .long nq_4, .int nl_5, .int no_5, .int ns_5, .int gx_5, .int gy_5])), (qx2, .inl (cA, 401, .inl nx_5)), (qy2, .inl (cA, 401, .inl ny_5))] := hD
        refine lv_if_ne (tgt := 65) hx hb dX3_arc_60 (by decide) (fun c_60 => ?_) (fun c_60 => ?_)
        · obtain ⟨-, hsq, n, hH, hnl, hno, hns, hMM⟩ := hw_5.resolve_right (fun g => c_60 g.1)
          refine lv_aload_n hx hb dX3_arc_65 rfl (lv_at hl 0 rfl) ?_
          refine va_get (D := (dC, dI)) (ci := 2) (v := .ref a2) (C := RX3) (T := TX3) (N := 5) hx hb hts hiX3 hown hK hP 0 rfl rfl 3 (by decide) (hts (.fieldLink RX3 27 "TickWalks" "triedArc" "LTickWalks$Arc;") (List.mem_of_getElem? (l := wsX3_arc) (i := 3) rfl)) (fun _ h9 => h9) rfl dX3_arc_66 ?_
          refine lv_astore (lv' := [(6, .ref a2), (0, .ref t0), (1, .int x), (2, .int y), (3, .int cx), (4, .int cy), (5, .int al)]) hx hb dX3_arc_69 hl (by decide) rfl (fun ls hl => ?_)
          refine lv_aload_n hx hb dX3_arc_71 rfl (lv_at hl 1 rfl) ?_
          refine lv_aload_n hx hb dX3_arc_72 rfl (lv_at hl 1 rfl) ?_
          refine va_get (D := (dC, dI)) (ci := 2) (v := .ref a1) (C := RX3) (T := TX3) (N := 5) hx hb hts hiX3 hown hK hP 0 rfl rfl 2 (by decide) (hts (.fieldLink RX3 23 "TickWalks" "latestArc" "LTickWalks$Arc;") (List.mem_of_getElem? (l := wsX3_arc) (i := 4) rfl)) (fun _ h9 => h9) rfl dX3_arc_73 ?_
          refine va_put (D := (dC, dI)) (ci := 2) (v := .ref a1) (ty := (.object "TickWalks$Arc")) (C := RX3) (T := TX3) (N := 5) hx hb hts hiX3 tyX3 tyX3_ok nmX3 hown hK hP hD hS 0 rfl rfl 3 (by decide) (hts (.fieldLink RX3 27 "TickWalks" "triedArc" "LTickWalks$Arc;") (List.mem_of_getElem? (l := wsX3_arc) (i := 3) rfl)) (fun _ h9 => h9) rfl (by decide +kernel) rfl rfl (Nat.le_of_ble_eq_true rfl) dX3_arc_76 (fun H locs hP hD hS => ?_)
          have hP : va_P (dC, dI) vwCl [(t0, .inr (2, [.ref qs, .ref ql, .ref a1, .ref a1, lt])), (a1, .inr (0, [.ref qx1, .ref qy1, .int ht1, .int cx1, .int cy1, .int lf1, .long sq1, .int ln1, .int of1, .int sr1, .int fx1, .int fy1])), (qx1, .inl (cA, 401, .inl mx1)), (qy1, .inl (cA, 401, .inl my1)), (qs, .inl (cA, 3, .inl sv)), (a2, .inr (0, [.ref qx2, .ref qy2, .int (sv 2), .int cx, .int cy, .int al, .long nq_4, .int nl_5, .int no_5, .int ns_5, .int gx_5, .int gy_5])), (qx2, .inl (cA, 401, .inl nx_5)), (qy2, .inl (cA, 401, .inl ny_5))] H := hP
          have hD : va_D A [(t0, .inr (2, [.ref qs, .ref ql, .ref a1, .ref a1, lt])), (a1, .inr (0, [.ref qx1, .ref qy1, .int ht1, .int cx1, .int cy1, .int lf1, .long sq1, .int ln1, .int of1, .int sr1, .int fx1, .int fy1])), (qx1, .inl (cA, 401, .inl mx1)), (qy1, .inl (cA, 401, .inl my1)), (qs, .inl (cA, 3, .inl sv)), (a2, .inr (0, [.ref qx2, .ref qy2, .int (sv 2), .int cx, .int cy, .int al, .long nq_4, .int nl_5, .int no_5, .int ns_5, .int gx_5, .int gy_5])), (qx2, .inl (cA, 401, .inl nx_5)), (qy2, .inl (cA, 401, .inl ny_5))] := hD
          refine lv_aload_n hx hb dX3_arc_79 rfl (lv_at hl 1 rfl) ?_
          refine lv_aload hx hb dX3_arc_80 (lv_at hl 0 rfl) ?_
          refine va_put (D := (dC, dI)) (ci := 2) (v := .ref a2) (ty := (.object "TickWalks$Arc")) (C := RX3) (T := TX3) (N := 5) hx hb hts hiX3 tyX3 tyX3_ok nmX3 hown hK hP hD hS 0 rfl rfl 2 (by decide) (hts (.fieldLink RX3 23 "TickWalks" "latestArc" "LTickWalks$Arc;") (List.mem_of_getElem? (l := wsX3_arc) (i := 4) rfl)) (fun _ h9 => h9) rfl (by decide +kernel) rfl rfl (Nat.le_of_ble_eq_true rfl) dX3_arc_82 (fun H locs hP hD hS => ?_)
          have hP : va_P (dC, dI) vwCl [(t0, .inr (2, [.ref qs, .ref ql, .ref a2, .ref a1, lt])), (a1, .inr (0, [.ref qx1, .ref qy1, .int ht1, .int cx1, .int cy1, .int lf1, .long sq1, .int ln1, .int of1, .int sr1, .int fx1, .int fy1])), (qx1, .inl (cA, 401, .inl mx1)), (qy1, .inl (cA, 401, .inl my1)), (qs, .inl (cA, 3, .inl sv)), (a2, .inr (0, [.ref qx2, .ref qy2, .int (sv 2), .int cx, .int cy, .int al, .long nq_4, .int nl_5, .int no_5, .int ns_5, .int gx_5, .int gy_5])), (qx2, .inl (cA, 401, .inl nx_5)), (qy2, .inl (cA, 401, .inl ny_5))] H := hP
          have hD : va_D A [(t0, .inr (2, [.ref qs, .ref ql, .ref a2, .ref a1, lt])), (a1, .inr (0, [.ref qx1, .ref qy1, .int ht1, .int cx1, .int cy1, .int lf1, .long sq1, .int ln1, .int of1, .int sr1, .int fx1, .int fy1])), (qx1, .inl (cA, 401, .inl mx1)), (qy1, .inl (cA, 401, .inl my1)), (qs, .inl (cA, 3, .inl sv)), (a2, .inr (0, [.ref qx2, .ref qy2, .int (sv 2), .int cx, .int cy, .int al, .long nq_4, .int nl_5, .int no_5, .int ns_5, .int gx_5, .int gy_5])), (qx2, .inl (cA, 401, .inl nx_5)), (qy2, .inl (cA, 401, .inl ny_5))] := hD
          refine lv_aload_n hx hb dX3_arc_85 rfl (lv_at hl 1 rfl) ?_
          refine lv_aload hx hb dX3_arc_86 (lv_at hl 0 rfl) ?_
          refine va_put (D := (dC, dI)) (ci := 2) (v := .ref a2) (ty := (.object "TickWalks$Walk")) (C := RX3) (T := TX3) (N := 5) hx hb hts hiX3 tyX3 tyX3_ok nmX3 hown hK hP hD hS 0 rfl rfl 4 (by decide) (hts (.fieldLink RX3 30 "TickWalks" "latest" "LTickWalks$Walk;") (List.mem_of_getElem? (l := wsX3_arc) (i := 5) rfl)) (fun _ h9 => h9) rfl (by decide +kernel) rfl rfl (Nat.le_of_ble_eq_true rfl) dX3_arc_88 (fun H locs hP hD hS => ?_)
          have hP : va_P (dC, dI) vwCl [(t0, .inr (2, [.ref qs, .ref ql, .ref a2, .ref a1, .ref a2])), (a1, .inr (0, [.ref qx1, .ref qy1, .int ht1, .int cx1, .int cy1, .int lf1, .long sq1, .int ln1, .int of1, .int sr1, .int fx1, .int fy1])), (qx1, .inl (cA, 401, .inl mx1)), (qy1, .inl (cA, 401, .inl my1)), (qs, .inl (cA, 3, .inl sv)), (a2, .inr (0, [.ref qx2, .ref qy2, .int (sv 2), .int cx, .int cy, .int al, .long nq_4, .int nl_5, .int no_5, .int ns_5, .int gx_5, .int gy_5])), (qx2, .inl (cA, 401, .inl nx_5)), (qy2, .inl (cA, 401, .inl ny_5))] H := hP
          have hD : va_D A [(t0, .inr (2, [.ref qs, .ref ql, .ref a2, .ref a1, .ref a2])), (a1, .inr (0, [.ref qx1, .ref qy1, .int ht1, .int cx1, .int cy1, .int lf1, .long sq1, .int ln1, .int of1, .int sr1, .int fx1, .int fy1])), (qx1, .inl (cA, 401, .inl mx1)), (qy1, .inl (cA, 401, .inl my1)), (qs, .inl (cA, 3, .inl sv)), (a2, .inr (0, [.ref qx2, .ref qy2, .int (sv 2), .int cx, .int cy, .int al, .long nq_4, .int nl_5, .int no_5, .int ns_5, .int gx_5, .int gy_5])), (qx2, .inl (cA, 401, .inl nx_5)), (qy2, .inl (cA, 401, .inl ny_5))] := hD
          refine lv_aload_n hx hb dX3_arc_91 rfl (lv_at hl 1 rfl) ?_
          refine lv_iload_n hx hb dX3_arc_92 rfl (lv_at hl 2 rfl) ?_
          refine lv_iload_n hx hb dX3_arc_93 rfl (lv_at hl 3 rfl) ?_
          refine lv_aload_n hx hb dX3_arc_94 rfl (lv_at hl 1 rfl) ?_
          refine va_get (D := (dC, dI)) (ci := 2) (v := .ref qs) (C := RX3) (T := TX3) (N := 5) hx hb hts hiX3 hown hK hP 0 rfl rfl 0 (by decide) (hts (.fieldLink RX3 9 "TickWalks" "stand" "[I") (List.mem_of_getElem? (l := wsX3_arc) (i := 1) rfl)) (fun _ h9 => h9) rfl dX3_arc_95 ?_
          refine lv_iconst (v := 2) hx hb dX3_arc_98 (by decide) ?_
          refine va_iald hx hb hK hP 4 0 rfl rfl (show vp_in 2 3 by unfold vp_in; decide) dX3_arc_99 ?_
          refine ct_topi (y := sv 2) (congrArg sv (show Int32.toNatClampNeg 2 = 2 by decide)) ?_
          refine ct_callv (va_runV (As := [.int x, .int y, .int (sv 2)]) (rest := []) ⟨hx, hb, hml, hown, hts⟩ (tw_stand l dC dI cA cB H.size t0 qs ql a2 a1 (.ref a2) sv x y (sv 2) ) (cwV 3 hts gX3_arc_X3_standAt rfl rfl rfl (by decide +kernel) ⟨Nat.le_of_ble_eq_true rfl, Nat.le_of_ble_eq_true rfl⟩) ⟨ct_blind, va_recv hK hP (ci := 2) (q0 := 0) rfl rfl, ct_pre hP hD hK hZ hN hS hA [0, 4] rfl (by decide)⟩ rfl rfl hl.1 rfl (lv_room (Nat.le_of_ble_eq_true rfl)) dX3_arc_100 ⟨Nat.le_of_ble_eq_true rfl, Nat.le_of_ble_eq_true rfl⟩) hP hD hS hA [0, 4] [1, 2, 3, 5, 6, 7] rfl (wr := [(a1, .inr (0, [.ref qx1, .ref qy1, .int ht1, .int cx1, .int cy1, .int lf1, .long sq1, .int ln1, .int of1, .int sr1, .int fx1, .int fy1])), (qx1, .inl (cA, 401, .inl mx1)), (qy1, .inl (cA, 401, .inl my1)), (a2, .inr (0, [.ref qx2, .ref qy2, .int (sv 2), .int cx, .int cy, .int al, .long nq_4, .int nl_5, .int no_5, .int ns_5, .int gx_5, .int gy_5])), (qx2, .inl (cA, 401, .inl nx_5)), (qy2, .inl (cA, 401, .inl ny_5))]) rfl (by decide) (by decide) (fun nv_6 H locs hw_6 hP hD hS => ?_)
          have hw_6 : nv_6 0 = x ∧ nv_6 1 = y ∧ nv_6 2 = (sv 2) := hw_6
          have hP : va_P (dC, dI) vwCl [(a1, .inr (0, [.ref qx1, .ref qy1, .int ht1, .int cx1, .int cy1, .int lf1, .long sq1, .int ln1, .int of1, .int sr1, .int fx1, .int fy1])), (qx1, .inl (cA, 401, .inl mx1)), (qy1, .inl (cA, 401, .inl my1)), (a2, .inr (0, [.ref qx2, .ref qy2, .int (sv 2), .int cx, .int cy, .int al, .long nq_4, .int nl_5, .int no_5, .int ns_5, .int gx_5, .int gy_5])), (qx2, .inl (cA, 401, .inl nx_5)), (qy2, .inl (cA, 401, .inl ny_5)), (t0, .inr (2, [.ref qs, .ref ql, .ref a2, .ref a1, (.ref a2)])), (qs, .inl (cA, 3, .inl nv_6))] H := hP
          have hD : va_D A [(a1, .inr (0, [.ref qx1, .ref qy1, .int ht1, .int cx1, .int cy1, .int lf1, .long sq1, .int ln1, .int of1, .int sr1, .int fx1, .int fy1])), (qx1, .inl (cA, 401, .inl mx1)), (qy1, .inl (cA, 401, .inl my1)), (a2, .inr (0, [.ref qx2, .ref qy2, .int (sv 2), .int cx, .int cy, .int al, .long nq_4, .int nl_5, .int no_5, .int ns_5, .int gx_5, .int gy_5])), (qx2, .inl (cA, 401, .inl nx_5)), (qy2, .inl (cA, 401, .inl ny_5)), (t0, .inr (2, [.ref qs, .ref ql, .ref a2, .ref a1, (.ref a2)])), (qs, .inl (cA, 3, .inl nv_6))] := hD
          refine lv_aload hx hb dX3_arc_103 (lv_at hl 0 rfl) ?_
          refine ct_calli (va_runV (As := []) (rest := []) ⟨hx, hb, hml, hown, hts⟩ (ar_length l dC dI cA cB H.size a2 qx2 qy2 (sv 2) cx cy al nq_4 nl_5 no_5 ns_5 gx_5 gy_5 ) (cwV 0 hts gX3_arc_X0_length rfl rfl rfl (by decide +kernel) ⟨Nat.le_of_ble_eq_true rfl, Nat.le_of_ble_eq_true rfl⟩) ⟨ct_blind, va_recv hK hP (ci := 0) (q0 := 3) rfl rfl, ct_pre hP hD hK hZ hN hS hA [3] rfl (by decide)⟩ rfl rfl hl.1 rfl (lv_room (Nat.le_of_ble_eq_true rfl)) dX3_arc_105 ⟨Nat.le_of_ble_eq_true rfl, Nat.le_of_ble_eq_true rfl⟩) hP hD hS hA [3] [0, 1, 2, 4, 5, 6, 7] rfl (wr := [(a1, .inr (0, [.ref qx1, .ref qy1, .int ht1, .int cx1, .int cy1, .int lf1, .long sq1, .int ln1, .int of1, .int sr1, .int fx1, .int fy1])), (qx1, .inl (cA, 401, .inl mx1)), (qy1, .inl (cA, 401, .inl my1)), (qx2, .inl (cA, 401, .inl nx_5)), (qy2, .inl (cA, 401, .inl ny_5)), (t0, .inr (2, [.ref qs, .ref ql, .ref a2, .ref a1, (.ref a2)])), (qs, .inl (cA, 3, .inl nv_6))]) rfl (by decide) (by decide) (fun r_7 u9 H locs hw_7 hP hD hS => ?_)
          have hw_7 : r_7 = nl_5 := hw_7
          have hP : va_P (dC, dI) vwCl [(a1, .inr (0, [.ref qx1, .ref qy1, .int ht1, .int cx1, .int cy1, .int lf1, .long sq1, .int ln1, .int of1, .int sr1, .int fx1, .int fy1])), (qx1, .inl (cA, 401, .inl mx1)), (qy1, .inl (cA, 401, .inl my1)), (qx2, .inl (cA, 401, .inl nx_5)), (qy2, .inl (cA, 401, .inl ny_5)), (t0, .inr (2, [.ref qs, .ref ql, .ref a2, .ref a1, (.ref a2)])), (qs, .inl (cA, 3, .inl nv_6)), (a2, .inr (0, [.ref qx2, .ref qy2, .int (sv 2), .int cx, .int cy, .int al, .long nq_4, .int nl_5, .int no_5, .int ns_5, .int gx_5, .int gy_5]))] H := hP
          have hD : va_D A [(a1, .inr (0, [.ref qx1, .ref qy1, .int ht1, .int cx1, .int cy1, .int lf1, .long sq1, .int ln1, .int of1, .int sr1, .int fx1, .int fy1])), (qx1, .inl (cA, 401, .inl mx1)), (qy1, .inl (cA, 401, .inl my1)), (qx2, .inl (cA, 401, .inl nx_5)), (qy2, .inl (cA, 401, .inl ny_5)), (t0, .inr (2, [.ref qs, .ref ql, .ref a2, .ref a1, (.ref a2)])), (qs, .inl (cA, 3, .inl nv_6)), (a2, .inr (0, [.ref qx2, .ref qy2, .int (sv 2), .int cx, .int cy, .int al, .long nq_4, .int nl_5, .int no_5, .int ns_5, .int gx_5, .int gy_5]))] := hD
          have hP9 := hP.sub (ws' := [(t0, .inr (2, [.ref qs, .ref ql, .ref a2, .ref a1, (.ref a2)])), (qs, .inl (cA, 3, .inl nv_6)), (a2, .inr (0, [.ref qx2, .ref qy2, .int (sv 2), .int cx, .int cy, .int al, .long nq_4, .int nl_5, .int no_5, .int ns_5, .int gx_5, .int gy_5])), (qx2, .inl (cA, 401, .inl nx_5)), (qy2, .inl (cA, 401, .inl ny_5)), (a1, .inr (0, [.ref qx1, .ref qy1, .int ht1, .int cx1, .int cy1, .int lf1, .long sq1, .int ln1, .int of1, .int sr1, .int fx1, .int fy1])), (qx1, .inl (cA, 401, .inl mx1)), (qy1, .inl (cA, 401, .inl my1))]) [5, 6, 7, 3, 4, 0, 1, 2] rfl
          have hD9 := hD.sub (ws' := [(t0, .inr (2, [.ref qs, .ref ql, .ref a2, .ref a1, (.ref a2)])), (qs, .inl (cA, 3, .inl nv_6)), (a2, .inr (0, [.ref qx2, .ref qy2, .int (sv 2), .int cx, .int cy, .int al, .long nq_4, .int nl_5, .int no_5, .int ns_5, .int gx_5, .int gy_5])), (qx2, .inl (cA, 401, .inl nx_5)), (qy2, .inl (cA, 401, .inl ny_5)), (a1, .inr (0, [.ref qx1, .ref qy1, .int ht1, .int cx1, .int cy1, .int lf1, .long sq1, .int ln1, .int of1, .int sr1, .int fx1, .int fy1])), (qx1, .inl (cA, 401, .inl mx1)), (qy1, .inl (cA, 401, .inl my1))]) [5, 6, 7, 3, 4, 0, 1, 2] (by decide) rfl
          exact W.iret (v := r_7) hx hb hr (fun t9 ht9 hW9 => ⟨⟨r_7, (a2, a1, (.ref a2), nv_6, qx2, qy2, (sv 2), cx, cy, al, nq_4, nl_5, no_5, ns_5, gx_5, gy_5, nx_5, ny_5, qx1, qy1, ht1, cx1, cy1, lf1, sq1, ln1, of1, sr1, fx1, fy1, mx1, my1), rfl, Or.inl ⟨hw_7, ⟨(hw_1.t c_11).1, (hw_1.t c_11).2.1⟩, ⟨hw_2.t c_20, hw_3.t c_30⟩, rfl, hw_6, ⟨rfl, rfl, rfl, rfl, hw_4.2.2⟩, hsq, hns, n, hH, hnl, hno, hMM⟩, by rw [ht9]; exact hP9, hD9⟩, hS.F ht9⟩) hS.2.2 dX3_arc_108
        · refine lv_iconst (v := -1) hx hb dX3_arc_63 (by decide) ?_
          have hP9 := hP.sub (ws' := [(t0, .inr (2, [.ref qs, .ref ql, .ref a1, .ref a2, lt])), (qs, .inl (cA, 3, .inl sv)), (a1, .inr (0, [.ref qx1, .ref qy1, .int ht1, .int cx1, .int cy1, .int lf1, .long sq1, .int ln1, .int of1, .int sr1, .int fx1, .int fy1])), (qx1, .inl (cA, 401, .inl mx1)), (qy1, .inl (cA, 401, .inl my1)), (a2, .inr (0, [.ref qx2, .ref qy2, .int (sv 2), .int cx, .int cy, .int al, .long nq_4, .int nl_5, .int no_5, .int ns_5, .int gx_5, .int gy_5])), (qx2, .inl (cA, 401, .inl nx_5)), (qy2, .inl (cA, 401, .inl ny_5))]) [0, 4, 1, 2, 3, 5, 6, 7] rfl
          have hD9 := hD.sub (ws' := [(t0, .inr (2, [.ref qs, .ref ql, .ref a1, .ref a2, lt])), (qs, .inl (cA, 3, .inl sv)), (a1, .inr (0, [.ref qx1, .ref qy1, .int ht1, .int cx1, .int cy1, .int lf1, .long sq1, .int ln1, .int of1, .int sr1, .int fx1, .int fy1])), (qx1, .inl (cA, 401, .inl mx1)), (qy1, .inl (cA, 401, .inl my1)), (a2, .inr (0, [.ref qx2, .ref qy2, .int (sv 2), .int cx, .int cy, .int al, .long nq_4, .int nl_5, .int no_5, .int ns_5, .int gx_5, .int gy_5])), (qx2, .inl (cA, 401, .inl nx_5)), (qy2, .inl (cA, 401, .inl ny_5))]) [0, 4, 1, 2, 3, 5, 6, 7] (by decide) rfl
          exact W.iret (v := -1) hx hb hr (fun t9 ht9 hW9 => ⟨⟨-1, (a1, a2, lt, sv, qx1, qy1, ht1, cx1, cy1, lf1, sq1, ln1, of1, sr1, fx1, fy1, mx1, my1, qx2, qy2, (sv 2), cx, cy, al, nq_4, nl_5, no_5, ns_5, gx_5, gy_5, nx_5, ny_5), rfl, Or.inr ⟨rfl, (fun h => by rcases hw_5 with g | g; exact absurd (g.1.symm.trans c_60) (by decide); rw [hw_4.2.2] at g; rcases g.2 with g2 | g2; exact g2 h.2.2.1; obtain ⟨n, hn⟩ := h.2.2.2; exact g2 n hn), rfl, rfl, rfl, ⟨rfl, rfl, rfl, rfl, rfl, rfl, rfl, rfl, rfl, rfl⟩⟩, by rw [ht9]; exact hP9, hD9⟩, hS.F ht9⟩) hS.2.2 dX3_arc_64
      · refine lv_iconst (v := -1) hx hb dX3_arc_33 (by decide) ?_
        have hP9 := hP.sub (ws' := [(t0, .inr (2, [.ref qs, .ref ql, .ref a1, .ref a2, lt])), (qs, .inl (cA, 3, .inl sv)), (a1, .inr (0, [.ref qx1, .ref qy1, .int ht1, .int cx1, .int cy1, .int lf1, .long sq1, .int ln1, .int of1, .int sr1, .int fx1, .int fy1])), (qx1, .inl (cA, 401, .inl mx1)), (qy1, .inl (cA, 401, .inl my1)), (a2, .inr (0, [.ref qx2, .ref qy2, .int ht2, .int cx2, .int cy2, .int lf2, .long sq2, .int ln2, .int of2, .int sr2, .int fx2, .int fy2])), (qx2, .inl (cA, 401, .inl mx2)), (qy2, .inl (cA, 401, .inl my2))]) [0, 1, 2, 3, 4, 5, 6, 7] rfl
        have hD9 := hD.sub (ws' := [(t0, .inr (2, [.ref qs, .ref ql, .ref a1, .ref a2, lt])), (qs, .inl (cA, 3, .inl sv)), (a1, .inr (0, [.ref qx1, .ref qy1, .int ht1, .int cx1, .int cy1, .int lf1, .long sq1, .int ln1, .int of1, .int sr1, .int fx1, .int fy1])), (qx1, .inl (cA, 401, .inl mx1)), (qy1, .inl (cA, 401, .inl my1)), (a2, .inr (0, [.ref qx2, .ref qy2, .int ht2, .int cx2, .int cy2, .int lf2, .long sq2, .int ln2, .int of2, .int sr2, .int fx2, .int fy2])), (qx2, .inl (cA, 401, .inl mx2)), (qy2, .inl (cA, 401, .inl my2))]) [0, 1, 2, 3, 4, 5, 6, 7] (by decide) rfl
        exact W.iret (v := -1) hx hb hr (fun t9 ht9 hW9 => ⟨⟨-1, (a1, a2, lt, sv, qx1, qy1, ht1, cx1, cy1, lf1, sq1, ln1, of1, sr1, fx1, fy1, mx1, my1, qx2, qy2, ht2, cx2, cy2, lf2, sq2, ln2, of2, sr2, fx2, fy2, mx2, my2), rfl, Or.inr ⟨rfl, fun h => hw_3.f c_30 h.2.1.2, rfl, rfl, rfl, ⟨rfl, rfl, rfl, rfl, rfl, rfl, rfl, rfl, rfl, rfl⟩⟩, by rw [ht9]; exact hP9, hD9⟩, hS.F ht9⟩) hS.2.2 dX3_arc_34
set_option maxHeartbeats 4000000 in
set_option maxRecDepth 100000 in
/-- TickWalks.at -/
theorem tw_at (l : Launch) (dC : Nat → ClassId) (dI : Nat → Nat → Nat) (cA cB : ClassId) (sz : Nat) (t0 : Nat) (qs : Nat) (ql : Nat) (a1 : Nat) (a2 : Nat) (lt : Value) (sv : Nat → Int32) (a : Int32) : Met l yX3_at wsX3_at ({ frames := 1, cells := 0, slots := 0, locals := 21 }) (va_Pc [.ref t0, .int a] (ct_P dC dI cA cB sz [(t0, .inr (2, [.ref qs, .ref ql, .ref a1, .ref a2, lt])), (qs, .inl (cA, 3, .inl sv))])) (va_Qi (fun (r : Int32) (u : Unit) => r = at_v sv a) (fun (u : Unit) => ct_B dC dI (va_A [(t0, .inr (2, [.ref qs, .ref ql, .ref a1, .ref a2, lt])), (qs, .inl (cA, 3, .inl sv))] sz) [(t0, .inr (2, [.ref qs, .ref ql, .ref a1, .ref a2, lt])), (qs, .inl (cA, 3, .inl sv))]) (va_A [(t0, .inr (2, [.ref qs, .ref ql, .ref a1, .ref a2, lt])), (qs, .inl (cA, 3, .inl sv))] sz)) 0 0 (va_A [(t0, .inr (2, [.ref qs, .ref ql, .ref a1, .ref a2, lt])), (qs, .inl (cA, 3, .inl sv))] sz) := by
  refine Met.ofW (cc := cX3_at) (maxL := 2) (ret := (some .int)) (by decide +kernel) rfl ?_
  intro p e s m args below meth c s₁ B hml hv
  obtain ⟨rfl, hsz, hP, hK, hD0, hZ, hN⟩ := hv
  have hx := B.exec
  have hb := B.bytes
  have hr := B.returns
  have hts := atoms_spec (ws := wsX3_at) B.pre
  have hown : s.vm.findClass RX3 = some m.cls := findClass_of_methodNamed B.named
  have hlocks := B.notSynchronized
  have hiX3 : ∀ w ∈ u_ws RX3 TX3 5, w ∈ wsX3_at := by decide +kernel
  subst hsz
  have hD := hD0.self (sz := s.heap.size)
  generalize hAe : va_A [(t0, .inr (2, [.ref qs, .ref ql, .ref a1, .ref a2, lt])), (qs, .inl (cA, 3, .inl sv))] s.heap.size = A at hD hZ ⊢
  have hA : ∀ q : Nat, s.heap.size ≤ q → A q := fun q h => by rw [← hAe]; exact Or.inr h
  have hl := lv_entry ([.ref t0, .int a]) (n := 2) (Nat.le_of_ble_eq_true rfl)
  rw [lg_entry_eq]
  generalize (lg_sl ([.ref t0, .int a]) ++ List.replicate (2 - (lg_sl ([.ref t0, .int a])).length) Slot.unset).toArray = ls at hl ⊢
  have hl : lv_has ls 2 [(0, .ref t0), (1, .int a)] := hl
  generalize hHe : s.heap = H at hP ⊢
  have hS : va_S A s.heap H [] := by rw [hHe]; exact va_S.rf
  generalize ([] : List Loc) = locs at hS ⊢
  refine lv_iload_n hx hb dX3_at_0 rfl (lv_at hl 1 rfl) ?_
  refine ct_calli (va_runS (As := [.int a]) (rest := []) ⟨hx, hb, hml, hown, hts⟩ (ct_isAxis l dC dI cA cB H.size a ) (va_cwS 1 hts gX3_at_X3_isAxis rfl rfl rfl (by decide +kernel) ⟨Nat.le_of_ble_eq_true rfl, Nat.le_of_ble_eq_true rfl⟩) ⟨ct_blind, ct_pre hP hD hK hZ hN hS hA [] rfl (by decide)⟩ rfl rfl hl.1 rfl (lv_room (Nat.le_of_ble_eq_true rfl)) dX3_at_1 ⟨Nat.le_of_ble_eq_true rfl, Nat.le_of_ble_eq_true rfl⟩) hP hD hS hA [] [0, 1] rfl (wr := [(t0, .inr (2, [.ref qs, .ref ql, .ref a1, .ref a2, lt])), (qs, .inl (cA, 3, .inl sv))]) rfl (by decide) (by decide) (fun r_1 u9 H locs hw_1 hP hD hS => ?_)
  have hw_1 : bo_z r_1 (0 ≤ a ∧ a < 3) := hw_1
  have hP : va_P (dC, dI) vwCl [(t0, .inr (2, [.ref qs, .ref ql, .ref a1, .ref a2, lt])), (qs, .inl (cA, 3, .inl sv))] H := hP
  have hD : va_D A [(t0, .inr (2, [.ref qs, .ref ql, .ref a1, .ref a2, lt])), (qs, .inl (cA, 3, .inl sv))] := hD
  refine lv_if_eq (tgt := 16) hx hb dX3_at_4 (by decide) (fun c_4 => ?_) (fun c_4 => ?_)
  · refine lv_iconst (v := 0) hx hb dX3_at_16 (by decide) ?_
    have hP9 := hP.sub (ws' := [(t0, .inr (2, [.ref qs, .ref ql, .ref a1, .ref a2, lt])), (qs, .inl (cA, 3, .inl sv))]) [0, 1] rfl
    have hD9 := hD.sub (ws' := [(t0, .inr (2, [.ref qs, .ref ql, .ref a1, .ref a2, lt])), (qs, .inl (cA, 3, .inl sv))]) [0, 1] (by decide) rfl
    exact W.iret (v := 0) hx hb hr (fun t9 ht9 hW9 => ⟨⟨0, (), rfl, (by unfold at_v; rw [if_neg (hw_1.f c_4)]), by rw [ht9]; exact hP9, hD9⟩, hS.F ht9⟩) hS.2.2 dX3_at_17
  · refine lv_aload_n hx hb dX3_at_7 rfl (lv_at hl 0 rfl) ?_
    refine va_get (D := (dC, dI)) (ci := 2) (v := .ref qs) (C := RX3) (T := TX3) (N := 5) hx hb hts hiX3 hown hK hP 0 rfl rfl 0 (by decide) (hts (.fieldLink RX3 9 "TickWalks" "stand" "[I") (List.mem_of_getElem? (l := wsX3_at) (i := 1) rfl)) (fun _ h9 => h9) rfl dX3_at_8 ?_
    refine lv_iload_n hx hb dX3_at_11 rfl (lv_at hl 1 rfl) ?_
    refine va_iald hx hb hK hP 1 0 rfl rfl (by obtain ⟨j, hj, e⟩ := ax_in (hw_1.t c_4); rw [e]; exact vp_in_nI hj (by decide)) dX3_at_12 ?_
    refine ct_topi (y := sv a.toNatClampNeg) (congrArg sv rfl) ?_
    refine lv_goto (tgt := 17) hx hb dX3_at_13 (by decide) ?_
    have hP9 := hP.sub (ws' := [(t0, .inr (2, [.ref qs, .ref ql, .ref a1, .ref a2, lt])), (qs, .inl (cA, 3, .inl sv))]) [0, 1] rfl
    have hD9 := hD.sub (ws' := [(t0, .inr (2, [.ref qs, .ref ql, .ref a1, .ref a2, lt])), (qs, .inl (cA, 3, .inl sv))]) [0, 1] (by decide) rfl
    exact W.iret (v := sv a.toNatClampNeg) hx hb hr (fun t9 ht9 hW9 => ⟨⟨sv a.toNatClampNeg, (), rfl, (by unfold at_v; rw [if_pos (hw_1.t c_4)]), by rw [ht9]; exact hP9, hD9⟩, hS.F ht9⟩) hS.2.2 dX3_at_17
set_option maxHeartbeats 4000000 in
set_option maxRecDepth 100000 in
/-- TickWalks.ticks, nothing walked -/
theorem tw_ticks_n (l : Launch) (dC : Nat → ClassId) (dI : Nat → Nat → Nat) (cA cB : ClassId) (sz : Nat) (t0 : Nat) (qs : Nat) (ql : Nat) (a1 : Nat) (a2 : Nat) : Met l yX3_ticks wsX3_ticks ({ frames := 0, cells := 0, slots := 0, locals := 0 }) (va_Pc [.ref t0] (ct_P dC dI cA cB sz [(t0, .inr (2, [.ref qs, .ref ql, .ref a1, .ref a2, .null]))])) (va_Qi (fun (r : Int32) (u : Unit) => r = 0) (fun (u : Unit) => ct_B dC dI (va_A [(t0, .inr (2, [.ref qs, .ref ql, .ref a1, .ref a2, .null]))] sz) [(t0, .inr (2, [.ref qs, .ref ql, .ref a1, .ref a2, .null]))]) (va_A [(t0, .inr (2, [.ref qs, .ref ql, .ref a1, .ref a2, .null]))] sz)) 0 0 (va_A [(t0, .inr (2, [.ref qs, .ref ql, .ref a1, .ref a2, .null]))] sz) := by
  refine Met.ofW (cc := cX3_ticks) (maxL := 1) (ret := (some .int)) (by decide +kernel) rfl ?_
  intro p e s m args below meth c s₁ B hml hv
  obtain ⟨rfl, hsz, hP, hK, hD0, hZ, hN⟩ := hv
  have hx := B.exec
  have hb := B.bytes
  have hr := B.returns
  have hts := atoms_spec (ws := wsX3_ticks) B.pre
  have hown : s.vm.findClass RX3 = some m.cls := findClass_of_methodNamed B.named
  have hlocks := B.notSynchronized
  have hiX3 : ∀ w ∈ u_ws RX3 TX3 5, w ∈ wsX3_ticks := by decide +kernel
  subst hsz
  have hD := hD0.self (sz := s.heap.size)
  generalize hAe : va_A [(t0, .inr (2, [.ref qs, .ref ql, .ref a1, .ref a2, .null]))] s.heap.size = A at hD hZ ⊢
  have hA : ∀ q : Nat, s.heap.size ≤ q → A q := fun q h => by rw [← hAe]; exact Or.inr h
  have hl := lv_entry ([.ref t0]) (n := 1) (Nat.le_of_ble_eq_true rfl)
  rw [lg_entry_eq]
  generalize (lg_sl ([.ref t0]) ++ List.replicate (1 - (lg_sl ([.ref t0])).length) Slot.unset).toArray = ls at hl ⊢
  have hl : lv_has ls 1 [(0, .ref t0)] := hl
  generalize hHe : s.heap = H at hP ⊢
  have hS : va_S A s.heap H [] := by rw [hHe]; exact va_S.rf
  generalize ([] : List Loc) = locs at hS ⊢
  refine lv_aload_n hx hb dX3_ticks_0 rfl (lv_at hl 0 rfl) ?_
  refine va_get (D := (dC, dI)) (ci := 2) (v := .null) (C := RX3) (T := TX3) (N := 5) hx hb hts hiX3 hown hK hP 0 rfl rfl 4 (by decide) (hts (.fieldLink RX3 30 "TickWalks" "latest" "LTickWalks$Walk;") (List.mem_of_getElem? (l := wsX3_ticks) (i := 1) rfl)) (fun _ h9 => h9) rfl dX3_ticks_1 ?_
  refine lv_ifnonnullN hx hb dX3_ticks_4 ?_
  refine lv_iconst (v := 0) hx hb dX3_ticks_7 (by decide) ?_
  refine lv_goto (tgt := 18) hx hb dX3_ticks_8 (by decide) ?_
  have hP9 := hP.sub (ws' := [(t0, .inr (2, [.ref qs, .ref ql, .ref a1, .ref a2, .null]))]) [0] rfl
  have hD9 := hD.sub (ws' := [(t0, .inr (2, [.ref qs, .ref ql, .ref a1, .ref a2, .null]))]) [0] (by decide) rfl
  exact W.iret (v := 0) hx hb hr (fun t9 ht9 hW9 => ⟨⟨0, (), rfl, rfl, by rw [ht9]; exact hP9, hD9⟩, hS.F ht9⟩) hS.2.2 dX3_ticks_18
set_option maxHeartbeats 4000000 in
set_option maxRecDepth 100000 in
/-- TickWalks.ticks, a line -/
theorem tw_ticks_l (l : Launch) (dC : Nat → ClassId) (dI : Nat → Nat → Nat) (cA cB : ClassId) (sz : Nat) (t0 : Nat) (qs : Nat) (ql : Nat) (a1 : Nat) (a2 : Nat) (qf : Nat) (qb : Nat) (ln : Int32) (sr : Int32) : Met l yX3_ticks wsX3_ticks ({ frames := 1, cells := 0, slots := 0, locals := 20 }) (va_Pc [.ref t0] (ct_P dC dI cA cB sz [(t0, .inr (2, [.ref qs, .ref ql, .ref a1, .ref a2, .ref ql])), (ql, .inr (1, [.ref qf, .ref qb, .int ln, .int sr]))])) (va_Qi (fun (r : Int32) (u : Unit) => r = ln) (fun (u : Unit) => ct_B dC dI (va_A [(t0, .inr (2, [.ref qs, .ref ql, .ref a1, .ref a2, .ref ql])), (ql, .inr (1, [.ref qf, .ref qb, .int ln, .int sr]))] sz) [(t0, .inr (2, [.ref qs, .ref ql, .ref a1, .ref a2, .ref ql])), (ql, .inr (1, [.ref qf, .ref qb, .int ln, .int sr]))]) (va_A [(t0, .inr (2, [.ref qs, .ref ql, .ref a1, .ref a2, .ref ql])), (ql, .inr (1, [.ref qf, .ref qb, .int ln, .int sr]))] sz)) 0 0 (va_A [(t0, .inr (2, [.ref qs, .ref ql, .ref a1, .ref a2, .ref ql])), (ql, .inr (1, [.ref qf, .ref qb, .int ln, .int sr]))] sz) := by
  refine Met.ofW (cc := cX3_ticks) (maxL := 1) (ret := (some .int)) (by decide +kernel) rfl ?_
  intro p e s m args below meth c s₁ B hml hv
  obtain ⟨rfl, hsz, hP, hK, hD0, hZ, hN⟩ := hv
  have hx := B.exec
  have hb := B.bytes
  have hr := B.returns
  have hts := atoms_spec (ws := wsX3_ticks) B.pre
  have hown : s.vm.findClass RX3 = some m.cls := findClass_of_methodNamed B.named
  have hlocks := B.notSynchronized
  have hiX3 : ∀ w ∈ u_ws RX3 TX3 5, w ∈ wsX3_ticks := by decide +kernel
  subst hsz
  have hD := hD0.self (sz := s.heap.size)
  generalize hAe : va_A [(t0, .inr (2, [.ref qs, .ref ql, .ref a1, .ref a2, .ref ql])), (ql, .inr (1, [.ref qf, .ref qb, .int ln, .int sr]))] s.heap.size = A at hD hZ ⊢
  have hA : ∀ q : Nat, s.heap.size ≤ q → A q := fun q h => by rw [← hAe]; exact Or.inr h
  have hl := lv_entry ([.ref t0]) (n := 1) (Nat.le_of_ble_eq_true rfl)
  rw [lg_entry_eq]
  generalize (lg_sl ([.ref t0]) ++ List.replicate (1 - (lg_sl ([.ref t0])).length) Slot.unset).toArray = ls at hl ⊢
  have hl : lv_has ls 1 [(0, .ref t0)] := hl
  generalize hHe : s.heap = H at hP ⊢
  have hS : va_S A s.heap H [] := by rw [hHe]; exact va_S.rf
  generalize ([] : List Loc) = locs at hS ⊢
  refine lv_aload_n hx hb dX3_ticks_0 rfl (lv_at hl 0 rfl) ?_
  refine va_get (D := (dC, dI)) (ci := 2) (v := .ref ql) (C := RX3) (T := TX3) (N := 5) hx hb hts hiX3 hown hK hP 0 rfl rfl 4 (by decide) (hts (.fieldLink RX3 30 "TickWalks" "latest" "LTickWalks$Walk;") (List.mem_of_getElem? (l := wsX3_ticks) (i := 1) rfl)) (fun _ h9 => h9) rfl dX3_ticks_1 ?_
  refine lv_ifnonnull (tgt := 11) hx hb dX3_ticks_4 (by decide) ?_
  refine lv_aload_n hx hb dX3_ticks_11 rfl (lv_at hl 0 rfl) ?_
  refine va_get (D := (dC, dI)) (ci := 2) (v := .ref ql) (C := RX3) (T := TX3) (N := 5) hx hb hts hiX3 hown hK hP 0 rfl rfl 4 (by decide) (hts (.fieldLink RX3 30 "TickWalks" "latest" "LTickWalks$Walk;") (List.mem_of_getElem? (l := wsX3_ticks) (i := 1) rfl)) (fun _ h9 => h9) rfl dX3_ticks_12 ?_
  refine ct_calli (va_runU (As := []) (rest := []) ⟨hx, hb, hml, hown, hts⟩ (li_length l dC dI cA cB H.size ql qf qb ln sr ) (va_cwA 0 hts gX3_ticks_X1_length_u66X1 rfl rfl rfl hN.2.2.2.2.2.2.2.2.2.1 (by decide +kernel) ⟨Nat.le_of_ble_eq_true rfl, Nat.le_of_ble_eq_true rfl⟩) ⟨ct_blind, va_recv hK hP (ci := 1) (q0 := 1) rfl rfl, ct_pre hP hD hK hZ hN hS hA [1] rfl (by decide)⟩ rfl rfl hl.1 rfl (lv_room (Nat.le_of_ble_eq_true rfl)) dX3_ticks_15 ⟨Nat.le_of_ble_eq_true rfl, Nat.le_of_ble_eq_true rfl⟩) hP hD hS hA [1] [0] rfl (wr := [(t0, .inr (2, [.ref qs, .ref ql, .ref a1, .ref a2, .ref ql]))]) rfl (by decide) (by decide) (fun r_1 u9 H locs hw_1 hP hD hS => ?_)
  have hw_1 : r_1 = ln := hw_1
  have hP : va_P (dC, dI) vwCl [(t0, .inr (2, [.ref qs, .ref ql, .ref a1, .ref a2, .ref ql])), (ql, .inr (1, [.ref qf, .ref qb, .int ln, .int sr]))] H := hP
  have hD : va_D A [(t0, .inr (2, [.ref qs, .ref ql, .ref a1, .ref a2, .ref ql])), (ql, .inr (1, [.ref qf, .ref qb, .int ln, .int sr]))] := hD
  have hP9 := hP.sub (ws' := [(t0, .inr (2, [.ref qs, .ref ql, .ref a1, .ref a2, .ref ql])), (ql, .inr (1, [.ref qf, .ref qb, .int ln, .int sr]))]) [0, 1] rfl
  have hD9 := hD.sub (ws' := [(t0, .inr (2, [.ref qs, .ref ql, .ref a1, .ref a2, .ref ql])), (ql, .inr (1, [.ref qf, .ref qb, .int ln, .int sr]))]) [0, 1] (by decide) rfl
  exact W.iret (v := r_1) hx hb hr (fun t9 ht9 hW9 => ⟨⟨r_1, (), rfl, hw_1, by rw [ht9]; exact hP9, hD9⟩, hS.F ht9⟩) hS.2.2 dX3_ticks_18
set_option maxHeartbeats 4000000 in
set_option maxRecDepth 100000 in
/-- TickWalks.ticks, an arc -/
theorem tw_ticks_a (l : Launch) (dC : Nat → ClassId) (dI : Nat → Nat → Nat) (cA cB : ClassId) (sz : Nat) (t0 : Nat) (qs : Nat) (ql : Nat) (a1 : Nat) (a2 : Nat) (qx1 : Nat) (qy1 : Nat) (ht1 : Int32) (cx1 : Int32) (cy1 : Int32) (lf1 : Int32) (sq1 : Int64) (ln1 : Int32) (of1 : Int32) (sr1 : Int32) (fx1 : Int32) (fy1 : Int32) : Met l yX3_ticks wsX3_ticks ({ frames := 1, cells := 0, slots := 0, locals := 20 }) (va_Pc [.ref t0] (ct_P dC dI cA cB sz [(t0, .inr (2, [.ref qs, .ref ql, .ref a1, .ref a2, .ref a1])), (a1, .inr (0, [.ref qx1, .ref qy1, .int ht1, .int cx1, .int cy1, .int lf1, .long sq1, .int ln1, .int of1, .int sr1, .int fx1, .int fy1]))])) (va_Qi (fun (r : Int32) (u : Unit) => r = ln1) (fun (u : Unit) => ct_B dC dI (va_A [(t0, .inr (2, [.ref qs, .ref ql, .ref a1, .ref a2, .ref a1])), (a1, .inr (0, [.ref qx1, .ref qy1, .int ht1, .int cx1, .int cy1, .int lf1, .long sq1, .int ln1, .int of1, .int sr1, .int fx1, .int fy1]))] sz) [(t0, .inr (2, [.ref qs, .ref ql, .ref a1, .ref a2, .ref a1])), (a1, .inr (0, [.ref qx1, .ref qy1, .int ht1, .int cx1, .int cy1, .int lf1, .long sq1, .int ln1, .int of1, .int sr1, .int fx1, .int fy1]))]) (va_A [(t0, .inr (2, [.ref qs, .ref ql, .ref a1, .ref a2, .ref a1])), (a1, .inr (0, [.ref qx1, .ref qy1, .int ht1, .int cx1, .int cy1, .int lf1, .long sq1, .int ln1, .int of1, .int sr1, .int fx1, .int fy1]))] sz)) 0 0 (va_A [(t0, .inr (2, [.ref qs, .ref ql, .ref a1, .ref a2, .ref a1])), (a1, .inr (0, [.ref qx1, .ref qy1, .int ht1, .int cx1, .int cy1, .int lf1, .long sq1, .int ln1, .int of1, .int sr1, .int fx1, .int fy1]))] sz) := by
  refine Met.ofW (cc := cX3_ticks) (maxL := 1) (ret := (some .int)) (by decide +kernel) rfl ?_
  intro p e s m args below meth c s₁ B hml hv
  obtain ⟨rfl, hsz, hP, hK, hD0, hZ, hN⟩ := hv
  have hx := B.exec
  have hb := B.bytes
  have hr := B.returns
  have hts := atoms_spec (ws := wsX3_ticks) B.pre
  have hown : s.vm.findClass RX3 = some m.cls := findClass_of_methodNamed B.named
  have hlocks := B.notSynchronized
  have hiX3 : ∀ w ∈ u_ws RX3 TX3 5, w ∈ wsX3_ticks := by decide +kernel
  subst hsz
  have hD := hD0.self (sz := s.heap.size)
  generalize hAe : va_A [(t0, .inr (2, [.ref qs, .ref ql, .ref a1, .ref a2, .ref a1])), (a1, .inr (0, [.ref qx1, .ref qy1, .int ht1, .int cx1, .int cy1, .int lf1, .long sq1, .int ln1, .int of1, .int sr1, .int fx1, .int fy1]))] s.heap.size = A at hD hZ ⊢
  have hA : ∀ q : Nat, s.heap.size ≤ q → A q := fun q h => by rw [← hAe]; exact Or.inr h
  have hl := lv_entry ([.ref t0]) (n := 1) (Nat.le_of_ble_eq_true rfl)
  rw [lg_entry_eq]
  generalize (lg_sl ([.ref t0]) ++ List.replicate (1 - (lg_sl ([.ref t0])).length) Slot.unset).toArray = ls at hl ⊢
  have hl : lv_has ls 1 [(0, .ref t0)] := hl
  generalize hHe : s.heap = H at hP ⊢
  have hS : va_S A s.heap H [] := by rw [hHe]; exact va_S.rf
  generalize ([] : List Loc) = locs at hS ⊢
  refine lv_aload_n hx hb dX3_ticks_0 rfl (lv_at hl 0 rfl) ?_
  refine va_get (D := (dC, dI)) (ci := 2) (v := .ref a1) (C := RX3) (T := TX3) (N := 5) hx hb hts hiX3 hown hK hP 0 rfl rfl 4 (by decide) (hts (.fieldLink RX3 30 "TickWalks" "latest" "LTickWalks$Walk;") (List.mem_of_getElem? (l := wsX3_ticks) (i := 1) rfl)) (fun _ h9 => h9) rfl dX3_ticks_1 ?_
  refine lv_ifnonnull (tgt := 11) hx hb dX3_ticks_4 (by decide) ?_
  refine lv_aload_n hx hb dX3_ticks_11 rfl (lv_at hl 0 rfl) ?_
  refine va_get (D := (dC, dI)) (ci := 2) (v := .ref a1) (C := RX3) (T := TX3) (N := 5) hx hb hts hiX3 hown hK hP 0 rfl rfl 4 (by decide) (hts (.fieldLink RX3 30 "TickWalks" "latest" "LTickWalks$Walk;") (List.mem_of_getElem? (l := wsX3_ticks) (i := 1) rfl)) (fun _ h9 => h9) rfl dX3_ticks_12 ?_
  refine ct_calli (va_runU (As := []) (rest := []) ⟨hx, hb, hml, hown, hts⟩ (ar_length l dC dI cA cB H.size a1 qx1 qy1 ht1 cx1 cy1 lf1 sq1 ln1 of1 sr1 fx1 fy1 ) (va_cwA 0 hts gX3_ticks_X0_length_u66X0 rfl rfl rfl hN.2.2.2.2.2.2.2.2.2.1 (by decide +kernel) ⟨Nat.le_of_ble_eq_true rfl, Nat.le_of_ble_eq_true rfl⟩) ⟨ct_blind, va_recv hK hP (ci := 0) (q0 := 1) rfl rfl, ct_pre hP hD hK hZ hN hS hA [1] rfl (by decide)⟩ rfl rfl hl.1 rfl (lv_room (Nat.le_of_ble_eq_true rfl)) dX3_ticks_15 ⟨Nat.le_of_ble_eq_true rfl, Nat.le_of_ble_eq_true rfl⟩) hP hD hS hA [1] [0] rfl (wr := [(t0, .inr (2, [.ref qs, .ref ql, .ref a1, .ref a2, .ref a1]))]) rfl (by decide) (by decide) (fun r_1 u9 H locs hw_1 hP hD hS => ?_)
  have hw_1 : r_1 = ln1 := hw_1
  have hP : va_P (dC, dI) vwCl [(t0, .inr (2, [.ref qs, .ref ql, .ref a1, .ref a2, .ref a1])), (a1, .inr (0, [.ref qx1, .ref qy1, .int ht1, .int cx1, .int cy1, .int lf1, .long sq1, .int ln1, .int of1, .int sr1, .int fx1, .int fy1]))] H := hP
  have hD : va_D A [(t0, .inr (2, [.ref qs, .ref ql, .ref a1, .ref a2, .ref a1])), (a1, .inr (0, [.ref qx1, .ref qy1, .int ht1, .int cx1, .int cy1, .int lf1, .long sq1, .int ln1, .int of1, .int sr1, .int fx1, .int fy1]))] := hD
  have hP9 := hP.sub (ws' := [(t0, .inr (2, [.ref qs, .ref ql, .ref a1, .ref a2, .ref a1])), (a1, .inr (0, [.ref qx1, .ref qy1, .int ht1, .int cx1, .int cy1, .int lf1, .long sq1, .int ln1, .int of1, .int sr1, .int fx1, .int fy1]))]) [0, 1] rfl
  have hD9 := hD.sub (ws' := [(t0, .inr (2, [.ref qs, .ref ql, .ref a1, .ref a2, .ref a1])), (a1, .inr (0, [.ref qx1, .ref qy1, .int ht1, .int cx1, .int cy1, .int lf1, .long sq1, .int ln1, .int of1, .int sr1, .int fx1, .int fy1]))]) [0, 1] (by decide) rfl
  exact W.iret (v := r_1) hx hb hr (fun t9 ht9 hW9 => ⟨⟨r_1, (), rfl, hw_1, by rw [ht9]; exact hP9, hD9⟩, hS.F ht9⟩) hS.2.2 dX3_ticks_18
set_option maxHeartbeats 4000000 in
set_option maxRecDepth 100000 in
/-- TickWalks.off, nothing walked -/
theorem tw_off_n (l : Launch) (dC : Nat → ClassId) (dI : Nat → Nat → Nat) (cA cB : ClassId) (sz : Nat) (t0 : Nat) (qs : Nat) (ql : Nat) (a1 : Nat) (a2 : Nat) : Met l yX3_off wsX3_off ({ frames := 0, cells := 0, slots := 0, locals := 0 }) (va_Pc [.ref t0] (ct_P dC dI cA cB sz [(t0, .inr (2, [.ref qs, .ref ql, .ref a1, .ref a2, .null]))])) (va_Qi (fun (r : Int32) (u : Unit) => r = 0) (fun (u : Unit) => ct_B dC dI (va_A [(t0, .inr (2, [.ref qs, .ref ql, .ref a1, .ref a2, .null]))] sz) [(t0, .inr (2, [.ref qs, .ref ql, .ref a1, .ref a2, .null]))]) (va_A [(t0, .inr (2, [.ref qs, .ref ql, .ref a1, .ref a2, .null]))] sz)) 0 0 (va_A [(t0, .inr (2, [.ref qs, .ref ql, .ref a1, .ref a2, .null]))] sz) := by
  refine Met.ofW (cc := cX3_off) (maxL := 1) (ret := (some .int)) (by decide +kernel) rfl ?_
  intro p e s m args below meth c s₁ B hml hv
  obtain ⟨rfl, hsz, hP, hK, hD0, hZ, hN⟩ := hv
  have hx := B.exec
  have hb := B.bytes
  have hr := B.returns
  have hts := atoms_spec (ws := wsX3_off) B.pre
  have hown : s.vm.findClass RX3 = some m.cls := findClass_of_methodNamed B.named
  have hlocks := B.notSynchronized
  have hiX3 : ∀ w ∈ u_ws RX3 TX3 5, w ∈ wsX3_off := by decide +kernel
  subst hsz
  have hD := hD0.self (sz := s.heap.size)
  generalize hAe : va_A [(t0, .inr (2, [.ref qs, .ref ql, .ref a1, .ref a2, .null]))] s.heap.size = A at hD hZ ⊢
  have hA : ∀ q : Nat, s.heap.size ≤ q → A q := fun q h => by rw [← hAe]; exact Or.inr h
  have hl := lv_entry ([.ref t0]) (n := 1) (Nat.le_of_ble_eq_true rfl)
  rw [lg_entry_eq]
  generalize (lg_sl ([.ref t0]) ++ List.replicate (1 - (lg_sl ([.ref t0])).length) Slot.unset).toArray = ls at hl ⊢
  have hl : lv_has ls 1 [(0, .ref t0)] := hl
  generalize hHe : s.heap = H at hP ⊢
  have hS : va_S A s.heap H [] := by rw [hHe]; exact va_S.rf
  generalize ([] : List Loc) = locs at hS ⊢
  refine lv_aload_n hx hb dX3_off_0 rfl (lv_at hl 0 rfl) ?_
  refine va_get (D := (dC, dI)) (ci := 2) (v := .null) (C := RX3) (T := TX3) (N := 5) hx hb hts hiX3 hown hK hP 0 rfl rfl 4 (by decide) (hts (.fieldLink RX3 30 "TickWalks" "latest" "LTickWalks$Walk;") (List.mem_of_getElem? (l := wsX3_off) (i := 1) rfl)) (fun _ h9 => h9) rfl dX3_off_1 ?_
  refine lv_ifnonnullN hx hb dX3_off_4 ?_
  refine lv_iconst (v := 0) hx hb dX3_off_7 (by decide) ?_
  refine lv_goto (tgt := 18) hx hb dX3_off_8 (by decide) ?_
  have hP9 := hP.sub (ws' := [(t0, .inr (2, [.ref qs, .ref ql, .ref a1, .ref a2, .null]))]) [0] rfl
  have hD9 := hD.sub (ws' := [(t0, .inr (2, [.ref qs, .ref ql, .ref a1, .ref a2, .null]))]) [0] (by decide) rfl
  exact W.iret (v := 0) hx hb hr (fun t9 ht9 hW9 => ⟨⟨0, (), rfl, rfl, by rw [ht9]; exact hP9, hD9⟩, hS.F ht9⟩) hS.2.2 dX3_off_18
set_option maxHeartbeats 4000000 in
set_option maxRecDepth 100000 in
/-- TickWalks.off, a line -/
theorem tw_off_l (l : Launch) (dC : Nat → ClassId) (dI : Nat → Nat → Nat) (cA cB : ClassId) (sz : Nat) (t0 : Nat) (qs : Nat) (ql : Nat) (a1 : Nat) (a2 : Nat) (qf : Nat) (qb : Nat) (ln : Int32) (sr : Int32) : Met l yX3_off wsX3_off ({ frames := 1, cells := 0, slots := 0, locals := 20 }) (va_Pc [.ref t0] (ct_P dC dI cA cB sz [(t0, .inr (2, [.ref qs, .ref ql, .ref a1, .ref a2, .ref ql])), (ql, .inr (1, [.ref qf, .ref qb, .int ln, .int sr]))])) (va_Qi (fun (r : Int32) (u : Unit) => r = 0) (fun (u : Unit) => ct_B dC dI (va_A [(t0, .inr (2, [.ref qs, .ref ql, .ref a1, .ref a2, .ref ql])), (ql, .inr (1, [.ref qf, .ref qb, .int ln, .int sr]))] sz) [(t0, .inr (2, [.ref qs, .ref ql, .ref a1, .ref a2, .ref ql])), (ql, .inr (1, [.ref qf, .ref qb, .int ln, .int sr]))]) (va_A [(t0, .inr (2, [.ref qs, .ref ql, .ref a1, .ref a2, .ref ql])), (ql, .inr (1, [.ref qf, .ref qb, .int ln, .int sr]))] sz)) 0 0 (va_A [(t0, .inr (2, [.ref qs, .ref ql, .ref a1, .ref a2, .ref ql])), (ql, .inr (1, [.ref qf, .ref qb, .int ln, .int sr]))] sz) := by
  refine Met.ofW (cc := cX3_off) (maxL := 1) (ret := (some .int)) (by decide +kernel) rfl ?_
  intro p e s m args below meth c s₁ B hml hv
  obtain ⟨rfl, hsz, hP, hK, hD0, hZ, hN⟩ := hv
  have hx := B.exec
  have hb := B.bytes
  have hr := B.returns
  have hts := atoms_spec (ws := wsX3_off) B.pre
  have hown : s.vm.findClass RX3 = some m.cls := findClass_of_methodNamed B.named
  have hlocks := B.notSynchronized
  have hiX3 : ∀ w ∈ u_ws RX3 TX3 5, w ∈ wsX3_off := by decide +kernel
  subst hsz
  have hD := hD0.self (sz := s.heap.size)
  generalize hAe : va_A [(t0, .inr (2, [.ref qs, .ref ql, .ref a1, .ref a2, .ref ql])), (ql, .inr (1, [.ref qf, .ref qb, .int ln, .int sr]))] s.heap.size = A at hD hZ ⊢
  have hA : ∀ q : Nat, s.heap.size ≤ q → A q := fun q h => by rw [← hAe]; exact Or.inr h
  have hl := lv_entry ([.ref t0]) (n := 1) (Nat.le_of_ble_eq_true rfl)
  rw [lg_entry_eq]
  generalize (lg_sl ([.ref t0]) ++ List.replicate (1 - (lg_sl ([.ref t0])).length) Slot.unset).toArray = ls at hl ⊢
  have hl : lv_has ls 1 [(0, .ref t0)] := hl
  generalize hHe : s.heap = H at hP ⊢
  have hS : va_S A s.heap H [] := by rw [hHe]; exact va_S.rf
  generalize ([] : List Loc) = locs at hS ⊢
  refine lv_aload_n hx hb dX3_off_0 rfl (lv_at hl 0 rfl) ?_
  refine va_get (D := (dC, dI)) (ci := 2) (v := .ref ql) (C := RX3) (T := TX3) (N := 5) hx hb hts hiX3 hown hK hP 0 rfl rfl 4 (by decide) (hts (.fieldLink RX3 30 "TickWalks" "latest" "LTickWalks$Walk;") (List.mem_of_getElem? (l := wsX3_off) (i := 1) rfl)) (fun _ h9 => h9) rfl dX3_off_1 ?_
  refine lv_ifnonnull (tgt := 11) hx hb dX3_off_4 (by decide) ?_
  refine lv_aload_n hx hb dX3_off_11 rfl (lv_at hl 0 rfl) ?_
  refine va_get (D := (dC, dI)) (ci := 2) (v := .ref ql) (C := RX3) (T := TX3) (N := 5) hx hb hts hiX3 hown hK hP 0 rfl rfl 4 (by decide) (hts (.fieldLink RX3 30 "TickWalks" "latest" "LTickWalks$Walk;") (List.mem_of_getElem? (l := wsX3_off) (i := 1) rfl)) (fun _ h9 => h9) rfl dX3_off_12 ?_
  refine ct_calli (va_runU (As := []) (rest := []) ⟨hx, hb, hml, hown, hts⟩ (li_off l dC dI cA cB H.size ql qf qb ln sr ) (va_cwA 0 hts gX3_off_X1_greatestOff_u73X1 rfl rfl rfl hN.2.2.2.2.2.2.2.2.2.2.2.1 (by decide +kernel) ⟨Nat.le_of_ble_eq_true rfl, Nat.le_of_ble_eq_true rfl⟩) ⟨ct_blind, va_recv hK hP (ci := 1) (q0 := 1) rfl rfl, ct_pre hP hD hK hZ hN hS hA [1] rfl (by decide)⟩ rfl rfl hl.1 rfl (lv_room (Nat.le_of_ble_eq_true rfl)) dX3_off_15 ⟨Nat.le_of_ble_eq_true rfl, Nat.le_of_ble_eq_true rfl⟩) hP hD hS hA [1] [0] rfl (wr := [(t0, .inr (2, [.ref qs, .ref ql, .ref a1, .ref a2, .ref ql]))]) rfl (by decide) (by decide) (fun r_1 u9 H locs hw_1 hP hD hS => ?_)
  have hw_1 : r_1 = 0 := hw_1
  have hP : va_P (dC, dI) vwCl [(t0, .inr (2, [.ref qs, .ref ql, .ref a1, .ref a2, .ref ql])), (ql, .inr (1, [.ref qf, .ref qb, .int ln, .int sr]))] H := hP
  have hD : va_D A [(t0, .inr (2, [.ref qs, .ref ql, .ref a1, .ref a2, .ref ql])), (ql, .inr (1, [.ref qf, .ref qb, .int ln, .int sr]))] := hD
  have hP9 := hP.sub (ws' := [(t0, .inr (2, [.ref qs, .ref ql, .ref a1, .ref a2, .ref ql])), (ql, .inr (1, [.ref qf, .ref qb, .int ln, .int sr]))]) [0, 1] rfl
  have hD9 := hD.sub (ws' := [(t0, .inr (2, [.ref qs, .ref ql, .ref a1, .ref a2, .ref ql])), (ql, .inr (1, [.ref qf, .ref qb, .int ln, .int sr]))]) [0, 1] (by decide) rfl
  exact W.iret (v := r_1) hx hb hr (fun t9 ht9 hW9 => ⟨⟨r_1, (), rfl, hw_1, by rw [ht9]; exact hP9, hD9⟩, hS.F ht9⟩) hS.2.2 dX3_off_18
set_option maxHeartbeats 4000000 in
set_option maxRecDepth 100000 in
/-- TickWalks.off, an arc -/
theorem tw_off_a (l : Launch) (dC : Nat → ClassId) (dI : Nat → Nat → Nat) (cA cB : ClassId) (sz : Nat) (t0 : Nat) (qs : Nat) (ql : Nat) (a1 : Nat) (a2 : Nat) (qx1 : Nat) (qy1 : Nat) (ht1 : Int32) (cx1 : Int32) (cy1 : Int32) (lf1 : Int32) (sq1 : Int64) (ln1 : Int32) (of1 : Int32) (sr1 : Int32) (fx1 : Int32) (fy1 : Int32) : Met l yX3_off wsX3_off ({ frames := 1, cells := 0, slots := 0, locals := 20 }) (va_Pc [.ref t0] (ct_P dC dI cA cB sz [(t0, .inr (2, [.ref qs, .ref ql, .ref a1, .ref a2, .ref a1])), (a1, .inr (0, [.ref qx1, .ref qy1, .int ht1, .int cx1, .int cy1, .int lf1, .long sq1, .int ln1, .int of1, .int sr1, .int fx1, .int fy1]))])) (va_Qi (fun (r : Int32) (u : Unit) => r = of1) (fun (u : Unit) => ct_B dC dI (va_A [(t0, .inr (2, [.ref qs, .ref ql, .ref a1, .ref a2, .ref a1])), (a1, .inr (0, [.ref qx1, .ref qy1, .int ht1, .int cx1, .int cy1, .int lf1, .long sq1, .int ln1, .int of1, .int sr1, .int fx1, .int fy1]))] sz) [(t0, .inr (2, [.ref qs, .ref ql, .ref a1, .ref a2, .ref a1])), (a1, .inr (0, [.ref qx1, .ref qy1, .int ht1, .int cx1, .int cy1, .int lf1, .long sq1, .int ln1, .int of1, .int sr1, .int fx1, .int fy1]))]) (va_A [(t0, .inr (2, [.ref qs, .ref ql, .ref a1, .ref a2, .ref a1])), (a1, .inr (0, [.ref qx1, .ref qy1, .int ht1, .int cx1, .int cy1, .int lf1, .long sq1, .int ln1, .int of1, .int sr1, .int fx1, .int fy1]))] sz)) 0 0 (va_A [(t0, .inr (2, [.ref qs, .ref ql, .ref a1, .ref a2, .ref a1])), (a1, .inr (0, [.ref qx1, .ref qy1, .int ht1, .int cx1, .int cy1, .int lf1, .long sq1, .int ln1, .int of1, .int sr1, .int fx1, .int fy1]))] sz) := by
  refine Met.ofW (cc := cX3_off) (maxL := 1) (ret := (some .int)) (by decide +kernel) rfl ?_
  intro p e s m args below meth c s₁ B hml hv
  obtain ⟨rfl, hsz, hP, hK, hD0, hZ, hN⟩ := hv
  have hx := B.exec
  have hb := B.bytes
  have hr := B.returns
  have hts := atoms_spec (ws := wsX3_off) B.pre
  have hown : s.vm.findClass RX3 = some m.cls := findClass_of_methodNamed B.named
  have hlocks := B.notSynchronized
  have hiX3 : ∀ w ∈ u_ws RX3 TX3 5, w ∈ wsX3_off := by decide +kernel
  subst hsz
  have hD := hD0.self (sz := s.heap.size)
  generalize hAe : va_A [(t0, .inr (2, [.ref qs, .ref ql, .ref a1, .ref a2, .ref a1])), (a1, .inr (0, [.ref qx1, .ref qy1, .int ht1, .int cx1, .int cy1, .int lf1, .long sq1, .int ln1, .int of1, .int sr1, .int fx1, .int fy1]))] s.heap.size = A at hD hZ ⊢
  have hA : ∀ q : Nat, s.heap.size ≤ q → A q := fun q h => by rw [← hAe]; exact Or.inr h
  have hl := lv_entry ([.ref t0]) (n := 1) (Nat.le_of_ble_eq_true rfl)
  rw [lg_entry_eq]
  generalize (lg_sl ([.ref t0]) ++ List.replicate (1 - (lg_sl ([.ref t0])).length) Slot.unset).toArray = ls at hl ⊢
  have hl : lv_has ls 1 [(0, .ref t0)] := hl
  generalize hHe : s.heap = H at hP ⊢
  have hS : va_S A s.heap H [] := by rw [hHe]; exact va_S.rf
  generalize ([] : List Loc) = locs at hS ⊢
  refine lv_aload_n hx hb dX3_off_0 rfl (lv_at hl 0 rfl) ?_
  refine va_get (D := (dC, dI)) (ci := 2) (v := .ref a1) (C := RX3) (T := TX3) (N := 5) hx hb hts hiX3 hown hK hP 0 rfl rfl 4 (by decide) (hts (.fieldLink RX3 30 "TickWalks" "latest" "LTickWalks$Walk;") (List.mem_of_getElem? (l := wsX3_off) (i := 1) rfl)) (fun _ h9 => h9) rfl dX3_off_1 ?_
  refine lv_ifnonnull (tgt := 11) hx hb dX3_off_4 (by decide) ?_
  refine lv_aload_n hx hb dX3_off_11 rfl (lv_at hl 0 rfl) ?_
  refine va_get (D := (dC, dI)) (ci := 2) (v := .ref a1) (C := RX3) (T := TX3) (N := 5) hx hb hts hiX3 hown hK hP 0 rfl rfl 4 (by decide) (hts (.fieldLink RX3 30 "TickWalks" "latest" "LTickWalks$Walk;") (List.mem_of_getElem? (l := wsX3_off) (i := 1) rfl)) (fun _ h9 => h9) rfl dX3_off_12 ?_
  refine ct_calli (va_runU (As := []) (rest := []) ⟨hx, hb, hml, hown, hts⟩ (ar_off l dC dI cA cB H.size a1 qx1 qy1 ht1 cx1 cy1 lf1 sq1 ln1 of1 sr1 fx1 fy1 ) (va_cwA 0 hts gX3_off_X0_greatestOff_u73X0 rfl rfl rfl hN.2.2.2.2.2.2.2.2.2.2.2.1 (by decide +kernel) ⟨Nat.le_of_ble_eq_true rfl, Nat.le_of_ble_eq_true rfl⟩) ⟨ct_blind, va_recv hK hP (ci := 0) (q0 := 1) rfl rfl, ct_pre hP hD hK hZ hN hS hA [1] rfl (by decide)⟩ rfl rfl hl.1 rfl (lv_room (Nat.le_of_ble_eq_true rfl)) dX3_off_15 ⟨Nat.le_of_ble_eq_true rfl, Nat.le_of_ble_eq_true rfl⟩) hP hD hS hA [1] [0] rfl (wr := [(t0, .inr (2, [.ref qs, .ref ql, .ref a1, .ref a2, .ref a1]))]) rfl (by decide) (by decide) (fun r_1 u9 H locs hw_1 hP hD hS => ?_)
  have hw_1 : r_1 = of1 := hw_1
  have hP : va_P (dC, dI) vwCl [(t0, .inr (2, [.ref qs, .ref ql, .ref a1, .ref a2, .ref a1])), (a1, .inr (0, [.ref qx1, .ref qy1, .int ht1, .int cx1, .int cy1, .int lf1, .long sq1, .int ln1, .int of1, .int sr1, .int fx1, .int fy1]))] H := hP
  have hD : va_D A [(t0, .inr (2, [.ref qs, .ref ql, .ref a1, .ref a2, .ref a1])), (a1, .inr (0, [.ref qx1, .ref qy1, .int ht1, .int cx1, .int cy1, .int lf1, .long sq1, .int ln1, .int of1, .int sr1, .int fx1, .int fy1]))] := hD
  have hP9 := hP.sub (ws' := [(t0, .inr (2, [.ref qs, .ref ql, .ref a1, .ref a2, .ref a1])), (a1, .inr (0, [.ref qx1, .ref qy1, .int ht1, .int cx1, .int cy1, .int lf1, .long sq1, .int ln1, .int of1, .int sr1, .int fx1, .int fy1]))]) [0, 1] rfl
  have hD9 := hD.sub (ws' := [(t0, .inr (2, [.ref qs, .ref ql, .ref a1, .ref a2, .ref a1])), (a1, .inr (0, [.ref qx1, .ref qy1, .int ht1, .int cx1, .int cy1, .int lf1, .long sq1, .int ln1, .int of1, .int sr1, .int fx1, .int fy1]))]) [0, 1] (by decide) rfl
  exact W.iret (v := r_1) hx hb hr (fun t9 ht9 hW9 => ⟨⟨r_1, (), rfl, hw_1, by rw [ht9]; exact hP9, hD9⟩, hS.F ht9⟩) hS.2.2 dX3_off_18
set_option maxHeartbeats 4000000 in
set_option maxRecDepth 100000 in
/-- TickWalks.strays, nothing walked -/
theorem tw_strays_n (l : Launch) (dC : Nat → ClassId) (dI : Nat → Nat → Nat) (cA cB : ClassId) (sz : Nat) (t0 : Nat) (qs : Nat) (ql : Nat) (a1 : Nat) (a2 : Nat) : Met l yX3_strays wsX3_strays ({ frames := 0, cells := 0, slots := 0, locals := 0 }) (va_Pc [.ref t0] (ct_P dC dI cA cB sz [(t0, .inr (2, [.ref qs, .ref ql, .ref a1, .ref a2, .null]))])) (va_Qi (fun (r : Int32) (u : Unit) => r = 0) (fun (u : Unit) => ct_B dC dI (va_A [(t0, .inr (2, [.ref qs, .ref ql, .ref a1, .ref a2, .null]))] sz) [(t0, .inr (2, [.ref qs, .ref ql, .ref a1, .ref a2, .null]))]) (va_A [(t0, .inr (2, [.ref qs, .ref ql, .ref a1, .ref a2, .null]))] sz)) 0 0 (va_A [(t0, .inr (2, [.ref qs, .ref ql, .ref a1, .ref a2, .null]))] sz) := by
  refine Met.ofW (cc := cX3_strays) (maxL := 1) (ret := (some .int)) (by decide +kernel) rfl ?_
  intro p e s m args below meth c s₁ B hml hv
  obtain ⟨rfl, hsz, hP, hK, hD0, hZ, hN⟩ := hv
  have hx := B.exec
  have hb := B.bytes
  have hr := B.returns
  have hts := atoms_spec (ws := wsX3_strays) B.pre
  have hown : s.vm.findClass RX3 = some m.cls := findClass_of_methodNamed B.named
  have hlocks := B.notSynchronized
  have hiX3 : ∀ w ∈ u_ws RX3 TX3 5, w ∈ wsX3_strays := by decide +kernel
  subst hsz
  have hD := hD0.self (sz := s.heap.size)
  generalize hAe : va_A [(t0, .inr (2, [.ref qs, .ref ql, .ref a1, .ref a2, .null]))] s.heap.size = A at hD hZ ⊢
  have hA : ∀ q : Nat, s.heap.size ≤ q → A q := fun q h => by rw [← hAe]; exact Or.inr h
  have hl := lv_entry ([.ref t0]) (n := 1) (Nat.le_of_ble_eq_true rfl)
  rw [lg_entry_eq]
  generalize (lg_sl ([.ref t0]) ++ List.replicate (1 - (lg_sl ([.ref t0])).length) Slot.unset).toArray = ls at hl ⊢
  have hl : lv_has ls 1 [(0, .ref t0)] := hl
  generalize hHe : s.heap = H at hP ⊢
  have hS : va_S A s.heap H [] := by rw [hHe]; exact va_S.rf
  generalize ([] : List Loc) = locs at hS ⊢
  refine lv_aload_n hx hb dX3_strays_0 rfl (lv_at hl 0 rfl) ?_
  refine va_get (D := (dC, dI)) (ci := 2) (v := .null) (C := RX3) (T := TX3) (N := 5) hx hb hts hiX3 hown hK hP 0 rfl rfl 4 (by decide) (hts (.fieldLink RX3 30 "TickWalks" "latest" "LTickWalks$Walk;") (List.mem_of_getElem? (l := wsX3_strays) (i := 1) rfl)) (fun _ h9 => h9) rfl dX3_strays_1 ?_
  refine lv_ifnonnullN hx hb dX3_strays_4 ?_
  refine lv_iconst (v := 0) hx hb dX3_strays_7 (by decide) ?_
  refine lv_goto (tgt := 18) hx hb dX3_strays_8 (by decide) ?_
  have hP9 := hP.sub (ws' := [(t0, .inr (2, [.ref qs, .ref ql, .ref a1, .ref a2, .null]))]) [0] rfl
  have hD9 := hD.sub (ws' := [(t0, .inr (2, [.ref qs, .ref ql, .ref a1, .ref a2, .null]))]) [0] (by decide) rfl
  exact W.iret (v := 0) hx hb hr (fun t9 ht9 hW9 => ⟨⟨0, (), rfl, rfl, by rw [ht9]; exact hP9, hD9⟩, hS.F ht9⟩) hS.2.2 dX3_strays_18
set_option maxHeartbeats 4000000 in
set_option maxRecDepth 100000 in
/-- TickWalks.strays, a line -/
theorem tw_strays_l (l : Launch) (dC : Nat → ClassId) (dI : Nat → Nat → Nat) (cA cB : ClassId) (sz : Nat) (t0 : Nat) (qs : Nat) (ql : Nat) (a1 : Nat) (a2 : Nat) (qf : Nat) (qb : Nat) (ln : Int32) (sr : Int32) (fv : Nat → Int32) (bv : Nat → Int32) (N : Nat) (hN2 : ln = nI N ∧ N < 1000000) : Met l yX3_strays wsX3_strays ({ frames := 5, cells := 0, slots := 0, locals := 118 }) (va_Pc [.ref t0] (ct_P dC dI cA cB sz [(t0, .inr (2, [.ref qs, .ref ql, .ref a1, .ref a2, .ref ql])), (ql, .inr (1, [.ref qf, .ref qb, .int ln, .int sr])), (qf, .inl (cA, 3, .inl fv)), (qb, .inl (cA, 3, .inl bv))])) (va_Qi (fun (r : Int32) (u : Int32) => r = u ∧ ((sr = -1 ∧ u = ln_c fv bv ln N) ∨ (¬ sr = -1 ∧ u = sr))) (fun (u : Int32) => ct_B dC dI (va_A [(t0, .inr (2, [.ref qs, .ref ql, .ref a1, .ref a2, .ref ql])), (ql, .inr (1, [.ref qf, .ref qb, .int ln, .int sr])), (qf, .inl (cA, 3, .inl fv)), (qb, .inl (cA, 3, .inl bv))] sz) [(t0, .inr (2, [.ref qs, .ref ql, .ref a1, .ref a2, .ref ql])), (ql, .inr (1, [.ref qf, .ref qb, .int ln, .int u])), (qf, .inl (cA, 3, .inl fv)), (qb, .inl (cA, 3, .inl bv))]) (va_A [(t0, .inr (2, [.ref qs, .ref ql, .ref a1, .ref a2, .ref ql])), (ql, .inr (1, [.ref qf, .ref qb, .int ln, .int sr])), (qf, .inl (cA, 3, .inl fv)), (qb, .inl (cA, 3, .inl bv))] sz)) 0 0 (va_A [(t0, .inr (2, [.ref qs, .ref ql, .ref a1, .ref a2, .ref ql])), (ql, .inr (1, [.ref qf, .ref qb, .int ln, .int sr])), (qf, .inl (cA, 3, .inl fv)), (qb, .inl (cA, 3, .inl bv))] sz) := by
  refine Met.ofW (cc := cX3_strays) (maxL := 1) (ret := (some .int)) (by decide +kernel) rfl ?_
  intro p e s m args below meth c s₁ B hml hv
  obtain ⟨rfl, hsz, hP, hK, hD0, hZ, hN⟩ := hv
  have hx := B.exec
  have hb := B.bytes
  have hr := B.returns
  have hts := atoms_spec (ws := wsX3_strays) B.pre
  have hown : s.vm.findClass RX3 = some m.cls := findClass_of_methodNamed B.named
  have hlocks := B.notSynchronized
  have hiX3 : ∀ w ∈ u_ws RX3 TX3 5, w ∈ wsX3_strays := by decide +kernel
  subst hsz
  have hD := hD0.self (sz := s.heap.size)
  generalize hAe : va_A [(t0, .inr (2, [.ref qs, .ref ql, .ref a1, .ref a2, .ref ql])), (ql, .inr (1, [.ref qf, .ref qb, .int ln, .int sr])), (qf, .inl (cA, 3, .inl fv)), (qb, .inl (cA, 3, .inl bv))] s.heap.size = A at hD hZ ⊢
  have hA : ∀ q : Nat, s.heap.size ≤ q → A q := fun q h => by rw [← hAe]; exact Or.inr h
  have hl := lv_entry ([.ref t0]) (n := 1) (Nat.le_of_ble_eq_true rfl)
  rw [lg_entry_eq]
  generalize (lg_sl ([.ref t0]) ++ List.replicate (1 - (lg_sl ([.ref t0])).length) Slot.unset).toArray = ls at hl ⊢
  have hl : lv_has ls 1 [(0, .ref t0)] := hl
  generalize hHe : s.heap = H at hP ⊢
  have hS : va_S A s.heap H [] := by rw [hHe]; exact va_S.rf
  generalize ([] : List Loc) = locs at hS ⊢
  refine lv_aload_n hx hb dX3_strays_0 rfl (lv_at hl 0 rfl) ?_
  refine va_get (D := (dC, dI)) (ci := 2) (v := .ref ql) (C := RX3) (T := TX3) (N := 5) hx hb hts hiX3 hown hK hP 0 rfl rfl 4 (by decide) (hts (.fieldLink RX3 30 "TickWalks" "latest" "LTickWalks$Walk;") (List.mem_of_getElem? (l := wsX3_strays) (i := 1) rfl)) (fun _ h9 => h9) rfl dX3_strays_1 ?_
  refine lv_ifnonnull (tgt := 11) hx hb dX3_strays_4 (by decide) ?_
  refine lv_aload_n hx hb dX3_strays_11 rfl (lv_at hl 0 rfl) ?_
  refine va_get (D := (dC, dI)) (ci := 2) (v := .ref ql) (C := RX3) (T := TX3) (N := 5) hx hb hts hiX3 hown hK hP 0 rfl rfl 4 (by decide) (hts (.fieldLink RX3 30 "TickWalks" "latest" "LTickWalks$Walk;") (List.mem_of_getElem? (l := wsX3_strays) (i := 1) rfl)) (fun _ h9 => h9) rfl dX3_strays_12 ?_
  refine ct_calli (va_runU (As := []) (rest := []) ⟨hx, hb, hml, hown, hts⟩ (li_strays l dC dI cA cB H.size ql qf qb ln sr fv bv N hN2) (va_cwA 0 hts gX3_strays_X1_strayTicks_u76X1 rfl rfl rfl hN.2.2.2.2.2.2.2.2.2.2.2.2 (by decide +kernel) ⟨Nat.le_of_ble_eq_true rfl, Nat.le_of_ble_eq_true rfl⟩) ⟨ct_blind, va_recv hK hP (ci := 1) (q0 := 1) rfl rfl, ct_pre hP hD hK hZ hN hS hA [1, 2, 3] rfl (by decide)⟩ rfl rfl hl.1 rfl (lv_room (Nat.le_of_ble_eq_true rfl)) dX3_strays_15 ⟨Nat.le_of_ble_eq_true rfl, Nat.le_of_ble_eq_true rfl⟩) hP hD hS hA [1, 2, 3] [0] rfl (wr := [(t0, .inr (2, [.ref qs, .ref ql, .ref a1, .ref a2, .ref ql]))]) rfl (by decide) (by decide) (fun r_1 ns_1 H locs hw_1 hP hD hS => ?_)
  have hw_1 : r_1 = ns_1 ∧ ((sr = -1 ∧ ns_1 = ln_c fv bv ln N) ∨ (¬ sr = -1 ∧ ns_1 = sr)) := hw_1
  have hP : va_P (dC, dI) vwCl [(t0, .inr (2, [.ref qs, .ref ql, .ref a1, .ref a2, .ref ql])), (ql, .inr (1, [.ref qf, .ref qb, .int ln, .int ns_1])), (qf, .inl (cA, 3, .inl fv)), (qb, .inl (cA, 3, .inl bv))] H := hP
  have hD : va_D A [(t0, .inr (2, [.ref qs, .ref ql, .ref a1, .ref a2, .ref ql])), (ql, .inr (1, [.ref qf, .ref qb, .int ln, .int ns_1])), (qf, .inl (cA, 3, .inl fv)), (qb, .inl (cA, 3, .inl bv))] := hD
  have hP9 := hP.sub (ws' := [(t0, .inr (2, [.ref qs, .ref ql, .ref a1, .ref a2, .ref ql])), (ql, .inr (1, [.ref qf, .ref qb, .int ln, .int ns_1])), (qf, .inl (cA, 3, .inl fv)), (qb, .inl (cA, 3, .inl bv))]) [0, 1, 2, 3] rfl
  have hD9 := hD.sub (ws' := [(t0, .inr (2, [.ref qs, .ref ql, .ref a1, .ref a2, .ref ql])), (ql, .inr (1, [.ref qf, .ref qb, .int ln, .int ns_1])), (qf, .inl (cA, 3, .inl fv)), (qb, .inl (cA, 3, .inl bv))]) [0, 1, 2, 3] (by decide) rfl
  exact W.iret (v := r_1) hx hb hr (fun t9 ht9 hW9 => ⟨⟨r_1, (ns_1), rfl, hw_1, by rw [ht9]; exact hP9, hD9⟩, hS.F ht9⟩) hS.2.2 dX3_strays_18
set_option maxHeartbeats 4000000 in
set_option maxRecDepth 100000 in
/-- TickWalks.strays, an arc -/
theorem tw_strays_a (l : Launch) (dC : Nat → ClassId) (dI : Nat → Nat → Nat) (cA cB : ClassId) (sz : Nat) (t0 : Nat) (qs : Nat) (ql : Nat) (a1 : Nat) (a2 : Nat) (qx1 : Nat) (qy1 : Nat) (ht1 : Int32) (cx1 : Int32) (cy1 : Int32) (lf1 : Int32) (sq1 : Int64) (ln1 : Int32) (of1 : Int32) (sr1 : Int32) (fx1 : Int32) (fy1 : Int32) : Met l yX3_strays wsX3_strays ({ frames := 1, cells := 0, slots := 0, locals := 20 }) (va_Pc [.ref t0] (ct_P dC dI cA cB sz [(t0, .inr (2, [.ref qs, .ref ql, .ref a1, .ref a2, .ref a1])), (a1, .inr (0, [.ref qx1, .ref qy1, .int ht1, .int cx1, .int cy1, .int lf1, .long sq1, .int ln1, .int of1, .int sr1, .int fx1, .int fy1]))])) (va_Qi (fun (r : Int32) (u : Unit) => r = sr1) (fun (u : Unit) => ct_B dC dI (va_A [(t0, .inr (2, [.ref qs, .ref ql, .ref a1, .ref a2, .ref a1])), (a1, .inr (0, [.ref qx1, .ref qy1, .int ht1, .int cx1, .int cy1, .int lf1, .long sq1, .int ln1, .int of1, .int sr1, .int fx1, .int fy1]))] sz) [(t0, .inr (2, [.ref qs, .ref ql, .ref a1, .ref a2, .ref a1])), (a1, .inr (0, [.ref qx1, .ref qy1, .int ht1, .int cx1, .int cy1, .int lf1, .long sq1, .int ln1, .int of1, .int sr1, .int fx1, .int fy1]))]) (va_A [(t0, .inr (2, [.ref qs, .ref ql, .ref a1, .ref a2, .ref a1])), (a1, .inr (0, [.ref qx1, .ref qy1, .int ht1, .int cx1, .int cy1, .int lf1, .long sq1, .int ln1, .int of1, .int sr1, .int fx1, .int fy1]))] sz)) 0 0 (va_A [(t0, .inr (2, [.ref qs, .ref ql, .ref a1, .ref a2, .ref a1])), (a1, .inr (0, [.ref qx1, .ref qy1, .int ht1, .int cx1, .int cy1, .int lf1, .long sq1, .int ln1, .int of1, .int sr1, .int fx1, .int fy1]))] sz) := by
  refine Met.ofW (cc := cX3_strays) (maxL := 1) (ret := (some .int)) (by decide +kernel) rfl ?_
  intro p e s m args below meth c s₁ B hml hv
  obtain ⟨rfl, hsz, hP, hK, hD0, hZ, hN⟩ := hv
  have hx := B.exec
  have hb := B.bytes
  have hr := B.returns
  have hts := atoms_spec (ws := wsX3_strays) B.pre
  have hown : s.vm.findClass RX3 = some m.cls := findClass_of_methodNamed B.named
  have hlocks := B.notSynchronized
  have hiX3 : ∀ w ∈ u_ws RX3 TX3 5, w ∈ wsX3_strays := by decide +kernel
  subst hsz
  have hD := hD0.self (sz := s.heap.size)
  generalize hAe : va_A [(t0, .inr (2, [.ref qs, .ref ql, .ref a1, .ref a2, .ref a1])), (a1, .inr (0, [.ref qx1, .ref qy1, .int ht1, .int cx1, .int cy1, .int lf1, .long sq1, .int ln1, .int of1, .int sr1, .int fx1, .int fy1]))] s.heap.size = A at hD hZ ⊢
  have hA : ∀ q : Nat, s.heap.size ≤ q → A q := fun q h => by rw [← hAe]; exact Or.inr h
  have hl := lv_entry ([.ref t0]) (n := 1) (Nat.le_of_ble_eq_true rfl)
  rw [lg_entry_eq]
  generalize (lg_sl ([.ref t0]) ++ List.replicate (1 - (lg_sl ([.ref t0])).length) Slot.unset).toArray = ls at hl ⊢
  have hl : lv_has ls 1 [(0, .ref t0)] := hl
  generalize hHe : s.heap = H at hP ⊢
  have hS : va_S A s.heap H [] := by rw [hHe]; exact va_S.rf
  generalize ([] : List Loc) = locs at hS ⊢
  refine lv_aload_n hx hb dX3_strays_0 rfl (lv_at hl 0 rfl) ?_
  refine va_get (D := (dC, dI)) (ci := 2) (v := .ref a1) (C := RX3) (T := TX3) (N := 5) hx hb hts hiX3 hown hK hP 0 rfl rfl 4 (by decide) (hts (.fieldLink RX3 30 "TickWalks" "latest" "LTickWalks$Walk;") (List.mem_of_getElem? (l := wsX3_strays) (i := 1) rfl)) (fun _ h9 => h9) rfl dX3_strays_1 ?_
  refine lv_ifnonnull (tgt := 11) hx hb dX3_strays_4 (by decide) ?_
  refine lv_aload_n hx hb dX3_strays_11 rfl (lv_at hl 0 rfl) ?_
  refine va_get (D := (dC, dI)) (ci := 2) (v := .ref a1) (C := RX3) (T := TX3) (N := 5) hx hb hts hiX3 hown hK hP 0 rfl rfl 4 (by decide) (hts (.fieldLink RX3 30 "TickWalks" "latest" "LTickWalks$Walk;") (List.mem_of_getElem? (l := wsX3_strays) (i := 1) rfl)) (fun _ h9 => h9) rfl dX3_strays_12 ?_
  refine ct_calli (va_runU (As := []) (rest := []) ⟨hx, hb, hml, hown, hts⟩ (ar_strays l dC dI cA cB H.size a1 qx1 qy1 ht1 cx1 cy1 lf1 sq1 ln1 of1 sr1 fx1 fy1 ) (va_cwA 0 hts gX3_strays_X0_strayTicks_u76X0 rfl rfl rfl hN.2.2.2.2.2.2.2.2.2.2.2.2 (by decide +kernel) ⟨Nat.le_of_ble_eq_true rfl, Nat.le_of_ble_eq_true rfl⟩) ⟨ct_blind, va_recv hK hP (ci := 0) (q0 := 1) rfl rfl, ct_pre hP hD hK hZ hN hS hA [1] rfl (by decide)⟩ rfl rfl hl.1 rfl (lv_room (Nat.le_of_ble_eq_true rfl)) dX3_strays_15 ⟨Nat.le_of_ble_eq_true rfl, Nat.le_of_ble_eq_true rfl⟩) hP hD hS hA [1] [0] rfl (wr := [(t0, .inr (2, [.ref qs, .ref ql, .ref a1, .ref a2, .ref a1]))]) rfl (by decide) (by decide) (fun r_1 u9 H locs hw_1 hP hD hS => ?_)
  have hw_1 : r_1 = sr1 := hw_1
  have hP : va_P (dC, dI) vwCl [(t0, .inr (2, [.ref qs, .ref ql, .ref a1, .ref a2, .ref a1])), (a1, .inr (0, [.ref qx1, .ref qy1, .int ht1, .int cx1, .int cy1, .int lf1, .long sq1, .int ln1, .int of1, .int sr1, .int fx1, .int fy1]))] H := hP
  have hD : va_D A [(t0, .inr (2, [.ref qs, .ref ql, .ref a1, .ref a2, .ref a1])), (a1, .inr (0, [.ref qx1, .ref qy1, .int ht1, .int cx1, .int cy1, .int lf1, .long sq1, .int ln1, .int of1, .int sr1, .int fx1, .int fy1]))] := hD
  have hP9 := hP.sub (ws' := [(t0, .inr (2, [.ref qs, .ref ql, .ref a1, .ref a2, .ref a1])), (a1, .inr (0, [.ref qx1, .ref qy1, .int ht1, .int cx1, .int cy1, .int lf1, .long sq1, .int ln1, .int of1, .int sr1, .int fx1, .int fy1]))]) [0, 1] rfl
  have hD9 := hD.sub (ws' := [(t0, .inr (2, [.ref qs, .ref ql, .ref a1, .ref a2, .ref a1])), (a1, .inr (0, [.ref qx1, .ref qy1, .int ht1, .int cx1, .int cy1, .int lf1, .long sq1, .int ln1, .int of1, .int sr1, .int fx1, .int fy1]))]) [0, 1] (by decide) rfl
  exact W.iret (v := r_1) hx hb hr (fun t9 ht9 hW9 => ⟨⟨r_1, (), rfl, hw_1, by rw [ht9]; exact hP9, hD9⟩, hS.F ht9⟩) hS.2.2 dX3_strays_18
set_option maxHeartbeats 4000000 in
set_option maxRecDepth 100000 in
/-- TickWalks.tick, nothing walked -/
theorem tw_tick_n (l : Launch) (dC : Nat → ClassId) (dI : Nat → Nat → Nat) (cA cB : ClassId) (sz : Nat) (t0 : Nat) (qs : Nat) (ql : Nat) (a1 : Nat) (a2 : Nat) (k : Int32) (ax : Int32) : Met l yX3_tick wsX3_tick ({ frames := 0, cells := 0, slots := 0, locals := 0 }) (va_Pc [.ref t0, .int k, .int ax] (ct_P dC dI cA cB sz [(t0, .inr (2, [.ref qs, .ref ql, .ref a1, .ref a2, .null]))])) (va_Qi (fun (r : Int32) (u : Unit) => r = 0) (fun (u : Unit) => ct_B dC dI (va_A [(t0, .inr (2, [.ref qs, .ref ql, .ref a1, .ref a2, .null]))] sz) [(t0, .inr (2, [.ref qs, .ref ql, .ref a1, .ref a2, .null]))]) (va_A [(t0, .inr (2, [.ref qs, .ref ql, .ref a1, .ref a2, .null]))] sz)) 0 0 (va_A [(t0, .inr (2, [.ref qs, .ref ql, .ref a1, .ref a2, .null]))] sz) := by
  refine Met.ofW (cc := cX3_tick) (maxL := 3) (ret := (some .int)) (by decide +kernel) rfl ?_
  intro p e s m args below meth c s₁ B hml hv
  obtain ⟨rfl, hsz, hP, hK, hD0, hZ, hN⟩ := hv
  have hx := B.exec
  have hb := B.bytes
  have hr := B.returns
  have hts := atoms_spec (ws := wsX3_tick) B.pre
  have hown : s.vm.findClass RX3 = some m.cls := findClass_of_methodNamed B.named
  have hlocks := B.notSynchronized
  have hiX3 : ∀ w ∈ u_ws RX3 TX3 5, w ∈ wsX3_tick := by decide +kernel
  subst hsz
  have hD := hD0.self (sz := s.heap.size)
  generalize hAe : va_A [(t0, .inr (2, [.ref qs, .ref ql, .ref a1, .ref a2, .null]))] s.heap.size = A at hD hZ ⊢
  have hA : ∀ q : Nat, s.heap.size ≤ q → A q := fun q h => by rw [← hAe]; exact Or.inr h
  have hl := lv_entry ([.ref t0, .int k, .int ax]) (n := 3) (Nat.le_of_ble_eq_true rfl)
  rw [lg_entry_eq]
  generalize (lg_sl ([.ref t0, .int k, .int ax]) ++ List.replicate (3 - (lg_sl ([.ref t0, .int k, .int ax])).length) Slot.unset).toArray = ls at hl ⊢
  have hl : lv_has ls 3 [(0, .ref t0), (1, .int k), (2, .int ax)] := hl
  generalize hHe : s.heap = H at hP ⊢
  have hS : va_S A s.heap H [] := by rw [hHe]; exact va_S.rf
  generalize ([] : List Loc) = locs at hS ⊢
  refine lv_aload_n hx hb dX3_tick_0 rfl (lv_at hl 0 rfl) ?_
  refine va_get (D := (dC, dI)) (ci := 2) (v := .null) (C := RX3) (T := TX3) (N := 5) hx hb hts hiX3 hown hK hP 0 rfl rfl 4 (by decide) (hts (.fieldLink RX3 30 "TickWalks" "latest" "LTickWalks$Walk;") (List.mem_of_getElem? (l := wsX3_tick) (i := 1) rfl)) (fun _ h9 => h9) rfl dX3_tick_1 ?_
  refine lv_ifnullN (tgt := 29) hx hb dX3_tick_4 (by decide) ?_
  refine lv_iconst (v := 0) hx hb dX3_tick_29 (by decide) ?_
  have hP9 := hP.sub (ws' := [(t0, .inr (2, [.ref qs, .ref ql, .ref a1, .ref a2, .null]))]) [0] rfl
  have hD9 := hD.sub (ws' := [(t0, .inr (2, [.ref qs, .ref ql, .ref a1, .ref a2, .null]))]) [0] (by decide) rfl
  exact W.iret (v := 0) hx hb hr (fun t9 ht9 hW9 => ⟨⟨0, (), rfl, rfl, by rw [ht9]; exact hP9, hD9⟩, hS.F ht9⟩) hS.2.2 dX3_tick_30
set_option maxHeartbeats 4000000 in
set_option maxRecDepth 100000 in
/-- TickWalks.tick, a line -/
theorem tw_tick_l (l : Launch) (dC : Nat → ClassId) (dI : Nat → Nat → Nat) (cA cB : ClassId) (sz : Nat) (t0 : Nat) (qs : Nat) (ql : Nat) (a1 : Nat) (a2 : Nat) (qf : Nat) (qb : Nat) (ln : Int32) (sr : Int32) (fv : Nat → Int32) (bv : Nat → Int32) (k : Int32) (ax : Int32) : Met l yX3_tick wsX3_tick ({ frames := 2, cells := 0, slots := 0, locals := 60 }) (va_Pc [.ref t0, .int k, .int ax] (ct_P dC dI cA cB sz [(t0, .inr (2, [.ref qs, .ref ql, .ref a1, .ref a2, .ref ql])), (ql, .inr (1, [.ref qf, .ref qb, .int ln, .int sr])), (qf, .inl (cA, 3, .inl fv)), (qb, .inl (cA, 3, .inl bv))])) (va_Qi (fun (r : Int32) (u : Unit) => r = tk_l fv bv ln k ax) (fun (u : Unit) => ct_B dC dI (va_A [(t0, .inr (2, [.ref qs, .ref ql, .ref a1, .ref a2, .ref ql])), (ql, .inr (1, [.ref qf, .ref qb, .int ln, .int sr])), (qf, .inl (cA, 3, .inl fv)), (qb, .inl (cA, 3, .inl bv))] sz) [(t0, .inr (2, [.ref qs, .ref ql, .ref a1, .ref a2, .ref ql])), (ql, .inr (1, [.ref qf, .ref qb, .int ln, .int sr])), (qf, .inl (cA, 3, .inl fv)), (qb, .inl (cA, 3, .inl bv))]) (va_A [(t0, .inr (2, [.ref qs, .ref ql, .ref a1, .ref a2, .ref ql])), (ql, .inr (1, [.ref qf, .ref qb, .int ln, .int sr])), (qf, .inl (cA, 3, .inl fv)), (qb, .inl (cA, 3, .inl bv))] sz)) 0 0 (va_A [(t0, .inr (2, [.ref qs, .ref ql, .ref a1, .ref a2, .ref ql])), (ql, .inr (1, [.ref qf, .ref qb, .int ln, .int sr])), (qf, .inl (cA, 3, .inl fv)), (qb, .inl (cA, 3, .inl bv))] sz) := by
  refine Met.ofW (cc := cX3_tick) (maxL := 3) (ret := (some .int)) (by decide +kernel) rfl ?_
  intro p e s m args below meth c s₁ B hml hv
  obtain ⟨rfl, hsz, hP, hK, hD0, hZ, hN⟩ := hv
  have hx := B.exec
  have hb := B.bytes
  have hr := B.returns
  have hts := atoms_spec (ws := wsX3_tick) B.pre
  have hown : s.vm.findClass RX3 = some m.cls := findClass_of_methodNamed B.named
  have hlocks := B.notSynchronized
  have hiX3 : ∀ w ∈ u_ws RX3 TX3 5, w ∈ wsX3_tick := by decide +kernel
  subst hsz
  have hD := hD0.self (sz := s.heap.size)
  generalize hAe : va_A [(t0, .inr (2, [.ref qs, .ref ql, .ref a1, .ref a2, .ref ql])), (ql, .inr (1, [.ref qf, .ref qb, .int ln, .int sr])), (qf, .inl (cA, 3, .inl fv)), (qb, .inl (cA, 3, .inl bv))] s.heap.size = A at hD hZ ⊢
  have hA : ∀ q : Nat, s.heap.size ≤ q → A q := fun q h => by rw [← hAe]; exact Or.inr h
  have hl := lv_entry ([.ref t0, .int k, .int ax]) (n := 3) (Nat.le_of_ble_eq_true rfl)
  rw [lg_entry_eq]
  generalize (lg_sl ([.ref t0, .int k, .int ax]) ++ List.replicate (3 - (lg_sl ([.ref t0, .int k, .int ax])).length) Slot.unset).toArray = ls at hl ⊢
  have hl : lv_has ls 3 [(0, .ref t0), (1, .int k), (2, .int ax)] := hl
  generalize hHe : s.heap = H at hP ⊢
  have hS : va_S A s.heap H [] := by rw [hHe]; exact va_S.rf
  generalize ([] : List Loc) = locs at hS ⊢
  refine lv_aload_n hx hb dX3_tick_0 rfl (lv_at hl 0 rfl) ?_
  refine va_get (D := (dC, dI)) (ci := 2) (v := .ref ql) (C := RX3) (T := TX3) (N := 5) hx hb hts hiX3 hown hK hP 0 rfl rfl 4 (by decide) (hts (.fieldLink RX3 30 "TickWalks" "latest" "LTickWalks$Walk;") (List.mem_of_getElem? (l := wsX3_tick) (i := 1) rfl)) (fun _ h9 => h9) rfl dX3_tick_1 ?_
  refine lv_ifnull hx hb dX3_tick_4 ?_
  refine lv_iload_n hx hb dX3_tick_7 rfl (lv_at hl 2 rfl) ?_
  refine ct_calli (va_runS (As := [.int ax]) (rest := []) ⟨hx, hb, hml, hown, hts⟩ (ct_isAxis l dC dI cA cB H.size ax ) (va_cwS 1 hts gX3_tick_X3_isAxis rfl rfl rfl (by decide +kernel) ⟨Nat.le_of_ble_eq_true rfl, Nat.le_of_ble_eq_true rfl⟩) ⟨ct_blind, ct_pre hP hD hK hZ hN hS hA [] rfl (by decide)⟩ rfl rfl hl.1 rfl (lv_room (Nat.le_of_ble_eq_true rfl)) dX3_tick_8 ⟨Nat.le_of_ble_eq_true rfl, Nat.le_of_ble_eq_true rfl⟩) hP hD hS hA [] [0, 1, 2, 3] rfl (wr := [(t0, .inr (2, [.ref qs, .ref ql, .ref a1, .ref a2, .ref ql])), (ql, .inr (1, [.ref qf, .ref qb, .int ln, .int sr])), (qf, .inl (cA, 3, .inl fv)), (qb, .inl (cA, 3, .inl bv))]) rfl (by decide) (by decide) (fun r_1 u9 H locs hw_1 hP hD hS => ?_)
  have hw_1 : bo_z r_1 (0 ≤ ax ∧ ax < 3) := hw_1
  have hP : va_P (dC, dI) vwCl [(t0, .inr (2, [.ref qs, .ref ql, .ref a1, .ref a2, .ref ql])), (ql, .inr (1, [.ref qf, .ref qb, .int ln, .int sr])), (qf, .inl (cA, 3, .inl fv)), (qb, .inl (cA, 3, .inl bv))] H := hP
  have hD : va_D A [(t0, .inr (2, [.ref qs, .ref ql, .ref a1, .ref a2, .ref ql])), (ql, .inr (1, [.ref qf, .ref qb, .int ln, .int sr])), (qf, .inl (cA, 3, .inl fv)), (qb, .inl (cA, 3, .inl bv))] := hD
  refine lv_if_eq (tgt := 29) hx hb dX3_tick_11 (by decide) (fun c_11 => ?_) (fun c_11 => ?_)
  · refine lv_iconst (v := 0) hx hb dX3_tick_29 (by decide) ?_
    have hP9 := hP.sub (ws' := [(t0, .inr (2, [.ref qs, .ref ql, .ref a1, .ref a2, .ref ql])), (ql, .inr (1, [.ref qf, .ref qb, .int ln, .int sr])), (qf, .inl (cA, 3, .inl fv)), (qb, .inl (cA, 3, .inl bv))]) [0, 1, 2, 3] rfl
    have hD9 := hD.sub (ws' := [(t0, .inr (2, [.ref qs, .ref ql, .ref a1, .ref a2, .ref ql])), (ql, .inr (1, [.ref qf, .ref qb, .int ln, .int sr])), (qf, .inl (cA, 3, .inl fv)), (qb, .inl (cA, 3, .inl bv))]) [0, 1, 2, 3] (by decide) rfl
    exact W.iret (v := 0) hx hb hr (fun t9 ht9 hW9 => ⟨⟨0, (), rfl, (by unfold tk_l; rw [if_neg (fun h => hw_1.f c_11 h.1)]), by rw [ht9]; exact hP9, hD9⟩, hS.F ht9⟩) hS.2.2 dX3_tick_30
  · refine lv_iload_n hx hb dX3_tick_14 rfl (lv_at hl 1 rfl) ?_
    refine lv_if_lt (tgt := 29) hx hb dX3_tick_15 (by decide) (fun c_15 => ?_) (fun c_15 => ?_)
    · refine lv_iconst (v := 0) hx hb dX3_tick_29 (by decide) ?_
      have hP9 := hP.sub (ws' := [(t0, .inr (2, [.ref qs, .ref ql, .ref a1, .ref a2, .ref ql])), (ql, .inr (1, [.ref qf, .ref qb, .int ln, .int sr])), (qf, .inl (cA, 3, .inl fv)), (qb, .inl (cA, 3, .inl bv))]) [0, 1, 2, 3] rfl
      have hD9 := hD.sub (ws' := [(t0, .inr (2, [.ref qs, .ref ql, .ref a1, .ref a2, .ref ql])), (ql, .inr (1, [.ref qf, .ref qb, .int ln, .int sr])), (qf, .inl (cA, 3, .inl fv)), (qb, .inl (cA, 3, .inl bv))]) [0, 1, 2, 3] (by decide) rfl
      exact W.iret (v := 0) hx hb hr (fun t9 ht9 hW9 => ⟨⟨0, (), rfl, (by unfold tk_l; rw [if_neg (fun h => absurd h.2.1 (Int32.not_le.mpr c_15))]), by rw [ht9]; exact hP9, hD9⟩, hS.F ht9⟩) hS.2.2 dX3_tick_30
    · refine lv_iload_n hx hb dX3_tick_18 rfl (lv_at hl 1 rfl) ?_
      refine lv_aload_n hx hb dX3_tick_19 rfl (lv_at hl 0 rfl) ?_
      refine va_get (D := (dC, dI)) (ci := 2) (v := .ref ql) (C := RX3) (T := TX3) (N := 5) hx hb hts hiX3 hown hK hP 0 rfl rfl 4 (by decide) (hts (.fieldLink RX3 30 "TickWalks" "latest" "LTickWalks$Walk;") (List.mem_of_getElem? (l := wsX3_tick) (i := 1) rfl)) (fun _ h9 => h9) rfl dX3_tick_20 ?_
      refine ct_calli (va_runU (As := []) (rest := [.int k]) ⟨hx, hb, hml, hown, hts⟩ (li_length l dC dI cA cB H.size ql qf qb ln sr ) (va_cwA 0 hts gX3_tick_X1_length_u66X1 rfl rfl rfl hN.2.2.2.2.2.2.2.2.2.1 (by decide +kernel) ⟨Nat.le_of_ble_eq_true rfl, Nat.le_of_ble_eq_true rfl⟩) ⟨ct_blind, va_recv hK hP (ci := 1) (q0 := 1) rfl rfl, ct_pre hP hD hK hZ hN hS hA [1] rfl (by decide)⟩ rfl rfl hl.1 rfl (lv_room (Nat.le_of_ble_eq_true rfl)) dX3_tick_23 ⟨Nat.le_of_ble_eq_true rfl, Nat.le_of_ble_eq_true rfl⟩) hP hD hS hA [1] [0, 2, 3] rfl (wr := [(t0, .inr (2, [.ref qs, .ref ql, .ref a1, .ref a2, .ref ql])), (qf, .inl (cA, 3, .inl fv)), (qb, .inl (cA, 3, .inl bv))]) rfl (by decide) (by decide) (fun r_2 u9 H locs hw_2 hP hD hS => ?_)
      have hw_2 : r_2 = ln := hw_2
      have hP : va_P (dC, dI) vwCl [(t0, .inr (2, [.ref qs, .ref ql, .ref a1, .ref a2, .ref ql])), (qf, .inl (cA, 3, .inl fv)), (qb, .inl (cA, 3, .inl bv)), (ql, .inr (1, [.ref qf, .ref qb, .int ln, .int sr]))] H := hP
      have hD : va_D A [(t0, .inr (2, [.ref qs, .ref ql, .ref a1, .ref a2, .ref ql])), (qf, .inl (cA, 3, .inl fv)), (qb, .inl (cA, 3, .inl bv)), (ql, .inr (1, [.ref qf, .ref qb, .int ln, .int sr]))] := hD
      refine lv_icmp_le (tgt := 31) hx hb dX3_tick_26 (by decide) (fun c_26 => ?_) (fun c_26 => ?_)
      · have hok : (0 ≤ ax ∧ ax < 3) ∧ 0 ≤ k ∧ k ≤ ln := ⟨hw_1.t c_11, Int32.not_lt.mp c_15, by rw [← hw_2]; exact c_26⟩
        obtain ⟨j, hj, eax⟩ := ax_in hok.1
        refine lv_aload_n hx hb dX3_tick_31 rfl (lv_at hl 0 rfl) ?_
        refine va_get (D := (dC, dI)) (ci := 2) (v := .ref ql) (C := RX3) (T := TX3) (N := 5) hx hb hts hiX3 hown hK hP 0 rfl rfl 4 (by decide) (hts (.fieldLink RX3 30 "TickWalks" "latest" "LTickWalks$Walk;") (List.mem_of_getElem? (l := wsX3_tick) (i := 1) rfl)) (fun _ h9 => h9) rfl dX3_tick_32 ?_
        refine lv_iload_n hx hb dX3_tick_35 rfl (lv_at hl 1 rfl) ?_
        refine lv_iload_n hx hb dX3_tick_36 rfl (lv_at hl 2 rfl) ?_
        refine ct_topi (y := nI j) eax ?_
        refine ct_calli (va_runU (As := [.int k, .int (nI j)]) (rest := []) ⟨hx, hb, hml, hown, hts⟩ (li_place l dC dI cA cB H.size ql qf qb ln sr fv bv k j hj) (va_cwA 2 hts gX3_tick_X1_placeBehind_u69X1 rfl rfl rfl hN.2.2.2.2.2.2.2.2.2.2.1 (by decide +kernel) ⟨Nat.le_of_ble_eq_true rfl, Nat.le_of_ble_eq_true rfl⟩) ⟨ct_blind, va_recv hK hP (ci := 1) (q0 := 3) rfl rfl, ct_pre hP hD hK hZ hN hS hA [3, 1, 2] rfl (by decide)⟩ rfl rfl hl.1 rfl (lv_room (Nat.le_of_ble_eq_true rfl)) dX3_tick_37 ⟨Nat.le_of_ble_eq_true rfl, Nat.le_of_ble_eq_true rfl⟩) hP hD hS hA [3, 1, 2] [0] rfl (wr := [(t0, .inr (2, [.ref qs, .ref ql, .ref a1, .ref a2, .ref ql]))]) rfl (by decide) (by decide) (fun r_3 u9 H locs hw_3 hP hD hS => ?_)
        have hw_3 : r_3 = ln_p (fv j) (bv j) ln k := hw_3
        have hP : va_P (dC, dI) vwCl [(t0, .inr (2, [.ref qs, .ref ql, .ref a1, .ref a2, .ref ql])), (ql, .inr (1, [.ref qf, .ref qb, .int ln, .int sr])), (qf, .inl (cA, 3, .inl fv)), (qb, .inl (cA, 3, .inl bv))] H := hP
        have hD : va_D A [(t0, .inr (2, [.ref qs, .ref ql, .ref a1, .ref a2, .ref ql])), (ql, .inr (1, [.ref qf, .ref qb, .int ln, .int sr])), (qf, .inl (cA, 3, .inl fv)), (qb, .inl (cA, 3, .inl bv))] := hD
        have hP9 := hP.sub (ws' := [(t0, .inr (2, [.ref qs, .ref ql, .ref a1, .ref a2, .ref ql])), (ql, .inr (1, [.ref qf, .ref qb, .int ln, .int sr])), (qf, .inl (cA, 3, .inl fv)), (qb, .inl (cA, 3, .inl bv))]) [0, 1, 2, 3] rfl
        have hD9 := hD.sub (ws' := [(t0, .inr (2, [.ref qs, .ref ql, .ref a1, .ref a2, .ref ql])), (ql, .inr (1, [.ref qf, .ref qb, .int ln, .int sr])), (qf, .inl (cA, 3, .inl fv)), (qb, .inl (cA, 3, .inl bv))]) [0, 1, 2, 3] (by decide) rfl
        exact W.iret (v := r_3) hx hb hr (fun t9 ht9 hW9 => ⟨⟨r_3, (), rfl, (by unfold tk_l; rw [if_pos hok, eax, nI_clamp (by omega)]; exact hw_3), by rw [ht9]; exact hP9, hD9⟩, hS.F ht9⟩) hS.2.2 dX3_tick_40
      · refine lv_iconst (v := 0) hx hb dX3_tick_29 (by decide) ?_
        have hP9 := hP.sub (ws' := [(t0, .inr (2, [.ref qs, .ref ql, .ref a1, .ref a2, .ref ql])), (ql, .inr (1, [.ref qf, .ref qb, .int ln, .int sr])), (qf, .inl (cA, 3, .inl fv)), (qb, .inl (cA, 3, .inl bv))]) [0, 3, 1, 2] rfl
        have hD9 := hD.sub (ws' := [(t0, .inr (2, [.ref qs, .ref ql, .ref a1, .ref a2, .ref ql])), (ql, .inr (1, [.ref qf, .ref qb, .int ln, .int sr])), (qf, .inl (cA, 3, .inl fv)), (qb, .inl (cA, 3, .inl bv))]) [0, 3, 1, 2] (by decide) rfl
        exact W.iret (v := 0) hx hb hr (fun t9 ht9 hW9 => ⟨⟨0, (), rfl, (by unfold tk_l; rw [if_neg (fun h => c_26 (by rw [hw_2]; exact h.2.2))]), by rw [ht9]; exact hP9, hD9⟩, hS.F ht9⟩) hS.2.2 dX3_tick_30
set_option maxHeartbeats 4000000 in
set_option maxRecDepth 100000 in
/-- TickWalks.tick, an arc -/
theorem tw_tick_a (l : Launch) (dC : Nat → ClassId) (dI : Nat → Nat → Nat) (cA cB : ClassId) (sz : Nat) (t0 : Nat) (qs : Nat) (ql : Nat) (a1 : Nat) (a2 : Nat) (qx1 : Nat) (qy1 : Nat) (ht1 : Int32) (cx1 : Int32) (cy1 : Int32) (lf1 : Int32) (sq1 : Int64) (ln1 : Int32) (of1 : Int32) (sr1 : Int32) (fx1 : Int32) (fy1 : Int32) (mx1 : Nat → Int32) (my1 : Nat → Int32) (N : Nat) (x0 : Int32) (y0 : Int32) (k : Int32) (ax : Int32) (hN3 : ln1 = nI N ∧ N ≤ 40000) (hM : ob_M lf1 sq1 cx1 cy1 (x0, y0) mx1 my1 N) : Met l yX3_tick wsX3_tick ({ frames := 4, cells := 0, slots := 0, locals := 115 }) (va_Pc [.ref t0, .int k, .int ax] (ct_P dC dI cA cB sz [(t0, .inr (2, [.ref qs, .ref ql, .ref a1, .ref a2, .ref a1])), (a1, .inr (0, [.ref qx1, .ref qy1, .int ht1, .int cx1, .int cy1, .int lf1, .long sq1, .int ln1, .int of1, .int sr1, .int fx1, .int fy1])), (qx1, .inl (cA, 401, .inl mx1)), (qy1, .inl (cA, 401, .inl my1))])) (va_Qi (fun (r : Int32) (u : Int32 × Int32) => r = tk_a lf1 sq1 cx1 cy1 (x0, y0) ht1 ln1 k ax) (fun (u : Int32 × Int32) => ct_B dC dI (va_A [(t0, .inr (2, [.ref qs, .ref ql, .ref a1, .ref a2, .ref a1])), (a1, .inr (0, [.ref qx1, .ref qy1, .int ht1, .int cx1, .int cy1, .int lf1, .long sq1, .int ln1, .int of1, .int sr1, .int fx1, .int fy1])), (qx1, .inl (cA, 401, .inl mx1)), (qy1, .inl (cA, 401, .inl my1))] sz) [(t0, .inr (2, [.ref qs, .ref ql, .ref a1, .ref a2, .ref a1])), (a1, .inr (0, [.ref qx1, .ref qy1, .int ht1, .int cx1, .int cy1, .int lf1, .long sq1, .int ln1, .int of1, .int sr1, .int u.1, .int u.2])), (qx1, .inl (cA, 401, .inl mx1)), (qy1, .inl (cA, 401, .inl my1))]) (va_A [(t0, .inr (2, [.ref qs, .ref ql, .ref a1, .ref a2, .ref a1])), (a1, .inr (0, [.ref qx1, .ref qy1, .int ht1, .int cx1, .int cy1, .int lf1, .long sq1, .int ln1, .int of1, .int sr1, .int fx1, .int fy1])), (qx1, .inl (cA, 401, .inl mx1)), (qy1, .inl (cA, 401, .inl my1))] sz)) 0 0 (va_A [(t0, .inr (2, [.ref qs, .ref ql, .ref a1, .ref a2, .ref a1])), (a1, .inr (0, [.ref qx1, .ref qy1, .int ht1, .int cx1, .int cy1, .int lf1, .long sq1, .int ln1, .int of1, .int sr1, .int fx1, .int fy1])), (qx1, .inl (cA, 401, .inl mx1)), (qy1, .inl (cA, 401, .inl my1))] sz) := by
  refine Met.ofW (cc := cX3_tick) (maxL := 3) (ret := (some .int)) (by decide +kernel) rfl ?_
  intro p e s m args below meth c s₁ B hml hv
  obtain ⟨rfl, hsz, hP, hK, hD0, hZ, hN⟩ := hv
  have hx := B.exec
  have hb := B.bytes
  have hr := B.returns
  have hts := atoms_spec (ws := wsX3_tick) B.pre
  have hown : s.vm.findClass RX3 = some m.cls := findClass_of_methodNamed B.named
  have hlocks := B.notSynchronized
  have hiX3 : ∀ w ∈ u_ws RX3 TX3 5, w ∈ wsX3_tick := by decide +kernel
  subst hsz
  have hD := hD0.self (sz := s.heap.size)
  generalize hAe : va_A [(t0, .inr (2, [.ref qs, .ref ql, .ref a1, .ref a2, .ref a1])), (a1, .inr (0, [.ref qx1, .ref qy1, .int ht1, .int cx1, .int cy1, .int lf1, .long sq1, .int ln1, .int of1, .int sr1, .int fx1, .int fy1])), (qx1, .inl (cA, 401, .inl mx1)), (qy1, .inl (cA, 401, .inl my1))] s.heap.size = A at hD hZ ⊢
  have hA : ∀ q : Nat, s.heap.size ≤ q → A q := fun q h => by rw [← hAe]; exact Or.inr h
  have hl := lv_entry ([.ref t0, .int k, .int ax]) (n := 3) (Nat.le_of_ble_eq_true rfl)
  rw [lg_entry_eq]
  generalize (lg_sl ([.ref t0, .int k, .int ax]) ++ List.replicate (3 - (lg_sl ([.ref t0, .int k, .int ax])).length) Slot.unset).toArray = ls at hl ⊢
  have hl : lv_has ls 3 [(0, .ref t0), (1, .int k), (2, .int ax)] := hl
  generalize hHe : s.heap = H at hP ⊢
  have hS : va_S A s.heap H [] := by rw [hHe]; exact va_S.rf
  generalize ([] : List Loc) = locs at hS ⊢
  refine lv_aload_n hx hb dX3_tick_0 rfl (lv_at hl 0 rfl) ?_
  refine va_get (D := (dC, dI)) (ci := 2) (v := .ref a1) (C := RX3) (T := TX3) (N := 5) hx hb hts hiX3 hown hK hP 0 rfl rfl 4 (by decide) (hts (.fieldLink RX3 30 "TickWalks" "latest" "LTickWalks$Walk;") (List.mem_of_getElem? (l := wsX3_tick) (i := 1) rfl)) (fun _ h9 => h9) rfl dX3_tick_1 ?_
  refine lv_ifnull hx hb dX3_tick_4 ?_
  refine lv_iload_n hx hb dX3_tick_7 rfl (lv_at hl 2 rfl) ?_
  refine ct_calli (va_runS (As := [.int ax]) (rest := []) ⟨hx, hb, hml, hown, hts⟩ (ct_isAxis l dC dI cA cB H.size ax ) (va_cwS 1 hts gX3_tick_X3_isAxis rfl rfl rfl (by decide +kernel) ⟨Nat.le_of_ble_eq_true rfl, Nat.le_of_ble_eq_true rfl⟩) ⟨ct_blind, ct_pre hP hD hK hZ hN hS hA [] rfl (by decide)⟩ rfl rfl hl.1 rfl (lv_room (Nat.le_of_ble_eq_true rfl)) dX3_tick_8 ⟨Nat.le_of_ble_eq_true rfl, Nat.le_of_ble_eq_true rfl⟩) hP hD hS hA [] [0, 1, 2, 3] rfl (wr := [(t0, .inr (2, [.ref qs, .ref ql, .ref a1, .ref a2, .ref a1])), (a1, .inr (0, [.ref qx1, .ref qy1, .int ht1, .int cx1, .int cy1, .int lf1, .long sq1, .int ln1, .int of1, .int sr1, .int fx1, .int fy1])), (qx1, .inl (cA, 401, .inl mx1)), (qy1, .inl (cA, 401, .inl my1))]) rfl (by decide) (by decide) (fun r_1 u9 H locs hw_1 hP hD hS => ?_)
  have hw_1 : bo_z r_1 (0 ≤ ax ∧ ax < 3) := hw_1
  have hP : va_P (dC, dI) vwCl [(t0, .inr (2, [.ref qs, .ref ql, .ref a1, .ref a2, .ref a1])), (a1, .inr (0, [.ref qx1, .ref qy1, .int ht1, .int cx1, .int cy1, .int lf1, .long sq1, .int ln1, .int of1, .int sr1, .int fx1, .int fy1])), (qx1, .inl (cA, 401, .inl mx1)), (qy1, .inl (cA, 401, .inl my1))] H := hP
  have hD : va_D A [(t0, .inr (2, [.ref qs, .ref ql, .ref a1, .ref a2, .ref a1])), (a1, .inr (0, [.ref qx1, .ref qy1, .int ht1, .int cx1, .int cy1, .int lf1, .long sq1, .int ln1, .int of1, .int sr1, .int fx1, .int fy1])), (qx1, .inl (cA, 401, .inl mx1)), (qy1, .inl (cA, 401, .inl my1))] := hD
  refine lv_if_eq (tgt := 29) hx hb dX3_tick_11 (by decide) (fun c_11 => ?_) (fun c_11 => ?_)
  · refine lv_iconst (v := 0) hx hb dX3_tick_29 (by decide) ?_
    have hP9 := hP.sub (ws' := [(t0, .inr (2, [.ref qs, .ref ql, .ref a1, .ref a2, .ref a1])), (a1, .inr (0, [.ref qx1, .ref qy1, .int ht1, .int cx1, .int cy1, .int lf1, .long sq1, .int ln1, .int of1, .int sr1, .int fx1, .int fy1])), (qx1, .inl (cA, 401, .inl mx1)), (qy1, .inl (cA, 401, .inl my1))]) [0, 1, 2, 3] rfl
    have hD9 := hD.sub (ws' := [(t0, .inr (2, [.ref qs, .ref ql, .ref a1, .ref a2, .ref a1])), (a1, .inr (0, [.ref qx1, .ref qy1, .int ht1, .int cx1, .int cy1, .int lf1, .long sq1, .int ln1, .int of1, .int sr1, .int fx1, .int fy1])), (qx1, .inl (cA, 401, .inl mx1)), (qy1, .inl (cA, 401, .inl my1))]) [0, 1, 2, 3] (by decide) rfl
    exact W.iret (v := 0) hx hb hr (fun t9 ht9 hW9 => ⟨⟨0, (fx1, fy1), rfl, (by unfold tk_a; rw [if_neg (fun h => hw_1.f c_11 h.1)]), by rw [ht9]; exact hP9, hD9⟩, hS.F ht9⟩) hS.2.2 dX3_tick_30
  · refine lv_iload_n hx hb dX3_tick_14 rfl (lv_at hl 1 rfl) ?_
    refine lv_if_lt (tgt := 29) hx hb dX3_tick_15 (by decide) (fun c_15 => ?_) (fun c_15 => ?_)
    · refine lv_iconst (v := 0) hx hb dX3_tick_29 (by decide) ?_
      have hP9 := hP.sub (ws' := [(t0, .inr (2, [.ref qs, .ref ql, .ref a1, .ref a2, .ref a1])), (a1, .inr (0, [.ref qx1, .ref qy1, .int ht1, .int cx1, .int cy1, .int lf1, .long sq1, .int ln1, .int of1, .int sr1, .int fx1, .int fy1])), (qx1, .inl (cA, 401, .inl mx1)), (qy1, .inl (cA, 401, .inl my1))]) [0, 1, 2, 3] rfl
      have hD9 := hD.sub (ws' := [(t0, .inr (2, [.ref qs, .ref ql, .ref a1, .ref a2, .ref a1])), (a1, .inr (0, [.ref qx1, .ref qy1, .int ht1, .int cx1, .int cy1, .int lf1, .long sq1, .int ln1, .int of1, .int sr1, .int fx1, .int fy1])), (qx1, .inl (cA, 401, .inl mx1)), (qy1, .inl (cA, 401, .inl my1))]) [0, 1, 2, 3] (by decide) rfl
      exact W.iret (v := 0) hx hb hr (fun t9 ht9 hW9 => ⟨⟨0, (fx1, fy1), rfl, (by unfold tk_a; rw [if_neg (fun h => absurd h.2.1 (Int32.not_le.mpr c_15))]), by rw [ht9]; exact hP9, hD9⟩, hS.F ht9⟩) hS.2.2 dX3_tick_30
    · refine lv_iload_n hx hb dX3_tick_18 rfl (lv_at hl 1 rfl) ?_
      refine lv_aload_n hx hb dX3_tick_19 rfl (lv_at hl 0 rfl) ?_
      refine va_get (D := (dC, dI)) (ci := 2) (v := .ref a1) (C := RX3) (T := TX3) (N := 5) hx hb hts hiX3 hown hK hP 0 rfl rfl 4 (by decide) (hts (.fieldLink RX3 30 "TickWalks" "latest" "LTickWalks$Walk;") (List.mem_of_getElem? (l := wsX3_tick) (i := 1) rfl)) (fun _ h9 => h9) rfl dX3_tick_20 ?_
      refine ct_calli (va_runU (As := []) (rest := [.int k]) ⟨hx, hb, hml, hown, hts⟩ (ar_length l dC dI cA cB H.size a1 qx1 qy1 ht1 cx1 cy1 lf1 sq1 ln1 of1 sr1 fx1 fy1 ) (va_cwA 0 hts gX3_tick_X0_length_u66X0 rfl rfl rfl hN.2.2.2.2.2.2.2.2.2.1 (by decide +kernel) ⟨Nat.le_of_ble_eq_true rfl, Nat.le_of_ble_eq_true rfl⟩) ⟨ct_blind, va_recv hK hP (ci := 0) (q0 := 1) rfl rfl, ct_pre hP hD hK hZ hN hS hA [1] rfl (by decide)⟩ rfl rfl hl.1 rfl (lv_room (Nat.le_of_ble_eq_true rfl)) dX3_tick_23 ⟨Nat.le_of_ble_eq_true rfl, Nat.le_of_ble_eq_true rfl⟩) hP hD hS hA [1] [0, 2, 3] rfl (wr := [(t0, .inr (2, [.ref qs, .ref ql, .ref a1, .ref a2, .ref a1])), (qx1, .inl (cA, 401, .inl mx1)), (qy1, .inl (cA, 401, .inl my1))]) rfl (by decide) (by decide) (fun r_2 u9 H locs hw_2 hP hD hS => ?_)
      have hw_2 : r_2 = ln1 := hw_2
      have hP : va_P (dC, dI) vwCl [(t0, .inr (2, [.ref qs, .ref ql, .ref a1, .ref a2, .ref a1])), (qx1, .inl (cA, 401, .inl mx1)), (qy1, .inl (cA, 401, .inl my1)), (a1, .inr (0, [.ref qx1, .ref qy1, .int ht1, .int cx1, .int cy1, .int lf1, .long sq1, .int ln1, .int of1, .int sr1, .int fx1, .int fy1]))] H := hP
      have hD : va_D A [(t0, .inr (2, [.ref qs, .ref ql, .ref a1, .ref a2, .ref a1])), (qx1, .inl (cA, 401, .inl mx1)), (qy1, .inl (cA, 401, .inl my1)), (a1, .inr (0, [.ref qx1, .ref qy1, .int ht1, .int cx1, .int cy1, .int lf1, .long sq1, .int ln1, .int of1, .int sr1, .int fx1, .int fy1]))] := hD
      refine lv_icmp_le (tgt := 31) hx hb dX3_tick_26 (by decide) (fun c_26 => ?_) (fun c_26 => ?_)
      · have hok : (0 ≤ ax ∧ ax < 3) ∧ 0 ≤ k ∧ k ≤ ln1 := ⟨hw_1.t c_11, Int32.not_lt.mp c_15, by rw [← hw_2]; exact c_26⟩
        obtain ⟨j, hj, ek⟩ := nI_of c_15
        have hjN : j ≤ N := by
          have h := hok.2.2
          rw [ek, hN3.1] at h
          exact (nI_leI hj (by omega)).mp h
        refine lv_aload_n hx hb dX3_tick_31 rfl (lv_at hl 0 rfl) ?_
        refine va_get (D := (dC, dI)) (ci := 2) (v := .ref a1) (C := RX3) (T := TX3) (N := 5) hx hb hts hiX3 hown hK hP 0 rfl rfl 4 (by decide) (hts (.fieldLink RX3 30 "TickWalks" "latest" "LTickWalks$Walk;") (List.mem_of_getElem? (l := wsX3_tick) (i := 1) rfl)) (fun _ h9 => h9) rfl dX3_tick_32 ?_
        refine lv_iload_n hx hb dX3_tick_35 rfl (lv_at hl 1 rfl) ?_
        refine lv_iload_n hx hb dX3_tick_36 rfl (lv_at hl 2 rfl) ?_
        refine W.eq (g2 := F0 m 37 ls [.int ax, .int (nI j), .ref a1]) (by rw [ek]) ?_
        refine ct_calli (va_runU (As := [.int (nI j), .int ax]) (rest := []) ⟨hx, hb, hml, hown, hts⟩ (ar_place l dC dI cA cB H.size a1 qx1 qy1 ht1 cx1 cy1 lf1 sq1 ln1 of1 sr1 fx1 fy1 mx1 my1 j ax N x0 y0 (⟨hjN, hN3.2⟩) hM) (va_cwA 2 hts gX3_tick_X0_placeBehind_u69X0 rfl rfl rfl hN.2.2.2.2.2.2.2.2.2.2.1 (by decide +kernel) ⟨Nat.le_of_ble_eq_true rfl, Nat.le_of_ble_eq_true rfl⟩) ⟨ct_blind, va_recv hK hP (ci := 0) (q0 := 3) rfl rfl, ct_pre hP hD hK hZ hN hS hA [3, 1, 2] rfl (by decide)⟩ rfl rfl hl.1 rfl (lv_room (Nat.le_of_ble_eq_true rfl)) dX3_tick_37 ⟨Nat.le_of_ble_eq_true rfl, Nat.le_of_ble_eq_true rfl⟩) hP hD hS hA [3, 1, 2] [0] rfl (wr := [(t0, .inr (2, [.ref qs, .ref ql, .ref a1, .ref a2, .ref a1]))]) rfl (by decide) (by decide) (fun r_3 u9 H locs hw_3 hP hD hS => ?_)
        obtain ⟨gx_3, gy_3⟩ := u9
        have hw_3 : r_3 = (if ax = 2 then ht1 else if ax = 0 then (ob_p lf1 sq1 cx1 cy1 (x0, y0) j).1 else (ob_p lf1 sq1 cx1 cy1 (x0, y0) j).2) := hw_3
        have hP : va_P (dC, dI) vwCl [(t0, .inr (2, [.ref qs, .ref ql, .ref a1, .ref a2, .ref a1])), (a1, .inr (0, [.ref qx1, .ref qy1, .int ht1, .int cx1, .int cy1, .int lf1, .long sq1, .int ln1, .int of1, .int sr1, .int gx_3, .int gy_3])), (qx1, .inl (cA, 401, .inl mx1)), (qy1, .inl (cA, 401, .inl my1))] H := hP
        have hD : va_D A [(t0, .inr (2, [.ref qs, .ref ql, .ref a1, .ref a2, .ref a1])), (a1, .inr (0, [.ref qx1, .ref qy1, .int ht1, .int cx1, .int cy1, .int lf1, .long sq1, .int ln1, .int of1, .int sr1, .int gx_3, .int gy_3])), (qx1, .inl (cA, 401, .inl mx1)), (qy1, .inl (cA, 401, .inl my1))] := hD
        have hP9 := hP.sub (ws' := [(t0, .inr (2, [.ref qs, .ref ql, .ref a1, .ref a2, .ref a1])), (a1, .inr (0, [.ref qx1, .ref qy1, .int ht1, .int cx1, .int cy1, .int lf1, .long sq1, .int ln1, .int of1, .int sr1, .int gx_3, .int gy_3])), (qx1, .inl (cA, 401, .inl mx1)), (qy1, .inl (cA, 401, .inl my1))]) [0, 1, 2, 3] rfl
        have hD9 := hD.sub (ws' := [(t0, .inr (2, [.ref qs, .ref ql, .ref a1, .ref a2, .ref a1])), (a1, .inr (0, [.ref qx1, .ref qy1, .int ht1, .int cx1, .int cy1, .int lf1, .long sq1, .int ln1, .int of1, .int sr1, .int gx_3, .int gy_3])), (qx1, .inl (cA, 401, .inl mx1)), (qy1, .inl (cA, 401, .inl my1))]) [0, 1, 2, 3] (by decide) rfl
        exact W.iret (v := r_3) hx hb hr (fun t9 ht9 hW9 => ⟨⟨r_3, (gx_3, gy_3), rfl, (by unfold tk_a; rw [if_pos hok, ek, nI_clamp hj]; exact hw_3), by rw [ht9]; exact hP9, hD9⟩, hS.F ht9⟩) hS.2.2 dX3_tick_40
      · refine lv_iconst (v := 0) hx hb dX3_tick_29 (by decide) ?_
        have hP9 := hP.sub (ws' := [(t0, .inr (2, [.ref qs, .ref ql, .ref a1, .ref a2, .ref a1])), (a1, .inr (0, [.ref qx1, .ref qy1, .int ht1, .int cx1, .int cy1, .int lf1, .long sq1, .int ln1, .int of1, .int sr1, .int fx1, .int fy1])), (qx1, .inl (cA, 401, .inl mx1)), (qy1, .inl (cA, 401, .inl my1))]) [0, 3, 1, 2] rfl
        have hD9 := hD.sub (ws' := [(t0, .inr (2, [.ref qs, .ref ql, .ref a1, .ref a2, .ref a1])), (a1, .inr (0, [.ref qx1, .ref qy1, .int ht1, .int cx1, .int cy1, .int lf1, .long sq1, .int ln1, .int of1, .int sr1, .int fx1, .int fy1])), (qx1, .inl (cA, 401, .inl mx1)), (qy1, .inl (cA, 401, .inl my1))]) [0, 3, 1, 2] (by decide) rfl
        exact W.iret (v := 0) hx hb hr (fun t9 ht9 hW9 => ⟨⟨0, (fx1, fy1), rfl, (by unfold tk_a; rw [if_neg (fun h => c_26 (by rw [hw_2]; exact h.2.2))]), by rw [ht9]; exact hP9, hD9⟩, hS.F ht9⟩) hS.2.2 dX3_tick_30
