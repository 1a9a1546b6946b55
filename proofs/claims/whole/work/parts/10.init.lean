set_option maxHeartbeats 4000000 in
set_option maxRecDepth 100000 in
/-- Walk.<init> -/
theorem wa_init (l : Launch) (dC : Nat → ClassId) (dI : Nat → Nat → Nat) (cA cB : ClassId) (sz : Nat) (h0 : Nat) : Met l yX2_init wsX2_init ({ frames := 1, cells := 0, slots := 0, locals := 12 }) (va_Pc [.ref h0] (ct_P dC dI cA cB sz [])) (va_Qv (fun (u : Unit) => True) (fun (u : Unit) => ct_B dC dI (va_A [] sz) []) (va_A [] sz)) 0 0 (va_A [] sz) := by
  refine Met.ofW (cc := cX2_init) (maxL := 1) (ret := none) (by decide +kernel) rfl ?_
  intro p e s m args below meth c s₁ B hml hv
  obtain ⟨rfl, hsz, hP, hK, hD0, hZ, hN⟩ := hv
  have hx := B.exec
  have hb := B.bytes
  have hr := B.returns
  have hts := atoms_spec (ws := wsX2_init) B.pre
  have hown : s.vm.findClass RX2 = some m.cls := findClass_of_methodNamed B.named
  have hlocks := B.notSynchronized
  have hin : meth.name = "<init>" := (name_of_methodNamed B.named B.method).1
  subst hsz
  have hD := hD0.self (sz := s.heap.size)
  generalize hAe : va_A [] s.heap.size = A at hD hZ ⊢
  have hA : ∀ q : Nat, s.heap.size ≤ q → A q := fun q h => by rw [← hAe]; exact Or.inr h
  have hl := lv_entry ([.ref h0]) (n := 1) (Nat.le_of_ble_eq_true rfl)
  rw [lg_entry_eq]
  generalize (lg_sl ([.ref h0]) ++ List.replicate (1 - (lg_sl ([.ref h0])).length) Slot.unset).toArray = ls at hl ⊢
  have hl : lv_has ls 1 [(0, .ref h0)] := hl
  generalize hHe : s.heap = H at hP ⊢
  have hS : va_S A s.heap H [] := by rw [hHe]; exact va_S.rf
  generalize ([] : List Loc) = locs at hS ⊢
  refine lv_aload_n hx hb dX2_init_0 rfl (lv_at hl 0 rfl) ?_
  refine W.objInit hx hb hown (hts (.methodLink RX2 1 objectInit) (List.mem_of_getElem? (l := wsX2_init) (i := 1) rfl)) (hts (.instanceMethod objectInit) (List.mem_of_getElem? (l := wsX2_init) (i := 2) rfl)) (hts (.code objectInit ⟨#[0xb1]⟩ 1 none) (List.mem_of_getElem? (l := wsX2_init) (i := 3) rfl)) rfl (by rw [hml]; exact hl.1) rfl dX2_init_1 (Nat.le_of_ble_eq_true rfl) (Nat.le_of_ble_eq_true rfl) ?_
  refine W.eq (g2 := F0 m 4 ls []) rfl ?_
  have hP9 := hP.sub (ws' := []) [] rfl
  have hD9 := hD.sub (ws' := []) [] (by decide) rfl
  exact W.vret hx hb hr (fun t9 ht9 hW9 => ⟨⟨(), rfl, trivial, by rw [ht9]; exact hP9, hD9⟩, hS.F ht9⟩) hS.2.2 dX2_init_4
set_option maxHeartbeats 4000000 in
set_option maxRecDepth 100000 in
/-- Line.<init> -/
theorem li_init (l : Launch) (dC : Nat → ClassId) (dI : Nat → Nat → Nat) (cA cB : ClassId) (sz : Nat) (h0 : Nat) : Met l yX1_init wsX1_init ({ frames := 2, cells := 2, slots := 6, locals := 32 }) (va_Pc [.ref h0] (ct_P dC dI cA cB sz [(h0, .inr (1, [.null, .null, .int 0, .int 0]))])) (va_Qv (fun (u : Nat × Nat) => True) (fun (u : Nat × Nat) => ct_B dC dI (va_A [(h0, .inr (1, [.null, .null, .int 0, .int 0]))] sz) [(h0, .inr (1, [.ref u.1, .ref u.2, .int 0, .int (-1)])), (u.1, .inl (cA, 3, .inl (fun _ => 0))), (u.2, .inl (cA, 3, .inl (fun _ => 0)))]) (va_A [(h0, .inr (1, [.null, .null, .int 0, .int 0]))] sz)) 2 6 (va_A [(h0, .inr (1, [.null, .null, .int 0, .int 0]))] sz) := by
  refine Met.ofW (cc := cX1_init) (maxL := 1) (ret := none) (by decide +kernel) rfl ?_
  intro p e s m args below meth c s₁ B hml hv
  obtain ⟨rfl, hsz, hP, hK, hD0, hZ, hN⟩ := hv
  have hx := B.exec
  have hb := B.bytes
  have hr := B.returns
  have hts := atoms_spec (ws := wsX1_init) B.pre
  have hown : s.vm.findClass RX1 = some m.cls := findClass_of_methodNamed B.named
  have hlocks := B.notSynchronized
  have hin : meth.name = "<init>" := (name_of_methodNamed B.named B.method).1
  have hiX1 : ∀ w ∈ u_ws RX1 TX1 4, w ∈ wsX1_init := by decide +kernel
  subst hsz
  have hD := hD0.self (sz := s.heap.size)
  generalize hAe : va_A [(h0, .inr (1, [.null, .null, .int 0, .int 0]))] s.heap.size = A at hD hZ ⊢
  have hA : ∀ q : Nat, s.heap.size ≤ q → A q := fun q h => by rw [← hAe]; exact Or.inr h
  have hl := lv_entry ([.ref h0]) (n := 1) (Nat.le_of_ble_eq_true rfl)
  rw [lg_entry_eq]
  generalize (lg_sl ([.ref h0]) ++ List.replicate (1 - (lg_sl ([.ref h0])).length) Slot.unset).toArray = ls at hl ⊢
  have hl : lv_has ls 1 [(0, .ref h0)] := hl
  generalize hHe : s.heap = H at hP ⊢
  have hS : va_S A s.heap H [] := by rw [hHe]; exact va_S.rf
  generalize ([] : List Loc) = locs at hS ⊢
  refine lv_aload_n hx hb dX1_init_0 rfl (lv_at hl 0 rfl) ?_
  refine ct_callv (va_runIN (As := []) (rest := []) ⟨hx, hb, hml, hown, hts⟩ (wa_init l dC dI cA cB H.size h0 ) ⟨va_cnB (host := "TickWalks") 0 hts gX1_init_X2_init_n3 rfl rfl rfl hN.2.1 (hts (.initialized RX2) (List.mem_of_getElem? (l := wsX1_init) (i := 7) rfl)) (by decide +kernel) ⟨Nat.le_of_ble_eq_true rfl, Nat.le_of_ble_eq_true rfl⟩, rfl, (hts (.instanceMethod yX2_init) (List.mem_of_getElem? (l := wsX1_init) (i := 6) rfl))⟩ ⟨ct_blind, ct_pre hP hD hK hZ hN hS hA [] rfl (by decide)⟩ rfl rfl hl.1 rfl (lv_room (Nat.le_of_ble_eq_true rfl)) dX1_init_1 ⟨Nat.le_of_ble_eq_true rfl, Nat.le_of_ble_eq_true rfl⟩) hP hD hS hA [] [0] rfl (wr := [(h0, .inr (1, [.null, .null, .int 0, .int 0]))]) rfl (by decide) (by decide) (fun u9 H locs hw_1 hP hD hS => ?_)
  have hw_1 : True := hw_1
  have hP : va_P (dC, dI) vwCl [(h0, .inr (1, [.null, .null, .int 0, .int 0]))] H := hP
  have hD : va_D A [(h0, .inr (1, [.null, .null, .int 0, .int 0]))] := hD
  refine lv_aload_n hx hb dX1_init_4 rfl (lv_at hl 0 rfl) ?_
  refine lv_iconst (v := 3) hx hb dX1_init_5 (by decide) ?_
  refine va_newa (atype := .int) (ty := .int) (n := 3) (N' := 3) (a0 := (3, .inl (fun _ => 0))) hx hb (hts (.arrayClass .int) (List.mem_of_getElem? (l := wsX1_init) (i := 1) rfl)) rfl hK hP hD hS hA (fun _ => rfl) (by decide) (by decide) (by decide) (Nat.le_of_ble_eq_true rfl) (Nat.le_of_ble_eq_true rfl) dX1_init_6 (fun qa_2 cA9 H hK9 hP hD hS => ?_)
  obtain rfl : cA = cA9 := ct_cA hK9 0 2 rfl rfl
  have hP : va_P (dC, dI) vwCl [(h0, .inr (1, [.null, .null, .int 0, .int 0])), (qa_2, .inl (cA, 3, .inl (fun _ => 0)))] H := hP
  have hD : va_D A [(h0, .inr (1, [.null, .null, .int 0, .int 0])), (qa_2, .inl (cA, 3, .inl (fun _ => 0)))] := hD
  refine va_putF (D := (dC, dI)) (ci := 1) (v := .ref qa_2) (ty := (.array .int)) (C := RX1) (T := TX1) (N := 4) hx hb hts hiX1 tyX1 tyX1_ok nmX1 hown hK hP hD hS 0 rfl rfl 0 (by decide) (hts (.fieldLink RX1 9 "TickWalks$Line" "from" "[I") (List.mem_of_getElem? (l := wsX1_init) (i := 2) rfl)) (fun _ h9 => h9) rfl hin rfl (by decide +kernel) rfl rfl (Nat.le_of_ble_eq_true rfl) dX1_init_8 (fun H locs hP hD hS => ?_)
  have hP : va_P (dC, dI) vwCl [(h0, .inr (1, [.ref qa_2, .null, .int 0, .int 0])), (qa_2, .inl (cA, 3, .inl (fun _ => 0)))] H := hP
  have hD : va_D A [(h0, .inr (1, [.ref qa_2, .null, .int 0, .int 0])), (qa_2, .inl (cA, 3, .inl (fun _ => 0)))] := hD
  refine lv_aload_n hx hb dX1_init_11 rfl (lv_at hl 0 rfl) ?_
  refine lv_iconst (v := 3) hx hb dX1_init_12 (by decide) ?_
  refine va_newa (atype := .int) (ty := .int) (n := 3) (N' := 3) (a0 := (3, .inl (fun _ => 0))) hx hb (hts (.arrayClass .int) (List.mem_of_getElem? (l := wsX1_init) (i := 1) rfl)) rfl hK hP hD hS hA (fun _ => rfl) (by decide) (by decide) (by decide) (Nat.le_of_ble_eq_true rfl) (Nat.le_of_ble_eq_true rfl) dX1_init_13 (fun qa_3 cA9 H hK9 hP hD hS => ?_)
  obtain rfl : cA = cA9 := ct_cA hK9 0 2 rfl rfl
  have hP : va_P (dC, dI) vwCl [(h0, .inr (1, [.ref qa_2, .null, .int 0, .int 0])), (qa_2, .inl (cA, 3, .inl (fun _ => 0))), (qa_3, .inl (cA, 3, .inl (fun _ => 0)))] H := hP
  have hD : va_D A [(h0, .inr (1, [.ref qa_2, .null, .int 0, .int 0])), (qa_2, .inl (cA, 3, .inl (fun _ => 0))), (qa_3, .inl (cA, 3, .inl (fun _ => 0)))] := hD
  refine va_putF (D := (dC, dI)) (ci := 1) (v := .ref qa_3) (ty := (.array .int)) (C := RX1) (T := TX1) (N := 4) hx hb hts hiX1 tyX1 tyX1_ok nmX1 hown hK hP hD hS 0 rfl rfl 1 (by decide) (hts (.fieldLink RX1 15 "TickWalks$Line" "by" "[I") (List.mem_of_getElem? (l := wsX1_init) (i := 3) rfl)) (fun _ h9 => h9) rfl hin rfl (by decide +kernel) rfl rfl (Nat.le_of_ble_eq_true rfl) dX1_init_15 (fun H locs hP hD hS => ?_)
  have hP : va_P (dC, dI) vwCl [(h0, .inr (1, [.ref qa_2, .ref qa_3, .int 0, .int 0])), (qa_2, .inl (cA, 3, .inl (fun _ => 0))), (qa_3, .inl (cA, 3, .inl (fun _ => 0)))] H := hP
  have hD : va_D A [(h0, .inr (1, [.ref qa_2, .ref qa_3, .int 0, .int 0])), (qa_2, .inl (cA, 3, .inl (fun _ => 0))), (qa_3, .inl (cA, 3, .inl (fun _ => 0)))] := hD
  refine lv_aload_n hx hb dX1_init_18 rfl (lv_at hl 0 rfl) ?_
  refine lv_iconst (v := 0) hx hb dX1_init_19 (by decide) ?_
  refine va_put (D := (dC, dI)) (ci := 1) (v := .int 0) (ty := .int) (C := RX1) (T := TX1) (N := 4) hx hb hts hiX1 tyX1 tyX1_ok nmX1 hown hK hP hD hS 0 rfl rfl 2 (by decide) (hts (.fieldLink RX1 18 "TickWalks$Line" "length" "I") (List.mem_of_getElem? (l := wsX1_init) (i := 4) rfl)) (fun _ h9 => h9) rfl (by decide +kernel) rfl rfl (Nat.le_of_ble_eq_true rfl) dX1_init_20 (fun H locs hP hD hS => ?_)
  have hP : va_P (dC, dI) vwCl [(h0, .inr (1, [.ref qa_2, .ref qa_3, .int 0, .int 0])), (qa_2, .inl (cA, 3, .inl (fun _ => 0))), (qa_3, .inl (cA, 3, .inl (fun _ => 0)))] H := hP
  have hD : va_D A [(h0, .inr (1, [.ref qa_2, .ref qa_3, .int 0, .int 0])), (qa_2, .inl (cA, 3, .inl (fun _ => 0))), (qa_3, .inl (cA, 3, .inl (fun _ => 0)))] := hD
  refine lv_aload_n hx hb dX1_init_23 rfl (lv_at hl 0 rfl) ?_
  refine lv_iconst (v := -1) hx hb dX1_init_24 (by decide) ?_
  refine va_put (D := (dC, dI)) (ci := 1) (v := .int (-1)) (ty := .int) (C := RX1) (T := TX1) (N := 4) hx hb hts hiX1 tyX1 tyX1_ok nmX1 hown hK hP hD hS 0 rfl rfl 3 (by decide) (hts (.fieldLink RX1 22 "TickWalks$Line" "strays" "I") (List.mem_of_getElem? (l := wsX1_init) (i := 5) rfl)) (fun _ h9 => h9) rfl (by decide +kernel) rfl rfl (Nat.le_of_ble_eq_true rfl) dX1_init_25 (fun H locs hP hD hS => ?_)
  have hP : va_P (dC, dI) vwCl [(h0, .inr (1, [.ref qa_2, .ref qa_3, .int 0, .int (-1)])), (qa_2, .inl (cA, 3, .inl (fun _ => 0))), (qa_3, .inl (cA, 3, .inl (fun _ => 0)))] H := hP
  have hD : va_D A [(h0, .inr (1, [.ref qa_2, .ref qa_3, .int 0, .int (-1)])), (qa_2, .inl (cA, 3, .inl (fun _ => 0))), (qa_3, .inl (cA, 3, .inl (fun _ => 0)))] := hD
  have hP9 := hP.sub (ws' := [(h0, .inr (1, [.ref qa_2, .ref qa_3, .int 0, .int (-1)])), (qa_2, .inl (cA, 3, .inl (fun _ => 0))), (qa_3, .inl (cA, 3, .inl (fun _ => 0)))]) [0, 1, 2] rfl
  have hD9 := hD.sub (ws' := [(h0, .inr (1, [.ref qa_2, .ref qa_3, .int 0, .int (-1)])), (qa_2, .inl (cA, 3, .inl (fun _ => 0))), (qa_3, .inl (cA, 3, .inl (fun _ => 0)))]) [0, 1, 2] (by decide) rfl
  refine W.widen (k := 2) (n := 6) (by omega) (by omega) ?_
  exact W.vret hx hb hr (fun t9 ht9 hW9 => ⟨⟨(qa_2, qa_3), rfl, trivial, by rw [ht9]; exact hP9, hD9⟩, hS.F ht9⟩) hS.2.2 dX1_init_28
set_option maxHeartbeats 4000000 in
set_option maxRecDepth 100000 in
/-- Arc.<init> -/
theorem ar_init (l : Launch) (dC : Nat → ClassId) (dI : Nat → Nat → Nat) (cA cB : ClassId) (sz : Nat) (h0 : Nat) : Met l yX0_init wsX0_init ({ frames := 2, cells := 2, slots := 802, locals := 32 }) (va_Pc [.ref h0] (ct_P dC dI cA cB sz [(h0, .inr (0, [.null, .null, .int 0, .int 0, .int 0, .int 0, .long 0, .int 0, .int 0, .int 0, .int 0, .int 0]))])) (va_Qv (fun (u : Nat × Nat) => True) (fun (u : Nat × Nat) => ct_B dC dI (va_A [(h0, .inr (0, [.null, .null, .int 0, .int 0, .int 0, .int 0, .long 0, .int 0, .int 0, .int 0, .int 0, .int 0]))] sz) [(h0, .inr (0, [.ref u.1, .ref u.2, .int 0, .int 0, .int 0, .int 0, .long 0, .int 0, .int 0, .int 0, .int 0, .int 0])), (u.1, .inl (cA, 401, .inl (fun _ => 0))), (u.2, .inl (cA, 401, .inl (fun _ => 0)))]) (va_A [(h0, .inr (0, [.null, .null, .int 0, .int 0, .int 0, .int 0, .long 0, .int 0, .int 0, .int 0, .int 0, .int 0]))] sz)) 2 802 (va_A [(h0, .inr (0, [.null, .null, .int 0, .int 0, .int 0, .int 0, .long 0, .int 0, .int 0, .int 0, .int 0, .int 0]))] sz) := by
  refine Met.ofW (cc := cX0_init) (maxL := 1) (ret := none) (by decide +kernel) rfl ?_
  intro p e s m args below meth c s₁ B hml hv
  obtain ⟨rfl, hsz, hP, hK, hD0, hZ, hN⟩ := hv
  have hx := B.exec
  have hb := B.bytes
  have hr := B.returns
  have hts := atoms_spec (ws := wsX0_init) B.pre
  have hown : s.vm.findClass RX0 = some m.cls := findClass_of_methodNamed B.named
  have hlocks := B.notSynchronized
  have hin : meth.name = "<init>" := (name_of_methodNamed B.named B.method).1
  have hiX0 : ∀ w ∈ u_ws RX0 TX0 12, w ∈ wsX0_init := by decide +kernel
  subst hsz
  have hD := hD0.self (sz := s.heap.size)
  generalize hAe : va_A [(h0, .inr (0, [.null, .null, .int 0, .int 0, .int 0, .int 0, .long 0, .int 0, .int 0, .int 0, .int 0, .int 0]))] s.heap.size = A at hD hZ ⊢
  have hA : ∀ q : Nat, s.heap.size ≤ q → A q := fun q h => by rw [← hAe]; exact Or.inr h
  have hl := lv_entry ([.ref h0]) (n := 1) (Nat.le_of_ble_eq_true rfl)
  rw [lg_entry_eq]
  generalize (lg_sl ([.ref h0]) ++ List.replicate (1 - (lg_sl ([.ref h0])).length) Slot.unset).toArray = ls at hl ⊢
  have hl : lv_has ls 1 [(0, .ref h0)] := hl
  generalize hHe : s.heap = H at hP ⊢
  have hS : va_S A s.heap H [] := by rw [hHe]; exact va_S.rf
  generalize ([] : List Loc) = locs at hS ⊢
  refine lv_aload_n hx hb dX0_init_0 rfl (lv_at hl 0 rfl) ?_
  refine ct_callv (va_runIN (As := []) (rest := []) ⟨hx, hb, hml, hown, hts⟩ (wa_init l dC dI cA cB H.size h0 ) ⟨va_cnB (host := "TickWalks") 0 hts gX0_init_X2_init_n3 rfl rfl rfl hN.2.2.2.1 (hts (.initialized RX2) (List.mem_of_getElem? (l := wsX0_init) (i := 15) rfl)) (by decide +kernel) ⟨Nat.le_of_ble_eq_true rfl, Nat.le_of_ble_eq_true rfl⟩, rfl, (hts (.instanceMethod yX2_init) (List.mem_of_getElem? (l := wsX0_init) (i := 14) rfl))⟩ ⟨ct_blind, ct_pre hP hD hK hZ hN hS hA [] rfl (by decide)⟩ rfl rfl hl.1 rfl (lv_room (Nat.le_of_ble_eq_true rfl)) dX0_init_1 ⟨Nat.le_of_ble_eq_true rfl, Nat.le_of_ble_eq_true rfl⟩) hP hD hS hA [] [0] rfl (wr := [(h0, .inr (0, [.null, .null, .int 0, .int 0, .int 0, .int 0, .long 0, .int 0, .int 0, .int 0, .int 0, .int 0]))]) rfl (by decide) (by decide) (fun u9 H locs hw_1 hP hD hS => ?_)
  have hw_1 : True := hw_1
  have hP : va_P (dC, dI) vwCl [(h0, .inr (0, [.null, .null, .int 0, .int 0, .int 0, .int 0, .long 0, .int 0, .int 0, .int 0, .int 0, .int 0]))] H := hP
  have hD : va_D A [(h0, .inr (0, [.null, .null, .int 0, .int 0, .int 0, .int 0, .long 0, .int 0, .int 0, .int 0, .int 0, .int 0]))] := hD
  refine lv_aload_n hx hb dX0_init_4 rfl (lv_at hl 0 rfl) ?_
  refine lv_sipush (v := 401) hx hb dX0_init_5 (by decide) ?_
  refine va_newa (atype := .int) (ty := .int) (n := 401) (N' := 401) (a0 := (401, .inl (fun _ => 0))) hx hb (hts (.arrayClass .int) (List.mem_of_getElem? (l := wsX0_init) (i := 1) rfl)) rfl hK hP hD hS hA (fun _ => rfl) (by decide) (by decide) (by decide) (Nat.le_of_ble_eq_true rfl) (Nat.le_of_ble_eq_true rfl) dX0_init_8 (fun qa_2 cA9 H hK9 hP hD hS => ?_)
  obtain rfl : cA = cA9 := ct_cA hK9 0 2 rfl rfl
  have hP : va_P (dC, dI) vwCl [(h0, .inr (0, [.null, .null, .int 0, .int 0, .int 0, .int 0, .long 0, .int 0, .int 0, .int 0, .int 0, .int 0])), (qa_2, .inl (cA, 401, .inl (fun _ => 0)))] H := hP
  have hD : va_D A [(h0, .inr (0, [.null, .null, .int 0, .int 0, .int 0, .int 0, .long 0, .int 0, .int 0, .int 0, .int 0, .int 0])), (qa_2, .inl (cA, 401, .inl (fun _ => 0)))] := hD
  refine va_putF (D := (dC, dI)) (ci := 0) (v := .ref qa_2) (ty := (.array .int)) (C := RX0) (T := TX0) (N := 12) hx hb hts hiX0 tyX0 tyX0_ok nmX0 hown hK hP hD hS 0 rfl rfl 0 (by decide) (hts (.fieldLink RX0 9 "TickWalks$Arc" "markX" "[I") (List.mem_of_getElem? (l := wsX0_init) (i := 2) rfl)) (fun _ h9 => h9) rfl hin rfl (by decide +kernel) rfl rfl (Nat.le_of_ble_eq_true rfl) dX0_init_10 (fun H locs hP hD hS => ?_)
  have hP : va_P (dC, dI) vwCl [(h0, .inr (0, [.ref qa_2, .null, .int 0, .int 0, .int 0, .int 0, .long 0, .int 0, .int 0, .int 0, .int 0, .int 0])), (qa_2, .inl (cA, 401, .inl (fun _ => 0)))] H := hP
  have hD : va_D A [(h0, .inr (0, [.ref qa_2, .null, .int 0, .int 0, .int 0, .int 0, .long 0, .int 0, .int 0, .int 0, .int 0, .int 0])), (qa_2, .inl (cA, 401, .inl (fun _ => 0)))] := hD
  refine lv_aload_n hx hb dX0_init_13 rfl (lv_at hl 0 rfl) ?_
  refine lv_sipush (v := 401) hx hb dX0_init_14 (by decide) ?_
  refine va_newa (atype := .int) (ty := .int) (n := 401) (N' := 401) (a0 := (401, .inl (fun _ => 0))) hx hb (hts (.arrayClass .int) (List.mem_of_getElem? (l := wsX0_init) (i := 1) rfl)) rfl hK hP hD hS hA (fun _ => rfl) (by decide) (by decide) (by decide) (Nat.le_of_ble_eq_true rfl) (Nat.le_of_ble_eq_true rfl) dX0_init_17 (fun qa_3 cA9 H hK9 hP hD hS => ?_)
  obtain rfl : cA = cA9 := ct_cA hK9 0 2 rfl rfl
  have hP : va_P (dC, dI) vwCl [(h0, .inr (0, [.ref qa_2, .null, .int 0, .int 0, .int 0, .int 0, .long 0, .int 0, .int 0, .int 0, .int 0, .int 0])), (qa_2, .inl (cA, 401, .inl (fun _ => 0))), (qa_3, .inl (cA, 401, .inl (fun _ => 0)))] H := hP
  have hD : va_D A [(h0, .inr (0, [.ref qa_2, .null, .int 0, .int 0, .int 0, .int 0, .long 0, .int 0, .int 0, .int 0, .int 0, .int 0])), (qa_2, .inl (cA, 401, .inl (fun _ => 0))), (qa_3, .inl (cA, 401, .inl (fun _ => 0)))] := hD
  refine va_putF (D := (dC, dI)) (ci := 0) (v := .ref qa_3) (ty := (.array .int)) (C := RX0) (T := TX0) (N := 12) hx hb hts hiX0 tyX0 tyX0_ok nmX0 hown hK hP hD hS 0 rfl rfl 1 (by decide) (hts (.fieldLink RX0 15 "TickWalks$Arc" "markY" "[I") (List.mem_of_getElem? (l := wsX0_init) (i := 3) rfl)) (fun _ h9 => h9) rfl hin rfl (by decide +kernel) rfl rfl (Nat.le_of_ble_eq_true rfl) dX0_init_19 (fun H locs hP hD hS => ?_)
  have hP : va_P (dC, dI) vwCl [(h0, .inr (0, [.ref qa_2, .ref qa_3, .int 0, .int 0, .int 0, .int 0, .long 0, .int 0, .int 0, .int 0, .int 0, .int 0])), (qa_2, .inl (cA, 401, .inl (fun _ => 0))), (qa_3, .inl (cA, 401, .inl (fun _ => 0)))] H := hP
  have hD : va_D A [(h0, .inr (0, [.ref qa_2, .ref qa_3, .int 0, .int 0, .int 0, .int 0, .long 0, .int 0, .int 0, .int 0, .int 0, .int 0])), (qa_2, .inl (cA, 401, .inl (fun _ => 0))), (qa_3, .inl (cA, 401, .inl (fun _ => 0)))] := hD
  refine lv_aload_n hx hb dX0_init_22 rfl (lv_at hl 0 rfl) ?_
  refine lv_iconst (v := 0) hx hb dX0_init_23 (by decide) ?_
  refine va_put (D := (dC, dI)) (ci := 0) (v := .int 0) (ty := .int) (C := RX0) (T := TX0) (N := 12) hx hb hts hiX0 tyX0 tyX0_ok nmX0 hown hK hP hD hS 0 rfl rfl 2 (by decide) (hts (.fieldLink RX0 18 "TickWalks$Arc" "height" "I") (List.mem_of_getElem? (l := wsX0_init) (i := 4) rfl)) (fun _ h9 => h9) rfl (by decide +kernel) rfl rfl (Nat.le_of_ble_eq_true rfl) dX0_init_24 (fun H locs hP hD hS => ?_)
  have hP : va_P (dC, dI) vwCl [(h0, .inr (0, [.ref qa_2, .ref qa_3, .int 0, .int 0, .int 0, .int 0, .long 0, .int 0, .int 0, .int 0, .int 0, .int 0])), (qa_2, .inl (cA, 401, .inl (fun _ => 0))), (qa_3, .inl (cA, 401, .inl (fun _ => 0)))] H := hP
  have hD : va_D A [(h0, .inr (0, [.ref qa_2, .ref qa_3, .int 0, .int 0, .int 0, .int 0, .long 0, .int 0, .int 0, .int 0, .int 0, .int 0])), (qa_2, .inl (cA, 401, .inl (fun _ => 0))), (qa_3, .inl (cA, 401, .inl (fun _ => 0)))] := hD
  refine lv_aload_n hx hb dX0_init_27 rfl (lv_at hl 0 rfl) ?_
  refine lv_iconst (v := 0) hx hb dX0_init_28 (by decide) ?_
  refine va_put (D := (dC, dI)) (ci := 0) (v := .int 0) (ty := .int) (C := RX0) (T := TX0) (N := 12) hx hb hts hiX0 tyX0 tyX0_ok nmX0 hown hK hP hD hS 0 rfl rfl 3 (by decide) (hts (.fieldLink RX0 22 "TickWalks$Arc" "centreX" "I") (List.mem_of_getElem? (l := wsX0_init) (i := 5) rfl)) (fun _ h9 => h9) rfl (by decide +kernel) rfl rfl (Nat.le_of_ble_eq_true rfl) dX0_init_29 (fun H locs hP hD hS => ?_)
  have hP : va_P (dC, dI) vwCl [(h0, .inr (0, [.ref qa_2, .ref qa_3, .int 0, .int 0, .int 0, .int 0, .long 0, .int 0, .int 0, .int 0, .int 0, .int 0])), (qa_2, .inl (cA, 401, .inl (fun _ => 0))), (qa_3, .inl (cA, 401, .inl (fun _ => 0)))] H := hP
  have hD : va_D A [(h0, .inr (0, [.ref qa_2, .ref qa_3, .int 0, .int 0, .int 0, .int 0, .long 0, .int 0, .int 0, .int 0, .int 0, .int 0])), (qa_2, .inl (cA, 401, .inl (fun _ => 0))), (qa_3, .inl (cA, 401, .inl (fun _ => 0)))] := hD
  refine lv_aload_n hx hb dX0_init_32 rfl (lv_at hl 0 rfl) ?_
  refine lv_iconst (v := 0) hx hb dX0_init_33 (by decide) ?_
  refine va_put (D := (dC, dI)) (ci := 0) (v := .int 0) (ty := .int) (C := RX0) (T := TX0) (N := 12) hx hb hts hiX0 tyX0 tyX0_ok nmX0 hown hK hP hD hS 0 rfl rfl 4 (by decide) (hts (.fieldLink RX0 25 "TickWalks$Arc" "centreY" "I") (List.mem_of_getElem? (l := wsX0_init) (i := 6) rfl)) (fun _ h9 => h9) rfl (by decide +kernel) rfl rfl (Nat.le_of_ble_eq_true rfl) dX0_init_34 (fun H locs hP hD hS => ?_)
  have hP : va_P (dC, dI) vwCl [(h0, .inr (0, [.ref qa_2, .ref qa_3, .int 0, .int 0, .int 0, .int 0, .long 0, .int 0, .int 0, .int 0, .int 0, .int 0])), (qa_2, .inl (cA, 401, .inl (fun _ => 0))), (qa_3, .inl (cA, 401, .inl (fun _ => 0)))] H := hP
  have hD : va_D A [(h0, .inr (0, [.ref qa_2, .ref qa_3, .int 0, .int 0, .int 0, .int 0, .long 0, .int 0, .int 0, .int 0, .int 0, .int 0])), (qa_2, .inl (cA, 401, .inl (fun _ => 0))), (qa_3, .inl (cA, 401, .inl (fun _ => 0)))] := hD
  refine lv_aload_n hx hb dX0_init_37 rfl (lv_at hl 0 rfl) ?_
  refine lv_iconst (v := 0) hx hb dX0_init_38 (by decide) ?_
  refine va_put (D := (dC, dI)) (ci := 0) (v := .int 0) (ty := .boolean) (C := RX0) (T := TX0) (N := 12) hx hb hts hiX0 tyX0 tyX0_ok nmX0 hown hK hP hD hS 0 rfl rfl 5 (by decide) (hts (.fieldLink RX0 28 "TickWalks$Arc" "left" "Z") (List.mem_of_getElem? (l := wsX0_init) (i := 7) rfl)) (fun _ h9 => h9) rfl (by decide +kernel) rfl rfl (Nat.le_of_ble_eq_true rfl) dX0_init_39 (fun H locs hP hD hS => ?_)
  have hP : va_P (dC, dI) vwCl [(h0, .inr (0, [.ref qa_2, .ref qa_3, .int 0, .int 0, .int 0, .int 0, .long 0, .int 0, .int 0, .int 0, .int 0, .int 0])), (qa_2, .inl (cA, 401, .inl (fun _ => 0))), (qa_3, .inl (cA, 401, .inl (fun _ => 0)))] H := hP
  have hD : va_D A [(h0, .inr (0, [.ref qa_2, .ref qa_3, .int 0, .int 0, .int 0, .int 0, .long 0, .int 0, .int 0, .int 0, .int 0, .int 0])), (qa_2, .inl (cA, 401, .inl (fun _ => 0))), (qa_3, .inl (cA, 401, .inl (fun _ => 0)))] := hD
  refine lv_aload_n hx hb dX0_init_42 rfl (lv_at hl 0 rfl) ?_
  refine lv_lconst (v := 0) hx hb dX0_init_43 (by decide) ?_
  refine va_put (D := (dC, dI)) (ci := 0) (v := .long 0) (ty := .long) (C := RX0) (T := TX0) (N := 12) hx hb hts hiX0 tyX0 tyX0_ok nmX0 hown hK hP hD hS 0 rfl rfl 6 (by decide) (hts (.fieldLink RX0 32 "TickWalks$Arc" "square" "J") (List.mem_of_getElem? (l := wsX0_init) (i := 8) rfl)) (fun _ h9 => h9) rfl (by decide +kernel) rfl rfl (Nat.le_of_ble_eq_true rfl) dX0_init_44 (fun H locs hP hD hS => ?_)
  have hP : va_P (dC, dI) vwCl [(h0, .inr (0, [.ref qa_2, .ref qa_3, .int 0, .int 0, .int 0, .int 0, .long 0, .int 0, .int 0, .int 0, .int 0, .int 0])), (qa_2, .inl (cA, 401, .inl (fun _ => 0))), (qa_3, .inl (cA, 401, .inl (fun _ => 0)))] H := hP
  have hD : va_D A [(h0, .inr (0, [.ref qa_2, .ref qa_3, .int 0, .int 0, .int 0, .int 0, .long 0, .int 0, .int 0, .int 0, .int 0, .int 0])), (qa_2, .inl (cA, 401, .inl (fun _ => 0))), (qa_3, .inl (cA, 401, .inl (fun _ => 0)))] := hD
  refine lv_aload_n hx hb dX0_init_47 rfl (lv_at hl 0 rfl) ?_
  refine lv_iconst (v := 0) hx hb dX0_init_48 (by decide) ?_
  refine va_put (D := (dC, dI)) (ci := 0) (v := .int 0) (ty := .int) (C := RX0) (T := TX0) (N := 12) hx hb hts hiX0 tyX0 tyX0_ok nmX0 hown hK hP hD hS 0 rfl rfl 7 (by decide) (hts (.fieldLink RX0 36 "TickWalks$Arc" "length" "I") (List.mem_of_getElem? (l := wsX0_init) (i := 9) rfl)) (fun _ h9 => h9) rfl (by decide +kernel) rfl rfl (Nat.le_of_ble_eq_true rfl) dX0_init_49 (fun H locs hP hD hS => ?_)
  have hP : va_P (dC, dI) vwCl [(h0, .inr (0, [.ref qa_2, .ref qa_3, .int 0, .int 0, .int 0, .int 0, .long 0, .int 0, .int 0, .int 0, .int 0, .int 0])), (qa_2, .inl (cA, 401, .inl (fun _ => 0))), (qa_3, .inl (cA, 401, .inl (fun _ => 0)))] H := hP
  have hD : va_D A [(h0, .inr (0, [.ref qa_2, .ref qa_3, .int 0, .int 0, .int 0, .int 0, .long 0, .int 0, .int 0, .int 0, .int 0, .int 0])), (qa_2, .inl (cA, 401, .inl (fun _ => 0))), (qa_3, .inl (cA, 401, .inl (fun _ => 0)))] := hD
  refine lv_aload_n hx hb dX0_init_52 rfl (lv_at hl 0 rfl) ?_
  refine lv_iconst (v := 0) hx hb dX0_init_53 (by decide) ?_
  refine va_put (D := (dC, dI)) (ci := 0) (v := .int 0) (ty := .int) (C := RX0) (T := TX0) (N := 12) hx hb hts hiX0 tyX0 tyX0_ok nmX0 hown hK hP hD hS 0 rfl rfl 8 (by decide) (hts (.fieldLink RX0 39 "TickWalks$Arc" "off" "I") (List.mem_of_getElem? (l := wsX0_init) (i := 10) rfl)) (fun _ h9 => h9) rfl (by decide +kernel) rfl rfl (Nat.le_of_ble_eq_true rfl) dX0_init_54 (fun H locs hP hD hS => ?_)
  have hP : va_P (dC, dI) vwCl [(h0, .inr (0, [.ref qa_2, .ref qa_3, .int 0, .int 0, .int 0, .int 0, .long 0, .int 0, .int 0, .int 0, .int 0, .int 0])), (qa_2, .inl (cA, 401, .inl (fun _ => 0))), (qa_3, .inl (cA, 401, .inl (fun _ => 0)))] H := hP
  have hD : va_D A [(h0, .inr (0, [.ref qa_2, .ref qa_3, .int 0, .int 0, .int 0, .int 0, .long 0, .int 0, .int 0, .int 0, .int 0, .int 0])), (qa_2, .inl (cA, 401, .inl (fun _ => 0))), (qa_3, .inl (cA, 401, .inl (fun _ => 0)))] := hD
  refine lv_aload_n hx hb dX0_init_57 rfl (lv_at hl 0 rfl) ?_
  refine lv_iconst (v := 0) hx hb dX0_init_58 (by decide) ?_
  refine va_put (D := (dC, dI)) (ci := 0) (v := .int 0) (ty := .int) (C := RX0) (T := TX0) (N := 12) hx hb hts hiX0 tyX0 tyX0_ok nmX0 hown hK hP hD hS 0 rfl rfl 9 (by decide) (hts (.fieldLink RX0 42 "TickWalks$Arc" "strays" "I") (List.mem_of_getElem? (l := wsX0_init) (i := 11) rfl)) (fun _ h9 => h9) rfl (by decide +kernel) rfl rfl (Nat.le_of_ble_eq_true rfl) dX0_init_59 (fun H locs hP hD hS => ?_)
  have hP : va_P (dC, dI) vwCl [(h0, .inr (0, [.ref qa_2, .ref qa_3, .int 0, .int 0, .int 0, .int 0, .long 0, .int 0, .int 0, .int 0, .int 0, .int 0])), (qa_2, .inl (cA, 401, .inl (fun _ => 0))), (qa_3, .inl (cA, 401, .inl (fun _ => 0)))] H := hP
  have hD : va_D A [(h0, .inr (0, [.ref qa_2, .ref qa_3, .int 0, .int 0, .int 0, .int 0, .long 0, .int 0, .int 0, .int 0, .int 0, .int 0])), (qa_2, .inl (cA, 401, .inl (fun _ => 0))), (qa_3, .inl (cA, 401, .inl (fun _ => 0)))] := hD
  refine lv_aload_n hx hb dX0_init_62 rfl (lv_at hl 0 rfl) ?_
  refine lv_iconst (v := 0) hx hb dX0_init_63 (by decide) ?_
  refine va_put (D := (dC, dI)) (ci := 0) (v := .int 0) (ty := .int) (C := RX0) (T := TX0) (N := 12) hx hb hts hiX0 tyX0 tyX0_ok nmX0 hown hK hP hD hS 0 rfl rfl 10 (by decide) (hts (.fieldLink RX0 45 "TickWalks$Arc" "footX" "I") (List.mem_of_getElem? (l := wsX0_init) (i := 12) rfl)) (fun _ h9 => h9) rfl (by decide +kernel) rfl rfl (Nat.le_of_ble_eq_true rfl) dX0_init_64 (fun H locs hP hD hS => ?_)
  have hP : va_P (dC, dI) vwCl [(h0, .inr (0, [.ref qa_2, .ref qa_3, .int 0, .int 0, .int 0, .int 0, .long 0, .int 0, .int 0, .int 0, .int 0, .int 0])), (qa_2, .inl (cA, 401, .inl (fun _ => 0))), (qa_3, .inl (cA, 401, .inl (fun _ => 0)))] H := hP
  have hD : va_D A [(h0, .inr (0, [.ref qa_2, .ref qa_3, .int 0, .int 0, .int 0, .int 0, .long 0, .int 0, .int 0, .int 0, .int 0, .int 0])), (qa_2, .inl (cA, 401, .inl (fun _ => 0))), (qa_3, .inl (cA, 401, .inl (fun _ => 0)))] := hD
  refine lv_aload_n hx hb dX0_init_67 rfl (lv_at hl 0 rfl) ?_
  refine lv_iconst (v := 0) hx hb dX0_init_68 (by decide) ?_
  refine va_put (D := (dC, dI)) (ci := 0) (v := .int 0) (ty := .int) (C := RX0) (T := TX0) (N := 12) hx hb hts hiX0 tyX0 tyX0_ok nmX0 hown hK hP hD hS 0 rfl rfl 11 (by decide) (hts (.fieldLink RX0 48 "TickWalks$Arc" "footY" "I") (List.mem_of_getElem? (l := wsX0_init) (i := 13) rfl)) (fun _ h9 => h9) rfl (by decide +kernel) rfl rfl (Nat.le_of_ble_eq_true rfl) dX0_init_69 (fun H locs hP hD hS => ?_)
  have hP : va_P (dC, dI) vwCl [(h0, .inr (0, [.ref qa_2, .ref qa_3, .int 0, .int 0, .int 0, .int 0, .long 0, .int 0, .int 0, .int 0, .int 0, .int 0])), (qa_2, .inl (cA, 401, .inl (fun _ => 0))), (qa_3, .inl (cA, 401, .inl (fun _ => 0)))] H := hP
  have hD : va_D A [(h0, .inr (0, [.ref qa_2, .ref qa_3, .int 0, .int 0, .int 0, .int 0, .long 0, .int 0, .int 0, .int 0, .int 0, .int 0])), (qa_2, .inl (cA, 401, .inl (fun _ => 0))), (qa_3, .inl (cA, 401, .inl (fun _ => 0)))] := hD
  have hP9 := hP.sub (ws' := [(h0, .inr (0, [.ref qa_2, .ref qa_3, .int 0, .int 0, .int 0, .int 0, .long 0, .int 0, .int 0, .int 0, .int 0, .int 0])), (qa_2, .inl (cA, 401, .inl (fun _ => 0))), (qa_3, .inl (cA, 401, .inl (fun _ => 0)))]) [0, 1, 2] rfl
  have hD9 := hD.sub (ws' := [(h0, .inr (0, [.ref qa_2, .ref qa_3, .int 0, .int 0, .int 0, .int 0, .long 0, .int 0, .int 0, .int 0, .int 0, .int 0])), (qa_2, .inl (cA, 401, .inl (fun _ => 0))), (qa_3, .inl (cA, 401, .inl (fun _ => 0)))]) [0, 1, 2] (by decide) rfl
  refine W.widen (k := 2) (n := 802) (by omega) (by omega) ?_
  exact W.vret hx hb hr (fun t9 ht9 hW9 => ⟨⟨(qa_2, qa_3), rfl, trivial, by rw [ht9]; exact hP9, hD9⟩, hS.F ht9⟩) hS.2.2 dX0_init_72
