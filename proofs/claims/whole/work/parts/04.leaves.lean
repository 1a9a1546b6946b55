/-! pure words of the leaves -/
def pl_in (v : Int32) : Prop := -30000 ≤ v ∧ v ≤ 30000
def ce_in (v : Int32) : Prop := -40000 ≤ v ∧ v ≤ 40000
def ab_i (x : Int32) : Int32 := if 0 ≤ x then x else 0 - x
def mx_i (x y : Int32) : Int32 := if x < y then y else x
def ga_m (x y z : Int32) : Int32 := mx_i (ab_i x) (mx_i (ab_i y) (ab_i z))
def am_i (v : Int32) : Int32 := if 0 ≤ v then v else -v
theorem am_ge {v : Int32} (h : 0 ≤ v) : v = am_i v := by simp [am_i, h]
theorem am_lt {v : Int32} (h : ¬ 0 ≤ v) : -v = am_i v := by unfold am_i; rw [if_neg h]
/-- the reference's division, cut down to the whole number not above (for a divisor above 0) -/
def fd_d (a b : Int64) : Int64 := if a < 0 ∧ ¬ a - a / b * b = 0 then a / b - 1 else a / b
/-- Math.floorDiv -/
def fd_f (a b : Int64) : Int64 := if a ^^^ b < 0 ∧ ¬ a / b * b = a then a / b - 1 else a / b
set_option maxHeartbeats 4000000 in
set_option maxRecDepth 100000 in
/-- TickWalks.isWithin -/
theorem ct_isWithin (l : Launch) (dC : Nat → ClassId) (dI : Nat → Nat → Nat) (cA cB : ClassId) (sz : Nat) (n : Int32) (f : Int32) : Met l yX3_isWithin wsX3_isWithin ({ frames := 0, cells := 0, slots := 0, locals := 0 }) (va_Pc [.int n, .int f] (ct_P dC dI cA cB sz [])) (va_Qi (fun (r : Int32) (u : Unit) => bo_z r (-f ≤ n ∧ n ≤ f)) (fun (u : Unit) => ct_B dC dI (va_A [] sz) []) (va_A [] sz)) 0 0 (va_A [] sz) := by
  refine Met.ofW (cc := cX3_isWithin) (maxL := 2) (ret := (some .boolean)) (by decide +kernel) rfl ?_
  intro p e s m args below meth c s₁ B hml hv
  obtain ⟨rfl, hsz, hP, hK, hD0, hZ, hN⟩ := hv
  have hx := B.exec
  have hb := B.bytes
  have hr := B.returns
  have hts := atoms_spec (ws := wsX3_isWithin) B.pre
  have hown : s.vm.findClass RX3 = some m.cls := findClass_of_methodNamed B.named
  have hlocks := B.notSynchronized
  subst hsz
  have hD := hD0.self (sz := s.heap.size)
  generalize hAe : va_A [] s.heap.size = A at hD hZ ⊢
  have hA : ∀ q : Nat, s.heap.size ≤ q → A q := fun q h => by rw [← hAe]; exact Or.inr h
  have hl := lv_entry ([.int n, .int f]) (n := 2) (Nat.le_of_ble_eq_true rfl)
  rw [lg_entry_eq]
  generalize (lg_sl ([.int n, .int f]) ++ List.replicate (2 - (lg_sl ([.int n, .int f])).length) Slot.unset).toArray = ls at hl ⊢
  have hl : lv_has ls 2 [(0, .int n), (1, .int f)] := hl
  generalize hHe : s.heap = H at hP ⊢
  have hS : va_S A s.heap H [] := by rw [hHe]; exact va_S.rf
  generalize ([] : List Loc) = locs at hS ⊢
  refine lv_iload_n hx hb dX3_isWithin_0 rfl (lv_at hl 0 rfl) ?_
  refine lv_iload_n hx hb dX3_isWithin_1 rfl (lv_at hl 1 rfl) ?_
  refine lv_ineg hx hb dX3_isWithin_2 ?_
  refine lv_icmp_lt (tgt := 15) hx hb dX3_isWithin_3 (by decide) (fun c_3 => ?_) (fun c_3 => ?_)
  · refine lv_iconst (v := 0) hx hb dX3_isWithin_15 (by decide) ?_
    have hP9 := hP.sub (ws' := []) [] rfl
    have hD9 := hD.sub (ws' := []) [] (by decide) rfl
    exact W.zret (v := 0) hx hb hr rfl (fun t9 ht9 hW9 => ⟨⟨0, (), rfl, bo_z.n (fun h => absurd h.1 (Int32.not_le.mpr c_3)), by rw [ht9]; exact hP9, hD9⟩, hS.F ht9⟩) hS.2.2 dX3_isWithin_16
  · refine lv_iload_n hx hb dX3_isWithin_6 rfl (lv_at hl 0 rfl) ?_
    refine lv_iload_n hx hb dX3_isWithin_7 rfl (lv_at hl 1 rfl) ?_
    refine lv_icmp_gt (tgt := 15) hx hb dX3_isWithin_8 (by decide) (fun c_8 => ?_) (fun c_8 => ?_)
    · refine lv_iconst (v := 0) hx hb dX3_isWithin_15 (by decide) ?_
      have hP9 := hP.sub (ws' := []) [] rfl
      have hD9 := hD.sub (ws' := []) [] (by decide) rfl
      exact W.zret (v := 0) hx hb hr rfl (fun t9 ht9 hW9 => ⟨⟨0, (), rfl, bo_z.n (fun h => absurd h.2 (Int32.not_le.mpr c_8)), by rw [ht9]; exact hP9, hD9⟩, hS.F ht9⟩) hS.2.2 dX3_isWithin_16
    · refine lv_iconst (v := 1) hx hb dX3_isWithin_11 (by decide) ?_
      refine lv_goto (tgt := 16) hx hb dX3_isWithin_12 (by decide) ?_
      have hP9 := hP.sub (ws' := []) [] rfl
      have hD9 := hD.sub (ws' := []) [] (by decide) rfl
      exact W.zret (v := 1) hx hb hr rfl (fun t9 ht9 hW9 => ⟨⟨1, (), rfl, bo_z.y ⟨Int32.not_lt.mp c_3, Int32.not_lt.mp c_8⟩, by rw [ht9]; exact hP9, hD9⟩, hS.F ht9⟩) hS.2.2 dX3_isWithin_16
set_option maxHeartbeats 4000000 in
set_option maxRecDepth 100000 in
/-- TickWalks.isPlace -/
theorem ct_isPlace (l : Launch) (dC : Nat → ClassId) (dI : Nat → Nat → Nat) (cA cB : ClassId) (sz : Nat) (x : Int32) (y : Int32) (z : Int32) : Met l yX3_isPlace wsX3_isPlace ({ frames := 1, cells := 0, slots := 0, locals := 21 }) (va_Pc [.int x, .int y, .int z] (ct_P dC dI cA cB sz [])) (va_Qi (fun (r : Int32) (u : Unit) => bo_z r (pl_in x ∧ pl_in y ∧ pl_in z)) (fun (u : Unit) => ct_B dC dI (va_A [] sz) []) (va_A [] sz)) 0 0 (va_A [] sz) := by
  refine Met.ofW (cc := cX3_isPlace) (maxL := 3) (ret := (some .boolean)) (by decide +kernel) rfl ?_
  intro p e s m args below meth c s₁ B hml hv
  obtain ⟨rfl, hsz, hP, hK, hD0, hZ, hN⟩ := hv
  have hx := B.exec
  have hb := B.bytes
  have hr := B.returns
  have hts := atoms_spec (ws := wsX3_isPlace) B.pre
  have hown : s.vm.findClass RX3 = some m.cls := findClass_of_methodNamed B.named
  have hlocks := B.notSynchronized
  subst hsz
  have hD := hD0.self (sz := s.heap.size)
  generalize hAe : va_A [] s.heap.size = A at hD hZ ⊢
  have hA : ∀ q : Nat, s.heap.size ≤ q → A q := fun q h => by rw [← hAe]; exact Or.inr h
  have hl := lv_entry ([.int x, .int y, .int z]) (n := 3) (Nat.le_of_ble_eq_true rfl)
  rw [lg_entry_eq]
  generalize (lg_sl ([.int x, .int y, .int z]) ++ List.replicate (3 - (lg_sl ([.int x, .int y, .int z])).length) Slot.unset).toArray = ls at hl ⊢
  have hl : lv_has ls 3 [(0, .int x), (1, .int y), (2, .int z)] := hl
  generalize hHe : s.heap = H at hP ⊢
  have hS : va_S A s.heap H [] := by rw [hHe]; exact va_S.rf
  generalize ([] : List Loc) = locs at hS ⊢
  refine lv_iload_n hx hb dX3_isPlace_0 rfl (lv_at hl 0 rfl) ?_
  refine lv_sipush (v := 30000) hx hb dX3_isPlace_1 (by decide) ?_
  refine ct_calli (va_runS (As := [.int x, .int 30000]) (rest := []) ⟨hx, hb, hml, hown, hts⟩ (ct_isWithin l dC dI cA cB H.size x 30000 ) (va_cwS 2 hts gX3_isPlace_X3_isWithin rfl rfl rfl (by decide +kernel) ⟨Nat.le_of_ble_eq_true rfl, Nat.le_of_ble_eq_true rfl⟩) ⟨ct_blind, ct_pre hP hD hK hZ hN hS hA [] rfl (by decide)⟩ rfl rfl hl.1 rfl (lv_room (Nat.le_of_ble_eq_true rfl)) dX3_isPlace_4 ⟨Nat.le_of_ble_eq_true rfl, Nat.le_of_ble_eq_true rfl⟩) hP hD hS hA [] [] rfl (wr := []) rfl (by decide) (by decide) (fun r_1 u9 H locs hw_1 hP hD hS => ?_)
  have hw_1 : bo_z r_1 (-30000 ≤ x ∧ x ≤ 30000) := hw_1
  have hP : va_P (dC, dI) vwCl [] H := hP
  have hD : va_D A [] := hD
  refine lv_if_eq (tgt := 34) hx hb dX3_isPlace_7 (by decide) (fun c_7 => ?_) (fun c_7 => ?_)
  · refine lv_iconst (v := 0) hx hb dX3_isPlace_34 (by decide) ?_
    have hP9 := hP.sub (ws' := []) [] rfl
    have hD9 := hD.sub (ws' := []) [] (by decide) rfl
    exact W.zret (v := 0) hx hb hr rfl (fun t9 ht9 hW9 => ⟨⟨0, (), rfl, bo_z.n (fun h => hw_1.f c_7 h.1), by rw [ht9]; exact hP9, hD9⟩, hS.F ht9⟩) hS.2.2 dX3_isPlace_35
  · refine lv_iload_n hx hb dX3_isPlace_10 rfl (lv_at hl 1 rfl) ?_
    refine lv_sipush (v := 30000) hx hb dX3_isPlace_11 (by decide) ?_
    refine ct_calli (va_runS (As := [.int y, .int 30000]) (rest := []) ⟨hx, hb, hml, hown, hts⟩ (ct_isWithin l dC dI cA cB H.size y 30000 ) (va_cwS 2 hts gX3_isPlace_X3_isWithin rfl rfl rfl (by decide +kernel) ⟨Nat.le_of_ble_eq_true rfl, Nat.le_of_ble_eq_true rfl⟩) ⟨ct_blind, ct_pre hP hD hK hZ hN hS hA [] rfl (by decide)⟩ rfl rfl hl.1 rfl (lv_room (Nat.le_of_ble_eq_true rfl)) dX3_isPlace_14 ⟨Nat.le_of_ble_eq_true rfl, Nat.le_of_ble_eq_true rfl⟩) hP hD hS hA [] [] rfl (wr := []) rfl (by decide) (by decide) (fun r_2 u9 H locs hw_2 hP hD hS => ?_)
    have hw_2 : bo_z r_2 (-30000 ≤ y ∧ y ≤ 30000) := hw_2
    have hP : va_P (dC, dI) vwCl [] H := hP
    have hD : va_D A [] := hD
    refine lv_if_eq (tgt := 34) hx hb dX3_isPlace_17 (by decide) (fun c_17 => ?_) (fun c_17 => ?_)
    · refine lv_iconst (v := 0) hx hb dX3_isPlace_34 (by decide) ?_
      have hP9 := hP.sub (ws' := []) [] rfl
      have hD9 := hD.sub (ws' := []) [] (by decide) rfl
      exact W.zret (v := 0) hx hb hr rfl (fun t9 ht9 hW9 => ⟨⟨0, (), rfl, bo_z.n (fun h => hw_2.f c_17 h.2.1), by rw [ht9]; exact hP9, hD9⟩, hS.F ht9⟩) hS.2.2 dX3_isPlace_35
    · refine lv_iload_n hx hb dX3_isPlace_20 rfl (lv_at hl 2 rfl) ?_
      refine lv_sipush (v := 30000) hx hb dX3_isPlace_21 (by decide) ?_
      refine ct_calli (va_runS (As := [.int z, .int 30000]) (rest := []) ⟨hx, hb, hml, hown, hts⟩ (ct_isWithin l dC dI cA cB H.size z 30000 ) (va_cwS 2 hts gX3_isPlace_X3_isWithin rfl rfl rfl (by decide +kernel) ⟨Nat.le_of_ble_eq_true rfl, Nat.le_of_ble_eq_true rfl⟩) ⟨ct_blind, ct_pre hP hD hK hZ hN hS hA [] rfl (by decide)⟩ rfl rfl hl.1 rfl (lv_room (Nat.le_of_ble_eq_true rfl)) dX3_isPlace_24 ⟨Nat.le_of_ble_eq_true rfl, Nat.le_of_ble_eq_true rfl⟩) hP hD hS hA [] [] rfl (wr := []) rfl (by decide) (by decide) (fun r_3 u9 H locs hw_3 hP hD hS => ?_)
      have hw_3 : bo_z r_3 (-30000 ≤ z ∧ z ≤ 30000) := hw_3
      have hP : va_P (dC, dI) vwCl [] H := hP
      have hD : va_D A [] := hD
      refine lv_if_eq (tgt := 34) hx hb dX3_isPlace_27 (by decide) (fun c_27 => ?_) (fun c_27 => ?_)
      · refine lv_iconst (v := 0) hx hb dX3_isPlace_34 (by decide) ?_
        have hP9 := hP.sub (ws' := []) [] rfl
        have hD9 := hD.sub (ws' := []) [] (by decide) rfl
        exact W.zret (v := 0) hx hb hr rfl (fun t9 ht9 hW9 => ⟨⟨0, (), rfl, bo_z.n (fun h => hw_3.f c_27 h.2.2), by rw [ht9]; exact hP9, hD9⟩, hS.F ht9⟩) hS.2.2 dX3_isPlace_35
      · refine lv_iconst (v := 1) hx hb dX3_isPlace_30 (by decide) ?_
        refine lv_goto (tgt := 35) hx hb dX3_isPlace_31 (by decide) ?_
        have hP9 := hP.sub (ws' := []) [] rfl
        have hD9 := hD.sub (ws' := []) [] (by decide) rfl
        exact W.zret (v := 1) hx hb hr rfl (fun t9 ht9 hW9 => ⟨⟨1, (), rfl, bo_z.y ⟨hw_1.t c_7, hw_2.t c_17, hw_3.t c_27⟩, by rw [ht9]; exact hP9, hD9⟩, hS.F ht9⟩) hS.2.2 dX3_isPlace_35
set_option maxHeartbeats 4000000 in
set_option maxRecDepth 100000 in
/-- TickWalks.isAxis -/
theorem ct_isAxis (l : Launch) (dC : Nat → ClassId) (dI : Nat → Nat → Nat) (cA cB : ClassId) (sz : Nat) (a : Int32) : Met l yX3_isAxis wsX3_isAxis ({ frames := 0, cells := 0, slots := 0, locals := 0 }) (va_Pc [.int a] (ct_P dC dI cA cB sz [])) (va_Qi (fun (r : Int32) (u : Unit) => bo_z r (0 ≤ a ∧ a < 3)) (fun (u : Unit) => ct_B dC dI (va_A [] sz) []) (va_A [] sz)) 0 0 (va_A [] sz) := by
  refine Met.ofW (cc := cX3_isAxis) (maxL := 1) (ret := (some .boolean)) (by decide +kernel) rfl ?_
  intro p e s m args below meth c s₁ B hml hv
  obtain ⟨rfl, hsz, hP, hK, hD0, hZ, hN⟩ := hv
  have hx := B.exec
  have hb := B.bytes
  have hr := B.returns
  have hts := atoms_spec (ws := wsX3_isAxis) B.pre
  have hown : s.vm.findClass RX3 = some m.cls := findClass_of_methodNamed B.named
  have hlocks := B.notSynchronized
  subst hsz
  have hD := hD0.self (sz := s.heap.size)
  generalize hAe : va_A [] s.heap.size = A at hD hZ ⊢
  have hA : ∀ q : Nat, s.heap.size ≤ q → A q := fun q h => by rw [← hAe]; exact Or.inr h
  have hl := lv_entry ([.int a]) (n := 1) (Nat.le_of_ble_eq_true rfl)
  rw [lg_entry_eq]
  generalize (lg_sl ([.int a]) ++ List.replicate (1 - (lg_sl ([.int a])).length) Slot.unset).toArray = ls at hl ⊢
  have hl : lv_has ls 1 [(0, .int a)] := hl
  generalize hHe : s.heap = H at hP ⊢
  have hS : va_S A s.heap H [] := by rw [hHe]; exact va_S.rf
  generalize ([] : List Loc) = locs at hS ⊢
  refine lv_iload_n hx hb dX3_isAxis_0 rfl (lv_at hl 0 rfl) ?_
  refine lv_if_lt (tgt := 13) hx hb dX3_isAxis_1 (by decide) (fun c_1 => ?_) (fun c_1 => ?_)
  · refine lv_iconst (v := 0) hx hb dX3_isAxis_13 (by decide) ?_
    have hP9 := hP.sub (ws' := []) [] rfl
    have hD9 := hD.sub (ws' := []) [] (by decide) rfl
    exact W.zret (v := 0) hx hb hr rfl (fun t9 ht9 hW9 => ⟨⟨0, (), rfl, bo_z.n (fun h => absurd h.1 (Int32.not_le.mpr c_1)), by rw [ht9]; exact hP9, hD9⟩, hS.F ht9⟩) hS.2.2 dX3_isAxis_14
  · refine lv_iload_n hx hb dX3_isAxis_4 rfl (lv_at hl 0 rfl) ?_
    refine lv_iconst (v := 3) hx hb dX3_isAxis_5 (by decide) ?_
    refine lv_icmp_ge (tgt := 13) hx hb dX3_isAxis_6 (by decide) (fun c_6 => ?_) (fun c_6 => ?_)
    · refine lv_iconst (v := 0) hx hb dX3_isAxis_13 (by decide) ?_
      have hP9 := hP.sub (ws' := []) [] rfl
      have hD9 := hD.sub (ws' := []) [] (by decide) rfl
      exact W.zret (v := 0) hx hb hr rfl (fun t9 ht9 hW9 => ⟨⟨0, (), rfl, bo_z.n (fun h => absurd h.2 (Int32.not_lt.mpr c_6)), by rw [ht9]; exact hP9, hD9⟩, hS.F ht9⟩) hS.2.2 dX3_isAxis_14
    · refine lv_iconst (v := 1) hx hb dX3_isAxis_9 (by decide) ?_
      refine lv_goto (tgt := 14) hx hb dX3_isAxis_10 (by decide) ?_
      have hP9 := hP.sub (ws' := []) [] rfl
      have hD9 := hD.sub (ws' := []) [] (by decide) rfl
      exact W.zret (v := 1) hx hb hr rfl (fun t9 ht9 hW9 => ⟨⟨1, (), rfl, bo_z.y ⟨Int32.not_lt.mp c_1, Int32.not_le.mp c_6⟩, by rw [ht9]; exact hP9, hD9⟩, hS.F ht9⟩) hS.2.2 dX3_isAxis_14
set_option maxHeartbeats 4000000 in
set_option maxRecDepth 100000 in
/-- TickWalks.greatestAmount -/
theorem ct_greatest (l : Launch) (dC : Nat → ClassId) (dI : Nat → Nat → Nat) (cA cB : ClassId) (sz : Nat) (x : Int32) (y : Int32) (z : Int32) : Met l yX3_greatestAmount wsX3_greatestAmount ({ frames := 1, cells := 0, slots := 0, locals := 16 }) (va_Pc [.int x, .int y, .int z] (ct_P dC dI cA cB sz [])) (va_Qi (fun (r : Int32) (u : Unit) => r = ga_m x y z) (fun (u : Unit) => ct_B dC dI (va_A [] sz) []) (va_A [] sz)) 0 0 (va_A [] sz) := by
  refine Met.ofW (cc := cX3_greatestAmount) (maxL := 3) (ret := (some .int)) (by decide +kernel) rfl ?_
  intro p e s m args below meth c s₁ B hml hv
  obtain ⟨rfl, hsz, hP, hK, hD0, hZ, hN⟩ := hv
  have hx := B.exec
  have hb := B.bytes
  have hr := B.returns
  have hts := atoms_spec (ws := wsX3_greatestAmount) B.pre
  have hown : s.vm.findClass RX3 = some m.cls := findClass_of_methodNamed B.named
  have hlocks := B.notSynchronized
  subst hsz
  have hD := hD0.self (sz := s.heap.size)
  generalize hAe : va_A [] s.heap.size = A at hD hZ ⊢
  have hA : ∀ q : Nat, s.heap.size ≤ q → A q := fun q h => by rw [← hAe]; exact Or.inr h
  have hl := lv_entry ([.int x, .int y, .int z]) (n := 3) (Nat.le_of_ble_eq_true rfl)
  rw [lg_entry_eq]
  generalize (lg_sl ([.int x, .int y, .int z]) ++ List.replicate (3 - (lg_sl ([.int x, .int y, .int z])).length) Slot.unset).toArray = ls at hl ⊢
  have hl : lv_has ls 3 [(0, .int x), (1, .int y), (2, .int z)] := hl
  generalize hHe : s.heap = H at hP ⊢
  have hS : va_S A s.heap H [] := by rw [hHe]; exact va_S.rf
  generalize ([] : List Loc) = locs at hS ⊢
  refine lv_iload_n hx hb dX3_greatestAmount_0 rfl (lv_at hl 0 rfl) ?_
  refine va_mabs hx hb (hml.trans hl.1.symm) hown (hts (.methodLink RX3 79 Lib.Math.abs.name) (List.mem_of_getElem? (l := wsX3_greatestAmount) (i := 1) rfl)) (hts (.static Lib.Math.abs.name) (List.mem_of_getElem? (l := wsX3_greatestAmount) (i := 2) rfl)) (hts (.initialized "java/lang/Math") (List.mem_of_getElem? (l := wsX3_greatestAmount) (i := 3) rfl)) (hts (.code Lib.Math.abs.name Lib.Math.abs.code 1 (some .int)) (List.mem_of_getElem? (l := wsX3_greatestAmount) (i := 4) rfl)) (Nat.le_of_ble_eq_true rfl) (Nat.le_of_ble_eq_true rfl) (Nat.le_of_ble_eq_true rfl) (Nat.le_of_ble_eq_true rfl) dX3_greatestAmount_1 ?_
  refine lv_iload_n hx hb dX3_greatestAmount_4 rfl (lv_at hl 1 rfl) ?_
  refine va_mabs hx hb (hml.trans hl.1.symm) hown (hts (.methodLink RX3 79 Lib.Math.abs.name) (List.mem_of_getElem? (l := wsX3_greatestAmount) (i := 1) rfl)) (hts (.static Lib.Math.abs.name) (List.mem_of_getElem? (l := wsX3_greatestAmount) (i := 2) rfl)) (hts (.initialized "java/lang/Math") (List.mem_of_getElem? (l := wsX3_greatestAmount) (i := 3) rfl)) (hts (.code Lib.Math.abs.name Lib.Math.abs.code 1 (some .int)) (List.mem_of_getElem? (l := wsX3_greatestAmount) (i := 4) rfl)) (Nat.le_of_ble_eq_true rfl) (Nat.le_of_ble_eq_true rfl) (Nat.le_of_ble_eq_true rfl) (Nat.le_of_ble_eq_true rfl) dX3_greatestAmount_5 ?_
  refine lv_iload_n hx hb dX3_greatestAmount_8 rfl (lv_at hl 2 rfl) ?_
  refine va_mabs hx hb (hml.trans hl.1.symm) hown (hts (.methodLink RX3 79 Lib.Math.abs.name) (List.mem_of_getElem? (l := wsX3_greatestAmount) (i := 1) rfl)) (hts (.static Lib.Math.abs.name) (List.mem_of_getElem? (l := wsX3_greatestAmount) (i := 2) rfl)) (hts (.initialized "java/lang/Math") (List.mem_of_getElem? (l := wsX3_greatestAmount) (i := 3) rfl)) (hts (.code Lib.Math.abs.name Lib.Math.abs.code 1 (some .int)) (List.mem_of_getElem? (l := wsX3_greatestAmount) (i := 4) rfl)) (Nat.le_of_ble_eq_true rfl) (Nat.le_of_ble_eq_true rfl) (Nat.le_of_ble_eq_true rfl) (Nat.le_of_ble_eq_true rfl) dX3_greatestAmount_9 ?_
  refine va_mmax hx hb (hml.trans hl.1.symm) hown (hts (.methodLink RX3 85 Lib.Math.max.name) (List.mem_of_getElem? (l := wsX3_greatestAmount) (i := 5) rfl)) (hts (.static Lib.Math.max.name) (List.mem_of_getElem? (l := wsX3_greatestAmount) (i := 6) rfl)) (hts (.initialized "java/lang/Math") (List.mem_of_getElem? (l := wsX3_greatestAmount) (i := 3) rfl)) (hts (.code Lib.Math.max.name Lib.Math.max.code 2 (some .int)) (List.mem_of_getElem? (l := wsX3_greatestAmount) (i := 7) rfl)) (Nat.le_of_ble_eq_true rfl) (Nat.le_of_ble_eq_true rfl) (Nat.le_of_ble_eq_true rfl) (Nat.le_of_ble_eq_true rfl) dX3_greatestAmount_12 ?_
  refine va_mmax hx hb (hml.trans hl.1.symm) hown (hts (.methodLink RX3 85 Lib.Math.max.name) (List.mem_of_getElem? (l := wsX3_greatestAmount) (i := 5) rfl)) (hts (.static Lib.Math.max.name) (List.mem_of_getElem? (l := wsX3_greatestAmount) (i := 6) rfl)) (hts (.initialized "java/lang/Math") (List.mem_of_getElem? (l := wsX3_greatestAmount) (i := 3) rfl)) (hts (.code Lib.Math.max.name Lib.Math.max.code 2 (some .int)) (List.mem_of_getElem? (l := wsX3_greatestAmount) (i := 7) rfl)) (Nat.le_of_ble_eq_true rfl) (Nat.le_of_ble_eq_true rfl) (Nat.le_of_ble_eq_true rfl) (Nat.le_of_ble_eq_true rfl) dX3_greatestAmount_15 ?_
  have hP9 := hP.sub (ws' := []) [] rfl
  have hD9 := hD.sub (ws' := []) [] (by decide) rfl
  exact W.iret (v := if (if 0 ≤ x then x else 0 - x) < (if (if 0 ≤ y then y else 0 - y) < (if 0 ≤ z then z else 0 - z) then (if 0 ≤ z then z else 0 - z) else (if 0 ≤ y then y else 0 - y)) then (if (if 0 ≤ y then y else 0 - y) < (if 0 ≤ z then z else 0 - z) then (if 0 ≤ z then z else 0 - z) else (if 0 ≤ y then y else 0 - y)) else (if 0 ≤ x then x else 0 - x)) hx hb hr (fun t9 ht9 hW9 => ⟨⟨if (if 0 ≤ x then x else 0 - x) < (if (if 0 ≤ y then y else 0 - y) < (if 0 ≤ z then z else 0 - z) then (if 0 ≤ z then z else 0 - z) else (if 0 ≤ y then y else 0 - y)) then (if (if 0 ≤ y then y else 0 - y) < (if 0 ≤ z then z else 0 - z) then (if 0 ≤ z then z else 0 - z) else (if 0 ≤ y then y else 0 - y)) else (if 0 ≤ x then x else 0 - x), (), rfl, rfl, by rw [ht9]; exact hP9, hD9⟩, hS.F ht9⟩) hS.2.2 dX3_greatestAmount_18
set_option maxHeartbeats 4000000 in
set_option maxRecDepth 100000 in
/-- TickWalks.isStray -/
theorem ct_isStray (l : Launch) (dC : Nat → ClassId) (dI : Nat → Nat → Nat) (cA cB : ClassId) (sz : Nat) (x : Int32) (y : Int32) (z : Int32) : Met l yX3_isStray wsX3_isStray ({ frames := 2, cells := 0, slots := 0, locals := 38 }) (va_Pc [.int x, .int y, .int z] (ct_P dC dI cA cB sz [])) (va_Qi (fun (r : Int32) (u : Unit) => bo_z r (¬ ga_m x y z = 1)) (fun (u : Unit) => ct_B dC dI (va_A [] sz) []) (va_A [] sz)) 0 0 (va_A [] sz) := by
  refine Met.ofW (cc := cX3_isStray) (maxL := 3) (ret := (some .boolean)) (by decide +kernel) rfl ?_
  intro p e s m args below meth c s₁ B hml hv
  obtain ⟨rfl, hsz, hP, hK, hD0, hZ, hN⟩ := hv
  have hx := B.exec
  have hb := B.bytes
  have hr := B.returns
  have hts := atoms_spec (ws := wsX3_isStray) B.pre
  have hown : s.vm.findClass RX3 = some m.cls := findClass_of_methodNamed B.named
  have hlocks := B.notSynchronized
  subst hsz
  have hD := hD0.self (sz := s.heap.size)
  generalize hAe : va_A [] s.heap.size = A at hD hZ ⊢
  have hA : ∀ q : Nat, s.heap.size ≤ q → A q := fun q h => by rw [← hAe]; exact Or.inr h
  have hl := lv_entry ([.int x, .int y, .int z]) (n := 3) (Nat.le_of_ble_eq_true rfl)
  rw [lg_entry_eq]
  generalize (lg_sl ([.int x, .int y, .int z]) ++ List.replicate (3 - (lg_sl ([.int x, .int y, .int z])).length) Slot.unset).toArray = ls at hl ⊢
  have hl : lv_has ls 3 [(0, .int x), (1, .int y), (2, .int z)] := hl
  generalize hHe : s.heap = H at hP ⊢
  have hS : va_S A s.heap H [] := by rw [hHe]; exact va_S.rf
  generalize ([] : List Loc) = locs at hS ⊢
  refine lv_iload_n hx hb dX3_isStray_0 rfl (lv_at hl 0 rfl) ?_
  refine lv_iload_n hx hb dX3_isStray_1 rfl (lv_at hl 1 rfl) ?_
  refine lv_iload_n hx hb dX3_isStray_2 rfl (lv_at hl 2 rfl) ?_
  refine ct_calli (va_runS (As := [.int x, .int y, .int z]) (rest := []) ⟨hx, hb, hml, hown, hts⟩ (ct_greatest l dC dI cA cB H.size x y z ) (va_cwS 3 hts gX3_isStray_X3_greatestAmount rfl rfl rfl (by decide +kernel) ⟨Nat.le_of_ble_eq_true rfl, Nat.le_of_ble_eq_true rfl⟩) ⟨ct_blind, ct_pre hP hD hK hZ hN hS hA [] rfl (by decide)⟩ rfl rfl hl.1 rfl (lv_room (Nat.le_of_ble_eq_true rfl)) dX3_isStray_3 ⟨Nat.le_of_ble_eq_true rfl, Nat.le_of_ble_eq_true rfl⟩) hP hD hS hA [] [] rfl (wr := []) rfl (by decide) (by decide) (fun r_1 u9 H locs hw_1 hP hD hS => ?_)
  have hw_1 : r_1 = ga_m x y z := hw_1
  have hP : va_P (dC, dI) vwCl [] H := hP
  have hD : va_D A [] := hD
  refine lv_iconst (v := 1) hx hb dX3_isStray_6 (by decide) ?_
  refine lv_icmp_eq (tgt := 14) hx hb dX3_isStray_7 (by decide) (fun c_7 => ?_) (fun c_7 => ?_)
  · refine lv_iconst (v := 0) hx hb dX3_isStray_14 (by decide) ?_
    have hP9 := hP.sub (ws' := []) [] rfl
    have hD9 := hD.sub (ws' := []) [] (by decide) rfl
    exact W.zret (v := 0) hx hb hr rfl (fun t9 ht9 hW9 => ⟨⟨0, (), rfl, bo_z.n (fun h => h (hw_1.symm.trans c_7)), by rw [ht9]; exact hP9, hD9⟩, hS.F ht9⟩) hS.2.2 dX3_isStray_15
  · refine lv_iconst (v := 1) hx hb dX3_isStray_10 (by decide) ?_
    refine lv_goto (tgt := 15) hx hb dX3_isStray_11 (by decide) ?_
    have hP9 := hP.sub (ws' := []) [] rfl
    have hD9 := hD.sub (ws' := []) [] (by decide) rfl
    exact W.zret (v := 1) hx hb hr rfl (fun t9 ht9 hW9 => ⟨⟨1, (), rfl, bo_z.y (fun h => c_7 (hw_1.trans h)), by rw [ht9]; exact hP9, hD9⟩, hS.F ht9⟩) hS.2.2 dX3_isStray_15
set_option maxHeartbeats 4000000 in
set_option maxRecDepth 100000 in
/-- TickWalksModel.isPlace -/
theorem rf_isPlace (l : Launch) (dC : Nat → ClassId) (dI : Nat → Nat → Nat) (cA cB : ClassId) (sz : Nat) (v : Int32) : Met l yX4_isPlace wsX4_isPlace ({ frames := 0, cells := 0, slots := 0, locals := 0 }) (va_Pc [.int v] (ct_P dC dI cA cB sz [])) (va_Qi (fun (r : Int32) (u : Unit) => bo_z r (pl_in v)) (fun (u : Unit) => ct_B dC dI (va_A [] sz) []) (va_A [] sz)) 0 0 (va_A [] sz) := by
  refine Met.ofW (cc := cX4_isPlace) (maxL := 1) (ret := (some .boolean)) (by decide +kernel) rfl ?_
  intro p e s m args below meth c s₁ B hml hv
  obtain ⟨rfl, hsz, hP, hK, hD0, hZ, hN⟩ := hv
  have hx := B.exec
  have hb := B.bytes
  have hr := B.returns
  have hts := atoms_spec (ws := wsX4_isPlace) B.pre
  have hown : s.vm.findClass RX4 = some m.cls := findClass_of_methodNamed B.named
  have hlocks := B.notSynchronized
  subst hsz
  have hD := hD0.self (sz := s.heap.size)
  generalize hAe : va_A [] s.heap.size = A at hD hZ ⊢
  have hA : ∀ q : Nat, s.heap.size ≤ q → A q := fun q h => by rw [← hAe]; exact Or.inr h
  have hl := lv_entry ([.int v]) (n := 1) (Nat.le_of_ble_eq_true rfl)
  rw [lg_entry_eq]
  generalize (lg_sl ([.int v]) ++ List.replicate (1 - (lg_sl ([.int v])).length) Slot.unset).toArray = ls at hl ⊢
  have hl : lv_has ls 1 [(0, .int v)] := hl
  generalize hHe : s.heap = H at hP ⊢
  have hS : va_S A s.heap H [] := by rw [hHe]; exact va_S.rf
  generalize ([] : List Loc) = locs at hS ⊢
  refine lv_iload_n hx hb dX4_isPlace_0 rfl (lv_at hl 0 rfl) ?_
  refine lv_sipush (v := -30000) hx hb dX4_isPlace_1 (by decide) ?_
  refine lv_icmp_lt (tgt := 18) hx hb dX4_isPlace_4 (by decide) (fun c_4 => ?_) (fun c_4 => ?_)
  · refine lv_iconst (v := 0) hx hb dX4_isPlace_18 (by decide) ?_
    have hP9 := hP.sub (ws' := []) [] rfl
    have hD9 := hD.sub (ws' := []) [] (by decide) rfl
    exact W.zret (v := 0) hx hb hr rfl (fun t9 ht9 hW9 => ⟨⟨0, (), rfl, bo_z.n (fun h => absurd h.1 (Int32.not_le.mpr c_4)), by rw [ht9]; exact hP9, hD9⟩, hS.F ht9⟩) hS.2.2 dX4_isPlace_19
  · refine lv_iload_n hx hb dX4_isPlace_7 rfl (lv_at hl 0 rfl) ?_
    refine lv_sipush (v := 30000) hx hb dX4_isPlace_8 (by decide) ?_
    refine lv_icmp_gt (tgt := 18) hx hb dX4_isPlace_11 (by decide) (fun c_11 => ?_) (fun c_11 => ?_)
    · refine lv_iconst (v := 0) hx hb dX4_isPlace_18 (by decide) ?_
      have hP9 := hP.sub (ws' := []) [] rfl
      have hD9 := hD.sub (ws' := []) [] (by decide) rfl
      exact W.zret (v := 0) hx hb hr rfl (fun t9 ht9 hW9 => ⟨⟨0, (), rfl, bo_z.n (fun h => absurd h.2 (Int32.not_le.mpr c_11)), by rw [ht9]; exact hP9, hD9⟩, hS.F ht9⟩) hS.2.2 dX4_isPlace_19
    · refine lv_iconst (v := 1) hx hb dX4_isPlace_14 (by decide) ?_
      refine lv_goto (tgt := 19) hx hb dX4_isPlace_15 (by decide) ?_
      have hP9 := hP.sub (ws' := []) [] rfl
      have hD9 := hD.sub (ws' := []) [] (by decide) rfl
      exact W.zret (v := 1) hx hb hr rfl (fun t9 ht9 hW9 => ⟨⟨1, (), rfl, bo_z.y ⟨Int32.not_lt.mp c_4, Int32.not_lt.mp c_11⟩, by rw [ht9]; exact hP9, hD9⟩, hS.F ht9⟩) hS.2.2 dX4_isPlace_19
set_option maxHeartbeats 4000000 in
set_option maxRecDepth 100000 in
/-- TickWalksModel.isCentre -/
theorem rf_isCentre (l : Launch) (dC : Nat → ClassId) (dI : Nat → Nat → Nat) (cA cB : ClassId) (sz : Nat) (v : Int32) : Met l yX4_isCentre wsX4_isCentre ({ frames := 0, cells := 0, slots := 0, locals := 0 }) (va_Pc [.int v] (ct_P dC dI cA cB sz [])) (va_Qi (fun (r : Int32) (u : Unit) => bo_z r (ce_in v)) (fun (u : Unit) => ct_B dC dI (va_A [] sz) []) (va_A [] sz)) 0 0 (va_A [] sz) := by
  refine Met.ofW (cc := cX4_isCentre) (maxL := 1) (ret := (some .boolean)) (by decide +kernel) rfl ?_
  intro p e s m args below meth c s₁ B hml hv
  obtain ⟨rfl, hsz, hP, hK, hD0, hZ, hN⟩ := hv
  have hx := B.exec
  have hb := B.bytes
  have hr := B.returns
  have hts := atoms_spec (ws := wsX4_isCentre) B.pre
  have hown : s.vm.findClass RX4 = some m.cls := findClass_of_methodNamed B.named
  have hlocks := B.notSynchronized
  subst hsz
  have hD := hD0.self (sz := s.heap.size)
  generalize hAe : va_A [] s.heap.size = A at hD hZ ⊢
  have hA : ∀ q : Nat, s.heap.size ≤ q → A q := fun q h => by rw [← hAe]; exact Or.inr h
  have hl := lv_entry ([.int v]) (n := 1) (Nat.le_of_ble_eq_true rfl)
  rw [lg_entry_eq]
  generalize (lg_sl ([.int v]) ++ List.replicate (1 - (lg_sl ([.int v])).length) Slot.unset).toArray = ls at hl ⊢
  have hl : lv_has ls 1 [(0, .int v)] := hl
  generalize hHe : s.heap = H at hP ⊢
  have hS : va_S A s.heap H [] := by rw [hHe]; exact va_S.rf
  generalize ([] : List Loc) = locs at hS ⊢
  refine lv_iload_n hx hb dX4_isCentre_0 rfl (lv_at hl 0 rfl) ?_
  refine lv_ldc (v := -40000) hx hb hown (hts (.constant RX4 17 (-40000)) (List.mem_of_getElem? (l := wsX4_isCentre) (i := 1) rfl)) dX4_isCentre_1 ?_
  refine lv_icmp_lt (tgt := 16) hx hb dX4_isCentre_3 (by decide) (fun c_3 => ?_) (fun c_3 => ?_)
  · refine lv_iconst (v := 0) hx hb dX4_isCentre_16 (by decide) ?_
    have hP9 := hP.sub (ws' := []) [] rfl
    have hD9 := hD.sub (ws' := []) [] (by decide) rfl
    exact W.zret (v := 0) hx hb hr rfl (fun t9 ht9 hW9 => ⟨⟨0, (), rfl, bo_z.n (fun h => absurd h.1 (Int32.not_le.mpr c_3)), by rw [ht9]; exact hP9, hD9⟩, hS.F ht9⟩) hS.2.2 dX4_isCentre_17
  · refine lv_iload_n hx hb dX4_isCentre_6 rfl (lv_at hl 0 rfl) ?_
    refine lv_ldc (v := 40000) hx hb hown (hts (.constant RX4 9 (40000)) (List.mem_of_getElem? (l := wsX4_isCentre) (i := 2) rfl)) dX4_isCentre_7 ?_
    refine lv_icmp_gt (tgt := 16) hx hb dX4_isCentre_9 (by decide) (fun c_9 => ?_) (fun c_9 => ?_)
    · refine lv_iconst (v := 0) hx hb dX4_isCentre_16 (by decide) ?_
      have hP9 := hP.sub (ws' := []) [] rfl
      have hD9 := hD.sub (ws' := []) [] (by decide) rfl
      exact W.zret (v := 0) hx hb hr rfl (fun t9 ht9 hW9 => ⟨⟨0, (), rfl, bo_z.n (fun h => absurd h.2 (Int32.not_le.mpr c_9)), by rw [ht9]; exact hP9, hD9⟩, hS.F ht9⟩) hS.2.2 dX4_isCentre_17
    · refine lv_iconst (v := 1) hx hb dX4_isCentre_12 (by decide) ?_
      refine lv_goto (tgt := 17) hx hb dX4_isCentre_13 (by decide) ?_
      have hP9 := hP.sub (ws' := []) [] rfl
      have hD9 := hD.sub (ws' := []) [] (by decide) rfl
      exact W.zret (v := 1) hx hb hr rfl (fun t9 ht9 hW9 => ⟨⟨1, (), rfl, bo_z.y ⟨Int32.not_lt.mp c_3, Int32.not_lt.mp c_9⟩, by rw [ht9]; exact hP9, hD9⟩, hS.F ht9⟩) hS.2.2 dX4_isCentre_17
set_option maxHeartbeats 4000000 in
set_option maxRecDepth 100000 in
/-- TickWalksModel.amount -/
theorem rf_amount (l : Launch) (dC : Nat → ClassId) (dI : Nat → Nat → Nat) (cA cB : ClassId) (sz : Nat) (v : Int32) : Met l yX4_amount wsX4_amount ({ frames := 0, cells := 0, slots := 0, locals := 0 }) (va_Pc [.int v] (ct_P dC dI cA cB sz [])) (va_Qi (fun (r : Int32) (u : Unit) => r = am_i v) (fun (u : Unit) => ct_B dC dI (va_A [] sz) []) (va_A [] sz)) 0 0 (va_A [] sz) := by
  refine Met.ofW (cc := cX4_amount) (maxL := 1) (ret := (some .int)) (by decide +kernel) rfl ?_
  intro p e s m args below meth c s₁ B hml hv
  obtain ⟨rfl, hsz, hP, hK, hD0, hZ, hN⟩ := hv
  have hx := B.exec
  have hb := B.bytes
  have hr := B.returns
  have hts := atoms_spec (ws := wsX4_amount) B.pre
  have hown : s.vm.findClass RX4 = some m.cls := findClass_of_methodNamed B.named
  have hlocks := B.notSynchronized
  subst hsz
  have hD := hD0.self (sz := s.heap.size)
  generalize hAe : va_A [] s.heap.size = A at hD hZ ⊢
  have hA : ∀ q : Nat, s.heap.size ≤ q → A q := fun q h => by rw [← hAe]; exact Or.inr h
  have hl := lv_entry ([.int v]) (n := 1) (Nat.le_of_ble_eq_true rfl)
  rw [lg_entry_eq]
  generalize (lg_sl ([.int v]) ++ List.replicate (1 - (lg_sl ([.int v])).length) Slot.unset).toArray = ls at hl ⊢
  have hl : lv_has ls 1 [(0, .int v)] := hl
  generalize hHe : s.heap = H at hP ⊢
  have hS : va_S A s.heap H [] := by rw [hHe]; exact va_S.rf
  generalize ([] : List Loc) = locs at hS ⊢
  refine lv_iload_n hx hb dX4_amount_0 rfl (lv_at hl 0 rfl) ?_
  refine lv_if_ge (tgt := 9) hx hb dX4_amount_1 (by decide) (fun c_1 => ?_) (fun c_1 => ?_)
  · refine lv_iload_n hx hb dX4_amount_9 rfl (lv_at hl 0 rfl) ?_
    have hP9 := hP.sub (ws' := []) [] rfl
    have hD9 := hD.sub (ws' := []) [] (by decide) rfl
    exact W.iret (v := v) hx hb hr (fun t9 ht9 hW9 => ⟨⟨v, (), rfl, am_ge c_1, by rw [ht9]; exact hP9, hD9⟩, hS.F ht9⟩) hS.2.2 dX4_amount_10
  · refine lv_iload_n hx hb dX4_amount_4 rfl (lv_at hl 0 rfl) ?_
    refine lv_ineg hx hb dX4_amount_5 ?_
    refine lv_goto (tgt := 10) hx hb dX4_amount_6 (by decide) ?_
    have hP9 := hP.sub (ws' := []) [] rfl
    have hD9 := hD.sub (ws' := []) [] (by decide) rfl
    exact W.iret (v := -v) hx hb hr (fun t9 ht9 hW9 => ⟨⟨-v, (), rfl, am_lt c_1, by rw [ht9]; exact hP9, hD9⟩, hS.F ht9⟩) hS.2.2 dX4_amount_10
set_option maxHeartbeats 4000000 in
set_option maxRecDepth 100000 in
/-- TickWalksModel.square -/
theorem rf_square (l : Launch) (dC : Nat → ClassId) (dI : Nat → Nat → Nat) (cA cB : ClassId) (sz : Nat) (v : Int64) : Met l yX4_square wsX4_square ({ frames := 0, cells := 0, slots := 0, locals := 0 }) (va_Pc [.long v] (ct_P dC dI cA cB sz [])) (va_Ql (fun (r : Int64) (u : Unit) => r = v * v) (fun (u : Unit) => ct_B dC dI (va_A [] sz) []) (va_A [] sz)) 0 0 (va_A [] sz) := by
  refine Met.ofW (cc := cX4_square) (maxL := 2) (ret := (some .long)) (by decide +kernel) rfl ?_
  intro p e s m args below meth c s₁ B hml hv
  obtain ⟨rfl, hsz, hP, hK, hD0, hZ, hN⟩ := hv
  have hx := B.exec
  have hb := B.bytes
  have hr := B.returns
  have hts := atoms_spec (ws := wsX4_square) B.pre
  have hown : s.vm.findClass RX4 = some m.cls := findClass_of_methodNamed B.named
  have hlocks := B.notSynchronized
  subst hsz
  have hD := hD0.self (sz := s.heap.size)
  generalize hAe : va_A [] s.heap.size = A at hD hZ ⊢
  have hA : ∀ q : Nat, s.heap.size ≤ q → A q := fun q h => by rw [← hAe]; exact Or.inr h
  have hl := lv_entry ([.long v]) (n := 2) (Nat.le_of_ble_eq_true rfl)
  rw [lg_entry_eq]
  generalize (lg_sl ([.long v]) ++ List.replicate (2 - (lg_sl ([.long v])).length) Slot.unset).toArray = ls at hl ⊢
  have hl : lv_has ls 2 [(0, .long v)] := hl
  generalize hHe : s.heap = H at hP ⊢
  have hS : va_S A s.heap H [] := by rw [hHe]; exact va_S.rf
  generalize ([] : List Loc) = locs at hS ⊢
  refine lv_lload_n hx hb dX4_square_0 rfl (lv_at hl 0 rfl) ?_
  refine lv_lload_n hx hb dX4_square_1 rfl (lv_at hl 0 rfl) ?_
  refine lv_lmul hx hb dX4_square_2 ?_
  have hP9 := hP.sub (ws' := []) [] rfl
  have hD9 := hD.sub (ws' := []) [] (by decide) rfl
  exact W.lret (v := v * v) hx hb hr (fun t9 ht9 hW9 => ⟨⟨v * v, (), rfl, rfl, by rw [ht9]; exact hP9, hD9⟩, hS.F ht9⟩) hS.2.2 dX4_square_3
set_option maxHeartbeats 4000000 in
set_option maxRecDepth 100000 in
/-- TickWalksModel.eastOf -/
theorem rf_east (l : Launch) (dC : Nat → ClassId) (dI : Nat → Nat → Nat) (cA cB : ClassId) (sz : Nat) (j : Nat) (hj : j < 8) : Met l yX4_eastOf wsX4_eastOf ({ frames := 0, cells := 0, slots := 0, locals := 0 }) (va_Pc [.int (nI j)] (ct_P dC dI cA cB sz [])) (va_Qi (fun (r : Int32) (u : Unit) => r = st_X j) (fun (u : Unit) => ct_B dC dI (va_A [] sz) []) (va_A [] sz)) 0 0 (va_A [] sz) := by
  refine Met.ofW (cc := cX4_eastOf) (maxL := 1) (ret := (some .int)) (by decide +kernel) rfl ?_
  intro p e s m args below meth c s₁ B hml hv
  obtain ⟨rfl, hsz, hP, hK, hD0, hZ, hN⟩ := hv
  have hx := B.exec
  have hb := B.bytes
  have hr := B.returns
  have hts := atoms_spec (ws := wsX4_eastOf) B.pre
  have hown : s.vm.findClass RX4 = some m.cls := findClass_of_methodNamed B.named
  have hlocks := B.notSynchronized
  subst hsz
  have hD := hD0.self (sz := s.heap.size)
  generalize hAe : va_A [] s.heap.size = A at hD hZ ⊢
  have hA : ∀ q : Nat, s.heap.size ≤ q → A q := fun q h => by rw [← hAe]; exact Or.inr h
  have hl := lv_entry ([.int (nI j)]) (n := 1) (Nat.le_of_ble_eq_true rfl)
  rw [lg_entry_eq]
  generalize (lg_sl ([.int (nI j)]) ++ List.replicate (1 - (lg_sl ([.int (nI j)])).length) Slot.unset).toArray = ls at hl ⊢
  have hl : lv_has ls 1 [(0, .int (nI j))] := hl
  generalize hHe : s.heap = H at hP ⊢
  have hS : va_S A s.heap H [] := by rw [hHe]; exact va_S.rf
  generalize ([] : List Loc) = locs at hS ⊢
  refine lv_iload_n hx hb dX4_eastOf_0 rfl (lv_at hl 0 rfl) ?_
  refine lv_if_eq (tgt := 15) hx hb dX4_eastOf_1 (by decide) (fun c_1 => ?_) (fun c_1 => ?_)
  · refine lv_iconst (v := 1) hx hb dX4_eastOf_15 (by decide) ?_
    refine lv_goto (tgt := 35) hx hb dX4_eastOf_16 (by decide) ?_
    have hP9 := hP.sub (ws' := []) [] rfl
    have hD9 := hD.sub (ws' := []) [] (by decide) rfl
    exact W.iret (v := 1) hx hb hr (fun t9 ht9 hW9 => ⟨⟨1, (), rfl, (by rcases (show j = 0 ∨ j = 1 ∨ j = 2 ∨ j = 3 ∨ j = 4 ∨ j = 5 ∨ j = 6 ∨ j = 7 by omega) with rfl | rfl | rfl | rfl | rfl | rfl | rfl | rfl <;> first | rfl | (revert c_1; decide)), by rw [ht9]; exact hP9, hD9⟩, hS.F ht9⟩) hS.2.2 dX4_eastOf_35
  · refine lv_iload_n hx hb dX4_eastOf_4 rfl (lv_at hl 0 rfl) ?_
    refine lv_iconst (v := 1) hx hb dX4_eastOf_5 (by decide) ?_
    refine lv_icmp_eq (tgt := 15) hx hb dX4_eastOf_6 (by decide) (fun c_6 => ?_) (fun c_6 => ?_)
    · refine lv_iconst (v := 1) hx hb dX4_eastOf_15 (by decide) ?_
      refine lv_goto (tgt := 35) hx hb dX4_eastOf_16 (by decide) ?_
      have hP9 := hP.sub (ws' := []) [] rfl
      have hD9 := hD.sub (ws' := []) [] (by decide) rfl
      exact W.iret (v := 1) hx hb hr (fun t9 ht9 hW9 => ⟨⟨1, (), rfl, (by rcases (show j = 0 ∨ j = 1 ∨ j = 2 ∨ j = 3 ∨ j = 4 ∨ j = 5 ∨ j = 6 ∨ j = 7 by omega) with rfl | rfl | rfl | rfl | rfl | rfl | rfl | rfl <;> first | rfl | (revert c_1 c_6; decide)), by rw [ht9]; exact hP9, hD9⟩, hS.F ht9⟩) hS.2.2 dX4_eastOf_35
    · refine lv_iload_n hx hb dX4_eastOf_9 rfl (lv_at hl 0 rfl) ?_
      refine lv_bipush (v := 7) hx hb dX4_eastOf_10 (by decide) ?_
      refine lv_icmp_ne (tgt := 19) hx hb dX4_eastOf_12 (by decide) (fun c_12 => ?_) (fun c_12 => ?_)
      · refine lv_iload_n hx hb dX4_eastOf_19 rfl (lv_at hl 0 rfl) ?_
        refine lv_iconst (v := 2) hx hb dX4_eastOf_20 (by decide) ?_
        refine lv_icmp_eq (tgt := 30) hx hb dX4_eastOf_21 (by decide) (fun c_21 => ?_) (fun c_21 => ?_)
        · refine lv_iconst (v := 0) hx hb dX4_eastOf_30 (by decide) ?_
          refine lv_goto (tgt := 35) hx hb dX4_eastOf_31 (by decide) ?_
          have hP9 := hP.sub (ws' := []) [] rfl
          have hD9 := hD.sub (ws' := []) [] (by decide) rfl
          exact W.iret (v := 0) hx hb hr (fun t9 ht9 hW9 => ⟨⟨0, (), rfl, (by rcases (show j = 0 ∨ j = 1 ∨ j = 2 ∨ j = 3 ∨ j = 4 ∨ j = 5 ∨ j = 6 ∨ j = 7 by omega) with rfl | rfl | rfl | rfl | rfl | rfl | rfl | rfl <;> first | rfl | (revert c_1 c_6 c_12 c_21; decide)), by rw [ht9]; exact hP9, hD9⟩, hS.F ht9⟩) hS.2.2 dX4_eastOf_35
        · refine lv_iload_n hx hb dX4_eastOf_24 rfl (lv_at hl 0 rfl) ?_
          refine lv_bipush (v := 6) hx hb dX4_eastOf_25 (by decide) ?_
          refine lv_icmp_ne (tgt := 34) hx hb dX4_eastOf_27 (by decide) (fun c_27 => ?_) (fun c_27 => ?_)
          · refine lv_iconst (v := -1) hx hb dX4_eastOf_34 (by decide) ?_
            have hP9 := hP.sub (ws' := []) [] rfl
            have hD9 := hD.sub (ws' := []) [] (by decide) rfl
            exact W.iret (v := -1) hx hb hr (fun t9 ht9 hW9 => ⟨⟨-1, (), rfl, (by rcases (show j = 0 ∨ j = 1 ∨ j = 2 ∨ j = 3 ∨ j = 4 ∨ j = 5 ∨ j = 6 ∨ j = 7 by omega) with rfl | rfl | rfl | rfl | rfl | rfl | rfl | rfl <;> first | rfl | (revert c_1 c_6 c_12 c_21 c_27; decide)), by rw [ht9]; exact hP9, hD9⟩, hS.F ht9⟩) hS.2.2 dX4_eastOf_35
          · refine lv_iconst (v := 0) hx hb dX4_eastOf_30 (by decide) ?_
            refine lv_goto (tgt := 35) hx hb dX4_eastOf_31 (by decide) ?_
            have hP9 := hP.sub (ws' := []) [] rfl
            have hD9 := hD.sub (ws' := []) [] (by decide) rfl
            exact W.iret (v := 0) hx hb hr (fun t9 ht9 hW9 => ⟨⟨0, (), rfl, (by rcases (show j = 0 ∨ j = 1 ∨ j = 2 ∨ j = 3 ∨ j = 4 ∨ j = 5 ∨ j = 6 ∨ j = 7 by omega) with rfl | rfl | rfl | rfl | rfl | rfl | rfl | rfl <;> first | rfl | (revert c_1 c_6 c_12 c_21 c_27; decide)), by rw [ht9]; exact hP9, hD9⟩, hS.F ht9⟩) hS.2.2 dX4_eastOf_35
      · refine lv_iconst (v := 1) hx hb dX4_eastOf_15 (by decide) ?_
        refine lv_goto (tgt := 35) hx hb dX4_eastOf_16 (by decide) ?_
        have hP9 := hP.sub (ws' := []) [] rfl
        have hD9 := hD.sub (ws' := []) [] (by decide) rfl
        exact W.iret (v := 1) hx hb hr (fun t9 ht9 hW9 => ⟨⟨1, (), rfl, (by rcases (show j = 0 ∨ j = 1 ∨ j = 2 ∨ j = 3 ∨ j = 4 ∨ j = 5 ∨ j = 6 ∨ j = 7 by omega) with rfl | rfl | rfl | rfl | rfl | rfl | rfl | rfl <;> first | rfl | (revert c_1 c_6 c_12; decide)), by rw [ht9]; exact hP9, hD9⟩, hS.F ht9⟩) hS.2.2 dX4_eastOf_35
set_option maxHeartbeats 4000000 in
set_option maxRecDepth 100000 in
/-- TickWalksModel.northOf -/
theorem rf_north (l : Launch) (dC : Nat → ClassId) (dI : Nat → Nat → Nat) (cA cB : ClassId) (sz : Nat) (j : Nat) (hj : j < 8) : Met l yX4_northOf wsX4_northOf ({ frames := 0, cells := 0, slots := 0, locals := 0 }) (va_Pc [.int (nI j)] (ct_P dC dI cA cB sz [])) (va_Qi (fun (r : Int32) (u : Unit) => r = st_Y j) (fun (u : Unit) => ct_B dC dI (va_A [] sz) []) (va_A [] sz)) 0 0 (va_A [] sz) := by
  refine Met.ofW (cc := cX4_northOf) (maxL := 1) (ret := (some .int)) (by decide +kernel) rfl ?_
  intro p e s m args below meth c s₁ B hml hv
  obtain ⟨rfl, hsz, hP, hK, hD0, hZ, hN⟩ := hv
  have hx := B.exec
  have hb := B.bytes
  have hr := B.returns
  have hts := atoms_spec (ws := wsX4_northOf) B.pre
  have hown : s.vm.findClass RX4 = some m.cls := findClass_of_methodNamed B.named
  have hlocks := B.notSynchronized
  subst hsz
  have hD := hD0.self (sz := s.heap.size)
  generalize hAe : va_A [] s.heap.size = A at hD hZ ⊢
  have hA : ∀ q : Nat, s.heap.size ≤ q → A q := fun q h => by rw [← hAe]; exact Or.inr h
  have hl := lv_entry ([.int (nI j)]) (n := 1) (Nat.le_of_ble_eq_true rfl)
  rw [lg_entry_eq]
  generalize (lg_sl ([.int (nI j)]) ++ List.replicate (1 - (lg_sl ([.int (nI j)])).length) Slot.unset).toArray = ls at hl ⊢
  have hl : lv_has ls 1 [(0, .int (nI j))] := hl
  generalize hHe : s.heap = H at hP ⊢
  have hS : va_S A s.heap H [] := by rw [hHe]; exact va_S.rf
  generalize ([] : List Loc) = locs at hS ⊢
  refine lv_iload_n hx hb dX4_northOf_0 rfl (lv_at hl 0 rfl) ?_
  refine lv_iconst (v := 1) hx hb dX4_northOf_1 (by decide) ?_
  refine lv_icmp_eq (tgt := 15) hx hb dX4_northOf_2 (by decide) (fun c_2 => ?_) (fun c_2 => ?_)
  · refine lv_iconst (v := 1) hx hb dX4_northOf_15 (by decide) ?_
    refine lv_goto (tgt := 33) hx hb dX4_northOf_16 (by decide) ?_
    have hP9 := hP.sub (ws' := []) [] rfl
    have hD9 := hD.sub (ws' := []) [] (by decide) rfl
    exact W.iret (v := 1) hx hb hr (fun t9 ht9 hW9 => ⟨⟨1, (), rfl, (by rcases (show j = 0 ∨ j = 1 ∨ j = 2 ∨ j = 3 ∨ j = 4 ∨ j = 5 ∨ j = 6 ∨ j = 7 by omega) with rfl | rfl | rfl | rfl | rfl | rfl | rfl | rfl <;> first | rfl | (revert c_2; decide)), by rw [ht9]; exact hP9, hD9⟩, hS.F ht9⟩) hS.2.2 dX4_northOf_33
  · refine lv_iload_n hx hb dX4_northOf_5 rfl (lv_at hl 0 rfl) ?_
    refine lv_iconst (v := 2) hx hb dX4_northOf_6 (by decide) ?_
    refine lv_icmp_eq (tgt := 15) hx hb dX4_northOf_7 (by decide) (fun c_7 => ?_) (fun c_7 => ?_)
    · refine lv_iconst (v := 1) hx hb dX4_northOf_15 (by decide) ?_
      refine lv_goto (tgt := 33) hx hb dX4_northOf_16 (by decide) ?_
      have hP9 := hP.sub (ws' := []) [] rfl
      have hD9 := hD.sub (ws' := []) [] (by decide) rfl
      exact W.iret (v := 1) hx hb hr (fun t9 ht9 hW9 => ⟨⟨1, (), rfl, (by rcases (show j = 0 ∨ j = 1 ∨ j = 2 ∨ j = 3 ∨ j = 4 ∨ j = 5 ∨ j = 6 ∨ j = 7 by omega) with rfl | rfl | rfl | rfl | rfl | rfl | rfl | rfl <;> first | rfl | (revert c_2 c_7; decide)), by rw [ht9]; exact hP9, hD9⟩, hS.F ht9⟩) hS.2.2 dX4_northOf_33
    · refine lv_iload_n hx hb dX4_northOf_10 rfl (lv_at hl 0 rfl) ?_
      refine lv_iconst (v := 3) hx hb dX4_northOf_11 (by decide) ?_
      refine lv_icmp_ne (tgt := 19) hx hb dX4_northOf_12 (by decide) (fun c_12 => ?_) (fun c_12 => ?_)
      · refine lv_iload_n hx hb dX4_northOf_19 rfl (lv_at hl 0 rfl) ?_
        refine lv_if_eq (tgt := 28) hx hb dX4_northOf_20 (by decide) (fun c_20 => ?_) (fun c_20 => ?_)
        · refine lv_iconst (v := 0) hx hb dX4_northOf_28 (by decide) ?_
          refine lv_goto (tgt := 33) hx hb dX4_northOf_29 (by decide) ?_
          have hP9 := hP.sub (ws' := []) [] rfl
          have hD9 := hD.sub (ws' := []) [] (by decide) rfl
          exact W.iret (v := 0) hx hb hr (fun t9 ht9 hW9 => ⟨⟨0, (), rfl, (by rcases (show j = 0 ∨ j = 1 ∨ j = 2 ∨ j = 3 ∨ j = 4 ∨ j = 5 ∨ j = 6 ∨ j = 7 by omega) with rfl | rfl | rfl | rfl | rfl | rfl | rfl | rfl <;> first | rfl | (revert c_2 c_7 c_12 c_20; decide)), by rw [ht9]; exact hP9, hD9⟩, hS.F ht9⟩) hS.2.2 dX4_northOf_33
        · refine lv_iload_n hx hb dX4_northOf_23 rfl (lv_at hl 0 rfl) ?_
          refine lv_iconst (v := 4) hx hb dX4_northOf_24 (by decide) ?_
          refine lv_icmp_ne (tgt := 32) hx hb dX4_northOf_25 (by decide) (fun c_25 => ?_) (fun c_25 => ?_)
          · refine lv_iconst (v := -1) hx hb dX4_northOf_32 (by decide) ?_
            have hP9 := hP.sub (ws' := []) [] rfl
            have hD9 := hD.sub (ws' := []) [] (by decide) rfl
            exact W.iret (v := -1) hx hb hr (fun t9 ht9 hW9 => ⟨⟨-1, (), rfl, (by rcases (show j = 0 ∨ j = 1 ∨ j = 2 ∨ j = 3 ∨ j = 4 ∨ j = 5 ∨ j = 6 ∨ j = 7 by omega) with rfl | rfl | rfl | rfl | rfl | rfl | rfl | rfl <;> first | rfl | (revert c_2 c_7 c_12 c_20 c_25; decide)), by rw [ht9]; exact hP9, hD9⟩, hS.F ht9⟩) hS.2.2 dX4_northOf_33
          · refine lv_iconst (v := 0) hx hb dX4_northOf_28 (by decide) ?_
            refine lv_goto (tgt := 33) hx hb dX4_northOf_29 (by decide) ?_
            have hP9 := hP.sub (ws' := []) [] rfl
            have hD9 := hD.sub (ws' := []) [] (by decide) rfl
            exact W.iret (v := 0) hx hb hr (fun t9 ht9 hW9 => ⟨⟨0, (), rfl, (by rcases (show j = 0 ∨ j = 1 ∨ j = 2 ∨ j = 3 ∨ j = 4 ∨ j = 5 ∨ j = 6 ∨ j = 7 by omega) with rfl | rfl | rfl | rfl | rfl | rfl | rfl | rfl <;> first | rfl | (revert c_2 c_7 c_12 c_20 c_25; decide)), by rw [ht9]; exact hP9, hD9⟩, hS.F ht9⟩) hS.2.2 dX4_northOf_33
      · refine lv_iconst (v := 1) hx hb dX4_northOf_15 (by decide) ?_
        refine lv_goto (tgt := 33) hx hb dX4_northOf_16 (by decide) ?_
        have hP9 := hP.sub (ws' := []) [] rfl
        have hD9 := hD.sub (ws' := []) [] (by decide) rfl
        exact W.iret (v := 1) hx hb hr (fun t9 ht9 hW9 => ⟨⟨1, (), rfl, (by rcases (show j = 0 ∨ j = 1 ∨ j = 2 ∨ j = 3 ∨ j = 4 ∨ j = 5 ∨ j = 6 ∨ j = 7 by omega) with rfl | rfl | rfl | rfl | rfl | rfl | rfl | rfl <;> first | rfl | (revert c_2 c_7 c_12; decide)), by rw [ht9]; exact hP9, hD9⟩, hS.F ht9⟩) hS.2.2 dX4_northOf_33
set_option maxHeartbeats 4000000 in
set_option maxRecDepth 100000 in
/-- TickWalksModel.down -/
theorem rf_down (l : Launch) (dC : Nat → ClassId) (dI : Nat → Nat → Nat) (cA cB : ClassId) (sz : Nat) (a : Int64) (b : Int64) (hb0 : ¬ b = 0) : Met l yX4_down wsX4_down ({ frames := 0, cells := 0, slots := 0, locals := 0 }) (va_Pc [.long a, .long b] (ct_P dC dI cA cB sz [])) (va_Qi (fun (r : Int32) (u : Unit) => r = (fd_d a b).toInt32) (fun (u : Unit) => ct_B dC dI (va_A [] sz) []) (va_A [] sz)) 0 0 (va_A [] sz) := by
  refine Met.ofW (cc := cX4_down) (maxL := 4) (ret := (some .int)) (by decide +kernel) rfl ?_
  intro p e s m args below meth c s₁ B hml hv
  obtain ⟨rfl, hsz, hP, hK, hD0, hZ, hN⟩ := hv
  have hx := B.exec
  have hb := B.bytes
  have hr := B.returns
  have hts := atoms_spec (ws := wsX4_down) B.pre
  have hown : s.vm.findClass RX4 = some m.cls := findClass_of_methodNamed B.named
  have hlocks := B.notSynchronized
  subst hsz
  have hD := hD0.self (sz := s.heap.size)
  generalize hAe : va_A [] s.heap.size = A at hD hZ ⊢
  have hA : ∀ q : Nat, s.heap.size ≤ q → A q := fun q h => by rw [← hAe]; exact Or.inr h
  have hl := lv_entry ([.long a, .long b]) (n := 4) (Nat.le_of_ble_eq_true rfl)
  rw [lg_entry_eq]
  generalize (lg_sl ([.long a, .long b]) ++ List.replicate (4 - (lg_sl ([.long a, .long b])).length) Slot.unset).toArray = ls at hl ⊢
  have hl : lv_has ls 4 [(0, .long a), (2, .long b)] := hl
  generalize hHe : s.heap = H at hP ⊢
  have hS : va_S A s.heap H [] := by rw [hHe]; exact va_S.rf
  generalize ([] : List Loc) = locs at hS ⊢
  refine lv_lload_n hx hb dX4_down_0 rfl (lv_at hl 0 rfl) ?_
  refine lv_lconst (v := 0) hx hb dX4_down_1 (by decide) ?_
  refine W.lcmp hx hb dX4_down_2 ?_
  refine lv_if_ge (tgt := 22) hx hb dX4_down_3 (by decide) (fun c_3 => ?_) (fun c_3 => ?_)
  · refine lv_lload_n hx hb dX4_down_22 rfl (lv_at hl 0 rfl) ?_
    refine lv_lload_n hx hb dX4_down_23 rfl (lv_at hl 1 rfl) ?_
    refine lv_ldiv hx hb dX4_down_24 hb0 ?_
    refine lv_l2i hx hb dX4_down_25 rfl ?_
    have hP9 := hP.sub (ws' := []) [] rfl
    have hD9 := hD.sub (ws' := []) [] (by decide) rfl
    exact W.iret (v := (a / b).toInt32) hx hb hr (fun t9 ht9 hW9 => ⟨⟨(a / b).toInt32, (), rfl, (by unfold fd_d; rw [if_neg (fun h => absurd h.1 (Int64.not_lt.mpr ((lg_cmp_ge a 0).mp c_3)))]), by rw [ht9]; exact hP9, hD9⟩, hS.F ht9⟩) hS.2.2 dX4_down_26
  · refine lv_lload_n hx hb dX4_down_6 rfl (lv_at hl 0 rfl) ?_
    refine lv_lload_n hx hb dX4_down_7 rfl (lv_at hl 1 rfl) ?_
    refine lv_lrem hx hb dX4_down_8 hb0 ?_
    refine lv_lconst (v := 0) hx hb dX4_down_9 (by decide) ?_
    refine W.lcmp hx hb dX4_down_10 ?_
    refine lv_if_eq (tgt := 22) hx hb dX4_down_11 (by decide) (fun c_11 => ?_) (fun c_11 => ?_)
    · refine lv_lload_n hx hb dX4_down_22 rfl (lv_at hl 0 rfl) ?_
      refine lv_lload_n hx hb dX4_down_23 rfl (lv_at hl 1 rfl) ?_
      refine lv_ldiv hx hb dX4_down_24 hb0 ?_
      refine lv_l2i hx hb dX4_down_25 rfl ?_
      have hP9 := hP.sub (ws' := []) [] rfl
      have hD9 := hD.sub (ws' := []) [] (by decide) rfl
      exact W.iret (v := (a / b).toInt32) hx hb hr (fun t9 ht9 hW9 => ⟨⟨(a / b).toInt32, (), rfl, (by unfold fd_d; rw [if_neg (fun h => h.2 ((lg_cmp_eq _ _).mp c_11))]), by rw [ht9]; exact hP9, hD9⟩, hS.F ht9⟩) hS.2.2 dX4_down_26
    · refine lv_lload_n hx hb dX4_down_14 rfl (lv_at hl 0 rfl) ?_
      refine lv_lload_n hx hb dX4_down_15 rfl (lv_at hl 1 rfl) ?_
      refine lv_ldiv hx hb dX4_down_16 hb0 ?_
      refine lv_lconst (v := 1) hx hb dX4_down_17 (by decide) ?_
      refine lv_lsub hx hb dX4_down_18 ?_
      refine lv_goto (tgt := 25) hx hb dX4_down_19 (by decide) ?_
      refine lv_l2i hx hb dX4_down_25 rfl ?_
      have hP9 := hP.sub (ws' := []) [] rfl
      have hD9 := hD.sub (ws' := []) [] (by decide) rfl
      exact W.iret (v := ((a / b) - 1).toInt32) hx hb hr (fun t9 ht9 hW9 => ⟨⟨((a / b) - 1).toInt32, (), rfl, (by unfold fd_d; rw [if_pos ⟨Int64.not_le.mp (fun h => c_3 ((lg_cmp_ge a 0).mpr h)), fun h => c_11 ((lg_cmp_eq _ _).mpr h)⟩]), by rw [ht9]; exact hP9, hD9⟩, hS.F ht9⟩) hS.2.2 dX4_down_26
set_option maxHeartbeats 4000000 in
set_option maxRecDepth 100000 in
/-- Math.floorDiv(long, long) -/
theorem ma_floorDiv (l : Launch) (dC : Nat → ClassId) (dI : Nat → Nat → Nat) (cA cB : ClassId) (sz : Nat) (a : Int64) (b : Int64) (hb0 : ¬ b = 0) : Met l yJ9_floorDiv_f86c9 wsJ9_floorDiv_f86c9 ({ frames := 0, cells := 0, slots := 0, locals := 0 }) (va_Pc [.long a, .long b] (ct_P dC dI cA cB sz [])) (va_Ql (fun (r : Int64) (u : Unit) => r = fd_f a b) (fun (u : Unit) => ct_B dC dI (va_A [] sz) []) (va_A [] sz)) 0 0 (va_A [] sz) := by
  refine va_MetF (cc := cJ9_floorDiv_f86c9) (maxL := 6) (ret := (some .long)) (by decide +kernel) rfl ?_
  intro p e s m args below meth c s₁ B hml hv
  obtain ⟨rfl, hsz, hP, hK, hD0, hZ, hN⟩ := hv
  have hx := B.exec
  have hb := B.bytes
  have hr := B.returns
  have hts := atoms_spec (ws := wsJ9_floorDiv_f86c9) B.pre
  have hown : s.vm.findClass RJ9 = some m.cls := findClass_of_methodNamed B.named
  have hlocks := B.notSynchronized
  subst hsz
  have hD := hD0.self (sz := s.heap.size)
  generalize hAe : va_A [] s.heap.size = A at hD hZ ⊢
  have hA : ∀ q : Nat, s.heap.size ≤ q → A q := fun q h => by rw [← hAe]; exact Or.inr h
  have hl := lv_entry ([.long a, .long b]) (n := 6) (Nat.le_of_ble_eq_true rfl)
  rw [lg_entry_eq]
  generalize (lg_sl ([.long a, .long b]) ++ List.replicate (6 - (lg_sl ([.long a, .long b])).length) Slot.unset).toArray = ls at hl ⊢
  have hl : lv_has ls 6 [(0, .long a), (2, .long b)] := hl
  generalize hHe : s.heap = H at hP ⊢
  have hS : va_S A s.heap H [] := by rw [hHe]; exact va_S.rf
  generalize ([] : List Loc) = locs at hS ⊢
  refine lv_lload_n hx hb dJ9_floorDiv_f86c9_0 rfl (lv_at hl 0 rfl) ?_
  refine lv_lload_n hx hb dJ9_floorDiv_f86c9_1 rfl (lv_at hl 1 rfl) ?_
  refine lv_ldiv hx hb dJ9_floorDiv_f86c9_2 hb0 ?_
  refine lv_lstore (lv' := [(4, .long (a / b)), (0, .long a), (2, .long b)]) hx hb dJ9_floorDiv_f86c9_3 hl (by decide) rfl (fun ls hl => ?_)
  refine lv_lload_n hx hb dJ9_floorDiv_f86c9_5 rfl (lv_at hl 1 rfl) ?_
  refine lv_lload_n hx hb dJ9_floorDiv_f86c9_6 rfl (lv_at hl 2 rfl) ?_
  refine lv_lxor hx hb dJ9_floorDiv_f86c9_7 ?_
  refine lv_lconst (v := 0) hx hb dJ9_floorDiv_f86c9_8 (by decide) ?_
  refine W.lcmp hx hb dJ9_floorDiv_f86c9_9 ?_
  refine lv_if_ge (tgt := 27) hx hb dJ9_floorDiv_f86c9_10 (by decide) (fun c_10 => ?_) (fun c_10 => ?_)
  · refine lv_lload hx hb dJ9_floorDiv_f86c9_27 (lv_at hl 0 rfl) ?_
    have hP9 := hP.sub (ws' := []) [] rfl
    have hD9 := hD.sub (ws' := []) [] (by decide) rfl
    exact W.lret (v := a / b) hx hb hr (fun t9 ht9 hW9 => ⟨⟨a / b, (), rfl, (by unfold fd_f; rw [if_neg (fun h => absurd h.1 (Int64.not_lt.mpr ((lg_cmp_ge (a ^^^ b) 0).mp c_10)))]), by rw [ht9]; exact hP9, hD9⟩, hS.F ht9⟩) hS.2.2 dJ9_floorDiv_f86c9_29
  · refine lv_lload hx hb dJ9_floorDiv_f86c9_13 (lv_at hl 0 rfl) ?_
    refine lv_lload_n hx hb dJ9_floorDiv_f86c9_15 rfl (lv_at hl 2 rfl) ?_
    refine lv_lmul hx hb dJ9_floorDiv_f86c9_16 ?_
    refine lv_lload_n hx hb dJ9_floorDiv_f86c9_17 rfl (lv_at hl 1 rfl) ?_
    refine W.lcmp hx hb dJ9_floorDiv_f86c9_18 ?_
    refine lv_if_eq (tgt := 27) hx hb dJ9_floorDiv_f86c9_19 (by decide) (fun c_19 => ?_) (fun c_19 => ?_)
    · refine lv_lload hx hb dJ9_floorDiv_f86c9_27 (lv_at hl 0 rfl) ?_
      have hP9 := hP.sub (ws' := []) [] rfl
      have hD9 := hD.sub (ws' := []) [] (by decide) rfl
      exact W.lret (v := a / b) hx hb hr (fun t9 ht9 hW9 => ⟨⟨a / b, (), rfl, (by unfold fd_f; rw [if_neg (fun h => h.2 ((lg_cmp_eq _ _).mp c_19))]), by rw [ht9]; exact hP9, hD9⟩, hS.F ht9⟩) hS.2.2 dJ9_floorDiv_f86c9_29
    · refine lv_lload hx hb dJ9_floorDiv_f86c9_22 (lv_at hl 0 rfl) ?_
      refine lv_lconst (v := 1) hx hb dJ9_floorDiv_f86c9_24 (by decide) ?_
      refine lv_lsub hx hb dJ9_floorDiv_f86c9_25 ?_
      have hP9 := hP.sub (ws' := []) [] rfl
      have hD9 := hD.sub (ws' := []) [] (by decide) rfl
      exact W.lret (v := (a / b) - 1) hx hb hr (fun t9 ht9 hW9 => ⟨⟨(a / b) - 1, (), rfl, (by unfold fd_f; rw [if_pos ⟨Int64.not_le.mp (fun h => c_10 ((lg_cmp_ge (a ^^^ b) 0).mpr h)), fun h => c_19 ((lg_cmp_eq _ _).mpr h)⟩]), by rw [ht9]; exact hP9, hD9⟩, hS.F ht9⟩) hS.2.2 dJ9_floorDiv_f86c9_26
