theorem rm_end {vx vy vz cn mn ri : Int32} {N i : Nat} (hN2 : cn = nI N ∧ N < 1000000) (hi : 1 ≤ i ∧ i ≤ N + 1) (h : cn < nI i) (hc : mn = rs_c vx vy vz cn (i - 1)) (hri : i = 1 ∨ ri = 0) : mn = (if ri = 0 then rs_c vx vy vz cn N else 0) := by
  have h1 : nI N < nI i := by rw [← hN2.1]; exact h
  have h2 := (nI_ltI (by omega) (by omega)).mp h1
  have h3 : i - 1 = N := by omega
  rw [h3] at hc
  by_cases h0 : ri = 0
  · rw [if_pos h0]; exact hc
  · rw [if_neg h0]
    rcases hri with g | g
    · have : N = 0 := by omega
      subst this
      exact hc
    · exact absurd g h0
set_option maxHeartbeats 4000000 in
set_option maxRecDepth 100000 in
/-- TickWalksModel.place -/
theorem rm_place (l : Launch) (dC : Nat → ClassId) (dI : Nat → Nat → Nat) (cA cB : ClassId) (sz : Nat) (m0 : Nat) (rx : Int32) (ry : Int32) (rz : Int32) (rw : Int32) (ri : Int32) (ux : Int32) (uy : Int32) (uz : Int32) (vx : Int32) (vy : Int32) (vz : Int32) (cn : Int32) (mo : Int32) (qw : Nat) (qt : Nat) (a : Int32) (b : Int32) (d : Int32) : Met l yX4_place wsX4_place ({ frames := 1, cells := 0, slots := 0, locals := 20 }) (va_Pc [.ref m0, .int a, .int b, .int d] (ct_P dC dI cA cB sz [(m0, .inr (3, [.int rx, .int ry, .int rz, .int rw, .int ri, .int ux, .int uy, .int uz, .int vx, .int vy, .int vz, .int cn, .int mo, .ref qw, .ref qt]))])) (va_Qi (fun (r : Int32) (u : Int32 × Int32 × Int32 × Int32 × Int32 × Int32) => (r = 1 ∧ (pl_in a ∧ pl_in b ∧ pl_in d) ∧ u.1 = a ∧ u.2.1 = b ∧ u.2.2.1 = d ∧ u.2.2.2.1 = 0 ∧ u.2.2.2.2.1 = 0 ∧ u.2.2.2.2.2 = 0) ∨ (r = 0 ∧ ¬ (pl_in a ∧ pl_in b ∧ pl_in d) ∧ u.1 = rx ∧ u.2.1 = ry ∧ u.2.2.1 = rz ∧ u.2.2.2.1 = rw ∧ u.2.2.2.2.1 = cn ∧ u.2.2.2.2.2 = mo)) (fun (u : Int32 × Int32 × Int32 × Int32 × Int32 × Int32) => ct_B dC dI (va_A [(m0, .inr (3, [.int rx, .int ry, .int rz, .int rw, .int ri, .int ux, .int uy, .int uz, .int vx, .int vy, .int vz, .int cn, .int mo, .ref qw, .ref qt]))] sz) [(m0, .inr (3, [.int u.1, .int u.2.1, .int u.2.2.1, .int u.2.2.2.1, .int ri, .int ux, .int uy, .int uz, .int vx, .int vy, .int vz, .int u.2.2.2.2.1, .int u.2.2.2.2.2, .ref qw, .ref qt]))]) (va_A [(m0, .inr (3, [.int rx, .int ry, .int rz, .int rw, .int ri, .int ux, .int uy, .int uz, .int vx, .int vy, .int vz, .int cn, .int mo, .ref qw, .ref qt]))] sz)) 0 0 (va_A [(m0, .inr (3, [.int rx, .int ry, .int rz, .int rw, .int ri, .int ux, .int uy, .int uz, .int vx, .int vy, .int vz, .int cn, .int mo, .ref qw, .ref qt]))] sz) := by
  refine Met.ofW (cc := cX4_place) (maxL := 4) (ret := (some .boolean)) (by decide +kernel) rfl ?_
  intro p e s m args below meth c s₁ B hml hv
  obtain ⟨rfl, hsz, hP, hK, hD0, hZ, hN⟩ := hv
  have hx := B.exec
  have hb := B.bytes
  have hr := B.returns
  have hts := atoms_spec (ws := wsX4_place) B.pre
  have hown : s.vm.findClass RX4 = some m.cls := findClass_of_methodNamed B.named
  have hlocks := B.notSynchronized
  have hiX4 : ∀ w ∈ u_ws RX4 TX4 15, w ∈ wsX4_place := by decide +kernel
  subst hsz
  have hD := hD0.self (sz := s.heap.size)
  generalize hAe : va_A [(m0, .inr (3, [.int rx, .int ry, .int rz, .int rw, .int ri, .int ux, .int uy, .int uz, .int vx, .int vy, .int vz, .int cn, .int mo, .ref qw, .ref qt]))] s.heap.size = A at hD hZ ⊢
  have hA : ∀ q : Nat, s.heap.size ≤ q → A q := fun q h => by rw [← hAe]; exact Or.inr h
  have hl := lv_entry ([.ref m0, .int a, .int b, .int d]) (n := 4) (Nat.le_of_ble_eq_true rfl)
  rw [lg_entry_eq]
  generalize (lg_sl ([.ref m0, .int a, .int b, .int d]) ++ List.replicate (4 - (lg_sl ([.ref m0, .int a, .int b, .int d])).length) Slot.unset).toArray = ls at hl ⊢
  have hl : lv_has ls 4 [(0, .ref m0), (1, .int a), (2, .int b), (3, .int d)] := hl
  generalize hHe : s.heap = H at hP ⊢
  have hS : va_S A s.heap H [] := by rw [hHe]; exact va_S.rf
  generalize ([] : List Loc) = locs at hS ⊢
  refine lv_iload_n hx hb dX4_place_0 rfl (lv_at hl 1 rfl) ?_
  refine ct_calli (va_runS (As := [.int a]) (rest := []) ⟨hx, hb, hml, hown, hts⟩ (rf_isPlace l dC dI cA cB H.size a ) (va_cwS 1 hts gX4_place_X4_isPlace rfl rfl rfl (by decide +kernel) ⟨Nat.le_of_ble_eq_true rfl, Nat.le_of_ble_eq_true rfl⟩) ⟨ct_blind, ct_pre hP hD hK hZ hN hS hA [] rfl (by decide)⟩ rfl rfl hl.1 rfl (lv_room (Nat.le_of_ble_eq_true rfl)) dX4_place_1 ⟨Nat.le_of_ble_eq_true rfl, Nat.le_of_ble_eq_true rfl⟩) hP hD hS hA [] [0] rfl (wr := [(m0, .inr (3, [.int rx, .int ry, .int rz, .int rw, .int ri, .int ux, .int uy, .int uz, .int vx, .int vy, .int vz, .int cn, .int mo, .ref qw, .ref qt]))]) rfl (by decide) (by decide) (fun r_1 u9 H locs hw_1 hP hD hS => ?_)
  have hw_1 : bo_z r_1 (pl_in a) := hw_1
  have hP : va_P (dC, dI) vwCl [(m0, .inr (3, [.int rx, .int ry, .int rz, .int rw, .int ri, .int ux, .int uy, .int uz, .int vx, .int vy, .int vz, .int cn, .int mo, .ref qw, .ref qt]))] H := hP
  have hD : va_D A [(m0, .inr (3, [.int rx, .int ry, .int rz, .int rw, .int ri, .int ux, .int uy, .int uz, .int vx, .int vy, .int vz, .int cn, .int mo, .ref qw, .ref qt]))] := hD
  refine lv_if_eq (tgt := 21) hx hb dX4_place_4 (by decide) (fun c_4 => ?_) (fun c_4 => ?_)
  · refine lv_iconst (v := 0) hx hb dX4_place_21 (by decide) ?_
    have hP9 := hP.sub (ws' := [(m0, .inr (3, [.int rx, .int ry, .int rz, .int rw, .int ri, .int ux, .int uy, .int uz, .int vx, .int vy, .int vz, .int cn, .int mo, .ref qw, .ref qt]))]) [0] rfl
    have hD9 := hD.sub (ws' := [(m0, .inr (3, [.int rx, .int ry, .int rz, .int rw, .int ri, .int ux, .int uy, .int uz, .int vx, .int vy, .int vz, .int cn, .int mo, .ref qw, .ref qt]))]) [0] (by decide) rfl
    exact W.zret (v := 0) hx hb hr rfl (fun t9 ht9 hW9 => ⟨⟨0, (rx, ry, rz, rw, cn, mo), rfl, Or.inr ⟨rfl, (fun h => hw_1.f c_4 h.1), rfl, rfl, rfl, rfl, rfl, rfl⟩, by rw [ht9]; exact hP9, hD9⟩, hS.F ht9⟩) hS.2.2 dX4_place_22
  · refine lv_iload_n hx hb dX4_place_7 rfl (lv_at hl 2 rfl) ?_
    refine ct_calli (va_runS (As := [.int b]) (rest := []) ⟨hx, hb, hml, hown, hts⟩ (rf_isPlace l dC dI cA cB H.size b ) (va_cwS 1 hts gX4_place_X4_isPlace rfl rfl rfl (by decide +kernel) ⟨Nat.le_of_ble_eq_true rfl, Nat.le_of_ble_eq_true rfl⟩) ⟨ct_blind, ct_pre hP hD hK hZ hN hS hA [] rfl (by decide)⟩ rfl rfl hl.1 rfl (lv_room (Nat.le_of_ble_eq_true rfl)) dX4_place_8 ⟨Nat.le_of_ble_eq_true rfl, Nat.le_of_ble_eq_true rfl⟩) hP hD hS hA [] [0] rfl (wr := [(m0, .inr (3, [.int rx, .int ry, .int rz, .int rw, .int ri, .int ux, .int uy, .int uz, .int vx, .int vy, .int vz, .int cn, .int mo, .ref qw, .ref qt]))]) rfl (by decide) (by decide) (fun r_2 u9 H locs hw_2 hP hD hS => ?_)
    have hw_2 : bo_z r_2 (pl_in b) := hw_2
    have hP : va_P (dC, dI) vwCl [(m0, .inr (3, [.int rx, .int ry, .int rz, .int rw, .int ri, .int ux, .int uy, .int uz, .int vx, .int vy, .int vz, .int cn, .int mo, .ref qw, .ref qt]))] H := hP
    have hD : va_D A [(m0, .inr (3, [.int rx, .int ry, .int rz, .int rw, .int ri, .int ux, .int uy, .int uz, .int vx, .int vy, .int vz, .int cn, .int mo, .ref qw, .ref qt]))] := hD
    refine lv_if_eq (tgt := 21) hx hb dX4_place_11 (by decide) (fun c_11 => ?_) (fun c_11 => ?_)
    · refine lv_iconst (v := 0) hx hb dX4_place_21 (by decide) ?_
      have hP9 := hP.sub (ws' := [(m0, .inr (3, [.int rx, .int ry, .int rz, .int rw, .int ri, .int ux, .int uy, .int uz, .int vx, .int vy, .int vz, .int cn, .int mo, .ref qw, .ref qt]))]) [0] rfl
      have hD9 := hD.sub (ws' := [(m0, .inr (3, [.int rx, .int ry, .int rz, .int rw, .int ri, .int ux, .int uy, .int uz, .int vx, .int vy, .int vz, .int cn, .int mo, .ref qw, .ref qt]))]) [0] (by decide) rfl
      exact W.zret (v := 0) hx hb hr rfl (fun t9 ht9 hW9 => ⟨⟨0, (rx, ry, rz, rw, cn, mo), rfl, Or.inr ⟨rfl, (fun h => hw_2.f c_11 h.2.1), rfl, rfl, rfl, rfl, rfl, rfl⟩, by rw [ht9]; exact hP9, hD9⟩, hS.F ht9⟩) hS.2.2 dX4_place_22
    · refine lv_iload_n hx hb dX4_place_14 rfl (lv_at hl 3 rfl) ?_
      refine ct_calli (va_runS (As := [.int d]) (rest := []) ⟨hx, hb, hml, hown, hts⟩ (rf_isPlace l dC dI cA cB H.size d ) (va_cwS 1 hts gX4_place_X4_isPlace rfl rfl rfl (by decide +kernel) ⟨Nat.le_of_ble_eq_true rfl, Nat.le_of_ble_eq_true rfl⟩) ⟨ct_blind, ct_pre hP hD hK hZ hN hS hA [] rfl (by decide)⟩ rfl rfl hl.1 rfl (lv_room (Nat.le_of_ble_eq_true rfl)) dX4_place_15 ⟨Nat.le_of_ble_eq_true rfl, Nat.le_of_ble_eq_true rfl⟩) hP hD hS hA [] [0] rfl (wr := [(m0, .inr (3, [.int rx, .int ry, .int rz, .int rw, .int ri, .int ux, .int uy, .int uz, .int vx, .int vy, .int vz, .int cn, .int mo, .ref qw, .ref qt]))]) rfl (by decide) (by decide) (fun r_3 u9 H locs hw_3 hP hD hS => ?_)
      have hw_3 : bo_z r_3 (pl_in d) := hw_3
      have hP : va_P (dC, dI) vwCl [(m0, .inr (3, [.int rx, .int ry, .int rz, .int rw, .int ri, .int ux, .int uy, .int uz, .int vx, .int vy, .int vz, .int cn, .int mo, .ref qw, .ref qt]))] H := hP
      have hD : va_D A [(m0, .inr (3, [.int rx, .int ry, .int rz, .int rw, .int ri, .int ux, .int uy, .int uz, .int vx, .int vy, .int vz, .int cn, .int mo, .ref qw, .ref qt]))] := hD
      refine lv_if_ne (tgt := 23) hx hb dX4_place_18 (by decide) (fun c_18 => ?_) (fun c_18 => ?_)
      · refine lv_aload_n hx hb dX4_place_23 rfl (lv_at hl 0 rfl) ?_
        refine lv_iload_n hx hb dX4_place_24 rfl (lv_at hl 1 rfl) ?_
        refine va_put (D := (dC, dI)) (ci := 3) (v := .int a) (ty := .int) (C := RX4) (T := TX4) (N := 15) hx hb hts hiX4 tyX4 tyX4_ok nmX4 hown hK hP hD hS 0 rfl rfl 0 (by decide) (hts (.fieldLink RX4 22 "TickWalksModel" "x" "I") (List.mem_of_getElem? (l := wsX4_place) (i := 1) rfl)) (fun _ h9 => h9) rfl (by decide +kernel) rfl rfl (Nat.le_of_ble_eq_true rfl) dX4_place_25 (fun H locs hP hD hS => ?_)
        have hP : va_P (dC, dI) vwCl [(m0, .inr (3, [.int a, .int ry, .int rz, .int rw, .int ri, .int ux, .int uy, .int uz, .int vx, .int vy, .int vz, .int cn, .int mo, .ref qw, .ref qt]))] H := hP
        have hD : va_D A [(m0, .inr (3, [.int a, .int ry, .int rz, .int rw, .int ri, .int ux, .int uy, .int uz, .int vx, .int vy, .int vz, .int cn, .int mo, .ref qw, .ref qt]))] := hD
        refine lv_aload_n hx hb dX4_place_28 rfl (lv_at hl 0 rfl) ?_
        refine lv_iload_n hx hb dX4_place_29 rfl (lv_at hl 2 rfl) ?_
        refine va_put (D := (dC, dI)) (ci := 3) (v := .int b) (ty := .int) (C := RX4) (T := TX4) (N := 15) hx hb hts hiX4 tyX4 tyX4_ok nmX4 hown hK hP hD hS 0 rfl rfl 1 (by decide) (hts (.fieldLink RX4 26 "TickWalksModel" "y" "I") (List.mem_of_getElem? (l := wsX4_place) (i := 2) rfl)) (fun _ h9 => h9) rfl (by decide +kernel) rfl rfl (Nat.le_of_ble_eq_true rfl) dX4_place_30 (fun H locs hP hD hS => ?_)
        have hP : va_P (dC, dI) vwCl [(m0, .inr (3, [.int a, .int b, .int rz, .int rw, .int ri, .int ux, .int uy, .int uz, .int vx, .int vy, .int vz, .int cn, .int mo, .ref qw, .ref qt]))] H := hP
        have hD : va_D A [(m0, .inr (3, [.int a, .int b, .int rz, .int rw, .int ri, .int ux, .int uy, .int uz, .int vx, .int vy, .int vz, .int cn, .int mo, .ref qw, .ref qt]))] := hD
        refine lv_aload_n hx hb dX4_place_33 rfl (lv_at hl 0 rfl) ?_
        refine lv_iload_n hx hb dX4_place_34 rfl (lv_at hl 3 rfl) ?_
        refine va_put (D := (dC, dI)) (ci := 3) (v := .int d) (ty := .int) (C := RX4) (T := TX4) (N := 15) hx hb hts hiX4 tyX4 tyX4_ok nmX4 hown hK hP hD hS 0 rfl rfl 2 (by decide) (hts (.fieldLink RX4 29 "TickWalksModel" "z" "I") (List.mem_of_getElem? (l := wsX4_place) (i := 3) rfl)) (fun _ h9 => h9) rfl (by decide +kernel) rfl rfl (Nat.le_of_ble_eq_true rfl) dX4_place_35 (fun H locs hP hD hS => ?_)
        have hP : va_P (dC, dI) vwCl [(m0, .inr (3, [.int a, .int b, .int d, .int rw, .int ri, .int ux, .int uy, .int uz, .int vx, .int vy, .int vz, .int cn, .int mo, .ref qw, .ref qt]))] H := hP
        have hD : va_D A [(m0, .inr (3, [.int a, .int b, .int d, .int rw, .int ri, .int ux, .int uy, .int uz, .int vx, .int vy, .int vz, .int cn, .int mo, .ref qw, .ref qt]))] := hD
        refine lv_aload_n hx hb dX4_place_38 rfl (lv_at hl 0 rfl) ?_
        refine lv_iconst (v := 0) hx hb dX4_place_39 (by decide) ?_
        refine va_put (D := (dC, dI)) (ci := 3) (v := .int 0) (ty := .boolean) (C := RX4) (T := TX4) (N := 15) hx hb hts hiX4 tyX4 tyX4_ok nmX4 hown hK hP hD hS 0 rfl rfl 3 (by decide) (hts (.fieldLink RX4 32 "TickWalksModel" "walked" "Z") (List.mem_of_getElem? (l := wsX4_place) (i := 4) rfl)) (fun _ h9 => h9) rfl (by decide +kernel) rfl rfl (Nat.le_of_ble_eq_true rfl) dX4_place_40 (fun H locs hP hD hS => ?_)
        have hP : va_P (dC, dI) vwCl [(m0, .inr (3, [.int a, .int b, .int d, .int 0, .int ri, .int ux, .int uy, .int uz, .int vx, .int vy, .int vz, .int cn, .int mo, .ref qw, .ref qt]))] H := hP
        have hD : va_D A [(m0, .inr (3, [.int a, .int b, .int d, .int 0, .int ri, .int ux, .int uy, .int uz, .int vx, .int vy, .int vz, .int cn, .int mo, .ref qw, .ref qt]))] := hD
        refine lv_aload_n hx hb dX4_place_43 rfl (lv_at hl 0 rfl) ?_
        refine lv_iconst (v := 0) hx hb dX4_place_44 (by decide) ?_
        refine va_put (D := (dC, dI)) (ci := 3) (v := .int 0) (ty := .int) (C := RX4) (T := TX4) (N := 15) hx hb hts hiX4 tyX4 tyX4_ok nmX4 hown hK hP hD hS 0 rfl rfl 11 (by decide) (hts (.fieldLink RX4 36 "TickWalksModel" "count" "I") (List.mem_of_getElem? (l := wsX4_place) (i := 5) rfl)) (fun _ h9 => h9) rfl (by decide +kernel) rfl rfl (Nat.le_of_ble_eq_true rfl) dX4_place_45 (fun H locs hP hD hS => ?_)
        have hP : va_P (dC, dI) vwCl [(m0, .inr (3, [.int a, .int b, .int d, .int 0, .int ri, .int ux, .int uy, .int uz, .int vx, .int vy, .int vz, .int 0, .int mo, .ref qw, .ref qt]))] H := hP
        have hD : va_D A [(m0, .inr (3, [.int a, .int b, .int d, .int 0, .int ri, .int ux, .int uy, .int uz, .int vx, .int vy, .int vz, .int 0, .int mo, .ref qw, .ref qt]))] := hD
        refine lv_aload_n hx hb dX4_place_48 rfl (lv_at hl 0 rfl) ?_
        refine lv_iconst (v := 0) hx hb dX4_place_49 (by decide) ?_
        refine va_put (D := (dC, dI)) (ci := 3) (v := .int 0) (ty := .int) (C := RX4) (T := TX4) (N := 15) hx hb hts hiX4 tyX4 tyX4_ok nmX4 hown hK hP hD hS 0 rfl rfl 12 (by decide) (hts (.fieldLink RX4 39 "TickWalksModel" "most" "I") (List.mem_of_getElem? (l := wsX4_place) (i := 6) rfl)) (fun _ h9 => h9) rfl (by decide +kernel) rfl rfl (Nat.le_of_ble_eq_true rfl) dX4_place_50 (fun H locs hP hD hS => ?_)
        have hP : va_P (dC, dI) vwCl [(m0, .inr (3, [.int a, .int b, .int d, .int 0, .int ri, .int ux, .int uy, .int uz, .int vx, .int vy, .int vz, .int 0, .int 0, .ref qw, .ref qt]))] H := hP
        have hD : va_D A [(m0, .inr (3, [.int a, .int b, .int d, .int 0, .int ri, .int ux, .int uy, .int uz, .int vx, .int vy, .int vz, .int 0, .int 0, .ref qw, .ref qt]))] := hD
        refine lv_iconst (v := 1) hx hb dX4_place_53 (by decide) ?_
        have hP9 := hP.sub (ws' := [(m0, .inr (3, [.int a, .int b, .int d, .int 0, .int ri, .int ux, .int uy, .int uz, .int vx, .int vy, .int vz, .int 0, .int 0, .ref qw, .ref qt]))]) [0] rfl
        have hD9 := hD.sub (ws' := [(m0, .inr (3, [.int a, .int b, .int d, .int 0, .int ri, .int ux, .int uy, .int uz, .int vx, .int vy, .int vz, .int 0, .int 0, .ref qw, .ref qt]))]) [0] (by decide) rfl
        exact W.zret (v := 1) hx hb hr rfl (fun t9 ht9 hW9 => ⟨⟨1, (a, b, d, 0, 0, 0), rfl, Or.inl ⟨rfl, ⟨hw_1.t c_4, hw_2.t c_11, hw_3.t c_18⟩, rfl, rfl, rfl, rfl, rfl, rfl⟩, by rw [ht9]; exact hP9, hD9⟩, hS.F ht9⟩) hS.2.2 dX4_place_54
      · refine lv_iconst (v := 0) hx hb dX4_place_21 (by decide) ?_
        have hP9 := hP.sub (ws' := [(m0, .inr (3, [.int rx, .int ry, .int rz, .int rw, .int ri, .int ux, .int uy, .int uz, .int vx, .int vy, .int vz, .int cn, .int mo, .ref qw, .ref qt]))]) [0] rfl
        have hD9 := hD.sub (ws' := [(m0, .inr (3, [.int rx, .int ry, .int rz, .int rw, .int ri, .int ux, .int uy, .int uz, .int vx, .int vy, .int vz, .int cn, .int mo, .ref qw, .ref qt]))]) [0] (by decide) rfl
        exact W.zret (v := 0) hx hb hr rfl (fun t9 ht9 hW9 => ⟨⟨0, (rx, ry, rz, rw, cn, mo), rfl, Or.inr ⟨rfl, (fun h => hw_3.f c_18 h.2.2), rfl, rfl, rfl, rfl, rfl, rfl⟩, by rw [ht9]; exact hP9, hD9⟩, hS.F ht9⟩) hS.2.2 dX4_place_22
set_option maxHeartbeats 4000000 in
set_option maxRecDepth 100000 in
/-- TickWalksModel.begin -/
theorem rm_begin (l : Launch) (dC : Nat → ClassId) (dI : Nat → Nat → Nat) (cA cB : ClassId) (sz : Nat) (m0 : Nat) (rx : Int32) (ry : Int32) (rz : Int32) (rw : Int32) (ri : Int32) (ux : Int32) (uy : Int32) (uz : Int32) (vx : Int32) (vy : Int32) (vz : Int32) (cn : Int32) (mo : Int32) (qw : Nat) (qt : Nat) (ab : Int32) (nn : Int32) (hab : ab = 0 ∨ ab = 1) : Met l yX4_begin wsX4_begin ({ frames := 0, cells := 0, slots := 0, locals := 0 }) (va_Pc [.ref m0, .int ab, .int nn] (ct_P dC dI cA cB sz [(m0, .inr (3, [.int rx, .int ry, .int rz, .int rw, .int ri, .int ux, .int uy, .int uz, .int vx, .int vy, .int vz, .int cn, .int mo, .ref qw, .ref qt]))])) (va_Qv (fun (u : Unit) => True) (fun (u : Unit) => ct_B dC dI (va_A [(m0, .inr (3, [.int rx, .int ry, .int rz, .int rw, .int ri, .int ux, .int uy, .int uz, .int vx, .int vy, .int vz, .int cn, .int mo, .ref qw, .ref qt]))] sz) [(m0, .inr (3, [.int rx, .int ry, .int rz, .int 1, .int ab, .int rx, .int ry, .int rz, .int vx, .int vy, .int vz, .int nn, .int 0, .ref qw, .ref qt]))]) (va_A [(m0, .inr (3, [.int rx, .int ry, .int rz, .int rw, .int ri, .int ux, .int uy, .int uz, .int vx, .int vy, .int vz, .int cn, .int mo, .ref qw, .ref qt]))] sz)) 0 0 (va_A [(m0, .inr (3, [.int rx, .int ry, .int rz, .int rw, .int ri, .int ux, .int uy, .int uz, .int vx, .int vy, .int vz, .int cn, .int mo, .ref qw, .ref qt]))] sz) := by
  refine Met.ofW (cc := cX4_begin) (maxL := 3) (ret := none) (by decide +kernel) rfl ?_
  intro p e s m args below meth c s₁ B hml hv
  obtain ⟨rfl, hsz, hP, hK, hD0, hZ, hN⟩ := hv
  have hx := B.exec
  have hb := B.bytes
  have hr := B.returns
  have hts := atoms_spec (ws := wsX4_begin) B.pre
  have hown : s.vm.findClass RX4 = some m.cls := findClass_of_methodNamed B.named
  have hlocks := B.notSynchronized
  have hiX4 : ∀ w ∈ u_ws RX4 TX4 15, w ∈ wsX4_begin := by decide +kernel
  subst hsz
  have hD := hD0.self (sz := s.heap.size)
  generalize hAe : va_A [(m0, .inr (3, [.int rx, .int ry, .int rz, .int rw, .int ri, .int ux, .int uy, .int uz, .int vx, .int vy, .int vz, .int cn, .int mo, .ref qw, .ref qt]))] s.heap.size = A at hD hZ ⊢
  have hA : ∀ q : Nat, s.heap.size ≤ q → A q := fun q h => by rw [← hAe]; exact Or.inr h
  have hl := lv_entry ([.ref m0, .int ab, .int nn]) (n := 3) (Nat.le_of_ble_eq_true rfl)
  rw [lg_entry_eq]
  generalize (lg_sl ([.ref m0, .int ab, .int nn]) ++ List.replicate (3 - (lg_sl ([.ref m0, .int ab, .int nn])).length) Slot.unset).toArray = ls at hl ⊢
  have hl : lv_has ls 3 [(0, .ref m0), (1, .int ab), (2, .int nn)] := hl
  generalize hHe : s.heap = H at hP ⊢
  have hS : va_S A s.heap H [] := by rw [hHe]; exact va_S.rf
  generalize ([] : List Loc) = locs at hS ⊢
  refine lv_aload_n hx hb dX4_begin_0 rfl (lv_at hl 0 rfl) ?_
  refine lv_iconst (v := 1) hx hb dX4_begin_1 (by decide) ?_
  refine va_put (D := (dC, dI)) (ci := 3) (v := .int 1) (ty := .boolean) (C := RX4) (T := TX4) (N := 15) hx hb hts hiX4 tyX4 tyX4_ok nmX4 hown hK hP hD hS 0 rfl rfl 3 (by decide) (hts (.fieldLink RX4 32 "TickWalksModel" "walked" "Z") (List.mem_of_getElem? (l := wsX4_begin) (i := 1) rfl)) (fun _ h9 => h9) rfl (by decide +kernel) rfl rfl (Nat.le_of_ble_eq_true rfl) dX4_begin_2 (fun H locs hP hD hS => ?_)
  have hP : va_P (dC, dI) vwCl [(m0, .inr (3, [.int rx, .int ry, .int rz, .int 1, .int ri, .int ux, .int uy, .int uz, .int vx, .int vy, .int vz, .int cn, .int mo, .ref qw, .ref qt]))] H := hP
  have hD : va_D A [(m0, .inr (3, [.int rx, .int ry, .int rz, .int 1, .int ri, .int ux, .int uy, .int uz, .int vx, .int vy, .int vz, .int cn, .int mo, .ref qw, .ref qt]))] := hD
  refine lv_aload_n hx hb dX4_begin_5 rfl (lv_at hl 0 rfl) ?_
  refine lv_iload_n hx hb dX4_begin_6 rfl (lv_at hl 1 rfl) ?_
  refine va_put (D := (dC, dI)) (ci := 3) (v := .int ab) (ty := .boolean) (C := RX4) (T := TX4) (N := 15) hx hb hts hiX4 tyX4 tyX4_ok nmX4 hown hK hP hD hS 0 rfl rfl 4 (by decide) (hts (.fieldLink RX4 42 "TickWalksModel" "isArc" "Z") (List.mem_of_getElem? (l := wsX4_begin) (i := 2) rfl)) (fun _ h9 => h9) rfl (by decide +kernel) (by rcases hab with h | h <;> rw [h] <;> rfl) (by rcases hab with h | h <;> rw [h] <;> rfl) (Nat.le_of_ble_eq_true rfl) dX4_begin_7 (fun H locs hP hD hS => ?_)
  have hP : va_P (dC, dI) vwCl [(m0, .inr (3, [.int rx, .int ry, .int rz, .int 1, .int ab, .int ux, .int uy, .int uz, .int vx, .int vy, .int vz, .int cn, .int mo, .ref qw, .ref qt]))] H := hP
  have hD : va_D A [(m0, .inr (3, [.int rx, .int ry, .int rz, .int 1, .int ab, .int ux, .int uy, .int uz, .int vx, .int vy, .int vz, .int cn, .int mo, .ref qw, .ref qt]))] := hD
  refine lv_aload_n hx hb dX4_begin_10 rfl (lv_at hl 0 rfl) ?_
  refine lv_aload_n hx hb dX4_begin_11 rfl (lv_at hl 0 rfl) ?_
  refine va_get (D := (dC, dI)) (ci := 3) (v := .int rx) (C := RX4) (T := TX4) (N := 15) hx hb hts hiX4 hown hK hP 0 rfl rfl 0 (by decide) (hts (.fieldLink RX4 22 "TickWalksModel" "x" "I") (List.mem_of_getElem? (l := wsX4_begin) (i := 3) rfl)) (fun _ h9 => h9) rfl dX4_begin_12 ?_
  refine va_put (D := (dC, dI)) (ci := 3) (v := .int rx) (ty := .int) (C := RX4) (T := TX4) (N := 15) hx hb hts hiX4 tyX4 tyX4_ok nmX4 hown hK hP hD hS 0 rfl rfl 5 (by decide) (hts (.fieldLink RX4 45 "TickWalksModel" "fromX" "I") (List.mem_of_getElem? (l := wsX4_begin) (i := 4) rfl)) (fun _ h9 => h9) rfl (by decide +kernel) rfl rfl (Nat.le_of_ble_eq_true rfl) dX4_begin_15 (fun H locs hP hD hS => ?_)
  have hP : va_P (dC, dI) vwCl [(m0, .inr (3, [.int rx, .int ry, .int rz, .int 1, .int ab, .int rx, .int uy, .int uz, .int vx, .int vy, .int vz, .int cn, .int mo, .ref qw, .ref qt]))] H := hP
  have hD : va_D A [(m0, .inr (3, [.int rx, .int ry, .int rz, .int 1, .int ab, .int rx, .int uy, .int uz, .int vx, .int vy, .int vz, .int cn, .int mo, .ref qw, .ref qt]))] := hD
  refine lv_aload_n hx hb dX4_begin_18 rfl (lv_at hl 0 rfl) ?_
  refine lv_aload_n hx hb dX4_begin_19 rfl (lv_at hl 0 rfl) ?_
  refine va_get (D := (dC, dI)) (ci := 3) (v := .int ry) (C := RX4) (T := TX4) (N := 15) hx hb hts hiX4 hown hK hP 0 rfl rfl 1 (by decide) (hts (.fieldLink RX4 26 "TickWalksModel" "y" "I") (List.mem_of_getElem? (l := wsX4_begin) (i := 5) rfl)) (fun _ h9 => h9) rfl dX4_begin_20 ?_
  refine va_put (D := (dC, dI)) (ci := 3) (v := .int ry) (ty := .int) (C := RX4) (T := TX4) (N := 15) hx hb hts hiX4 tyX4 tyX4_ok nmX4 hown hK hP hD hS 0 rfl rfl 6 (by decide) (hts (.fieldLink RX4 48 "TickWalksModel" "fromY" "I") (List.mem_of_getElem? (l := wsX4_begin) (i := 6) rfl)) (fun _ h9 => h9) rfl (by decide +kernel) rfl rfl (Nat.le_of_ble_eq_true rfl) dX4_begin_23 (fun H locs hP hD hS => ?_)
  have hP : va_P (dC, dI) vwCl [(m0, .inr (3, [.int rx, .int ry, .int rz, .int 1, .int ab, .int rx, .int ry, .int uz, .int vx, .int vy, .int vz, .int cn, .int mo, .ref qw, .ref qt]))] H := hP
  have hD : va_D A [(m0, .inr (3, [.int rx, .int ry, .int rz, .int 1, .int ab, .int rx, .int ry, .int uz, .int vx, .int vy, .int vz, .int cn, .int mo, .ref qw, .ref qt]))] := hD
  refine lv_aload_n hx hb dX4_begin_26 rfl (lv_at hl 0 rfl) ?_
  refine lv_aload_n hx hb dX4_begin_27 rfl (lv_at hl 0 rfl) ?_
  refine va_get (D := (dC, dI)) (ci := 3) (v := .int rz) (C := RX4) (T := TX4) (N := 15) hx hb hts hiX4 hown hK hP 0 rfl rfl 2 (by decide) (hts (.fieldLink RX4 29 "TickWalksModel" "z" "I") (List.mem_of_getElem? (l := wsX4_begin) (i := 7) rfl)) (fun _ h9 => h9) rfl dX4_begin_28 ?_
  refine va_put (D := (dC, dI)) (ci := 3) (v := .int rz) (ty := .int) (C := RX4) (T := TX4) (N := 15) hx hb hts hiX4 tyX4 tyX4_ok nmX4 hown hK hP hD hS 0 rfl rfl 7 (by decide) (hts (.fieldLink RX4 51 "TickWalksModel" "fromZ" "I") (List.mem_of_getElem? (l := wsX4_begin) (i := 8) rfl)) (fun _ h9 => h9) rfl (by decide +kernel) rfl rfl (Nat.le_of_ble_eq_true rfl) dX4_begin_31 (fun H locs hP hD hS => ?_)
  have hP : va_P (dC, dI) vwCl [(m0, .inr (3, [.int rx, .int ry, .int rz, .int 1, .int ab, .int rx, .int ry, .int rz, .int vx, .int vy, .int vz, .int cn, .int mo, .ref qw, .ref qt]))] H := hP
  have hD : va_D A [(m0, .inr (3, [.int rx, .int ry, .int rz, .int 1, .int ab, .int rx, .int ry, .int rz, .int vx, .int vy, .int vz, .int cn, .int mo, .ref qw, .ref qt]))] := hD
  refine lv_aload_n hx hb dX4_begin_34 rfl (lv_at hl 0 rfl) ?_
  refine lv_iload_n hx hb dX4_begin_35 rfl (lv_at hl 2 rfl) ?_
  refine va_put (D := (dC, dI)) (ci := 3) (v := .int nn) (ty := .int) (C := RX4) (T := TX4) (N := 15) hx hb hts hiX4 tyX4 tyX4_ok nmX4 hown hK hP hD hS 0 rfl rfl 11 (by decide) (hts (.fieldLink RX4 36 "TickWalksModel" "count" "I") (List.mem_of_getElem? (l := wsX4_begin) (i := 9) rfl)) (fun _ h9 => h9) rfl (by decide +kernel) rfl rfl (Nat.le_of_ble_eq_true rfl) dX4_begin_36 (fun H locs hP hD hS => ?_)
  have hP : va_P (dC, dI) vwCl [(m0, .inr (3, [.int rx, .int ry, .int rz, .int 1, .int ab, .int rx, .int ry, .int rz, .int vx, .int vy, .int vz, .int nn, .int mo, .ref qw, .ref qt]))] H := hP
  have hD : va_D A [(m0, .inr (3, [.int rx, .int ry, .int rz, .int 1, .int ab, .int rx, .int ry, .int rz, .int vx, .int vy, .int vz, .int nn, .int mo, .ref qw, .ref qt]))] := hD
  refine lv_aload_n hx hb dX4_begin_39 rfl (lv_at hl 0 rfl) ?_
  refine lv_iconst (v := 0) hx hb dX4_begin_40 (by decide) ?_
  refine va_put (D := (dC, dI)) (ci := 3) (v := .int 0) (ty := .int) (C := RX4) (T := TX4) (N := 15) hx hb hts hiX4 tyX4 tyX4_ok nmX4 hown hK hP hD hS 0 rfl rfl 12 (by decide) (hts (.fieldLink RX4 39 "TickWalksModel" "most" "I") (List.mem_of_getElem? (l := wsX4_begin) (i := 10) rfl)) (fun _ h9 => h9) rfl (by decide +kernel) rfl rfl (Nat.le_of_ble_eq_true rfl) dX4_begin_41 (fun H locs hP hD hS => ?_)
  have hP : va_P (dC, dI) vwCl [(m0, .inr (3, [.int rx, .int ry, .int rz, .int 1, .int ab, .int rx, .int ry, .int rz, .int vx, .int vy, .int vz, .int nn, .int 0, .ref qw, .ref qt]))] H := hP
  have hD : va_D A [(m0, .inr (3, [.int rx, .int ry, .int rz, .int 1, .int ab, .int rx, .int ry, .int rz, .int vx, .int vy, .int vz, .int nn, .int 0, .ref qw, .ref qt]))] := hD
  have hP9 := hP.sub (ws' := [(m0, .inr (3, [.int rx, .int ry, .int rz, .int 1, .int ab, .int rx, .int ry, .int rz, .int vx, .int vy, .int vz, .int nn, .int 0, .ref qw, .ref qt]))]) [0] rfl
  have hD9 := hD.sub (ws' := [(m0, .inr (3, [.int rx, .int ry, .int rz, .int 1, .int ab, .int rx, .int ry, .int rz, .int vx, .int vy, .int vz, .int nn, .int 0, .ref qw, .ref qt]))]) [0] (by decide) rfl
  exact W.vret hx hb hr (fun t9 ht9 hW9 => ⟨⟨(), rfl, trivial, by rw [ht9]; exact hP9, hD9⟩, hS.F ht9⟩) hS.2.2 dX4_begin_44
set_option maxHeartbeats 4000000 in
set_option maxRecDepth 100000 in
/-- TickWalksModel.line -/
theorem rm_line (l : Launch) (dC : Nat → ClassId) (dI : Nat → Nat → Nat) (cA cB : ClassId) (sz : Nat) (m0 : Nat) (rx : Int32) (ry : Int32) (rz : Int32) (rw : Int32) (ri : Int32) (ux : Int32) (uy : Int32) (uz : Int32) (vx : Int32) (vy : Int32) (vz : Int32) (cn : Int32) (mo : Int32) (qw : Nat) (qt : Nat) (a : Int32) (b : Int32) (d : Int32) : Met l yX4_line wsX4_line ({ frames := 1, cells := 0, slots := 0, locals := 22 }) (va_Pc [.ref m0, .int a, .int b, .int d] (ct_P dC dI cA cB sz [(m0, .inr (3, [.int rx, .int ry, .int rz, .int rw, .int ri, .int ux, .int uy, .int uz, .int vx, .int vy, .int vz, .int cn, .int mo, .ref qw, .ref qt]))])) (va_Qi (fun (r : Int32) (u : Int32 × Int32 × Int32 × Int32 × Int32 × Int32 × Int32 × Int32 × Int32 × Int32 × Int32 × Int32 × Int32) => (r = u.2.2.2.2.2.2.2.2.2.2.2.1 ∧ (pl_in a ∧ pl_in b ∧ pl_in d) ∧ (u.1 = a ∧ u.2.1 = b ∧ u.2.2.1 = d) ∧ (u.2.2.2.1 = 1 ∧ u.2.2.2.2.1 = 0) ∧ (u.2.2.2.2.2.1 = rx ∧ u.2.2.2.2.2.2.1 = ry ∧ u.2.2.2.2.2.2.2.1 = rz) ∧ (u.2.2.2.2.2.2.2.2.1 = a - rx ∧ u.2.2.2.2.2.2.2.2.2.1 = b - ry ∧ u.2.2.2.2.2.2.2.2.2.2.1 = d - rz) ∧ u.2.2.2.2.2.2.2.2.2.2.2.1 = mx_i (am_i u.2.2.2.2.2.2.2.2.1) (mx_i (am_i u.2.2.2.2.2.2.2.2.2.1) (am_i u.2.2.2.2.2.2.2.2.2.2.1)) ∧ u.2.2.2.2.2.2.2.2.2.2.2.2 = 0) ∨ (r = -1 ∧ ¬ (pl_in a ∧ pl_in b ∧ pl_in d) ∧ (u.1 = rx ∧ u.2.1 = ry ∧ u.2.2.1 = rz) ∧ (u.2.2.2.1 = rw ∧ u.2.2.2.2.1 = ri) ∧ (u.2.2.2.2.2.1 = ux ∧ u.2.2.2.2.2.2.1 = uy ∧ u.2.2.2.2.2.2.2.1 = uz) ∧ (u.2.2.2.2.2.2.2.2.1 = vx ∧ u.2.2.2.2.2.2.2.2.2.1 = vy ∧ u.2.2.2.2.2.2.2.2.2.2.1 = vz) ∧ u.2.2.2.2.2.2.2.2.2.2.2.1 = cn ∧ u.2.2.2.2.2.2.2.2.2.2.2.2 = mo)) (fun (u : Int32 × Int32 × Int32 × Int32 × Int32 × Int32 × Int32 × Int32 × Int32 × Int32 × Int32 × Int32 × Int32) => ct_B dC dI (va_A [(m0, .inr (3, [.int rx, .int ry, .int rz, .int rw, .int ri, .int ux, .int uy, .int uz, .int vx, .int vy, .int vz, .int cn, .int mo, .ref qw, .ref qt]))] sz) [(m0, .inr (3, [.int u.1, .int u.2.1, .int u.2.2.1, .int u.2.2.2.1, .int u.2.2.2.2.1, .int u.2.2.2.2.2.1, .int u.2.2.2.2.2.2.1, .int u.2.2.2.2.2.2.2.1, .int u.2.2.2.2.2.2.2.2.1, .int u.2.2.2.2.2.2.2.2.2.1, .int u.2.2.2.2.2.2.2.2.2.2.1, .int u.2.2.2.2.2.2.2.2.2.2.2.1, .int u.2.2.2.2.2.2.2.2.2.2.2.2, .ref qw, .ref qt]))]) (va_A [(m0, .inr (3, [.int rx, .int ry, .int rz, .int rw, .int ri, .int ux, .int uy, .int uz, .int vx, .int vy, .int vz, .int cn, .int mo, .ref qw, .ref qt]))] sz)) 0 0 (va_A [(m0, .inr (3, [.int rx, .int ry, .int rz, .int rw, .int ri, .int ux, .int uy, .int uz, .int vx, .int vy, .int vz, .int cn, .int mo, .ref qw, .ref qt]))] sz) := by
  refine Met.ofW (cc := cX4_line) (maxL := 4) (ret := (some .int)) (by decide +kernel) rfl ?_
  intro p e s m args below meth c s₁ B hml hv
  obtain ⟨rfl, hsz, hP, hK, hD0, hZ, hN⟩ := hv
  have hx := B.exec
  have hb := B.bytes
  have hr := B.returns
  have hts := atoms_spec (ws := wsX4_line) B.pre
  have hown : s.vm.findClass RX4 = some m.cls := findClass_of_methodNamed B.named
  have hlocks := B.notSynchronized
  have hiX4 : ∀ w ∈ u_ws RX4 TX4 15, w ∈ wsX4_line := by decide +kernel
  subst hsz
  have hD := hD0.self (sz := s.heap.size)
  generalize hAe : va_A [(m0, .inr (3, [.int rx, .int ry, .int rz, .int rw, .int ri, .int ux, .int uy, .int uz, .int vx, .int vy, .int vz, .int cn, .int mo, .ref qw, .ref qt]))] s.heap.size = A at hD hZ ⊢
  have hA : ∀ q : Nat, s.heap.size ≤ q → A q := fun q h => by rw [← hAe]; exact Or.inr h
  have hl := lv_entry ([.ref m0, .int a, .int b, .int d]) (n := 4) (Nat.le_of_ble_eq_true rfl)
  rw [lg_entry_eq]
  generalize (lg_sl ([.ref m0, .int a, .int b, .int d]) ++ List.replicate (4 - (lg_sl ([.ref m0, .int a, .int b, .int d])).length) Slot.unset).toArray = ls at hl ⊢
  have hl : lv_has ls 4 [(0, .ref m0), (1, .int a), (2, .int b), (3, .int d)] := hl
  generalize hHe : s.heap = H at hP ⊢
  have hS : va_S A s.heap H [] := by rw [hHe]; exact va_S.rf
  generalize ([] : List Loc) = locs at hS ⊢
  refine lv_iload_n hx hb dX4_line_0 rfl (lv_at hl 1 rfl) ?_
  refine ct_calli (va_runS (As := [.int a]) (rest := []) ⟨hx, hb, hml, hown, hts⟩ (rf_isPlace l dC dI cA cB H.size a ) (va_cwS 1 hts gX4_line_X4_isPlace rfl rfl rfl (by decide +kernel) ⟨Nat.le_of_ble_eq_true rfl, Nat.le_of_ble_eq_true rfl⟩) ⟨ct_blind, ct_pre hP hD hK hZ hN hS hA [] rfl (by decide)⟩ rfl rfl hl.1 rfl (lv_room (Nat.le_of_ble_eq_true rfl)) dX4_line_1 ⟨Nat.le_of_ble_eq_true rfl, Nat.le_of_ble_eq_true rfl⟩) hP hD hS hA [] [0] rfl (wr := [(m0, .inr (3, [.int rx, .int ry, .int rz, .int rw, .int ri, .int ux, .int uy, .int uz, .int vx, .int vy, .int vz, .int cn, .int mo, .ref qw, .ref qt]))]) rfl (by decide) (by decide) (fun r_1 u9 H locs hw_1 hP hD hS => ?_)
  have hw_1 : bo_z r_1 (pl_in a) := hw_1
  have hP : va_P (dC, dI) vwCl [(m0, .inr (3, [.int rx, .int ry, .int rz, .int rw, .int ri, .int ux, .int uy, .int uz, .int vx, .int vy, .int vz, .int cn, .int mo, .ref qw, .ref qt]))] H := hP
  have hD : va_D A [(m0, .inr (3, [.int rx, .int ry, .int rz, .int rw, .int ri, .int ux, .int uy, .int uz, .int vx, .int vy, .int vz, .int cn, .int mo, .ref qw, .ref qt]))] := hD
  refine lv_if_eq (tgt := 21) hx hb dX4_line_4 (by decide) (fun c_4 => ?_) (fun c_4 => ?_)
  · refine lv_iconst (v := -1) hx hb dX4_line_21 (by decide) ?_
    have hP9 := hP.sub (ws' := [(m0, .inr (3, [.int rx, .int ry, .int rz, .int rw, .int ri, .int ux, .int uy, .int uz, .int vx, .int vy, .int vz, .int cn, .int mo, .ref qw, .ref qt]))]) [0] rfl
    have hD9 := hD.sub (ws' := [(m0, .inr (3, [.int rx, .int ry, .int rz, .int rw, .int ri, .int ux, .int uy, .int uz, .int vx, .int vy, .int vz, .int cn, .int mo, .ref qw, .ref qt]))]) [0] (by decide) rfl
    exact W.iret (v := -1) hx hb hr (fun t9 ht9 hW9 => ⟨⟨-1, (rx, ry, rz, rw, ri, ux, uy, uz, vx, vy, vz, cn, mo), rfl, Or.inr ⟨rfl, (fun h => hw_1.f c_4 h.1), ⟨rfl, rfl, rfl⟩, ⟨rfl, rfl⟩, ⟨rfl, rfl, rfl⟩, ⟨rfl, rfl, rfl⟩, rfl, rfl⟩, by rw [ht9]; exact hP9, hD9⟩, hS.F ht9⟩) hS.2.2 dX4_line_22
  · refine lv_iload_n hx hb dX4_line_7 rfl (lv_at hl 2 rfl) ?_
    refine ct_calli (va_runS (As := [.int b]) (rest := []) ⟨hx, hb, hml, hown, hts⟩ (rf_isPlace l dC dI cA cB H.size b ) (va_cwS 1 hts gX4_line_X4_isPlace rfl rfl rfl (by decide +kernel) ⟨Nat.le_of_ble_eq_true rfl, Nat.le_of_ble_eq_true rfl⟩) ⟨ct_blind, ct_pre hP hD hK hZ hN hS hA [] rfl (by decide)⟩ rfl rfl hl.1 rfl (lv_room (Nat.le_of_ble_eq_true rfl)) dX4_line_8 ⟨Nat.le_of_ble_eq_true rfl, Nat.le_of_ble_eq_true rfl⟩) hP hD hS hA [] [0] rfl (wr := [(m0, .inr (3, [.int rx, .int ry, .int rz, .int rw, .int ri, .int ux, .int uy, .int uz, .int vx, .int vy, .int vz, .int cn, .int mo, .ref qw, .ref qt]))]) rfl (by decide) (by decide) (fun r_2 u9 H locs hw_2 hP hD hS => ?_)
    have hw_2 : bo_z r_2 (pl_in b) := hw_2
    have hP : va_P (dC, dI) vwCl [(m0, .inr (3, [.int rx, .int ry, .int rz, .int rw, .int ri, .int ux, .int uy, .int uz, .int vx, .int vy, .int vz, .int cn, .int mo, .ref qw, .ref qt]))] H := hP
    have hD : va_D A [(m0, .inr (3, [.int rx, .int ry, .int rz, .int rw, .int ri, .int ux, .int uy, .int uz, .int vx, .int vy, .int vz, .int cn, .int mo, .ref qw, .ref qt]))] := hD
    refine lv_if_eq (tgt := 21) hx hb dX4_line_11 (by decide) (fun c_11 => ?_) (fun c_11 => ?_)
    · refine lv_iconst (v := -1) hx hb dX4_line_21 (by decide) ?_
      have hP9 := hP.sub (ws' := [(m0, .inr (3, [.int rx, .int ry, .int rz, .int rw, .int ri, .int ux, .int uy, .int uz, .int vx, .int vy, .int vz, .int cn, .int mo, .ref qw, .ref qt]))]) [0] rfl
      have hD9 := hD.sub (ws' := [(m0, .inr (3, [.int rx, .int ry, .int rz, .int rw, .int ri, .int ux, .int uy, .int uz, .int vx, .int vy, .int vz, .int cn, .int mo, .ref qw, .ref qt]))]) [0] (by decide) rfl
      exact W.iret (v := -1) hx hb hr (fun t9 ht9 hW9 => ⟨⟨-1, (rx, ry, rz, rw, ri, ux, uy, uz, vx, vy, vz, cn, mo), rfl, Or.inr ⟨rfl, (fun h => hw_2.f c_11 h.2.1), ⟨rfl, rfl, rfl⟩, ⟨rfl, rfl⟩, ⟨rfl, rfl, rfl⟩, ⟨rfl, rfl, rfl⟩, rfl, rfl⟩, by rw [ht9]; exact hP9, hD9⟩, hS.F ht9⟩) hS.2.2 dX4_line_22
    · refine lv_iload_n hx hb dX4_line_14 rfl (lv_at hl 3 rfl) ?_
      refine ct_calli (va_runS (As := [.int d]) (rest := []) ⟨hx, hb, hml, hown, hts⟩ (rf_isPlace l dC dI cA cB H.size d ) (va_cwS 1 hts gX4_line_X4_isPlace rfl rfl rfl (by decide +kernel) ⟨Nat.le_of_ble_eq_true rfl, Nat.le_of_ble_eq_true rfl⟩) ⟨ct_blind, ct_pre hP hD hK hZ hN hS hA [] rfl (by decide)⟩ rfl rfl hl.1 rfl (lv_room (Nat.le_of_ble_eq_true rfl)) dX4_line_15 ⟨Nat.le_of_ble_eq_true rfl, Nat.le_of_ble_eq_true rfl⟩) hP hD hS hA [] [0] rfl (wr := [(m0, .inr (3, [.int rx, .int ry, .int rz, .int rw, .int ri, .int ux, .int uy, .int uz, .int vx, .int vy, .int vz, .int cn, .int mo, .ref qw, .ref qt]))]) rfl (by decide) (by decide) (fun r_3 u9 H locs hw_3 hP hD hS => ?_)
      have hw_3 : bo_z r_3 (pl_in d) := hw_3
      have hP : va_P (dC, dI) vwCl [(m0, .inr (3, [.int rx, .int ry, .int rz, .int rw, .int ri, .int ux, .int uy, .int uz, .int vx, .int vy, .int vz, .int cn, .int mo, .ref qw, .ref qt]))] H := hP
      have hD : va_D A [(m0, .inr (3, [.int rx, .int ry, .int rz, .int rw, .int ri, .int ux, .int uy, .int uz, .int vx, .int vy, .int vz, .int cn, .int mo, .ref qw, .ref qt]))] := hD
      refine lv_if_ne (tgt := 23) hx hb dX4_line_18 (by decide) (fun c_18 => ?_) (fun c_18 => ?_)
      · refine lv_aload_n hx hb dX4_line_23 rfl (lv_at hl 0 rfl) ?_
        refine lv_iload_n hx hb dX4_line_24 rfl (lv_at hl 1 rfl) ?_
        refine lv_aload_n hx hb dX4_line_25 rfl (lv_at hl 0 rfl) ?_
        refine va_get (D := (dC, dI)) (ci := 3) (v := .int rx) (C := RX4) (T := TX4) (N := 15) hx hb hts hiX4 hown hK hP 0 rfl rfl 0 (by decide) (hts (.fieldLink RX4 22 "TickWalksModel" "x" "I") (List.mem_of_getElem? (l := wsX4_line) (i := 1) rfl)) (fun _ h9 => h9) rfl dX4_line_26 ?_
        refine lv_isub hx hb dX4_line_29 ?_
        refine va_put (D := (dC, dI)) (ci := 3) (v := .int (a - rx)) (ty := .int) (C := RX4) (T := TX4) (N := 15) hx hb hts hiX4 tyX4 tyX4_ok nmX4 hown hK hP hD hS 0 rfl rfl 8 (by decide) (hts (.fieldLink RX4 54 "TickWalksModel" "byX" "I") (List.mem_of_getElem? (l := wsX4_line) (i := 2) rfl)) (fun _ h9 => h9) rfl (by decide +kernel) rfl rfl (Nat.le_of_ble_eq_true rfl) dX4_line_30 (fun H locs hP hD hS => ?_)
        have hP : va_P (dC, dI) vwCl [(m0, .inr (3, [.int rx, .int ry, .int rz, .int rw, .int ri, .int ux, .int uy, .int uz, .int (a - rx), .int vy, .int vz, .int cn, .int mo, .ref qw, .ref qt]))] H := hP
        have hD : va_D A [(m0, .inr (3, [.int rx, .int ry, .int rz, .int rw, .int ri, .int ux, .int uy, .int uz, .int (a - rx), .int vy, .int vz, .int cn, .int mo, .ref qw, .ref qt]))] := hD
        refine lv_aload_n hx hb dX4_line_33 rfl (lv_at hl 0 rfl) ?_
        refine lv_iload_n hx hb dX4_line_34 rfl (lv_at hl 2 rfl) ?_
        refine lv_aload_n hx hb dX4_line_35 rfl (lv_at hl 0 rfl) ?_
        refine va_get (D := (dC, dI)) (ci := 3) (v := .int ry) (C := RX4) (T := TX4) (N := 15) hx hb hts hiX4 hown hK hP 0 rfl rfl 1 (by decide) (hts (.fieldLink RX4 26 "TickWalksModel" "y" "I") (List.mem_of_getElem? (l := wsX4_line) (i := 3) rfl)) (fun _ h9 => h9) rfl dX4_line_36 ?_
        refine lv_isub hx hb dX4_line_39 ?_
        refine va_put (D := (dC, dI)) (ci := 3) (v := .int (b - ry)) (ty := .int) (C := RX4) (T := TX4) (N := 15) hx hb hts hiX4 tyX4 tyX4_ok nmX4 hown hK hP hD hS 0 rfl rfl 9 (by decide) (hts (.fieldLink RX4 57 "TickWalksModel" "byY" "I") (List.mem_of_getElem? (l := wsX4_line) (i := 4) rfl)) (fun _ h9 => h9) rfl (by decide +kernel) rfl rfl (Nat.le_of_ble_eq_true rfl) dX4_line_40 (fun H locs hP hD hS => ?_)
        have hP : va_P (dC, dI) vwCl [(m0, .inr (3, [.int rx, .int ry, .int rz, .int rw, .int ri, .int ux, .int uy, .int uz, .int (a - rx), .int (b - ry), .int vz, .int cn, .int mo, .ref qw, .ref qt]))] H := hP
        have hD : va_D A [(m0, .inr (3, [.int rx, .int ry, .int rz, .int rw, .int ri, .int ux, .int uy, .int uz, .int (a - rx), .int (b - ry), .int vz, .int cn, .int mo, .ref qw, .ref qt]))] := hD
        refine lv_aload_n hx hb dX4_line_43 rfl (lv_at hl 0 rfl) ?_
        refine lv_iload_n hx hb dX4_line_44 rfl (lv_at hl 3 rfl) ?_
        refine lv_aload_n hx hb dX4_line_45 rfl (lv_at hl 0 rfl) ?_
        refine va_get (D := (dC, dI)) (ci := 3) (v := .int rz) (C := RX4) (T := TX4) (N := 15) hx hb hts hiX4 hown hK hP 0 rfl rfl 2 (by decide) (hts (.fieldLink RX4 29 "TickWalksModel" "z" "I") (List.mem_of_getElem? (l := wsX4_line) (i := 5) rfl)) (fun _ h9 => h9) rfl dX4_line_46 ?_
        refine lv_isub hx hb dX4_line_49 ?_
        refine va_put (D := (dC, dI)) (ci := 3) (v := .int (d - rz)) (ty := .int) (C := RX4) (T := TX4) (N := 15) hx hb hts hiX4 tyX4 tyX4_ok nmX4 hown hK hP hD hS 0 rfl rfl 10 (by decide) (hts (.fieldLink RX4 60 "TickWalksModel" "byZ" "I") (List.mem_of_getElem? (l := wsX4_line) (i := 6) rfl)) (fun _ h9 => h9) rfl (by decide +kernel) rfl rfl (Nat.le_of_ble_eq_true rfl) dX4_line_50 (fun H locs hP hD hS => ?_)
        have hP : va_P (dC, dI) vwCl [(m0, .inr (3, [.int rx, .int ry, .int rz, .int rw, .int ri, .int ux, .int uy, .int uz, .int (a - rx), .int (b - ry), .int (d - rz), .int cn, .int mo, .ref qw, .ref qt]))] H := hP
        have hD : va_D A [(m0, .inr (3, [.int rx, .int ry, .int rz, .int rw, .int ri, .int ux, .int uy, .int uz, .int (a - rx), .int (b - ry), .int (d - rz), .int cn, .int mo, .ref qw, .ref qt]))] := hD
        refine lv_aload_n hx hb dX4_line_53 rfl (lv_at hl 0 rfl) ?_
        refine lv_iconst (v := 0) hx hb dX4_line_54 (by decide) ?_
        refine lv_aload_n hx hb dX4_line_55 rfl (lv_at hl 0 rfl) ?_
        refine va_get (D := (dC, dI)) (ci := 3) (v := .int (a - rx)) (C := RX4) (T := TX4) (N := 15) hx hb hts hiX4 hown hK hP 0 rfl rfl 8 (by decide) (hts (.fieldLink RX4 54 "TickWalksModel" "byX" "I") (List.mem_of_getElem? (l := wsX4_line) (i := 2) rfl)) (fun _ h9 => h9) rfl dX4_line_56 ?_
        refine ct_calli (va_runS (As := [.int (a - rx)]) (rest := [.int 0, .ref m0]) ⟨hx, hb, hml, hown, hts⟩ (rf_amount l dC dI cA cB H.size (a - rx) ) (va_cwS 1 hts gX4_line_X4_amount rfl rfl rfl (by decide +kernel) ⟨Nat.le_of_ble_eq_true rfl, Nat.le_of_ble_eq_true rfl⟩) ⟨ct_blind, ct_pre hP hD hK hZ hN hS hA [] rfl (by decide)⟩ rfl rfl hl.1 rfl (lv_room (Nat.le_of_ble_eq_true rfl)) dX4_line_59 ⟨Nat.le_of_ble_eq_true rfl, Nat.le_of_ble_eq_true rfl⟩) hP hD hS hA [] [0] rfl (wr := [(m0, .inr (3, [.int rx, .int ry, .int rz, .int rw, .int ri, .int ux, .int uy, .int uz, .int (a - rx), .int (b - ry), .int (d - rz), .int cn, .int mo, .ref qw, .ref qt]))]) rfl (by decide) (by decide) (fun r_4 u9 H locs hw_4 hP hD hS => ?_)
        have hw_4 : r_4 = am_i (a - rx) := hw_4
        have hP : va_P (dC, dI) vwCl [(m0, .inr (3, [.int rx, .int ry, .int rz, .int rw, .int ri, .int ux, .int uy, .int uz, .int (a - rx), .int (b - ry), .int (d - rz), .int cn, .int mo, .ref qw, .ref qt]))] H := hP
        have hD : va_D A [(m0, .inr (3, [.int rx, .int ry, .int rz, .int rw, .int ri, .int ux, .int uy, .int uz, .int (a - rx), .int (b - ry), .int (d - rz), .int cn, .int mo, .ref qw, .ref qt]))] := hD
        refine lv_aload_n hx hb dX4_line_62 rfl (lv_at hl 0 rfl) ?_
        refine va_get (D := (dC, dI)) (ci := 3) (v := .int (b - ry)) (C := RX4) (T := TX4) (N := 15) hx hb hts hiX4 hown hK hP 0 rfl rfl 9 (by decide) (hts (.fieldLink RX4 57 "TickWalksModel" "byY" "I") (List.mem_of_getElem? (l := wsX4_line) (i := 4) rfl)) (fun _ h9 => h9) rfl dX4_line_63 ?_
        refine ct_calli (va_runS (As := [.int (b - ry)]) (rest := [.int r_4, .int 0, .ref m0]) ⟨hx, hb, hml, hown, hts⟩ (rf_amount l dC dI cA cB H.size (b - ry) ) (va_cwS 1 hts gX4_line_X4_amount rfl rfl rfl (by decide +kernel) ⟨Nat.le_of_ble_eq_true rfl, Nat.le_of_ble_eq_true rfl⟩) ⟨ct_blind, ct_pre hP hD hK hZ hN hS hA [] rfl (by decide)⟩ rfl rfl hl.1 rfl (lv_room (Nat.le_of_ble_eq_true rfl)) dX4_line_66 ⟨Nat.le_of_ble_eq_true rfl, Nat.le_of_ble_eq_true rfl⟩) hP hD hS hA [] [0] rfl (wr := [(m0, .inr (3, [.int rx, .int ry, .int rz, .int rw, .int ri, .int ux, .int uy, .int uz, .int (a - rx), .int (b - ry), .int (d - rz), .int cn, .int mo, .ref qw, .ref qt]))]) rfl (by decide) (by decide) (fun r_5 u9 H locs hw_5 hP hD hS => ?_)
        have hw_5 : r_5 = am_i (b - ry) := hw_5
        have hP : va_P (dC, dI) vwCl [(m0, .inr (3, [.int rx, .int ry, .int rz, .int rw, .int ri, .int ux, .int uy, .int uz, .int (a - rx), .int (b - ry), .int (d - rz), .int cn, .int mo, .ref qw, .ref qt]))] H := hP
        have hD : va_D A [(m0, .inr (3, [.int rx, .int ry, .int rz, .int rw, .int ri, .int ux, .int uy, .int uz, .int (a - rx), .int (b - ry), .int (d - rz), .int cn, .int mo, .ref qw, .ref qt]))] := hD
        refine lv_aload_n hx hb dX4_line_69 rfl (lv_at hl 0 rfl) ?_
        refine va_get (D := (dC, dI)) (ci := 3) (v := .int (d - rz)) (C := RX4) (T := TX4) (N := 15) hx hb hts hiX4 hown hK hP 0 rfl rfl 10 (by decide) (hts (.fieldLink RX4 60 "TickWalksModel" "byZ" "I") (List.mem_of_getElem? (l := wsX4_line) (i := 6) rfl)) (fun _ h9 => h9) rfl dX4_line_70 ?_
        refine ct_calli (va_runS (As := [.int (d - rz)]) (rest := [.int r_5, .int r_4, .int 0, .ref m0]) ⟨hx, hb, hml, hown, hts⟩ (rf_amount l dC dI cA cB H.size (d - rz) ) (va_cwS 1 hts gX4_line_X4_amount rfl rfl rfl (by decide +kernel) ⟨Nat.le_of_ble_eq_true rfl, Nat.le_of_ble_eq_true rfl⟩) ⟨ct_blind, ct_pre hP hD hK hZ hN hS hA [] rfl (by decide)⟩ rfl rfl hl.1 rfl (lv_room (Nat.le_of_ble_eq_true rfl)) dX4_line_73 ⟨Nat.le_of_ble_eq_true rfl, Nat.le_of_ble_eq_true rfl⟩) hP hD hS hA [] [0] rfl (wr := [(m0, .inr (3, [.int rx, .int ry, .int rz, .int rw, .int ri, .int ux, .int uy, .int uz, .int (a - rx), .int (b - ry), .int (d - rz), .int cn, .int mo, .ref qw, .ref qt]))]) rfl (by decide) (by decide) (fun r_6 u9 H locs hw_6 hP hD hS => ?_)
        have hw_6 : r_6 = am_i (d - rz) := hw_6
        have hP : va_P (dC, dI) vwCl [(m0, .inr (3, [.int rx, .int ry, .int rz, .int rw, .int ri, .int ux, .int uy, .int uz, .int (a - rx), .int (b - ry), .int (d - rz), .int cn, .int mo, .ref qw, .ref qt]))] H := hP
        have hD : va_D A [(m0, .inr (3, [.int rx, .int ry, .int rz, .int rw, .int ri, .int ux, .int uy, .int uz, .int (a - rx), .int (b - ry), .int (d - rz), .int cn, .int mo, .ref qw, .ref qt]))] := hD
        refine va_mmax hx hb (hml.trans hl.1.symm) hown (hts (.methodLink RX4 67 Lib.Math.max.name) (List.mem_of_getElem? (l := wsX4_line) (i := 7) rfl)) (hts (.static Lib.Math.max.name) (List.mem_of_getElem? (l := wsX4_line) (i := 8) rfl)) (hts (.initialized "java/lang/Math") (List.mem_of_getElem? (l := wsX4_line) (i := 9) rfl)) (hts (.code Lib.Math.max.name Lib.Math.max.code 2 (some .int)) (List.mem_of_getElem? (l := wsX4_line) (i := 10) rfl)) (Nat.le_of_ble_eq_true rfl) (Nat.le_of_ble_eq_true rfl) (Nat.le_of_ble_eq_true rfl) (Nat.le_of_ble_eq_true rfl) dX4_line_76 ?_
        refine va_mmax hx hb (hml.trans hl.1.symm) hown (hts (.methodLink RX4 67 Lib.Math.max.name) (List.mem_of_getElem? (l := wsX4_line) (i := 7) rfl)) (hts (.static Lib.Math.max.name) (List.mem_of_getElem? (l := wsX4_line) (i := 8) rfl)) (hts (.initialized "java/lang/Math") (List.mem_of_getElem? (l := wsX4_line) (i := 9) rfl)) (hts (.code Lib.Math.max.name Lib.Math.max.code 2 (some .int)) (List.mem_of_getElem? (l := wsX4_line) (i := 10) rfl)) (Nat.le_of_ble_eq_true rfl) (Nat.le_of_ble_eq_true rfl) (Nat.le_of_ble_eq_true rfl) (Nat.le_of_ble_eq_true rfl) dX4_line_79 ?_
        refine ct_callv (va_runV (As := [.int 0, .int (if r_4 < (if r_5 < r_6 then r_6 else r_5) then (if r_5 < r_6 then r_6 else r_5) else r_4)]) (rest := []) ⟨hx, hb, hml, hown, hts⟩ (rm_begin l dC dI cA cB H.size m0 rx ry rz rw ri ux uy uz (a - rx) (b - ry) (d - rz) cn mo qw qt 0 (if r_4 < (if r_5 < r_6 then r_6 else r_5) then (if r_5 < r_6 then r_6 else r_5) else r_4) (Or.inl rfl)) (cwV 2 hts gX4_line_X4_begin rfl rfl rfl (by decide +kernel) ⟨Nat.le_of_ble_eq_true rfl, Nat.le_of_ble_eq_true rfl⟩) ⟨ct_blind, va_recv hK hP (ci := 3) (q0 := 0) rfl rfl, ct_pre hP hD hK hZ hN hS hA [0] rfl (by decide)⟩ rfl rfl hl.1 rfl (lv_room (Nat.le_of_ble_eq_true rfl)) dX4_line_82 ⟨Nat.le_of_ble_eq_true rfl, Nat.le_of_ble_eq_true rfl⟩) hP hD hS hA [0] [] rfl (wr := []) rfl (by decide) (by decide) (fun u9 H locs hw_7 hP hD hS => ?_)
        have hw_7 : True := hw_7
        have hP : va_P (dC, dI) vwCl [(m0, .inr (3, [.int rx, .int ry, .int rz, .int 1, .int 0, .int rx, .int ry, .int rz, .int (a - rx), .int (b - ry), .int (d - rz), .int (if r_4 < (if r_5 < r_6 then r_6 else r_5) then (if r_5 < r_6 then r_6 else r_5) else r_4), .int 0, .ref qw, .ref qt]))] H := hP
        have hD : va_D A [(m0, .inr (3, [.int rx, .int ry, .int rz, .int 1, .int 0, .int rx, .int ry, .int rz, .int (a - rx), .int (b - ry), .int (d - rz), .int (if r_4 < (if r_5 < r_6 then r_6 else r_5) then (if r_5 < r_6 then r_6 else r_5) else r_4), .int 0, .ref qw, .ref qt]))] := hD
        refine lv_aload_n hx hb dX4_line_85 rfl (lv_at hl 0 rfl) ?_
        refine lv_iload_n hx hb dX4_line_86 rfl (lv_at hl 1 rfl) ?_
        refine va_put (D := (dC, dI)) (ci := 3) (v := .int a) (ty := .int) (C := RX4) (T := TX4) (N := 15) hx hb hts hiX4 tyX4 tyX4_ok nmX4 hown hK hP hD hS 0 rfl rfl 0 (by decide) (hts (.fieldLink RX4 22 "TickWalksModel" "x" "I") (List.mem_of_getElem? (l := wsX4_line) (i := 1) rfl)) (fun _ h9 => h9) rfl (by decide +kernel) rfl rfl (Nat.le_of_ble_eq_true rfl) dX4_line_87 (fun H locs hP hD hS => ?_)
        have hP : va_P (dC, dI) vwCl [(m0, .inr (3, [.int a, .int ry, .int rz, .int 1, .int 0, .int rx, .int ry, .int rz, .int (a - rx), .int (b - ry), .int (d - rz), .int (if r_4 < (if r_5 < r_6 then r_6 else r_5) then (if r_5 < r_6 then r_6 else r_5) else r_4), .int 0, .ref qw, .ref qt]))] H := hP
        have hD : va_D A [(m0, .inr (3, [.int a, .int ry, .int rz, .int 1, .int 0, .int rx, .int ry, .int rz, .int (a - rx), .int (b - ry), .int (d - rz), .int (if r_4 < (if r_5 < r_6 then r_6 else r_5) then (if r_5 < r_6 then r_6 else r_5) else r_4), .int 0, .ref qw, .ref qt]))] := hD
        refine lv_aload_n hx hb dX4_line_90 rfl (lv_at hl 0 rfl) ?_
        refine lv_iload_n hx hb dX4_line_91 rfl (lv_at hl 2 rfl) ?_
        refine va_put (D := (dC, dI)) (ci := 3) (v := .int b) (ty := .int) (C := RX4) (T := TX4) (N := 15) hx hb hts hiX4 tyX4 tyX4_ok nmX4 hown hK hP hD hS 0 rfl rfl 1 (by decide) (hts (.fieldLink RX4 26 "TickWalksModel" "y" "I") (List.mem_of_getElem? (l := wsX4_line) (i := 3) rfl)) (fun _ h9 => h9) rfl (by decide +kernel) rfl rfl (Nat.le_of_ble_eq_true rfl) dX4_line_92 (fun H locs hP hD hS => ?_)
        have hP : va_P (dC, dI) vwCl [(m0, .inr (3, [.int a, .int b, .int rz, .int 1, .int 0, .int rx, .int ry, .int rz, .int (a - rx), .int (b - ry), .int (d - rz), .int (if r_4 < (if r_5 < r_6 then r_6 else r_5) then (if r_5 < r_6 then r_6 else r_5) else r_4), .int 0, .ref qw, .ref qt]))] H := hP
        have hD : va_D A [(m0, .inr (3, [.int a, .int b, .int rz, .int 1, .int 0, .int rx, .int ry, .int rz, .int (a - rx), .int (b - ry), .int (d - rz), .int (if r_4 < (if r_5 < r_6 then r_6 else r_5) then (if r_5 < r_6 then r_6 else r_5) else r_4), .int 0, .ref qw, .ref qt]))] := hD
        refine lv_aload_n hx hb dX4_line_95 rfl (lv_at hl 0 rfl) ?_
        refine lv_iload_n hx hb dX4_line_96 rfl (lv_at hl 3 rfl) ?_
        refine va_put (D := (dC, dI)) (ci := 3) (v := .int d) (ty := .int) (C := RX4) (T := TX4) (N := 15) hx hb hts hiX4 tyX4 tyX4_ok nmX4 hown hK hP hD hS 0 rfl rfl 2 (by decide) (hts (.fieldLink RX4 29 "TickWalksModel" "z" "I") (List.mem_of_getElem? (l := wsX4_line) (i := 5) rfl)) (fun _ h9 => h9) rfl (by decide +kernel) rfl rfl (Nat.le_of_ble_eq_true rfl) dX4_line_97 (fun H locs hP hD hS => ?_)
        have hP : va_P (dC, dI) vwCl [(m0, .inr (3, [.int a, .int b, .int d, .int 1, .int 0, .int rx, .int ry, .int rz, .int (a - rx), .int (b - ry), .int (d - rz), .int (if r_4 < (if r_5 < r_6 then r_6 else r_5) then (if r_5 < r_6 then r_6 else r_5) else r_4), .int 0, .ref qw, .ref qt]))] H := hP
        have hD : va_D A [(m0, .inr (3, [.int a, .int b, .int d, .int 1, .int 0, .int rx, .int ry, .int rz, .int (a - rx), .int (b - ry), .int (d - rz), .int (if r_4 < (if r_5 < r_6 then r_6 else r_5) then (if r_5 < r_6 then r_6 else r_5) else r_4), .int 0, .ref qw, .ref qt]))] := hD
        refine lv_aload_n hx hb dX4_line_100 rfl (lv_at hl 0 rfl) ?_
        refine va_get (D := (dC, dI)) (ci := 3) (v := .int (if r_4 < (if r_5 < r_6 then r_6 else r_5) then (if r_5 < r_6 then r_6 else r_5) else r_4)) (C := RX4) (T := TX4) (N := 15) hx hb hts hiX4 hown hK hP 0 rfl rfl 11 (by decide) (hts (.fieldLink RX4 36 "TickWalksModel" "count" "I") (List.mem_of_getElem? (l := wsX4_line) (i := 11) rfl)) (fun _ h9 => h9) rfl dX4_line_101 ?_
        have hP9 := hP.sub (ws' := [(m0, .inr (3, [.int a, .int b, .int d, .int 1, .int 0, .int rx, .int ry, .int rz, .int (a - rx), .int (b - ry), .int (d - rz), .int (if r_4 < (if r_5 < r_6 then r_6 else r_5) then (if r_5 < r_6 then r_6 else r_5) else r_4), .int 0, .ref qw, .ref qt]))]) [0] rfl
        have hD9 := hD.sub (ws' := [(m0, .inr (3, [.int a, .int b, .int d, .int 1, .int 0, .int rx, .int ry, .int rz, .int (a - rx), .int (b - ry), .int (d - rz), .int (if r_4 < (if r_5 < r_6 then r_6 else r_5) then (if r_5 < r_6 then r_6 else r_5) else r_4), .int 0, .ref qw, .ref qt]))]) [0] (by decide) rfl
        exact W.iret (v := (if r_4 < (if r_5 < r_6 then r_6 else r_5) then (if r_5 < r_6 then r_6 else r_5) else r_4)) hx hb hr (fun t9 ht9 hW9 => ⟨⟨(if r_4 < (if r_5 < r_6 then r_6 else r_5) then (if r_5 < r_6 then r_6 else r_5) else r_4), (a, b, d, 1, 0, rx, ry, rz, (a - rx), (b - ry), (d - rz), (if r_4 < (if r_5 < r_6 then r_6 else r_5) then (if r_5 < r_6 then r_6 else r_5) else r_4), 0), rfl, Or.inl ⟨rfl, ⟨hw_1.t c_4, hw_2.t c_11, hw_3.t c_18⟩, ⟨rfl, rfl, rfl⟩, ⟨rfl, rfl⟩, ⟨rfl, rfl, rfl⟩, ⟨rfl, rfl, rfl⟩, by rw [hw_4, hw_5, hw_6]; rfl, rfl⟩, by rw [ht9]; exact hP9, hD9⟩, hS.F ht9⟩) hS.2.2 dX4_line_104
      · refine lv_iconst (v := -1) hx hb dX4_line_21 (by decide) ?_
        have hP9 := hP.sub (ws' := [(m0, .inr (3, [.int rx, .int ry, .int rz, .int rw, .int ri, .int ux, .int uy, .int uz, .int vx, .int vy, .int vz, .int cn, .int mo, .ref qw, .ref qt]))]) [0] rfl
        have hD9 := hD.sub (ws' := [(m0, .inr (3, [.int rx, .int ry, .int rz, .int rw, .int ri, .int ux, .int uy, .int uz, .int vx, .int vy, .int vz, .int cn, .int mo, .ref qw, .ref qt]))]) [0] (by decide) rfl
        exact W.iret (v := -1) hx hb hr (fun t9 ht9 hW9 => ⟨⟨-1, (rx, ry, rz, rw, ri, ux, uy, uz, vx, vy, vz, cn, mo), rfl, Or.inr ⟨rfl, (fun h => hw_3.f c_18 h.2.2), ⟨rfl, rfl, rfl⟩, ⟨rfl, rfl⟩, ⟨rfl, rfl, rfl⟩, ⟨rfl, rfl, rfl⟩, rfl, rfl⟩, by rw [ht9]; exact hP9, hD9⟩, hS.F ht9⟩) hS.2.2 dX4_line_22
set_option maxHeartbeats 4000000 in
set_option maxRecDepth 100000 in
/-- TickWalksModel.partOf -/
theorem rm_part (l : Launch) (dC : Nat → ClassId) (dI : Nat → Nat → Nat) (cA cB : ClassId) (sz : Nat) (m0 : Nat) (rx : Int32) (ry : Int32) (rz : Int32) (rw : Int32) (ri : Int32) (ux : Int32) (uy : Int32) (uz : Int32) (vx : Int32) (vy : Int32) (vz : Int32) (cn : Int32) (mo : Int32) (qw : Nat) (qt : Nat) (bv : Int32) (k : Int32) : Met l yX4_partOf wsX4_partOf ({ frames := 1, cells := 0, slots := 0, locals := 24 }) (va_Pc [.ref m0, .int bv, .int k] (ct_P dC dI cA cB sz [(m0, .inr (3, [.int rx, .int ry, .int rz, .int rw, .int ri, .int ux, .int uy, .int uz, .int vx, .int vy, .int vz, .int cn, .int mo, .ref qw, .ref qt]))])) (va_Qi (fun (r : Int32) (u : Unit) => r = pt_v cn bv k) (fun (u : Unit) => ct_B dC dI (va_A [(m0, .inr (3, [.int rx, .int ry, .int rz, .int rw, .int ri, .int ux, .int uy, .int uz, .int vx, .int vy, .int vz, .int cn, .int mo, .ref qw, .ref qt]))] sz) [(m0, .inr (3, [.int rx, .int ry, .int rz, .int rw, .int ri, .int ux, .int uy, .int uz, .int vx, .int vy, .int vz, .int cn, .int mo, .ref qw, .ref qt]))]) (va_A [(m0, .inr (3, [.int rx, .int ry, .int rz, .int rw, .int ri, .int ux, .int uy, .int uz, .int vx, .int vy, .int vz, .int cn, .int mo, .ref qw, .ref qt]))] sz)) 0 0 (va_A [(m0, .inr (3, [.int rx, .int ry, .int rz, .int rw, .int ri, .int ux, .int uy, .int uz, .int vx, .int vy, .int vz, .int cn, .int mo, .ref qw, .ref qt]))] sz) := by
  refine Met.ofW (cc := cX4_partOf) (maxL := 3) (ret := (some .int)) (by decide +kernel) rfl ?_
  intro p e s m args below meth c s₁ B hml hv
  obtain ⟨rfl, hsz, hP, hK, hD0, hZ, hN⟩ := hv
  have hx := B.exec
  have hb := B.bytes
  have hr := B.returns
  have hts := atoms_spec (ws := wsX4_partOf) B.pre
  have hown : s.vm.findClass RX4 = some m.cls := findClass_of_methodNamed B.named
  have hlocks := B.notSynchronized
  have hiX4 : ∀ w ∈ u_ws RX4 TX4 15, w ∈ wsX4_partOf := by decide +kernel
  subst hsz
  have hD := hD0.self (sz := s.heap.size)
  generalize hAe : va_A [(m0, .inr (3, [.int rx, .int ry, .int rz, .int rw, .int ri, .int ux, .int uy, .int uz, .int vx, .int vy, .int vz, .int cn, .int mo, .ref qw, .ref qt]))] s.heap.size = A at hD hZ ⊢
  have hA : ∀ q : Nat, s.heap.size ≤ q → A q := fun q h => by rw [← hAe]; exact Or.inr h
  have hl := lv_entry ([.ref m0, .int bv, .int k]) (n := 3) (Nat.le_of_ble_eq_true rfl)
  rw [lg_entry_eq]
  generalize (lg_sl ([.ref m0, .int bv, .int k]) ++ List.replicate (3 - (lg_sl ([.ref m0, .int bv, .int k])).length) Slot.unset).toArray = ls at hl ⊢
  have hl : lv_has ls 3 [(0, .ref m0), (1, .int bv), (2, .int k)] := hl
  generalize hHe : s.heap = H at hP ⊢
  have hS : va_S A s.heap H [] := by rw [hHe]; exact va_S.rf
  generalize ([] : List Loc) = locs at hS ⊢
  refine lv_aload_n hx hb dX4_partOf_0 rfl (lv_at hl 0 rfl) ?_
  refine va_get (D := (dC, dI)) (ci := 3) (v := .int cn) (C := RX4) (T := TX4) (N := 15) hx hb hts hiX4 hown hK hP 0 rfl rfl 11 (by decide) (hts (.fieldLink RX4 36 "TickWalksModel" "count" "I") (List.mem_of_getElem? (l := wsX4_partOf) (i := 1) rfl)) (fun _ h9 => h9) rfl dX4_partOf_1 ?_
  refine lv_if_ne (tgt := 11) hx hb dX4_partOf_4 (by decide) (fun c_4 => ?_) (fun c_4 => ?_)
  · refine lv_ldc2 (v := 2) hx hb hown (hts (.constantLong RX4 98 (2)) (List.mem_of_getElem? (l := wsX4_partOf) (i := 2) rfl)) dX4_partOf_11 ?_
    refine lv_iload_n hx hb dX4_partOf_14 rfl (lv_at hl 1 rfl) ?_
    refine lv_i2l hx hb dX4_partOf_15 rfl ?_
    refine lv_lmul hx hb dX4_partOf_16 ?_
    refine lv_iload_n hx hb dX4_partOf_17 rfl (lv_at hl 2 rfl) ?_
    refine lv_i2l hx hb dX4_partOf_18 rfl ?_
    refine lv_lmul hx hb dX4_partOf_19 ?_
    refine lv_aload_n hx hb dX4_partOf_20 rfl (lv_at hl 0 rfl) ?_
    refine va_get (D := (dC, dI)) (ci := 3) (v := .int cn) (C := RX4) (T := TX4) (N := 15) hx hb hts hiX4 hown hK hP 0 rfl rfl 11 (by decide) (hts (.fieldLink RX4 36 "TickWalksModel" "count" "I") (List.mem_of_getElem? (l := wsX4_partOf) (i := 1) rfl)) (fun _ h9 => h9) rfl dX4_partOf_21 ?_
    refine lv_i2l hx hb dX4_partOf_24 rfl ?_
    refine lv_ladd hx hb dX4_partOf_25 ?_
    refine lv_ldc2 (v := 2) hx hb hown (hts (.constantLong RX4 98 (2)) (List.mem_of_getElem? (l := wsX4_partOf) (i := 2) rfl)) dX4_partOf_26 ?_
    refine lv_aload_n hx hb dX4_partOf_29 rfl (lv_at hl 0 rfl) ?_
    refine va_get (D := (dC, dI)) (ci := 3) (v := .int cn) (C := RX4) (T := TX4) (N := 15) hx hb hts hiX4 hown hK hP 0 rfl rfl 11 (by decide) (hts (.fieldLink RX4 36 "TickWalksModel" "count" "I") (List.mem_of_getElem? (l := wsX4_partOf) (i := 1) rfl)) (fun _ h9 => h9) rfl dX4_partOf_30 ?_
    refine lv_i2l hx hb dX4_partOf_33 rfl ?_
    refine lv_lmul hx hb dX4_partOf_34 ?_
    refine ct_calli (va_runS (As := [.long (((2 * bv.toInt64) * k.toInt64) + cn.toInt64), .long (2 * cn.toInt64)]) (rest := []) ⟨hx, hb, hml, hown, hts⟩ (rf_down l dC dI cA cB H.size (((2 * bv.toInt64) * k.toInt64) + cn.toInt64) (2 * cn.toInt64) (ne_2l c_4)) (va_cwS 2 hts gX4_partOf_X4_down rfl rfl rfl (by decide +kernel) ⟨Nat.le_of_ble_eq_true rfl, Nat.le_of_ble_eq_true rfl⟩) ⟨ct_blind, ct_pre hP hD hK hZ hN hS hA [] rfl (by decide)⟩ rfl rfl hl.1 rfl (lv_room (Nat.le_of_ble_eq_true rfl)) dX4_partOf_35 ⟨Nat.le_of_ble_eq_true rfl, Nat.le_of_ble_eq_true rfl⟩) hP hD hS hA [] [0] rfl (wr := [(m0, .inr (3, [.int rx, .int ry, .int rz, .int rw, .int ri, .int ux, .int uy, .int uz, .int vx, .int vy, .int vz, .int cn, .int mo, .ref qw, .ref qt]))]) rfl (by decide) (by decide) (fun r_1 u9 H locs hw_1 hP hD hS => ?_)
    have hw_1 : r_1 = (fd_d (((2 * bv.toInt64) * k.toInt64) + cn.toInt64) (2 * cn.toInt64)).toInt32 := hw_1
    have hP : va_P (dC, dI) vwCl [(m0, .inr (3, [.int rx, .int ry, .int rz, .int rw, .int ri, .int ux, .int uy, .int uz, .int vx, .int vy, .int vz, .int cn, .int mo, .ref qw, .ref qt]))] H := hP
    have hD : va_D A [(m0, .inr (3, [.int rx, .int ry, .int rz, .int rw, .int ri, .int ux, .int uy, .int uz, .int vx, .int vy, .int vz, .int cn, .int mo, .ref qw, .ref qt]))] := hD
    have hP9 := hP.sub (ws' := [(m0, .inr (3, [.int rx, .int ry, .int rz, .int rw, .int ri, .int ux, .int uy, .int uz, .int vx, .int vy, .int vz, .int cn, .int mo, .ref qw, .ref qt]))]) [0] rfl
    have hD9 := hD.sub (ws' := [(m0, .inr (3, [.int rx, .int ry, .int rz, .int rw, .int ri, .int ux, .int uy, .int uz, .int vx, .int vy, .int vz, .int cn, .int mo, .ref qw, .ref qt]))]) [0] (by decide) rfl
    exact W.iret (v := r_1) hx hb hr (fun t9 ht9 hW9 => ⟨⟨r_1, (), rfl, (by unfold pt_v; rw [if_neg c_4]; exact hw_1), by rw [ht9]; exact hP9, hD9⟩, hS.F ht9⟩) hS.2.2 dX4_partOf_38
  · refine lv_iconst (v := 0) hx hb dX4_partOf_7 (by decide) ?_
    refine lv_goto (tgt := 38) hx hb dX4_partOf_8 (by decide) ?_
    have hP9 := hP.sub (ws' := [(m0, .inr (3, [.int rx, .int ry, .int rz, .int rw, .int ri, .int ux, .int uy, .int uz, .int vx, .int vy, .int vz, .int cn, .int mo, .ref qw, .ref qt]))]) [0] rfl
    have hD9 := hD.sub (ws' := [(m0, .inr (3, [.int rx, .int ry, .int rz, .int rw, .int ri, .int ux, .int uy, .int uz, .int vx, .int vy, .int vz, .int cn, .int mo, .ref qw, .ref qt]))]) [0] (by decide) rfl
    exact W.iret (v := 0) hx hb hr (fun t9 ht9 hW9 => ⟨⟨0, (), rfl, (by unfold pt_v; rw [if_pos c_4]), by rw [ht9]; exact hP9, hD9⟩, hS.F ht9⟩) hS.2.2 dX4_partOf_38
set_option maxHeartbeats 4000000 in
set_option maxRecDepth 100000 in
/-- TickWalksModel.ticks -/
theorem rm_ticks (l : Launch) (dC : Nat → ClassId) (dI : Nat → Nat → Nat) (cA cB : ClassId) (sz : Nat) (m0 : Nat) (rx : Int32) (ry : Int32) (rz : Int32) (rw : Int32) (ri : Int32) (ux : Int32) (uy : Int32) (uz : Int32) (vx : Int32) (vy : Int32) (vz : Int32) (cn : Int32) (mo : Int32) (qw : Nat) (qt : Nat) : Met l yX4_ticks wsX4_ticks ({ frames := 0, cells := 0, slots := 0, locals := 0 }) (va_Pc [.ref m0] (ct_P dC dI cA cB sz [(m0, .inr (3, [.int rx, .int ry, .int rz, .int rw, .int ri, .int ux, .int uy, .int uz, .int vx, .int vy, .int vz, .int cn, .int mo, .ref qw, .ref qt]))])) (va_Qi (fun (r : Int32) (u : Unit) => r = cn) (fun (u : Unit) => ct_B dC dI (va_A [(m0, .inr (3, [.int rx, .int ry, .int rz, .int rw, .int ri, .int ux, .int uy, .int uz, .int vx, .int vy, .int vz, .int cn, .int mo, .ref qw, .ref qt]))] sz) [(m0, .inr (3, [.int rx, .int ry, .int rz, .int rw, .int ri, .int ux, .int uy, .int uz, .int vx, .int vy, .int vz, .int cn, .int mo, .ref qw, .ref qt]))]) (va_A [(m0, .inr (3, [.int rx, .int ry, .int rz, .int rw, .int ri, .int ux, .int uy, .int uz, .int vx, .int vy, .int vz, .int cn, .int mo, .ref qw, .ref qt]))] sz)) 0 0 (va_A [(m0, .inr (3, [.int rx, .int ry, .int rz, .int rw, .int ri, .int ux, .int uy, .int uz, .int vx, .int vy, .int vz, .int cn, .int mo, .ref qw, .ref qt]))] sz) := by
  refine Met.ofW (cc := cX4_ticks) (maxL := 1) (ret := (some .int)) (by decide +kernel) rfl ?_
  intro p e s m args below meth c s₁ B hml hv
  obtain ⟨rfl, hsz, hP, hK, hD0, hZ, hN⟩ := hv
  have hx := B.exec
  have hb := B.bytes
  have hr := B.returns
  have hts := atoms_spec (ws := wsX4_ticks) B.pre
  have hown : s.vm.findClass RX4 = some m.cls := findClass_of_methodNamed B.named
  have hlocks := B.notSynchronized
  have hiX4 : ∀ w ∈ u_ws RX4 TX4 15, w ∈ wsX4_ticks := by decide +kernel
  subst hsz
  have hD := hD0.self (sz := s.heap.size)
  generalize hAe : va_A [(m0, .inr (3, [.int rx, .int ry, .int rz, .int rw, .int ri, .int ux, .int uy, .int uz, .int vx, .int vy, .int vz, .int cn, .int mo, .ref qw, .ref qt]))] s.heap.size = A at hD hZ ⊢
  have hA : ∀ q : Nat, s.heap.size ≤ q → A q := fun q h => by rw [← hAe]; exact Or.inr h
  have hl := lv_entry ([.ref m0]) (n := 1) (Nat.le_of_ble_eq_true rfl)
  rw [lg_entry_eq]
  generalize (lg_sl ([.ref m0]) ++ List.replicate (1 - (lg_sl ([.ref m0])).length) Slot.unset).toArray = ls at hl ⊢
  have hl : lv_has ls 1 [(0, .ref m0)] := hl
  generalize hHe : s.heap = H at hP ⊢
  have hS : va_S A s.heap H [] := by rw [hHe]; exact va_S.rf
  generalize ([] : List Loc) = locs at hS ⊢
  refine lv_aload_n hx hb dX4_ticks_0 rfl (lv_at hl 0 rfl) ?_
  refine va_get (D := (dC, dI)) (ci := 3) (v := .int cn) (C := RX4) (T := TX4) (N := 15) hx hb hts hiX4 hown hK hP 0 rfl rfl 11 (by decide) (hts (.fieldLink RX4 36 "TickWalksModel" "count" "I") (List.mem_of_getElem? (l := wsX4_ticks) (i := 1) rfl)) (fun _ h9 => h9) rfl dX4_ticks_1 ?_
  have hP9 := hP.sub (ws' := [(m0, .inr (3, [.int rx, .int ry, .int rz, .int rw, .int ri, .int ux, .int uy, .int uz, .int vx, .int vy, .int vz, .int cn, .int mo, .ref qw, .ref qt]))]) [0] rfl
  have hD9 := hD.sub (ws' := [(m0, .inr (3, [.int rx, .int ry, .int rz, .int rw, .int ri, .int ux, .int uy, .int uz, .int vx, .int vy, .int vz, .int cn, .int mo, .ref qw, .ref qt]))]) [0] (by decide) rfl
  exact W.iret (v := cn) hx hb hr (fun t9 ht9 hW9 => ⟨⟨cn, (), rfl, rfl, by rw [ht9]; exact hP9, hD9⟩, hS.F ht9⟩) hS.2.2 dX4_ticks_4
set_option maxHeartbeats 4000000 in
set_option maxRecDepth 100000 in
/-- TickWalksModel.off -/
theorem rm_off (l : Launch) (dC : Nat → ClassId) (dI : Nat → Nat → Nat) (cA cB : ClassId) (sz : Nat) (m0 : Nat) (rx : Int32) (ry : Int32) (rz : Int32) (rw : Int32) (ri : Int32) (ux : Int32) (uy : Int32) (uz : Int32) (vx : Int32) (vy : Int32) (vz : Int32) (cn : Int32) (mo : Int32) (qw : Nat) (qt : Nat) : Met l yX4_off wsX4_off ({ frames := 0, cells := 0, slots := 0, locals := 0 }) (va_Pc [.ref m0] (ct_P dC dI cA cB sz [(m0, .inr (3, [.int rx, .int ry, .int rz, .int rw, .int ri, .int ux, .int uy, .int uz, .int vx, .int vy, .int vz, .int cn, .int mo, .ref qw, .ref qt]))])) (va_Qi (fun (r : Int32) (u : Unit) => r = mo) (fun (u : Unit) => ct_B dC dI (va_A [(m0, .inr (3, [.int rx, .int ry, .int rz, .int rw, .int ri, .int ux, .int uy, .int uz, .int vx, .int vy, .int vz, .int cn, .int mo, .ref qw, .ref qt]))] sz) [(m0, .inr (3, [.int rx, .int ry, .int rz, .int rw, .int ri, .int ux, .int uy, .int uz, .int vx, .int vy, .int vz, .int cn, .int mo, .ref qw, .ref qt]))]) (va_A [(m0, .inr (3, [.int rx, .int ry, .int rz, .int rw, .int ri, .int ux, .int uy, .int uz, .int vx, .int vy, .int vz, .int cn, .int mo, .ref qw, .ref qt]))] sz)) 0 0 (va_A [(m0, .inr (3, [.int rx, .int ry, .int rz, .int rw, .int ri, .int ux, .int uy, .int uz, .int vx, .int vy, .int vz, .int cn, .int mo, .ref qw, .ref qt]))] sz) := by
  refine Met.ofW (cc := cX4_off) (maxL := 1) (ret := (some .int)) (by decide +kernel) rfl ?_
  intro p e s m args below meth c s₁ B hml hv
  obtain ⟨rfl, hsz, hP, hK, hD0, hZ, hN⟩ := hv
  have hx := B.exec
  have hb := B.bytes
  have hr := B.returns
  have hts := atoms_spec (ws := wsX4_off) B.pre
  have hown : s.vm.findClass RX4 = some m.cls := findClass_of_methodNamed B.named
  have hlocks := B.notSynchronized
  have hiX4 : ∀ w ∈ u_ws RX4 TX4 15, w ∈ wsX4_off := by decide +kernel
  subst hsz
  have hD := hD0.self (sz := s.heap.size)
  generalize hAe : va_A [(m0, .inr (3, [.int rx, .int ry, .int rz, .int rw, .int ri, .int ux, .int uy, .int uz, .int vx, .int vy, .int vz, .int cn, .int mo, .ref qw, .ref qt]))] s.heap.size = A at hD hZ ⊢
  have hA : ∀ q : Nat, s.heap.size ≤ q → A q := fun q h => by rw [← hAe]; exact Or.inr h
  have hl := lv_entry ([.ref m0]) (n := 1) (Nat.le_of_ble_eq_true rfl)
  rw [lg_entry_eq]
  generalize (lg_sl ([.ref m0]) ++ List.replicate (1 - (lg_sl ([.ref m0])).length) Slot.unset).toArray = ls at hl ⊢
  have hl : lv_has ls 1 [(0, .ref m0)] := hl
  generalize hHe : s.heap = H at hP ⊢
  have hS : va_S A s.heap H [] := by rw [hHe]; exact va_S.rf
  generalize ([] : List Loc) = locs at hS ⊢
  refine lv_aload_n hx hb dX4_off_0 rfl (lv_at hl 0 rfl) ?_
  refine va_get (D := (dC, dI)) (ci := 3) (v := .int mo) (C := RX4) (T := TX4) (N := 15) hx hb hts hiX4 hown hK hP 0 rfl rfl 12 (by decide) (hts (.fieldLink RX4 39 "TickWalksModel" "most" "I") (List.mem_of_getElem? (l := wsX4_off) (i := 1) rfl)) (fun _ h9 => h9) rfl dX4_off_1 ?_
  have hP9 := hP.sub (ws' := [(m0, .inr (3, [.int rx, .int ry, .int rz, .int rw, .int ri, .int ux, .int uy, .int uz, .int vx, .int vy, .int vz, .int cn, .int mo, .ref qw, .ref qt]))]) [0] rfl
  have hD9 := hD.sub (ws' := [(m0, .inr (3, [.int rx, .int ry, .int rz, .int rw, .int ri, .int ux, .int uy, .int uz, .int vx, .int vy, .int vz, .int cn, .int mo, .ref qw, .ref qt]))]) [0] (by decide) rfl
  exact W.iret (v := mo) hx hb hr (fun t9 ht9 hW9 => ⟨⟨mo, (), rfl, rfl, by rw [ht9]; exact hP9, hD9⟩, hS.F ht9⟩) hS.2.2 dX4_off_4
set_option maxHeartbeats 4000000 in
set_option maxRecDepth 100000 in
/-- TickWalksModel.at -/
theorem rm_at (l : Launch) (dC : Nat → ClassId) (dI : Nat → Nat → Nat) (cA cB : ClassId) (sz : Nat) (m0 : Nat) (rx : Int32) (ry : Int32) (rz : Int32) (rw : Int32) (ri : Int32) (ux : Int32) (uy : Int32) (uz : Int32) (vx : Int32) (vy : Int32) (vz : Int32) (cn : Int32) (mo : Int32) (qw : Nat) (qt : Nat) (a : Int32) : Met l yX4_at wsX4_at ({ frames := 0, cells := 0, slots := 0, locals := 0 }) (va_Pc [.ref m0, .int a] (ct_P dC dI cA cB sz [(m0, .inr (3, [.int rx, .int ry, .int rz, .int rw, .int ri, .int ux, .int uy, .int uz, .int vx, .int vy, .int vz, .int cn, .int mo, .ref qw, .ref qt]))])) (va_Qi (fun (r : Int32) (u : Unit) => r = (if a = 0 then rx else if a = 1 then ry else if a = 2 then rz else 0)) (fun (u : Unit) => ct_B dC dI (va_A [(m0, .inr (3, [.int rx, .int ry, .int rz, .int rw, .int ri, .int ux, .int uy, .int uz, .int vx, .int vy, .int vz, .int cn, .int mo, .ref qw, .ref qt]))] sz) [(m0, .inr (3, [.int rx, .int ry, .int rz, .int rw, .int ri, .int ux, .int uy, .int uz, .int vx, .int vy, .int vz, .int cn, .int mo, .ref qw, .ref qt]))]) (va_A [(m0, .inr (3, [.int rx, .int ry, .int rz, .int rw, .int ri, .int ux, .int uy, .int uz, .int vx, .int vy, .int vz, .int cn, .int mo, .ref qw, .ref qt]))] sz)) 0 0 (va_A [(m0, .inr (3, [.int rx, .int ry, .int rz, .int rw, .int ri, .int ux, .int uy, .int uz, .int vx, .int vy, .int vz, .int cn, .int mo, .ref qw, .ref qt]))] sz) := by
  refine Met.ofW (cc := cX4_at) (maxL := 2) (ret := (some .int)) (by decide +kernel) rfl ?_
  intro p e s m args below meth c s₁ B hml hv
  obtain ⟨rfl, hsz, hP, hK, hD0, hZ, hN⟩ := hv
  have hx := B.exec
  have hb := B.bytes
  have hr := B.returns
  have hts := atoms_spec (ws := wsX4_at) B.pre
  have hown : s.vm.findClass RX4 = some m.cls := findClass_of_methodNamed B.named
  have hlocks := B.notSynchronized
  have hiX4 : ∀ w ∈ u_ws RX4 TX4 15, w ∈ wsX4_at := by decide +kernel
  subst hsz
  have hD := hD0.self (sz := s.heap.size)
  generalize hAe : va_A [(m0, .inr (3, [.int rx, .int ry, .int rz, .int rw, .int ri, .int ux, .int uy, .int uz, .int vx, .int vy, .int vz, .int cn, .int mo, .ref qw, .ref qt]))] s.heap.size = A at hD hZ ⊢
  have hA : ∀ q : Nat, s.heap.size ≤ q → A q := fun q h => by rw [← hAe]; exact Or.inr h
  have hl := lv_entry ([.ref m0, .int a]) (n := 2) (Nat.le_of_ble_eq_true rfl)
  rw [lg_entry_eq]
  generalize (lg_sl ([.ref m0, .int a]) ++ List.replicate (2 - (lg_sl ([.ref m0, .int a])).length) Slot.unset).toArray = ls at hl ⊢
  have hl : lv_has ls 2 [(0, .ref m0), (1, .int a)] := hl
  generalize hHe : s.heap = H at hP ⊢
  have hS : va_S A s.heap H [] := by rw [hHe]; exact va_S.rf
  generalize ([] : List Loc) = locs at hS ⊢
  refine lv_iload_n hx hb dX4_at_0 rfl (lv_at hl 1 rfl) ?_
  refine lv_if_ne (tgt := 11) hx hb dX4_at_1 (by decide) (fun c_1 => ?_) (fun c_1 => ?_)
  · refine lv_iload_n hx hb dX4_at_11 rfl (lv_at hl 1 rfl) ?_
    refine lv_iconst (v := 1) hx hb dX4_at_12 (by decide) ?_
    refine lv_icmp_ne (tgt := 23) hx hb dX4_at_13 (by decide) (fun c_13 => ?_) (fun c_13 => ?_)
    · refine lv_iload_n hx hb dX4_at_23 rfl (lv_at hl 1 rfl) ?_
      refine lv_iconst (v := 2) hx hb dX4_at_24 (by decide) ?_
      refine lv_icmp_ne (tgt := 35) hx hb dX4_at_25 (by decide) (fun c_25 => ?_) (fun c_25 => ?_)
      · refine lv_iconst (v := 0) hx hb dX4_at_35 (by decide) ?_
        have hP9 := hP.sub (ws' := [(m0, .inr (3, [.int rx, .int ry, .int rz, .int rw, .int ri, .int ux, .int uy, .int uz, .int vx, .int vy, .int vz, .int cn, .int mo, .ref qw, .ref qt]))]) [0] rfl
        have hD9 := hD.sub (ws' := [(m0, .inr (3, [.int rx, .int ry, .int rz, .int rw, .int ri, .int ux, .int uy, .int uz, .int vx, .int vy, .int vz, .int cn, .int mo, .ref qw, .ref qt]))]) [0] (by decide) rfl
        exact W.iret (v := 0) hx hb hr (fun t9 ht9 hW9 => ⟨⟨0, (), rfl, (by rw [if_neg c_1, if_neg c_13, if_neg c_25]), by rw [ht9]; exact hP9, hD9⟩, hS.F ht9⟩) hS.2.2 dX4_at_36
      · refine lv_aload_n hx hb dX4_at_28 rfl (lv_at hl 0 rfl) ?_
        refine va_get (D := (dC, dI)) (ci := 3) (v := .int rz) (C := RX4) (T := TX4) (N := 15) hx hb hts hiX4 hown hK hP 0 rfl rfl 2 (by decide) (hts (.fieldLink RX4 29 "TickWalksModel" "z" "I") (List.mem_of_getElem? (l := wsX4_at) (i := 3) rfl)) (fun _ h9 => h9) rfl dX4_at_29 ?_
        refine lv_goto (tgt := 36) hx hb dX4_at_32 (by decide) ?_
        have hP9 := hP.sub (ws' := [(m0, .inr (3, [.int rx, .int ry, .int rz, .int rw, .int ri, .int ux, .int uy, .int uz, .int vx, .int vy, .int vz, .int cn, .int mo, .ref qw, .ref qt]))]) [0] rfl
        have hD9 := hD.sub (ws' := [(m0, .inr (3, [.int rx, .int ry, .int rz, .int rw, .int ri, .int ux, .int uy, .int uz, .int vx, .int vy, .int vz, .int cn, .int mo, .ref qw, .ref qt]))]) [0] (by decide) rfl
        exact W.iret (v := rz) hx hb hr (fun t9 ht9 hW9 => ⟨⟨rz, (), rfl, (by rw [if_neg c_1, if_neg c_13, if_pos c_25]), by rw [ht9]; exact hP9, hD9⟩, hS.F ht9⟩) hS.2.2 dX4_at_36
    · refine lv_aload_n hx hb dX4_at_16 rfl (lv_at hl 0 rfl) ?_
      refine va_get (D := (dC, dI)) (ci := 3) (v := .int ry) (C := RX4) (T := TX4) (N := 15) hx hb hts hiX4 hown hK hP 0 rfl rfl 1 (by decide) (hts (.fieldLink RX4 26 "TickWalksModel" "y" "I") (List.mem_of_getElem? (l := wsX4_at) (i := 2) rfl)) (fun _ h9 => h9) rfl dX4_at_17 ?_
      refine lv_goto (tgt := 36) hx hb dX4_at_20 (by decide) ?_
      have hP9 := hP.sub (ws' := [(m0, .inr (3, [.int rx, .int ry, .int rz, .int rw, .int ri, .int ux, .int uy, .int uz, .int vx, .int vy, .int vz, .int cn, .int mo, .ref qw, .ref qt]))]) [0] rfl
      have hD9 := hD.sub (ws' := [(m0, .inr (3, [.int rx, .int ry, .int rz, .int rw, .int ri, .int ux, .int uy, .int uz, .int vx, .int vy, .int vz, .int cn, .int mo, .ref qw, .ref qt]))]) [0] (by decide) rfl
      exact W.iret (v := ry) hx hb hr (fun t9 ht9 hW9 => ⟨⟨ry, (), rfl, (by rw [if_neg c_1, if_pos c_13]), by rw [ht9]; exact hP9, hD9⟩, hS.F ht9⟩) hS.2.2 dX4_at_36
  · refine lv_aload_n hx hb dX4_at_4 rfl (lv_at hl 0 rfl) ?_
    refine va_get (D := (dC, dI)) (ci := 3) (v := .int rx) (C := RX4) (T := TX4) (N := 15) hx hb hts hiX4 hown hK hP 0 rfl rfl 0 (by decide) (hts (.fieldLink RX4 22 "TickWalksModel" "x" "I") (List.mem_of_getElem? (l := wsX4_at) (i := 1) rfl)) (fun _ h9 => h9) rfl dX4_at_5 ?_
    refine lv_goto (tgt := 36) hx hb dX4_at_8 (by decide) ?_
    have hP9 := hP.sub (ws' := [(m0, .inr (3, [.int rx, .int ry, .int rz, .int rw, .int ri, .int ux, .int uy, .int uz, .int vx, .int vy, .int vz, .int cn, .int mo, .ref qw, .ref qt]))]) [0] rfl
    have hD9 := hD.sub (ws' := [(m0, .inr (3, [.int rx, .int ry, .int rz, .int rw, .int ri, .int ux, .int uy, .int uz, .int vx, .int vy, .int vz, .int cn, .int mo, .ref qw, .ref qt]))]) [0] (by decide) rfl
    exact W.iret (v := rx) hx hb hr (fun t9 ht9 hW9 => ⟨⟨rx, (), rfl, (by rw [if_pos c_1]), by rw [ht9]; exact hP9, hD9⟩, hS.F ht9⟩) hS.2.2 dX4_at_36
set_option maxHeartbeats 4000000 in
set_option maxRecDepth 100000 in
/-- TickWalksModel.strays -/
theorem rm_strays (l : Launch) (dC : Nat → ClassId) (dI : Nat → Nat → Nat) (cA cB : ClassId) (sz : Nat) (m0 : Nat) (rx : Int32) (ry : Int32) (rz : Int32) (rw : Int32) (ri : Int32) (ux : Int32) (uy : Int32) (uz : Int32) (vx : Int32) (vy : Int32) (vz : Int32) (cn : Int32) (mo : Int32) (qw : Nat) (qt : Nat) (N : Nat) (hN2 : cn = nI N ∧ N < 1000000) : Met l yX4_strays wsX4_strays ({ frames := 2, cells := 0, slots := 0, locals := 50 }) (va_Pc [.ref m0] (ct_P dC dI cA cB sz [(m0, .inr (3, [.int rx, .int ry, .int rz, .int rw, .int ri, .int ux, .int uy, .int uz, .int vx, .int vy, .int vz, .int cn, .int mo, .ref qw, .ref qt]))])) (va_Qi (fun (r : Int32) (u : Unit) => r = (if ri = 0 then rs_c vx vy vz cn N else 0)) (fun (u : Unit) => ct_B dC dI (va_A [(m0, .inr (3, [.int rx, .int ry, .int rz, .int rw, .int ri, .int ux, .int uy, .int uz, .int vx, .int vy, .int vz, .int cn, .int mo, .ref qw, .ref qt]))] sz) [(m0, .inr (3, [.int rx, .int ry, .int rz, .int rw, .int ri, .int ux, .int uy, .int uz, .int vx, .int vy, .int vz, .int cn, .int mo, .ref qw, .ref qt]))]) (va_A [(m0, .inr (3, [.int rx, .int ry, .int rz, .int rw, .int ri, .int ux, .int uy, .int uz, .int vx, .int vy, .int vz, .int cn, .int mo, .ref qw, .ref qt]))] sz)) 0 0 (va_A [(m0, .inr (3, [.int rx, .int ry, .int rz, .int rw, .int ri, .int ux, .int uy, .int uz, .int vx, .int vy, .int vz, .int cn, .int mo, .ref qw, .ref qt]))] sz) := by
  refine Met.ofW (cc := cX4_strays) (maxL := 6) (ret := (some .int)) (by decide +kernel) rfl ?_
  intro p e s m args below meth c s₁ B hml hv
  obtain ⟨rfl, hsz, hP, hK, hD0, hZ, hN⟩ := hv
  have hx := B.exec
  have hb := B.bytes
  have hr := B.returns
  have hts := atoms_spec (ws := wsX4_strays) B.pre
  have hown : s.vm.findClass RX4 = some m.cls := findClass_of_methodNamed B.named
  have hlocks := B.notSynchronized
  have hiX4 : ∀ w ∈ u_ws RX4 TX4 15, w ∈ wsX4_strays := by decide +kernel
  subst hsz
  have hD := hD0.self (sz := s.heap.size)
  generalize hAe : va_A [(m0, .inr (3, [.int rx, .int ry, .int rz, .int rw, .int ri, .int ux, .int uy, .int uz, .int vx, .int vy, .int vz, .int cn, .int mo, .ref qw, .ref qt]))] s.heap.size = A at hD hZ ⊢
  have hA : ∀ q : Nat, s.heap.size ≤ q → A q := fun q h => by rw [← hAe]; exact Or.inr h
  have hl := lv_entry ([.ref m0]) (n := 6) (Nat.le_of_ble_eq_true rfl)
  rw [lg_entry_eq]
  generalize (lg_sl ([.ref m0]) ++ List.replicate (6 - (lg_sl ([.ref m0])).length) Slot.unset).toArray = ls at hl ⊢
  have hl : lv_has ls 6 [(0, .ref m0)] := hl
  generalize hHe : s.heap = H at hP ⊢
  have hS : va_S A s.heap H [] := by rw [hHe]; exact va_S.rf
  generalize ([] : List Loc) = locs at hS ⊢
  refine lv_iconst (v := 0) hx hb dX4_strays_0 (by decide) ?_
  refine lv_istore_n (lv' := [(1, .int 0), (0, .ref m0)]) hx hb dX4_strays_1 rfl hl (by decide) rfl (fun ls hl => ?_)
  refine lv_iconst (v := 1) hx hb dX4_strays_2 (by decide) ?_
  refine lv_istore_n (lv' := [(2, .int 1), (1, .int 0), (0, .ref m0)]) hx hb dX4_strays_3 rfl hl (by decide) rfl (fun ls hl => ?_)
  refine ct_loop (σ := Nat × Int32) (fun n9 w9 H locs ls => n9 = N + 1 - w9.1 ∧ (1 ≤ w9.1 ∧ w9.1 ≤ N + 1) ∧ (w9.2 = rs_c vx vy vz cn (w9.1 - 1)) ∧ (w9.1 = 1 ∨ ri = 0) ∧ va_P (dC, dI) vwCl [(m0, .inr (3, [.int rx, .int ry, .int rz, .int rw, .int ri, .int ux, .int uy, .int uz, .int vx, .int vy, .int vz, .int cn, .int mo, .ref qw, .ref qt]))] H ∧ va_D A [(m0, .inr (3, [.int rx, .int ry, .int rz, .int rw, .int ri, .int ux, .int uy, .int uz, .int vx, .int vy, .int vz, .int cn, .int mo, .ref qw, .ref qt]))] ∧ va_S A s.heap H locs ∧ lv_has ls 6 [(2, .int (nI w9.1)), (0, .ref m0), (1, .int w9.2)]) (fun n9 w9 H locs ls hJ ih_4 => ?_) (N + 1 - 1) (1, 0) _ _ _ ⟨rfl, (⟨Nat.le_refl 1, by omega⟩), rfl, (Or.inl rfl), (hP.sub [0] rfl), (hD.sub [0] (by decide) rfl), hS, (lv_sub hl [0, 2, 1] rfl)⟩
  obtain ⟨i, mn⟩ := w9
  obtain ⟨hn_4, hi, hc, hri, hP, hD, hS, hl⟩ := hJ
  have hn_4 : n9 = N + 1 - i := hn_4
  have hi : 1 ≤ i ∧ i ≤ N + 1 := hi
  have hc : mn = rs_c vx vy vz cn (i - 1) := hc
  have hri : i = 1 ∨ ri = 0 := hri
  have hP : va_P (dC, dI) vwCl [(m0, .inr (3, [.int rx, .int ry, .int rz, .int rw, .int ri, .int ux, .int uy, .int uz, .int vx, .int vy, .int vz, .int cn, .int mo, .ref qw, .ref qt]))] H := hP
  have hD : va_D A [(m0, .inr (3, [.int rx, .int ry, .int rz, .int rw, .int ri, .int ux, .int uy, .int uz, .int vx, .int vy, .int vz, .int cn, .int mo, .ref qw, .ref qt]))] := hD
  have hl : lv_has ls 6 [(2, .int (nI i)), (0, .ref m0), (1, .int mn)] := hl
  refine lv_iload_n hx hb dX4_strays_4 rfl (lv_at hl 0 rfl) ?_
  refine lv_aload_n hx hb dX4_strays_5 rfl (lv_at hl 1 rfl) ?_
  refine va_get (D := (dC, dI)) (ci := 3) (v := .int cn) (C := RX4) (T := TX4) (N := 15) hx hb hts hiX4 hown hK hP 0 rfl rfl 11 (by decide) (hts (.fieldLink RX4 36 "TickWalksModel" "count" "I") (List.mem_of_getElem? (l := wsX4_strays) (i := 1) rfl)) (fun _ h9 => h9) rfl dX4_strays_6 ?_
  refine lv_icmp_gt (tgt := 132) hx hb dX4_strays_9 (by decide) (fun c_9 => ?_) (fun c_9 => ?_)
  · refine lv_iload_n hx hb dX4_strays_132 rfl (lv_at hl 2 rfl) ?_
    have hP9 := hP.sub (ws' := [(m0, .inr (3, [.int rx, .int ry, .int rz, .int rw, .int ri, .int ux, .int uy, .int uz, .int vx, .int vy, .int vz, .int cn, .int mo, .ref qw, .ref qt]))]) [0] rfl
    have hD9 := hD.sub (ws' := [(m0, .inr (3, [.int rx, .int ry, .int rz, .int rw, .int ri, .int ux, .int uy, .int uz, .int vx, .int vy, .int vz, .int cn, .int mo, .ref qw, .ref qt]))]) [0] (by decide) rfl
    exact W.iret (v := mn) hx hb hr (fun t9 ht9 hW9 => ⟨⟨mn, (), rfl, (rm_end hN2 hi c_9 hc hri), by rw [ht9]; exact hP9, hD9⟩, hS.F ht9⟩) hS.2.2 dX4_strays_133
  · refine lv_aload_n hx hb dX4_strays_12 rfl (lv_at hl 1 rfl) ?_
    refine va_get (D := (dC, dI)) (ci := 3) (v := .int ri) (C := RX4) (T := TX4) (N := 15) hx hb hts hiX4 hown hK hP 0 rfl rfl 4 (by decide) (hts (.fieldLink RX4 42 "TickWalksModel" "isArc" "Z") (List.mem_of_getElem? (l := wsX4_strays) (i := 2) rfl)) (fun _ h9 => h9) rfl dX4_strays_13 ?_
    refine lv_if_ne (tgt := 132) hx hb dX4_strays_16 (by decide) (fun c_16 => ?_) (fun c_16 => ?_)
    · refine lv_iload_n hx hb dX4_strays_132 rfl (lv_at hl 2 rfl) ?_
      have hP9 := hP.sub (ws' := [(m0, .inr (3, [.int rx, .int ry, .int rz, .int rw, .int ri, .int ux, .int uy, .int uz, .int vx, .int vy, .int vz, .int cn, .int mo, .ref qw, .ref qt]))]) [0] rfl
      have hD9 := hD.sub (ws' := [(m0, .inr (3, [.int rx, .int ry, .int rz, .int rw, .int ri, .int ux, .int uy, .int uz, .int vx, .int vy, .int vz, .int cn, .int mo, .ref qw, .ref qt]))]) [0] (by decide) rfl
      exact W.iret (v := mn) hx hb hr (fun t9 ht9 hW9 => ⟨⟨mn, (), rfl, (by rw [if_neg c_16]; rcases hri with h | h; rw [hc, h]; rfl; exact absurd h c_16), by rw [ht9]; exact hP9, hD9⟩, hS.F ht9⟩) hS.2.2 dX4_strays_133
    · have hle : i ≤ N := by
        rcases Nat.lt_or_ge N i with h | h
        · exact absurd (show cn < nI i by rw [hN2.1]; exact nI_lt h (by omega)) c_9
        · exact h
      obtain ⟨k, rfl⟩ : ∃ k, i = k + 1 := ⟨i - 1, by omega⟩
      refine lv_aload_n hx hb dX4_strays_19 rfl (lv_at hl 1 rfl) ?_
      refine lv_aload_n hx hb dX4_strays_20 rfl (lv_at hl 1 rfl) ?_
      refine va_get (D := (dC, dI)) (ci := 3) (v := .int vx) (C := RX4) (T := TX4) (N := 15) hx hb hts hiX4 hown hK hP 0 rfl rfl 8 (by decide) (hts (.fieldLink RX4 54 "TickWalksModel" "byX" "I") (List.mem_of_getElem? (l := wsX4_strays) (i := 3) rfl)) (fun _ h9 => h9) rfl dX4_strays_21 ?_
      refine lv_iload_n hx hb dX4_strays_24 rfl (lv_at hl 0 rfl) ?_
      refine ct_calli (va_runV (As := [.int vx, .int (nI (k + 1))]) (rest := []) ⟨hx, hb, hml, hown, hts⟩ (rm_part l dC dI cA cB H.size m0 rx ry rz rw ri ux uy uz vx vy vz cn mo qw qt vx (nI (k + 1)) ) (cwV 2 hts gX4_strays_X4_partOf rfl rfl rfl (by decide +kernel) ⟨Nat.le_of_ble_eq_true rfl, Nat.le_of_ble_eq_true rfl⟩) ⟨ct_blind, va_recv hK hP (ci := 3) (q0 := 0) rfl rfl, ct_pre hP hD hK hZ hN hS hA [0] rfl (by decide)⟩ rfl rfl hl.1 rfl (lv_room (Nat.le_of_ble_eq_true rfl)) dX4_strays_25 ⟨Nat.le_of_ble_eq_true rfl, Nat.le_of_ble_eq_true rfl⟩) hP hD hS hA [0] [] rfl (wr := []) rfl (by decide) (by decide) (fun r_1 u9 H locs hw_1 hP hD hS => ?_)
      have hw_1 : r_1 = pt_v cn vx (nI (k + 1)) := hw_1
      have hP : va_P (dC, dI) vwCl [(m0, .inr (3, [.int rx, .int ry, .int rz, .int rw, .int ri, .int ux, .int uy, .int uz, .int vx, .int vy, .int vz, .int cn, .int mo, .ref qw, .ref qt]))] H := hP
      have hD : va_D A [(m0, .inr (3, [.int rx, .int ry, .int rz, .int rw, .int ri, .int ux, .int uy, .int uz, .int vx, .int vy, .int vz, .int cn, .int mo, .ref qw, .ref qt]))] := hD
      refine lv_aload_n hx hb dX4_strays_28 rfl (lv_at hl 1 rfl) ?_
      refine lv_aload_n hx hb dX4_strays_29 rfl (lv_at hl 1 rfl) ?_
      refine va_get (D := (dC, dI)) (ci := 3) (v := .int vx) (C := RX4) (T := TX4) (N := 15) hx hb hts hiX4 hown hK hP 0 rfl rfl 8 (by decide) (hts (.fieldLink RX4 54 "TickWalksModel" "byX" "I") (List.mem_of_getElem? (l := wsX4_strays) (i := 3) rfl)) (fun _ h9 => h9) rfl dX4_strays_30 ?_
      refine lv_iload_n hx hb dX4_strays_33 rfl (lv_at hl 0 rfl) ?_
      refine lv_iconst (v := 1) hx hb dX4_strays_34 (by decide) ?_
      refine lv_isub hx hb dX4_strays_35 ?_
      refine ct_topi (y := nI k) (nI_pred k) ?_
      refine ct_calli (va_runV (As := [.int vx, .int (nI k)]) (rest := [.int r_1]) ⟨hx, hb, hml, hown, hts⟩ (rm_part l dC dI cA cB H.size m0 rx ry rz rw ri ux uy uz vx vy vz cn mo qw qt vx (nI k) ) (cwV 2 hts gX4_strays_X4_partOf rfl rfl rfl (by decide +kernel) ⟨Nat.le_of_ble_eq_true rfl, Nat.le_of_ble_eq_true rfl⟩) ⟨ct_blind, va_recv hK hP (ci := 3) (q0 := 0) rfl rfl, ct_pre hP hD hK hZ hN hS hA [0] rfl (by decide)⟩ rfl rfl hl.1 rfl (lv_room (Nat.le_of_ble_eq_true rfl)) dX4_strays_36 ⟨Nat.le_of_ble_eq_true rfl, Nat.le_of_ble_eq_true rfl⟩) hP hD hS hA [0] [] rfl (wr := []) rfl (by decide) (by decide) (fun r_2 u9 H locs hw_2 hP hD hS => ?_)
      have hw_2 : r_2 = pt_v cn vx (nI k) := hw_2
      have hP : va_P (dC, dI) vwCl [(m0, .inr (3, [.int rx, .int ry, .int rz, .int rw, .int ri, .int ux, .int uy, .int uz, .int vx, .int vy, .int vz, .int cn, .int mo, .ref qw, .ref qt]))] H := hP
      have hD : va_D A [(m0, .inr (3, [.int rx, .int ry, .int rz, .int rw, .int ri, .int ux, .int uy, .int uz, .int vx, .int vy, .int vz, .int cn, .int mo, .ref qw, .ref qt]))] := hD
      refine lv_isub hx hb dX4_strays_39 ?_
      refine ct_calli (va_runS (As := [.int (r_1 - r_2)]) (rest := []) ⟨hx, hb, hml, hown, hts⟩ (rf_amount l dC dI cA cB H.size (r_1 - r_2) ) (va_cwS 1 hts gX4_strays_X4_amount rfl rfl rfl (by decide +kernel) ⟨Nat.le_of_ble_eq_true rfl, Nat.le_of_ble_eq_true rfl⟩) ⟨ct_blind, ct_pre hP hD hK hZ hN hS hA [] rfl (by decide)⟩ rfl rfl hl.1 rfl (lv_room (Nat.le_of_ble_eq_true rfl)) dX4_strays_40 ⟨Nat.le_of_ble_eq_true rfl, Nat.le_of_ble_eq_true rfl⟩) hP hD hS hA [] [0] rfl (wr := [(m0, .inr (3, [.int rx, .int ry, .int rz, .int rw, .int ri, .int ux, .int uy, .int uz, .int vx, .int vy, .int vz, .int cn, .int mo, .ref qw, .ref qt]))]) rfl (by decide) (by decide) (fun r_3 u9 H locs hw_3 hP hD hS => ?_)
      have hw_3 : r_3 = am_i (r_1 - r_2) := hw_3
      have hP : va_P (dC, dI) vwCl [(m0, .inr (3, [.int rx, .int ry, .int rz, .int rw, .int ri, .int ux, .int uy, .int uz, .int vx, .int vy, .int vz, .int cn, .int mo, .ref qw, .ref qt]))] H := hP
      have hD : va_D A [(m0, .inr (3, [.int rx, .int ry, .int rz, .int rw, .int ri, .int ux, .int uy, .int uz, .int vx, .int vy, .int vz, .int cn, .int mo, .ref qw, .ref qt]))] := hD
      refine lv_istore_n (lv' := [(3, .int r_3), (2, .int (nI (k + 1))), (0, .ref m0), (1, .int mn)]) hx hb dX4_strays_43 rfl hl (by decide) rfl (fun ls hl => ?_)
      refine lv_aload_n hx hb dX4_strays_44 rfl (lv_at hl 2 rfl) ?_
      refine lv_aload_n hx hb dX4_strays_45 rfl (lv_at hl 2 rfl) ?_
      refine va_get (D := (dC, dI)) (ci := 3) (v := .int vy) (C := RX4) (T := TX4) (N := 15) hx hb hts hiX4 hown hK hP 0 rfl rfl 9 (by decide) (hts (.fieldLink RX4 57 "TickWalksModel" "byY" "I") (List.mem_of_getElem? (l := wsX4_strays) (i := 4) rfl)) (fun _ h9 => h9) rfl dX4_strays_46 ?_
      refine lv_iload_n hx hb dX4_strays_49 rfl (lv_at hl 1 rfl) ?_
      refine ct_calli (va_runV (As := [.int vy, .int (nI (k + 1))]) (rest := []) ⟨hx, hb, hml, hown, hts⟩ (rm_part l dC dI cA cB H.size m0 rx ry rz rw ri ux uy uz vx vy vz cn mo qw qt vy (nI (k + 1)) ) (cwV 2 hts gX4_strays_X4_partOf rfl rfl rfl (by decide +kernel) ⟨Nat.le_of_ble_eq_true rfl, Nat.le_of_ble_eq_true rfl⟩) ⟨ct_blind, va_recv hK hP (ci := 3) (q0 := 0) rfl rfl, ct_pre hP hD hK hZ hN hS hA [0] rfl (by decide)⟩ rfl rfl hl.1 rfl (lv_room (Nat.le_of_ble_eq_true rfl)) dX4_strays_50 ⟨Nat.le_of_ble_eq_true rfl, Nat.le_of_ble_eq_true rfl⟩) hP hD hS hA [0] [] rfl (wr := []) rfl (by decide) (by decide) (fun r_4 u9 H locs hw_4 hP hD hS => ?_)
      have hw_4 : r_4 = pt_v cn vy (nI (k + 1)) := hw_4
      have hP : va_P (dC, dI) vwCl [(m0, .inr (3, [.int rx, .int ry, .int rz, .int rw, .int ri, .int ux, .int uy, .int uz, .int vx, .int vy, .int vz, .int cn, .int mo, .ref qw, .ref qt]))] H := hP
      have hD : va_D A [(m0, .inr (3, [.int rx, .int ry, .int rz, .int rw, .int ri, .int ux, .int uy, .int uz, .int vx, .int vy, .int vz, .int cn, .int mo, .ref qw, .ref qt]))] := hD
      refine lv_aload_n hx hb dX4_strays_53 rfl (lv_at hl 2 rfl) ?_
      refine lv_aload_n hx hb dX4_strays_54 rfl (lv_at hl 2 rfl) ?_
      refine va_get (D := (dC, dI)) (ci := 3) (v := .int vy) (C := RX4) (T := TX4) (N := 15) hx hb hts hiX4 hown hK hP 0 rfl rfl 9 (by decide) (hts (.fieldLink RX4 57 "TickWalksModel" "byY" "I") (List.mem_of_getElem? (l := wsX4_strays) (i := 4) rfl)) (fun _ h9 => h9) rfl dX4_strays_55 ?_
      refine lv_iload_n hx hb dX4_strays_58 rfl (lv_at hl 1 rfl) ?_
      refine lv_iconst (v := 1) hx hb dX4_strays_59 (by decide) ?_
      refine lv_isub hx hb dX4_strays_60 ?_
      refine ct_topi (y := nI k) (nI_pred k) ?_
      refine ct_calli (va_runV (As := [.int vy, .int (nI k)]) (rest := [.int r_4]) ⟨hx, hb, hml, hown, hts⟩ (rm_part l dC dI cA cB H.size m0 rx ry rz rw ri ux uy uz vx vy vz cn mo qw qt vy (nI k) ) (cwV 2 hts gX4_strays_X4_partOf rfl rfl rfl (by decide +kernel) ⟨Nat.le_of_ble_eq_true rfl, Nat.le_of_ble_eq_true rfl⟩) ⟨ct_blind, va_recv hK hP (ci := 3) (q0 := 0) rfl rfl, ct_pre hP hD hK hZ hN hS hA [0] rfl (by decide)⟩ rfl rfl hl.1 rfl (lv_room (Nat.le_of_ble_eq_true rfl)) dX4_strays_61 ⟨Nat.le_of_ble_eq_true rfl, Nat.le_of_ble_eq_true rfl⟩) hP hD hS hA [0] [] rfl (wr := []) rfl (by decide) (by decide) (fun r_5 u9 H locs hw_5 hP hD hS => ?_)
      have hw_5 : r_5 = pt_v cn vy (nI k) := hw_5
      have hP : va_P (dC, dI) vwCl [(m0, .inr (3, [.int rx, .int ry, .int rz, .int rw, .int ri, .int ux, .int uy, .int uz, .int vx, .int vy, .int vz, .int cn, .int mo, .ref qw, .ref qt]))] H := hP
      have hD : va_D A [(m0, .inr (3, [.int rx, .int ry, .int rz, .int rw, .int ri, .int ux, .int uy, .int uz, .int vx, .int vy, .int vz, .int cn, .int mo, .ref qw, .ref qt]))] := hD
      refine lv_isub hx hb dX4_strays_64 ?_
      refine ct_calli (va_runS (As := [.int (r_4 - r_5)]) (rest := []) ⟨hx, hb, hml, hown, hts⟩ (rf_amount l dC dI cA cB H.size (r_4 - r_5) ) (va_cwS 1 hts gX4_strays_X4_amount rfl rfl rfl (by decide +kernel) ⟨Nat.le_of_ble_eq_true rfl, Nat.le_of_ble_eq_true rfl⟩) ⟨ct_blind, ct_pre hP hD hK hZ hN hS hA [] rfl (by decide)⟩ rfl rfl hl.1 rfl (lv_room (Nat.le_of_ble_eq_true rfl)) dX4_strays_65 ⟨Nat.le_of_ble_eq_true rfl, Nat.le_of_ble_eq_true rfl⟩) hP hD hS hA [] [0] rfl (wr := [(m0, .inr (3, [.int rx, .int ry, .int rz, .int rw, .int ri, .int ux, .int uy, .int uz, .int vx, .int vy, .int vz, .int cn, .int mo, .ref qw, .ref qt]))]) rfl (by decide) (by decide) (fun r_6 u9 H locs hw_6 hP hD hS => ?_)
      have hw_6 : r_6 = am_i (r_4 - r_5) := hw_6
      have hP : va_P (dC, dI) vwCl [(m0, .inr (3, [.int rx, .int ry, .int rz, .int rw, .int ri, .int ux, .int uy, .int uz, .int vx, .int vy, .int vz, .int cn, .int mo, .ref qw, .ref qt]))] H := hP
      have hD : va_D A [(m0, .inr (3, [.int rx, .int ry, .int rz, .int rw, .int ri, .int ux, .int uy, .int uz, .int vx, .int vy, .int vz, .int cn, .int mo, .ref qw, .ref qt]))] := hD
      refine lv_istore (lv' := [(4, .int r_6), (3, .int r_3), (2, .int (nI (k + 1))), (0, .ref m0), (1, .int mn)]) hx hb dX4_strays_68 hl (by decide) rfl (fun ls hl => ?_)
      refine lv_aload_n hx hb dX4_strays_70 rfl (lv_at hl 3 rfl) ?_
      refine lv_aload_n hx hb dX4_strays_71 rfl (lv_at hl 3 rfl) ?_
      refine va_get (D := (dC, dI)) (ci := 3) (v := .int vz) (C := RX4) (T := TX4) (N := 15) hx hb hts hiX4 hown hK hP 0 rfl rfl 10 (by decide) (hts (.fieldLink RX4 60 "TickWalksModel" "byZ" "I") (List.mem_of_getElem? (l := wsX4_strays) (i := 5) rfl)) (fun _ h9 => h9) rfl dX4_strays_72 ?_
      refine lv_iload_n hx hb dX4_strays_75 rfl (lv_at hl 2 rfl) ?_
      refine ct_calli (va_runV (As := [.int vz, .int (nI (k + 1))]) (rest := []) ⟨hx, hb, hml, hown, hts⟩ (rm_part l dC dI cA cB H.size m0 rx ry rz rw ri ux uy uz vx vy vz cn mo qw qt vz (nI (k + 1)) ) (cwV 2 hts gX4_strays_X4_partOf rfl rfl rfl (by decide +kernel) ⟨Nat.le_of_ble_eq_true rfl, Nat.le_of_ble_eq_true rfl⟩) ⟨ct_blind, va_recv hK hP (ci := 3) (q0 := 0) rfl rfl, ct_pre hP hD hK hZ hN hS hA [0] rfl (by decide)⟩ rfl rfl hl.1 rfl (lv_room (Nat.le_of_ble_eq_true rfl)) dX4_strays_76 ⟨Nat.le_of_ble_eq_true rfl, Nat.le_of_ble_eq_true rfl⟩) hP hD hS hA [0] [] rfl (wr := []) rfl (by decide) (by decide) (fun r_7 u9 H locs hw_7 hP hD hS => ?_)
      have hw_7 : r_7 = pt_v cn vz (nI (k + 1)) := hw_7
      have hP : va_P (dC, dI) vwCl [(m0, .inr (3, [.int rx, .int ry, .int rz, .int rw, .int ri, .int ux, .int uy, .int uz, .int vx, .int vy, .int vz, .int cn, .int mo, .ref qw, .ref qt]))] H := hP
      have hD : va_D A [(m0, .inr (3, [.int rx, .int ry, .int rz, .int rw, .int ri, .int ux, .int uy, .int uz, .int vx, .int vy, .int vz, .int cn, .int mo, .ref qw, .ref qt]))] := hD
      refine lv_aload_n hx hb dX4_strays_79 rfl (lv_at hl 3 rfl) ?_
      refine lv_aload_n hx hb dX4_strays_80 rfl (lv_at hl 3 rfl) ?_
      refine va_get (D := (dC, dI)) (ci := 3) (v := .int vz) (C := RX4) (T := TX4) (N := 15) hx hb hts hiX4 hown hK hP 0 rfl rfl 10 (by decide) (hts (.fieldLink RX4 60 "TickWalksModel" "byZ" "I") (List.mem_of_getElem? (l := wsX4_strays) (i := 5) rfl)) (fun _ h9 => h9) rfl dX4_strays_81 ?_
      refine lv_iload_n hx hb dX4_strays_84 rfl (lv_at hl 2 rfl) ?_
      refine lv_iconst (v := 1) hx hb dX4_strays_85 (by decide) ?_
      refine lv_isub hx hb dX4_strays_86 ?_
      refine ct_topi (y := nI k) (nI_pred k) ?_
      refine ct_calli (va_runV (As := [.int vz, .int (nI k)]) (rest := [.int r_7]) ⟨hx, hb, hml, hown, hts⟩ (rm_part l dC dI cA cB H.size m0 rx ry rz rw ri ux uy uz vx vy vz cn mo qw qt vz (nI k) ) (cwV 2 hts gX4_strays_X4_partOf rfl rfl rfl (by decide +kernel) ⟨Nat.le_of_ble_eq_true rfl, Nat.le_of_ble_eq_true rfl⟩) ⟨ct_blind, va_recv hK hP (ci := 3) (q0 := 0) rfl rfl, ct_pre hP hD hK hZ hN hS hA [0] rfl (by decide)⟩ rfl rfl hl.1 rfl (lv_room (Nat.le_of_ble_eq_true rfl)) dX4_strays_87 ⟨Nat.le_of_ble_eq_true rfl, Nat.le_of_ble_eq_true rfl⟩) hP hD hS hA [0] [] rfl (wr := []) rfl (by decide) (by decide) (fun r_8 u9 H locs hw_8 hP hD hS => ?_)
      have hw_8 : r_8 = pt_v cn vz (nI k) := hw_8
      have hP : va_P (dC, dI) vwCl [(m0, .inr (3, [.int rx, .int ry, .int rz, .int rw, .int ri, .int ux, .int uy, .int uz, .int vx, .int vy, .int vz, .int cn, .int mo, .ref qw, .ref qt]))] H := hP
      have hD : va_D A [(m0, .inr (3, [.int rx, .int ry, .int rz, .int rw, .int ri, .int ux, .int uy, .int uz, .int vx, .int vy, .int vz, .int cn, .int mo, .ref qw, .ref qt]))] := hD
      refine lv_isub hx hb dX4_strays_90 ?_
      refine ct_calli (va_runS (As := [.int (r_7 - r_8)]) (rest := []) ⟨hx, hb, hml, hown, hts⟩ (rf_amount l dC dI cA cB H.size (r_7 - r_8) ) (va_cwS 1 hts gX4_strays_X4_amount rfl rfl rfl (by decide +kernel) ⟨Nat.le_of_ble_eq_true rfl, Nat.le_of_ble_eq_true rfl⟩) ⟨ct_blind, ct_pre hP hD hK hZ hN hS hA [] rfl (by decide)⟩ rfl rfl hl.1 rfl (lv_room (Nat.le_of_ble_eq_true rfl)) dX4_strays_91 ⟨Nat.le_of_ble_eq_true rfl, Nat.le_of_ble_eq_true rfl⟩) hP hD hS hA [] [0] rfl (wr := [(m0, .inr (3, [.int rx, .int ry, .int rz, .int rw, .int ri, .int ux, .int uy, .int uz, .int vx, .int vy, .int vz, .int cn, .int mo, .ref qw, .ref qt]))]) rfl (by decide) (by decide) (fun r_9 u9 H locs hw_9 hP hD hS => ?_)
      have hw_9 : r_9 = am_i (r_7 - r_8) := hw_9
      have hP : va_P (dC, dI) vwCl [(m0, .inr (3, [.int rx, .int ry, .int rz, .int rw, .int ri, .int ux, .int uy, .int uz, .int vx, .int vy, .int vz, .int cn, .int mo, .ref qw, .ref qt]))] H := hP
      have hD : va_D A [(m0, .inr (3, [.int rx, .int ry, .int rz, .int rw, .int ri, .int ux, .int uy, .int uz, .int vx, .int vy, .int vz, .int cn, .int mo, .ref qw, .ref qt]))] := hD
      refine lv_istore (lv' := [(5, .int r_9), (4, .int r_6), (3, .int r_3), (2, .int (nI (k + 1))), (0, .ref m0), (1, .int mn)]) hx hb dX4_strays_94 hl (by decide) rfl (fun ls hl => ?_)
      have ha : r_3 = am_i (pt_v cn vx (nI (k + 1)) - pt_v cn vx (nI k)) := by rw [hw_3, hw_1, hw_2]
      have hbb : r_6 = am_i (pt_v cn vy (nI (k + 1)) - pt_v cn vy (nI k)) := by rw [hw_6, hw_4, hw_5]
      have hcc : r_9 = am_i (pt_v cn vz (nI (k + 1)) - pt_v cn vz (nI k)) := by rw [hw_9, hw_7, hw_8]
      refine lv_iload_n hx hb dX4_strays_96 rfl (lv_at hl 2 rfl) ?_
      refine lv_iconst (v := 1) hx hb dX4_strays_97 (by decide) ?_
      refine lv_icmp_gt (tgt := 123) hx hb dX4_strays_98 (by decide) (fun c_98 => ?_) (fun c_98 => ?_)
      · have hc2 : mn + 1 = rs_c vx vy vz cn (k + 1) := by rw [rs_y (Or.inl (by rw [← ha]; exact c_98)), hc]; rfl
        refine lv_iinc (v := mn + 1) (lv' := [(1, .int (mn + 1)), (5, .int r_9), (4, .int r_6), (3, .int r_3), (2, .int (nI (k + 1))), (0, .ref m0)]) hx hb dX4_strays_123 hl (k := 5) rfl rfl (by decide) rfl (fun ls hl => ?_)
        refine lv_iinc (v := nI (k + 1 + 1)) (lv' := [(2, .int (nI (k + 1 + 1))), (1, .int (mn + 1)), (5, .int r_9), (4, .int r_6), (3, .int r_3), (0, .ref m0)]) hx hb dX4_strays_126 hl (k := 4) rfl (nI_1 (k + 1)) (by decide) rfl (fun ls hl => ?_)
        refine lv_goto (tgt := 4) hx hb dX4_strays_129 (by decide) ?_
        exact ih_4 _ ((k + 1 + 1), mn + 1) _ _ _ (by rw [hn_4]; omega) ⟨rfl, (⟨by omega, by omega⟩), hc2, (Or.inr c_16), (hP.sub [0] rfl), (hD.sub [0] (by decide) rfl), hS, (lv_sub hl [0, 5, 1] rfl)⟩
      · refine lv_iload hx hb dX4_strays_101 (lv_at hl 1 rfl) ?_
        refine lv_iconst (v := 1) hx hb dX4_strays_103 (by decide) ?_
        refine lv_icmp_gt (tgt := 123) hx hb dX4_strays_104 (by decide) (fun c_104 => ?_) (fun c_104 => ?_)
        · have hc2 : mn + 1 = rs_c vx vy vz cn (k + 1) := by rw [rs_y (Or.inr (Or.inl (by rw [← hbb]; exact c_104))), hc]; rfl
          refine lv_iinc (v := mn + 1) (lv' := [(1, .int (mn + 1)), (5, .int r_9), (4, .int r_6), (3, .int r_3), (2, .int (nI (k + 1))), (0, .ref m0)]) hx hb dX4_strays_123 hl (k := 5) rfl rfl (by decide) rfl (fun ls hl => ?_)
          refine lv_iinc (v := nI (k + 1 + 1)) (lv' := [(2, .int (nI (k + 1 + 1))), (1, .int (mn + 1)), (5, .int r_9), (4, .int r_6), (3, .int r_3), (0, .ref m0)]) hx hb dX4_strays_126 hl (k := 4) rfl (nI_1 (k + 1)) (by decide) rfl (fun ls hl => ?_)
          refine lv_goto (tgt := 4) hx hb dX4_strays_129 (by decide) ?_
          exact ih_4 _ ((k + 1 + 1), mn + 1) _ _ _ (by rw [hn_4]; omega) ⟨rfl, (⟨by omega, by omega⟩), hc2, (Or.inr c_16), (hP.sub [0] rfl), (hD.sub [0] (by decide) rfl), hS, (lv_sub hl [0, 5, 1] rfl)⟩
        · refine lv_iload hx hb dX4_strays_107 (lv_at hl 0 rfl) ?_
          refine lv_iconst (v := 1) hx hb dX4_strays_109 (by decide) ?_
          refine lv_icmp_gt (tgt := 123) hx hb dX4_strays_110 (by decide) (fun c_110 => ?_) (fun c_110 => ?_)
          · have hc2 : mn + 1 = rs_c vx vy vz cn (k + 1) := by rw [rs_y (Or.inr (Or.inr (Or.inl (by rw [← hcc]; exact c_110)))), hc]; rfl
            refine lv_iinc (v := mn + 1) (lv' := [(1, .int (mn + 1)), (5, .int r_9), (4, .int r_6), (3, .int r_3), (2, .int (nI (k + 1))), (0, .ref m0)]) hx hb dX4_strays_123 hl (k := 5) rfl rfl (by decide) rfl (fun ls hl => ?_)
            refine lv_iinc (v := nI (k + 1 + 1)) (lv' := [(2, .int (nI (k + 1 + 1))), (1, .int (mn + 1)), (5, .int r_9), (4, .int r_6), (3, .int r_3), (0, .ref m0)]) hx hb dX4_strays_126 hl (k := 4) rfl (nI_1 (k + 1)) (by decide) rfl (fun ls hl => ?_)
            refine lv_goto (tgt := 4) hx hb dX4_strays_129 (by decide) ?_
            exact ih_4 _ ((k + 1 + 1), mn + 1) _ _ _ (by rw [hn_4]; omega) ⟨rfl, (⟨by omega, by omega⟩), hc2, (Or.inr c_16), (hP.sub [0] rfl), (hD.sub [0] (by decide) rfl), hS, (lv_sub hl [0, 5, 1] rfl)⟩
          · refine lv_iload_n hx hb dX4_strays_113 rfl (lv_at hl 2 rfl) ?_
            refine lv_iload hx hb dX4_strays_114 (lv_at hl 1 rfl) ?_
            refine lv_iadd hx hb dX4_strays_116 ?_
            refine lv_iload hx hb dX4_strays_117 (lv_at hl 0 rfl) ?_
            refine lv_iadd hx hb dX4_strays_119 ?_
            refine lv_if_ne (tgt := 126) hx hb dX4_strays_120 (by decide) (fun c_120 => ?_) (fun c_120 => ?_)
            · have hc2 : mn = rs_c vx vy vz cn (k + 1) := by
                rw [rs_n (fun h => by unfold rs_b at h; rw [← ha, ← hbb, ← hcc] at h; rcases h with h | h | h | h; exact c_98 h; exact c_104 h; exact c_110 h; exact c_120 h)]
                exact hc
              refine lv_iinc (v := nI (k + 1 + 1)) (lv' := [(2, .int (nI (k + 1 + 1))), (5, .int r_9), (4, .int r_6), (3, .int r_3), (0, .ref m0), (1, .int mn)]) hx hb dX4_strays_126 hl (k := 3) rfl (nI_1 (k + 1)) (by decide) rfl (fun ls hl => ?_)
              refine lv_goto (tgt := 4) hx hb dX4_strays_129 (by decide) ?_
              exact ih_4 _ ((k + 1 + 1), mn) _ _ _ (by rw [hn_4]; omega) ⟨rfl, (⟨by omega, by omega⟩), hc2, (Or.inr c_16), (hP.sub [0] rfl), (hD.sub [0] (by decide) rfl), hS, (lv_sub hl [0, 4, 5] rfl)⟩
            · have hc2 : mn + 1 = rs_c vx vy vz cn (k + 1) := by rw [rs_y (Or.inr (Or.inr (Or.inr (by rw [← ha, ← hbb, ← hcc]; exact c_120)))), hc]; rfl
              refine lv_iinc (v := mn + 1) (lv' := [(1, .int (mn + 1)), (5, .int r_9), (4, .int r_6), (3, .int r_3), (2, .int (nI (k + 1))), (0, .ref m0)]) hx hb dX4_strays_123 hl (k := 5) rfl rfl (by decide) rfl (fun ls hl => ?_)
              refine lv_iinc (v := nI (k + 1 + 1)) (lv' := [(2, .int (nI (k + 1 + 1))), (1, .int (mn + 1)), (5, .int r_9), (4, .int r_6), (3, .int r_3), (0, .ref m0)]) hx hb dX4_strays_126 hl (k := 4) rfl (nI_1 (k + 1)) (by decide) rfl (fun ls hl => ?_)
              refine lv_goto (tgt := 4) hx hb dX4_strays_129 (by decide) ?_
              exact ih_4 _ ((k + 1 + 1), mn + 1) _ _ _ (by rw [hn_4]; omega) ⟨rfl, (⟨by omega, by omega⟩), hc2, (Or.inr c_16), (hP.sub [0] rfl), (hD.sub [0] (by decide) rfl), hS, (lv_sub hl [0, 5, 1] rfl)⟩
set_option maxHeartbeats 4000000 in
set_option maxRecDepth 100000 in
/-- TickWalksModel.tick, nothing walked -/
theorem rm_tick_n (l : Launch) (dC : Nat → ClassId) (dI : Nat → Nat → Nat) (cA cB : ClassId) (sz : Nat) (m0 : Nat) (rx : Int32) (ry : Int32) (rz : Int32) (rw : Int32) (ri : Int32) (ux : Int32) (uy : Int32) (uz : Int32) (vx : Int32) (vy : Int32) (vz : Int32) (cn : Int32) (mo : Int32) (qw : Nat) (qt : Nat) (k : Int32) (ax : Int32) (hrw : rw = 0) : Met l yX4_tick wsX4_tick ({ frames := 2, cells := 0, slots := 0, locals := 50 }) (va_Pc [.ref m0, .int k, .int ax] (ct_P dC dI cA cB sz [(m0, .inr (3, [.int rx, .int ry, .int rz, .int rw, .int ri, .int ux, .int uy, .int uz, .int vx, .int vy, .int vz, .int cn, .int mo, .ref qw, .ref qt]))])) (va_Qi (fun (r : Int32) (u : Unit) => r = 0) (fun (u : Unit) => ct_B dC dI (va_A [(m0, .inr (3, [.int rx, .int ry, .int rz, .int rw, .int ri, .int ux, .int uy, .int uz, .int vx, .int vy, .int vz, .int cn, .int mo, .ref qw, .ref qt]))] sz) [(m0, .inr (3, [.int rx, .int ry, .int rz, .int rw, .int ri, .int ux, .int uy, .int uz, .int vx, .int vy, .int vz, .int cn, .int mo, .ref qw, .ref qt]))]) (va_A [(m0, .inr (3, [.int rx, .int ry, .int rz, .int rw, .int ri, .int ux, .int uy, .int uz, .int vx, .int vy, .int vz, .int cn, .int mo, .ref qw, .ref qt]))] sz)) 0 0 (va_A [(m0, .inr (3, [.int rx, .int ry, .int rz, .int rw, .int ri, .int ux, .int uy, .int uz, .int vx, .int vy, .int vz, .int cn, .int mo, .ref qw, .ref qt]))] sz) := by
  refine Met.ofW (cc := cX4_tick) (maxL := 5) (ret := (some .int)) (by decide +kernel) rfl ?_
  intro p e s m args below meth c s₁ B hml hv
  obtain ⟨rfl, hsz, hP, hK, hD0, hZ, hN⟩ := hv
  have hx := B.exec
  have hb := B.bytes
  have hr := B.returns
  have hts := atoms_spec (ws := wsX4_tick) B.pre
  have hown : s.vm.findClass RX4 = some m.cls := findClass_of_methodNamed B.named
  have hlocks := B.notSynchronized
  have hiX4 : ∀ w ∈ u_ws RX4 TX4 15, w ∈ wsX4_tick := by decide +kernel
  subst hsz
  have hD := hD0.self (sz := s.heap.size)
  generalize hAe : va_A [(m0, .inr (3, [.int rx, .int ry, .int rz, .int rw, .int ri, .int ux, .int uy, .int uz, .int vx, .int vy, .int vz, .int cn, .int mo, .ref qw, .ref qt]))] s.heap.size = A at hD hZ ⊢
  have hA : ∀ q : Nat, s.heap.size ≤ q → A q := fun q h => by rw [← hAe]; exact Or.inr h
  have hl := lv_entry ([.ref m0, .int k, .int ax]) (n := 5) (Nat.le_of_ble_eq_true rfl)
  rw [lg_entry_eq]
  generalize (lg_sl ([.ref m0, .int k, .int ax]) ++ List.replicate (5 - (lg_sl ([.ref m0, .int k, .int ax])).length) Slot.unset).toArray = ls at hl ⊢
  have hl : lv_has ls 5 [(0, .ref m0), (1, .int k), (2, .int ax)] := hl
  generalize hHe : s.heap = H at hP ⊢
  have hS : va_S A s.heap H [] := by rw [hHe]; exact va_S.rf
  generalize ([] : List Loc) = locs at hS ⊢
  refine lv_aload_n hx hb dX4_tick_0 rfl (lv_at hl 0 rfl) ?_
  refine va_get (D := (dC, dI)) (ci := 3) (v := .int rw) (C := RX4) (T := TX4) (N := 15) hx hb hts hiX4 hown hK hP 0 rfl rfl 3 (by decide) (hts (.fieldLink RX4 32 "TickWalksModel" "walked" "Z") (List.mem_of_getElem? (l := wsX4_tick) (i := 1) rfl)) (fun _ h9 => h9) rfl dX4_tick_1 ?_
  refine lv_if_eq (tgt := 28) hx hb dX4_tick_4 (by decide) (fun c_4 => ?_) (fun c_4 => ?_)
  · refine lv_iconst (v := 0) hx hb dX4_tick_28 (by decide) ?_
    have hP9 := hP.sub (ws' := [(m0, .inr (3, [.int rx, .int ry, .int rz, .int rw, .int ri, .int ux, .int uy, .int uz, .int vx, .int vy, .int vz, .int cn, .int mo, .ref qw, .ref qt]))]) [0] rfl
    have hD9 := hD.sub (ws' := [(m0, .inr (3, [.int rx, .int ry, .int rz, .int rw, .int ri, .int ux, .int uy, .int uz, .int vx, .int vy, .int vz, .int cn, .int mo, .ref qw, .ref qt]))]) [0] (by decide) rfl
    exact W.iret (v := 0) hx hb hr (fun t9 ht9 hW9 => ⟨⟨0, (), rfl, rfl, by rw [ht9]; exact hP9, hD9⟩, hS.F ht9⟩) hS.2.2 dX4_tick_29
  · exact absurd hrw c_4
set_option maxHeartbeats 4000000 in
set_option maxRecDepth 100000 in
/-- TickWalksModel.tick, a line -/
theorem rm_tick_l (l : Launch) (dC : Nat → ClassId) (dI : Nat → Nat → Nat) (cA cB : ClassId) (sz : Nat) (m0 : Nat) (rx : Int32) (ry : Int32) (rz : Int32) (rw : Int32) (ri : Int32) (ux : Int32) (uy : Int32) (uz : Int32) (vx : Int32) (vy : Int32) (vz : Int32) (cn : Int32) (mo : Int32) (qw : Nat) (qt : Nat) (k : Int32) (ax : Int32) (hrw : rw = 1) (hri : ri = 0) : Met l yX4_tick wsX4_tick ({ frames := 2, cells := 0, slots := 0, locals := 50 }) (va_Pc [.ref m0, .int k, .int ax] (ct_P dC dI cA cB sz [(m0, .inr (3, [.int rx, .int ry, .int rz, .int rw, .int ri, .int ux, .int uy, .int uz, .int vx, .int vy, .int vz, .int cn, .int mo, .ref qw, .ref qt]))])) (va_Qi (fun (r : Int32) (u : Unit) => r = rl_t ux uy uz vx vy vz cn k ax) (fun (u : Unit) => ct_B dC dI (va_A [(m0, .inr (3, [.int rx, .int ry, .int rz, .int rw, .int ri, .int ux, .int uy, .int uz, .int vx, .int vy, .int vz, .int cn, .int mo, .ref qw, .ref qt]))] sz) [(m0, .inr (3, [.int rx, .int ry, .int rz, .int rw, .int ri, .int ux, .int uy, .int uz, .int vx, .int vy, .int vz, .int cn, .int mo, .ref qw, .ref qt]))]) (va_A [(m0, .inr (3, [.int rx, .int ry, .int rz, .int rw, .int ri, .int ux, .int uy, .int uz, .int vx, .int vy, .int vz, .int cn, .int mo, .ref qw, .ref qt]))] sz)) 0 0 (va_A [(m0, .inr (3, [.int rx, .int ry, .int rz, .int rw, .int ri, .int ux, .int uy, .int uz, .int vx, .int vy, .int vz, .int cn, .int mo, .ref qw, .ref qt]))] sz) := by
  refine Met.ofW (cc := cX4_tick) (maxL := 5) (ret := (some .int)) (by decide +kernel) rfl ?_
  intro p e s m args below meth c s₁ B hml hv
  obtain ⟨rfl, hsz, hP, hK, hD0, hZ, hN⟩ := hv
  have hx := B.exec
  have hb := B.bytes
  have hr := B.returns
  have hts := atoms_spec (ws := wsX4_tick) B.pre
  have hown : s.vm.findClass RX4 = some m.cls := findClass_of_methodNamed B.named
  have hlocks := B.notSynchronized
  have hiX4 : ∀ w ∈ u_ws RX4 TX4 15, w ∈ wsX4_tick := by decide +kernel
  subst hsz
  have hD := hD0.self (sz := s.heap.size)
  generalize hAe : va_A [(m0, .inr (3, [.int rx, .int ry, .int rz, .int rw, .int ri, .int ux, .int uy, .int uz, .int vx, .int vy, .int vz, .int cn, .int mo, .ref qw, .ref qt]))] s.heap.size = A at hD hZ ⊢
  have hA : ∀ q : Nat, s.heap.size ≤ q → A q := fun q h => by rw [← hAe]; exact Or.inr h
  have hl := lv_entry ([.ref m0, .int k, .int ax]) (n := 5) (Nat.le_of_ble_eq_true rfl)
  rw [lg_entry_eq]
  generalize (lg_sl ([.ref m0, .int k, .int ax]) ++ List.replicate (5 - (lg_sl ([.ref m0, .int k, .int ax])).length) Slot.unset).toArray = ls at hl ⊢
  have hl : lv_has ls 5 [(0, .ref m0), (1, .int k), (2, .int ax)] := hl
  generalize hHe : s.heap = H at hP ⊢
  have hS : va_S A s.heap H [] := by rw [hHe]; exact va_S.rf
  generalize ([] : List Loc) = locs at hS ⊢
  refine lv_aload_n hx hb dX4_tick_0 rfl (lv_at hl 0 rfl) ?_
  refine va_get (D := (dC, dI)) (ci := 3) (v := .int rw) (C := RX4) (T := TX4) (N := 15) hx hb hts hiX4 hown hK hP 0 rfl rfl 3 (by decide) (hts (.fieldLink RX4 32 "TickWalksModel" "walked" "Z") (List.mem_of_getElem? (l := wsX4_tick) (i := 1) rfl)) (fun _ h9 => h9) rfl dX4_tick_1 ?_
  refine lv_if_eq (tgt := 28) hx hb dX4_tick_4 (by decide) (fun c_4 => ?_) (fun c_4 => ?_)
  · exact absurd (hrw.symm.trans c_4) (by decide)
  · refine lv_iload_n hx hb dX4_tick_7 rfl (lv_at hl 1 rfl) ?_
    refine lv_if_lt (tgt := 28) hx hb dX4_tick_8 (by decide) (fun c_8 => ?_) (fun c_8 => ?_)
    · refine lv_iconst (v := 0) hx hb dX4_tick_28 (by decide) ?_
      have hP9 := hP.sub (ws' := [(m0, .inr (3, [.int rx, .int ry, .int rz, .int rw, .int ri, .int ux, .int uy, .int uz, .int vx, .int vy, .int vz, .int cn, .int mo, .ref qw, .ref qt]))]) [0] rfl
      have hD9 := hD.sub (ws' := [(m0, .inr (3, [.int rx, .int ry, .int rz, .int rw, .int ri, .int ux, .int uy, .int uz, .int vx, .int vy, .int vz, .int cn, .int mo, .ref qw, .ref qt]))]) [0] (by decide) rfl
      exact W.iret (v := 0) hx hb hr (fun t9 ht9 hW9 => ⟨⟨0, (), rfl, (by unfold rl_t; rw [if_neg (fun h => absurd h.2.1 (Int32.not_le.mpr c_8))]), by rw [ht9]; exact hP9, hD9⟩, hS.F ht9⟩) hS.2.2 dX4_tick_29
    · refine lv_iload_n hx hb dX4_tick_11 rfl (lv_at hl 1 rfl) ?_
      refine lv_aload_n hx hb dX4_tick_12 rfl (lv_at hl 0 rfl) ?_
      refine va_get (D := (dC, dI)) (ci := 3) (v := .int cn) (C := RX4) (T := TX4) (N := 15) hx hb hts hiX4 hown hK hP 0 rfl rfl 11 (by decide) (hts (.fieldLink RX4 36 "TickWalksModel" "count" "I") (List.mem_of_getElem? (l := wsX4_tick) (i := 2) rfl)) (fun _ h9 => h9) rfl dX4_tick_13 ?_
      refine lv_icmp_gt (tgt := 28) hx hb dX4_tick_16 (by decide) (fun c_16 => ?_) (fun c_16 => ?_)
      · refine lv_iconst (v := 0) hx hb dX4_tick_28 (by decide) ?_
        have hP9 := hP.sub (ws' := [(m0, .inr (3, [.int rx, .int ry, .int rz, .int rw, .int ri, .int ux, .int uy, .int uz, .int vx, .int vy, .int vz, .int cn, .int mo, .ref qw, .ref qt]))]) [0] rfl
        have hD9 := hD.sub (ws' := [(m0, .inr (3, [.int rx, .int ry, .int rz, .int rw, .int ri, .int ux, .int uy, .int uz, .int vx, .int vy, .int vz, .int cn, .int mo, .ref qw, .ref qt]))]) [0] (by decide) rfl
        exact W.iret (v := 0) hx hb hr (fun t9 ht9 hW9 => ⟨⟨0, (), rfl, (by unfold rl_t; rw [if_neg (fun h => absurd h.2.2 (Int32.not_le.mpr c_16))]), by rw [ht9]; exact hP9, hD9⟩, hS.F ht9⟩) hS.2.2 dX4_tick_29
      · refine lv_iload_n hx hb dX4_tick_19 rfl (lv_at hl 2 rfl) ?_
        refine lv_if_lt (tgt := 28) hx hb dX4_tick_20 (by decide) (fun c_20 => ?_) (fun c_20 => ?_)
        · refine lv_iconst (v := 0) hx hb dX4_tick_28 (by decide) ?_
          have hP9 := hP.sub (ws' := [(m0, .inr (3, [.int rx, .int ry, .int rz, .int rw, .int ri, .int ux, .int uy, .int uz, .int vx, .int vy, .int vz, .int cn, .int mo, .ref qw, .ref qt]))]) [0] rfl
          have hD9 := hD.sub (ws' := [(m0, .inr (3, [.int rx, .int ry, .int rz, .int rw, .int ri, .int ux, .int uy, .int uz, .int vx, .int vy, .int vz, .int cn, .int mo, .ref qw, .ref qt]))]) [0] (by decide) rfl
          exact W.iret (v := 0) hx hb hr (fun t9 ht9 hW9 => ⟨⟨0, (), rfl, (by unfold rl_t; rw [if_neg (fun h => absurd h.1.1 (Int32.not_le.mpr c_20))]), by rw [ht9]; exact hP9, hD9⟩, hS.F ht9⟩) hS.2.2 dX4_tick_29
        · refine lv_iload_n hx hb dX4_tick_23 rfl (lv_at hl 2 rfl) ?_
          refine lv_iconst (v := 2) hx hb dX4_tick_24 (by decide) ?_
          refine lv_icmp_le (tgt := 30) hx hb dX4_tick_25 (by decide) (fun c_25 => ?_) (fun c_25 => ?_)
          · have hok : (0 ≤ ax ∧ ax < 3) ∧ 0 ≤ k ∧ k ≤ cn := ⟨⟨Int32.not_lt.mp c_20, ax_le.mp c_25⟩, Int32.not_lt.mp c_8, Int32.not_lt.mp c_16⟩
            refine lv_aload_n hx hb dX4_tick_30 rfl (lv_at hl 0 rfl) ?_
            refine va_get (D := (dC, dI)) (ci := 3) (v := .int ri) (C := RX4) (T := TX4) (N := 15) hx hb hts hiX4 hown hK hP 0 rfl rfl 4 (by decide) (hts (.fieldLink RX4 42 "TickWalksModel" "isArc" "Z") (List.mem_of_getElem? (l := wsX4_tick) (i := 3) rfl)) (fun _ h9 => h9) rfl dX4_tick_31 ?_
            refine lv_if_ne (tgt := 95) hx hb dX4_tick_34 (by decide) (fun c_34 => ?_) (fun c_34 => ?_)
            · exact absurd hri c_34
            · refine lv_iload_n hx hb dX4_tick_37 rfl (lv_at hl 2 rfl) ?_
              refine lv_if_ne (tgt := 58) hx hb dX4_tick_38 (by decide) (fun c_38 => ?_) (fun c_38 => ?_)
              · refine lv_iload_n hx hb dX4_tick_58 rfl (lv_at hl 2 rfl) ?_
                refine lv_iconst (v := 1) hx hb dX4_tick_59 (by decide) ?_
                refine lv_icmp_ne (tgt := 80) hx hb dX4_tick_60 (by decide) (fun c_60 => ?_) (fun c_60 => ?_)
                · refine lv_aload_n hx hb dX4_tick_80 rfl (lv_at hl 0 rfl) ?_
                  refine va_get (D := (dC, dI)) (ci := 3) (v := .int uz) (C := RX4) (T := TX4) (N := 15) hx hb hts hiX4 hown hK hP 0 rfl rfl 7 (by decide) (hts (.fieldLink RX4 51 "TickWalksModel" "fromZ" "I") (List.mem_of_getElem? (l := wsX4_tick) (i := 8) rfl)) (fun _ h9 => h9) rfl dX4_tick_81 ?_
                  refine lv_aload_n hx hb dX4_tick_84 rfl (lv_at hl 0 rfl) ?_
                  refine lv_aload_n hx hb dX4_tick_85 rfl (lv_at hl 0 rfl) ?_
                  refine va_get (D := (dC, dI)) (ci := 3) (v := .int vz) (C := RX4) (T := TX4) (N := 15) hx hb hts hiX4 hown hK hP 0 rfl rfl 10 (by decide) (hts (.fieldLink RX4 60 "TickWalksModel" "byZ" "I") (List.mem_of_getElem? (l := wsX4_tick) (i := 9) rfl)) (fun _ h9 => h9) rfl dX4_tick_86 ?_
                  refine lv_iload_n hx hb dX4_tick_89 rfl (lv_at hl 1 rfl) ?_
                  refine ct_calli (va_runV (As := [.int vz, .int k]) (rest := [.int uz]) ⟨hx, hb, hml, hown, hts⟩ (rm_part l dC dI cA cB H.size m0 rx ry rz rw ri ux uy uz vx vy vz cn mo qw qt vz k ) (cwV 2 hts gX4_tick_X4_partOf rfl rfl rfl (by decide +kernel) ⟨Nat.le_of_ble_eq_true rfl, Nat.le_of_ble_eq_true rfl⟩) ⟨ct_blind, va_recv hK hP (ci := 3) (q0 := 0) rfl rfl, ct_pre hP hD hK hZ hN hS hA [0] rfl (by decide)⟩ rfl rfl hl.1 rfl (lv_room (Nat.le_of_ble_eq_true rfl)) dX4_tick_90 ⟨Nat.le_of_ble_eq_true rfl, Nat.le_of_ble_eq_true rfl⟩) hP hD hS hA [0] [] rfl (wr := []) rfl (by decide) (by decide) (fun r_1 u9 H locs hw_1 hP hD hS => ?_)
                  have hw_1 : r_1 = pt_v cn vz k := hw_1
                  have hP : va_P (dC, dI) vwCl [(m0, .inr (3, [.int rx, .int ry, .int rz, .int rw, .int ri, .int ux, .int uy, .int uz, .int vx, .int vy, .int vz, .int cn, .int mo, .ref qw, .ref qt]))] H := hP
                  have hD : va_D A [(m0, .inr (3, [.int rx, .int ry, .int rz, .int rw, .int ri, .int ux, .int uy, .int uz, .int vx, .int vy, .int vz, .int cn, .int mo, .ref qw, .ref qt]))] := hD
                  refine lv_iadd hx hb dX4_tick_93 ?_
                  have hP9 := hP.sub (ws' := [(m0, .inr (3, [.int rx, .int ry, .int rz, .int rw, .int ri, .int ux, .int uy, .int uz, .int vx, .int vy, .int vz, .int cn, .int mo, .ref qw, .ref qt]))]) [0] rfl
                  have hD9 := hD.sub (ws' := [(m0, .inr (3, [.int rx, .int ry, .int rz, .int rw, .int ri, .int ux, .int uy, .int uz, .int vx, .int vy, .int vz, .int cn, .int mo, .ref qw, .ref qt]))]) [0] (by decide) rfl
                  exact W.iret (v := uz + r_1) hx hb hr (fun t9 ht9 hW9 => ⟨⟨uz + r_1, (), rfl, (by unfold rl_t; rw [if_pos hok, if_neg c_38, if_neg c_60, hw_1]), by rw [ht9]; exact hP9, hD9⟩, hS.F ht9⟩) hS.2.2 dX4_tick_94
                · refine lv_aload_n hx hb dX4_tick_63 rfl (lv_at hl 0 rfl) ?_
                  refine va_get (D := (dC, dI)) (ci := 3) (v := .int uy) (C := RX4) (T := TX4) (N := 15) hx hb hts hiX4 hown hK hP 0 rfl rfl 6 (by decide) (hts (.fieldLink RX4 48 "TickWalksModel" "fromY" "I") (List.mem_of_getElem? (l := wsX4_tick) (i := 6) rfl)) (fun _ h9 => h9) rfl dX4_tick_64 ?_
                  refine lv_aload_n hx hb dX4_tick_67 rfl (lv_at hl 0 rfl) ?_
                  refine lv_aload_n hx hb dX4_tick_68 rfl (lv_at hl 0 rfl) ?_
                  refine va_get (D := (dC, dI)) (ci := 3) (v := .int vy) (C := RX4) (T := TX4) (N := 15) hx hb hts hiX4 hown hK hP 0 rfl rfl 9 (by decide) (hts (.fieldLink RX4 57 "TickWalksModel" "byY" "I") (List.mem_of_getElem? (l := wsX4_tick) (i := 7) rfl)) (fun _ h9 => h9) rfl dX4_tick_69 ?_
                  refine lv_iload_n hx hb dX4_tick_72 rfl (lv_at hl 1 rfl) ?_
                  refine ct_calli (va_runV (As := [.int vy, .int k]) (rest := [.int uy]) ⟨hx, hb, hml, hown, hts⟩ (rm_part l dC dI cA cB H.size m0 rx ry rz rw ri ux uy uz vx vy vz cn mo qw qt vy k ) (cwV 2 hts gX4_tick_X4_partOf rfl rfl rfl (by decide +kernel) ⟨Nat.le_of_ble_eq_true rfl, Nat.le_of_ble_eq_true rfl⟩) ⟨ct_blind, va_recv hK hP (ci := 3) (q0 := 0) rfl rfl, ct_pre hP hD hK hZ hN hS hA [0] rfl (by decide)⟩ rfl rfl hl.1 rfl (lv_room (Nat.le_of_ble_eq_true rfl)) dX4_tick_73 ⟨Nat.le_of_ble_eq_true rfl, Nat.le_of_ble_eq_true rfl⟩) hP hD hS hA [0] [] rfl (wr := []) rfl (by decide) (by decide) (fun r_2 u9 H locs hw_2 hP hD hS => ?_)
                  have hw_2 : r_2 = pt_v cn vy k := hw_2
                  have hP : va_P (dC, dI) vwCl [(m0, .inr (3, [.int rx, .int ry, .int rz, .int rw, .int ri, .int ux, .int uy, .int uz, .int vx, .int vy, .int vz, .int cn, .int mo, .ref qw, .ref qt]))] H := hP
                  have hD : va_D A [(m0, .inr (3, [.int rx, .int ry, .int rz, .int rw, .int ri, .int ux, .int uy, .int uz, .int vx, .int vy, .int vz, .int cn, .int mo, .ref qw, .ref qt]))] := hD
                  refine lv_iadd hx hb dX4_tick_76 ?_
                  refine lv_goto (tgt := 94) hx hb dX4_tick_77 (by decide) ?_
                  have hP9 := hP.sub (ws' := [(m0, .inr (3, [.int rx, .int ry, .int rz, .int rw, .int ri, .int ux, .int uy, .int uz, .int vx, .int vy, .int vz, .int cn, .int mo, .ref qw, .ref qt]))]) [0] rfl
                  have hD9 := hD.sub (ws' := [(m0, .inr (3, [.int rx, .int ry, .int rz, .int rw, .int ri, .int ux, .int uy, .int uz, .int vx, .int vy, .int vz, .int cn, .int mo, .ref qw, .ref qt]))]) [0] (by decide) rfl
                  exact W.iret (v := uy + r_2) hx hb hr (fun t9 ht9 hW9 => ⟨⟨uy + r_2, (), rfl, (by unfold rl_t; rw [if_pos hok, if_neg c_38, if_pos c_60, hw_2]), by rw [ht9]; exact hP9, hD9⟩, hS.F ht9⟩) hS.2.2 dX4_tick_94
              · refine lv_aload_n hx hb dX4_tick_41 rfl (lv_at hl 0 rfl) ?_
                refine va_get (D := (dC, dI)) (ci := 3) (v := .int ux) (C := RX4) (T := TX4) (N := 15) hx hb hts hiX4 hown hK hP 0 rfl rfl 5 (by decide) (hts (.fieldLink RX4 45 "TickWalksModel" "fromX" "I") (List.mem_of_getElem? (l := wsX4_tick) (i := 4) rfl)) (fun _ h9 => h9) rfl dX4_tick_42 ?_
                refine lv_aload_n hx hb dX4_tick_45 rfl (lv_at hl 0 rfl) ?_
                refine lv_aload_n hx hb dX4_tick_46 rfl (lv_at hl 0 rfl) ?_
                refine va_get (D := (dC, dI)) (ci := 3) (v := .int vx) (C := RX4) (T := TX4) (N := 15) hx hb hts hiX4 hown hK hP 0 rfl rfl 8 (by decide) (hts (.fieldLink RX4 54 "TickWalksModel" "byX" "I") (List.mem_of_getElem? (l := wsX4_tick) (i := 5) rfl)) (fun _ h9 => h9) rfl dX4_tick_47 ?_
                refine lv_iload_n hx hb dX4_tick_50 rfl (lv_at hl 1 rfl) ?_
                refine ct_calli (va_runV (As := [.int vx, .int k]) (rest := [.int ux]) ⟨hx, hb, hml, hown, hts⟩ (rm_part l dC dI cA cB H.size m0 rx ry rz rw ri ux uy uz vx vy vz cn mo qw qt vx k ) (cwV 2 hts gX4_tick_X4_partOf rfl rfl rfl (by decide +kernel) ⟨Nat.le_of_ble_eq_true rfl, Nat.le_of_ble_eq_true rfl⟩) ⟨ct_blind, va_recv hK hP (ci := 3) (q0 := 0) rfl rfl, ct_pre hP hD hK hZ hN hS hA [0] rfl (by decide)⟩ rfl rfl hl.1 rfl (lv_room (Nat.le_of_ble_eq_true rfl)) dX4_tick_51 ⟨Nat.le_of_ble_eq_true rfl, Nat.le_of_ble_eq_true rfl⟩) hP hD hS hA [0] [] rfl (wr := []) rfl (by decide) (by decide) (fun r_3 u9 H locs hw_3 hP hD hS => ?_)
                have hw_3 : r_3 = pt_v cn vx k := hw_3
                have hP : va_P (dC, dI) vwCl [(m0, .inr (3, [.int rx, .int ry, .int rz, .int rw, .int ri, .int ux, .int uy, .int uz, .int vx, .int vy, .int vz, .int cn, .int mo, .ref qw, .ref qt]))] H := hP
                have hD : va_D A [(m0, .inr (3, [.int rx, .int ry, .int rz, .int rw, .int ri, .int ux, .int uy, .int uz, .int vx, .int vy, .int vz, .int cn, .int mo, .ref qw, .ref qt]))] := hD
                refine lv_iadd hx hb dX4_tick_54 ?_
                refine lv_goto (tgt := 94) hx hb dX4_tick_55 (by decide) ?_
                have hP9 := hP.sub (ws' := [(m0, .inr (3, [.int rx, .int ry, .int rz, .int rw, .int ri, .int ux, .int uy, .int uz, .int vx, .int vy, .int vz, .int cn, .int mo, .ref qw, .ref qt]))]) [0] rfl
                have hD9 := hD.sub (ws' := [(m0, .inr (3, [.int rx, .int ry, .int rz, .int rw, .int ri, .int ux, .int uy, .int uz, .int vx, .int vy, .int vz, .int cn, .int mo, .ref qw, .ref qt]))]) [0] (by decide) rfl
                exact W.iret (v := ux + r_3) hx hb hr (fun t9 ht9 hW9 => ⟨⟨ux + r_3, (), rfl, (by unfold rl_t; rw [if_pos hok, if_pos c_38, hw_3]), by rw [ht9]; exact hP9, hD9⟩, hS.F ht9⟩) hS.2.2 dX4_tick_94
          · refine lv_iconst (v := 0) hx hb dX4_tick_28 (by decide) ?_
            have hP9 := hP.sub (ws' := [(m0, .inr (3, [.int rx, .int ry, .int rz, .int rw, .int ri, .int ux, .int uy, .int uz, .int vx, .int vy, .int vz, .int cn, .int mo, .ref qw, .ref qt]))]) [0] rfl
            have hD9 := hD.sub (ws' := [(m0, .inr (3, [.int rx, .int ry, .int rz, .int rw, .int ri, .int ux, .int uy, .int uz, .int vx, .int vy, .int vz, .int cn, .int mo, .ref qw, .ref qt]))]) [0] (by decide) rfl
            exact W.iret (v := 0) hx hb hr (fun t9 ht9 hW9 => ⟨⟨0, (), rfl, (by unfold rl_t; rw [if_neg (fun h => c_25 (ax_le.mpr h.1.2))]), by rw [ht9]; exact hP9, hD9⟩, hS.F ht9⟩) hS.2.2 dX4_tick_29
set_option maxHeartbeats 4000000 in
set_option maxRecDepth 100000 in
/-- TickWalksModel.tick, an arc -/
theorem rm_tick_a (l : Launch) (dC : Nat → ClassId) (dI : Nat → Nat → Nat) (cA cB : ClassId) (sz : Nat) (m0 : Nat) (rx : Int32) (ry : Int32) (rz : Int32) (rw : Int32) (ri : Int32) (ux : Int32) (uy : Int32) (uz : Int32) (vx : Int32) (vy : Int32) (vz : Int32) (cn : Int32) (mo : Int32) (qw : Nat) (qt : Nat) (wf : Nat → Int32) (k : Int32) (ax : Int32) (N : Nat) (lf : Int32) (sq : Int64) (cx : Int32) (cy : Int32) (hrw : rw = 1) (hri : ri = 1) (hN3 : cn = nI N ∧ N ≤ 40000) (hW : wy_P lf sq cx cy (ux, uy) wf N) : Met l yX4_tick wsX4_tick ({ frames := 2, cells := 0, slots := 0, locals := 50 }) (va_Pc [.ref m0, .int k, .int ax] (ct_P dC dI cA cB sz [(m0, .inr (3, [.int rx, .int ry, .int rz, .int rw, .int ri, .int ux, .int uy, .int uz, .int vx, .int vy, .int vz, .int cn, .int mo, .ref qw, .ref qt])), (qw, .inl (cB, 40000, .inl wf))])) (va_Qi (fun (r : Int32) (u : Unit) => r = tk_a lf sq cx cy (ux, uy) uz cn k ax) (fun (u : Unit) => ct_B dC dI (va_A [(m0, .inr (3, [.int rx, .int ry, .int rz, .int rw, .int ri, .int ux, .int uy, .int uz, .int vx, .int vy, .int vz, .int cn, .int mo, .ref qw, .ref qt])), (qw, .inl (cB, 40000, .inl wf))] sz) [(m0, .inr (3, [.int rx, .int ry, .int rz, .int rw, .int ri, .int ux, .int uy, .int uz, .int vx, .int vy, .int vz, .int cn, .int mo, .ref qw, .ref qt])), (qw, .inl (cB, 40000, .inl wf))]) (va_A [(m0, .inr (3, [.int rx, .int ry, .int rz, .int rw, .int ri, .int ux, .int uy, .int uz, .int vx, .int vy, .int vz, .int cn, .int mo, .ref qw, .ref qt])), (qw, .inl (cB, 40000, .inl wf))] sz)) 0 0 (va_A [(m0, .inr (3, [.int rx, .int ry, .int rz, .int rw, .int ri, .int ux, .int uy, .int uz, .int vx, .int vy, .int vz, .int cn, .int mo, .ref qw, .ref qt])), (qw, .inl (cB, 40000, .inl wf))] sz) := by
  refine Met.ofW (cc := cX4_tick) (maxL := 5) (ret := (some .int)) (by decide +kernel) rfl ?_
  intro p e s m args below meth c s₁ B hml hv
  obtain ⟨rfl, hsz, hP, hK, hD0, hZ, hN⟩ := hv
  have hx := B.exec
  have hb := B.bytes
  have hr := B.returns
  have hts := atoms_spec (ws := wsX4_tick) B.pre
  have hown : s.vm.findClass RX4 = some m.cls := findClass_of_methodNamed B.named
  have hlocks := B.notSynchronized
  have hiX4 : ∀ w ∈ u_ws RX4 TX4 15, w ∈ wsX4_tick := by decide +kernel
  subst hsz
  have hD := hD0.self (sz := s.heap.size)
  generalize hAe : va_A [(m0, .inr (3, [.int rx, .int ry, .int rz, .int rw, .int ri, .int ux, .int uy, .int uz, .int vx, .int vy, .int vz, .int cn, .int mo, .ref qw, .ref qt])), (qw, .inl (cB, 40000, .inl wf))] s.heap.size = A at hD hZ ⊢
  have hA : ∀ q : Nat, s.heap.size ≤ q → A q := fun q h => by rw [← hAe]; exact Or.inr h
  have hl := lv_entry ([.ref m0, .int k, .int ax]) (n := 5) (Nat.le_of_ble_eq_true rfl)
  rw [lg_entry_eq]
  generalize (lg_sl ([.ref m0, .int k, .int ax]) ++ List.replicate (5 - (lg_sl ([.ref m0, .int k, .int ax])).length) Slot.unset).toArray = ls at hl ⊢
  have hl : lv_has ls 5 [(0, .ref m0), (1, .int k), (2, .int ax)] := hl
  generalize hHe : s.heap = H at hP ⊢
  have hS : va_S A s.heap H [] := by rw [hHe]; exact va_S.rf
  generalize ([] : List Loc) = locs at hS ⊢
  refine lv_aload_n hx hb dX4_tick_0 rfl (lv_at hl 0 rfl) ?_
  refine va_get (D := (dC, dI)) (ci := 3) (v := .int rw) (C := RX4) (T := TX4) (N := 15) hx hb hts hiX4 hown hK hP 0 rfl rfl 3 (by decide) (hts (.fieldLink RX4 32 "TickWalksModel" "walked" "Z") (List.mem_of_getElem? (l := wsX4_tick) (i := 1) rfl)) (fun _ h9 => h9) rfl dX4_tick_1 ?_
  refine lv_if_eq (tgt := 28) hx hb dX4_tick_4 (by decide) (fun c_4 => ?_) (fun c_4 => ?_)
  · exact absurd (hrw.symm.trans c_4) (by decide)
  · refine lv_iload_n hx hb dX4_tick_7 rfl (lv_at hl 1 rfl) ?_
    refine lv_if_lt (tgt := 28) hx hb dX4_tick_8 (by decide) (fun c_8 => ?_) (fun c_8 => ?_)
    · refine lv_iconst (v := 0) hx hb dX4_tick_28 (by decide) ?_
      have hP9 := hP.sub (ws' := [(m0, .inr (3, [.int rx, .int ry, .int rz, .int rw, .int ri, .int ux, .int uy, .int uz, .int vx, .int vy, .int vz, .int cn, .int mo, .ref qw, .ref qt])), (qw, .inl (cB, 40000, .inl wf))]) [0, 1] rfl
      have hD9 := hD.sub (ws' := [(m0, .inr (3, [.int rx, .int ry, .int rz, .int rw, .int ri, .int ux, .int uy, .int uz, .int vx, .int vy, .int vz, .int cn, .int mo, .ref qw, .ref qt])), (qw, .inl (cB, 40000, .inl wf))]) [0, 1] (by decide) rfl
      exact W.iret (v := 0) hx hb hr (fun t9 ht9 hW9 => ⟨⟨0, (), rfl, (by unfold tk_a; rw [if_neg (fun h => absurd h.2.1 (Int32.not_le.mpr c_8))]), by rw [ht9]; exact hP9, hD9⟩, hS.F ht9⟩) hS.2.2 dX4_tick_29
    · refine lv_iload_n hx hb dX4_tick_11 rfl (lv_at hl 1 rfl) ?_
      refine lv_aload_n hx hb dX4_tick_12 rfl (lv_at hl 0 rfl) ?_
      refine va_get (D := (dC, dI)) (ci := 3) (v := .int cn) (C := RX4) (T := TX4) (N := 15) hx hb hts hiX4 hown hK hP 0 rfl rfl 11 (by decide) (hts (.fieldLink RX4 36 "TickWalksModel" "count" "I") (List.mem_of_getElem? (l := wsX4_tick) (i := 2) rfl)) (fun _ h9 => h9) rfl dX4_tick_13 ?_
      refine lv_icmp_gt (tgt := 28) hx hb dX4_tick_16 (by decide) (fun c_16 => ?_) (fun c_16 => ?_)
      · refine lv_iconst (v := 0) hx hb dX4_tick_28 (by decide) ?_
        have hP9 := hP.sub (ws' := [(m0, .inr (3, [.int rx, .int ry, .int rz, .int rw, .int ri, .int ux, .int uy, .int uz, .int vx, .int vy, .int vz, .int cn, .int mo, .ref qw, .ref qt])), (qw, .inl (cB, 40000, .inl wf))]) [0, 1] rfl
        have hD9 := hD.sub (ws' := [(m0, .inr (3, [.int rx, .int ry, .int rz, .int rw, .int ri, .int ux, .int uy, .int uz, .int vx, .int vy, .int vz, .int cn, .int mo, .ref qw, .ref qt])), (qw, .inl (cB, 40000, .inl wf))]) [0, 1] (by decide) rfl
        exact W.iret (v := 0) hx hb hr (fun t9 ht9 hW9 => ⟨⟨0, (), rfl, (by unfold tk_a; rw [if_neg (fun h => absurd h.2.2 (Int32.not_le.mpr c_16))]), by rw [ht9]; exact hP9, hD9⟩, hS.F ht9⟩) hS.2.2 dX4_tick_29
      · refine lv_iload_n hx hb dX4_tick_19 rfl (lv_at hl 2 rfl) ?_
        refine lv_if_lt (tgt := 28) hx hb dX4_tick_20 (by decide) (fun c_20 => ?_) (fun c_20 => ?_)
        · refine lv_iconst (v := 0) hx hb dX4_tick_28 (by decide) ?_
          have hP9 := hP.sub (ws' := [(m0, .inr (3, [.int rx, .int ry, .int rz, .int rw, .int ri, .int ux, .int uy, .int uz, .int vx, .int vy, .int vz, .int cn, .int mo, .ref qw, .ref qt])), (qw, .inl (cB, 40000, .inl wf))]) [0, 1] rfl
          have hD9 := hD.sub (ws' := [(m0, .inr (3, [.int rx, .int ry, .int rz, .int rw, .int ri, .int ux, .int uy, .int uz, .int vx, .int vy, .int vz, .int cn, .int mo, .ref qw, .ref qt])), (qw, .inl (cB, 40000, .inl wf))]) [0, 1] (by decide) rfl
          exact W.iret (v := 0) hx hb hr (fun t9 ht9 hW9 => ⟨⟨0, (), rfl, (by unfold tk_a; rw [if_neg (fun h => absurd h.1.1 (Int32.not_le.mpr c_20))]), by rw [ht9]; exact hP9, hD9⟩, hS.F ht9⟩) hS.2.2 dX4_tick_29
        · refine lv_iload_n hx hb dX4_tick_23 rfl (lv_at hl 2 rfl) ?_
          refine lv_iconst (v := 2) hx hb dX4_tick_24 (by decide) ?_
          refine lv_icmp_le (tgt := 30) hx hb dX4_tick_25 (by decide) (fun c_25 => ?_) (fun c_25 => ?_)
          · have hok : (0 ≤ ax ∧ ax < 3) ∧ 0 ≤ k ∧ k ≤ cn := ⟨⟨Int32.not_lt.mp c_20, ax_le.mp c_25⟩, Int32.not_lt.mp c_8, Int32.not_lt.mp c_16⟩
            obtain ⟨K, hK1, ek⟩ := nI_of c_8
            have hKN : K ≤ N := by
              have h := hok.2.2
              rw [ek, hN3.1] at h
              exact (nI_leI hK1 (by omega)).mp h
            refine lv_aload_n hx hb dX4_tick_30 rfl (lv_at hl 0 rfl) ?_
            refine va_get (D := (dC, dI)) (ci := 3) (v := .int ri) (C := RX4) (T := TX4) (N := 15) hx hb hts hiX4 hown hK hP 0 rfl rfl 4 (by decide) (hts (.fieldLink RX4 42 "TickWalksModel" "isArc" "Z") (List.mem_of_getElem? (l := wsX4_tick) (i := 3) rfl)) (fun _ h9 => h9) rfl dX4_tick_31 ?_
            refine lv_if_ne (tgt := 95) hx hb dX4_tick_34 (by decide) (fun c_34 => ?_) (fun c_34 => ?_)
            · refine lv_iload_n hx hb dX4_tick_95 rfl (lv_at hl 2 rfl) ?_
              refine lv_iconst (v := 2) hx hb dX4_tick_96 (by decide) ?_
              refine lv_icmp_ne (tgt := 105) hx hb dX4_tick_97 (by decide) (fun c_97 => ?_) (fun c_97 => ?_)
              · refine lv_iload_n hx hb dX4_tick_105 rfl (lv_at hl 2 rfl) ?_
                refine lv_if_ne (tgt := 116) hx hb dX4_tick_106 (by decide) (fun c_106 => ?_) (fun c_106 => ?_)
                · refine lv_aload_n hx hb dX4_tick_116 rfl (lv_at hl 0 rfl) ?_
                  refine va_get (D := (dC, dI)) (ci := 3) (v := .int uy) (C := RX4) (T := TX4) (N := 15) hx hb hts hiX4 hown hK hP 0 rfl rfl 6 (by decide) (hts (.fieldLink RX4 48 "TickWalksModel" "fromY" "I") (List.mem_of_getElem? (l := wsX4_tick) (i := 6) rfl)) (fun _ h9 => h9) rfl dX4_tick_117 ?_
                  refine lv_istore_n (lv' := [(3, .int uy), (0, .ref m0), (1, .int k), (2, .int ax)]) hx hb dX4_tick_120 rfl hl (by decide) rfl (fun ls hl => ?_)
                  refine lv_iconst (v := 0) hx hb dX4_tick_121 (by decide) ?_
                  refine lv_istore (lv' := [(4, .int 0), (3, .int uy), (0, .ref m0), (1, .int k), (2, .int ax)]) hx hb dX4_tick_122 hl (by decide) rfl (fun ls hl => ?_)
                  refine ct_loop (σ := Nat × Int32) (fun n9 w9 H locs ls => n9 = K - w9.1 ∧ (w9.1 ≤ K) ∧ (w9.2 = (ob_p lf sq cx cy (ux, uy) w9.1).2) ∧ va_P (dC, dI) vwCl [(m0, .inr (3, [.int rx, .int ry, .int rz, .int rw, .int ri, .int ux, .int uy, .int uz, .int vx, .int vy, .int vz, .int cn, .int mo, .ref qw, .ref qt])), (qw, .inl (cB, 40000, .inl wf))] H ∧ va_D A [(m0, .inr (3, [.int rx, .int ry, .int rz, .int rw, .int ri, .int ux, .int uy, .int uz, .int vx, .int vy, .int vz, .int cn, .int mo, .ref qw, .ref qt])), (qw, .inl (cB, 40000, .inl wf))] ∧ va_S A s.heap H locs ∧ lv_has ls 5 [(4, .int (nI w9.1)), (0, .ref m0), (1, .int k), (2, .int ax), (3, .int w9.2)]) (fun n9 w9 H locs ls hJ ih_124 => ?_) (K - 0) (0, uy) _ _ _ ⟨rfl, (Nat.zero_le K), rfl, (hP.sub [0, 1] rfl), (hD.sub [0, 1] (by decide) rfl), hS, (lv_sub hl [0, 2, 3, 4, 1] rfl)⟩
                  obtain ⟨i, pv⟩ := w9
                  obtain ⟨hn_124, hi, hpv, hP, hD, hS, hl⟩ := hJ
                  have hn_124 : n9 = K - i := hn_124
                  have hi : i ≤ K := hi
                  have hpv : pv = (ob_p lf sq cx cy (ux, uy) i).2 := hpv
                  have hP : va_P (dC, dI) vwCl [(m0, .inr (3, [.int rx, .int ry, .int rz, .int rw, .int ri, .int ux, .int uy, .int uz, .int vx, .int vy, .int vz, .int cn, .int mo, .ref qw, .ref qt])), (qw, .inl (cB, 40000, .inl wf))] H := hP
                  have hD : va_D A [(m0, .inr (3, [.int rx, .int ry, .int rz, .int rw, .int ri, .int ux, .int uy, .int uz, .int vx, .int vy, .int vz, .int cn, .int mo, .ref qw, .ref qt])), (qw, .inl (cB, 40000, .inl wf))] := hD
                  have hl : lv_has ls 5 [(4, .int (nI i)), (0, .ref m0), (1, .int k), (2, .int ax), (3, .int pv)] := hl
                  refine lv_iload hx hb dX4_tick_124 (lv_at hl 0 rfl) ?_
                  refine lv_iload_n hx hb dX4_tick_126 rfl (lv_at hl 2 rfl) ?_
                  refine lv_icmp_ge (tgt := 166) hx hb dX4_tick_127 (by decide) (fun c_127 => ?_) (fun c_127 => ?_)
                  · refine lv_iload_n hx hb dX4_tick_166 rfl (lv_at hl 4 rfl) ?_
                    have hP9 := hP.sub (ws' := [(m0, .inr (3, [.int rx, .int ry, .int rz, .int rw, .int ri, .int ux, .int uy, .int uz, .int vx, .int vy, .int vz, .int cn, .int mo, .ref qw, .ref qt])), (qw, .inl (cB, 40000, .inl wf))]) [0, 1] rfl
                    have hD9 := hD.sub (ws' := [(m0, .inr (3, [.int rx, .int ry, .int rz, .int rw, .int ri, .int ux, .int uy, .int uz, .int vx, .int vy, .int vz, .int cn, .int mo, .ref qw, .ref qt])), (qw, .inl (cB, 40000, .inl wf))]) [0, 1] (by decide) rfl
                    exact W.iret (v := pv) hx hb hr (fun t9 ht9 hW9 => ⟨⟨pv, (), rfl, (by unfold tk_a; have h := c_127; rw [ek] at h; have h2 := (nI_leI hK1 (by omega)).mp h; rw [if_pos hok, if_neg c_97, if_neg c_106, ek, nI_clamp hK1, hpv, show i = K by omega]), by rw [ht9]; exact hP9, hD9⟩, hS.F ht9⟩) hS.2.2 dX4_tick_167
                  · have hlt : i < K := by
                      rcases Nat.lt_or_ge i K with h | h
                      · exact h
                      · exact absurd (show k ≤ nI i by rw [ek]; exact nI_le h (by omega)) c_127
                    obtain ⟨j, hj, hwj, hpj⟩ := hW i (by omega)
                    refine lv_iload_n hx hb dX4_tick_130 rfl (lv_at hl 4 rfl) ?_
                    refine lv_iload_n hx hb dX4_tick_131 rfl (lv_at hl 3 rfl) ?_
                    refine lv_if_ne (tgt := 148) hx hb dX4_tick_132 (by decide) (fun c_132 => ?_) (fun c_132 => ?_)
                    · refine lv_aload_n hx hb dX4_tick_148 rfl (lv_at hl 1 rfl) ?_
                      refine va_get (D := (dC, dI)) (ci := 3) (v := .ref qw) (C := RX4) (T := TX4) (N := 15) hx hb hts hiX4 hown hK hP 0 rfl rfl 13 (by decide) (hts (.fieldLink RX4 10 "TickWalksModel" "way" "[B") (List.mem_of_getElem? (l := wsX4_tick) (i := 10) rfl)) (fun _ h9 => h9) rfl dX4_tick_149 ?_
                      refine lv_iload hx hb dX4_tick_152 (lv_at hl 0 rfl) ?_
                      refine va_bald hx hb hK hP 1 1 rfl rfl (vp_in_nI (by omega) (by decide)) dX4_tick_154 ?_
                      refine ct_topi (y := wf i) (congrArg wf (nI_clamp (show i < 2 ^ 31 by omega))) ?_
                      refine ct_topi (y := nI j) hwj ?_
                      refine ct_calli (va_runS (As := [.int (nI j)]) (rest := [.int pv]) ⟨hx, hb, hml, hown, hts⟩ (rf_north l dC dI cA cB H.size j hj) (va_cwS 1 hts gX4_tick_X4_northOf rfl rfl rfl (by decide +kernel) ⟨Nat.le_of_ble_eq_true rfl, Nat.le_of_ble_eq_true rfl⟩) ⟨ct_blind, ct_pre hP hD hK hZ hN hS hA [] rfl (by decide)⟩ rfl rfl hl.1 rfl (lv_room (Nat.le_of_ble_eq_true rfl)) dX4_tick_155 ⟨Nat.le_of_ble_eq_true rfl, Nat.le_of_ble_eq_true rfl⟩) hP hD hS hA [] [0, 1] rfl (wr := [(m0, .inr (3, [.int rx, .int ry, .int rz, .int rw, .int ri, .int ux, .int uy, .int uz, .int vx, .int vy, .int vz, .int cn, .int mo, .ref qw, .ref qt])), (qw, .inl (cB, 40000, .inl wf))]) rfl (by decide) (by decide) (fun r_1 u9 H locs hw_1 hP hD hS => ?_)
                      have hw_1 : r_1 = st_Y j := hw_1
                      have hP : va_P (dC, dI) vwCl [(m0, .inr (3, [.int rx, .int ry, .int rz, .int rw, .int ri, .int ux, .int uy, .int uz, .int vx, .int vy, .int vz, .int cn, .int mo, .ref qw, .ref qt])), (qw, .inl (cB, 40000, .inl wf))] H := hP
                      have hD : va_D A [(m0, .inr (3, [.int rx, .int ry, .int rz, .int rw, .int ri, .int ux, .int uy, .int uz, .int vx, .int vy, .int vz, .int cn, .int mo, .ref qw, .ref qt])), (qw, .inl (cB, 40000, .inl wf))] := hD
                      have hpv2 : pv + r_1 = (ob_p lf sq cx cy (ux, uy) (i + 1)).2 := by rw [hpj, hpv, hw_1]
                      refine lv_iadd hx hb dX4_tick_158 ?_
                      refine lv_istore_n (lv' := [(3, .int (pv + r_1)), (4, .int (nI i)), (0, .ref m0), (1, .int k), (2, .int ax)]) hx hb dX4_tick_159 rfl hl (by decide) rfl (fun ls hl => ?_)
                      refine lv_iinc (v := nI (i + 1)) (lv' := [(4, .int (nI (i + 1))), (3, .int (pv + r_1)), (0, .ref m0), (1, .int k), (2, .int ax)]) hx hb dX4_tick_160 hl (k := 1) rfl (nI_1 i) (by decide) rfl (fun ls hl => ?_)
                      refine lv_goto (tgt := 124) hx hb dX4_tick_163 (by decide) ?_
                      exact ih_124 _ ((i + 1), pv + r_1) _ _ _ (by rw [hn_124]; omega) ⟨rfl, (show i + 1 ≤ K by omega), hpv2, (hP.sub [0, 1] rfl), (hD.sub [0, 1] (by decide) rfl), hS, (lv_sub hl [0, 2, 3, 4, 1] rfl)⟩
                    · exact absurd c_132 c_106
                · refine lv_aload_n hx hb dX4_tick_109 rfl (lv_at hl 0 rfl) ?_
                  refine va_get (D := (dC, dI)) (ci := 3) (v := .int ux) (C := RX4) (T := TX4) (N := 15) hx hb hts hiX4 hown hK hP 0 rfl rfl 5 (by decide) (hts (.fieldLink RX4 45 "TickWalksModel" "fromX" "I") (List.mem_of_getElem? (l := wsX4_tick) (i := 4) rfl)) (fun _ h9 => h9) rfl dX4_tick_110 ?_
                  refine lv_goto (tgt := 120) hx hb dX4_tick_113 (by decide) ?_
                  refine lv_istore_n (lv' := [(3, .int ux), (0, .ref m0), (1, .int k), (2, .int ax)]) hx hb dX4_tick_120 rfl hl (by decide) rfl (fun ls hl => ?_)
                  refine lv_iconst (v := 0) hx hb dX4_tick_121 (by decide) ?_
                  refine lv_istore (lv' := [(4, .int 0), (3, .int ux), (0, .ref m0), (1, .int k), (2, .int ax)]) hx hb dX4_tick_122 hl (by decide) rfl (fun ls hl => ?_)
                  refine ct_loop (σ := Nat × Int32) (fun n9 w9 H locs ls => n9 = K - w9.1 ∧ (w9.1 ≤ K) ∧ (w9.2 = (ob_p lf sq cx cy (ux, uy) w9.1).1) ∧ va_P (dC, dI) vwCl [(m0, .inr (3, [.int rx, .int ry, .int rz, .int rw, .int ri, .int ux, .int uy, .int uz, .int vx, .int vy, .int vz, .int cn, .int mo, .ref qw, .ref qt])), (qw, .inl (cB, 40000, .inl wf))] H ∧ va_D A [(m0, .inr (3, [.int rx, .int ry, .int rz, .int rw, .int ri, .int ux, .int uy, .int uz, .int vx, .int vy, .int vz, .int cn, .int mo, .ref qw, .ref qt])), (qw, .inl (cB, 40000, .inl wf))] ∧ va_S A s.heap H locs ∧ lv_has ls 5 [(4, .int (nI w9.1)), (0, .ref m0), (1, .int k), (2, .int ax), (3, .int w9.2)]) (fun n9 w9 H locs ls hJ ih_124 => ?_) (K - 0) (0, ux) _ _ _ ⟨rfl, (Nat.zero_le K), rfl, (hP.sub [0, 1] rfl), (hD.sub [0, 1] (by decide) rfl), hS, (lv_sub hl [0, 2, 3, 4, 1] rfl)⟩
                  obtain ⟨i, pv⟩ := w9
                  obtain ⟨hn_124, hi, hpv, hP, hD, hS, hl⟩ := hJ
                  have hn_124 : n9 = K - i := hn_124
                  have hi : i ≤ K := hi
                  have hpv : pv = (ob_p lf sq cx cy (ux, uy) i).1 := hpv
                  have hP : va_P (dC, dI) vwCl [(m0, .inr (3, [.int rx, .int ry, .int rz, .int rw, .int ri, .int ux, .int uy, .int uz, .int vx, .int vy, .int vz, .int cn, .int mo, .ref qw, .ref qt])), (qw, .inl (cB, 40000, .inl wf))] H := hP
                  have hD : va_D A [(m0, .inr (3, [.int rx, .int ry, .int rz, .int rw, .int ri, .int ux, .int uy, .int uz, .int vx, .int vy, .int vz, .int cn, .int mo, .ref qw, .ref qt])), (qw, .inl (cB, 40000, .inl wf))] := hD
                  have hl : lv_has ls 5 [(4, .int (nI i)), (0, .ref m0), (1, .int k), (2, .int ax), (3, .int pv)] := hl
                  refine lv_iload hx hb dX4_tick_124 (lv_at hl 0 rfl) ?_
                  refine lv_iload_n hx hb dX4_tick_126 rfl (lv_at hl 2 rfl) ?_
                  refine lv_icmp_ge (tgt := 166) hx hb dX4_tick_127 (by decide) (fun c_127 => ?_) (fun c_127 => ?_)
                  · refine lv_iload_n hx hb dX4_tick_166 rfl (lv_at hl 4 rfl) ?_
                    have hP9 := hP.sub (ws' := [(m0, .inr (3, [.int rx, .int ry, .int rz, .int rw, .int ri, .int ux, .int uy, .int uz, .int vx, .int vy, .int vz, .int cn, .int mo, .ref qw, .ref qt])), (qw, .inl (cB, 40000, .inl wf))]) [0, 1] rfl
                    have hD9 := hD.sub (ws' := [(m0, .inr (3, [.int rx, .int ry, .int rz, .int rw, .int ri, .int ux, .int uy, .int uz, .int vx, .int vy, .int vz, .int cn, .int mo, .ref qw, .ref qt])), (qw, .inl (cB, 40000, .inl wf))]) [0, 1] (by decide) rfl
                    exact W.iret (v := pv) hx hb hr (fun t9 ht9 hW9 => ⟨⟨pv, (), rfl, (by unfold tk_a; have h := c_127; rw [ek] at h; have h2 := (nI_leI hK1 (by omega)).mp h; rw [if_pos hok, if_neg c_97, if_pos c_106, ek, nI_clamp hK1, hpv, show i = K by omega]), by rw [ht9]; exact hP9, hD9⟩, hS.F ht9⟩) hS.2.2 dX4_tick_167
                  · have hlt : i < K := by
                      rcases Nat.lt_or_ge i K with h | h
                      · exact h
                      · exact absurd (show k ≤ nI i by rw [ek]; exact nI_le h (by omega)) c_127
                    obtain ⟨j, hj, hwj, hpj⟩ := hW i (by omega)
                    refine lv_iload_n hx hb dX4_tick_130 rfl (lv_at hl 4 rfl) ?_
                    refine lv_iload_n hx hb dX4_tick_131 rfl (lv_at hl 3 rfl) ?_
                    refine lv_if_ne (tgt := 148) hx hb dX4_tick_132 (by decide) (fun c_132 => ?_) (fun c_132 => ?_)
                    · exact absurd c_106 c_132
                    · refine lv_aload_n hx hb dX4_tick_135 rfl (lv_at hl 1 rfl) ?_
                      refine va_get (D := (dC, dI)) (ci := 3) (v := .ref qw) (C := RX4) (T := TX4) (N := 15) hx hb hts hiX4 hown hK hP 0 rfl rfl 13 (by decide) (hts (.fieldLink RX4 10 "TickWalksModel" "way" "[B") (List.mem_of_getElem? (l := wsX4_tick) (i := 10) rfl)) (fun _ h9 => h9) rfl dX4_tick_136 ?_
                      refine lv_iload hx hb dX4_tick_139 (lv_at hl 0 rfl) ?_
                      refine va_bald hx hb hK hP 1 1 rfl rfl (vp_in_nI (by omega) (by decide)) dX4_tick_141 ?_
                      refine ct_topi (y := wf i) (congrArg wf (nI_clamp (show i < 2 ^ 31 by omega))) ?_
                      refine ct_topi (y := nI j) hwj ?_
                      refine ct_calli (va_runS (As := [.int (nI j)]) (rest := [.int pv]) ⟨hx, hb, hml, hown, hts⟩ (rf_east l dC dI cA cB H.size j hj) (va_cwS 1 hts gX4_tick_X4_eastOf rfl rfl rfl (by decide +kernel) ⟨Nat.le_of_ble_eq_true rfl, Nat.le_of_ble_eq_true rfl⟩) ⟨ct_blind, ct_pre hP hD hK hZ hN hS hA [] rfl (by decide)⟩ rfl rfl hl.1 rfl (lv_room (Nat.le_of_ble_eq_true rfl)) dX4_tick_142 ⟨Nat.le_of_ble_eq_true rfl, Nat.le_of_ble_eq_true rfl⟩) hP hD hS hA [] [0, 1] rfl (wr := [(m0, .inr (3, [.int rx, .int ry, .int rz, .int rw, .int ri, .int ux, .int uy, .int uz, .int vx, .int vy, .int vz, .int cn, .int mo, .ref qw, .ref qt])), (qw, .inl (cB, 40000, .inl wf))]) rfl (by decide) (by decide) (fun r_2 u9 H locs hw_2 hP hD hS => ?_)
                      have hw_2 : r_2 = st_X j := hw_2
                      have hP : va_P (dC, dI) vwCl [(m0, .inr (3, [.int rx, .int ry, .int rz, .int rw, .int ri, .int ux, .int uy, .int uz, .int vx, .int vy, .int vz, .int cn, .int mo, .ref qw, .ref qt])), (qw, .inl (cB, 40000, .inl wf))] H := hP
                      have hD : va_D A [(m0, .inr (3, [.int rx, .int ry, .int rz, .int rw, .int ri, .int ux, .int uy, .int uz, .int vx, .int vy, .int vz, .int cn, .int mo, .ref qw, .ref qt])), (qw, .inl (cB, 40000, .inl wf))] := hD
                      refine lv_goto (tgt := 158) hx hb dX4_tick_145 (by decide) ?_
                      have hpv2 : pv + r_2 = (ob_p lf sq cx cy (ux, uy) (i + 1)).1 := by rw [hpj, hpv, hw_2]
                      refine lv_iadd hx hb dX4_tick_158 ?_
                      refine lv_istore_n (lv' := [(3, .int (pv + r_2)), (4, .int (nI i)), (0, .ref m0), (1, .int k), (2, .int ax)]) hx hb dX4_tick_159 rfl hl (by decide) rfl (fun ls hl => ?_)
                      refine lv_iinc (v := nI (i + 1)) (lv' := [(4, .int (nI (i + 1))), (3, .int (pv + r_2)), (0, .ref m0), (1, .int k), (2, .int ax)]) hx hb dX4_tick_160 hl (k := 1) rfl (nI_1 i) (by decide) rfl (fun ls hl => ?_)
                      refine lv_goto (tgt := 124) hx hb dX4_tick_163 (by decide) ?_
                      exact ih_124 _ ((i + 1), pv + r_2) _ _ _ (by rw [hn_124]; omega) ⟨rfl, (show i + 1 ≤ K by omega), hpv2, (hP.sub [0, 1] rfl), (hD.sub [0, 1] (by decide) rfl), hS, (lv_sub hl [0, 2, 3, 4, 1] rfl)⟩
              · refine lv_aload_n hx hb dX4_tick_100 rfl (lv_at hl 0 rfl) ?_
                refine va_get (D := (dC, dI)) (ci := 3) (v := .int uz) (C := RX4) (T := TX4) (N := 15) hx hb hts hiX4 hown hK hP 0 rfl rfl 7 (by decide) (hts (.fieldLink RX4 51 "TickWalksModel" "fromZ" "I") (List.mem_of_getElem? (l := wsX4_tick) (i := 8) rfl)) (fun _ h9 => h9) rfl dX4_tick_101 ?_
                have hP9 := hP.sub (ws' := [(m0, .inr (3, [.int rx, .int ry, .int rz, .int rw, .int ri, .int ux, .int uy, .int uz, .int vx, .int vy, .int vz, .int cn, .int mo, .ref qw, .ref qt])), (qw, .inl (cB, 40000, .inl wf))]) [0, 1] rfl
                have hD9 := hD.sub (ws' := [(m0, .inr (3, [.int rx, .int ry, .int rz, .int rw, .int ri, .int ux, .int uy, .int uz, .int vx, .int vy, .int vz, .int cn, .int mo, .ref qw, .ref qt])), (qw, .inl (cB, 40000, .inl wf))]) [0, 1] (by decide) rfl
                exact W.iret (v := uz) hx hb hr (fun t9 ht9 hW9 => ⟨⟨uz, (), rfl, (by unfold tk_a; rw [if_pos hok, if_pos c_97]), by rw [ht9]; exact hP9, hD9⟩, hS.F ht9⟩) hS.2.2 dX4_tick_104
            · exact absurd (hri.symm.trans c_34) (by decide)
          · refine lv_iconst (v := 0) hx hb dX4_tick_28 (by decide) ?_
            have hP9 := hP.sub (ws' := [(m0, .inr (3, [.int rx, .int ry, .int rz, .int rw, .int ri, .int ux, .int uy, .int uz, .int vx, .int vy, .int vz, .int cn, .int mo, .ref qw, .ref qt])), (qw, .inl (cB, 40000, .inl wf))]) [0, 1] rfl
            have hD9 := hD.sub (ws' := [(m0, .inr (3, [.int rx, .int ry, .int rz, .int rw, .int ri, .int ux, .int uy, .int uz, .int vx, .int vy, .int vz, .int cn, .int mo, .ref qw, .ref qt])), (qw, .inl (cB, 40000, .inl wf))]) [0, 1] (by decide) rfl
            exact W.iret (v := 0) hx hb hr (fun t9 ht9 hW9 => ⟨⟨0, (), rfl, (by unfold tk_a; rw [if_neg (fun h => c_25 (ax_le.mpr h.1.2))]), by rw [ht9]; exact hP9, hD9⟩, hS.F ht9⟩) hS.2.2 dX4_tick_29
