theorem li_end {fv bv : Nat → Int32} {ln ct0 : Int32} {N i : Nat} (hN2 : ln = nI N ∧ N < 1000000) (hi : 1 ≤ i ∧ i ≤ N + 1) (h : ln < nI i) (hc : ct0 = ln_c fv bv ln (i - 1)) : ct0 = ln_c fv bv ln N := by
  have h1 : nI N < nI i := by rw [← hN2.1]; exact h
  have h2 := (nI_ltI (by omega) (by omega)).mp h1
  rw [hc, show i - 1 = N by omega]
set_option maxHeartbeats 4000000 in
set_option maxRecDepth 100000 in
/-- Line.walk -/
theorem li_walk (l : Launch) (dC : Nat → ClassId) (dI : Nat → Nat → Nat) (cA cB : ClassId) (sz : Nat) (h0 : Nat) (qf : Nat) (qb : Nat) (ln : Int32) (sr : Int32) (fv : Nat → Int32) (bv : Nat → Int32) (qs : Nat) (sv : Nat → Int32) (x : Int32) (y : Int32) (z : Int32) : Met l yX1_walk wsX1_walk ({ frames := 2, cells := 0, slots := 0, locals := 40 }) (va_Pc [.ref h0, .ref qs, .int x, .int y, .int z] (ct_P dC dI cA cB sz [(h0, .inr (1, [.ref qf, .ref qb, .int ln, .int sr])), (qf, .inl (cA, 3, .inl fv)), (qb, .inl (cA, 3, .inl bv)), (qs, .inl (cA, 3, .inl sv))])) (va_Qv (fun (u : (Nat → Int32) × (Nat → Int32) × Int32) => (u.1 0 = sv 0 ∧ u.1 1 = sv 1 ∧ u.1 2 = sv 2) ∧ (u.2.1 0 = x - sv 0 ∧ u.2.1 1 = y - sv 1 ∧ u.2.1 2 = z - sv 2) ∧ u.2.2 = ga_m (u.2.1 0) (u.2.1 1) (u.2.1 2)) (fun (u : (Nat → Int32) × (Nat → Int32) × Int32) => ct_B dC dI (va_A [(h0, .inr (1, [.ref qf, .ref qb, .int ln, .int sr])), (qf, .inl (cA, 3, .inl fv)), (qb, .inl (cA, 3, .inl bv)), (qs, .inl (cA, 3, .inl sv))] sz) [(h0, .inr (1, [.ref qf, .ref qb, .int u.2.2, .int (-1)])), (qf, .inl (cA, 3, .inl u.1)), (qb, .inl (cA, 3, .inl u.2.1)), (qs, .inl (cA, 3, .inl sv))]) (va_A [(h0, .inr (1, [.ref qf, .ref qb, .int ln, .int sr])), (qf, .inl (cA, 3, .inl fv)), (qb, .inl (cA, 3, .inl bv)), (qs, .inl (cA, 3, .inl sv))] sz)) 0 0 (va_A [(h0, .inr (1, [.ref qf, .ref qb, .int ln, .int sr])), (qf, .inl (cA, 3, .inl fv)), (qb, .inl (cA, 3, .inl bv)), (qs, .inl (cA, 3, .inl sv))] sz) := by
  refine Met.ofW (cc := cX1_walk) (maxL := 6) (ret := none) (by decide +kernel) rfl ?_
  intro p e s m args below meth c s₁ B hml hv
  obtain ⟨rfl, hsz, hP, hK, hD0, hZ, hN⟩ := hv
  have hx := B.exec
  have hb := B.bytes
  have hr := B.returns
  have hts := atoms_spec (ws := wsX1_walk) B.pre
  have hown : s.vm.findClass RX1 = some m.cls := findClass_of_methodNamed B.named
  have hlocks := B.notSynchronized
  have hiX1 : ∀ w ∈ u_ws RX1 TX1 4, w ∈ wsX1_walk := by decide +kernel
  subst hsz
  have hD := hD0.self (sz := s.heap.size)
  generalize hAe : va_A [(h0, .inr (1, [.ref qf, .ref qb, .int ln, .int sr])), (qf, .inl (cA, 3, .inl fv)), (qb, .inl (cA, 3, .inl bv)), (qs, .inl (cA, 3, .inl sv))] s.heap.size = A at hD hZ ⊢
  have hA : ∀ q : Nat, s.heap.size ≤ q → A q := fun q h => by rw [← hAe]; exact Or.inr h
  have hl := lv_entry ([.ref h0, .ref qs, .int x, .int y, .int z]) (n := 6) (Nat.le_of_ble_eq_true rfl)
  rw [lg_entry_eq]
  generalize (lg_sl ([.ref h0, .ref qs, .int x, .int y, .int z]) ++ List.replicate (6 - (lg_sl ([.ref h0, .ref qs, .int x, .int y, .int z])).length) Slot.unset).toArray = ls at hl ⊢
  have hl : lv_has ls 6 [(0, .ref h0), (1, .ref qs), (2, .int x), (3, .int y), (4, .int z)] := hl
  generalize hHe : s.heap = H at hP ⊢
  have hS : va_S A s.heap H [] := by rw [hHe]; exact va_S.rf
  generalize ([] : List Loc) = locs at hS ⊢
  refine lv_iconst (v := 0) hx hb dX1_walk_0 (by decide) ?_
  refine lv_istore (lv' := [(5, .int 0), (0, .ref h0), (1, .ref qs), (2, .int x), (3, .int y), (4, .int z)]) hx hb dX1_walk_1 hl (by decide) rfl (fun ls hl => ?_)
  refine ct_loop (σ := Nat × (Nat → Int32)) (fun n9 w9 H locs ls => n9 = 3 - w9.1 ∧ (w9.1 ≤ 3) ∧ (∀ j, j < w9.1 → w9.2 j = sv j) ∧ va_P (dC, dI) vwCl [(h0, .inr (1, [.ref qf, .ref qb, .int ln, .int sr])), (qf, .inl (cA, 3, .inl w9.2)), (qb, .inl (cA, 3, .inl bv)), (qs, .inl (cA, 3, .inl sv))] H ∧ va_D A [(h0, .inr (1, [.ref qf, .ref qb, .int ln, .int sr])), (qf, .inl (cA, 3, .inl w9.2)), (qb, .inl (cA, 3, .inl bv)), (qs, .inl (cA, 3, .inl sv))] ∧ va_S A s.heap H locs ∧ lv_has ls 6 [(5, .int (nI w9.1)), (0, .ref h0), (1, .ref qs), (2, .int x), (3, .int y), (4, .int z)]) (fun n9 w9 H locs ls hJ ih_3 => ?_) (3 - 0) (0, fv) _ _ _ ⟨rfl, (Nat.zero_le 3), (fun j h => absurd h (by omega)), (hP.sub [0, 1, 2, 3] rfl), (hD.sub [0, 1, 2, 3] (by decide) rfl), hS, (lv_sub hl [0, 1, 2, 3, 4, 5] rfl)⟩
  obtain ⟨i, gf⟩ := w9
  obtain ⟨hn_3, hi, hg, hP, hD, hS, hl⟩ := hJ
  have hn_3 : n9 = 3 - i := hn_3
  have hi : i ≤ 3 := hi
  have hg : ∀ j, j < i → gf j = sv j := hg
  have hP : va_P (dC, dI) vwCl [(h0, .inr (1, [.ref qf, .ref qb, .int ln, .int sr])), (qf, .inl (cA, 3, .inl gf)), (qb, .inl (cA, 3, .inl bv)), (qs, .inl (cA, 3, .inl sv))] H := hP
  have hD : va_D A [(h0, .inr (1, [.ref qf, .ref qb, .int ln, .int sr])), (qf, .inl (cA, 3, .inl gf)), (qb, .inl (cA, 3, .inl bv)), (qs, .inl (cA, 3, .inl sv))] := hD
  have hl : lv_has ls 6 [(5, .int (nI i)), (0, .ref h0), (1, .ref qs), (2, .int x), (3, .int y), (4, .int z)] := hl
  refine lv_iload hx hb dX1_walk_3 (lv_at hl 0 rfl) ?_
  refine lv_iconst (v := 3) hx hb dX1_walk_5 (by decide) ?_
  refine lv_icmp_ge (tgt := 26) hx hb dX1_walk_6 (by decide) (fun c_6 => ?_) (fun c_6 => ?_)
  · have h3 : i = 3 := by
      have h := (nI_leI (a := 3) (by omega) (by omega)).mp c_6
      omega
    subst h3
    have g0 := hg 0 (by omega)
    have g1 := hg 1 (by omega)
    have g2 := hg 2 (by omega)
    refine lv_aload_n hx hb dX1_walk_26 rfl (lv_at hl 1 rfl) ?_
    refine va_get (D := (dC, dI)) (ci := 1) (v := .ref qb) (C := RX1) (T := TX1) (N := 4) hx hb hts hiX1 hown hK hP 0 rfl rfl 1 (by decide) (hts (.fieldLink RX1 15 "TickWalks$Line" "by" "[I") (List.mem_of_getElem? (l := wsX1_walk) (i := 2) rfl)) (fun _ h9 => h9) rfl dX1_walk_27 ?_
    refine lv_iconst (v := 0) hx hb dX1_walk_30 (by decide) ?_
    refine lv_iload_n hx hb dX1_walk_31 rfl (lv_at hl 3 rfl) ?_
    refine lv_aload_n hx hb dX1_walk_32 rfl (lv_at hl 1 rfl) ?_
    refine va_get (D := (dC, dI)) (ci := 1) (v := .ref qf) (C := RX1) (T := TX1) (N := 4) hx hb hts hiX1 hown hK hP 0 rfl rfl 0 (by decide) (hts (.fieldLink RX1 9 "TickWalks$Line" "from" "[I") (List.mem_of_getElem? (l := wsX1_walk) (i := 1) rfl)) (fun _ h9 => h9) rfl dX1_walk_33 ?_
    refine lv_iconst (v := 0) hx hb dX1_walk_36 (by decide) ?_
    refine va_iald hx hb hK hP 1 0 rfl rfl (show vp_in 0 3 by unfold vp_in; decide) dX1_walk_37 ?_
    refine ct_topi (y := gf 0) (congrArg gf (show Int32.toNatClampNeg 0 = 0 by decide)) ?_
    refine lv_isub hx hb dX1_walk_38 ?_
    refine va_iast hx hb hK hP hD hS 2 0 rfl rfl (show vp_in 0 3 by unfold vp_in; decide) dX1_walk_39 (fun H locs hP hD hS => ?_)
    rw [(show Int32.toNatClampNeg 0 = 0 by decide)] at hP hD
    have hP : va_P (dC, dI) vwCl [(h0, .inr (1, [.ref qf, .ref qb, .int ln, .int sr])), (qf, .inl (cA, 3, .inl gf)), (qb, .inl (cA, 3, .inl (upd bv 0 (x - (gf 0))))), (qs, .inl (cA, 3, .inl sv))] H := hP
    have hD : va_D A [(h0, .inr (1, [.ref qf, .ref qb, .int ln, .int sr])), (qf, .inl (cA, 3, .inl gf)), (qb, .inl (cA, 3, .inl (upd bv 0 (x - (gf 0))))), (qs, .inl (cA, 3, .inl sv))] := hD
    refine lv_aload_n hx hb dX1_walk_40 rfl (lv_at hl 1 rfl) ?_
    refine va_get (D := (dC, dI)) (ci := 1) (v := .ref qb) (C := RX1) (T := TX1) (N := 4) hx hb hts hiX1 hown hK hP 0 rfl rfl 1 (by decide) (hts (.fieldLink RX1 15 "TickWalks$Line" "by" "[I") (List.mem_of_getElem? (l := wsX1_walk) (i := 2) rfl)) (fun _ h9 => h9) rfl dX1_walk_41 ?_
    refine lv_iconst (v := 1) hx hb dX1_walk_44 (by decide) ?_
    refine lv_iload_n hx hb dX1_walk_45 rfl (lv_at hl 4 rfl) ?_
    refine lv_aload_n hx hb dX1_walk_46 rfl (lv_at hl 1 rfl) ?_
    refine va_get (D := (dC, dI)) (ci := 1) (v := .ref qf) (C := RX1) (T := TX1) (N := 4) hx hb hts hiX1 hown hK hP 0 rfl rfl 0 (by decide) (hts (.fieldLink RX1 9 "TickWalks$Line" "from" "[I") (List.mem_of_getElem? (l := wsX1_walk) (i := 1) rfl)) (fun _ h9 => h9) rfl dX1_walk_47 ?_
    refine lv_iconst (v := 1) hx hb dX1_walk_50 (by decide) ?_
    refine va_iald hx hb hK hP 1 0 rfl rfl (show vp_in 1 3 by unfold vp_in; decide) dX1_walk_51 ?_
    refine ct_topi (y := gf 1) (congrArg gf (show Int32.toNatClampNeg 1 = 1 by decide)) ?_
    refine lv_isub hx hb dX1_walk_52 ?_
    refine va_iast hx hb hK hP hD hS 2 0 rfl rfl (show vp_in 1 3 by unfold vp_in; decide) dX1_walk_53 (fun H locs hP hD hS => ?_)
    rw [(show Int32.toNatClampNeg 1 = 1 by decide)] at hP hD
    have hP : va_P (dC, dI) vwCl [(h0, .inr (1, [.ref qf, .ref qb, .int ln, .int sr])), (qf, .inl (cA, 3, .inl gf)), (qb, .inl (cA, 3, .inl (upd (upd bv 0 (x - (gf 0))) 1 (y - (gf 1))))), (qs, .inl (cA, 3, .inl sv))] H := hP
    have hD : va_D A [(h0, .inr (1, [.ref qf, .ref qb, .int ln, .int sr])), (qf, .inl (cA, 3, .inl gf)), (qb, .inl (cA, 3, .inl (upd (upd bv 0 (x - (gf 0))) 1 (y - (gf 1))))), (qs, .inl (cA, 3, .inl sv))] := hD
    refine lv_aload_n hx hb dX1_walk_54 rfl (lv_at hl 1 rfl) ?_
    refine va_get (D := (dC, dI)) (ci := 1) (v := .ref qb) (C := RX1) (T := TX1) (N := 4) hx hb hts hiX1 hown hK hP 0 rfl rfl 1 (by decide) (hts (.fieldLink RX1 15 "TickWalks$Line" "by" "[I") (List.mem_of_getElem? (l := wsX1_walk) (i := 2) rfl)) (fun _ h9 => h9) rfl dX1_walk_55 ?_
    refine lv_iconst (v := 2) hx hb dX1_walk_58 (by decide) ?_
    refine lv_iload hx hb dX1_walk_59 (lv_at hl 5 rfl) ?_
    refine lv_aload_n hx hb dX1_walk_61 rfl (lv_at hl 1 rfl) ?_
    refine va_get (D := (dC, dI)) (ci := 1) (v := .ref qf) (C := RX1) (T := TX1) (N := 4) hx hb hts hiX1 hown hK hP 0 rfl rfl 0 (by decide) (hts (.fieldLink RX1 9 "TickWalks$Line" "from" "[I") (List.mem_of_getElem? (l := wsX1_walk) (i := 1) rfl)) (fun _ h9 => h9) rfl dX1_walk_62 ?_
    refine lv_iconst (v := 2) hx hb dX1_walk_65 (by decide) ?_
    refine va_iald hx hb hK hP 1 0 rfl rfl (show vp_in 2 3 by unfold vp_in; decide) dX1_walk_66 ?_
    refine ct_topi (y := gf 2) (congrArg gf (show Int32.toNatClampNeg 2 = 2 by decide)) ?_
    refine lv_isub hx hb dX1_walk_67 ?_
    refine va_iast hx hb hK hP hD hS 2 0 rfl rfl (show vp_in 2 3 by unfold vp_in; decide) dX1_walk_68 (fun H locs hP hD hS => ?_)
    rw [(show Int32.toNatClampNeg 2 = 2 by decide)] at hP hD
    have hP : va_P (dC, dI) vwCl [(h0, .inr (1, [.ref qf, .ref qb, .int ln, .int sr])), (qf, .inl (cA, 3, .inl gf)), (qb, .inl (cA, 3, .inl (upd (upd (upd bv 0 (x - (gf 0))) 1 (y - (gf 1))) 2 (z - (gf 2))))), (qs, .inl (cA, 3, .inl sv))] H := hP
    have hD : va_D A [(h0, .inr (1, [.ref qf, .ref qb, .int ln, .int sr])), (qf, .inl (cA, 3, .inl gf)), (qb, .inl (cA, 3, .inl (upd (upd (upd bv 0 (x - (gf 0))) 1 (y - (gf 1))) 2 (z - (gf 2))))), (qs, .inl (cA, 3, .inl sv))] := hD
    refine lv_aload_n hx hb dX1_walk_69 rfl (lv_at hl 1 rfl) ?_
    refine lv_aload_n hx hb dX1_walk_70 rfl (lv_at hl 1 rfl) ?_
    refine va_get (D := (dC, dI)) (ci := 1) (v := .ref qb) (C := RX1) (T := TX1) (N := 4) hx hb hts hiX1 hown hK hP 0 rfl rfl 1 (by decide) (hts (.fieldLink RX1 15 "TickWalks$Line" "by" "[I") (List.mem_of_getElem? (l := wsX1_walk) (i := 2) rfl)) (fun _ h9 => h9) rfl dX1_walk_71 ?_
    refine lv_iconst (v := 0) hx hb dX1_walk_74 (by decide) ?_
    refine va_iald hx hb hK hP 2 0 rfl rfl (show vp_in 0 3 by unfold vp_in; decide) dX1_walk_75 ?_
    refine ct_topi (y := (upd (upd (upd bv 0 (x - (gf 0))) 1 (y - (gf 1))) 2 (z - (gf 2))) 0) (congrArg (upd (upd (upd bv 0 (x - (gf 0))) 1 (y - (gf 1))) 2 (z - (gf 2))) (show Int32.toNatClampNeg 0 = 0 by decide)) ?_
    refine lv_aload_n hx hb dX1_walk_76 rfl (lv_at hl 1 rfl) ?_
    refine va_get (D := (dC, dI)) (ci := 1) (v := .ref qb) (C := RX1) (T := TX1) (N := 4) hx hb hts hiX1 hown hK hP 0 rfl rfl 1 (by decide) (hts (.fieldLink RX1 15 "TickWalks$Line" "by" "[I") (List.mem_of_getElem? (l := wsX1_walk) (i := 2) rfl)) (fun _ h9 => h9) rfl dX1_walk_77 ?_
    refine lv_iconst (v := 1) hx hb dX1_walk_80 (by decide) ?_
    refine va_iald hx hb hK hP 2 0 rfl rfl (show vp_in 1 3 by unfold vp_in; decide) dX1_walk_81 ?_
    refine ct_topi (y := (upd (upd (upd bv 0 (x - (gf 0))) 1 (y - (gf 1))) 2 (z - (gf 2))) 1) (congrArg (upd (upd (upd bv 0 (x - (gf 0))) 1 (y - (gf 1))) 2 (z - (gf 2))) (show Int32.toNatClampNeg 1 = 1 by decide)) ?_
    refine lv_aload_n hx hb dX1_walk_82 rfl (lv_at hl 1 rfl) ?_
    refine va_get (D := (dC, dI)) (ci := 1) (v := .ref qb) (C := RX1) (T := TX1) (N := 4) hx hb hts hiX1 hown hK hP 0 rfl rfl 1 (by decide) (hts (.fieldLink RX1 15 "TickWalks$Line" "by" "[I") (List.mem_of_getElem? (l := wsX1_walk) (i := 2) rfl)) (fun _ h9 => h9) rfl dX1_walk_83 ?_
    refine lv_iconst (v := 2) hx hb dX1_walk_86 (by decide) ?_
    refine va_iald hx hb hK hP 2 0 rfl rfl (show vp_in 2 3 by unfold vp_in; decide) dX1_walk_87 ?_
    refine ct_topi (y := (upd (upd (upd bv 0 (x - (gf 0))) 1 (y - (gf 1))) 2 (z - (gf 2))) 2) (congrArg (upd (upd (upd bv 0 (x - (gf 0))) 1 (y - (gf 1))) 2 (z - (gf 2))) (show Int32.toNatClampNeg 2 = 2 by decide)) ?_
    refine ct_calli (va_runSN (As := [.int ((upd (upd (upd bv 0 (x - (gf 0))) 1 (y - (gf 1))) 2 (z - (gf 2))) 0), .int ((upd (upd (upd bv 0 (x - (gf 0))) 1 (y - (gf 1))) 2 (z - (gf 2))) 1), .int ((upd (upd (upd bv 0 (x - (gf 0))) 1 (y - (gf 1))) 2 (z - (gf 2))) 2)]) (rest := [.ref h0]) ⟨hx, hb, hml, hown, hts⟩ (ct_greatest l dC dI cA cB H.size ((upd (upd (upd bv 0 (x - (gf 0))) 1 (y - (gf 1))) 2 (z - (gf 2))) 0) ((upd (upd (upd bv 0 (x - (gf 0))) 1 (y - (gf 1))) 2 (z - (gf 2))) 1) ((upd (upd (upd bv 0 (x - (gf 0))) 1 (y - (gf 1))) 2 (z - (gf 2))) 2) ) ⟨va_cnB (host := "TickWalks") 3 hts gX1_walk_X3_greatestAmount_n25 rfl rfl rfl hN.2.2.2.2.1 (hts (.initialized RX3) (List.mem_of_getElem? (l := wsX1_walk) (i := 6) rfl)) (by decide +kernel) ⟨Nat.le_of_ble_eq_true rfl, Nat.le_of_ble_eq_true rfl⟩, (hts (.static yX3_greatestAmount) (List.mem_of_getElem? (l := wsX1_walk) (i := 5) rfl)), trivial⟩ ⟨ct_blind, ct_pre hP hD hK hZ hN hS hA [] rfl (by decide)⟩ rfl rfl hl.1 rfl (lv_room (Nat.le_of_ble_eq_true rfl)) dX1_walk_88 ⟨Nat.le_of_ble_eq_true rfl, Nat.le_of_ble_eq_true rfl⟩) hP hD hS hA [] [0, 1, 2, 3] rfl (wr := [(h0, .inr (1, [.ref qf, .ref qb, .int ln, .int sr])), (qf, .inl (cA, 3, .inl gf)), (qb, .inl (cA, 3, .inl (upd (upd (upd bv 0 (x - (gf 0))) 1 (y - (gf 1))) 2 (z - (gf 2))))), (qs, .inl (cA, 3, .inl sv))]) rfl (by decide) (by decide) (fun r_1 u9 H locs hw_1 hP hD hS => ?_)
    have hw_1 : r_1 = ga_m ((upd (upd (upd bv 0 (x - (gf 0))) 1 (y - (gf 1))) 2 (z - (gf 2))) 0) ((upd (upd (upd bv 0 (x - (gf 0))) 1 (y - (gf 1))) 2 (z - (gf 2))) 1) ((upd (upd (upd bv 0 (x - (gf 0))) 1 (y - (gf 1))) 2 (z - (gf 2))) 2) := hw_1
    have hP : va_P (dC, dI) vwCl [(h0, .inr (1, [.ref qf, .ref qb, .int ln, .int sr])), (qf, .inl (cA, 3, .inl gf)), (qb, .inl (cA, 3, .inl (upd (upd (upd bv 0 (x - (gf 0))) 1 (y - (gf 1))) 2 (z - (gf 2))))), (qs, .inl (cA, 3, .inl sv))] H := hP
    have hD : va_D A [(h0, .inr (1, [.ref qf, .ref qb, .int ln, .int sr])), (qf, .inl (cA, 3, .inl gf)), (qb, .inl (cA, 3, .inl (upd (upd (upd bv 0 (x - (gf 0))) 1 (y - (gf 1))) 2 (z - (gf 2))))), (qs, .inl (cA, 3, .inl sv))] := hD
    refine va_put (D := (dC, dI)) (ci := 1) (v := .int r_1) (ty := .int) (C := RX1) (T := TX1) (N := 4) hx hb hts hiX1 tyX1 tyX1_ok nmX1 hown hK hP hD hS 0 rfl rfl 2 (by decide) (hts (.fieldLink RX1 18 "TickWalks$Line" "length" "I") (List.mem_of_getElem? (l := wsX1_walk) (i := 3) rfl)) (fun _ h9 => h9) rfl (by decide +kernel) rfl rfl (Nat.le_of_ble_eq_true rfl) dX1_walk_91 (fun H locs hP hD hS => ?_)
    have hP : va_P (dC, dI) vwCl [(h0, .inr (1, [.ref qf, .ref qb, .int r_1, .int sr])), (qf, .inl (cA, 3, .inl gf)), (qb, .inl (cA, 3, .inl (upd (upd (upd bv 0 (x - (gf 0))) 1 (y - (gf 1))) 2 (z - (gf 2))))), (qs, .inl (cA, 3, .inl sv))] H := hP
    have hD : va_D A [(h0, .inr (1, [.ref qf, .ref qb, .int r_1, .int sr])), (qf, .inl (cA, 3, .inl gf)), (qb, .inl (cA, 3, .inl (upd (upd (upd bv 0 (x - (gf 0))) 1 (y - (gf 1))) 2 (z - (gf 2))))), (qs, .inl (cA, 3, .inl sv))] := hD
    refine lv_aload_n hx hb dX1_walk_94 rfl (lv_at hl 1 rfl) ?_
    refine lv_iconst (v := -1) hx hb dX1_walk_95 (by decide) ?_
    refine va_put (D := (dC, dI)) (ci := 1) (v := .int (-1)) (ty := .int) (C := RX1) (T := TX1) (N := 4) hx hb hts hiX1 tyX1 tyX1_ok nmX1 hown hK hP hD hS 0 rfl rfl 3 (by decide) (hts (.fieldLink RX1 22 "TickWalks$Line" "strays" "I") (List.mem_of_getElem? (l := wsX1_walk) (i := 4) rfl)) (fun _ h9 => h9) rfl (by decide +kernel) rfl rfl (Nat.le_of_ble_eq_true rfl) dX1_walk_96 (fun H locs hP hD hS => ?_)
    have hP : va_P (dC, dI) vwCl [(h0, .inr (1, [.ref qf, .ref qb, .int r_1, .int (-1)])), (qf, .inl (cA, 3, .inl gf)), (qb, .inl (cA, 3, .inl (upd (upd (upd bv 0 (x - (gf 0))) 1 (y - (gf 1))) 2 (z - (gf 2))))), (qs, .inl (cA, 3, .inl sv))] H := hP
    have hD : va_D A [(h0, .inr (1, [.ref qf, .ref qb, .int r_1, .int (-1)])), (qf, .inl (cA, 3, .inl gf)), (qb, .inl (cA, 3, .inl (upd (upd (upd bv 0 (x - (gf 0))) 1 (y - (gf 1))) 2 (z - (gf 2))))), (qs, .inl (cA, 3, .inl sv))] := hD
    have hP9 := hP.sub (ws' := [(h0, .inr (1, [.ref qf, .ref qb, .int r_1, .int (-1)])), (qf, .inl (cA, 3, .inl gf)), (qb, .inl (cA, 3, .inl (upd (upd (upd bv 0 (x - (gf 0))) 1 (y - (gf 1))) 2 (z - (gf 2))))), (qs, .inl (cA, 3, .inl sv))]) [0, 1, 2, 3] rfl
    have hD9 := hD.sub (ws' := [(h0, .inr (1, [.ref qf, .ref qb, .int r_1, .int (-1)])), (qf, .inl (cA, 3, .inl gf)), (qb, .inl (cA, 3, .inl (upd (upd (upd bv 0 (x - (gf 0))) 1 (y - (gf 1))) 2 (z - (gf 2))))), (qs, .inl (cA, 3, .inl sv))]) [0, 1, 2, 3] (by decide) rfl
    exact W.vret hx hb hr (fun t9 ht9 hW9 => ⟨⟨(gf, upd (upd (upd bv 0 (x - (gf 0))) 1 (y - (gf 1))) 2 (z - (gf 2)), r_1), rfl, ⟨⟨g0, g1, g2⟩, ⟨by rw [← g0]; rfl, by rw [← g1]; rfl, by rw [← g2]; rfl⟩, hw_1⟩, by rw [ht9]; exact hP9, hD9⟩, hS.F ht9⟩) hS.2.2 dX1_walk_99
  · have hlt : i < 3 := by
      rcases Nat.lt_or_ge i 3 with h | h
      · exact h
      · exact absurd (show (3 : Int32) ≤ nI i from nI_le (a := 3) h (by omega)) c_6
    refine lv_aload_n hx hb dX1_walk_9 rfl (lv_at hl 1 rfl) ?_
    refine va_get (D := (dC, dI)) (ci := 1) (v := .ref qf) (C := RX1) (T := TX1) (N := 4) hx hb hts hiX1 hown hK hP 0 rfl rfl 0 (by decide) (hts (.fieldLink RX1 9 "TickWalks$Line" "from" "[I") (List.mem_of_getElem? (l := wsX1_walk) (i := 1) rfl)) (fun _ h9 => h9) rfl dX1_walk_10 ?_
    refine lv_iload hx hb dX1_walk_13 (lv_at hl 0 rfl) ?_
    refine lv_aload_n hx hb dX1_walk_15 rfl (lv_at hl 2 rfl) ?_
    refine lv_iload hx hb dX1_walk_16 (lv_at hl 0 rfl) ?_
    refine va_iald hx hb hK hP 3 0 rfl rfl (vp_in_nI hlt (by decide)) dX1_walk_18 ?_
    refine ct_topi (y := sv i) (congrArg sv (nI_clamp (show i < 2 ^ 31 by omega))) ?_
    refine va_iast hx hb hK hP hD hS 1 0 rfl rfl (vp_in_nI hlt (by decide)) dX1_walk_19 (fun H locs hP hD hS => ?_)
    rw [(nI_clamp (show i < 2 ^ 31 by omega))] at hP hD
    have hP : va_P (dC, dI) vwCl [(h0, .inr (1, [.ref qf, .ref qb, .int ln, .int sr])), (qf, .inl (cA, 3, .inl (upd gf i (sv i)))), (qb, .inl (cA, 3, .inl bv)), (qs, .inl (cA, 3, .inl sv))] H := hP
    have hD : va_D A [(h0, .inr (1, [.ref qf, .ref qb, .int ln, .int sr])), (qf, .inl (cA, 3, .inl (upd gf i (sv i)))), (qb, .inl (cA, 3, .inl bv)), (qs, .inl (cA, 3, .inl sv))] := hD
    refine lv_iinc (v := nI (i + 1)) (lv' := [(5, .int (nI (i + 1))), (0, .ref h0), (1, .ref qs), (2, .int x), (3, .int y), (4, .int z)]) hx hb dX1_walk_20 hl (k := 0) rfl (nI_1 i) (by decide) rfl (fun ls hl => ?_)
    refine lv_goto (tgt := 3) hx hb dX1_walk_23 (by decide) ?_
    exact ih_3 _ ((i + 1), upd gf i (sv i)) _ _ _ (by rw [hn_3]; omega) ⟨rfl, (show i + 1 ≤ 3 by omega), (fun j h => by rcases Nat.lt_or_ge j i with a | a; exact (pk_un (by omega)).trans (hg j a); rw [show j = i by omega]; exact pk_us), (hP.sub [0, 1, 2, 3] rfl), (hD.sub [0, 1, 2, 3] (by decide) rfl), hS, (lv_sub hl [0, 1, 2, 3, 4, 5] rfl)⟩
set_option maxHeartbeats 4000000 in
set_option maxRecDepth 100000 in
/-- Line.length -/
theorem li_length (l : Launch) (dC : Nat → ClassId) (dI : Nat → Nat → Nat) (cA cB : ClassId) (sz : Nat) (h0 : Nat) (qf : Nat) (qb : Nat) (ln : Int32) (sr : Int32) : Met l yX1_length wsX1_length ({ frames := 0, cells := 0, slots := 0, locals := 0 }) (va_Pc [.ref h0] (ct_P dC dI cA cB sz [(h0, .inr (1, [.ref qf, .ref qb, .int ln, .int sr]))])) (va_Qi (fun (r : Int32) (u : Unit) => r = ln) (fun (u : Unit) => ct_B dC dI (va_A [(h0, .inr (1, [.ref qf, .ref qb, .int ln, .int sr]))] sz) [(h0, .inr (1, [.ref qf, .ref qb, .int ln, .int sr]))]) (va_A [(h0, .inr (1, [.ref qf, .ref qb, .int ln, .int sr]))] sz)) 0 0 (va_A [(h0, .inr (1, [.ref qf, .ref qb, .int ln, .int sr]))] sz) := by
  refine Met.ofW (cc := cX1_length) (maxL := 1) (ret := (some .int)) (by decide +kernel) rfl ?_
  intro p e s m args below meth c s₁ B hml hv
  obtain ⟨rfl, hsz, hP, hK, hD0, hZ, hN⟩ := hv
  have hx := B.exec
  have hb := B.bytes
  have hr := B.returns
  have hts := atoms_spec (ws := wsX1_length) B.pre
  have hown : s.vm.findClass RX1 = some m.cls := findClass_of_methodNamed B.named
  have hlocks := B.notSynchronized
  have hiX1 : ∀ w ∈ u_ws RX1 TX1 4, w ∈ wsX1_length := by decide +kernel
  subst hsz
  have hD := hD0.self (sz := s.heap.size)
  generalize hAe : va_A [(h0, .inr (1, [.ref qf, .ref qb, .int ln, .int sr]))] s.heap.size = A at hD hZ ⊢
  have hA : ∀ q : Nat, s.heap.size ≤ q → A q := fun q h => by rw [← hAe]; exact Or.inr h
  have hl := lv_entry ([.ref h0]) (n := 1) (Nat.le_of_ble_eq_true rfl)
  rw [lg_entry_eq]
  generalize (lg_sl ([.ref h0]) ++ List.replicate (1 - (lg_sl ([.ref h0])).length) Slot.unset).toArray = ls at hl ⊢
  have hl : lv_has ls 1 [(0, .ref h0)] := hl
  generalize hHe : s.heap = H at hP ⊢
  have hS : va_S A s.heap H [] := by rw [hHe]; exact va_S.rf
  generalize ([] : List Loc) = locs at hS ⊢
  refine lv_aload_n hx hb dX1_length_0 rfl (lv_at hl 0 rfl) ?_
  refine va_get (D := (dC, dI)) (ci := 1) (v := .int ln) (C := RX1) (T := TX1) (N := 4) hx hb hts hiX1 hown hK hP 0 rfl rfl 2 (by decide) (hts (.fieldLink RX1 18 "TickWalks$Line" "length" "I") (List.mem_of_getElem? (l := wsX1_length) (i := 1) rfl)) (fun _ h9 => h9) rfl dX1_length_1 ?_
  have hP9 := hP.sub (ws' := [(h0, .inr (1, [.ref qf, .ref qb, .int ln, .int sr]))]) [0] rfl
  have hD9 := hD.sub (ws' := [(h0, .inr (1, [.ref qf, .ref qb, .int ln, .int sr]))]) [0] (by decide) rfl
  exact W.iret (v := ln) hx hb hr (fun t9 ht9 hW9 => ⟨⟨ln, (), rfl, rfl, by rw [ht9]; exact hP9, hD9⟩, hS.F ht9⟩) hS.2.2 dX1_length_4
set_option maxHeartbeats 4000000 in
set_option maxRecDepth 100000 in
/-- Line.greatestOff -/
theorem li_off (l : Launch) (dC : Nat → ClassId) (dI : Nat → Nat → Nat) (cA cB : ClassId) (sz : Nat) (h0 : Nat) (qf : Nat) (qb : Nat) (ln : Int32) (sr : Int32) : Met l yX1_greatestOff wsX1_greatestOff ({ frames := 0, cells := 0, slots := 0, locals := 0 }) (va_Pc [.ref h0] (ct_P dC dI cA cB sz [(h0, .inr (1, [.ref qf, .ref qb, .int ln, .int sr]))])) (va_Qi (fun (r : Int32) (u : Unit) => r = 0) (fun (u : Unit) => ct_B dC dI (va_A [(h0, .inr (1, [.ref qf, .ref qb, .int ln, .int sr]))] sz) [(h0, .inr (1, [.ref qf, .ref qb, .int ln, .int sr]))]) (va_A [(h0, .inr (1, [.ref qf, .ref qb, .int ln, .int sr]))] sz)) 0 0 (va_A [(h0, .inr (1, [.ref qf, .ref qb, .int ln, .int sr]))] sz) := by
  refine Met.ofW (cc := cX1_greatestOff) (maxL := 1) (ret := (some .int)) (by decide +kernel) rfl ?_
  intro p e s m args below meth c s₁ B hml hv
  obtain ⟨rfl, hsz, hP, hK, hD0, hZ, hN⟩ := hv
  have hx := B.exec
  have hb := B.bytes
  have hr := B.returns
  have hts := atoms_spec (ws := wsX1_greatestOff) B.pre
  have hown : s.vm.findClass RX1 = some m.cls := findClass_of_methodNamed B.named
  have hlocks := B.notSynchronized
  subst hsz
  have hD := hD0.self (sz := s.heap.size)
  generalize hAe : va_A [(h0, .inr (1, [.ref qf, .ref qb, .int ln, .int sr]))] s.heap.size = A at hD hZ ⊢
  have hA : ∀ q : Nat, s.heap.size ≤ q → A q := fun q h => by rw [← hAe]; exact Or.inr h
  have hl := lv_entry ([.ref h0]) (n := 1) (Nat.le_of_ble_eq_true rfl)
  rw [lg_entry_eq]
  generalize (lg_sl ([.ref h0]) ++ List.replicate (1 - (lg_sl ([.ref h0])).length) Slot.unset).toArray = ls at hl ⊢
  have hl : lv_has ls 1 [(0, .ref h0)] := hl
  generalize hHe : s.heap = H at hP ⊢
  have hS : va_S A s.heap H [] := by rw [hHe]; exact va_S.rf
  generalize ([] : List Loc) = locs at hS ⊢
  refine lv_iconst (v := 0) hx hb dX1_greatestOff_0 (by decide) ?_
  have hP9 := hP.sub (ws' := [(h0, .inr (1, [.ref qf, .ref qb, .int ln, .int sr]))]) [0] rfl
  have hD9 := hD.sub (ws' := [(h0, .inr (1, [.ref qf, .ref qb, .int ln, .int sr]))]) [0] (by decide) rfl
  exact W.iret (v := 0) hx hb hr (fun t9 ht9 hW9 => ⟨⟨0, (), rfl, rfl, by rw [ht9]; exact hP9, hD9⟩, hS.F ht9⟩) hS.2.2 dX1_greatestOff_1
set_option maxHeartbeats 4000000 in
set_option maxRecDepth 100000 in
/-- Line.placeBehind -/
theorem li_place (l : Launch) (dC : Nat → ClassId) (dI : Nat → Nat → Nat) (cA cB : ClassId) (sz : Nat) (h0 : Nat) (qf : Nat) (qb : Nat) (ln : Int32) (sr : Int32) (fv : Nat → Int32) (bv : Nat → Int32) (k : Int32) (a : Nat) (ha : a < 3) : Met l yX1_placeBehind wsX1_placeBehind ({ frames := 1, cells := 0, slots := 0, locals := 30 }) (va_Pc [.ref h0, .int k, .int (nI a)] (ct_P dC dI cA cB sz [(h0, .inr (1, [.ref qf, .ref qb, .int ln, .int sr])), (qf, .inl (cA, 3, .inl fv)), (qb, .inl (cA, 3, .inl bv))])) (va_Qi (fun (r : Int32) (u : Unit) => r = ln_p (fv a) (bv a) ln k) (fun (u : Unit) => ct_B dC dI (va_A [(h0, .inr (1, [.ref qf, .ref qb, .int ln, .int sr])), (qf, .inl (cA, 3, .inl fv)), (qb, .inl (cA, 3, .inl bv))] sz) [(h0, .inr (1, [.ref qf, .ref qb, .int ln, .int sr])), (qf, .inl (cA, 3, .inl fv)), (qb, .inl (cA, 3, .inl bv))]) (va_A [(h0, .inr (1, [.ref qf, .ref qb, .int ln, .int sr])), (qf, .inl (cA, 3, .inl fv)), (qb, .inl (cA, 3, .inl bv))] sz)) 0 0 (va_A [(h0, .inr (1, [.ref qf, .ref qb, .int ln, .int sr])), (qf, .inl (cA, 3, .inl fv)), (qb, .inl (cA, 3, .inl bv))] sz) := by
  refine Met.ofW (cc := cX1_placeBehind) (maxL := 5) (ret := (some .int)) (by decide +kernel) rfl ?_
  intro p e s m args below meth c s₁ B hml hv
  obtain ⟨rfl, hsz, hP, hK, hD0, hZ, hN⟩ := hv
  have hx := B.exec
  have hb := B.bytes
  have hr := B.returns
  have hts := atoms_spec (ws := wsX1_placeBehind) B.pre
  have hown : s.vm.findClass RX1 = some m.cls := findClass_of_methodNamed B.named
  have hlocks := B.notSynchronized
  have hiX1 : ∀ w ∈ u_ws RX1 TX1 4, w ∈ wsX1_placeBehind := by decide +kernel
  subst hsz
  have hD := hD0.self (sz := s.heap.size)
  generalize hAe : va_A [(h0, .inr (1, [.ref qf, .ref qb, .int ln, .int sr])), (qf, .inl (cA, 3, .inl fv)), (qb, .inl (cA, 3, .inl bv))] s.heap.size = A at hD hZ ⊢
  have hA : ∀ q : Nat, s.heap.size ≤ q → A q := fun q h => by rw [← hAe]; exact Or.inr h
  have hl := lv_entry ([.ref h0, .int k, .int (nI a)]) (n := 5) (Nat.le_of_ble_eq_true rfl)
  rw [lg_entry_eq]
  generalize (lg_sl ([.ref h0, .int k, .int (nI a)]) ++ List.replicate (5 - (lg_sl ([.ref h0, .int k, .int (nI a)])).length) Slot.unset).toArray = ls at hl ⊢
  have hl : lv_has ls 5 [(0, .ref h0), (1, .int k), (2, .int (nI a))] := hl
  generalize hHe : s.heap = H at hP ⊢
  have hS : va_S A s.heap H [] := by rw [hHe]; exact va_S.rf
  generalize ([] : List Loc) = locs at hS ⊢
  refine lv_aload_n hx hb dX1_placeBehind_0 rfl (lv_at hl 0 rfl) ?_
  refine va_get (D := (dC, dI)) (ci := 1) (v := .int ln) (C := RX1) (T := TX1) (N := 4) hx hb hts hiX1 hown hK hP 0 rfl rfl 2 (by decide) (hts (.fieldLink RX1 18 "TickWalks$Line" "length" "I") (List.mem_of_getElem? (l := wsX1_placeBehind) (i := 1) rfl)) (fun _ h9 => h9) rfl dX1_placeBehind_1 ?_
  refine lv_if_ne (tgt := 14) hx hb dX1_placeBehind_4 (by decide) (fun c_4 => ?_) (fun c_4 => ?_)
  · refine lv_aload_n hx hb dX1_placeBehind_14 rfl (lv_at hl 0 rfl) ?_
    refine va_get (D := (dC, dI)) (ci := 1) (v := .int ln) (C := RX1) (T := TX1) (N := 4) hx hb hts hiX1 hown hK hP 0 rfl rfl 2 (by decide) (hts (.fieldLink RX1 18 "TickWalks$Line" "length" "I") (List.mem_of_getElem? (l := wsX1_placeBehind) (i := 1) rfl)) (fun _ h9 => h9) rfl dX1_placeBehind_15 ?_
    refine lv_i2l hx hb dX1_placeBehind_18 rfl ?_
    refine lv_lstore_n (lv' := [(3, .long ln.toInt64), (0, .ref h0), (1, .int k), (2, .int (nI a))]) hx hb dX1_placeBehind_19 rfl hl (by decide) rfl (fun ls hl => ?_)
    refine lv_aload_n hx hb dX1_placeBehind_20 rfl (lv_at hl 1 rfl) ?_
    refine va_get (D := (dC, dI)) (ci := 1) (v := .ref qf) (C := RX1) (T := TX1) (N := 4) hx hb hts hiX1 hown hK hP 0 rfl rfl 0 (by decide) (hts (.fieldLink RX1 9 "TickWalks$Line" "from" "[I") (List.mem_of_getElem? (l := wsX1_placeBehind) (i := 2) rfl)) (fun _ h9 => h9) rfl dX1_placeBehind_21 ?_
    refine lv_iload_n hx hb dX1_placeBehind_24 rfl (lv_at hl 3 rfl) ?_
    refine va_iald hx hb hK hP 1 0 rfl rfl (vp_in_nI ha (by decide)) dX1_placeBehind_25 ?_
    refine ct_topi (y := fv a) (congrArg fv (nI_clamp (show a < 2 ^ 31 by omega))) ?_
    refine lv_ldc2 (v := 2) hx hb hown (hts (.constantLong RX1 29 (2)) (List.mem_of_getElem? (l := wsX1_placeBehind) (i := 3) rfl)) dX1_placeBehind_26 ?_
    refine lv_aload_n hx hb dX1_placeBehind_29 rfl (lv_at hl 1 rfl) ?_
    refine va_get (D := (dC, dI)) (ci := 1) (v := .ref qb) (C := RX1) (T := TX1) (N := 4) hx hb hts hiX1 hown hK hP 0 rfl rfl 1 (by decide) (hts (.fieldLink RX1 15 "TickWalks$Line" "by" "[I") (List.mem_of_getElem? (l := wsX1_placeBehind) (i := 4) rfl)) (fun _ h9 => h9) rfl dX1_placeBehind_30 ?_
    refine lv_iload_n hx hb dX1_placeBehind_33 rfl (lv_at hl 3 rfl) ?_
    refine va_iald hx hb hK hP 2 0 rfl rfl (vp_in_nI ha (by decide)) dX1_placeBehind_34 ?_
    refine ct_topi (y := bv a) (congrArg bv (nI_clamp (show a < 2 ^ 31 by omega))) ?_
    refine lv_i2l hx hb dX1_placeBehind_35 rfl ?_
    refine lv_lmul hx hb dX1_placeBehind_36 ?_
    refine lv_iload_n hx hb dX1_placeBehind_37 rfl (lv_at hl 2 rfl) ?_
    refine lv_i2l hx hb dX1_placeBehind_38 rfl ?_
    refine lv_lmul hx hb dX1_placeBehind_39 ?_
    refine lv_lload_n hx hb dX1_placeBehind_40 rfl (lv_at hl 0 rfl) ?_
    refine lv_ladd hx hb dX1_placeBehind_41 ?_
    refine lv_ldc2 (v := 2) hx hb hown (hts (.constantLong RX1 29 (2)) (List.mem_of_getElem? (l := wsX1_placeBehind) (i := 3) rfl)) dX1_placeBehind_42 ?_
    refine lv_lload_n hx hb dX1_placeBehind_45 rfl (lv_at hl 0 rfl) ?_
    refine lv_lmul hx hb dX1_placeBehind_46 ?_
    refine ct_calll (va_runS (As := [.long (((2 * ((bv a).toInt64)) * k.toInt64) + ln.toInt64), .long (2 * ln.toInt64)]) (rest := [.int (fv a)]) ⟨hx, hb, hml, hown, hts⟩ (ma_floorDiv l dC dI cA cB H.size (((2 * ((bv a).toInt64)) * k.toInt64) + ln.toInt64) (2 * ln.toInt64) (ne_2l c_4)) (va_cwS 2 hts gX1_placeBehind_J9_floorDiv_f86c9 rfl rfl rfl (by decide +kernel) ⟨Nat.le_of_ble_eq_true rfl, Nat.le_of_ble_eq_true rfl⟩) ⟨ct_blind, ct_pre hP hD hK hZ hN hS hA [] rfl (by decide)⟩ rfl rfl hl.1 rfl (lv_room (Nat.le_of_ble_eq_true rfl)) dX1_placeBehind_47 ⟨Nat.le_of_ble_eq_true rfl, Nat.le_of_ble_eq_true rfl⟩) hP hD hS hA [] [0, 1, 2] rfl (wr := [(h0, .inr (1, [.ref qf, .ref qb, .int ln, .int sr])), (qf, .inl (cA, 3, .inl fv)), (qb, .inl (cA, 3, .inl bv))]) rfl (by decide) (by decide) (fun r_1 u9 H locs hw_1 hP hD hS => ?_)
    have hw_1 : r_1 = fd_f (((2 * ((bv a).toInt64)) * k.toInt64) + ln.toInt64) (2 * ln.toInt64) := hw_1
    have hP : va_P (dC, dI) vwCl [(h0, .inr (1, [.ref qf, .ref qb, .int ln, .int sr])), (qf, .inl (cA, 3, .inl fv)), (qb, .inl (cA, 3, .inl bv))] H := hP
    have hD : va_D A [(h0, .inr (1, [.ref qf, .ref qb, .int ln, .int sr])), (qf, .inl (cA, 3, .inl fv)), (qb, .inl (cA, 3, .inl bv))] := hD
    refine lv_l2i hx hb dX1_placeBehind_50 rfl ?_
    refine lv_iadd hx hb dX1_placeBehind_51 ?_
    have hP9 := hP.sub (ws' := [(h0, .inr (1, [.ref qf, .ref qb, .int ln, .int sr])), (qf, .inl (cA, 3, .inl fv)), (qb, .inl (cA, 3, .inl bv))]) [0, 1, 2] rfl
    have hD9 := hD.sub (ws' := [(h0, .inr (1, [.ref qf, .ref qb, .int ln, .int sr])), (qf, .inl (cA, 3, .inl fv)), (qb, .inl (cA, 3, .inl bv))]) [0, 1, 2] (by decide) rfl
    exact W.iret (v := (fv a) + r_1.toInt32) hx hb hr (fun t9 ht9 hW9 => ⟨⟨(fv a) + r_1.toInt32, (), rfl, (by unfold ln_p; rw [if_neg c_4, hw_1]), by rw [ht9]; exact hP9, hD9⟩, hS.F ht9⟩) hS.2.2 dX1_placeBehind_52
  · refine lv_aload_n hx hb dX1_placeBehind_7 rfl (lv_at hl 0 rfl) ?_
    refine va_get (D := (dC, dI)) (ci := 1) (v := .ref qf) (C := RX1) (T := TX1) (N := 4) hx hb hts hiX1 hown hK hP 0 rfl rfl 0 (by decide) (hts (.fieldLink RX1 9 "TickWalks$Line" "from" "[I") (List.mem_of_getElem? (l := wsX1_placeBehind) (i := 2) rfl)) (fun _ h9 => h9) rfl dX1_placeBehind_8 ?_
    refine lv_iload_n hx hb dX1_placeBehind_11 rfl (lv_at hl 2 rfl) ?_
    refine va_iald hx hb hK hP 1 0 rfl rfl (vp_in_nI ha (by decide)) dX1_placeBehind_12 ?_
    refine ct_topi (y := fv a) (congrArg fv (nI_clamp (show a < 2 ^ 31 by omega))) ?_
    have hP9 := hP.sub (ws' := [(h0, .inr (1, [.ref qf, .ref qb, .int ln, .int sr])), (qf, .inl (cA, 3, .inl fv)), (qb, .inl (cA, 3, .inl bv))]) [0, 1, 2] rfl
    have hD9 := hD.sub (ws' := [(h0, .inr (1, [.ref qf, .ref qb, .int ln, .int sr])), (qf, .inl (cA, 3, .inl fv)), (qb, .inl (cA, 3, .inl bv))]) [0, 1, 2] (by decide) rfl
    exact W.iret (v := fv a) hx hb hr (fun t9 ht9 hW9 => ⟨⟨fv a, (), rfl, (by unfold ln_p; rw [if_pos c_4]), by rw [ht9]; exact hP9, hD9⟩, hS.F ht9⟩) hS.2.2 dX1_placeBehind_13
set_option maxHeartbeats 4000000 in
set_option maxRecDepth 100000 in
/-- Line.countStrays -/
theorem li_count (l : Launch) (dC : Nat → ClassId) (dI : Nat → Nat → Nat) (cA cB : ClassId) (sz : Nat) (h0 : Nat) (qf : Nat) (qb : Nat) (ln : Int32) (sr : Int32) (fv : Nat → Int32) (bv : Nat → Int32) (N : Nat) (hN2 : ln = nI N ∧ N < 1000000) : Met l yX1_countStrays wsX1_countStrays ({ frames := 3, cells := 0, slots := 0, locals := 70 }) (va_Pc [.ref h0] (ct_P dC dI cA cB sz [(h0, .inr (1, [.ref qf, .ref qb, .int ln, .int sr])), (qf, .inl (cA, 3, .inl fv)), (qb, .inl (cA, 3, .inl bv))])) (va_Qi (fun (r : Int32) (u : Unit) => r = ln_c fv bv ln N) (fun (u : Unit) => ct_B dC dI (va_A [(h0, .inr (1, [.ref qf, .ref qb, .int ln, .int sr])), (qf, .inl (cA, 3, .inl fv)), (qb, .inl (cA, 3, .inl bv))] sz) [(h0, .inr (1, [.ref qf, .ref qb, .int ln, .int sr])), (qf, .inl (cA, 3, .inl fv)), (qb, .inl (cA, 3, .inl bv))]) (va_A [(h0, .inr (1, [.ref qf, .ref qb, .int ln, .int sr])), (qf, .inl (cA, 3, .inl fv)), (qb, .inl (cA, 3, .inl bv))] sz)) 0 0 (va_A [(h0, .inr (1, [.ref qf, .ref qb, .int ln, .int sr])), (qf, .inl (cA, 3, .inl fv)), (qb, .inl (cA, 3, .inl bv))] sz) := by
  refine Met.ofW (cc := cX1_countStrays) (maxL := 9) (ret := (some .int)) (by decide +kernel) rfl ?_
  intro p e s m args below meth c s₁ B hml hv
  obtain ⟨rfl, hsz, hP, hK, hD0, hZ, hN⟩ := hv
  have hx := B.exec
  have hb := B.bytes
  have hr := B.returns
  have hts := atoms_spec (ws := wsX1_countStrays) B.pre
  have hown : s.vm.findClass RX1 = some m.cls := findClass_of_methodNamed B.named
  have hlocks := B.notSynchronized
  have hiX1 : ∀ w ∈ u_ws RX1 TX1 4, w ∈ wsX1_countStrays := by decide +kernel
  subst hsz
  have hD := hD0.self (sz := s.heap.size)
  generalize hAe : va_A [(h0, .inr (1, [.ref qf, .ref qb, .int ln, .int sr])), (qf, .inl (cA, 3, .inl fv)), (qb, .inl (cA, 3, .inl bv))] s.heap.size = A at hD hZ ⊢
  have hA : ∀ q : Nat, s.heap.size ≤ q → A q := fun q h => by rw [← hAe]; exact Or.inr h
  have hl := lv_entry ([.ref h0]) (n := 9) (Nat.le_of_ble_eq_true rfl)
  rw [lg_entry_eq]
  generalize (lg_sl ([.ref h0]) ++ List.replicate (9 - (lg_sl ([.ref h0])).length) Slot.unset).toArray = ls at hl ⊢
  have hl : lv_has ls 9 [(0, .ref h0)] := hl
  generalize hHe : s.heap = H at hP ⊢
  have hS : va_S A s.heap H [] := by rw [hHe]; exact va_S.rf
  generalize ([] : List Loc) = locs at hS ⊢
  refine lv_iconst (v := 0) hx hb dX1_countStrays_0 (by decide) ?_
  refine lv_istore_n (lv' := [(1, .int 0), (0, .ref h0)]) hx hb dX1_countStrays_1 rfl hl (by decide) rfl (fun ls hl => ?_)
  refine lv_aload_n hx hb dX1_countStrays_2 rfl (lv_at hl 1 rfl) ?_
  refine va_get (D := (dC, dI)) (ci := 1) (v := .ref qf) (C := RX1) (T := TX1) (N := 4) hx hb hts hiX1 hown hK hP 0 rfl rfl 0 (by decide) (hts (.fieldLink RX1 9 "TickWalks$Line" "from" "[I") (List.mem_of_getElem? (l := wsX1_countStrays) (i := 1) rfl)) (fun _ h9 => h9) rfl dX1_countStrays_3 ?_
  refine lv_iconst (v := 0) hx hb dX1_countStrays_6 (by decide) ?_
  refine va_iald hx hb hK hP 1 0 rfl rfl (show vp_in 0 3 by unfold vp_in; decide) dX1_countStrays_7 ?_
  refine ct_topi (y := fv 0) (congrArg fv (show Int32.toNatClampNeg 0 = 0 by decide)) ?_
  refine lv_istore_n (lv' := [(2, .int (fv 0)), (1, .int 0), (0, .ref h0)]) hx hb dX1_countStrays_8 rfl hl (by decide) rfl (fun ls hl => ?_)
  refine lv_aload_n hx hb dX1_countStrays_9 rfl (lv_at hl 2 rfl) ?_
  refine va_get (D := (dC, dI)) (ci := 1) (v := .ref qf) (C := RX1) (T := TX1) (N := 4) hx hb hts hiX1 hown hK hP 0 rfl rfl 0 (by decide) (hts (.fieldLink RX1 9 "TickWalks$Line" "from" "[I") (List.mem_of_getElem? (l := wsX1_countStrays) (i := 1) rfl)) (fun _ h9 => h9) rfl dX1_countStrays_10 ?_
  refine lv_iconst (v := 1) hx hb dX1_countStrays_13 (by decide) ?_
  refine va_iald hx hb hK hP 1 0 rfl rfl (show vp_in 1 3 by unfold vp_in; decide) dX1_countStrays_14 ?_
  refine ct_topi (y := fv 1) (congrArg fv (show Int32.toNatClampNeg 1 = 1 by decide)) ?_
  refine lv_istore_n (lv' := [(3, .int (fv 1)), (2, .int (fv 0)), (1, .int 0), (0, .ref h0)]) hx hb dX1_countStrays_15 rfl hl (by decide) rfl (fun ls hl => ?_)
  refine lv_aload_n hx hb dX1_countStrays_16 rfl (lv_at hl 3 rfl) ?_
  refine va_get (D := (dC, dI)) (ci := 1) (v := .ref qf) (C := RX1) (T := TX1) (N := 4) hx hb hts hiX1 hown hK hP 0 rfl rfl 0 (by decide) (hts (.fieldLink RX1 9 "TickWalks$Line" "from" "[I") (List.mem_of_getElem? (l := wsX1_countStrays) (i := 1) rfl)) (fun _ h9 => h9) rfl dX1_countStrays_17 ?_
  refine lv_iconst (v := 2) hx hb dX1_countStrays_20 (by decide) ?_
  refine va_iald hx hb hK hP 1 0 rfl rfl (show vp_in 2 3 by unfold vp_in; decide) dX1_countStrays_21 ?_
  refine ct_topi (y := fv 2) (congrArg fv (show Int32.toNatClampNeg 2 = 2 by decide)) ?_
  refine lv_istore (lv' := [(4, .int (fv 2)), (3, .int (fv 1)), (2, .int (fv 0)), (1, .int 0), (0, .ref h0)]) hx hb dX1_countStrays_22 hl (by decide) rfl (fun ls hl => ?_)
  refine lv_iconst (v := 1) hx hb dX1_countStrays_24 (by decide) ?_
  refine lv_istore (lv' := [(5, .int 1), (4, .int (fv 2)), (3, .int (fv 1)), (2, .int (fv 0)), (1, .int 0), (0, .ref h0)]) hx hb dX1_countStrays_25 hl (by decide) rfl (fun ls hl => ?_)
  refine ct_loop (σ := Nat × Int32 × Int32 × Int32 × Int32) (fun n9 w9 H locs ls => n9 = N + 1 - w9.1 ∧ (1 ≤ w9.1 ∧ w9.1 ≤ N + 1) ∧ (w9.2.1 = ln_c fv bv ln (w9.1 - 1)) ∧ (w9.2.2.1 = ln_q (fv 0) (bv 0) ln (w9.1 - 1)) ∧ (w9.2.2.2.1 = ln_q (fv 1) (bv 1) ln (w9.1 - 1)) ∧ (w9.2.2.2.2 = ln_q (fv 2) (bv 2) ln (w9.1 - 1)) ∧ va_P (dC, dI) vwCl [(h0, .inr (1, [.ref qf, .ref qb, .int ln, .int sr])), (qf, .inl (cA, 3, .inl fv)), (qb, .inl (cA, 3, .inl bv))] H ∧ va_D A [(h0, .inr (1, [.ref qf, .ref qb, .int ln, .int sr])), (qf, .inl (cA, 3, .inl fv)), (qb, .inl (cA, 3, .inl bv))] ∧ va_S A s.heap H locs ∧ lv_has ls 9 [(5, .int (nI w9.1)), (0, .ref h0), (1, .int w9.2.1), (2, .int w9.2.2.1), (3, .int w9.2.2.2.1), (4, .int w9.2.2.2.2)]) (fun n9 w9 H locs ls hJ ih_27 => ?_) (N + 1 - 1) (1, 0, fv 0, fv 1, fv 2) _ _ _ ⟨rfl, (⟨Nat.le_refl 1, by omega⟩), rfl, rfl, rfl, rfl, (hP.sub [0, 1, 2] rfl), (hD.sub [0, 1, 2] (by decide) rfl), hS, (lv_sub hl [0, 5, 4, 3, 2, 1] rfl)⟩
  obtain ⟨i, ct0, vx, vy, vz⟩ := w9
  obtain ⟨hn_27, hi, hc, hvx, hvy, hvz, hP, hD, hS, hl⟩ := hJ
  have hn_27 : n9 = N + 1 - i := hn_27
  have hi : 1 ≤ i ∧ i ≤ N + 1 := hi
  have hc : ct0 = ln_c fv bv ln (i - 1) := hc
  have hvx : vx = ln_q (fv 0) (bv 0) ln (i - 1) := hvx
  have hvy : vy = ln_q (fv 1) (bv 1) ln (i - 1) := hvy
  have hvz : vz = ln_q (fv 2) (bv 2) ln (i - 1) := hvz
  have hP : va_P (dC, dI) vwCl [(h0, .inr (1, [.ref qf, .ref qb, .int ln, .int sr])), (qf, .inl (cA, 3, .inl fv)), (qb, .inl (cA, 3, .inl bv))] H := hP
  have hD : va_D A [(h0, .inr (1, [.ref qf, .ref qb, .int ln, .int sr])), (qf, .inl (cA, 3, .inl fv)), (qb, .inl (cA, 3, .inl bv))] := hD
  have hl : lv_has ls 9 [(5, .int (nI i)), (0, .ref h0), (1, .int ct0), (2, .int vx), (3, .int vy), (4, .int vz)] := hl
  refine lv_iload hx hb dX1_countStrays_27 (lv_at hl 0 rfl) ?_
  refine lv_aload_n hx hb dX1_countStrays_29 rfl (lv_at hl 1 rfl) ?_
  refine va_get (D := (dC, dI)) (ci := 1) (v := .int ln) (C := RX1) (T := TX1) (N := 4) hx hb hts hiX1 hown hK hP 0 rfl rfl 2 (by decide) (hts (.fieldLink RX1 18 "TickWalks$Line" "length" "I") (List.mem_of_getElem? (l := wsX1_countStrays) (i := 2) rfl)) (fun _ h9 => h9) rfl dX1_countStrays_30 ?_
  refine lv_icmp_gt (tgt := 101) hx hb dX1_countStrays_33 (by decide) (fun c_33 => ?_) (fun c_33 => ?_)
  · refine lv_iload_n hx hb dX1_countStrays_101 rfl (lv_at hl 2 rfl) ?_
    have hP9 := hP.sub (ws' := [(h0, .inr (1, [.ref qf, .ref qb, .int ln, .int sr])), (qf, .inl (cA, 3, .inl fv)), (qb, .inl (cA, 3, .inl bv))]) [0, 1, 2] rfl
    have hD9 := hD.sub (ws' := [(h0, .inr (1, [.ref qf, .ref qb, .int ln, .int sr])), (qf, .inl (cA, 3, .inl fv)), (qb, .inl (cA, 3, .inl bv))]) [0, 1, 2] (by decide) rfl
    exact W.iret (v := ct0) hx hb hr (fun t9 ht9 hW9 => ⟨⟨ct0, (), rfl, li_end hN2 hi c_33 hc, by rw [ht9]; exact hP9, hD9⟩, hS.F ht9⟩) hS.2.2 dX1_countStrays_102
  · have hle : i ≤ N := by
      rcases Nat.lt_or_ge N i with h | h
      · exact absurd (show ln < nI i by rw [hN2.1]; exact nI_lt h (by omega)) c_33
      · exact h
    obtain ⟨k, rfl⟩ : ∃ k, i = k + 1 := ⟨i - 1, by omega⟩
    refine lv_aload_n hx hb dX1_countStrays_36 rfl (lv_at hl 1 rfl) ?_
    refine lv_iload hx hb dX1_countStrays_37 (lv_at hl 0 rfl) ?_
    refine lv_iconst (v := 0) hx hb dX1_countStrays_39 (by decide) ?_
    refine ct_topi (y := nI 0) rfl ?_
    refine ct_calli (va_runV (As := [.int (nI (k + 1)), .int (nI 0)]) (rest := []) ⟨hx, hb, hml, hown, hts⟩ (li_place l dC dI cA cB H.size h0 qf qb ln sr fv bv (nI (k + 1)) 0 (by omega)) (cwV 2 hts gX1_countStrays_X1_placeBehind rfl rfl rfl (by decide +kernel) ⟨Nat.le_of_ble_eq_true rfl, Nat.le_of_ble_eq_true rfl⟩) ⟨ct_blind, va_recv hK hP (ci := 1) (q0 := 0) rfl rfl, ct_pre hP hD hK hZ hN hS hA [0, 1, 2] rfl (by decide)⟩ rfl rfl hl.1 rfl (lv_room (Nat.le_of_ble_eq_true rfl)) dX1_countStrays_40 ⟨Nat.le_of_ble_eq_true rfl, Nat.le_of_ble_eq_true rfl⟩) hP hD hS hA [0, 1, 2] [] rfl (wr := []) rfl (by decide) (by decide) (fun r_1 u9 H locs hw_1 hP hD hS => ?_)
    have hw_1 : r_1 = ln_p (fv 0) (bv 0) ln (nI (k + 1)) := hw_1
    have hP : va_P (dC, dI) vwCl [(h0, .inr (1, [.ref qf, .ref qb, .int ln, .int sr])), (qf, .inl (cA, 3, .inl fv)), (qb, .inl (cA, 3, .inl bv))] H := hP
    have hD : va_D A [(h0, .inr (1, [.ref qf, .ref qb, .int ln, .int sr])), (qf, .inl (cA, 3, .inl fv)), (qb, .inl (cA, 3, .inl bv))] := hD
    refine lv_istore (lv' := [(6, .int r_1), (5, .int (nI (k + 1))), (0, .ref h0), (1, .int ct0), (2, .int vx), (3, .int vy), (4, .int vz)]) hx hb dX1_countStrays_43 hl (by decide) rfl (fun ls hl => ?_)
    refine lv_aload_n hx hb dX1_countStrays_45 rfl (lv_at hl 2 rfl) ?_
    refine lv_iload hx hb dX1_countStrays_46 (lv_at hl 1 rfl) ?_
    refine lv_iconst (v := 1) hx hb dX1_countStrays_48 (by decide) ?_
    refine ct_topi (y := nI 1) rfl ?_
    refine ct_calli (va_runV (As := [.int (nI (k + 1)), .int (nI 1)]) (rest := []) ⟨hx, hb, hml, hown, hts⟩ (li_place l dC dI cA cB H.size h0 qf qb ln sr fv bv (nI (k + 1)) 1 (by omega)) (cwV 2 hts gX1_countStrays_X1_placeBehind rfl rfl rfl (by decide +kernel) ⟨Nat.le_of_ble_eq_true rfl, Nat.le_of_ble_eq_true rfl⟩) ⟨ct_blind, va_recv hK hP (ci := 1) (q0 := 0) rfl rfl, ct_pre hP hD hK hZ hN hS hA [0, 1, 2] rfl (by decide)⟩ rfl rfl hl.1 rfl (lv_room (Nat.le_of_ble_eq_true rfl)) dX1_countStrays_49 ⟨Nat.le_of_ble_eq_true rfl, Nat.le_of_ble_eq_true rfl⟩) hP hD hS hA [0, 1, 2] [] rfl (wr := []) rfl (by decide) (by decide) (fun r_2 u9 H locs hw_2 hP hD hS => ?_)
    have hw_2 : r_2 = ln_p (fv 1) (bv 1) ln (nI (k + 1)) := hw_2
    have hP : va_P (dC, dI) vwCl [(h0, .inr (1, [.ref qf, .ref qb, .int ln, .int sr])), (qf, .inl (cA, 3, .inl fv)), (qb, .inl (cA, 3, .inl bv))] H := hP
    have hD : va_D A [(h0, .inr (1, [.ref qf, .ref qb, .int ln, .int sr])), (qf, .inl (cA, 3, .inl fv)), (qb, .inl (cA, 3, .inl bv))] := hD
    refine lv_istore (lv' := [(7, .int r_2), (6, .int r_1), (5, .int (nI (k + 1))), (0, .ref h0), (1, .int ct0), (2, .int vx), (3, .int vy), (4, .int vz)]) hx hb dX1_countStrays_52 hl (by decide) rfl (fun ls hl => ?_)
    refine lv_aload_n hx hb dX1_countStrays_54 rfl (lv_at hl 3 rfl) ?_
    refine lv_iload hx hb dX1_countStrays_55 (lv_at hl 2 rfl) ?_
    refine lv_iconst (v := 2) hx hb dX1_countStrays_57 (by decide) ?_
    refine ct_topi (y := nI 2) rfl ?_
    refine ct_calli (va_runV (As := [.int (nI (k + 1)), .int (nI 2)]) (rest := []) ⟨hx, hb, hml, hown, hts⟩ (li_place l dC dI cA cB H.size h0 qf qb ln sr fv bv (nI (k + 1)) 2 (by omega)) (cwV 2 hts gX1_countStrays_X1_placeBehind rfl rfl rfl (by decide +kernel) ⟨Nat.le_of_ble_eq_true rfl, Nat.le_of_ble_eq_true rfl⟩) ⟨ct_blind, va_recv hK hP (ci := 1) (q0 := 0) rfl rfl, ct_pre hP hD hK hZ hN hS hA [0, 1, 2] rfl (by decide)⟩ rfl rfl hl.1 rfl (lv_room (Nat.le_of_ble_eq_true rfl)) dX1_countStrays_58 ⟨Nat.le_of_ble_eq_true rfl, Nat.le_of_ble_eq_true rfl⟩) hP hD hS hA [0, 1, 2] [] rfl (wr := []) rfl (by decide) (by decide) (fun r_3 u9 H locs hw_3 hP hD hS => ?_)
    have hw_3 : r_3 = ln_p (fv 2) (bv 2) ln (nI (k + 1)) := hw_3
    have hP : va_P (dC, dI) vwCl [(h0, .inr (1, [.ref qf, .ref qb, .int ln, .int sr])), (qf, .inl (cA, 3, .inl fv)), (qb, .inl (cA, 3, .inl bv))] H := hP
    have hD : va_D A [(h0, .inr (1, [.ref qf, .ref qb, .int ln, .int sr])), (qf, .inl (cA, 3, .inl fv)), (qb, .inl (cA, 3, .inl bv))] := hD
    refine lv_istore (lv' := [(8, .int r_3), (7, .int r_2), (6, .int r_1), (5, .int (nI (k + 1))), (0, .ref h0), (1, .int ct0), (2, .int vx), (3, .int vy), (4, .int vz)]) hx hb dX1_countStrays_61 hl (by decide) rfl (fun ls hl => ?_)
    have hx2 : r_1 = ln_q (fv 0) (bv 0) ln (k + 1) := hw_1
    have hy2 : r_2 = ln_q (fv 1) (bv 1) ln (k + 1) := hw_2
    have hz2 : r_3 = ln_q (fv 2) (bv 2) ln (k + 1) := hw_3
    refine lv_iload hx hb dX1_countStrays_63 (lv_at hl 2 rfl) ?_
    refine lv_iload_n hx hb dX1_countStrays_65 rfl (lv_at hl 6 rfl) ?_
    refine lv_isub hx hb dX1_countStrays_66 ?_
    refine lv_iload hx hb dX1_countStrays_67 (lv_at hl 1 rfl) ?_
    refine lv_iload_n hx hb dX1_countStrays_69 rfl (lv_at hl 7 rfl) ?_
    refine lv_isub hx hb dX1_countStrays_70 ?_
    refine lv_iload hx hb dX1_countStrays_71 (lv_at hl 0 rfl) ?_
    refine lv_iload hx hb dX1_countStrays_73 (lv_at hl 8 rfl) ?_
    refine lv_isub hx hb dX1_countStrays_75 ?_
    refine ct_calli (va_runSN (As := [.int (r_1 - vx), .int (r_2 - vy), .int (r_3 - vz)]) (rest := []) ⟨hx, hb, hml, hown, hts⟩ (ct_isStray l dC dI cA cB H.size (r_1 - vx) (r_2 - vy) (r_3 - vz) ) ⟨va_cnB (host := "TickWalks") 3 hts gX1_countStrays_X3_isStray_n45 rfl rfl rfl hN.2.2.2.2.2.2.2.2.1 (hts (.initialized RX3) (List.mem_of_getElem? (l := wsX1_countStrays) (i := 15) rfl)) (by decide +kernel) ⟨Nat.le_of_ble_eq_true rfl, Nat.le_of_ble_eq_true rfl⟩, (hts (.static yX3_isStray) (List.mem_of_getElem? (l := wsX1_countStrays) (i := 14) rfl)), trivial⟩ ⟨ct_blind, ct_pre hP hD hK hZ hN hS hA [] rfl (by decide)⟩ rfl rfl hl.1 rfl (lv_room (Nat.le_of_ble_eq_true rfl)) dX1_countStrays_76 ⟨Nat.le_of_ble_eq_true rfl, Nat.le_of_ble_eq_true rfl⟩) hP hD hS hA [] [0, 1, 2] rfl (wr := [(h0, .inr (1, [.ref qf, .ref qb, .int ln, .int sr])), (qf, .inl (cA, 3, .inl fv)), (qb, .inl (cA, 3, .inl bv))]) rfl (by decide) (by decide) (fun r_4 u9 H locs hw_4 hP hD hS => ?_)
    have hw_4 : bo_z r_4 (¬ ga_m (r_1 - vx) (r_2 - vy) (r_3 - vz) = 1) := hw_4
    have hP : va_P (dC, dI) vwCl [(h0, .inr (1, [.ref qf, .ref qb, .int ln, .int sr])), (qf, .inl (cA, 3, .inl fv)), (qb, .inl (cA, 3, .inl bv))] H := hP
    have hD : va_D A [(h0, .inr (1, [.ref qf, .ref qb, .int ln, .int sr])), (qf, .inl (cA, 3, .inl fv)), (qb, .inl (cA, 3, .inl bv))] := hD
    refine lv_if_eq (tgt := 85) hx hb dX1_countStrays_79 (by decide) (fun c_79 => ?_) (fun c_79 => ?_)
    · have hc2 : ct0 = ln_c fv bv ln (k + 1) := by rw [ln_c, ← hx2, ← hy2, ← hz2, if_pos (by have h := Decidable.not_not.mp (hw_4.f c_79); rw [hvx, hvy, hvz] at h; exact h)]; exact hc
      refine lv_iload hx hb dX1_countStrays_85 (lv_at hl 2 rfl) ?_
      refine lv_istore_n (lv' := [(2, .int r_1), (8, .int r_3), (7, .int r_2), (6, .int r_1), (5, .int (nI (k + 1))), (0, .ref h0), (1, .int ct0), (3, .int vy), (4, .int vz)]) hx hb dX1_countStrays_87 rfl hl (by decide) rfl (fun ls hl => ?_)
      refine lv_iload hx hb dX1_countStrays_88 (lv_at hl 2 rfl) ?_
      refine lv_istore_n (lv' := [(3, .int r_2), (2, .int r_1), (8, .int r_3), (7, .int r_2), (6, .int r_1), (5, .int (nI (k + 1))), (0, .ref h0), (1, .int ct0), (4, .int vz)]) hx hb dX1_countStrays_90 rfl hl (by decide) rfl (fun ls hl => ?_)
      refine lv_iload hx hb dX1_countStrays_91 (lv_at hl 2 rfl) ?_
      refine lv_istore (lv' := [(4, .int r_3), (3, .int r_2), (2, .int r_1), (8, .int r_3), (7, .int r_2), (6, .int r_1), (5, .int (nI (k + 1))), (0, .ref h0), (1, .int ct0)]) hx hb dX1_countStrays_93 hl (by decide) rfl (fun ls hl => ?_)
      refine lv_iinc (v := nI (k + 1 + 1)) (lv' := [(5, .int (nI (k + 1 + 1))), (4, .int r_3), (3, .int r_2), (2, .int r_1), (8, .int r_3), (7, .int r_2), (6, .int r_1), (0, .ref h0), (1, .int ct0)]) hx hb dX1_countStrays_95 hl (k := 6) rfl (nI_1 (k + 1)) (by decide) rfl (fun ls hl => ?_)
      refine lv_goto (tgt := 27) hx hb dX1_countStrays_98 (by decide) ?_
      exact ih_27 _ ((k + 1 + 1), ct0, r_1, r_2, r_3) _ _ _ (by rw [hn_27]; omega) ⟨rfl, (⟨by omega, by omega⟩), hc2, hx2, hy2, hz2, (hP.sub [0, 1, 2] rfl), (hD.sub [0, 1, 2] (by decide) rfl), hS, (lv_sub hl [0, 7, 8, 3, 2, 1] rfl)⟩
    · refine lv_iinc (v := ct0 + 1) (lv' := [(1, .int (ct0 + 1)), (8, .int r_3), (7, .int r_2), (6, .int r_1), (5, .int (nI (k + 1))), (0, .ref h0), (2, .int vx), (3, .int vy), (4, .int vz)]) hx hb dX1_countStrays_82 hl (k := 5) rfl rfl (by decide) rfl (fun ls hl => ?_)
      have hc2 : ct0 + 1 = ln_c fv bv ln (k + 1) := by rw [ln_c, ← hx2, ← hy2, ← hz2, if_neg (by have h := hw_4.t c_79; rw [hvx, hvy, hvz] at h; exact h), hc]; rfl
      refine lv_iload hx hb dX1_countStrays_85 (lv_at hl 3 rfl) ?_
      refine lv_istore_n (lv' := [(2, .int r_1), (1, .int (ct0 + 1)), (8, .int r_3), (7, .int r_2), (6, .int r_1), (5, .int (nI (k + 1))), (0, .ref h0), (3, .int vy), (4, .int vz)]) hx hb dX1_countStrays_87 rfl hl (by decide) rfl (fun ls hl => ?_)
      refine lv_iload hx hb dX1_countStrays_88 (lv_at hl 3 rfl) ?_
      refine lv_istore_n (lv' := [(3, .int r_2), (2, .int r_1), (1, .int (ct0 + 1)), (8, .int r_3), (7, .int r_2), (6, .int r_1), (5, .int (nI (k + 1))), (0, .ref h0), (4, .int vz)]) hx hb dX1_countStrays_90 rfl hl (by decide) rfl (fun ls hl => ?_)
      refine lv_iload hx hb dX1_countStrays_91 (lv_at hl 3 rfl) ?_
      refine lv_istore (lv' := [(4, .int r_3), (3, .int r_2), (2, .int r_1), (1, .int (ct0 + 1)), (8, .int r_3), (7, .int r_2), (6, .int r_1), (5, .int (nI (k + 1))), (0, .ref h0)]) hx hb dX1_countStrays_93 hl (by decide) rfl (fun ls hl => ?_)
      refine lv_iinc (v := nI (k + 1 + 1)) (lv' := [(5, .int (nI (k + 1 + 1))), (4, .int r_3), (3, .int r_2), (2, .int r_1), (1, .int (ct0 + 1)), (8, .int r_3), (7, .int r_2), (6, .int r_1), (0, .ref h0)]) hx hb dX1_countStrays_95 hl (k := 7) rfl (nI_1 (k + 1)) (by decide) rfl (fun ls hl => ?_)
      refine lv_goto (tgt := 27) hx hb dX1_countStrays_98 (by decide) ?_
      exact ih_27 _ ((k + 1 + 1), ct0 + 1, r_1, r_2, r_3) _ _ _ (by rw [hn_27]; omega) ⟨rfl, (⟨by omega, by omega⟩), hc2, hx2, hy2, hz2, (hP.sub [0, 1, 2] rfl), (hD.sub [0, 1, 2] (by decide) rfl), hS, (lv_sub hl [0, 8, 4, 3, 2, 1] rfl)⟩
set_option maxHeartbeats 4000000 in
set_option maxRecDepth 100000 in
/-- Line.strayTicks -/
theorem li_strays (l : Launch) (dC : Nat → ClassId) (dI : Nat → Nat → Nat) (cA cB : ClassId) (sz : Nat) (h0 : Nat) (qf : Nat) (qb : Nat) (ln : Int32) (sr : Int32) (fv : Nat → Int32) (bv : Nat → Int32) (N : Nat) (hN2 : ln = nI N ∧ N < 1000000) : Met l yX1_strayTicks wsX1_strayTicks ({ frames := 4, cells := 0, slots := 0, locals := 98 }) (va_Pc [.ref h0] (ct_P dC dI cA cB sz [(h0, .inr (1, [.ref qf, .ref qb, .int ln, .int sr])), (qf, .inl (cA, 3, .inl fv)), (qb, .inl (cA, 3, .inl bv))])) (va_Qi (fun (r : Int32) (u : Int32) => r = u ∧ ((sr = -1 ∧ u = ln_c fv bv ln N) ∨ (¬ sr = -1 ∧ u = sr))) (fun (u : Int32) => ct_B dC dI (va_A [(h0, .inr (1, [.ref qf, .ref qb, .int ln, .int sr])), (qf, .inl (cA, 3, .inl fv)), (qb, .inl (cA, 3, .inl bv))] sz) [(h0, .inr (1, [.ref qf, .ref qb, .int ln, .int u])), (qf, .inl (cA, 3, .inl fv)), (qb, .inl (cA, 3, .inl bv))]) (va_A [(h0, .inr (1, [.ref qf, .ref qb, .int ln, .int sr])), (qf, .inl (cA, 3, .inl fv)), (qb, .inl (cA, 3, .inl bv))] sz)) 0 0 (va_A [(h0, .inr (1, [.ref qf, .ref qb, .int ln, .int sr])), (qf, .inl (cA, 3, .inl fv)), (qb, .inl (cA, 3, .inl bv))] sz) := by
  refine Met.ofW (cc := cX1_strayTicks) (maxL := 1) (ret := (some .int)) (by decide +kernel) rfl ?_
  intro p e s m args below meth c s₁ B hml hv
  obtain ⟨rfl, hsz, hP, hK, hD0, hZ, hN⟩ := hv
  have hx := B.exec
  have hb := B.bytes
  have hr := B.returns
  have hts := atoms_spec (ws := wsX1_strayTicks) B.pre
  have hown : s.vm.findClass RX1 = some m.cls := findClass_of_methodNamed B.named
  have hlocks := B.notSynchronized
  have hiX1 : ∀ w ∈ u_ws RX1 TX1 4, w ∈ wsX1_strayTicks := by decide +kernel
  subst hsz
  have hD := hD0.self (sz := s.heap.size)
  generalize hAe : va_A [(h0, .inr (1, [.ref qf, .ref qb, .int ln, .int sr])), (qf, .inl (cA, 3, .inl fv)), (qb, .inl (cA, 3, .inl bv))] s.heap.size = A at hD hZ ⊢
  have hA : ∀ q : Nat, s.heap.size ≤ q → A q := fun q h => by rw [← hAe]; exact Or.inr h
  have hl := lv_entry ([.ref h0]) (n := 1) (Nat.le_of_ble_eq_true rfl)
  rw [lg_entry_eq]
  generalize (lg_sl ([.ref h0]) ++ List.replicate (1 - (lg_sl ([.ref h0])).length) Slot.unset).toArray = ls at hl ⊢
  have hl : lv_has ls 1 [(0, .ref h0)] := hl
  generalize hHe : s.heap = H at hP ⊢
  have hS : va_S A s.heap H [] := by rw [hHe]; exact va_S.rf
  generalize ([] : List Loc) = locs at hS ⊢
  refine lv_aload_n hx hb dX1_strayTicks_0 rfl (lv_at hl 0 rfl) ?_
  refine va_get (D := (dC, dI)) (ci := 1) (v := .int sr) (C := RX1) (T := TX1) (N := 4) hx hb hts hiX1 hown hK hP 0 rfl rfl 3 (by decide) (hts (.fieldLink RX1 22 "TickWalks$Line" "strays" "I") (List.mem_of_getElem? (l := wsX1_strayTicks) (i := 1) rfl)) (fun _ h9 => h9) rfl dX1_strayTicks_1 ?_
  refine lv_iconst (v := -1) hx hb dX1_strayTicks_4 (by decide) ?_
  refine lv_icmp_ne (tgt := 16) hx hb dX1_strayTicks_5 (by decide) (fun c_5 => ?_) (fun c_5 => ?_)
  · refine lv_aload_n hx hb dX1_strayTicks_16 rfl (lv_at hl 0 rfl) ?_
    refine va_get (D := (dC, dI)) (ci := 1) (v := .int sr) (C := RX1) (T := TX1) (N := 4) hx hb hts hiX1 hown hK hP 0 rfl rfl 3 (by decide) (hts (.fieldLink RX1 22 "TickWalks$Line" "strays" "I") (List.mem_of_getElem? (l := wsX1_strayTicks) (i := 1) rfl)) (fun _ h9 => h9) rfl dX1_strayTicks_17 ?_
    have hP9 := hP.sub (ws' := [(h0, .inr (1, [.ref qf, .ref qb, .int ln, .int sr])), (qf, .inl (cA, 3, .inl fv)), (qb, .inl (cA, 3, .inl bv))]) [0, 1, 2] rfl
    have hD9 := hD.sub (ws' := [(h0, .inr (1, [.ref qf, .ref qb, .int ln, .int sr])), (qf, .inl (cA, 3, .inl fv)), (qb, .inl (cA, 3, .inl bv))]) [0, 1, 2] (by decide) rfl
    exact W.iret (v := sr) hx hb hr (fun t9 ht9 hW9 => ⟨⟨sr, (sr), rfl, ⟨rfl, Or.inr ⟨c_5, rfl⟩⟩, by rw [ht9]; exact hP9, hD9⟩, hS.F ht9⟩) hS.2.2 dX1_strayTicks_20
  · refine lv_aload_n hx hb dX1_strayTicks_8 rfl (lv_at hl 0 rfl) ?_
    refine lv_aload_n hx hb dX1_strayTicks_9 rfl (lv_at hl 0 rfl) ?_
    refine ct_calli (va_runV (As := []) (rest := [.ref h0]) ⟨hx, hb, hml, hown, hts⟩ (li_count l dC dI cA cB H.size h0 qf qb ln sr fv bv N hN2) (cwV 0 hts gX1_strayTicks_X1_countStrays rfl rfl rfl (by decide +kernel) ⟨Nat.le_of_ble_eq_true rfl, Nat.le_of_ble_eq_true rfl⟩) ⟨ct_blind, va_recv hK hP (ci := 1) (q0 := 0) rfl rfl, ct_pre hP hD hK hZ hN hS hA [0, 1, 2] rfl (by decide)⟩ rfl rfl hl.1 rfl (lv_room (Nat.le_of_ble_eq_true rfl)) dX1_strayTicks_10 ⟨Nat.le_of_ble_eq_true rfl, Nat.le_of_ble_eq_true rfl⟩) hP hD hS hA [0, 1, 2] [] rfl (wr := []) rfl (by decide) (by decide) (fun r_1 u9 H locs hw_1 hP hD hS => ?_)
    have hw_1 : r_1 = ln_c fv bv ln N := hw_1
    have hP : va_P (dC, dI) vwCl [(h0, .inr (1, [.ref qf, .ref qb, .int ln, .int sr])), (qf, .inl (cA, 3, .inl fv)), (qb, .inl (cA, 3, .inl bv))] H := hP
    have hD : va_D A [(h0, .inr (1, [.ref qf, .ref qb, .int ln, .int sr])), (qf, .inl (cA, 3, .inl fv)), (qb, .inl (cA, 3, .inl bv))] := hD
    refine va_put (D := (dC, dI)) (ci := 1) (v := .int r_1) (ty := .int) (C := RX1) (T := TX1) (N := 4) hx hb hts hiX1 tyX1 tyX1_ok nmX1 hown hK hP hD hS 0 rfl rfl 3 (by decide) (hts (.fieldLink RX1 22 "TickWalks$Line" "strays" "I") (List.mem_of_getElem? (l := wsX1_strayTicks) (i := 1) rfl)) (fun _ h9 => h9) rfl (by decide +kernel) rfl rfl (Nat.le_of_ble_eq_true rfl) dX1_strayTicks_13 (fun H locs hP hD hS => ?_)
    have hP : va_P (dC, dI) vwCl [(h0, .inr (1, [.ref qf, .ref qb, .int ln, .int r_1])), (qf, .inl (cA, 3, .inl fv)), (qb, .inl (cA, 3, .inl bv))] H := hP
    have hD : va_D A [(h0, .inr (1, [.ref qf, .ref qb, .int ln, .int r_1])), (qf, .inl (cA, 3, .inl fv)), (qb, .inl (cA, 3, .inl bv))] := hD
    refine lv_aload_n hx hb dX1_strayTicks_16 rfl (lv_at hl 0 rfl) ?_
    refine va_get (D := (dC, dI)) (ci := 1) (v := .int r_1) (C := RX1) (T := TX1) (N := 4) hx hb hts hiX1 hown hK hP 0 rfl rfl 3 (by decide) (hts (.fieldLink RX1 22 "TickWalks$Line" "strays" "I") (List.mem_of_getElem? (l := wsX1_strayTicks) (i := 1) rfl)) (fun _ h9 => h9) rfl dX1_strayTicks_17 ?_
    have hP9 := hP.sub (ws' := [(h0, .inr (1, [.ref qf, .ref qb, .int ln, .int r_1])), (qf, .inl (cA, 3, .inl fv)), (qb, .inl (cA, 3, .inl bv))]) [0, 1, 2] rfl
    have hD9 := hD.sub (ws' := [(h0, .inr (1, [.ref qf, .ref qb, .int ln, .int r_1])), (qf, .inl (cA, 3, .inl fv)), (qb, .inl (cA, 3, .inl bv))]) [0, 1, 2] (by decide) rfl
    exact W.iret (v := r_1) hx hb hr (fun t9 ht9 hW9 => ⟨⟨r_1, (r_1), rfl, ⟨rfl, Or.inl ⟨c_5, hw_1⟩⟩, by rw [ht9]; exact hP9, hD9⟩, hS.F ht9⟩) hS.2.2 dX1_strayTicks_20
