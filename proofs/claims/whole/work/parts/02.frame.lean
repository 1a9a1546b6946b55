/-! The frame of every contract here: a world of cells, the int arrays' class cA, the static tables of steps; one row a call, one row an end, one row a loop. -/
def st_X (j : Nat) : Int32 := match j with | 0 => 1 | 1 => 1 | 2 => 0 | 3 => -1 | 4 => -1 | 5 => -1 | 6 => 0 | _ => 1
def st_Y (j : Nat) : Int32 := match j with | 0 => 0 | 1 => 1 | 2 => 1 | 3 => 1 | 4 => 0 | 5 => -1 | 6 => -1 | _ => -1
def st_Z (A : Nat → Prop) (U : State) (H : Heap) : Prop := ∃ tx ty : Nat, va_Z "TickWalks" "STEP_X" "[I" (.ref tx) A U H ∧ va_T .int tx 8 (fun j => .int (st_X j)) A U H ∧ va_Z "TickWalks" "STEP_Y" "[I" (.ref ty) A U H ∧ va_T .int ty 8 (fun j => .int (st_Y j)) A U H
theorem st_Z.moved {A : Nat → Prop} {u U : State} {H : Heap} (hvm : u.vm.Alike U.vm) (h : st_Z A u H) : st_Z A U H := by
  obtain ⟨tx, ty, h1, h2, h3, h4⟩ := h
  exact ⟨tx, ty, h1.moved hvm, h2.moved hvm, h3.moved hvm, h4.moved hvm⟩
theorem st_Z.kept {A : Nat → Prop} {U : State} {H H1 : Heap} (h : st_Z A U H) (hq : ∀ a : Nat, a < H.size → ¬ A a → H1[a]? = H[a]?) : st_Z A U H1 := by
  obtain ⟨tx, ty, h1, h2, h3, h4⟩ := h
  exact ⟨tx, ty, h1.kept hq, h2.kept hq, h3.kept hq, h4.kept hq⟩
theorem st_Z.narrow {A B : Nat → Prop} {U : State} {H : Heap} (h : st_Z A U H) (hAB : ∀ q, B q → A q) : st_Z B U H := by
  obtain ⟨tx, ty, h1, h2, h3, h4⟩ := h
  exact ⟨tx, ty, h1.narrow hAB, h2.narrow hAB, h3.narrow hAB, h4.narrow hAB⟩
/-- links to nest mates' private members, and Walk's abstract methods: words of the tables that a contract carries as a state's -/
def nw_Z (U : State) : Prop := va_Nw (.methodLinkNest RX3 15 yX1_init "TickWalks") U ∧ va_Nw (.methodLinkNest RX1 3 yX2_init "TickWalks") U ∧ va_Nw (.methodLinkNest RX3 22 yX0_init "TickWalks") U ∧ va_Nw (.methodLinkNest RX0 3 yX2_init "TickWalks") U ∧ va_Nw (.methodLinkNest RX1 25 yX3_greatestAmount "TickWalks") U ∧ va_Nw (.fieldLinkNest RX0 87 "TickWalks" "STEP_X" "[I" "TickWalks") U ∧ va_Nw (.fieldLinkNest RX0 90 "TickWalks" "STEP_Y" "[I" "TickWalks") U ∧ va_Nw (.methodLinkNest RX0 83 yX3_isStray "TickWalks") U ∧ va_Nw (.methodLinkNest RX1 45 yX3_isStray "TickWalks") U ∧ va_Nw (.declares ⟨"TickWalks$Walk", "length", "()I"⟩) U ∧ va_Nw (.declares ⟨"TickWalks$Walk", "placeBehind", "(II)I"⟩) U ∧ va_Nw (.declares ⟨"TickWalks$Walk", "greatestOff", "()I"⟩) U ∧ va_Nw (.declares ⟨"TickWalks$Walk", "strayTicks", "()I"⟩) U
theorem nw_Z.warm {s U : State} (hW : s.WarmedH U.vm) (h : nw_Z s) : nw_Z U := by
  obtain ⟨h1, h2, h3, h4, h5, h6, h7, h8, h9, g1, g2, g3, g4⟩ := h
  exact ⟨h1.warmM hW, h2.warmM hW, h3.warmM hW, h4.warmM hW, h5.warmM hW, h6.warmF hW, h7.warmF hW, h8.warmM hW, h9.warmM hW, g1.warmD hW, g2.warmD hW, g3.warmD hW, g4.warmD hW⟩
theorem nw_Z.same {s U : State} (hW : s.vm = U.vm) (h : nw_Z s) : nw_Z U := by
  obtain ⟨h1, h2, h3, h4, h5, h6, h7, h8, h9, g1, g2, g3, g4⟩ := h
  exact ⟨h1.same rfl hW, h2.same rfl hW, h3.same rfl hW, h4.same rfl hW, h5.same rfl hW, h6.same rfl hW, h7.same rfl hW, h8.same rfl hW, h9.same rfl hW, g1.same rfl hW, g2.same rfl hW, g3.same rfl hW, g4.same rfl hW⟩
abbrev ct_P (dC : Nat → ClassId) (dI : Nat → Nat → Nat) (cA cB : ClassId) (sz : Nat) (ws : va_W) : State → Prop := fun U => U.heap.size = sz ∧ va_P (dC, dI) vwCl ws U.heap ∧ va_K (dC, dI) vwCl [(cA, .int), (cB, .byte)] U ∧ va_D (fun _ => True) ws ∧ st_Z (va_A ws sz) U U.heap ∧ nw_Z U
abbrev ct_B (dC : Nat → ClassId) (dI : Nat → Nat → Nat) (A : Nat → Prop) (ws : va_W) : State → Prop := fun t => va_P (dC, dI) vwCl ws t.heap ∧ va_D A ws
theorem ct_blind {av : List Value} {dC : Nat → ClassId} {dI : Nat → Nat → Nat} {cA cB : ClassId} {sz : Nat} {ws : va_W} : FrameBlind (va_Pc av (ct_P dC dI cA cB sz ws)) := by
  intro a U g mk q
  obtain ⟨q0, q1, qP, qK, qD, qZ, qN⟩ := q
  exact ⟨q0, q1, qP, va_K.moved (u := U) (U := U.calling g mk a) (Vm.Alike.refl U.vm) qK, qD, st_Z.moved (u := U) (U := U.calling g mk a) (Vm.Alike.refl U.vm) qZ, nw_Z.same (s := U) (U := U.calling g mk a) rfl qN⟩
theorem ct_fm {α β : Type} {f : α → Option β} : ∀ {is : List α} {w : List β}, is.map f = w.map some → is.filterMap f = w
  | [], [], _ => rfl
  | [], _ :: _, h => by simp at h
  | _ :: _, [], h => by simp at h
  | a :: is, b :: w, h => by
    simp only [List.map_cons, List.cons.injEq] at h
    rw [List.filterMap_cons, h.1]
    simp only [ct_fm h.2]
section CTV
variable {p : Program} {l : Launch} {e : Env} {R : Room} {s : State} {m : MethodId} {args : Array Value} {below : List Frame} {meth : Method} {c : Code} {H : Heap} {locs : List Loc} {cells slots : Nat} {Q : State → Prop}
variable {pc : Nat} {ls : Array Slot} {rest st0 : List Value} {a : Array Value} {A0 : Nat → Prop} {mc ms : Nat} {dC : Nat → ClassId} {dI : Nat → Nat → Nat} {cA cB : ClassId} {ws wc wr : va_W}
theorem ct_pre {av : List Value} (hP : va_P (dC, dI) vwCl ws H) (hD : va_D A0 ws) (hK : va_K (dC, dI) vwCl [(cA, .int), (cB, .byte)] s) (hZ : st_Z A0 s s.heap) (hN : nw_Z s) (hS : va_S A0 s.heap H locs) (hA : ∀ q, s.heap.size ≤ q → A0 q) (isC : List Nat) (hC : isC.map (fun i => ws[i]?) = wc.map some) (hn : va_nd isC = true) : ∀ U : State, U.heap = H → s.WarmedH U.vm → va_Pc av (ct_P dC dI cA cB H.size wc) av.toArray U := by
  intro U hU hW
  have hF := va_free (wc := wc) hD hS hA isC hC
  refine ⟨rfl, by rw [hU], by rw [hU]; exact hP.sub isC (ct_fm hC), va_K.moved hW.alike hK, (hD.sub isC hn hC).weaken (fun _ _ _ _ => trivial), ?_, hN.warm hW⟩
  rw [hU]
  exact ((hZ.kept (fun q h1 h2 => hS.2.1 q h1 h2)).narrow hF).moved hW.alike
theorem ct_calli {S : Type} {post : Int32 → S → Prop} {w1 : S → va_W} (hr : va_Run p l e R s m args below meth c H locs cells slots mc ms (F0 m pc ls st0) rest (va_Qi post (fun u => ct_B dC dI (va_A wc H.size) (w1 u)) (va_A wc H.size) a) (va_A wc H.size))
    (hP : va_P (dC, dI) vwCl ws H) (hD : va_D A0 ws) (hS : va_S A0 s.heap H locs) (hA : ∀ q, s.heap.size ≤ q → A0 q) (isC isR : List Nat) (hC : isC.map (fun i => ws[i]?) = wc.map some) (hR : isR.map (fun i => ws[i]?) = wr.map some) (hn : va_nd isR = true) (hdis : ∀ i ∈ isR, i ∉ isC)
    (kk : ∀ (r : Int32) (u : S) (H1 : Heap) (locs1 : List Loc), post r u → va_P (dC, dI) vwCl (wr ++ w1 u) H1 → va_D A0 (wr ++ w1 u) → va_S A0 s.heap H1 locs1 → W p l e R s m args below meth c H1 locs1 (cells + mc) (slots + ms) Q (F0 m (pc + 3) ls (.int r :: rest))) : W p l e R s m args below meth c H locs cells slots Q (F0 m pc ls st0) := by
  have hF := va_free (wc := wc) hD hS hA isC hC
  refine va_calli hr hS (fun q _ h => hF q h) hF (fun r u t H1 locs1 ht hvm hw hB hz hk hS1 => ?_)
  obtain ⟨hP1, hD1⟩ := hB
  rw [ht] at hP1
  obtain ⟨hP2, hD2⟩ := va_join (wr := wr) (w1 := w1 u) hP hD isC isR hC hR hn hdis hk hF hP1 hD1
  exact kk r u H1 locs1 hw hP2 hD2 hS1
theorem ct_calll {S : Type} {post : Int64 → S → Prop} {w1 : S → va_W} (hr : va_Run p l e R s m args below meth c H locs cells slots mc ms (F0 m pc ls st0) rest (va_Ql post (fun u => ct_B dC dI (va_A wc H.size) (w1 u)) (va_A wc H.size) a) (va_A wc H.size))
    (hP : va_P (dC, dI) vwCl ws H) (hD : va_D A0 ws) (hS : va_S A0 s.heap H locs) (hA : ∀ q, s.heap.size ≤ q → A0 q) (isC isR : List Nat) (hC : isC.map (fun i => ws[i]?) = wc.map some) (hR : isR.map (fun i => ws[i]?) = wr.map some) (hn : va_nd isR = true) (hdis : ∀ i ∈ isR, i ∉ isC)
    (kk : ∀ (r : Int64) (u : S) (H1 : Heap) (locs1 : List Loc), post r u → va_P (dC, dI) vwCl (wr ++ w1 u) H1 → va_D A0 (wr ++ w1 u) → va_S A0 s.heap H1 locs1 → W p l e R s m args below meth c H1 locs1 (cells + mc) (slots + ms) Q (F0 m (pc + 3) ls (.long r :: rest))) : W p l e R s m args below meth c H locs cells slots Q (F0 m pc ls st0) := by
  have hF := va_free (wc := wc) hD hS hA isC hC
  refine va_calll hr hS (fun q _ h => hF q h) hF (fun r u t H1 locs1 ht hvm hw hB hz hk hS1 => ?_)
  obtain ⟨hP1, hD1⟩ := hB
  rw [ht] at hP1
  obtain ⟨hP2, hD2⟩ := va_join (wr := wr) (w1 := w1 u) hP hD isC isR hC hR hn hdis hk hF hP1 hD1
  exact kk r u H1 locs1 hw hP2 hD2 hS1
theorem ct_callv {S : Type} {post : S → Prop} {w1 : S → va_W} (hr : va_Run p l e R s m args below meth c H locs cells slots mc ms (F0 m pc ls st0) rest (va_Qv post (fun u => ct_B dC dI (va_A wc H.size) (w1 u)) (va_A wc H.size) a) (va_A wc H.size))
    (hP : va_P (dC, dI) vwCl ws H) (hD : va_D A0 ws) (hS : va_S A0 s.heap H locs) (hA : ∀ q, s.heap.size ≤ q → A0 q) (isC isR : List Nat) (hC : isC.map (fun i => ws[i]?) = wc.map some) (hR : isR.map (fun i => ws[i]?) = wr.map some) (hn : va_nd isR = true) (hdis : ∀ i ∈ isR, i ∉ isC)
    (kk : ∀ (u : S) (H1 : Heap) (locs1 : List Loc), post u → va_P (dC, dI) vwCl (wr ++ w1 u) H1 → va_D A0 (wr ++ w1 u) → va_S A0 s.heap H1 locs1 → W p l e R s m args below meth c H1 locs1 (cells + mc) (slots + ms) Q (F0 m (pc + 3) ls rest)) : W p l e R s m args below meth c H locs cells slots Q (F0 m pc ls st0) := by
  have hF := va_free (wc := wc) hD hS hA isC hC
  refine va_callv hr hS (fun q _ h => hF q h) hF (fun u t H1 locs1 ht hvm hw hB hz hk hS1 => ?_)
  obtain ⟨hP1, hD1⟩ := hB
  rw [ht] at hP1
  obtain ⟨hP2, hD2⟩ := va_join (wr := wr) (w1 := w1 u) hP hD isC isR hC hR hn hdis hk hF hP1 hD1
  exact kk u H1 locs1 hw hP2 hD2 hS1
/-- a loop at pc: by a measure that falls -/
theorem ct_loop {σ : Type} (J : Nat → σ → Heap → List Loc → Array Slot → Prop)
    (h : ∀ (n : Nat) (x : σ) (H : Heap) (locs : List Loc) (ls : Array Slot), J n x H locs ls → (∀ (k : Nat) (x' : σ) (H' : Heap) (locs' : List Loc) (ls' : Array Slot), k < n → J k x' H' locs' ls' → W p l e R s m args below meth c H' locs' cells slots Q (F0 m pc ls' [])) → W p l e R s m args below meth c H locs cells slots Q (F0 m pc ls [])) :
    ∀ (n : Nat) (x : σ) (H : Heap) (locs : List Loc) (ls : Array Slot), J n x H locs ls → W p l e R s m args below meth c H locs cells slots Q (F0 m pc ls []) := by
  intro n
  induction n using Nat.strongRecOn with
  | ind n ih => exact fun x H locs ls hJ => h n x H locs ls hJ (fun k x' H' locs' ls' hk hJ' => ih k hk x' H' locs' ls' hJ')
end CTV
theorem ct_cA {D : va_G} {cl : List vw_C} {tys : List (ClassId × FieldType)} {s : State} {c1 c2 : ClassId} (hK : va_K D cl tys s) (i j : Nat) (h1 : tys[i]? = some (c1, .int)) (h2 : tys[j]? = some (c2, .int)) : c1 = c2 := by
  have q1 : s.vm.findClass _ = some c1 := (hK.2 i _ h1).2
  have q2 : s.vm.findClass _ = some c2 := (hK.2 j _ h2).2
  exact Option.some.inj (q1.symm.trans q2)
/-- a boolean answer -/
def bo_z (r : Int32) (X : Prop) : Prop := (r = 1 ∧ X) ∨ (r = 0 ∧ ¬ X)
theorem bo_z.t {r : Int32} {X : Prop} (h : bo_z r X) (hr : ¬ r = 0) : X := by
  rcases h with h | h
  · exact h.2
  · exact absurd h.1 hr
theorem bo_z.f {r : Int32} {X : Prop} (h : bo_z r X) (hr : r = 0) : ¬ X := by
  rcases h with h | h
  · rw [hr] at h; exact absurd h.1 (by decide)
  · exact h.2
theorem bo_z.eq {r q : Int32} {X Y : Prop} (h : bo_z r X) (h2 : bo_z q Y) (hxy : X ↔ Y) : r = q := by
  rcases h with h | h <;> rcases h2 with g | g
  · rw [h.1, g.1]
  · exact absurd (hxy.mp h.2) g.2
  · exact absurd (hxy.mpr g.2) h.2
  · rw [h.1, g.1]
theorem bo_z.y {X : Prop} (h : X) : bo_z 1 X := Or.inl ⟨rfl, h⟩
theorem bo_z.n {X : Prop} (h : ¬ X) : bo_z 0 X := Or.inr ⟨rfl, h⟩
/-- a boolean as the machine holds it -/
def bo_i (b : Bool) : Int32 := if b then 1 else 0
theorem bo_n (b : Bool) : narrow .boolean (.int (bo_i b)) = .int (bo_i b) := by cases b <;> rfl
theorem bo_f (b : Bool) : fits .boolean (.int (bo_i b)) = true := by cases b <;> rfl
