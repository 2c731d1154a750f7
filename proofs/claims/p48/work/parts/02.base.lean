/-! the array classes by number, the nest's links, the shapes of the contracts, calls in one row -/
abbrev TYS (k : Nat → ClassId) : List (ClassId × FieldType) := [(k 0, .byte), (k 1, .int), (k 2, .long), (k 3, .boolean), (k 4, .object RX7), (k 5, .object RX10), (k 6, .object RX5)]
def NW (U : State) : Prop := va_Nw (.methodLinkNest RX11 9 yX9_init "BellowsRow") U ∧ va_Nw (.methodLinkNest RX11 24 yX7_init "BellowsRow") U ∧ va_Nw (.methodLinkNest RX11 31 yX8_init "BellowsRow") U ∧ va_Nw (.methodLinkNest RX11 38 yX1_init "BellowsRow") U ∧ va_Nw (.methodLinkNest RX11 45 yX3_init "BellowsRow") U ∧ va_Nw (.methodLinkNest RX11 52 yX0_init "BellowsRow") U ∧ va_Nw (.methodLinkNest RX11 61 yX10_init "BellowsRow") U ∧ va_Nw (.methodLinkNest RX10 11 yX1_init "BellowsRow") U ∧ va_Nw (.methodLinkNest RX10 20 yX6_init "BellowsRow") U ∧ va_Nw (.methodLinkNest RX10 27 yX4_init "BellowsRow") U ∧ va_Nw (.methodLinkNest RX2 11 yX10_init "BellowsRow") U ∧ va_AO RX7 U ∧ va_AO RX10 U ∧ va_AO RX5 U
theorem NW.same {u U : State} (h : u.vm = U.vm) (hZ : NW u) : NW U := by
  obtain ⟨h1, h2, h3, h4, h5, h6, h7, h8, h9, h10, h11, h12, h13, h14⟩ := hZ
  exact ⟨h1.same rfl h, h2.same rfl h, h3.same rfl h, h4.same rfl h, h5.same rfl h, h6.same rfl h, h7.same rfl h, h8.same rfl h, h9.same rfl h, h10.same rfl h, h11.same rfl h, h12.moved (h ▸ Vm.Alike.refl u.vm), h13.moved (h ▸ Vm.Alike.refl u.vm), h14.moved (h ▸ Vm.Alike.refl u.vm)⟩
theorem NW.warm {s U : State} (hW : s.WarmedH U.vm) (hZ : NW s) : NW U := by
  obtain ⟨h1, h2, h3, h4, h5, h6, h7, h8, h9, h10, h11, h12, h13, h14⟩ := hZ
  exact ⟨h1.warmM hW, h2.warmM hW, h3.warmM hW, h4.warmM hW, h5.warmM hW, h6.warmM hW, h7.warmM hW, h8.warmM hW, h9.warmM hW, h10.warmM hW, h11.warmM hW, h12.moved hW.alike, h13.moved hW.alike, h14.moved hW.alike⟩
/-- a method that only reads -/
abbrev PreR (D : va_G) (k : Nat → ClassId) (ws : va_W) (av : List Value) : Array Value → State → Prop := va_Pc av (fun U => va_P D vwCl ws U.heap ∧ va_K D vwCl (TYS k) U)
/-- a method that writes -/
abbrev PreM (D : va_G) (k : Nat → ClassId) (sz : Nat) (ws : va_W) (av : List Value) : Array Value → State → Prop := va_Pc av (fun U => U.heap.size = sz ∧ va_P D vwCl ws U.heap ∧ va_K D vwCl (TYS k) U ∧ va_D (fun _ => True) ws ∧ NW U)
/-- the world behind it -/
abbrev WB (D : va_G) (A : Nat → Prop) {S : Type} (w1 : S → va_W) : S → State → Prop := fun u t => va_P D vwCl (w1 u) t.heap ∧ va_D A (w1 u)
theorem PreR_blind {D : va_G} {k : Nat → ClassId} {ws : va_W} {av : List Value} : FrameBlind (PreR D k ws av) := fun a U g mk q => ⟨q.1, q.2.1, va_K.moved (u := U) (U := U.calling g mk a) (Vm.Alike.refl U.vm) q.2.2⟩
theorem PreM_blind {D : va_G} {k : Nat → ClassId} {sz : Nat} {ws : va_W} {av : List Value} : FrameBlind (PreM D k sz ws av) := fun a U g mk q => ⟨q.1, q.2.1, q.2.2.1, va_K.moved (u := U) (U := U.calling g mk a) (Vm.Alike.refl U.vm) q.2.2.2.1, q.2.2.2.2.1, NW.same (u := U) (U := U.calling g mk a) rfl q.2.2.2.2.2⟩
theorem PreR_at {D : va_G} {k : Nat → ClassId} {wc : va_W} {av : List Value} {s U : State} {H : Heap} (hP : va_P D vwCl wc H) (hK : va_K D vwCl (TYS k) s) (hU : U.heap = H) (hW : s.WarmedH U.vm) : PreR D k wc av av.toArray U := ⟨rfl, by rw [hU]; exact hP, va_K.moved hW.alike hK⟩
theorem PreM_at {D : va_G} {k : Nat → ClassId} {wc : va_W} {av : List Value} {s U : State} {H : Heap} {A : Nat → Prop} (hP : va_P D vwCl wc H) (hK : va_K D vwCl (TYS k) s) (hD : va_D A wc) (hN : NW s) (hU : U.heap = H) (hW : s.WarmedH U.vm) : PreM D k H.size wc av av.toArray U := ⟨rfl, by rw [hU], by rw [hU]; exact hP, va_K.moved hW.alike hK, hD.weaken (fun _ _ _ _ => trivial), hN.warm hW⟩
theorem ra_eq {s : State} {cA cB : ClassId} {ty : FieldType} (h1 : va_RA s cA ty) (h2 : va_RA s cB ty) : cA = cB := by
  cases ty with
  | object C =>
    obtain ⟨-, -, -, -, -, a⟩ := h1
    obtain ⟨-, -, -, -, -, b⟩ := h2
    exact Option.some.inj (a.symm.trans b)
  | _ => exact Option.some.inj (Eq.trans (Eq.symm h1) h2)
theorem arrK {args : Array Value} {s : State} {ty : FieldType} (hp : ∀ C, ty ≠ .object C) (h : (Cond.arrayClass ty).before args s = true) : ∃ cA, ArrOfT s cA ty ∧ va_RA s cA ty := by
  obtain ⟨cA, kA, comp, h1, h2, h3⟩ := Cond.arrayClass_spec h
  refine ⟨cA, fun n z => ⟨fun k h => (by cases h), kA, h2, comp, h3⟩, ?_⟩
  cases ty with
  | object C => exact absurd rfl (hp C)
  | _ => exact h1
theorem arrQ {s : State} {C : String} (h : va_AO C s) : ∃ cA, ArrOfT s cA (.object C) ∧ va_RA s cA (.object C) := by
  obtain ⟨comp, c, k, h1, h2, h3, h4, h5⟩ := Cond.arrayOver_spec h
  exact ⟨c, fun n z => ⟨fun k h => (by cases h), k, h3, comp, h4⟩, k, comp, h3, h4, h1, h5⟩
section BASE
variable {p : Program} {l : Launch} {e : Env} {R : Room} {s : State} {m : MethodId} {args : Array Value} {below : List Frame} {meth : Method} {c : Code} {H : Heap} {locs : List Loc} {cells slots : Nat} {Q : State → Prop}
variable {y : MethodName} {bytes cc : ByteArray} {maxL nL mc ms n index pc : Nat} {ret : Option FieldType} {ws : List Cond} {rm : Room} {Ts : List Cond} {own C : String} {b : Addr} {As rest st0 : List Value} {ls : Array Slot}
variable {D : va_G} {k : Nat → ClassId} {w0 wc wr : va_W} {A : Nat → Prop} {H0 : Heap}
theorem nwa (hexec : p.tables.exec = Jvm.exec) (hb : c.code = cc) {atype : ArrayType} (harr : (Cond.arrayClass (newarray.typeOf atype)).before args s = true) {ty : FieldType} (hty : newarray.typeOf atype = ty) (hK : va_K D vwCl (TYS k) s) (hP : va_P D vwCl w0 H) (hD : va_D A w0) (hS : va_S A H0 H locs) (hA : ∀ q, H0.size ≤ q → A q) (t0 : Nat) (ht : (TYS k)[t0]? = some (k t0, ty))
    {v : Int32} {N' : Nat} {a0 : vp_A} (ha : ∀ cA : ClassId, vp_cell cA a0 = arrV cA N' (fun _ => defaultValue ty)) (hn : ¬ v < 0) (hN : v.toNatClampNeg = N') (hbytes : N' * componentBytes ty ≤ 536870912) (hcells : cells + 1 ≤ R.cells) (hslots : slots + N' ≤ R.slots) (hdg : decode cc pc = .ok (.newarray atype, 2))
    (kk : ∀ (q : Nat) (H1 : Heap), va_P D vwCl (w0 ++ [(q, .inl (k t0, a0))]) H1 → va_D A (w0 ++ [(q, .inl (k t0, a0))]) → va_S A H0 H1 locs →
      W p l e R s m args below meth c H1 locs (cells + 1) (slots + N') Q (F0 m (pc + 2) ls (.ref q :: rest))) : W p l e R s m args below meth c H locs cells slots Q (F0 m pc ls (.int v :: rest)) := by
  refine va_newa hexec hb harr hty hK hP hD hS hA ha hn hN hbytes hcells hslots hdg fun q cA H1 hK1 hP1 hD1 hS1 => ?_
  have h1 := (hK.2 t0 _ ht).2
  have h2 := (hK1.2 7 (cA, ty) rfl).2
  obtain rfl := ra_eq h2 h1
  exact kk q H1 hP1 hD1 hS1
theorem nwq (hexec : p.tables.exec = Jvm.exec) (hb : c.code = cc) (hown : s.vm.findClass own = some m.cls) {CC : String} (hclink : (Cond.classLink own index CC).before args s = true) (hover : va_AO CC s) (hK : va_K D vwCl (TYS k) s) (hP : va_P D vwCl w0 H) (hD : va_D A w0) (hS : va_S A H0 H locs) (hA : ∀ q, H0.size ≤ q → A q) (t0 : Nat) (ht : (TYS k)[t0]? = some (k t0, .object CC))
    {v : Int32} {N' : Nat} (hn : ¬ v < 0) (hN : v.toNatClampNeg = N') (hbytes : N' * 4 ≤ 536870912) (hcells : cells + 1 ≤ R.cells) (hslots : slots + N' ≤ R.slots) (hdg : decode cc pc = .ok (.anewarray index, 3))
    (kk : ∀ (q : Nat) (H1 : Heap), va_P D vwCl (w0 ++ [(q, .inl (k t0, N', .inr (.inr (.inr (.inr (fun _ => none))))))]) H1 → va_D A (w0 ++ [(q, .inl (k t0, N', .inr (.inr (.inr (.inr (fun _ => none))))))]) → va_S A H0 H1 locs →
      W p l e R s m args below meth c H1 locs (cells + 1) (slots + N') Q (F0 m (pc + 3) ls (.ref q :: rest))) : W p l e R s m args below meth c H locs cells slots Q (F0 m pc ls (.int v :: rest)) := by
  refine va_newq hexec hb hown hclink hover hK hP hD hS hA hn hN hbytes hcells hslots hdg fun q cA H1 hK1 hP1 hD1 hS1 => ?_
  have h1 := (hK.2 t0 _ ht).2
  have h2 := (hK1.2 7 (cA, .object CC) rfl).2
  obtain rfl := ra_eq h2 h1
  exact kk q H1 hP1 hD1 hS1
-- calls of methods that only read
theorem pvi {post : Int32 → Prop} (S : CallFix p m c cc nL s args Ts own) (hM : Met l y ws rm (PreR D k wc (.ref b :: As)) (vp_Si post) 0 0 (fun _ => False)) (cw : CallW R s args own C index y bytes maxL ret ws rm 0 0 n) (hP : va_P D vwCl w0 H) (hK : va_K D vwCl (TYS k) s) (is : List Nat) (hs : is.filterMap (fun i => w0[i]?) = wc) (q0 : Nat) {ci : Nat} {q : vw_C} {fs : List Value} (he : w0[q0]? = some (b, .inr (ci, fs))) (hc : vwCl[ci]? = some q) (hC : q.1 = C)
    (hn : As.length = n) (hsize : ls.size = nL) (hst : st0 = As.reverse ++ .ref b :: rest) (hW : (rest.map fun v => v.category).sum ≤ 8) (hdg : decode cc pc = .ok (.invokevirtual index, 3)) (hf : cells ≤ R.cells ∧ slots ≤ R.slots)
    (kk : ∀ r : Int32, post r → W p l e R s m args below meth c H locs cells slots Q (F0 m (pc + 3) ls (.int r :: rest))) : W p l e R s m args below meth c H locs cells slots Q (F0 m pc ls st0) := by
  subst hC
  exact vp_callSi (va_runV (g := F0 m pc ls st0) S hM cw ⟨PreR_blind, va_recv hK hP hc he, fun U hU hW => PreR_at (hP.sub is hs) hK hU hW⟩ rfl hn hsize hst (lv_room hW) hdg hf).run kk
theorem pvl {post : Int64 → Prop} (S : CallFix p m c cc nL s args Ts own) (hM : Met l y ws rm (PreR D k wc (.ref b :: As)) (vp_Sl post) 0 0 (fun _ => False)) (cw : CallW R s args own C index y bytes maxL ret ws rm 0 0 n) (hP : va_P D vwCl w0 H) (hK : va_K D vwCl (TYS k) s) (is : List Nat) (hs : is.filterMap (fun i => w0[i]?) = wc) (q0 : Nat) {ci : Nat} {q : vw_C} {fs : List Value} (he : w0[q0]? = some (b, .inr (ci, fs))) (hc : vwCl[ci]? = some q) (hC : q.1 = C)
    (hn : As.length = n) (hsize : ls.size = nL) (hst : st0 = As.reverse ++ .ref b :: rest) (hW : (rest.map fun v => v.category).sum ≤ 8) (hdg : decode cc pc = .ok (.invokevirtual index, 3)) (hf : cells ≤ R.cells ∧ slots ≤ R.slots)
    (kk : ∀ r : Int64, post r → W p l e R s m args below meth c H locs cells slots Q (F0 m (pc + 3) ls (.long r :: rest))) : W p l e R s m args below meth c H locs cells slots Q (F0 m pc ls st0) := by
  subst hC
  exact vp_callSl (va_runV (g := F0 m pc ls st0) S hM cw ⟨PreR_blind, va_recv hK hP hc he, fun U hU hW => PreR_at (hP.sub is hs) hK hU hW⟩ rfl hn hsize hst (lv_room hW) hdg hf).run kk
theorem pvq {post : Option Nat → Prop} (S : CallFix p m c cc nL s args Ts own) (hM : Met l y ws rm (PreR D k wc (.ref b :: As)) (va_Sq post) 0 0 (fun _ => False)) (cw : CallW R s args own C index y bytes maxL ret ws rm 0 0 n) (hP : va_P D vwCl w0 H) (hK : va_K D vwCl (TYS k) s) (is : List Nat) (hs : is.filterMap (fun i => w0[i]?) = wc) (q0 : Nat) {ci : Nat} {q : vw_C} {fs : List Value} (he : w0[q0]? = some (b, .inr (ci, fs))) (hc : vwCl[ci]? = some q) (hC : q.1 = C)
    (hn : As.length = n) (hsize : ls.size = nL) (hst : st0 = As.reverse ++ .ref b :: rest) (hW : (rest.map fun v => v.category).sum ≤ 8) (hdg : decode cc pc = .ok (.invokevirtual index, 3)) (hf : cells ≤ R.cells ∧ slots ≤ R.slots)
    (kk : ∀ r : Option Nat, post r → W p l e R s m args below meth c H locs cells slots Q (F0 m (pc + 3) ls (va_rf r :: rest))) : W p l e R s m args below meth c H locs cells slots Q (F0 m pc ls st0) := by
  subst hC
  exact va_csq (va_runV (g := F0 m pc ls st0) S hM cw ⟨PreR_blind, va_recv hK hP hc he, fun U hU hW => PreR_at (hP.sub is hs) hK hU hW⟩ rfl hn hsize hst (lv_room hW) hdg hf).run kk
theorem psi {post : Int32 → Prop} (S : CallFix p m c cc nL s args Ts own) (hM : Met l y ws rm (PreR D k [] As) (vp_Si post) 0 0 (fun _ => False)) (cw : CallB R s args own index y bytes maxL ret ws rm 0 0 n ∧ (Cond.static y).before args s = true) (hK : va_K D vwCl (TYS k) s)
    (hn : As.length = n) (hsize : ls.size = nL) (hst : st0 = As.reverse ++ rest) (hW : (rest.map fun v => v.category).sum ≤ 8) (hdg : decode cc pc = .ok (.invokestatic index, 3)) (hf : cells ≤ R.cells ∧ slots ≤ R.slots)
    (kk : ∀ r : Int32, post r → W p l e R s m args below meth c H locs cells slots Q (F0 m (pc + 3) ls (.int r :: rest))) : W p l e R s m args below meth c H locs cells slots Q (F0 m pc ls st0) := 
  vp_callSi (va_runS (g := F0 m pc ls st0) S hM cw ⟨PreR_blind, fun U hU hW => PreR_at (fun k q h => by simp at h) hK hU hW⟩ rfl hn hsize hst (lv_room hW) hdg hf).run kk
theorem psl {post : Int64 → Prop} (S : CallFix p m c cc nL s args Ts own) (hM : Met l y ws rm (PreR D k [] As) (vp_Sl post) 0 0 (fun _ => False)) (cw : CallB R s args own index y bytes maxL ret ws rm 0 0 n ∧ (Cond.static y).before args s = true) (hK : va_K D vwCl (TYS k) s)
    (hn : As.length = n) (hsize : ls.size = nL) (hst : st0 = As.reverse ++ rest) (hW : (rest.map fun v => v.category).sum ≤ 8) (hdg : decode cc pc = .ok (.invokestatic index, 3)) (hf : cells ≤ R.cells ∧ slots ≤ R.slots)
    (kk : ∀ r : Int64, post r → W p l e R s m args below meth c H locs cells slots Q (F0 m (pc + 3) ls (.long r :: rest))) : W p l e R s m args below meth c H locs cells slots Q (F0 m pc ls st0) := 
  vp_callSl (va_runS (g := F0 m pc ls st0) S hM cw ⟨PreR_blind, fun U hU hW => PreR_at (fun k q h => by simp at h) hK hU hW⟩ rfl hn hsize hst (lv_room hW) hdg hf).run kk
-- calls of methods that write: the callee's cells wc (places isC), the rest wr (places isR), the world behind it w1
theorem mvv {S1 : Type} {w1 : S1 → va_W} {post : S1 → Prop} (S : CallFix p m c cc nL s args Ts own) (hM : ∀ sz, Met l y ws rm (PreM D k sz wc (.ref b :: As)) (va_Qv post (WB D (va_A wc sz) w1) (va_A wc sz)) mc ms (va_A wc sz)) (cw : CallW R s args own C index y bytes maxL ret ws rm mc ms n) (hP : va_P D vwCl w0 H) (hK : va_K D vwCl (TYS k) s) (hD : va_D A w0) (hN : NW s) (hS : va_S A H0 H locs) (hA : ∀ q, H0.size ≤ q → A q) (isC isR : List Nat) (hC1 : isC.filterMap (fun i => w0[i]?) = wc) (hC2 : isC.map (fun i => w0[i]?) = wc.map some) (hC3 : va_nd isC = true) (hR : isR.map (fun i => w0[i]?) = wr.map some) (hR2 : va_nd isR = true) (hdis : ∀ i ∈ isR, i ∉ isC) (q0 : Nat) {ci : Nat} {q : vw_C} {fs : List Value} (he : w0[q0]? = some (b, .inr (ci, fs))) (hc : vwCl[ci]? = some q) (hC : q.1 = C)
    (hn : As.length = n) (hsize : ls.size = nL) (hst : st0 = As.reverse ++ .ref b :: rest) (hW : (rest.map fun v => v.category).sum ≤ 8) (hdg : decode cc pc = .ok (.invokevirtual index, 3)) (hf : cells + mc ≤ R.cells ∧ slots + ms ≤ R.slots)
    (kk : ∀ (u : S1) (H1 : Heap) (locs1 : List Loc), post u → va_P D vwCl (wr ++ w1 u) H1 → va_D A (wr ++ w1 u) → va_S A H0 H1 locs1 → W p l e R s m args below meth c H1 locs1 (cells + mc) (slots + ms) Q (F0 m (pc + 3) ls rest)) : W p l e R s m args below meth c H locs cells slots Q (F0 m pc ls st0) := by
  subst hC
  have hFc := va_free (wc := wc) hD hS hA isC hC2
  refine va_callv (va_runV (g := F0 m pc ls st0) S (hM H.size) cw ⟨PreM_blind, va_recv hK hP hc he, fun U hU hW => PreM_at (hP.sub isC hC1) hK (hD.sub isC hC3 hC2) hN hU hW⟩ rfl hn hsize hst (lv_room hW) hdg hf) hS (fun q _ h => hFc q h) hFc (fun u t H1 locs1 ht hvm hw hB hz1 hk1 hS1 => ?_)
  obtain ⟨hP1, hD1⟩ := hB
  rw [ht] at hP1
  obtain ⟨hP2, hD2⟩ := va_join (wr := wr) (w1 := w1 u) hP hD isC isR hC2 hR hR2 hdis hk1 hFc hP1 hD1
  exact kk u H1 locs1 hw hP2 hD2 hS1
theorem mvi {S1 : Type} {w1 : S1 → va_W} {post : Int32 → S1 → Prop} (S : CallFix p m c cc nL s args Ts own) (hM : ∀ sz, Met l y ws rm (PreM D k sz wc (.ref b :: As)) (va_Qi post (WB D (va_A wc sz) w1) (va_A wc sz)) mc ms (va_A wc sz)) (cw : CallW R s args own C index y bytes maxL ret ws rm mc ms n) (hP : va_P D vwCl w0 H) (hK : va_K D vwCl (TYS k) s) (hD : va_D A w0) (hN : NW s) (hS : va_S A H0 H locs) (hA : ∀ q, H0.size ≤ q → A q) (isC isR : List Nat) (hC1 : isC.filterMap (fun i => w0[i]?) = wc) (hC2 : isC.map (fun i => w0[i]?) = wc.map some) (hC3 : va_nd isC = true) (hR : isR.map (fun i => w0[i]?) = wr.map some) (hR2 : va_nd isR = true) (hdis : ∀ i ∈ isR, i ∉ isC) (q0 : Nat) {ci : Nat} {q : vw_C} {fs : List Value} (he : w0[q0]? = some (b, .inr (ci, fs))) (hc : vwCl[ci]? = some q) (hC : q.1 = C)
    (hn : As.length = n) (hsize : ls.size = nL) (hst : st0 = As.reverse ++ .ref b :: rest) (hW : (rest.map fun v => v.category).sum ≤ 8) (hdg : decode cc pc = .ok (.invokevirtual index, 3)) (hf : cells + mc ≤ R.cells ∧ slots + ms ≤ R.slots)
    (kk : ∀ (r : Int32) (u : S1) (H1 : Heap) (locs1 : List Loc), post r u → va_P D vwCl (wr ++ w1 u) H1 → va_D A (wr ++ w1 u) → va_S A H0 H1 locs1 → W p l e R s m args below meth c H1 locs1 (cells + mc) (slots + ms) Q (F0 m (pc + 3) ls (.int r :: rest))) : W p l e R s m args below meth c H locs cells slots Q (F0 m pc ls st0) := by
  subst hC
  have hFc := va_free (wc := wc) hD hS hA isC hC2
  refine va_calli (va_runV (g := F0 m pc ls st0) S (hM H.size) cw ⟨PreM_blind, va_recv hK hP hc he, fun U hU hW => PreM_at (hP.sub isC hC1) hK (hD.sub isC hC3 hC2) hN hU hW⟩ rfl hn hsize hst (lv_room hW) hdg hf) hS (fun q _ h => hFc q h) hFc (fun r u t H1 locs1 ht hvm hw hB hz1 hk1 hS1 => ?_)
  obtain ⟨hP1, hD1⟩ := hB
  rw [ht] at hP1
  obtain ⟨hP2, hD2⟩ := va_join (wr := wr) (w1 := w1 u) hP hD isC isR hC2 hR hR2 hdis hk1 hFc hP1 hD1
  exact kk r u H1 locs1 hw hP2 hD2 hS1
theorem mvq {S1 : Type} {w1 : S1 → va_W} {post : Option Nat → S1 → Prop} (S : CallFix p m c cc nL s args Ts own) (hM : ∀ sz, Met l y ws rm (PreM D k sz wc (.ref b :: As)) (va_Qq post (WB D (va_A wc sz) w1) (va_A wc sz)) mc ms (va_A wc sz)) (cw : CallW R s args own C index y bytes maxL ret ws rm mc ms n) (hP : va_P D vwCl w0 H) (hK : va_K D vwCl (TYS k) s) (hD : va_D A w0) (hN : NW s) (hS : va_S A H0 H locs) (hA : ∀ q, H0.size ≤ q → A q) (isC isR : List Nat) (hC1 : isC.filterMap (fun i => w0[i]?) = wc) (hC2 : isC.map (fun i => w0[i]?) = wc.map some) (hC3 : va_nd isC = true) (hR : isR.map (fun i => w0[i]?) = wr.map some) (hR2 : va_nd isR = true) (hdis : ∀ i ∈ isR, i ∉ isC) (q0 : Nat) {ci : Nat} {q : vw_C} {fs : List Value} (he : w0[q0]? = some (b, .inr (ci, fs))) (hc : vwCl[ci]? = some q) (hC : q.1 = C)
    (hn : As.length = n) (hsize : ls.size = nL) (hst : st0 = As.reverse ++ .ref b :: rest) (hW : (rest.map fun v => v.category).sum ≤ 8) (hdg : decode cc pc = .ok (.invokevirtual index, 3)) (hf : cells + mc ≤ R.cells ∧ slots + ms ≤ R.slots)
    (kk : ∀ (r : Option Nat) (u : S1) (H1 : Heap) (locs1 : List Loc), post r u → va_P D vwCl (wr ++ w1 u) H1 → va_D A (wr ++ w1 u) → va_S A H0 H1 locs1 → W p l e R s m args below meth c H1 locs1 (cells + mc) (slots + ms) Q (F0 m (pc + 3) ls (va_rf r :: rest))) : W p l e R s m args below meth c H locs cells slots Q (F0 m pc ls st0) := by
  subst hC
  have hFc := va_free (wc := wc) hD hS hA isC hC2
  refine va_callq (va_runV (g := F0 m pc ls st0) S (hM H.size) cw ⟨PreM_blind, va_recv hK hP hc he, fun U hU hW => PreM_at (hP.sub isC hC1) hK (hD.sub isC hC3 hC2) hN hU hW⟩ rfl hn hsize hst (lv_room hW) hdg hf) hS (fun q _ h => hFc q h) hFc (fun r u t H1 locs1 ht hvm hw hB hz1 hk1 hS1 => ?_)
  obtain ⟨hP1, hD1⟩ := hB
  rw [ht] at hP1
  obtain ⟨hP2, hD2⟩ := va_join (wr := wr) (w1 := w1 u) hP hD isC isR hC2 hR hR2 hdis hk1 hFc hP1 hD1
  exact kk r u H1 locs1 hw hP2 hD2 hS1
theorem mIv {S1 : Type} {w1 : S1 → va_W} {post : S1 → Prop} (S : CallFix p m c cc nL s args Ts own) (hM : ∀ sz, Met l y ws rm (PreM D k sz wc (.ref b :: As)) (va_Qv post (WB D (va_A wc sz) w1) (va_A wc sz)) mc ms (va_A wc sz)) (cw : CallB R s args own index y bytes maxL none ws rm mc ms n ∧ y.name = "<init>" ∧ (Cond.instanceMethod y).before args s = true) (hP : va_P D vwCl w0 H) (hK : va_K D vwCl (TYS k) s) (hD : va_D A w0) (hN : NW s) (hS : va_S A H0 H locs) (hA : ∀ q, H0.size ≤ q → A q) (isC isR : List Nat) (hC1 : isC.filterMap (fun i => w0[i]?) = wc) (hC2 : isC.map (fun i => w0[i]?) = wc.map some) (hC3 : va_nd isC = true) (hR : isR.map (fun i => w0[i]?) = wr.map some) (hR2 : va_nd isR = true) (hdis : ∀ i ∈ isR, i ∉ isC)
    (hn : As.length = n) (hsize : ls.size = nL) (hst : st0 = As.reverse ++ .ref b :: rest) (hW : (rest.map fun v => v.category).sum ≤ 8) (hdg : decode cc pc = .ok (.invokespecial index, 3)) (hf : cells + mc ≤ R.cells ∧ slots + ms ≤ R.slots)
    (kk : ∀ (u : S1) (H1 : Heap) (locs1 : List Loc), post u → va_P D vwCl (wr ++ w1 u) H1 → va_D A (wr ++ w1 u) → va_S A H0 H1 locs1 → W p l e R s m args below meth c H1 locs1 (cells + mc) (slots + ms) Q (F0 m (pc + 3) ls rest)) : W p l e R s m args below meth c H locs cells slots Q (F0 m pc ls st0) := by
  have hFc := va_free (wc := wc) hD hS hA isC hC2
  refine va_callv (va_runI (g := F0 m pc ls st0) S (hM H.size) cw ⟨PreM_blind, fun U hU hW => PreM_at (hP.sub isC hC1) hK (hD.sub isC hC3 hC2) hN hU hW⟩ rfl hn hsize hst (lv_room hW) hdg hf) hS (fun q _ h => hFc q h) hFc (fun u t H1 locs1 ht hvm hw hB hz1 hk1 hS1 => ?_)
  obtain ⟨hP1, hD1⟩ := hB
  rw [ht] at hP1
  obtain ⟨hP2, hD2⟩ := va_join (wr := wr) (w1 := w1 u) hP hD isC isR hC2 hR hR2 hdis hk1 hFc hP1 hD1
  exact kk u H1 locs1 hw hP2 hD2 hS1
theorem mIN {S1 : Type} {w1 : S1 → va_W} {post : S1 → Prop} {host : String} (S : CallFix p m c cc nL s args Ts own) (hM : ∀ sz, Met l y ws rm (PreM D k sz wc (.ref b :: As)) (va_Qv post (WB D (va_A wc sz) w1) (va_A wc sz)) mc ms (va_A wc sz)) (cw : va_CN R s args own index y host bytes maxL none ws rm mc ms n ∧ y.name = "<init>" ∧ (Cond.instanceMethod y).before args s = true) (hP : va_P D vwCl w0 H) (hK : va_K D vwCl (TYS k) s) (hD : va_D A w0) (hN : NW s) (hS : va_S A H0 H locs) (hA : ∀ q, H0.size ≤ q → A q) (isC isR : List Nat) (hC1 : isC.filterMap (fun i => w0[i]?) = wc) (hC2 : isC.map (fun i => w0[i]?) = wc.map some) (hC3 : va_nd isC = true) (hR : isR.map (fun i => w0[i]?) = wr.map some) (hR2 : va_nd isR = true) (hdis : ∀ i ∈ isR, i ∉ isC)
    (hn : As.length = n) (hsize : ls.size = nL) (hst : st0 = As.reverse ++ .ref b :: rest) (hW : (rest.map fun v => v.category).sum ≤ 8) (hdg : decode cc pc = .ok (.invokespecial index, 3)) (hf : cells + mc ≤ R.cells ∧ slots + ms ≤ R.slots)
    (kk : ∀ (u : S1) (H1 : Heap) (locs1 : List Loc), post u → va_P D vwCl (wr ++ w1 u) H1 → va_D A (wr ++ w1 u) → va_S A H0 H1 locs1 → W p l e R s m args below meth c H1 locs1 (cells + mc) (slots + ms) Q (F0 m (pc + 3) ls rest)) : W p l e R s m args below meth c H locs cells slots Q (F0 m pc ls st0) := by
  have hFc := va_free (wc := wc) hD hS hA isC hC2
  refine va_callv (va_runIN (g := F0 m pc ls st0) S (hM H.size) cw ⟨PreM_blind, fun U hU hW => PreM_at (hP.sub isC hC1) hK (hD.sub isC hC3 hC2) hN hU hW⟩ rfl hn hsize hst (lv_room hW) hdg hf) hS (fun q _ h => hFc q h) hFc (fun u t H1 locs1 ht hvm hw hB hz1 hk1 hS1 => ?_)
  obtain ⟨hP1, hD1⟩ := hB
  rw [ht] at hP1
  obtain ⟨hP2, hD2⟩ := va_join (wr := wr) (w1 := w1 u) hP hD isC isR hC2 hR hR2 hdis hk1 hFc hP1 hD1
  exact kk u H1 locs1 hw hP2 hD2 hS1
end BASE
-- numbers
theorem i_lt {x y : Int32} : x < y ↔ x.toInt < y.toInt := Int32.lt_iff_toInt_lt
theorem i_le {x y : Int32} : x ≤ y ↔ x.toInt ≤ y.toInt := Int32.le_iff_toInt_le
