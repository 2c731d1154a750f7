theorem goodIn_self {ws : List Cond} (h : ws.all goodWord = true) : GoodIn ws ws := fun w hw => ⟨hw, good_of_word (List.all_eq_true.mp h w hw)⟩
def nTX : Nat := 74
def lenTX : List Nat := [3, 4, 3, 5, 4, 4, 6, 4, 6, 4, 5, 2, 4, 2, 7, 4, 4, 4, 5, 2, 4, 2, 3, 3, 4, 3, 5, 5, 5, 4, 4, 5, 5, 4, 4, 5, 3, 5, 2, 4, 4, 4, 5, 3, 3, 4, 4, 5, 4, 5, 2, 4, 2, 7, 4, 4, 2, 3, 3, 3, 5, 5, 5, 4, 4, 5, 4, 3, 5, 4, 4, 6, 4, 6]
def bytTX : List (List Int32) := [[112, 111, 116], [112, 105, 112, 101], [114, 117, 110], [115, 119, 105, 110, 103], [119, 105, 110, 100], [114, 111, 111, 109], [112, 101, 114, 115, 111, 110], [114, 117, 108, 101], [99, 104, 97, 110, 103, 101], [115, 116, 101, 112], [104, 111, 108, 100, 115], [116, 111], [98, 111, 114, 101], [98, 121], [98, 101, 108, 108, 111, 119, 115], [108, 105, 102, 101], [112, 114, 111, 112], [115, 116, 97, 121], [114, 105, 103, 104, 116], [117, 112], [100, 111, 119, 110], [97, 116], [97, 110, 100], [102, 111, 114], [108, 101, 102, 116], [100, 97, 121], [110, 105, 103, 104, 116], [102, 108, 97, 109, 101], [107, 110, 111, 119, 115], [97, 119, 97, 121], [97, 115, 107, 115], [110, 101, 101, 100, 115], [112, 114, 101, 115, 115], [100, 114, 97, 119], [112, 117, 115, 104], [109, 101, 116, 97, 108], [103, 97, 115], [114, 105, 103, 104, 116], [117, 112], [100, 111, 119, 110], [100, 114, 97, 119], [112, 117, 115, 104], [109, 101, 116, 97, 108], [103, 97, 115], [112, 111, 116], [112, 105, 112, 101], [112, 114, 111, 112], [112, 114, 101, 115, 115], [115, 116, 101, 112], [104, 111, 108, 100, 115], [116, 111], [98, 111, 114, 101], [98, 121], [98, 101, 108, 108, 111, 119, 115], [108, 105, 102, 101], [115, 116, 97, 121], [97, 116], [97, 110, 100], [102, 111, 114], [100, 97, 121], [110, 105, 103, 104, 116], [102, 108, 97, 109, 101], [107, 110, 111, 119, 115], [97, 119, 97, 121], [97, 115, 107, 115], [110, 101, 101, 100, 115], [108, 101, 102, 116], [114, 117, 110], [115, 119, 105, 110, 103], [119, 105, 110, 100], [114, 111, 111, 109], [112, 101, 114, 115, 111, 110], [114, 117, 108, 101], [99, 104, 97, 110, 103, 101]]
def lsTX : List (String × Nat × String × Nat) := [(RX2, 90, "pot", 0), (RX2, 96, "pipe", 1), (RX2, 98, "run", 2), (RX2, 100, "swing", 3), (RX2, 102, "wind", 4), (RX2, 104, "room", 5), (RX2, 106, "person", 6), (RX2, 108, "rule", 7), (RX2, 110, "change", 8), (RX2, 139, "step", 9), (RX2, 148, "holds", 10), (RX2, 154, "to", 11), (RX2, 156, "bore", 12), (RX2, 158, "by", 13), (RX2, 167, "bellows", 14), (RX2, 173, "life", 15), (RX2, 175, "prop", 16), (RX2, 180, "stay", 17), (RX2, 191, "right", 18), (RX2, 193, "up", 19), (RX2, 195, "down", 20), (RX2, 220, "at", 21), (RX2, 225, "and", 22), (RX2, 227, "for", 23), (RX2, 229, "left", 24), (RX2, 237, "day", 25), (RX2, 239, "night", 26), (RX2, 241, "flame", 27), (RX2, 246, "knows", 28), (RX2, 251, "away", 29), (RX2, 259, "asks", 30), (RX2, 264, "needs", 31), (RX2, 269, "press", 32), (RX2, 275, "draw", 33), (RX2, 277, "push", 34), (RX2, 279, "metal", 35), (RX2, 281, "gas", 36), (RX12, 157, "right", 37), (RX12, 159, "up", 38), (RX12, 161, "down", 39), (RX12, 163, "draw", 40), (RX12, 165, "push", 41), (RX12, 167, "metal", 42), (RX12, 169, "gas", 43), (RX12, 171, "pot", 44), (RX12, 173, "pipe", 45), (RX12, 175, "prop", 46), (RX12, 177, "press", 47), (RX12, 185, "step", 48), (RX12, 191, "holds", 49), (RX12, 196, "to", 50), (RX12, 198, "bore", 51), (RX12, 200, "by", 52), (RX12, 205, "bellows", 53), (RX12, 211, "life", 54), (RX12, 213, "stay", 55), (RX12, 220, "at", 56), (RX12, 225, "and", 57), (RX12, 227, "for", 58), (RX12, 229, "day", 59), (RX12, 231, "night", 60), (RX12, 233, "flame", 61), (RX12, 235, "knows", 62), (RX12, 240, "away", 63), (RX12, 245, "asks", 64), (RX12, 247, "needs", 65), (RX12, 249, "left", 66), (RX12, 255, "run", 67), (RX12, 257, "swing", 68), (RX12, 259, "wind", 69), (RX12, 261, "room", 70), (RX12, 263, "person", 71), (RX12, 265, "rule", 72), (RX12, 267, "change", 73)]
abbrev TT : Type := (Nat → Nat) × (Nat → Nat) × Value
def SX (tt : TT) (A : Nat → Prop) (U : State) (H : Heap) : Prop :=
  (∀ i : Nat, i < nTX → va_O "java/lang/String" (tt.1 i) A U H ∧ va_OF "java/lang/String" "coder" "B" (.int 0) (tt.1 i) A U H ∧ va_OF "java/lang/String" "value" "[B" (.ref (tt.2.1 i)) (tt.1 i) A U H ∧ va_T .byte (tt.2.1 i) (lenTX.getD i 0) (fun j => .int ((bytTX.getD i []).getD j 0)) A U H) ∧ (∀ q ∈ lsTX, vk_R q.1 q.2.1 q.2.2.1 (tt.1 q.2.2.2) U) ∧ va_Z "java/lang/String" "COMPACT_STRINGS" "Z" (.int 1) A U H ∧ va_Z "jdk/internal/util/Preconditions" "SIOOBE_FORMATTER" "Ljava/util/function/BiFunction;" tt.2.2 A U H ∧ (tt.2.2.isRef = true ∧ va_Nw (.methodLinkNest RX2 162 yX3_init "BellowsRow") U)
theorem SX.same {tt : TT} {A : Nat → Prop} {u U : State} {H : Heap} (hv : U.vm = u.vm) (h : SX tt A u H) : SX tt A U H := by
  have ha : u.vm.Alike U.vm := hv ▸ Vm.Alike.refl u.vm
  exact ⟨fun i hi => ⟨va_O.moved ha (h.1 i hi).1, va_OF.moved ha (h.1 i hi).2.1, va_OF.moved ha (h.1 i hi).2.2.1, va_T.moved ha (h.1 i hi).2.2.2⟩, fun q hq => vk_R.same hv (h.2.1 q hq), va_Z.moved ha h.2.2.1, va_Z.moved ha h.2.2.2.1, h.2.2.2.2.1, h.2.2.2.2.2.same rfl hv.symm⟩
theorem SX.at {tt : TT} {A B : Nat → Prop} {s U : State} {H : Heap} {locs : List Loc} (h : SX tt A s s.heap) (hS : va_S A s.heap H locs) (hU : U.heap = H) (hW : s.WarmedH U.vm) (hAB : ∀ q, B q → A q) : SX tt B U U.heap := by
  rw [hU]
  exact ⟨fun i hi => ⟨va_O.moved hW.alike (((h.1 i hi).1.kept hS.2.1).narrow hAB), va_OF.moved hW.alike (((h.1 i hi).2.1.kept hS.2.1).narrow hAB), va_OF.moved hW.alike (((h.1 i hi).2.2.1.kept hS.2.1).narrow hAB), va_T.moved hW.alike (((h.1 i hi).2.2.2.kept hS.2.1).narrow hAB)⟩, fun q hq => vk_R.warm hW (h.2.1 q hq), va_Z.moved hW.alike ((h.2.2.1.kept hS.2.1).narrow hAB), va_Z.moved hW.alike ((h.2.2.2.1.kept hS.2.1).narrow hAB), h.2.2.2.2.1, h.2.2.2.2.2.warmM hW⟩
abbrev PreT (D : va_G) (k : Nat → ClassId) (tt : TT) (sz : Nat) (ws : va_W) (av : List Value) : Array Value → State → Prop := va_Pc av (fun U => U.heap.size = sz ∧ va_P D vwCl ws U.heap ∧ va_K D vwCl (TYS k) U ∧ va_D (fun _ => True) ws ∧ NW U ∧ SX tt (va_A ws sz) U U.heap)
theorem PreT_blind {D : va_G} {k : Nat → ClassId} {tt : TT} {sz : Nat} {ws : va_W} {av : List Value} : FrameBlind (PreT D k tt sz ws av) := fun a U g mk q => ⟨q.1, q.2.1, q.2.2.1, va_K.moved (u := U) (U := U.calling g mk a) (Vm.Alike.refl U.vm) q.2.2.2.1, q.2.2.2.2.1, NW.same (u := U) (U := U.calling g mk a) rfl q.2.2.2.2.2.1, SX.same (u := U) (U := U.calling g mk a) rfl q.2.2.2.2.2.2⟩
theorem PreT_at {D : va_G} {k : Nat → ClassId} {tt : TT} {wc : va_W} {av : List Value} {s U : State} {H : Heap} {A : Nat → Prop} {locs : List Loc} (hP : va_P D vwCl wc H) (hK : va_K D vwCl (TYS k) s) (hD : va_D A wc) (hN : NW s) (hE : SX tt A s s.heap) (hS : va_S A s.heap H locs) (hF : ∀ q, va_A wc H.size q → A q) (hU : U.heap = H) (hW : s.WarmedH U.vm) : PreT D k tt H.size wc av av.toArray U := ⟨rfl, by rw [hU], by rw [hU]; exact hP, va_K.moved hW.alike hK, hD.weaken (fun _ _ _ _ => trivial), hN.warm hW, hE.at hS hU hW hF⟩
abbrev PreJ (tt : TT) (av : List Value) : Array Value → State → Prop := va_Pc av (fun U => SX tt (fun _ => False) U U.heap)
theorem PreJ_blind {tt : TT} {av : List Value} : FrameBlind (PreJ tt av) := fun a U g mk q => ⟨q.1, SX.same (u := U) (U := U.calling g mk a) rfl q.2⟩
section PTXT
variable {p : Program} {l : Launch} {e : Env} {R : Room} {s : State} {m : MethodId} {args : Array Value} {below : List Frame} {meth : Method} {c : Code} {H : Heap} {locs : List Loc} {cells slots : Nat} {Q : State → Prop}
variable {y : MethodName} {bytes cc : ByteArray} {maxL nL mc ms n index pc : Nat} {ret : Option FieldType} {ws : List Cond} {rm : Room} {Ts : List Cond} {own C : String} {b : Addr} {As rest st0 : List Value} {ls : Array Slot}
variable {D : va_G} {k : Nat → ClassId} {A : Nat → Prop} {w0 : va_W} {tt : TT}
theorem va_ldcSw (hexec : p.tables.exec = Jvm.exec) (hb : c.code = cc) {own tx : String} {index q : Nat} (hown : s.vm.findClass own = some m.cls) (hZ : vk_R own index tx q s) (hdg : decode cc pc = .ok (.ldc_w index, 3))
    (k : W p l e R s m args below meth c H locs cells slots Q (F0 m (pc + 3) ls (.ref q :: rest))) : W p l e R s m args below meth c H locs cells slots Q (F0 m pc ls rest) := by
  intro T hT X
  obtain ⟨t, a1, b1⟩ := k T hT X
  refine ⟨t, ?_, b1⟩
  obtain ⟨k, cf, i, a', hk, hcf, hcp, -, hr, hev'⟩ := Cond.stringRef_spec hown hZ.1
  cases hZ.2.symm.trans hev'
  obtain ⟨k', hk', he⟩ := X.warmed.alike.2.2 _ _ hk
  have hr' : k'.resolved[index]? = some (some (.string q)) := by
    rcases X.warmed.entry hk hk' index with h | ⟨h, -⟩
    · rw [h]; exact hr
    · rw [hr] at h; cases h
  have hdg' : decode c.code (F0 m pc ls rest).pc = .ok (.ldc_w index, 3) := by rw [hb]; exact hdg
  jvm_step X.here [hexec, hdg', ldc_w.wp_string (e := e) (s := T) (f := F0 m pc ls rest) X.here.top hk' (by rw [he]; exact hcf) hcp hr']
  exact a1
theorem jvi {post : Int32 → Prop} (S : CallFix p m c cc nL s args Ts own) (hM : Met l y ws rm (PreJ tt (.ref b :: As)) (vp_Si post) 0 0 (fun _ => False)) (cw : CallW R s args own C index y bytes maxL ret ws rm 0 0 n) (hE : SX tt A s s.heap) (hS : va_S A s.heap H locs) (hrec : ∃ cell : Cell, H[b]? = some cell ∧ cell.vm.isStatics = false ∧ s.vm.findClass C = some cell.cls)
    (hn : As.length = n) (hsize : ls.size = nL) (hst : st0 = As.reverse ++ .ref b :: rest) (hW : (rest.map fun v => v.category).sum ≤ 8) (hdg : decode cc pc = .ok (.invokevirtual index, 3)) (hf : cells ≤ R.cells ∧ slots ≤ R.slots)
    (kk : ∀ r : Int32, post r → W p l e R s m args below meth c H locs cells slots Q (F0 m (pc + 3) ls (.int r :: rest))) : W p l e R s m args below meth c H locs cells slots Q (F0 m pc ls st0) :=
  vp_callSi (va_runV (g := F0 m pc ls st0) S hM cw ⟨PreJ_blind, hrec, fun U hU hW => ⟨rfl, hE.at hS hU hW (fun _ h => h.elim)⟩⟩ rfl hn hsize hst (lv_room hW) hdg hf).run kk
theorem jsi {post : Int32 → Prop} (S : CallFix p m c cc nL s args Ts own) (hM : Met l y ws rm (PreJ tt As) (vp_Si post) 0 0 (fun _ => False)) (cw : CallB R s args own index y bytes maxL ret ws rm 0 0 n ∧ (Cond.static y).before args s = true) (hE : SX tt A s s.heap) (hS : va_S A s.heap H locs)
    (hn : As.length = n) (hsize : ls.size = nL) (hst : st0 = As.reverse ++ rest) (hW : (rest.map fun v => v.category).sum ≤ 8) (hdg : decode cc pc = .ok (.invokestatic index, 3)) (hf : cells ≤ R.cells ∧ slots ≤ R.slots)
    (kk : ∀ r : Int32, post r → W p l e R s m args below meth c H locs cells slots Q (F0 m (pc + 3) ls (.int r :: rest))) : W p l e R s m args below meth c H locs cells slots Q (F0 m pc ls st0) :=
  vp_callSi (va_runS (g := F0 m pc ls st0) S hM cw ⟨PreJ_blind, fun U hU hW => ⟨rfl, hE.at hS hU hW (fun _ h => h.elim)⟩⟩ rfl hn hsize hst (lv_room hW) hdg hf).run kk
theorem str_recv {w : Nat} (hE : SX tt A s s.heap) (hw : w < nTX) (hS : va_S A s.heap H locs) : ∃ cell : Cell, H[tt.1 w]? = some cell ∧ cell.vm.isStatics = false ∧ s.vm.findClass "java/lang/String" = some cell.cls := by
  obtain ⟨cell, h1, h2, h3, -⟩ := (hE.1 w hw).1.kept hS.2.1
  exact ⟨cell, h1, h2, h3⟩
theorem xvV {S1 : Type} {w1 : S1 → va_W} {post : S1 → Prop} (S : CallFix p m c cc nL s args Ts own) (hM : ∀ sz, Met l y ws rm (PreT D k tt sz w0 (.ref b :: As)) (va_Qv post (WB D (va_A w0 sz) w1) (va_A w0 sz)) mc ms (va_A w0 sz)) (cw : CallW R s args own C index y bytes maxL ret ws rm mc ms n) (hP : va_P D vwCl w0 H) (hK : va_K D vwCl (TYS k) s) (hD : va_D A w0) (hN : NW s) (hE : SX tt A s s.heap) (hS : va_S A s.heap H locs) (hA : ∀ q, s.heap.size ≤ q → A q) (hrec : ∃ cell : Cell, H[b]? = some cell ∧ cell.vm.isStatics = false ∧ s.vm.findClass C = some cell.cls)
    (hn : As.length = n) (hsize : ls.size = nL) (hst : st0 = As.reverse ++ .ref b :: rest) (hW : (rest.map fun v => v.category).sum ≤ 8) (hdg : decode cc pc = .ok (.invokevirtual index, 3)) (hf : cells + mc ≤ R.cells ∧ slots + ms ≤ R.slots)
    (kk : ∀ (u : S1) (H1 : Heap) (locs1 : List Loc), post u → va_P D vwCl (w1 u) H1 → va_D A (w1 u) → va_S A s.heap H1 locs1 → W p l e R s m args below meth c H1 locs1 (cells + mc) (slots + ms) Q (F0 m (pc + 3) ls (rest))) : W p l e R s m args below meth c H locs cells slots Q (F0 m pc ls st0) := by
  have hFc := w_free hD hS hA
  refine va_callv (va_runV (g := F0 m pc ls st0) S (hM H.size) cw ⟨PreT_blind, hrec, fun U hU hW => PreT_at hP hK hD hN hE hS hFc hU hW⟩ rfl hn hsize hst (lv_room hW) hdg hf) hS (fun q _ h => hFc q h) hFc (fun u t H1 locs1 ht hvm hw hB hz1 hk1 hS1 => ?_)
  obtain ⟨hP1, hD1⟩ := hB
  rw [ht] at hP1
  exact kk u H1 locs1 hw hP1 (hD1.weaken (fun i q _ h => hFc q.1 h)) hS1
theorem xiV {S1 : Type} {w1 : S1 → va_W} {post : Int32 → S1 → Prop} (S : CallFix p m c cc nL s args Ts own) (hM : ∀ sz, Met l y ws rm (PreT D k tt sz w0 (.ref b :: As)) (va_Qi post (WB D (va_A w0 sz) w1) (va_A w0 sz)) mc ms (va_A w0 sz)) (cw : CallW R s args own C index y bytes maxL ret ws rm mc ms n) (hP : va_P D vwCl w0 H) (hK : va_K D vwCl (TYS k) s) (hD : va_D A w0) (hN : NW s) (hE : SX tt A s s.heap) (hS : va_S A s.heap H locs) (hA : ∀ q, s.heap.size ≤ q → A q) (hrec : ∃ cell : Cell, H[b]? = some cell ∧ cell.vm.isStatics = false ∧ s.vm.findClass C = some cell.cls)
    (hn : As.length = n) (hsize : ls.size = nL) (hst : st0 = As.reverse ++ .ref b :: rest) (hW : (rest.map fun v => v.category).sum ≤ 8) (hdg : decode cc pc = .ok (.invokevirtual index, 3)) (hf : cells + mc ≤ R.cells ∧ slots + ms ≤ R.slots)
    (kk : ∀ (r : Int32) (u : S1) (H1 : Heap) (locs1 : List Loc), post r u → va_P D vwCl (w1 u) H1 → va_D A (w1 u) → va_S A s.heap H1 locs1 → W p l e R s m args below meth c H1 locs1 (cells + mc) (slots + ms) Q (F0 m (pc + 3) ls (.int r :: rest))) : W p l e R s m args below meth c H locs cells slots Q (F0 m pc ls st0) := by
  have hFc := w_free hD hS hA
  refine va_calli (va_runV (g := F0 m pc ls st0) S (hM H.size) cw ⟨PreT_blind, hrec, fun U hU hW => PreT_at hP hK hD hN hE hS hFc hU hW⟩ rfl hn hsize hst (lv_room hW) hdg hf) hS (fun q _ h => hFc q h) hFc (fun r u t H1 locs1 ht hvm hw hB hz1 hk1 hS1 => ?_)
  obtain ⟨hP1, hD1⟩ := hB
  rw [ht] at hP1
  exact kk r u H1 locs1 hw hP1 (hD1.weaken (fun i q _ h => hFc q.1 h)) hS1
theorem xqV {S1 : Type} {w1 : S1 → va_W} {post : Option Nat → S1 → Prop} (S : CallFix p m c cc nL s args Ts own) (hM : ∀ sz, Met l y ws rm (PreT D k tt sz w0 (.ref b :: As)) (va_Qq post (WB D (va_A w0 sz) w1) (va_A w0 sz)) mc ms (va_A w0 sz)) (cw : CallW R s args own C index y bytes maxL ret ws rm mc ms n) (hP : va_P D vwCl w0 H) (hK : va_K D vwCl (TYS k) s) (hD : va_D A w0) (hN : NW s) (hE : SX tt A s s.heap) (hS : va_S A s.heap H locs) (hA : ∀ q, s.heap.size ≤ q → A q) (hrec : ∃ cell : Cell, H[b]? = some cell ∧ cell.vm.isStatics = false ∧ s.vm.findClass C = some cell.cls)
    (hn : As.length = n) (hsize : ls.size = nL) (hst : st0 = As.reverse ++ .ref b :: rest) (hW : (rest.map fun v => v.category).sum ≤ 8) (hdg : decode cc pc = .ok (.invokevirtual index, 3)) (hf : cells + mc ≤ R.cells ∧ slots + ms ≤ R.slots)
    (kk : ∀ (r : Option Nat) (u : S1) (H1 : Heap) (locs1 : List Loc), post r u → va_P D vwCl (w1 u) H1 → va_D A (w1 u) → va_S A s.heap H1 locs1 → W p l e R s m args below meth c H1 locs1 (cells + mc) (slots + ms) Q (F0 m (pc + 3) ls (va_rf r :: rest))) : W p l e R s m args below meth c H locs cells slots Q (F0 m pc ls st0) := by
  have hFc := w_free hD hS hA
  refine va_callq (va_runV (g := F0 m pc ls st0) S (hM H.size) cw ⟨PreT_blind, hrec, fun U hU hW => PreT_at hP hK hD hN hE hS hFc hU hW⟩ rfl hn hsize hst (lv_room hW) hdg hf) hS (fun q _ h => hFc q h) hFc (fun r u t H1 locs1 ht hvm hw hB hz1 hk1 hS1 => ?_)
  obtain ⟨hP1, hD1⟩ := hB
  rw [ht] at hP1
  exact kk r u H1 locs1 hw hP1 (hD1.weaken (fun i q _ h => hFc q.1 h)) hS1
end PTXT
set_option maxHeartbeats 4000000 in
set_option maxRecDepth 100000 in
theorem t_J0_coder_7d493 (l : Launch) (tt : TT) (w : Nat) (hw : w < nTX) : Met l yJ0_coder_7d493 wsJ0_coder_7d493 ({ frames := 0, cells := 0, slots := 0, locals := 0 }) (PreJ tt [.ref (tt.1 w)]) (vp_Si (fun r => r = 0)) 0 0 (fun _ => False) := by
  refine Met.ofW (cc := cJ0_coder_7d493) (maxL := 1) (ret := (some .byte)) (by decide) rfl ?_
  intro p e s m args below meth c s₁ B hml hv
  obtain ⟨rfl, hE⟩ := hv
  have hx := B.exec
  have hb := B.bytes
  have hr := B.returns
  have hts := atoms_spec (ws := wsJ0_coder_7d493) B.pre
  have hown : s.vm.findClass RJ0 = some m.cls := findClass_of_methodNamed B.named
  have hS : va_S (fun _ : Nat => False) s.heap s.heap [] := va_S.rf
  have hl := lv_entry ([.ref (tt.1 w)]) (n := 1) (Nat.le_of_ble_eq_true rfl)
  rw [lg_entry_eq]
  generalize (lg_sl ([.ref (tt.1 w)]) ++ List.replicate (1 - (lg_sl ([.ref (tt.1 w)])).length) Slot.unset).toArray = ls at hl ⊢
  have hl : lv_has ls 1 [(0, .ref (tt.1 w))] := hl
  refine va_gets hx hb hE.2.2.1 hS hown (hts (.fieldLink RJ0 38 "java/lang/String" "COMPACT_STRINGS" "Z") (by decide +kernel)) (fun _ h9 => h9) dJ0_coder_7d493_0 ?_
  refine lv_if_eq (tgt := 13) hx hb dJ0_coder_7d493_3 (by decide) (fun h => absurd h (by decide)) (fun _ => ?_)
  refine lv_aload_n hx hb dJ0_coder_7d493_6 rfl (lv_at hl 0 rfl) ?_
  refine vk_getf hx hb ((hE.1 w hw).2.1) hS hown (hts (.fieldLink RJ0 15 "java/lang/String" "coder" "B") (by decide +kernel)) (fun _ h9 => h9) dJ0_coder_7d493_7 ?_
  refine lv_goto (tgt := 14) hx hb dJ0_coder_7d493_10 (by decide) ?_
  exact W.zret (v := 0) hx hb hr rfl (fun t ht hW => ⟨0, rfl, rfl, ht⟩) (fun q h => by cases h) dJ0_coder_7d493_14
set_option maxHeartbeats 4000000 in
set_option maxRecDepth 100000 in
theorem t_J0_isLatin1_aae02 (l : Launch) (tt : TT) (w : Nat) (hw : w < nTX) : Met l yJ0_isLatin1_aae02 wsJ0_isLatin1_aae02 ({ frames := 0, cells := 0, slots := 0, locals := 0 }) (PreJ tt [.ref (tt.1 w)]) (vp_Si (fun r => r = 1)) 0 0 (fun _ => False) := by
  refine Met.ofW (cc := cJ0_isLatin1_aae02) (maxL := 1) (ret := (some .boolean)) (by decide) rfl ?_
  intro p e s m args below meth c s₁ B hml hv
  obtain ⟨rfl, hE⟩ := hv
  have hx := B.exec
  have hb := B.bytes
  have hr := B.returns
  have hts := atoms_spec (ws := wsJ0_isLatin1_aae02) B.pre
  have hown : s.vm.findClass RJ0 = some m.cls := findClass_of_methodNamed B.named
  have hS : va_S (fun _ : Nat => False) s.heap s.heap [] := va_S.rf
  have hl := lv_entry ([.ref (tt.1 w)]) (n := 1) (Nat.le_of_ble_eq_true rfl)
  rw [lg_entry_eq]
  generalize (lg_sl ([.ref (tt.1 w)]) ++ List.replicate (1 - (lg_sl ([.ref (tt.1 w)])).length) Slot.unset).toArray = ls at hl ⊢
  have hl : lv_has ls 1 [(0, .ref (tt.1 w))] := hl
  refine va_gets hx hb hE.2.2.1 hS hown (hts (.fieldLink RJ0 38 "java/lang/String" "COMPACT_STRINGS" "Z") (by decide +kernel)) (fun _ h9 => h9) dJ0_isLatin1_aae02_0 ?_
  refine lv_if_eq (tgt := 17) hx hb dJ0_isLatin1_aae02_3 (by decide) (fun h => absurd h (by decide)) (fun _ => ?_)
  refine lv_aload_n hx hb dJ0_isLatin1_aae02_6 rfl (lv_at hl 0 rfl) ?_
  refine vk_getf hx hb ((hE.1 w hw).2.1) hS hown (hts (.fieldLink RJ0 15 "java/lang/String" "coder" "B") (by decide +kernel)) (fun _ h9 => h9) dJ0_isLatin1_aae02_7 ?_
  refine lv_if_ne (tgt := 17) hx hb dJ0_isLatin1_aae02_10 (by decide) (fun h => absurd rfl h) (fun _ => ?_)
  refine lv_iconst (v := 1) hx hb dJ0_isLatin1_aae02_13 (by decide) ?_
  refine lv_goto (tgt := 18) hx hb dJ0_isLatin1_aae02_14 (by decide) ?_
  exact W.zret (v := 1) hx hb hr rfl (fun t ht hW => ⟨1, rfl, rfl, ht⟩) (fun q h => by cases h) dJ0_isLatin1_aae02_18
theorem tx_len : ∀ i, i < nTX → (lenTX.getD i 0 = (bytTX.getD i []).length ∧ 0 < lenTX.getD i 0 ∧ lenTX.getD i 0 ≤ 7) := by decide +kernel
theorem tx_byt : ∀ i, i < nTX → ∀ b ∈ bytTX.getD i [], (b &&& 255 = b ∧ (b.toUInt32 % 65536).toInt32 = b ∧ narrow .char (.int b) = .int b) := by decide +kernel
def chTX (w j : Nat) : Int32 := (bytTX.getD w []).getD j 0
set_option maxHeartbeats 4000000 in
set_option maxRecDepth 100000 in
theorem t_J0_length_8abf5 (l : Launch) (tt : TT) (w : Nat) (hw : w < nTX) : Met l yJ0_length_8abf5 wsJ0_length_8abf5 ({ frames := 1, cells := 0, slots := 0, locals := 20 }) (PreJ tt [.ref (tt.1 w)]) (vp_Si (fun r => r = nI (lenTX.getD w 0))) 0 0 (fun _ => False) := by
  refine Met.ofW (cc := cJ0_length_8abf5) (maxL := 1) (ret := (some .int)) (by decide) rfl ?_
  intro p e s m args below meth c s₁ B hml hv
  obtain ⟨rfl, hE⟩ := hv
  have hx := B.exec
  have hb := B.bytes
  have hr := B.returns
  have hts := atoms_spec (ws := wsJ0_length_8abf5) B.pre
  have hown : s.vm.findClass RJ0 = some m.cls := findClass_of_methodNamed B.named
  have hS : va_S (fun _ : Nat => False) s.heap s.heap [] := va_S.rf
  have hl := lv_entry ([.ref (tt.1 w)]) (n := 1) (Nat.le_of_ble_eq_true rfl)
  rw [lg_entry_eq]
  generalize (lg_sl ([.ref (tt.1 w)]) ++ List.replicate (1 - (lg_sl ([.ref (tt.1 w)])).length) Slot.unset).toArray = ls at hl ⊢
  have hl : lv_has ls 1 [(0, .ref (tt.1 w))] := hl
  have hlen := tx_len w hw
  refine lv_aload_n hx hb dJ0_length_8abf5_0 rfl (lv_at hl 0 rfl) ?_
  refine vk_getf hx hb ((hE.1 w hw).2.2.1) hS hown (hts (.fieldLink RJ0 9 "java/lang/String" "value" "[B") (by decide +kernel)) (fun _ h9 => h9) dJ0_length_8abf5_1 ?_
  refine va_tlen hx hb ((hE.1 w hw).2.2.2) hS (v := nI (lenTX.getD w 0)) rfl dJ0_length_8abf5_4 ?_
  refine lv_aload_n hx hb dJ0_length_8abf5_5 rfl (lv_at hl 0 rfl) ?_
  refine jvi (C := RJ0) (As := []) (rest := [.int (nI (lenTX.getD w 0))]) ⟨hx, hb, hml, hown, hts⟩ (t_J0_coder_7d493 l tt w hw) (cwV 0 hts gJ0_length_8abf5_J0_coder_7d493 rfl rfl rfl (by decide +kernel) ⟨Nat.le_of_ble_eq_true rfl, Nat.le_of_ble_eq_true rfl⟩) hE hS (str_recv hE hw hS) rfl hl.1 rfl (Nat.le_of_ble_eq_true rfl) dJ0_length_8abf5_6 ⟨Nat.le_of_ble_eq_true rfl, Nat.le_of_ble_eq_true rfl⟩ (fun r hq => ?_)
  subst hq
  refine lv_ishr hx hb dJ0_length_8abf5_9 ?_
  have e0 : nI (lenTX.getD w 0) >>> ((0 : Int32) &&& 31) = nI (lenTX.getD w 0) := by
    rw [show ((0 : Int32) &&& 31) = 0 from by decide]
    exact Int32.toInt_inj.mp (by rw [pk_shr (nI (lenTX.getD w 0)) 0 0 (by decide), Int.shiftRight_eq_div_pow]; exact Int.ediv_one _)
  refine lv_topi (fun x ex => ?_)
  obtain rfl := ex.trans e0
  exact W.iret hx hb hr (fun t ht hW => ⟨_, rfl, rfl, ht⟩) (fun q h => by cases h) dJ0_length_8abf5_10
theorem getD_in {L : List Int32} {j : Nat} (h : j < L.length) : L.getD j 0 ∈ L := by
  rw [List.getD_eq_getElem?_getD, List.getElem?_eq_getElem h]
  exact List.getElem_mem h
set_option maxHeartbeats 4000000 in
theorem t_J3_checkIndex_8e157 (l : Launch) (tt : TT) (p1 p2 : Int32) (h : 0 ≤ p1.toInt ∧ p1.toInt < p2.toInt) (fv : Value) (hf : fv = .null ∨ ∃ a, fv = .ref a) : Met l yJ3_checkIndex_8e157 wsJ3_checkIndex_8e157 ({ frames := 0, cells := 0, slots := 0, locals := 0 }) (PreJ tt [.int p1, .int p2, fv]) (vp_Si (fun r => r = p1)) 0 0 (fun _ => False) := by
  refine Met.ofW (cc := cJ3_checkIndex_8e157) (maxL := 3) (ret := (some .int)) (by decide) rfl ?_
  intro p e s m args below meth c s₁ B hml hv
  obtain ⟨rfl, hE⟩ := hv
  have hx := B.exec
  have hb := B.bytes
  have hr := B.returns
  have hS : va_S (fun _ : Nat => False) s.heap s.heap [] := va_S.rf
  rcases hf with rfl | ⟨a, rfl⟩
  · have hl := lv_entry ([.int p1, .int p2, .null]) (n := 3) (Nat.le_of_ble_eq_true rfl)
    rw [lg_entry_eq]
    generalize (lg_sl ([.int p1, .int p2, .null]) ++ List.replicate (3 - (lg_sl ([.int p1, .int p2, .null])).length) Slot.unset).toArray = ls at hl ⊢
    have hl : lv_has ls 3 [(0, .int p1), (1, .int p2)] := lv_sub hl [0, 1] rfl
    refine lv_iload_n hx hb dJ3_checkIndex_8e157_0 rfl (lv_at hl 0 rfl) ?_
    refine lv_if_lt (tgt := 9) hx hb dJ3_checkIndex_8e157_1 (by decide) (fun c => absurd c (by rw [i_lt]; show ¬ p1.toInt < 0; omega)) (fun _ => ?_)
    refine lv_iload_n hx hb dJ3_checkIndex_8e157_4 rfl (lv_at hl 0 rfl) ?_
    refine lv_iload_n hx hb dJ3_checkIndex_8e157_5 rfl (lv_at hl 1 rfl) ?_
    refine lv_icmp_lt (tgt := 16) hx hb dJ3_checkIndex_8e157_6 (by decide) (fun _ => ?_) (fun c => absurd (i_lt.mpr h.2) c)
    refine lv_iload_n hx hb dJ3_checkIndex_8e157_16 rfl (lv_at hl 0 rfl) ?_
    exact W.iret hx hb hr (fun t ht hW => ⟨_, rfl, rfl, ht⟩) (fun q h => by cases h) dJ3_checkIndex_8e157_17
  · have hl := lv_entry ([.int p1, .int p2, .ref a]) (n := 3) (Nat.le_of_ble_eq_true rfl)
    rw [lg_entry_eq]
    generalize (lg_sl ([.int p1, .int p2, .ref a]) ++ List.replicate (3 - (lg_sl ([.int p1, .int p2, .ref a])).length) Slot.unset).toArray = ls at hl ⊢
    have hl : lv_has ls 3 [(0, .int p1), (1, .int p2)] := lv_sub hl [0, 1] rfl
    refine lv_iload_n hx hb dJ3_checkIndex_8e157_0 rfl (lv_at hl 0 rfl) ?_
    refine lv_if_lt (tgt := 9) hx hb dJ3_checkIndex_8e157_1 (by decide) (fun c => absurd c (by rw [i_lt]; show ¬ p1.toInt < 0; omega)) (fun _ => ?_)
    refine lv_iload_n hx hb dJ3_checkIndex_8e157_4 rfl (lv_at hl 0 rfl) ?_
    refine lv_iload_n hx hb dJ3_checkIndex_8e157_5 rfl (lv_at hl 1 rfl) ?_
    refine lv_icmp_lt (tgt := 16) hx hb dJ3_checkIndex_8e157_6 (by decide) (fun _ => ?_) (fun c => absurd (i_lt.mpr h.2) c)
    refine lv_iload_n hx hb dJ3_checkIndex_8e157_16 rfl (lv_at hl 0 rfl) ?_
    exact W.iret hx hb hr (fun t ht hW => ⟨_, rfl, rfl, ht⟩) (fun q h => by cases h) dJ3_checkIndex_8e157_17
theorem ref_or {v : Value} (h : v.isRef = true) : v = .null ∨ ∃ a, v = .ref a := by
  cases v <;> simp [Value.isRef] at h ⊢
def vp_Sv : Array Value → State → Outcome → State → Prop := fun _ st o t => o = .returned none ∧ t.heap = st.heap
section PTV
variable {p : Program} {l : Launch} {e : Env} {R : Room} {s : State} {m : MethodId} {args : Array Value} {below : List Frame} {meth : Method} {c : Code} {H : Heap} {locs : List Loc} {cells slots : Nat} {Q : State → Prop}
variable {y : MethodName} {bytes cc : ByteArray} {maxL nL mc ms n index pc : Nat} {ret : Option FieldType} {ws : List Cond} {rm : Room} {Ts : List Cond} {own C : String} {b : Addr} {As rest st0 : List Value} {ls : Array Slot}
variable {A : Nat → Prop} {tt : TT}
theorem vp_callSv {a : Array Value} {st0 : List Value} (hr : CallRun p l e R s m args below meth c H locs cells slots 0 0 (F0 m pc ls st0) rest (vp_Sv a) (fun _ => False))
    (kk : W p l e R s m args below meth c H locs cells slots Q (F0 m (pc + 3) ls rest)) : W p l e R s m args below meth c H locs cells slots Q (F0 m pc ls st0) := by
  intro T hT X
  obtain ⟨v, st₀, t, T', L, h0, X', hL, e1, ⟨hv, hh⟩, st⟩ := hr T hT X
  cases hv
  obtain ⟨t2, a1, b1⟩ := kk T' (by rw [e1, hh, h0]) (Stand.forget X' (fun q h => (hL q h).elim))
  exact ⟨t2, st t2 a1, b1⟩
theorem jsv (S : CallFix p m c cc nL s args Ts own) (hM : Met l y ws rm (PreJ tt As) vp_Sv 0 0 (fun _ => False)) (cw : CallB R s args own index y bytes maxL ret ws rm 0 0 n ∧ (Cond.static y).before args s = true) (hE : SX tt A s s.heap) (hS : va_S A s.heap H locs)
    (hn : As.length = n) (hsize : ls.size = nL) (hst : st0 = As.reverse ++ rest) (hW : (rest.map fun v => v.category).sum ≤ 8) (hdg : decode cc pc = .ok (.invokestatic index, 3)) (hf : cells ≤ R.cells ∧ slots ≤ R.slots)
    (kk : W p l e R s m args below meth c H locs cells slots Q (F0 m (pc + 3) ls rest)) : W p l e R s m args below meth c H locs cells slots Q (F0 m pc ls st0) :=
  vp_callSv (va_runS (g := F0 m pc ls st0) S hM cw ⟨PreJ_blind, fun U hU hW => ⟨rfl, hE.at hS hU hW (fun _ h => h.elim)⟩⟩ rfl hn hsize hst (lv_room hW) hdg hf).run kk
end PTV
set_option maxHeartbeats 4000000 in
set_option maxRecDepth 100000 in
theorem t_J0_checkIndex_df160 (l : Launch) (tt : TT) (p1 p2 : Int32) (h : 0 ≤ p1.toInt ∧ p1.toInt < p2.toInt) : Met l yJ0_checkIndex_df160 wsJ0_checkIndex_df160 ({ frames := 1, cells := 0, slots := 0, locals := 22 }) (PreJ tt [.int p1, .int p2]) vp_Sv 0 0 (fun _ => False) := by
  refine Met.ofW (cc := cJ0_checkIndex_df160) (maxL := 2) (ret := none) (by decide) rfl ?_
  intro p e s m args below meth c s₁ B hml hv
  obtain ⟨rfl, hE⟩ := hv
  have hx := B.exec
  have hb := B.bytes
  have hr := B.returns
  have hts := atoms_spec (ws := wsJ0_checkIndex_df160) B.pre
  have hown : s.vm.findClass RJ0 = some m.cls := findClass_of_methodNamed B.named
  have hS : va_S (fun _ : Nat => False) s.heap s.heap [] := va_S.rf
  have hl := lv_entry ([.int p1, .int p2]) (n := 2) (Nat.le_of_ble_eq_true rfl)
  rw [lg_entry_eq]
  generalize (lg_sl ([.int p1, .int p2]) ++ List.replicate (2 - (lg_sl ([.int p1, .int p2])).length) Slot.unset).toArray = ls at hl ⊢
  have hl : lv_has ls 2 [(0, .int p1), (1, .int p2)] := hl
  refine lv_iload_n hx hb dJ0_checkIndex_df160_0 rfl (lv_at hl 0 rfl) ?_
  refine lv_iload_n hx hb dJ0_checkIndex_df160_1 rfl (lv_at hl 1 rfl) ?_
  refine va_gets hx hb hE.2.2.2.1 hS hown (hts (.fieldLink RJ0 1053 "jdk/internal/util/Preconditions" "SIOOBE_FORMATTER" "Ljava/util/function/BiFunction;") (by decide +kernel)) (fun _ h9 => h9) dJ0_checkIndex_df160_2 ?_
  refine jsi (As := [.int p1, .int p2, tt.2.2]) (rest := []) ⟨hx, hb, hml, hown, hts⟩ (t_J3_checkIndex_8e157 l tt p1 p2 h tt.2.2 (ref_or hE.2.2.2.2.1)) (va_cwS 3 hts gJ0_checkIndex_df160_J3_checkIndex_8e157 rfl rfl rfl (by decide +kernel) ⟨Nat.le_of_ble_eq_true rfl, Nat.le_of_ble_eq_true rfl⟩) hE hS rfl hl.1 rfl (Nat.le_of_ble_eq_true rfl) dJ0_checkIndex_df160_5 ⟨Nat.le_of_ble_eq_true rfl, Nat.le_of_ble_eq_true rfl⟩ (fun r hq => ?_)
  refine lv_pop hx hb dJ0_checkIndex_df160_8 rfl ?_
  exact W.vret hx hb hr (fun t ht hW => ⟨rfl, ht⟩) (fun q h => by cases h) dJ0_checkIndex_df160_9
set_option maxHeartbeats 4000000 in
set_option maxRecDepth 100000 in
theorem t_J1_charAt_3b067 (l : Launch) (tt : TT) (w : Nat) (hw : w < nTX) (p1 : Int32) (h : 0 ≤ p1.toInt ∧ p1.toInt < lenTX.getD w 0) : Met l yJ1_charAt_3b067 wsJ1_charAt_3b067 ({ frames := 2, cells := 0, slots := 0, locals := 43 }) (PreJ tt [.ref (tt.2.1 w), .int p1]) (vp_Si (fun r => r = chTX w p1.toNatClampNeg)) 0 0 (fun _ => False) := by
  refine Met.ofW (cc := cJ1_charAt_3b067) (maxL := 2) (ret := (some .char)) (by decide) rfl ?_
  intro p e s m args below meth c s₁ B hml hv
  obtain ⟨rfl, hE⟩ := hv
  have hx := B.exec
  have hb := B.bytes
  have hr := B.returns
  have hts := atoms_spec (ws := wsJ1_charAt_3b067) B.pre
  have hown : s.vm.findClass RJ1 = some m.cls := findClass_of_methodNamed B.named
  have hS : va_S (fun _ : Nat => False) s.heap s.heap [] := va_S.rf
  have hl := lv_entry ([.ref (tt.2.1 w), .int p1]) (n := 2) (Nat.le_of_ble_eq_true rfl)
  rw [lg_entry_eq]
  generalize (lg_sl ([.ref (tt.2.1 w), .int p1]) ++ List.replicate (2 - (lg_sl ([.ref (tt.2.1 w), .int p1])).length) Slot.unset).toArray = ls at hl ⊢
  have hl : lv_has ls 2 [(0, .ref (tt.2.1 w)), (1, .int p1)] := hl
  have hlen := tx_len w hw
  have hN : (nI (lenTX.getD w 0)).toInt = lenTX.getD w 0 := nI_toInt (by omega)
  have hin : vp_in p1 (lenTX.getD w 0) := vp_in_iff.mpr (by omega)
  have hch : ∀ j, j < lenTX.getD w 0 → chTX w j ∈ bytTX.getD w [] := fun j hj => by
    rw [hlen.1] at hj
    exact getD_in hj
  have hc := tx_byt w hw _ (hch p1.toNatClampNeg (cl_lt hin))
  refine lv_iload_n hx hb dJ1_charAt_3b067_0 rfl (lv_at hl 1 rfl) ?_
  refine lv_aload_n hx hb dJ1_charAt_3b067_1 rfl (lv_at hl 0 rfl) ?_
  refine va_tlen hx hb ((hE.1 w hw).2.2.2) hS (v := nI (lenTX.getD w 0)) rfl dJ1_charAt_3b067_2 ?_
  refine jsv (As := [.int p1, .int (nI (lenTX.getD w 0))]) (rest := []) ⟨hx, hb, hml, hown, hts⟩ (t_J0_checkIndex_df160 l tt p1 (nI (lenTX.getD w 0)) (by omega)) (va_cwS 2 hts gJ1_charAt_3b067_J0_checkIndex_df160 rfl rfl rfl (by decide +kernel) ⟨Nat.le_of_ble_eq_true rfl, Nat.le_of_ble_eq_true rfl⟩) hE hS rfl hl.1 rfl (Nat.le_of_ble_eq_true rfl) dJ1_charAt_3b067_3 ⟨Nat.le_of_ble_eq_true rfl, Nat.le_of_ble_eq_true rfl⟩ ?_
  refine lv_aload_n hx hb dJ1_charAt_3b067_6 rfl (lv_at hl 0 rfl) ?_
  refine lv_iload_n hx hb dJ1_charAt_3b067_7 rfl (lv_at hl 1 rfl) ?_
  refine va_tb hx hb ((hE.1 w hw).2.2.2) hS hin (v := .int (chTX w p1.toNatClampNeg)) rfl dJ1_charAt_3b067_8 ?_
  refine lv_sipush (v := 255) hx hb dJ1_charAt_3b067_9 (by decide) ?_
  refine lv_iand hx hb dJ1_charAt_3b067_12 ?_
  refine lv_topi (fun x ex => ?_)
  obtain rfl := ex.trans hc.1
  refine lv_i2c hx hb dJ1_charAt_3b067_13 hc.2.1 ?_
  exact W.zret (v := chTX w p1.toNatClampNeg) hx hb hr hc.2.2 (fun t ht hW => ⟨_, rfl, rfl, ht⟩) (fun q h => by cases h) dJ1_charAt_3b067_14
set_option maxHeartbeats 4000000 in
set_option maxRecDepth 100000 in
theorem t_J0_charAt_5068e (l : Launch) (tt : TT) (w : Nat) (hw : w < nTX) (p1 : Int32) (h : 0 ≤ p1.toInt ∧ p1.toInt < lenTX.getD w 0) : Met l yJ0_charAt_5068e wsJ0_charAt_5068e ({ frames := 3, cells := 0, slots := 0, locals := 64 }) (PreJ tt [.ref (tt.1 w), .int p1]) (vp_Si (fun r => r = chTX w p1.toNatClampNeg)) 0 0 (fun _ => False) := by
  refine Met.ofW (cc := cJ0_charAt_5068e) (maxL := 2) (ret := (some .char)) (by decide) rfl ?_
  intro p e s m args below meth c s₁ B hml hv
  obtain ⟨rfl, hE⟩ := hv
  have hx := B.exec
  have hb := B.bytes
  have hr := B.returns
  have hts := atoms_spec (ws := wsJ0_charAt_5068e) B.pre
  have hown : s.vm.findClass RJ0 = some m.cls := findClass_of_methodNamed B.named
  have hS : va_S (fun _ : Nat => False) s.heap s.heap [] := va_S.rf
  have hl := lv_entry ([.ref (tt.1 w), .int p1]) (n := 2) (Nat.le_of_ble_eq_true rfl)
  rw [lg_entry_eq]
  generalize (lg_sl ([.ref (tt.1 w), .int p1]) ++ List.replicate (2 - (lg_sl ([.ref (tt.1 w), .int p1])).length) Slot.unset).toArray = ls at hl ⊢
  have hl : lv_has ls 2 [(0, .ref (tt.1 w)), (1, .int p1)] := hl
  have hlen := tx_len w hw
  have hin : vp_in p1 (lenTX.getD w 0) := vp_in_iff.mpr (by omega)
  have hch : ∀ j, j < lenTX.getD w 0 → chTX w j ∈ bytTX.getD w [] := fun j hj => by
    rw [hlen.1] at hj
    exact getD_in hj
  have hc := tx_byt w hw _ (hch p1.toNatClampNeg (cl_lt hin))
  refine lv_aload_n hx hb dJ0_charAt_5068e_0 rfl (lv_at hl 0 rfl) ?_
  refine jvi (C := RJ0) (As := []) (rest := []) ⟨hx, hb, hml, hown, hts⟩ (t_J0_isLatin1_aae02 l tt w hw) (cwV 0 hts gJ0_charAt_5068e_J0_isLatin1_aae02 rfl rfl rfl (by decide +kernel) ⟨Nat.le_of_ble_eq_true rfl, Nat.le_of_ble_eq_true rfl⟩) hE hS (str_recv hE hw hS) rfl hl.1 rfl (Nat.le_of_ble_eq_true rfl) dJ0_charAt_5068e_1 ⟨Nat.le_of_ble_eq_true rfl, Nat.le_of_ble_eq_true rfl⟩ (fun r hq => ?_)
  subst hq
  refine lv_if_eq (tgt := 16) hx hb dJ0_charAt_5068e_4 (by decide) (fun h => absurd h (by decide)) (fun _ => ?_)
  refine lv_aload_n hx hb dJ0_charAt_5068e_7 rfl (lv_at hl 0 rfl) ?_
  refine vk_getf hx hb ((hE.1 w hw).2.2.1) hS hown (hts (.fieldLink RJ0 9 "java/lang/String" "value" "[B") (by decide +kernel)) (fun _ h9 => h9) dJ0_charAt_5068e_8 ?_
  refine lv_iload_n hx hb dJ0_charAt_5068e_11 rfl (lv_at hl 1 rfl) ?_
  refine jsi (As := [.ref (tt.2.1 w), .int p1]) (rest := []) ⟨hx, hb, hml, hown, hts⟩ (t_J1_charAt_3b067 l tt w hw p1 h) (va_cwS 2 hts gJ0_charAt_5068e_J1_charAt_3b067 rfl rfl rfl (by decide +kernel) ⟨Nat.le_of_ble_eq_true rfl, Nat.le_of_ble_eq_true rfl⟩) hE hS rfl hl.1 rfl (Nat.le_of_ble_eq_true rfl) dJ0_charAt_5068e_12 ⟨Nat.le_of_ble_eq_true rfl, Nat.le_of_ble_eq_true rfl⟩ (fun r hq => ?_)
  subst hq
  exact W.zret (v := chTX w p1.toNatClampNeg) hx hb hr hc.2.2 (fun t ht hW => ⟨_, rfl, rfl, ht⟩) (fun q h => by cases h) dJ0_charAt_5068e_15
