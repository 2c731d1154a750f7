
def CInv (f : Nat → Int64) : Prop := f 0 = 0 ∧ ∀ j, 0 ≤ (f j).toInt ∧ (f j).toInt ≤ 1152921504606846976
def GInv (g : Nat → Int64) : Prop := g 0 = 0 ∧ ∀ j, 0 ≤ (g j).toInt ∧ (g j).toInt ≤ 1099511627776
theorem CInv_0 : CInv (fun _ => 0) := ⟨rfl, fun _ => (by decide : (0 : Int) ≤ (0 : Int64).toInt ∧ (0 : Int64).toInt ≤ 1152921504606846976)⟩
theorem GInv_0 : GInv (fun _ => 0) := ⟨rfl, fun _ => (by decide : (0 : Int) ≤ (0 : Int64).toInt ∧ (0 : Int64).toInt ≤ 1099511627776)⟩
theorem CInv_upd {f : Nat → Int64} {i : Nat} {v : Int64} (hf : CInv f) (h1 : 0 ≤ v.toInt) (h2 : v.toInt ≤ 1152921504606846976) (h3 : i = 0 → v = 0) : CInv (vp_updL f i v) := by
  refine ⟨?_, fun j => ?_⟩
  · unfold vp_updL
    by_cases h : (0 : Nat) = i
    · rw [if_pos h]; exact h3 h.symm
    · rw [if_neg h]; exact hf.1
  · unfold vp_updL
    by_cases h : j = i
    · simp only [if_pos h]; exact ⟨h1, h2⟩
    · simp only [if_neg h]; exact hf.2 j
theorem GInv_upd {f : Nat → Int64} {i : Nat} {v : Int64} (hf : GInv f) (h1 : 0 ≤ v.toInt) (h2 : v.toInt ≤ 1099511627776) (h3 : i = 0 → v = 0) : GInv (vp_updL f i v) := by
  refine ⟨?_, fun j => ?_⟩
  · unfold vp_updL
    by_cases h : (0 : Nat) = i
    · rw [if_pos h]; exact h3 h.symm
    · rw [if_neg h]; exact hf.1
  · unfold vp_updL
    by_cases h : j = i
    · simp only [if_pos h]; exact ⟨h1, h2⟩
    · simp only [if_neg h]; exact hf.2 j
theorem l_add {a b : Int64} (h1 : 0 ≤ a.toInt) (h2 : a.toInt ≤ 1152921504606846976) (h3 : 0 ≤ b.toInt) (h4 : b.toInt ≤ 1099511627776) : (a + b).toInt = a.toInt + b.toInt := by
  rw [Int64.toInt_add]
  exact Int.bmod_eq_of_le (by omega) (by omega)
theorem l_min {a b : Int64} (ha : 0 ≤ a.toInt) (hb : 0 ≤ b.toInt) : 0 ≤ (if a < b then a else b).toInt ∧ (if a < b then a else b).toInt ≤ b.toInt ∧ (a = 0 ∨ b = 0 → (if a < b then a else b) = 0) := by
  by_cases h : a < b
  · rw [if_pos h]
    rw [Int64.lt_iff_toInt_lt] at h
    refine ⟨ha, by omega, fun q => ?_⟩
    rcases q with q | q
    · exact q
    · rw [q] at h
      exact absurd h (by rw [show (0 : Int64).toInt = 0 from rfl]; omega)
  · rw [if_neg h]
    rw [Int64.lt_iff_toInt_lt] at h
    refine ⟨hb, by omega, fun q => ?_⟩
    rcases q with q | q
    · rw [q, show (0 : Int64).toInt = 0 from rfl] at h
      exact Int64.toInt_inj.mp (by rw [show (0 : Int64).toInt = 0 from rfl]; omega)
    · exact q
def bc (x : Int32) : Int32 :=
  let a := x - ((x.toUInt32 >>> ((1 : Int32).toUInt32 &&& Int32.toUInt32 31)).toInt32 &&& 1431655765)
  let b := (a &&& 858993459) + ((a.toUInt32 >>> ((2 : Int32).toUInt32 &&& Int32.toUInt32 31)).toInt32 &&& 858993459)
  let c := (b + (b.toUInt32 >>> ((4 : Int32).toUInt32 &&& Int32.toUInt32 31)).toInt32) &&& 252645135
  let d := c + (c.toUInt32 >>> ((8 : Int32).toUInt32 &&& Int32.toUInt32 31)).toInt32
  let e := d + (d.toUInt32 >>> ((16 : Int32).toUInt32 &&& Int32.toUInt32 31)).toInt32
  e &&& 63
def costE (kd sj : Int32) : Int64 := (0 + (bc sj).toInt64 <<< ((16 : Int32).toInt64 &&& 63)) + (sj <<< (4 * kd &&& 31)).toInt64
theorem cost_ok : ∀ kd, kd < 4 → ∀ sj, sj < 16 → (0 ≤ (costE (nI kd) (nI sj)).toInt ∧ (costE (nI kd) (nI sj)).toInt ≤ 1099511627776) ∧ (sj = 0 → costE (nI kd) (nI sj) = 0) := by decide +kernel
theorem bc_0 : bc 0 = 0 := by decide
set_option maxHeartbeats 4000000 in
set_option maxRecDepth 100000 in
theorem c_J6_bitCount_0f7a4 (l : Launch) (D : va_G) (k : Nat → ClassId) (p1 : Int32) : Met l yJ6_bitCount_0f7a4 wsJ6_bitCount_0f7a4 ({ frames := 0, cells := 0, slots := 0, locals := 0 }) (PreR D k [] [.int p1]) (vp_Si (fun r => r = bc p1)) 0 0 (fun _ => False) := by
  refine Met.ofW (cc := cJ6_bitCount_0f7a4) (maxL := 1) (ret := (some .int)) (by decide) rfl ?_
  intro p e s m args below meth c s₁ B hml hv
  obtain ⟨rfl, hP, hK⟩ := hv
  have hx := B.exec
  have hb := B.bytes
  have hr := B.returns
  have hts := atoms_spec (ws := wsJ6_bitCount_0f7a4) B.pre
  have hown : s.vm.findClass RJ6 = some m.cls := findClass_of_methodNamed B.named
  have hlocks := B.notSynchronized
  have hl := lv_entry ([.int p1]) (n := 1) (Nat.le_of_ble_eq_true rfl)
  rw [lg_entry_eq]
  generalize (lg_sl ([.int p1]) ++ List.replicate (1 - (lg_sl ([.int p1])).length) Slot.unset).toArray = ls at hl ⊢
  have hl : lv_has ls 1 [(0, .int p1)] := hl
  refine lv_iload_n hx hb dJ6_bitCount_0f7a4_0 rfl (lv_at hl 0 rfl) ?_
  refine lv_iload_n hx hb dJ6_bitCount_0f7a4_1 rfl (lv_at hl 0 rfl) ?_
  refine lv_iconst (v := 1) hx hb dJ6_bitCount_0f7a4_2 (by decide) ?_
  refine lv_iushr hx hb dJ6_bitCount_0f7a4_3 rfl ?_
  refine lv_topi (fun x1 ex1 => ?_)
  refine lv_ldcw (own := RJ6) (v := 1431655765) hx hb hown (hts (.constant RJ6 265 (1431655765)) (by decide +kernel)) dJ6_bitCount_0f7a4_4 ?_
  refine lv_iand hx hb dJ6_bitCount_0f7a4_7 ?_
  refine lv_topi (fun x2 ex2 => ?_)
  refine lv_isub hx hb dJ6_bitCount_0f7a4_8 ?_
  refine lv_topi (fun x3 ex3 => ?_)
  refine lv_istore_n (lv' := [(0, .int x3)]) hx hb dJ6_bitCount_0f7a4_9 rfl hl (by decide) rfl (fun ls hl => ?_)
  refine lv_iload_n hx hb dJ6_bitCount_0f7a4_10 rfl (lv_at hl 0 rfl) ?_
  refine lv_ldcw (own := RJ6) (v := 858993459) hx hb hown (hts (.constant RJ6 266 (858993459)) (by decide +kernel)) dJ6_bitCount_0f7a4_11 ?_
  refine lv_iand hx hb dJ6_bitCount_0f7a4_14 ?_
  refine lv_topi (fun x4 ex4 => ?_)
  refine lv_iload_n hx hb dJ6_bitCount_0f7a4_15 rfl (lv_at hl 0 rfl) ?_
  refine lv_iconst (v := 2) hx hb dJ6_bitCount_0f7a4_16 (by decide) ?_
  refine lv_iushr hx hb dJ6_bitCount_0f7a4_17 rfl ?_
  refine lv_topi (fun x5 ex5 => ?_)
  refine lv_ldcw (own := RJ6) (v := 858993459) hx hb hown (hts (.constant RJ6 266 (858993459)) (by decide +kernel)) dJ6_bitCount_0f7a4_18 ?_
  refine lv_iand hx hb dJ6_bitCount_0f7a4_21 ?_
  refine lv_topi (fun x6 ex6 => ?_)
  refine lv_iadd hx hb dJ6_bitCount_0f7a4_22 ?_
  refine lv_topi (fun x7 ex7 => ?_)
  refine lv_istore_n (lv' := [(0, .int x7)]) hx hb dJ6_bitCount_0f7a4_23 rfl hl (by decide) rfl (fun ls hl => ?_)
  refine lv_iload_n hx hb dJ6_bitCount_0f7a4_24 rfl (lv_at hl 0 rfl) ?_
  refine lv_iload_n hx hb dJ6_bitCount_0f7a4_25 rfl (lv_at hl 0 rfl) ?_
  refine lv_iconst (v := 4) hx hb dJ6_bitCount_0f7a4_26 (by decide) ?_
  refine lv_iushr hx hb dJ6_bitCount_0f7a4_27 rfl ?_
  refine lv_topi (fun x8 ex8 => ?_)
  refine lv_iadd hx hb dJ6_bitCount_0f7a4_28 ?_
  refine lv_topi (fun x9 ex9 => ?_)
  refine lv_ldcw (own := RJ6) (v := 252645135) hx hb hown (hts (.constant RJ6 267 (252645135)) (by decide +kernel)) dJ6_bitCount_0f7a4_29 ?_
  refine lv_iand hx hb dJ6_bitCount_0f7a4_32 ?_
  refine lv_topi (fun x10 ex10 => ?_)
  refine lv_istore_n (lv' := [(0, .int x10)]) hx hb dJ6_bitCount_0f7a4_33 rfl hl (by decide) rfl (fun ls hl => ?_)
  refine lv_iload_n hx hb dJ6_bitCount_0f7a4_34 rfl (lv_at hl 0 rfl) ?_
  refine lv_iload_n hx hb dJ6_bitCount_0f7a4_35 rfl (lv_at hl 0 rfl) ?_
  refine lv_bipush (v := 8) hx hb dJ6_bitCount_0f7a4_36 (by decide) ?_
  refine lv_iushr hx hb dJ6_bitCount_0f7a4_38 rfl ?_
  refine lv_topi (fun x11 ex11 => ?_)
  refine lv_iadd hx hb dJ6_bitCount_0f7a4_39 ?_
  refine lv_topi (fun x12 ex12 => ?_)
  refine lv_istore_n (lv' := [(0, .int x12)]) hx hb dJ6_bitCount_0f7a4_40 rfl hl (by decide) rfl (fun ls hl => ?_)
  refine lv_iload_n hx hb dJ6_bitCount_0f7a4_41 rfl (lv_at hl 0 rfl) ?_
  refine lv_iload_n hx hb dJ6_bitCount_0f7a4_42 rfl (lv_at hl 0 rfl) ?_
  refine lv_bipush (v := 16) hx hb dJ6_bitCount_0f7a4_43 (by decide) ?_
  refine lv_iushr hx hb dJ6_bitCount_0f7a4_45 rfl ?_
  refine lv_topi (fun x13 ex13 => ?_)
  refine lv_iadd hx hb dJ6_bitCount_0f7a4_46 ?_
  refine lv_topi (fun x14 ex14 => ?_)
  refine lv_istore_n (lv' := [(0, .int x14)]) hx hb dJ6_bitCount_0f7a4_47 rfl hl (by decide) rfl (fun ls hl => ?_)
  refine lv_iload_n hx hb dJ6_bitCount_0f7a4_48 rfl (lv_at hl 0 rfl) ?_
  refine lv_bipush (v := 63) hx hb dJ6_bitCount_0f7a4_49 (by decide) ?_
  refine lv_iand hx hb dJ6_bitCount_0f7a4_51 ?_
  refine lv_topi (fun x15 ex15 => ?_)
  exact W.iret (v := x15) hx hb hr (fun t ht hW => ⟨x15, rfl, (by subst ex1 ex2 ex3 ex4 ex5 ex6 ex7 ex8 ex9 ex10 ex11 ex12 ex13 ex14 ex15; rfl), ht⟩) (fun q h => by cases h) dJ6_bitCount_0f7a4_52
set_option maxHeartbeats 4000000 in
set_option maxRecDepth 100000 in
theorem c_X4_cost (l : Launch) (D : va_G) (k : Nat → ClassId) (a : Nat → Nat) (p1 : Int32) (p2 : Int32) : Met l yX4_cost wsX4_cost ({ frames := 1, cells := 0, slots := 0, locals := 24 }) (PreR D k [e36 k a] [.ref (a 36), .int p1, .int p2]) (vp_Sl (fun r => r = costE p1 p2)) 0 0 (fun _ => False) := by
  refine Met.ofW (cc := cX4_cost) (maxL := 9) (ret := (some .long)) (by decide) rfl ?_
  intro p e s m args below meth c s₁ B hml hv
  obtain ⟨rfl, hP, hK⟩ := hv
  have hx := B.exec
  have hb := B.bytes
  have hr := B.returns
  have hts := atoms_spec (ws := wsX4_cost) B.pre
  have hown : s.vm.findClass RX4 = some m.cls := findClass_of_methodNamed B.named
  have hlocks := B.notSynchronized
  have hl := lv_entry ([.ref (a 36), .int p1, .int p2]) (n := 9) (Nat.le_of_ble_eq_true rfl)
  rw [lg_entry_eq]
  generalize (lg_sl ([.ref (a 36), .int p1, .int p2]) ++ List.replicate (9 - (lg_sl ([.ref (a 36), .int p1, .int p2])).length) Slot.unset).toArray = ls at hl ⊢
  have hl : lv_has ls 9 [(0, .ref (a 36)), (1, .int p1), (2, .int p2)] := hl
  refine lv_aload_n hx hb dX4_cost_0 rfl (lv_at hl 0 rfl) ?_
  refine lv_iload_n hx hb dX4_cost_1 rfl (lv_at hl 1 rfl) ?_
  refine lv_iload_n hx hb dX4_cost_2 rfl (lv_at hl 2 rfl) ?_
  refine pvi (C := RX4) (As := [.int p1, .int p2]) (rest := []) (wc := [e36 k a]) ⟨hx, hb, hml, hown, hts⟩ (c_X4_askedInVain l D k a p1 p2) (cwV 2 hts gX4_cost_X4_askedInVain rfl rfl rfl (by decide +kernel) ⟨Nat.le_of_ble_eq_true rfl, Nat.le_of_ble_eq_true rfl⟩) hP hK [0] rfl 0 rfl rfl rfl rfl hl.1 rfl (Nat.le_of_ble_eq_true rfl) dX4_cost_3 ⟨Nat.le_of_ble_eq_true rfl, Nat.le_of_ble_eq_true rfl⟩ (fun r1 hr1 => ?_)
  obtain rfl := hr1
  refine lv_i2l (v := 0) hx hb dX4_cost_6 (by decide) ?_
  refine lv_lstore_n (lv' := [(3, .long 0), (0, .ref (a 36)), (1, .int p1), (2, .int p2)]) hx hb dX4_cost_7 rfl hl (by decide) rfl (fun ls hl => ?_)
  refine lv_aload_n hx hb dX4_cost_8 rfl (lv_at hl 1 rfl) ?_
  refine lv_iload_n hx hb dX4_cost_9 rfl (lv_at hl 2 rfl) ?_
  refine lv_iload_n hx hb dX4_cost_10 rfl (lv_at hl 3 rfl) ?_
  refine pvi (C := RX4) (As := [.int p1, .int p2]) (rest := []) (wc := [e36 k a]) ⟨hx, hb, hml, hown, hts⟩ (c_X4_askedAll l D k a p1 p2) (cwV 2 hts gX4_cost_X4_askedAll rfl rfl rfl (by decide +kernel) ⟨Nat.le_of_ble_eq_true rfl, Nat.le_of_ble_eq_true rfl⟩) hP hK [0] rfl 0 rfl rfl rfl rfl hl.1 rfl (Nat.le_of_ble_eq_true rfl) dX4_cost_11 ⟨Nat.le_of_ble_eq_true rfl, Nat.le_of_ble_eq_true rfl⟩ (fun r2 hr2 => ?_)
  obtain rfl := hr2
  refine lv_i2l (v := 0) hx hb dX4_cost_14 (by decide) ?_
  refine lv_lstore (lv' := [(5, .long 0), (3, .long 0), (0, .ref (a 36)), (1, .int p1), (2, .int p2)]) hx hb dX4_cost_15 hl (by decide) rfl (fun ls hl => ?_)
  refine lv_iload_n hx hb dX4_cost_17 rfl (lv_at hl 4 rfl) ?_
  refine psi (As := [.int p2]) (rest := []) ⟨hx, hb, hml, hown, hts⟩ (c_J6_bitCount_0f7a4 l D k p2) (va_cwS 1 hts gX4_cost_J6_bitCount_0f7a4 rfl rfl rfl (by decide +kernel) ⟨Nat.le_of_ble_eq_true rfl, Nat.le_of_ble_eq_true rfl⟩) hK rfl hl.1 rfl (Nat.le_of_ble_eq_true rfl) dX4_cost_18 ⟨Nat.le_of_ble_eq_true rfl, Nat.le_of_ble_eq_true rfl⟩ (fun r3 hr3 => ?_)
  refine lv_i2l hx hb dX4_cost_21 rfl ?_
  refine lv_lstore (lv' := [(7, .long r3.toInt64), (5, .long 0), (3, .long 0), (0, .ref (a 36)), (1, .int p1), (2, .int p2)]) hx hb dX4_cost_22 hl (by decide) rfl (fun ls hl => ?_)
  refine lv_lload_n hx hb dX4_cost_24 rfl (lv_at hl 2 rfl) ?_
  refine lv_bipush (v := 24) hx hb dX4_cost_25 (by decide) ?_
  refine lv_lshl (v := 0) hx hb dX4_cost_27 (by decide) ?_
  refine lv_lload hx hb dX4_cost_28 (lv_at hl 1 rfl) ?_
  refine lv_bipush (v := 32) hx hb dX4_cost_30 (by decide) ?_
  refine lv_lshl (v := 0) hx hb dX4_cost_32 (by decide) ?_
  refine lv_lsub hx hb dX4_cost_33 ?_
  refine lv_topl (fun x4 ex4 => ?_)
  obtain rfl : x4 = 0 := ex4.trans (by decide)
  refine lv_lload hx hb dX4_cost_34 (lv_at hl 0 rfl) ?_
  refine lv_bipush (v := 16) hx hb dX4_cost_36 (by decide) ?_
  refine lv_lshl hx hb dX4_cost_38 rfl ?_
  refine lv_topl (fun x5 ex5 => ?_)
  refine lv_ladd hx hb dX4_cost_39 ?_
  refine lv_topl (fun x6 ex6 => ?_)
  refine lv_iload_n hx hb dX4_cost_40 rfl (lv_at hl 5 rfl) ?_
  refine lv_iconst (v := 4) hx hb dX4_cost_41 (by decide) ?_
  refine lv_iload_n hx hb dX4_cost_42 rfl (lv_at hl 4 rfl) ?_
  refine lv_imul hx hb dX4_cost_43 ?_
  refine lv_topi (fun x7 ex7 => ?_)
  refine lv_ishl hx hb dX4_cost_44 ?_
  refine lv_topi (fun x8 ex8 => ?_)
  refine lv_i2l hx hb dX4_cost_45 rfl ?_
  refine lv_ladd hx hb dX4_cost_46 ?_
  refine lv_topl (fun x9 ex9 => ?_)
  exact W.lret (v := x9) hx hb hr (fun t ht hW => ⟨x9, rfl, (by subst hr3 ex5 ex6 ex7 ex8 ex9; rfl), ht⟩) (fun q h => by cases h) dX4_cost_47
set_option maxHeartbeats 4000000 in
set_option maxRecDepth 100000 in
theorem c_X4_cheapestOf (l : Launch) (D : va_G) (k : Nat → ClassId) (a : Nat → Nat) (f g : Nat → Int64) (t0 : Nat) (hf : CInv f) (hg : GInv g) (ht : t0 ≤ 16) : Met l yX4_cheapestOf wsX4_cheapestOf ({ frames := 1, cells := 0, slots := 0, locals := 20 }) (PreR D k [e36 k a, ((a 43), .inl (k 2, 17, .inr (.inl f))), ((a 44), .inl (k 2, 16, .inr (.inl g)))] [.ref (a 36), .int (nI t0)]) (vp_Sl (fun r => 0 ≤ r.toInt ∧ r.toInt ≤ 1152921504606846976 ∧ (t0 = 0 → r = 0))) 0 0 (fun _ => False) := by
  refine Met.ofW (cc := cX4_cheapestOf) (maxL := 6) (ret := (some .long)) (by decide) rfl ?_
  intro p e s m args below meth c s₁ B hml hv
  obtain ⟨rfl, hP, hK⟩ := hv
  have hx := B.exec
  have hb := B.bytes
  have hr := B.returns
  have hts := atoms_spec (ws := wsX4_cheapestOf) B.pre
  have hown : s.vm.findClass RX4 = some m.cls := findClass_of_methodNamed B.named
  have hlocks := B.notSynchronized
  have i_X4 : ∀ w ∈ wsX40, w ∈ wsX4_cheapestOf := by decide +kernel
  have hl := lv_entry ([.ref (a 36), .int (nI t0)]) (n := 6) (Nat.le_of_ble_eq_true rfl)
  rw [lg_entry_eq]
  generalize (lg_sl ([.ref (a 36), .int (nI t0)]) ++ List.replicate (6 - (lg_sl ([.ref (a 36), .int (nI t0)])).length) Slot.unset).toArray = ls at hl ⊢
  have hl : lv_has ls 6 [(0, .ref (a 36)), (1, .int (nI t0))] := hl
  refine lv_ldc2 (own := RX4) (v := 1152921504606846976) hx hb hown (hts (.constantLong RX4 55 (1152921504606846976)) (by decide +kernel)) dX4_cheapestOf_0 ?_
  refine lv_lstore_n (lv' := [(2, .long 1152921504606846976), (0, .ref (a 36)), (1, .int (nI t0))]) hx hb dX4_cheapestOf_3 rfl hl (by decide) rfl (fun ls hl => ?_)
  refine lv_iconst (v := 0) hx hb dX4_cheapestOf_4 (by decide) ?_
  refine lv_istore (lv' := [(4, .int 0), (2, .long 1152921504606846976), (0, .ref (a 36)), (1, .int (nI t0))]) hx hb dX4_cheapestOf_5 hl (by decide) rfl (fun ls hl => ?_)
  have lp1 : ∀ (n1 j2 : Nat) (g0 : Int64) (ls : Array Slot), j2 + n1 = 16 → 0 ≤ j2 → (0 ≤ g0.toInt ∧ g0.toInt ≤ 1152921504606846976 ∧ (t0 = 0 → 1 ≤ j2 → g0 = 0)) → lv_has ls 6 [(4, .int (nI j2)), (2, .long g0), (0, .ref (a 36)), (1, .int (nI t0))] → W p l e (headSpec wsX4_cheapestOf ({ frames := 1, cells := 0, slots := 0, locals := 20 })).room s m ([.ref (a 36), .int (nI t0)] : List Value).toArray below meth c s.heap [] 0 0 (MQ below (vp_Sl (fun r => 0 ≤ r.toInt ∧ r.toInt ≤ 1152921504606846976 ∧ (t0 = 0 → r = 0))) ([.ref (a 36), .int (nI t0)] : List Value).toArray s 0 0 (fun _ => False)) (F0 m 7 ls []) := by
    intro n1
    induction n1 with
    | zero =>
      intro j2 g0 ls hjlp1 hlolp1 hIlp1 hl
      obtain rfl : j2 = 16 := by omega
      have hl : lv_has ls 6 [(4, .int 16), (2, .long g0), (0, .ref (a 36)), (1, .int (nI t0))] := hl
      refine lv_iload hx hb dX4_cheapestOf_7 (lv_at hl 0 rfl) ?_
      refine lv_bipush (v := 16) hx hb dX4_cheapestOf_9 (by decide) ?_
      refine lv_icmp_ge (tgt := 75) hx hb dX4_cheapestOf_11 (by decide) (fun _ => ?_) (fun h => absurd (by decide) h)
      refine lv_lload_n hx hb dX4_cheapestOf_75 rfl (lv_at hl 1 rfl) ?_
      exact W.lret (v := g0) hx hb hr (fun t ht hW => ⟨g0, rfl, ⟨hIlp1.1, hIlp1.2.1, fun h => hIlp1.2.2 h (by decide)⟩, ht⟩) (fun q h => by cases h) dX4_cheapestOf_76
    | succ n1 ihlp1 =>
      intro j2 g0 ls hjlp1 hlolp1 hIlp1 hl
      have hj : j2 < 16 := by omega
      refine lv_iload hx hb dX4_cheapestOf_7 (lv_at hl 0 rfl) ?_
      refine lv_bipush (v := 16) hx hb dX4_cheapestOf_9 (by decide) ?_
      refine lv_icmp_ge (tgt := 75) hx hb dX4_cheapestOf_11 (by decide) (fun h => absurd h (nI_ge (a := j2) (b := 16) (by omega) (by decide))) (fun _ => ?_)
      refine lv_iload_n hx hb dX4_cheapestOf_14 rfl (lv_at hl 3 rfl) ?_
      refine lv_iload hx hb dX4_cheapestOf_15 (lv_at hl 0 rfl) ?_
      refine psi (As := [.int (nI j2)]) (rest := [.int (nI t0)]) ⟨hx, hb, hml, hown, hts⟩ (c_J6_bitCount_0f7a4 l D k (nI j2)) (va_cwS 1 hts gX4_cheapestOf_J6_bitCount_0f7a4 rfl rfl rfl (by decide +kernel) ⟨Nat.le_of_ble_eq_true rfl, Nat.le_of_ble_eq_true rfl⟩) hK rfl hl.1 rfl (Nat.le_of_ble_eq_true rfl) dX4_cheapestOf_17 ⟨Nat.le_of_ble_eq_true rfl, Nat.le_of_ble_eq_true rfl⟩ (fun r3 hr3 => ?_)
      refine lv_isub hx hb dX4_cheapestOf_20 ?_
      refine lv_topi (fun x4 ex4 => ?_)
      refine lv_istore (lv' := [(5, .int x4), (4, .int (nI j2)), (2, .long g0), (0, .ref (a 36)), (1, .int (nI t0))]) hx hb dX4_cheapestOf_21 hl (by decide) rfl (fun ls hl => ?_)
      refine lv_iload hx hb dX4_cheapestOf_23 (lv_at hl 0 rfl) ?_
      refine lv_if_lt (tgt := 69) hx hb dX4_cheapestOf_25 (by decide) (fun c5 => ?_) (fun c5 => ?_)
      · obtain ⟨x6, ex6⟩ : ∃ y : Int32, y = nI j2 + 1 := ⟨_, rfl⟩
        refine lv_iinc (v := x6) (lv' := [(4, .int x6), (5, .int x4), (2, .long g0), (0, .ref (a 36)), (1, .int (nI t0))]) hx hb dX4_cheapestOf_69 hl (k := 1) rfl (by rw [ex6]; rfl) (by decide) rfl (fun ls hl => ?_)
        refine lv_goto (tgt := 7) hx hb dX4_cheapestOf_72 (by decide) ?_
        obtain rfl : x6 = nI (j2 + 1) := ex6.trans (nI_1 j2)
        exact ihlp1 (j2 + 1) g0 _ (by omega) (by omega) ⟨hIlp1.1, hIlp1.2.1, fun h0 h1 => by
        rcases Nat.eq_zero_or_pos j2 with hj0 | hj0
        · exfalso
          have hx0 : x4 = 0 := by rw [ex4, hr3, h0, hj0]; decide
          rw [hx0] at c5; exact absurd c5 (by decide)
        · exact hIlp1.2.2 h0 hj0⟩ (lv_sub hl [0, 2, 3, 4] rfl)
      · refine lv_iload hx hb dX4_cheapestOf_28 (lv_at hl 0 rfl) ?_
        refine lv_bipush (v := 16) hx hb dX4_cheapestOf_30 (by decide) ?_
        refine lv_icmp_gt (tgt := 69) hx hb dX4_cheapestOf_32 (by decide) (fun c7 => ?_) (fun c7 => ?_)
        · obtain ⟨x8, ex8⟩ : ∃ y : Int32, y = nI j2 + 1 := ⟨_, rfl⟩
          refine lv_iinc (v := x8) (lv' := [(4, .int x8), (5, .int x4), (2, .long g0), (0, .ref (a 36)), (1, .int (nI t0))]) hx hb dX4_cheapestOf_69 hl (k := 1) rfl (by rw [ex8]; rfl) (by decide) rfl (fun ls hl => ?_)
          refine lv_goto (tgt := 7) hx hb dX4_cheapestOf_72 (by decide) ?_
          obtain rfl : x8 = nI (j2 + 1) := ex8.trans (nI_1 j2)
          exact ihlp1 (j2 + 1) g0 _ (by omega) (by omega) ⟨hIlp1.1, hIlp1.2.1, fun h0 h1 => by
        rcases Nat.eq_zero_or_pos j2 with hj0 | hj0
        · exfalso
          have hx0 : x4 = 0 := by rw [ex4, hr3, h0, hj0]; decide
          rw [hx0] at c7; exact absurd c7 (by decide)
        · exact hIlp1.2.2 h0 hj0⟩ (lv_sub hl [0, 2, 3, 4] rfl)
        · refine lv_aload_n hx hb dX4_cheapestOf_35 rfl (lv_at hl 3 rfl) ?_
          refine va_get (D := D) (ci := 4) (v := .ref (a 43)) (C := RX4) (T := TX4) (N := 11) hx hb hts i_X4 hown hK hP 0 rfl rfl 9 (by decide) (hts (.fieldLink RX4 40 "BellowsRow$People" "cheapest" "[J") (by decide +kernel)) (fun _ h9 => h9) rfl dX4_cheapestOf_36 ?_
          refine lv_iload hx hb dX4_cheapestOf_39 (lv_at hl 0 rfl) ?_
          refine va_lald hx hb hK hP 1 2 rfl rfl (vp_in_iff.mpr (by (try simp only [i_lt, i_le, i_eq, Int32.toInt_toInt64, Int32.reduceToInt, Int64.reduceToInt] at hIlp1 hr3 ex4 c5 c7 ⊢); omega)) dX4_cheapestOf_41 ?_
          refine lv_topl (fun x9 ex9 => ?_)
          refine lv_ldc2 (own := RX4) (v := 1152921504606846976) hx hb hown (hts (.constantLong RX4 55 (1152921504606846976)) (by decide +kernel)) dX4_cheapestOf_42 ?_
          refine W.lcmp hx hb dX4_cheapestOf_45 ?_
          refine lv_if_eq (tgt := 69) hx hb dX4_cheapestOf_46 (by decide) (fun c10 => ?_) (fun c10 => ?_)
          · obtain ⟨x11, ex11⟩ : ∃ y : Int32, y = nI j2 + 1 := ⟨_, rfl⟩
            refine lv_iinc (v := x11) (lv' := [(4, .int x11), (5, .int x4), (2, .long g0), (0, .ref (a 36)), (1, .int (nI t0))]) hx hb dX4_cheapestOf_69 hl (k := 1) rfl (by rw [ex11]; rfl) (by decide) rfl (fun ls hl => ?_)
            refine lv_goto (tgt := 7) hx hb dX4_cheapestOf_72 (by decide) ?_
            obtain rfl : x11 = nI (j2 + 1) := ex11.trans (nI_1 j2)
            exact ihlp1 (j2 + 1) g0 _ (by omega) (by omega) ⟨hIlp1.1, hIlp1.2.1, fun h0 h1 => by
        rcases Nat.eq_zero_or_pos j2 with hj0 | hj0
        · exfalso
          have hx0 : x4 = 0 := by rw [ex4, hr3, h0, hj0]; decide
          rw [lg_cmp_eq, ex9, hx0] at c10; exact absurd (hf.1.symm.trans c10) (by decide)
        · exact hIlp1.2.2 h0 hj0⟩ (lv_sub hl [0, 2, 3, 4] rfl)
          · refine lv_lload_n hx hb dX4_cheapestOf_49 rfl (lv_at hl 2 rfl) ?_
            refine lv_aload_n hx hb dX4_cheapestOf_50 rfl (lv_at hl 3 rfl) ?_
            refine va_get (D := D) (ci := 4) (v := .ref (a 43)) (C := RX4) (T := TX4) (N := 11) hx hb hts i_X4 hown hK hP 0 rfl rfl 9 (by decide) (hts (.fieldLink RX4 40 "BellowsRow$People" "cheapest" "[J") (by decide +kernel)) (fun _ h9 => h9) rfl dX4_cheapestOf_51 ?_
            refine lv_iload hx hb dX4_cheapestOf_54 (lv_at hl 0 rfl) ?_
            refine va_lald hx hb hK hP 1 2 rfl rfl (vp_in_iff.mpr (by (try simp only [i_lt, i_le, i_eq, Int32.toInt_toInt64, Int32.reduceToInt, Int64.reduceToInt] at hIlp1 hr3 ex4 c5 c7 ex9 c10 ⊢); omega)) dX4_cheapestOf_56 ?_
            refine lv_topl (fun x12 ex12 => ?_)
            refine lv_aload_n hx hb dX4_cheapestOf_57 rfl (lv_at hl 3 rfl) ?_
            refine va_get (D := D) (ci := 4) (v := .ref (a 44)) (C := RX4) (T := TX4) (N := 11) hx hb hts i_X4 hown hK hP 0 rfl rfl 10 (by decide) (hts (.fieldLink RX4 44 "BellowsRow$People" "costs" "[J") (by decide +kernel)) (fun _ h9 => h9) rfl dX4_cheapestOf_58 ?_
            refine lv_iload hx hb dX4_cheapestOf_61 (lv_at hl 1 rfl) ?_
            refine va_lald hx hb hK hP 2 2 rfl rfl (vp_in_nI (by omega) (by decide)) dX4_cheapestOf_63 ?_
            refine lv_topl (fun x13 ex13 => ?_)
            refine lv_ladd hx hb dX4_cheapestOf_64 ?_
            refine lv_topl (fun x14 ex14 => ?_)
            refine va_mmin_long hx hb (hml.trans hl.1.symm) hown (hts (.methodLink RX4 65 Lib.MathLoose.min_long.x) (by decide +kernel)) (hts (.static Lib.MathLoose.min_long.x) (by decide +kernel)) (hts (.initialized "java/lang/Math") (by decide +kernel)) (hts (.code Lib.MathLoose.min_long.x Lib.MathLoose.min_long.code 4 (some .long)) (by decide +kernel)) (Nat.le_of_ble_eq_true rfl) (Nat.le_of_ble_eq_true rfl) (Nat.le_of_ble_eq_true rfl) (Nat.le_of_ble_eq_true rfl) dX4_cheapestOf_65 ?_
            refine lv_topl (fun x15 ex15 => ?_)
            refine lv_lstore_n (lv' := [(2, .long x15), (5, .int x4), (4, .int (nI j2)), (0, .ref (a 36)), (1, .int (nI t0))]) hx hb dX4_cheapestOf_68 rfl hl (by decide) rfl (fun ls hl => ?_)
            obtain ⟨x16, ex16⟩ : ∃ y : Int32, y = nI j2 + 1 := ⟨_, rfl⟩
            refine lv_iinc (v := x16) (lv' := [(4, .int x16), (2, .long x15), (5, .int x4), (0, .ref (a 36)), (1, .int (nI t0))]) hx hb dX4_cheapestOf_69 hl (k := 2) rfl (by rw [ex16]; rfl) (by decide) rfl (fun ls hl => ?_)
            refine lv_goto (tgt := 7) hx hb dX4_cheapestOf_72 (by decide) ?_
            obtain rfl : x16 = nI (j2 + 1) := ex16.trans (nI_1 j2)
            exact ihlp1 (j2 + 1) x15 _ (by omega) (by omega) (by
        have b2 := hf.2 x4.toNatClampNeg
        rw [← ex12] at b2
        have b3 := hg.2 (nI j2).toNatClampNeg
        rw [← ex13] at b3
        have b4 := l_add b2.1 b2.2 b3.1 b3.2
        rw [← ex14] at b4
        have b5 := l_min (a := x14) (b := g0) (by omega) hIlp1.1
        rw [← ex15] at b5
        refine ⟨b5.1, by omega, fun h0 h1 => b5.2.2 ?_⟩
        rcases Nat.eq_zero_or_pos j2 with hj0 | hj0
        · left
          have hx0 : x4 = 0 := by rw [ex4, hr3, h0, hj0]; decide
          rw [ex14, ex12, ex13, hx0, hj0]
          show f 0 + g 0 = 0
          rw [hf.1, hg.1]; rfl
        · exact Or.inr (hIlp1.2.2 h0 hj0)) (lv_sub hl [0, 1, 3, 4] rfl)
  exact lp1 (16) (0) 1152921504606846976 _ (by decide) (by decide) ⟨by decide, by decide, fun _ h => absurd h (by decide)⟩ (lv_sub hl [0, 1, 2, 3] rfl)
set_option maxHeartbeats 4000000 in
set_option maxRecDepth 100000 in
theorem c_X4_leastRules (l : Launch) (D : va_G) (k : Nat → ClassId) (a : Nat → Nat) (p1 : Int32) (hp : 0 ≤ p1.toInt) (sz : Nat) : Met l yX4_leastRules wsX4_leastRules ({ frames := 2, cells := 0, slots := 0, locals := 52 }) (PreM D k sz [e36 k a, e43 k a, e44 k a] [.ref (a 36), .int p1]) (va_Qi (fun r (_ : Unit) => r = 0) (WB D (va_A [e36 k a, e43 k a, e44 k a] sz) (fun (_ : Unit) => ([] : va_W))) (va_A [e36 k a, e43 k a, e44 k a] sz)) 0 0 (va_A [e36 k a, e43 k a, e44 k a] sz) := by
  refine Met.ofW (cc := cX4_leastRules) (maxL := 5) (ret := (some .int)) (by decide) rfl ?_
  intro p e s m args below meth c s₁ B hml hv
  obtain ⟨rfl, hsz, hP, hK, hD0, hN⟩ := hv
  have hx := B.exec
  have hb := B.bytes
  have hr := B.returns
  have hts := atoms_spec (ws := wsX4_leastRules) B.pre
  have hown : s.vm.findClass RX4 = some m.cls := findClass_of_methodNamed B.named
  have hlocks := B.notSynchronized
  have i_X4 : ∀ w ∈ wsX40, w ∈ wsX4_leastRules := by decide +kernel
  subst hsz
  have hD := hD0.self (sz := s.heap.size)
  generalize hAe : va_A [e36 k a, e43 k a, e44 k a] s.heap.size = A at hD ⊢
  have hA : ∀ q : Nat, s.heap.size ≤ q → A q := fun q h => by rw [← hAe]; exact Or.inr h
  have hS : va_S A s.heap s.heap [] := va_S.rf
  have hP : va_P D vwCl [e36 k a, e43 k a, e44 k a] s.heap := hP
  have hl := lv_entry ([.ref (a 36), .int p1]) (n := 5) (Nat.le_of_ble_eq_true rfl)
  rw [lg_entry_eq]
  generalize (lg_sl ([.ref (a 36), .int p1]) ++ List.replicate (5 - (lg_sl ([.ref (a 36), .int p1])).length) Slot.unset).toArray = ls at hl ⊢
  have hl : lv_has ls 5 [(0, .ref (a 36)), (1, .int p1)] := hl
  refine lv_iconst (v := 0) hx hb dX4_leastRules_0 (by decide) ?_
  refine lv_istore_n (lv' := [(2, .int 0), (0, .ref (a 36)), (1, .int p1)]) hx hb dX4_leastRules_1 rfl hl (by decide) rfl (fun ls hl => ?_)
  have lp1 : ∀ (n1 j2 : Nat) (f3 : Nat → Int64) (H : Heap) (locs : List Loc) (ls : Array Slot), j2 + n1 = 17 → 0 ≤ j2 → (CInv f3) → va_P D vwCl [e36 k a, ((a 43), .inl (k 2, 17, .inr (.inl f3))), e44 k a] H → va_D A [e36 k a, ((a 43), .inl (k 2, 17, .inr (.inl f3))), e44 k a] → va_S A s.heap H locs → lv_has ls 5 [(2, .int (nI j2)), (0, .ref (a 36)), (1, .int p1)] → W p l e (headSpec wsX4_leastRules ({ frames := 2, cells := 0, slots := 0, locals := 52 })).room s m ([.ref (a 36), .int p1] : List Value).toArray below meth c H locs 0 0 (MQ below (va_Qi (fun r (_ : Unit) => r = 0) (WB D A (fun (_ : Unit) => ([] : va_W))) A) ([.ref (a 36), .int p1] : List Value).toArray s 0 0 A) (F0 m 2 ls []) := by
    intro n1
    induction n1 with
    | zero =>
      intro j2 f3 H locs ls hjlp1 hlolp1 hIlp1 hP hD hS hl
      obtain rfl : j2 = 17 := by omega
      have hl : lv_has ls 5 [(2, .int 17), (0, .ref (a 36)), (1, .int p1)] := hl
      refine lv_iload_n hx hb dX4_leastRules_2 rfl (lv_at hl 0 rfl) ?_
      refine lv_bipush (v := 16) hx hb dX4_leastRules_3 (by decide) ?_
      refine lv_icmp_gt (tgt := 31) hx hb dX4_leastRules_5 (by decide) (fun _ => ?_) (fun h => absurd (by decide) h)
      refine lv_iconst (v := 0) hx hb dX4_leastRules_31 (by decide) ?_
      refine lv_istore_n (lv' := [(2, .int 0), (0, .ref (a 36)), (1, .int p1)]) hx hb dX4_leastRules_32 rfl hl (by decide) rfl (fun ls hl => ?_)
      have lp2 : ∀ (n4 j5 : Nat) (f6 : Nat → Int64) (f7 : Nat → Int64) (H : Heap) (locs : List Loc) (ls : Array Slot), j5 + n4 = 4 → 0 ≤ j5 → (CInv f6 ∧ GInv f7) → va_P D vwCl [e36 k a, ((a 43), .inl (k 2, 17, .inr (.inl f6))), ((a 44), .inl (k 2, 16, .inr (.inl f7)))] H → va_D A [e36 k a, ((a 43), .inl (k 2, 17, .inr (.inl f6))), ((a 44), .inl (k 2, 16, .inr (.inl f7)))] → va_S A s.heap H locs → lv_has ls 5 [(2, .int (nI j5)), (0, .ref (a 36)), (1, .int p1)] → W p l e (headSpec wsX4_leastRules ({ frames := 2, cells := 0, slots := 0, locals := 52 })).room s m ([.ref (a 36), .int p1] : List Value).toArray below meth c H locs 0 0 (MQ below (va_Qi (fun r (_ : Unit) => r = 0) (WB D A (fun (_ : Unit) => ([] : va_W))) A) ([.ref (a 36), .int p1] : List Value).toArray s 0 0 A) (F0 m 33 ls []) := by
        intro n4
        induction n4 with
        | zero =>
          intro j5 f6 f7 H locs ls hjlp2 hlolp2 hIlp2 hP hD hS hl
          obtain rfl : j5 = 4 := by omega
          have hl : lv_has ls 5 [(2, .int 4), (0, .ref (a 36)), (1, .int p1)] := hl
          refine lv_iload_n hx hb dX4_leastRules_33 rfl (lv_at hl 0 rfl) ?_
          refine lv_iconst (v := 4) hx hb dX4_leastRules_34 (by decide) ?_
          refine lv_icmp_ge (tgt := 94) hx hb dX4_leastRules_35 (by decide) (fun _ => ?_) (fun h => absurd (by decide) h)
          refine lv_ldc2 (own := RX4) (v := 1152921504606846976) hx hb hown (hts (.constantLong RX4 55 (1152921504606846976)) (by decide +kernel)) dX4_leastRules_94 ?_
          refine lv_lstore_n (lv' := [(2, .long 1152921504606846976), (0, .ref (a 36)), (1, .int p1)]) hx hb dX4_leastRules_97 rfl hl (by decide) rfl (fun ls hl => ?_)
          refine lv_iconst (v := 0) hx hb dX4_leastRules_98 (by decide) ?_
          refine lv_istore (lv' := [(4, .int 0), (2, .long 1152921504606846976), (0, .ref (a 36)), (1, .int p1)]) hx hb dX4_leastRules_99 hl (by decide) rfl (fun ls hl => ?_)
          have lp5 : ∀ (n8 j9 : Nat) (g0 : Int64) (H : Heap) (locs : List Loc) (ls : Array Slot), j9 + n8 = 17 → 0 ≤ j9 → (0 ≤ g0.toInt ∧ (1 ≤ j9 → g0 = 0)) → va_P D vwCl [e36 k a, ((a 43), .inl (k 2, 17, .inr (.inl f6))), ((a 44), .inl (k 2, 16, .inr (.inl f7)))] H → va_D A [e36 k a, ((a 43), .inl (k 2, 17, .inr (.inl f6))), ((a 44), .inl (k 2, 16, .inr (.inl f7)))] → va_S A s.heap H locs → lv_has ls 5 [(4, .int (nI j9)), (2, .long g0), (0, .ref (a 36)), (1, .int p1)] → W p l e (headSpec wsX4_leastRules ({ frames := 2, cells := 0, slots := 0, locals := 52 })).room s m ([.ref (a 36), .int p1] : List Value).toArray below meth c H locs 0 0 (MQ below (va_Qi (fun r (_ : Unit) => r = 0) (WB D A (fun (_ : Unit) => ([] : va_W))) A) ([.ref (a 36), .int p1] : List Value).toArray s 0 0 A) (F0 m 101 ls []) := by
            intro n8
            induction n8 with
            | zero =>
              intro j9 g0 H locs ls hjlp5 hlolp5 hIlp5 hP hD hS hl
              obtain rfl : j9 = 17 := by omega
              have hl : lv_has ls 5 [(4, .int 17), (2, .long g0), (0, .ref (a 36)), (1, .int p1)] := hl
              refine lv_iload hx hb dX4_leastRules_101 (lv_at hl 0 rfl) ?_
              refine lv_iload_n hx hb dX4_leastRules_103 rfl (lv_at hl 3 rfl) ?_
              refine lv_icmp_gt (tgt := 132) hx hb dX4_leastRules_104 (by decide) (fun c10 => ?_) (fun c10 => ?_)
              · refine lv_lload_n hx hb dX4_leastRules_132 rfl (lv_at hl 1 rfl) ?_
                refine lv_ldc2 (own := RX4) (v := 65535) hx hb hown (hts (.constantLong RX4 71 (65535)) (by decide +kernel)) dX4_leastRules_133 ?_
                refine lv_land hx hb dX4_leastRules_136 ?_
                refine lv_topl (fun x11 ex11 => ?_)
                refine lv_l2i hx hb dX4_leastRules_137 rfl ?_
                have hP9 := hP.sub (ws' := []) [] rfl
                have hD9 := hD.sub (ws' := []) [] (by decide) rfl
                refine W.widen (k := 0) (n := 0) (Nat.le_of_ble_eq_true rfl) (Nat.le_of_ble_eq_true rfl) ?_
                exact W.iret (v := x11.toInt32) hx hb hr (fun t ht hW => ⟨⟨x11.toInt32, (), rfl, (by rw [ex11, hIlp5.2 (by decide)]; rfl), by rw [ht]; exact hP9, hD9⟩, hS.F ht⟩) hS.2.2 dX4_leastRules_138
              · refine lv_iload hx hb dX4_leastRules_107 (lv_at hl 0 rfl) ?_
                refine lv_bipush (v := 16) hx hb dX4_leastRules_109 (by decide) ?_
                refine lv_icmp_gt (tgt := 132) hx hb dX4_leastRules_111 (by decide) (fun _ => ?_) (fun h => absurd (by decide) h)
                refine lv_lload_n hx hb dX4_leastRules_132 rfl (lv_at hl 1 rfl) ?_
                refine lv_ldc2 (own := RX4) (v := 65535) hx hb hown (hts (.constantLong RX4 71 (65535)) (by decide +kernel)) dX4_leastRules_133 ?_
                refine lv_land hx hb dX4_leastRules_136 ?_
                refine lv_topl (fun x12 ex12 => ?_)
                refine lv_l2i hx hb dX4_leastRules_137 rfl ?_
                have hP9 := hP.sub (ws' := []) [] rfl
                have hD9 := hD.sub (ws' := []) [] (by decide) rfl
                refine W.widen (k := 0) (n := 0) (Nat.le_of_ble_eq_true rfl) (Nat.le_of_ble_eq_true rfl) ?_
                exact W.iret (v := x12.toInt32) hx hb hr (fun t ht hW => ⟨⟨x12.toInt32, (), rfl, (by rw [ex12, hIlp5.2 (by decide)]; rfl), by rw [ht]; exact hP9, hD9⟩, hS.F ht⟩) hS.2.2 dX4_leastRules_138
            | succ n8 ihlp5 =>
              intro j9 g0 H locs ls hjlp5 hlolp5 hIlp5 hP hD hS hl
              have hj : j9 < 17 := by omega
              refine lv_iload hx hb dX4_leastRules_101 (lv_at hl 0 rfl) ?_
              refine lv_iload_n hx hb dX4_leastRules_103 rfl (lv_at hl 3 rfl) ?_
              refine lv_icmp_gt (tgt := 132) hx hb dX4_leastRules_104 (by decide) (fun c13 => ?_) (fun c13 => ?_)
              · refine lv_lload_n hx hb dX4_leastRules_132 rfl (lv_at hl 1 rfl) ?_
                refine lv_ldc2 (own := RX4) (v := 65535) hx hb hown (hts (.constantLong RX4 71 (65535)) (by decide +kernel)) dX4_leastRules_133 ?_
                refine lv_land hx hb dX4_leastRules_136 ?_
                refine lv_topl (fun x14 ex14 => ?_)
                refine lv_l2i hx hb dX4_leastRules_137 rfl ?_
                have hP9 := hP.sub (ws' := []) [] rfl
                have hD9 := hD.sub (ws' := []) [] (by decide) rfl
                refine W.widen (k := 0) (n := 0) (Nat.le_of_ble_eq_true rfl) (Nat.le_of_ble_eq_true rfl) ?_
                exact W.iret (v := x14.toInt32) hx hb hr (fun t ht hW => ⟨⟨x14.toInt32, (), rfl, (by
            have hg0 : g0 = 0 := hIlp5.2 (by
              rcases Nat.eq_zero_or_pos j9 with hj0 | hj0
              · exfalso
                rw [hj0, i_lt] at c13
                exact absurd c13 (by rw [show (nI 0).toInt = 0 from rfl]; omega)
              · exact hj0)
            rw [ex14, hg0]; rfl), by rw [ht]; exact hP9, hD9⟩, hS.F ht⟩) hS.2.2 dX4_leastRules_138
              · refine lv_iload hx hb dX4_leastRules_107 (lv_at hl 0 rfl) ?_
                refine lv_bipush (v := 16) hx hb dX4_leastRules_109 (by decide) ?_
                refine lv_icmp_gt (tgt := 132) hx hb dX4_leastRules_111 (by decide) (fun h => absurd h (nI_nlt (a := 16) (b := j9) (by omega) (by decide))) (fun _ => ?_)
                refine lv_lload_n hx hb dX4_leastRules_114 rfl (lv_at hl 1 rfl) ?_
                refine lv_aload_n hx hb dX4_leastRules_115 rfl (lv_at hl 2 rfl) ?_
                refine va_get (D := D) (ci := 4) (v := .ref (a 43)) (C := RX4) (T := TX4) (N := 11) hx hb hts i_X4 hown hK hP 0 rfl rfl 9 (by decide) (hts (.fieldLink RX4 40 "BellowsRow$People" "cheapest" "[J") (by decide +kernel)) (fun _ h9 => h9) rfl dX4_leastRules_116 ?_
                refine lv_iload hx hb dX4_leastRules_119 (lv_at hl 0 rfl) ?_
                refine va_lald hx hb hK hP 1 2 rfl rfl (vp_in_nI (by omega) (by decide)) dX4_leastRules_121 ?_
                refine lv_topl (fun x15 ex15 => ?_)
                refine va_mmin_long hx hb (hml.trans hl.1.symm) hown (hts (.methodLink RX4 65 Lib.MathLoose.min_long.x) (by decide +kernel)) (hts (.static Lib.MathLoose.min_long.x) (by decide +kernel)) (hts (.initialized "java/lang/Math") (by decide +kernel)) (hts (.code Lib.MathLoose.min_long.x Lib.MathLoose.min_long.code 4 (some .long)) (by decide +kernel)) (Nat.le_of_ble_eq_true rfl) (Nat.le_of_ble_eq_true rfl) (Nat.le_of_ble_eq_true rfl) (Nat.le_of_ble_eq_true rfl) dX4_leastRules_122 ?_
                refine lv_topl (fun x16 ex16 => ?_)
                refine lv_lstore_n (lv' := [(2, .long x16), (4, .int (nI j9)), (0, .ref (a 36)), (1, .int p1)]) hx hb dX4_leastRules_125 rfl hl (by decide) rfl (fun ls hl => ?_)
                obtain ⟨x17, ex17⟩ : ∃ y : Int32, y = nI j9 + 1 := ⟨_, rfl⟩
                refine lv_iinc (v := x17) (lv' := [(4, .int x17), (2, .long x16), (0, .ref (a 36)), (1, .int p1)]) hx hb dX4_leastRules_126 hl (k := 1) rfl (by rw [ex17]; rfl) (by decide) rfl (fun ls hl => ?_)
                refine lv_goto (tgt := 101) hx hb dX4_leastRules_129 (by decide) ?_
                obtain rfl : x17 = nI (j9 + 1) := ex17.trans (nI_1 j9)
                exact ihlp5 (j9 + 1) x16 _ _ _ (by omega) (by omega) (by
          have b2 := hIlp2.2.2 (nI j9).toNatClampNeg
          have b1 := hIlp2.1.2 (nI j9).toNatClampNeg
          rw [← ex15] at b1
          have b5 := l_min (a := x15) (b := g0) b1.1 hIlp5.1
          rw [← ex16] at b5
          refine ⟨b5.1, fun h1 => b5.2.2 ?_⟩
          rcases Nat.eq_zero_or_pos j9 with hj0 | hj0
          · left
            rw [ex15, hj0]
            exact hIlp2.1.1
          · exact Or.inr (hIlp5.2 hj0)) hP hD hS (lv_sub hl [0, 1, 2, 3] rfl)
          exact lp5 (17) (0) 1152921504606846976 _ _ _ (by decide) (by decide) ⟨by decide, fun h => absurd h (by decide)⟩ hP hD hS (lv_sub hl [0, 1, 2, 3] rfl)
        | succ n4 ihlp2 =>
          intro j5 f6 f7 H locs ls hjlp2 hlolp2 hIlp2 hP hD hS hl
          have hj : j5 < 4 := by omega
          refine lv_iload_n hx hb dX4_leastRules_33 rfl (lv_at hl 0 rfl) ?_
          refine lv_iconst (v := 4) hx hb dX4_leastRules_34 (by decide) ?_
          refine lv_icmp_ge (tgt := 94) hx hb dX4_leastRules_35 (by decide) (fun h => absurd h (nI_ge (a := j5) (b := 4) (by omega) (by decide))) (fun _ => ?_)
          refine lv_iconst (v := 0) hx hb dX4_leastRules_38 (by decide) ?_
          refine lv_istore_n (lv' := [(3, .int 0), (2, .int (nI j5)), (0, .ref (a 36)), (1, .int p1)]) hx hb dX4_leastRules_39 rfl hl (by decide) rfl (fun ls hl => ?_)
          have lp3 : ∀ (n18 j19 : Nat) (f20 : Nat → Int64) (H : Heap) (locs : List Loc) (ls : Array Slot), j19 + n18 = 16 → 0 ≤ j19 → (GInv f20) → va_P D vwCl [e36 k a, ((a 43), .inl (k 2, 17, .inr (.inl f6))), ((a 44), .inl (k 2, 16, .inr (.inl f20)))] H → va_D A [e36 k a, ((a 43), .inl (k 2, 17, .inr (.inl f6))), ((a 44), .inl (k 2, 16, .inr (.inl f20)))] → va_S A s.heap H locs → lv_has ls 5 [(3, .int (nI j19)), (2, .int (nI j5)), (0, .ref (a 36)), (1, .int p1)] → W p l e (headSpec wsX4_leastRules ({ frames := 2, cells := 0, slots := 0, locals := 52 })).room s m ([.ref (a 36), .int p1] : List Value).toArray below meth c H locs 0 0 (MQ below (va_Qi (fun r (_ : Unit) => r = 0) (WB D A (fun (_ : Unit) => ([] : va_W))) A) ([.ref (a 36), .int p1] : List Value).toArray s 0 0 A) (F0 m 40 ls []) := by
            intro n18
            induction n18 with
            | zero =>
              intro j19 f20 H locs ls hjlp3 hlolp3 hIlp3 hP hD hS hl
              obtain rfl : j19 = 16 := by omega
              have hl : lv_has ls 5 [(3, .int 16), (2, .int (nI j5)), (0, .ref (a 36)), (1, .int p1)] := hl
              refine lv_iload_n hx hb dX4_leastRules_40 rfl (lv_at hl 0 rfl) ?_
              refine lv_bipush (v := 16) hx hb dX4_leastRules_41 (by decide) ?_
              refine lv_icmp_ge (tgt := 64) hx hb dX4_leastRules_43 (by decide) (fun _ => ?_) (fun h => absurd (by decide) h)
              refine lv_bipush (v := 16) hx hb dX4_leastRules_64 (by decide) ?_
              refine lv_istore_n (lv' := [(3, .int 16), (2, .int (nI j5)), (0, .ref (a 36)), (1, .int p1)]) hx hb dX4_leastRules_66 rfl hl (by decide) rfl (fun ls hl => ?_)
              have lp4 : ∀ (n21 : Nat) (f22 : Nat → Int64) (H : Heap) (locs : List Loc) (ls : Array Slot), n21 ≤ 17 → (CInv f22) → va_P D vwCl [e36 k a, ((a 43), .inl (k 2, 17, .inr (.inl f22))), ((a 44), .inl (k 2, 16, .inr (.inl f20)))] H → va_D A [e36 k a, ((a 43), .inl (k 2, 17, .inr (.inl f22))), ((a 44), .inl (k 2, 16, .inr (.inl f20)))] → va_S A s.heap H locs → lv_has ls 5 [(3, .int (nI n21 - 1)), (2, .int (nI j5)), (0, .ref (a 36)), (1, .int p1)] → W p l e (headSpec wsX4_leastRules ({ frames := 2, cells := 0, slots := 0, locals := 52 })).room s m ([.ref (a 36), .int p1] : List Value).toArray below meth c H locs 0 0 (MQ below (va_Qi (fun r (_ : Unit) => r = 0) (WB D A (fun (_ : Unit) => ([] : va_W))) A) ([.ref (a 36), .int p1] : List Value).toArray s 0 0 A) (F0 m 67 ls []) := by
                intro n21
                induction n21 with
                | zero =>
                  intro f22 H locs ls hjlp4 hIlp4 hP hD hS hl
                  have hl : lv_has ls 5 [(3, .int (-1)), (2, .int (nI j5)), (0, .ref (a 36)), (1, .int p1)] := hl
                  refine lv_iload_n hx hb dX4_leastRules_67 rfl (lv_at hl 0 rfl) ?_
                  refine lv_if_lt (tgt := 88) hx hb dX4_leastRules_68 (by decide) (fun _ => ?_) (fun h => absurd (by decide) h)
                  obtain ⟨x23, ex23⟩ : ∃ y : Int32, y = nI j5 + 1 := ⟨_, rfl⟩
                  refine lv_iinc (v := x23) (lv' := [(2, .int x23), (3, .int (-1)), (0, .ref (a 36)), (1, .int p1)]) hx hb dX4_leastRules_88 hl (k := 1) rfl (by rw [ex23]; rfl) (by decide) rfl (fun ls hl => ?_)
                  refine lv_goto (tgt := 33) hx hb dX4_leastRules_91 (by decide) ?_
                  obtain rfl : x23 = nI (j5 + 1) := ex23.trans (nI_1 j5)
                  exact ihlp2 (j5 + 1) _ _ _ _ _ (by omega) (by omega) ⟨hIlp4, hIlp3⟩ hP hD hS (lv_sub hl [0, 2, 3] rfl)
                | succ n21 ihlp4 =>
                  intro f22 H locs ls hjlp4 hIlp4 hP hD hS hl
                  rw [nI_pred] at hl
                  refine lv_iload_n hx hb dX4_leastRules_67 rfl (lv_at hl 0 rfl) ?_
                  refine lv_if_lt (tgt := 88) hx hb dX4_leastRules_68 (by decide) (fun h => absurd h (nI_pos (by omega))) (fun _ => ?_)
                  refine lv_aload_n hx hb dX4_leastRules_71 rfl (lv_at hl 2 rfl) ?_
                  refine va_get (D := D) (ci := 4) (v := .ref (a 43)) (C := RX4) (T := TX4) (N := 11) hx hb hts i_X4 hown hK hP 0 rfl rfl 9 (by decide) (hts (.fieldLink RX4 40 "BellowsRow$People" "cheapest" "[J") (by decide +kernel)) (fun _ h9 => h9) rfl dX4_leastRules_72 ?_
                  refine lv_iload_n hx hb dX4_leastRules_75 rfl (lv_at hl 0 rfl) ?_
                  refine lv_aload_n hx hb dX4_leastRules_76 rfl (lv_at hl 2 rfl) ?_
                  refine lv_iload_n hx hb dX4_leastRules_77 rfl (lv_at hl 0 rfl) ?_
                  refine pvl (C := RX4) (As := [.int (nI n21)]) (rest := [.int (nI n21), .ref (a 43)]) (wc := [e36 k a, ((a 43), .inl (k 2, 17, .inr (.inl f22))), ((a 44), .inl (k 2, 16, .inr (.inl f20)))]) ⟨hx, hb, hml, hown, hts⟩ (c_X4_cheapestOf l D k a f22 f20 n21 hIlp4 hIlp3 (by omega)) (cwV 1 hts gX4_leastRules_X4_cheapestOf rfl rfl rfl (by decide +kernel) ⟨Nat.le_of_ble_eq_true rfl, Nat.le_of_ble_eq_true rfl⟩) hP hK [0, 1, 2] rfl 0 rfl rfl rfl rfl hl.1 rfl (Nat.le_of_ble_eq_true rfl) dX4_leastRules_78 ⟨Nat.le_of_ble_eq_true rfl, Nat.le_of_ble_eq_true rfl⟩ (fun r24 hr24 => ?_)
                  refine va_last hx hb hK hP hD hS 1 2 rfl rfl (vp_in_nI (by omega) (by decide)) dX4_leastRules_81 (fun H locs hP hD hS => ?_)
                  have hP : va_P D vwCl [e36 k a, ((a 43), .inl (k 2, 17, .inr (.inl (vp_updL f22 (nI n21).toNatClampNeg r24)))), ((a 44), .inl (k 2, 16, .inr (.inl f20)))] H := hP
                  have hD : va_D A [e36 k a, ((a 43), .inl (k 2, 17, .inr (.inl (vp_updL f22 (nI n21).toNatClampNeg r24)))), ((a 44), .inl (k 2, 16, .inr (.inl f20)))] := hD
                  obtain ⟨x25, ex25⟩ : ∃ y : Int32, y = nI n21 + (-1) := ⟨_, rfl⟩
                  refine lv_iinc (v := x25) (lv' := [(3, .int x25), (2, .int (nI j5)), (0, .ref (a 36)), (1, .int p1)]) hx hb dX4_leastRules_82 hl (k := 0) rfl (by rw [ex25]; rfl) (by decide) rfl (fun ls hl => ?_)
                  refine lv_goto (tgt := 67) hx hb dX4_leastRules_85 (by decide) ?_
                  obtain rfl : x25 = nI n21 - 1 := ex25.trans (Int32.sub_eq_add_neg ..).symm
                  exact ihlp4 _ _ _ _ (by omega) (CInv_upd hIlp4 hr24.1 hr24.2.1 (fun q => by rw [nI_clamp (by omega)] at q; exact hr24.2.2 q)) hP hD hS (lv_sub hl [0, 1, 2, 3] rfl)
              exact lp4 17 _ _ _ _ (by decide) hIlp2.1 hP hD hS (lv_sub hl [0, 1, 2, 3] rfl)
            | succ n18 ihlp3 =>
              intro j19 f20 H locs ls hjlp3 hlolp3 hIlp3 hP hD hS hl
              have hj : j19 < 16 := by omega
              refine lv_iload_n hx hb dX4_leastRules_40 rfl (lv_at hl 0 rfl) ?_
              refine lv_bipush (v := 16) hx hb dX4_leastRules_41 (by decide) ?_
              refine lv_icmp_ge (tgt := 64) hx hb dX4_leastRules_43 (by decide) (fun h => absurd h (nI_ge (a := j19) (b := 16) (by omega) (by decide))) (fun _ => ?_)
              refine lv_aload_n hx hb dX4_leastRules_46 rfl (lv_at hl 2 rfl) ?_
              refine va_get (D := D) (ci := 4) (v := .ref (a 44)) (C := RX4) (T := TX4) (N := 11) hx hb hts i_X4 hown hK hP 0 rfl rfl 10 (by decide) (hts (.fieldLink RX4 44 "BellowsRow$People" "costs" "[J") (by decide +kernel)) (fun _ h9 => h9) rfl dX4_leastRules_47 ?_
              refine lv_iload_n hx hb dX4_leastRules_50 rfl (lv_at hl 0 rfl) ?_
              refine lv_aload_n hx hb dX4_leastRules_51 rfl (lv_at hl 2 rfl) ?_
              refine lv_iload_n hx hb dX4_leastRules_52 rfl (lv_at hl 1 rfl) ?_
              refine lv_iload_n hx hb dX4_leastRules_53 rfl (lv_at hl 0 rfl) ?_
              refine pvl (C := RX4) (As := [.int (nI j5), .int (nI j19)]) (rest := [.int (nI j19), .ref (a 44)]) (wc := [e36 k a]) ⟨hx, hb, hml, hown, hts⟩ (c_X4_cost l D k a (nI j5) (nI j19)) (cwV 2 hts gX4_leastRules_X4_cost rfl rfl rfl (by decide +kernel) ⟨Nat.le_of_ble_eq_true rfl, Nat.le_of_ble_eq_true rfl⟩) hP hK [0] rfl 0 rfl rfl rfl rfl hl.1 rfl (Nat.le_of_ble_eq_true rfl) dX4_leastRules_54 ⟨Nat.le_of_ble_eq_true rfl, Nat.le_of_ble_eq_true rfl⟩ (fun r26 hr26 => ?_)
              refine va_last hx hb hK hP hD hS 2 2 rfl rfl (vp_in_nI (by omega) (by decide)) dX4_leastRules_57 (fun H locs hP hD hS => ?_)
              have hP : va_P D vwCl [e36 k a, ((a 43), .inl (k 2, 17, .inr (.inl f6))), ((a 44), .inl (k 2, 16, .inr (.inl (vp_updL f20 (nI j19).toNatClampNeg r26))))] H := hP
              have hD : va_D A [e36 k a, ((a 43), .inl (k 2, 17, .inr (.inl f6))), ((a 44), .inl (k 2, 16, .inr (.inl (vp_updL f20 (nI j19).toNatClampNeg r26))))] := hD
              obtain ⟨x27, ex27⟩ : ∃ y : Int32, y = nI j19 + 1 := ⟨_, rfl⟩
              refine lv_iinc (v := x27) (lv' := [(3, .int x27), (2, .int (nI j5)), (0, .ref (a 36)), (1, .int p1)]) hx hb dX4_leastRules_58 hl (k := 0) rfl (by rw [ex27]; rfl) (by decide) rfl (fun ls hl => ?_)
              refine lv_goto (tgt := 40) hx hb dX4_leastRules_61 (by decide) ?_
              obtain rfl : x27 = nI (j19 + 1) := ex27.trans (nI_1 j19)
              exact ihlp3 (j19 + 1) _ _ _ _ (by omega) (by omega) (GInv_upd hIlp3 (by rw [hr26]; exact (cost_ok _ (by omega) _ (by omega)).1.1) (by rw [hr26]; exact (cost_ok _ (by omega) _ (by omega)).1.2) (fun q => by rw [nI_clamp (by omega)] at q; rw [hr26]; exact (cost_ok _ (by omega) _ (by omega)).2 q)) hP hD hS (lv_sub hl [0, 1, 2, 3] rfl)
          exact lp3 (16) (0) _ _ _ _ (by decide) (by decide) hIlp2.2 hP hD hS (lv_sub hl [0, 1, 2, 3] rfl)
      exact lp2 (4) (0) _ _ _ _ _ (by decide) (by decide) ⟨hIlp1, GInv_0⟩ hP hD hS (lv_sub hl [0, 1, 2] rfl)
    | succ n1 ihlp1 =>
      intro j2 f3 H locs ls hjlp1 hlolp1 hIlp1 hP hD hS hl
      have hj : j2 < 17 := by omega
      refine lv_iload_n hx hb dX4_leastRules_2 rfl (lv_at hl 0 rfl) ?_
      refine lv_bipush (v := 16) hx hb dX4_leastRules_3 (by decide) ?_
      refine lv_icmp_gt (tgt := 31) hx hb dX4_leastRules_5 (by decide) (fun h => absurd h (nI_nlt (a := 16) (b := j2) (by omega) (by decide))) (fun _ => ?_)
      refine lv_aload_n hx hb dX4_leastRules_8 rfl (lv_at hl 1 rfl) ?_
      refine va_get (D := D) (ci := 4) (v := .ref (a 43)) (C := RX4) (T := TX4) (N := 11) hx hb hts i_X4 hown hK hP 0 rfl rfl 9 (by decide) (hts (.fieldLink RX4 40 "BellowsRow$People" "cheapest" "[J") (by decide +kernel)) (fun _ h9 => h9) rfl dX4_leastRules_9 ?_
      refine lv_iload_n hx hb dX4_leastRules_12 rfl (lv_at hl 0 rfl) ?_
      refine lv_iload_n hx hb dX4_leastRules_13 rfl (lv_at hl 0 rfl) ?_
      refine lv_if_ne (tgt := 21) hx hb dX4_leastRules_14 (by decide) (fun c28 => ?_) (fun c28 => ?_)
      · refine lv_ldc2 (own := RX4) (v := 1152921504606846976) hx hb hown (hts (.constantLong RX4 55 (1152921504606846976)) (by decide +kernel)) dX4_leastRules_21 ?_
        refine va_last hx hb hK hP hD hS 1 2 rfl rfl (vp_in_nI (by omega) (by decide)) dX4_leastRules_24 (fun H locs hP hD hS => ?_)
        have hP : va_P D vwCl [e36 k a, ((a 43), .inl (k 2, 17, .inr (.inl (vp_updL f3 (nI j2).toNatClampNeg 1152921504606846976)))), e44 k a] H := hP
        have hD : va_D A [e36 k a, ((a 43), .inl (k 2, 17, .inr (.inl (vp_updL f3 (nI j2).toNatClampNeg 1152921504606846976)))), e44 k a] := hD
        obtain ⟨x29, ex29⟩ : ∃ y : Int32, y = nI j2 + 1 := ⟨_, rfl⟩
        refine lv_iinc (v := x29) (lv' := [(2, .int x29), (0, .ref (a 36)), (1, .int p1)]) hx hb dX4_leastRules_25 hl (k := 0) rfl (by rw [ex29]; rfl) (by decide) rfl (fun ls hl => ?_)
        refine lv_goto (tgt := 2) hx hb dX4_leastRules_28 (by decide) ?_
        obtain rfl : x29 = nI (j2 + 1) := ex29.trans (nI_1 j2)
        exact ihlp1 (j2 + 1) _ _ _ _ (by omega) (by omega) (CInv_upd hIlp1 (by decide) (by decide) (fun q => by rw [nI_clamp (by omega)] at q; exact absurd (by rw [q]; rfl) c28)) hP hD hS (lv_sub hl [0, 1, 2] rfl)
      · refine lv_lconst (v := 0) hx hb dX4_leastRules_17 (by decide) ?_
        refine lv_goto (tgt := 24) hx hb dX4_leastRules_18 (by decide) ?_
        refine va_last hx hb hK hP hD hS 1 2 rfl rfl (vp_in_nI (by omega) (by decide)) dX4_leastRules_24 (fun H locs hP hD hS => ?_)
        have hP : va_P D vwCl [e36 k a, ((a 43), .inl (k 2, 17, .inr (.inl (vp_updL f3 (nI j2).toNatClampNeg 0)))), e44 k a] H := hP
        have hD : va_D A [e36 k a, ((a 43), .inl (k 2, 17, .inr (.inl (vp_updL f3 (nI j2).toNatClampNeg 0)))), e44 k a] := hD
        obtain ⟨x30, ex30⟩ : ∃ y : Int32, y = nI j2 + 1 := ⟨_, rfl⟩
        refine lv_iinc (v := x30) (lv' := [(2, .int x30), (0, .ref (a 36)), (1, .int p1)]) hx hb dX4_leastRules_25 hl (k := 0) rfl (by rw [ex30]; rfl) (by decide) rfl (fun ls hl => ?_)
        refine lv_goto (tgt := 2) hx hb dX4_leastRules_28 (by decide) ?_
        obtain rfl : x30 = nI (j2 + 1) := ex30.trans (nI_1 j2)
        exact ihlp1 (j2 + 1) _ _ _ _ (by omega) (by omega) (CInv_upd hIlp1 (by decide) (by decide) (fun _ => rfl)) hP hD hS (lv_sub hl [0, 1, 2] rfl)
  exact lp1 (17) (0) _ _ _ _ (by decide) (by decide) CInv_0 hP hD hS (lv_sub hl [0, 1, 2] rfl)
set_option maxHeartbeats 4000000 in
set_option maxRecDepth 100000 in
theorem c_X11_rules (l : Launch) (D : va_G) (k : Nat → ClassId) (a : Nat → Nat) (p1 : Int32) (sz : Nat) : Met l yX11_rules wsX11_rules ({ frames := 3, cells := 0, slots := 0, locals := 76 }) (PreM D k sz [e0 k a, e26 k a, e36 k a, e43 k a, e44 k a] [.ref (a 0), .int p1]) (va_Qi (fun r (_ : Unit) => ((0 ≤ p1.toInt ∧ p1.toInt ≤ 16) ∧ r = 0) ∨ (¬ (0 ≤ p1.toInt ∧ p1.toInt ≤ 16) ∧ r = (-2))) (WB D (va_A [e0 k a, e26 k a, e36 k a, e43 k a, e44 k a] sz) (fun (_ : Unit) => ([] : va_W))) (va_A [e0 k a, e26 k a, e36 k a, e43 k a, e44 k a] sz)) 0 0 (va_A [e0 k a, e26 k a, e36 k a, e43 k a, e44 k a] sz) := by
  refine Met.ofW (cc := cX11_rules) (maxL := 2) (ret := (some .int)) (by decide) rfl ?_
  intro p e s m args below meth c s₁ B hml hv
  obtain ⟨rfl, hsz, hP, hK, hD0, hN⟩ := hv
  have hx := B.exec
  have hb := B.bytes
  have hr := B.returns
  have hts := atoms_spec (ws := wsX11_rules) B.pre
  have hown : s.vm.findClass RX11 = some m.cls := findClass_of_methodNamed B.named
  have hlocks := B.notSynchronized
  have i_X10 : ∀ w ∈ wsX100, w ∈ wsX11_rules := by decide +kernel
  have i_X11 : ∀ w ∈ wsX110, w ∈ wsX11_rules := by decide +kernel
  subst hsz
  have hD := hD0.self (sz := s.heap.size)
  generalize hAe : va_A [e0 k a, e26 k a, e36 k a, e43 k a, e44 k a] s.heap.size = A at hD ⊢
  have hA : ∀ q : Nat, s.heap.size ≤ q → A q := fun q h => by rw [← hAe]; exact Or.inr h
  have hS : va_S A s.heap s.heap [] := va_S.rf
  have hP : va_P D vwCl [e0 k a, e26 k a, e36 k a, e43 k a, e44 k a] s.heap := hP
  have hl := lv_entry ([.ref (a 0), .int p1]) (n := 2) (Nat.le_of_ble_eq_true rfl)
  rw [lg_entry_eq]
  generalize (lg_sl ([.ref (a 0), .int p1]) ++ List.replicate (2 - (lg_sl ([.ref (a 0), .int p1])).length) Slot.unset).toArray = ls at hl ⊢
  have hl : lv_has ls 2 [(0, .ref (a 0)), (1, .int p1)] := hl
  refine lv_iload_n hx hb dX11_rules_0 rfl (lv_at hl 1 rfl) ?_
  refine lv_if_lt (tgt := 10) hx hb dX11_rules_1 (by decide) (fun c1 => ?_) (fun c1 => ?_)
  · refine lv_bipush (v := (-2)) hx hb dX11_rules_10 (by decide) ?_
    refine lv_goto (tgt := 26) hx hb dX11_rules_12 (by decide) ?_
    have hP9 := hP.sub (ws' := []) [] rfl
    have hD9 := hD.sub (ws' := []) [] (by decide) rfl
    refine W.widen (k := 0) (n := 0) (Nat.le_of_ble_eq_true rfl) (Nat.le_of_ble_eq_true rfl) ?_
    exact W.iret (v := (-2)) hx hb hr (fun t ht hW => ⟨⟨(-2), (), rfl, Or.inr ⟨by (try simp only [i_lt, i_le, i_eq, Int32.toInt_toInt64, Int32.reduceToInt, Int64.reduceToInt] at c1 ⊢); omega, rfl⟩, by rw [ht]; exact hP9, hD9⟩, hS.F ht⟩) hS.2.2 dX11_rules_26
  · refine lv_iload_n hx hb dX11_rules_4 rfl (lv_at hl 1 rfl) ?_
    refine lv_bipush (v := 16) hx hb dX11_rules_5 (by decide) ?_
    refine lv_icmp_le (tgt := 15) hx hb dX11_rules_7 (by decide) (fun c2 => ?_) (fun c2 => ?_)
    · refine lv_aload_n hx hb dX11_rules_15 rfl (lv_at hl 0 rfl) ?_
      refine va_get (D := D) (ci := 11) (v := .ref (a 26)) (C := RX11) (T := TX11) (N := 11) hx hb hts i_X11 hown hK hP 0 rfl rfl 8 (by decide) (hts (.fieldLink RX11 62 "BellowsRow" "now" "LBellowsRow$Works;") (by decide +kernel)) (fun _ h9 => h9) rfl dX11_rules_16 ?_
      refine va_get (D := D) (ci := 10) (v := .ref (a 36)) (C := RX10) (T := TX10) (N := 12) hx hb hts i_X10 hown hK hP 1 rfl rfl 2 (by decide) (hts (.fieldLink RX11 274 "BellowsRow$Works" "people" "LBellowsRow$People;") (by decide +kernel)) (fun _ h9 => h9) rfl dX11_rules_19 ?_
      refine lv_iload_n hx hb dX11_rules_22 rfl (lv_at hl 1 rfl) ?_
      refine mvi (C := RX4) (As := [.int p1]) (rest := []) (wc := [e36 k a, e43 k a, e44 k a]) (wr := [e0 k a, e26 k a]) ⟨hx, hb, hml, hown, hts⟩ (fun sz => c_X4_leastRules l D k a p1 (by (try simp only [i_lt, i_le, i_eq, Int32.toInt_toInt64, Int32.reduceToInt, Int64.reduceToInt] at c1 c2 ⊢); omega) sz) (cwV 1 hts gX11_rules_X4_leastRules rfl rfl rfl (by decide +kernel) ⟨Nat.le_of_ble_eq_true rfl, Nat.le_of_ble_eq_true rfl⟩) hP hK hD hN hS hA [2, 3, 4] [0, 1] rfl rfl (by decide) rfl (by decide) (by decide) 2 rfl rfl rfl rfl hl.1 rfl (Nat.le_of_ble_eq_true rfl) dX11_rules_23 ⟨Nat.le_of_ble_eq_true rfl, Nat.le_of_ble_eq_true rfl⟩ (fun ru3 u3 H locs hu3 hP hD hS => ?_)
      have hP : va_P D vwCl [e0 k a, e26 k a] H := hP
      have hD : va_D A [e0 k a, e26 k a] := hD
      refine W.widen (k := 0) (n := 0) (Nat.le_of_ble_eq_true rfl) (Nat.le_of_ble_eq_true rfl) ?_
      obtain rfl := hu3
      have hP9 := hP.sub (ws' := []) [] rfl
      have hD9 := hD.sub (ws' := []) [] (by decide) rfl
      refine W.widen (k := 0) (n := 0) (Nat.le_of_ble_eq_true rfl) (Nat.le_of_ble_eq_true rfl) ?_
      exact W.iret (v := 0) hx hb hr (fun t ht hW => ⟨⟨0, (), rfl, Or.inl ⟨by (try simp only [i_lt, i_le, i_eq, Int32.toInt_toInt64, Int32.reduceToInt, Int64.reduceToInt] at c1 c2 ⊢); omega, rfl⟩, by rw [ht]; exact hP9, hD9⟩, hS.F ht⟩) hS.2.2 dX11_rules_26
    · refine lv_bipush (v := (-2)) hx hb dX11_rules_10 (by decide) ?_
      refine lv_goto (tgt := 26) hx hb dX11_rules_12 (by decide) ?_
      have hP9 := hP.sub (ws' := []) [] rfl
      have hD9 := hD.sub (ws' := []) [] (by decide) rfl
      refine W.widen (k := 0) (n := 0) (Nat.le_of_ble_eq_true rfl) (Nat.le_of_ble_eq_true rfl) ?_
      exact W.iret (v := (-2)) hx hb hr (fun t ht hW => ⟨⟨(-2), (), rfl, Or.inr ⟨by (try simp only [i_lt, i_le, i_eq, Int32.toInt_toInt64, Int32.reduceToInt, Int64.reduceToInt] at c1 c2 ⊢); omega, rfl⟩, by rw [ht]; exact hP9, hD9⟩, hS.F ht⟩) hS.2.2 dX11_rules_26
