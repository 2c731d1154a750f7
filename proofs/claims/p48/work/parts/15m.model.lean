set_option maxHeartbeats 4000000 in
set_option maxRecDepth 100000 in
theorem t_X12_lever (l : Launch) (D : va_G) (k : Nat → ClassId) (u0 : PSt) (hu : WT u0) (h0 : Nat) (m_h0 : h0 ∈ u0.1) (k_h0 : u0.2.1 h0 = 12) (p1 : Int32) (p2 : Int32) (sz : Nat) : Met l yX12_lever wsX12_lever ({ frames := 3, cells := 0, slots := 0, locals := 72 }) (PreM D k sz (PW k u0) [.ref h0, .int p1, .int p2]) (va_Qi (fun r v => WT v ∧ PX u0 v ∧ (True)) (WB D (va_A (PW k u0) sz) (PW k)) (va_A (PW k u0) sz)) 0 0 (va_A (PW k u0) sz) := by
  refine Met.ofW (cc := cX12_lever) (maxL := 13) (ret := (some .int)) (by decide) rfl ?_
  intro p e s m args below meth c s₁ B hml hv
  obtain ⟨rfl, hsz, hP, hK, hD0, hN⟩ := hv
  have hx := B.exec
  have hb := B.bytes
  have hr := B.returns
  have hts := atoms_spec (ws := wsX12_lever) B.pre
  have hown : s.vm.findClass RX12 = some m.cls := findClass_of_methodNamed B.named
  have hlocks := B.notSynchronized
  have i_X12 : ∀ w ∈ wsX120, w ∈ wsX12_lever := by decide +kernel
  obtain ⟨a1, q0_1, m0_a1, k0_a1⟩ := (hu h0 m_h0).1 1 50 (by rw [k_h0]; rfl)
  obtain ⟨a26, q0_26, m0_a26, k0_a26⟩ := (hu h0 m_h0).1 26 59 (by rw [k_h0]; rfl)
  obtain ⟨a30, q0_30, m0_a30, k0_a30⟩ := (hu h0 m_h0).1 30 60 (by rw [k_h0]; rfl)
  obtain ⟨a32, q0_32, m0_a32, k0_a32⟩ := (hu h0 m_h0).1 32 62 (by rw [k_h0]; rfl)
  have m0_h0 := m_h0
  have k0_h0 := k_h0
  have m_a1 := m0_a1
  have m_a26 := m0_a26
  have m_a30 := m0_a30
  have m_a32 := m0_a32
  have k_a1 := k0_a1
  have k_a26 := k0_a26
  have k_a30 := k0_a30
  have k_a32 := k0_a32
  subst hsz
  have hD := hD0.self (sz := s.heap.size)
  generalize hAe : va_A (PW k u0) s.heap.size = A at hD ⊢
  have hA : ∀ q : Nat, s.heap.size ≤ q → A q := fun q h => by rw [← hAe]; exact Or.inr h
  have hS : va_S A s.heap s.heap [] := va_S.rf
  have hp : PX u0 u0 := PX.rf
  have B377 : ∀ (n377 : Nat) (u : PSt) (H : Heap) (locs : List Loc) (ls : Array Slot) (v10 : Int32) (v11 : Int32) (v12 : Int32), WT u → PX u0 u → va_P D vwCl (PW k u) H → va_D A (PW k u) → va_S A s.heap H locs → (2147483648 - v12.toInt).toNat ≤ n377 → 26 ≤ v10.toInt ∧ v10.toInt ≤ 290 → 0 ≤ v12.toInt ∧ v12.toInt ≤ 16 → (v10.toInt % 24 = 2) → lv_has ls 13 [(0, .ref h0), (10, .int v10), (11, .int v11), (12, .int v12)] → W p l e (headSpec wsX12_lever ({ frames := 3, cells := 0, slots := 0, locals := 72 })).room s m ([.ref h0, .int p1, .int p2] : List Value).toArray below meth c H locs 0 0 (MQ below (va_Qi (fun r v => WT v ∧ PX u0 v ∧ (True)) (WB D A (PW k)) A) ([.ref h0, .int p1, .int p2] : List Value).toArray s 0 0 A) (F0 m 377 ls []) := by
    intro n377
    induction n377 with
    | zero =>
      intro u H locs ls v10 v11 v12 hu hp hP hD hS hn377 g_v10 g_v12 ex0 hl
      exact absurd hn377 (by have := Int32.toInt_lt v12; have := Int32.le_toInt v12; omega)
    | succ n377 ih377 =>
      intro u H locs ls v10 v11 v12 hu hp hP hD hS hn377 g_v10 g_v12 ex0 hl
      refine lv_iload hx hb dX12_lever_377 (lv_at hl 3 rfl) ?_
      refine lv_bipush (v := 16) hx hb dX12_lever_379 (by decide) ?_
      refine lv_icmp_ge (tgt := 410) hx hb dX12_lever_381 (by decide) (fun c1 => ?_) (fun c1 => ?_)
      · refine lv_iload hx hb dX12_lever_410 (lv_at hl 2 rfl) ?_
        exact W.iret (v := v11) hx hb hr (fun t ht hW => ⟨⟨v11, u, rfl, ⟨hu, hp, trivial⟩, by rw [ht]; exact hP, hD⟩, hS.F ht⟩) hS.2.2 dX12_lever_412
      · refine lv_aload_n hx hb dX12_lever_384 rfl (lv_at hl 0 rfl) ?_
        have k_h0 : u.2.1 h0 = 12 := (hp h0 m0_h0).2.1.trans k0_h0
        have m_h0 : h0 ∈ u.1 := (hp h0 m0_h0).1
        have k_a1 : u.2.1 a1 = 50 := (hp a1 m0_a1).2.1.trans k0_a1
        have m_a1 : a1 ∈ u.1 := (hp a1 m0_a1).1
        refine pget (ci := 12) (v := va_rf (u.2.2.2.2 h0 1)) (C := RX12) (T := TX12) (N := 34) hx hb hts i_X12 hown hK hP m_h0 (cF12 k_h0) rfl 1 (by decide) (hts (.fieldLink RX12 13 "BellowsRowModel" "world" "[I") (by decide +kernel)) (fun _ h9 => h9) rfl dX12_lever_385 ?_
        refine W.eq (g2 := F0 m 388 ls [.ref a1]) (by rw [(((hp h0 m0_h0).2.2.2.2.2.1 k0_h0 1).trans q0_1)]; rfl) ?_
        refine lv_iload hx hb dX12_lever_388 (lv_at hl 1 rfl) ?_
        refine lv_bipush (v := 8) hx hb dX12_lever_390 (by decide) ?_
        refine lv_iadd hx hb dX12_lever_392 ?_
        refine lv_topi (fun x2 ex2 => ?_)
        have tx2 : x2.toInt = v10.toInt + (8 : Int32).toInt := by rw [ex2]; exact i_add (by (try simp only [i_lt, i_le, i_eq, Int32.toInt_toInt64, Int32.reduceToInt, Int64.reduceToInt, true_and, and_true, false_and, and_false, false_or, or_false, true_or, or_true, not_true_eq_false, not_false_eq_true, ne_eq, forall_const, true_implies, false_implies, implies_true] at g_v10 g_v12 ex0 hn377 c1 ⊢) <;> omega) (by (try simp only [i_lt, i_le, i_eq, Int32.toInt_toInt64, Int32.reduceToInt, Int64.reduceToInt, true_and, and_true, false_and, and_false, false_or, or_false, true_or, or_true, not_true_eq_false, not_false_eq_true, ne_eq, forall_const, true_implies, false_implies, implies_true] at g_v10 g_v12 ex0 hn377 c1 ⊢) <;> omega)
        refine lv_iload hx hb dX12_lever_393 (lv_at hl 3 rfl) ?_
        refine lv_iadd hx hb dX12_lever_395 ?_
        refine lv_topi (fun x3 ex3 => ?_)
        have tx3 : x3.toInt = x2.toInt + v12.toInt := by rw [ex3]; exact i_add (by (try simp only [i_lt, i_le, i_eq, Int32.toInt_toInt64, Int32.reduceToInt, Int64.reduceToInt, true_and, and_true, false_and, and_false, false_or, or_false, true_or, or_true, not_true_eq_false, not_false_eq_true, ne_eq, forall_const, true_implies, false_implies, implies_true] at g_v10 g_v12 ex0 hn377 c1 tx2 ⊢) <;> omega) (by (try simp only [i_lt, i_le, i_eq, Int32.toInt_toInt64, Int32.reduceToInt, Int64.reduceToInt, true_and, and_true, false_and, and_false, false_or, or_false, true_or, or_true, not_true_eq_false, not_false_eq_true, ne_eq, forall_const, true_implies, false_implies, implies_true] at g_v10 g_v12 ex0 hn377 c1 tx2 ⊢) <;> omega)
        refine lv_aload_n hx hb dX12_lever_396 rfl (lv_at hl 0 rfl) ?_
        have k_a26 : u.2.1 a26 = 59 := (hp a26 m0_a26).2.1.trans k0_a26
        have m_a26 : a26 ∈ u.1 := (hp a26 m0_a26).1
        refine pget (ci := 12) (v := va_rf (u.2.2.2.2 h0 26)) (C := RX12) (T := TX12) (N := 34) hx hb hts i_X12 hown hK hP m_h0 (cF12 k_h0) rfl 26 (by decide) (hts (.fieldLink RX12 55 "BellowsRowModel" "moves0" "[I") (by decide +kernel)) (fun _ h9 => h9) rfl dX12_lever_397 ?_
        refine W.eq (g2 := F0 m 400 ls [.ref a26, .int x3, .ref a1]) (by rw [(((hp h0 m0_h0).2.2.2.2.2.1 k0_h0 26).trans q0_26)]; rfl) ?_
        refine lv_iload hx hb dX12_lever_400 (lv_at hl 3 rfl) ?_
        refine palI hx hb hK hP m_a26 (cF59 k_a26) 1 rfl (vp_in_iff.mpr (by (try simp only [i_lt, i_le, i_eq, Int32.toInt_toInt64, Int32.reduceToInt, Int64.reduceToInt, true_and, and_true, false_and, and_false, false_or, or_false, true_or, or_true, not_true_eq_false, not_false_eq_true, ne_eq, forall_const, true_implies, false_implies, implies_true] at g_v10 g_v12 ex0 hn377 c1 tx2 tx3 ⊢) <;> omega)) dX12_lever_402 ?_
        refine lv_topi (fun x4 ex4 => ?_)
        have tx4 : x4.toInt = (u.2.2.1 a26 (v12.toNatClampNeg)).toInt := congrArg Int32.toInt ex4
        refine pasI (u' := pSI u a1 (x3.toNatClampNeg) x4) hx hb hK hP hD hS m_a1 (cF50 k_a1) 1 rfl (vp_in_iff.mpr (by (try simp only [i_lt, i_le, i_eq, Int32.toInt_toInt64, Int32.reduceToInt, Int64.reduceToInt, true_and, and_true, false_and, and_false, false_or, or_false, true_or, or_true, not_true_eq_false, not_false_eq_true, ne_eq, forall_const, true_implies, false_implies, implies_true] at g_v10 g_v12 ex0 hn377 c1 tx2 tx3 tx4 ⊢) <;> omega)) rfl (sF50 k_a1 _ _) dX12_lever_403 (fun H locs hP hD hS => ?_)
        have hu := WT.setI (a := a1) (s := (x3.toNatClampNeg)) (v := x4) hu (by rw [k_a1]; exact (show okW (x3.toNatClampNeg) x4 from by unfold okW; have z := cl_int (x := x3) (by (try simp only [i_lt, i_le, i_eq, Int32.toInt_toInt64, Int32.reduceToInt, Int64.reduceToInt, true_and, and_true, false_and, and_false, false_or, or_false, true_or, or_true, not_true_eq_false, not_false_eq_true, ne_eq, forall_const, true_implies, false_implies, implies_true] at g_v10 g_v12 ex0 hn377 c1 tx2 tx3 tx4 ⊢) <;> omega); (try simp only [i_lt, i_le, i_eq, Int32.toInt_toInt64, Int32.reduceToInt, Int64.reduceToInt, true_and, and_true, false_and, and_false, false_or, or_false, true_or, or_true, not_true_eq_false, not_false_eq_true, ne_eq, forall_const, true_implies, false_implies, implies_true] at g_v10 g_v12 ex0 hn377 c1 tx2 tx3 tx4 z ⊢) <;> omega))
        have hp := PX.setI (a := a1) (s := (x3.toNatClampNeg)) (v := x4) hp (by rw [k_a1]; decide)
        obtain ⟨u5, hu5⟩ : ∃ z, z = pSI u a1 (x3.toNatClampNeg) x4 := ⟨_, rfl⟩
        rw [← hu5] at hP hD hu hp
        obtain ⟨x6, ex6⟩ : ∃ y : Int32, y = v12 + 1 := ⟨_, rfl⟩
        have tx6 : x6.toInt = v12.toInt + 1 := by rw [ex6]; exact i_add (b := 1) (by (try simp only [i_lt, i_le, i_eq, Int32.toInt_toInt64, Int32.reduceToInt, Int64.reduceToInt, true_and, and_true, false_and, and_false, false_or, or_false, true_or, or_true, not_true_eq_false, not_false_eq_true, ne_eq, forall_const, true_implies, false_implies, implies_true] at g_v10 g_v12 ex0 hn377 c1 tx2 tx3 tx4 ⊢) <;> omega) (by (try simp only [i_lt, i_le, i_eq, Int32.toInt_toInt64, Int32.reduceToInt, Int64.reduceToInt, true_and, and_true, false_and, and_false, false_or, or_false, true_or, or_true, not_true_eq_false, not_false_eq_true, ne_eq, forall_const, true_implies, false_implies, implies_true] at g_v10 g_v12 ex0 hn377 c1 tx2 tx3 tx4 ⊢) <;> omega)
        refine lv_iinc (v := x6) (lv' := [(12, .int x6), (0, .ref h0), (10, .int v10), (11, .int v11)]) hx hb dX12_lever_404 hl (k := 3) rfl (by rw [ex6]; rfl) (by decide) rfl (fun ls hl => ?_)
        refine lv_goto (tgt := 377) hx hb dX12_lever_407 (by decide) ?_
        exact ih377 _ _ _ ls v10 v11 x6 hu hp hP hD hS (by (try simp only [i_lt, i_le, i_eq, Int32.toInt_toInt64, Int32.reduceToInt, Int64.reduceToInt, true_and, and_true, false_and, and_false, false_or, or_false, true_or, or_true, not_true_eq_false, not_false_eq_true, ne_eq, forall_const, true_implies, false_implies, implies_true] at g_v10 g_v12 ex0 hn377 c1 tx2 tx3 tx4 tx6 ⊢) <;> omega) (by (try simp only [i_lt, i_le, i_eq, Int32.toInt_toInt64, Int32.reduceToInt, Int64.reduceToInt, true_and, and_true, false_and, and_false, false_or, or_false, true_or, or_true, not_true_eq_false, not_false_eq_true, ne_eq, forall_const, true_implies, false_implies, implies_true] at g_v10 g_v12 ex0 hn377 c1 tx2 tx3 tx4 tx6 ⊢) <;> omega) (by (try simp only [i_lt, i_le, i_eq, Int32.toInt_toInt64, Int32.reduceToInt, Int64.reduceToInt, true_and, and_true, false_and, and_false, false_or, or_false, true_or, or_true, not_true_eq_false, not_false_eq_true, ne_eq, forall_const, true_implies, false_implies, implies_true] at g_v10 g_v12 ex0 hn377 c1 tx2 tx3 tx4 tx6 ⊢) <;> omega) (by (try simp only [i_lt, i_le, i_eq, Int32.toInt_toInt64, Int32.reduceToInt, Int64.reduceToInt, true_and, and_true, false_and, and_false, false_or, or_false, true_or, or_true, not_true_eq_false, not_false_eq_true, ne_eq, forall_const, true_implies, false_implies, implies_true] at g_v10 g_v12 ex0 hn377 c1 tx2 tx3 tx4 tx6 ⊢) <;> omega) (lv_sub hl [1, 2, 3, 0] rfl)
  have B311 : ∀ (n311 : Nat) (u : PSt) (H : Heap) (locs : List Loc) (ls : Array Slot) (v1 : Int32) (v2 : Int32) (v3 : Int32) (v10 : Int32) (v11 : Int32), WT u → PX u0 u → va_P D vwCl (PW k u) H → va_D A (PW k u) → va_S A s.heap H locs → (2147483648 - v11.toInt).toNat ≤ n311 → 0 ≤ v1.toInt ∧ v1.toInt ≤ 3 → 0 ≤ v2.toInt ∧ v2.toInt ≤ 11 → 1 ≤ v3.toInt ∧ v3.toInt ≤ 8 → 26 ≤ v10.toInt ∧ v10.toInt ≤ 290 → 0 ≤ v11.toInt ∧ v11.toInt ≤ 16 → (v10.toInt % 24 = 2) → lv_has ls 13 [(0, .ref h0), (1, .int v1), (2, .int v2), (3, .int v3), (10, .int v10), (11, .int v11)] → W p l e (headSpec wsX12_lever ({ frames := 3, cells := 0, slots := 0, locals := 72 })).room s m ([.ref h0, .int p1, .int p2] : List Value).toArray below meth c H locs 0 0 (MQ below (va_Qi (fun r v => WT v ∧ PX u0 v ∧ (True)) (WB D A (PW k)) A) ([.ref h0, .int p1, .int p2] : List Value).toArray s 0 0 A) (F0 m 311 ls []) := by
    intro n311
    induction n311 with
    | zero =>
      intro u H locs ls v1 v2 v3 v10 v11 hu hp hP hD hS hn311 g_v1 g_v2 g_v3 g_v10 g_v11 ex0 hl
      exact absurd hn311 (by have := Int32.toInt_lt v11; have := Int32.le_toInt v11; omega)
    | succ n311 ih311 =>
      intro u H locs ls v1 v2 v3 v10 v11 hu hp hP hD hS hn311 g_v1 g_v2 g_v3 g_v10 g_v11 ex0 hl
      refine lv_iload hx hb dX12_lever_311 (lv_at hl 5 rfl) ?_
      refine lv_iconst (v := 2) hx hb dX12_lever_313 (by decide) ?_
      refine lv_iload_n hx hb dX12_lever_314 rfl (lv_at hl 3 rfl) ?_
      refine lv_imul hx hb dX12_lever_315 ?_
      refine lv_topi (fun x7 ex7 => ?_)
      have tx7 : x7.toInt = 2 * v3.toInt := by rw [ex7]; exact i_mulc (c := 2) (by decide) ((show 1 ≤ v3.toInt ∧ v3.toInt ≤ 8 from by (try simp only [i_lt, i_le, i_eq, Int32.toInt_toInt64, Int32.reduceToInt, Int64.reduceToInt, true_and, and_true, false_and, and_false, false_or, or_false, true_or, or_true, not_true_eq_false, not_false_eq_true, ne_eq, forall_const, true_implies, false_implies, implies_true] at g_v1 g_v2 g_v3 g_v10 g_v11 ex0 hn311 ⊢) <;> omega)) (by decide)
      refine lv_icmp_ge (tgt := 351) hx hb dX12_lever_316 (by decide) (fun c8 => ?_) (fun c8 => ?_)
      · refine lv_aload_n hx hb dX12_lever_351 rfl (lv_at hl 0 rfl) ?_
        refine lv_iload_n hx hb dX12_lever_352 rfl (lv_at hl 2 rfl) ?_
        have k_h0 : u.2.1 h0 = 12 := (hp h0 m0_h0).2.1.trans k0_h0
        have m_h0 : h0 ∈ u.1 := (hp h0 m0_h0).1
        refine wiV (C := RX12) (As := [.int v2]) (rest := []) ⟨hx, hb, hml, hown, hts⟩ (fun sz => t_X12_leverOf l D k u hu h0 m_h0 k_h0 v2 (by (try simp only [i_lt, i_le, i_eq, Int32.toInt_toInt64, Int32.reduceToInt, Int64.reduceToInt, true_and, and_true, false_and, and_false, false_or, or_false, true_or, or_true, not_true_eq_false, not_false_eq_true, ne_eq, forall_const, true_implies, false_implies, implies_true] at g_v1 g_v2 g_v3 g_v10 g_v11 ex0 hn311 tx7 c8 ⊢) <;> omega) sz) (cwV 1 hts gX12_lever_X12_leverOf rfl rfl rfl (by decide +kernel) ⟨Nat.le_of_ble_eq_true rfl, Nat.le_of_ble_eq_true rfl⟩) hP hK hD hN hS hA (precv hK hP m_h0 (cF12 k_h0) rfl) rfl hl.1 rfl (Nat.le_of_ble_eq_true rfl) dX12_lever_353 ⟨Nat.le_of_ble_eq_true rfl, Nat.le_of_ble_eq_true rfl⟩ (fun r9 u10 H locs hqu10 hP hD hS => ?_)
        obtain ⟨hu, hxu10, hr9⟩ := hqu10
        have hp := PX.trans hp hxu10
        refine lv_istore (lv' := [(11, .int r9), (0, .ref h0), (1, .int v1), (2, .int v2), (3, .int v3), (10, .int v10)]) hx hb dX12_lever_356 hl (by decide) rfl (fun ls hl => ?_)
        refine lv_aload_n hx hb dX12_lever_358 rfl (lv_at hl 1 rfl) ?_
        have k_h0 : u10.2.1 h0 = 12 := (hp h0 m0_h0).2.1.trans k0_h0
        have m_h0 : h0 ∈ u10.1 := (hp h0 m0_h0).1
        have k_a1 : u10.2.1 a1 = 50 := (hp a1 m0_a1).2.1.trans k0_a1
        have m_a1 : a1 ∈ u10.1 := (hp a1 m0_a1).1
        refine pget (ci := 12) (v := va_rf (u10.2.2.2.2 h0 1)) (C := RX12) (T := TX12) (N := 34) hx hb hts i_X12 hown hK hP m_h0 (cF12 k_h0) rfl 1 (by decide) (hts (.fieldLink RX12 13 "BellowsRowModel" "world" "[I") (by decide +kernel)) (fun _ h9 => h9) rfl dX12_lever_359 ?_
        refine W.eq (g2 := F0 m 362 ls [.ref a1]) (by rw [(((hp h0 m0_h0).2.2.2.2.2.1 k0_h0 1).trans q0_1)]; rfl) ?_
        refine lv_iload hx hb dX12_lever_362 (lv_at hl 5 rfl) ?_
        refine lv_iconst (v := 3) hx hb dX12_lever_364 (by decide) ?_
        refine lv_iadd hx hb dX12_lever_365 ?_
        refine lv_topi (fun x11 ex11 => ?_)
        have tx11 : x11.toInt = v10.toInt + (3 : Int32).toInt := by rw [ex11]; exact i_add (by (try simp only [i_lt, i_le, i_eq, Int32.toInt_toInt64, Int32.reduceToInt, Int64.reduceToInt, true_and, and_true, false_and, and_false, false_or, or_false, true_or, or_true, not_true_eq_false, not_false_eq_true, ne_eq, forall_const, true_implies, false_implies, implies_true] at g_v1 g_v2 g_v3 g_v10 g_v11 ex0 hn311 tx7 c8 ⊢) <;> omega) (by (try simp only [i_lt, i_le, i_eq, Int32.toInt_toInt64, Int32.reduceToInt, Int64.reduceToInt, true_and, and_true, false_and, and_false, false_or, or_false, true_or, or_true, not_true_eq_false, not_false_eq_true, ne_eq, forall_const, true_implies, false_implies, implies_true] at g_v1 g_v2 g_v3 g_v10 g_v11 ex0 hn311 tx7 c8 ⊢) <;> omega)
        refine lv_aload_n hx hb dX12_lever_366 rfl (lv_at hl 1 rfl) ?_
        have k_a26 : u10.2.1 a26 = 59 := (hp a26 m0_a26).2.1.trans k0_a26
        have m_a26 : a26 ∈ u10.1 := (hp a26 m0_a26).1
        refine pget (ci := 12) (v := va_rf (u10.2.2.2.2 h0 26)) (C := RX12) (T := TX12) (N := 34) hx hb hts i_X12 hown hK hP m_h0 (cF12 k_h0) rfl 26 (by decide) (hts (.fieldLink RX12 55 "BellowsRowModel" "moves0" "[I") (by decide +kernel)) (fun _ h9 => h9) rfl dX12_lever_367 ?_
        refine W.eq (g2 := F0 m 370 ls [.ref a26, .int x11, .ref a1]) (by rw [(((hp h0 m0_h0).2.2.2.2.2.1 k0_h0 26).trans q0_26)]; rfl) ?_
        refine lv_bipush (v := 16) hx hb dX12_lever_370 (by decide) ?_
        refine palI hx hb hK hP m_a26 (cF59 k_a26) 1 rfl (vp_in_iff.mpr (by decide)) dX12_lever_372 ?_
        refine lv_topi (fun x12 ex12 => ?_)
        have tx12 : x12.toInt = (u10.2.2.1 a26 16).toInt := congrArg Int32.toInt ex12
        have g13 : 0 ≤ x12.toInt ∧ x12.toInt ≤ 8 := by have g := (hu a26 m_a26).2.2.2 (16); rw [k_a26] at g; rw [show x12 = _ from ex12]; exact g rfl
        refine pasI (u' := pSI u10 a1 (x11.toNatClampNeg) x12) hx hb hK hP hD hS m_a1 (cF50 k_a1) 1 rfl (vp_in_iff.mpr (by (try simp only [i_lt, i_le, i_eq, Int32.toInt_toInt64, Int32.reduceToInt, Int64.reduceToInt, true_and, and_true, false_and, and_false, false_or, or_false, true_or, or_true, not_true_eq_false, not_false_eq_true, ne_eq, forall_const, true_implies, false_implies, implies_true] at g_v1 g_v2 g_v3 g_v10 g_v11 ex0 hn311 tx7 c8 tx11 tx12 g13 ⊢) <;> omega)) rfl (sF50 k_a1 _ _) dX12_lever_373 (fun H locs hP hD hS => ?_)
        have hu := WT.setI (a := a1) (s := (x11.toNatClampNeg)) (v := x12) hu (by rw [k_a1]; exact (show okW (x11.toNatClampNeg) x12 from by unfold okW; have z := cl_int (x := x11) (by (try simp only [i_lt, i_le, i_eq, Int32.toInt_toInt64, Int32.reduceToInt, Int64.reduceToInt, true_and, and_true, false_and, and_false, false_or, or_false, true_or, or_true, not_true_eq_false, not_false_eq_true, ne_eq, forall_const, true_implies, false_implies, implies_true] at g_v1 g_v2 g_v3 g_v10 g_v11 ex0 hn311 tx7 c8 tx11 tx12 g13 ⊢) <;> omega); (try simp only [i_lt, i_le, i_eq, Int32.toInt_toInt64, Int32.reduceToInt, Int64.reduceToInt, true_and, and_true, false_and, and_false, false_or, or_false, true_or, or_true, not_true_eq_false, not_false_eq_true, ne_eq, forall_const, true_implies, false_implies, implies_true] at g_v1 g_v2 g_v3 g_v10 g_v11 ex0 hn311 tx7 c8 tx11 tx12 g13 z ⊢) <;> omega))
        have hp := PX.setI (a := a1) (s := (x11.toNatClampNeg)) (v := x12) hp (by rw [k_a1]; decide)
        obtain ⟨u14, hu14⟩ : ∃ z, z = pSI u10 a1 (x11.toNatClampNeg) x12 := ⟨_, rfl⟩
        rw [← hu14] at hP hD hu hp
        refine lv_iconst (v := 0) hx hb dX12_lever_374 (by decide) ?_
        refine lv_istore (lv' := [(12, .int 0), (11, .int r9), (0, .ref h0), (1, .int v1), (2, .int v2), (3, .int v3), (10, .int v10)]) hx hb dX12_lever_375 hl (by decide) rfl (fun ls hl => ?_)
        exact B377 _ _ _ _ ls v10 r9 0 hu hp hP hD hS (Nat.le_refl _) (by (try simp only [i_lt, i_le, i_eq, Int32.toInt_toInt64, Int32.reduceToInt, Int64.reduceToInt, true_and, and_true, false_and, and_false, false_or, or_false, true_or, or_true, not_true_eq_false, not_false_eq_true, ne_eq, forall_const, true_implies, false_implies, implies_true] at g_v1 g_v2 g_v3 g_v10 g_v11 ex0 hn311 tx7 c8 tx11 tx12 g13 ⊢) <;> omega) (by (try simp only [i_lt, i_le, i_eq, Int32.toInt_toInt64, Int32.reduceToInt, Int64.reduceToInt, true_and, and_true, false_and, and_false, false_or, or_false, true_or, or_true, not_true_eq_false, not_false_eq_true, ne_eq, forall_const, true_implies, false_implies, implies_true] at g_v1 g_v2 g_v3 g_v10 g_v11 ex0 hn311 tx7 c8 tx11 tx12 g13 ⊢) <;> omega) (by (try simp only [i_lt, i_le, i_eq, Int32.toInt_toInt64, Int32.reduceToInt, Int64.reduceToInt, true_and, and_true, false_and, and_false, false_or, or_false, true_or, or_true, not_true_eq_false, not_false_eq_true, ne_eq, forall_const, true_implies, false_implies, implies_true] at g_v1 g_v2 g_v3 g_v10 g_v11 ex0 hn311 tx7 c8 tx11 tx12 g13 ⊢) <;> omega) (lv_sub hl [2, 6, 1, 0] rfl)
      · refine lv_aload_n hx hb dX12_lever_319 rfl (lv_at hl 0 rfl) ?_
        have k_h0 : u.2.1 h0 = 12 := (hp h0 m0_h0).2.1.trans k0_h0
        have m_h0 : h0 ∈ u.1 := (hp h0 m0_h0).1
        have k_a1 : u.2.1 a1 = 50 := (hp a1 m0_a1).2.1.trans k0_a1
        have m_a1 : a1 ∈ u.1 := (hp a1 m0_a1).1
        refine pget (ci := 12) (v := va_rf (u.2.2.2.2 h0 1)) (C := RX12) (T := TX12) (N := 34) hx hb hts i_X12 hown hK hP m_h0 (cF12 k_h0) rfl 1 (by decide) (hts (.fieldLink RX12 13 "BellowsRowModel" "world" "[I") (by decide +kernel)) (fun _ h9 => h9) rfl dX12_lever_320 ?_
        refine W.eq (g2 := F0 m 323 ls [.ref a1]) (by rw [(((hp h0 m0_h0).2.2.2.2.2.1 k0_h0 1).trans q0_1)]; rfl) ?_
        refine lv_iload hx hb dX12_lever_323 (lv_at hl 4 rfl) ?_
        refine lv_bipush (v := 8) hx hb dX12_lever_325 (by decide) ?_
        refine lv_iadd hx hb dX12_lever_327 ?_
        refine lv_topi (fun x15 ex15 => ?_)
        have tx15 : x15.toInt = v10.toInt + (8 : Int32).toInt := by rw [ex15]; exact i_add (by (try simp only [i_lt, i_le, i_eq, Int32.toInt_toInt64, Int32.reduceToInt, Int64.reduceToInt, true_and, and_true, false_and, and_false, false_or, or_false, true_or, or_true, not_true_eq_false, not_false_eq_true, ne_eq, forall_const, true_implies, false_implies, implies_true] at g_v1 g_v2 g_v3 g_v10 g_v11 ex0 hn311 tx7 c8 ⊢) <;> omega) (by (try simp only [i_lt, i_le, i_eq, Int32.toInt_toInt64, Int32.reduceToInt, Int64.reduceToInt, true_and, and_true, false_and, and_false, false_or, or_false, true_or, or_true, not_true_eq_false, not_false_eq_true, ne_eq, forall_const, true_implies, false_implies, implies_true] at g_v1 g_v2 g_v3 g_v10 g_v11 ex0 hn311 tx7 c8 ⊢) <;> omega)
        refine lv_iload hx hb dX12_lever_328 (lv_at hl 5 rfl) ?_
        refine lv_iadd hx hb dX12_lever_330 ?_
        refine lv_topi (fun x16 ex16 => ?_)
        have tx16 : x16.toInt = x15.toInt + v11.toInt := by rw [ex16]; exact i_add (by (try simp only [i_lt, i_le, i_eq, Int32.toInt_toInt64, Int32.reduceToInt, Int64.reduceToInt, true_and, and_true, false_and, and_false, false_or, or_false, true_or, or_true, not_true_eq_false, not_false_eq_true, ne_eq, forall_const, true_implies, false_implies, implies_true] at g_v1 g_v2 g_v3 g_v10 g_v11 ex0 hn311 tx7 c8 tx15 ⊢) <;> omega) (by (try simp only [i_lt, i_le, i_eq, Int32.toInt_toInt64, Int32.reduceToInt, Int64.reduceToInt, true_and, and_true, false_and, and_false, false_or, or_false, true_or, or_true, not_true_eq_false, not_false_eq_true, ne_eq, forall_const, true_implies, false_implies, implies_true] at g_v1 g_v2 g_v3 g_v10 g_v11 ex0 hn311 tx7 c8 tx15 ⊢) <;> omega)
        refine lv_aload_n hx hb dX12_lever_331 rfl (lv_at hl 0 rfl) ?_
        have k_a32 : u.2.1 a32 = 62 := (hp a32 m0_a32).2.1.trans k0_a32
        have m_a32 : a32 ∈ u.1 := (hp a32 m0_a32).1
        refine pget (ci := 12) (v := va_rf (u.2.2.2.2 h0 32)) (C := RX12) (T := TX12) (N := 34) hx hb hts i_X12 hown hK hP m_h0 (cF12 k_h0) rfl 32 (by decide) (hts (.fieldLink RX12 67 "BellowsRowModel" "numbers" "[J") (by decide +kernel)) (fun _ h9 => h9) rfl dX12_lever_332 ?_
        refine W.eq (g2 := F0 m 335 ls [.ref a32, .int x16, .ref a1]) (by rw [(((hp h0 m0_h0).2.2.2.2.2.1 k0_h0 32).trans q0_32)]; rfl) ?_
        refine lv_bipush (v := 60) hx hb dX12_lever_335 (by decide) ?_
        refine lv_iload_n hx hb dX12_lever_337 rfl (lv_at hl 1 rfl) ?_
        refine lv_imul hx hb dX12_lever_338 ?_
        refine lv_topi (fun x17 ex17 => ?_)
        have tx17 : x17.toInt = 60 * v1.toInt := by rw [ex17]; exact i_mulc (c := 60) (by decide) ((show 0 ≤ v1.toInt ∧ v1.toInt ≤ 3 from by (try simp only [i_lt, i_le, i_eq, Int32.toInt_toInt64, Int32.reduceToInt, Int64.reduceToInt, true_and, and_true, false_and, and_false, false_or, or_false, true_or, or_true, not_true_eq_false, not_false_eq_true, ne_eq, forall_const, true_implies, false_implies, implies_true] at g_v1 g_v2 g_v3 g_v10 g_v11 ex0 hn311 tx7 c8 tx15 tx16 ⊢) <;> omega)) (by decide)
        refine lv_iload hx hb dX12_lever_339 (lv_at hl 5 rfl) ?_
        refine lv_iadd hx hb dX12_lever_341 ?_
        refine lv_topi (fun x18 ex18 => ?_)
        have tx18 : x18.toInt = x17.toInt + v11.toInt := by rw [ex18]; exact i_add (by (try simp only [i_lt, i_le, i_eq, Int32.toInt_toInt64, Int32.reduceToInt, Int64.reduceToInt, true_and, and_true, false_and, and_false, false_or, or_false, true_or, or_true, not_true_eq_false, not_false_eq_true, ne_eq, forall_const, true_implies, false_implies, implies_true] at g_v1 g_v2 g_v3 g_v10 g_v11 ex0 hn311 tx7 c8 tx15 tx16 tx17 ⊢) <;> omega) (by (try simp only [i_lt, i_le, i_eq, Int32.toInt_toInt64, Int32.reduceToInt, Int64.reduceToInt, true_and, and_true, false_and, and_false, false_or, or_false, true_or, or_true, not_true_eq_false, not_false_eq_true, ne_eq, forall_const, true_implies, false_implies, implies_true] at g_v1 g_v2 g_v3 g_v10 g_v11 ex0 hn311 tx7 c8 tx15 tx16 tx17 ⊢) <;> omega)
        refine palJ hx hb hK hP m_a32 (cF62 k_a32) 2 rfl (vp_in_iff.mpr (by (try simp only [i_lt, i_le, i_eq, Int32.toInt_toInt64, Int32.reduceToInt, Int64.reduceToInt, true_and, and_true, false_and, and_false, false_or, or_false, true_or, or_true, not_true_eq_false, not_false_eq_true, ne_eq, forall_const, true_implies, false_implies, implies_true] at g_v1 g_v2 g_v3 g_v10 g_v11 ex0 hn311 tx7 c8 tx15 tx16 tx17 tx18 ⊢) <;> omega)) dX12_lever_342 ?_
        refine lv_topl (fun x19 ex19 => ?_)
        refine lv_l2i hx hb dX12_lever_343 rfl ?_
        refine lv_topi (fun x20 ex20 => ?_)
        refine pasI (u' := pSI u a1 (x16.toNatClampNeg) x20) hx hb hK hP hD hS m_a1 (cF50 k_a1) 1 rfl (vp_in_iff.mpr (by (try simp only [i_lt, i_le, i_eq, Int32.toInt_toInt64, Int32.reduceToInt, Int64.reduceToInt, true_and, and_true, false_and, and_false, false_or, or_false, true_or, or_true, not_true_eq_false, not_false_eq_true, ne_eq, forall_const, true_implies, false_implies, implies_true] at g_v1 g_v2 g_v3 g_v10 g_v11 ex0 hn311 tx7 c8 tx15 tx16 tx17 tx18 ⊢) <;> omega)) rfl (sF50 k_a1 _ _) dX12_lever_344 (fun H locs hP hD hS => ?_)
        have hu := WT.setI (a := a1) (s := (x16.toNatClampNeg)) (v := x20) hu (by rw [k_a1]; exact (show okW (x16.toNatClampNeg) x20 from by unfold okW; have z := cl_int (x := x16) (by (try simp only [i_lt, i_le, i_eq, Int32.toInt_toInt64, Int32.reduceToInt, Int64.reduceToInt, true_and, and_true, false_and, and_false, false_or, or_false, true_or, or_true, not_true_eq_false, not_false_eq_true, ne_eq, forall_const, true_implies, false_implies, implies_true] at g_v1 g_v2 g_v3 g_v10 g_v11 ex0 hn311 tx7 c8 tx15 tx16 tx17 tx18 ⊢) <;> omega); (try simp only [i_lt, i_le, i_eq, Int32.toInt_toInt64, Int32.reduceToInt, Int64.reduceToInt, true_and, and_true, false_and, and_false, false_or, or_false, true_or, or_true, not_true_eq_false, not_false_eq_true, ne_eq, forall_const, true_implies, false_implies, implies_true] at g_v1 g_v2 g_v3 g_v10 g_v11 ex0 hn311 tx7 c8 tx15 tx16 tx17 tx18 z ⊢) <;> omega))
        have hp := PX.setI (a := a1) (s := (x16.toNatClampNeg)) (v := x20) hp (by rw [k_a1]; decide)
        obtain ⟨u21, hu21⟩ : ∃ z, z = pSI u a1 (x16.toNatClampNeg) x20 := ⟨_, rfl⟩
        rw [← hu21] at hP hD hu hp
        obtain ⟨x22, ex22⟩ : ∃ y : Int32, y = v11 + 1 := ⟨_, rfl⟩
        have tx22 : x22.toInt = v11.toInt + 1 := by rw [ex22]; exact i_add (b := 1) (by (try simp only [i_lt, i_le, i_eq, Int32.toInt_toInt64, Int32.reduceToInt, Int64.reduceToInt, true_and, and_true, false_and, and_false, false_or, or_false, true_or, or_true, not_true_eq_false, not_false_eq_true, ne_eq, forall_const, true_implies, false_implies, implies_true] at g_v1 g_v2 g_v3 g_v10 g_v11 ex0 hn311 tx7 c8 tx15 tx16 tx17 tx18 ⊢) <;> omega) (by (try simp only [i_lt, i_le, i_eq, Int32.toInt_toInt64, Int32.reduceToInt, Int64.reduceToInt, true_and, and_true, false_and, and_false, false_or, or_false, true_or, or_true, not_true_eq_false, not_false_eq_true, ne_eq, forall_const, true_implies, false_implies, implies_true] at g_v1 g_v2 g_v3 g_v10 g_v11 ex0 hn311 tx7 c8 tx15 tx16 tx17 tx18 ⊢) <;> omega)
        refine lv_iinc (v := x22) (lv' := [(11, .int x22), (0, .ref h0), (1, .int v1), (2, .int v2), (3, .int v3), (10, .int v10)]) hx hb dX12_lever_345 hl (k := 5) rfl (by rw [ex22]; rfl) (by decide) rfl (fun ls hl => ?_)
        refine lv_goto (tgt := 311) hx hb dX12_lever_348 (by decide) ?_
        exact ih311 _ _ _ ls v1 v2 v3 v10 x22 hu hp hP hD hS (by (try simp only [i_lt, i_le, i_eq, Int32.toInt_toInt64, Int32.reduceToInt, Int64.reduceToInt, true_and, and_true, false_and, and_false, false_or, or_false, true_or, or_true, not_true_eq_false, not_false_eq_true, ne_eq, forall_const, true_implies, false_implies, implies_true] at g_v1 g_v2 g_v3 g_v10 g_v11 ex0 hn311 tx7 c8 tx15 tx16 tx17 tx18 tx22 ⊢) <;> omega) (by (try simp only [i_lt, i_le, i_eq, Int32.toInt_toInt64, Int32.reduceToInt, Int64.reduceToInt, true_and, and_true, false_and, and_false, false_or, or_false, true_or, or_true, not_true_eq_false, not_false_eq_true, ne_eq, forall_const, true_implies, false_implies, implies_true] at g_v1 g_v2 g_v3 g_v10 g_v11 ex0 hn311 tx7 c8 tx15 tx16 tx17 tx18 tx22 ⊢) <;> omega) (by (try simp only [i_lt, i_le, i_eq, Int32.toInt_toInt64, Int32.reduceToInt, Int64.reduceToInt, true_and, and_true, false_and, and_false, false_or, or_false, true_or, or_true, not_true_eq_false, not_false_eq_true, ne_eq, forall_const, true_implies, false_implies, implies_true] at g_v1 g_v2 g_v3 g_v10 g_v11 ex0 hn311 tx7 c8 tx15 tx16 tx17 tx18 tx22 ⊢) <;> omega) (by (try simp only [i_lt, i_le, i_eq, Int32.toInt_toInt64, Int32.reduceToInt, Int64.reduceToInt, true_and, and_true, false_and, and_false, false_or, or_false, true_or, or_true, not_true_eq_false, not_false_eq_true, ne_eq, forall_const, true_implies, false_implies, implies_true] at g_v1 g_v2 g_v3 g_v10 g_v11 ex0 hn311 tx7 c8 tx15 tx16 tx17 tx18 tx22 ⊢) <;> omega) (by (try simp only [i_lt, i_le, i_eq, Int32.toInt_toInt64, Int32.reduceToInt, Int64.reduceToInt, true_and, and_true, false_and, and_false, false_or, or_false, true_or, or_true, not_true_eq_false, not_false_eq_true, ne_eq, forall_const, true_implies, false_implies, implies_true] at g_v1 g_v2 g_v3 g_v10 g_v11 ex0 hn311 tx7 c8 tx15 tx16 tx17 tx18 tx22 ⊢) <;> omega) (by (try simp only [i_lt, i_le, i_eq, Int32.toInt_toInt64, Int32.reduceToInt, Int64.reduceToInt, true_and, and_true, false_and, and_false, false_or, or_false, true_or, or_true, not_true_eq_false, not_false_eq_true, ne_eq, forall_const, true_implies, false_implies, implies_true] at g_v1 g_v2 g_v3 g_v10 g_v11 ex0 hn311 tx7 c8 tx15 tx16 tx17 tx18 tx22 ⊢) <;> omega) (by (try simp only [i_lt, i_le, i_eq, Int32.toInt_toInt64, Int32.reduceToInt, Int64.reduceToInt, true_and, and_true, false_and, and_false, false_or, or_false, true_or, or_true, not_true_eq_false, not_false_eq_true, ne_eq, forall_const, true_implies, false_implies, implies_true] at g_v1 g_v2 g_v3 g_v10 g_v11 ex0 hn311 tx7 c8 tx15 tx16 tx17 tx18 tx22 ⊢) <;> omega) (lv_sub hl [1, 2, 3, 4, 5, 0] rfl)
  have B265 : ∀ (n265 : Nat) (u : PSt) (H : Heap) (locs : List Loc) (ls : Array Slot) (v1 : Int32) (v2 : Int32) (v3 : Int32) (v10 : Int32) (v11 : Int32), WT u → PX u0 u → va_P D vwCl (PW k u) H → va_D A (PW k u) → va_S A s.heap H locs → (2147483648 - v11.toInt).toNat ≤ n265 → 0 ≤ v1.toInt ∧ v1.toInt ≤ 3 → 0 ≤ v2.toInt ∧ v2.toInt ≤ 11 → 1 ≤ v3.toInt ∧ v3.toInt ≤ 8 → 26 ≤ v10.toInt ∧ v10.toInt ≤ 290 → 0 ≤ v11.toInt ∧ v11.toInt ≤ 16 → (v10.toInt % 24 = 2) → lv_has ls 13 [(0, .ref h0), (1, .int v1), (2, .int v2), (3, .int v3), (10, .int v10), (11, .int v11)] → W p l e (headSpec wsX12_lever ({ frames := 3, cells := 0, slots := 0, locals := 72 })).room s m ([.ref h0, .int p1, .int p2] : List Value).toArray below meth c H locs 0 0 (MQ below (va_Qi (fun r v => WT v ∧ PX u0 v ∧ (True)) (WB D A (PW k)) A) ([.ref h0, .int p1, .int p2] : List Value).toArray s 0 0 A) (F0 m 265 ls []) := by
    intro n265
    induction n265 with
    | zero =>
      intro u H locs ls v1 v2 v3 v10 v11 hu hp hP hD hS hn265 g_v1 g_v2 g_v3 g_v10 g_v11 ex0 hl
      exact absurd hn265 (by have := Int32.toInt_lt v11; have := Int32.le_toInt v11; omega)
    | succ n265 ih265 =>
      intro u H locs ls v1 v2 v3 v10 v11 hu hp hP hD hS hn265 g_v1 g_v2 g_v3 g_v10 g_v11 ex0 hl
      refine lv_iload hx hb dX12_lever_265 (lv_at hl 5 rfl) ?_
      refine lv_bipush (v := 16) hx hb dX12_lever_267 (by decide) ?_
      refine lv_icmp_ge (tgt := 298) hx hb dX12_lever_269 (by decide) (fun c23 => ?_) (fun c23 => ?_)
      · refine lv_aload_n hx hb dX12_lever_298 rfl (lv_at hl 0 rfl) ?_
        have k_h0 : u.2.1 h0 = 12 := (hp h0 m0_h0).2.1.trans k0_h0
        have m_h0 : h0 ∈ u.1 := (hp h0 m0_h0).1
        have k_a1 : u.2.1 a1 = 50 := (hp a1 m0_a1).2.1.trans k0_a1
        have m_a1 : a1 ∈ u.1 := (hp a1 m0_a1).1
        refine pget (ci := 12) (v := va_rf (u.2.2.2.2 h0 1)) (C := RX12) (T := TX12) (N := 34) hx hb hts i_X12 hown hK hP m_h0 (cF12 k_h0) rfl 1 (by decide) (hts (.fieldLink RX12 13 "BellowsRowModel" "world" "[I") (by decide +kernel)) (fun _ h9 => h9) rfl dX12_lever_299 ?_
        refine W.eq (g2 := F0 m 302 ls [.ref a1]) (by rw [(((hp h0 m0_h0).2.2.2.2.2.1 k0_h0 1).trans q0_1)]; rfl) ?_
        refine lv_iload hx hb dX12_lever_302 (lv_at hl 4 rfl) ?_
        refine lv_iconst (v := 3) hx hb dX12_lever_304 (by decide) ?_
        refine lv_iadd hx hb dX12_lever_305 ?_
        refine lv_topi (fun x24 ex24 => ?_)
        have tx24 : x24.toInt = v10.toInt + (3 : Int32).toInt := by rw [ex24]; exact i_add (by (try simp only [i_lt, i_le, i_eq, Int32.toInt_toInt64, Int32.reduceToInt, Int64.reduceToInt, true_and, and_true, false_and, and_false, false_or, or_false, true_or, or_true, not_true_eq_false, not_false_eq_true, ne_eq, forall_const, true_implies, false_implies, implies_true] at g_v1 g_v2 g_v3 g_v10 g_v11 ex0 hn265 c23 ⊢) <;> omega) (by (try simp only [i_lt, i_le, i_eq, Int32.toInt_toInt64, Int32.reduceToInt, Int64.reduceToInt, true_and, and_true, false_and, and_false, false_or, or_false, true_or, or_true, not_true_eq_false, not_false_eq_true, ne_eq, forall_const, true_implies, false_implies, implies_true] at g_v1 g_v2 g_v3 g_v10 g_v11 ex0 hn265 c23 ⊢) <;> omega)
        refine lv_iload_n hx hb dX12_lever_306 rfl (lv_at hl 3 rfl) ?_
        refine pasI (u' := pSI u a1 (x24.toNatClampNeg) v3) hx hb hK hP hD hS m_a1 (cF50 k_a1) 1 rfl (vp_in_iff.mpr (by (try simp only [i_lt, i_le, i_eq, Int32.toInt_toInt64, Int32.reduceToInt, Int64.reduceToInt, true_and, and_true, false_and, and_false, false_or, or_false, true_or, or_true, not_true_eq_false, not_false_eq_true, ne_eq, forall_const, true_implies, false_implies, implies_true] at g_v1 g_v2 g_v3 g_v10 g_v11 ex0 hn265 c23 tx24 ⊢) <;> omega)) rfl (sF50 k_a1 _ _) dX12_lever_307 (fun H locs hP hD hS => ?_)
        have hu := WT.setI (a := a1) (s := (x24.toNatClampNeg)) (v := v3) hu (by rw [k_a1]; exact (show okW (x24.toNatClampNeg) v3 from by unfold okW; have z := cl_int (x := x24) (by (try simp only [i_lt, i_le, i_eq, Int32.toInt_toInt64, Int32.reduceToInt, Int64.reduceToInt, true_and, and_true, false_and, and_false, false_or, or_false, true_or, or_true, not_true_eq_false, not_false_eq_true, ne_eq, forall_const, true_implies, false_implies, implies_true] at g_v1 g_v2 g_v3 g_v10 g_v11 ex0 hn265 c23 tx24 ⊢) <;> omega); (try simp only [i_lt, i_le, i_eq, Int32.toInt_toInt64, Int32.reduceToInt, Int64.reduceToInt, true_and, and_true, false_and, and_false, false_or, or_false, true_or, or_true, not_true_eq_false, not_false_eq_true, ne_eq, forall_const, true_implies, false_implies, implies_true] at g_v1 g_v2 g_v3 g_v10 g_v11 ex0 hn265 c23 tx24 z ⊢) <;> omega))
        have hp := PX.setI (a := a1) (s := (x24.toNatClampNeg)) (v := v3) hp (by rw [k_a1]; decide)
        obtain ⟨u25, hu25⟩ : ∃ z, z = pSI u a1 (x24.toNatClampNeg) v3 := ⟨_, rfl⟩
        rw [← hu25] at hP hD hu hp
        refine lv_iconst (v := 0) hx hb dX12_lever_308 (by decide) ?_
        refine lv_istore (lv' := [(11, .int 0), (0, .ref h0), (1, .int v1), (2, .int v2), (3, .int v3), (10, .int v10)]) hx hb dX12_lever_309 hl (by decide) rfl (fun ls hl => ?_)
        exact B311 _ _ _ _ ls v1 v2 v3 v10 0 hu hp hP hD hS (Nat.le_refl _) (by (try simp only [i_lt, i_le, i_eq, Int32.toInt_toInt64, Int32.reduceToInt, Int64.reduceToInt, true_and, and_true, false_and, and_false, false_or, or_false, true_or, or_true, not_true_eq_false, not_false_eq_true, ne_eq, forall_const, true_implies, false_implies, implies_true] at g_v1 g_v2 g_v3 g_v10 g_v11 ex0 hn265 c23 tx24 ⊢) <;> omega) (by (try simp only [i_lt, i_le, i_eq, Int32.toInt_toInt64, Int32.reduceToInt, Int64.reduceToInt, true_and, and_true, false_and, and_false, false_or, or_false, true_or, or_true, not_true_eq_false, not_false_eq_true, ne_eq, forall_const, true_implies, false_implies, implies_true] at g_v1 g_v2 g_v3 g_v10 g_v11 ex0 hn265 c23 tx24 ⊢) <;> omega) (by (try simp only [i_lt, i_le, i_eq, Int32.toInt_toInt64, Int32.reduceToInt, Int64.reduceToInt, true_and, and_true, false_and, and_false, false_or, or_false, true_or, or_true, not_true_eq_false, not_false_eq_true, ne_eq, forall_const, true_implies, false_implies, implies_true] at g_v1 g_v2 g_v3 g_v10 g_v11 ex0 hn265 c23 tx24 ⊢) <;> omega) (by (try simp only [i_lt, i_le, i_eq, Int32.toInt_toInt64, Int32.reduceToInt, Int64.reduceToInt, true_and, and_true, false_and, and_false, false_or, or_false, true_or, or_true, not_true_eq_false, not_false_eq_true, ne_eq, forall_const, true_implies, false_implies, implies_true] at g_v1 g_v2 g_v3 g_v10 g_v11 ex0 hn265 c23 tx24 ⊢) <;> omega) (by (try simp only [i_lt, i_le, i_eq, Int32.toInt_toInt64, Int32.reduceToInt, Int64.reduceToInt, true_and, and_true, false_and, and_false, false_or, or_false, true_or, or_true, not_true_eq_false, not_false_eq_true, ne_eq, forall_const, true_implies, false_implies, implies_true] at g_v1 g_v2 g_v3 g_v10 g_v11 ex0 hn265 c23 tx24 ⊢) <;> omega) (by (try simp only [i_lt, i_le, i_eq, Int32.toInt_toInt64, Int32.reduceToInt, Int64.reduceToInt, true_and, and_true, false_and, and_false, false_or, or_false, true_or, or_true, not_true_eq_false, not_false_eq_true, ne_eq, forall_const, true_implies, false_implies, implies_true] at g_v1 g_v2 g_v3 g_v10 g_v11 ex0 hn265 c23 tx24 ⊢) <;> omega) (lv_sub hl [1, 2, 3, 4, 5, 0] rfl)
      · refine lv_aload_n hx hb dX12_lever_272 rfl (lv_at hl 0 rfl) ?_
        have k_h0 : u.2.1 h0 = 12 := (hp h0 m0_h0).2.1.trans k0_h0
        have m_h0 : h0 ∈ u.1 := (hp h0 m0_h0).1
        have k_a26 : u.2.1 a26 = 59 := (hp a26 m0_a26).2.1.trans k0_a26
        have m_a26 : a26 ∈ u.1 := (hp a26 m0_a26).1
        refine pget (ci := 12) (v := va_rf (u.2.2.2.2 h0 26)) (C := RX12) (T := TX12) (N := 34) hx hb hts i_X12 hown hK hP m_h0 (cF12 k_h0) rfl 26 (by decide) (hts (.fieldLink RX12 55 "BellowsRowModel" "moves0" "[I") (by decide +kernel)) (fun _ h9 => h9) rfl dX12_lever_273 ?_
        refine W.eq (g2 := F0 m 276 ls [.ref a26]) (by rw [(((hp h0 m0_h0).2.2.2.2.2.1 k0_h0 26).trans q0_26)]; rfl) ?_
        refine lv_iload hx hb dX12_lever_276 (lv_at hl 5 rfl) ?_
        refine lv_aload_n hx hb dX12_lever_278 rfl (lv_at hl 0 rfl) ?_
        have k_a1 : u.2.1 a1 = 50 := (hp a1 m0_a1).2.1.trans k0_a1
        have m_a1 : a1 ∈ u.1 := (hp a1 m0_a1).1
        refine pget (ci := 12) (v := va_rf (u.2.2.2.2 h0 1)) (C := RX12) (T := TX12) (N := 34) hx hb hts i_X12 hown hK hP m_h0 (cF12 k_h0) rfl 1 (by decide) (hts (.fieldLink RX12 13 "BellowsRowModel" "world" "[I") (by decide +kernel)) (fun _ h9 => h9) rfl dX12_lever_279 ?_
        refine W.eq (g2 := F0 m 282 ls [.ref a1, .int v11, .ref a26]) (by rw [(((hp h0 m0_h0).2.2.2.2.2.1 k0_h0 1).trans q0_1)]; rfl) ?_
        refine lv_iload hx hb dX12_lever_282 (lv_at hl 4 rfl) ?_
        refine lv_bipush (v := 8) hx hb dX12_lever_284 (by decide) ?_
        refine lv_iadd hx hb dX12_lever_286 ?_
        refine lv_topi (fun x26 ex26 => ?_)
        have tx26 : x26.toInt = v10.toInt + (8 : Int32).toInt := by rw [ex26]; exact i_add (by (try simp only [i_lt, i_le, i_eq, Int32.toInt_toInt64, Int32.reduceToInt, Int64.reduceToInt, true_and, and_true, false_and, and_false, false_or, or_false, true_or, or_true, not_true_eq_false, not_false_eq_true, ne_eq, forall_const, true_implies, false_implies, implies_true] at g_v1 g_v2 g_v3 g_v10 g_v11 ex0 hn265 c23 ⊢) <;> omega) (by (try simp only [i_lt, i_le, i_eq, Int32.toInt_toInt64, Int32.reduceToInt, Int64.reduceToInt, true_and, and_true, false_and, and_false, false_or, or_false, true_or, or_true, not_true_eq_false, not_false_eq_true, ne_eq, forall_const, true_implies, false_implies, implies_true] at g_v1 g_v2 g_v3 g_v10 g_v11 ex0 hn265 c23 ⊢) <;> omega)
        refine lv_iload hx hb dX12_lever_287 (lv_at hl 5 rfl) ?_
        refine lv_iadd hx hb dX12_lever_289 ?_
        refine lv_topi (fun x27 ex27 => ?_)
        have tx27 : x27.toInt = x26.toInt + v11.toInt := by rw [ex27]; exact i_add (by (try simp only [i_lt, i_le, i_eq, Int32.toInt_toInt64, Int32.reduceToInt, Int64.reduceToInt, true_and, and_true, false_and, and_false, false_or, or_false, true_or, or_true, not_true_eq_false, not_false_eq_true, ne_eq, forall_const, true_implies, false_implies, implies_true] at g_v1 g_v2 g_v3 g_v10 g_v11 ex0 hn265 c23 tx26 ⊢) <;> omega) (by (try simp only [i_lt, i_le, i_eq, Int32.toInt_toInt64, Int32.reduceToInt, Int64.reduceToInt, true_and, and_true, false_and, and_false, false_or, or_false, true_or, or_true, not_true_eq_false, not_false_eq_true, ne_eq, forall_const, true_implies, false_implies, implies_true] at g_v1 g_v2 g_v3 g_v10 g_v11 ex0 hn265 c23 tx26 ⊢) <;> omega)
        refine palI hx hb hK hP m_a1 (cF50 k_a1) 1 rfl (vp_in_iff.mpr (by (try simp only [i_lt, i_le, i_eq, Int32.toInt_toInt64, Int32.reduceToInt, Int64.reduceToInt, true_and, and_true, false_and, and_false, false_or, or_false, true_or, or_true, not_true_eq_false, not_false_eq_true, ne_eq, forall_const, true_implies, false_implies, implies_true] at g_v1 g_v2 g_v3 g_v10 g_v11 ex0 hn265 c23 tx26 tx27 ⊢) <;> omega)) dX12_lever_290 ?_
        refine lv_topi (fun x28 ex28 => ?_)
        have tx28 : x28.toInt = (u.2.2.1 a1 (x27.toNatClampNeg)).toInt := congrArg Int32.toInt ex28
        refine pasI (u' := pSI u a26 (v11.toNatClampNeg) x28) hx hb hK hP hD hS m_a26 (cF59 k_a26) 1 rfl (vp_in_iff.mpr (by (try simp only [i_lt, i_le, i_eq, Int32.toInt_toInt64, Int32.reduceToInt, Int64.reduceToInt, true_and, and_true, false_and, and_false, false_or, or_false, true_or, or_true, not_true_eq_false, not_false_eq_true, ne_eq, forall_const, true_implies, false_implies, implies_true] at g_v1 g_v2 g_v3 g_v10 g_v11 ex0 hn265 c23 tx26 tx27 tx28 ⊢) <;> omega)) rfl (sF59 k_a26 _ _) dX12_lever_291 (fun H locs hP hD hS => ?_)
        have hu := WT.setI (a := a26) (s := (v11.toNatClampNeg)) (v := x28) hu (by rw [k_a26]; exact (show (v11.toNatClampNeg) = 16 → 0 ≤ x28.toInt ∧ x28.toInt ≤ 8 from by intro q; have z := cl_int (x := v11) (by (try simp only [i_lt, i_le, i_eq, Int32.toInt_toInt64, Int32.reduceToInt, Int64.reduceToInt, true_and, and_true, false_and, and_false, false_or, or_false, true_or, or_true, not_true_eq_false, not_false_eq_true, ne_eq, forall_const, true_implies, false_implies, implies_true] at g_v1 g_v2 g_v3 g_v10 g_v11 ex0 hn265 c23 tx26 tx27 tx28 ⊢) <;> omega); (try simp only [i_lt, i_le, i_eq, Int32.toInt_toInt64, Int32.reduceToInt, Int64.reduceToInt, true_and, and_true, false_and, and_false, false_or, or_false, true_or, or_true, not_true_eq_false, not_false_eq_true, ne_eq, forall_const, true_implies, false_implies, implies_true] at g_v1 g_v2 g_v3 g_v10 g_v11 ex0 hn265 c23 tx26 tx27 tx28 z q ⊢) <;> omega))
        have hp := PX.setI (a := a26) (s := (v11.toNatClampNeg)) (v := x28) hp (by rw [k_a26]; decide)
        obtain ⟨u29, hu29⟩ : ∃ z, z = pSI u a26 (v11.toNatClampNeg) x28 := ⟨_, rfl⟩
        rw [← hu29] at hP hD hu hp
        obtain ⟨x30, ex30⟩ : ∃ y : Int32, y = v11 + 1 := ⟨_, rfl⟩
        have tx30 : x30.toInt = v11.toInt + 1 := by rw [ex30]; exact i_add (b := 1) (by (try simp only [i_lt, i_le, i_eq, Int32.toInt_toInt64, Int32.reduceToInt, Int64.reduceToInt, true_and, and_true, false_and, and_false, false_or, or_false, true_or, or_true, not_true_eq_false, not_false_eq_true, ne_eq, forall_const, true_implies, false_implies, implies_true] at g_v1 g_v2 g_v3 g_v10 g_v11 ex0 hn265 c23 tx26 tx27 tx28 ⊢) <;> omega) (by (try simp only [i_lt, i_le, i_eq, Int32.toInt_toInt64, Int32.reduceToInt, Int64.reduceToInt, true_and, and_true, false_and, and_false, false_or, or_false, true_or, or_true, not_true_eq_false, not_false_eq_true, ne_eq, forall_const, true_implies, false_implies, implies_true] at g_v1 g_v2 g_v3 g_v10 g_v11 ex0 hn265 c23 tx26 tx27 tx28 ⊢) <;> omega)
        refine lv_iinc (v := x30) (lv' := [(11, .int x30), (0, .ref h0), (1, .int v1), (2, .int v2), (3, .int v3), (10, .int v10)]) hx hb dX12_lever_292 hl (k := 5) rfl (by rw [ex30]; rfl) (by decide) rfl (fun ls hl => ?_)
        refine lv_goto (tgt := 265) hx hb dX12_lever_295 (by decide) ?_
        exact ih265 _ _ _ ls v1 v2 v3 v10 x30 hu hp hP hD hS (by (try simp only [i_lt, i_le, i_eq, Int32.toInt_toInt64, Int32.reduceToInt, Int64.reduceToInt, true_and, and_true, false_and, and_false, false_or, or_false, true_or, or_true, not_true_eq_false, not_false_eq_true, ne_eq, forall_const, true_implies, false_implies, implies_true] at g_v1 g_v2 g_v3 g_v10 g_v11 ex0 hn265 c23 tx26 tx27 tx28 tx30 ⊢) <;> omega) (by (try simp only [i_lt, i_le, i_eq, Int32.toInt_toInt64, Int32.reduceToInt, Int64.reduceToInt, true_and, and_true, false_and, and_false, false_or, or_false, true_or, or_true, not_true_eq_false, not_false_eq_true, ne_eq, forall_const, true_implies, false_implies, implies_true] at g_v1 g_v2 g_v3 g_v10 g_v11 ex0 hn265 c23 tx26 tx27 tx28 tx30 ⊢) <;> omega) (by (try simp only [i_lt, i_le, i_eq, Int32.toInt_toInt64, Int32.reduceToInt, Int64.reduceToInt, true_and, and_true, false_and, and_false, false_or, or_false, true_or, or_true, not_true_eq_false, not_false_eq_true, ne_eq, forall_const, true_implies, false_implies, implies_true] at g_v1 g_v2 g_v3 g_v10 g_v11 ex0 hn265 c23 tx26 tx27 tx28 tx30 ⊢) <;> omega) (by (try simp only [i_lt, i_le, i_eq, Int32.toInt_toInt64, Int32.reduceToInt, Int64.reduceToInt, true_and, and_true, false_and, and_false, false_or, or_false, true_or, or_true, not_true_eq_false, not_false_eq_true, ne_eq, forall_const, true_implies, false_implies, implies_true] at g_v1 g_v2 g_v3 g_v10 g_v11 ex0 hn265 c23 tx26 tx27 tx28 tx30 ⊢) <;> omega) (by (try simp only [i_lt, i_le, i_eq, Int32.toInt_toInt64, Int32.reduceToInt, Int64.reduceToInt, true_and, and_true, false_and, and_false, false_or, or_false, true_or, or_true, not_true_eq_false, not_false_eq_true, ne_eq, forall_const, true_implies, false_implies, implies_true] at g_v1 g_v2 g_v3 g_v10 g_v11 ex0 hn265 c23 tx26 tx27 tx28 tx30 ⊢) <;> omega) (by (try simp only [i_lt, i_le, i_eq, Int32.toInt_toInt64, Int32.reduceToInt, Int64.reduceToInt, true_and, and_true, false_and, and_false, false_or, or_false, true_or, or_true, not_true_eq_false, not_false_eq_true, ne_eq, forall_const, true_implies, false_implies, implies_true] at g_v1 g_v2 g_v3 g_v10 g_v11 ex0 hn265 c23 tx26 tx27 tx28 tx30 ⊢) <;> omega) (by (try simp only [i_lt, i_le, i_eq, Int32.toInt_toInt64, Int32.reduceToInt, Int64.reduceToInt, true_and, and_true, false_and, and_false, false_or, or_false, true_or, or_true, not_true_eq_false, not_false_eq_true, ne_eq, forall_const, true_implies, false_implies, implies_true] at g_v1 g_v2 g_v3 g_v10 g_v11 ex0 hn265 c23 tx26 tx27 tx28 tx30 ⊢) <;> omega) (lv_sub hl [1, 2, 3, 4, 5, 0] rfl)
  have B64 : ∀ (n64 : Nat) (u : PSt) (H : Heap) (locs : List Loc) (ls : Array Slot) (v1 : Int32) (v2 : Int32) (v3 : Int32) (v4 : Int64) (v6 : Int64) (v8 : Int32), WT u → PX u0 u → va_P D vwCl (PW k u) H → va_D A (PW k u) → va_S A s.heap H locs → (2147483648 - v8.toInt).toNat ≤ n64 → 0 ≤ v1.toInt ∧ v1.toInt ≤ 3 → 0 ≤ v2.toInt ∧ v2.toInt ≤ 11 → 1 ≤ v3.toInt ∧ v3.toInt ≤ 8 → 0 ≤ v8.toInt ∧ v8.toInt ≤ 8 → lv_has ls 13 [(0, .ref h0), (1, .int v1), (2, .int v2), (3, .int v3), (4, .long v4), (6, .long v6), (8, .int v8)] → W p l e (headSpec wsX12_lever ({ frames := 3, cells := 0, slots := 0, locals := 72 })).room s m ([.ref h0, .int p1, .int p2] : List Value).toArray below meth c H locs 0 0 (MQ below (va_Qi (fun r v => WT v ∧ PX u0 v ∧ (True)) (WB D A (PW k)) A) ([.ref h0, .int p1, .int p2] : List Value).toArray s 0 0 A) (F0 m 64 ls []) := by
    intro n64
    induction n64 with
    | zero =>
      intro u H locs ls v1 v2 v3 v4 v6 v8 hu hp hP hD hS hn64 g_v1 g_v2 g_v3 g_v8 hl
      exact absurd hn64 (by have := Int32.toInt_lt v8; have := Int32.le_toInt v8; omega)
    | succ n64 ih64 =>
      intro u H locs ls v1 v2 v3 v4 v6 v8 hu hp hP hD hS hn64 g_v1 g_v2 g_v3 g_v8 hl
      refine lv_iload hx hb dX12_lever_64 (lv_at hl 6 rfl) ?_
      refine lv_iload_n hx hb dX12_lever_66 rfl (lv_at hl 3 rfl) ?_
      refine lv_icmp_ge (tgt := 170) hx hb dX12_lever_67 (by decide) (fun c31 => ?_) (fun c31 => ?_)
      · refine lv_aload_n hx hb dX12_lever_170 rfl (lv_at hl 0 rfl) ?_
        refine lv_iload_n hx hb dX12_lever_171 rfl (lv_at hl 2 rfl) ?_
        refine lv_iconst (v := 0) hx hb dX12_lever_172 (by decide) ?_
        have k_h0 : u.2.1 h0 = 12 := (hp h0 m0_h0).2.1.trans k0_h0
        have m_h0 : h0 ∈ u.1 := (hp h0 m0_h0).1
        refine rvi (C := RX12) (As := [.int v2, .int 0]) (rest := []) ⟨hx, hb, hml, hown, hts⟩ (t_X12_ofPipe l D k u hu h0 m_h0 k_h0 v2 0 (by (try simp only [i_lt, i_le, i_eq, Int32.toInt_toInt64, Int32.reduceToInt, Int64.reduceToInt, true_and, and_true, false_and, and_false, false_or, or_false, true_or, or_true, not_true_eq_false, not_false_eq_true, ne_eq, forall_const, true_implies, false_implies, implies_true] at g_v1 g_v2 g_v3 g_v8 hn64 c31 ⊢) <;> omega) (by decide)) (cwV 2 hts gX12_lever_X12_ofPipe rfl rfl rfl (by decide +kernel) ⟨Nat.le_of_ble_eq_true rfl, Nat.le_of_ble_eq_true rfl⟩) hP hK (precv hK hP m_h0 (cF12 k_h0) rfl) rfl hl.1 rfl (Nat.le_of_ble_eq_true rfl) dX12_lever_173 ⟨Nat.le_of_ble_eq_true rfl, Nat.le_of_ble_eq_true rfl⟩ (fun r32 hr32 => ?_)
        replace hr32 : 0 ≤ r32.toInt ∧ r32.toInt ≤ 7 := by have h := hr32.1; clear hr32; (simp only [i_lt, i_le, i_eq, Int32.toInt_toInt64, Int32.reduceToInt, Int64.reduceToInt, true_and, and_true, false_and, and_false, false_or, or_false, true_or, or_true, not_true_eq_false, not_false_eq_true, ne_eq, forall_const, true_implies, false_implies, implies_true] at h) <;> omega
        refine lv_istore (lv' := [(8, .int r32), (0, .ref h0), (1, .int v1), (2, .int v2), (3, .int v3), (4, .long v4), (6, .long v6)]) hx hb dX12_lever_176 hl (by decide) rfl (fun ls hl => ?_)
        refine lv_aload_n hx hb dX12_lever_178 rfl (lv_at hl 1 rfl) ?_
        refine lv_iload_n hx hb dX12_lever_179 rfl (lv_at hl 3 rfl) ?_
        refine lv_iconst (v := 1) hx hb dX12_lever_180 (by decide) ?_
        refine rvi (C := RX12) (As := [.int v2, .int 1]) (rest := []) ⟨hx, hb, hml, hown, hts⟩ (t_X12_ofPipe l D k u hu h0 m_h0 k_h0 v2 1 (by (try simp only [i_lt, i_le, i_eq, Int32.toInt_toInt64, Int32.reduceToInt, Int64.reduceToInt, true_and, and_true, false_and, and_false, false_or, or_false, true_or, or_true, not_true_eq_false, not_false_eq_true, ne_eq, forall_const, true_implies, false_implies, implies_true] at g_v1 g_v2 g_v3 g_v8 hn64 c31 hr32 ⊢) <;> omega) (by decide)) (cwV 2 hts gX12_lever_X12_ofPipe rfl rfl rfl (by decide +kernel) ⟨Nat.le_of_ble_eq_true rfl, Nat.le_of_ble_eq_true rfl⟩) hP hK (precv hK hP m_h0 (cF12 k_h0) rfl) rfl hl.1 rfl (Nat.le_of_ble_eq_true rfl) dX12_lever_181 ⟨Nat.le_of_ble_eq_true rfl, Nat.le_of_ble_eq_true rfl⟩ (fun r33 hr33 => ?_)
        replace hr33 : 0 ≤ r33.toInt ∧ r33.toInt ≤ 7 := by have h := hr33.1; clear hr33; (simp only [i_lt, i_le, i_eq, Int32.toInt_toInt64, Int32.reduceToInt, Int64.reduceToInt, true_and, and_true, false_and, and_false, false_or, or_false, true_or, or_true, not_true_eq_false, not_false_eq_true, ne_eq, forall_const, true_implies, false_implies, implies_true] at h) <;> omega
        refine lv_istore (lv' := [(9, .int r33), (8, .int r32), (0, .ref h0), (1, .int v1), (2, .int v2), (3, .int v3), (4, .long v4), (6, .long v6)]) hx hb dX12_lever_184 hl (by decide) rfl (fun ls hl => ?_)
        refine lv_lload hx hb dX12_lever_186 (lv_at hl 6 rfl) ?_
        refine lv_ldc2 (own := RX12) (v := 100) hx hb hown (hts (.constantLong RX12 336 (100)) (by decide +kernel)) dX12_lever_188 ?_
        refine lv_iload hx hb dX12_lever_191 (lv_at hl 0 rfl) ?_
        refine lv_iload hx hb dX12_lever_193 (lv_at hl 1 rfl) ?_
        refine lv_isub hx hb dX12_lever_195 ?_
        refine lv_topi (fun x34 ex34 => ?_)
        have tx34 : x34.toInt = r33.toInt - r32.toInt := by rw [ex34]; exact i_sub (by (try simp only [i_lt, i_le, i_eq, Int32.toInt_toInt64, Int32.reduceToInt, Int64.reduceToInt, true_and, and_true, false_and, and_false, false_or, or_false, true_or, or_true, not_true_eq_false, not_false_eq_true, ne_eq, forall_const, true_implies, false_implies, implies_true] at g_v1 g_v2 g_v3 g_v8 hn64 c31 hr32 hr33 ⊢) <;> omega) (by (try simp only [i_lt, i_le, i_eq, Int32.toInt_toInt64, Int32.reduceToInt, Int64.reduceToInt, true_and, and_true, false_and, and_false, false_or, or_false, true_or, or_true, not_true_eq_false, not_false_eq_true, ne_eq, forall_const, true_implies, false_implies, implies_true] at g_v1 g_v2 g_v3 g_v8 hn64 c31 hr32 hr33 ⊢) <;> omega)
        refine lv_i2l hx hb dX12_lever_196 rfl ?_
        refine lv_topl (fun x35 ex35 => ?_)
        have tx35 : x35.toInt = x34.toInt := by rw [ex35]; exact Int32.toInt_toInt64 _
        refine lv_lmul hx hb dX12_lever_197 ?_
        refine lv_topl (fun x36 ex36 => ?_)
        refine W.lcmp hx hb dX12_lever_198 ?_
        refine lv_if_ne (tgt := 234) hx hb dX12_lever_199 (by decide) (fun c37 => ?_) (fun c37 => ?_)
        · simp only [lg_cmp_lt, lg_cmp_gt, lg_cmp_le, lg_cmp_ge, lg_cmp_eq, Int64.lt_iff_toInt_lt, Int64.le_iff_toInt_le] at c37
          refine lv_bipush (v := (-5)) hx hb dX12_lever_234 (by decide) ?_
          exact W.iret (v := (-5)) hx hb hr (fun t ht hW => ⟨⟨(-5), u, rfl, ⟨hu, hp, trivial⟩, by rw [ht]; exact hP, hD⟩, hS.F ht⟩) hS.2.2 dX12_lever_236
        · simp only [lg_cmp_lt, lg_cmp_gt, lg_cmp_le, lg_cmp_ge, lg_cmp_eq, Int64.lt_iff_toInt_lt, Int64.le_iff_toInt_le] at c37
          refine lv_lload hx hb dX12_lever_202 (lv_at hl 7 rfl) ?_
          refine lv_aload_n hx hb dX12_lever_204 rfl (lv_at hl 2 rfl) ?_
          have k_a1 : u.2.1 a1 = 50 := (hp a1 m0_a1).2.1.trans k0_a1
          have m_a1 : a1 ∈ u.1 := (hp a1 m0_a1).1
          refine pget (ci := 12) (v := va_rf (u.2.2.2.2 h0 1)) (C := RX12) (T := TX12) (N := 34) hx hb hts i_X12 hown hK hP m_h0 (cF12 k_h0) rfl 1 (by decide) (hts (.fieldLink RX12 13 "BellowsRowModel" "world" "[I") (by decide +kernel)) (fun _ h9 => h9) rfl dX12_lever_205 ?_
          refine W.eq (g2 := F0 m 208 ls [.ref a1, .long v6]) (by rw [(((hp h0 m0_h0).2.2.2.2.2.1 k0_h0 1).trans q0_1)]; rfl) ?_
          refine lv_bipush (v := 10) hx hb dX12_lever_208 (by decide) ?_
          refine lv_iconst (v := 2) hx hb dX12_lever_210 (by decide) ?_
          refine lv_iload hx hb dX12_lever_211 (lv_at hl 0 rfl) ?_
          refine lv_imul hx hb dX12_lever_213 ?_
          refine lv_topi (fun x38 ex38 => ?_)
          have tx38 : x38.toInt = 2 * r33.toInt := by rw [ex38]; exact i_mulc (c := 2) (by decide) ((show 0 ≤ r33.toInt ∧ r33.toInt ≤ 7 from by (try simp only [i_lt, i_le, i_eq, Int32.toInt_toInt64, Int32.reduceToInt, Int64.reduceToInt, true_and, and_true, false_and, and_false, false_or, or_false, true_or, or_true, not_true_eq_false, not_false_eq_true, ne_eq, forall_const, true_implies, false_implies, implies_true] at g_v1 g_v2 g_v3 g_v8 hn64 c31 hr32 hr33 tx34 tx35 ⊢) <;> omega)) (by decide)
          refine lv_iadd hx hb dX12_lever_214 ?_
          refine lv_topi (fun x39 ex39 => ?_)
          have tx39 : x39.toInt = (10 : Int32).toInt + x38.toInt := by rw [ex39]; exact i_add (by (try simp only [i_lt, i_le, i_eq, Int32.toInt_toInt64, Int32.reduceToInt, Int64.reduceToInt, true_and, and_true, false_and, and_false, false_or, or_false, true_or, or_true, not_true_eq_false, not_false_eq_true, ne_eq, forall_const, true_implies, false_implies, implies_true] at g_v1 g_v2 g_v3 g_v8 hn64 c31 hr32 hr33 tx34 tx35 tx38 ⊢) <;> omega) (by (try simp only [i_lt, i_le, i_eq, Int32.toInt_toInt64, Int32.reduceToInt, Int64.reduceToInt, true_and, and_true, false_and, and_false, false_or, or_false, true_or, or_true, not_true_eq_false, not_false_eq_true, ne_eq, forall_const, true_implies, false_implies, implies_true] at g_v1 g_v2 g_v3 g_v8 hn64 c31 hr32 hr33 tx34 tx35 tx38 ⊢) <;> omega)
          refine palI hx hb hK hP m_a1 (cF50 k_a1) 1 rfl (vp_in_iff.mpr (by (try simp only [i_lt, i_le, i_eq, Int32.toInt_toInt64, Int32.reduceToInt, Int64.reduceToInt, true_and, and_true, false_and, and_false, false_or, or_false, true_or, or_true, not_true_eq_false, not_false_eq_true, ne_eq, forall_const, true_implies, false_implies, implies_true] at g_v1 g_v2 g_v3 g_v8 hn64 c31 hr32 hr33 tx34 tx35 tx38 tx39 ⊢) <;> omega)) dX12_lever_215 ?_
          refine lv_topi (fun x40 ex40 => ?_)
          have tx40 : x40.toInt = (u.2.2.1 a1 (x39.toNatClampNeg)).toInt := congrArg Int32.toInt ex40
          refine lv_aload_n hx hb dX12_lever_216 rfl (lv_at hl 2 rfl) ?_
          refine pget (ci := 12) (v := va_rf (u.2.2.2.2 h0 1)) (C := RX12) (T := TX12) (N := 34) hx hb hts i_X12 hown hK hP m_h0 (cF12 k_h0) rfl 1 (by decide) (hts (.fieldLink RX12 13 "BellowsRowModel" "world" "[I") (by decide +kernel)) (fun _ h9 => h9) rfl dX12_lever_217 ?_
          refine W.eq (g2 := F0 m 220 ls [.ref a1, .int x40, .long v6]) (by rw [(((hp h0 m0_h0).2.2.2.2.2.1 k0_h0 1).trans q0_1)]; rfl) ?_
          refine lv_bipush (v := 10) hx hb dX12_lever_220 (by decide) ?_
          refine lv_iconst (v := 2) hx hb dX12_lever_222 (by decide) ?_
          refine lv_iload hx hb dX12_lever_223 (lv_at hl 1 rfl) ?_
          refine lv_imul hx hb dX12_lever_225 ?_
          refine lv_topi (fun x41 ex41 => ?_)
          have tx41 : x41.toInt = 2 * r32.toInt := by rw [ex41]; exact i_mulc (c := 2) (by decide) ((show 0 ≤ r32.toInt ∧ r32.toInt ≤ 7 from by (try simp only [i_lt, i_le, i_eq, Int32.toInt_toInt64, Int32.reduceToInt, Int64.reduceToInt, true_and, and_true, false_and, and_false, false_or, or_false, true_or, or_true, not_true_eq_false, not_false_eq_true, ne_eq, forall_const, true_implies, false_implies, implies_true] at g_v1 g_v2 g_v3 g_v8 hn64 c31 hr32 hr33 tx34 tx35 tx38 tx39 tx40 ⊢) <;> omega)) (by decide)
          refine lv_iadd hx hb dX12_lever_226 ?_
          refine lv_topi (fun x42 ex42 => ?_)
          have tx42 : x42.toInt = (10 : Int32).toInt + x41.toInt := by rw [ex42]; exact i_add (by (try simp only [i_lt, i_le, i_eq, Int32.toInt_toInt64, Int32.reduceToInt, Int64.reduceToInt, true_and, and_true, false_and, and_false, false_or, or_false, true_or, or_true, not_true_eq_false, not_false_eq_true, ne_eq, forall_const, true_implies, false_implies, implies_true] at g_v1 g_v2 g_v3 g_v8 hn64 c31 hr32 hr33 tx34 tx35 tx38 tx39 tx40 tx41 ⊢) <;> omega) (by (try simp only [i_lt, i_le, i_eq, Int32.toInt_toInt64, Int32.reduceToInt, Int64.reduceToInt, true_and, and_true, false_and, and_false, false_or, or_false, true_or, or_true, not_true_eq_false, not_false_eq_true, ne_eq, forall_const, true_implies, false_implies, implies_true] at g_v1 g_v2 g_v3 g_v8 hn64 c31 hr32 hr33 tx34 tx35 tx38 tx39 tx40 tx41 ⊢) <;> omega)
          refine palI hx hb hK hP m_a1 (cF50 k_a1) 1 rfl (vp_in_iff.mpr (by (try simp only [i_lt, i_le, i_eq, Int32.toInt_toInt64, Int32.reduceToInt, Int64.reduceToInt, true_and, and_true, false_and, and_false, false_or, or_false, true_or, or_true, not_true_eq_false, not_false_eq_true, ne_eq, forall_const, true_implies, false_implies, implies_true] at g_v1 g_v2 g_v3 g_v8 hn64 c31 hr32 hr33 tx34 tx35 tx38 tx39 tx40 tx41 tx42 ⊢) <;> omega)) dX12_lever_227 ?_
          refine lv_topi (fun x43 ex43 => ?_)
          have tx43 : x43.toInt = (u.2.2.1 a1 (x42.toNatClampNeg)).toInt := congrArg Int32.toInt ex43
          refine lv_isub hx hb dX12_lever_228 ?_
          refine lv_topi (fun x44 ex44 => ?_)
          refine lv_i2l hx hb dX12_lever_229 rfl ?_
          have b45 := Int32.toInt_lt x44
          have ab45 := Int32.le_toInt x44
          refine lv_topl (fun x46 ex46 => ?_)
          have tx46 : x46.toInt = x44.toInt := by rw [ex46]; exact Int32.toInt_toInt64 _
          refine W.lcmp hx hb dX12_lever_230 ?_
          refine lv_if_eq (tgt := 237) hx hb dX12_lever_231 (by decide) (fun c47 => ?_) (fun c47 => ?_)
          · simp only [lg_cmp_lt, lg_cmp_gt, lg_cmp_le, lg_cmp_ge, lg_cmp_eq, Int64.lt_iff_toInt_lt, Int64.le_iff_toInt_le] at c47
            refine lv_bipush (v := 26) hx hb dX12_lever_237 (by decide) ?_
            refine lv_bipush (v := 24) hx hb dX12_lever_239 (by decide) ?_
            refine lv_iload_n hx hb dX12_lever_241 rfl (lv_at hl 4 rfl) ?_
            refine lv_imul hx hb dX12_lever_242 ?_
            refine lv_topi (fun x48 ex48 => ?_)
            have tx48 : x48.toInt = 24 * v2.toInt := by rw [ex48]; exact i_mulc (c := 24) (by decide) ((show 0 ≤ v2.toInt ∧ v2.toInt ≤ 11 from by (try simp only [i_lt, i_le, i_eq, Int32.toInt_toInt64, Int32.reduceToInt, Int64.reduceToInt, true_and, and_true, false_and, and_false, false_or, or_false, true_or, or_true, not_true_eq_false, not_false_eq_true, ne_eq, forall_const, true_implies, false_implies, implies_true] at g_v1 g_v2 g_v3 g_v8 hn64 c31 hr32 hr33 tx34 tx35 tx38 tx39 tx40 tx41 tx42 tx43 b45 ab45 tx46 ⊢) <;> omega)) (by decide)
            refine lv_iadd hx hb dX12_lever_243 ?_
            refine lv_topi (fun x49 ex49 => ?_)
            have tx49 : x49.toInt = (26 : Int32).toInt + x48.toInt := by rw [ex49]; exact i_add (by (try simp only [i_lt, i_le, i_eq, Int32.toInt_toInt64, Int32.reduceToInt, Int64.reduceToInt, true_and, and_true, false_and, and_false, false_or, or_false, true_or, or_true, not_true_eq_false, not_false_eq_true, ne_eq, forall_const, true_implies, false_implies, implies_true] at g_v1 g_v2 g_v3 g_v8 hn64 c31 hr32 hr33 tx34 tx35 tx38 tx39 tx40 tx41 tx42 tx43 b45 ab45 tx46 tx48 ⊢) <;> omega) (by (try simp only [i_lt, i_le, i_eq, Int32.toInt_toInt64, Int32.reduceToInt, Int64.reduceToInt, true_and, and_true, false_and, and_false, false_or, or_false, true_or, or_true, not_true_eq_false, not_false_eq_true, ne_eq, forall_const, true_implies, false_implies, implies_true] at g_v1 g_v2 g_v3 g_v8 hn64 c31 hr32 hr33 tx34 tx35 tx38 tx39 tx40 tx41 tx42 tx43 b45 ab45 tx46 tx48 ⊢) <;> omega)
            refine lv_istore (lv' := [(10, .int x49), (9, .int r33), (8, .int r32), (0, .ref h0), (1, .int v1), (2, .int v2), (3, .int v3), (4, .long v4), (6, .long v6)]) hx hb dX12_lever_244 hl (by decide) rfl (fun ls hl => ?_)
            refine lv_aload_n hx hb dX12_lever_246 rfl (lv_at hl 3 rfl) ?_
            have k_a26 : u.2.1 a26 = 59 := (hp a26 m0_a26).2.1.trans k0_a26
            have m_a26 : a26 ∈ u.1 := (hp a26 m0_a26).1
            refine pget (ci := 12) (v := va_rf (u.2.2.2.2 h0 26)) (C := RX12) (T := TX12) (N := 34) hx hb hts i_X12 hown hK hP m_h0 (cF12 k_h0) rfl 26 (by decide) (hts (.fieldLink RX12 55 "BellowsRowModel" "moves0" "[I") (by decide +kernel)) (fun _ h9 => h9) rfl dX12_lever_247 ?_
            refine W.eq (g2 := F0 m 250 ls [.ref a26]) (by rw [(((hp h0 m0_h0).2.2.2.2.2.1 k0_h0 26).trans q0_26)]; rfl) ?_
            refine lv_bipush (v := 16) hx hb dX12_lever_250 (by decide) ?_
            refine lv_aload_n hx hb dX12_lever_252 rfl (lv_at hl 3 rfl) ?_
            refine pget (ci := 12) (v := va_rf (u.2.2.2.2 h0 1)) (C := RX12) (T := TX12) (N := 34) hx hb hts i_X12 hown hK hP m_h0 (cF12 k_h0) rfl 1 (by decide) (hts (.fieldLink RX12 13 "BellowsRowModel" "world" "[I") (by decide +kernel)) (fun _ h9 => h9) rfl dX12_lever_253 ?_
            refine W.eq (g2 := F0 m 256 ls [.ref a1, .int 16, .ref a26]) (by rw [(((hp h0 m0_h0).2.2.2.2.2.1 k0_h0 1).trans q0_1)]; rfl) ?_
            refine lv_iload hx hb dX12_lever_256 (lv_at hl 0 rfl) ?_
            refine lv_iconst (v := 3) hx hb dX12_lever_258 (by decide) ?_
            refine lv_iadd hx hb dX12_lever_259 ?_
            refine lv_topi (fun x50 ex50 => ?_)
            have tx50 : x50.toInt = x49.toInt + (3 : Int32).toInt := by rw [ex50]; exact i_add (by (try simp only [i_lt, i_le, i_eq, Int32.toInt_toInt64, Int32.reduceToInt, Int64.reduceToInt, true_and, and_true, false_and, and_false, false_or, or_false, true_or, or_true, not_true_eq_false, not_false_eq_true, ne_eq, forall_const, true_implies, false_implies, implies_true] at g_v1 g_v2 g_v3 g_v8 hn64 c31 hr32 hr33 tx34 tx35 tx38 tx39 tx40 tx41 tx42 tx43 b45 ab45 tx46 tx48 tx49 ⊢) <;> omega) (by (try simp only [i_lt, i_le, i_eq, Int32.toInt_toInt64, Int32.reduceToInt, Int64.reduceToInt, true_and, and_true, false_and, and_false, false_or, or_false, true_or, or_true, not_true_eq_false, not_false_eq_true, ne_eq, forall_const, true_implies, false_implies, implies_true] at g_v1 g_v2 g_v3 g_v8 hn64 c31 hr32 hr33 tx34 tx35 tx38 tx39 tx40 tx41 tx42 tx43 b45 ab45 tx46 tx48 tx49 ⊢) <;> omega)
            refine palI hx hb hK hP m_a1 (cF50 k_a1) 1 rfl (vp_in_iff.mpr (by (try simp only [i_lt, i_le, i_eq, Int32.toInt_toInt64, Int32.reduceToInt, Int64.reduceToInt, true_and, and_true, false_and, and_false, false_or, or_false, true_or, or_true, not_true_eq_false, not_false_eq_true, ne_eq, forall_const, true_implies, false_implies, implies_true] at g_v1 g_v2 g_v3 g_v8 hn64 c31 hr32 hr33 tx34 tx35 tx38 tx39 tx40 tx41 tx42 tx43 b45 ab45 tx46 tx48 tx49 tx50 ⊢) <;> omega)) dX12_lever_260 ?_
            refine lv_topi (fun x51 ex51 => ?_)
            have tx51 : x51.toInt = (u.2.2.1 a1 (x50.toNatClampNeg)).toInt := congrArg Int32.toInt ex51
            have g52 : 0 ≤ x51.toInt ∧ x51.toInt ≤ 8 := by have g : okI (u.2.1 a1) (x50.toNatClampNeg) (u.2.2.1 a1 (x50.toNatClampNeg)) := (hu a1 m_a1).2.2.2 (x50.toNatClampNeg); rw [k_a1, ← (show x51 = u.2.2.1 a1 (x50.toNatClampNeg) from ex51)] at g; have g : okW (x50.toNatClampNeg) x51 := g; unfold okW at g; have z := cl_int (x := x50) (by (try simp only [i_lt, i_le, i_eq, Int32.toInt_toInt64, Int32.reduceToInt, Int64.reduceToInt, true_and, and_true, false_and, and_false, false_or, or_false, true_or, or_true, not_true_eq_false, not_false_eq_true, ne_eq, forall_const, true_implies, false_implies, implies_true] at g_v1 g_v2 g_v3 g_v8 hn64 c31 hr32 hr33 tx34 tx35 tx38 tx39 tx40 tx41 tx42 tx43 b45 ab45 tx46 tx48 tx49 tx50 tx51 ⊢) <;> omega); (try simp only [i_lt, i_le, i_eq, Int32.toInt_toInt64, Int32.reduceToInt, Int64.reduceToInt, true_and, and_true, false_and, and_false, false_or, or_false, true_or, or_true, not_true_eq_false, not_false_eq_true, ne_eq, forall_const, true_implies, false_implies, implies_true] at g_v1 g_v2 g_v3 g_v8 hn64 c31 hr32 hr33 tx34 tx35 tx38 tx39 tx40 tx41 tx42 tx43 b45 ab45 tx46 tx48 tx49 tx50 tx51 g z ⊢) <;> omega
            refine pasI (u' := pSI u a26 16 x51) hx hb hK hP hD hS m_a26 (cF59 k_a26) 1 rfl (vp_in_iff.mpr (by decide)) rfl (sF59 k_a26 _ _) dX12_lever_261 (fun H locs hP hD hS => ?_)
            have hu := WT.setI (a := a26) (s := 16) (v := x51) hu (by rw [k_a26]; exact (show 16 = 16 → 0 ≤ x51.toInt ∧ x51.toInt ≤ 8 from by intro q; (try simp only [i_lt, i_le, i_eq, Int32.toInt_toInt64, Int32.reduceToInt, Int64.reduceToInt, true_and, and_true, false_and, and_false, false_or, or_false, true_or, or_true, not_true_eq_false, not_false_eq_true, ne_eq, forall_const, true_implies, false_implies, implies_true] at g_v1 g_v2 g_v3 g_v8 hn64 c31 hr32 hr33 tx34 tx35 tx38 tx39 tx40 tx41 tx42 tx43 b45 ab45 tx46 tx48 tx49 tx50 tx51 g52 q ⊢) <;> omega))
            have hp := PX.setI (a := a26) (s := 16) (v := x51) hp (by rw [k_a26]; decide)
            obtain ⟨u53, hu53⟩ : ∃ z, z = pSI u a26 16 x51 := ⟨_, rfl⟩
            rw [← hu53] at hP hD hu hp
            refine lv_iconst (v := 0) hx hb dX12_lever_262 (by decide) ?_
            refine lv_istore (lv' := [(11, .int 0), (10, .int x49), (9, .int r33), (8, .int r32), (0, .ref h0), (1, .int v1), (2, .int v2), (3, .int v3), (4, .long v4), (6, .long v6)]) hx hb dX12_lever_263 hl (by decide) rfl (fun ls hl => ?_)
            exact B265 _ _ _ _ ls v1 v2 v3 x49 0 hu hp hP hD hS (Nat.le_refl _) (by (try simp only [i_lt, i_le, i_eq, Int32.toInt_toInt64, Int32.reduceToInt, Int64.reduceToInt, true_and, and_true, false_and, and_false, false_or, or_false, true_or, or_true, not_true_eq_false, not_false_eq_true, ne_eq, forall_const, true_implies, false_implies, implies_true] at g_v1 g_v2 g_v3 g_v8 hn64 c31 hr32 hr33 tx34 tx35 tx38 tx39 tx40 tx41 tx42 tx43 b45 ab45 tx46 tx48 tx49 tx50 tx51 g52 ⊢) <;> omega) (by (try simp only [i_lt, i_le, i_eq, Int32.toInt_toInt64, Int32.reduceToInt, Int64.reduceToInt, true_and, and_true, false_and, and_false, false_or, or_false, true_or, or_true, not_true_eq_false, not_false_eq_true, ne_eq, forall_const, true_implies, false_implies, implies_true] at g_v1 g_v2 g_v3 g_v8 hn64 c31 hr32 hr33 tx34 tx35 tx38 tx39 tx40 tx41 tx42 tx43 b45 ab45 tx46 tx48 tx49 tx50 tx51 g52 ⊢) <;> omega) (by (try simp only [i_lt, i_le, i_eq, Int32.toInt_toInt64, Int32.reduceToInt, Int64.reduceToInt, true_and, and_true, false_and, and_false, false_or, or_false, true_or, or_true, not_true_eq_false, not_false_eq_true, ne_eq, forall_const, true_implies, false_implies, implies_true] at g_v1 g_v2 g_v3 g_v8 hn64 c31 hr32 hr33 tx34 tx35 tx38 tx39 tx40 tx41 tx42 tx43 b45 ab45 tx46 tx48 tx49 tx50 tx51 g52 ⊢) <;> omega) (by (try simp only [i_lt, i_le, i_eq, Int32.toInt_toInt64, Int32.reduceToInt, Int64.reduceToInt, true_and, and_true, false_and, and_false, false_or, or_false, true_or, or_true, not_true_eq_false, not_false_eq_true, ne_eq, forall_const, true_implies, false_implies, implies_true] at g_v1 g_v2 g_v3 g_v8 hn64 c31 hr32 hr33 tx34 tx35 tx38 tx39 tx40 tx41 tx42 tx43 b45 ab45 tx46 tx48 tx49 tx50 tx51 g52 ⊢) <;> omega) (by (try simp only [i_lt, i_le, i_eq, Int32.toInt_toInt64, Int32.reduceToInt, Int64.reduceToInt, true_and, and_true, false_and, and_false, false_or, or_false, true_or, or_true, not_true_eq_false, not_false_eq_true, ne_eq, forall_const, true_implies, false_implies, implies_true] at g_v1 g_v2 g_v3 g_v8 hn64 c31 hr32 hr33 tx34 tx35 tx38 tx39 tx40 tx41 tx42 tx43 b45 ab45 tx46 tx48 tx49 tx50 tx51 g52 ⊢) <;> omega) (by (try simp only [i_lt, i_le, i_eq, Int32.toInt_toInt64, Int32.reduceToInt, Int64.reduceToInt, true_and, and_true, false_and, and_false, false_or, or_false, true_or, or_true, not_true_eq_false, not_false_eq_true, ne_eq, forall_const, true_implies, false_implies, implies_true] at g_v1 g_v2 g_v3 g_v8 hn64 c31 hr32 hr33 tx34 tx35 tx38 tx39 tx40 tx41 tx42 tx43 b45 ab45 tx46 tx48 tx49 tx50 tx51 g52 ⊢) <;> omega) (lv_sub hl [4, 5, 6, 7, 1, 0] rfl)
          · simp only [lg_cmp_lt, lg_cmp_gt, lg_cmp_le, lg_cmp_ge, lg_cmp_eq, Int64.lt_iff_toInt_lt, Int64.le_iff_toInt_le] at c47
            refine lv_bipush (v := (-5)) hx hb dX12_lever_234 (by decide) ?_
            exact W.iret (v := (-5)) hx hb hr (fun t ht hW => ⟨⟨(-5), u, rfl, ⟨hu, hp, trivial⟩, by rw [ht]; exact hP, hD⟩, hS.F ht⟩) hS.2.2 dX12_lever_236
      · refine lv_aload_n hx hb dX12_lever_70 rfl (lv_at hl 0 rfl) ?_
        have k_h0 : u.2.1 h0 = 12 := (hp h0 m0_h0).2.1.trans k0_h0
        have m_h0 : h0 ∈ u.1 := (hp h0 m0_h0).1
        have k_a32 : u.2.1 a32 = 62 := (hp a32 m0_a32).2.1.trans k0_a32
        have m_a32 : a32 ∈ u.1 := (hp a32 m0_a32).1
        refine pget (ci := 12) (v := va_rf (u.2.2.2.2 h0 32)) (C := RX12) (T := TX12) (N := 34) hx hb hts i_X12 hown hK hP m_h0 (cF12 k_h0) rfl 32 (by decide) (hts (.fieldLink RX12 67 "BellowsRowModel" "numbers" "[J") (by decide +kernel)) (fun _ h9 => h9) rfl dX12_lever_71 ?_
        refine W.eq (g2 := F0 m 74 ls [.ref a32]) (by rw [(((hp h0 m0_h0).2.2.2.2.2.1 k0_h0 32).trans q0_32)]; rfl) ?_
        refine lv_bipush (v := 60) hx hb dX12_lever_74 (by decide) ?_
        refine lv_iload_n hx hb dX12_lever_76 rfl (lv_at hl 1 rfl) ?_
        refine lv_imul hx hb dX12_lever_77 ?_
        refine lv_topi (fun x54 ex54 => ?_)
        have tx54 : x54.toInt = 60 * v1.toInt := by rw [ex54]; exact i_mulc (c := 60) (by decide) ((show 0 ≤ v1.toInt ∧ v1.toInt ≤ 3 from by (try simp only [i_lt, i_le, i_eq, Int32.toInt_toInt64, Int32.reduceToInt, Int64.reduceToInt, true_and, and_true, false_and, and_false, false_or, or_false, true_or, or_true, not_true_eq_false, not_false_eq_true, ne_eq, forall_const, true_implies, false_implies, implies_true] at g_v1 g_v2 g_v3 g_v8 hn64 c31 ⊢) <;> omega)) (by decide)
        refine lv_iconst (v := 2) hx hb dX12_lever_78 (by decide) ?_
        refine lv_iload hx hb dX12_lever_79 (lv_at hl 6 rfl) ?_
        refine lv_imul hx hb dX12_lever_81 ?_
        refine lv_topi (fun x55 ex55 => ?_)
        have tx55 : x55.toInt = 2 * v8.toInt := by rw [ex55]; exact i_mulc (c := 2) (by decide) ((show 0 ≤ v8.toInt ∧ v8.toInt ≤ 7 from by (try simp only [i_lt, i_le, i_eq, Int32.toInt_toInt64, Int32.reduceToInt, Int64.reduceToInt, true_and, and_true, false_and, and_false, false_or, or_false, true_or, or_true, not_true_eq_false, not_false_eq_true, ne_eq, forall_const, true_implies, false_implies, implies_true] at g_v1 g_v2 g_v3 g_v8 hn64 c31 tx54 ⊢) <;> omega)) (by decide)
        refine lv_iadd hx hb dX12_lever_82 ?_
        refine lv_topi (fun x56 ex56 => ?_)
        have tx56 : x56.toInt = x54.toInt + x55.toInt := by rw [ex56]; exact i_add (by (try simp only [i_lt, i_le, i_eq, Int32.toInt_toInt64, Int32.reduceToInt, Int64.reduceToInt, true_and, and_true, false_and, and_false, false_or, or_false, true_or, or_true, not_true_eq_false, not_false_eq_true, ne_eq, forall_const, true_implies, false_implies, implies_true] at g_v1 g_v2 g_v3 g_v8 hn64 c31 tx54 tx55 ⊢) <;> omega) (by (try simp only [i_lt, i_le, i_eq, Int32.toInt_toInt64, Int32.reduceToInt, Int64.reduceToInt, true_and, and_true, false_and, and_false, false_or, or_false, true_or, or_true, not_true_eq_false, not_false_eq_true, ne_eq, forall_const, true_implies, false_implies, implies_true] at g_v1 g_v2 g_v3 g_v8 hn64 c31 tx54 tx55 ⊢) <;> omega)
        refine palJ hx hb hK hP m_a32 (cF62 k_a32) 2 rfl (vp_in_iff.mpr (by (try simp only [i_lt, i_le, i_eq, Int32.toInt_toInt64, Int32.reduceToInt, Int64.reduceToInt, true_and, and_true, false_and, and_false, false_or, or_false, true_or, or_true, not_true_eq_false, not_false_eq_true, ne_eq, forall_const, true_implies, false_implies, implies_true] at g_v1 g_v2 g_v3 g_v8 hn64 c31 tx54 tx55 tx56 ⊢) <;> omega)) dX12_lever_83 ?_
        refine lv_topl (fun x57 ex57 => ?_)
        refine lv_lstore (lv' := [(9, .long x57), (0, .ref h0), (1, .int v1), (2, .int v2), (3, .int v3), (4, .long v4), (6, .long v6), (8, .int v8)]) hx hb dX12_lever_84 hl (by decide) rfl (fun ls hl => ?_)
        refine lv_aload_n hx hb dX12_lever_86 rfl (lv_at hl 1 rfl) ?_
        refine pget (ci := 12) (v := va_rf (u.2.2.2.2 h0 32)) (C := RX12) (T := TX12) (N := 34) hx hb hts i_X12 hown hK hP m_h0 (cF12 k_h0) rfl 32 (by decide) (hts (.fieldLink RX12 67 "BellowsRowModel" "numbers" "[J") (by decide +kernel)) (fun _ h9 => h9) rfl dX12_lever_87 ?_
        refine W.eq (g2 := F0 m 90 ls [.ref a32]) (by rw [(((hp h0 m0_h0).2.2.2.2.2.1 k0_h0 32).trans q0_32)]; rfl) ?_
        refine lv_bipush (v := 60) hx hb dX12_lever_90 (by decide) ?_
        refine lv_iload_n hx hb dX12_lever_92 rfl (lv_at hl 2 rfl) ?_
        refine lv_imul hx hb dX12_lever_93 ?_
        refine lv_topi (fun x58 ex58 => ?_)
        have tx58 : x58.toInt = 60 * v1.toInt := by rw [ex58]; exact i_mulc (c := 60) (by decide) ((show 0 ≤ v1.toInt ∧ v1.toInt ≤ 3 from by (try simp only [i_lt, i_le, i_eq, Int32.toInt_toInt64, Int32.reduceToInt, Int64.reduceToInt, true_and, and_true, false_and, and_false, false_or, or_false, true_or, or_true, not_true_eq_false, not_false_eq_true, ne_eq, forall_const, true_implies, false_implies, implies_true] at g_v1 g_v2 g_v3 g_v8 hn64 c31 tx54 tx55 tx56 ⊢) <;> omega)) (by decide)
        refine lv_iconst (v := 2) hx hb dX12_lever_94 (by decide) ?_
        refine lv_iload hx hb dX12_lever_95 (lv_at hl 7 rfl) ?_
        refine lv_imul hx hb dX12_lever_97 ?_
        refine lv_topi (fun x59 ex59 => ?_)
        have tx59 : x59.toInt = 2 * v8.toInt := by rw [ex59]; exact i_mulc (c := 2) (by decide) ((show 0 ≤ v8.toInt ∧ v8.toInt ≤ 7 from by (try simp only [i_lt, i_le, i_eq, Int32.toInt_toInt64, Int32.reduceToInt, Int64.reduceToInt, true_and, and_true, false_and, and_false, false_or, or_false, true_or, or_true, not_true_eq_false, not_false_eq_true, ne_eq, forall_const, true_implies, false_implies, implies_true] at g_v1 g_v2 g_v3 g_v8 hn64 c31 tx54 tx55 tx56 tx58 ⊢) <;> omega)) (by decide)
        refine lv_iadd hx hb dX12_lever_98 ?_
        refine lv_topi (fun x60 ex60 => ?_)
        have tx60 : x60.toInt = x58.toInt + x59.toInt := by rw [ex60]; exact i_add (by (try simp only [i_lt, i_le, i_eq, Int32.toInt_toInt64, Int32.reduceToInt, Int64.reduceToInt, true_and, and_true, false_and, and_false, false_or, or_false, true_or, or_true, not_true_eq_false, not_false_eq_true, ne_eq, forall_const, true_implies, false_implies, implies_true] at g_v1 g_v2 g_v3 g_v8 hn64 c31 tx54 tx55 tx56 tx58 tx59 ⊢) <;> omega) (by (try simp only [i_lt, i_le, i_eq, Int32.toInt_toInt64, Int32.reduceToInt, Int64.reduceToInt, true_and, and_true, false_and, and_false, false_or, or_false, true_or, or_true, not_true_eq_false, not_false_eq_true, ne_eq, forall_const, true_implies, false_implies, implies_true] at g_v1 g_v2 g_v3 g_v8 hn64 c31 tx54 tx55 tx56 tx58 tx59 ⊢) <;> omega)
        refine lv_iconst (v := 1) hx hb dX12_lever_99 (by decide) ?_
        refine lv_iadd hx hb dX12_lever_100 ?_
        refine lv_topi (fun x61 ex61 => ?_)
        have tx61 : x61.toInt = x60.toInt + (1 : Int32).toInt := by rw [ex61]; exact i_add (by (try simp only [i_lt, i_le, i_eq, Int32.toInt_toInt64, Int32.reduceToInt, Int64.reduceToInt, true_and, and_true, false_and, and_false, false_or, or_false, true_or, or_true, not_true_eq_false, not_false_eq_true, ne_eq, forall_const, true_implies, false_implies, implies_true] at g_v1 g_v2 g_v3 g_v8 hn64 c31 tx54 tx55 tx56 tx58 tx59 tx60 ⊢) <;> omega) (by (try simp only [i_lt, i_le, i_eq, Int32.toInt_toInt64, Int32.reduceToInt, Int64.reduceToInt, true_and, and_true, false_and, and_false, false_or, or_false, true_or, or_true, not_true_eq_false, not_false_eq_true, ne_eq, forall_const, true_implies, false_implies, implies_true] at g_v1 g_v2 g_v3 g_v8 hn64 c31 tx54 tx55 tx56 tx58 tx59 tx60 ⊢) <;> omega)
        refine palJ hx hb hK hP m_a32 (cF62 k_a32) 2 rfl (vp_in_iff.mpr (by (try simp only [i_lt, i_le, i_eq, Int32.toInt_toInt64, Int32.reduceToInt, Int64.reduceToInt, true_and, and_true, false_and, and_false, false_or, or_false, true_or, or_true, not_true_eq_false, not_false_eq_true, ne_eq, forall_const, true_implies, false_implies, implies_true] at g_v1 g_v2 g_v3 g_v8 hn64 c31 tx54 tx55 tx56 tx58 tx59 tx60 tx61 ⊢) <;> omega)) dX12_lever_101 ?_
        refine lv_topl (fun x62 ex62 => ?_)
        refine lv_lstore (lv' := [(11, .long x62), (9, .long x57), (0, .ref h0), (1, .int v1), (2, .int v2), (3, .int v3), (4, .long v4), (6, .long v6), (8, .int v8)]) hx hb dX12_lever_102 hl (by decide) rfl (fun ls hl => ?_)
        refine lv_lload hx hb dX12_lever_104 (lv_at hl 1 rfl) ?_
        refine lv_lconst (v := 0) hx hb dX12_lever_106 (by decide) ?_
        refine lv_ldc2 (own := RX12) (v := 2) hx hb hown (hts (.constantLong RX12 74 (2)) (by decide +kernel)) dX12_lever_107 ?_
        refine psi (As := [.long x57, .long 0, .long 2]) (rest := []) ⟨hx, hb, hml, hown, hts⟩ (t_X12_in l D k x57 0 2) (va_cwS 3 hts gX12_lever_X12_in rfl rfl rfl (by decide +kernel) ⟨Nat.le_of_ble_eq_true rfl, Nat.le_of_ble_eq_true rfl⟩) hK rfl hl.1 rfl (Nat.le_of_ble_eq_true rfl) dX12_lever_110 ⟨Nat.le_of_ble_eq_true rfl, Nat.le_of_ble_eq_true rfl⟩ (fun r63 hr63 => ?_)
        refine lv_if_eq (tgt := 128) hx hb dX12_lever_113 (by decide) (fun c64 => ?_) (fun c64 => ?_)
        · have eb65 : r63.toInt = 0 := by rcases hr63 with ⟨q, -⟩ | ⟨q, -⟩; exact q; (exact absurd (c64) (fun w => by rw [w] at q; exact absurd q (by decide)))
          have fb65 : (x57.toInt < (0 : Int64).toInt ∨ (2 : Int64).toInt < x57.toInt) := by rcases hr63 with ⟨q, r⟩ | ⟨q, r⟩; exact r; exact absurd q (by omega)
          clear hr63
          refine lv_bipush (v := (-2)) hx hb dX12_lever_128 (by decide) ?_
          exact W.iret (v := (-2)) hx hb hr (fun t ht hW => ⟨⟨(-2), u, rfl, ⟨hu, hp, trivial⟩, by rw [ht]; exact hP, hD⟩, hS.F ht⟩) hS.2.2 dX12_lever_130
        · have eb66 : r63.toInt = 1 := by rcases hr63 with ⟨q, -⟩ | ⟨q, -⟩; exact absurd (i_eq.mpr q) c64; exact q
          have fb66 : (0 : Int64).toInt ≤ x57.toInt ∧ x57.toInt ≤ (2 : Int64).toInt := by rcases hr63 with ⟨q, r⟩ | ⟨q, r⟩; exact absurd q (by omega); exact r
          clear hr63
          refine lv_lload hx hb dX12_lever_116 (lv_at hl 0 rfl) ?_
          refine lv_lconst (v := 1) hx hb dX12_lever_118 (by decide) ?_
          refine lv_ldc2 (own := RX12) (v := 900) hx hb hown (hts (.constantLong RX12 408 (900)) (by decide +kernel)) dX12_lever_119 ?_
          refine psi (As := [.long x62, .long 1, .long 900]) (rest := []) ⟨hx, hb, hml, hown, hts⟩ (t_X12_in l D k x62 1 900) (va_cwS 3 hts gX12_lever_X12_in rfl rfl rfl (by decide +kernel) ⟨Nat.le_of_ble_eq_true rfl, Nat.le_of_ble_eq_true rfl⟩) hK rfl hl.1 rfl (Nat.le_of_ble_eq_true rfl) dX12_lever_122 ⟨Nat.le_of_ble_eq_true rfl, Nat.le_of_ble_eq_true rfl⟩ (fun r67 hr67 => ?_)
          refine lv_if_ne (tgt := 131) hx hb dX12_lever_125 (by decide) (fun c68 => ?_) (fun c68 => ?_)
          · have eb69 : r67.toInt = 1 := by rcases hr67 with ⟨q, -⟩ | ⟨q, -⟩; exact absurd (i_eq.mpr q) c68; exact q
            have fb69 : (1 : Int64).toInt ≤ x62.toInt ∧ x62.toInt ≤ (900 : Int64).toInt := by rcases hr67 with ⟨q, r⟩ | ⟨q, r⟩; exact absurd q (by omega); exact r
            clear hr67
            refine lv_lload hx hb dX12_lever_131 (lv_at hl 6 rfl) ?_
            refine lv_lload hx hb dX12_lever_133 (lv_at hl 1 rfl) ?_
            refine lv_lconst (v := 0) hx hb dX12_lever_135 (by decide) ?_
            refine W.lcmp hx hb dX12_lever_136 ?_
            refine lv_if_ne (tgt := 145) hx hb dX12_lever_137 (by decide) (fun c70 => ?_) (fun c70 => ?_)
            · simp only [lg_cmp_lt, lg_cmp_gt, lg_cmp_le, lg_cmp_ge, lg_cmp_eq, Int64.lt_iff_toInt_lt, Int64.le_iff_toInt_le] at c70
              refine lv_lconst (v := 0) hx hb dX12_lever_145 (by decide) ?_
              refine lv_ladd hx hb dX12_lever_146 ?_
              refine lv_topl (fun x71 ex71 => ?_)
              refine lv_lstore (lv' := [(4, .long x71), (11, .long x62), (9, .long x57), (0, .ref h0), (1, .int v1), (2, .int v2), (3, .int v3), (6, .long v6), (8, .int v8)]) hx hb dX12_lever_147 hl (by decide) rfl (fun ls hl => ?_)
              refine lv_lload hx hb dX12_lever_149 (lv_at hl 7 rfl) ?_
              refine lv_lload hx hb dX12_lever_151 (lv_at hl 2 rfl) ?_
              refine lv_l2i hx hb dX12_lever_153 rfl ?_
              refine lv_topi (fun x72 ex72 => ?_)
              refine psi (As := [.int x72]) (rest := [.long v6]) ⟨hx, hb, hml, hown, hts⟩ (t_X12_upOf l D k x72) (va_cwS 1 hts gX12_lever_X12_upOf rfl rfl rfl (by decide +kernel) ⟨Nat.le_of_ble_eq_true rfl, Nat.le_of_ble_eq_true rfl⟩) hK rfl hl.1 rfl (Nat.le_of_ble_eq_true rfl) dX12_lever_154 ⟨Nat.le_of_ble_eq_true rfl, Nat.le_of_ble_eq_true rfl⟩ (fun r73 hr73 => ?_)
              refine lv_i2l hx hb dX12_lever_157 rfl ?_
              have b74 := Int32.toInt_lt r73
              have ab74 := Int32.le_toInt r73
              refine lv_topl (fun x75 ex75 => ?_)
              have tx75 : x75.toInt = r73.toInt := by rw [ex75]; exact Int32.toInt_toInt64 _
              refine lv_lload hx hb dX12_lever_158 (lv_at hl 1 rfl) ?_
              refine lv_lmul hx hb dX12_lever_160 ?_
              refine lv_topl (fun x76 ex76 => ?_)
              refine lv_ladd hx hb dX12_lever_161 ?_
              refine lv_topl (fun x77 ex77 => ?_)
              refine lv_lstore (lv' := [(6, .long x77), (4, .long x71), (11, .long x62), (9, .long x57), (0, .ref h0), (1, .int v1), (2, .int v2), (3, .int v3), (8, .int v8)]) hx hb dX12_lever_162 hl (by decide) rfl (fun ls hl => ?_)
              obtain ⟨x78, ex78⟩ : ∃ y : Int32, y = v8 + 1 := ⟨_, rfl⟩
              have tx78 : x78.toInt = v8.toInt + 1 := by rw [ex78]; exact i_add (b := 1) (by (try simp only [i_lt, i_le, i_eq, Int32.toInt_toInt64, Int32.reduceToInt, Int64.reduceToInt, true_and, and_true, false_and, and_false, false_or, or_false, true_or, or_true, not_true_eq_false, not_false_eq_true, ne_eq, forall_const, true_implies, false_implies, implies_true] at g_v1 g_v2 g_v3 g_v8 hn64 c31 tx54 tx55 tx56 tx58 tx59 tx60 tx61 eb66 fb66 eb69 fb69 b74 ab74 tx75 ⊢) <;> omega) (by (try simp only [i_lt, i_le, i_eq, Int32.toInt_toInt64, Int32.reduceToInt, Int64.reduceToInt, true_and, and_true, false_and, and_false, false_or, or_false, true_or, or_true, not_true_eq_false, not_false_eq_true, ne_eq, forall_const, true_implies, false_implies, implies_true] at g_v1 g_v2 g_v3 g_v8 hn64 c31 tx54 tx55 tx56 tx58 tx59 tx60 tx61 eb66 fb66 eb69 fb69 b74 ab74 tx75 ⊢) <;> omega)
              refine lv_iinc (v := x78) (lv' := [(8, .int x78), (6, .long x77), (4, .long x71), (11, .long x62), (9, .long x57), (0, .ref h0), (1, .int v1), (2, .int v2), (3, .int v3)]) hx hb dX12_lever_164 hl (k := 8) rfl (by rw [ex78]; rfl) (by decide) rfl (fun ls hl => ?_)
              refine lv_goto (tgt := 64) hx hb dX12_lever_167 (by decide) ?_
              exact ih64 _ _ _ ls v1 v2 v3 x71 x77 x78 hu hp hP hD hS (by (try simp only [i_lt, i_le, i_eq, Int32.toInt_toInt64, Int32.reduceToInt, Int64.reduceToInt, true_and, and_true, false_and, and_false, false_or, or_false, true_or, or_true, not_true_eq_false, not_false_eq_true, ne_eq, forall_const, true_implies, false_implies, implies_true] at g_v1 g_v2 g_v3 g_v8 hn64 c31 tx54 tx55 tx56 tx58 tx59 tx60 tx61 eb66 fb66 eb69 fb69 b74 ab74 tx75 tx78 ⊢) <;> omega) (by (try simp only [i_lt, i_le, i_eq, Int32.toInt_toInt64, Int32.reduceToInt, Int64.reduceToInt, true_and, and_true, false_and, and_false, false_or, or_false, true_or, or_true, not_true_eq_false, not_false_eq_true, ne_eq, forall_const, true_implies, false_implies, implies_true] at g_v1 g_v2 g_v3 g_v8 hn64 c31 tx54 tx55 tx56 tx58 tx59 tx60 tx61 eb66 fb66 eb69 fb69 b74 ab74 tx75 tx78 ⊢) <;> omega) (by (try simp only [i_lt, i_le, i_eq, Int32.toInt_toInt64, Int32.reduceToInt, Int64.reduceToInt, true_and, and_true, false_and, and_false, false_or, or_false, true_or, or_true, not_true_eq_false, not_false_eq_true, ne_eq, forall_const, true_implies, false_implies, implies_true] at g_v1 g_v2 g_v3 g_v8 hn64 c31 tx54 tx55 tx56 tx58 tx59 tx60 tx61 eb66 fb66 eb69 fb69 b74 ab74 tx75 tx78 ⊢) <;> omega) (by (try simp only [i_lt, i_le, i_eq, Int32.toInt_toInt64, Int32.reduceToInt, Int64.reduceToInt, true_and, and_true, false_and, and_false, false_or, or_false, true_or, or_true, not_true_eq_false, not_false_eq_true, ne_eq, forall_const, true_implies, false_implies, implies_true] at g_v1 g_v2 g_v3 g_v8 hn64 c31 tx54 tx55 tx56 tx58 tx59 tx60 tx61 eb66 fb66 eb69 fb69 b74 ab74 tx75 tx78 ⊢) <;> omega) (by (try simp only [i_lt, i_le, i_eq, Int32.toInt_toInt64, Int32.reduceToInt, Int64.reduceToInt, true_and, and_true, false_and, and_false, false_or, or_false, true_or, or_true, not_true_eq_false, not_false_eq_true, ne_eq, forall_const, true_implies, false_implies, implies_true] at g_v1 g_v2 g_v3 g_v8 hn64 c31 tx54 tx55 tx56 tx58 tx59 tx60 tx61 eb66 fb66 eb69 fb69 b74 ab74 tx75 tx78 ⊢) <;> omega) (lv_sub hl [5, 6, 7, 8, 2, 1, 0] rfl)
            · simp only [lg_cmp_lt, lg_cmp_gt, lg_cmp_le, lg_cmp_ge, lg_cmp_eq, Int64.lt_iff_toInt_lt, Int64.le_iff_toInt_le] at c70
              refine lv_lload hx hb dX12_lever_140 (lv_at hl 0 rfl) ?_
              refine lv_goto (tgt := 146) hx hb dX12_lever_142 (by decide) ?_
              refine lv_ladd hx hb dX12_lever_146 ?_
              refine lv_topl (fun x79 ex79 => ?_)
              refine lv_lstore (lv' := [(4, .long x79), (11, .long x62), (9, .long x57), (0, .ref h0), (1, .int v1), (2, .int v2), (3, .int v3), (6, .long v6), (8, .int v8)]) hx hb dX12_lever_147 hl (by decide) rfl (fun ls hl => ?_)
              refine lv_lload hx hb dX12_lever_149 (lv_at hl 7 rfl) ?_
              refine lv_lload hx hb dX12_lever_151 (lv_at hl 2 rfl) ?_
              refine lv_l2i hx hb dX12_lever_153 rfl ?_
              refine lv_topi (fun x80 ex80 => ?_)
              refine psi (As := [.int x80]) (rest := [.long v6]) ⟨hx, hb, hml, hown, hts⟩ (t_X12_upOf l D k x80) (va_cwS 1 hts gX12_lever_X12_upOf rfl rfl rfl (by decide +kernel) ⟨Nat.le_of_ble_eq_true rfl, Nat.le_of_ble_eq_true rfl⟩) hK rfl hl.1 rfl (Nat.le_of_ble_eq_true rfl) dX12_lever_154 ⟨Nat.le_of_ble_eq_true rfl, Nat.le_of_ble_eq_true rfl⟩ (fun r81 hr81 => ?_)
              refine lv_i2l hx hb dX12_lever_157 rfl ?_
              have b82 := Int32.toInt_lt r81
              have ab82 := Int32.le_toInt r81
              refine lv_topl (fun x83 ex83 => ?_)
              have tx83 : x83.toInt = r81.toInt := by rw [ex83]; exact Int32.toInt_toInt64 _
              refine lv_lload hx hb dX12_lever_158 (lv_at hl 1 rfl) ?_
              refine lv_lmul hx hb dX12_lever_160 ?_
              refine lv_topl (fun x84 ex84 => ?_)
              refine lv_ladd hx hb dX12_lever_161 ?_
              refine lv_topl (fun x85 ex85 => ?_)
              refine lv_lstore (lv' := [(6, .long x85), (4, .long x79), (11, .long x62), (9, .long x57), (0, .ref h0), (1, .int v1), (2, .int v2), (3, .int v3), (8, .int v8)]) hx hb dX12_lever_162 hl (by decide) rfl (fun ls hl => ?_)
              obtain ⟨x86, ex86⟩ : ∃ y : Int32, y = v8 + 1 := ⟨_, rfl⟩
              have tx86 : x86.toInt = v8.toInt + 1 := by rw [ex86]; exact i_add (b := 1) (by (try simp only [i_lt, i_le, i_eq, Int32.toInt_toInt64, Int32.reduceToInt, Int64.reduceToInt, true_and, and_true, false_and, and_false, false_or, or_false, true_or, or_true, not_true_eq_false, not_false_eq_true, ne_eq, forall_const, true_implies, false_implies, implies_true] at g_v1 g_v2 g_v3 g_v8 hn64 c31 tx54 tx55 tx56 tx58 tx59 tx60 tx61 eb66 fb66 eb69 fb69 b82 ab82 tx83 ⊢) <;> omega) (by (try simp only [i_lt, i_le, i_eq, Int32.toInt_toInt64, Int32.reduceToInt, Int64.reduceToInt, true_and, and_true, false_and, and_false, false_or, or_false, true_or, or_true, not_true_eq_false, not_false_eq_true, ne_eq, forall_const, true_implies, false_implies, implies_true] at g_v1 g_v2 g_v3 g_v8 hn64 c31 tx54 tx55 tx56 tx58 tx59 tx60 tx61 eb66 fb66 eb69 fb69 b82 ab82 tx83 ⊢) <;> omega)
              refine lv_iinc (v := x86) (lv' := [(8, .int x86), (6, .long x85), (4, .long x79), (11, .long x62), (9, .long x57), (0, .ref h0), (1, .int v1), (2, .int v2), (3, .int v3)]) hx hb dX12_lever_164 hl (k := 8) rfl (by rw [ex86]; rfl) (by decide) rfl (fun ls hl => ?_)
              refine lv_goto (tgt := 64) hx hb dX12_lever_167 (by decide) ?_
              exact ih64 _ _ _ ls v1 v2 v3 x79 x85 x86 hu hp hP hD hS (by (try simp only [i_lt, i_le, i_eq, Int32.toInt_toInt64, Int32.reduceToInt, Int64.reduceToInt, true_and, and_true, false_and, and_false, false_or, or_false, true_or, or_true, not_true_eq_false, not_false_eq_true, ne_eq, forall_const, true_implies, false_implies, implies_true] at g_v1 g_v2 g_v3 g_v8 hn64 c31 tx54 tx55 tx56 tx58 tx59 tx60 tx61 eb66 fb66 eb69 fb69 b82 ab82 tx83 tx86 ⊢) <;> omega) (by (try simp only [i_lt, i_le, i_eq, Int32.toInt_toInt64, Int32.reduceToInt, Int64.reduceToInt, true_and, and_true, false_and, and_false, false_or, or_false, true_or, or_true, not_true_eq_false, not_false_eq_true, ne_eq, forall_const, true_implies, false_implies, implies_true] at g_v1 g_v2 g_v3 g_v8 hn64 c31 tx54 tx55 tx56 tx58 tx59 tx60 tx61 eb66 fb66 eb69 fb69 b82 ab82 tx83 tx86 ⊢) <;> omega) (by (try simp only [i_lt, i_le, i_eq, Int32.toInt_toInt64, Int32.reduceToInt, Int64.reduceToInt, true_and, and_true, false_and, and_false, false_or, or_false, true_or, or_true, not_true_eq_false, not_false_eq_true, ne_eq, forall_const, true_implies, false_implies, implies_true] at g_v1 g_v2 g_v3 g_v8 hn64 c31 tx54 tx55 tx56 tx58 tx59 tx60 tx61 eb66 fb66 eb69 fb69 b82 ab82 tx83 tx86 ⊢) <;> omega) (by (try simp only [i_lt, i_le, i_eq, Int32.toInt_toInt64, Int32.reduceToInt, Int64.reduceToInt, true_and, and_true, false_and, and_false, false_or, or_false, true_or, or_true, not_true_eq_false, not_false_eq_true, ne_eq, forall_const, true_implies, false_implies, implies_true] at g_v1 g_v2 g_v3 g_v8 hn64 c31 tx54 tx55 tx56 tx58 tx59 tx60 tx61 eb66 fb66 eb69 fb69 b82 ab82 tx83 tx86 ⊢) <;> omega) (by (try simp only [i_lt, i_le, i_eq, Int32.toInt_toInt64, Int32.reduceToInt, Int64.reduceToInt, true_and, and_true, false_and, and_false, false_or, or_false, true_or, or_true, not_true_eq_false, not_false_eq_true, ne_eq, forall_const, true_implies, false_implies, implies_true] at g_v1 g_v2 g_v3 g_v8 hn64 c31 tx54 tx55 tx56 tx58 tx59 tx60 tx61 eb66 fb66 eb69 fb69 b82 ab82 tx83 tx86 ⊢) <;> omega) (lv_sub hl [5, 6, 7, 8, 2, 1, 0] rfl)
          · have eb87 : r67.toInt = 0 := by rcases hr67 with ⟨q, -⟩ | ⟨q, -⟩; exact q; (exact absurd (c68) (fun w => by rw [w] at q; exact absurd q (by decide)))
            have fb87 : (x62.toInt < (1 : Int64).toInt ∨ (900 : Int64).toInt < x62.toInt) := by rcases hr67 with ⟨q, r⟩ | ⟨q, r⟩; exact r; exact absurd q (by omega)
            clear hr67
            refine lv_bipush (v := (-2)) hx hb dX12_lever_128 (by decide) ?_
            exact W.iret (v := (-2)) hx hb hr (fun t ht hW => ⟨⟨(-2), u, rfl, ⟨hu, hp, trivial⟩, by rw [ht]; exact hP, hD⟩, hS.F ht⟩) hS.2.2 dX12_lever_130
  have hl := lv_entry ([.ref h0, .int p1, .int p2]) (n := 13) (Nat.le_of_ble_eq_true rfl)
  rw [lg_entry_eq]
  generalize (lg_sl ([.ref h0, .int p1, .int p2]) ++ List.replicate (13 - (lg_sl ([.ref h0, .int p1, .int p2])).length) Slot.unset).toArray = ls at hl ⊢
  have hl : lv_has ls 13 [(0, .ref h0), (1, .int p1), (2, .int p2)] := hl
  refine lv_iload_n hx hb dX12_lever_0 rfl (lv_at hl 1 rfl) ?_
  refine psi (As := [.int p1]) (rest := []) ⟨hx, hb, hml, hown, hts⟩ (t_X12_isSlot l D k p1) (va_cwS 1 hts gX12_lever_X12_isSlot rfl rfl rfl (by decide +kernel) ⟨Nat.le_of_ble_eq_true rfl, Nat.le_of_ble_eq_true rfl⟩) hK rfl hl.1 rfl (Nat.le_of_ble_eq_true rfl) dX12_lever_1 ⟨Nat.le_of_ble_eq_true rfl, Nat.le_of_ble_eq_true rfl⟩ (fun r88 hr88 => ?_)
  refine lv_if_eq (tgt := 15) hx hb dX12_lever_4 (by decide) (fun c89 => ?_) (fun c89 => ?_)
  · have eb90 : r88.toInt = 0 := by rcases hr88 with ⟨q, -⟩ | ⟨q, -⟩; exact q; (exact absurd (c89) (fun w => by rw [w] at q; exact absurd q (by decide)))
    have fb90 : (p1.toInt < 0 ∨ 3 < p1.toInt) := by rcases hr88 with ⟨q, r⟩ | ⟨q, r⟩; exact r; exact absurd q (by omega)
    clear hr88
    refine lv_bipush (v := (-2)) hx hb dX12_lever_15 (by decide) ?_
    exact W.iret (v := (-2)) hx hb hr (fun t ht hW => ⟨⟨(-2), u0, rfl, ⟨hu, hp, trivial⟩, by rw [ht]; exact hP, hD⟩, hS.F ht⟩) hS.2.2 dX12_lever_17
  · have eb91 : r88.toInt = 1 := by rcases hr88 with ⟨q, -⟩ | ⟨q, -⟩; exact absurd (i_eq.mpr q) c89; exact q
    have fb91 : 0 ≤ p1.toInt ∧ p1.toInt ≤ 3 := by rcases hr88 with ⟨q, r⟩ | ⟨q, r⟩; exact absurd q (by omega); exact r
    clear hr88
    refine lv_aload_n hx hb dX12_lever_7 rfl (lv_at hl 0 rfl) ?_
    refine lv_iload_n hx hb dX12_lever_8 rfl (lv_at hl 2 rfl) ?_
    refine rvi (C := RX12) (As := [.int p2]) (rest := []) ⟨hx, hb, hml, hown, hts⟩ (t_X12_isPipe l D k u0 hu h0 m_h0 k_h0 p2) (cwV 1 hts gX12_lever_X12_isPipe rfl rfl rfl (by decide +kernel) ⟨Nat.le_of_ble_eq_true rfl, Nat.le_of_ble_eq_true rfl⟩) hP hK (precv hK hP m_h0 (cF12 k_h0) rfl) rfl hl.1 rfl (Nat.le_of_ble_eq_true rfl) dX12_lever_9 ⟨Nat.le_of_ble_eq_true rfl, Nat.le_of_ble_eq_true rfl⟩ (fun r92 hr92 => ?_)
    refine lv_if_ne (tgt := 18) hx hb dX12_lever_12 (by decide) (fun c93 => ?_) (fun c93 => ?_)
    · have eb94 : r92.toInt = 1 := by rcases hr92 with q | ⟨q, -⟩; exact absurd (i_eq.mpr q) c93; exact q
      have fb94 : 0 ≤ p2.toInt ∧ p2.toInt ≤ 11 := by rcases hr92 with q | ⟨q, r⟩; exact absurd q (by omega); exact r
      clear hr92
      refine lv_aload_n hx hb dX12_lever_18 rfl (lv_at hl 0 rfl) ?_
      refine pget (ci := 12) (v := va_rf (u0.2.2.2.2 h0 30)) (C := RX12) (T := TX12) (N := 34) hx hb hts i_X12 hown hK hP m_h0 (cF12 k_h0) rfl 30 (by decide) (hts (.fieldLink RX12 61 "BellowsRowModel" "slotMany" "[I") (by decide +kernel)) (fun _ h9 => h9) rfl dX12_lever_19 ?_
      refine W.eq (g2 := F0 m 22 ls [.ref a30]) (by rw [(((hp h0 m0_h0).2.2.2.2.2.1 k0_h0 30).trans q0_30)]; rfl) ?_
      refine lv_iload_n hx hb dX12_lever_22 rfl (lv_at hl 1 rfl) ?_
      refine palI hx hb hK hP m_a30 (cF60 k_a30) 1 rfl (vp_in_iff.mpr (by (try simp only [i_lt, i_le, i_eq, Int32.toInt_toInt64, Int32.reduceToInt, Int64.reduceToInt, true_and, and_true, false_and, and_false, false_or, or_false, true_or, or_true, not_true_eq_false, not_false_eq_true, ne_eq, forall_const, true_implies, false_implies, implies_true] at eb91 fb91 eb94 fb94 ⊢) <;> omega)) dX12_lever_23 ?_
      refine lv_topi (fun x95 ex95 => ?_)
      have tx95 : x95.toInt = (u0.2.2.1 a30 (p1.toNatClampNeg)).toInt := congrArg Int32.toInt ex95
      have g96 : -1 ≤ x95.toInt ∧ x95.toInt ≤ 60 := by have g := (hu a30 m_a30).2.2.2 (p1.toNatClampNeg); rw [k_a30] at g; rw [show x95 = _ from ex95]; exact g
      refine lv_iconst (v := (-1)) hx hb dX12_lever_24 (by decide) ?_
      refine lv_icmp_ne (tgt := 31) hx hb dX12_lever_25 (by decide) (fun c97 => ?_) (fun c97 => ?_)
      · refine lv_aload_n hx hb dX12_lever_31 rfl (lv_at hl 0 rfl) ?_
        refine pget (ci := 12) (v := va_rf (u0.2.2.2.2 h0 30)) (C := RX12) (T := TX12) (N := 34) hx hb hts i_X12 hown hK hP m_h0 (cF12 k_h0) rfl 30 (by decide) (hts (.fieldLink RX12 61 "BellowsRowModel" "slotMany" "[I") (by decide +kernel)) (fun _ h9 => h9) rfl dX12_lever_32 ?_
        refine W.eq (g2 := F0 m 35 ls [.ref a30]) (by rw [(((hp h0 m0_h0).2.2.2.2.2.1 k0_h0 30).trans q0_30)]; rfl) ?_
        refine lv_iload_n hx hb dX12_lever_35 rfl (lv_at hl 1 rfl) ?_
        refine palI hx hb hK hP m_a30 (cF60 k_a30) 1 rfl (vp_in_iff.mpr (by (try simp only [i_lt, i_le, i_eq, Int32.toInt_toInt64, Int32.reduceToInt, Int64.reduceToInt, true_and, and_true, false_and, and_false, false_or, or_false, true_or, or_true, not_true_eq_false, not_false_eq_true, ne_eq, forall_const, true_implies, false_implies, implies_true] at eb91 fb91 eb94 fb94 tx95 g96 c97 ⊢) <;> omega)) dX12_lever_36 ?_
        refine lv_topi (fun x98 ex98 => ?_)
        have tx98 : x98.toInt = (u0.2.2.1 a30 (p1.toNatClampNeg)).toInt := congrArg Int32.toInt ex98
        have g99 : -1 ≤ x98.toInt ∧ x98.toInt ≤ 60 := by have g := (hu a30 m_a30).2.2.2 (p1.toNatClampNeg); rw [k_a30] at g; rw [show x98 = _ from ex98]; exact g
        refine lv_iconst (v := 2) hx hb dX12_lever_37 (by decide) ?_
        refine lv_idiv hx hb dX12_lever_38 (by decide) ?_
        refine lv_topi (fun x100 ex100 => ?_)
        refine lv_istore_n (lv' := [(3, .int x100), (0, .ref h0), (1, .int p1), (2, .int p2)]) hx hb dX12_lever_39 rfl hl (by decide) rfl (fun ls hl => ?_)
        refine lv_iload_n hx hb dX12_lever_40 rfl (lv_at hl 0 rfl) ?_
        refine lv_i2l hx hb dX12_lever_41 rfl ?_
        have b101 := Int32.toInt_lt x100
        have ab101 := Int32.le_toInt x100
        refine lv_topl (fun x102 ex102 => ?_)
        have tx102 : x102.toInt = x100.toInt := by rw [ex102]; exact Int32.toInt_toInt64 _
        refine lv_lconst (v := 1) hx hb dX12_lever_42 (by decide) ?_
        refine lv_ldc2 (own := RX12) (v := 8) hx hb hown (hts (.constantLong RX12 406 (8)) (by decide +kernel)) dX12_lever_43 ?_
        refine psi (As := [.long x102, .long 1, .long 8]) (rest := []) ⟨hx, hb, hml, hown, hts⟩ (t_X12_in l D k x102 1 8) (va_cwS 3 hts gX12_lever_X12_in rfl rfl rfl (by decide +kernel) ⟨Nat.le_of_ble_eq_true rfl, Nat.le_of_ble_eq_true rfl⟩) hK rfl hl.1 rfl (Nat.le_of_ble_eq_true rfl) dX12_lever_46 ⟨Nat.le_of_ble_eq_true rfl, Nat.le_of_ble_eq_true rfl⟩ (fun r103 hr103 => ?_)
        refine lv_if_ne (tgt := 55) hx hb dX12_lever_49 (by decide) (fun c104 => ?_) (fun c104 => ?_)
        · have eb105 : r103.toInt = 1 := by rcases hr103 with ⟨q, -⟩ | ⟨q, -⟩; exact absurd (i_eq.mpr q) c104; exact q
          have fb105 : (1 : Int64).toInt ≤ x102.toInt ∧ x102.toInt ≤ (8 : Int64).toInt := by rcases hr103 with ⟨q, r⟩ | ⟨q, r⟩; exact absurd q (by omega); exact r
          clear hr103
          refine lv_lconst (v := 0) hx hb dX12_lever_55 (by decide) ?_
          refine lv_lstore (lv' := [(4, .long 0), (3, .int x100), (0, .ref h0), (1, .int p1), (2, .int p2)]) hx hb dX12_lever_56 hl (by decide) rfl (fun ls hl => ?_)
          refine lv_lconst (v := 0) hx hb dX12_lever_58 (by decide) ?_
          refine lv_lstore (lv' := [(6, .long 0), (4, .long 0), (3, .int x100), (0, .ref h0), (1, .int p1), (2, .int p2)]) hx hb dX12_lever_59 hl (by decide) rfl (fun ls hl => ?_)
          refine lv_iconst (v := 0) hx hb dX12_lever_61 (by decide) ?_
          refine lv_istore (lv' := [(8, .int 0), (6, .long 0), (4, .long 0), (3, .int x100), (0, .ref h0), (1, .int p1), (2, .int p2)]) hx hb dX12_lever_62 hl (by decide) rfl (fun ls hl => ?_)
          exact B64 _ _ _ _ ls p1 p2 x100 0 0 0 hu hp hP hD hS (Nat.le_refl _) (by (try simp only [i_lt, i_le, i_eq, Int32.toInt_toInt64, Int32.reduceToInt, Int64.reduceToInt, true_and, and_true, false_and, and_false, false_or, or_false, true_or, or_true, not_true_eq_false, not_false_eq_true, ne_eq, forall_const, true_implies, false_implies, implies_true] at eb91 fb91 eb94 fb94 tx95 g96 c97 tx98 g99 b101 ab101 tx102 eb105 fb105 ⊢) <;> omega) (by (try simp only [i_lt, i_le, i_eq, Int32.toInt_toInt64, Int32.reduceToInt, Int64.reduceToInt, true_and, and_true, false_and, and_false, false_or, or_false, true_or, or_true, not_true_eq_false, not_false_eq_true, ne_eq, forall_const, true_implies, false_implies, implies_true] at eb91 fb91 eb94 fb94 tx95 g96 c97 tx98 g99 b101 ab101 tx102 eb105 fb105 ⊢) <;> omega) (by (try simp only [i_lt, i_le, i_eq, Int32.toInt_toInt64, Int32.reduceToInt, Int64.reduceToInt, true_and, and_true, false_and, and_false, false_or, or_false, true_or, or_true, not_true_eq_false, not_false_eq_true, ne_eq, forall_const, true_implies, false_implies, implies_true] at eb91 fb91 eb94 fb94 tx95 g96 c97 tx98 g99 b101 ab101 tx102 eb105 fb105 ⊢) <;> omega) (by (try simp only [i_lt, i_le, i_eq, Int32.toInt_toInt64, Int32.reduceToInt, Int64.reduceToInt, true_and, and_true, false_and, and_false, false_or, or_false, true_or, or_true, not_true_eq_false, not_false_eq_true, ne_eq, forall_const, true_implies, false_implies, implies_true] at eb91 fb91 eb94 fb94 tx95 g96 c97 tx98 g99 b101 ab101 tx102 eb105 fb105 ⊢) <;> omega) (lv_sub hl [4, 5, 6, 3, 2, 1, 0] rfl)
        · have eb106 : r103.toInt = 0 := by rcases hr103 with ⟨q, -⟩ | ⟨q, -⟩; exact q; (exact absurd (c104) (fun w => by rw [w] at q; exact absurd q (by decide)))
          have fb106 : (x102.toInt < (1 : Int64).toInt ∨ (8 : Int64).toInt < x102.toInt) := by rcases hr103 with ⟨q, r⟩ | ⟨q, r⟩; exact r; exact absurd q (by omega)
          clear hr103
          refine lv_bipush (v := (-2)) hx hb dX12_lever_52 (by decide) ?_
          exact W.iret (v := (-2)) hx hb hr (fun t ht hW => ⟨⟨(-2), u0, rfl, ⟨hu, hp, trivial⟩, by rw [ht]; exact hP, hD⟩, hS.F ht⟩) hS.2.2 dX12_lever_54
      · refine lv_bipush (v := (-6)) hx hb dX12_lever_28 (by decide) ?_
        exact W.iret (v := (-6)) hx hb hr (fun t ht hW => ⟨⟨(-6), u0, rfl, ⟨hu, hp, trivial⟩, by rw [ht]; exact hP, hD⟩, hS.F ht⟩) hS.2.2 dX12_lever_30
    · have eb107 : r92.toInt = 0 := by rcases hr92 with q | ⟨q, -⟩; exact q; (exact absurd (c93) (fun w => by rw [w] at q; exact absurd q (by decide)))
      clear hr92
      refine lv_bipush (v := (-2)) hx hb dX12_lever_15 (by decide) ?_
      exact W.iret (v := (-2)) hx hb hr (fun t ht hW => ⟨⟨(-2), u0, rfl, ⟨hu, hp, trivial⟩, by rw [ht]; exact hP, hD⟩, hS.F ht⟩) hS.2.2 dX12_lever_17
