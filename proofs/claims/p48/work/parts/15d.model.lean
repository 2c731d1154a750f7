set_option maxHeartbeats 4000000 in
set_option maxRecDepth 100000 in
theorem t_X12_keep (l : Launch) (D : va_G) (k : Nat → ClassId) (u0 : PSt) (hu : WT u0) (h0 : Nat) (m_h0 : h0 ∈ u0.1) (k_h0 : u0.2.1 h0 = 12) (p1 : Int32) (sz : Nat) : Met l yX12_keep wsX12_keep ({ frames := 1, cells := 0, slots := 0, locals := 25 }) (PreM D k sz (PW k u0) [.ref h0, .int p1]) (va_Qi (fun r v => WT v ∧ MY u0 v ∧ (((p1.toInt < 0 ∨ 2 < p1.toInt) ∧ r.toInt = -2) ∨ (0 ≤ p1.toInt ∧ p1.toInt ≤ 2 ∧ r.toInt = 0))) (WB D (va_A (PW k u0) sz) (PW k)) (va_A (PW k u0) sz)) 0 0 (va_A (PW k u0) sz) := by
  refine Met.ofW (cc := cX12_keep) (maxL := 3) (ret := (some .int)) (by decide) rfl ?_
  intro p e s m args below meth c s₁ B hml hv
  obtain ⟨rfl, hsz, hP, hK, hD0, hN⟩ := hv
  have hx := B.exec
  have hb := B.bytes
  have hr := B.returns
  have hts := atoms_spec (ws := wsX12_keep) B.pre
  have hown : s.vm.findClass RX12 = some m.cls := findClass_of_methodNamed B.named
  have hlocks := B.notSynchronized
  have i_X12 : ∀ w ∈ wsX120, w ∈ wsX12_keep := by decide +kernel
  obtain ⟨a1, q0_1, m0_a1, k0_a1⟩ := (hu h0 m_h0).1 1 50 (by rw [k_h0]; rfl)
  obtain ⟨a2, q0_2, m0_a2, k0_a2⟩ := (hu h0 m_h0).1 2 52 (by rw [k_h0]; rfl)
  obtain ⟨a3, q0_3, m0_a3, k0_a3⟩ := (hu h0 m_h0).1 3 53 (by rw [k_h0]; rfl)
  have m0_h0 := m_h0
  have k0_h0 := k_h0
  have m_a1 := m0_a1
  have m_a2 := m0_a2
  have m_a3 := m0_a3
  have k_a1 := k0_a1
  have k_a2 := k0_a2
  have k_a3 := k0_a3
  subst hsz
  have hD := hD0.self (sz := s.heap.size)
  generalize hAe : va_A (PW k u0) s.heap.size = A at hD ⊢
  have hA : ∀ q : Nat, s.heap.size ≤ q → A q := fun q h => by rw [← hAe]; exact Or.inr h
  have hS : va_S A s.heap s.heap [] := va_S.rf
  have hp : MY u0 u0 := MY.rf
  have B17 : ∀ (n17 : Nat) (u : PSt) (H : Heap) (locs : List Loc) (ls : Array Slot) (v1 : Int32) (v2 : Int32), WT u → MY u0 u → va_P D vwCl (PW k u) H → va_D A (PW k u) → va_S A s.heap H locs → (2147483648 - v2.toInt).toNat ≤ n17 → 0 ≤ v1.toInt ∧ v1.toInt ≤ 2 → 0 ≤ v2.toInt ∧ v2.toInt ≤ 2482 → (v1.toInt = p1.toInt) → lv_has ls 3 [(0, .ref h0), (1, .int v1), (2, .int v2)] → W p l e (headSpec wsX12_keep ({ frames := 1, cells := 0, slots := 0, locals := 25 })).room s m ([.ref h0, .int p1] : List Value).toArray below meth c H locs 0 0 (MQ below (va_Qi (fun r v => WT v ∧ MY u0 v ∧ (((p1.toInt < 0 ∨ 2 < p1.toInt) ∧ r.toInt = -2) ∨ (0 ≤ p1.toInt ∧ p1.toInt ≤ 2 ∧ r.toInt = 0))) (WB D A (PW k)) A) ([.ref h0, .int p1] : List Value).toArray s 0 0 A) (F0 m 17 ls []) := by
    intro n17
    induction n17 with
    | zero =>
      intro u H locs ls v1 v2 hu hp hP hD hS hn17 g_v1 g_v2 ex0 hl
      exact absurd hn17 (by have := Int32.toInt_lt v2; have := Int32.le_toInt v2; omega)
    | succ n17 ih17 =>
      intro u H locs ls v1 v2 hu hp hP hD hS hn17 g_v1 g_v2 ex0 hl
      refine lv_iload_n hx hb dX12_keep_17 rfl (lv_at hl 2 rfl) ?_
      refine lv_sipush (v := 2482) hx hb dX12_keep_18 (by decide) ?_
      refine lv_icmp_ge (tgt := 48) hx hb dX12_keep_21 (by decide) (fun c1 => ?_) (fun c1 => ?_)
      · refine lv_aload_n hx hb dX12_keep_48 rfl (lv_at hl 0 rfl) ?_
        have k_h0 : u.2.1 h0 = 12 := (hp h0 m0_h0).2.1.trans k0_h0
        have m_h0 : h0 ∈ u.1 := (hp h0 m0_h0).1
        have k_a3 : u.2.1 a3 = 53 := (hp a3 m0_a3).2.1.trans k0_a3
        have m_a3 : a3 ∈ u.1 := (hp a3 m0_a3).1
        refine pget (ci := 12) (v := va_rf (u.2.2.2.2 h0 3)) (C := RX12) (T := TX12) (N := 34) hx hb hts i_X12 hown hK hP m_h0 (cF12 k_h0) rfl 3 (by decide) (hts (.fieldLink RX12 20 "BellowsRowModel" "hasImage" "[Z") (by decide +kernel)) (fun _ h9 => h9) rfl dX12_keep_49 ?_
        refine W.eq (g2 := F0 m 52 ls [.ref a3]) (by rw [(((hp h0 m0_h0).2.2.2.2.2.1 k0_h0 3).trans q0_3)]; rfl) ?_
        refine lv_iload_n hx hb dX12_keep_52 rfl (lv_at hl 1 rfl) ?_
        refine lv_iconst (v := 1) hx hb dX12_keep_53 (by decide) ?_
        refine pasZ (u' := pSI u a3 (v1.toNatClampNeg) (vp_nar .boolean 1)) hx hb hK hP hD hS m_a3 (cF53 k_a3) 3 rfl (vp_in_iff.mpr (by (try simp only [i_lt, i_le, i_eq, Int32.toInt_toInt64, Int32.reduceToInt, Int64.reduceToInt, true_and, and_true, false_and, and_false, false_or, or_false, true_or, or_true, not_true_eq_false, not_false_eq_true, ne_eq, forall_const, true_implies, false_implies, implies_true] at g_v1 g_v2 ex0 hn17 c1 ⊢) <;> omega)) rfl (sF53 k_a3 _ _) dX12_keep_54 (fun H locs hP hD hS => ?_)
        have hu := WT.setI (a := a3) (s := (v1.toNatClampNeg)) (v := (vp_nar .boolean 1)) hu (by rw [k_a3]; exact (show 0 ≤ (vp_nar .boolean (1 : Int32)).toInt ∧ (vp_nar .boolean (1 : Int32)).toInt ≤ 1 from by decide))
        have hp := MY.setI (a := a3) (s := (v1.toNatClampNeg)) (v := (vp_nar .boolean 1)) hp (by rw [k_a3]; decide)
        obtain ⟨u2, hu2⟩ : ∃ z, z = pSI u a3 (v1.toNatClampNeg) (vp_nar .boolean 1) := ⟨_, rfl⟩
        rw [← hu2] at hP hD hu hp
        refine lv_iconst (v := 0) hx hb dX12_keep_55 (by decide) ?_
        exact W.iret (v := 0) hx hb hr (fun t ht hW => ⟨⟨0, u2, rfl, ⟨hu, hp, (show ((p1.toInt < 0 ∨ 2 < p1.toInt) ∧ (0 : Int) = -2) ∨ (0 ≤ p1.toInt ∧ p1.toInt ≤ 2 ∧ (0 : Int) = 0) from by (try simp only [i_lt, i_le, i_eq, Int32.toInt_toInt64, Int32.reduceToInt, Int64.reduceToInt, true_and, and_true, false_and, and_false, false_or, or_false, true_or, or_true, not_true_eq_false, not_false_eq_true, ne_eq, forall_const, true_implies, false_implies, implies_true] at g_v1 g_v2 ex0 hn17 c1 ⊢) <;> omega)⟩, by rw [ht]; exact hP, hD⟩, hS.F ht⟩) hS.2.2 dX12_keep_56
      · refine lv_aload_n hx hb dX12_keep_24 rfl (lv_at hl 0 rfl) ?_
        have k_h0 : u.2.1 h0 = 12 := (hp h0 m0_h0).2.1.trans k0_h0
        have m_h0 : h0 ∈ u.1 := (hp h0 m0_h0).1
        have k_a2 : u.2.1 a2 = 52 := (hp a2 m0_a2).2.1.trans k0_a2
        have m_a2 : a2 ∈ u.1 := (hp a2 m0_a2).1
        refine pget (ci := 12) (v := va_rf (u.2.2.2.2 h0 2)) (C := RX12) (T := TX12) (N := 34) hx hb hts i_X12 hown hK hP m_h0 (cF12 k_h0) rfl 2 (by decide) (hts (.fieldLink RX12 17 "BellowsRowModel" "images" "[I") (by decide +kernel)) (fun _ h9 => h9) rfl dX12_keep_25 ?_
        refine W.eq (g2 := F0 m 28 ls [.ref a2]) (by rw [(((hp h0 m0_h0).2.2.2.2.2.1 k0_h0 2).trans q0_2)]; rfl) ?_
        refine lv_sipush (v := 2482) hx hb dX12_keep_28 (by decide) ?_
        refine lv_iload_n hx hb dX12_keep_31 rfl (lv_at hl 1 rfl) ?_
        refine lv_imul hx hb dX12_keep_32 ?_
        refine lv_topi (fun x3 ex3 => ?_)
        have tx3 : x3.toInt = 2482 * v1.toInt := by rw [ex3]; exact i_mulc (c := 2482) (by decide) ((show 0 ≤ v1.toInt ∧ v1.toInt ≤ 2 from by (try simp only [i_lt, i_le, i_eq, Int32.toInt_toInt64, Int32.reduceToInt, Int64.reduceToInt, true_and, and_true, false_and, and_false, false_or, or_false, true_or, or_true, not_true_eq_false, not_false_eq_true, ne_eq, forall_const, true_implies, false_implies, implies_true] at g_v1 g_v2 ex0 hn17 c1 ⊢) <;> omega)) (by decide)
        refine lv_iload_n hx hb dX12_keep_33 rfl (lv_at hl 2 rfl) ?_
        refine lv_iadd hx hb dX12_keep_34 ?_
        refine lv_topi (fun x4 ex4 => ?_)
        have tx4 : x4.toInt = x3.toInt + v2.toInt := by rw [ex4]; exact i_add (by (try simp only [i_lt, i_le, i_eq, Int32.toInt_toInt64, Int32.reduceToInt, Int64.reduceToInt, true_and, and_true, false_and, and_false, false_or, or_false, true_or, or_true, not_true_eq_false, not_false_eq_true, ne_eq, forall_const, true_implies, false_implies, implies_true] at g_v1 g_v2 ex0 hn17 c1 tx3 ⊢) <;> omega) (by (try simp only [i_lt, i_le, i_eq, Int32.toInt_toInt64, Int32.reduceToInt, Int64.reduceToInt, true_and, and_true, false_and, and_false, false_or, or_false, true_or, or_true, not_true_eq_false, not_false_eq_true, ne_eq, forall_const, true_implies, false_implies, implies_true] at g_v1 g_v2 ex0 hn17 c1 tx3 ⊢) <;> omega)
        refine lv_aload_n hx hb dX12_keep_35 rfl (lv_at hl 0 rfl) ?_
        have k_a1 : u.2.1 a1 = 50 := (hp a1 m0_a1).2.1.trans k0_a1
        have m_a1 : a1 ∈ u.1 := (hp a1 m0_a1).1
        refine pget (ci := 12) (v := va_rf (u.2.2.2.2 h0 1)) (C := RX12) (T := TX12) (N := 34) hx hb hts i_X12 hown hK hP m_h0 (cF12 k_h0) rfl 1 (by decide) (hts (.fieldLink RX12 13 "BellowsRowModel" "world" "[I") (by decide +kernel)) (fun _ h9 => h9) rfl dX12_keep_36 ?_
        refine W.eq (g2 := F0 m 39 ls [.ref a1, .int x4, .ref a2]) (by rw [(((hp h0 m0_h0).2.2.2.2.2.1 k0_h0 1).trans q0_1)]; rfl) ?_
        refine lv_iload_n hx hb dX12_keep_39 rfl (lv_at hl 2 rfl) ?_
        refine palI hx hb hK hP m_a1 (cF50 k_a1) 1 rfl (vp_in_iff.mpr (by (try simp only [i_lt, i_le, i_eq, Int32.toInt_toInt64, Int32.reduceToInt, Int64.reduceToInt, true_and, and_true, false_and, and_false, false_or, or_false, true_or, or_true, not_true_eq_false, not_false_eq_true, ne_eq, forall_const, true_implies, false_implies, implies_true] at g_v1 g_v2 ex0 hn17 c1 tx3 tx4 ⊢) <;> omega)) dX12_keep_40 ?_
        refine lv_topi (fun x5 ex5 => ?_)
        have tx5 : x5.toInt = (u.2.2.1 a1 (v2.toNatClampNeg)).toInt := congrArg Int32.toInt ex5
        have g6 : okW (v2.toNatClampNeg) x5 := by have g := (hu a1 m_a1).2.2.2 (v2.toNatClampNeg); rw [k_a1] at g; rw [show x5 = _ from ex5]; exact g
        refine pasI (u' := pSI u a2 (x4.toNatClampNeg) x5) hx hb hK hP hD hS m_a2 (cF52 k_a2) 1 rfl (vp_in_iff.mpr (by (try simp only [i_lt, i_le, i_eq, Int32.toInt_toInt64, Int32.reduceToInt, Int64.reduceToInt, true_and, and_true, false_and, and_false, false_or, or_false, true_or, or_true, not_true_eq_false, not_false_eq_true, ne_eq, forall_const, true_implies, false_implies, implies_true] at g_v1 g_v2 ex0 hn17 c1 tx3 tx4 tx5 ⊢) <;> omega)) rfl (sF52 k_a2 _ _) dX12_keep_41 (fun H locs hP hD hS => ?_)
        have hu := WT.setI (a := a2) (s := (x4.toNatClampNeg)) (v := x5) hu (by rw [k_a2]; exact (show okW ((x4.toNatClampNeg) % 2482) x5 from by have y : (x4.toNatClampNeg) % 2482 = (v2.toNatClampNeg) := (by have z1 := cl_int (x := x4) (by (try simp only [i_lt, i_le, i_eq, Int32.toInt_toInt64, Int32.reduceToInt, Int64.reduceToInt, true_and, and_true, false_and, and_false, false_or, or_false, true_or, or_true, not_true_eq_false, not_false_eq_true, ne_eq, forall_const, true_implies, false_implies, implies_true] at g_v1 g_v2 ex0 hn17 c1 tx3 tx4 tx5 ⊢) <;> omega); have z2 := cl_int (x := v2) (by (try simp only [i_lt, i_le, i_eq, Int32.toInt_toInt64, Int32.reduceToInt, Int64.reduceToInt, true_and, and_true, false_and, and_false, false_or, or_false, true_or, or_true, not_true_eq_false, not_false_eq_true, ne_eq, forall_const, true_implies, false_implies, implies_true] at g_v1 g_v2 ex0 hn17 c1 tx3 tx4 tx5 ⊢) <;> omega); (try simp only [i_lt, i_le, i_eq, Int32.toInt_toInt64, Int32.reduceToInt, Int64.reduceToInt, true_and, and_true, false_and, and_false, false_or, or_false, true_or, or_true, not_true_eq_false, not_false_eq_true, ne_eq, forall_const, true_implies, false_implies, implies_true] at g_v1 g_v2 ex0 hn17 c1 tx3 tx4 tx5 z1 z2 ⊢) <;> omega); rw [y]; exact g6))
        have hp := MY.setI (a := a2) (s := (x4.toNatClampNeg)) (v := x5) hp (by rw [k_a2]; decide)
        obtain ⟨u7, hu7⟩ : ∃ z, z = pSI u a2 (x4.toNatClampNeg) x5 := ⟨_, rfl⟩
        rw [← hu7] at hP hD hu hp
        obtain ⟨x8, ex8⟩ : ∃ y : Int32, y = v2 + 1 := ⟨_, rfl⟩
        have tx8 : x8.toInt = v2.toInt + 1 := by rw [ex8]; exact i_add (b := 1) (by (try simp only [i_lt, i_le, i_eq, Int32.toInt_toInt64, Int32.reduceToInt, Int64.reduceToInt, true_and, and_true, false_and, and_false, false_or, or_false, true_or, or_true, not_true_eq_false, not_false_eq_true, ne_eq, forall_const, true_implies, false_implies, implies_true] at g_v1 g_v2 ex0 hn17 c1 tx3 tx4 tx5 ⊢) <;> omega) (by (try simp only [i_lt, i_le, i_eq, Int32.toInt_toInt64, Int32.reduceToInt, Int64.reduceToInt, true_and, and_true, false_and, and_false, false_or, or_false, true_or, or_true, not_true_eq_false, not_false_eq_true, ne_eq, forall_const, true_implies, false_implies, implies_true] at g_v1 g_v2 ex0 hn17 c1 tx3 tx4 tx5 ⊢) <;> omega)
        refine lv_iinc (v := x8) (lv' := [(2, .int x8), (0, .ref h0), (1, .int v1)]) hx hb dX12_keep_42 hl (k := 2) rfl (by rw [ex8]; rfl) (by decide) rfl (fun ls hl => ?_)
        refine lv_goto (tgt := 17) hx hb dX12_keep_45 (by decide) ?_
        exact ih17 _ _ _ ls v1 x8 hu hp hP hD hS (by (try simp only [i_lt, i_le, i_eq, Int32.toInt_toInt64, Int32.reduceToInt, Int64.reduceToInt, true_and, and_true, false_and, and_false, false_or, or_false, true_or, or_true, not_true_eq_false, not_false_eq_true, ne_eq, forall_const, true_implies, false_implies, implies_true] at g_v1 g_v2 ex0 hn17 c1 tx3 tx4 tx5 tx8 ⊢) <;> omega) (by (try simp only [i_lt, i_le, i_eq, Int32.toInt_toInt64, Int32.reduceToInt, Int64.reduceToInt, true_and, and_true, false_and, and_false, false_or, or_false, true_or, or_true, not_true_eq_false, not_false_eq_true, ne_eq, forall_const, true_implies, false_implies, implies_true] at g_v1 g_v2 ex0 hn17 c1 tx3 tx4 tx5 tx8 ⊢) <;> omega) (by (try simp only [i_lt, i_le, i_eq, Int32.toInt_toInt64, Int32.reduceToInt, Int64.reduceToInt, true_and, and_true, false_and, and_false, false_or, or_false, true_or, or_true, not_true_eq_false, not_false_eq_true, ne_eq, forall_const, true_implies, false_implies, implies_true] at g_v1 g_v2 ex0 hn17 c1 tx3 tx4 tx5 tx8 ⊢) <;> omega) (by (try simp only [i_lt, i_le, i_eq, Int32.toInt_toInt64, Int32.reduceToInt, Int64.reduceToInt, true_and, and_true, false_and, and_false, false_or, or_false, true_or, or_true, not_true_eq_false, not_false_eq_true, ne_eq, forall_const, true_implies, false_implies, implies_true] at g_v1 g_v2 ex0 hn17 c1 tx3 tx4 tx5 tx8 ⊢) <;> omega) (lv_sub hl [1, 2, 0] rfl)
  have hl := lv_entry ([.ref h0, .int p1]) (n := 3) (Nat.le_of_ble_eq_true rfl)
  rw [lg_entry_eq]
  generalize (lg_sl ([.ref h0, .int p1]) ++ List.replicate (3 - (lg_sl ([.ref h0, .int p1])).length) Slot.unset).toArray = ls at hl ⊢
  have hl : lv_has ls 3 [(0, .ref h0), (1, .int p1)] := hl
  refine lv_iload_n hx hb dX12_keep_0 rfl (lv_at hl 1 rfl) ?_
  refine lv_i2l hx hb dX12_keep_1 rfl ?_
  have b9 := Int32.toInt_lt p1
  have ab9 := Int32.le_toInt p1
  refine lv_topl (fun x10 ex10 => ?_)
  have tx10 : x10.toInt = p1.toInt := by rw [ex10]; exact Int32.toInt_toInt64 _
  refine lv_lconst (v := 0) hx hb dX12_keep_2 (by decide) ?_
  refine lv_ldc2 (own := RX12) (v := 2) hx hb hown (hts (.constantLong RX12 74 (2)) (by decide +kernel)) dX12_keep_3 ?_
  refine psi (As := [.long x10, .long 0, .long 2]) (rest := []) ⟨hx, hb, hml, hown, hts⟩ (t_X12_in l D k x10 0 2) (va_cwS 3 hts gX12_keep_X12_in rfl rfl rfl (by decide +kernel) ⟨Nat.le_of_ble_eq_true rfl, Nat.le_of_ble_eq_true rfl⟩) hK rfl hl.1 rfl (Nat.le_of_ble_eq_true rfl) dX12_keep_6 ⟨Nat.le_of_ble_eq_true rfl, Nat.le_of_ble_eq_true rfl⟩ (fun r11 hr11 => ?_)
  refine lv_if_ne (tgt := 15) hx hb dX12_keep_9 (by decide) (fun c12 => ?_) (fun c12 => ?_)
  · have eb13 : r11.toInt = 1 := by rcases hr11 with ⟨q, -⟩ | ⟨q, -⟩; exact absurd (i_eq.mpr q) c12; exact q
    have fb13 : (0 : Int64).toInt ≤ x10.toInt ∧ x10.toInt ≤ (2 : Int64).toInt := by rcases hr11 with ⟨q, r⟩ | ⟨q, r⟩; exact absurd q (by omega); exact r
    clear hr11
    refine lv_iconst (v := 0) hx hb dX12_keep_15 (by decide) ?_
    refine lv_istore_n (lv' := [(2, .int 0), (0, .ref h0), (1, .int p1)]) hx hb dX12_keep_16 rfl hl (by decide) rfl (fun ls hl => ?_)
    exact B17 _ _ _ _ ls p1 0 hu hp hP hD hS (Nat.le_refl _) (by (try simp only [i_lt, i_le, i_eq, Int32.toInt_toInt64, Int32.reduceToInt, Int64.reduceToInt, true_and, and_true, false_and, and_false, false_or, or_false, true_or, or_true, not_true_eq_false, not_false_eq_true, ne_eq, forall_const, true_implies, false_implies, implies_true] at b9 ab9 tx10 eb13 fb13 ⊢) <;> omega) (by (try simp only [i_lt, i_le, i_eq, Int32.toInt_toInt64, Int32.reduceToInt, Int64.reduceToInt, true_and, and_true, false_and, and_false, false_or, or_false, true_or, or_true, not_true_eq_false, not_false_eq_true, ne_eq, forall_const, true_implies, false_implies, implies_true] at b9 ab9 tx10 eb13 fb13 ⊢) <;> omega) (by (try simp only [i_lt, i_le, i_eq, Int32.toInt_toInt64, Int32.reduceToInt, Int64.reduceToInt, true_and, and_true, false_and, and_false, false_or, or_false, true_or, or_true, not_true_eq_false, not_false_eq_true, ne_eq, forall_const, true_implies, false_implies, implies_true] at b9 ab9 tx10 eb13 fb13 ⊢) <;> omega) (lv_sub hl [1, 2, 0] rfl)
  · have eb14 : r11.toInt = 0 := by rcases hr11 with ⟨q, -⟩ | ⟨q, -⟩; exact q; (exact absurd (c12) (fun w => by rw [w] at q; exact absurd q (by decide)))
    have fb14 : (x10.toInt < (0 : Int64).toInt ∨ (2 : Int64).toInt < x10.toInt) := by rcases hr11 with ⟨q, r⟩ | ⟨q, r⟩; exact r; exact absurd q (by omega)
    clear hr11
    refine lv_bipush (v := (-2)) hx hb dX12_keep_12 (by decide) ?_
    exact W.iret (v := (-2)) hx hb hr (fun t ht hW => ⟨⟨(-2), u0, rfl, ⟨hu, hp, (show ((p1.toInt < 0 ∨ 2 < p1.toInt) ∧ (-2 : Int) = -2) ∨ (0 ≤ p1.toInt ∧ p1.toInt ≤ 2 ∧ (-2 : Int) = 0) from by (try simp only [i_lt, i_le, i_eq, Int32.toInt_toInt64, Int32.reduceToInt, Int64.reduceToInt, true_and, and_true, false_and, and_false, false_or, or_false, true_or, or_true, not_true_eq_false, not_false_eq_true, ne_eq, forall_const, true_implies, false_implies, implies_true] at b9 ab9 tx10 eb14 fb14 ⊢) <;> omega)⟩, by rw [ht]; exact hP, hD⟩, hS.F ht⟩) hS.2.2 dX12_keep_14
set_option maxHeartbeats 4000000 in
set_option maxRecDepth 100000 in
theorem t_X12_lays (l : Launch) (D : va_G) (k : Nat → ClassId) (u0 : PSt) (hu : WT u0) (h0 : Nat) (m_h0 : h0 ∈ u0.1) (k_h0 : u0.2.1 h0 = 12) (p1 : Int32) (sz : Nat) : Met l yX12_lays wsX12_lays ({ frames := 1, cells := 0, slots := 0, locals := 19 }) (PreM D k sz (PW k u0) [.ref h0, .int p1]) (va_Qv (fun v => WT v ∧ PX u0 v ∧ (True)) (WB D (va_A (PW k u0) sz) (PW k)) (va_A (PW k u0) sz)) 0 0 (va_A (PW k u0) sz) := by
  refine Met.ofW (cc := cX12_lays) (maxL := 3) (ret := none) (by decide) rfl ?_
  intro p e s m args below meth c s₁ B hml hv
  obtain ⟨rfl, hsz, hP, hK, hD0, hN⟩ := hv
  have hx := B.exec
  have hb := B.bytes
  have hr := B.returns
  have hts := atoms_spec (ws := wsX12_lays) B.pre
  have hown : s.vm.findClass RX12 = some m.cls := findClass_of_methodNamed B.named
  have hlocks := B.notSynchronized
  have i_X12 : ∀ w ∈ wsX120, w ∈ wsX12_lays := by decide +kernel
  obtain ⟨a1, q0_1, m0_a1, k0_a1⟩ := (hu h0 m_h0).1 1 50 (by rw [k_h0]; rfl)
  obtain ⟨a22, q0_22, m0_a22, k0_a22⟩ := (hu h0 m_h0).1 22 57 (by rw [k_h0]; rfl)
  have m0_h0 := m_h0
  have k0_h0 := k_h0
  have m_a1 := m0_a1
  have m_a22 := m0_a22
  have k_a1 := k0_a1
  have k_a22 := k0_a22
  subst hsz
  have hD := hD0.self (sz := s.heap.size)
  generalize hAe : va_A (PW k u0) s.heap.size = A at hD ⊢
  have hA : ∀ q : Nat, s.heap.size ≤ q → A q := fun q h => by rw [← hAe]; exact Or.inr h
  have hS : va_S A s.heap s.heap [] := va_S.rf
  have hp : PX u0 u0 := PX.rf
  have B13 : ∀ (n13 : Nat) (u : PSt) (H : Heap) (locs : List Loc) (ls : Array Slot) (v1 : Int32) (v2 : Int32), WT u → PX u0 u → va_P D vwCl (PW k u) H → va_D A (PW k u) → va_S A s.heap H locs → (2147483648 - v2.toInt).toNat ≤ n13 → 0 ≤ v2.toInt ∧ v2.toInt ≤ 2000 → lv_has ls 3 [(0, .ref h0), (1, .int v1), (2, .int v2)] → W p l e (headSpec wsX12_lays ({ frames := 1, cells := 0, slots := 0, locals := 19 })).room s m ([.ref h0, .int p1] : List Value).toArray below meth c H locs 0 0 (MQ below (va_Qv (fun v => WT v ∧ PX u0 v ∧ (True)) (WB D A (PW k)) A) ([.ref h0, .int p1] : List Value).toArray s 0 0 A) (F0 m 13 ls []) := by
    intro n13
    induction n13 with
    | zero =>
      intro u H locs ls v1 v2 hu hp hP hD hS hn13 g_v2 hl
      exact absurd hn13 (by have := Int32.toInt_lt v2; have := Int32.le_toInt v2; omega)
    | succ n13 ih13 =>
      intro u H locs ls v1 v2 hu hp hP hD hS hn13 g_v2 hl
      refine lv_iload_n hx hb dX12_lays_13 rfl (lv_at hl 2 rfl) ?_
      refine lv_aload_n hx hb dX12_lays_14 rfl (lv_at hl 0 rfl) ?_
      have k_h0 : u.2.1 h0 = 12 := (hp h0 m0_h0).2.1.trans k0_h0
      have m_h0 : h0 ∈ u.1 := (hp h0 m0_h0).1
      refine pget (ci := 12) (v := .int (u.2.2.1 h0 23)) (C := RX12) (T := TX12) (N := 34) hx hb hts i_X12 hown hK hP m_h0 (cF12 k_h0) rfl 23 (by decide) (hts (.fieldLink RX12 362 "BellowsRowModel" "many" "I") (by decide +kernel)) (fun _ h9 => h9) rfl dX12_lays_15 ?_
      have g1 := (hu h0 m_h0).2.2.2 23
      rw [k_h0] at g1
      replace g1 : 0 ≤ (u.2.2.1 h0 23).toInt ∧ (u.2.2.1 h0 23).toInt ≤ 2000 := g1
      refine lv_icmp_ge (tgt := 55) hx hb dX12_lays_18 (by decide) (fun c2 => ?_) (fun c2 => ?_)
      · exact W.vret hx hb hr (fun t ht hW => ⟨⟨u, rfl, ⟨hu, hp, trivial⟩, by rw [ht]; exact hP, hD⟩, hS.F ht⟩) hS.2.2 dX12_lays_55
      · refine lv_aload_n hx hb dX12_lays_21 rfl (lv_at hl 0 rfl) ?_
        have k_a22 : u.2.1 a22 = 57 := (hp a22 m0_a22).2.1.trans k0_a22
        have m_a22 : a22 ∈ u.1 := (hp a22 m0_a22).1
        refine pget (ci := 12) (v := va_rf (u.2.2.2.2 h0 22)) (C := RX12) (T := TX12) (N := 34) hx hb hts i_X12 hown hK hP m_h0 (cF12 k_h0) rfl 22 (by decide) (hts (.fieldLink RX12 49 "BellowsRowModel" "presses" "[I") (by decide +kernel)) (fun _ h9 => h9) rfl dX12_lays_22 ?_
        refine W.eq (g2 := F0 m 25 ls [.ref a22]) (by rw [(((hp h0 m0_h0).2.2.2.2.2.1 k0_h0 22).trans q0_22)]; rfl) ?_
        refine lv_iload_n hx hb dX12_lays_25 rfl (lv_at hl 2 rfl) ?_
        refine lv_iconst (v := 0) hx hb dX12_lays_26 (by decide) ?_
        refine lv_sipush (v := 999) hx hb dX12_lays_27 (by decide) ?_
        refine lv_aload_n hx hb dX12_lays_30 rfl (lv_at hl 0 rfl) ?_
        have k_a1 : u.2.1 a1 = 50 := (hp a1 m0_a1).2.1.trans k0_a1
        have m_a1 : a1 ∈ u.1 := (hp a1 m0_a1).1
        refine pget (ci := 12) (v := va_rf (u.2.2.2.2 h0 1)) (C := RX12) (T := TX12) (N := 34) hx hb hts i_X12 hown hK hP m_h0 (cF12 k_h0) rfl 1 (by decide) (hts (.fieldLink RX12 13 "BellowsRowModel" "world" "[I") (by decide +kernel)) (fun _ h9 => h9) rfl dX12_lays_31 ?_
        refine W.eq (g2 := F0 m 34 ls [.ref a1, .int 999, .int 0, .int v2, .ref a22]) (by rw [(((hp h0 m0_h0).2.2.2.2.2.1 k0_h0 1).trans q0_1)]; rfl) ?_
        refine lv_sipush (v := 482) hx hb dX12_lays_34 (by decide) ?_
        refine lv_iload_n hx hb dX12_lays_37 rfl (lv_at hl 2 rfl) ?_
        refine lv_iadd hx hb dX12_lays_38 ?_
        refine lv_topi (fun x3 ex3 => ?_)
        have tx3 : x3.toInt = (482 : Int32).toInt + v2.toInt := by rw [ex3]; exact i_add (by (try simp only [i_lt, i_le, i_eq, Int32.toInt_toInt64, Int32.reduceToInt, Int64.reduceToInt, true_and, and_true, false_and, and_false, false_or, or_false, true_or, or_true, not_true_eq_false, not_false_eq_true, ne_eq, forall_const, true_implies, false_implies, implies_true] at g_v2 hn13 g1 c2 ⊢) <;> omega) (by (try simp only [i_lt, i_le, i_eq, Int32.toInt_toInt64, Int32.reduceToInt, Int64.reduceToInt, true_and, and_true, false_and, and_false, false_or, or_false, true_or, or_true, not_true_eq_false, not_false_eq_true, ne_eq, forall_const, true_implies, false_implies, implies_true] at g_v2 hn13 g1 c2 ⊢) <;> omega)
        refine palI hx hb hK hP m_a1 (cF50 k_a1) 1 rfl (vp_in_iff.mpr (by (try simp only [i_lt, i_le, i_eq, Int32.toInt_toInt64, Int32.reduceToInt, Int64.reduceToInt, true_and, and_true, false_and, and_false, false_or, or_false, true_or, or_true, not_true_eq_false, not_false_eq_true, ne_eq, forall_const, true_implies, false_implies, implies_true] at g_v2 hn13 g1 c2 tx3 ⊢) <;> omega)) dX12_lays_39 ?_
        refine lv_topi (fun x4 ex4 => ?_)
        have tx4 : x4.toInt = (u.2.2.1 a1 (x3.toNatClampNeg)).toInt := congrArg Int32.toInt ex4
        have g5 : 0 ≤ x4.toInt ∧ x4.toInt ≤ 999 := by have g : okI (u.2.1 a1) (x3.toNatClampNeg) (u.2.2.1 a1 (x3.toNatClampNeg)) := (hu a1 m_a1).2.2.2 (x3.toNatClampNeg); rw [k_a1, ← (show x4 = u.2.2.1 a1 (x3.toNatClampNeg) from ex4)] at g; have g : okW (x3.toNatClampNeg) x4 := g; unfold okW at g; have z := cl_int (x := x3) (by (try simp only [i_lt, i_le, i_eq, Int32.toInt_toInt64, Int32.reduceToInt, Int64.reduceToInt, true_and, and_true, false_and, and_false, false_or, or_false, true_or, or_true, not_true_eq_false, not_false_eq_true, ne_eq, forall_const, true_implies, false_implies, implies_true] at g_v2 hn13 g1 c2 tx3 tx4 ⊢) <;> omega); (try simp only [i_lt, i_le, i_eq, Int32.toInt_toInt64, Int32.reduceToInt, Int64.reduceToInt, true_and, and_true, false_and, and_false, false_or, or_false, true_or, or_true, not_true_eq_false, not_false_eq_true, ne_eq, forall_const, true_implies, false_implies, implies_true] at g_v2 hn13 g1 c2 tx3 tx4 g z ⊢) <;> omega
        refine lv_iload_n hx hb dX12_lays_40 rfl (lv_at hl 1 rfl) ?_
        refine lv_iadd hx hb dX12_lays_41 ?_
        refine lv_topi (fun x6 ex6 => ?_)
        refine va_mmin hx hb (hml.trans hl.1.symm) hown (hts (.methodLink RX12 113 Lib.Math.min.name) (by decide +kernel)) (hts (.static Lib.Math.min.name) (by decide +kernel)) (hts (.initialized "java/lang/Math") (by decide +kernel)) (hts (.code Lib.Math.min.name Lib.Math.min.code 2 (some .int)) (by decide +kernel)) (Nat.le_of_ble_eq_true rfl) (Nat.le_of_ble_eq_true rfl) (Nat.le_of_ble_eq_true rfl) (Nat.le_of_ble_eq_true rfl) dX12_lays_42 ?_
        refine lv_topi (fun x7 ex7 => ?_)
        have tx7 : x7.toInt ≤ (999 : Int32).toInt ∧ x7.toInt ≤ x6.toInt ∧ (x7.toInt = (999 : Int32).toInt ∨ x7.toInt = x6.toInt) := by rw [ex7]; exact i_min
        refine va_mmax hx hb (hml.trans hl.1.symm) hown (hts (.methodLink RX12 365 Lib.Math.max.name) (by decide +kernel)) (hts (.static Lib.Math.max.name) (by decide +kernel)) (hts (.initialized "java/lang/Math") (by decide +kernel)) (hts (.code Lib.Math.max.name Lib.Math.max.code 2 (some .int)) (by decide +kernel)) (Nat.le_of_ble_eq_true rfl) (Nat.le_of_ble_eq_true rfl) (Nat.le_of_ble_eq_true rfl) (Nat.le_of_ble_eq_true rfl) dX12_lays_45 ?_
        refine lv_topi (fun x8 ex8 => ?_)
        have tx8 : (0 : Int32).toInt ≤ x8.toInt ∧ x7.toInt ≤ x8.toInt ∧ (x8.toInt = (0 : Int32).toInt ∨ x8.toInt = x7.toInt) := by rw [ex8]; exact i_max
        refine pasI (u' := pSI u a22 (v2.toNatClampNeg) x8) hx hb hK hP hD hS m_a22 (cF57 k_a22) 1 rfl (vp_in_iff.mpr (by (try simp only [i_lt, i_le, i_eq, Int32.toInt_toInt64, Int32.reduceToInt, Int64.reduceToInt, true_and, and_true, false_and, and_false, false_or, or_false, true_or, or_true, not_true_eq_false, not_false_eq_true, ne_eq, forall_const, true_implies, false_implies, implies_true] at g_v2 hn13 g1 c2 tx3 tx4 g5 tx7 tx8 ⊢) <;> omega)) rfl (sF57 k_a22 _ _) dX12_lays_48 (fun H locs hP hD hS => ?_)
        have hu := WT.setI (a := a22) (s := (v2.toNatClampNeg)) (v := x8) hu (by rw [k_a22]; exact (show 0 ≤ x8.toInt ∧ x8.toInt ≤ 999 from by (try simp only [i_lt, i_le, i_eq, Int32.toInt_toInt64, Int32.reduceToInt, Int64.reduceToInt, true_and, and_true, false_and, and_false, false_or, or_false, true_or, or_true, not_true_eq_false, not_false_eq_true, ne_eq, forall_const, true_implies, false_implies, implies_true] at g_v2 hn13 g1 c2 tx3 tx4 g5 tx7 tx8 ⊢) <;> omega))
        have hp := PX.setI (a := a22) (s := (v2.toNatClampNeg)) (v := x8) hp (by rw [k_a22]; decide)
        obtain ⟨u9, hu9⟩ : ∃ z, z = pSI u a22 (v2.toNatClampNeg) x8 := ⟨_, rfl⟩
        rw [← hu9] at hP hD hu hp
        have w10 : (u9.2.2.1 h0 23).toInt = (u.2.2.1 h0 23).toInt := by rw [hu9]; exact congrArg Int32.toInt (if_neg (fun q => by have y := q.1; have z := k_h0; rw [y, k_a22] at z; exact absurd z (by decide)))
        obtain ⟨x11, ex11⟩ : ∃ y : Int32, y = v2 + 1 := ⟨_, rfl⟩
        have tx11 : x11.toInt = v2.toInt + 1 := by rw [ex11]; exact i_add (b := 1) (by (try simp only [i_lt, i_le, i_eq, Int32.toInt_toInt64, Int32.reduceToInt, Int64.reduceToInt, true_and, and_true, false_and, and_false, false_or, or_false, true_or, or_true, not_true_eq_false, not_false_eq_true, ne_eq, forall_const, true_implies, false_implies, implies_true] at g_v2 hn13 g1 c2 tx3 tx4 g5 tx7 tx8 w10 ⊢) <;> omega) (by (try simp only [i_lt, i_le, i_eq, Int32.toInt_toInt64, Int32.reduceToInt, Int64.reduceToInt, true_and, and_true, false_and, and_false, false_or, or_false, true_or, or_true, not_true_eq_false, not_false_eq_true, ne_eq, forall_const, true_implies, false_implies, implies_true] at g_v2 hn13 g1 c2 tx3 tx4 g5 tx7 tx8 w10 ⊢) <;> omega)
        refine lv_iinc (v := x11) (lv' := [(2, .int x11), (0, .ref h0), (1, .int v1)]) hx hb dX12_lays_49 hl (k := 2) rfl (by rw [ex11]; rfl) (by decide) rfl (fun ls hl => ?_)
        refine lv_goto (tgt := 13) hx hb dX12_lays_52 (by decide) ?_
        exact ih13 _ _ _ ls v1 x11 hu hp hP hD hS (by (try simp only [i_lt, i_le, i_eq, Int32.toInt_toInt64, Int32.reduceToInt, Int64.reduceToInt, true_and, and_true, false_and, and_false, false_or, or_false, true_or, or_true, not_true_eq_false, not_false_eq_true, ne_eq, forall_const, true_implies, false_implies, implies_true] at g_v2 hn13 g1 c2 tx3 tx4 g5 tx7 tx8 w10 tx11 ⊢) <;> omega) (by (try simp only [i_lt, i_le, i_eq, Int32.toInt_toInt64, Int32.reduceToInt, Int64.reduceToInt, true_and, and_true, false_and, and_false, false_or, or_false, true_or, or_true, not_true_eq_false, not_false_eq_true, ne_eq, forall_const, true_implies, false_implies, implies_true] at g_v2 hn13 g1 c2 tx3 tx4 g5 tx7 tx8 w10 tx11 ⊢) <;> omega) (lv_sub hl [1, 2, 0] rfl)
  have hl := lv_entry ([.ref h0, .int p1]) (n := 3) (Nat.le_of_ble_eq_true rfl)
  rw [lg_entry_eq]
  generalize (lg_sl ([.ref h0, .int p1]) ++ List.replicate (3 - (lg_sl ([.ref h0, .int p1])).length) Slot.unset).toArray = ls at hl ⊢
  have hl : lv_has ls 3 [(0, .ref h0), (1, .int p1)] := hl
  refine lv_aload_n hx hb dX12_lays_0 rfl (lv_at hl 0 rfl) ?_
  refine lv_aload_n hx hb dX12_lays_1 rfl (lv_at hl 0 rfl) ?_
  refine pget (ci := 12) (v := va_rf (u0.2.2.2.2 h0 1)) (C := RX12) (T := TX12) (N := 34) hx hb hts i_X12 hown hK hP m_h0 (cF12 k_h0) rfl 1 (by decide) (hts (.fieldLink RX12 13 "BellowsRowModel" "world" "[I") (by decide +kernel)) (fun _ h9 => h9) rfl dX12_lays_2 ?_
  refine W.eq (g2 := F0 m 5 ls [.ref a1, .ref h0]) (by rw [(((hp h0 m0_h0).2.2.2.2.2.1 k0_h0 1).trans q0_1)]; rfl) ?_
  refine lv_bipush (v := 6) hx hb dX12_lays_5 (by decide) ?_
  refine palI hx hb hK hP m_a1 (cF50 k_a1) 1 rfl (vp_in_iff.mpr (by decide)) dX12_lays_7 ?_
  refine lv_topi (fun x12 ex12 => ?_)
  have tx12 : x12.toInt = (u0.2.2.1 a1 6).toInt := congrArg Int32.toInt ex12
  have g13 : 0 ≤ x12.toInt ∧ x12.toInt ≤ 2000 := by have g : okI (u0.2.1 a1) (6) (u0.2.2.1 a1 (6)) := (hu a1 m_a1).2.2.2 (6); rw [k_a1, ← (show x12 = u0.2.2.1 a1 (6) from ex12)] at g; have g : okW (6) x12 := g; unfold okW at g; (try simp only [i_lt, i_le, i_eq, Int32.toInt_toInt64, Int32.reduceToInt, Int64.reduceToInt, true_and, and_true, false_and, and_false, false_or, or_false, true_or, or_true, not_true_eq_false, not_false_eq_true, ne_eq, forall_const, true_implies, false_implies, implies_true] at tx12 g ⊢) <;> omega
  refine pput (u' := pSI u0 h0 23 x12) (ci := 12) (v := .int x12) (ty := .int) (C := RX12) (T := TX12) (N := 34) hx hb hts i_X12 tyX12 tyX12_ok nmX12 hown hK hP hD hS m_h0 (cF12 k_h0) rfl 23 (by decide) (hts (.fieldLink RX12 362 "BellowsRowModel" "many" "I") (by decide +kernel)) (fun _ h9 => h9) rfl (by decide +kernel) rfl rfl (Nat.le_of_ble_eq_true rfl) rfl (sF12_23 k_h0 x12) dX12_lays_8 (fun H locs hP hD hS => ?_)
  have hu := WT.setI (a := h0) (s := 23) (v := x12) hu (by rw [k_h0]; exact (show 0 ≤ x12.toInt ∧ x12.toInt ≤ 2000 from by (try simp only [i_lt, i_le, i_eq, Int32.toInt_toInt64, Int32.reduceToInt, Int64.reduceToInt, true_and, and_true, false_and, and_false, false_or, or_false, true_or, or_true, not_true_eq_false, not_false_eq_true, ne_eq, forall_const, true_implies, false_implies, implies_true] at tx12 g13 ⊢) <;> omega))
  have hp := PX.setI (a := h0) (s := 23) (v := x12) hp (by rw [k_h0]; decide)
  obtain ⟨u14, hu14⟩ : ∃ z, z = pSI u0 h0 23 x12 := ⟨_, rfl⟩
  rw [← hu14] at hP hD hu hp
  refine lv_iconst (v := 0) hx hb dX12_lays_11 (by decide) ?_
  refine lv_istore_n (lv' := [(2, .int 0), (0, .ref h0), (1, .int p1)]) hx hb dX12_lays_12 rfl hl (by decide) rfl (fun ls hl => ?_)
  exact B13 _ _ _ _ ls p1 0 hu hp hP hD hS (Nat.le_refl _) (by (try simp only [i_lt, i_le, i_eq, Int32.toInt_toInt64, Int32.reduceToInt, Int64.reduceToInt, true_and, and_true, false_and, and_false, false_or, or_false, true_or, or_true, not_true_eq_false, not_false_eq_true, ne_eq, forall_const, true_implies, false_implies, implies_true] at tx12 g13 ⊢) <;> omega) (lv_sub hl [1, 2, 0] rfl)
set_option maxHeartbeats 4000000 in
set_option maxRecDepth 100000 in
theorem t_X12_many0 (l : Launch) (D : va_G) (k : Nat → ClassId) (p1 : Int32) : Met l yX12_many0 wsX12_many0 ({ frames := 0, cells := 0, slots := 0, locals := 0 }) (PreR D k [] [.int p1]) (vp_Si (fun r => True)) 0 0 (fun _ => False) := by
  refine Met.ofW (cc := cX12_many0) (maxL := 3) (ret := (some .int)) (by decide) rfl ?_
  intro p e s m args below meth c s₁ B hml hv
  obtain ⟨rfl, hP, hK⟩ := hv
  have hx := B.exec
  have hb := B.bytes
  have hr := B.returns
  have hts := atoms_spec (ws := wsX12_many0) B.pre
  have hown : s.vm.findClass RX12 = some m.cls := findClass_of_methodNamed B.named
  have hlocks := B.notSynchronized
  have B4 : ∀ (n4 : Nat) (ls : Array Slot) (v0 : Int32) (v1 : Int32) (v2 : Int32), (2147483648 - v2.toInt).toNat ≤ n4 → 0 ≤ v2.toInt ∧ v2.toInt ≤ 20 → lv_has ls 3 [(0, .int v0), (1, .int v1), (2, .int v2)] → W p l e (headSpec wsX12_many0 ({ frames := 0, cells := 0, slots := 0, locals := 0 })).room s m ([.int p1] : List Value).toArray below meth c s.heap [] 0 0 (MQ below (vp_Si (fun r => True)) ([.int p1] : List Value).toArray s 0 0 (fun _ => False)) (F0 m 4 ls []) := by
    intro n4
    induction n4 with
    | zero =>
      intro ls v0 v1 v2 hn4 g_v2 hl
      exact absurd hn4 (by have := Int32.toInt_lt v2; have := Int32.le_toInt v2; omega)
    | succ n4 ih4 =>
      intro ls v0 v1 v2 hn4 g_v2 hl
      refine lv_iload_n hx hb dX12_many0_4 rfl (lv_at hl 2 rfl) ?_
      refine lv_bipush (v := 20) hx hb dX12_many0_5 (by decide) ?_
      refine lv_icmp_ge (tgt := 24) hx hb dX12_many0_7 (by decide) (fun c1 => ?_) (fun c1 => ?_)
      · refine lv_iload_n hx hb dX12_many0_24 rfl (lv_at hl 1 rfl) ?_
        exact W.iret (v := v1) hx hb hr (fun t ht hW => ⟨v1, rfl, trivial, ht⟩) (fun q h => by cases h) dX12_many0_25
      · refine lv_iload_n hx hb dX12_many0_10 rfl (lv_at hl 1 rfl) ?_
        refine lv_iload_n hx hb dX12_many0_11 rfl (lv_at hl 0 rfl) ?_
        refine lv_iload_n hx hb dX12_many0_12 rfl (lv_at hl 2 rfl) ?_
        refine lv_ishr hx hb dX12_many0_13 ?_
        refine lv_topi (fun x2 ex2 => ?_)
        refine lv_iconst (v := 1) hx hb dX12_many0_14 (by decide) ?_
        refine lv_iand hx hb dX12_many0_15 ?_
        refine lv_topi (fun x3 ex3 => ?_)
        have tx3 : 0 ≤ x3.toInt ∧ x3.toInt ≤ 1 := by rw [ex3]; exact i_and (m := 1) (b := 1) (by decide) (by decide)
        refine lv_iadd hx hb dX12_many0_16 ?_
        refine lv_topi (fun x4 ex4 => ?_)
        refine lv_istore_n (lv' := [(1, .int x4), (0, .int v0), (2, .int v2)]) hx hb dX12_many0_17 rfl hl (by decide) rfl (fun ls hl => ?_)
        obtain ⟨x5, ex5⟩ : ∃ y : Int32, y = v2 + 1 := ⟨_, rfl⟩
        have tx5 : x5.toInt = v2.toInt + 1 := by rw [ex5]; exact i_add (b := 1) (by (try simp only [i_lt, i_le, i_eq, Int32.toInt_toInt64, Int32.reduceToInt, Int64.reduceToInt, true_and, and_true, false_and, and_false, false_or, or_false, true_or, or_true, not_true_eq_false, not_false_eq_true, ne_eq, forall_const, true_implies, false_implies, implies_true] at g_v2 hn4 c1 tx3 ⊢) <;> omega) (by (try simp only [i_lt, i_le, i_eq, Int32.toInt_toInt64, Int32.reduceToInt, Int64.reduceToInt, true_and, and_true, false_and, and_false, false_or, or_false, true_or, or_true, not_true_eq_false, not_false_eq_true, ne_eq, forall_const, true_implies, false_implies, implies_true] at g_v2 hn4 c1 tx3 ⊢) <;> omega)
        refine lv_iinc (v := x5) (lv' := [(2, .int x5), (1, .int x4), (0, .int v0)]) hx hb dX12_many0_18 hl (k := 2) rfl (by rw [ex5]; rfl) (by decide) rfl (fun ls hl => ?_)
        refine lv_goto (tgt := 4) hx hb dX12_many0_21 (by decide) ?_
        exact ih4 ls v0 x4 x5 (by (try simp only [i_lt, i_le, i_eq, Int32.toInt_toInt64, Int32.reduceToInt, Int64.reduceToInt, true_and, and_true, false_and, and_false, false_or, or_false, true_or, or_true, not_true_eq_false, not_false_eq_true, ne_eq, forall_const, true_implies, false_implies, implies_true] at g_v2 hn4 c1 tx3 tx5 ⊢) <;> omega) (by (try simp only [i_lt, i_le, i_eq, Int32.toInt_toInt64, Int32.reduceToInt, Int64.reduceToInt, true_and, and_true, false_and, and_false, false_or, or_false, true_or, or_true, not_true_eq_false, not_false_eq_true, ne_eq, forall_const, true_implies, false_implies, implies_true] at g_v2 hn4 c1 tx3 tx5 ⊢) <;> omega) (lv_sub hl [2, 1, 0] rfl)
  have hl := lv_entry ([.int p1]) (n := 3) (Nat.le_of_ble_eq_true rfl)
  rw [lg_entry_eq]
  generalize (lg_sl ([.int p1]) ++ List.replicate (3 - (lg_sl ([.int p1])).length) Slot.unset).toArray = ls at hl ⊢
  have hl : lv_has ls 3 [(0, .int p1)] := hl
  refine lv_iconst (v := 0) hx hb dX12_many0_0 (by decide) ?_
  refine lv_istore_n (lv' := [(1, .int 0), (0, .int p1)]) hx hb dX12_many0_1 rfl hl (by decide) rfl (fun ls hl => ?_)
  refine lv_iconst (v := 0) hx hb dX12_many0_2 (by decide) ?_
  refine lv_istore_n (lv' := [(2, .int 0), (1, .int 0), (0, .int p1)]) hx hb dX12_many0_3 rfl hl (by decide) rfl (fun ls hl => ?_)
  exact B4 _ ls p1 0 0 (Nat.le_refl _) (by (try simp only [i_lt, i_le, i_eq, Int32.toInt_toInt64, Int32.reduceToInt, Int64.reduceToInt, true_and, and_true, false_and, and_false, false_or, or_false, true_or, or_true, not_true_eq_false, not_false_eq_true, ne_eq, forall_const, true_implies, false_implies, implies_true]) <;> omega) (lv_sub hl [2, 1, 0] rfl)
set_option maxHeartbeats 4000000 in
set_option maxRecDepth 100000 in
theorem t_X12_ofPipe (l : Launch) (D : va_G) (k : Nat → ClassId) (u : PSt) (hu : WT u) (h0 : Nat) (m_h0 : h0 ∈ u.1) (k_h0 : u.2.1 h0 = 12) (p1 : Int32) (p2 : Int32) (g_p1 : 0 ≤ p1.toInt ∧ p1.toInt ≤ 11) (g_p2 : 0 ≤ p2.toInt ∧ p2.toInt ≤ 23) : Met l yX12_ofPipe wsX12_ofPipe ({ frames := 0, cells := 0, slots := 0, locals := 0 }) (PreR D k (PW k u) [.ref h0, .int p1, .int p2]) (vp_Si (fun r => ((p2.toInt = 0 → 0 ≤ r.toInt ∧ r.toInt ≤ 7) ∧ (p2.toInt = 1 → 0 ≤ r.toInt ∧ r.toInt ≤ 7) ∧ (p2.toInt = 2 → 0 ≤ r.toInt ∧ r.toInt ≤ 40) ∧ (p2.toInt = 3 → 0 ≤ r.toInt ∧ r.toInt ≤ 8)) ∧ r.toInt = (u.2.2.1 (ar u h0 1) (26 + 24 * p1.toInt + p2.toInt).toNat).toInt)) 0 0 (fun _ => False) := by
  refine Met.ofW (cc := cX12_ofPipe) (maxL := 3) (ret := (some .int)) (by decide) rfl ?_
  intro p e s m args below meth c s₁ B hml hv
  obtain ⟨rfl, hP, hK⟩ := hv
  have hx := B.exec
  have hb := B.bytes
  have hr := B.returns
  have hts := atoms_spec (ws := wsX12_ofPipe) B.pre
  have hown : s.vm.findClass RX12 = some m.cls := findClass_of_methodNamed B.named
  have hlocks := B.notSynchronized
  have i_X12 : ∀ w ∈ wsX120, w ∈ wsX12_ofPipe := by decide +kernel
  obtain ⟨a1, q0_1, m0_a1, k0_a1⟩ := (hu h0 m_h0).1 1 50 (by rw [k_h0]; rfl)
  have m_a1 := m0_a1
  have k_a1 := k0_a1
  have hl := lv_entry ([.ref h0, .int p1, .int p2]) (n := 3) (Nat.le_of_ble_eq_true rfl)
  rw [lg_entry_eq]
  generalize (lg_sl ([.ref h0, .int p1, .int p2]) ++ List.replicate (3 - (lg_sl ([.ref h0, .int p1, .int p2])).length) Slot.unset).toArray = ls at hl ⊢
  have hl : lv_has ls 3 [(0, .ref h0), (1, .int p1), (2, .int p2)] := hl
  refine lv_aload_n hx hb dX12_ofPipe_0 rfl (lv_at hl 0 rfl) ?_
  refine pget (ci := 12) (v := va_rf (u.2.2.2.2 h0 1)) (C := RX12) (T := TX12) (N := 34) hx hb hts i_X12 hown hK hP m_h0 (cF12 k_h0) rfl 1 (by decide) (hts (.fieldLink RX12 13 "BellowsRowModel" "world" "[I") (by decide +kernel)) (fun _ h9 => h9) rfl dX12_ofPipe_1 ?_
  refine W.eq (g2 := F0 m 4 ls [.ref a1]) (by rw [q0_1]; rfl) ?_
  refine lv_bipush (v := 26) hx hb dX12_ofPipe_4 (by decide) ?_
  refine lv_bipush (v := 24) hx hb dX12_ofPipe_6 (by decide) ?_
  refine lv_iload_n hx hb dX12_ofPipe_8 rfl (lv_at hl 1 rfl) ?_
  refine lv_imul hx hb dX12_ofPipe_9 ?_
  refine lv_topi (fun x1 ex1 => ?_)
  have tx1 : x1.toInt = 24 * p1.toInt := by rw [ex1]; exact i_mulc (c := 24) (by decide) ((show 0 ≤ p1.toInt ∧ p1.toInt ≤ 11 from by (try simp only [i_lt, i_le, i_eq, Int32.toInt_toInt64, Int32.reduceToInt, Int64.reduceToInt, true_and, and_true, false_and, and_false, false_or, or_false, true_or, or_true, not_true_eq_false, not_false_eq_true, ne_eq, forall_const, true_implies, false_implies, implies_true] at g_p1 g_p2 ⊢) <;> omega)) (by decide)
  refine lv_iadd hx hb dX12_ofPipe_10 ?_
  refine lv_topi (fun x2 ex2 => ?_)
  have tx2 : x2.toInt = (26 : Int32).toInt + x1.toInt := by rw [ex2]; exact i_add (by (try simp only [i_lt, i_le, i_eq, Int32.toInt_toInt64, Int32.reduceToInt, Int64.reduceToInt, true_and, and_true, false_and, and_false, false_or, or_false, true_or, or_true, not_true_eq_false, not_false_eq_true, ne_eq, forall_const, true_implies, false_implies, implies_true] at g_p1 g_p2 tx1 ⊢) <;> omega) (by (try simp only [i_lt, i_le, i_eq, Int32.toInt_toInt64, Int32.reduceToInt, Int64.reduceToInt, true_and, and_true, false_and, and_false, false_or, or_false, true_or, or_true, not_true_eq_false, not_false_eq_true, ne_eq, forall_const, true_implies, false_implies, implies_true] at g_p1 g_p2 tx1 ⊢) <;> omega)
  refine lv_iload_n hx hb dX12_ofPipe_11 rfl (lv_at hl 2 rfl) ?_
  refine lv_iadd hx hb dX12_ofPipe_12 ?_
  refine lv_topi (fun x3 ex3 => ?_)
  have tx3 : x3.toInt = x2.toInt + p2.toInt := by rw [ex3]; exact i_add (by (try simp only [i_lt, i_le, i_eq, Int32.toInt_toInt64, Int32.reduceToInt, Int64.reduceToInt, true_and, and_true, false_and, and_false, false_or, or_false, true_or, or_true, not_true_eq_false, not_false_eq_true, ne_eq, forall_const, true_implies, false_implies, implies_true] at g_p1 g_p2 tx1 tx2 ⊢) <;> omega) (by (try simp only [i_lt, i_le, i_eq, Int32.toInt_toInt64, Int32.reduceToInt, Int64.reduceToInt, true_and, and_true, false_and, and_false, false_or, or_false, true_or, or_true, not_true_eq_false, not_false_eq_true, ne_eq, forall_const, true_implies, false_implies, implies_true] at g_p1 g_p2 tx1 tx2 ⊢) <;> omega)
  refine palI hx hb hK hP m_a1 (cF50 k_a1) 1 rfl (vp_in_iff.mpr (by (try simp only [i_lt, i_le, i_eq, Int32.toInt_toInt64, Int32.reduceToInt, Int64.reduceToInt, true_and, and_true, false_and, and_false, false_or, or_false, true_or, or_true, not_true_eq_false, not_false_eq_true, ne_eq, forall_const, true_implies, false_implies, implies_true] at g_p1 g_p2 tx1 tx2 tx3 ⊢) <;> omega)) dX12_ofPipe_13 ?_
  refine lv_topi (fun x4 ex4 => ?_)
  have tx4 : x4.toInt = (u.2.2.1 a1 (x3.toNatClampNeg)).toInt := congrArg Int32.toInt ex4
  have g5 : okW (x3.toNatClampNeg) x4 := by have g := (hu a1 m_a1).2.2.2 (x3.toNatClampNeg); rw [k_a1] at g; rw [show x4 = _ from ex4]; exact g
  unfold okW at g5
  have zg5 := cl_int (x := x3) (by (try simp only [i_lt, i_le, i_eq, Int32.toInt_toInt64, Int32.reduceToInt, Int64.reduceToInt, true_and, and_true, false_and, and_false, false_or, or_false, true_or, or_true, not_true_eq_false, not_false_eq_true, ne_eq, forall_const, true_implies, false_implies, implies_true] at g_p1 g_p2 tx1 tx2 tx3 tx4 ⊢) <;> omega)
  exact W.iret (v := x4) hx hb hr (fun t ht hW => ⟨x4, rfl, (⟨by (try simp only [i_lt, i_le, i_eq, Int32.toInt_toInt64, Int32.reduceToInt, Int64.reduceToInt, true_and, and_true, false_and, and_false, false_or, or_false, true_or, or_true, not_true_eq_false, not_false_eq_true, ne_eq, forall_const, true_implies, false_implies, implies_true] at g_p1 g_p2 tx1 tx2 tx3 tx4 g5 zg5 ⊢) <;> omega, by have z := cl_int (x := x3) (by (try simp only [i_lt, i_le, i_eq, Int32.toInt_toInt64, Int32.reduceToInt, Int64.reduceToInt, true_and, and_true, false_and, and_false, false_or, or_false, true_or, or_true, not_true_eq_false, not_false_eq_true, ne_eq, forall_const, true_implies, false_implies, implies_true] at g_p1 g_p2 tx1 tx2 tx3 tx4 g5 zg5 ⊢) <;> omega); rw [show (26 + 24 * p1.toInt + p2.toInt).toNat = x3.toNatClampNeg by (try simp only [i_lt, i_le, i_eq, Int32.toInt_toInt64, Int32.reduceToInt, Int64.reduceToInt, true_and, and_true, false_and, and_false, false_or, or_false, true_or, or_true, not_true_eq_false, not_false_eq_true, ne_eq, forall_const, true_implies, false_implies, implies_true] at g_p1 g_p2 tx1 tx2 tx3 tx4 g5 zg5 z ⊢) <;> omega]; rw [ar_eq q0_1]; exact tx4⟩), ht⟩) (fun q h => by cases h) dX12_ofPipe_14
set_option maxHeartbeats 4000000 in
set_option maxRecDepth 100000 in
theorem t_X12_ofRoom (l : Launch) (D : va_G) (k : Nat → ClassId) (u : PSt) (hu : WT u) (h0 : Nat) (m_h0 : h0 ∈ u.1) (k_h0 : u.2.1 h0 = 12) (p1 : Int32) (p2 : Int32) (g_p1 : 0 ≤ p1.toInt ∧ p1.toInt ≤ 11) (g_p2 : 0 ≤ p2.toInt ∧ p2.toInt ≤ 4) : Met l yX12_ofRoom wsX12_ofRoom ({ frames := 0, cells := 0, slots := 0, locals := 0 }) (PreR D k (PW k u) [.ref h0, .int p1, .int p2]) (vp_Si (fun r => True)) 0 0 (fun _ => False) := by
  refine Met.ofW (cc := cX12_ofRoom) (maxL := 3) (ret := (some .int)) (by decide) rfl ?_
  intro p e s m args below meth c s₁ B hml hv
  obtain ⟨rfl, hP, hK⟩ := hv
  have hx := B.exec
  have hb := B.bytes
  have hr := B.returns
  have hts := atoms_spec (ws := wsX12_ofRoom) B.pre
  have hown : s.vm.findClass RX12 = some m.cls := findClass_of_methodNamed B.named
  have hlocks := B.notSynchronized
  have i_X12 : ∀ w ∈ wsX120, w ∈ wsX12_ofRoom := by decide +kernel
  obtain ⟨a1, q0_1, m0_a1, k0_a1⟩ := (hu h0 m_h0).1 1 50 (by rw [k_h0]; rfl)
  have m_a1 := m0_a1
  have k_a1 := k0_a1
  have hl := lv_entry ([.ref h0, .int p1, .int p2]) (n := 3) (Nat.le_of_ble_eq_true rfl)
  rw [lg_entry_eq]
  generalize (lg_sl ([.ref h0, .int p1, .int p2]) ++ List.replicate (3 - (lg_sl ([.ref h0, .int p1, .int p2])).length) Slot.unset).toArray = ls at hl ⊢
  have hl : lv_has ls 3 [(0, .ref h0), (1, .int p1), (2, .int p2)] := hl
  refine lv_aload_n hx hb dX12_ofRoom_0 rfl (lv_at hl 0 rfl) ?_
  refine pget (ci := 12) (v := va_rf (u.2.2.2.2 h0 1)) (C := RX12) (T := TX12) (N := 34) hx hb hts i_X12 hown hK hP m_h0 (cF12 k_h0) rfl 1 (by decide) (hts (.fieldLink RX12 13 "BellowsRowModel" "world" "[I") (by decide +kernel)) (fun _ h9 => h9) rfl dX12_ofRoom_1 ?_
  refine W.eq (g2 := F0 m 4 ls [.ref a1]) (by rw [q0_1]; rfl) ?_
  refine lv_sipush (v := 314) hx hb dX12_ofRoom_4 (by decide) ?_
  refine lv_iconst (v := 5) hx hb dX12_ofRoom_7 (by decide) ?_
  refine lv_iload_n hx hb dX12_ofRoom_8 rfl (lv_at hl 1 rfl) ?_
  refine lv_imul hx hb dX12_ofRoom_9 ?_
  refine lv_topi (fun x1 ex1 => ?_)
  have tx1 : x1.toInt = 5 * p1.toInt := by rw [ex1]; exact i_mulc (c := 5) (by decide) ((show 0 ≤ p1.toInt ∧ p1.toInt ≤ 11 from by (try simp only [i_lt, i_le, i_eq, Int32.toInt_toInt64, Int32.reduceToInt, Int64.reduceToInt, true_and, and_true, false_and, and_false, false_or, or_false, true_or, or_true, not_true_eq_false, not_false_eq_true, ne_eq, forall_const, true_implies, false_implies, implies_true] at g_p1 g_p2 ⊢) <;> omega)) (by decide)
  refine lv_iadd hx hb dX12_ofRoom_10 ?_
  refine lv_topi (fun x2 ex2 => ?_)
  have tx2 : x2.toInt = (314 : Int32).toInt + x1.toInt := by rw [ex2]; exact i_add (by (try simp only [i_lt, i_le, i_eq, Int32.toInt_toInt64, Int32.reduceToInt, Int64.reduceToInt, true_and, and_true, false_and, and_false, false_or, or_false, true_or, or_true, not_true_eq_false, not_false_eq_true, ne_eq, forall_const, true_implies, false_implies, implies_true] at g_p1 g_p2 tx1 ⊢) <;> omega) (by (try simp only [i_lt, i_le, i_eq, Int32.toInt_toInt64, Int32.reduceToInt, Int64.reduceToInt, true_and, and_true, false_and, and_false, false_or, or_false, true_or, or_true, not_true_eq_false, not_false_eq_true, ne_eq, forall_const, true_implies, false_implies, implies_true] at g_p1 g_p2 tx1 ⊢) <;> omega)
  refine lv_iload_n hx hb dX12_ofRoom_11 rfl (lv_at hl 2 rfl) ?_
  refine lv_iadd hx hb dX12_ofRoom_12 ?_
  refine lv_topi (fun x3 ex3 => ?_)
  have tx3 : x3.toInt = x2.toInt + p2.toInt := by rw [ex3]; exact i_add (by (try simp only [i_lt, i_le, i_eq, Int32.toInt_toInt64, Int32.reduceToInt, Int64.reduceToInt, true_and, and_true, false_and, and_false, false_or, or_false, true_or, or_true, not_true_eq_false, not_false_eq_true, ne_eq, forall_const, true_implies, false_implies, implies_true] at g_p1 g_p2 tx1 tx2 ⊢) <;> omega) (by (try simp only [i_lt, i_le, i_eq, Int32.toInt_toInt64, Int32.reduceToInt, Int64.reduceToInt, true_and, and_true, false_and, and_false, false_or, or_false, true_or, or_true, not_true_eq_false, not_false_eq_true, ne_eq, forall_const, true_implies, false_implies, implies_true] at g_p1 g_p2 tx1 tx2 ⊢) <;> omega)
  refine palI hx hb hK hP m_a1 (cF50 k_a1) 1 rfl (vp_in_iff.mpr (by (try simp only [i_lt, i_le, i_eq, Int32.toInt_toInt64, Int32.reduceToInt, Int64.reduceToInt, true_and, and_true, false_and, and_false, false_or, or_false, true_or, or_true, not_true_eq_false, not_false_eq_true, ne_eq, forall_const, true_implies, false_implies, implies_true] at g_p1 g_p2 tx1 tx2 tx3 ⊢) <;> omega)) dX12_ofRoom_13 ?_
  refine lv_topi (fun x4 ex4 => ?_)
  have tx4 : x4.toInt = (u.2.2.1 a1 (x3.toNatClampNeg)).toInt := congrArg Int32.toInt ex4
  exact W.iret (v := x4) hx hb hr (fun t ht hW => ⟨x4, rfl, trivial, ht⟩) (fun q h => by cases h) dX12_ofRoom_14
set_option maxHeartbeats 4000000 in
set_option maxRecDepth 100000 in
theorem t_X12_ones (l : Launch) (D : va_G) (k : Nat → ClassId) (p1 : Int32) : Met l yX12_ones wsX12_ones ({ frames := 0, cells := 0, slots := 0, locals := 0 }) (PreR D k [] [.int p1]) (vp_Si (fun r => True)) 0 0 (fun _ => False) := by
  refine Met.ofW (cc := cX12_ones) (maxL := 3) (ret := (some .int)) (by decide) rfl ?_
  intro p e s m args below meth c s₁ B hml hv
  obtain ⟨rfl, hP, hK⟩ := hv
  have hx := B.exec
  have hb := B.bytes
  have hr := B.returns
  have hts := atoms_spec (ws := wsX12_ones) B.pre
  have hown : s.vm.findClass RX12 = some m.cls := findClass_of_methodNamed B.named
  have hlocks := B.notSynchronized
  have B4 : ∀ (n4 : Nat) (ls : Array Slot) (v0 : Int32) (v1 : Int32) (v2 : Int32), (2147483648 - v2.toInt).toNat ≤ n4 → 0 ≤ v2.toInt ∧ v2.toInt ≤ 16 → lv_has ls 3 [(0, .int v0), (1, .int v1), (2, .int v2)] → W p l e (headSpec wsX12_ones ({ frames := 0, cells := 0, slots := 0, locals := 0 })).room s m ([.int p1] : List Value).toArray below meth c s.heap [] 0 0 (MQ below (vp_Si (fun r => True)) ([.int p1] : List Value).toArray s 0 0 (fun _ => False)) (F0 m 4 ls []) := by
    intro n4
    induction n4 with
    | zero =>
      intro ls v0 v1 v2 hn4 g_v2 hl
      exact absurd hn4 (by have := Int32.toInt_lt v2; have := Int32.le_toInt v2; omega)
    | succ n4 ih4 =>
      intro ls v0 v1 v2 hn4 g_v2 hl
      refine lv_iload_n hx hb dX12_ones_4 rfl (lv_at hl 2 rfl) ?_
      refine lv_bipush (v := 16) hx hb dX12_ones_5 (by decide) ?_
      refine lv_icmp_ge (tgt := 24) hx hb dX12_ones_7 (by decide) (fun c1 => ?_) (fun c1 => ?_)
      · refine lv_iload_n hx hb dX12_ones_24 rfl (lv_at hl 1 rfl) ?_
        exact W.iret (v := v1) hx hb hr (fun t ht hW => ⟨v1, rfl, trivial, ht⟩) (fun q h => by cases h) dX12_ones_25
      · refine lv_iload_n hx hb dX12_ones_10 rfl (lv_at hl 1 rfl) ?_
        refine lv_iload_n hx hb dX12_ones_11 rfl (lv_at hl 0 rfl) ?_
        refine lv_iload_n hx hb dX12_ones_12 rfl (lv_at hl 2 rfl) ?_
        refine lv_ishr hx hb dX12_ones_13 ?_
        refine lv_topi (fun x2 ex2 => ?_)
        refine lv_iconst (v := 1) hx hb dX12_ones_14 (by decide) ?_
        refine lv_iand hx hb dX12_ones_15 ?_
        refine lv_topi (fun x3 ex3 => ?_)
        have tx3 : 0 ≤ x3.toInt ∧ x3.toInt ≤ 1 := by rw [ex3]; exact i_and (m := 1) (b := 1) (by decide) (by decide)
        refine lv_iadd hx hb dX12_ones_16 ?_
        refine lv_topi (fun x4 ex4 => ?_)
        refine lv_istore_n (lv' := [(1, .int x4), (0, .int v0), (2, .int v2)]) hx hb dX12_ones_17 rfl hl (by decide) rfl (fun ls hl => ?_)
        obtain ⟨x5, ex5⟩ : ∃ y : Int32, y = v2 + 1 := ⟨_, rfl⟩
        have tx5 : x5.toInt = v2.toInt + 1 := by rw [ex5]; exact i_add (b := 1) (by (try simp only [i_lt, i_le, i_eq, Int32.toInt_toInt64, Int32.reduceToInt, Int64.reduceToInt, true_and, and_true, false_and, and_false, false_or, or_false, true_or, or_true, not_true_eq_false, not_false_eq_true, ne_eq, forall_const, true_implies, false_implies, implies_true] at g_v2 hn4 c1 tx3 ⊢) <;> omega) (by (try simp only [i_lt, i_le, i_eq, Int32.toInt_toInt64, Int32.reduceToInt, Int64.reduceToInt, true_and, and_true, false_and, and_false, false_or, or_false, true_or, or_true, not_true_eq_false, not_false_eq_true, ne_eq, forall_const, true_implies, false_implies, implies_true] at g_v2 hn4 c1 tx3 ⊢) <;> omega)
        refine lv_iinc (v := x5) (lv' := [(2, .int x5), (1, .int x4), (0, .int v0)]) hx hb dX12_ones_18 hl (k := 2) rfl (by rw [ex5]; rfl) (by decide) rfl (fun ls hl => ?_)
        refine lv_goto (tgt := 4) hx hb dX12_ones_21 (by decide) ?_
        exact ih4 ls v0 x4 x5 (by (try simp only [i_lt, i_le, i_eq, Int32.toInt_toInt64, Int32.reduceToInt, Int64.reduceToInt, true_and, and_true, false_and, and_false, false_or, or_false, true_or, or_true, not_true_eq_false, not_false_eq_true, ne_eq, forall_const, true_implies, false_implies, implies_true] at g_v2 hn4 c1 tx3 tx5 ⊢) <;> omega) (by (try simp only [i_lt, i_le, i_eq, Int32.toInt_toInt64, Int32.reduceToInt, Int64.reduceToInt, true_and, and_true, false_and, and_false, false_or, or_false, true_or, or_true, not_true_eq_false, not_false_eq_true, ne_eq, forall_const, true_implies, false_implies, implies_true] at g_v2 hn4 c1 tx3 tx5 ⊢) <;> omega) (lv_sub hl [2, 1, 0] rfl)
  have hl := lv_entry ([.int p1]) (n := 3) (Nat.le_of_ble_eq_true rfl)
  rw [lg_entry_eq]
  generalize (lg_sl ([.int p1]) ++ List.replicate (3 - (lg_sl ([.int p1])).length) Slot.unset).toArray = ls at hl ⊢
  have hl : lv_has ls 3 [(0, .int p1)] := hl
  refine lv_iconst (v := 0) hx hb dX12_ones_0 (by decide) ?_
  refine lv_istore_n (lv' := [(1, .int 0), (0, .int p1)]) hx hb dX12_ones_1 rfl hl (by decide) rfl (fun ls hl => ?_)
  refine lv_iconst (v := 0) hx hb dX12_ones_2 (by decide) ?_
  refine lv_istore_n (lv' := [(2, .int 0), (1, .int 0), (0, .int p1)]) hx hb dX12_ones_3 rfl hl (by decide) rfl (fun ls hl => ?_)
  exact B4 _ ls p1 0 0 (Nat.le_refl _) (by (try simp only [i_lt, i_le, i_eq, Int32.toInt_toInt64, Int32.reduceToInt, Int64.reduceToInt, true_and, and_true, false_and, and_false, false_or, or_false, true_or, or_true, not_true_eq_false, not_false_eq_true, ne_eq, forall_const, true_implies, false_implies, implies_true]) <;> omega) (lv_sub hl [2, 1, 0] rfl)
