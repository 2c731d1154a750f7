set_option maxHeartbeats 4000000 in
set_option maxRecDepth 100000 in
theorem t2_X12_back (l : Launch) (D : va_G) (k : Nat → ClassId) (u0 : PSt) (hu : WT u0) (h0 : Nat) (m_h0 : h0 ∈ u0.1) (k_h0 : u0.2.1 h0 = 12) (p1 : Int32) (sz : Nat) : Met l yX12_back wsX12_back ({ frames := 1, cells := 0, slots := 0, locals := 25 }) (PreM D k sz (PW k u0) [.ref h0, .int p1]) (va_Qi (fun r v => WT v ∧ PX u0 v ∧ (MBk u0 h0 p1 r.toInt)) (WB D (va_A (PW k u0) sz) (PW k)) (va_A (PW k u0) sz)) 0 0 (va_A (PW k u0) sz) := by
  refine Met.ofW (cc := cX12_back) (maxL := 3) (ret := (some .int)) (by decide) rfl ?_
  intro p e s m args below meth c s₁ B hml hv
  obtain ⟨rfl, hsz, hP, hK, hD0, hN⟩ := hv
  have hx := B.exec
  have hb := B.bytes
  have hr := B.returns
  have hts := atoms_spec (ws := wsX12_back) B.pre
  have hown : s.vm.findClass RX12 = some m.cls := findClass_of_methodNamed B.named
  have hlocks := B.notSynchronized
  have i_X12 : ∀ w ∈ wsX120, w ∈ wsX12_back := by decide +kernel
  obtain ⟨a1, q0_1, m0_a1, k0_a1⟩ := (hu h0 m_h0).1 1 50 (by rw [k_h0]; rfl)
  obtain ⟨a2, q0_2, m0_a2, k0_a2⟩ := (hu h0 m_h0).1 2 52 (by rw [k_h0]; rfl)
  obtain ⟨a3, q0_3, m0_a3, k0_a3⟩ := (hu h0 m_h0).1 3 53 (by rw [k_h0]; rfl)
  have m0_h0 := m_h0
  have k0_h0 := k_h0
  have m_a1 := m0_a1
  have m_a2 := m0_a2
  have m_a3 := m0_a3
  have k_a1 := k0_a1
  have k_a2 := k0_a2
  have k_a3 := k0_a3
  subst hsz
  have hD := hD0.self (sz := s.heap.size)
  generalize hAe : va_A (PW k u0) s.heap.size = A at hD ⊢
  have hA : ∀ q : Nat, s.heap.size ≤ q → A q := fun q h => by rw [← hAe]; exact Or.inr h
  have hS : va_S A s.heap s.heap [] := va_S.rf
  have hp : PX u0 u0 := PX.rf
  have B29 : (MBk u0 h0 p1 0) → ∀ (n29 : Nat) (u : PSt) (H : Heap) (locs : List Loc) (ls : Array Slot) (v1 : Int32) (v2 : Int32), WT u → PX u0 u → va_P D vwCl (PW k u) H → va_D A (PW k u) → va_S A s.heap H locs → (2147483648 - v2.toInt).toNat ≤ n29 → 0 ≤ v1.toInt ∧ v1.toInt ≤ 2 → 0 ≤ v2.toInt ∧ v2.toInt ≤ 2482 → lv_has ls 3 [(0, .ref h0), (1, .int v1), (2, .int v2)] → W p l e (headSpec wsX12_back ({ frames := 1, cells := 0, slots := 0, locals := 25 })).room s m ([.ref h0, .int p1] : List Value).toArray below meth c H locs 0 0 (MQ below (va_Qi (fun r v => WT v ∧ PX u0 v ∧ (MBk u0 h0 p1 r.toInt)) (WB D A (PW k)) A) ([.ref h0, .int p1] : List Value).toArray s 0 0 A) (F0 m 29 ls []) := by
    intro hpost n29
    induction n29 with
    | zero =>
      intro u H locs ls v1 v2 hu hp hP hD hS hn29 g_v1 g_v2 hl
      exact absurd hn29 (by have := Int32.toInt_lt v2; have := Int32.le_toInt v2; omega)
    | succ n29 ih29 =>
      intro u H locs ls v1 v2 hu hp hP hD hS hn29 g_v1 g_v2 hl
      refine lv_iload_n hx hb dX12_back_29 rfl (lv_at hl 2 rfl) ?_
      refine lv_sipush (v := 2482) hx hb dX12_back_30 (by decide) ?_
      refine lv_icmp_ge (tgt := 60) hx hb dX12_back_33 (by decide) (fun c1 => ?_) (fun c1 => ?_)
      · refine lv_iconst (v := 0) hx hb dX12_back_60 (by decide) ?_
        exact W.iret (v := 0) hx hb hr (fun t ht hW => ⟨⟨0, u, rfl, ⟨hu, hp, hpost⟩, by rw [ht]; exact hP, hD⟩, hS.F ht⟩) hS.2.2 dX12_back_61
      · refine lv_aload_n hx hb dX12_back_36 rfl (lv_at hl 0 rfl) ?_
        have k_h0 : u.2.1 h0 = 12 := (hp h0 m0_h0).2.1.trans k0_h0
        have m_h0 : h0 ∈ u.1 := (hp h0 m0_h0).1
        have k_a1 : u.2.1 a1 = 50 := (hp a1 m0_a1).2.1.trans k0_a1
        have m_a1 : a1 ∈ u.1 := (hp a1 m0_a1).1
        refine pget (ci := 12) (v := va_rf (u.2.2.2.2 h0 1)) (C := RX12) (T := TX12) (N := 34) hx hb hts i_X12 hown hK hP m_h0 (cF12 k_h0) rfl 1 (by decide) (hts (.fieldLink RX12 13 "BellowsRowModel" "world" "[I") (by decide +kernel)) (fun _ h9 => h9) rfl dX12_back_37 ?_
        refine W.eq (g2 := F0 m 40 ls [.ref a1]) (by rw [(((hp h0 m0_h0).2.2.2.2.2.1 k0_h0 1).trans q0_1)]; rfl) ?_
        refine lv_iload_n hx hb dX12_back_40 rfl (lv_at hl 2 rfl) ?_
        refine lv_aload_n hx hb dX12_back_41 rfl (lv_at hl 0 rfl) ?_
        have k_a2 : u.2.1 a2 = 52 := (hp a2 m0_a2).2.1.trans k0_a2
        have m_a2 : a2 ∈ u.1 := (hp a2 m0_a2).1
        refine pget (ci := 12) (v := va_rf (u.2.2.2.2 h0 2)) (C := RX12) (T := TX12) (N := 34) hx hb hts i_X12 hown hK hP m_h0 (cF12 k_h0) rfl 2 (by decide) (hts (.fieldLink RX12 17 "BellowsRowModel" "images" "[I") (by decide +kernel)) (fun _ h9 => h9) rfl dX12_back_42 ?_
        refine W.eq (g2 := F0 m 45 ls [.ref a2, .int v2, .ref a1]) (by rw [(((hp h0 m0_h0).2.2.2.2.2.1 k0_h0 2).trans q0_2)]; rfl) ?_
        refine lv_sipush (v := 2482) hx hb dX12_back_45 (by decide) ?_
        refine lv_iload_n hx hb dX12_back_48 rfl (lv_at hl 1 rfl) ?_
        refine lv_imul hx hb dX12_back_49 ?_
        refine lv_topi (fun x2 ex2 => ?_)
        have tx2 : x2.toInt = 2482 * v1.toInt := by rw [ex2]; exact i_mulc (c := 2482) (by decide) ((show 0 ≤ v1.toInt ∧ v1.toInt ≤ 2 from by (try simp only [i_lt, i_le, i_eq, Int32.toInt_toInt64, Int32.reduceToInt, Int64.reduceToInt, true_and, and_true, false_and, and_false, false_or, or_false, true_or, or_true, not_true_eq_false, not_false_eq_true, ne_eq, forall_const, true_implies, false_implies, implies_true] at g_v1 g_v2 hn29 c1 ⊢) <;> omega)) (by decide)
        refine lv_iload_n hx hb dX12_back_50 rfl (lv_at hl 2 rfl) ?_
        refine lv_iadd hx hb dX12_back_51 ?_
        refine lv_topi (fun x3 ex3 => ?_)
        have tx3 : x3.toInt = x2.toInt + v2.toInt := by rw [ex3]; exact i_add (by (try simp only [i_lt, i_le, i_eq, Int32.toInt_toInt64, Int32.reduceToInt, Int64.reduceToInt, true_and, and_true, false_and, and_false, false_or, or_false, true_or, or_true, not_true_eq_false, not_false_eq_true, ne_eq, forall_const, true_implies, false_implies, implies_true] at g_v1 g_v2 hn29 c1 tx2 ⊢) <;> omega) (by (try simp only [i_lt, i_le, i_eq, Int32.toInt_toInt64, Int32.reduceToInt, Int64.reduceToInt, true_and, and_true, false_and, and_false, false_or, or_false, true_or, or_true, not_true_eq_false, not_false_eq_true, ne_eq, forall_const, true_implies, false_implies, implies_true] at g_v1 g_v2 hn29 c1 tx2 ⊢) <;> omega)
        refine palI hx hb hK hP m_a2 (cF52 k_a2) 1 rfl (vp_in_iff.mpr (by (try simp only [i_lt, i_le, i_eq, Int32.toInt_toInt64, Int32.reduceToInt, Int64.reduceToInt, true_and, and_true, false_and, and_false, false_or, or_false, true_or, or_true, not_true_eq_false, not_false_eq_true, ne_eq, forall_const, true_implies, false_implies, implies_true] at g_v1 g_v2 hn29 c1 tx2 tx3 ⊢) <;> omega)) dX12_back_52 ?_
        refine lv_topi (fun x4 ex4 => ?_)
        have tx4 : x4.toInt = (u.2.2.1 a2 (x3.toNatClampNeg)).toInt := congrArg Int32.toInt ex4
        have g5 : okW ((x3.toNatClampNeg) % 2482) x4 := by have g := (hu a2 m_a2).2.2.2 (x3.toNatClampNeg); rw [k_a2] at g; rw [show x4 = _ from ex4]; exact g
        refine pasI (u' := pSI u a1 (v2.toNatClampNeg) x4) hx hb hK hP hD hS m_a1 (cF50 k_a1) 1 rfl (vp_in_iff.mpr (by (try simp only [i_lt, i_le, i_eq, Int32.toInt_toInt64, Int32.reduceToInt, Int64.reduceToInt, true_and, and_true, false_and, and_false, false_or, or_false, true_or, or_true, not_true_eq_false, not_false_eq_true, ne_eq, forall_const, true_implies, false_implies, implies_true] at g_v1 g_v2 hn29 c1 tx2 tx3 tx4 ⊢) <;> omega)) rfl (sF50 k_a1 _ _) dX12_back_53 (fun H locs hP hD hS => ?_)
        have hu := WT.setI (a := a1) (s := (v2.toNatClampNeg)) (v := x4) hu (by rw [k_a1]; exact (show okW ((v2.toNatClampNeg)) x4 from by have y : (v2.toNatClampNeg) = (x3.toNatClampNeg) % 2482 := (by have z1 := cl_int (x := v2) (by (try simp only [i_lt, i_le, i_eq, Int32.toInt_toInt64, Int32.reduceToInt, Int64.reduceToInt, true_and, and_true, false_and, and_false, false_or, or_false, true_or, or_true, not_true_eq_false, not_false_eq_true, ne_eq, forall_const, true_implies, false_implies, implies_true] at g_v1 g_v2 hn29 c1 tx2 tx3 tx4 ⊢) <;> omega); have z2 := cl_int (x := x3) (by (try simp only [i_lt, i_le, i_eq, Int32.toInt_toInt64, Int32.reduceToInt, Int64.reduceToInt, true_and, and_true, false_and, and_false, false_or, or_false, true_or, or_true, not_true_eq_false, not_false_eq_true, ne_eq, forall_const, true_implies, false_implies, implies_true] at g_v1 g_v2 hn29 c1 tx2 tx3 tx4 ⊢) <;> omega); (try simp only [i_lt, i_le, i_eq, Int32.toInt_toInt64, Int32.reduceToInt, Int64.reduceToInt, true_and, and_true, false_and, and_false, false_or, or_false, true_or, or_true, not_true_eq_false, not_false_eq_true, ne_eq, forall_const, true_implies, false_implies, implies_true] at g_v1 g_v2 hn29 c1 tx2 tx3 tx4 z1 z2 ⊢) <;> omega); rw [y]; exact g5))
        have hp := PX.setI (a := a1) (s := (v2.toNatClampNeg)) (v := x4) hp (by rw [k_a1]; decide)
        obtain ⟨u6, hu6⟩ : ∃ z, z = pSI u a1 (v2.toNatClampNeg) x4 := ⟨_, rfl⟩
        rw [← hu6] at hP hD hu hp
        obtain ⟨x7, ex7⟩ : ∃ y : Int32, y = v2 + 1 := ⟨_, rfl⟩
        have tx7 : x7.toInt = v2.toInt + 1 := by rw [ex7]; exact i_add (b := 1) (by (try simp only [i_lt, i_le, i_eq, Int32.toInt_toInt64, Int32.reduceToInt, Int64.reduceToInt, true_and, and_true, false_and, and_false, false_or, or_false, true_or, or_true, not_true_eq_false, not_false_eq_true, ne_eq, forall_const, true_implies, false_implies, implies_true] at g_v1 g_v2 hn29 c1 tx2 tx3 tx4 ⊢) <;> omega) (by (try simp only [i_lt, i_le, i_eq, Int32.toInt_toInt64, Int32.reduceToInt, Int64.reduceToInt, true_and, and_true, false_and, and_false, false_or, or_false, true_or, or_true, not_true_eq_false, not_false_eq_true, ne_eq, forall_const, true_implies, false_implies, implies_true] at g_v1 g_v2 hn29 c1 tx2 tx3 tx4 ⊢) <;> omega)
        refine lv_iinc (v := x7) (lv' := [(2, .int x7), (0, .ref h0), (1, .int v1)]) hx hb dX12_back_54 hl (k := 2) rfl (by rw [ex7]; rfl) (by decide) rfl (fun ls hl => ?_)
        refine lv_goto (tgt := 29) hx hb dX12_back_57 (by decide) ?_
        exact ih29 _ _ _ ls v1 x7 hu hp hP hD hS (by (try simp only [i_lt, i_le, i_eq, Int32.toInt_toInt64, Int32.reduceToInt, Int64.reduceToInt, true_and, and_true, false_and, and_false, false_or, or_false, true_or, or_true, not_true_eq_false, not_false_eq_true, ne_eq, forall_const, true_implies, false_implies, implies_true] at g_v1 g_v2 hn29 c1 tx2 tx3 tx4 tx7 ⊢) <;> omega) (by (try simp only [i_lt, i_le, i_eq, Int32.toInt_toInt64, Int32.reduceToInt, Int64.reduceToInt, true_and, and_true, false_and, and_false, false_or, or_false, true_or, or_true, not_true_eq_false, not_false_eq_true, ne_eq, forall_const, true_implies, false_implies, implies_true] at g_v1 g_v2 hn29 c1 tx2 tx3 tx4 tx7 ⊢) <;> omega) (by (try simp only [i_lt, i_le, i_eq, Int32.toInt_toInt64, Int32.reduceToInt, Int64.reduceToInt, true_and, and_true, false_and, and_false, false_or, or_false, true_or, or_true, not_true_eq_false, not_false_eq_true, ne_eq, forall_const, true_implies, false_implies, implies_true] at g_v1 g_v2 hn29 c1 tx2 tx3 tx4 tx7 ⊢) <;> omega) (lv_sub hl [1, 2, 0] rfl)
  have hl := lv_entry ([.ref h0, .int p1]) (n := 3) (Nat.le_of_ble_eq_true rfl)
  rw [lg_entry_eq]
  generalize (lg_sl ([.ref h0, .int p1]) ++ List.replicate (3 - (lg_sl ([.ref h0, .int p1])).length) Slot.unset).toArray = ls at hl ⊢
  have hl : lv_has ls 3 [(0, .ref h0), (1, .int p1)] := hl
  refine lv_iload_n hx hb dX12_back_0 rfl (lv_at hl 1 rfl) ?_
  refine lv_i2l hx hb dX12_back_1 rfl ?_
  have b8 := Int32.toInt_lt p1
  have ab8 := Int32.le_toInt p1
  refine lv_topl (fun x9 ex9 => ?_)
  have tx9 : x9.toInt = p1.toInt := by rw [ex9]; exact Int32.toInt_toInt64 _
  refine lv_lconst (v := 0) hx hb dX12_back_2 (by decide) ?_
  refine lv_ldc2 (own := RX12) (v := 2) hx hb hown (hts (.constantLong RX12 74 (2)) (by decide +kernel)) dX12_back_3 ?_
  refine psi (As := [.long x9, .long 0, .long 2]) (rest := []) ⟨hx, hb, hml, hown, hts⟩ (t_X12_in l D k x9 0 2) (va_cwS 3 hts gX12_back_X12_in rfl rfl rfl (by decide +kernel) ⟨Nat.le_of_ble_eq_true rfl, Nat.le_of_ble_eq_true rfl⟩) hK rfl hl.1 rfl (Nat.le_of_ble_eq_true rfl) dX12_back_6 ⟨Nat.le_of_ble_eq_true rfl, Nat.le_of_ble_eq_true rfl⟩ (fun r10 hr10 => ?_)
  refine lv_if_ne (tgt := 15) hx hb dX12_back_9 (by decide) (fun c11 => ?_) (fun c11 => ?_)
  · have eb12 : r10.toInt = 1 := by rcases hr10 with ⟨q, -⟩ | ⟨q, -⟩; exact absurd (i_eq.mpr q) c11; exact q
    have fb12 : (0 : Int64).toInt ≤ x9.toInt ∧ x9.toInt ≤ (2 : Int64).toInt := by rcases hr10 with ⟨q, r⟩ | ⟨q, r⟩; exact absurd q (by omega); exact r
    clear hr10
    refine lv_aload_n hx hb dX12_back_15 rfl (lv_at hl 0 rfl) ?_
    refine pget (ci := 12) (v := va_rf (u0.2.2.2.2 h0 3)) (C := RX12) (T := TX12) (N := 34) hx hb hts i_X12 hown hK hP m_h0 (cF12 k_h0) rfl 3 (by decide) (hts (.fieldLink RX12 20 "BellowsRowModel" "hasImage" "[Z") (by decide +kernel)) (fun _ h9 => h9) rfl dX12_back_16 ?_
    refine W.eq (g2 := F0 m 19 ls [.ref a3]) (by rw [(((hp h0 m0_h0).2.2.2.2.2.1 k0_h0 3).trans q0_3)]; rfl) ?_
    refine lv_iload_n hx hb dX12_back_19 rfl (lv_at hl 1 rfl) ?_
    refine palZ hx hb hK hP m_a3 (cF53 k_a3) 3 rfl (vp_in_iff.mpr (by (try simp only [i_lt, i_le, i_eq, Int32.toInt_toInt64, Int32.reduceToInt, Int64.reduceToInt, true_and, and_true, false_and, and_false, false_or, or_false, true_or, or_true, not_true_eq_false, not_false_eq_true, ne_eq, forall_const, true_implies, false_implies, implies_true] at b8 ab8 tx9 eb12 fb12 ⊢) <;> omega)) dX12_back_20 ?_
    refine lv_topi (fun x13 ex13 => ?_)
    have tx13 : x13.toInt = (u0.2.2.1 a3 (p1.toNatClampNeg)).toInt := congrArg Int32.toInt ex13
    have g14 : 0 ≤ x13.toInt ∧ x13.toInt ≤ 1 := by have g := (hu a3 m_a3).2.2.2 (p1.toNatClampNeg); rw [k_a3] at g; rw [show x13 = _ from ex13]; exact g
    refine lv_if_ne (tgt := 27) hx hb dX12_back_21 (by decide) (fun c15 => ?_) (fun c15 => ?_)
    · refine lv_iconst (v := 0) hx hb dX12_back_27 (by decide) ?_
      refine lv_istore_n (lv' := [(2, .int 0), (0, .ref h0), (1, .int p1)]) hx hb dX12_back_28 rfl hl (by decide) rfl (fun ls hl => ?_)
      exact B29 (Or.inr ⟨(by ((try simp only [i_lt, i_le, i_eq, Int32.toInt_toInt64, Int32.reduceToInt, Int64.reduceToInt, true_and, and_true, false_and, and_false, false_or, or_false, true_or, or_true, not_true_eq_false, not_false_eq_true, ne_eq, forall_const, true_implies, false_implies, implies_true] at b8 ab8 tx9 c11 eb12 fb12 tx13 g14 c15 ⊢) <;> omega)), (by ((try simp only [i_lt, i_le, i_eq, Int32.toInt_toInt64, Int32.reduceToInt, Int64.reduceToInt, true_and, and_true, false_and, and_false, false_or, or_false, true_or, or_true, not_true_eq_false, not_false_eq_true, ne_eq, forall_const, true_implies, false_implies, implies_true] at b8 ab8 tx9 c11 eb12 fb12 tx13 g14 c15 ⊢) <;> omega)), a3, q0_3, (by ((try simp only [i_lt, i_le, i_eq, Int32.toInt_toInt64, Int32.reduceToInt, Int64.reduceToInt, true_and, and_true, false_and, and_false, false_or, or_false, true_or, or_true, not_true_eq_false, not_false_eq_true, ne_eq, forall_const, true_implies, false_implies, implies_true] at b8 ab8 tx9 c11 eb12 fb12 tx13 g14 c15 ⊢) <;> omega))⟩) _ _ _ _ ls p1 0 hu hp hP hD hS (Nat.le_refl _) (by (try simp only [i_lt, i_le, i_eq, Int32.toInt_toInt64, Int32.reduceToInt, Int64.reduceToInt, true_and, and_true, false_and, and_false, false_or, or_false, true_or, or_true, not_true_eq_false, not_false_eq_true, ne_eq, forall_const, true_implies, false_implies, implies_true] at b8 ab8 tx9 eb12 fb12 tx13 g14 c15 ⊢) <;> omega) (by (try simp only [i_lt, i_le, i_eq, Int32.toInt_toInt64, Int32.reduceToInt, Int64.reduceToInt, true_and, and_true, false_and, and_false, false_or, or_false, true_or, or_true, not_true_eq_false, not_false_eq_true, ne_eq, forall_const, true_implies, false_implies, implies_true] at b8 ab8 tx9 eb12 fb12 tx13 g14 c15 ⊢) <;> omega) (lv_sub hl [1, 2, 0] rfl)
    · refine lv_bipush (v := (-6)) hx hb dX12_back_24 (by decide) ?_
      exact W.iret (v := (-6)) hx hb hr (fun t ht hW => ⟨⟨(-6), u0, rfl, ⟨hu, hp, Or.inr ⟨(by ((try simp only [i_lt, i_le, i_eq, Int32.toInt_toInt64, Int32.reduceToInt, Int64.reduceToInt, true_and, and_true, false_and, and_false, false_or, or_false, true_or, or_true, not_true_eq_false, not_false_eq_true, ne_eq, forall_const, true_implies, false_implies, implies_true] at b8 ab8 tx9 c11 eb12 fb12 tx13 g14 c15 ⊢) <;> omega)), (by ((try simp only [i_lt, i_le, i_eq, Int32.toInt_toInt64, Int32.reduceToInt, Int64.reduceToInt, true_and, and_true, false_and, and_false, false_or, or_false, true_or, or_true, not_true_eq_false, not_false_eq_true, ne_eq, forall_const, true_implies, false_implies, implies_true] at b8 ab8 tx9 c11 eb12 fb12 tx13 g14 c15 ⊢) <;> omega)), a3, q0_3, (by ((try simp only [i_lt, i_le, i_eq, Int32.toInt_toInt64, Int32.reduceToInt, Int64.reduceToInt, true_and, and_true, false_and, and_false, false_or, or_false, true_or, or_true, not_true_eq_false, not_false_eq_true, ne_eq, forall_const, true_implies, false_implies, implies_true] at b8 ab8 tx9 c11 eb12 fb12 tx13 g14 c15 ⊢) <;> omega))⟩⟩, by rw [ht]; exact hP, hD⟩, hS.F ht⟩) hS.2.2 dX12_back_26
  · have eb16 : r10.toInt = 0 := by rcases hr10 with ⟨q, -⟩ | ⟨q, -⟩; exact q; (exact absurd (c11) (fun w => by rw [w] at q; exact absurd q (by decide)))
    have fb16 : (x9.toInt < (0 : Int64).toInt ∨ (2 : Int64).toInt < x9.toInt) := by rcases hr10 with ⟨q, r⟩ | ⟨q, r⟩; exact r; exact absurd q (by omega)
    clear hr10
    refine lv_bipush (v := (-2)) hx hb dX12_back_12 (by decide) ?_
    exact W.iret (v := (-2)) hx hb hr (fun t ht hW => ⟨⟨(-2), u0, rfl, ⟨hu, hp, Or.inl ⟨(by ((try simp only [i_lt, i_le, i_eq, Int32.toInt_toInt64, Int32.reduceToInt, Int64.reduceToInt, true_and, and_true, false_and, and_false, false_or, or_false, true_or, or_true, not_true_eq_false, not_false_eq_true, ne_eq, forall_const, true_implies, false_implies, implies_true] at b8 ab8 tx9 c11 eb16 fb16 ⊢) <;> omega)), by decide⟩⟩, by rw [ht]; exact hP, hD⟩, hS.F ht⟩) hS.2.2 dX12_back_14
set_option maxHeartbeats 4000000 in
set_option maxRecDepth 100000 in
theorem t2_X12_write (l : Launch) (D : va_G) (k : Nat → ClassId) (u0 : PSt) (hu : WT u0) (h0 : Nat) (m_h0 : h0 ∈ u0.1) (k_h0 : u0.2.1 h0 = 12) (p1 : Int32) (p2 : Int32) (p3 : Int64) (sz : Nat) : Met l yX12_write wsX12_write ({ frames := 2, cells := 0, slots := 0, locals := 45 }) (PreM D k sz (PW k u0) [.ref h0, .int p1, .int p2, .long p3]) (va_Qi (fun r v => WT v ∧ PX u0 v ∧ (MWr u0 h0 p1 p2 r.toInt)) (WB D (va_A (PW k u0) sz) (PW k)) (va_A (PW k u0) sz)) 0 0 (va_A (PW k u0) sz) := by
  refine Met.ofW (cc := cX12_write) (maxL := 5) (ret := (some .int)) (by decide) rfl ?_
  intro p e s m args below meth c s₁ B hml hv
  obtain ⟨rfl, hsz, hP, hK, hD0, hN⟩ := hv
  have hx := B.exec
  have hb := B.bytes
  have hr := B.returns
  have hts := atoms_spec (ws := wsX12_write) B.pre
  have hown : s.vm.findClass RX12 = some m.cls := findClass_of_methodNamed B.named
  have hlocks := B.notSynchronized
  have i_X12 : ∀ w ∈ wsX120, w ∈ wsX12_write := by decide +kernel
  obtain ⟨a30, q0_30, m0_a30, k0_a30⟩ := (hu h0 m_h0).1 30 60 (by rw [k_h0]; rfl)
  obtain ⟨a31, q0_31, m0_a31, k0_a31⟩ := (hu h0 m_h0).1 31 61 (by rw [k_h0]; rfl)
  obtain ⟨a32, q0_32, m0_a32, k0_a32⟩ := (hu h0 m_h0).1 32 62 (by rw [k_h0]; rfl)
  have m0_h0 := m_h0
  have k0_h0 := k_h0
  have m_a30 := m0_a30
  have m_a31 := m0_a31
  have m_a32 := m0_a32
  have k_a30 := k0_a30
  have k_a31 := k0_a31
  have k_a32 := k0_a32
  subst hsz
  have hD := hD0.self (sz := s.heap.size)
  generalize hAe : va_A (PW k u0) s.heap.size = A at hD ⊢
  have hA : ∀ q : Nat, s.heap.size ≤ q → A q := fun q h => by rw [← hAe]; exact Or.inr h
  have hS : va_S A s.heap s.heap [] := va_S.rf
  have hp : PX u0 u0 := PX.rf
  have hl := lv_entry ([.ref h0, .int p1, .int p2, .long p3]) (n := 5) (Nat.le_of_ble_eq_true rfl)
  rw [lg_entry_eq]
  generalize (lg_sl ([.ref h0, .int p1, .int p2, .long p3]) ++ List.replicate (5 - (lg_sl ([.ref h0, .int p1, .int p2, .long p3])).length) Slot.unset).toArray = ls at hl ⊢
  have hl : lv_has ls 5 [(0, .ref h0), (1, .int p1), (2, .int p2), (3, .long p3)] := hl
  refine lv_iload_n hx hb dX12_write_0 rfl (lv_at hl 1 rfl) ?_
  refine psi (As := [.int p1]) (rest := []) ⟨hx, hb, hml, hown, hts⟩ (t_X12_isSlot l D k p1) (va_cwS 1 hts gX12_write_X12_isSlot rfl rfl rfl (by decide +kernel) ⟨Nat.le_of_ble_eq_true rfl, Nat.le_of_ble_eq_true rfl⟩) hK rfl hl.1 rfl (Nat.le_of_ble_eq_true rfl) dX12_write_1 ⟨Nat.le_of_ble_eq_true rfl, Nat.le_of_ble_eq_true rfl⟩ (fun r1 hr1 => ?_)
  refine lv_if_ne (tgt := 10) hx hb dX12_write_4 (by decide) (fun c2 => ?_) (fun c2 => ?_)
  · have eb3 : r1.toInt = 1 := by rcases hr1 with ⟨q, -⟩ | ⟨q, -⟩; exact absurd (i_eq.mpr q) c2; exact q
    have fb3 : 0 ≤ p1.toInt ∧ p1.toInt ≤ 3 := by rcases hr1 with ⟨q, r⟩ | ⟨q, r⟩; exact absurd q (by omega); exact r
    clear hr1
    refine lv_aload_n hx hb dX12_write_10 rfl (lv_at hl 0 rfl) ?_
    refine pget (ci := 12) (v := va_rf (u0.2.2.2.2 h0 30)) (C := RX12) (T := TX12) (N := 34) hx hb hts i_X12 hown hK hP m_h0 (cF12 k_h0) rfl 30 (by decide) (hts (.fieldLink RX12 61 "BellowsRowModel" "slotMany" "[I") (by decide +kernel)) (fun _ h9 => h9) rfl dX12_write_11 ?_
    refine W.eq (g2 := F0 m 14 ls [.ref a30]) (by rw [(((hp h0 m0_h0).2.2.2.2.2.1 k0_h0 30).trans q0_30)]; rfl) ?_
    refine lv_iload_n hx hb dX12_write_14 rfl (lv_at hl 1 rfl) ?_
    refine palI hx hb hK hP m_a30 (cF60 k_a30) 1 rfl (vp_in_iff.mpr (by (try simp only [i_lt, i_le, i_eq, Int32.toInt_toInt64, Int32.reduceToInt, Int64.reduceToInt, true_and, and_true, false_and, and_false, false_or, or_false, true_or, or_true, not_true_eq_false, not_false_eq_true, ne_eq, forall_const, true_implies, false_implies, implies_true] at eb3 fb3 ⊢) <;> omega)) dX12_write_15 ?_
    refine lv_topi (fun x4 ex4 => ?_)
    have tx4 : x4.toInt = (u0.2.2.1 a30 (p1.toNatClampNeg)).toInt := congrArg Int32.toInt ex4
    have g5 : -1 ≤ x4.toInt ∧ x4.toInt ≤ 60 := by have g := (hu a30 m_a30).2.2.2 (p1.toNatClampNeg); rw [k_a30] at g; rw [show x4 = _ from ex4]; exact g
    refine lv_iconst (v := (-1)) hx hb dX12_write_16 (by decide) ?_
    refine lv_icmp_ne (tgt := 23) hx hb dX12_write_17 (by decide) (fun c6 => ?_) (fun c6 => ?_)
    · refine lv_iload_n hx hb dX12_write_23 rfl (lv_at hl 2 rfl) ?_
      refine lv_i2l hx hb dX12_write_24 rfl ?_
      have b7 := Int32.toInt_lt p2
      have ab7 := Int32.le_toInt p2
      refine lv_topl (fun x8 ex8 => ?_)
      have tx8 : x8.toInt = p2.toInt := by rw [ex8]; exact Int32.toInt_toInt64 _
      refine lv_lconst (v := 0) hx hb dX12_write_25 (by decide) ?_
      refine lv_aload_n hx hb dX12_write_26 rfl (lv_at hl 0 rfl) ?_
      refine pget (ci := 12) (v := va_rf (u0.2.2.2.2 h0 30)) (C := RX12) (T := TX12) (N := 34) hx hb hts i_X12 hown hK hP m_h0 (cF12 k_h0) rfl 30 (by decide) (hts (.fieldLink RX12 61 "BellowsRowModel" "slotMany" "[I") (by decide +kernel)) (fun _ h9 => h9) rfl dX12_write_27 ?_
      refine W.eq (g2 := F0 m 30 ls [.ref a30, .long 0, .long x8]) (by rw [(((hp h0 m0_h0).2.2.2.2.2.1 k0_h0 30).trans q0_30)]; rfl) ?_
      refine lv_iload_n hx hb dX12_write_30 rfl (lv_at hl 1 rfl) ?_
      refine palI hx hb hK hP m_a30 (cF60 k_a30) 1 rfl (vp_in_iff.mpr (by (try simp only [i_lt, i_le, i_eq, Int32.toInt_toInt64, Int32.reduceToInt, Int64.reduceToInt, true_and, and_true, false_and, and_false, false_or, or_false, true_or, or_true, not_true_eq_false, not_false_eq_true, ne_eq, forall_const, true_implies, false_implies, implies_true] at eb3 fb3 tx4 g5 c6 b7 ab7 tx8 ⊢) <;> omega)) dX12_write_31 ?_
      refine lv_topi (fun x9 ex9 => ?_)
      have tx9 : x9.toInt = (u0.2.2.1 a30 (p1.toNatClampNeg)).toInt := congrArg Int32.toInt ex9
      have g10 : -1 ≤ x9.toInt ∧ x9.toInt ≤ 60 := by have g := (hu a30 m_a30).2.2.2 (p1.toNatClampNeg); rw [k_a30] at g; rw [show x9 = _ from ex9]; exact g
      refine lv_iconst (v := 1) hx hb dX12_write_32 (by decide) ?_
      refine lv_isub hx hb dX12_write_33 ?_
      refine lv_topi (fun x11 ex11 => ?_)
      have tx11 : x11.toInt = x9.toInt - (1 : Int32).toInt := by rw [ex11]; exact i_sub (by (try simp only [i_lt, i_le, i_eq, Int32.toInt_toInt64, Int32.reduceToInt, Int64.reduceToInt, true_and, and_true, false_and, and_false, false_or, or_false, true_or, or_true, not_true_eq_false, not_false_eq_true, ne_eq, forall_const, true_implies, false_implies, implies_true] at eb3 fb3 tx4 g5 c6 b7 ab7 tx8 tx9 g10 ⊢) <;> omega) (by (try simp only [i_lt, i_le, i_eq, Int32.toInt_toInt64, Int32.reduceToInt, Int64.reduceToInt, true_and, and_true, false_and, and_false, false_or, or_false, true_or, or_true, not_true_eq_false, not_false_eq_true, ne_eq, forall_const, true_implies, false_implies, implies_true] at eb3 fb3 tx4 g5 c6 b7 ab7 tx8 tx9 g10 ⊢) <;> omega)
      refine lv_i2l hx hb dX12_write_34 rfl ?_
      refine lv_topl (fun x12 ex12 => ?_)
      have tx12 : x12.toInt = x11.toInt := by rw [ex12]; exact Int32.toInt_toInt64 _
      refine psi (As := [.long x8, .long 0, .long x12]) (rest := []) ⟨hx, hb, hml, hown, hts⟩ (t_X12_in l D k x8 0 x12) (va_cwS 3 hts gX12_write_X12_in rfl rfl rfl (by decide +kernel) ⟨Nat.le_of_ble_eq_true rfl, Nat.le_of_ble_eq_true rfl⟩) hK rfl hl.1 rfl (Nat.le_of_ble_eq_true rfl) dX12_write_35 ⟨Nat.le_of_ble_eq_true rfl, Nat.le_of_ble_eq_true rfl⟩ (fun r13 hr13 => ?_)
      refine lv_if_ne (tgt := 44) hx hb dX12_write_38 (by decide) (fun c14 => ?_) (fun c14 => ?_)
      · have eb15 : r13.toInt = 1 := by rcases hr13 with ⟨q, -⟩ | ⟨q, -⟩; exact absurd (i_eq.mpr q) c14; exact q
        have fb15 : (0 : Int64).toInt ≤ x8.toInt ∧ x8.toInt ≤ x12.toInt := by rcases hr13 with ⟨q, r⟩ | ⟨q, r⟩; exact absurd q (by omega); exact r
        clear hr13
        refine lv_aload_n hx hb dX12_write_44 rfl (lv_at hl 0 rfl) ?_
        refine pget (ci := 12) (v := va_rf (u0.2.2.2.2 h0 32)) (C := RX12) (T := TX12) (N := 34) hx hb hts i_X12 hown hK hP m_h0 (cF12 k_h0) rfl 32 (by decide) (hts (.fieldLink RX12 67 "BellowsRowModel" "numbers" "[J") (by decide +kernel)) (fun _ h9 => h9) rfl dX12_write_45 ?_
        refine W.eq (g2 := F0 m 48 ls [.ref a32]) (by rw [(((hp h0 m0_h0).2.2.2.2.2.1 k0_h0 32).trans q0_32)]; rfl) ?_
        refine lv_bipush (v := 60) hx hb dX12_write_48 (by decide) ?_
        refine lv_iload_n hx hb dX12_write_50 rfl (lv_at hl 1 rfl) ?_
        refine lv_imul hx hb dX12_write_51 ?_
        refine lv_topi (fun x16 ex16 => ?_)
        have tx16 : x16.toInt = 60 * p1.toInt := by rw [ex16]; exact i_mulc (c := 60) (by decide) ((show 0 ≤ p1.toInt ∧ p1.toInt ≤ 3 from by (try simp only [i_lt, i_le, i_eq, Int32.toInt_toInt64, Int32.reduceToInt, Int64.reduceToInt, true_and, and_true, false_and, and_false, false_or, or_false, true_or, or_true, not_true_eq_false, not_false_eq_true, ne_eq, forall_const, true_implies, false_implies, implies_true] at eb3 fb3 tx4 g5 c6 b7 ab7 tx8 tx9 g10 tx11 tx12 eb15 fb15 ⊢) <;> omega)) (by decide)
        refine lv_iload_n hx hb dX12_write_52 rfl (lv_at hl 2 rfl) ?_
        refine lv_iadd hx hb dX12_write_53 ?_
        refine lv_topi (fun x17 ex17 => ?_)
        have tx17 : x17.toInt = x16.toInt + p2.toInt := by rw [ex17]; exact i_add (by (try simp only [i_lt, i_le, i_eq, Int32.toInt_toInt64, Int32.reduceToInt, Int64.reduceToInt, true_and, and_true, false_and, and_false, false_or, or_false, true_or, or_true, not_true_eq_false, not_false_eq_true, ne_eq, forall_const, true_implies, false_implies, implies_true] at eb3 fb3 tx4 g5 c6 b7 ab7 tx8 tx9 g10 tx11 tx12 eb15 fb15 tx16 ⊢) <;> omega) (by (try simp only [i_lt, i_le, i_eq, Int32.toInt_toInt64, Int32.reduceToInt, Int64.reduceToInt, true_and, and_true, false_and, and_false, false_or, or_false, true_or, or_true, not_true_eq_false, not_false_eq_true, ne_eq, forall_const, true_implies, false_implies, implies_true] at eb3 fb3 tx4 g5 c6 b7 ab7 tx8 tx9 g10 tx11 tx12 eb15 fb15 tx16 ⊢) <;> omega)
        refine lv_lload_n hx hb dX12_write_54 rfl (lv_at hl 3 rfl) ?_
        refine lv_aload_n hx hb dX12_write_55 rfl (lv_at hl 0 rfl) ?_
        refine pget (ci := 12) (v := va_rf (u0.2.2.2.2 h0 31)) (C := RX12) (T := TX12) (N := 34) hx hb hts i_X12 hown hK hP m_h0 (cF12 k_h0) rfl 31 (by decide) (hts (.fieldLink RX12 64 "BellowsRowModel" "width" "[I") (by decide +kernel)) (fun _ h9 => h9) rfl dX12_write_56 ?_
        refine W.eq (g2 := F0 m 59 ls [.ref a31, .long p3, .int x17, .ref a32]) (by rw [(((hp h0 m0_h0).2.2.2.2.2.1 k0_h0 31).trans q0_31)]; rfl) ?_
        refine lv_iload_n hx hb dX12_write_59 rfl (lv_at hl 1 rfl) ?_
        refine palI hx hb hK hP m_a31 (cF61 k_a31) 1 rfl (vp_in_iff.mpr (by (try simp only [i_lt, i_le, i_eq, Int32.toInt_toInt64, Int32.reduceToInt, Int64.reduceToInt, true_and, and_true, false_and, and_false, false_or, or_false, true_or, or_true, not_true_eq_false, not_false_eq_true, ne_eq, forall_const, true_implies, false_implies, implies_true] at eb3 fb3 tx4 g5 c6 b7 ab7 tx8 tx9 g10 tx11 tx12 eb15 fb15 tx16 tx17 ⊢) <;> omega)) dX12_write_60 ?_
        refine lv_topi (fun x18 ex18 => ?_)
        have tx18 : x18.toInt = (u0.2.2.1 a31 (p1.toNatClampNeg)).toInt := congrArg Int32.toInt ex18
        have g19 : 0 ≤ x18.toInt ∧ x18.toInt ≤ 3 := by have g := (hu a31 m_a31).2.2.2 (p1.toNatClampNeg); rw [k_a31] at g; rw [show x18 = _ from ex18]; exact g
        refine psl (As := [.long p3, .int x18]) (rest := [.int x17, .ref a32]) ⟨hx, hb, hml, hown, hts⟩ (t_X12_cut l D k p3 x18) (va_cwS 2 hts gX12_write_X12_cut rfl rfl rfl (by decide +kernel) ⟨Nat.le_of_ble_eq_true rfl, Nat.le_of_ble_eq_true rfl⟩) hK rfl hl.1 rfl (Nat.le_of_ble_eq_true rfl) dX12_write_61 ⟨Nat.le_of_ble_eq_true rfl, Nat.le_of_ble_eq_true rfl⟩ (fun r20 hr20 => ?_)
        refine pasJ (u' := pSJ u0 a32 (x17.toNatClampNeg) r20) hx hb hK hP hD hS m_a32 (cF62 k_a32) 2 rfl (vp_in_iff.mpr (by (try simp only [i_lt, i_le, i_eq, Int32.toInt_toInt64, Int32.reduceToInt, Int64.reduceToInt, true_and, and_true, false_and, and_false, false_or, or_false, true_or, or_true, not_true_eq_false, not_false_eq_true, ne_eq, forall_const, true_implies, false_implies, implies_true] at eb3 fb3 tx4 g5 c6 b7 ab7 tx8 tx9 g10 tx11 tx12 eb15 fb15 tx16 tx17 tx18 g19 ⊢) <;> omega)) rfl (sF62 k_a32 _ _) dX12_write_64 (fun H locs hP hD hS => ?_)
        have hu := WT.setJ (a := a32) (s := (x17.toNatClampNeg)) (v := r20) hu
        have hp := PX.setJ (a := a32) (s := (x17.toNatClampNeg)) (v := r20) hp
        obtain ⟨u21, hu21⟩ : ∃ z, z = pSJ u0 a32 (x17.toNatClampNeg) r20 := ⟨_, rfl⟩
        rw [← hu21] at hP hD hu hp
        refine lv_iconst (v := 0) hx hb dX12_write_65 (by decide) ?_
        exact W.iret (v := 0) hx hb hr (fun t ht hW => ⟨⟨0, u21, rfl, ⟨hu, hp, Or.inr ⟨(by ((try simp only [i_lt, i_le, i_eq, Int32.toInt_toInt64, Int32.reduceToInt, Int64.reduceToInt, true_and, and_true, false_and, and_false, false_or, or_false, true_or, or_true, not_true_eq_false, not_false_eq_true, ne_eq, forall_const, true_implies, false_implies, implies_true] at c2 eb3 fb3 tx4 g5 c6 b7 ab7 tx8 tx9 g10 tx11 tx12 c14 eb15 fb15 tx16 tx17 tx18 g19 ⊢) <;> omega)), (by ((try simp only [i_lt, i_le, i_eq, Int32.toInt_toInt64, Int32.reduceToInt, Int64.reduceToInt, true_and, and_true, false_and, and_false, false_or, or_false, true_or, or_true, not_true_eq_false, not_false_eq_true, ne_eq, forall_const, true_implies, false_implies, implies_true] at c2 eb3 fb3 tx4 g5 c6 b7 ab7 tx8 tx9 g10 tx11 tx12 c14 eb15 fb15 tx16 tx17 tx18 g19 ⊢) <;> omega)), a30, q0_30, (by unfold BWr; ((try simp only [i_lt, i_le, i_eq, Int32.toInt_toInt64, Int32.reduceToInt, Int64.reduceToInt, true_and, and_true, false_and, and_false, false_or, or_false, true_or, or_true, not_true_eq_false, not_false_eq_true, ne_eq, forall_const, true_implies, false_implies, implies_true] at c2 eb3 fb3 tx4 g5 c6 b7 ab7 tx8 tx9 g10 tx11 tx12 c14 eb15 fb15 tx16 tx17 tx18 g19 ⊢) <;> omega))⟩⟩, by rw [ht]; exact hP, hD⟩, hS.F ht⟩) hS.2.2 dX12_write_66
      · have eb22 : r13.toInt = 0 := by rcases hr13 with ⟨q, -⟩ | ⟨q, -⟩; exact q; (exact absurd (c14) (fun w => by rw [w] at q; exact absurd q (by decide)))
        have fb22 : (x8.toInt < (0 : Int64).toInt ∨ x12.toInt < x8.toInt) := by rcases hr13 with ⟨q, r⟩ | ⟨q, r⟩; exact r; exact absurd q (by omega)
        clear hr13
        refine lv_bipush (v := (-7)) hx hb dX12_write_41 (by decide) ?_
        exact W.iret (v := (-7)) hx hb hr (fun t ht hW => ⟨⟨(-7), u0, rfl, ⟨hu, hp, Or.inr ⟨(by ((try simp only [i_lt, i_le, i_eq, Int32.toInt_toInt64, Int32.reduceToInt, Int64.reduceToInt, true_and, and_true, false_and, and_false, false_or, or_false, true_or, or_true, not_true_eq_false, not_false_eq_true, ne_eq, forall_const, true_implies, false_implies, implies_true] at c2 eb3 fb3 tx4 g5 c6 b7 ab7 tx8 tx9 g10 tx11 tx12 c14 eb22 fb22 ⊢) <;> omega)), (by ((try simp only [i_lt, i_le, i_eq, Int32.toInt_toInt64, Int32.reduceToInt, Int64.reduceToInt, true_and, and_true, false_and, and_false, false_or, or_false, true_or, or_true, not_true_eq_false, not_false_eq_true, ne_eq, forall_const, true_implies, false_implies, implies_true] at c2 eb3 fb3 tx4 g5 c6 b7 ab7 tx8 tx9 g10 tx11 tx12 c14 eb22 fb22 ⊢) <;> omega)), a30, q0_30, (by unfold BWr; ((try simp only [i_lt, i_le, i_eq, Int32.toInt_toInt64, Int32.reduceToInt, Int64.reduceToInt, true_and, and_true, false_and, and_false, false_or, or_false, true_or, or_true, not_true_eq_false, not_false_eq_true, ne_eq, forall_const, true_implies, false_implies, implies_true] at c2 eb3 fb3 tx4 g5 c6 b7 ab7 tx8 tx9 g10 tx11 tx12 c14 eb22 fb22 ⊢) <;> omega))⟩⟩, by rw [ht]; exact hP, hD⟩, hS.F ht⟩) hS.2.2 dX12_write_43
    · refine lv_bipush (v := (-6)) hx hb dX12_write_20 (by decide) ?_
      exact W.iret (v := (-6)) hx hb hr (fun t ht hW => ⟨⟨(-6), u0, rfl, ⟨hu, hp, Or.inr ⟨(by ((try simp only [i_lt, i_le, i_eq, Int32.toInt_toInt64, Int32.reduceToInt, Int64.reduceToInt, true_and, and_true, false_and, and_false, false_or, or_false, true_or, or_true, not_true_eq_false, not_false_eq_true, ne_eq, forall_const, true_implies, false_implies, implies_true] at c2 eb3 fb3 tx4 g5 c6 ⊢) <;> omega)), (by ((try simp only [i_lt, i_le, i_eq, Int32.toInt_toInt64, Int32.reduceToInt, Int64.reduceToInt, true_and, and_true, false_and, and_false, false_or, or_false, true_or, or_true, not_true_eq_false, not_false_eq_true, ne_eq, forall_const, true_implies, false_implies, implies_true] at c2 eb3 fb3 tx4 g5 c6 ⊢) <;> omega)), a30, q0_30, (by unfold BWr; ((try simp only [i_lt, i_le, i_eq, Int32.toInt_toInt64, Int32.reduceToInt, Int64.reduceToInt, true_and, and_true, false_and, and_false, false_or, or_false, true_or, or_true, not_true_eq_false, not_false_eq_true, ne_eq, forall_const, true_implies, false_implies, implies_true] at c2 eb3 fb3 tx4 g5 c6 ⊢) <;> omega))⟩⟩, by rw [ht]; exact hP, hD⟩, hS.F ht⟩) hS.2.2 dX12_write_22
  · have eb23 : r1.toInt = 0 := by rcases hr1 with ⟨q, -⟩ | ⟨q, -⟩; exact q; (exact absurd (c2) (fun w => by rw [w] at q; exact absurd q (by decide)))
    have fb23 : (p1.toInt < 0 ∨ 3 < p1.toInt) := by rcases hr1 with ⟨q, r⟩ | ⟨q, r⟩; exact r; exact absurd q (by omega)
    clear hr1
    refine lv_bipush (v := (-2)) hx hb dX12_write_7 (by decide) ?_
    exact W.iret (v := (-2)) hx hb hr (fun t ht hW => ⟨⟨(-2), u0, rfl, ⟨hu, hp, Or.inl ⟨(by ((try simp only [i_lt, i_le, i_eq, Int32.toInt_toInt64, Int32.reduceToInt, Int64.reduceToInt, true_and, and_true, false_and, and_false, false_or, or_false, true_or, or_true, not_true_eq_false, not_false_eq_true, ne_eq, forall_const, true_implies, false_implies, implies_true] at c2 eb23 fb23 ⊢) <;> omega)), by decide⟩⟩, by rw [ht]; exact hP, hD⟩, hS.F ht⟩) hS.2.2 dX12_write_9
set_option maxHeartbeats 4000000 in
set_option maxRecDepth 100000 in
theorem t2_X12_paste (l : Launch) (D : va_G) (k : Nat → ClassId) (u0 : PSt) (hu : WT u0) (h0 : Nat) (m_h0 : h0 ∈ u0.1) (k_h0 : u0.2.1 h0 = 12) (p1 : Int32) (p2 : Int32) (p3 : Int32) (p4 : Int32) (p5 : Int32) (sz : Nat) : Met l yX12_paste wsX12_paste ({ frames := 2, cells := 0, slots := 0, locals := 45 }) (PreM D k sz (PW k u0) [.ref h0, .int p1, .int p2, .int p3, .int p4, .int p5]) (va_Qi (fun r v => WT v ∧ PX u0 v ∧ (MPa u0 h0 p1 p2 p3 p4 p5 r.toInt)) (WB D (va_A (PW k u0) sz) (PW k)) (va_A (PW k u0) sz)) 0 0 (va_A (PW k u0) sz) := by
  refine Met.ofW (cc := cX12_paste) (maxL := 7) (ret := (some .int)) (by decide) rfl ?_
  intro p e s m args below meth c s₁ B hml hv
  obtain ⟨rfl, hsz, hP, hK, hD0, hN⟩ := hv
  have hx := B.exec
  have hb := B.bytes
  have hr := B.returns
  have hts := atoms_spec (ws := wsX12_paste) B.pre
  have hown : s.vm.findClass RX12 = some m.cls := findClass_of_methodNamed B.named
  have hlocks := B.notSynchronized
  have i_X12 : ∀ w ∈ wsX120, w ∈ wsX12_paste := by decide +kernel
  obtain ⟨a30, q0_30, m0_a30, k0_a30⟩ := (hu h0 m_h0).1 30 60 (by rw [k_h0]; rfl)
  obtain ⟨a31, q0_31, m0_a31, k0_a31⟩ := (hu h0 m_h0).1 31 61 (by rw [k_h0]; rfl)
  obtain ⟨a32, q0_32, m0_a32, k0_a32⟩ := (hu h0 m_h0).1 32 62 (by rw [k_h0]; rfl)
  obtain ⟨a33, q0_33, m0_a33, k0_a33⟩ := (hu h0 m_h0).1 33 63 (by rw [k_h0]; rfl)
  have m0_h0 := m_h0
  have k0_h0 := k_h0
  have m_a30 := m0_a30
  have m_a31 := m0_a31
  have m_a32 := m0_a32
  have m_a33 := m0_a33
  have k_a30 := k0_a30
  have k_a31 := k0_a31
  have k_a32 := k0_a32
  have k_a33 := k0_a33
  subst hsz
  have hD := hD0.self (sz := s.heap.size)
  generalize hAe : va_A (PW k u0) s.heap.size = A at hD ⊢
  have hA : ∀ q : Nat, s.heap.size ≤ q → A q := fun q h => by rw [← hAe]; exact Or.inr h
  have hS : va_S A s.heap s.heap [] := va_S.rf
  have hp : PX u0 u0 := PX.rf
  have B150 : (MPa u0 h0 p1 p2 p3 p4 p5 0) → ∀ (n150 : Nat) (u : PSt) (H : Heap) (locs : List Loc) (ls : Array Slot) (v3 : Int32) (v4 : Int32) (v5 : Int32) (v6 : Int32), WT u → PX u0 u → va_P D vwCl (PW k u) H → va_D A (PW k u) → va_S A s.heap H locs → (2147483648 - v6.toInt).toNat ≤ n150 → 0 ≤ v3.toInt ∧ v3.toInt ≤ 3 → 0 ≤ v4.toInt ∧ v4.toInt ≤ 60 → 0 ≤ v5.toInt ∧ v5.toInt ≤ 60 → 0 ≤ v6.toInt ∧ v6.toInt ≤ 60 → (v4.toInt + v5.toInt ≤ 60) → lv_has ls 7 [(0, .ref h0), (3, .int v3), (4, .int v4), (5, .int v5), (6, .int v6)] → W p l e (headSpec wsX12_paste ({ frames := 2, cells := 0, slots := 0, locals := 45 })).room s m ([.ref h0, .int p1, .int p2, .int p3, .int p4, .int p5] : List Value).toArray below meth c H locs 0 0 (MQ below (va_Qi (fun r v => WT v ∧ PX u0 v ∧ (MPa u0 h0 p1 p2 p3 p4 p5 r.toInt)) (WB D A (PW k)) A) ([.ref h0, .int p1, .int p2, .int p3, .int p4, .int p5] : List Value).toArray s 0 0 A) (F0 m 150 ls []) := by
    intro hpost n150
    induction n150 with
    | zero =>
      intro u H locs ls v3 v4 v5 v6 hu hp hP hD hS hn150 g_v3 g_v4 g_v5 g_v6 ex0 hl
      exact absurd hn150 (by have := Int32.toInt_lt v6; have := Int32.le_toInt v6; omega)
    | succ n150 ih150 =>
      intro u H locs ls v3 v4 v5 v6 hu hp hP hD hS hn150 g_v3 g_v4 g_v5 g_v6 ex0 hl
      refine lv_iload hx hb dX12_paste_150 (lv_at hl 4 rfl) ?_
      refine lv_iload hx hb dX12_paste_152 (lv_at hl 3 rfl) ?_
      refine lv_icmp_ge (tgt := 185) hx hb dX12_paste_154 (by decide) (fun c1 => ?_) (fun c1 => ?_)
      · refine lv_iconst (v := 0) hx hb dX12_paste_185 (by decide) ?_
        exact W.iret (v := 0) hx hb hr (fun t ht hW => ⟨⟨0, u, rfl, ⟨hu, hp, hpost⟩, by rw [ht]; exact hP, hD⟩, hS.F ht⟩) hS.2.2 dX12_paste_186
      · refine lv_aload_n hx hb dX12_paste_157 rfl (lv_at hl 0 rfl) ?_
        have k_h0 : u.2.1 h0 = 12 := (hp h0 m0_h0).2.1.trans k0_h0
        have m_h0 : h0 ∈ u.1 := (hp h0 m0_h0).1
        have k_a32 : u.2.1 a32 = 62 := (hp a32 m0_a32).2.1.trans k0_a32
        have m_a32 : a32 ∈ u.1 := (hp a32 m0_a32).1
        refine pget (ci := 12) (v := va_rf (u.2.2.2.2 h0 32)) (C := RX12) (T := TX12) (N := 34) hx hb hts i_X12 hown hK hP m_h0 (cF12 k_h0) rfl 32 (by decide) (hts (.fieldLink RX12 67 "BellowsRowModel" "numbers" "[J") (by decide +kernel)) (fun _ h9 => h9) rfl dX12_paste_158 ?_
        refine W.eq (g2 := F0 m 161 ls [.ref a32]) (by rw [(((hp h0 m0_h0).2.2.2.2.2.1 k0_h0 32).trans q0_32)]; rfl) ?_
        refine lv_bipush (v := 60) hx hb dX12_paste_161 (by decide) ?_
        refine lv_iload_n hx hb dX12_paste_163 rfl (lv_at hl 1 rfl) ?_
        refine lv_imul hx hb dX12_paste_164 ?_
        refine lv_topi (fun x2 ex2 => ?_)
        have tx2 : x2.toInt = 60 * v3.toInt := by rw [ex2]; exact i_mulc (c := 60) (by decide) ((show 0 ≤ v3.toInt ∧ v3.toInt ≤ 3 from by (try simp only [i_lt, i_le, i_eq, Int32.toInt_toInt64, Int32.reduceToInt, Int64.reduceToInt, true_and, and_true, false_and, and_false, false_or, or_false, true_or, or_true, not_true_eq_false, not_false_eq_true, ne_eq, forall_const, true_implies, false_implies, implies_true] at g_v3 g_v4 g_v5 g_v6 ex0 hn150 c1 ⊢) <;> omega)) (by decide)
        refine lv_iload hx hb dX12_paste_165 (lv_at hl 2 rfl) ?_
        refine lv_iadd hx hb dX12_paste_167 ?_
        refine lv_topi (fun x3 ex3 => ?_)
        have tx3 : x3.toInt = x2.toInt + v4.toInt := by rw [ex3]; exact i_add (by (try simp only [i_lt, i_le, i_eq, Int32.toInt_toInt64, Int32.reduceToInt, Int64.reduceToInt, true_and, and_true, false_and, and_false, false_or, or_false, true_or, or_true, not_true_eq_false, not_false_eq_true, ne_eq, forall_const, true_implies, false_implies, implies_true] at g_v3 g_v4 g_v5 g_v6 ex0 hn150 c1 tx2 ⊢) <;> omega) (by (try simp only [i_lt, i_le, i_eq, Int32.toInt_toInt64, Int32.reduceToInt, Int64.reduceToInt, true_and, and_true, false_and, and_false, false_or, or_false, true_or, or_true, not_true_eq_false, not_false_eq_true, ne_eq, forall_const, true_implies, false_implies, implies_true] at g_v3 g_v4 g_v5 g_v6 ex0 hn150 c1 tx2 ⊢) <;> omega)
        refine lv_iload hx hb dX12_paste_168 (lv_at hl 4 rfl) ?_
        refine lv_iadd hx hb dX12_paste_170 ?_
        refine lv_topi (fun x4 ex4 => ?_)
        have tx4 : x4.toInt = x3.toInt + v6.toInt := by rw [ex4]; exact i_add (by (try simp only [i_lt, i_le, i_eq, Int32.toInt_toInt64, Int32.reduceToInt, Int64.reduceToInt, true_and, and_true, false_and, and_false, false_or, or_false, true_or, or_true, not_true_eq_false, not_false_eq_true, ne_eq, forall_const, true_implies, false_implies, implies_true] at g_v3 g_v4 g_v5 g_v6 ex0 hn150 c1 tx2 tx3 ⊢) <;> omega) (by (try simp only [i_lt, i_le, i_eq, Int32.toInt_toInt64, Int32.reduceToInt, Int64.reduceToInt, true_and, and_true, false_and, and_false, false_or, or_false, true_or, or_true, not_true_eq_false, not_false_eq_true, ne_eq, forall_const, true_implies, false_implies, implies_true] at g_v3 g_v4 g_v5 g_v6 ex0 hn150 c1 tx2 tx3 ⊢) <;> omega)
        refine lv_aload_n hx hb dX12_paste_171 rfl (lv_at hl 0 rfl) ?_
        have k_a33 : u.2.1 a33 = 63 := (hp a33 m0_a33).2.1.trans k0_a33
        have m_a33 : a33 ∈ u.1 := (hp a33 m0_a33).1
        refine pget (ci := 12) (v := va_rf (u.2.2.2.2 h0 33)) (C := RX12) (T := TX12) (N := 34) hx hb hts i_X12 hown hK hP m_h0 (cF12 k_h0) rfl 33 (by decide) (hts (.fieldLink RX12 71 "BellowsRowModel" "moving" "[J") (by decide +kernel)) (fun _ h9 => h9) rfl dX12_paste_172 ?_
        refine W.eq (g2 := F0 m 175 ls [.ref a33, .int x4, .ref a32]) (by rw [(((hp h0 m0_h0).2.2.2.2.2.1 k0_h0 33).trans q0_33)]; rfl) ?_
        refine lv_iload hx hb dX12_paste_175 (lv_at hl 4 rfl) ?_
        refine palJ hx hb hK hP m_a33 (cF63 k_a33) 2 rfl (vp_in_iff.mpr (by (try simp only [i_lt, i_le, i_eq, Int32.toInt_toInt64, Int32.reduceToInt, Int64.reduceToInt, true_and, and_true, false_and, and_false, false_or, or_false, true_or, or_true, not_true_eq_false, not_false_eq_true, ne_eq, forall_const, true_implies, false_implies, implies_true] at g_v3 g_v4 g_v5 g_v6 ex0 hn150 c1 tx2 tx3 tx4 ⊢) <;> omega)) dX12_paste_177 ?_
        refine lv_topl (fun x5 ex5 => ?_)
        refine pasJ (u' := pSJ u a32 (x4.toNatClampNeg) x5) hx hb hK hP hD hS m_a32 (cF62 k_a32) 2 rfl (vp_in_iff.mpr (by (try simp only [i_lt, i_le, i_eq, Int32.toInt_toInt64, Int32.reduceToInt, Int64.reduceToInt, true_and, and_true, false_and, and_false, false_or, or_false, true_or, or_true, not_true_eq_false, not_false_eq_true, ne_eq, forall_const, true_implies, false_implies, implies_true] at g_v3 g_v4 g_v5 g_v6 ex0 hn150 c1 tx2 tx3 tx4 ⊢) <;> omega)) rfl (sF62 k_a32 _ _) dX12_paste_178 (fun H locs hP hD hS => ?_)
        have hu := WT.setJ (a := a32) (s := (x4.toNatClampNeg)) (v := x5) hu
        have hp := PX.setJ (a := a32) (s := (x4.toNatClampNeg)) (v := x5) hp
        obtain ⟨u6, hu6⟩ : ∃ z, z = pSJ u a32 (x4.toNatClampNeg) x5 := ⟨_, rfl⟩
        rw [← hu6] at hP hD hu hp
        obtain ⟨x7, ex7⟩ : ∃ y : Int32, y = v6 + 1 := ⟨_, rfl⟩
        have tx7 : x7.toInt = v6.toInt + 1 := by rw [ex7]; exact i_add (b := 1) (by (try simp only [i_lt, i_le, i_eq, Int32.toInt_toInt64, Int32.reduceToInt, Int64.reduceToInt, true_and, and_true, false_and, and_false, false_or, or_false, true_or, or_true, not_true_eq_false, not_false_eq_true, ne_eq, forall_const, true_implies, false_implies, implies_true] at g_v3 g_v4 g_v5 g_v6 ex0 hn150 c1 tx2 tx3 tx4 ⊢) <;> omega) (by (try simp only [i_lt, i_le, i_eq, Int32.toInt_toInt64, Int32.reduceToInt, Int64.reduceToInt, true_and, and_true, false_and, and_false, false_or, or_false, true_or, or_true, not_true_eq_false, not_false_eq_true, ne_eq, forall_const, true_implies, false_implies, implies_true] at g_v3 g_v4 g_v5 g_v6 ex0 hn150 c1 tx2 tx3 tx4 ⊢) <;> omega)
        refine lv_iinc (v := x7) (lv' := [(6, .int x7), (0, .ref h0), (3, .int v3), (4, .int v4), (5, .int v5)]) hx hb dX12_paste_179 hl (k := 4) rfl (by rw [ex7]; rfl) (by decide) rfl (fun ls hl => ?_)
        refine lv_goto (tgt := 150) hx hb dX12_paste_182 (by decide) ?_
        exact ih150 _ _ _ ls v3 v4 v5 x7 hu hp hP hD hS (by (try simp only [i_lt, i_le, i_eq, Int32.toInt_toInt64, Int32.reduceToInt, Int64.reduceToInt, true_and, and_true, false_and, and_false, false_or, or_false, true_or, or_true, not_true_eq_false, not_false_eq_true, ne_eq, forall_const, true_implies, false_implies, implies_true] at g_v3 g_v4 g_v5 g_v6 ex0 hn150 c1 tx2 tx3 tx4 tx7 ⊢) <;> omega) (by (try simp only [i_lt, i_le, i_eq, Int32.toInt_toInt64, Int32.reduceToInt, Int64.reduceToInt, true_and, and_true, false_and, and_false, false_or, or_false, true_or, or_true, not_true_eq_false, not_false_eq_true, ne_eq, forall_const, true_implies, false_implies, implies_true] at g_v3 g_v4 g_v5 g_v6 ex0 hn150 c1 tx2 tx3 tx4 tx7 ⊢) <;> omega) (by (try simp only [i_lt, i_le, i_eq, Int32.toInt_toInt64, Int32.reduceToInt, Int64.reduceToInt, true_and, and_true, false_and, and_false, false_or, or_false, true_or, or_true, not_true_eq_false, not_false_eq_true, ne_eq, forall_const, true_implies, false_implies, implies_true] at g_v3 g_v4 g_v5 g_v6 ex0 hn150 c1 tx2 tx3 tx4 tx7 ⊢) <;> omega) (by (try simp only [i_lt, i_le, i_eq, Int32.toInt_toInt64, Int32.reduceToInt, Int64.reduceToInt, true_and, and_true, false_and, and_false, false_or, or_false, true_or, or_true, not_true_eq_false, not_false_eq_true, ne_eq, forall_const, true_implies, false_implies, implies_true] at g_v3 g_v4 g_v5 g_v6 ex0 hn150 c1 tx2 tx3 tx4 tx7 ⊢) <;> omega) (by (try simp only [i_lt, i_le, i_eq, Int32.toInt_toInt64, Int32.reduceToInt, Int64.reduceToInt, true_and, and_true, false_and, and_false, false_or, or_false, true_or, or_true, not_true_eq_false, not_false_eq_true, ne_eq, forall_const, true_implies, false_implies, implies_true] at g_v3 g_v4 g_v5 g_v6 ex0 hn150 c1 tx2 tx3 tx4 tx7 ⊢) <;> omega) (by (try simp only [i_lt, i_le, i_eq, Int32.toInt_toInt64, Int32.reduceToInt, Int64.reduceToInt, true_and, and_true, false_and, and_false, false_or, or_false, true_or, or_true, not_true_eq_false, not_false_eq_true, ne_eq, forall_const, true_implies, false_implies, implies_true] at g_v3 g_v4 g_v5 g_v6 ex0 hn150 c1 tx2 tx3 tx4 tx7 ⊢) <;> omega) (lv_sub hl [1, 2, 3, 4, 0] rfl)
  have B113 : (MPa u0 h0 p1 p2 p3 p4 p5 0) → ∀ (n113 : Nat) (u : PSt) (H : Heap) (locs : List Loc) (ls : Array Slot) (v1 : Int32) (v2 : Int32) (v3 : Int32) (v4 : Int32) (v5 : Int32) (v6 : Int32), WT u → PX u0 u → va_P D vwCl (PW k u) H → va_D A (PW k u) → va_S A s.heap H locs → (2147483648 - v6.toInt).toNat ≤ n113 → 0 ≤ v1.toInt ∧ v1.toInt ≤ 3 → 0 ≤ v2.toInt ∧ v2.toInt ≤ 60 → 0 ≤ v3.toInt ∧ v3.toInt ≤ 3 → 0 ≤ v4.toInt ∧ v4.toInt ≤ 60 → 0 ≤ v5.toInt ∧ v5.toInt ≤ 60 → 0 ≤ v6.toInt ∧ v6.toInt ≤ 60 → (v2.toInt + v5.toInt ≤ 60) → (v4.toInt + v5.toInt ≤ 60) → lv_has ls 7 [(0, .ref h0), (1, .int v1), (2, .int v2), (3, .int v3), (4, .int v4), (5, .int v5), (6, .int v6)] → W p l e (headSpec wsX12_paste ({ frames := 2, cells := 0, slots := 0, locals := 45 })).room s m ([.ref h0, .int p1, .int p2, .int p3, .int p4, .int p5] : List Value).toArray below meth c H locs 0 0 (MQ below (va_Qi (fun r v => WT v ∧ PX u0 v ∧ (MPa u0 h0 p1 p2 p3 p4 p5 r.toInt)) (WB D A (PW k)) A) ([.ref h0, .int p1, .int p2, .int p3, .int p4, .int p5] : List Value).toArray s 0 0 A) (F0 m 113 ls []) := by
    intro hpost n113
    induction n113 with
    | zero =>
      intro u H locs ls v1 v2 v3 v4 v5 v6 hu hp hP hD hS hn113 g_v1 g_v2 g_v3 g_v4 g_v5 g_v6 ex0 ex1 hl
      exact absurd hn113 (by have := Int32.toInt_lt v6; have := Int32.le_toInt v6; omega)
    | succ n113 ih113 =>
      intro u H locs ls v1 v2 v3 v4 v5 v6 hu hp hP hD hS hn113 g_v1 g_v2 g_v3 g_v4 g_v5 g_v6 ex0 ex1 hl
      refine lv_iload hx hb dX12_paste_113 (lv_at hl 6 rfl) ?_
      refine lv_iload hx hb dX12_paste_115 (lv_at hl 5 rfl) ?_
      refine lv_icmp_ge (tgt := 147) hx hb dX12_paste_117 (by decide) (fun c8 => ?_) (fun c8 => ?_)
      · refine lv_iconst (v := 0) hx hb dX12_paste_147 (by decide) ?_
        refine lv_istore (lv' := [(6, .int 0), (0, .ref h0), (1, .int v1), (2, .int v2), (3, .int v3), (4, .int v4), (5, .int v5)]) hx hb dX12_paste_148 hl (by decide) rfl (fun ls hl => ?_)
        exact B150 hpost _ _ _ _ ls v3 v4 v5 0 hu hp hP hD hS (Nat.le_refl _) (by (try simp only [i_lt, i_le, i_eq, Int32.toInt_toInt64, Int32.reduceToInt, Int64.reduceToInt, true_and, and_true, false_and, and_false, false_or, or_false, true_or, or_true, not_true_eq_false, not_false_eq_true, ne_eq, forall_const, true_implies, false_implies, implies_true] at g_v1 g_v2 g_v3 g_v4 g_v5 g_v6 ex0 ex1 hn113 c8 ⊢) <;> omega) (by (try simp only [i_lt, i_le, i_eq, Int32.toInt_toInt64, Int32.reduceToInt, Int64.reduceToInt, true_and, and_true, false_and, and_false, false_or, or_false, true_or, or_true, not_true_eq_false, not_false_eq_true, ne_eq, forall_const, true_implies, false_implies, implies_true] at g_v1 g_v2 g_v3 g_v4 g_v5 g_v6 ex0 ex1 hn113 c8 ⊢) <;> omega) (by (try simp only [i_lt, i_le, i_eq, Int32.toInt_toInt64, Int32.reduceToInt, Int64.reduceToInt, true_and, and_true, false_and, and_false, false_or, or_false, true_or, or_true, not_true_eq_false, not_false_eq_true, ne_eq, forall_const, true_implies, false_implies, implies_true] at g_v1 g_v2 g_v3 g_v4 g_v5 g_v6 ex0 ex1 hn113 c8 ⊢) <;> omega) (by (try simp only [i_lt, i_le, i_eq, Int32.toInt_toInt64, Int32.reduceToInt, Int64.reduceToInt, true_and, and_true, false_and, and_false, false_or, or_false, true_or, or_true, not_true_eq_false, not_false_eq_true, ne_eq, forall_const, true_implies, false_implies, implies_true] at g_v1 g_v2 g_v3 g_v4 g_v5 g_v6 ex0 ex1 hn113 c8 ⊢) <;> omega) (by (try simp only [i_lt, i_le, i_eq, Int32.toInt_toInt64, Int32.reduceToInt, Int64.reduceToInt, true_and, and_true, false_and, and_false, false_or, or_false, true_or, or_true, not_true_eq_false, not_false_eq_true, ne_eq, forall_const, true_implies, false_implies, implies_true] at g_v1 g_v2 g_v3 g_v4 g_v5 g_v6 ex0 ex1 hn113 c8 ⊢) <;> omega) (lv_sub hl [1, 4, 5, 6, 0] rfl)
      · refine lv_aload_n hx hb dX12_paste_120 rfl (lv_at hl 0 rfl) ?_
        have k_h0 : u.2.1 h0 = 12 := (hp h0 m0_h0).2.1.trans k0_h0
        have m_h0 : h0 ∈ u.1 := (hp h0 m0_h0).1
        have k_a33 : u.2.1 a33 = 63 := (hp a33 m0_a33).2.1.trans k0_a33
        have m_a33 : a33 ∈ u.1 := (hp a33 m0_a33).1
        refine pget (ci := 12) (v := va_rf (u.2.2.2.2 h0 33)) (C := RX12) (T := TX12) (N := 34) hx hb hts i_X12 hown hK hP m_h0 (cF12 k_h0) rfl 33 (by decide) (hts (.fieldLink RX12 71 "BellowsRowModel" "moving" "[J") (by decide +kernel)) (fun _ h9 => h9) rfl dX12_paste_121 ?_
        refine W.eq (g2 := F0 m 124 ls [.ref a33]) (by rw [(((hp h0 m0_h0).2.2.2.2.2.1 k0_h0 33).trans q0_33)]; rfl) ?_
        refine lv_iload hx hb dX12_paste_124 (lv_at hl 6 rfl) ?_
        refine lv_aload_n hx hb dX12_paste_126 rfl (lv_at hl 0 rfl) ?_
        have k_a32 : u.2.1 a32 = 62 := (hp a32 m0_a32).2.1.trans k0_a32
        have m_a32 : a32 ∈ u.1 := (hp a32 m0_a32).1
        refine pget (ci := 12) (v := va_rf (u.2.2.2.2 h0 32)) (C := RX12) (T := TX12) (N := 34) hx hb hts i_X12 hown hK hP m_h0 (cF12 k_h0) rfl 32 (by decide) (hts (.fieldLink RX12 67 "BellowsRowModel" "numbers" "[J") (by decide +kernel)) (fun _ h9 => h9) rfl dX12_paste_127 ?_
        refine W.eq (g2 := F0 m 130 ls [.ref a32, .int v6, .ref a33]) (by rw [(((hp h0 m0_h0).2.2.2.2.2.1 k0_h0 32).trans q0_32)]; rfl) ?_
        refine lv_bipush (v := 60) hx hb dX12_paste_130 (by decide) ?_
        refine lv_iload_n hx hb dX12_paste_132 rfl (lv_at hl 1 rfl) ?_
        refine lv_imul hx hb dX12_paste_133 ?_
        refine lv_topi (fun x9 ex9 => ?_)
        have tx9 : x9.toInt = 60 * v1.toInt := by rw [ex9]; exact i_mulc (c := 60) (by decide) ((show 0 ≤ v1.toInt ∧ v1.toInt ≤ 3 from by (try simp only [i_lt, i_le, i_eq, Int32.toInt_toInt64, Int32.reduceToInt, Int64.reduceToInt, true_and, and_true, false_and, and_false, false_or, or_false, true_or, or_true, not_true_eq_false, not_false_eq_true, ne_eq, forall_const, true_implies, false_implies, implies_true] at g_v1 g_v2 g_v3 g_v4 g_v5 g_v6 ex0 ex1 hn113 c8 ⊢) <;> omega)) (by decide)
        refine lv_iload_n hx hb dX12_paste_134 rfl (lv_at hl 2 rfl) ?_
        refine lv_iadd hx hb dX12_paste_135 ?_
        refine lv_topi (fun x10 ex10 => ?_)
        have tx10 : x10.toInt = x9.toInt + v2.toInt := by rw [ex10]; exact i_add (by (try simp only [i_lt, i_le, i_eq, Int32.toInt_toInt64, Int32.reduceToInt, Int64.reduceToInt, true_and, and_true, false_and, and_false, false_or, or_false, true_or, or_true, not_true_eq_false, not_false_eq_true, ne_eq, forall_const, true_implies, false_implies, implies_true] at g_v1 g_v2 g_v3 g_v4 g_v5 g_v6 ex0 ex1 hn113 c8 tx9 ⊢) <;> omega) (by (try simp only [i_lt, i_le, i_eq, Int32.toInt_toInt64, Int32.reduceToInt, Int64.reduceToInt, true_and, and_true, false_and, and_false, false_or, or_false, true_or, or_true, not_true_eq_false, not_false_eq_true, ne_eq, forall_const, true_implies, false_implies, implies_true] at g_v1 g_v2 g_v3 g_v4 g_v5 g_v6 ex0 ex1 hn113 c8 tx9 ⊢) <;> omega)
        refine lv_iload hx hb dX12_paste_136 (lv_at hl 6 rfl) ?_
        refine lv_iadd hx hb dX12_paste_138 ?_
        refine lv_topi (fun x11 ex11 => ?_)
        have tx11 : x11.toInt = x10.toInt + v6.toInt := by rw [ex11]; exact i_add (by (try simp only [i_lt, i_le, i_eq, Int32.toInt_toInt64, Int32.reduceToInt, Int64.reduceToInt, true_and, and_true, false_and, and_false, false_or, or_false, true_or, or_true, not_true_eq_false, not_false_eq_true, ne_eq, forall_const, true_implies, false_implies, implies_true] at g_v1 g_v2 g_v3 g_v4 g_v5 g_v6 ex0 ex1 hn113 c8 tx9 tx10 ⊢) <;> omega) (by (try simp only [i_lt, i_le, i_eq, Int32.toInt_toInt64, Int32.reduceToInt, Int64.reduceToInt, true_and, and_true, false_and, and_false, false_or, or_false, true_or, or_true, not_true_eq_false, not_false_eq_true, ne_eq, forall_const, true_implies, false_implies, implies_true] at g_v1 g_v2 g_v3 g_v4 g_v5 g_v6 ex0 ex1 hn113 c8 tx9 tx10 ⊢) <;> omega)
        refine palJ hx hb hK hP m_a32 (cF62 k_a32) 2 rfl (vp_in_iff.mpr (by (try simp only [i_lt, i_le, i_eq, Int32.toInt_toInt64, Int32.reduceToInt, Int64.reduceToInt, true_and, and_true, false_and, and_false, false_or, or_false, true_or, or_true, not_true_eq_false, not_false_eq_true, ne_eq, forall_const, true_implies, false_implies, implies_true] at g_v1 g_v2 g_v3 g_v4 g_v5 g_v6 ex0 ex1 hn113 c8 tx9 tx10 tx11 ⊢) <;> omega)) dX12_paste_139 ?_
        refine lv_topl (fun x12 ex12 => ?_)
        refine pasJ (u' := pSJ u a33 (v6.toNatClampNeg) x12) hx hb hK hP hD hS m_a33 (cF63 k_a33) 2 rfl (vp_in_iff.mpr (by (try simp only [i_lt, i_le, i_eq, Int32.toInt_toInt64, Int32.reduceToInt, Int64.reduceToInt, true_and, and_true, false_and, and_false, false_or, or_false, true_or, or_true, not_true_eq_false, not_false_eq_true, ne_eq, forall_const, true_implies, false_implies, implies_true] at g_v1 g_v2 g_v3 g_v4 g_v5 g_v6 ex0 ex1 hn113 c8 tx9 tx10 tx11 ⊢) <;> omega)) rfl (sF63 k_a33 _ _) dX12_paste_140 (fun H locs hP hD hS => ?_)
        have hu := WT.setJ (a := a33) (s := (v6.toNatClampNeg)) (v := x12) hu
        have hp := PX.setJ (a := a33) (s := (v6.toNatClampNeg)) (v := x12) hp
        obtain ⟨u13, hu13⟩ : ∃ z, z = pSJ u a33 (v6.toNatClampNeg) x12 := ⟨_, rfl⟩
        rw [← hu13] at hP hD hu hp
        obtain ⟨x14, ex14⟩ : ∃ y : Int32, y = v6 + 1 := ⟨_, rfl⟩
        have tx14 : x14.toInt = v6.toInt + 1 := by rw [ex14]; exact i_add (b := 1) (by (try simp only [i_lt, i_le, i_eq, Int32.toInt_toInt64, Int32.reduceToInt, Int64.reduceToInt, true_and, and_true, false_and, and_false, false_or, or_false, true_or, or_true, not_true_eq_false, not_false_eq_true, ne_eq, forall_const, true_implies, false_implies, implies_true] at g_v1 g_v2 g_v3 g_v4 g_v5 g_v6 ex0 ex1 hn113 c8 tx9 tx10 tx11 ⊢) <;> omega) (by (try simp only [i_lt, i_le, i_eq, Int32.toInt_toInt64, Int32.reduceToInt, Int64.reduceToInt, true_and, and_true, false_and, and_false, false_or, or_false, true_or, or_true, not_true_eq_false, not_false_eq_true, ne_eq, forall_const, true_implies, false_implies, implies_true] at g_v1 g_v2 g_v3 g_v4 g_v5 g_v6 ex0 ex1 hn113 c8 tx9 tx10 tx11 ⊢) <;> omega)
        refine lv_iinc (v := x14) (lv' := [(6, .int x14), (0, .ref h0), (1, .int v1), (2, .int v2), (3, .int v3), (4, .int v4), (5, .int v5)]) hx hb dX12_paste_141 hl (k := 6) rfl (by rw [ex14]; rfl) (by decide) rfl (fun ls hl => ?_)
        refine lv_goto (tgt := 113) hx hb dX12_paste_144 (by decide) ?_
        exact ih113 _ _ _ ls v1 v2 v3 v4 v5 x14 hu hp hP hD hS (by (try simp only [i_lt, i_le, i_eq, Int32.toInt_toInt64, Int32.reduceToInt, Int64.reduceToInt, true_and, and_true, false_and, and_false, false_or, or_false, true_or, or_true, not_true_eq_false, not_false_eq_true, ne_eq, forall_const, true_implies, false_implies, implies_true] at g_v1 g_v2 g_v3 g_v4 g_v5 g_v6 ex0 ex1 hn113 c8 tx9 tx10 tx11 tx14 ⊢) <;> omega) (by (try simp only [i_lt, i_le, i_eq, Int32.toInt_toInt64, Int32.reduceToInt, Int64.reduceToInt, true_and, and_true, false_and, and_false, false_or, or_false, true_or, or_true, not_true_eq_false, not_false_eq_true, ne_eq, forall_const, true_implies, false_implies, implies_true] at g_v1 g_v2 g_v3 g_v4 g_v5 g_v6 ex0 ex1 hn113 c8 tx9 tx10 tx11 tx14 ⊢) <;> omega) (by (try simp only [i_lt, i_le, i_eq, Int32.toInt_toInt64, Int32.reduceToInt, Int64.reduceToInt, true_and, and_true, false_and, and_false, false_or, or_false, true_or, or_true, not_true_eq_false, not_false_eq_true, ne_eq, forall_const, true_implies, false_implies, implies_true] at g_v1 g_v2 g_v3 g_v4 g_v5 g_v6 ex0 ex1 hn113 c8 tx9 tx10 tx11 tx14 ⊢) <;> omega) (by (try simp only [i_lt, i_le, i_eq, Int32.toInt_toInt64, Int32.reduceToInt, Int64.reduceToInt, true_and, and_true, false_and, and_false, false_or, or_false, true_or, or_true, not_true_eq_false, not_false_eq_true, ne_eq, forall_const, true_implies, false_implies, implies_true] at g_v1 g_v2 g_v3 g_v4 g_v5 g_v6 ex0 ex1 hn113 c8 tx9 tx10 tx11 tx14 ⊢) <;> omega) (by (try simp only [i_lt, i_le, i_eq, Int32.toInt_toInt64, Int32.reduceToInt, Int64.reduceToInt, true_and, and_true, false_and, and_false, false_or, or_false, true_or, or_true, not_true_eq_false, not_false_eq_true, ne_eq, forall_const, true_implies, false_implies, implies_true] at g_v1 g_v2 g_v3 g_v4 g_v5 g_v6 ex0 ex1 hn113 c8 tx9 tx10 tx11 tx14 ⊢) <;> omega) (by (try simp only [i_lt, i_le, i_eq, Int32.toInt_toInt64, Int32.reduceToInt, Int64.reduceToInt, true_and, and_true, false_and, and_false, false_or, or_false, true_or, or_true, not_true_eq_false, not_false_eq_true, ne_eq, forall_const, true_implies, false_implies, implies_true] at g_v1 g_v2 g_v3 g_v4 g_v5 g_v6 ex0 ex1 hn113 c8 tx9 tx10 tx11 tx14 ⊢) <;> omega) (by (try simp only [i_lt, i_le, i_eq, Int32.toInt_toInt64, Int32.reduceToInt, Int64.reduceToInt, true_and, and_true, false_and, and_false, false_or, or_false, true_or, or_true, not_true_eq_false, not_false_eq_true, ne_eq, forall_const, true_implies, false_implies, implies_true] at g_v1 g_v2 g_v3 g_v4 g_v5 g_v6 ex0 ex1 hn113 c8 tx9 tx10 tx11 tx14 ⊢) <;> omega) (by (try simp only [i_lt, i_le, i_eq, Int32.toInt_toInt64, Int32.reduceToInt, Int64.reduceToInt, true_and, and_true, false_and, and_false, false_or, or_false, true_or, or_true, not_true_eq_false, not_false_eq_true, ne_eq, forall_const, true_implies, false_implies, implies_true] at g_v1 g_v2 g_v3 g_v4 g_v5 g_v6 ex0 ex1 hn113 c8 tx9 tx10 tx11 tx14 ⊢) <;> omega) (by (try simp only [i_lt, i_le, i_eq, Int32.toInt_toInt64, Int32.reduceToInt, Int64.reduceToInt, true_and, and_true, false_and, and_false, false_or, or_false, true_or, or_true, not_true_eq_false, not_false_eq_true, ne_eq, forall_const, true_implies, false_implies, implies_true] at g_v1 g_v2 g_v3 g_v4 g_v5 g_v6 ex0 ex1 hn113 c8 tx9 tx10 tx11 tx14 ⊢) <;> omega) (lv_sub hl [1, 2, 3, 4, 5, 6, 0] rfl)
  have hl := lv_entry ([.ref h0, .int p1, .int p2, .int p3, .int p4, .int p5]) (n := 7) (Nat.le_of_ble_eq_true rfl)
  rw [lg_entry_eq]
  generalize (lg_sl ([.ref h0, .int p1, .int p2, .int p3, .int p4, .int p5]) ++ List.replicate (7 - (lg_sl ([.ref h0, .int p1, .int p2, .int p3, .int p4, .int p5])).length) Slot.unset).toArray = ls at hl ⊢
  have hl : lv_has ls 7 [(0, .ref h0), (1, .int p1), (2, .int p2), (3, .int p3), (4, .int p4), (5, .int p5)] := hl
  refine lv_iload_n hx hb dX12_paste_0 rfl (lv_at hl 1 rfl) ?_
  refine psi (As := [.int p1]) (rest := []) ⟨hx, hb, hml, hown, hts⟩ (t_X12_isSlot l D k p1) (va_cwS 1 hts gX12_paste_X12_isSlot rfl rfl rfl (by decide +kernel) ⟨Nat.le_of_ble_eq_true rfl, Nat.le_of_ble_eq_true rfl⟩) hK rfl hl.1 rfl (Nat.le_of_ble_eq_true rfl) dX12_paste_1 ⟨Nat.le_of_ble_eq_true rfl, Nat.le_of_ble_eq_true rfl⟩ (fun r15 hr15 => ?_)
  refine lv_if_eq (tgt := 14) hx hb dX12_paste_4 (by decide) (fun c16 => ?_) (fun c16 => ?_)
  · have eb17 : r15.toInt = 0 := by rcases hr15 with ⟨q, -⟩ | ⟨q, -⟩; exact q; (exact absurd (c16) (fun w => by rw [w] at q; exact absurd q (by decide)))
    have fb17 : (p1.toInt < 0 ∨ 3 < p1.toInt) := by rcases hr15 with ⟨q, r⟩ | ⟨q, r⟩; exact r; exact absurd q (by omega)
    clear hr15
    refine lv_bipush (v := (-2)) hx hb dX12_paste_14 (by decide) ?_
    exact W.iret (v := (-2)) hx hb hr (fun t ht hW => ⟨⟨(-2), u0, rfl, ⟨hu, hp, Or.inl ⟨(by ((try simp only [i_lt, i_le, i_eq, Int32.toInt_toInt64, Int32.reduceToInt, Int64.reduceToInt, true_and, and_true, false_and, and_false, false_or, or_false, true_or, or_true, not_true_eq_false, not_false_eq_true, ne_eq, forall_const, true_implies, false_implies, implies_true] at c16 eb17 fb17 ⊢) <;> omega)), by decide⟩⟩, by rw [ht]; exact hP, hD⟩, hS.F ht⟩) hS.2.2 dX12_paste_16
  · have eb18 : r15.toInt = 1 := by rcases hr15 with ⟨q, -⟩ | ⟨q, -⟩; exact absurd (i_eq.mpr q) c16; exact q
    have fb18 : 0 ≤ p1.toInt ∧ p1.toInt ≤ 3 := by rcases hr15 with ⟨q, r⟩ | ⟨q, r⟩; exact absurd q (by omega); exact r
    clear hr15
    refine lv_iload_n hx hb dX12_paste_7 rfl (lv_at hl 3 rfl) ?_
    refine psi (As := [.int p3]) (rest := []) ⟨hx, hb, hml, hown, hts⟩ (t_X12_isSlot l D k p3) (va_cwS 1 hts gX12_paste_X12_isSlot rfl rfl rfl (by decide +kernel) ⟨Nat.le_of_ble_eq_true rfl, Nat.le_of_ble_eq_true rfl⟩) hK rfl hl.1 rfl (Nat.le_of_ble_eq_true rfl) dX12_paste_8 ⟨Nat.le_of_ble_eq_true rfl, Nat.le_of_ble_eq_true rfl⟩ (fun r19 hr19 => ?_)
    refine lv_if_ne (tgt := 17) hx hb dX12_paste_11 (by decide) (fun c20 => ?_) (fun c20 => ?_)
    · have eb21 : r19.toInt = 1 := by rcases hr19 with ⟨q, -⟩ | ⟨q, -⟩; exact absurd (i_eq.mpr q) c20; exact q
      have fb21 : 0 ≤ p3.toInt ∧ p3.toInt ≤ 3 := by rcases hr19 with ⟨q, r⟩ | ⟨q, r⟩; exact absurd q (by omega); exact r
      clear hr19
      refine lv_aload_n hx hb dX12_paste_17 rfl (lv_at hl 0 rfl) ?_
      refine pget (ci := 12) (v := va_rf (u0.2.2.2.2 h0 30)) (C := RX12) (T := TX12) (N := 34) hx hb hts i_X12 hown hK hP m_h0 (cF12 k_h0) rfl 30 (by decide) (hts (.fieldLink RX12 61 "BellowsRowModel" "slotMany" "[I") (by decide +kernel)) (fun _ h9 => h9) rfl dX12_paste_18 ?_
      refine W.eq (g2 := F0 m 21 ls [.ref a30]) (by rw [(((hp h0 m0_h0).2.2.2.2.2.1 k0_h0 30).trans q0_30)]; rfl) ?_
      refine lv_iload_n hx hb dX12_paste_21 rfl (lv_at hl 1 rfl) ?_
      refine palI hx hb hK hP m_a30 (cF60 k_a30) 1 rfl (vp_in_iff.mpr (by (try simp only [i_lt, i_le, i_eq, Int32.toInt_toInt64, Int32.reduceToInt, Int64.reduceToInt, true_and, and_true, false_and, and_false, false_or, or_false, true_or, or_true, not_true_eq_false, not_false_eq_true, ne_eq, forall_const, true_implies, false_implies, implies_true] at eb18 fb18 eb21 fb21 ⊢) <;> omega)) dX12_paste_22 ?_
      refine lv_topi (fun x22 ex22 => ?_)
      have tx22 : x22.toInt = (u0.2.2.1 a30 (p1.toNatClampNeg)).toInt := congrArg Int32.toInt ex22
      have g23 : -1 ≤ x22.toInt ∧ x22.toInt ≤ 60 := by have g := (hu a30 m_a30).2.2.2 (p1.toNatClampNeg); rw [k_a30] at g; rw [show x22 = _ from ex22]; exact g
      refine lv_iconst (v := (-1)) hx hb dX12_paste_23 (by decide) ?_
      refine lv_icmp_eq (tgt := 37) hx hb dX12_paste_24 (by decide) (fun c24 => ?_) (fun c24 => ?_)
      · refine lv_bipush (v := (-6)) hx hb dX12_paste_37 (by decide) ?_
        exact W.iret (v := (-6)) hx hb hr (fun t ht hW => ⟨⟨(-6), u0, rfl, ⟨hu, hp, Or.inr ⟨(by ((try simp only [i_lt, i_le, i_eq, Int32.toInt_toInt64, Int32.reduceToInt, Int64.reduceToInt, true_and, and_true, false_and, and_false, false_or, or_false, true_or, or_true, not_true_eq_false, not_false_eq_true, ne_eq, forall_const, true_implies, false_implies, implies_true] at c16 eb18 fb18 c20 eb21 fb21 tx22 g23 c24 ⊢) <;> omega)), (by ((try simp only [i_lt, i_le, i_eq, Int32.toInt_toInt64, Int32.reduceToInt, Int64.reduceToInt, true_and, and_true, false_and, and_false, false_or, or_false, true_or, or_true, not_true_eq_false, not_false_eq_true, ne_eq, forall_const, true_implies, false_implies, implies_true] at c16 eb18 fb18 c20 eb21 fb21 tx22 g23 c24 ⊢) <;> omega)), (by ((try simp only [i_lt, i_le, i_eq, Int32.toInt_toInt64, Int32.reduceToInt, Int64.reduceToInt, true_and, and_true, false_and, and_false, false_or, or_false, true_or, or_true, not_true_eq_false, not_false_eq_true, ne_eq, forall_const, true_implies, false_implies, implies_true] at c16 eb18 fb18 c20 eb21 fb21 tx22 g23 c24 ⊢) <;> omega)), (by ((try simp only [i_lt, i_le, i_eq, Int32.toInt_toInt64, Int32.reduceToInt, Int64.reduceToInt, true_and, and_true, false_and, and_false, false_or, or_false, true_or, or_true, not_true_eq_false, not_false_eq_true, ne_eq, forall_const, true_implies, false_implies, implies_true] at c16 eb18 fb18 c20 eb21 fb21 tx22 g23 c24 ⊢) <;> omega)), a30, a31, q0_30, q0_31, (by unfold BPa; ((try simp only [i_lt, i_le, i_eq, Int32.toInt_toInt64, Int32.reduceToInt, Int64.reduceToInt, true_and, and_true, false_and, and_false, false_or, or_false, true_or, or_true, not_true_eq_false, not_false_eq_true, ne_eq, forall_const, true_implies, false_implies, implies_true] at c16 eb18 fb18 c20 eb21 fb21 tx22 g23 c24 ⊢) <;> omega))⟩⟩, by rw [ht]; exact hP, hD⟩, hS.F ht⟩) hS.2.2 dX12_paste_39
      · refine lv_aload_n hx hb dX12_paste_27 rfl (lv_at hl 0 rfl) ?_
        refine pget (ci := 12) (v := va_rf (u0.2.2.2.2 h0 30)) (C := RX12) (T := TX12) (N := 34) hx hb hts i_X12 hown hK hP m_h0 (cF12 k_h0) rfl 30 (by decide) (hts (.fieldLink RX12 61 "BellowsRowModel" "slotMany" "[I") (by decide +kernel)) (fun _ h9 => h9) rfl dX12_paste_28 ?_
        refine W.eq (g2 := F0 m 31 ls [.ref a30]) (by rw [(((hp h0 m0_h0).2.2.2.2.2.1 k0_h0 30).trans q0_30)]; rfl) ?_
        refine lv_iload_n hx hb dX12_paste_31 rfl (lv_at hl 3 rfl) ?_
        refine palI hx hb hK hP m_a30 (cF60 k_a30) 1 rfl (vp_in_iff.mpr (by (try simp only [i_lt, i_le, i_eq, Int32.toInt_toInt64, Int32.reduceToInt, Int64.reduceToInt, true_and, and_true, false_and, and_false, false_or, or_false, true_or, or_true, not_true_eq_false, not_false_eq_true, ne_eq, forall_const, true_implies, false_implies, implies_true] at eb18 fb18 eb21 fb21 tx22 g23 c24 ⊢) <;> omega)) dX12_paste_32 ?_
        refine lv_topi (fun x25 ex25 => ?_)
        have tx25 : x25.toInt = (u0.2.2.1 a30 (p3.toNatClampNeg)).toInt := congrArg Int32.toInt ex25
        have g26 : -1 ≤ x25.toInt ∧ x25.toInt ≤ 60 := by have g := (hu a30 m_a30).2.2.2 (p3.toNatClampNeg); rw [k_a30] at g; rw [show x25 = _ from ex25]; exact g
        refine lv_iconst (v := (-1)) hx hb dX12_paste_33 (by decide) ?_
        refine lv_icmp_ne (tgt := 40) hx hb dX12_paste_34 (by decide) (fun c27 => ?_) (fun c27 => ?_)
        · refine lv_aload_n hx hb dX12_paste_40 rfl (lv_at hl 0 rfl) ?_
          refine pget (ci := 12) (v := va_rf (u0.2.2.2.2 h0 31)) (C := RX12) (T := TX12) (N := 34) hx hb hts i_X12 hown hK hP m_h0 (cF12 k_h0) rfl 31 (by decide) (hts (.fieldLink RX12 64 "BellowsRowModel" "width" "[I") (by decide +kernel)) (fun _ h9 => h9) rfl dX12_paste_41 ?_
          refine W.eq (g2 := F0 m 44 ls [.ref a31]) (by rw [(((hp h0 m0_h0).2.2.2.2.2.1 k0_h0 31).trans q0_31)]; rfl) ?_
          refine lv_iload_n hx hb dX12_paste_44 rfl (lv_at hl 1 rfl) ?_
          refine palI hx hb hK hP m_a31 (cF61 k_a31) 1 rfl (vp_in_iff.mpr (by (try simp only [i_lt, i_le, i_eq, Int32.toInt_toInt64, Int32.reduceToInt, Int64.reduceToInt, true_and, and_true, false_and, and_false, false_or, or_false, true_or, or_true, not_true_eq_false, not_false_eq_true, ne_eq, forall_const, true_implies, false_implies, implies_true] at eb18 fb18 eb21 fb21 tx22 g23 c24 tx25 g26 c27 ⊢) <;> omega)) dX12_paste_45 ?_
          refine lv_topi (fun x28 ex28 => ?_)
          have tx28 : x28.toInt = (u0.2.2.1 a31 (p1.toNatClampNeg)).toInt := congrArg Int32.toInt ex28
          have g29 : 0 ≤ x28.toInt ∧ x28.toInt ≤ 3 := by have g := (hu a31 m_a31).2.2.2 (p1.toNatClampNeg); rw [k_a31] at g; rw [show x28 = _ from ex28]; exact g
          refine lv_aload_n hx hb dX12_paste_46 rfl (lv_at hl 0 rfl) ?_
          refine pget (ci := 12) (v := va_rf (u0.2.2.2.2 h0 31)) (C := RX12) (T := TX12) (N := 34) hx hb hts i_X12 hown hK hP m_h0 (cF12 k_h0) rfl 31 (by decide) (hts (.fieldLink RX12 64 "BellowsRowModel" "width" "[I") (by decide +kernel)) (fun _ h9 => h9) rfl dX12_paste_47 ?_
          refine W.eq (g2 := F0 m 50 ls [.ref a31, .int x28]) (by rw [(((hp h0 m0_h0).2.2.2.2.2.1 k0_h0 31).trans q0_31)]; rfl) ?_
          refine lv_iload_n hx hb dX12_paste_50 rfl (lv_at hl 3 rfl) ?_
          refine palI hx hb hK hP m_a31 (cF61 k_a31) 1 rfl (vp_in_iff.mpr (by (try simp only [i_lt, i_le, i_eq, Int32.toInt_toInt64, Int32.reduceToInt, Int64.reduceToInt, true_and, and_true, false_and, and_false, false_or, or_false, true_or, or_true, not_true_eq_false, not_false_eq_true, ne_eq, forall_const, true_implies, false_implies, implies_true] at eb18 fb18 eb21 fb21 tx22 g23 c24 tx25 g26 c27 tx28 g29 ⊢) <;> omega)) dX12_paste_51 ?_
          refine lv_topi (fun x30 ex30 => ?_)
          have tx30 : x30.toInt = (u0.2.2.1 a31 (p3.toNatClampNeg)).toInt := congrArg Int32.toInt ex30
          have g31 : 0 ≤ x30.toInt ∧ x30.toInt ≤ 3 := by have g := (hu a31 m_a31).2.2.2 (p3.toNatClampNeg); rw [k_a31] at g; rw [show x30 = _ from ex30]; exact g
          refine lv_icmp_eq (tgt := 58) hx hb dX12_paste_52 (by decide) (fun c32 => ?_) (fun c32 => ?_)
          · refine lv_iload_n hx hb dX12_paste_58 rfl (lv_at hl 2 rfl) ?_
            refine lv_if_lt (tgt := 107) hx hb dX12_paste_59 (by decide) (fun c33 => ?_) (fun c33 => ?_)
            · refine lv_bipush (v := (-7)) hx hb dX12_paste_107 (by decide) ?_
              exact W.iret (v := (-7)) hx hb hr (fun t ht hW => ⟨⟨(-7), u0, rfl, ⟨hu, hp, Or.inr ⟨(by ((try simp only [i_lt, i_le, i_eq, Int32.toInt_toInt64, Int32.reduceToInt, Int64.reduceToInt, true_and, and_true, false_and, and_false, false_or, or_false, true_or, or_true, not_true_eq_false, not_false_eq_true, ne_eq, forall_const, true_implies, false_implies, implies_true] at c16 eb18 fb18 c20 eb21 fb21 tx22 g23 c24 tx25 g26 c27 tx28 g29 tx30 g31 c32 c33 ⊢) <;> omega)), (by ((try simp only [i_lt, i_le, i_eq, Int32.toInt_toInt64, Int32.reduceToInt, Int64.reduceToInt, true_and, and_true, false_and, and_false, false_or, or_false, true_or, or_true, not_true_eq_false, not_false_eq_true, ne_eq, forall_const, true_implies, false_implies, implies_true] at c16 eb18 fb18 c20 eb21 fb21 tx22 g23 c24 tx25 g26 c27 tx28 g29 tx30 g31 c32 c33 ⊢) <;> omega)), (by ((try simp only [i_lt, i_le, i_eq, Int32.toInt_toInt64, Int32.reduceToInt, Int64.reduceToInt, true_and, and_true, false_and, and_false, false_or, or_false, true_or, or_true, not_true_eq_false, not_false_eq_true, ne_eq, forall_const, true_implies, false_implies, implies_true] at c16 eb18 fb18 c20 eb21 fb21 tx22 g23 c24 tx25 g26 c27 tx28 g29 tx30 g31 c32 c33 ⊢) <;> omega)), (by ((try simp only [i_lt, i_le, i_eq, Int32.toInt_toInt64, Int32.reduceToInt, Int64.reduceToInt, true_and, and_true, false_and, and_false, false_or, or_false, true_or, or_true, not_true_eq_false, not_false_eq_true, ne_eq, forall_const, true_implies, false_implies, implies_true] at c16 eb18 fb18 c20 eb21 fb21 tx22 g23 c24 tx25 g26 c27 tx28 g29 tx30 g31 c32 c33 ⊢) <;> omega)), a30, a31, q0_30, q0_31, (by unfold BPa; ((try simp only [i_lt, i_le, i_eq, Int32.toInt_toInt64, Int32.reduceToInt, Int64.reduceToInt, true_and, and_true, false_and, and_false, false_or, or_false, true_or, or_true, not_true_eq_false, not_false_eq_true, ne_eq, forall_const, true_implies, false_implies, implies_true] at c16 eb18 fb18 c20 eb21 fb21 tx22 g23 c24 tx25 g26 c27 tx28 g29 tx30 g31 c32 c33 ⊢) <;> omega))⟩⟩, by rw [ht]; exact hP, hD⟩, hS.F ht⟩) hS.2.2 dX12_paste_109
            · refine lv_iload hx hb dX12_paste_62 (lv_at hl 4 rfl) ?_
              refine lv_if_lt (tgt := 107) hx hb dX12_paste_64 (by decide) (fun c34 => ?_) (fun c34 => ?_)
              · refine lv_bipush (v := (-7)) hx hb dX12_paste_107 (by decide) ?_
                exact W.iret (v := (-7)) hx hb hr (fun t ht hW => ⟨⟨(-7), u0, rfl, ⟨hu, hp, Or.inr ⟨(by ((try simp only [i_lt, i_le, i_eq, Int32.toInt_toInt64, Int32.reduceToInt, Int64.reduceToInt, true_and, and_true, false_and, and_false, false_or, or_false, true_or, or_true, not_true_eq_false, not_false_eq_true, ne_eq, forall_const, true_implies, false_implies, implies_true] at c16 eb18 fb18 c20 eb21 fb21 tx22 g23 c24 tx25 g26 c27 tx28 g29 tx30 g31 c32 c33 c34 ⊢) <;> omega)), (by ((try simp only [i_lt, i_le, i_eq, Int32.toInt_toInt64, Int32.reduceToInt, Int64.reduceToInt, true_and, and_true, false_and, and_false, false_or, or_false, true_or, or_true, not_true_eq_false, not_false_eq_true, ne_eq, forall_const, true_implies, false_implies, implies_true] at c16 eb18 fb18 c20 eb21 fb21 tx22 g23 c24 tx25 g26 c27 tx28 g29 tx30 g31 c32 c33 c34 ⊢) <;> omega)), (by ((try simp only [i_lt, i_le, i_eq, Int32.toInt_toInt64, Int32.reduceToInt, Int64.reduceToInt, true_and, and_true, false_and, and_false, false_or, or_false, true_or, or_true, not_true_eq_false, not_false_eq_true, ne_eq, forall_const, true_implies, false_implies, implies_true] at c16 eb18 fb18 c20 eb21 fb21 tx22 g23 c24 tx25 g26 c27 tx28 g29 tx30 g31 c32 c33 c34 ⊢) <;> omega)), (by ((try simp only [i_lt, i_le, i_eq, Int32.toInt_toInt64, Int32.reduceToInt, Int64.reduceToInt, true_and, and_true, false_and, and_false, false_or, or_false, true_or, or_true, not_true_eq_false, not_false_eq_true, ne_eq, forall_const, true_implies, false_implies, implies_true] at c16 eb18 fb18 c20 eb21 fb21 tx22 g23 c24 tx25 g26 c27 tx28 g29 tx30 g31 c32 c33 c34 ⊢) <;> omega)), a30, a31, q0_30, q0_31, (by unfold BPa; ((try simp only [i_lt, i_le, i_eq, Int32.toInt_toInt64, Int32.reduceToInt, Int64.reduceToInt, true_and, and_true, false_and, and_false, false_or, or_false, true_or, or_true, not_true_eq_false, not_false_eq_true, ne_eq, forall_const, true_implies, false_implies, implies_true] at c16 eb18 fb18 c20 eb21 fb21 tx22 g23 c24 tx25 g26 c27 tx28 g29 tx30 g31 c32 c33 c34 ⊢) <;> omega))⟩⟩, by rw [ht]; exact hP, hD⟩, hS.F ht⟩) hS.2.2 dX12_paste_109
              · refine lv_iload hx hb dX12_paste_67 (lv_at hl 5 rfl) ?_
                refine lv_if_lt (tgt := 107) hx hb dX12_paste_69 (by decide) (fun c35 => ?_) (fun c35 => ?_)
                · refine lv_bipush (v := (-7)) hx hb dX12_paste_107 (by decide) ?_
                  exact W.iret (v := (-7)) hx hb hr (fun t ht hW => ⟨⟨(-7), u0, rfl, ⟨hu, hp, Or.inr ⟨(by ((try simp only [i_lt, i_le, i_eq, Int32.toInt_toInt64, Int32.reduceToInt, Int64.reduceToInt, true_and, and_true, false_and, and_false, false_or, or_false, true_or, or_true, not_true_eq_false, not_false_eq_true, ne_eq, forall_const, true_implies, false_implies, implies_true] at c16 eb18 fb18 c20 eb21 fb21 tx22 g23 c24 tx25 g26 c27 tx28 g29 tx30 g31 c32 c33 c34 c35 ⊢) <;> omega)), (by ((try simp only [i_lt, i_le, i_eq, Int32.toInt_toInt64, Int32.reduceToInt, Int64.reduceToInt, true_and, and_true, false_and, and_false, false_or, or_false, true_or, or_true, not_true_eq_false, not_false_eq_true, ne_eq, forall_const, true_implies, false_implies, implies_true] at c16 eb18 fb18 c20 eb21 fb21 tx22 g23 c24 tx25 g26 c27 tx28 g29 tx30 g31 c32 c33 c34 c35 ⊢) <;> omega)), (by ((try simp only [i_lt, i_le, i_eq, Int32.toInt_toInt64, Int32.reduceToInt, Int64.reduceToInt, true_and, and_true, false_and, and_false, false_or, or_false, true_or, or_true, not_true_eq_false, not_false_eq_true, ne_eq, forall_const, true_implies, false_implies, implies_true] at c16 eb18 fb18 c20 eb21 fb21 tx22 g23 c24 tx25 g26 c27 tx28 g29 tx30 g31 c32 c33 c34 c35 ⊢) <;> omega)), (by ((try simp only [i_lt, i_le, i_eq, Int32.toInt_toInt64, Int32.reduceToInt, Int64.reduceToInt, true_and, and_true, false_and, and_false, false_or, or_false, true_or, or_true, not_true_eq_false, not_false_eq_true, ne_eq, forall_const, true_implies, false_implies, implies_true] at c16 eb18 fb18 c20 eb21 fb21 tx22 g23 c24 tx25 g26 c27 tx28 g29 tx30 g31 c32 c33 c34 c35 ⊢) <;> omega)), a30, a31, q0_30, q0_31, (by unfold BPa; ((try simp only [i_lt, i_le, i_eq, Int32.toInt_toInt64, Int32.reduceToInt, Int64.reduceToInt, true_and, and_true, false_and, and_false, false_or, or_false, true_or, or_true, not_true_eq_false, not_false_eq_true, ne_eq, forall_const, true_implies, false_implies, implies_true] at c16 eb18 fb18 c20 eb21 fb21 tx22 g23 c24 tx25 g26 c27 tx28 g29 tx30 g31 c32 c33 c34 c35 ⊢) <;> omega))⟩⟩, by rw [ht]; exact hP, hD⟩, hS.F ht⟩) hS.2.2 dX12_paste_109
                · refine lv_iload_n hx hb dX12_paste_72 rfl (lv_at hl 2 rfl) ?_
                  refine lv_i2l hx hb dX12_paste_73 rfl ?_
                  have b36 := Int32.toInt_lt p2
                  have ab36 := Int32.le_toInt p2
                  refine lv_topl (fun x37 ex37 => ?_)
                  have tx37 : x37.toInt = p2.toInt := by rw [ex37]; exact Int32.toInt_toInt64 _
                  refine lv_iload hx hb dX12_paste_74 (lv_at hl 5 rfl) ?_
                  refine lv_i2l hx hb dX12_paste_76 rfl ?_
                  have b38 := Int32.toInt_lt p5
                  have ab38 := Int32.le_toInt p5
                  refine lv_topl (fun x39 ex39 => ?_)
                  have tx39 : x39.toInt = p5.toInt := by rw [ex39]; exact Int32.toInt_toInt64 _
                  refine lv_ladd hx hb dX12_paste_77 ?_
                  refine lv_topl (fun x40 ex40 => ?_)
                  have tx40 : x40.toInt = x37.toInt + x39.toInt := by rw [ex40]; exact l_add (by (try simp only [i_lt, i_le, i_eq, Int32.toInt_toInt64, Int32.reduceToInt, Int64.reduceToInt, true_and, and_true, false_and, and_false, false_or, or_false, true_or, or_true, not_true_eq_false, not_false_eq_true, ne_eq, forall_const, true_implies, false_implies, implies_true] at eb18 fb18 eb21 fb21 tx22 g23 c24 tx25 g26 c27 tx28 g29 tx30 g31 c32 c33 c34 c35 b36 ab36 tx37 b38 ab38 tx39 ⊢) <;> omega) (by (try simp only [i_lt, i_le, i_eq, Int32.toInt_toInt64, Int32.reduceToInt, Int64.reduceToInt, true_and, and_true, false_and, and_false, false_or, or_false, true_or, or_true, not_true_eq_false, not_false_eq_true, ne_eq, forall_const, true_implies, false_implies, implies_true] at eb18 fb18 eb21 fb21 tx22 g23 c24 tx25 g26 c27 tx28 g29 tx30 g31 c32 c33 c34 c35 b36 ab36 tx37 b38 ab38 tx39 ⊢) <;> omega)
                  refine lv_aload_n hx hb dX12_paste_78 rfl (lv_at hl 0 rfl) ?_
                  refine pget (ci := 12) (v := va_rf (u0.2.2.2.2 h0 30)) (C := RX12) (T := TX12) (N := 34) hx hb hts i_X12 hown hK hP m_h0 (cF12 k_h0) rfl 30 (by decide) (hts (.fieldLink RX12 61 "BellowsRowModel" "slotMany" "[I") (by decide +kernel)) (fun _ h9 => h9) rfl dX12_paste_79 ?_
                  refine W.eq (g2 := F0 m 82 ls [.ref a30, .long x40]) (by rw [(((hp h0 m0_h0).2.2.2.2.2.1 k0_h0 30).trans q0_30)]; rfl) ?_
                  refine lv_iload_n hx hb dX12_paste_82 rfl (lv_at hl 1 rfl) ?_
                  refine palI hx hb hK hP m_a30 (cF60 k_a30) 1 rfl (vp_in_iff.mpr (by (try simp only [i_lt, i_le, i_eq, Int32.toInt_toInt64, Int32.reduceToInt, Int64.reduceToInt, true_and, and_true, false_and, and_false, false_or, or_false, true_or, or_true, not_true_eq_false, not_false_eq_true, ne_eq, forall_const, true_implies, false_implies, implies_true] at eb18 fb18 eb21 fb21 tx22 g23 c24 tx25 g26 c27 tx28 g29 tx30 g31 c32 c33 c34 c35 b36 ab36 tx37 b38 ab38 tx39 tx40 ⊢) <;> omega)) dX12_paste_83 ?_
                  refine lv_topi (fun x41 ex41 => ?_)
                  have tx41 : x41.toInt = (u0.2.2.1 a30 (p1.toNatClampNeg)).toInt := congrArg Int32.toInt ex41
                  have g42 : -1 ≤ x41.toInt ∧ x41.toInt ≤ 60 := by have g := (hu a30 m_a30).2.2.2 (p1.toNatClampNeg); rw [k_a30] at g; rw [show x41 = _ from ex41]; exact g
                  refine lv_i2l hx hb dX12_paste_84 rfl ?_
                  refine lv_topl (fun x43 ex43 => ?_)
                  have tx43 : x43.toInt = x41.toInt := by rw [ex43]; exact Int32.toInt_toInt64 _
                  refine W.lcmp hx hb dX12_paste_85 ?_
                  refine lv_if_gt (tgt := 107) hx hb dX12_paste_86 (by decide) (fun c44 => ?_) (fun c44 => ?_)
                  · simp only [lg_cmp_lt, lg_cmp_gt, lg_cmp_le, lg_cmp_ge, lg_cmp_eq, Int64.lt_iff_toInt_lt, Int64.le_iff_toInt_le] at c44
                    refine lv_bipush (v := (-7)) hx hb dX12_paste_107 (by decide) ?_
                    exact W.iret (v := (-7)) hx hb hr (fun t ht hW => ⟨⟨(-7), u0, rfl, ⟨hu, hp, Or.inr ⟨(by ((try simp only [i_lt, i_le, i_eq, Int32.toInt_toInt64, Int32.reduceToInt, Int64.reduceToInt, true_and, and_true, false_and, and_false, false_or, or_false, true_or, or_true, not_true_eq_false, not_false_eq_true, ne_eq, forall_const, true_implies, false_implies, implies_true] at c16 eb18 fb18 c20 eb21 fb21 tx22 g23 c24 tx25 g26 c27 tx28 g29 tx30 g31 c32 c33 c34 c35 b36 ab36 tx37 b38 ab38 tx39 tx40 tx41 g42 tx43 c44 ⊢) <;> omega)), (by ((try simp only [i_lt, i_le, i_eq, Int32.toInt_toInt64, Int32.reduceToInt, Int64.reduceToInt, true_and, and_true, false_and, and_false, false_or, or_false, true_or, or_true, not_true_eq_false, not_false_eq_true, ne_eq, forall_const, true_implies, false_implies, implies_true] at c16 eb18 fb18 c20 eb21 fb21 tx22 g23 c24 tx25 g26 c27 tx28 g29 tx30 g31 c32 c33 c34 c35 b36 ab36 tx37 b38 ab38 tx39 tx40 tx41 g42 tx43 c44 ⊢) <;> omega)), (by ((try simp only [i_lt, i_le, i_eq, Int32.toInt_toInt64, Int32.reduceToInt, Int64.reduceToInt, true_and, and_true, false_and, and_false, false_or, or_false, true_or, or_true, not_true_eq_false, not_false_eq_true, ne_eq, forall_const, true_implies, false_implies, implies_true] at c16 eb18 fb18 c20 eb21 fb21 tx22 g23 c24 tx25 g26 c27 tx28 g29 tx30 g31 c32 c33 c34 c35 b36 ab36 tx37 b38 ab38 tx39 tx40 tx41 g42 tx43 c44 ⊢) <;> omega)), (by ((try simp only [i_lt, i_le, i_eq, Int32.toInt_toInt64, Int32.reduceToInt, Int64.reduceToInt, true_and, and_true, false_and, and_false, false_or, or_false, true_or, or_true, not_true_eq_false, not_false_eq_true, ne_eq, forall_const, true_implies, false_implies, implies_true] at c16 eb18 fb18 c20 eb21 fb21 tx22 g23 c24 tx25 g26 c27 tx28 g29 tx30 g31 c32 c33 c34 c35 b36 ab36 tx37 b38 ab38 tx39 tx40 tx41 g42 tx43 c44 ⊢) <;> omega)), a30, a31, q0_30, q0_31, (by unfold BPa; ((try simp only [i_lt, i_le, i_eq, Int32.toInt_toInt64, Int32.reduceToInt, Int64.reduceToInt, true_and, and_true, false_and, and_false, false_or, or_false, true_or, or_true, not_true_eq_false, not_false_eq_true, ne_eq, forall_const, true_implies, false_implies, implies_true] at c16 eb18 fb18 c20 eb21 fb21 tx22 g23 c24 tx25 g26 c27 tx28 g29 tx30 g31 c32 c33 c34 c35 b36 ab36 tx37 b38 ab38 tx39 tx40 tx41 g42 tx43 c44 ⊢) <;> omega))⟩⟩, by rw [ht]; exact hP, hD⟩, hS.F ht⟩) hS.2.2 dX12_paste_109
                  · simp only [lg_cmp_lt, lg_cmp_gt, lg_cmp_le, lg_cmp_ge, lg_cmp_eq, Int64.lt_iff_toInt_lt, Int64.le_iff_toInt_le] at c44
                    refine lv_iload hx hb dX12_paste_89 (lv_at hl 4 rfl) ?_
                    refine lv_i2l hx hb dX12_paste_91 rfl ?_
                    have b45 := Int32.toInt_lt p4
                    have ab45 := Int32.le_toInt p4
                    refine lv_topl (fun x46 ex46 => ?_)
                    have tx46 : x46.toInt = p4.toInt := by rw [ex46]; exact Int32.toInt_toInt64 _
                    refine lv_iload hx hb dX12_paste_92 (lv_at hl 5 rfl) ?_
                    refine lv_i2l hx hb dX12_paste_94 rfl ?_
                    have b47 := Int32.toInt_lt p5
                    have ab47 := Int32.le_toInt p5
                    refine lv_topl (fun x48 ex48 => ?_)
                    have tx48 : x48.toInt = p5.toInt := by rw [ex48]; exact Int32.toInt_toInt64 _
                    refine lv_ladd hx hb dX12_paste_95 ?_
                    refine lv_topl (fun x49 ex49 => ?_)
                    have tx49 : x49.toInt = x46.toInt + x48.toInt := by rw [ex49]; exact l_add (by (try simp only [i_lt, i_le, i_eq, Int32.toInt_toInt64, Int32.reduceToInt, Int64.reduceToInt, true_and, and_true, false_and, and_false, false_or, or_false, true_or, or_true, not_true_eq_false, not_false_eq_true, ne_eq, forall_const, true_implies, false_implies, implies_true] at eb18 fb18 eb21 fb21 tx22 g23 c24 tx25 g26 c27 tx28 g29 tx30 g31 c32 c33 c34 c35 b36 ab36 tx37 b38 ab38 tx39 tx40 tx41 g42 tx43 c44 b45 ab45 tx46 b47 ab47 tx48 ⊢) <;> omega) (by (try simp only [i_lt, i_le, i_eq, Int32.toInt_toInt64, Int32.reduceToInt, Int64.reduceToInt, true_and, and_true, false_and, and_false, false_or, or_false, true_or, or_true, not_true_eq_false, not_false_eq_true, ne_eq, forall_const, true_implies, false_implies, implies_true] at eb18 fb18 eb21 fb21 tx22 g23 c24 tx25 g26 c27 tx28 g29 tx30 g31 c32 c33 c34 c35 b36 ab36 tx37 b38 ab38 tx39 tx40 tx41 g42 tx43 c44 b45 ab45 tx46 b47 ab47 tx48 ⊢) <;> omega)
                    refine lv_aload_n hx hb dX12_paste_96 rfl (lv_at hl 0 rfl) ?_
                    refine pget (ci := 12) (v := va_rf (u0.2.2.2.2 h0 30)) (C := RX12) (T := TX12) (N := 34) hx hb hts i_X12 hown hK hP m_h0 (cF12 k_h0) rfl 30 (by decide) (hts (.fieldLink RX12 61 "BellowsRowModel" "slotMany" "[I") (by decide +kernel)) (fun _ h9 => h9) rfl dX12_paste_97 ?_
                    refine W.eq (g2 := F0 m 100 ls [.ref a30, .long x49]) (by rw [(((hp h0 m0_h0).2.2.2.2.2.1 k0_h0 30).trans q0_30)]; rfl) ?_
                    refine lv_iload_n hx hb dX12_paste_100 rfl (lv_at hl 3 rfl) ?_
                    refine palI hx hb hK hP m_a30 (cF60 k_a30) 1 rfl (vp_in_iff.mpr (by (try simp only [i_lt, i_le, i_eq, Int32.toInt_toInt64, Int32.reduceToInt, Int64.reduceToInt, true_and, and_true, false_and, and_false, false_or, or_false, true_or, or_true, not_true_eq_false, not_false_eq_true, ne_eq, forall_const, true_implies, false_implies, implies_true] at eb18 fb18 eb21 fb21 tx22 g23 c24 tx25 g26 c27 tx28 g29 tx30 g31 c32 c33 c34 c35 b36 ab36 tx37 b38 ab38 tx39 tx40 tx41 g42 tx43 c44 b45 ab45 tx46 b47 ab47 tx48 tx49 ⊢) <;> omega)) dX12_paste_101 ?_
                    refine lv_topi (fun x50 ex50 => ?_)
                    have tx50 : x50.toInt = (u0.2.2.1 a30 (p3.toNatClampNeg)).toInt := congrArg Int32.toInt ex50
                    have g51 : -1 ≤ x50.toInt ∧ x50.toInt ≤ 60 := by have g := (hu a30 m_a30).2.2.2 (p3.toNatClampNeg); rw [k_a30] at g; rw [show x50 = _ from ex50]; exact g
                    refine lv_i2l hx hb dX12_paste_102 rfl ?_
                    refine lv_topl (fun x52 ex52 => ?_)
                    have tx52 : x52.toInt = x50.toInt := by rw [ex52]; exact Int32.toInt_toInt64 _
                    refine W.lcmp hx hb dX12_paste_103 ?_
                    refine lv_if_le (tgt := 110) hx hb dX12_paste_104 (by decide) (fun c53 => ?_) (fun c53 => ?_)
                    · simp only [lg_cmp_lt, lg_cmp_gt, lg_cmp_le, lg_cmp_ge, lg_cmp_eq, Int64.lt_iff_toInt_lt, Int64.le_iff_toInt_le] at c53
                      refine lv_iconst (v := 0) hx hb dX12_paste_110 (by decide) ?_
                      refine lv_istore (lv' := [(6, .int 0), (0, .ref h0), (1, .int p1), (2, .int p2), (3, .int p3), (4, .int p4), (5, .int p5)]) hx hb dX12_paste_111 hl (by decide) rfl (fun ls hl => ?_)
                      exact B113 (Or.inr ⟨(by ((try simp only [i_lt, i_le, i_eq, Int32.toInt_toInt64, Int32.reduceToInt, Int64.reduceToInt, true_and, and_true, false_and, and_false, false_or, or_false, true_or, or_true, not_true_eq_false, not_false_eq_true, ne_eq, forall_const, true_implies, false_implies, implies_true] at c16 eb18 fb18 c20 eb21 fb21 tx22 g23 c24 tx25 g26 c27 tx28 g29 tx30 g31 c32 c33 c34 c35 b36 ab36 tx37 b38 ab38 tx39 tx40 tx41 g42 tx43 c44 b45 ab45 tx46 b47 ab47 tx48 tx49 tx50 g51 tx52 c53 ⊢) <;> omega)), (by ((try simp only [i_lt, i_le, i_eq, Int32.toInt_toInt64, Int32.reduceToInt, Int64.reduceToInt, true_and, and_true, false_and, and_false, false_or, or_false, true_or, or_true, not_true_eq_false, not_false_eq_true, ne_eq, forall_const, true_implies, false_implies, implies_true] at c16 eb18 fb18 c20 eb21 fb21 tx22 g23 c24 tx25 g26 c27 tx28 g29 tx30 g31 c32 c33 c34 c35 b36 ab36 tx37 b38 ab38 tx39 tx40 tx41 g42 tx43 c44 b45 ab45 tx46 b47 ab47 tx48 tx49 tx50 g51 tx52 c53 ⊢) <;> omega)), (by ((try simp only [i_lt, i_le, i_eq, Int32.toInt_toInt64, Int32.reduceToInt, Int64.reduceToInt, true_and, and_true, false_and, and_false, false_or, or_false, true_or, or_true, not_true_eq_false, not_false_eq_true, ne_eq, forall_const, true_implies, false_implies, implies_true] at c16 eb18 fb18 c20 eb21 fb21 tx22 g23 c24 tx25 g26 c27 tx28 g29 tx30 g31 c32 c33 c34 c35 b36 ab36 tx37 b38 ab38 tx39 tx40 tx41 g42 tx43 c44 b45 ab45 tx46 b47 ab47 tx48 tx49 tx50 g51 tx52 c53 ⊢) <;> omega)), (by ((try simp only [i_lt, i_le, i_eq, Int32.toInt_toInt64, Int32.reduceToInt, Int64.reduceToInt, true_and, and_true, false_and, and_false, false_or, or_false, true_or, or_true, not_true_eq_false, not_false_eq_true, ne_eq, forall_const, true_implies, false_implies, implies_true] at c16 eb18 fb18 c20 eb21 fb21 tx22 g23 c24 tx25 g26 c27 tx28 g29 tx30 g31 c32 c33 c34 c35 b36 ab36 tx37 b38 ab38 tx39 tx40 tx41 g42 tx43 c44 b45 ab45 tx46 b47 ab47 tx48 tx49 tx50 g51 tx52 c53 ⊢) <;> omega)), a30, a31, q0_30, q0_31, (by unfold BPa; ((try simp only [i_lt, i_le, i_eq, Int32.toInt_toInt64, Int32.reduceToInt, Int64.reduceToInt, true_and, and_true, false_and, and_false, false_or, or_false, true_or, or_true, not_true_eq_false, not_false_eq_true, ne_eq, forall_const, true_implies, false_implies, implies_true] at c16 eb18 fb18 c20 eb21 fb21 tx22 g23 c24 tx25 g26 c27 tx28 g29 tx30 g31 c32 c33 c34 c35 b36 ab36 tx37 b38 ab38 tx39 tx40 tx41 g42 tx43 c44 b45 ab45 tx46 b47 ab47 tx48 tx49 tx50 g51 tx52 c53 ⊢) <;> omega))⟩) _ _ _ _ ls p1 p2 p3 p4 p5 0 hu hp hP hD hS (Nat.le_refl _) (by (try simp only [i_lt, i_le, i_eq, Int32.toInt_toInt64, Int32.reduceToInt, Int64.reduceToInt, true_and, and_true, false_and, and_false, false_or, or_false, true_or, or_true, not_true_eq_false, not_false_eq_true, ne_eq, forall_const, true_implies, false_implies, implies_true] at eb18 fb18 eb21 fb21 tx22 g23 c24 tx25 g26 c27 tx28 g29 tx30 g31 c32 c33 c34 c35 b36 ab36 tx37 b38 ab38 tx39 tx40 tx41 g42 tx43 c44 b45 ab45 tx46 b47 ab47 tx48 tx49 tx50 g51 tx52 c53 ⊢) <;> omega) (by (try simp only [i_lt, i_le, i_eq, Int32.toInt_toInt64, Int32.reduceToInt, Int64.reduceToInt, true_and, and_true, false_and, and_false, false_or, or_false, true_or, or_true, not_true_eq_false, not_false_eq_true, ne_eq, forall_const, true_implies, false_implies, implies_true] at eb18 fb18 eb21 fb21 tx22 g23 c24 tx25 g26 c27 tx28 g29 tx30 g31 c32 c33 c34 c35 b36 ab36 tx37 b38 ab38 tx39 tx40 tx41 g42 tx43 c44 b45 ab45 tx46 b47 ab47 tx48 tx49 tx50 g51 tx52 c53 ⊢) <;> omega) (by (try simp only [i_lt, i_le, i_eq, Int32.toInt_toInt64, Int32.reduceToInt, Int64.reduceToInt, true_and, and_true, false_and, and_false, false_or, or_false, true_or, or_true, not_true_eq_false, not_false_eq_true, ne_eq, forall_const, true_implies, false_implies, implies_true] at eb18 fb18 eb21 fb21 tx22 g23 c24 tx25 g26 c27 tx28 g29 tx30 g31 c32 c33 c34 c35 b36 ab36 tx37 b38 ab38 tx39 tx40 tx41 g42 tx43 c44 b45 ab45 tx46 b47 ab47 tx48 tx49 tx50 g51 tx52 c53 ⊢) <;> omega) (by (try simp only [i_lt, i_le, i_eq, Int32.toInt_toInt64, Int32.reduceToInt, Int64.reduceToInt, true_and, and_true, false_and, and_false, false_or, or_false, true_or, or_true, not_true_eq_false, not_false_eq_true, ne_eq, forall_const, true_implies, false_implies, implies_true] at eb18 fb18 eb21 fb21 tx22 g23 c24 tx25 g26 c27 tx28 g29 tx30 g31 c32 c33 c34 c35 b36 ab36 tx37 b38 ab38 tx39 tx40 tx41 g42 tx43 c44 b45 ab45 tx46 b47 ab47 tx48 tx49 tx50 g51 tx52 c53 ⊢) <;> omega) (by (try simp only [i_lt, i_le, i_eq, Int32.toInt_toInt64, Int32.reduceToInt, Int64.reduceToInt, true_and, and_true, false_and, and_false, false_or, or_false, true_or, or_true, not_true_eq_false, not_false_eq_true, ne_eq, forall_const, true_implies, false_implies, implies_true] at eb18 fb18 eb21 fb21 tx22 g23 c24 tx25 g26 c27 tx28 g29 tx30 g31 c32 c33 c34 c35 b36 ab36 tx37 b38 ab38 tx39 tx40 tx41 g42 tx43 c44 b45 ab45 tx46 b47 ab47 tx48 tx49 tx50 g51 tx52 c53 ⊢) <;> omega) (by (try simp only [i_lt, i_le, i_eq, Int32.toInt_toInt64, Int32.reduceToInt, Int64.reduceToInt, true_and, and_true, false_and, and_false, false_or, or_false, true_or, or_true, not_true_eq_false, not_false_eq_true, ne_eq, forall_const, true_implies, false_implies, implies_true] at eb18 fb18 eb21 fb21 tx22 g23 c24 tx25 g26 c27 tx28 g29 tx30 g31 c32 c33 c34 c35 b36 ab36 tx37 b38 ab38 tx39 tx40 tx41 g42 tx43 c44 b45 ab45 tx46 b47 ab47 tx48 tx49 tx50 g51 tx52 c53 ⊢) <;> omega) (by (try simp only [i_lt, i_le, i_eq, Int32.toInt_toInt64, Int32.reduceToInt, Int64.reduceToInt, true_and, and_true, false_and, and_false, false_or, or_false, true_or, or_true, not_true_eq_false, not_false_eq_true, ne_eq, forall_const, true_implies, false_implies, implies_true] at eb18 fb18 eb21 fb21 tx22 g23 c24 tx25 g26 c27 tx28 g29 tx30 g31 c32 c33 c34 c35 b36 ab36 tx37 b38 ab38 tx39 tx40 tx41 g42 tx43 c44 b45 ab45 tx46 b47 ab47 tx48 tx49 tx50 g51 tx52 c53 ⊢) <;> omega) (by (try simp only [i_lt, i_le, i_eq, Int32.toInt_toInt64, Int32.reduceToInt, Int64.reduceToInt, true_and, and_true, false_and, and_false, false_or, or_false, true_or, or_true, not_true_eq_false, not_false_eq_true, ne_eq, forall_const, true_implies, false_implies, implies_true] at eb18 fb18 eb21 fb21 tx22 g23 c24 tx25 g26 c27 tx28 g29 tx30 g31 c32 c33 c34 c35 b36 ab36 tx37 b38 ab38 tx39 tx40 tx41 g42 tx43 c44 b45 ab45 tx46 b47 ab47 tx48 tx49 tx50 g51 tx52 c53 ⊢) <;> omega) (lv_sub hl [1, 2, 3, 4, 5, 6, 0] rfl)
                    · simp only [lg_cmp_lt, lg_cmp_gt, lg_cmp_le, lg_cmp_ge, lg_cmp_eq, Int64.lt_iff_toInt_lt, Int64.le_iff_toInt_le] at c53
                      refine lv_bipush (v := (-7)) hx hb dX12_paste_107 (by decide) ?_
                      exact W.iret (v := (-7)) hx hb hr (fun t ht hW => ⟨⟨(-7), u0, rfl, ⟨hu, hp, Or.inr ⟨(by ((try simp only [i_lt, i_le, i_eq, Int32.toInt_toInt64, Int32.reduceToInt, Int64.reduceToInt, true_and, and_true, false_and, and_false, false_or, or_false, true_or, or_true, not_true_eq_false, not_false_eq_true, ne_eq, forall_const, true_implies, false_implies, implies_true] at c16 eb18 fb18 c20 eb21 fb21 tx22 g23 c24 tx25 g26 c27 tx28 g29 tx30 g31 c32 c33 c34 c35 b36 ab36 tx37 b38 ab38 tx39 tx40 tx41 g42 tx43 c44 b45 ab45 tx46 b47 ab47 tx48 tx49 tx50 g51 tx52 c53 ⊢) <;> omega)), (by ((try simp only [i_lt, i_le, i_eq, Int32.toInt_toInt64, Int32.reduceToInt, Int64.reduceToInt, true_and, and_true, false_and, and_false, false_or, or_false, true_or, or_true, not_true_eq_false, not_false_eq_true, ne_eq, forall_const, true_implies, false_implies, implies_true] at c16 eb18 fb18 c20 eb21 fb21 tx22 g23 c24 tx25 g26 c27 tx28 g29 tx30 g31 c32 c33 c34 c35 b36 ab36 tx37 b38 ab38 tx39 tx40 tx41 g42 tx43 c44 b45 ab45 tx46 b47 ab47 tx48 tx49 tx50 g51 tx52 c53 ⊢) <;> omega)), (by ((try simp only [i_lt, i_le, i_eq, Int32.toInt_toInt64, Int32.reduceToInt, Int64.reduceToInt, true_and, and_true, false_and, and_false, false_or, or_false, true_or, or_true, not_true_eq_false, not_false_eq_true, ne_eq, forall_const, true_implies, false_implies, implies_true] at c16 eb18 fb18 c20 eb21 fb21 tx22 g23 c24 tx25 g26 c27 tx28 g29 tx30 g31 c32 c33 c34 c35 b36 ab36 tx37 b38 ab38 tx39 tx40 tx41 g42 tx43 c44 b45 ab45 tx46 b47 ab47 tx48 tx49 tx50 g51 tx52 c53 ⊢) <;> omega)), (by ((try simp only [i_lt, i_le, i_eq, Int32.toInt_toInt64, Int32.reduceToInt, Int64.reduceToInt, true_and, and_true, false_and, and_false, false_or, or_false, true_or, or_true, not_true_eq_false, not_false_eq_true, ne_eq, forall_const, true_implies, false_implies, implies_true] at c16 eb18 fb18 c20 eb21 fb21 tx22 g23 c24 tx25 g26 c27 tx28 g29 tx30 g31 c32 c33 c34 c35 b36 ab36 tx37 b38 ab38 tx39 tx40 tx41 g42 tx43 c44 b45 ab45 tx46 b47 ab47 tx48 tx49 tx50 g51 tx52 c53 ⊢) <;> omega)), a30, a31, q0_30, q0_31, (by unfold BPa; ((try simp only [i_lt, i_le, i_eq, Int32.toInt_toInt64, Int32.reduceToInt, Int64.reduceToInt, true_and, and_true, false_and, and_false, false_or, or_false, true_or, or_true, not_true_eq_false, not_false_eq_true, ne_eq, forall_const, true_implies, false_implies, implies_true] at c16 eb18 fb18 c20 eb21 fb21 tx22 g23 c24 tx25 g26 c27 tx28 g29 tx30 g31 c32 c33 c34 c35 b36 ab36 tx37 b38 ab38 tx39 tx40 tx41 g42 tx43 c44 b45 ab45 tx46 b47 ab47 tx48 tx49 tx50 g51 tx52 c53 ⊢) <;> omega))⟩⟩, by rw [ht]; exact hP, hD⟩, hS.F ht⟩) hS.2.2 dX12_paste_109
          · refine lv_bipush (v := (-8)) hx hb dX12_paste_55 (by decide) ?_
            exact W.iret (v := (-8)) hx hb hr (fun t ht hW => ⟨⟨(-8), u0, rfl, ⟨hu, hp, Or.inr ⟨(by ((try simp only [i_lt, i_le, i_eq, Int32.toInt_toInt64, Int32.reduceToInt, Int64.reduceToInt, true_and, and_true, false_and, and_false, false_or, or_false, true_or, or_true, not_true_eq_false, not_false_eq_true, ne_eq, forall_const, true_implies, false_implies, implies_true] at c16 eb18 fb18 c20 eb21 fb21 tx22 g23 c24 tx25 g26 c27 tx28 g29 tx30 g31 c32 ⊢) <;> omega)), (by ((try simp only [i_lt, i_le, i_eq, Int32.toInt_toInt64, Int32.reduceToInt, Int64.reduceToInt, true_and, and_true, false_and, and_false, false_or, or_false, true_or, or_true, not_true_eq_false, not_false_eq_true, ne_eq, forall_const, true_implies, false_implies, implies_true] at c16 eb18 fb18 c20 eb21 fb21 tx22 g23 c24 tx25 g26 c27 tx28 g29 tx30 g31 c32 ⊢) <;> omega)), (by ((try simp only [i_lt, i_le, i_eq, Int32.toInt_toInt64, Int32.reduceToInt, Int64.reduceToInt, true_and, and_true, false_and, and_false, false_or, or_false, true_or, or_true, not_true_eq_false, not_false_eq_true, ne_eq, forall_const, true_implies, false_implies, implies_true] at c16 eb18 fb18 c20 eb21 fb21 tx22 g23 c24 tx25 g26 c27 tx28 g29 tx30 g31 c32 ⊢) <;> omega)), (by ((try simp only [i_lt, i_le, i_eq, Int32.toInt_toInt64, Int32.reduceToInt, Int64.reduceToInt, true_and, and_true, false_and, and_false, false_or, or_false, true_or, or_true, not_true_eq_false, not_false_eq_true, ne_eq, forall_const, true_implies, false_implies, implies_true] at c16 eb18 fb18 c20 eb21 fb21 tx22 g23 c24 tx25 g26 c27 tx28 g29 tx30 g31 c32 ⊢) <;> omega)), a30, a31, q0_30, q0_31, (by unfold BPa; ((try simp only [i_lt, i_le, i_eq, Int32.toInt_toInt64, Int32.reduceToInt, Int64.reduceToInt, true_and, and_true, false_and, and_false, false_or, or_false, true_or, or_true, not_true_eq_false, not_false_eq_true, ne_eq, forall_const, true_implies, false_implies, implies_true] at c16 eb18 fb18 c20 eb21 fb21 tx22 g23 c24 tx25 g26 c27 tx28 g29 tx30 g31 c32 ⊢) <;> omega))⟩⟩, by rw [ht]; exact hP, hD⟩, hS.F ht⟩) hS.2.2 dX12_paste_57
        · refine lv_bipush (v := (-6)) hx hb dX12_paste_37 (by decide) ?_
          exact W.iret (v := (-6)) hx hb hr (fun t ht hW => ⟨⟨(-6), u0, rfl, ⟨hu, hp, Or.inr ⟨(by ((try simp only [i_lt, i_le, i_eq, Int32.toInt_toInt64, Int32.reduceToInt, Int64.reduceToInt, true_and, and_true, false_and, and_false, false_or, or_false, true_or, or_true, not_true_eq_false, not_false_eq_true, ne_eq, forall_const, true_implies, false_implies, implies_true] at c16 eb18 fb18 c20 eb21 fb21 tx22 g23 c24 tx25 g26 c27 ⊢) <;> omega)), (by ((try simp only [i_lt, i_le, i_eq, Int32.toInt_toInt64, Int32.reduceToInt, Int64.reduceToInt, true_and, and_true, false_and, and_false, false_or, or_false, true_or, or_true, not_true_eq_false, not_false_eq_true, ne_eq, forall_const, true_implies, false_implies, implies_true] at c16 eb18 fb18 c20 eb21 fb21 tx22 g23 c24 tx25 g26 c27 ⊢) <;> omega)), (by ((try simp only [i_lt, i_le, i_eq, Int32.toInt_toInt64, Int32.reduceToInt, Int64.reduceToInt, true_and, and_true, false_and, and_false, false_or, or_false, true_or, or_true, not_true_eq_false, not_false_eq_true, ne_eq, forall_const, true_implies, false_implies, implies_true] at c16 eb18 fb18 c20 eb21 fb21 tx22 g23 c24 tx25 g26 c27 ⊢) <;> omega)), (by ((try simp only [i_lt, i_le, i_eq, Int32.toInt_toInt64, Int32.reduceToInt, Int64.reduceToInt, true_and, and_true, false_and, and_false, false_or, or_false, true_or, or_true, not_true_eq_false, not_false_eq_true, ne_eq, forall_const, true_implies, false_implies, implies_true] at c16 eb18 fb18 c20 eb21 fb21 tx22 g23 c24 tx25 g26 c27 ⊢) <;> omega)), a30, a31, q0_30, q0_31, (by unfold BPa; ((try simp only [i_lt, i_le, i_eq, Int32.toInt_toInt64, Int32.reduceToInt, Int64.reduceToInt, true_and, and_true, false_and, and_false, false_or, or_false, true_or, or_true, not_true_eq_false, not_false_eq_true, ne_eq, forall_const, true_implies, false_implies, implies_true] at c16 eb18 fb18 c20 eb21 fb21 tx22 g23 c24 tx25 g26 c27 ⊢) <;> omega))⟩⟩, by rw [ht]; exact hP, hD⟩, hS.F ht⟩) hS.2.2 dX12_paste_39
    · have eb54 : r19.toInt = 0 := by rcases hr19 with ⟨q, -⟩ | ⟨q, -⟩; exact q; (exact absurd (c20) (fun w => by rw [w] at q; exact absurd q (by decide)))
      have fb54 : (p3.toInt < 0 ∨ 3 < p3.toInt) := by rcases hr19 with ⟨q, r⟩ | ⟨q, r⟩; exact r; exact absurd q (by omega)
      clear hr19
      refine lv_bipush (v := (-2)) hx hb dX12_paste_14 (by decide) ?_
      exact W.iret (v := (-2)) hx hb hr (fun t ht hW => ⟨⟨(-2), u0, rfl, ⟨hu, hp, Or.inl ⟨(by ((try simp only [i_lt, i_le, i_eq, Int32.toInt_toInt64, Int32.reduceToInt, Int64.reduceToInt, true_and, and_true, false_and, and_false, false_or, or_false, true_or, or_true, not_true_eq_false, not_false_eq_true, ne_eq, forall_const, true_implies, false_implies, implies_true] at c16 eb18 fb18 c20 eb54 fb54 ⊢) <;> omega)), by decide⟩⟩, by rw [ht]; exact hP, hD⟩, hS.F ht⟩) hS.2.2 dX12_paste_16
set_option maxHeartbeats 4000000 in
set_option maxRecDepth 100000 in
theorem t2_X12_keep (l : Launch) (D : va_G) (k : Nat → ClassId) (u0 : PSt) (hu : WT u0) (h0 : Nat) (m_h0 : h0 ∈ u0.1) (k_h0 : u0.2.1 h0 = 12) (p1 : Int32) (sz : Nat) : Met l yX12_keep wsX12_keep ({ frames := 1, cells := 0, slots := 0, locals := 25 }) (PreM D k sz (PW k u0) [.ref h0, .int p1]) (va_Qi (fun r v => WT v ∧ MY u0 v ∧ ((((p1.toInt < 0 ∨ 2 < p1.toInt) ∧ r.toInt = -2) ∨ (0 ≤ p1.toInt ∧ p1.toInt ≤ 2 ∧ r.toInt = 0)) ∧ (r.toInt ≠ 0 → v = u0) ∧ (r.toInt = 0 → ∃ hi, u0.2.2.2.2 h0 3 = some hi ∧ HG hi p1.toNatClampNeg u0 v))) (WB D (va_A (PW k u0) sz) (PW k)) (va_A (PW k u0) sz)) 0 0 (va_A (PW k u0) sz) := by
  refine Met.ofW (cc := cX12_keep) (maxL := 3) (ret := (some .int)) (by decide) rfl ?_
  intro p e s m args below meth c s₁ B hml hv
  obtain ⟨rfl, hsz, hP, hK, hD0, hN⟩ := hv
  have hx := B.exec
  have hb := B.bytes
  have hr := B.returns
  have hts := atoms_spec (ws := wsX12_keep) B.pre
  have hown : s.vm.findClass RX12 = some m.cls := findClass_of_methodNamed B.named
  have hlocks := B.notSynchronized
  have i_X12 : ∀ w ∈ wsX120, w ∈ wsX12_keep := by decide +kernel
  obtain ⟨a1, q0_1, m0_a1, k0_a1⟩ := (hu h0 m_h0).1 1 50 (by rw [k_h0]; rfl)
  obtain ⟨a2, q0_2, m0_a2, k0_a2⟩ := (hu h0 m_h0).1 2 52 (by rw [k_h0]; rfl)
  obtain ⟨a3, q0_3, m0_a3, k0_a3⟩ := (hu h0 m_h0).1 3 53 (by rw [k_h0]; rfl)
  have m0_h0 := m_h0
  have k0_h0 := k_h0
  have m_a1 := m0_a1
  have m_a2 := m0_a2
  have m_a3 := m0_a3
  have k_a1 := k0_a1
  have k_a2 := k0_a2
  have k_a3 := k0_a3
  subst hsz
  have hD := hD0.self (sz := s.heap.size)
  generalize hAe : va_A (PW k u0) s.heap.size = A at hD ⊢
  have hA : ∀ q : Nat, s.heap.size ≤ q → A q := fun q h => by rw [← hAe]; exact Or.inr h
  have hS : va_S A s.heap s.heap [] := va_S.rf
  have hp : MY u0 u0 := MY.rf
  have hz : PZ Nn NN (fun a s => a = a3 ∧ s = p1.toNatClampNeg) u0 u0 := PZ.rf
  have B17 : ∀ (n17 : Nat) (u : PSt) (H : Heap) (locs : List Loc) (ls : Array Slot) (v1 : Int32) (v2 : Int32), WT u → MY u0 u → PZ Nn NN (fun a s => a = a3 ∧ s = p1.toNatClampNeg) u0 u → va_P D vwCl (PW k u) H → va_D A (PW k u) → va_S A s.heap H locs → (2147483648 - v2.toInt).toNat ≤ n17 → 0 ≤ v1.toInt ∧ v1.toInt ≤ 2 → 0 ≤ v2.toInt ∧ v2.toInt ≤ 2482 → (v1.toInt = p1.toInt) → lv_has ls 3 [(0, .ref h0), (1, .int v1), (2, .int v2)] → W p l e (headSpec wsX12_keep ({ frames := 1, cells := 0, slots := 0, locals := 25 })).room s m ([.ref h0, .int p1] : List Value).toArray below meth c H locs 0 0 (MQ below (va_Qi (fun r v => WT v ∧ MY u0 v ∧ ((((p1.toInt < 0 ∨ 2 < p1.toInt) ∧ r.toInt = -2) ∨ (0 ≤ p1.toInt ∧ p1.toInt ≤ 2 ∧ r.toInt = 0)) ∧ (r.toInt ≠ 0 → v = u0) ∧ (r.toInt = 0 → ∃ hi, u0.2.2.2.2 h0 3 = some hi ∧ HG hi p1.toNatClampNeg u0 v))) (WB D A (PW k)) A) ([.ref h0, .int p1] : List Value).toArray s 0 0 A) (F0 m 17 ls []) := by
    intro n17
    induction n17 with
    | zero =>
      intro u H locs ls v1 v2 hu hp hz hP hD hS hn17 g_v1 g_v2 ex0 hl
      exact absurd hn17 (by have := Int32.toInt_lt v2; have := Int32.le_toInt v2; omega)
    | succ n17 ih17 =>
      intro u H locs ls v1 v2 hu hp hz hP hD hS hn17 g_v1 g_v2 ex0 hl
      refine lv_iload_n hx hb dX12_keep_17 rfl (lv_at hl 2 rfl) ?_
      refine lv_sipush (v := 2482) hx hb dX12_keep_18 (by decide) ?_
      refine lv_icmp_ge (tgt := 48) hx hb dX12_keep_21 (by decide) (fun c1 => ?_) (fun c1 => ?_)
      · refine lv_aload_n hx hb dX12_keep_48 rfl (lv_at hl 0 rfl) ?_
        have k_h0 : u.2.1 h0 = 12 := (hp h0 m0_h0).2.1.trans k0_h0
        have m_h0 : h0 ∈ u.1 := (hp h0 m0_h0).1
        have k_a3 : u.2.1 a3 = 53 := (hp a3 m0_a3).2.1.trans k0_a3
        have m_a3 : a3 ∈ u.1 := (hp a3 m0_a3).1
        refine pget (ci := 12) (v := va_rf (u.2.2.2.2 h0 3)) (C := RX12) (T := TX12) (N := 34) hx hb hts i_X12 hown hK hP m_h0 (cF12 k_h0) rfl 3 (by decide) (hts (.fieldLink RX12 20 "BellowsRowModel" "hasImage" "[Z") (by decide +kernel)) (fun _ h9 => h9) rfl dX12_keep_49 ?_
        refine W.eq (g2 := F0 m 52 ls [.ref a3]) (by rw [(((hp h0 m0_h0).2.2.2.2.2.1 k0_h0 3).trans q0_3)]; rfl) ?_
        refine lv_iload_n hx hb dX12_keep_52 rfl (lv_at hl 1 rfl) ?_
        refine lv_iconst (v := 1) hx hb dX12_keep_53 (by decide) ?_
        refine pasZ (u' := pSI u a3 (v1.toNatClampNeg) (vp_nar .boolean 1)) hx hb hK hP hD hS m_a3 (cF53 k_a3) 3 rfl (vp_in_iff.mpr (by (try simp only [i_lt, i_le, i_eq, Int32.toInt_toInt64, Int32.reduceToInt, Int64.reduceToInt, true_and, and_true, false_and, and_false, false_or, or_false, true_or, or_true, not_true_eq_false, not_false_eq_true, ne_eq, forall_const, true_implies, false_implies, implies_true] at g_v1 g_v2 ex0 hn17 c1 ⊢) <;> omega)) rfl (sF53 k_a3 _ _) dX12_keep_54 (fun H locs hP hD hS => ?_)
        have hu := WT.setI (a := a3) (s := (v1.toNatClampNeg)) (v := (vp_nar .boolean 1)) hu (by rw [k_a3]; exact (show 0 ≤ (vp_nar .boolean (1 : Int32)).toInt ∧ (vp_nar .boolean (1 : Int32)).toInt ≤ 1 from by decide))
        have hp := MY.setI (a := a3) (s := (v1.toNatClampNeg)) (v := (vp_nar .boolean 1)) hp (by rw [k_a3]; decide)
        have hz := PZ.setI (a := a3) (s := (v1.toNatClampNeg)) (v := (vp_nar .boolean 1)) hz (fun h => absurd (k_a3.symm.trans h) (by decide)) (fun _ => ⟨rfl, by rw [Int32.toInt_inj.mp ex0]⟩)
        obtain ⟨u2, hu2⟩ : ∃ z, z = pSI u a3 (v1.toNatClampNeg) (vp_nar .boolean 1) := ⟨_, rfl⟩
        rw [← hu2] at hP hD hu hp hz
        refine lv_iconst (v := 0) hx hb dX12_keep_55 (by decide) ?_
        exact W.iret (v := 0) hx hb hr (fun t ht hW => ⟨⟨0, u2, rfl, ⟨hu, hp, (show ((p1.toInt < 0 ∨ 2 < p1.toInt) ∧ (0 : Int) = -2) ∨ (0 ≤ p1.toInt ∧ p1.toInt ≤ 2 ∧ (0 : Int) = 0) from by (try simp only [i_lt, i_le, i_eq, Int32.toInt_toInt64, Int32.reduceToInt, Int64.reduceToInt, true_and, and_true, false_and, and_false, false_or, or_false, true_or, or_true, not_true_eq_false, not_false_eq_true, ne_eq, forall_const, true_implies, false_implies, implies_true] at g_v1 g_v2 ex0 hn17 c1 ⊢) <;> omega), ⟨fun h => absurd (by decide) h, fun _ => ⟨a3, q0_3, hz, by rw [hu2, ← Int32.toInt_inj.mp ex0]; exact (congrArg Int32.toInt pSI_at).trans (by decide)⟩⟩⟩, by rw [ht]; exact hP, hD⟩, hS.F ht⟩) hS.2.2 dX12_keep_56
      · refine lv_aload_n hx hb dX12_keep_24 rfl (lv_at hl 0 rfl) ?_
        have k_h0 : u.2.1 h0 = 12 := (hp h0 m0_h0).2.1.trans k0_h0
        have m_h0 : h0 ∈ u.1 := (hp h0 m0_h0).1
        have k_a2 : u.2.1 a2 = 52 := (hp a2 m0_a2).2.1.trans k0_a2
        have m_a2 : a2 ∈ u.1 := (hp a2 m0_a2).1
        refine pget (ci := 12) (v := va_rf (u.2.2.2.2 h0 2)) (C := RX12) (T := TX12) (N := 34) hx hb hts i_X12 hown hK hP m_h0 (cF12 k_h0) rfl 2 (by decide) (hts (.fieldLink RX12 17 "BellowsRowModel" "images" "[I") (by decide +kernel)) (fun _ h9 => h9) rfl dX12_keep_25 ?_
        refine W.eq (g2 := F0 m 28 ls [.ref a2]) (by rw [(((hp h0 m0_h0).2.2.2.2.2.1 k0_h0 2).trans q0_2)]; rfl) ?_
        refine lv_sipush (v := 2482) hx hb dX12_keep_28 (by decide) ?_
        refine lv_iload_n hx hb dX12_keep_31 rfl (lv_at hl 1 rfl) ?_
        refine lv_imul hx hb dX12_keep_32 ?_
        refine lv_topi (fun x3 ex3 => ?_)
        have tx3 : x3.toInt = 2482 * v1.toInt := by rw [ex3]; exact i_mulc (c := 2482) (by decide) ((show 0 ≤ v1.toInt ∧ v1.toInt ≤ 2 from by (try simp only [i_lt, i_le, i_eq, Int32.toInt_toInt64, Int32.reduceToInt, Int64.reduceToInt, true_and, and_true, false_and, and_false, false_or, or_false, true_or, or_true, not_true_eq_false, not_false_eq_true, ne_eq, forall_const, true_implies, false_implies, implies_true] at g_v1 g_v2 ex0 hn17 c1 ⊢) <;> omega)) (by decide)
        refine lv_iload_n hx hb dX12_keep_33 rfl (lv_at hl 2 rfl) ?_
        refine lv_iadd hx hb dX12_keep_34 ?_
        refine lv_topi (fun x4 ex4 => ?_)
        have tx4 : x4.toInt = x3.toInt + v2.toInt := by rw [ex4]; exact i_add (by (try simp only [i_lt, i_le, i_eq, Int32.toInt_toInt64, Int32.reduceToInt, Int64.reduceToInt, true_and, and_true, false_and, and_false, false_or, or_false, true_or, or_true, not_true_eq_false, not_false_eq_true, ne_eq, forall_const, true_implies, false_implies, implies_true] at g_v1 g_v2 ex0 hn17 c1 tx3 ⊢) <;> omega) (by (try simp only [i_lt, i_le, i_eq, Int32.toInt_toInt64, Int32.reduceToInt, Int64.reduceToInt, true_and, and_true, false_and, and_false, false_or, or_false, true_or, or_true, not_true_eq_false, not_false_eq_true, ne_eq, forall_const, true_implies, false_implies, implies_true] at g_v1 g_v2 ex0 hn17 c1 tx3 ⊢) <;> omega)
        refine lv_aload_n hx hb dX12_keep_35 rfl (lv_at hl 0 rfl) ?_
        have k_a1 : u.2.1 a1 = 50 := (hp a1 m0_a1).2.1.trans k0_a1
        have m_a1 : a1 ∈ u.1 := (hp a1 m0_a1).1
        refine pget (ci := 12) (v := va_rf (u.2.2.2.2 h0 1)) (C := RX12) (T := TX12) (N := 34) hx hb hts i_X12 hown hK hP m_h0 (cF12 k_h0) rfl 1 (by decide) (hts (.fieldLink RX12 13 "BellowsRowModel" "world" "[I") (by decide +kernel)) (fun _ h9 => h9) rfl dX12_keep_36 ?_
        refine W.eq (g2 := F0 m 39 ls [.ref a1, .int x4, .ref a2]) (by rw [(((hp h0 m0_h0).2.2.2.2.2.1 k0_h0 1).trans q0_1)]; rfl) ?_
        refine lv_iload_n hx hb dX12_keep_39 rfl (lv_at hl 2 rfl) ?_
        refine palI hx hb hK hP m_a1 (cF50 k_a1) 1 rfl (vp_in_iff.mpr (by (try simp only [i_lt, i_le, i_eq, Int32.toInt_toInt64, Int32.reduceToInt, Int64.reduceToInt, true_and, and_true, false_and, and_false, false_or, or_false, true_or, or_true, not_true_eq_false, not_false_eq_true, ne_eq, forall_const, true_implies, false_implies, implies_true] at g_v1 g_v2 ex0 hn17 c1 tx3 tx4 ⊢) <;> omega)) dX12_keep_40 ?_
        refine lv_topi (fun x5 ex5 => ?_)
        have tx5 : x5.toInt = (u.2.2.1 a1 (v2.toNatClampNeg)).toInt := congrArg Int32.toInt ex5
        have g6 : okW (v2.toNatClampNeg) x5 := by have g := (hu a1 m_a1).2.2.2 (v2.toNatClampNeg); rw [k_a1] at g; rw [show x5 = _ from ex5]; exact g
        refine pasI (u' := pSI u a2 (x4.toNatClampNeg) x5) hx hb hK hP hD hS m_a2 (cF52 k_a2) 1 rfl (vp_in_iff.mpr (by (try simp only [i_lt, i_le, i_eq, Int32.toInt_toInt64, Int32.reduceToInt, Int64.reduceToInt, true_and, and_true, false_and, and_false, false_or, or_false, true_or, or_true, not_true_eq_false, not_false_eq_true, ne_eq, forall_const, true_implies, false_implies, implies_true] at g_v1 g_v2 ex0 hn17 c1 tx3 tx4 tx5 ⊢) <;> omega)) rfl (sF52 k_a2 _ _) dX12_keep_41 (fun H locs hP hD hS => ?_)
        have hu := WT.setI (a := a2) (s := (x4.toNatClampNeg)) (v := x5) hu (by rw [k_a2]; exact (show okW ((x4.toNatClampNeg) % 2482) x5 from by have y : (x4.toNatClampNeg) % 2482 = (v2.toNatClampNeg) := (by have z1 := cl_int (x := x4) (by (try simp only [i_lt, i_le, i_eq, Int32.toInt_toInt64, Int32.reduceToInt, Int64.reduceToInt, true_and, and_true, false_and, and_false, false_or, or_false, true_or, or_true, not_true_eq_false, not_false_eq_true, ne_eq, forall_const, true_implies, false_implies, implies_true] at g_v1 g_v2 ex0 hn17 c1 tx3 tx4 tx5 ⊢) <;> omega); have z2 := cl_int (x := v2) (by (try simp only [i_lt, i_le, i_eq, Int32.toInt_toInt64, Int32.reduceToInt, Int64.reduceToInt, true_and, and_true, false_and, and_false, false_or, or_false, true_or, or_true, not_true_eq_false, not_false_eq_true, ne_eq, forall_const, true_implies, false_implies, implies_true] at g_v1 g_v2 ex0 hn17 c1 tx3 tx4 tx5 ⊢) <;> omega); (try simp only [i_lt, i_le, i_eq, Int32.toInt_toInt64, Int32.reduceToInt, Int64.reduceToInt, true_and, and_true, false_and, and_false, false_or, or_false, true_or, or_true, not_true_eq_false, not_false_eq_true, ne_eq, forall_const, true_implies, false_implies, implies_true] at g_v1 g_v2 ex0 hn17 c1 tx3 tx4 tx5 z1 z2 ⊢) <;> omega); rw [y]; exact g6))
        have hp := MY.setI (a := a2) (s := (x4.toNatClampNeg)) (v := x5) hp (by rw [k_a2]; decide)
        have hz := PZ.setI (a := a2) (s := (x4.toNatClampNeg)) (v := x5) hz (fun h => absurd (k_a2.symm.trans h) (by decide)) (fun h => by rw [k_a2] at h; exact absurd h (by decide))
        obtain ⟨u7, hu7⟩ : ∃ z, z = pSI u a2 (x4.toNatClampNeg) x5 := ⟨_, rfl⟩
        rw [← hu7] at hP hD hu hp hz
        obtain ⟨x8, ex8⟩ : ∃ y : Int32, y = v2 + 1 := ⟨_, rfl⟩
        have tx8 : x8.toInt = v2.toInt + 1 := by rw [ex8]; exact i_add (b := 1) (by (try simp only [i_lt, i_le, i_eq, Int32.toInt_toInt64, Int32.reduceToInt, Int64.reduceToInt, true_and, and_true, false_and, and_false, false_or, or_false, true_or, or_true, not_true_eq_false, not_false_eq_true, ne_eq, forall_const, true_implies, false_implies, implies_true] at g_v1 g_v2 ex0 hn17 c1 tx3 tx4 tx5 ⊢) <;> omega) (by (try simp only [i_lt, i_le, i_eq, Int32.toInt_toInt64, Int32.reduceToInt, Int64.reduceToInt, true_and, and_true, false_and, and_false, false_or, or_false, true_or, or_true, not_true_eq_false, not_false_eq_true, ne_eq, forall_const, true_implies, false_implies, implies_true] at g_v1 g_v2 ex0 hn17 c1 tx3 tx4 tx5 ⊢) <;> omega)
        refine lv_iinc (v := x8) (lv' := [(2, .int x8), (0, .ref h0), (1, .int v1)]) hx hb dX12_keep_42 hl (k := 2) rfl (by rw [ex8]; rfl) (by decide) rfl (fun ls hl => ?_)
        refine lv_goto (tgt := 17) hx hb dX12_keep_45 (by decide) ?_
        exact ih17 _ _ _ ls v1 x8 hu hp hz hP hD hS (by (try simp only [i_lt, i_le, i_eq, Int32.toInt_toInt64, Int32.reduceToInt, Int64.reduceToInt, true_and, and_true, false_and, and_false, false_or, or_false, true_or, or_true, not_true_eq_false, not_false_eq_true, ne_eq, forall_const, true_implies, false_implies, implies_true] at g_v1 g_v2 ex0 hn17 c1 tx3 tx4 tx5 tx8 ⊢) <;> omega) (by (try simp only [i_lt, i_le, i_eq, Int32.toInt_toInt64, Int32.reduceToInt, Int64.reduceToInt, true_and, and_true, false_and, and_false, false_or, or_false, true_or, or_true, not_true_eq_false, not_false_eq_true, ne_eq, forall_const, true_implies, false_implies, implies_true] at g_v1 g_v2 ex0 hn17 c1 tx3 tx4 tx5 tx8 ⊢) <;> omega) (by (try simp only [i_lt, i_le, i_eq, Int32.toInt_toInt64, Int32.reduceToInt, Int64.reduceToInt, true_and, and_true, false_and, and_false, false_or, or_false, true_or, or_true, not_true_eq_false, not_false_eq_true, ne_eq, forall_const, true_implies, false_implies, implies_true] at g_v1 g_v2 ex0 hn17 c1 tx3 tx4 tx5 tx8 ⊢) <;> omega) (by (try simp only [i_lt, i_le, i_eq, Int32.toInt_toInt64, Int32.reduceToInt, Int64.reduceToInt, true_and, and_true, false_and, and_false, false_or, or_false, true_or, or_true, not_true_eq_false, not_false_eq_true, ne_eq, forall_const, true_implies, false_implies, implies_true] at g_v1 g_v2 ex0 hn17 c1 tx3 tx4 tx5 tx8 ⊢) <;> omega) (lv_sub hl [1, 2, 0] rfl)
  have hl := lv_entry ([.ref h0, .int p1]) (n := 3) (Nat.le_of_ble_eq_true rfl)
  rw [lg_entry_eq]
  generalize (lg_sl ([.ref h0, .int p1]) ++ List.replicate (3 - (lg_sl ([.ref h0, .int p1])).length) Slot.unset).toArray = ls at hl ⊢
  have hl : lv_has ls 3 [(0, .ref h0), (1, .int p1)] := hl
  refine lv_iload_n hx hb dX12_keep_0 rfl (lv_at hl 1 rfl) ?_
  refine lv_i2l hx hb dX12_keep_1 rfl ?_
  have b9 := Int32.toInt_lt p1
  have ab9 := Int32.le_toInt p1
  refine lv_topl (fun x10 ex10 => ?_)
  have tx10 : x10.toInt = p1.toInt := by rw [ex10]; exact Int32.toInt_toInt64 _
  refine lv_lconst (v := 0) hx hb dX12_keep_2 (by decide) ?_
  refine lv_ldc2 (own := RX12) (v := 2) hx hb hown (hts (.constantLong RX12 74 (2)) (by decide +kernel)) dX12_keep_3 ?_
  refine psi (As := [.long x10, .long 0, .long 2]) (rest := []) ⟨hx, hb, hml, hown, hts⟩ (t_X12_in l D k x10 0 2) (va_cwS 3 hts gX12_keep_X12_in rfl rfl rfl (by decide +kernel) ⟨Nat.le_of_ble_eq_true rfl, Nat.le_of_ble_eq_true rfl⟩) hK rfl hl.1 rfl (Nat.le_of_ble_eq_true rfl) dX12_keep_6 ⟨Nat.le_of_ble_eq_true rfl, Nat.le_of_ble_eq_true rfl⟩ (fun r11 hr11 => ?_)
  refine lv_if_ne (tgt := 15) hx hb dX12_keep_9 (by decide) (fun c12 => ?_) (fun c12 => ?_)
  · have eb13 : r11.toInt = 1 := by rcases hr11 with ⟨q, -⟩ | ⟨q, -⟩; exact absurd (i_eq.mpr q) c12; exact q
    have fb13 : (0 : Int64).toInt ≤ x10.toInt ∧ x10.toInt ≤ (2 : Int64).toInt := by rcases hr11 with ⟨q, r⟩ | ⟨q, r⟩; exact absurd q (by omega); exact r
    clear hr11
    refine lv_iconst (v := 0) hx hb dX12_keep_15 (by decide) ?_
    refine lv_istore_n (lv' := [(2, .int 0), (0, .ref h0), (1, .int p1)]) hx hb dX12_keep_16 rfl hl (by decide) rfl (fun ls hl => ?_)
    exact B17 _ _ _ _ ls p1 0 hu hp hz hP hD hS (Nat.le_refl _) (by (try simp only [i_lt, i_le, i_eq, Int32.toInt_toInt64, Int32.reduceToInt, Int64.reduceToInt, true_and, and_true, false_and, and_false, false_or, or_false, true_or, or_true, not_true_eq_false, not_false_eq_true, ne_eq, forall_const, true_implies, false_implies, implies_true] at b9 ab9 tx10 eb13 fb13 ⊢) <;> omega) (by (try simp only [i_lt, i_le, i_eq, Int32.toInt_toInt64, Int32.reduceToInt, Int64.reduceToInt, true_and, and_true, false_and, and_false, false_or, or_false, true_or, or_true, not_true_eq_false, not_false_eq_true, ne_eq, forall_const, true_implies, false_implies, implies_true] at b9 ab9 tx10 eb13 fb13 ⊢) <;> omega) (by (try simp only [i_lt, i_le, i_eq, Int32.toInt_toInt64, Int32.reduceToInt, Int64.reduceToInt, true_and, and_true, false_and, and_false, false_or, or_false, true_or, or_true, not_true_eq_false, not_false_eq_true, ne_eq, forall_const, true_implies, false_implies, implies_true] at b9 ab9 tx10 eb13 fb13 ⊢) <;> omega) (lv_sub hl [1, 2, 0] rfl)
  · have eb14 : r11.toInt = 0 := by rcases hr11 with ⟨q, -⟩ | ⟨q, -⟩; exact q; (exact absurd (c12) (fun w => by rw [w] at q; exact absurd q (by decide)))
    have fb14 : (x10.toInt < (0 : Int64).toInt ∨ (2 : Int64).toInt < x10.toInt) := by rcases hr11 with ⟨q, r⟩ | ⟨q, r⟩; exact r; exact absurd q (by omega)
    clear hr11
    refine lv_bipush (v := (-2)) hx hb dX12_keep_12 (by decide) ?_
    exact W.iret (v := (-2)) hx hb hr (fun t ht hW => ⟨⟨(-2), u0, rfl, ⟨hu, hp, (show ((p1.toInt < 0 ∨ 2 < p1.toInt) ∧ (-2 : Int) = -2) ∨ (0 ≤ p1.toInt ∧ p1.toInt ≤ 2 ∧ (-2 : Int) = 0) from by (try simp only [i_lt, i_le, i_eq, Int32.toInt_toInt64, Int32.reduceToInt, Int64.reduceToInt, true_and, and_true, false_and, and_false, false_or, or_false, true_or, or_true, not_true_eq_false, not_false_eq_true, ne_eq, forall_const, true_implies, false_implies, implies_true] at b9 ab9 tx10 eb14 fb14 ⊢) <;> omega), ⟨fun _ => rfl, fun h => absurd h (by decide)⟩⟩, by rw [ht]; exact hP, hD⟩, hS.F ht⟩) hS.2.2 dX12_keep_14
set_option maxHeartbeats 4000000 in
set_option maxRecDepth 100000 in
theorem t2_X12_row (l : Launch) (D : va_G) (k : Nat → ClassId) (u0 : PSt) (hu : WT u0) (h0 : Nat) (m_h0 : h0 ∈ u0.1) (k_h0 : u0.2.1 h0 = 12) (p1 : Int32) (p2 : Int32) (p3 : Int32) (sz : Nat) : Met l yX12_row wsX12_row ({ frames := 2, cells := 0, slots := 0, locals := 45 }) (PreM D k sz (PW k u0) [.ref h0, .int p1, .int p2, .int p3]) (va_Qi (fun r v => WT v ∧ MY u0 v ∧ ((((p1.toInt < 0 ∨ 3 < p1.toInt ∨ p2.toInt < 0 ∨ 3 < p2.toInt ∨ 60 < p3.toInt) ∧ r.toInt = -2) ∨ (0 ≤ p1.toInt ∧ p1.toInt ≤ 3 ∧ 0 ≤ p2.toInt ∧ p2.toInt ≤ 3 ∧ p3.toInt ≤ 60 ∧ p3.toInt < 0 ∧ r.toInt = -3) ∨ (0 ≤ p1.toInt ∧ p1.toInt ≤ 3 ∧ 0 ≤ p2.toInt ∧ p2.toInt ≤ 3 ∧ 0 ≤ p3.toInt ∧ p3.toInt ≤ 60 ∧ r.toInt = 0)) ∧ (r.toInt ≠ 0 → v = u0) ∧ (r.toInt = 0 → ∃ sm wd, u0.2.2.2.2 h0 30 = some sm ∧ u0.2.2.2.2 h0 31 = some wd ∧ SG sm wd p1.toNatClampNeg p3 p2 u0 v))) (WB D (va_A (PW k u0) sz) (PW k)) (va_A (PW k u0) sz)) 0 0 (va_A (PW k u0) sz) := by
  refine Met.ofW (cc := cX12_row) (maxL := 5) (ret := (some .int)) (by decide) rfl ?_
  intro p e s m args below meth c s₁ B hml hv
  obtain ⟨rfl, hsz, hP, hK, hD0, hN⟩ := hv
  have hx := B.exec
  have hb := B.bytes
  have hr := B.returns
  have hts := atoms_spec (ws := wsX12_row) B.pre
  have hown : s.vm.findClass RX12 = some m.cls := findClass_of_methodNamed B.named
  have hlocks := B.notSynchronized
  have i_X12 : ∀ w ∈ wsX120, w ∈ wsX12_row := by decide +kernel
  obtain ⟨a30, q0_30, m0_a30, k0_a30⟩ := (hu h0 m_h0).1 30 60 (by rw [k_h0]; rfl)
  obtain ⟨a31, q0_31, m0_a31, k0_a31⟩ := (hu h0 m_h0).1 31 61 (by rw [k_h0]; rfl)
  obtain ⟨a32, q0_32, m0_a32, k0_a32⟩ := (hu h0 m_h0).1 32 62 (by rw [k_h0]; rfl)
  have m0_h0 := m_h0
  have k0_h0 := k_h0
  have m_a30 := m0_a30
  have m_a31 := m0_a31
  have m_a32 := m0_a32
  have k_a30 := k0_a30
  have k_a31 := k0_a31
  have k_a32 := k0_a32
  subst hsz
  have hD := hD0.self (sz := s.heap.size)
  generalize hAe : va_A (PW k u0) s.heap.size = A at hD ⊢
  have hA : ∀ q : Nat, s.heap.size ≤ q → A q := fun q h => by rw [← hAe]; exact Or.inr h
  have hS : va_S A s.heap s.heap [] := va_S.rf
  have hp : MY u0 u0 := MY.rf
  have B52 : ∀ (n52 : Nat) (u : PSt) (H : Heap) (locs : List Loc) (ls : Array Slot) (v1 : Int32) (v4 : Int32), WT u → MY u0 u → SG a30 a31 p1.toNatClampNeg p3 p2 u0 u → va_P D vwCl (PW k u) H → va_D A (PW k u) → va_S A s.heap H locs → (2147483648 - v4.toInt).toNat ≤ n52 → 0 ≤ v1.toInt ∧ v1.toInt ≤ 3 → 0 ≤ v4.toInt ∧ v4.toInt ≤ 60 → (v1.toInt = p1.toInt) → (0 ≤ p2.toInt ∧ p2.toInt ≤ 3) → (0 ≤ p3.toInt ∧ p3.toInt ≤ 60) → lv_has ls 5 [(0, .ref h0), (1, .int v1), (4, .int v4)] → W p l e (headSpec wsX12_row ({ frames := 2, cells := 0, slots := 0, locals := 45 })).room s m ([.ref h0, .int p1, .int p2, .int p3] : List Value).toArray below meth c H locs 0 0 (MQ below (va_Qi (fun r v => WT v ∧ MY u0 v ∧ ((((p1.toInt < 0 ∨ 3 < p1.toInt ∨ p2.toInt < 0 ∨ 3 < p2.toInt ∨ 60 < p3.toInt) ∧ r.toInt = -2) ∨ (0 ≤ p1.toInt ∧ p1.toInt ≤ 3 ∧ 0 ≤ p2.toInt ∧ p2.toInt ≤ 3 ∧ p3.toInt ≤ 60 ∧ p3.toInt < 0 ∧ r.toInt = -3) ∨ (0 ≤ p1.toInt ∧ p1.toInt ≤ 3 ∧ 0 ≤ p2.toInt ∧ p2.toInt ≤ 3 ∧ 0 ≤ p3.toInt ∧ p3.toInt ≤ 60 ∧ r.toInt = 0)) ∧ (r.toInt ≠ 0 → v = u0) ∧ (r.toInt = 0 → ∃ sm wd, u0.2.2.2.2 h0 30 = some sm ∧ u0.2.2.2.2 h0 31 = some wd ∧ SG sm wd p1.toNatClampNeg p3 p2 u0 v))) (WB D A (PW k)) A) ([.ref h0, .int p1, .int p2, .int p3] : List Value).toArray s 0 0 A) (F0 m 52 ls []) := by
    intro n52
    induction n52 with
    | zero =>
      intro u H locs ls v1 v4 hu hp hz hP hD hS hn52 g_v1 g_v4 ex0 ex1 ex2 hl
      exact absurd hn52 (by have := Int32.toInt_lt v4; have := Int32.le_toInt v4; omega)
    | succ n52 ih52 =>
      intro u H locs ls v1 v4 hu hp hz hP hD hS hn52 g_v1 g_v4 ex0 ex1 ex2 hl
      refine lv_iload hx hb dX12_row_52 (lv_at hl 2 rfl) ?_
      refine lv_bipush (v := 60) hx hb dX12_row_54 (by decide) ?_
      refine lv_icmp_ge (tgt := 78) hx hb dX12_row_56 (by decide) (fun c1 => ?_) (fun c1 => ?_)
      · refine lv_iconst (v := 0) hx hb dX12_row_78 (by decide) ?_
        exact W.iret (v := 0) hx hb hr (fun t ht hW => ⟨⟨0, u, rfl, ⟨hu, hp, (show ((p1.toInt < 0 ∨ 3 < p1.toInt ∨ p2.toInt < 0 ∨ 3 < p2.toInt ∨ 60 < p3.toInt) ∧ (0 : Int) = -2) ∨ (0 ≤ p1.toInt ∧ p1.toInt ≤ 3 ∧ 0 ≤ p2.toInt ∧ p2.toInt ≤ 3 ∧ p3.toInt ≤ 60 ∧ p3.toInt < 0 ∧ (0 : Int) = -3) ∨ (0 ≤ p1.toInt ∧ p1.toInt ≤ 3 ∧ 0 ≤ p2.toInt ∧ p2.toInt ≤ 3 ∧ 0 ≤ p3.toInt ∧ p3.toInt ≤ 60 ∧ (0 : Int) = 0) from by (try simp only [i_lt, i_le, i_eq, Int32.toInt_toInt64, Int32.reduceToInt, Int64.reduceToInt, true_and, and_true, false_and, and_false, false_or, or_false, true_or, or_true, not_true_eq_false, not_false_eq_true, ne_eq, forall_const, true_implies, false_implies, implies_true] at g_v1 g_v4 ex0 ex1 ex2 hn52 c1 ⊢) <;> omega), ⟨fun h => absurd (by decide) h, fun _ => ⟨a30, a31, q0_30, q0_31, hz⟩⟩⟩, by rw [ht]; exact hP, hD⟩, hS.F ht⟩) hS.2.2 dX12_row_79
      · refine lv_aload_n hx hb dX12_row_59 rfl (lv_at hl 0 rfl) ?_
        have k_h0 : u.2.1 h0 = 12 := (hp h0 m0_h0).2.1.trans k0_h0
        have m_h0 : h0 ∈ u.1 := (hp h0 m0_h0).1
        have k_a32 : u.2.1 a32 = 62 := (hp a32 m0_a32).2.1.trans k0_a32
        have m_a32 : a32 ∈ u.1 := (hp a32 m0_a32).1
        refine pget (ci := 12) (v := va_rf (u.2.2.2.2 h0 32)) (C := RX12) (T := TX12) (N := 34) hx hb hts i_X12 hown hK hP m_h0 (cF12 k_h0) rfl 32 (by decide) (hts (.fieldLink RX12 67 "BellowsRowModel" "numbers" "[J") (by decide +kernel)) (fun _ h9 => h9) rfl dX12_row_60 ?_
        refine W.eq (g2 := F0 m 63 ls [.ref a32]) (by rw [(((hp h0 m0_h0).2.2.2.2.2.1 k0_h0 32).trans q0_32)]; rfl) ?_
        refine lv_bipush (v := 60) hx hb dX12_row_63 (by decide) ?_
        refine lv_iload_n hx hb dX12_row_65 rfl (lv_at hl 1 rfl) ?_
        refine lv_imul hx hb dX12_row_66 ?_
        refine lv_topi (fun x2 ex2 => ?_)
        have tx2 : x2.toInt = 60 * v1.toInt := by rw [ex2]; exact i_mulc (c := 60) (by decide) ((show 0 ≤ v1.toInt ∧ v1.toInt ≤ 3 from by (try simp only [i_lt, i_le, i_eq, Int32.toInt_toInt64, Int32.reduceToInt, Int64.reduceToInt, true_and, and_true, false_and, and_false, false_or, or_false, true_or, or_true, not_true_eq_false, not_false_eq_true, ne_eq, forall_const, true_implies, false_implies, implies_true] at g_v1 g_v4 ex0 ex1 ex2 hn52 c1 ⊢) <;> omega)) (by decide)
        refine lv_iload hx hb dX12_row_67 (lv_at hl 2 rfl) ?_
        refine lv_iadd hx hb dX12_row_69 ?_
        refine lv_topi (fun x3 ex3 => ?_)
        have tx3 : x3.toInt = x2.toInt + v4.toInt := by rw [ex3]; exact i_add (by (try simp only [i_lt, i_le, i_eq, Int32.toInt_toInt64, Int32.reduceToInt, Int64.reduceToInt, true_and, and_true, false_and, and_false, false_or, or_false, true_or, or_true, not_true_eq_false, not_false_eq_true, ne_eq, forall_const, true_implies, false_implies, implies_true] at g_v1 g_v4 ex0 ex1 ex2 hn52 c1 tx2 ⊢) <;> omega) (by (try simp only [i_lt, i_le, i_eq, Int32.toInt_toInt64, Int32.reduceToInt, Int64.reduceToInt, true_and, and_true, false_and, and_false, false_or, or_false, true_or, or_true, not_true_eq_false, not_false_eq_true, ne_eq, forall_const, true_implies, false_implies, implies_true] at g_v1 g_v4 ex0 ex1 ex2 hn52 c1 tx2 ⊢) <;> omega)
        refine lv_lconst (v := 0) hx hb dX12_row_70 (by decide) ?_
        refine pasJ (u' := pSJ u a32 (x3.toNatClampNeg) 0) hx hb hK hP hD hS m_a32 (cF62 k_a32) 2 rfl (vp_in_iff.mpr (by (try simp only [i_lt, i_le, i_eq, Int32.toInt_toInt64, Int32.reduceToInt, Int64.reduceToInt, true_and, and_true, false_and, and_false, false_or, or_false, true_or, or_true, not_true_eq_false, not_false_eq_true, ne_eq, forall_const, true_implies, false_implies, implies_true] at g_v1 g_v4 ex0 ex1 ex2 hn52 c1 tx2 tx3 ⊢) <;> omega)) rfl (sF62 k_a32 _ _) dX12_row_71 (fun H locs hP hD hS => ?_)
        have hu := WT.setJ (a := a32) (s := (x3.toNatClampNeg)) (v := 0) hu
        have hp := MY.setJ (a := a32) (s := (x3.toNatClampNeg)) (v := 0) hp
        have hz : SG a30 a31 p1.toNatClampNeg p3 p2 u0 (pSJ u a32 (x3.toNatClampNeg) 0) := hz
        obtain ⟨u4, hu4⟩ : ∃ z, z = pSJ u a32 (x3.toNatClampNeg) 0 := ⟨_, rfl⟩
        rw [← hu4] at hP hD hu hp hz
        obtain ⟨x5, ex5⟩ : ∃ y : Int32, y = v4 + 1 := ⟨_, rfl⟩
        have tx5 : x5.toInt = v4.toInt + 1 := by rw [ex5]; exact i_add (b := 1) (by (try simp only [i_lt, i_le, i_eq, Int32.toInt_toInt64, Int32.reduceToInt, Int64.reduceToInt, true_and, and_true, false_and, and_false, false_or, or_false, true_or, or_true, not_true_eq_false, not_false_eq_true, ne_eq, forall_const, true_implies, false_implies, implies_true] at g_v1 g_v4 ex0 ex1 ex2 hn52 c1 tx2 tx3 ⊢) <;> omega) (by (try simp only [i_lt, i_le, i_eq, Int32.toInt_toInt64, Int32.reduceToInt, Int64.reduceToInt, true_and, and_true, false_and, and_false, false_or, or_false, true_or, or_true, not_true_eq_false, not_false_eq_true, ne_eq, forall_const, true_implies, false_implies, implies_true] at g_v1 g_v4 ex0 ex1 ex2 hn52 c1 tx2 tx3 ⊢) <;> omega)
        refine lv_iinc (v := x5) (lv' := [(4, .int x5), (0, .ref h0), (1, .int v1)]) hx hb dX12_row_72 hl (k := 2) rfl (by rw [ex5]; rfl) (by decide) rfl (fun ls hl => ?_)
        refine lv_goto (tgt := 52) hx hb dX12_row_75 (by decide) ?_
        exact ih52 _ _ _ ls v1 x5 hu hp hz hP hD hS (by (try simp only [i_lt, i_le, i_eq, Int32.toInt_toInt64, Int32.reduceToInt, Int64.reduceToInt, true_and, and_true, false_and, and_false, false_or, or_false, true_or, or_true, not_true_eq_false, not_false_eq_true, ne_eq, forall_const, true_implies, false_implies, implies_true] at g_v1 g_v4 ex0 ex1 ex2 hn52 c1 tx2 tx3 tx5 ⊢) <;> omega) (by (try simp only [i_lt, i_le, i_eq, Int32.toInt_toInt64, Int32.reduceToInt, Int64.reduceToInt, true_and, and_true, false_and, and_false, false_or, or_false, true_or, or_true, not_true_eq_false, not_false_eq_true, ne_eq, forall_const, true_implies, false_implies, implies_true] at g_v1 g_v4 ex0 ex1 ex2 hn52 c1 tx2 tx3 tx5 ⊢) <;> omega) (by (try simp only [i_lt, i_le, i_eq, Int32.toInt_toInt64, Int32.reduceToInt, Int64.reduceToInt, true_and, and_true, false_and, and_false, false_or, or_false, true_or, or_true, not_true_eq_false, not_false_eq_true, ne_eq, forall_const, true_implies, false_implies, implies_true] at g_v1 g_v4 ex0 ex1 ex2 hn52 c1 tx2 tx3 tx5 ⊢) <;> omega) (by (try simp only [i_lt, i_le, i_eq, Int32.toInt_toInt64, Int32.reduceToInt, Int64.reduceToInt, true_and, and_true, false_and, and_false, false_or, or_false, true_or, or_true, not_true_eq_false, not_false_eq_true, ne_eq, forall_const, true_implies, false_implies, implies_true] at g_v1 g_v4 ex0 ex1 ex2 hn52 c1 tx2 tx3 tx5 ⊢) <;> omega) (by (try simp only [i_lt, i_le, i_eq, Int32.toInt_toInt64, Int32.reduceToInt, Int64.reduceToInt, true_and, and_true, false_and, and_false, false_or, or_false, true_or, or_true, not_true_eq_false, not_false_eq_true, ne_eq, forall_const, true_implies, false_implies, implies_true] at g_v1 g_v4 ex0 ex1 ex2 hn52 c1 tx2 tx3 tx5 ⊢) <;> omega) (by (try simp only [i_lt, i_le, i_eq, Int32.toInt_toInt64, Int32.reduceToInt, Int64.reduceToInt, true_and, and_true, false_and, and_false, false_or, or_false, true_or, or_true, not_true_eq_false, not_false_eq_true, ne_eq, forall_const, true_implies, false_implies, implies_true] at g_v1 g_v4 ex0 ex1 ex2 hn52 c1 tx2 tx3 tx5 ⊢) <;> omega) (lv_sub hl [1, 2, 0] rfl)
  have hl := lv_entry ([.ref h0, .int p1, .int p2, .int p3]) (n := 5) (Nat.le_of_ble_eq_true rfl)
  rw [lg_entry_eq]
  generalize (lg_sl ([.ref h0, .int p1, .int p2, .int p3]) ++ List.replicate (5 - (lg_sl ([.ref h0, .int p1, .int p2, .int p3])).length) Slot.unset).toArray = ls at hl ⊢
  have hl : lv_has ls 5 [(0, .ref h0), (1, .int p1), (2, .int p2), (3, .int p3)] := hl
  refine lv_iload_n hx hb dX12_row_0 rfl (lv_at hl 1 rfl) ?_
  refine psi (As := [.int p1]) (rest := []) ⟨hx, hb, hml, hown, hts⟩ (t_X12_isSlot l D k p1) (va_cwS 1 hts gX12_row_X12_isSlot rfl rfl rfl (by decide +kernel) ⟨Nat.le_of_ble_eq_true rfl, Nat.le_of_ble_eq_true rfl⟩) hK rfl hl.1 rfl (Nat.le_of_ble_eq_true rfl) dX12_row_1 ⟨Nat.le_of_ble_eq_true rfl, Nat.le_of_ble_eq_true rfl⟩ (fun r6 hr6 => ?_)
  refine lv_if_eq (tgt := 25) hx hb dX12_row_4 (by decide) (fun c7 => ?_) (fun c7 => ?_)
  · have eb8 : r6.toInt = 0 := by rcases hr6 with ⟨q, -⟩ | ⟨q, -⟩; exact q; (exact absurd (c7) (fun w => by rw [w] at q; exact absurd q (by decide)))
    have fb8 : (p1.toInt < 0 ∨ 3 < p1.toInt) := by rcases hr6 with ⟨q, r⟩ | ⟨q, r⟩; exact r; exact absurd q (by omega)
    clear hr6
    refine lv_bipush (v := (-2)) hx hb dX12_row_25 (by decide) ?_
    exact W.iret (v := (-2)) hx hb hr (fun t ht hW => ⟨⟨(-2), u0, rfl, ⟨hu, hp, (show ((p1.toInt < 0 ∨ 3 < p1.toInt ∨ p2.toInt < 0 ∨ 3 < p2.toInt ∨ 60 < p3.toInt) ∧ (-2 : Int) = -2) ∨ (0 ≤ p1.toInt ∧ p1.toInt ≤ 3 ∧ 0 ≤ p2.toInt ∧ p2.toInt ≤ 3 ∧ p3.toInt ≤ 60 ∧ p3.toInt < 0 ∧ (-2 : Int) = -3) ∨ (0 ≤ p1.toInt ∧ p1.toInt ≤ 3 ∧ 0 ≤ p2.toInt ∧ p2.toInt ≤ 3 ∧ 0 ≤ p3.toInt ∧ p3.toInt ≤ 60 ∧ (-2 : Int) = 0) from by (try simp only [i_lt, i_le, i_eq, Int32.toInt_toInt64, Int32.reduceToInt, Int64.reduceToInt, true_and, and_true, false_and, and_false, false_or, or_false, true_or, or_true, not_true_eq_false, not_false_eq_true, ne_eq, forall_const, true_implies, false_implies, implies_true] at eb8 fb8 ⊢) <;> omega), ⟨fun _ => rfl, fun h => absurd h (by decide)⟩⟩, by rw [ht]; exact hP, hD⟩, hS.F ht⟩) hS.2.2 dX12_row_27
  · have eb9 : r6.toInt = 1 := by rcases hr6 with ⟨q, -⟩ | ⟨q, -⟩; exact absurd (i_eq.mpr q) c7; exact q
    have fb9 : 0 ≤ p1.toInt ∧ p1.toInt ≤ 3 := by rcases hr6 with ⟨q, r⟩ | ⟨q, r⟩; exact absurd q (by omega); exact r
    clear hr6
    refine lv_iload_n hx hb dX12_row_7 rfl (lv_at hl 2 rfl) ?_
    refine lv_i2l hx hb dX12_row_8 rfl ?_
    have b10 := Int32.toInt_lt p2
    have ab10 := Int32.le_toInt p2
    refine lv_topl (fun x11 ex11 => ?_)
    have tx11 : x11.toInt = p2.toInt := by rw [ex11]; exact Int32.toInt_toInt64 _
    refine lv_lconst (v := 0) hx hb dX12_row_9 (by decide) ?_
    refine lv_ldc2 (own := RX12) (v := 3) hx hb hown (hts (.constantLong RX12 334 (3)) (by decide +kernel)) dX12_row_10 ?_
    refine psi (As := [.long x11, .long 0, .long 3]) (rest := []) ⟨hx, hb, hml, hown, hts⟩ (t_X12_in l D k x11 0 3) (va_cwS 3 hts gX12_row_X12_in rfl rfl rfl (by decide +kernel) ⟨Nat.le_of_ble_eq_true rfl, Nat.le_of_ble_eq_true rfl⟩) hK rfl hl.1 rfl (Nat.le_of_ble_eq_true rfl) dX12_row_13 ⟨Nat.le_of_ble_eq_true rfl, Nat.le_of_ble_eq_true rfl⟩ (fun r12 hr12 => ?_)
    refine lv_if_eq (tgt := 25) hx hb dX12_row_16 (by decide) (fun c13 => ?_) (fun c13 => ?_)
    · have eb14 : r12.toInt = 0 := by rcases hr12 with ⟨q, -⟩ | ⟨q, -⟩; exact q; (exact absurd (c13) (fun w => by rw [w] at q; exact absurd q (by decide)))
      have fb14 : (x11.toInt < (0 : Int64).toInt ∨ (3 : Int64).toInt < x11.toInt) := by rcases hr12 with ⟨q, r⟩ | ⟨q, r⟩; exact r; exact absurd q (by omega)
      clear hr12
      refine lv_bipush (v := (-2)) hx hb dX12_row_25 (by decide) ?_
      exact W.iret (v := (-2)) hx hb hr (fun t ht hW => ⟨⟨(-2), u0, rfl, ⟨hu, hp, (show ((p1.toInt < 0 ∨ 3 < p1.toInt ∨ p2.toInt < 0 ∨ 3 < p2.toInt ∨ 60 < p3.toInt) ∧ (-2 : Int) = -2) ∨ (0 ≤ p1.toInt ∧ p1.toInt ≤ 3 ∧ 0 ≤ p2.toInt ∧ p2.toInt ≤ 3 ∧ p3.toInt ≤ 60 ∧ p3.toInt < 0 ∧ (-2 : Int) = -3) ∨ (0 ≤ p1.toInt ∧ p1.toInt ≤ 3 ∧ 0 ≤ p2.toInt ∧ p2.toInt ≤ 3 ∧ 0 ≤ p3.toInt ∧ p3.toInt ≤ 60 ∧ (-2 : Int) = 0) from by (try simp only [i_lt, i_le, i_eq, Int32.toInt_toInt64, Int32.reduceToInt, Int64.reduceToInt, true_and, and_true, false_and, and_false, false_or, or_false, true_or, or_true, not_true_eq_false, not_false_eq_true, ne_eq, forall_const, true_implies, false_implies, implies_true] at eb9 fb9 b10 ab10 tx11 eb14 fb14 ⊢) <;> omega), ⟨fun _ => rfl, fun h => absurd h (by decide)⟩⟩, by rw [ht]; exact hP, hD⟩, hS.F ht⟩) hS.2.2 dX12_row_27
    · have eb15 : r12.toInt = 1 := by rcases hr12 with ⟨q, -⟩ | ⟨q, -⟩; exact absurd (i_eq.mpr q) c13; exact q
      have fb15 : (0 : Int64).toInt ≤ x11.toInt ∧ x11.toInt ≤ (3 : Int64).toInt := by rcases hr12 with ⟨q, r⟩ | ⟨q, r⟩; exact absurd q (by omega); exact r
      clear hr12
      refine lv_iload_n hx hb dX12_row_19 rfl (lv_at hl 3 rfl) ?_
      refine lv_bipush (v := 60) hx hb dX12_row_20 (by decide) ?_
      refine lv_icmp_le (tgt := 28) hx hb dX12_row_22 (by decide) (fun c16 => ?_) (fun c16 => ?_)
      · refine lv_iload_n hx hb dX12_row_28 rfl (lv_at hl 3 rfl) ?_
        refine lv_if_ge (tgt := 35) hx hb dX12_row_29 (by decide) (fun c17 => ?_) (fun c17 => ?_)
        · refine lv_aload_n hx hb dX12_row_35 rfl (lv_at hl 0 rfl) ?_
          refine pget (ci := 12) (v := va_rf (u0.2.2.2.2 h0 30)) (C := RX12) (T := TX12) (N := 34) hx hb hts i_X12 hown hK hP m_h0 (cF12 k_h0) rfl 30 (by decide) (hts (.fieldLink RX12 61 "BellowsRowModel" "slotMany" "[I") (by decide +kernel)) (fun _ h9 => h9) rfl dX12_row_36 ?_
          refine W.eq (g2 := F0 m 39 ls [.ref a30]) (by rw [(((hp h0 m0_h0).2.2.2.2.2.1 k0_h0 30).trans q0_30)]; rfl) ?_
          refine lv_iload_n hx hb dX12_row_39 rfl (lv_at hl 1 rfl) ?_
          refine lv_iload_n hx hb dX12_row_40 rfl (lv_at hl 3 rfl) ?_
          refine pasI (u' := pSI u0 a30 (p1.toNatClampNeg) p3) hx hb hK hP hD hS m_a30 (cF60 k_a30) 1 rfl (vp_in_iff.mpr (by (try simp only [i_lt, i_le, i_eq, Int32.toInt_toInt64, Int32.reduceToInt, Int64.reduceToInt, true_and, and_true, false_and, and_false, false_or, or_false, true_or, or_true, not_true_eq_false, not_false_eq_true, ne_eq, forall_const, true_implies, false_implies, implies_true] at eb9 fb9 b10 ab10 tx11 eb15 fb15 c16 c17 ⊢) <;> omega)) rfl (sF60 k_a30 _ _) dX12_row_41 (fun H locs hP hD hS => ?_)
          have hu := WT.setI (a := a30) (s := (p1.toNatClampNeg)) (v := p3) hu (by rw [k_a30]; exact (show -1 ≤ p3.toInt ∧ p3.toInt ≤ 60 from by (try simp only [i_lt, i_le, i_eq, Int32.toInt_toInt64, Int32.reduceToInt, Int64.reduceToInt, true_and, and_true, false_and, and_false, false_or, or_false, true_or, or_true, not_true_eq_false, not_false_eq_true, ne_eq, forall_const, true_implies, false_implies, implies_true] at eb9 fb9 b10 ab10 tx11 eb15 fb15 c16 c17 ⊢) <;> omega))
          have hp := MY.setI (a := a30) (s := (p1.toNatClampNeg)) (v := p3) hp (by rw [k_a30]; decide)
          obtain ⟨u18, hu18⟩ : ∃ z, z = pSI u0 a30 (p1.toNatClampNeg) p3 := ⟨_, rfl⟩
          rw [← hu18] at hP hD hu hp
          refine lv_aload_n hx hb dX12_row_42 rfl (lv_at hl 0 rfl) ?_
          have k_h0 : u18.2.1 h0 = 12 := (hp h0 m0_h0).2.1.trans k0_h0
          have m_h0 : h0 ∈ u18.1 := (hp h0 m0_h0).1
          have k_a31 : u18.2.1 a31 = 61 := (hp a31 m0_a31).2.1.trans k0_a31
          have m_a31 : a31 ∈ u18.1 := (hp a31 m0_a31).1
          refine pget (ci := 12) (v := va_rf (u18.2.2.2.2 h0 31)) (C := RX12) (T := TX12) (N := 34) hx hb hts i_X12 hown hK hP m_h0 (cF12 k_h0) rfl 31 (by decide) (hts (.fieldLink RX12 64 "BellowsRowModel" "width" "[I") (by decide +kernel)) (fun _ h9 => h9) rfl dX12_row_43 ?_
          refine W.eq (g2 := F0 m 46 ls [.ref a31]) (by rw [(((hp h0 m0_h0).2.2.2.2.2.1 k0_h0 31).trans q0_31)]; rfl) ?_
          refine lv_iload_n hx hb dX12_row_46 rfl (lv_at hl 1 rfl) ?_
          refine lv_iload_n hx hb dX12_row_47 rfl (lv_at hl 2 rfl) ?_
          refine pasI (u' := pSI u18 a31 (p1.toNatClampNeg) p2) hx hb hK hP hD hS m_a31 (cF61 k_a31) 1 rfl (vp_in_iff.mpr (by (try simp only [i_lt, i_le, i_eq, Int32.toInt_toInt64, Int32.reduceToInt, Int64.reduceToInt, true_and, and_true, false_and, and_false, false_or, or_false, true_or, or_true, not_true_eq_false, not_false_eq_true, ne_eq, forall_const, true_implies, false_implies, implies_true] at eb9 fb9 b10 ab10 tx11 eb15 fb15 c16 c17 ⊢) <;> omega)) rfl (sF61 k_a31 _ _) dX12_row_48 (fun H locs hP hD hS => ?_)
          have hu := WT.setI (a := a31) (s := (p1.toNatClampNeg)) (v := p2) hu (by rw [k_a31]; exact (show 0 ≤ p2.toInt ∧ p2.toInt ≤ 3 from by (try simp only [i_lt, i_le, i_eq, Int32.toInt_toInt64, Int32.reduceToInt, Int64.reduceToInt, true_and, and_true, false_and, and_false, false_or, or_false, true_or, or_true, not_true_eq_false, not_false_eq_true, ne_eq, forall_const, true_implies, false_implies, implies_true] at eb9 fb9 b10 ab10 tx11 eb15 fb15 c16 c17 ⊢) <;> omega))
          have hp := MY.setI (a := a31) (s := (p1.toNatClampNeg)) (v := p2) hp (by rw [k_a31]; decide)
          obtain ⟨u19, hu19⟩ : ∃ z, z = pSI u18 a31 (p1.toNatClampNeg) p2 := ⟨_, rfl⟩
          rw [← hu19] at hP hD hu hp
          refine lv_iconst (v := 0) hx hb dX12_row_49 (by decide) ?_
          refine lv_istore (lv' := [(4, .int 0), (0, .ref h0), (1, .int p1), (2, .int p2), (3, .int p3)]) hx hb dX12_row_50 hl (by decide) rfl (fun ls hl => ?_)
          exact B52 _ _ _ _ ls p1 0 hu hp (by rw [hu19, hu18]; exact SG_mk k0_a30 k0_a31) hP hD hS (Nat.le_refl _) (by (try simp only [i_lt, i_le, i_eq, Int32.toInt_toInt64, Int32.reduceToInt, Int64.reduceToInt, true_and, and_true, false_and, and_false, false_or, or_false, true_or, or_true, not_true_eq_false, not_false_eq_true, ne_eq, forall_const, true_implies, false_implies, implies_true] at eb9 fb9 b10 ab10 tx11 eb15 fb15 c16 c17 ⊢) <;> omega) (by (try simp only [i_lt, i_le, i_eq, Int32.toInt_toInt64, Int32.reduceToInt, Int64.reduceToInt, true_and, and_true, false_and, and_false, false_or, or_false, true_or, or_true, not_true_eq_false, not_false_eq_true, ne_eq, forall_const, true_implies, false_implies, implies_true] at eb9 fb9 b10 ab10 tx11 eb15 fb15 c16 c17 ⊢) <;> omega) (by (try simp only [i_lt, i_le, i_eq, Int32.toInt_toInt64, Int32.reduceToInt, Int64.reduceToInt, true_and, and_true, false_and, and_false, false_or, or_false, true_or, or_true, not_true_eq_false, not_false_eq_true, ne_eq, forall_const, true_implies, false_implies, implies_true] at eb9 fb9 b10 ab10 tx11 eb15 fb15 c16 c17 ⊢) <;> omega) (by (try simp only [i_lt, i_le, i_eq, Int32.toInt_toInt64, Int32.reduceToInt, Int64.reduceToInt, true_and, and_true, false_and, and_false, false_or, or_false, true_or, or_true, not_true_eq_false, not_false_eq_true, ne_eq, forall_const, true_implies, false_implies, implies_true] at eb9 fb9 b10 ab10 tx11 eb15 fb15 c16 c17 ⊢) <;> omega) (by (try simp only [i_lt, i_le, i_eq, Int32.toInt_toInt64, Int32.reduceToInt, Int64.reduceToInt, true_and, and_true, false_and, and_false, false_or, or_false, true_or, or_true, not_true_eq_false, not_false_eq_true, ne_eq, forall_const, true_implies, false_implies, implies_true] at eb9 fb9 b10 ab10 tx11 eb15 fb15 c16 c17 ⊢) <;> omega) (lv_sub hl [1, 2, 0] rfl)
        · refine lv_bipush (v := (-3)) hx hb dX12_row_32 (by decide) ?_
          exact W.iret (v := (-3)) hx hb hr (fun t ht hW => ⟨⟨(-3), u0, rfl, ⟨hu, hp, (show ((p1.toInt < 0 ∨ 3 < p1.toInt ∨ p2.toInt < 0 ∨ 3 < p2.toInt ∨ 60 < p3.toInt) ∧ (-3 : Int) = -2) ∨ (0 ≤ p1.toInt ∧ p1.toInt ≤ 3 ∧ 0 ≤ p2.toInt ∧ p2.toInt ≤ 3 ∧ p3.toInt ≤ 60 ∧ p3.toInt < 0 ∧ (-3 : Int) = -3) ∨ (0 ≤ p1.toInt ∧ p1.toInt ≤ 3 ∧ 0 ≤ p2.toInt ∧ p2.toInt ≤ 3 ∧ 0 ≤ p3.toInt ∧ p3.toInt ≤ 60 ∧ (-3 : Int) = 0) from by (try simp only [i_lt, i_le, i_eq, Int32.toInt_toInt64, Int32.reduceToInt, Int64.reduceToInt, true_and, and_true, false_and, and_false, false_or, or_false, true_or, or_true, not_true_eq_false, not_false_eq_true, ne_eq, forall_const, true_implies, false_implies, implies_true] at eb9 fb9 b10 ab10 tx11 eb15 fb15 c16 c17 ⊢) <;> omega), ⟨fun _ => rfl, fun h => absurd h (by decide)⟩⟩, by rw [ht]; exact hP, hD⟩, hS.F ht⟩) hS.2.2 dX12_row_34
      · refine lv_bipush (v := (-2)) hx hb dX12_row_25 (by decide) ?_
        exact W.iret (v := (-2)) hx hb hr (fun t ht hW => ⟨⟨(-2), u0, rfl, ⟨hu, hp, (show ((p1.toInt < 0 ∨ 3 < p1.toInt ∨ p2.toInt < 0 ∨ 3 < p2.toInt ∨ 60 < p3.toInt) ∧ (-2 : Int) = -2) ∨ (0 ≤ p1.toInt ∧ p1.toInt ≤ 3 ∧ 0 ≤ p2.toInt ∧ p2.toInt ≤ 3 ∧ p3.toInt ≤ 60 ∧ p3.toInt < 0 ∧ (-2 : Int) = -3) ∨ (0 ≤ p1.toInt ∧ p1.toInt ≤ 3 ∧ 0 ≤ p2.toInt ∧ p2.toInt ≤ 3 ∧ 0 ≤ p3.toInt ∧ p3.toInt ≤ 60 ∧ (-2 : Int) = 0) from by (try simp only [i_lt, i_le, i_eq, Int32.toInt_toInt64, Int32.reduceToInt, Int64.reduceToInt, true_and, and_true, false_and, and_false, false_or, or_false, true_or, or_true, not_true_eq_false, not_false_eq_true, ne_eq, forall_const, true_implies, false_implies, implies_true] at eb9 fb9 b10 ab10 tx11 eb15 fb15 c16 ⊢) <;> omega), ⟨fun _ => rfl, fun h => absurd h (by decide)⟩⟩, by rw [ht]; exact hP, hD⟩, hS.F ht⟩) hS.2.2 dX12_row_27
