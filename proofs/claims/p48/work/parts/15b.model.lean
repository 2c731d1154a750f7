set_option maxHeartbeats 4000000 in
set_option maxRecDepth 100000 in
theorem t_X12_feed (l : Launch) (D : va_G) (k : Nat → ClassId) (u0 : PSt) (hu : WT u0) (h0 : Nat) (m_h0 : h0 ∈ u0.1) (k_h0 : u0.2.1 h0 = 12) (p1 : Int32) (p2 : Int32) (p3 : Int32) (p4 : Int32) (p5 : Int32) (sz : Nat) : Met l yX12_feed wsX12_feed ({ frames := 0, cells := 0, slots := 0, locals := 0 }) (PreM D k sz (PW k u0) [.ref h0, .int p1, .int p2, .int p3, .int p4, .int p5]) (va_Qi (fun r v => WT v ∧ PX u0 v ∧ (True)) (WB D (va_A (PW k u0) sz) (PW k)) (va_A (PW k u0) sz)) 0 0 (va_A (PW k u0) sz) := by
  refine Met.ofW (cc := cX12_feed) (maxL := 7) (ret := (some .int)) (by decide) rfl ?_
  intro p e s m args below meth c s₁ B hml hv
  obtain ⟨rfl, hsz, hP, hK, hD0, hN⟩ := hv
  have hx := B.exec
  have hb := B.bytes
  have hr := B.returns
  have hts := atoms_spec (ws := wsX12_feed) B.pre
  have hown : s.vm.findClass RX12 = some m.cls := findClass_of_methodNamed B.named
  have hlocks := B.notSynchronized
  have i_X12 : ∀ w ∈ wsX120, w ∈ wsX12_feed := by decide +kernel
  obtain ⟨a4, q0_4, m0_a4, k0_a4⟩ := (hu h0 m_h0).1 4 54 (by rw [k_h0]; rfl)
  obtain ⟨a6, q0_6, m0_a6, k0_a6⟩ := (hu h0 m_h0).1 6 55 (by rw [k_h0]; rfl)
  have m0_h0 := m_h0
  have k0_h0 := k_h0
  have m_a4 := m0_a4
  have m_a6 := m0_a6
  have k_a4 := k0_a4
  have k_a6 := k0_a6
  subst hsz
  have hD := hD0.self (sz := s.heap.size)
  generalize hAe : va_A (PW k u0) s.heap.size = A at hD ⊢
  have hA : ∀ q : Nat, s.heap.size ≤ q → A q := fun q h => by rw [← hAe]; exact Or.inr h
  have hS : va_S A s.heap s.heap [] := va_S.rf
  have hp : PX u0 u0 := PX.rf
  have B55 : ∀ (n55 : Nat) (u : PSt) (H : Heap) (locs : List Loc) (ls : Array Slot) (v6 : Int32), WT u → PX u0 u → va_P D vwCl (PW k u) H → va_D A (PW k u) → va_S A s.heap H locs → (2147483648 - v6.toInt).toNat ≤ n55 → 0 ≤ v6.toInt ∧ v6.toInt ≤ 20 → ((u.2.2.1 h0 5).toInt + 20 ≤ 1600) → lv_has ls 7 [(0, .ref h0), (6, .int v6)] → W p l e (headSpec wsX12_feed ({ frames := 0, cells := 0, slots := 0, locals := 0 })).room s m ([.ref h0, .int p1, .int p2, .int p3, .int p4, .int p5] : List Value).toArray below meth c H locs 0 0 (MQ below (va_Qi (fun r v => WT v ∧ PX u0 v ∧ (True)) (WB D A (PW k)) A) ([.ref h0, .int p1, .int p2, .int p3, .int p4, .int p5] : List Value).toArray s 0 0 A) (F0 m 55 ls []) := by
    intro n55
    induction n55 with
    | zero =>
      intro u H locs ls v6 hu hp hP hD hS hn55 g_v6 ex0 hl
      exact absurd hn55 (by have := Int32.toInt_lt v6; have := Int32.le_toInt v6; omega)
    | succ n55 ih55 =>
      intro u H locs ls v6 hu hp hP hD hS hn55 g_v6 ex0 hl
      refine lv_iload hx hb dX12_feed_55 (lv_at hl 1 rfl) ?_
      refine lv_bipush (v := 20) hx hb dX12_feed_57 (by decide) ?_
      refine lv_icmp_ge (tgt := 101) hx hb dX12_feed_59 (by decide) (fun c1 => ?_) (fun c1 => ?_)
      · refine lv_aload_n hx hb dX12_feed_101 rfl (lv_at hl 0 rfl) ?_
        refine lv_dup hx hb dX12_feed_102 rfl ?_
        have k_h0 : u.2.1 h0 = 12 := (hp h0 m0_h0).2.1.trans k0_h0
        have m_h0 : h0 ∈ u.1 := (hp h0 m0_h0).1
        refine pget (ci := 12) (v := .int (u.2.2.1 h0 5)) (C := RX12) (T := TX12) (N := 34) hx hb hts i_X12 hown hK hP m_h0 (cF12 k_h0) rfl 5 (by decide) (hts (.fieldLink RX12 82 "BellowsRowModel" "taped" "I") (by decide +kernel)) (fun _ h9 => h9) rfl dX12_feed_103 ?_
        have g2 := (hu h0 m_h0).2.2.2 5
        rw [k_h0] at g2
        replace g2 : 0 ≤ (u.2.2.1 h0 5).toInt ∧ (u.2.2.1 h0 5).toInt ≤ 1600 := g2
        refine lv_bipush (v := 20) hx hb dX12_feed_106 (by decide) ?_
        refine lv_iadd hx hb dX12_feed_108 ?_
        refine lv_topi (fun x3 ex3 => ?_)
        have tx3 : x3.toInt = (u.2.2.1 h0 5).toInt + (20 : Int32).toInt := by rw [ex3]; exact i_add (by (try simp only [i_lt, i_le, i_eq, Int32.toInt_toInt64, Int32.reduceToInt, Int64.reduceToInt, true_and, and_true, false_and, and_false, false_or, or_false, true_or, or_true, not_true_eq_false, not_false_eq_true, ne_eq, forall_const, true_implies, false_implies, implies_true] at g_v6 ex0 hn55 c1 g2 ⊢) <;> omega) (by (try simp only [i_lt, i_le, i_eq, Int32.toInt_toInt64, Int32.reduceToInt, Int64.reduceToInt, true_and, and_true, false_and, and_false, false_or, or_false, true_or, or_true, not_true_eq_false, not_false_eq_true, ne_eq, forall_const, true_implies, false_implies, implies_true] at g_v6 ex0 hn55 c1 g2 ⊢) <;> omega)
        refine pput (u' := pSI u h0 5 x3) (ci := 12) (v := .int x3) (ty := .int) (C := RX12) (T := TX12) (N := 34) hx hb hts i_X12 tyX12 tyX12_ok nmX12 hown hK hP hD hS m_h0 (cF12 k_h0) rfl 5 (by decide) (hts (.fieldLink RX12 82 "BellowsRowModel" "taped" "I") (by decide +kernel)) (fun _ h9 => h9) rfl (by decide +kernel) rfl rfl (Nat.le_of_ble_eq_true rfl) rfl (sF12_5 k_h0 x3) dX12_feed_109 (fun H locs hP hD hS => ?_)
        have hu := WT.setI (a := h0) (s := 5) (v := x3) hu (by rw [k_h0]; exact (show 0 ≤ x3.toInt ∧ x3.toInt ≤ 1600 from by (try simp only [i_lt, i_le, i_eq, Int32.toInt_toInt64, Int32.reduceToInt, Int64.reduceToInt, true_and, and_true, false_and, and_false, false_or, or_false, true_or, or_true, not_true_eq_false, not_false_eq_true, ne_eq, forall_const, true_implies, false_implies, implies_true] at g_v6 ex0 hn55 c1 g2 tx3 ⊢) <;> omega))
        have hp := PX.setI (a := h0) (s := 5) (v := x3) hp (by rw [k_h0]; decide)
        obtain ⟨u4, hu4⟩ : ∃ z, z = pSI u h0 5 x3 := ⟨_, rfl⟩
        rw [← hu4] at hP hD hu hp
        have w5 : (u4.2.2.1 h0 5).toInt = x3.toInt := by rw [hu4]; exact congrArg Int32.toInt (if_pos ⟨rfl, rfl⟩)
        refine lv_aload_n hx hb dX12_feed_112 rfl (lv_at hl 0 rfl) ?_
        have k_h0 : u4.2.1 h0 = 12 := (hp h0 m0_h0).2.1.trans k0_h0
        have m_h0 : h0 ∈ u4.1 := (hp h0 m0_h0).1
        refine pget (ci := 12) (v := .int (u4.2.2.1 h0 5)) (C := RX12) (T := TX12) (N := 34) hx hb hts i_X12 hown hK hP m_h0 (cF12 k_h0) rfl 5 (by decide) (hts (.fieldLink RX12 82 "BellowsRowModel" "taped" "I") (by decide +kernel)) (fun _ h9 => h9) rfl dX12_feed_113 ?_
        have g6 := (hu h0 m_h0).2.2.2 5
        rw [k_h0] at g6
        replace g6 : 0 ≤ (u4.2.2.1 h0 5).toInt ∧ (u4.2.2.1 h0 5).toInt ≤ 1600 := g6
        exact W.iret (v := (u4.2.2.1 h0 5)) hx hb hr (fun t ht hW => ⟨⟨(u4.2.2.1 h0 5), u4, rfl, ⟨hu, hp, trivial⟩, by rw [ht]; exact hP, hD⟩, hS.F ht⟩) hS.2.2 dX12_feed_116
      · refine lv_aload_n hx hb dX12_feed_62 rfl (lv_at hl 0 rfl) ?_
        have k_h0 : u.2.1 h0 = 12 := (hp h0 m0_h0).2.1.trans k0_h0
        have m_h0 : h0 ∈ u.1 := (hp h0 m0_h0).1
        have k_a4 : u.2.1 a4 = 54 := (hp a4 m0_a4).2.1.trans k0_a4
        have m_a4 : a4 ∈ u.1 := (hp a4 m0_a4).1
        refine pget (ci := 12) (v := va_rf (u.2.2.2.2 h0 4)) (C := RX12) (T := TX12) (N := 34) hx hb hts i_X12 hown hK hP m_h0 (cF12 k_h0) rfl 4 (by decide) (hts (.fieldLink RX12 24 "BellowsRowModel" "tape" "[B") (by decide +kernel)) (fun _ h9 => h9) rfl dX12_feed_63 ?_
        refine W.eq (g2 := F0 m 66 ls [.ref a4]) (by rw [(((hp h0 m0_h0).2.2.2.2.2.1 k0_h0 4).trans q0_4)]; rfl) ?_
        refine lv_aload_n hx hb dX12_feed_66 rfl (lv_at hl 0 rfl) ?_
        refine pget (ci := 12) (v := .int (u.2.2.1 h0 5)) (C := RX12) (T := TX12) (N := 34) hx hb hts i_X12 hown hK hP m_h0 (cF12 k_h0) rfl 5 (by decide) (hts (.fieldLink RX12 82 "BellowsRowModel" "taped" "I") (by decide +kernel)) (fun _ h9 => h9) rfl dX12_feed_67 ?_
        have g7 := (hu h0 m_h0).2.2.2 5
        rw [k_h0] at g7
        replace g7 : 0 ≤ (u.2.2.1 h0 5).toInt ∧ (u.2.2.1 h0 5).toInt ≤ 1600 := g7
        refine lv_iload hx hb dX12_feed_70 (lv_at hl 1 rfl) ?_
        refine lv_iadd hx hb dX12_feed_72 ?_
        refine lv_topi (fun x8 ex8 => ?_)
        have tx8 : x8.toInt = (u.2.2.1 h0 5).toInt + v6.toInt := by rw [ex8]; exact i_add (by (try simp only [i_lt, i_le, i_eq, Int32.toInt_toInt64, Int32.reduceToInt, Int64.reduceToInt, true_and, and_true, false_and, and_false, false_or, or_false, true_or, or_true, not_true_eq_false, not_false_eq_true, ne_eq, forall_const, true_implies, false_implies, implies_true] at g_v6 ex0 hn55 c1 g7 ⊢) <;> omega) (by (try simp only [i_lt, i_le, i_eq, Int32.toInt_toInt64, Int32.reduceToInt, Int64.reduceToInt, true_and, and_true, false_and, and_false, false_or, or_false, true_or, or_true, not_true_eq_false, not_false_eq_true, ne_eq, forall_const, true_implies, false_implies, implies_true] at g_v6 ex0 hn55 c1 g7 ⊢) <;> omega)
        refine lv_aload_n hx hb dX12_feed_73 rfl (lv_at hl 0 rfl) ?_
        have k_a6 : u.2.1 a6 = 55 := (hp a6 m0_a6).2.1.trans k0_a6
        have m_a6 : a6 ∈ u.1 := (hp a6 m0_a6).1
        refine pget (ci := 12) (v := va_rf (u.2.2.2.2 h0 6)) (C := RX12) (T := TX12) (N := 34) hx hb hts i_X12 hown hK hP m_h0 (cF12 k_h0) rfl 6 (by decide) (hts (.fieldLink RX12 28 "BellowsRowModel" "five" "[I") (by decide +kernel)) (fun _ h9 => h9) rfl dX12_feed_74 ?_
        refine W.eq (g2 := F0 m 77 ls [.ref a6, .int x8, .ref a4]) (by rw [(((hp h0 m0_h0).2.2.2.2.2.1 k0_h0 6).trans q0_6)]; rfl) ?_
        refine lv_iload hx hb dX12_feed_77 (lv_at hl 1 rfl) ?_
        refine lv_iconst (v := 4) hx hb dX12_feed_79 (by decide) ?_
        refine lv_idiv hx hb dX12_feed_80 (by decide) ?_
        refine lv_topi (fun x9 ex9 => ?_)
        have tx9 : x9.toInt = v6.toInt / 4 := by rw [ex9]; exact i_div (d := 4) (by (try simp only [i_lt, i_le, i_eq, Int32.toInt_toInt64, Int32.reduceToInt, Int64.reduceToInt, true_and, and_true, false_and, and_false, false_or, or_false, true_or, or_true, not_true_eq_false, not_false_eq_true, ne_eq, forall_const, true_implies, false_implies, implies_true] at g_v6 ex0 hn55 c1 g7 tx8 ⊢) <;> omega) (by decide) (by decide)
        refine palI hx hb hK hP m_a6 (cF55 k_a6) 1 rfl (vp_in_iff.mpr (by (try simp only [i_lt, i_le, i_eq, Int32.toInt_toInt64, Int32.reduceToInt, Int64.reduceToInt, true_and, and_true, false_and, and_false, false_or, or_false, true_or, or_true, not_true_eq_false, not_false_eq_true, ne_eq, forall_const, true_implies, false_implies, implies_true] at g_v6 ex0 hn55 c1 g7 tx8 tx9 ⊢) <;> omega)) dX12_feed_81 ?_
        refine lv_topi (fun x10 ex10 => ?_)
        have tx10 : x10.toInt = (u.2.2.1 a6 (x9.toNatClampNeg)).toInt := congrArg Int32.toInt ex10
        refine lv_bipush (v := 24) hx hb dX12_feed_82 (by decide) ?_
        refine lv_bipush (v := 8) hx hb dX12_feed_84 (by decide) ?_
        refine lv_iload hx hb dX12_feed_86 (lv_at hl 1 rfl) ?_
        refine lv_iconst (v := 4) hx hb dX12_feed_88 (by decide) ?_
        refine lv_irem hx hb dX12_feed_89 (by decide) ?_
        refine lv_topi (fun x11 ex11 => ?_)
        have tx11 : x11.toInt = v6.toInt % 4 := by rw [ex11]; exact i_rem (d := 4) (by (try simp only [i_lt, i_le, i_eq, Int32.toInt_toInt64, Int32.reduceToInt, Int64.reduceToInt, true_and, and_true, false_and, and_false, false_or, or_false, true_or, or_true, not_true_eq_false, not_false_eq_true, ne_eq, forall_const, true_implies, false_implies, implies_true] at g_v6 ex0 hn55 c1 g7 tx8 tx9 tx10 ⊢) <;> omega) (by decide) (by decide)
        refine lv_imul hx hb dX12_feed_90 ?_
        refine lv_topi (fun x12 ex12 => ?_)
        have tx12 : x12.toInt = 8 * x11.toInt := by rw [ex12]; exact i_mulc (c := 8) (by decide) ((show 0 ≤ x11.toInt ∧ x11.toInt ≤ 3 from by (try simp only [i_lt, i_le, i_eq, Int32.toInt_toInt64, Int32.reduceToInt, Int64.reduceToInt, true_and, and_true, false_and, and_false, false_or, or_false, true_or, or_true, not_true_eq_false, not_false_eq_true, ne_eq, forall_const, true_implies, false_implies, implies_true] at g_v6 ex0 hn55 c1 g7 tx8 tx9 tx10 tx11 ⊢) <;> omega)) (by decide)
        refine lv_isub hx hb dX12_feed_91 ?_
        refine lv_topi (fun x13 ex13 => ?_)
        have tx13 : x13.toInt = (24 : Int32).toInt - x12.toInt := by rw [ex13]; exact i_sub (by (try simp only [i_lt, i_le, i_eq, Int32.toInt_toInt64, Int32.reduceToInt, Int64.reduceToInt, true_and, and_true, false_and, and_false, false_or, or_false, true_or, or_true, not_true_eq_false, not_false_eq_true, ne_eq, forall_const, true_implies, false_implies, implies_true] at g_v6 ex0 hn55 c1 g7 tx8 tx9 tx10 tx11 tx12 ⊢) <;> omega) (by (try simp only [i_lt, i_le, i_eq, Int32.toInt_toInt64, Int32.reduceToInt, Int64.reduceToInt, true_and, and_true, false_and, and_false, false_or, or_false, true_or, or_true, not_true_eq_false, not_false_eq_true, ne_eq, forall_const, true_implies, false_implies, implies_true] at g_v6 ex0 hn55 c1 g7 tx8 tx9 tx10 tx11 tx12 ⊢) <;> omega)
        refine lv_ishr hx hb dX12_feed_92 ?_
        refine lv_topi (fun x14 ex14 => ?_)
        refine lv_i2b hx hb dX12_feed_93 rfl ?_
        refine lv_topi (fun x15 ex15 => ?_)
        refine pasB (u' := pSI u a4 (x8.toNatClampNeg) (vp_nar .byte x15)) hx hb hK hP hD hS m_a4 (cF54 k_a4) 0 rfl (vp_in_iff.mpr (by (try simp only [i_lt, i_le, i_eq, Int32.toInt_toInt64, Int32.reduceToInt, Int64.reduceToInt, true_and, and_true, false_and, and_false, false_or, or_false, true_or, or_true, not_true_eq_false, not_false_eq_true, ne_eq, forall_const, true_implies, false_implies, implies_true] at g_v6 ex0 hn55 c1 g7 tx8 tx9 tx10 tx11 tx12 tx13 ⊢) <;> omega)) rfl (sF54 k_a4 _ _) dX12_feed_94 (fun H locs hP hD hS => ?_)
        have hu := WT.setI (a := a4) (s := (x8.toNatClampNeg)) (v := (vp_nar .byte x15)) hu (by rw [k_a4]; exact trivial)
        have hp := PX.setI (a := a4) (s := (x8.toNatClampNeg)) (v := (vp_nar .byte x15)) hp (by rw [k_a4]; decide)
        obtain ⟨u16, hu16⟩ : ∃ z, z = pSI u a4 (x8.toNatClampNeg) (vp_nar .byte x15) := ⟨_, rfl⟩
        rw [← hu16] at hP hD hu hp
        have w17 : (u16.2.2.1 h0 5).toInt = (u.2.2.1 h0 5).toInt := by rw [hu16]; exact congrArg Int32.toInt (if_neg (fun q => by have y := q.1; have z := k_h0; rw [y, k_a4] at z; exact absurd z (by decide)))
        obtain ⟨x18, ex18⟩ : ∃ y : Int32, y = v6 + 1 := ⟨_, rfl⟩
        have tx18 : x18.toInt = v6.toInt + 1 := by rw [ex18]; exact i_add (b := 1) (by (try simp only [i_lt, i_le, i_eq, Int32.toInt_toInt64, Int32.reduceToInt, Int64.reduceToInt, true_and, and_true, false_and, and_false, false_or, or_false, true_or, or_true, not_true_eq_false, not_false_eq_true, ne_eq, forall_const, true_implies, false_implies, implies_true] at g_v6 ex0 hn55 c1 g7 tx8 tx9 tx10 tx11 tx12 tx13 w17 ⊢) <;> omega) (by (try simp only [i_lt, i_le, i_eq, Int32.toInt_toInt64, Int32.reduceToInt, Int64.reduceToInt, true_and, and_true, false_and, and_false, false_or, or_false, true_or, or_true, not_true_eq_false, not_false_eq_true, ne_eq, forall_const, true_implies, false_implies, implies_true] at g_v6 ex0 hn55 c1 g7 tx8 tx9 tx10 tx11 tx12 tx13 w17 ⊢) <;> omega)
        refine lv_iinc (v := x18) (lv' := [(6, .int x18), (0, .ref h0)]) hx hb dX12_feed_95 hl (k := 1) rfl (by rw [ex18]; rfl) (by decide) rfl (fun ls hl => ?_)
        refine lv_goto (tgt := 55) hx hb dX12_feed_98 (by decide) ?_
        exact ih55 _ _ _ ls x18 hu hp hP hD hS (by (try simp only [i_lt, i_le, i_eq, Int32.toInt_toInt64, Int32.reduceToInt, Int64.reduceToInt, true_and, and_true, false_and, and_false, false_or, or_false, true_or, or_true, not_true_eq_false, not_false_eq_true, ne_eq, forall_const, true_implies, false_implies, implies_true] at g_v6 ex0 hn55 c1 g7 tx8 tx9 tx10 tx11 tx12 tx13 w17 tx18 ⊢) <;> omega) (by (try simp only [i_lt, i_le, i_eq, Int32.toInt_toInt64, Int32.reduceToInt, Int64.reduceToInt, true_and, and_true, false_and, and_false, false_or, or_false, true_or, or_true, not_true_eq_false, not_false_eq_true, ne_eq, forall_const, true_implies, false_implies, implies_true] at g_v6 ex0 hn55 c1 g7 tx8 tx9 tx10 tx11 tx12 tx13 w17 tx18 ⊢) <;> omega) (by (try simp only [i_lt, i_le, i_eq, Int32.toInt_toInt64, Int32.reduceToInt, Int64.reduceToInt, true_and, and_true, false_and, and_false, false_or, or_false, true_or, or_true, not_true_eq_false, not_false_eq_true, ne_eq, forall_const, true_implies, false_implies, implies_true] at g_v6 ex0 hn55 c1 g7 tx8 tx9 tx10 tx11 tx12 tx13 w17 tx18 ⊢) <;> omega) (lv_sub hl [1, 0] rfl)
  have hl := lv_entry ([.ref h0, .int p1, .int p2, .int p3, .int p4, .int p5]) (n := 7) (Nat.le_of_ble_eq_true rfl)
  rw [lg_entry_eq]
  generalize (lg_sl ([.ref h0, .int p1, .int p2, .int p3, .int p4, .int p5]) ++ List.replicate (7 - (lg_sl ([.ref h0, .int p1, .int p2, .int p3, .int p4, .int p5])).length) Slot.unset).toArray = ls at hl ⊢
  have hl : lv_has ls 7 [(0, .ref h0), (1, .int p1), (2, .int p2), (3, .int p3), (4, .int p4), (5, .int p5)] := hl
  refine lv_aload_n hx hb dX12_feed_0 rfl (lv_at hl 0 rfl) ?_
  refine pget (ci := 12) (v := .int (u0.2.2.1 h0 5)) (C := RX12) (T := TX12) (N := 34) hx hb hts i_X12 hown hK hP m_h0 (cF12 k_h0) rfl 5 (by decide) (hts (.fieldLink RX12 82 "BellowsRowModel" "taped" "I") (by decide +kernel)) (fun _ h9 => h9) rfl dX12_feed_1 ?_
  have g19 := (hu h0 m_h0).2.2.2 5
  rw [k_h0] at g19
  replace g19 : 0 ≤ (u0.2.2.1 h0 5).toInt ∧ (u0.2.2.1 h0 5).toInt ≤ 1600 := g19
  refine lv_bipush (v := 20) hx hb dX12_feed_4 (by decide) ?_
  refine lv_iadd hx hb dX12_feed_6 ?_
  refine lv_topi (fun x20 ex20 => ?_)
  have tx20 : x20.toInt = (u0.2.2.1 h0 5).toInt + (20 : Int32).toInt := by rw [ex20]; exact i_add (by (try simp only [i_lt, i_le, i_eq, Int32.toInt_toInt64, Int32.reduceToInt, Int64.reduceToInt, true_and, and_true, false_and, and_false, false_or, or_false, true_or, or_true, not_true_eq_false, not_false_eq_true, ne_eq, forall_const, true_implies, false_implies, implies_true] at g19 ⊢) <;> omega) (by (try simp only [i_lt, i_le, i_eq, Int32.toInt_toInt64, Int32.reduceToInt, Int64.reduceToInt, true_and, and_true, false_and, and_false, false_or, or_false, true_or, or_true, not_true_eq_false, not_false_eq_true, ne_eq, forall_const, true_implies, false_implies, implies_true] at g19 ⊢) <;> omega)
  refine lv_sipush (v := 1600) hx hb dX12_feed_7 (by decide) ?_
  refine lv_icmp_le (tgt := 15) hx hb dX12_feed_10 (by decide) (fun c21 => ?_) (fun c21 => ?_)
  · refine lv_aload_n hx hb dX12_feed_15 rfl (lv_at hl 0 rfl) ?_
    refine pget (ci := 12) (v := va_rf (u0.2.2.2.2 h0 6)) (C := RX12) (T := TX12) (N := 34) hx hb hts i_X12 hown hK hP m_h0 (cF12 k_h0) rfl 6 (by decide) (hts (.fieldLink RX12 28 "BellowsRowModel" "five" "[I") (by decide +kernel)) (fun _ h9 => h9) rfl dX12_feed_16 ?_
    refine W.eq (g2 := F0 m 19 ls [.ref a6]) (by rw [(((hp h0 m0_h0).2.2.2.2.2.1 k0_h0 6).trans q0_6)]; rfl) ?_
    refine lv_iconst (v := 0) hx hb dX12_feed_19 (by decide) ?_
    refine lv_iload_n hx hb dX12_feed_20 rfl (lv_at hl 1 rfl) ?_
    refine pasI (u' := pSI u0 a6 0 p1) hx hb hK hP hD hS m_a6 (cF55 k_a6) 1 rfl (vp_in_iff.mpr (by decide)) rfl (sF55 k_a6 _ _) dX12_feed_21 (fun H locs hP hD hS => ?_)
    have hu := WT.setI (a := a6) (s := 0) (v := p1) hu (by rw [k_a6]; exact trivial)
    have hp := PX.setI (a := a6) (s := 0) (v := p1) hp (by rw [k_a6]; decide)
    obtain ⟨u22, hu22⟩ : ∃ z, z = pSI u0 a6 0 p1 := ⟨_, rfl⟩
    rw [← hu22] at hP hD hu hp
    have w23 : (u22.2.2.1 h0 5).toInt = (u0.2.2.1 h0 5).toInt := by rw [hu22]; exact congrArg Int32.toInt (if_neg (fun q => by have y := q.1; have z := k_h0; rw [y, k_a6] at z; exact absurd z (by decide)))
    refine lv_aload_n hx hb dX12_feed_22 rfl (lv_at hl 0 rfl) ?_
    have k_h0 : u22.2.1 h0 = 12 := (hp h0 m0_h0).2.1.trans k0_h0
    have m_h0 : h0 ∈ u22.1 := (hp h0 m0_h0).1
    have k_a6 : u22.2.1 a6 = 55 := (hp a6 m0_a6).2.1.trans k0_a6
    have m_a6 : a6 ∈ u22.1 := (hp a6 m0_a6).1
    refine pget (ci := 12) (v := va_rf (u22.2.2.2.2 h0 6)) (C := RX12) (T := TX12) (N := 34) hx hb hts i_X12 hown hK hP m_h0 (cF12 k_h0) rfl 6 (by decide) (hts (.fieldLink RX12 28 "BellowsRowModel" "five" "[I") (by decide +kernel)) (fun _ h9 => h9) rfl dX12_feed_23 ?_
    refine W.eq (g2 := F0 m 26 ls [.ref a6]) (by rw [(((hp h0 m0_h0).2.2.2.2.2.1 k0_h0 6).trans q0_6)]; rfl) ?_
    refine lv_iconst (v := 1) hx hb dX12_feed_26 (by decide) ?_
    refine lv_iload_n hx hb dX12_feed_27 rfl (lv_at hl 2 rfl) ?_
    refine pasI (u' := pSI u22 a6 1 p2) hx hb hK hP hD hS m_a6 (cF55 k_a6) 1 rfl (vp_in_iff.mpr (by decide)) rfl (sF55 k_a6 _ _) dX12_feed_28 (fun H locs hP hD hS => ?_)
    have hu := WT.setI (a := a6) (s := 1) (v := p2) hu (by rw [k_a6]; exact trivial)
    have hp := PX.setI (a := a6) (s := 1) (v := p2) hp (by rw [k_a6]; decide)
    obtain ⟨u24, hu24⟩ : ∃ z, z = pSI u22 a6 1 p2 := ⟨_, rfl⟩
    rw [← hu24] at hP hD hu hp
    have w25 : (u24.2.2.1 h0 5).toInt = (u22.2.2.1 h0 5).toInt := by rw [hu24]; exact congrArg Int32.toInt (if_neg (fun q => by have y := q.1; have z := k_h0; rw [y, k_a6] at z; exact absurd z (by decide)))
    refine lv_aload_n hx hb dX12_feed_29 rfl (lv_at hl 0 rfl) ?_
    have k_h0 : u24.2.1 h0 = 12 := (hp h0 m0_h0).2.1.trans k0_h0
    have m_h0 : h0 ∈ u24.1 := (hp h0 m0_h0).1
    have k_a6 : u24.2.1 a6 = 55 := (hp a6 m0_a6).2.1.trans k0_a6
    have m_a6 : a6 ∈ u24.1 := (hp a6 m0_a6).1
    refine pget (ci := 12) (v := va_rf (u24.2.2.2.2 h0 6)) (C := RX12) (T := TX12) (N := 34) hx hb hts i_X12 hown hK hP m_h0 (cF12 k_h0) rfl 6 (by decide) (hts (.fieldLink RX12 28 "BellowsRowModel" "five" "[I") (by decide +kernel)) (fun _ h9 => h9) rfl dX12_feed_30 ?_
    refine W.eq (g2 := F0 m 33 ls [.ref a6]) (by rw [(((hp h0 m0_h0).2.2.2.2.2.1 k0_h0 6).trans q0_6)]; rfl) ?_
    refine lv_iconst (v := 2) hx hb dX12_feed_33 (by decide) ?_
    refine lv_iload_n hx hb dX12_feed_34 rfl (lv_at hl 3 rfl) ?_
    refine pasI (u' := pSI u24 a6 2 p3) hx hb hK hP hD hS m_a6 (cF55 k_a6) 1 rfl (vp_in_iff.mpr (by decide)) rfl (sF55 k_a6 _ _) dX12_feed_35 (fun H locs hP hD hS => ?_)
    have hu := WT.setI (a := a6) (s := 2) (v := p3) hu (by rw [k_a6]; exact trivial)
    have hp := PX.setI (a := a6) (s := 2) (v := p3) hp (by rw [k_a6]; decide)
    obtain ⟨u26, hu26⟩ : ∃ z, z = pSI u24 a6 2 p3 := ⟨_, rfl⟩
    rw [← hu26] at hP hD hu hp
    have w27 : (u26.2.2.1 h0 5).toInt = (u24.2.2.1 h0 5).toInt := by rw [hu26]; exact congrArg Int32.toInt (if_neg (fun q => by have y := q.1; have z := k_h0; rw [y, k_a6] at z; exact absurd z (by decide)))
    refine lv_aload_n hx hb dX12_feed_36 rfl (lv_at hl 0 rfl) ?_
    have k_h0 : u26.2.1 h0 = 12 := (hp h0 m0_h0).2.1.trans k0_h0
    have m_h0 : h0 ∈ u26.1 := (hp h0 m0_h0).1
    have k_a6 : u26.2.1 a6 = 55 := (hp a6 m0_a6).2.1.trans k0_a6
    have m_a6 : a6 ∈ u26.1 := (hp a6 m0_a6).1
    refine pget (ci := 12) (v := va_rf (u26.2.2.2.2 h0 6)) (C := RX12) (T := TX12) (N := 34) hx hb hts i_X12 hown hK hP m_h0 (cF12 k_h0) rfl 6 (by decide) (hts (.fieldLink RX12 28 "BellowsRowModel" "five" "[I") (by decide +kernel)) (fun _ h9 => h9) rfl dX12_feed_37 ?_
    refine W.eq (g2 := F0 m 40 ls [.ref a6]) (by rw [(((hp h0 m0_h0).2.2.2.2.2.1 k0_h0 6).trans q0_6)]; rfl) ?_
    refine lv_iconst (v := 3) hx hb dX12_feed_40 (by decide) ?_
    refine lv_iload hx hb dX12_feed_41 (lv_at hl 4 rfl) ?_
    refine pasI (u' := pSI u26 a6 3 p4) hx hb hK hP hD hS m_a6 (cF55 k_a6) 1 rfl (vp_in_iff.mpr (by decide)) rfl (sF55 k_a6 _ _) dX12_feed_43 (fun H locs hP hD hS => ?_)
    have hu := WT.setI (a := a6) (s := 3) (v := p4) hu (by rw [k_a6]; exact trivial)
    have hp := PX.setI (a := a6) (s := 3) (v := p4) hp (by rw [k_a6]; decide)
    obtain ⟨u28, hu28⟩ : ∃ z, z = pSI u26 a6 3 p4 := ⟨_, rfl⟩
    rw [← hu28] at hP hD hu hp
    have w29 : (u28.2.2.1 h0 5).toInt = (u26.2.2.1 h0 5).toInt := by rw [hu28]; exact congrArg Int32.toInt (if_neg (fun q => by have y := q.1; have z := k_h0; rw [y, k_a6] at z; exact absurd z (by decide)))
    refine lv_aload_n hx hb dX12_feed_44 rfl (lv_at hl 0 rfl) ?_
    have k_h0 : u28.2.1 h0 = 12 := (hp h0 m0_h0).2.1.trans k0_h0
    have m_h0 : h0 ∈ u28.1 := (hp h0 m0_h0).1
    have k_a6 : u28.2.1 a6 = 55 := (hp a6 m0_a6).2.1.trans k0_a6
    have m_a6 : a6 ∈ u28.1 := (hp a6 m0_a6).1
    refine pget (ci := 12) (v := va_rf (u28.2.2.2.2 h0 6)) (C := RX12) (T := TX12) (N := 34) hx hb hts i_X12 hown hK hP m_h0 (cF12 k_h0) rfl 6 (by decide) (hts (.fieldLink RX12 28 "BellowsRowModel" "five" "[I") (by decide +kernel)) (fun _ h9 => h9) rfl dX12_feed_45 ?_
    refine W.eq (g2 := F0 m 48 ls [.ref a6]) (by rw [(((hp h0 m0_h0).2.2.2.2.2.1 k0_h0 6).trans q0_6)]; rfl) ?_
    refine lv_iconst (v := 4) hx hb dX12_feed_48 (by decide) ?_
    refine lv_iload hx hb dX12_feed_49 (lv_at hl 5 rfl) ?_
    refine pasI (u' := pSI u28 a6 4 p5) hx hb hK hP hD hS m_a6 (cF55 k_a6) 1 rfl (vp_in_iff.mpr (by decide)) rfl (sF55 k_a6 _ _) dX12_feed_51 (fun H locs hP hD hS => ?_)
    have hu := WT.setI (a := a6) (s := 4) (v := p5) hu (by rw [k_a6]; exact trivial)
    have hp := PX.setI (a := a6) (s := 4) (v := p5) hp (by rw [k_a6]; decide)
    obtain ⟨u30, hu30⟩ : ∃ z, z = pSI u28 a6 4 p5 := ⟨_, rfl⟩
    rw [← hu30] at hP hD hu hp
    have w31 : (u30.2.2.1 h0 5).toInt = (u28.2.2.1 h0 5).toInt := by rw [hu30]; exact congrArg Int32.toInt (if_neg (fun q => by have y := q.1; have z := k_h0; rw [y, k_a6] at z; exact absurd z (by decide)))
    refine lv_iconst (v := 0) hx hb dX12_feed_52 (by decide) ?_
    refine lv_istore (lv' := [(6, .int 0), (0, .ref h0), (1, .int p1), (2, .int p2), (3, .int p3), (4, .int p4), (5, .int p5)]) hx hb dX12_feed_53 hl (by decide) rfl (fun ls hl => ?_)
    exact B55 _ _ _ _ ls 0 hu hp hP hD hS (Nat.le_refl _) (by (try simp only [i_lt, i_le, i_eq, Int32.toInt_toInt64, Int32.reduceToInt, Int64.reduceToInt, true_and, and_true, false_and, and_false, false_or, or_false, true_or, or_true, not_true_eq_false, not_false_eq_true, ne_eq, forall_const, true_implies, false_implies, implies_true] at g19 tx20 c21 w23 w25 w27 w29 w31 ⊢) <;> omega) (by (try simp only [i_lt, i_le, i_eq, Int32.toInt_toInt64, Int32.reduceToInt, Int64.reduceToInt, true_and, and_true, false_and, and_false, false_or, or_false, true_or, or_true, not_true_eq_false, not_false_eq_true, ne_eq, forall_const, true_implies, false_implies, implies_true] at g19 tx20 c21 w23 w25 w27 w29 w31 ⊢) <;> omega) (lv_sub hl [1, 0] rfl)
  · refine lv_iconst (v := (-1)) hx hb dX12_feed_13 (by decide) ?_
    exact W.iret (v := (-1)) hx hb hr (fun t ht hW => ⟨⟨(-1), u0, rfl, ⟨hu, hp, trivial⟩, by rw [ht]; exact hP, hD⟩, hS.F ht⟩) hS.2.2 dX12_feed_14
set_option maxHeartbeats 4000000 in
set_option maxRecDepth 100000 in
theorem t_X12_good (l : Launch) (D : va_G) (k : Nat → ClassId) (u : PSt) (hu : WT u) (h0 : Nat) (m_h0 : h0 ∈ u.1) (k_h0 : u.2.1 h0 = 12) : Met l yX12_good wsX12_good ({ frames := 0, cells := 0, slots := 0, locals := 0 }) (PreR D k (PW k u) [.ref h0]) (vp_Si (fun r => (r.toInt = 0 ∧ (u.2.2.1 h0 12).toInt ≠ 0) ∨ (r.toInt = 1 ∧ (u.2.2.1 h0 12).toInt = 0))) 0 0 (fun _ => False) := by
  refine Met.ofW (cc := cX12_good) (maxL := 1) (ret := (some .boolean)) (by decide) rfl ?_
  intro p e s m args below meth c s₁ B hml hv
  obtain ⟨rfl, hP, hK⟩ := hv
  have hx := B.exec
  have hb := B.bytes
  have hr := B.returns
  have hts := atoms_spec (ws := wsX12_good) B.pre
  have hown : s.vm.findClass RX12 = some m.cls := findClass_of_methodNamed B.named
  have hlocks := B.notSynchronized
  have i_X12 : ∀ w ∈ wsX120, w ∈ wsX12_good := by decide +kernel
  have hl := lv_entry ([.ref h0]) (n := 1) (Nat.le_of_ble_eq_true rfl)
  rw [lg_entry_eq]
  generalize (lg_sl ([.ref h0]) ++ List.replicate (1 - (lg_sl ([.ref h0])).length) Slot.unset).toArray = ls at hl ⊢
  have hl : lv_has ls 1 [(0, .ref h0)] := hl
  refine lv_aload_n hx hb dX12_good_0 rfl (lv_at hl 0 rfl) ?_
  refine pget (ci := 12) (v := .int (u.2.2.1 h0 12)) (C := RX12) (T := TX12) (N := 34) hx hb hts i_X12 hown hK hP m_h0 (cF12 k_h0) rfl 12 (by decide) (hts (.fieldLink RX12 119 "BellowsRowModel" "faultKind" "I") (by decide +kernel)) (fun _ h9 => h9) rfl dX12_good_1 ?_
  refine lv_if_ne (tgt := 11) hx hb dX12_good_4 (by decide) (fun c1 => ?_) (fun c1 => ?_)
  · refine lv_iconst (v := 0) hx hb dX12_good_11 (by decide) ?_
    exact W.zret (v := 0) hx hb hr rfl (fun t ht hW => ⟨0, rfl, (show ((0 : Int) = 0 ∧ (u.2.2.1 h0 12).toInt ≠ 0) ∨ ((0 : Int) = 1 ∧ (u.2.2.1 h0 12).toInt = 0) from by (try simp only [i_lt, i_le, i_eq, Int32.toInt_toInt64, Int32.reduceToInt, Int64.reduceToInt, true_and, and_true, false_and, and_false, false_or, or_false, true_or, or_true, not_true_eq_false, not_false_eq_true, ne_eq, forall_const, true_implies, false_implies, implies_true] at c1 ⊢) <;> omega), ht⟩) (fun q h => by cases h) dX12_good_12
  · refine lv_iconst (v := 1) hx hb dX12_good_7 (by decide) ?_
    refine lv_goto (tgt := 12) hx hb dX12_good_8 (by decide) ?_
    exact W.zret (v := 1) hx hb hr rfl (fun t ht hW => ⟨1, rfl, (show ((1 : Int) = 0 ∧ (u.2.2.1 h0 12).toInt ≠ 0) ∨ ((1 : Int) = 1 ∧ (u.2.2.1 h0 12).toInt = 0) from by (try simp only [i_lt, i_le, i_eq, Int32.toInt_toInt64, Int32.reduceToInt, Int64.reduceToInt, true_and, and_true, false_and, and_false, false_or, or_false, true_or, or_true, not_true_eq_false, not_false_eq_true, ne_eq, forall_const, true_implies, false_implies, implies_true] at c1 ⊢) <;> omega), ht⟩) (fun q h => by cases h) dX12_good_12
set_option maxHeartbeats 4000000 in
set_option maxRecDepth 100000 in
theorem t_X12_heldBy (l : Launch) (D : va_G) (k : Nat → ClassId) (u : PSt) (hu : WT u) (h0 : Nat) (m_h0 : h0 ∈ u.1) (k_h0 : u.2.1 h0 = 12) (p1 : Int32) (p2 : Int32) (g_p2 : 0 ≤ p2.toInt ∧ p2.toInt ≤ 1) : Met l yX12_heldBy wsX12_heldBy ({ frames := 0, cells := 0, slots := 0, locals := 0 }) (PreR D k (PW k u) [.ref h0, .int p1, .int p2]) (vp_Si (fun r => True)) 0 0 (fun _ => False) := by
  refine Met.ofW (cc := cX12_heldBy) (maxL := 7) (ret := (some .int)) (by decide) rfl ?_
  intro p e s m args below meth c s₁ B hml hv
  obtain ⟨rfl, hP, hK⟩ := hv
  have hx := B.exec
  have hb := B.bytes
  have hr := B.returns
  have hts := atoms_spec (ws := wsX12_heldBy) B.pre
  have hown : s.vm.findClass RX12 = some m.cls := findClass_of_methodNamed B.named
  have hlocks := B.notSynchronized
  have i_X12 : ∀ w ∈ wsX120, w ∈ wsX12_heldBy := by decide +kernel
  obtain ⟨a1, q0_1, m0_a1, k0_a1⟩ := (hu h0 m_h0).1 1 50 (by rw [k_h0]; rfl)
  have m_a1 := m0_a1
  have k_a1 := k0_a1
  have B5 : ∀ (n5 : Nat) (ls : Array Slot) (v1 : Int32) (v2 : Int32) (v3 : Int32) (v4 : Int32), (2147483648 - v4.toInt).toNat ≤ n5 → 0 ≤ v2.toInt ∧ v2.toInt ≤ 1 → 0 ≤ v4.toInt ∧ v4.toInt ≤ 20 → lv_has ls 7 [(0, .ref h0), (1, .int v1), (2, .int v2), (3, .int v3), (4, .int v4)] → W p l e (headSpec wsX12_heldBy ({ frames := 0, cells := 0, slots := 0, locals := 0 })).room s m ([.ref h0, .int p1, .int p2] : List Value).toArray below meth c s.heap [] 0 0 (MQ below (vp_Si (fun r => True)) ([.ref h0, .int p1, .int p2] : List Value).toArray s 0 0 (fun _ => False)) (F0 m 5 ls []) := by
    intro n5
    induction n5 with
    | zero =>
      intro ls v1 v2 v3 v4 hn5 g_v2 g_v4 hl
      exact absurd hn5 (by have := Int32.toInt_lt v4; have := Int32.le_toInt v4; omega)
    | succ n5 ih5 =>
      intro ls v1 v2 v3 v4 hn5 g_v2 g_v4 hl
      refine lv_iload hx hb dX12_heldBy_5 (lv_at hl 4 rfl) ?_
      refine lv_aload_n hx hb dX12_heldBy_7 rfl (lv_at hl 0 rfl) ?_
      refine pget (ci := 12) (v := va_rf (u.2.2.2.2 h0 1)) (C := RX12) (T := TX12) (N := 34) hx hb hts i_X12 hown hK hP m_h0 (cF12 k_h0) rfl 1 (by decide) (hts (.fieldLink RX12 13 "BellowsRowModel" "world" "[I") (by decide +kernel)) (fun _ h9 => h9) rfl dX12_heldBy_8 ?_
      refine W.eq (g2 := F0 m 11 ls [.ref a1, .int v4]) (by rw [q0_1]; rfl) ?_
      refine lv_iconst (v := 5) hx hb dX12_heldBy_11 (by decide) ?_
      refine palI hx hb hK hP m_a1 (cF50 k_a1) 1 rfl (vp_in_iff.mpr (by decide)) dX12_heldBy_12 ?_
      refine lv_topi (fun x1 ex1 => ?_)
      have tx1 : x1.toInt = (u.2.2.1 a1 5).toInt := congrArg Int32.toInt ex1
      have g2 : 0 ≤ x1.toInt ∧ x1.toInt ≤ 20 := by have g : okI (u.2.1 a1) (5) (u.2.2.1 a1 (5)) := (hu a1 m_a1).2.2.2 (5); rw [k_a1, ← (show x1 = u.2.2.1 a1 (5) from ex1)] at g; have g : okW (5) x1 := g; unfold okW at g; (try simp only [i_lt, i_le, i_eq, Int32.toInt_toInt64, Int32.reduceToInt, Int64.reduceToInt, true_and, and_true, false_and, and_false, false_or, or_false, true_or, or_true, not_true_eq_false, not_false_eq_true, ne_eq, forall_const, true_implies, false_implies, implies_true] at g_v2 g_v4 hn5 tx1 g ⊢) <;> omega
      refine lv_icmp_ge (tgt := 102) hx hb dX12_heldBy_13 (by decide) (fun c3 => ?_) (fun c3 => ?_)
      · refine lv_iload_n hx hb dX12_heldBy_102 rfl (lv_at hl 3 rfl) ?_
        exact W.iret (v := v3) hx hb hr (fun t ht hW => ⟨v3, rfl, trivial, ht⟩) (fun q h => by cases h) dX12_heldBy_103
      · refine lv_iload_n hx hb dX12_heldBy_16 rfl (lv_at hl 1 rfl) ?_
        refine lv_iconst (v := 4) hx hb dX12_heldBy_17 (by decide) ?_
        refine lv_aload_n hx hb dX12_heldBy_18 rfl (lv_at hl 0 rfl) ?_
        refine pget (ci := 12) (v := va_rf (u.2.2.2.2 h0 1)) (C := RX12) (T := TX12) (N := 34) hx hb hts i_X12 hown hK hP m_h0 (cF12 k_h0) rfl 1 (by decide) (hts (.fieldLink RX12 13 "BellowsRowModel" "world" "[I") (by decide +kernel)) (fun _ h9 => h9) rfl dX12_heldBy_19 ?_
        refine W.eq (g2 := F0 m 22 ls [.ref a1, .int 4, .int v1]) (by rw [q0_1]; rfl) ?_
        refine lv_sipush (v := 422) hx hb dX12_heldBy_22 (by decide) ?_
        refine lv_iconst (v := 3) hx hb dX12_heldBy_25 (by decide) ?_
        refine lv_iload hx hb dX12_heldBy_26 (lv_at hl 4 rfl) ?_
        refine lv_imul hx hb dX12_heldBy_28 ?_
        refine lv_topi (fun x4 ex4 => ?_)
        have tx4 : x4.toInt = 3 * v4.toInt := by rw [ex4]; exact i_mulc (c := 3) (by decide) ((show 0 ≤ v4.toInt ∧ v4.toInt ≤ 19 from by (try simp only [i_lt, i_le, i_eq, Int32.toInt_toInt64, Int32.reduceToInt, Int64.reduceToInt, true_and, and_true, false_and, and_false, false_or, or_false, true_or, or_true, not_true_eq_false, not_false_eq_true, ne_eq, forall_const, true_implies, false_implies, implies_true] at g_v2 g_v4 hn5 tx1 g2 c3 ⊢) <;> omega)) (by decide)
        refine lv_iadd hx hb dX12_heldBy_29 ?_
        refine lv_topi (fun x5 ex5 => ?_)
        have tx5 : x5.toInt = (422 : Int32).toInt + x4.toInt := by rw [ex5]; exact i_add (by (try simp only [i_lt, i_le, i_eq, Int32.toInt_toInt64, Int32.reduceToInt, Int64.reduceToInt, true_and, and_true, false_and, and_false, false_or, or_false, true_or, or_true, not_true_eq_false, not_false_eq_true, ne_eq, forall_const, true_implies, false_implies, implies_true] at g_v2 g_v4 hn5 tx1 g2 c3 tx4 ⊢) <;> omega) (by (try simp only [i_lt, i_le, i_eq, Int32.toInt_toInt64, Int32.reduceToInt, Int64.reduceToInt, true_and, and_true, false_and, and_false, false_or, or_false, true_or, or_true, not_true_eq_false, not_false_eq_true, ne_eq, forall_const, true_implies, false_implies, implies_true] at g_v2 g_v4 hn5 tx1 g2 c3 tx4 ⊢) <;> omega)
        refine palI hx hb hK hP m_a1 (cF50 k_a1) 1 rfl (vp_in_iff.mpr (by (try simp only [i_lt, i_le, i_eq, Int32.toInt_toInt64, Int32.reduceToInt, Int64.reduceToInt, true_and, and_true, false_and, and_false, false_or, or_false, true_or, or_true, not_true_eq_false, not_false_eq_true, ne_eq, forall_const, true_implies, false_implies, implies_true] at g_v2 g_v4 hn5 tx1 g2 c3 tx4 tx5 ⊢) <;> omega)) dX12_heldBy_30 ?_
        refine lv_topi (fun x6 ex6 => ?_)
        have tx6 : x6.toInt = (u.2.2.1 a1 (x5.toNatClampNeg)).toInt := congrArg Int32.toInt ex6
        refine lv_imul hx hb dX12_heldBy_31 ?_
        refine lv_topi (fun x7 ex7 => ?_)
        refine lv_ishr hx hb dX12_heldBy_32 ?_
        refine lv_topi (fun x8 ex8 => ?_)
        refine lv_bipush (v := 15) hx hb dX12_heldBy_33 (by decide) ?_
        refine lv_iand hx hb dX12_heldBy_35 ?_
        refine lv_topi (fun x9 ex9 => ?_)
        have tx9 : 0 ≤ x9.toInt ∧ x9.toInt ≤ 15 := by rw [ex9]; exact i_and (m := 15) (b := 4) (by decide) (by decide)
        refine lv_istore (lv' := [(5, .int x9), (0, .ref h0), (1, .int v1), (2, .int v2), (3, .int v3), (4, .int v4)]) hx hb dX12_heldBy_36 hl (by decide) rfl (fun ls hl => ?_)
        refine lv_aload_n hx hb dX12_heldBy_38 rfl (lv_at hl 1 rfl) ?_
        refine pget (ci := 12) (v := va_rf (u.2.2.2.2 h0 1)) (C := RX12) (T := TX12) (N := 34) hx hb hts i_X12 hown hK hP m_h0 (cF12 k_h0) rfl 1 (by decide) (hts (.fieldLink RX12 13 "BellowsRowModel" "world" "[I") (by decide +kernel)) (fun _ h9 => h9) rfl dX12_heldBy_39 ?_
        refine W.eq (g2 := F0 m 42 ls [.ref a1]) (by rw [q0_1]; rfl) ?_
        refine lv_sipush (v := 422) hx hb dX12_heldBy_42 (by decide) ?_
        refine lv_iconst (v := 3) hx hb dX12_heldBy_45 (by decide) ?_
        refine lv_iload hx hb dX12_heldBy_46 (lv_at hl 5 rfl) ?_
        refine lv_imul hx hb dX12_heldBy_48 ?_
        refine lv_topi (fun x10 ex10 => ?_)
        have tx10 : x10.toInt = 3 * v4.toInt := by rw [ex10]; exact i_mulc (c := 3) (by decide) ((show 0 ≤ v4.toInt ∧ v4.toInt ≤ 19 from by (try simp only [i_lt, i_le, i_eq, Int32.toInt_toInt64, Int32.reduceToInt, Int64.reduceToInt, true_and, and_true, false_and, and_false, false_or, or_false, true_or, or_true, not_true_eq_false, not_false_eq_true, ne_eq, forall_const, true_implies, false_implies, implies_true] at g_v2 g_v4 hn5 tx1 g2 c3 tx4 tx5 tx6 tx9 ⊢) <;> omega)) (by decide)
        refine lv_iadd hx hb dX12_heldBy_49 ?_
        refine lv_topi (fun x11 ex11 => ?_)
        have tx11 : x11.toInt = (422 : Int32).toInt + x10.toInt := by rw [ex11]; exact i_add (by (try simp only [i_lt, i_le, i_eq, Int32.toInt_toInt64, Int32.reduceToInt, Int64.reduceToInt, true_and, and_true, false_and, and_false, false_or, or_false, true_or, or_true, not_true_eq_false, not_false_eq_true, ne_eq, forall_const, true_implies, false_implies, implies_true] at g_v2 g_v4 hn5 tx1 g2 c3 tx4 tx5 tx6 tx9 tx10 ⊢) <;> omega) (by (try simp only [i_lt, i_le, i_eq, Int32.toInt_toInt64, Int32.reduceToInt, Int64.reduceToInt, true_and, and_true, false_and, and_false, false_or, or_false, true_or, or_true, not_true_eq_false, not_false_eq_true, ne_eq, forall_const, true_implies, false_implies, implies_true] at g_v2 g_v4 hn5 tx1 g2 c3 tx4 tx5 tx6 tx9 tx10 ⊢) <;> omega)
        refine lv_iconst (v := 2) hx hb dX12_heldBy_50 (by decide) ?_
        refine lv_iadd hx hb dX12_heldBy_51 ?_
        refine lv_topi (fun x12 ex12 => ?_)
        have tx12 : x12.toInt = x11.toInt + (2 : Int32).toInt := by rw [ex12]; exact i_add (by (try simp only [i_lt, i_le, i_eq, Int32.toInt_toInt64, Int32.reduceToInt, Int64.reduceToInt, true_and, and_true, false_and, and_false, false_or, or_false, true_or, or_true, not_true_eq_false, not_false_eq_true, ne_eq, forall_const, true_implies, false_implies, implies_true] at g_v2 g_v4 hn5 tx1 g2 c3 tx4 tx5 tx6 tx9 tx10 tx11 ⊢) <;> omega) (by (try simp only [i_lt, i_le, i_eq, Int32.toInt_toInt64, Int32.reduceToInt, Int64.reduceToInt, true_and, and_true, false_and, and_false, false_or, or_false, true_or, or_true, not_true_eq_false, not_false_eq_true, ne_eq, forall_const, true_implies, false_implies, implies_true] at g_v2 g_v4 hn5 tx1 g2 c3 tx4 tx5 tx6 tx9 tx10 tx11 ⊢) <;> omega)
        refine palI hx hb hK hP m_a1 (cF50 k_a1) 1 rfl (vp_in_iff.mpr (by (try simp only [i_lt, i_le, i_eq, Int32.toInt_toInt64, Int32.reduceToInt, Int64.reduceToInt, true_and, and_true, false_and, and_false, false_or, or_false, true_or, or_true, not_true_eq_false, not_false_eq_true, ne_eq, forall_const, true_implies, false_implies, implies_true] at g_v2 g_v4 hn5 tx1 g2 c3 tx4 tx5 tx6 tx9 tx10 tx11 tx12 ⊢) <;> omega)) dX12_heldBy_52 ?_
        refine lv_topi (fun x13 ex13 => ?_)
        have tx13 : x13.toInt = (u.2.2.1 a1 (x12.toNatClampNeg)).toInt := congrArg Int32.toInt ex13
        refine lv_istore (lv' := [(6, .int x13), (5, .int x9), (0, .ref h0), (1, .int v1), (2, .int v2), (3, .int v3), (4, .int v4)]) hx hb dX12_heldBy_53 hl (by decide) rfl (fun ls hl => ?_)
        refine lv_iload_n hx hb dX12_heldBy_55 rfl (lv_at hl 5 rfl) ?_
        refine lv_iload_n hx hb dX12_heldBy_56 rfl (lv_at hl 4 rfl) ?_
        refine lv_if_eq (tgt := 70) hx hb dX12_heldBy_57 (by decide) (fun c14 => ?_) (fun c14 => ?_)
        · refine lv_iload hx hb dX12_heldBy_70 (lv_at hl 0 rfl) ?_
          refine lv_iload hx hb dX12_heldBy_72 (lv_at hl 1 rfl) ?_
          refine lv_iconst (v := (-1)) hx hb dX12_heldBy_74 (by decide) ?_
          refine lv_ixor hx hb dX12_heldBy_75 ?_
          refine lv_topi (fun x15 ex15 => ?_)
          refine lv_iand hx hb dX12_heldBy_76 ?_
          refine lv_topi (fun x16 ex16 => ?_)
          refine lv_if_eq (tgt := 84) hx hb dX12_heldBy_77 (by decide) (fun c17 => ?_) (fun c17 => ?_)
          · refine lv_iconst (v := 0) hx hb dX12_heldBy_84 (by decide) ?_
            refine lv_iload_n hx hb dX12_heldBy_85 rfl (lv_at hl 4 rfl) ?_
            refine lv_icmp_ne (tgt := 93) hx hb dX12_heldBy_86 (by decide) (fun h => absurd (by (try simp only [i_lt, i_le, i_eq, Int32.toInt_toInt64, Int32.reduceToInt, Int64.reduceToInt, true_and, and_true, false_and, and_false, false_or, or_false, true_or, or_true, not_true_eq_false, not_false_eq_true, ne_eq, forall_const, true_implies, false_implies, implies_true] at g_v2 g_v4 hn5 tx1 g2 c3 tx4 tx5 tx6 tx9 tx10 tx11 tx12 tx13 c14 c17 ⊢) <;> omega) h) (fun _ => ?_)
            refine lv_iconst (v := 1) hx hb dX12_heldBy_89 (by decide) ?_
            refine lv_goto (tgt := 94) hx hb dX12_heldBy_90 (by decide) ?_
            refine lv_iadd hx hb dX12_heldBy_94 ?_
            refine lv_topi (fun x18 ex18 => ?_)
            refine lv_istore_n (lv' := [(3, .int x18), (6, .int x13), (5, .int x9), (0, .ref h0), (1, .int v1), (2, .int v2), (4, .int v4)]) hx hb dX12_heldBy_95 rfl hl (by decide) rfl (fun ls hl => ?_)
            obtain ⟨x19, ex19⟩ : ∃ y : Int32, y = v4 + 1 := ⟨_, rfl⟩
            have tx19 : x19.toInt = v4.toInt + 1 := by rw [ex19]; exact i_add (b := 1) (by (try simp only [i_lt, i_le, i_eq, Int32.toInt_toInt64, Int32.reduceToInt, Int64.reduceToInt, true_and, and_true, false_and, and_false, false_or, or_false, true_or, or_true, not_true_eq_false, not_false_eq_true, ne_eq, forall_const, true_implies, false_implies, implies_true] at g_v2 g_v4 hn5 tx1 g2 c3 tx4 tx5 tx6 tx9 tx10 tx11 tx12 tx13 c14 c17 ⊢) <;> omega) (by (try simp only [i_lt, i_le, i_eq, Int32.toInt_toInt64, Int32.reduceToInt, Int64.reduceToInt, true_and, and_true, false_and, and_false, false_or, or_false, true_or, or_true, not_true_eq_false, not_false_eq_true, ne_eq, forall_const, true_implies, false_implies, implies_true] at g_v2 g_v4 hn5 tx1 g2 c3 tx4 tx5 tx6 tx9 tx10 tx11 tx12 tx13 c14 c17 ⊢) <;> omega)
            refine lv_iinc (v := x19) (lv' := [(4, .int x19), (3, .int x18), (6, .int x13), (5, .int x9), (0, .ref h0), (1, .int v1), (2, .int v2)]) hx hb dX12_heldBy_96 hl (k := 6) rfl (by rw [ex19]; rfl) (by decide) rfl (fun ls hl => ?_)
            refine lv_goto (tgt := 5) hx hb dX12_heldBy_99 (by decide) ?_
            exact ih5 ls v1 v2 x18 x19 (by (try simp only [i_lt, i_le, i_eq, Int32.toInt_toInt64, Int32.reduceToInt, Int64.reduceToInt, true_and, and_true, false_and, and_false, false_or, or_false, true_or, or_true, not_true_eq_false, not_false_eq_true, ne_eq, forall_const, true_implies, false_implies, implies_true] at g_v2 g_v4 hn5 tx1 g2 c3 tx4 tx5 tx6 tx9 tx10 tx11 tx12 tx13 c14 c17 tx19 ⊢) <;> omega) (by (try simp only [i_lt, i_le, i_eq, Int32.toInt_toInt64, Int32.reduceToInt, Int64.reduceToInt, true_and, and_true, false_and, and_false, false_or, or_false, true_or, or_true, not_true_eq_false, not_false_eq_true, ne_eq, forall_const, true_implies, false_implies, implies_true] at g_v2 g_v4 hn5 tx1 g2 c3 tx4 tx5 tx6 tx9 tx10 tx11 tx12 tx13 c14 c17 tx19 ⊢) <;> omega) (by (try simp only [i_lt, i_le, i_eq, Int32.toInt_toInt64, Int32.reduceToInt, Int64.reduceToInt, true_and, and_true, false_and, and_false, false_or, or_false, true_or, or_true, not_true_eq_false, not_false_eq_true, ne_eq, forall_const, true_implies, false_implies, implies_true] at g_v2 g_v4 hn5 tx1 g2 c3 tx4 tx5 tx6 tx9 tx10 tx11 tx12 tx13 c14 c17 tx19 ⊢) <;> omega) (lv_sub hl [4, 5, 6, 1, 0] rfl)
          · refine lv_iconst (v := 1) hx hb dX12_heldBy_80 (by decide) ?_
            refine lv_goto (tgt := 85) hx hb dX12_heldBy_81 (by decide) ?_
            refine lv_iload_n hx hb dX12_heldBy_85 rfl (lv_at hl 4 rfl) ?_
            refine lv_icmp_ne (tgt := 93) hx hb dX12_heldBy_86 (by decide) (fun _ => ?_) (fun h => absurd h (by (try simp only [i_lt, i_le, i_eq, Int32.toInt_toInt64, Int32.reduceToInt, Int64.reduceToInt, true_and, and_true, false_and, and_false, false_or, or_false, true_or, or_true, not_true_eq_false, not_false_eq_true, ne_eq, forall_const, true_implies, false_implies, implies_true] at g_v2 g_v4 hn5 tx1 g2 c3 tx4 tx5 tx6 tx9 tx10 tx11 tx12 tx13 c14 ⊢) <;> omega))
            refine lv_iconst (v := 0) hx hb dX12_heldBy_93 (by decide) ?_
            refine lv_iadd hx hb dX12_heldBy_94 ?_
            refine lv_topi (fun x20 ex20 => ?_)
            refine lv_istore_n (lv' := [(3, .int x20), (6, .int x13), (5, .int x9), (0, .ref h0), (1, .int v1), (2, .int v2), (4, .int v4)]) hx hb dX12_heldBy_95 rfl hl (by decide) rfl (fun ls hl => ?_)
            obtain ⟨x21, ex21⟩ : ∃ y : Int32, y = v4 + 1 := ⟨_, rfl⟩
            have tx21 : x21.toInt = v4.toInt + 1 := by rw [ex21]; exact i_add (b := 1) (by (try simp only [i_lt, i_le, i_eq, Int32.toInt_toInt64, Int32.reduceToInt, Int64.reduceToInt, true_and, and_true, false_and, and_false, false_or, or_false, true_or, or_true, not_true_eq_false, not_false_eq_true, ne_eq, forall_const, true_implies, false_implies, implies_true] at g_v2 g_v4 hn5 tx1 g2 c3 tx4 tx5 tx6 tx9 tx10 tx11 tx12 tx13 c14 ⊢) <;> omega) (by (try simp only [i_lt, i_le, i_eq, Int32.toInt_toInt64, Int32.reduceToInt, Int64.reduceToInt, true_and, and_true, false_and, and_false, false_or, or_false, true_or, or_true, not_true_eq_false, not_false_eq_true, ne_eq, forall_const, true_implies, false_implies, implies_true] at g_v2 g_v4 hn5 tx1 g2 c3 tx4 tx5 tx6 tx9 tx10 tx11 tx12 tx13 c14 ⊢) <;> omega)
            refine lv_iinc (v := x21) (lv' := [(4, .int x21), (3, .int x20), (6, .int x13), (5, .int x9), (0, .ref h0), (1, .int v1), (2, .int v2)]) hx hb dX12_heldBy_96 hl (k := 6) rfl (by rw [ex21]; rfl) (by decide) rfl (fun ls hl => ?_)
            refine lv_goto (tgt := 5) hx hb dX12_heldBy_99 (by decide) ?_
            exact ih5 ls v1 v2 x20 x21 (by (try simp only [i_lt, i_le, i_eq, Int32.toInt_toInt64, Int32.reduceToInt, Int64.reduceToInt, true_and, and_true, false_and, and_false, false_or, or_false, true_or, or_true, not_true_eq_false, not_false_eq_true, ne_eq, forall_const, true_implies, false_implies, implies_true] at g_v2 g_v4 hn5 tx1 g2 c3 tx4 tx5 tx6 tx9 tx10 tx11 tx12 tx13 c14 tx21 ⊢) <;> omega) (by (try simp only [i_lt, i_le, i_eq, Int32.toInt_toInt64, Int32.reduceToInt, Int64.reduceToInt, true_and, and_true, false_and, and_false, false_or, or_false, true_or, or_true, not_true_eq_false, not_false_eq_true, ne_eq, forall_const, true_implies, false_implies, implies_true] at g_v2 g_v4 hn5 tx1 g2 c3 tx4 tx5 tx6 tx9 tx10 tx11 tx12 tx13 c14 tx21 ⊢) <;> omega) (by (try simp only [i_lt, i_le, i_eq, Int32.toInt_toInt64, Int32.reduceToInt, Int64.reduceToInt, true_and, and_true, false_and, and_false, false_or, or_false, true_or, or_true, not_true_eq_false, not_false_eq_true, ne_eq, forall_const, true_implies, false_implies, implies_true] at g_v2 g_v4 hn5 tx1 g2 c3 tx4 tx5 tx6 tx9 tx10 tx11 tx12 tx13 c14 tx21 ⊢) <;> omega) (lv_sub hl [4, 5, 6, 1, 0] rfl)
        · refine lv_iload hx hb dX12_heldBy_60 (lv_at hl 1 rfl) ?_
          refine lv_iload hx hb dX12_heldBy_62 (lv_at hl 0 rfl) ?_
          refine lv_iconst (v := (-1)) hx hb dX12_heldBy_64 (by decide) ?_
          refine lv_ixor hx hb dX12_heldBy_65 ?_
          refine lv_topi (fun x22 ex22 => ?_)
          refine lv_iand hx hb dX12_heldBy_66 ?_
          refine lv_topi (fun x23 ex23 => ?_)
          refine lv_goto (tgt := 77) hx hb dX12_heldBy_67 (by decide) ?_
          refine lv_if_eq (tgt := 84) hx hb dX12_heldBy_77 (by decide) (fun c24 => ?_) (fun c24 => ?_)
          · refine lv_iconst (v := 0) hx hb dX12_heldBy_84 (by decide) ?_
            refine lv_iload_n hx hb dX12_heldBy_85 rfl (lv_at hl 4 rfl) ?_
            refine lv_icmp_ne (tgt := 93) hx hb dX12_heldBy_86 (by decide) (fun _ => ?_) (fun h => absurd h (by (try simp only [i_lt, i_le, i_eq, Int32.toInt_toInt64, Int32.reduceToInt, Int64.reduceToInt, true_and, and_true, false_and, and_false, false_or, or_false, true_or, or_true, not_true_eq_false, not_false_eq_true, ne_eq, forall_const, true_implies, false_implies, implies_true] at g_v2 g_v4 hn5 tx1 g2 c3 tx4 tx5 tx6 tx9 tx10 tx11 tx12 tx13 c14 c24 ⊢) <;> omega))
            refine lv_iconst (v := 0) hx hb dX12_heldBy_93 (by decide) ?_
            refine lv_iadd hx hb dX12_heldBy_94 ?_
            refine lv_topi (fun x25 ex25 => ?_)
            refine lv_istore_n (lv' := [(3, .int x25), (6, .int x13), (5, .int x9), (0, .ref h0), (1, .int v1), (2, .int v2), (4, .int v4)]) hx hb dX12_heldBy_95 rfl hl (by decide) rfl (fun ls hl => ?_)
            obtain ⟨x26, ex26⟩ : ∃ y : Int32, y = v4 + 1 := ⟨_, rfl⟩
            have tx26 : x26.toInt = v4.toInt + 1 := by rw [ex26]; exact i_add (b := 1) (by (try simp only [i_lt, i_le, i_eq, Int32.toInt_toInt64, Int32.reduceToInt, Int64.reduceToInt, true_and, and_true, false_and, and_false, false_or, or_false, true_or, or_true, not_true_eq_false, not_false_eq_true, ne_eq, forall_const, true_implies, false_implies, implies_true] at g_v2 g_v4 hn5 tx1 g2 c3 tx4 tx5 tx6 tx9 tx10 tx11 tx12 tx13 c14 c24 ⊢) <;> omega) (by (try simp only [i_lt, i_le, i_eq, Int32.toInt_toInt64, Int32.reduceToInt, Int64.reduceToInt, true_and, and_true, false_and, and_false, false_or, or_false, true_or, or_true, not_true_eq_false, not_false_eq_true, ne_eq, forall_const, true_implies, false_implies, implies_true] at g_v2 g_v4 hn5 tx1 g2 c3 tx4 tx5 tx6 tx9 tx10 tx11 tx12 tx13 c14 c24 ⊢) <;> omega)
            refine lv_iinc (v := x26) (lv' := [(4, .int x26), (3, .int x25), (6, .int x13), (5, .int x9), (0, .ref h0), (1, .int v1), (2, .int v2)]) hx hb dX12_heldBy_96 hl (k := 6) rfl (by rw [ex26]; rfl) (by decide) rfl (fun ls hl => ?_)
            refine lv_goto (tgt := 5) hx hb dX12_heldBy_99 (by decide) ?_
            exact ih5 ls v1 v2 x25 x26 (by (try simp only [i_lt, i_le, i_eq, Int32.toInt_toInt64, Int32.reduceToInt, Int64.reduceToInt, true_and, and_true, false_and, and_false, false_or, or_false, true_or, or_true, not_true_eq_false, not_false_eq_true, ne_eq, forall_const, true_implies, false_implies, implies_true] at g_v2 g_v4 hn5 tx1 g2 c3 tx4 tx5 tx6 tx9 tx10 tx11 tx12 tx13 c14 c24 tx26 ⊢) <;> omega) (by (try simp only [i_lt, i_le, i_eq, Int32.toInt_toInt64, Int32.reduceToInt, Int64.reduceToInt, true_and, and_true, false_and, and_false, false_or, or_false, true_or, or_true, not_true_eq_false, not_false_eq_true, ne_eq, forall_const, true_implies, false_implies, implies_true] at g_v2 g_v4 hn5 tx1 g2 c3 tx4 tx5 tx6 tx9 tx10 tx11 tx12 tx13 c14 c24 tx26 ⊢) <;> omega) (by (try simp only [i_lt, i_le, i_eq, Int32.toInt_toInt64, Int32.reduceToInt, Int64.reduceToInt, true_and, and_true, false_and, and_false, false_or, or_false, true_or, or_true, not_true_eq_false, not_false_eq_true, ne_eq, forall_const, true_implies, false_implies, implies_true] at g_v2 g_v4 hn5 tx1 g2 c3 tx4 tx5 tx6 tx9 tx10 tx11 tx12 tx13 c14 c24 tx26 ⊢) <;> omega) (lv_sub hl [4, 5, 6, 1, 0] rfl)
          · refine lv_iconst (v := 1) hx hb dX12_heldBy_80 (by decide) ?_
            refine lv_goto (tgt := 85) hx hb dX12_heldBy_81 (by decide) ?_
            refine lv_iload_n hx hb dX12_heldBy_85 rfl (lv_at hl 4 rfl) ?_
            refine lv_icmp_ne (tgt := 93) hx hb dX12_heldBy_86 (by decide) (fun h => absurd (by (try simp only [i_lt, i_le, i_eq, Int32.toInt_toInt64, Int32.reduceToInt, Int64.reduceToInt, true_and, and_true, false_and, and_false, false_or, or_false, true_or, or_true, not_true_eq_false, not_false_eq_true, ne_eq, forall_const, true_implies, false_implies, implies_true] at g_v2 g_v4 hn5 tx1 g2 c3 tx4 tx5 tx6 tx9 tx10 tx11 tx12 tx13 c14 ⊢) <;> omega) h) (fun _ => ?_)
            refine lv_iconst (v := 1) hx hb dX12_heldBy_89 (by decide) ?_
            refine lv_goto (tgt := 94) hx hb dX12_heldBy_90 (by decide) ?_
            refine lv_iadd hx hb dX12_heldBy_94 ?_
            refine lv_topi (fun x27 ex27 => ?_)
            refine lv_istore_n (lv' := [(3, .int x27), (6, .int x13), (5, .int x9), (0, .ref h0), (1, .int v1), (2, .int v2), (4, .int v4)]) hx hb dX12_heldBy_95 rfl hl (by decide) rfl (fun ls hl => ?_)
            obtain ⟨x28, ex28⟩ : ∃ y : Int32, y = v4 + 1 := ⟨_, rfl⟩
            have tx28 : x28.toInt = v4.toInt + 1 := by rw [ex28]; exact i_add (b := 1) (by (try simp only [i_lt, i_le, i_eq, Int32.toInt_toInt64, Int32.reduceToInt, Int64.reduceToInt, true_and, and_true, false_and, and_false, false_or, or_false, true_or, or_true, not_true_eq_false, not_false_eq_true, ne_eq, forall_const, true_implies, false_implies, implies_true] at g_v2 g_v4 hn5 tx1 g2 c3 tx4 tx5 tx6 tx9 tx10 tx11 tx12 tx13 c14 ⊢) <;> omega) (by (try simp only [i_lt, i_le, i_eq, Int32.toInt_toInt64, Int32.reduceToInt, Int64.reduceToInt, true_and, and_true, false_and, and_false, false_or, or_false, true_or, or_true, not_true_eq_false, not_false_eq_true, ne_eq, forall_const, true_implies, false_implies, implies_true] at g_v2 g_v4 hn5 tx1 g2 c3 tx4 tx5 tx6 tx9 tx10 tx11 tx12 tx13 c14 ⊢) <;> omega)
            refine lv_iinc (v := x28) (lv' := [(4, .int x28), (3, .int x27), (6, .int x13), (5, .int x9), (0, .ref h0), (1, .int v1), (2, .int v2)]) hx hb dX12_heldBy_96 hl (k := 6) rfl (by rw [ex28]; rfl) (by decide) rfl (fun ls hl => ?_)
            refine lv_goto (tgt := 5) hx hb dX12_heldBy_99 (by decide) ?_
            exact ih5 ls v1 v2 x27 x28 (by (try simp only [i_lt, i_le, i_eq, Int32.toInt_toInt64, Int32.reduceToInt, Int64.reduceToInt, true_and, and_true, false_and, and_false, false_or, or_false, true_or, or_true, not_true_eq_false, not_false_eq_true, ne_eq, forall_const, true_implies, false_implies, implies_true] at g_v2 g_v4 hn5 tx1 g2 c3 tx4 tx5 tx6 tx9 tx10 tx11 tx12 tx13 c14 tx28 ⊢) <;> omega) (by (try simp only [i_lt, i_le, i_eq, Int32.toInt_toInt64, Int32.reduceToInt, Int64.reduceToInt, true_and, and_true, false_and, and_false, false_or, or_false, true_or, or_true, not_true_eq_false, not_false_eq_true, ne_eq, forall_const, true_implies, false_implies, implies_true] at g_v2 g_v4 hn5 tx1 g2 c3 tx4 tx5 tx6 tx9 tx10 tx11 tx12 tx13 c14 tx28 ⊢) <;> omega) (by (try simp only [i_lt, i_le, i_eq, Int32.toInt_toInt64, Int32.reduceToInt, Int64.reduceToInt, true_and, and_true, false_and, and_false, false_or, or_false, true_or, or_true, not_true_eq_false, not_false_eq_true, ne_eq, forall_const, true_implies, false_implies, implies_true] at g_v2 g_v4 hn5 tx1 g2 c3 tx4 tx5 tx6 tx9 tx10 tx11 tx12 tx13 c14 tx28 ⊢) <;> omega) (lv_sub hl [4, 5, 6, 1, 0] rfl)
  have hl := lv_entry ([.ref h0, .int p1, .int p2]) (n := 7) (Nat.le_of_ble_eq_true rfl)
  rw [lg_entry_eq]
  generalize (lg_sl ([.ref h0, .int p1, .int p2]) ++ List.replicate (7 - (lg_sl ([.ref h0, .int p1, .int p2])).length) Slot.unset).toArray = ls at hl ⊢
  have hl : lv_has ls 7 [(0, .ref h0), (1, .int p1), (2, .int p2)] := hl
  refine lv_iconst (v := 0) hx hb dX12_heldBy_0 (by decide) ?_
  refine lv_istore_n (lv' := [(3, .int 0), (0, .ref h0), (1, .int p1), (2, .int p2)]) hx hb dX12_heldBy_1 rfl hl (by decide) rfl (fun ls hl => ?_)
  refine lv_iconst (v := 0) hx hb dX12_heldBy_2 (by decide) ?_
  refine lv_istore (lv' := [(4, .int 0), (3, .int 0), (0, .ref h0), (1, .int p1), (2, .int p2)]) hx hb dX12_heldBy_3 hl (by decide) rfl (fun ls hl => ?_)
  exact B5 _ ls p1 p2 0 0 (Nat.le_refl _) (by (try simp only [i_lt, i_le, i_eq, Int32.toInt_toInt64, Int32.reduceToInt, Int64.reduceToInt, true_and, and_true, false_and, and_false, false_or, or_false, true_or, or_true, not_true_eq_false, not_false_eq_true, ne_eq, forall_const, true_implies, false_implies, implies_true] at g_p2 ⊢) <;> omega) (by (try simp only [i_lt, i_le, i_eq, Int32.toInt_toInt64, Int32.reduceToInt, Int64.reduceToInt, true_and, and_true, false_and, and_false, false_or, or_false, true_or, or_true, not_true_eq_false, not_false_eq_true, ne_eq, forall_const, true_implies, false_implies, implies_true] at g_p2 ⊢) <;> omega) (lv_sub hl [2, 3, 4, 1, 0] rfl)
set_option maxHeartbeats 4000000 in
set_option maxRecDepth 100000 in
theorem t_X12_holds (l : Launch) (D : va_G) (k : Nat → ClassId) (p1 : Int32) (p2 : Int32) : Met l yX12_holds wsX12_holds ({ frames := 0, cells := 0, slots := 0, locals := 0 }) (PreR D k [] [.int p1, .int p2]) (vp_Si (fun r => 0 ≤ r.toInt ∧ r.toInt ≤ 1)) 0 0 (fun _ => False) := by
  refine Met.ofW (cc := cX12_holds) (maxL := 2) (ret := (some .boolean)) (by decide) rfl ?_
  intro p e s m args below meth c s₁ B hml hv
  obtain ⟨rfl, hP, hK⟩ := hv
  have hx := B.exec
  have hb := B.bytes
  have hr := B.returns
  have hts := atoms_spec (ws := wsX12_holds) B.pre
  have hown : s.vm.findClass RX12 = some m.cls := findClass_of_methodNamed B.named
  have hlocks := B.notSynchronized
  have hl := lv_entry ([.int p1, .int p2]) (n := 2) (Nat.le_of_ble_eq_true rfl)
  rw [lg_entry_eq]
  generalize (lg_sl ([.int p1, .int p2]) ++ List.replicate (2 - (lg_sl ([.int p1, .int p2])).length) Slot.unset).toArray = ls at hl ⊢
  have hl : lv_has ls 2 [(0, .int p1), (1, .int p2)] := hl
  refine lv_iload_n hx hb dX12_holds_0 rfl (lv_at hl 0 rfl) ?_
  refine lv_iload_n hx hb dX12_holds_1 rfl (lv_at hl 1 rfl) ?_
  refine lv_ishr hx hb dX12_holds_2 ?_
  refine lv_topi (fun x1 ex1 => ?_)
  refine lv_iconst (v := 1) hx hb dX12_holds_3 (by decide) ?_
  refine lv_iand hx hb dX12_holds_4 ?_
  refine lv_topi (fun x2 ex2 => ?_)
  have tx2 : 0 ≤ x2.toInt ∧ x2.toInt ≤ 1 := by rw [ex2]; exact i_and (m := 1) (b := 1) (by decide) (by decide)
  refine lv_iconst (v := 1) hx hb dX12_holds_5 (by decide) ?_
  refine lv_icmp_ne (tgt := 13) hx hb dX12_holds_6 (by decide) (fun c3 => ?_) (fun c3 => ?_)
  · refine lv_iconst (v := 0) hx hb dX12_holds_13 (by decide) ?_
    exact W.zret (v := 0) hx hb hr rfl (fun t ht hW => ⟨0, rfl, (by decide), ht⟩) (fun q h => by cases h) dX12_holds_14
  · refine lv_iconst (v := 1) hx hb dX12_holds_9 (by decide) ?_
    refine lv_goto (tgt := 14) hx hb dX12_holds_10 (by decide) ?_
    exact W.zret (v := 1) hx hb hr rfl (fun t ht hW => ⟨1, rfl, (by decide), ht⟩) (fun q h => by cases h) dX12_holds_14
