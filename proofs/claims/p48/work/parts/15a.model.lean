set_option maxHeartbeats 4000000 in
set_option maxRecDepth 100000 in
theorem t_X12_burstsOf (l : Launch) (D : va_G) (k : Nat → ClassId) (u : PSt) (hu : WT u) (h0 : Nat) (m_h0 : h0 ∈ u.1) (k_h0 : u.2.1 h0 = 12) (p1 : Int32) (g_p1 : 0 ≤ p1.toInt ∧ p1.toInt ≤ 7) : Met l yX12_burstsOf wsX12_burstsOf ({ frames := 0, cells := 0, slots := 0, locals := 0 }) (PreR D k (PW k u) [.ref h0, .int p1]) (vp_Si (fun r => True)) 0 0 (fun _ => False) := by
  refine Met.ofW (cc := cX12_burstsOf) (maxL := 3) (ret := (some .int)) (by decide) rfl ?_
  intro p e s m args below meth c s₁ B hml hv
  obtain ⟨rfl, hP, hK⟩ := hv
  have hx := B.exec
  have hb := B.bytes
  have hr := B.returns
  have hts := atoms_spec (ws := wsX12_burstsOf) B.pre
  have hown : s.vm.findClass RX12 = some m.cls := findClass_of_methodNamed B.named
  have hlocks := B.notSynchronized
  have i_X12 : ∀ w ∈ wsX120, w ∈ wsX12_burstsOf := by decide +kernel
  obtain ⟨a1, q0_1, m0_a1, k0_a1⟩ := (hu h0 m_h0).1 1 50 (by rw [k_h0]; rfl)
  have m_a1 := m0_a1
  have k_a1 := k0_a1
  have B2 : ∀ (n2 : Nat) (ls : Array Slot) (v1 : Int32) (v2 : Int32), (2147483648 - v2.toInt).toNat ≤ n2 → 0 ≤ v1.toInt ∧ v1.toInt ≤ 7 → 0 ≤ v2.toInt ∧ v2.toInt ≤ 2000 → lv_has ls 3 [(0, .ref h0), (1, .int v1), (2, .int v2)] → W p l e (headSpec wsX12_burstsOf ({ frames := 0, cells := 0, slots := 0, locals := 0 })).room s m ([.ref h0, .int p1] : List Value).toArray below meth c s.heap [] 0 0 (MQ below (vp_Si (fun r => True)) ([.ref h0, .int p1] : List Value).toArray s 0 0 (fun _ => False)) (F0 m 2 ls []) := by
    intro n2
    induction n2 with
    | zero =>
      intro ls v1 v2 hn2 g_v1 g_v2 hl
      exact absurd hn2 (by have := Int32.toInt_lt v2; have := Int32.le_toInt v2; omega)
    | succ n2 ih2 =>
      intro ls v1 v2 hn2 g_v1 g_v2 hl
      refine lv_iload_n hx hb dX12_burstsOf_2 rfl (lv_at hl 2 rfl) ?_
      refine lv_aload_n hx hb dX12_burstsOf_3 rfl (lv_at hl 0 rfl) ?_
      refine pget (ci := 12) (v := va_rf (u.2.2.2.2 h0 1)) (C := RX12) (T := TX12) (N := 34) hx hb hts i_X12 hown hK hP m_h0 (cF12 k_h0) rfl 1 (by decide) (hts (.fieldLink RX12 13 "BellowsRowModel" "world" "[I") (by decide +kernel)) (fun _ h9 => h9) rfl dX12_burstsOf_4 ?_
      refine W.eq (g2 := F0 m 7 ls [.ref a1, .int v2]) (by rw [q0_1]; rfl) ?_
      refine lv_bipush (v := 6) hx hb dX12_burstsOf_7 (by decide) ?_
      refine palI hx hb hK hP m_a1 (cF50 k_a1) 1 rfl (vp_in_iff.mpr (by decide)) dX12_burstsOf_9 ?_
      refine lv_topi (fun x1 ex1 => ?_)
      have tx1 : x1.toInt = (u.2.2.1 a1 6).toInt := congrArg Int32.toInt ex1
      have g2 : 0 ≤ x1.toInt ∧ x1.toInt ≤ 2000 := by have g : okI (u.2.1 a1) (6) (u.2.2.1 a1 (6)) := (hu a1 m_a1).2.2.2 (6); rw [k_a1, ← (show x1 = u.2.2.1 a1 (6) from ex1)] at g; have g : okW (6) x1 := g; unfold okW at g; (try simp only [i_lt, i_le, i_eq, Int32.toInt_toInt64, Int32.reduceToInt, Int64.reduceToInt, true_and, and_true, false_and, and_false, false_or, or_false, true_or, or_true, not_true_eq_false, not_false_eq_true, ne_eq, forall_const, true_implies, false_implies, implies_true] at g_v1 g_v2 hn2 tx1 g ⊢) <;> omega
      refine lv_icmp_ge (tgt := 47) hx hb dX12_burstsOf_10 (by decide) (fun c3 => ?_) (fun c3 => ?_)
      · refine lv_iconst (v := (-1)) hx hb dX12_burstsOf_47 (by decide) ?_
        exact W.iret (v := (-1)) hx hb hr (fun t ht hW => ⟨(-1), rfl, trivial, ht⟩) (fun q h => by cases h) dX12_burstsOf_48
      · refine lv_aload_n hx hb dX12_burstsOf_13 rfl (lv_at hl 0 rfl) ?_
        refine pget (ci := 12) (v := va_rf (u.2.2.2.2 h0 1)) (C := RX12) (T := TX12) (N := 34) hx hb hts i_X12 hown hK hP m_h0 (cF12 k_h0) rfl 1 (by decide) (hts (.fieldLink RX12 13 "BellowsRowModel" "world" "[I") (by decide +kernel)) (fun _ h9 => h9) rfl dX12_burstsOf_14 ?_
        refine W.eq (g2 := F0 m 17 ls [.ref a1]) (by rw [q0_1]; rfl) ?_
        refine lv_sipush (v := 482) hx hb dX12_burstsOf_17 (by decide) ?_
        refine lv_iload_n hx hb dX12_burstsOf_20 rfl (lv_at hl 2 rfl) ?_
        refine lv_iadd hx hb dX12_burstsOf_21 ?_
        refine lv_topi (fun x4 ex4 => ?_)
        have tx4 : x4.toInt = (482 : Int32).toInt + v2.toInt := by rw [ex4]; exact i_add (by (try simp only [i_lt, i_le, i_eq, Int32.toInt_toInt64, Int32.reduceToInt, Int64.reduceToInt, true_and, and_true, false_and, and_false, false_or, or_false, true_or, or_true, not_true_eq_false, not_false_eq_true, ne_eq, forall_const, true_implies, false_implies, implies_true] at g_v1 g_v2 hn2 tx1 g2 c3 ⊢) <;> omega) (by (try simp only [i_lt, i_le, i_eq, Int32.toInt_toInt64, Int32.reduceToInt, Int64.reduceToInt, true_and, and_true, false_and, and_false, false_or, or_false, true_or, or_true, not_true_eq_false, not_false_eq_true, ne_eq, forall_const, true_implies, false_implies, implies_true] at g_v1 g_v2 hn2 tx1 g2 c3 ⊢) <;> omega)
        refine palI hx hb hK hP m_a1 (cF50 k_a1) 1 rfl (vp_in_iff.mpr (by (try simp only [i_lt, i_le, i_eq, Int32.toInt_toInt64, Int32.reduceToInt, Int64.reduceToInt, true_and, and_true, false_and, and_false, false_or, or_false, true_or, or_true, not_true_eq_false, not_false_eq_true, ne_eq, forall_const, true_implies, false_implies, implies_true] at g_v1 g_v2 hn2 tx1 g2 c3 tx4 ⊢) <;> omega)) dX12_burstsOf_22 ?_
        refine lv_topi (fun x5 ex5 => ?_)
        have tx5 : x5.toInt = (u.2.2.1 a1 (x4.toNatClampNeg)).toInt := congrArg Int32.toInt ex5
        have g6 : 0 ≤ x5.toInt ∧ x5.toInt ≤ 999 := by have g : okI (u.2.1 a1) (x4.toNatClampNeg) (u.2.2.1 a1 (x4.toNatClampNeg)) := (hu a1 m_a1).2.2.2 (x4.toNatClampNeg); rw [k_a1, ← (show x5 = u.2.2.1 a1 (x4.toNatClampNeg) from ex5)] at g; have g : okW (x4.toNatClampNeg) x5 := g; unfold okW at g; have z := cl_int (x := x4) (by (try simp only [i_lt, i_le, i_eq, Int32.toInt_toInt64, Int32.reduceToInt, Int64.reduceToInt, true_and, and_true, false_and, and_false, false_or, or_false, true_or, or_true, not_true_eq_false, not_false_eq_true, ne_eq, forall_const, true_implies, false_implies, implies_true] at g_v1 g_v2 hn2 tx1 g2 c3 tx4 tx5 ⊢) <;> omega); (try simp only [i_lt, i_le, i_eq, Int32.toInt_toInt64, Int32.reduceToInt, Int64.reduceToInt, true_and, and_true, false_and, and_false, false_or, or_false, true_or, or_true, not_true_eq_false, not_false_eq_true, ne_eq, forall_const, true_implies, false_implies, implies_true] at g_v1 g_v2 hn2 tx1 g2 c3 tx4 tx5 g z ⊢) <;> omega
        refine lv_aload_n hx hb dX12_burstsOf_23 rfl (lv_at hl 0 rfl) ?_
        refine pget (ci := 12) (v := va_rf (u.2.2.2.2 h0 1)) (C := RX12) (T := TX12) (N := 34) hx hb hts i_X12 hown hK hP m_h0 (cF12 k_h0) rfl 1 (by decide) (hts (.fieldLink RX12 13 "BellowsRowModel" "world" "[I") (by decide +kernel)) (fun _ h9 => h9) rfl dX12_burstsOf_24 ?_
        refine W.eq (g2 := F0 m 27 ls [.ref a1, .int x5]) (by rw [q0_1]; rfl) ?_
        refine lv_bipush (v := 10) hx hb dX12_burstsOf_27 (by decide) ?_
        refine lv_iconst (v := 2) hx hb dX12_burstsOf_29 (by decide) ?_
        refine lv_iload_n hx hb dX12_burstsOf_30 rfl (lv_at hl 1 rfl) ?_
        refine lv_imul hx hb dX12_burstsOf_31 ?_
        refine lv_topi (fun x7 ex7 => ?_)
        have tx7 : x7.toInt = 2 * v1.toInt := by rw [ex7]; exact i_mulc (c := 2) (by decide) ((show 0 ≤ v1.toInt ∧ v1.toInt ≤ 7 from by (try simp only [i_lt, i_le, i_eq, Int32.toInt_toInt64, Int32.reduceToInt, Int64.reduceToInt, true_and, and_true, false_and, and_false, false_or, or_false, true_or, or_true, not_true_eq_false, not_false_eq_true, ne_eq, forall_const, true_implies, false_implies, implies_true] at g_v1 g_v2 hn2 tx1 g2 c3 tx4 tx5 g6 ⊢) <;> omega)) (by decide)
        refine lv_iadd hx hb dX12_burstsOf_32 ?_
        refine lv_topi (fun x8 ex8 => ?_)
        have tx8 : x8.toInt = (10 : Int32).toInt + x7.toInt := by rw [ex8]; exact i_add (by (try simp only [i_lt, i_le, i_eq, Int32.toInt_toInt64, Int32.reduceToInt, Int64.reduceToInt, true_and, and_true, false_and, and_false, false_or, or_false, true_or, or_true, not_true_eq_false, not_false_eq_true, ne_eq, forall_const, true_implies, false_implies, implies_true] at g_v1 g_v2 hn2 tx1 g2 c3 tx4 tx5 g6 tx7 ⊢) <;> omega) (by (try simp only [i_lt, i_le, i_eq, Int32.toInt_toInt64, Int32.reduceToInt, Int64.reduceToInt, true_and, and_true, false_and, and_false, false_or, or_false, true_or, or_true, not_true_eq_false, not_false_eq_true, ne_eq, forall_const, true_implies, false_implies, implies_true] at g_v1 g_v2 hn2 tx1 g2 c3 tx4 tx5 g6 tx7 ⊢) <;> omega)
        refine lv_iconst (v := 1) hx hb dX12_burstsOf_33 (by decide) ?_
        refine lv_iadd hx hb dX12_burstsOf_34 ?_
        refine lv_topi (fun x9 ex9 => ?_)
        have tx9 : x9.toInt = x8.toInt + (1 : Int32).toInt := by rw [ex9]; exact i_add (by (try simp only [i_lt, i_le, i_eq, Int32.toInt_toInt64, Int32.reduceToInt, Int64.reduceToInt, true_and, and_true, false_and, and_false, false_or, or_false, true_or, or_true, not_true_eq_false, not_false_eq_true, ne_eq, forall_const, true_implies, false_implies, implies_true] at g_v1 g_v2 hn2 tx1 g2 c3 tx4 tx5 g6 tx7 tx8 ⊢) <;> omega) (by (try simp only [i_lt, i_le, i_eq, Int32.toInt_toInt64, Int32.reduceToInt, Int64.reduceToInt, true_and, and_true, false_and, and_false, false_or, or_false, true_or, or_true, not_true_eq_false, not_false_eq_true, ne_eq, forall_const, true_implies, false_implies, implies_true] at g_v1 g_v2 hn2 tx1 g2 c3 tx4 tx5 g6 tx7 tx8 ⊢) <;> omega)
        refine palI hx hb hK hP m_a1 (cF50 k_a1) 1 rfl (vp_in_iff.mpr (by (try simp only [i_lt, i_le, i_eq, Int32.toInt_toInt64, Int32.reduceToInt, Int64.reduceToInt, true_and, and_true, false_and, and_false, false_or, or_false, true_or, or_true, not_true_eq_false, not_false_eq_true, ne_eq, forall_const, true_implies, false_implies, implies_true] at g_v1 g_v2 hn2 tx1 g2 c3 tx4 tx5 g6 tx7 tx8 tx9 ⊢) <;> omega)) dX12_burstsOf_35 ?_
        refine lv_topi (fun x10 ex10 => ?_)
        have tx10 : x10.toInt = (u.2.2.1 a1 (x9.toNatClampNeg)).toInt := congrArg Int32.toInt ex10
        refine lv_icmp_le (tgt := 41) hx hb dX12_burstsOf_36 (by decide) (fun c11 => ?_) (fun c11 => ?_)
        · have b12 := Int32.toInt_lt x10
          obtain ⟨x13, ex13⟩ : ∃ y : Int32, y = v2 + 1 := ⟨_, rfl⟩
          have tx13 : x13.toInt = v2.toInt + 1 := by rw [ex13]; exact i_add (b := 1) (by (try simp only [i_lt, i_le, i_eq, Int32.toInt_toInt64, Int32.reduceToInt, Int64.reduceToInt, true_and, and_true, false_and, and_false, false_or, or_false, true_or, or_true, not_true_eq_false, not_false_eq_true, ne_eq, forall_const, true_implies, false_implies, implies_true] at g_v1 g_v2 hn2 tx1 g2 c3 tx4 tx5 g6 tx7 tx8 tx9 tx10 c11 b12 ⊢) <;> omega) (by (try simp only [i_lt, i_le, i_eq, Int32.toInt_toInt64, Int32.reduceToInt, Int64.reduceToInt, true_and, and_true, false_and, and_false, false_or, or_false, true_or, or_true, not_true_eq_false, not_false_eq_true, ne_eq, forall_const, true_implies, false_implies, implies_true] at g_v1 g_v2 hn2 tx1 g2 c3 tx4 tx5 g6 tx7 tx8 tx9 tx10 c11 b12 ⊢) <;> omega)
          refine lv_iinc (v := x13) (lv' := [(2, .int x13), (0, .ref h0), (1, .int v1)]) hx hb dX12_burstsOf_41 hl (k := 2) rfl (by rw [ex13]; rfl) (by decide) rfl (fun ls hl => ?_)
          refine lv_goto (tgt := 2) hx hb dX12_burstsOf_44 (by decide) ?_
          exact ih2 ls v1 x13 (by (try simp only [i_lt, i_le, i_eq, Int32.toInt_toInt64, Int32.reduceToInt, Int64.reduceToInt, true_and, and_true, false_and, and_false, false_or, or_false, true_or, or_true, not_true_eq_false, not_false_eq_true, ne_eq, forall_const, true_implies, false_implies, implies_true] at g_v1 g_v2 hn2 tx1 g2 c3 tx4 tx5 g6 tx7 tx8 tx9 tx10 c11 b12 tx13 ⊢) <;> omega) (by (try simp only [i_lt, i_le, i_eq, Int32.toInt_toInt64, Int32.reduceToInt, Int64.reduceToInt, true_and, and_true, false_and, and_false, false_or, or_false, true_or, or_true, not_true_eq_false, not_false_eq_true, ne_eq, forall_const, true_implies, false_implies, implies_true] at g_v1 g_v2 hn2 tx1 g2 c3 tx4 tx5 g6 tx7 tx8 tx9 tx10 c11 b12 tx13 ⊢) <;> omega) (by (try simp only [i_lt, i_le, i_eq, Int32.toInt_toInt64, Int32.reduceToInt, Int64.reduceToInt, true_and, and_true, false_and, and_false, false_or, or_false, true_or, or_true, not_true_eq_false, not_false_eq_true, ne_eq, forall_const, true_implies, false_implies, implies_true] at g_v1 g_v2 hn2 tx1 g2 c3 tx4 tx5 g6 tx7 tx8 tx9 tx10 c11 b12 tx13 ⊢) <;> omega) (lv_sub hl [1, 2, 0] rfl)
        · have b14 := Int32.toInt_lt x10
          refine lv_iload_n hx hb dX12_burstsOf_39 rfl (lv_at hl 2 rfl) ?_
          exact W.iret (v := v2) hx hb hr (fun t ht hW => ⟨v2, rfl, trivial, ht⟩) (fun q h => by cases h) dX12_burstsOf_40
  have hl := lv_entry ([.ref h0, .int p1]) (n := 3) (Nat.le_of_ble_eq_true rfl)
  rw [lg_entry_eq]
  generalize (lg_sl ([.ref h0, .int p1]) ++ List.replicate (3 - (lg_sl ([.ref h0, .int p1])).length) Slot.unset).toArray = ls at hl ⊢
  have hl : lv_has ls 3 [(0, .ref h0), (1, .int p1)] := hl
  refine lv_iconst (v := 0) hx hb dX12_burstsOf_0 (by decide) ?_
  refine lv_istore_n (lv' := [(2, .int 0), (0, .ref h0), (1, .int p1)]) hx hb dX12_burstsOf_1 rfl hl (by decide) rfl (fun ls hl => ?_)
  exact B2 _ ls p1 0 (Nat.le_refl _) (by (try simp only [i_lt, i_le, i_eq, Int32.toInt_toInt64, Int32.reduceToInt, Int64.reduceToInt, true_and, and_true, false_and, and_false, false_or, or_false, true_or, or_true, not_true_eq_false, not_false_eq_true, ne_eq, forall_const, true_implies, false_implies, implies_true] at g_p1 ⊢) <;> omega) (by (try simp only [i_lt, i_le, i_eq, Int32.toInt_toInt64, Int32.reduceToInt, Int64.reduceToInt, true_and, and_true, false_and, and_false, false_or, or_false, true_or, or_true, not_true_eq_false, not_false_eq_true, ne_eq, forall_const, true_implies, false_implies, implies_true] at g_p1 ⊢) <;> omega) (lv_sub hl [1, 2, 0] rfl)
set_option maxHeartbeats 4000000 in
set_option maxRecDepth 100000 in
theorem t_X12_count (l : Launch) (D : va_G) (k : Nat → ClassId) (u : PSt) (hu : WT u) (h0 : Nat) (m_h0 : h0 ∈ u.1) (k_h0 : u.2.1 h0 = 12) (p1 : Int32) : Met l yX12_count wsX12_count ({ frames := 0, cells := 0, slots := 0, locals := 0 }) (PreR D k (PW k u) [.ref h0, .int p1]) (vp_Si (fun r => True)) 0 0 (fun _ => False) := by
  refine Met.ofW (cc := cX12_count) (maxL := 4) (ret := (some .int)) (by decide) rfl ?_
  intro p e s m args below meth c s₁ B hml hv
  obtain ⟨rfl, hP, hK⟩ := hv
  have hx := B.exec
  have hb := B.bytes
  have hr := B.returns
  have hts := atoms_spec (ws := wsX12_count) B.pre
  have hown : s.vm.findClass RX12 = some m.cls := findClass_of_methodNamed B.named
  have hlocks := B.notSynchronized
  have i_X12 : ∀ w ∈ wsX120, w ∈ wsX12_count := by decide +kernel
  obtain ⟨a1, q0_1, m0_a1, k0_a1⟩ := (hu h0 m_h0).1 1 50 (by rw [k_h0]; rfl)
  obtain ⟨a30, q0_30, m0_a30, k0_a30⟩ := (hu h0 m_h0).1 30 60 (by rw [k_h0]; rfl)
  have m_a1 := m0_a1
  have m_a30 := m0_a30
  have k_a1 := k0_a1
  have k_a30 := k0_a30
  have B121 : ∀ (n121 : Nat) (ls : Array Slot) (v2 : Int32) (v3 : Int32), (2147483648 - v3.toInt).toNat ≤ n121 → 0 ≤ v3.toInt ∧ v3.toInt ≤ 4 → lv_has ls 4 [(0, .ref h0), (2, .int v2), (3, .int v3)] → W p l e (headSpec wsX12_count ({ frames := 0, cells := 0, slots := 0, locals := 0 })).room s m ([.ref h0, .int p1] : List Value).toArray below meth c s.heap [] 0 0 (MQ below (vp_Si (fun r => True)) ([.ref h0, .int p1] : List Value).toArray s 0 0 (fun _ => False)) (F0 m 121 ls []) := by
    intro n121
    induction n121 with
    | zero =>
      intro ls v2 v3 hn121 g_v3 hl
      exact absurd hn121 (by have := Int32.toInt_lt v3; have := Int32.le_toInt v3; omega)
    | succ n121 ih121 =>
      intro ls v2 v3 hn121 g_v3 hl
      refine lv_iload_n hx hb dX12_count_121 rfl (lv_at hl 2 rfl) ?_
      refine lv_iconst (v := 4) hx hb dX12_count_122 (by decide) ?_
      refine lv_icmp_ge (tgt := 150) hx hb dX12_count_123 (by decide) (fun c1 => ?_) (fun c1 => ?_)
      · refine lv_iload_n hx hb dX12_count_150 rfl (lv_at hl 1 rfl) ?_
        exact W.iret (v := v2) hx hb hr (fun t ht hW => ⟨v2, rfl, trivial, ht⟩) (fun q h => by cases h) dX12_count_151
      · refine lv_iload_n hx hb dX12_count_126 rfl (lv_at hl 1 rfl) ?_
        refine lv_aload_n hx hb dX12_count_127 rfl (lv_at hl 0 rfl) ?_
        refine pget (ci := 12) (v := va_rf (u.2.2.2.2 h0 30)) (C := RX12) (T := TX12) (N := 34) hx hb hts i_X12 hown hK hP m_h0 (cF12 k_h0) rfl 30 (by decide) (hts (.fieldLink RX12 61 "BellowsRowModel" "slotMany" "[I") (by decide +kernel)) (fun _ h9 => h9) rfl dX12_count_128 ?_
        refine W.eq (g2 := F0 m 131 ls [.ref a30, .int v2]) (by rw [q0_30]; rfl) ?_
        refine lv_iload_n hx hb dX12_count_131 rfl (lv_at hl 2 rfl) ?_
        refine palI hx hb hK hP m_a30 (cF60 k_a30) 1 rfl (vp_in_iff.mpr (by (try simp only [i_lt, i_le, i_eq, Int32.toInt_toInt64, Int32.reduceToInt, Int64.reduceToInt, true_and, and_true, false_and, and_false, false_or, or_false, true_or, or_true, not_true_eq_false, not_false_eq_true, ne_eq, forall_const, true_implies, false_implies, implies_true] at g_v3 hn121 c1 ⊢) <;> omega)) dX12_count_132 ?_
        refine lv_topi (fun x2 ex2 => ?_)
        have tx2 : x2.toInt = (u.2.2.1 a30 (v3.toNatClampNeg)).toInt := congrArg Int32.toInt ex2
        have g3 : -1 ≤ x2.toInt ∧ x2.toInt ≤ 60 := by have g := (hu a30 m_a30).2.2.2 (v3.toNatClampNeg); rw [k_a30] at g; rw [show x2 = _ from ex2]; exact g
        refine lv_iconst (v := (-1)) hx hb dX12_count_133 (by decide) ?_
        refine lv_icmp_ne (tgt := 141) hx hb dX12_count_134 (by decide) (fun c4 => ?_) (fun c4 => ?_)
        · refine lv_iconst (v := 1) hx hb dX12_count_141 (by decide) ?_
          refine lv_iadd hx hb dX12_count_142 ?_
          refine lv_topi (fun x5 ex5 => ?_)
          refine lv_istore_n (lv' := [(2, .int x5), (0, .ref h0), (3, .int v3)]) hx hb dX12_count_143 rfl hl (by decide) rfl (fun ls hl => ?_)
          obtain ⟨x6, ex6⟩ : ∃ y : Int32, y = v3 + 1 := ⟨_, rfl⟩
          have tx6 : x6.toInt = v3.toInt + 1 := by rw [ex6]; exact i_add (b := 1) (by (try simp only [i_lt, i_le, i_eq, Int32.toInt_toInt64, Int32.reduceToInt, Int64.reduceToInt, true_and, and_true, false_and, and_false, false_or, or_false, true_or, or_true, not_true_eq_false, not_false_eq_true, ne_eq, forall_const, true_implies, false_implies, implies_true] at g_v3 hn121 c1 tx2 g3 c4 ⊢) <;> omega) (by (try simp only [i_lt, i_le, i_eq, Int32.toInt_toInt64, Int32.reduceToInt, Int64.reduceToInt, true_and, and_true, false_and, and_false, false_or, or_false, true_or, or_true, not_true_eq_false, not_false_eq_true, ne_eq, forall_const, true_implies, false_implies, implies_true] at g_v3 hn121 c1 tx2 g3 c4 ⊢) <;> omega)
          refine lv_iinc (v := x6) (lv' := [(3, .int x6), (2, .int x5), (0, .ref h0)]) hx hb dX12_count_144 hl (k := 2) rfl (by rw [ex6]; rfl) (by decide) rfl (fun ls hl => ?_)
          refine lv_goto (tgt := 121) hx hb dX12_count_147 (by decide) ?_
          exact ih121 ls x5 x6 (by (try simp only [i_lt, i_le, i_eq, Int32.toInt_toInt64, Int32.reduceToInt, Int64.reduceToInt, true_and, and_true, false_and, and_false, false_or, or_false, true_or, or_true, not_true_eq_false, not_false_eq_true, ne_eq, forall_const, true_implies, false_implies, implies_true] at g_v3 hn121 c1 tx2 g3 c4 tx6 ⊢) <;> omega) (by (try simp only [i_lt, i_le, i_eq, Int32.toInt_toInt64, Int32.reduceToInt, Int64.reduceToInt, true_and, and_true, false_and, and_false, false_or, or_false, true_or, or_true, not_true_eq_false, not_false_eq_true, ne_eq, forall_const, true_implies, false_implies, implies_true] at g_v3 hn121 c1 tx2 g3 c4 tx6 ⊢) <;> omega) (lv_sub hl [2, 1, 0] rfl)
        · refine lv_iconst (v := 0) hx hb dX12_count_137 (by decide) ?_
          refine lv_goto (tgt := 142) hx hb dX12_count_138 (by decide) ?_
          refine lv_iadd hx hb dX12_count_142 ?_
          refine lv_topi (fun x7 ex7 => ?_)
          refine lv_istore_n (lv' := [(2, .int x7), (0, .ref h0), (3, .int v3)]) hx hb dX12_count_143 rfl hl (by decide) rfl (fun ls hl => ?_)
          obtain ⟨x8, ex8⟩ : ∃ y : Int32, y = v3 + 1 := ⟨_, rfl⟩
          have tx8 : x8.toInt = v3.toInt + 1 := by rw [ex8]; exact i_add (b := 1) (by (try simp only [i_lt, i_le, i_eq, Int32.toInt_toInt64, Int32.reduceToInt, Int64.reduceToInt, true_and, and_true, false_and, and_false, false_or, or_false, true_or, or_true, not_true_eq_false, not_false_eq_true, ne_eq, forall_const, true_implies, false_implies, implies_true] at g_v3 hn121 c1 tx2 g3 c4 ⊢) <;> omega) (by (try simp only [i_lt, i_le, i_eq, Int32.toInt_toInt64, Int32.reduceToInt, Int64.reduceToInt, true_and, and_true, false_and, and_false, false_or, or_false, true_or, or_true, not_true_eq_false, not_false_eq_true, ne_eq, forall_const, true_implies, false_implies, implies_true] at g_v3 hn121 c1 tx2 g3 c4 ⊢) <;> omega)
          refine lv_iinc (v := x8) (lv' := [(3, .int x8), (2, .int x7), (0, .ref h0)]) hx hb dX12_count_144 hl (k := 2) rfl (by rw [ex8]; rfl) (by decide) rfl (fun ls hl => ?_)
          refine lv_goto (tgt := 121) hx hb dX12_count_147 (by decide) ?_
          exact ih121 ls x7 x8 (by (try simp only [i_lt, i_le, i_eq, Int32.toInt_toInt64, Int32.reduceToInt, Int64.reduceToInt, true_and, and_true, false_and, and_false, false_or, or_false, true_or, or_true, not_true_eq_false, not_false_eq_true, ne_eq, forall_const, true_implies, false_implies, implies_true] at g_v3 hn121 c1 tx2 g3 c4 tx8 ⊢) <;> omega) (by (try simp only [i_lt, i_le, i_eq, Int32.toInt_toInt64, Int32.reduceToInt, Int64.reduceToInt, true_and, and_true, false_and, and_false, false_or, or_false, true_or, or_true, not_true_eq_false, not_false_eq_true, ne_eq, forall_const, true_implies, false_implies, implies_true] at g_v3 hn121 c1 tx2 g3 c4 tx8 ⊢) <;> omega) (lv_sub hl [2, 1, 0] rfl)
  have hl := lv_entry ([.ref h0, .int p1]) (n := 4) (Nat.le_of_ble_eq_true rfl)
  rw [lg_entry_eq]
  generalize (lg_sl ([.ref h0, .int p1]) ++ List.replicate (4 - (lg_sl ([.ref h0, .int p1])).length) Slot.unset).toArray = ls at hl ⊢
  have hl : lv_has ls 4 [(0, .ref h0), (1, .int p1)] := hl
  refine lv_iconst (v := 0) hx hb dX12_count_0 (by decide) ?_
  refine lv_istore_n (lv' := [(2, .int 0), (0, .ref h0), (1, .int p1)]) hx hb dX12_count_1 rfl hl (by decide) rfl (fun ls hl => ?_)
  refine lv_iload_n hx hb dX12_count_2 rfl (lv_at hl 2 rfl) ?_
  by_cases k9 : p1 = 0
  · refine lv_tableIn (tgt := 56) hx hb dX12_count_3 (by rw [k9]; decide) (by rw [k9]; decide) (by rw [k9]; rfl) (by decide) ?_
    refine lv_aload_n hx hb dX12_count_56 rfl (lv_at hl 1 rfl) ?_
    refine pget (ci := 12) (v := va_rf (u.2.2.2.2 h0 1)) (C := RX12) (T := TX12) (N := 34) hx hb hts i_X12 hown hK hP m_h0 (cF12 k_h0) rfl 1 (by decide) (hts (.fieldLink RX12 13 "BellowsRowModel" "world" "[I") (by decide +kernel)) (fun _ h9 => h9) rfl dX12_count_57 ?_
    refine W.eq (g2 := F0 m 60 ls [.ref a1]) (by rw [q0_1]; rfl) ?_
    refine lv_iconst (v := 1) hx hb dX12_count_60 (by decide) ?_
    refine palI hx hb hK hP m_a1 (cF50 k_a1) 1 rfl (vp_in_iff.mpr (by decide)) dX12_count_61 ?_
    refine lv_topi (fun x10 ex10 => ?_)
    have tx10 : x10.toInt = (u.2.2.1 a1 1).toInt := congrArg Int32.toInt ex10
    have g11 : 0 ≤ x10.toInt ∧ x10.toInt ≤ 8 := by have g : okI (u.2.1 a1) (1) (u.2.2.1 a1 (1)) := (hu a1 m_a1).2.2.2 (1); rw [k_a1, ← (show x10 = u.2.2.1 a1 (1) from ex10)] at g; have g : okW (1) x10 := g; unfold okW at g; (try simp only [i_lt, i_le, i_eq, Int32.toInt_toInt64, Int32.reduceToInt, Int64.reduceToInt, true_and, and_true, false_and, and_false, false_or, or_false, true_or, or_true, not_true_eq_false, not_false_eq_true, ne_eq, forall_const, true_implies, false_implies, implies_true] at k9 tx10 g ⊢) <;> omega
    exact W.iret (v := x10) hx hb hr (fun t ht hW => ⟨x10, rfl, trivial, ht⟩) (fun q h => by cases h) dX12_count_62
  by_cases k12 : p1 = 1
  · refine lv_tableIn (tgt := 63) hx hb dX12_count_3 (by rw [k12]; decide) (by rw [k12]; decide) (by rw [k12]; rfl) (by decide) ?_
    refine lv_aload_n hx hb dX12_count_63 rfl (lv_at hl 1 rfl) ?_
    refine pget (ci := 12) (v := va_rf (u.2.2.2.2 h0 1)) (C := RX12) (T := TX12) (N := 34) hx hb hts i_X12 hown hK hP m_h0 (cF12 k_h0) rfl 1 (by decide) (hts (.fieldLink RX12 13 "BellowsRowModel" "world" "[I") (by decide +kernel)) (fun _ h9 => h9) rfl dX12_count_64 ?_
    refine W.eq (g2 := F0 m 67 ls [.ref a1]) (by rw [q0_1]; rfl) ?_
    refine lv_iconst (v := 2) hx hb dX12_count_67 (by decide) ?_
    refine palI hx hb hK hP m_a1 (cF50 k_a1) 1 rfl (vp_in_iff.mpr (by decide)) dX12_count_68 ?_
    refine lv_topi (fun x13 ex13 => ?_)
    have tx13 : x13.toInt = (u.2.2.1 a1 2).toInt := congrArg Int32.toInt ex13
    have g14 : 0 ≤ x13.toInt ∧ x13.toInt ≤ 12 := by have g : okI (u.2.1 a1) (2) (u.2.2.1 a1 (2)) := (hu a1 m_a1).2.2.2 (2); rw [k_a1, ← (show x13 = u.2.2.1 a1 (2) from ex13)] at g; have g : okW (2) x13 := g; unfold okW at g; (try simp only [i_lt, i_le, i_eq, Int32.toInt_toInt64, Int32.reduceToInt, Int64.reduceToInt, true_and, and_true, false_and, and_false, false_or, or_false, true_or, or_true, not_true_eq_false, not_false_eq_true, ne_eq, forall_const, true_implies, false_implies, implies_true] at k12 tx13 g ⊢) <;> omega
    exact W.iret (v := x13) hx hb hr (fun t ht hW => ⟨x13, rfl, trivial, ht⟩) (fun q h => by cases h) dX12_count_69
  by_cases k15 : p1 = 2
  · refine lv_tableIn (tgt := 70) hx hb dX12_count_3 (by rw [k15]; decide) (by rw [k15]; decide) (by rw [k15]; rfl) (by decide) ?_
    refine lv_aload_n hx hb dX12_count_70 rfl (lv_at hl 1 rfl) ?_
    refine pget (ci := 12) (v := va_rf (u.2.2.2.2 h0 1)) (C := RX12) (T := TX12) (N := 34) hx hb hts i_X12 hown hK hP m_h0 (cF12 k_h0) rfl 1 (by decide) (hts (.fieldLink RX12 13 "BellowsRowModel" "world" "[I") (by decide +kernel)) (fun _ h9 => h9) rfl dX12_count_71 ?_
    refine W.eq (g2 := F0 m 74 ls [.ref a1]) (by rw [q0_1]; rfl) ?_
    refine lv_bipush (v := 6) hx hb dX12_count_74 (by decide) ?_
    refine palI hx hb hK hP m_a1 (cF50 k_a1) 1 rfl (vp_in_iff.mpr (by decide)) dX12_count_76 ?_
    refine lv_topi (fun x16 ex16 => ?_)
    have tx16 : x16.toInt = (u.2.2.1 a1 6).toInt := congrArg Int32.toInt ex16
    have g17 : 0 ≤ x16.toInt ∧ x16.toInt ≤ 2000 := by have g : okI (u.2.1 a1) (6) (u.2.2.1 a1 (6)) := (hu a1 m_a1).2.2.2 (6); rw [k_a1, ← (show x16 = u.2.2.1 a1 (6) from ex16)] at g; have g : okW (6) x16 := g; unfold okW at g; (try simp only [i_lt, i_le, i_eq, Int32.toInt_toInt64, Int32.reduceToInt, Int64.reduceToInt, true_and, and_true, false_and, and_false, false_or, or_false, true_or, or_true, not_true_eq_false, not_false_eq_true, ne_eq, forall_const, true_implies, false_implies, implies_true] at k15 tx16 g ⊢) <;> omega
    exact W.iret (v := x16) hx hb hr (fun t ht hW => ⟨x16, rfl, trivial, ht⟩) (fun q h => by cases h) dX12_count_77
  by_cases k18 : p1 = 3
  · refine lv_tableIn (tgt := 78) hx hb dX12_count_3 (by rw [k18]; decide) (by rw [k18]; decide) (by rw [k18]; rfl) (by decide) ?_
    refine lv_aload_n hx hb dX12_count_78 rfl (lv_at hl 1 rfl) ?_
    refine pget (ci := 12) (v := va_rf (u.2.2.2.2 h0 1)) (C := RX12) (T := TX12) (N := 34) hx hb hts i_X12 hown hK hP m_h0 (cF12 k_h0) rfl 1 (by decide) (hts (.fieldLink RX12 13 "BellowsRowModel" "world" "[I") (by decide +kernel)) (fun _ h9 => h9) rfl dX12_count_79 ?_
    refine W.eq (g2 := F0 m 82 ls [.ref a1]) (by rw [q0_1]; rfl) ?_
    refine lv_iconst (v := 3) hx hb dX12_count_82 (by decide) ?_
    refine palI hx hb hK hP m_a1 (cF50 k_a1) 1 rfl (vp_in_iff.mpr (by decide)) dX12_count_83 ?_
    refine lv_topi (fun x19 ex19 => ?_)
    have tx19 : x19.toInt = (u.2.2.1 a1 3).toInt := congrArg Int32.toInt ex19
    have g20 : 0 ≤ x19.toInt ∧ x19.toInt ≤ 12 := by have g : okI (u.2.1 a1) (3) (u.2.2.1 a1 (3)) := (hu a1 m_a1).2.2.2 (3); rw [k_a1, ← (show x19 = u.2.2.1 a1 (3) from ex19)] at g; have g : okW (3) x19 := g; unfold okW at g; (try simp only [i_lt, i_le, i_eq, Int32.toInt_toInt64, Int32.reduceToInt, Int64.reduceToInt, true_and, and_true, false_and, and_false, false_or, or_false, true_or, or_true, not_true_eq_false, not_false_eq_true, ne_eq, forall_const, true_implies, false_implies, implies_true] at k18 tx19 g ⊢) <;> omega
    exact W.iret (v := x19) hx hb hr (fun t ht hW => ⟨x19, rfl, trivial, ht⟩) (fun q h => by cases h) dX12_count_84
  by_cases k21 : p1 = 4
  · refine lv_tableIn (tgt := 85) hx hb dX12_count_3 (by rw [k21]; decide) (by rw [k21]; decide) (by rw [k21]; rfl) (by decide) ?_
    refine lv_aload_n hx hb dX12_count_85 rfl (lv_at hl 1 rfl) ?_
    refine pget (ci := 12) (v := va_rf (u.2.2.2.2 h0 1)) (C := RX12) (T := TX12) (N := 34) hx hb hts i_X12 hown hK hP m_h0 (cF12 k_h0) rfl 1 (by decide) (hts (.fieldLink RX12 13 "BellowsRowModel" "world" "[I") (by decide +kernel)) (fun _ h9 => h9) rfl dX12_count_86 ?_
    refine W.eq (g2 := F0 m 89 ls [.ref a1]) (by rw [q0_1]; rfl) ?_
    refine lv_iconst (v := 4) hx hb dX12_count_89 (by decide) ?_
    refine palI hx hb hK hP m_a1 (cF50 k_a1) 1 rfl (vp_in_iff.mpr (by decide)) dX12_count_90 ?_
    refine lv_topi (fun x22 ex22 => ?_)
    have tx22 : x22.toInt = (u.2.2.1 a1 4).toInt := congrArg Int32.toInt ex22
    have g23 : 0 ≤ x22.toInt ∧ x22.toInt ≤ 12 := by have g : okI (u.2.1 a1) (4) (u.2.2.1 a1 (4)) := (hu a1 m_a1).2.2.2 (4); rw [k_a1, ← (show x22 = u.2.2.1 a1 (4) from ex22)] at g; have g : okW (4) x22 := g; unfold okW at g; (try simp only [i_lt, i_le, i_eq, Int32.toInt_toInt64, Int32.reduceToInt, Int64.reduceToInt, true_and, and_true, false_and, and_false, false_or, or_false, true_or, or_true, not_true_eq_false, not_false_eq_true, ne_eq, forall_const, true_implies, false_implies, implies_true] at k21 tx22 g ⊢) <;> omega
    exact W.iret (v := x22) hx hb hr (fun t ht hW => ⟨x22, rfl, trivial, ht⟩) (fun q h => by cases h) dX12_count_91
  by_cases k24 : p1 = 5
  · refine lv_tableIn (tgt := 92) hx hb dX12_count_3 (by rw [k24]; decide) (by rw [k24]; decide) (by rw [k24]; rfl) (by decide) ?_
    refine lv_aload_n hx hb dX12_count_92 rfl (lv_at hl 1 rfl) ?_
    refine pget (ci := 12) (v := va_rf (u.2.2.2.2 h0 1)) (C := RX12) (T := TX12) (N := 34) hx hb hts i_X12 hown hK hP m_h0 (cF12 k_h0) rfl 1 (by decide) (hts (.fieldLink RX12 13 "BellowsRowModel" "world" "[I") (by decide +kernel)) (fun _ h9 => h9) rfl dX12_count_93 ?_
    refine W.eq (g2 := F0 m 96 ls [.ref a1]) (by rw [q0_1]; rfl) ?_
    refine lv_iconst (v := 5) hx hb dX12_count_96 (by decide) ?_
    refine palI hx hb hK hP m_a1 (cF50 k_a1) 1 rfl (vp_in_iff.mpr (by decide)) dX12_count_97 ?_
    refine lv_topi (fun x25 ex25 => ?_)
    have tx25 : x25.toInt = (u.2.2.1 a1 5).toInt := congrArg Int32.toInt ex25
    have g26 : 0 ≤ x25.toInt ∧ x25.toInt ≤ 20 := by have g : okI (u.2.1 a1) (5) (u.2.2.1 a1 (5)) := (hu a1 m_a1).2.2.2 (5); rw [k_a1, ← (show x25 = u.2.2.1 a1 (5) from ex25)] at g; have g : okW (5) x25 := g; unfold okW at g; (try simp only [i_lt, i_le, i_eq, Int32.toInt_toInt64, Int32.reduceToInt, Int64.reduceToInt, true_and, and_true, false_and, and_false, false_or, or_false, true_or, or_true, not_true_eq_false, not_false_eq_true, ne_eq, forall_const, true_implies, false_implies, implies_true] at k24 tx25 g ⊢) <;> omega
    exact W.iret (v := x25) hx hb hr (fun t ht hW => ⟨x25, rfl, trivial, ht⟩) (fun q h => by cases h) dX12_count_98
  by_cases k27 : p1 = 6
  · refine lv_tableIn (tgt := 99) hx hb dX12_count_3 (by rw [k27]; decide) (by rw [k27]; decide) (by rw [k27]; rfl) (by decide) ?_
    refine lv_aload_n hx hb dX12_count_99 rfl (lv_at hl 1 rfl) ?_
    refine pget (ci := 12) (v := va_rf (u.2.2.2.2 h0 1)) (C := RX12) (T := TX12) (N := 34) hx hb hts i_X12 hown hK hP m_h0 (cF12 k_h0) rfl 1 (by decide) (hts (.fieldLink RX12 13 "BellowsRowModel" "world" "[I") (by decide +kernel)) (fun _ h9 => h9) rfl dX12_count_100 ?_
    refine W.eq (g2 := F0 m 103 ls [.ref a1]) (by rw [q0_1]; rfl) ?_
    refine lv_bipush (v := 9) hx hb dX12_count_103 (by decide) ?_
    refine palI hx hb hK hP m_a1 (cF50 k_a1) 1 rfl (vp_in_iff.mpr (by decide)) dX12_count_105 ?_
    refine lv_topi (fun x28 ex28 => ?_)
    have tx28 : x28.toInt = (u.2.2.1 a1 9).toInt := congrArg Int32.toInt ex28
    exact W.iret (v := x28) hx hb hr (fun t ht hW => ⟨x28, rfl, trivial, ht⟩) (fun q h => by cases h) dX12_count_106
  by_cases k29 : p1 = 7
  · refine lv_tableIn (tgt := 107) hx hb dX12_count_3 (by rw [k29]; decide) (by rw [k29]; decide) (by rw [k29]; rfl) (by decide) ?_
    refine lv_aload_n hx hb dX12_count_107 rfl (lv_at hl 1 rfl) ?_
    refine pget (ci := 12) (v := va_rf (u.2.2.2.2 h0 1)) (C := RX12) (T := TX12) (N := 34) hx hb hts i_X12 hown hK hP m_h0 (cF12 k_h0) rfl 1 (by decide) (hts (.fieldLink RX12 13 "BellowsRowModel" "world" "[I") (by decide +kernel)) (fun _ h9 => h9) rfl dX12_count_108 ?_
    refine W.eq (g2 := F0 m 111 ls [.ref a1]) (by rw [q0_1]; rfl) ?_
    refine lv_iconst (v := 0) hx hb dX12_count_111 (by decide) ?_
    refine palI hx hb hK hP m_a1 (cF50 k_a1) 1 rfl (vp_in_iff.mpr (by decide)) dX12_count_112 ?_
    refine lv_topi (fun x30 ex30 => ?_)
    have tx30 : x30.toInt = (u.2.2.1 a1 0).toInt := congrArg Int32.toInt ex30
    have g31 : 0 ≤ x30.toInt ∧ x30.toInt ≤ 60 := by have g : okI (u.2.1 a1) (0) (u.2.2.1 a1 (0)) := (hu a1 m_a1).2.2.2 (0); rw [k_a1, ← (show x30 = u.2.2.1 a1 (0) from ex30)] at g; have g : okW (0) x30 := g; unfold okW at g; (try simp only [i_lt, i_le, i_eq, Int32.toInt_toInt64, Int32.reduceToInt, Int64.reduceToInt, true_and, and_true, false_and, and_false, false_or, or_false, true_or, or_true, not_true_eq_false, not_false_eq_true, ne_eq, forall_const, true_implies, false_implies, implies_true] at k29 tx30 g ⊢) <;> omega
    exact W.iret (v := x30) hx hb hr (fun t ht hW => ⟨x30, rfl, trivial, ht⟩) (fun q h => by cases h) dX12_count_113
  by_cases k32 : p1 = 8
  · refine lv_tableIn (tgt := 114) hx hb dX12_count_3 (by rw [k32]; decide) (by rw [k32]; decide) (by rw [k32]; rfl) (by decide) ?_
    refine lv_aload_n hx hb dX12_count_114 rfl (lv_at hl 1 rfl) ?_
    refine pget (ci := 12) (v := .int (u.2.2.1 h0 5)) (C := RX12) (T := TX12) (N := 34) hx hb hts i_X12 hown hK hP m_h0 (cF12 k_h0) rfl 5 (by decide) (hts (.fieldLink RX12 82 "BellowsRowModel" "taped" "I") (by decide +kernel)) (fun _ h9 => h9) rfl dX12_count_115 ?_
    have g33 := (hu h0 m_h0).2.2.2 5
    rw [k_h0] at g33
    replace g33 : 0 ≤ (u.2.2.1 h0 5).toInt ∧ (u.2.2.1 h0 5).toInt ≤ 1600 := g33
    exact W.iret (v := (u.2.2.1 h0 5)) hx hb hr (fun t ht hW => ⟨(u.2.2.1 h0 5), rfl, trivial, ht⟩) (fun q h => by cases h) dX12_count_118
  by_cases k34 : p1 = 9
  · refine lv_tableIn (tgt := 119) hx hb dX12_count_3 (by rw [k34]; decide) (by rw [k34]; decide) (by rw [k34]; rfl) (by decide) ?_
    refine lv_iconst (v := 0) hx hb dX12_count_119 (by decide) ?_
    refine lv_istore_n (lv' := [(3, .int 0), (2, .int 0), (0, .ref h0), (1, .int p1)]) hx hb dX12_count_120 rfl hl (by decide) rfl (fun ls hl => ?_)
    exact B121 _ ls 0 0 (Nat.le_refl _) (by (try simp only [i_lt, i_le, i_eq, Int32.toInt_toInt64, Int32.reduceToInt, Int64.reduceToInt, true_and, and_true, false_and, and_false, false_or, or_false, true_or, or_true, not_true_eq_false, not_false_eq_true, ne_eq, forall_const, true_implies, false_implies, implies_true] at k34 ⊢) <;> omega) (lv_sub hl [2, 1, 0] rfl)
  have zk9 : ¬ p1.toInt = 0 := fun z => k9 (Int32.toInt_inj.mp (z.trans (by decide)))
  have zk12 : ¬ p1.toInt = 1 := fun z => k12 (Int32.toInt_inj.mp (z.trans (by decide)))
  have zk15 : ¬ p1.toInt = 2 := fun z => k15 (Int32.toInt_inj.mp (z.trans (by decide)))
  have zk18 : ¬ p1.toInt = 3 := fun z => k18 (Int32.toInt_inj.mp (z.trans (by decide)))
  have zk21 : ¬ p1.toInt = 4 := fun z => k21 (Int32.toInt_inj.mp (z.trans (by decide)))
  have zk24 : ¬ p1.toInt = 5 := fun z => k24 (Int32.toInt_inj.mp (z.trans (by decide)))
  have zk27 : ¬ p1.toInt = 6 := fun z => k27 (Int32.toInt_inj.mp (z.trans (by decide)))
  have zk29 : ¬ p1.toInt = 7 := fun z => k29 (Int32.toInt_inj.mp (z.trans (by decide)))
  have zk32 : ¬ p1.toInt = 8 := fun z => k32 (Int32.toInt_inj.mp (z.trans (by decide)))
  have zk34 : ¬ p1.toInt = 9 := fun z => k34 (Int32.toInt_inj.mp (z.trans (by decide)))
  refine lv_tableOut (tgt := 152) hx hb dX12_count_3 (by omega) (by decide) ?_
  refine lv_iconst (v := (-1)) hx hb dX12_count_152 (by decide) ?_
  exact W.iret (v := (-1)) hx hb hr (fun t ht hW => ⟨(-1), rfl, trivial, ht⟩) (fun q h => by cases h) dX12_count_153
set_option maxHeartbeats 4000000 in
set_option maxRecDepth 100000 in
theorem t_X12_cut (l : Launch) (D : va_G) (k : Nat → ClassId) (p1 : Int64) (p2 : Int32) : Met l yX12_cut wsX12_cut ({ frames := 0, cells := 0, slots := 0, locals := 0 }) (PreR D k [] [.long p1, .int p2]) (vp_Sl (fun r => True)) 0 0 (fun _ => False) := by
  refine Met.ofW (cc := cX12_cut) (maxL := 4) (ret := (some .long)) (by decide) rfl ?_
  intro p e s m args below meth c s₁ B hml hv
  obtain ⟨rfl, hP, hK⟩ := hv
  have hx := B.exec
  have hb := B.bytes
  have hr := B.returns
  have hts := atoms_spec (ws := wsX12_cut) B.pre
  have hown : s.vm.findClass RX12 = some m.cls := findClass_of_methodNamed B.named
  have hlocks := B.notSynchronized
  have hl := lv_entry ([.long p1, .int p2]) (n := 4) (Nat.le_of_ble_eq_true rfl)
  rw [lg_entry_eq]
  generalize (lg_sl ([.long p1, .int p2]) ++ List.replicate (4 - (lg_sl ([.long p1, .int p2])).length) Slot.unset).toArray = ls at hl ⊢
  have hl : lv_has ls 4 [(0, .long p1), (2, .int p2)] := hl
  refine lv_bipush (v := 64) hx hb dX12_cut_0 (by decide) ?_
  refine lv_bipush (v := 8) hx hb dX12_cut_2 (by decide) ?_
  refine lv_iload_n hx hb dX12_cut_4 rfl (lv_at hl 1 rfl) ?_
  refine lv_ishl hx hb dX12_cut_5 ?_
  refine lv_topi (fun x1 ex1 => ?_)
  refine lv_isub hx hb dX12_cut_6 ?_
  refine lv_topi (fun x2 ex2 => ?_)
  refine lv_istore_n (lv' := [(3, .int x2), (0, .long p1), (2, .int p2)]) hx hb dX12_cut_7 rfl hl (by decide) rfl (fun ls hl => ?_)
  refine lv_lload_n hx hb dX12_cut_8 rfl (lv_at hl 1 rfl) ?_
  refine lv_iload_n hx hb dX12_cut_9 rfl (lv_at hl 0 rfl) ?_
  refine lv_lshl hx hb dX12_cut_10 rfl ?_
  refine lv_topl (fun x3 ex3 => ?_)
  refine lv_iload_n hx hb dX12_cut_11 rfl (lv_at hl 0 rfl) ?_
  refine lv_lshr hx hb dX12_cut_12 rfl ?_
  refine lv_topl (fun x4 ex4 => ?_)
  exact W.lret (v := x4) hx hb hr (fun t ht hW => ⟨x4, rfl, trivial, ht⟩) (fun q h => by cases h) dX12_cut_13
set_option maxHeartbeats 4000000 in
set_option maxRecDepth 100000 in
theorem t_X12_fault (l : Launch) (D : va_G) (k : Nat → ClassId) (u : PSt) (hu : WT u) (h0 : Nat) (m_h0 : h0 ∈ u.1) (k_h0 : u.2.1 h0 = 12) (p1 : Int32) : Met l yX12_fault wsX12_fault ({ frames := 0, cells := 0, slots := 0, locals := 0 }) (PreR D k (PW k u) [.ref h0, .int p1]) (vp_Si (fun r => True)) 0 0 (fun _ => False) := by
  refine Met.ofW (cc := cX12_fault) (maxL := 2) (ret := (some .int)) (by decide) rfl ?_
  intro p e s m args below meth c s₁ B hml hv
  obtain ⟨rfl, hP, hK⟩ := hv
  have hx := B.exec
  have hb := B.bytes
  have hr := B.returns
  have hts := atoms_spec (ws := wsX12_fault) B.pre
  have hown : s.vm.findClass RX12 = some m.cls := findClass_of_methodNamed B.named
  have hlocks := B.notSynchronized
  have i_X12 : ∀ w ∈ wsX120, w ∈ wsX12_fault := by decide +kernel
  have hl := lv_entry ([.ref h0, .int p1]) (n := 2) (Nat.le_of_ble_eq_true rfl)
  rw [lg_entry_eq]
  generalize (lg_sl ([.ref h0, .int p1]) ++ List.replicate (2 - (lg_sl ([.ref h0, .int p1])).length) Slot.unset).toArray = ls at hl ⊢
  have hl : lv_has ls 2 [(0, .ref h0), (1, .int p1)] := hl
  refine lv_iload_n hx hb dX12_fault_0 rfl (lv_at hl 1 rfl) ?_
  refine lv_if_ne (tgt := 11) hx hb dX12_fault_1 (by decide) (fun c1 => ?_) (fun c1 => ?_)
  · refine lv_iload_n hx hb dX12_fault_11 rfl (lv_at hl 1 rfl) ?_
    refine lv_iconst (v := 1) hx hb dX12_fault_12 (by decide) ?_
    refine lv_icmp_ne (tgt := 23) hx hb dX12_fault_13 (by decide) (fun c2 => ?_) (fun c2 => ?_)
    · refine lv_iconst (v := (-1)) hx hb dX12_fault_23 (by decide) ?_
      exact W.iret (v := (-1)) hx hb hr (fun t ht hW => ⟨(-1), rfl, trivial, ht⟩) (fun q h => by cases h) dX12_fault_24
    · refine lv_aload_n hx hb dX12_fault_16 rfl (lv_at hl 0 rfl) ?_
      refine pget (ci := 12) (v := .int (u.2.2.1 h0 13)) (C := RX12) (T := TX12) (N := 34) hx hb hts i_X12 hown hK hP m_h0 (cF12 k_h0) rfl 13 (by decide) (hts (.fieldLink RX12 31 "BellowsRowModel" "faultPlace" "I") (by decide +kernel)) (fun _ h9 => h9) rfl dX12_fault_17 ?_
      refine lv_goto (tgt := 24) hx hb dX12_fault_20 (by decide) ?_
      exact W.iret (v := (u.2.2.1 h0 13)) hx hb hr (fun t ht hW => ⟨(u.2.2.1 h0 13), rfl, trivial, ht⟩) (fun q h => by cases h) dX12_fault_24
  · refine lv_aload_n hx hb dX12_fault_4 rfl (lv_at hl 0 rfl) ?_
    refine pget (ci := 12) (v := .int (u.2.2.1 h0 12)) (C := RX12) (T := TX12) (N := 34) hx hb hts i_X12 hown hK hP m_h0 (cF12 k_h0) rfl 12 (by decide) (hts (.fieldLink RX12 119 "BellowsRowModel" "faultKind" "I") (by decide +kernel)) (fun _ h9 => h9) rfl dX12_fault_5 ?_
    refine lv_goto (tgt := 24) hx hb dX12_fault_8 (by decide) ?_
    exact W.iret (v := (u.2.2.1 h0 12)) hx hb hr (fun t ht hW => ⟨(u.2.2.1 h0 12), rfl, trivial, ht⟩) (fun q h => by cases h) dX12_fault_24
