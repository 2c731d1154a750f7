set_option maxHeartbeats 4000000 in
set_option maxRecDepth 100000 in
theorem t_X12_when (l : Launch) (D : va_G) (k : Nat → ClassId) (u : PSt) (hu : WT u) (h0 : Nat) (m_h0 : h0 ∈ u.1) (k_h0 : u.2.1 h0 = 12) (p1 : Int32) (p2 : Int32) (p3 : Int32) : Met l yX12_when wsX12_when ({ frames := 5, cells := 0, slots := 0, locals := 127 }) (PreR D k (PW k u) [.ref h0, .int p1, .int p2, .int p3]) (vp_Si (fun r => True)) 0 0 (fun _ => False) := by
  refine Met.ofW (cc := cX12_when) (maxL := 8) (ret := (some .int)) (by decide) rfl ?_
  intro p e s m args below meth c s₁ B hml hv
  obtain ⟨rfl, hP, hK⟩ := hv
  have hx := B.exec
  have hb := B.bytes
  have hr := B.returns
  have hts := atoms_spec (ws := wsX12_when) B.pre
  have hown : s.vm.findClass RX12 = some m.cls := findClass_of_methodNamed B.named
  have hlocks := B.notSynchronized
  have i_X12 : ∀ w ∈ wsX120, w ∈ wsX12_when := by decide +kernel
  obtain ⟨a1, q0_1, m0_a1, k0_a1⟩ := (hu h0 m_h0).1 1 50 (by rw [k_h0]; rfl)
  have m_a1 := m0_a1
  have k_a1 := k0_a1
  have B47 : ∀ (n47 : Nat) (ls : Array Slot) (v1 : Int32) (v2 : Int32) (v3 : Int32) (v4 : Int32) (v5 : Int32) (v6 : Int32), (2147483648 - v6.toInt).toNat ≤ n47 → 0 ≤ v1.toInt ∧ v1.toInt ≤ 11 → 0 ≤ v2.toInt ∧ v2.toInt ≤ 1999 → 1 ≤ v3.toInt ∧ v3.toInt ≤ 200 → 0 ≤ v6.toInt ∧ v6.toInt ≤ 2000 → lv_has ls 8 [(0, .ref h0), (1, .int v1), (2, .int v2), (3, .int v3), (4, .int v4), (5, .int v5), (6, .int v6)] → W p l e (headSpec wsX12_when ({ frames := 5, cells := 0, slots := 0, locals := 127 })).room s m ([.ref h0, .int p1, .int p2, .int p3] : List Value).toArray below meth c s.heap [] 0 0 (MQ below (vp_Si (fun r => True)) ([.ref h0, .int p1, .int p2, .int p3] : List Value).toArray s 0 0 (fun _ => False)) (F0 m 47 ls []) := by
    intro n47
    induction n47 with
    | zero =>
      intro ls v1 v2 v3 v4 v5 v6 hn47 g_v1 g_v2 g_v3 g_v6 hl
      exact absurd hn47 (by have := Int32.toInt_lt v6; have := Int32.le_toInt v6; omega)
    | succ n47 ih47 =>
      intro ls v1 v2 v3 v4 v5 v6 hn47 g_v1 g_v2 g_v3 g_v6 hl
      refine lv_iload hx hb dX12_when_47 (lv_at hl 6 rfl) ?_
      refine lv_aload_n hx hb dX12_when_49 rfl (lv_at hl 0 rfl) ?_
      refine pget (ci := 12) (v := va_rf (u.2.2.2.2 h0 1)) (C := RX12) (T := TX12) (N := 34) hx hb hts i_X12 hown hK hP m_h0 (cF12 k_h0) rfl 1 (by decide) (hts (.fieldLink RX12 13 "BellowsRowModel" "world" "[I") (by decide +kernel)) (fun _ h9 => h9) rfl dX12_when_50 ?_
      refine W.eq (g2 := F0 m 53 ls [.ref a1, .int v6]) (by rw [q0_1]; rfl) ?_
      refine lv_bipush (v := 6) hx hb dX12_when_53 (by decide) ?_
      refine palI hx hb hK hP m_a1 (cF50 k_a1) 1 rfl (vp_in_iff.mpr (by decide)) dX12_when_55 ?_
      refine lv_topi (fun x1 ex1 => ?_)
      have tx1 : x1.toInt = (u.2.2.1 a1 6).toInt := congrArg Int32.toInt ex1
      have g2 : 0 ≤ x1.toInt ∧ x1.toInt ≤ 2000 := by have g : okI (u.2.1 a1) (6) (u.2.2.1 a1 (6)) := (hu a1 m_a1).2.2.2 (6); rw [k_a1, ← (show x1 = u.2.2.1 a1 (6) from ex1)] at g; have g : okW (6) x1 := g; unfold okW at g; (try simp only [i_lt, i_le, i_eq, Int32.toInt_toInt64, Int32.reduceToInt, Int64.reduceToInt, true_and, and_true, false_and, and_false, false_or, or_false, true_or, or_true, not_true_eq_false, not_false_eq_true, ne_eq, forall_const, true_implies, false_implies, implies_true] at g_v1 g_v2 g_v3 g_v6 hn47 tx1 g ⊢) <;> omega
      refine lv_iload_n hx hb dX12_when_56 rfl (lv_at hl 2 rfl) ?_
      refine lv_iload_n hx hb dX12_when_57 rfl (lv_at hl 3 rfl) ?_
      refine lv_iadd hx hb dX12_when_58 ?_
      refine lv_topi (fun x3 ex3 => ?_)
      have tx3 : x3.toInt = v2.toInt + v3.toInt := by rw [ex3]; exact i_add (by (try simp only [i_lt, i_le, i_eq, Int32.toInt_toInt64, Int32.reduceToInt, Int64.reduceToInt, true_and, and_true, false_and, and_false, false_or, or_false, true_or, or_true, not_true_eq_false, not_false_eq_true, ne_eq, forall_const, true_implies, false_implies, implies_true] at g_v1 g_v2 g_v3 g_v6 hn47 tx1 g2 ⊢) <;> omega) (by (try simp only [i_lt, i_le, i_eq, Int32.toInt_toInt64, Int32.reduceToInt, Int64.reduceToInt, true_and, and_true, false_and, and_false, false_or, or_false, true_or, or_true, not_true_eq_false, not_false_eq_true, ne_eq, forall_const, true_implies, false_implies, implies_true] at g_v1 g_v2 g_v3 g_v6 hn47 tx1 g2 ⊢) <;> omega)
      refine va_mmin hx hb (hml.trans hl.1.symm) hown (hts (.methodLink RX12 113 Lib.Math.min.name) (by decide +kernel)) (hts (.static Lib.Math.min.name) (by decide +kernel)) (hts (.initialized "java/lang/Math") (by decide +kernel)) (hts (.code Lib.Math.min.name Lib.Math.min.code 2 (some .int)) (by decide +kernel)) (Nat.le_of_ble_eq_true rfl) (Nat.le_of_ble_eq_true rfl) (Nat.le_of_ble_eq_true rfl) (Nat.le_of_ble_eq_true rfl) dX12_when_59 ?_
      refine lv_topi (fun x4 ex4 => ?_)
      have tx4 : x4.toInt ≤ x1.toInt ∧ x4.toInt ≤ x3.toInt ∧ (x4.toInt = x1.toInt ∨ x4.toInt = x3.toInt) := by rw [ex4]; exact i_min
      refine lv_icmp_ge (tgt := 98) hx hb dX12_when_62 (by decide) (fun c5 => ?_) (fun c5 => ?_)
      · refine lv_iload hx hb dX12_when_98 (lv_at hl 4 rfl) ?_
        exact W.iret (v := v4) hx hb hr (fun t ht hW => ⟨v4, rfl, trivial, ht⟩) (fun q h => by cases h) dX12_when_100
      · refine lv_aload_n hx hb dX12_when_65 rfl (lv_at hl 0 rfl) ?_
        refine lv_iload_n hx hb dX12_when_66 rfl (lv_at hl 1 rfl) ?_
        refine lv_iload hx hb dX12_when_67 (lv_at hl 6 rfl) ?_
        refine rvi (C := RX12) (As := [.int v1, .int v6]) (rest := []) ⟨hx, hb, hml, hown, hts⟩ (t_X12_livesOf l D k u hu h0 m_h0 k_h0 v1 v6 (by (try simp only [i_lt, i_le, i_eq, Int32.toInt_toInt64, Int32.reduceToInt, Int64.reduceToInt, true_and, and_true, false_and, and_false, false_or, or_false, true_or, or_true, not_true_eq_false, not_false_eq_true, ne_eq, forall_const, true_implies, false_implies, implies_true] at g_v1 g_v2 g_v3 g_v6 hn47 tx1 g2 tx3 tx4 c5 ⊢) <;> omega) (by (try simp only [i_lt, i_le, i_eq, Int32.toInt_toInt64, Int32.reduceToInt, Int64.reduceToInt, true_and, and_true, false_and, and_false, false_or, or_false, true_or, or_true, not_true_eq_false, not_false_eq_true, ne_eq, forall_const, true_implies, false_implies, implies_true] at g_v1 g_v2 g_v3 g_v6 hn47 tx1 g2 tx3 tx4 c5 ⊢) <;> omega)) (cwV 2 hts gX12_when_X12_livesOf rfl rfl rfl (by decide +kernel) ⟨Nat.le_of_ble_eq_true rfl, Nat.le_of_ble_eq_true rfl⟩) hP hK (precv hK hP m_h0 (cF12 k_h0) rfl) rfl hl.1 rfl (Nat.le_of_ble_eq_true rfl) dX12_when_69 ⟨Nat.le_of_ble_eq_true rfl, Nat.le_of_ble_eq_true rfl⟩ (fun r6 hr6 => ?_)
        refine lv_istore (lv' := [(7, .int r6), (0, .ref h0), (1, .int v1), (2, .int v2), (3, .int v3), (4, .int v4), (5, .int v5), (6, .int v6)]) hx hb dX12_when_72 hl (by decide) rfl (fun ls hl => ?_)
        refine lv_iload hx hb dX12_when_74 (lv_at hl 0 rfl) ?_
        refine lv_iload hx hb dX12_when_76 (lv_at hl 6 rfl) ?_
        refine lv_icmp_lt (tgt := 84) hx hb dX12_when_78 (by decide) (fun c7 => ?_) (fun c7 => ?_)
        · have b8 := Int32.toInt_lt r6
          have b9 := Int32.toInt_lt v5
          refine lv_iload hx hb dX12_when_84 (lv_at hl 7 rfl) ?_
          refine lv_istore (lv' := [(4, .int v6), (7, .int r6), (0, .ref h0), (1, .int v1), (2, .int v2), (3, .int v3), (5, .int v5), (6, .int v6)]) hx hb dX12_when_86 hl (by decide) rfl (fun ls hl => ?_)
          refine lv_iload hx hb dX12_when_88 (lv_at hl 1 rfl) ?_
          refine lv_istore (lv' := [(5, .int r6), (4, .int v6), (7, .int r6), (0, .ref h0), (1, .int v1), (2, .int v2), (3, .int v3), (6, .int v6)]) hx hb dX12_when_90 hl (by decide) rfl (fun ls hl => ?_)
          obtain ⟨x10, ex10⟩ : ∃ y : Int32, y = v6 + 1 := ⟨_, rfl⟩
          have tx10 : x10.toInt = v6.toInt + 1 := by rw [ex10]; exact i_add (b := 1) (by (try simp only [i_lt, i_le, i_eq, Int32.toInt_toInt64, Int32.reduceToInt, Int64.reduceToInt, true_and, and_true, false_and, and_false, false_or, or_false, true_or, or_true, not_true_eq_false, not_false_eq_true, ne_eq, forall_const, true_implies, false_implies, implies_true] at g_v1 g_v2 g_v3 g_v6 hn47 tx1 g2 tx3 tx4 c5 c7 b8 b9 ⊢) <;> omega) (by (try simp only [i_lt, i_le, i_eq, Int32.toInt_toInt64, Int32.reduceToInt, Int64.reduceToInt, true_and, and_true, false_and, and_false, false_or, or_false, true_or, or_true, not_true_eq_false, not_false_eq_true, ne_eq, forall_const, true_implies, false_implies, implies_true] at g_v1 g_v2 g_v3 g_v6 hn47 tx1 g2 tx3 tx4 c5 c7 b8 b9 ⊢) <;> omega)
          refine lv_iinc (v := x10) (lv' := [(6, .int x10), (5, .int r6), (4, .int v6), (7, .int r6), (0, .ref h0), (1, .int v1), (2, .int v2), (3, .int v3)]) hx hb dX12_when_92 hl (k := 7) rfl (by rw [ex10]; rfl) (by decide) rfl (fun ls hl => ?_)
          refine lv_goto (tgt := 47) hx hb dX12_when_95 (by decide) ?_
          exact ih47 ls v1 v2 v3 v6 r6 x10 (by (try simp only [i_lt, i_le, i_eq, Int32.toInt_toInt64, Int32.reduceToInt, Int64.reduceToInt, true_and, and_true, false_and, and_false, false_or, or_false, true_or, or_true, not_true_eq_false, not_false_eq_true, ne_eq, forall_const, true_implies, false_implies, implies_true] at g_v1 g_v2 g_v3 g_v6 hn47 tx1 g2 tx3 tx4 c5 c7 b8 b9 tx10 ⊢) <;> omega) (by (try simp only [i_lt, i_le, i_eq, Int32.toInt_toInt64, Int32.reduceToInt, Int64.reduceToInt, true_and, and_true, false_and, and_false, false_or, or_false, true_or, or_true, not_true_eq_false, not_false_eq_true, ne_eq, forall_const, true_implies, false_implies, implies_true] at g_v1 g_v2 g_v3 g_v6 hn47 tx1 g2 tx3 tx4 c5 c7 b8 b9 tx10 ⊢) <;> omega) (by (try simp only [i_lt, i_le, i_eq, Int32.toInt_toInt64, Int32.reduceToInt, Int64.reduceToInt, true_and, and_true, false_and, and_false, false_or, or_false, true_or, or_true, not_true_eq_false, not_false_eq_true, ne_eq, forall_const, true_implies, false_implies, implies_true] at g_v1 g_v2 g_v3 g_v6 hn47 tx1 g2 tx3 tx4 c5 c7 b8 b9 tx10 ⊢) <;> omega) (by (try simp only [i_lt, i_le, i_eq, Int32.toInt_toInt64, Int32.reduceToInt, Int64.reduceToInt, true_and, and_true, false_and, and_false, false_or, or_false, true_or, or_true, not_true_eq_false, not_false_eq_true, ne_eq, forall_const, true_implies, false_implies, implies_true] at g_v1 g_v2 g_v3 g_v6 hn47 tx1 g2 tx3 tx4 c5 c7 b8 b9 tx10 ⊢) <;> omega) (by (try simp only [i_lt, i_le, i_eq, Int32.toInt_toInt64, Int32.reduceToInt, Int64.reduceToInt, true_and, and_true, false_and, and_false, false_or, or_false, true_or, or_true, not_true_eq_false, not_false_eq_true, ne_eq, forall_const, true_implies, false_implies, implies_true] at g_v1 g_v2 g_v3 g_v6 hn47 tx1 g2 tx3 tx4 c5 c7 b8 b9 tx10 ⊢) <;> omega) (lv_sub hl [4, 5, 6, 7, 2, 1, 0] rfl)
        · have b11 := Int32.toInt_lt r6
          have b12 := Int32.toInt_lt v5
          refine lv_goto (tgt := 92) hx hb dX12_when_81 (by decide) ?_
          obtain ⟨x13, ex13⟩ : ∃ y : Int32, y = v6 + 1 := ⟨_, rfl⟩
          have tx13 : x13.toInt = v6.toInt + 1 := by rw [ex13]; exact i_add (b := 1) (by (try simp only [i_lt, i_le, i_eq, Int32.toInt_toInt64, Int32.reduceToInt, Int64.reduceToInt, true_and, and_true, false_and, and_false, false_or, or_false, true_or, or_true, not_true_eq_false, not_false_eq_true, ne_eq, forall_const, true_implies, false_implies, implies_true] at g_v1 g_v2 g_v3 g_v6 hn47 tx1 g2 tx3 tx4 c5 c7 b11 b12 ⊢) <;> omega) (by (try simp only [i_lt, i_le, i_eq, Int32.toInt_toInt64, Int32.reduceToInt, Int64.reduceToInt, true_and, and_true, false_and, and_false, false_or, or_false, true_or, or_true, not_true_eq_false, not_false_eq_true, ne_eq, forall_const, true_implies, false_implies, implies_true] at g_v1 g_v2 g_v3 g_v6 hn47 tx1 g2 tx3 tx4 c5 c7 b11 b12 ⊢) <;> omega)
          refine lv_iinc (v := x13) (lv' := [(6, .int x13), (7, .int r6), (0, .ref h0), (1, .int v1), (2, .int v2), (3, .int v3), (4, .int v4), (5, .int v5)]) hx hb dX12_when_92 hl (k := 7) rfl (by rw [ex13]; rfl) (by decide) rfl (fun ls hl => ?_)
          refine lv_goto (tgt := 47) hx hb dX12_when_95 (by decide) ?_
          exact ih47 ls v1 v2 v3 v4 v5 x13 (by (try simp only [i_lt, i_le, i_eq, Int32.toInt_toInt64, Int32.reduceToInt, Int64.reduceToInt, true_and, and_true, false_and, and_false, false_or, or_false, true_or, or_true, not_true_eq_false, not_false_eq_true, ne_eq, forall_const, true_implies, false_implies, implies_true] at g_v1 g_v2 g_v3 g_v6 hn47 tx1 g2 tx3 tx4 c5 c7 b11 b12 tx13 ⊢) <;> omega) (by (try simp only [i_lt, i_le, i_eq, Int32.toInt_toInt64, Int32.reduceToInt, Int64.reduceToInt, true_and, and_true, false_and, and_false, false_or, or_false, true_or, or_true, not_true_eq_false, not_false_eq_true, ne_eq, forall_const, true_implies, false_implies, implies_true] at g_v1 g_v2 g_v3 g_v6 hn47 tx1 g2 tx3 tx4 c5 c7 b11 b12 tx13 ⊢) <;> omega) (by (try simp only [i_lt, i_le, i_eq, Int32.toInt_toInt64, Int32.reduceToInt, Int64.reduceToInt, true_and, and_true, false_and, and_false, false_or, or_false, true_or, or_true, not_true_eq_false, not_false_eq_true, ne_eq, forall_const, true_implies, false_implies, implies_true] at g_v1 g_v2 g_v3 g_v6 hn47 tx1 g2 tx3 tx4 c5 c7 b11 b12 tx13 ⊢) <;> omega) (by (try simp only [i_lt, i_le, i_eq, Int32.toInt_toInt64, Int32.reduceToInt, Int64.reduceToInt, true_and, and_true, false_and, and_false, false_or, or_false, true_or, or_true, not_true_eq_false, not_false_eq_true, ne_eq, forall_const, true_implies, false_implies, implies_true] at g_v1 g_v2 g_v3 g_v6 hn47 tx1 g2 tx3 tx4 c5 c7 b11 b12 tx13 ⊢) <;> omega) (by (try simp only [i_lt, i_le, i_eq, Int32.toInt_toInt64, Int32.reduceToInt, Int64.reduceToInt, true_and, and_true, false_and, and_false, false_or, or_false, true_or, or_true, not_true_eq_false, not_false_eq_true, ne_eq, forall_const, true_implies, false_implies, implies_true] at g_v1 g_v2 g_v3 g_v6 hn47 tx1 g2 tx3 tx4 c5 c7 b11 b12 tx13 ⊢) <;> omega) (lv_sub hl [2, 3, 4, 5, 6, 7, 0] rfl)
  have hl := lv_entry ([.ref h0, .int p1, .int p2, .int p3]) (n := 8) (Nat.le_of_ble_eq_true rfl)
  rw [lg_entry_eq]
  generalize (lg_sl ([.ref h0, .int p1, .int p2, .int p3]) ++ List.replicate (8 - (lg_sl ([.ref h0, .int p1, .int p2, .int p3])).length) Slot.unset).toArray = ls at hl ⊢
  have hl : lv_has ls 8 [(0, .ref h0), (1, .int p1), (2, .int p2), (3, .int p3)] := hl
  refine lv_aload_n hx hb dX12_when_0 rfl (lv_at hl 0 rfl) ?_
  refine lv_iload_n hx hb dX12_when_1 rfl (lv_at hl 1 rfl) ?_
  refine rvi (C := RX12) (As := [.int p1]) (rest := []) ⟨hx, hb, hml, hown, hts⟩ (t_X12_isPipe l D k u hu h0 m_h0 k_h0 p1) (cwV 1 hts gX12_when_X12_isPipe rfl rfl rfl (by decide +kernel) ⟨Nat.le_of_ble_eq_true rfl, Nat.le_of_ble_eq_true rfl⟩) hP hK (precv hK hP m_h0 (cF12 k_h0) rfl) rfl hl.1 rfl (Nat.le_of_ble_eq_true rfl) dX12_when_2 ⟨Nat.le_of_ble_eq_true rfl, Nat.le_of_ble_eq_true rfl⟩ (fun r14 hr14 => ?_)
  refine lv_if_eq (tgt := 28) hx hb dX12_when_5 (by decide) (fun c15 => ?_) (fun c15 => ?_)
  · have eb16 : r14.toInt = 0 := by rcases hr14 with q | ⟨q, -⟩; exact q; (exact absurd (c15) (fun w => by rw [w] at q; exact absurd q (by decide)))
    clear hr14
    refine lv_bipush (v := (-2)) hx hb dX12_when_28 (by decide) ?_
    exact W.iret (v := (-2)) hx hb hr (fun t ht hW => ⟨(-2), rfl, trivial, ht⟩) (fun q h => by cases h) dX12_when_30
  · have eb17 : r14.toInt = 1 := by rcases hr14 with q | ⟨q, -⟩; exact absurd (i_eq.mpr q) c15; exact q
    have fb17 : 0 ≤ p1.toInt ∧ p1.toInt ≤ 11 := by rcases hr14 with q | ⟨q, r⟩; exact absurd q (by omega); exact r
    clear hr14
    refine lv_aload_n hx hb dX12_when_8 rfl (lv_at hl 0 rfl) ?_
    refine lv_iload_n hx hb dX12_when_9 rfl (lv_at hl 2 rfl) ?_
    refine rvi (C := RX12) (As := [.int p2]) (rest := []) ⟨hx, hb, hml, hown, hts⟩ (t_X12_isHour l D k u hu h0 m_h0 k_h0 p2) (cwV 1 hts gX12_when_X12_isHour rfl rfl rfl (by decide +kernel) ⟨Nat.le_of_ble_eq_true rfl, Nat.le_of_ble_eq_true rfl⟩) hP hK (precv hK hP m_h0 (cF12 k_h0) rfl) rfl hl.1 rfl (Nat.le_of_ble_eq_true rfl) dX12_when_10 ⟨Nat.le_of_ble_eq_true rfl, Nat.le_of_ble_eq_true rfl⟩ (fun r18 hr18 => ?_)
    refine lv_if_eq (tgt := 28) hx hb dX12_when_13 (by decide) (fun c19 => ?_) (fun c19 => ?_)
    · have eb20 : r18.toInt = 0 := by rcases hr18 with q | ⟨q, -⟩; exact q; (exact absurd (c19) (fun w => by rw [w] at q; exact absurd q (by decide)))
      clear hr18
      refine lv_bipush (v := (-2)) hx hb dX12_when_28 (by decide) ?_
      exact W.iret (v := (-2)) hx hb hr (fun t ht hW => ⟨(-2), rfl, trivial, ht⟩) (fun q h => by cases h) dX12_when_30
    · have eb21 : r18.toInt = 1 := by rcases hr18 with q | ⟨q, -⟩; exact absurd (i_eq.mpr q) c19; exact q
      have fb21 : 0 ≤ p2.toInt ∧ p2.toInt ≤ 1999 := by rcases hr18 with q | ⟨q, r⟩; exact absurd q (by omega); exact r
      clear hr18
      refine lv_iload_n hx hb dX12_when_16 rfl (lv_at hl 3 rfl) ?_
      refine lv_i2l hx hb dX12_when_17 rfl ?_
      have b22 := Int32.toInt_lt p3
      have ab22 := Int32.le_toInt p3
      refine lv_topl (fun x23 ex23 => ?_)
      have tx23 : x23.toInt = p3.toInt := by rw [ex23]; exact Int32.toInt_toInt64 _
      refine lv_lconst (v := 1) hx hb dX12_when_18 (by decide) ?_
      refine lv_ldc2 (own := RX12) (v := 200) hx hb hown (hts (.constantLong RX12 447 (200)) (by decide +kernel)) dX12_when_19 ?_
      refine psi (As := [.long x23, .long 1, .long 200]) (rest := []) ⟨hx, hb, hml, hown, hts⟩ (t_X12_in l D k x23 1 200) (va_cwS 3 hts gX12_when_X12_in rfl rfl rfl (by decide +kernel) ⟨Nat.le_of_ble_eq_true rfl, Nat.le_of_ble_eq_true rfl⟩) hK rfl hl.1 rfl (Nat.le_of_ble_eq_true rfl) dX12_when_22 ⟨Nat.le_of_ble_eq_true rfl, Nat.le_of_ble_eq_true rfl⟩ (fun r24 hr24 => ?_)
      refine lv_if_ne (tgt := 31) hx hb dX12_when_25 (by decide) (fun c25 => ?_) (fun c25 => ?_)
      · have eb26 : r24.toInt = 1 := by rcases hr24 with ⟨q, -⟩ | ⟨q, -⟩; exact absurd (i_eq.mpr q) c25; exact q
        have fb26 : (1 : Int64).toInt ≤ x23.toInt ∧ x23.toInt ≤ (200 : Int64).toInt := by rcases hr24 with ⟨q, r⟩ | ⟨q, r⟩; exact absurd q (by omega); exact r
        clear hr24
        refine lv_iload_n hx hb dX12_when_31 rfl (lv_at hl 2 rfl) ?_
        refine lv_istore (lv' := [(4, .int p2), (0, .ref h0), (1, .int p1), (2, .int p2), (3, .int p3)]) hx hb dX12_when_32 hl (by decide) rfl (fun ls hl => ?_)
        refine lv_aload_n hx hb dX12_when_34 rfl (lv_at hl 1 rfl) ?_
        refine lv_iload_n hx hb dX12_when_35 rfl (lv_at hl 2 rfl) ?_
        refine lv_iload_n hx hb dX12_when_36 rfl (lv_at hl 3 rfl) ?_
        refine rvi (C := RX12) (As := [.int p1, .int p2]) (rest := []) ⟨hx, hb, hml, hown, hts⟩ (t_X12_livesOf l D k u hu h0 m_h0 k_h0 p1 p2 (by (try simp only [i_lt, i_le, i_eq, Int32.toInt_toInt64, Int32.reduceToInt, Int64.reduceToInt, true_and, and_true, false_and, and_false, false_or, or_false, true_or, or_true, not_true_eq_false, not_false_eq_true, ne_eq, forall_const, true_implies, false_implies, implies_true] at eb17 fb17 eb21 fb21 b22 ab22 tx23 eb26 fb26 ⊢) <;> omega) (by (try simp only [i_lt, i_le, i_eq, Int32.toInt_toInt64, Int32.reduceToInt, Int64.reduceToInt, true_and, and_true, false_and, and_false, false_or, or_false, true_or, or_true, not_true_eq_false, not_false_eq_true, ne_eq, forall_const, true_implies, false_implies, implies_true] at eb17 fb17 eb21 fb21 b22 ab22 tx23 eb26 fb26 ⊢) <;> omega)) (cwV 2 hts gX12_when_X12_livesOf rfl rfl rfl (by decide +kernel) ⟨Nat.le_of_ble_eq_true rfl, Nat.le_of_ble_eq_true rfl⟩) hP hK (precv hK hP m_h0 (cF12 k_h0) rfl) rfl hl.1 rfl (Nat.le_of_ble_eq_true rfl) dX12_when_37 ⟨Nat.le_of_ble_eq_true rfl, Nat.le_of_ble_eq_true rfl⟩ (fun r27 hr27 => ?_)
        refine lv_istore (lv' := [(5, .int r27), (4, .int p2), (0, .ref h0), (1, .int p1), (2, .int p2), (3, .int p3)]) hx hb dX12_when_40 hl (by decide) rfl (fun ls hl => ?_)
        refine lv_iload_n hx hb dX12_when_42 rfl (lv_at hl 4 rfl) ?_
        refine lv_iconst (v := 1) hx hb dX12_when_43 (by decide) ?_
        refine lv_iadd hx hb dX12_when_44 ?_
        refine lv_topi (fun x28 ex28 => ?_)
        have tx28 : x28.toInt = p2.toInt + (1 : Int32).toInt := by rw [ex28]; exact i_add (by (try simp only [i_lt, i_le, i_eq, Int32.toInt_toInt64, Int32.reduceToInt, Int64.reduceToInt, true_and, and_true, false_and, and_false, false_or, or_false, true_or, or_true, not_true_eq_false, not_false_eq_true, ne_eq, forall_const, true_implies, false_implies, implies_true] at eb17 fb17 eb21 fb21 b22 ab22 tx23 eb26 fb26 ⊢) <;> omega) (by (try simp only [i_lt, i_le, i_eq, Int32.toInt_toInt64, Int32.reduceToInt, Int64.reduceToInt, true_and, and_true, false_and, and_false, false_or, or_false, true_or, or_true, not_true_eq_false, not_false_eq_true, ne_eq, forall_const, true_implies, false_implies, implies_true] at eb17 fb17 eb21 fb21 b22 ab22 tx23 eb26 fb26 ⊢) <;> omega)
        refine lv_istore (lv' := [(6, .int x28), (5, .int r27), (4, .int p2), (0, .ref h0), (1, .int p1), (2, .int p2), (3, .int p3)]) hx hb dX12_when_45 hl (by decide) rfl (fun ls hl => ?_)
        exact B47 _ ls p1 p2 p3 p2 r27 x28 (Nat.le_refl _) (by (try simp only [i_lt, i_le, i_eq, Int32.toInt_toInt64, Int32.reduceToInt, Int64.reduceToInt, true_and, and_true, false_and, and_false, false_or, or_false, true_or, or_true, not_true_eq_false, not_false_eq_true, ne_eq, forall_const, true_implies, false_implies, implies_true] at eb17 fb17 eb21 fb21 b22 ab22 tx23 eb26 fb26 tx28 ⊢) <;> omega) (by (try simp only [i_lt, i_le, i_eq, Int32.toInt_toInt64, Int32.reduceToInt, Int64.reduceToInt, true_and, and_true, false_and, and_false, false_or, or_false, true_or, or_true, not_true_eq_false, not_false_eq_true, ne_eq, forall_const, true_implies, false_implies, implies_true] at eb17 fb17 eb21 fb21 b22 ab22 tx23 eb26 fb26 tx28 ⊢) <;> omega) (by (try simp only [i_lt, i_le, i_eq, Int32.toInt_toInt64, Int32.reduceToInt, Int64.reduceToInt, true_and, and_true, false_and, and_false, false_or, or_false, true_or, or_true, not_true_eq_false, not_false_eq_true, ne_eq, forall_const, true_implies, false_implies, implies_true] at eb17 fb17 eb21 fb21 b22 ab22 tx23 eb26 fb26 tx28 ⊢) <;> omega) (by (try simp only [i_lt, i_le, i_eq, Int32.toInt_toInt64, Int32.reduceToInt, Int64.reduceToInt, true_and, and_true, false_and, and_false, false_or, or_false, true_or, or_true, not_true_eq_false, not_false_eq_true, ne_eq, forall_const, true_implies, false_implies, implies_true] at eb17 fb17 eb21 fb21 b22 ab22 tx23 eb26 fb26 tx28 ⊢) <;> omega) (lv_sub hl [3, 4, 5, 6, 2, 1, 0] rfl)
      · have eb29 : r24.toInt = 0 := by rcases hr24 with ⟨q, -⟩ | ⟨q, -⟩; exact q; (exact absurd (c25) (fun w => by rw [w] at q; exact absurd q (by decide)))
        have fb29 : (x23.toInt < (1 : Int64).toInt ∨ (200 : Int64).toInt < x23.toInt) := by rcases hr24 with ⟨q, r⟩ | ⟨q, r⟩; exact r; exact absurd q (by omega)
        clear hr24
        refine lv_bipush (v := (-2)) hx hb dX12_when_28 (by decide) ?_
        exact W.iret (v := (-2)) hx hb hr (fun t ht hW => ⟨(-2), rfl, trivial, ht⟩) (fun q h => by cases h) dX12_when_30
set_option maxHeartbeats 4000000 in
set_option maxRecDepth 100000 in
theorem t_X12_bowsOf (l : Launch) (D : va_G) (k : Nat → ClassId) (u0 : PSt) (hu : WT u0) (h0 : Nat) (m_h0 : h0 ∈ u0.1) (k_h0 : u0.2.1 h0 = 12) (p1 : Int32) (g_p1 : 0 ≤ p1.toInt ∧ p1.toInt ≤ 11) (sz : Nat) : Met l yX12_bowsOf wsX12_bowsOf ({ frames := 5, cells := 0, slots := 0, locals := 123 }) (PreM D k sz (PW k u0) [.ref h0, .int p1]) (va_Qi (fun r v => WT v ∧ PX u0 v ∧ (-1 ≤ r.toInt ∧ r.toInt ≤ 999)) (WB D (va_A (PW k u0) sz) (PW k)) (va_A (PW k u0) sz)) 0 0 (va_A (PW k u0) sz) := by
  refine Met.ofW (cc := cX12_bowsOf) (maxL := 3) (ret := (some .int)) (by decide) rfl ?_
  intro p e s m args below meth c s₁ B hml hv
  obtain ⟨rfl, hsz, hP, hK, hD0, hN⟩ := hv
  have hx := B.exec
  have hb := B.bytes
  have hr := B.returns
  have hts := atoms_spec (ws := wsX12_bowsOf) B.pre
  have hown : s.vm.findClass RX12 = some m.cls := findClass_of_methodNamed B.named
  have hlocks := B.notSynchronized
  have m0_h0 := m_h0
  have k0_h0 := k_h0
  subst hsz
  have hD := hD0.self (sz := s.heap.size)
  generalize hAe : va_A (PW k u0) s.heap.size = A at hD ⊢
  have hA : ∀ q : Nat, s.heap.size ≤ q → A q := fun q h => by rw [← hAe]; exact Or.inr h
  have hS : va_S A s.heap s.heap [] := va_S.rf
  have hp : PX u0 u0 := PX.rf
  have B2 : ∀ (n2 : Nat) (u : PSt) (H : Heap) (locs : List Loc) (ls : Array Slot) (v1 : Int32) (v2 : Int32), WT u → PX u0 u → va_P D vwCl (PW k u) H → va_D A (PW k u) → va_S A s.heap H locs → (2147483648 - v2.toInt).toNat ≤ n2 → 0 ≤ v1.toInt ∧ v1.toInt ≤ 11 → 0 ≤ v2.toInt ∧ v2.toInt ≤ 1000 → lv_has ls 3 [(0, .ref h0), (1, .int v1), (2, .int v2)] → W p l e (headSpec wsX12_bowsOf ({ frames := 5, cells := 0, slots := 0, locals := 123 })).room s m ([.ref h0, .int p1] : List Value).toArray below meth c H locs 0 0 (MQ below (va_Qi (fun r v => WT v ∧ PX u0 v ∧ (-1 ≤ r.toInt ∧ r.toInt ≤ 999)) (WB D A (PW k)) A) ([.ref h0, .int p1] : List Value).toArray s 0 0 A) (F0 m 2 ls []) := by
    intro n2
    induction n2 with
    | zero =>
      intro u H locs ls v1 v2 hu hp hP hD hS hn2 g_v1 g_v2 hl
      exact absurd hn2 (by have := Int32.toInt_lt v2; have := Int32.le_toInt v2; omega)
    | succ n2 ih2 =>
      intro u H locs ls v1 v2 hu hp hP hD hS hn2 g_v1 g_v2 hl
      refine lv_iload_n hx hb dX12_bowsOf_2 rfl (lv_at hl 2 rfl) ?_
      refine lv_sipush (v := 999) hx hb dX12_bowsOf_3 (by decide) ?_
      refine lv_icmp_gt (tgt := 29) hx hb dX12_bowsOf_6 (by decide) (fun c1 => ?_) (fun c1 => ?_)
      · refine lv_iconst (v := (-1)) hx hb dX12_bowsOf_29 (by decide) ?_
        exact W.iret (v := (-1)) hx hb hr (fun t ht hW => ⟨⟨(-1), u, rfl, ⟨hu, hp, (by decide)⟩, by rw [ht]; exact hP, hD⟩, hS.F ht⟩) hS.2.2 dX12_bowsOf_30
      · refine lv_aload_n hx hb dX12_bowsOf_9 rfl (lv_at hl 0 rfl) ?_
        refine lv_iload_n hx hb dX12_bowsOf_10 rfl (lv_at hl 1 rfl) ?_
        refine lv_iload_n hx hb dX12_bowsOf_11 rfl (lv_at hl 2 rfl) ?_
        refine lv_iconst (v := 0) hx hb dX12_bowsOf_12 (by decide) ?_
        have k_h0 : u.2.1 h0 = 12 := (hp h0 m0_h0).2.1.trans k0_h0
        have m_h0 : h0 ∈ u.1 := (hp h0 m0_h0).1
        refine wiV (C := RX12) (As := [.int v1, .int v2, .int 0]) (rest := []) ⟨hx, hb, hml, hown, hts⟩ (fun sz => t_X12_loadOf l D k u hu h0 m_h0 k_h0 v1 v2 0 (by (try simp only [i_lt, i_le, i_eq, Int32.toInt_toInt64, Int32.reduceToInt, Int64.reduceToInt, true_and, and_true, false_and, and_false, false_or, or_false, true_or, or_true, not_true_eq_false, not_false_eq_true, ne_eq, forall_const, true_implies, false_implies, implies_true] at g_v1 g_v2 hn2 c1 ⊢) <;> omega) sz) (cwV 3 hts gX12_bowsOf_X12_loadOf rfl rfl rfl (by decide +kernel) ⟨Nat.le_of_ble_eq_true rfl, Nat.le_of_ble_eq_true rfl⟩) hP hK hD hN hS hA (precv hK hP m_h0 (cF12 k_h0) rfl) rfl hl.1 rfl (Nat.le_of_ble_eq_true rfl) dX12_bowsOf_13 ⟨Nat.le_of_ble_eq_true rfl, Nat.le_of_ble_eq_true rfl⟩ (fun r2 u3 H locs hqu3 hP hD hS => ?_)
        obtain ⟨hu, hxu3, hr2⟩ := hqu3
        have hp := PX.trans hp hxu3
        refine lv_bipush (v := 100) hx hb dX12_bowsOf_16 (by decide) ?_
        refine lv_icmp_le (tgt := 23) hx hb dX12_bowsOf_18 (by decide) (fun c4 => ?_) (fun c4 => ?_)
        · obtain ⟨x5, ex5⟩ : ∃ y : Int32, y = v2 + 1 := ⟨_, rfl⟩
          have tx5 : x5.toInt = v2.toInt + 1 := by rw [ex5]; exact i_add (b := 1) (by (try simp only [i_lt, i_le, i_eq, Int32.toInt_toInt64, Int32.reduceToInt, Int64.reduceToInt, true_and, and_true, false_and, and_false, false_or, or_false, true_or, or_true, not_true_eq_false, not_false_eq_true, ne_eq, forall_const, true_implies, false_implies, implies_true] at g_v1 g_v2 hn2 c1 c4 ⊢) <;> omega) (by (try simp only [i_lt, i_le, i_eq, Int32.toInt_toInt64, Int32.reduceToInt, Int64.reduceToInt, true_and, and_true, false_and, and_false, false_or, or_false, true_or, or_true, not_true_eq_false, not_false_eq_true, ne_eq, forall_const, true_implies, false_implies, implies_true] at g_v1 g_v2 hn2 c1 c4 ⊢) <;> omega)
          refine lv_iinc (v := x5) (lv' := [(2, .int x5), (0, .ref h0), (1, .int v1)]) hx hb dX12_bowsOf_23 hl (k := 2) rfl (by rw [ex5]; rfl) (by decide) rfl (fun ls hl => ?_)
          refine lv_goto (tgt := 2) hx hb dX12_bowsOf_26 (by decide) ?_
          exact ih2 _ _ _ ls v1 x5 hu hp hP hD hS (by (try simp only [i_lt, i_le, i_eq, Int32.toInt_toInt64, Int32.reduceToInt, Int64.reduceToInt, true_and, and_true, false_and, and_false, false_or, or_false, true_or, or_true, not_true_eq_false, not_false_eq_true, ne_eq, forall_const, true_implies, false_implies, implies_true] at g_v1 g_v2 hn2 c1 c4 tx5 ⊢) <;> omega) (by (try simp only [i_lt, i_le, i_eq, Int32.toInt_toInt64, Int32.reduceToInt, Int64.reduceToInt, true_and, and_true, false_and, and_false, false_or, or_false, true_or, or_true, not_true_eq_false, not_false_eq_true, ne_eq, forall_const, true_implies, false_implies, implies_true] at g_v1 g_v2 hn2 c1 c4 tx5 ⊢) <;> omega) (by (try simp only [i_lt, i_le, i_eq, Int32.toInt_toInt64, Int32.reduceToInt, Int64.reduceToInt, true_and, and_true, false_and, and_false, false_or, or_false, true_or, or_true, not_true_eq_false, not_false_eq_true, ne_eq, forall_const, true_implies, false_implies, implies_true] at g_v1 g_v2 hn2 c1 c4 tx5 ⊢) <;> omega) (lv_sub hl [1, 2, 0] rfl)
        · refine lv_iload_n hx hb dX12_bowsOf_21 rfl (lv_at hl 2 rfl) ?_
          exact W.iret (v := v2) hx hb hr (fun t ht hW => ⟨⟨v2, u3, rfl, ⟨hu, hp, (by (try simp only [i_lt, i_le, i_eq, Int32.toInt_toInt64, Int32.reduceToInt, Int64.reduceToInt, true_and, and_true, false_and, and_false, false_or, or_false, true_or, or_true, not_true_eq_false, not_false_eq_true, ne_eq, forall_const, true_implies, false_implies, implies_true] at g_v1 g_v2 hn2 c1 c4 ⊢) <;> omega)⟩, by rw [ht]; exact hP, hD⟩, hS.F ht⟩) hS.2.2 dX12_bowsOf_22
  have hl := lv_entry ([.ref h0, .int p1]) (n := 3) (Nat.le_of_ble_eq_true rfl)
  rw [lg_entry_eq]
  generalize (lg_sl ([.ref h0, .int p1]) ++ List.replicate (3 - (lg_sl ([.ref h0, .int p1])).length) Slot.unset).toArray = ls at hl ⊢
  have hl : lv_has ls 3 [(0, .ref h0), (1, .int p1)] := hl
  refine lv_iconst (v := 0) hx hb dX12_bowsOf_0 (by decide) ?_
  refine lv_istore_n (lv' := [(2, .int 0), (0, .ref h0), (1, .int p1)]) hx hb dX12_bowsOf_1 rfl hl (by decide) rfl (fun ls hl => ?_)
  exact B2 _ _ _ _ ls p1 0 hu hp hP hD hS (Nat.le_refl _) (by (try simp only [i_lt, i_le, i_eq, Int32.toInt_toInt64, Int32.reduceToInt, Int64.reduceToInt, true_and, and_true, false_and, and_false, false_or, or_false, true_or, or_true, not_true_eq_false, not_false_eq_true, ne_eq, forall_const, true_implies, false_implies, implies_true] at g_p1 ⊢) <;> omega) (by (try simp only [i_lt, i_le, i_eq, Int32.toInt_toInt64, Int32.reduceToInt, Int64.reduceToInt, true_and, and_true, false_and, and_false, false_or, or_false, true_or, or_true, not_true_eq_false, not_false_eq_true, ne_eq, forall_const, true_implies, false_implies, implies_true] at g_p1 ⊢) <;> omega) (lv_sub hl [1, 2, 0] rfl)
set_option maxHeartbeats 4000000 in
set_option maxRecDepth 100000 in
theorem t_X12_laysLoads (l : Launch) (D : va_G) (k : Nat → ClassId) (u0 : PSt) (hu : WT u0) (h0 : Nat) (m_h0 : h0 ∈ u0.1) (k_h0 : u0.2.1 h0 = 12) (p1 : Int32) (p2 : Int32) (g_p1 : 0 ≤ p1.toInt ∧ p1.toInt ≤ 11) (sz : Nat) : Met l yX12_laysLoads wsX12_laysLoads ({ frames := 5, cells := 0, slots := 0, locals := 123 }) (PreM D k sz (PW k u0) [.ref h0, .int p1, .int p2]) (va_Qv (fun v => WT v ∧ PX u0 v ∧ (True)) (WB D (va_A (PW k u0) sz) (PW k)) (va_A (PW k u0) sz)) 0 0 (va_A (PW k u0) sz) := by
  refine Met.ofW (cc := cX12_laysLoads) (maxL := 4) (ret := none) (by decide) rfl ?_
  intro p e s m args below meth c s₁ B hml hv
  obtain ⟨rfl, hsz, hP, hK, hD0, hN⟩ := hv
  have hx := B.exec
  have hb := B.bytes
  have hr := B.returns
  have hts := atoms_spec (ws := wsX12_laysLoads) B.pre
  have hown : s.vm.findClass RX12 = some m.cls := findClass_of_methodNamed B.named
  have hlocks := B.notSynchronized
  have i_X12 : ∀ w ∈ wsX120, w ∈ wsX12_laysLoads := by decide +kernel
  obtain ⟨a22, q0_22, m0_a22, k0_a22⟩ := (hu h0 m_h0).1 22 57 (by rw [k_h0]; rfl)
  obtain ⟨a24, q0_24, m0_a24, k0_a24⟩ := (hu h0 m_h0).1 24 58 (by rw [k_h0]; rfl)
  have m0_h0 := m_h0
  have k0_h0 := k_h0
  have m_a22 := m0_a22
  have m_a24 := m0_a24
  have k_a22 := k0_a22
  have k_a24 := k0_a24
  subst hsz
  have hD := hD0.self (sz := s.heap.size)
  generalize hAe : va_A (PW k u0) s.heap.size = A at hD ⊢
  have hA : ∀ q : Nat, s.heap.size ≤ q → A q := fun q h => by rw [← hAe]; exact Or.inr h
  have hS : va_S A s.heap s.heap [] := va_S.rf
  have hp : PX u0 u0 := PX.rf
  have B24 : ∀ (n24 : Nat) (u : PSt) (H : Heap) (locs : List Loc) (ls : Array Slot) (v1 : Int32) (v2 : Int32) (v3 : Int32), WT u → PX u0 u → va_P D vwCl (PW k u) H → va_D A (PW k u) → va_S A s.heap H locs → (2147483648 - v3.toInt).toNat ≤ n24 → 0 ≤ v1.toInt ∧ v1.toInt ≤ 11 → 0 ≤ v3.toInt ∧ v3.toInt ≤ 2000 → lv_has ls 4 [(0, .ref h0), (1, .int v1), (2, .int v2), (3, .int v3)] → W p l e (headSpec wsX12_laysLoads ({ frames := 5, cells := 0, slots := 0, locals := 123 })).room s m ([.ref h0, .int p1, .int p2] : List Value).toArray below meth c H locs 0 0 (MQ below (va_Qv (fun v => WT v ∧ PX u0 v ∧ (True)) (WB D A (PW k)) A) ([.ref h0, .int p1, .int p2] : List Value).toArray s 0 0 A) (F0 m 24 ls []) := by
    intro n24
    induction n24 with
    | zero =>
      intro u H locs ls v1 v2 v3 hu hp hP hD hS hn24 g_v1 g_v3 hl
      exact absurd hn24 (by have := Int32.toInt_lt v3; have := Int32.le_toInt v3; omega)
    | succ n24 ih24 =>
      intro u H locs ls v1 v2 v3 hu hp hP hD hS hn24 g_v1 g_v3 hl
      refine lv_iload_n hx hb dX12_laysLoads_24 rfl (lv_at hl 3 rfl) ?_
      refine lv_aload_n hx hb dX12_laysLoads_25 rfl (lv_at hl 0 rfl) ?_
      have k_h0 : u.2.1 h0 = 12 := (hp h0 m0_h0).2.1.trans k0_h0
      have m_h0 : h0 ∈ u.1 := (hp h0 m0_h0).1
      refine pget (ci := 12) (v := .int (u.2.2.1 h0 23)) (C := RX12) (T := TX12) (N := 34) hx hb hts i_X12 hown hK hP m_h0 (cF12 k_h0) rfl 23 (by decide) (hts (.fieldLink RX12 362 "BellowsRowModel" "many" "I") (by decide +kernel)) (fun _ h9 => h9) rfl dX12_laysLoads_26 ?_
      have g1 := (hu h0 m_h0).2.2.2 23
      rw [k_h0] at g1
      replace g1 : 0 ≤ (u.2.2.1 h0 23).toInt ∧ (u.2.2.1 h0 23).toInt ≤ 2000 := g1
      refine lv_icmp_ge (tgt := 76) hx hb dX12_laysLoads_29 (by decide) (fun c2 => ?_) (fun c2 => ?_)
      · exact W.vret hx hb hr (fun t ht hW => ⟨⟨u, rfl, ⟨hu, hp, trivial⟩, by rw [ht]; exact hP, hD⟩, hS.F ht⟩) hS.2.2 dX12_laysLoads_76
      · refine lv_aload_n hx hb dX12_laysLoads_32 rfl (lv_at hl 0 rfl) ?_
        have k_a24 : u.2.1 a24 = 58 := (hp a24 m0_a24).2.1.trans k0_a24
        have m_a24 : a24 ∈ u.1 := (hp a24 m0_a24).1
        refine pget (ci := 12) (v := va_rf (u.2.2.2.2 h0 24)) (C := RX12) (T := TX12) (N := 34) hx hb hts i_X12 hown hK hP m_h0 (cF12 k_h0) rfl 24 (by decide) (hts (.fieldLink RX12 52 "BellowsRowModel" "loads" "[I") (by decide +kernel)) (fun _ h9 => h9) rfl dX12_laysLoads_33 ?_
        refine W.eq (g2 := F0 m 36 ls [.ref a24]) (by rw [(((hp h0 m0_h0).2.2.2.2.2.1 k0_h0 24).trans q0_24)]; rfl) ?_
        refine lv_aload_n hx hb dX12_laysLoads_36 rfl (lv_at hl 0 rfl) ?_
        have k_a22 : u.2.1 a22 = 57 := (hp a22 m0_a22).2.1.trans k0_a22
        have m_a22 : a22 ∈ u.1 := (hp a22 m0_a22).1
        refine pget (ci := 12) (v := va_rf (u.2.2.2.2 h0 22)) (C := RX12) (T := TX12) (N := 34) hx hb hts i_X12 hown hK hP m_h0 (cF12 k_h0) rfl 22 (by decide) (hts (.fieldLink RX12 49 "BellowsRowModel" "presses" "[I") (by decide +kernel)) (fun _ h9 => h9) rfl dX12_laysLoads_37 ?_
        refine W.eq (g2 := F0 m 40 ls [.ref a22, .ref a24]) (by rw [(((hp h0 m0_h0).2.2.2.2.2.1 k0_h0 22).trans q0_22)]; rfl) ?_
        refine lv_iload_n hx hb dX12_laysLoads_40 rfl (lv_at hl 3 rfl) ?_
        refine palI hx hb hK hP m_a22 (cF57 k_a22) 1 rfl (vp_in_iff.mpr (by (try simp only [i_lt, i_le, i_eq, Int32.toInt_toInt64, Int32.reduceToInt, Int64.reduceToInt, true_and, and_true, false_and, and_false, false_or, or_false, true_or, or_true, not_true_eq_false, not_false_eq_true, ne_eq, forall_const, true_implies, false_implies, implies_true] at g_v1 g_v3 hn24 g1 c2 ⊢) <;> omega)) dX12_laysLoads_41 ?_
        refine lv_topi (fun x3 ex3 => ?_)
        have tx3 : x3.toInt = (u.2.2.1 a22 (v3.toNatClampNeg)).toInt := congrArg Int32.toInt ex3
        have g4 : 0 ≤ x3.toInt ∧ x3.toInt ≤ 999 := by have g := (hu a22 m_a22).2.2.2 (v3.toNatClampNeg); rw [k_a22] at g; rw [show x3 = _ from ex3]; exact g
        refine palI hx hb hK hP m_a24 (cF58 k_a24) 1 rfl (vp_in_iff.mpr (by (try simp only [i_lt, i_le, i_eq, Int32.toInt_toInt64, Int32.reduceToInt, Int64.reduceToInt, true_and, and_true, false_and, and_false, false_or, or_false, true_or, or_true, not_true_eq_false, not_false_eq_true, ne_eq, forall_const, true_implies, false_implies, implies_true] at g_v1 g_v3 hn24 g1 c2 tx3 g4 ⊢) <;> omega)) dX12_laysLoads_42 ?_
        refine lv_topi (fun x5 ex5 => ?_)
        have tx5 : x5.toInt = (u.2.2.1 a24 (x3.toNatClampNeg)).toInt := congrArg Int32.toInt ex5
        refine lv_iconst (v := (-1)) hx hb dX12_laysLoads_43 (by decide) ?_
        refine lv_icmp_ne (tgt := 70) hx hb dX12_laysLoads_44 (by decide) (fun c6 => ?_) (fun c6 => ?_)
        · obtain ⟨x7, ex7⟩ : ∃ y : Int32, y = v3 + 1 := ⟨_, rfl⟩
          have tx7 : x7.toInt = v3.toInt + 1 := by rw [ex7]; exact i_add (b := 1) (by (try simp only [i_lt, i_le, i_eq, Int32.toInt_toInt64, Int32.reduceToInt, Int64.reduceToInt, true_and, and_true, false_and, and_false, false_or, or_false, true_or, or_true, not_true_eq_false, not_false_eq_true, ne_eq, forall_const, true_implies, false_implies, implies_true] at g_v1 g_v3 hn24 g1 c2 tx3 g4 tx5 c6 ⊢) <;> omega) (by (try simp only [i_lt, i_le, i_eq, Int32.toInt_toInt64, Int32.reduceToInt, Int64.reduceToInt, true_and, and_true, false_and, and_false, false_or, or_false, true_or, or_true, not_true_eq_false, not_false_eq_true, ne_eq, forall_const, true_implies, false_implies, implies_true] at g_v1 g_v3 hn24 g1 c2 tx3 g4 tx5 c6 ⊢) <;> omega)
          refine lv_iinc (v := x7) (lv' := [(3, .int x7), (0, .ref h0), (1, .int v1), (2, .int v2)]) hx hb dX12_laysLoads_70 hl (k := 3) rfl (by rw [ex7]; rfl) (by decide) rfl (fun ls hl => ?_)
          refine lv_goto (tgt := 24) hx hb dX12_laysLoads_73 (by decide) ?_
          exact ih24 _ _ _ ls v1 v2 x7 hu hp hP hD hS (by (try simp only [i_lt, i_le, i_eq, Int32.toInt_toInt64, Int32.reduceToInt, Int64.reduceToInt, true_and, and_true, false_and, and_false, false_or, or_false, true_or, or_true, not_true_eq_false, not_false_eq_true, ne_eq, forall_const, true_implies, false_implies, implies_true] at g_v1 g_v3 hn24 g1 c2 tx3 g4 tx5 c6 tx7 ⊢) <;> omega) (by (try simp only [i_lt, i_le, i_eq, Int32.toInt_toInt64, Int32.reduceToInt, Int64.reduceToInt, true_and, and_true, false_and, and_false, false_or, or_false, true_or, or_true, not_true_eq_false, not_false_eq_true, ne_eq, forall_const, true_implies, false_implies, implies_true] at g_v1 g_v3 hn24 g1 c2 tx3 g4 tx5 c6 tx7 ⊢) <;> omega) (by (try simp only [i_lt, i_le, i_eq, Int32.toInt_toInt64, Int32.reduceToInt, Int64.reduceToInt, true_and, and_true, false_and, and_false, false_or, or_false, true_or, or_true, not_true_eq_false, not_false_eq_true, ne_eq, forall_const, true_implies, false_implies, implies_true] at g_v1 g_v3 hn24 g1 c2 tx3 g4 tx5 c6 tx7 ⊢) <;> omega) (lv_sub hl [1, 2, 3, 0] rfl)
        · refine lv_aload_n hx hb dX12_laysLoads_47 rfl (lv_at hl 0 rfl) ?_
          refine pget (ci := 12) (v := va_rf (u.2.2.2.2 h0 24)) (C := RX12) (T := TX12) (N := 34) hx hb hts i_X12 hown hK hP m_h0 (cF12 k_h0) rfl 24 (by decide) (hts (.fieldLink RX12 52 "BellowsRowModel" "loads" "[I") (by decide +kernel)) (fun _ h9 => h9) rfl dX12_laysLoads_48 ?_
          refine W.eq (g2 := F0 m 51 ls [.ref a24]) (by rw [(((hp h0 m0_h0).2.2.2.2.2.1 k0_h0 24).trans q0_24)]; rfl) ?_
          refine lv_aload_n hx hb dX12_laysLoads_51 rfl (lv_at hl 0 rfl) ?_
          refine pget (ci := 12) (v := va_rf (u.2.2.2.2 h0 22)) (C := RX12) (T := TX12) (N := 34) hx hb hts i_X12 hown hK hP m_h0 (cF12 k_h0) rfl 22 (by decide) (hts (.fieldLink RX12 49 "BellowsRowModel" "presses" "[I") (by decide +kernel)) (fun _ h9 => h9) rfl dX12_laysLoads_52 ?_
          refine W.eq (g2 := F0 m 55 ls [.ref a22, .ref a24]) (by rw [(((hp h0 m0_h0).2.2.2.2.2.1 k0_h0 22).trans q0_22)]; rfl) ?_
          refine lv_iload_n hx hb dX12_laysLoads_55 rfl (lv_at hl 3 rfl) ?_
          refine palI hx hb hK hP m_a22 (cF57 k_a22) 1 rfl (vp_in_iff.mpr (by (try simp only [i_lt, i_le, i_eq, Int32.toInt_toInt64, Int32.reduceToInt, Int64.reduceToInt, true_and, and_true, false_and, and_false, false_or, or_false, true_or, or_true, not_true_eq_false, not_false_eq_true, ne_eq, forall_const, true_implies, false_implies, implies_true] at g_v1 g_v3 hn24 g1 c2 tx3 g4 tx5 c6 ⊢) <;> omega)) dX12_laysLoads_56 ?_
          refine lv_topi (fun x8 ex8 => ?_)
          have tx8 : x8.toInt = (u.2.2.1 a22 (v3.toNatClampNeg)).toInt := congrArg Int32.toInt ex8
          have g9 : 0 ≤ x8.toInt ∧ x8.toInt ≤ 999 := by have g := (hu a22 m_a22).2.2.2 (v3.toNatClampNeg); rw [k_a22] at g; rw [show x8 = _ from ex8]; exact g
          refine lv_aload_n hx hb dX12_laysLoads_57 rfl (lv_at hl 0 rfl) ?_
          refine lv_iload_n hx hb dX12_laysLoads_58 rfl (lv_at hl 1 rfl) ?_
          refine lv_aload_n hx hb dX12_laysLoads_59 rfl (lv_at hl 0 rfl) ?_
          refine pget (ci := 12) (v := va_rf (u.2.2.2.2 h0 22)) (C := RX12) (T := TX12) (N := 34) hx hb hts i_X12 hown hK hP m_h0 (cF12 k_h0) rfl 22 (by decide) (hts (.fieldLink RX12 49 "BellowsRowModel" "presses" "[I") (by decide +kernel)) (fun _ h9 => h9) rfl dX12_laysLoads_60 ?_
          refine W.eq (g2 := F0 m 63 ls [.ref a22, .int v1, .ref h0, .int x8, .ref a24]) (by rw [(((hp h0 m0_h0).2.2.2.2.2.1 k0_h0 22).trans q0_22)]; rfl) ?_
          refine lv_iload_n hx hb dX12_laysLoads_63 rfl (lv_at hl 3 rfl) ?_
          refine palI hx hb hK hP m_a22 (cF57 k_a22) 1 rfl (vp_in_iff.mpr (by (try simp only [i_lt, i_le, i_eq, Int32.toInt_toInt64, Int32.reduceToInt, Int64.reduceToInt, true_and, and_true, false_and, and_false, false_or, or_false, true_or, or_true, not_true_eq_false, not_false_eq_true, ne_eq, forall_const, true_implies, false_implies, implies_true] at g_v1 g_v3 hn24 g1 c2 tx3 g4 tx5 c6 tx8 g9 ⊢) <;> omega)) dX12_laysLoads_64 ?_
          refine lv_topi (fun x10 ex10 => ?_)
          have tx10 : x10.toInt = (u.2.2.1 a22 (v3.toNatClampNeg)).toInt := congrArg Int32.toInt ex10
          have g11 : 0 ≤ x10.toInt ∧ x10.toInt ≤ 999 := by have g := (hu a22 m_a22).2.2.2 (v3.toNatClampNeg); rw [k_a22] at g; rw [show x10 = _ from ex10]; exact g
          refine lv_iload_n hx hb dX12_laysLoads_65 rfl (lv_at hl 2 rfl) ?_
          refine wiV (C := RX12) (As := [.int v1, .int x10, .int v2]) (rest := [.int x8, .ref a24]) ⟨hx, hb, hml, hown, hts⟩ (fun sz => t_X12_loadOf l D k u hu h0 m_h0 k_h0 v1 x10 v2 (by (try simp only [i_lt, i_le, i_eq, Int32.toInt_toInt64, Int32.reduceToInt, Int64.reduceToInt, true_and, and_true, false_and, and_false, false_or, or_false, true_or, or_true, not_true_eq_false, not_false_eq_true, ne_eq, forall_const, true_implies, false_implies, implies_true] at g_v1 g_v3 hn24 g1 c2 tx3 g4 tx5 c6 tx8 g9 tx10 g11 ⊢) <;> omega) sz) (cwV 3 hts gX12_laysLoads_X12_loadOf rfl rfl rfl (by decide +kernel) ⟨Nat.le_of_ble_eq_true rfl, Nat.le_of_ble_eq_true rfl⟩) hP hK hD hN hS hA (precv hK hP m_h0 (cF12 k_h0) rfl) rfl hl.1 rfl (Nat.le_of_ble_eq_true rfl) dX12_laysLoads_66 ⟨Nat.le_of_ble_eq_true rfl, Nat.le_of_ble_eq_true rfl⟩ (fun r12 u13 H locs hqu13 hP hD hS => ?_)
          obtain ⟨hu, hxu13, hr12⟩ := hqu13
          have hp := PX.trans hp hxu13
          have k_h0 : u13.2.1 h0 = 12 := (hp h0 m0_h0).2.1.trans k0_h0
          have m_h0 : h0 ∈ u13.1 := (hp h0 m0_h0).1
          have k_a24 : u13.2.1 a24 = 58 := (hp a24 m0_a24).2.1.trans k0_a24
          have m_a24 : a24 ∈ u13.1 := (hp a24 m0_a24).1
          refine pasI (u' := pSI u13 a24 (x8.toNatClampNeg) r12) hx hb hK hP hD hS m_a24 (cF58 k_a24) 1 rfl (vp_in_iff.mpr (by (try simp only [i_lt, i_le, i_eq, Int32.toInt_toInt64, Int32.reduceToInt, Int64.reduceToInt, true_and, and_true, false_and, and_false, false_or, or_false, true_or, or_true, not_true_eq_false, not_false_eq_true, ne_eq, forall_const, true_implies, false_implies, implies_true] at g_v1 g_v3 hn24 g1 c2 tx3 g4 tx5 c6 tx8 g9 tx10 g11 ⊢) <;> omega)) rfl (sF58 k_a24 _ _) dX12_laysLoads_69 (fun H locs hP hD hS => ?_)
          have hu := WT.setI (a := a24) (s := (x8.toNatClampNeg)) (v := r12) hu (by rw [k_a24]; exact trivial)
          have hp := PX.setI (a := a24) (s := (x8.toNatClampNeg)) (v := r12) hp (by rw [k_a24]; decide)
          obtain ⟨u14, hu14⟩ : ∃ z, z = pSI u13 a24 (x8.toNatClampNeg) r12 := ⟨_, rfl⟩
          rw [← hu14] at hP hD hu hp
          obtain ⟨x15, ex15⟩ : ∃ y : Int32, y = v3 + 1 := ⟨_, rfl⟩
          have tx15 : x15.toInt = v3.toInt + 1 := by rw [ex15]; exact i_add (b := 1) (by (try simp only [i_lt, i_le, i_eq, Int32.toInt_toInt64, Int32.reduceToInt, Int64.reduceToInt, true_and, and_true, false_and, and_false, false_or, or_false, true_or, or_true, not_true_eq_false, not_false_eq_true, ne_eq, forall_const, true_implies, false_implies, implies_true] at g_v1 g_v3 hn24 g1 c2 tx3 g4 tx5 c6 tx8 g9 tx10 g11 ⊢) <;> omega) (by (try simp only [i_lt, i_le, i_eq, Int32.toInt_toInt64, Int32.reduceToInt, Int64.reduceToInt, true_and, and_true, false_and, and_false, false_or, or_false, true_or, or_true, not_true_eq_false, not_false_eq_true, ne_eq, forall_const, true_implies, false_implies, implies_true] at g_v1 g_v3 hn24 g1 c2 tx3 g4 tx5 c6 tx8 g9 tx10 g11 ⊢) <;> omega)
          refine lv_iinc (v := x15) (lv' := [(3, .int x15), (0, .ref h0), (1, .int v1), (2, .int v2)]) hx hb dX12_laysLoads_70 hl (k := 3) rfl (by rw [ex15]; rfl) (by decide) rfl (fun ls hl => ?_)
          refine lv_goto (tgt := 24) hx hb dX12_laysLoads_73 (by decide) ?_
          exact ih24 _ _ _ ls v1 v2 x15 hu hp hP hD hS (by (try simp only [i_lt, i_le, i_eq, Int32.toInt_toInt64, Int32.reduceToInt, Int64.reduceToInt, true_and, and_true, false_and, and_false, false_or, or_false, true_or, or_true, not_true_eq_false, not_false_eq_true, ne_eq, forall_const, true_implies, false_implies, implies_true] at g_v1 g_v3 hn24 g1 c2 tx3 g4 tx5 c6 tx8 g9 tx10 g11 tx15 ⊢) <;> omega) (by (try simp only [i_lt, i_le, i_eq, Int32.toInt_toInt64, Int32.reduceToInt, Int64.reduceToInt, true_and, and_true, false_and, and_false, false_or, or_false, true_or, or_true, not_true_eq_false, not_false_eq_true, ne_eq, forall_const, true_implies, false_implies, implies_true] at g_v1 g_v3 hn24 g1 c2 tx3 g4 tx5 c6 tx8 g9 tx10 g11 tx15 ⊢) <;> omega) (by (try simp only [i_lt, i_le, i_eq, Int32.toInt_toInt64, Int32.reduceToInt, Int64.reduceToInt, true_and, and_true, false_and, and_false, false_or, or_false, true_or, or_true, not_true_eq_false, not_false_eq_true, ne_eq, forall_const, true_implies, false_implies, implies_true] at g_v1 g_v3 hn24 g1 c2 tx3 g4 tx5 c6 tx8 g9 tx10 g11 tx15 ⊢) <;> omega) (lv_sub hl [1, 2, 3, 0] rfl)
  have B2 : ∀ (n2 : Nat) (u : PSt) (H : Heap) (locs : List Loc) (ls : Array Slot) (v1 : Int32) (v2 : Int32) (v3 : Int32), WT u → PX u0 u → va_P D vwCl (PW k u) H → va_D A (PW k u) → va_S A s.heap H locs → (2147483648 - v3.toInt).toNat ≤ n2 → 0 ≤ v1.toInt ∧ v1.toInt ≤ 11 → 0 ≤ v3.toInt ∧ v3.toInt ≤ 1000 → lv_has ls 4 [(0, .ref h0), (1, .int v1), (2, .int v2), (3, .int v3)] → W p l e (headSpec wsX12_laysLoads ({ frames := 5, cells := 0, slots := 0, locals := 123 })).room s m ([.ref h0, .int p1, .int p2] : List Value).toArray below meth c H locs 0 0 (MQ below (va_Qv (fun v => WT v ∧ PX u0 v ∧ (True)) (WB D A (PW k)) A) ([.ref h0, .int p1, .int p2] : List Value).toArray s 0 0 A) (F0 m 2 ls []) := by
    intro n2
    induction n2 with
    | zero =>
      intro u H locs ls v1 v2 v3 hu hp hP hD hS hn2 g_v1 g_v3 hl
      exact absurd hn2 (by have := Int32.toInt_lt v3; have := Int32.le_toInt v3; omega)
    | succ n2 ih2 =>
      intro u H locs ls v1 v2 v3 hu hp hP hD hS hn2 g_v1 g_v3 hl
      refine lv_iload_n hx hb dX12_laysLoads_2 rfl (lv_at hl 3 rfl) ?_
      refine lv_sipush (v := 999) hx hb dX12_laysLoads_3 (by decide) ?_
      refine lv_icmp_gt (tgt := 22) hx hb dX12_laysLoads_6 (by decide) (fun c16 => ?_) (fun c16 => ?_)
      · refine lv_iconst (v := 0) hx hb dX12_laysLoads_22 (by decide) ?_
        refine lv_istore_n (lv' := [(3, .int 0), (0, .ref h0), (1, .int v1), (2, .int v2)]) hx hb dX12_laysLoads_23 rfl hl (by decide) rfl (fun ls hl => ?_)
        exact B24 _ _ _ _ ls v1 v2 0 hu hp hP hD hS (Nat.le_refl _) (by (try simp only [i_lt, i_le, i_eq, Int32.toInt_toInt64, Int32.reduceToInt, Int64.reduceToInt, true_and, and_true, false_and, and_false, false_or, or_false, true_or, or_true, not_true_eq_false, not_false_eq_true, ne_eq, forall_const, true_implies, false_implies, implies_true] at g_v1 g_v3 hn2 c16 ⊢) <;> omega) (by (try simp only [i_lt, i_le, i_eq, Int32.toInt_toInt64, Int32.reduceToInt, Int64.reduceToInt, true_and, and_true, false_and, and_false, false_or, or_false, true_or, or_true, not_true_eq_false, not_false_eq_true, ne_eq, forall_const, true_implies, false_implies, implies_true] at g_v1 g_v3 hn2 c16 ⊢) <;> omega) (lv_sub hl [1, 2, 3, 0] rfl)
      · refine lv_aload_n hx hb dX12_laysLoads_9 rfl (lv_at hl 0 rfl) ?_
        have k_h0 : u.2.1 h0 = 12 := (hp h0 m0_h0).2.1.trans k0_h0
        have m_h0 : h0 ∈ u.1 := (hp h0 m0_h0).1
        have k_a24 : u.2.1 a24 = 58 := (hp a24 m0_a24).2.1.trans k0_a24
        have m_a24 : a24 ∈ u.1 := (hp a24 m0_a24).1
        refine pget (ci := 12) (v := va_rf (u.2.2.2.2 h0 24)) (C := RX12) (T := TX12) (N := 34) hx hb hts i_X12 hown hK hP m_h0 (cF12 k_h0) rfl 24 (by decide) (hts (.fieldLink RX12 52 "BellowsRowModel" "loads" "[I") (by decide +kernel)) (fun _ h9 => h9) rfl dX12_laysLoads_10 ?_
        refine W.eq (g2 := F0 m 13 ls [.ref a24]) (by rw [(((hp h0 m0_h0).2.2.2.2.2.1 k0_h0 24).trans q0_24)]; rfl) ?_
        refine lv_iload_n hx hb dX12_laysLoads_13 rfl (lv_at hl 3 rfl) ?_
        refine lv_iconst (v := (-1)) hx hb dX12_laysLoads_14 (by decide) ?_
        refine pasI (u' := pSI u a24 (v3.toNatClampNeg) (-1)) hx hb hK hP hD hS m_a24 (cF58 k_a24) 1 rfl (vp_in_iff.mpr (by (try simp only [i_lt, i_le, i_eq, Int32.toInt_toInt64, Int32.reduceToInt, Int64.reduceToInt, true_and, and_true, false_and, and_false, false_or, or_false, true_or, or_true, not_true_eq_false, not_false_eq_true, ne_eq, forall_const, true_implies, false_implies, implies_true] at g_v1 g_v3 hn2 c16 ⊢) <;> omega)) rfl (sF58 k_a24 _ _) dX12_laysLoads_15 (fun H locs hP hD hS => ?_)
        have hu := WT.setI (a := a24) (s := (v3.toNatClampNeg)) (v := (-1)) hu (by rw [k_a24]; exact trivial)
        have hp := PX.setI (a := a24) (s := (v3.toNatClampNeg)) (v := (-1)) hp (by rw [k_a24]; decide)
        obtain ⟨u17, hu17⟩ : ∃ z, z = pSI u a24 (v3.toNatClampNeg) (-1) := ⟨_, rfl⟩
        rw [← hu17] at hP hD hu hp
        obtain ⟨x18, ex18⟩ : ∃ y : Int32, y = v3 + 1 := ⟨_, rfl⟩
        have tx18 : x18.toInt = v3.toInt + 1 := by rw [ex18]; exact i_add (b := 1) (by (try simp only [i_lt, i_le, i_eq, Int32.toInt_toInt64, Int32.reduceToInt, Int64.reduceToInt, true_and, and_true, false_and, and_false, false_or, or_false, true_or, or_true, not_true_eq_false, not_false_eq_true, ne_eq, forall_const, true_implies, false_implies, implies_true] at g_v1 g_v3 hn2 c16 ⊢) <;> omega) (by (try simp only [i_lt, i_le, i_eq, Int32.toInt_toInt64, Int32.reduceToInt, Int64.reduceToInt, true_and, and_true, false_and, and_false, false_or, or_false, true_or, or_true, not_true_eq_false, not_false_eq_true, ne_eq, forall_const, true_implies, false_implies, implies_true] at g_v1 g_v3 hn2 c16 ⊢) <;> omega)
        refine lv_iinc (v := x18) (lv' := [(3, .int x18), (0, .ref h0), (1, .int v1), (2, .int v2)]) hx hb dX12_laysLoads_16 hl (k := 3) rfl (by rw [ex18]; rfl) (by decide) rfl (fun ls hl => ?_)
        refine lv_goto (tgt := 2) hx hb dX12_laysLoads_19 (by decide) ?_
        exact ih2 _ _ _ ls v1 v2 x18 hu hp hP hD hS (by (try simp only [i_lt, i_le, i_eq, Int32.toInt_toInt64, Int32.reduceToInt, Int64.reduceToInt, true_and, and_true, false_and, and_false, false_or, or_false, true_or, or_true, not_true_eq_false, not_false_eq_true, ne_eq, forall_const, true_implies, false_implies, implies_true] at g_v1 g_v3 hn2 c16 tx18 ⊢) <;> omega) (by (try simp only [i_lt, i_le, i_eq, Int32.toInt_toInt64, Int32.reduceToInt, Int64.reduceToInt, true_and, and_true, false_and, and_false, false_or, or_false, true_or, or_true, not_true_eq_false, not_false_eq_true, ne_eq, forall_const, true_implies, false_implies, implies_true] at g_v1 g_v3 hn2 c16 tx18 ⊢) <;> omega) (by (try simp only [i_lt, i_le, i_eq, Int32.toInt_toInt64, Int32.reduceToInt, Int64.reduceToInt, true_and, and_true, false_and, and_false, false_or, or_false, true_or, or_true, not_true_eq_false, not_false_eq_true, ne_eq, forall_const, true_implies, false_implies, implies_true] at g_v1 g_v3 hn2 c16 tx18 ⊢) <;> omega) (lv_sub hl [1, 2, 3, 0] rfl)
  have hl := lv_entry ([.ref h0, .int p1, .int p2]) (n := 4) (Nat.le_of_ble_eq_true rfl)
  rw [lg_entry_eq]
  generalize (lg_sl ([.ref h0, .int p1, .int p2]) ++ List.replicate (4 - (lg_sl ([.ref h0, .int p1, .int p2])).length) Slot.unset).toArray = ls at hl ⊢
  have hl : lv_has ls 4 [(0, .ref h0), (1, .int p1), (2, .int p2)] := hl
  refine lv_iconst (v := 0) hx hb dX12_laysLoads_0 (by decide) ?_
  refine lv_istore_n (lv' := [(3, .int 0), (0, .ref h0), (1, .int p1), (2, .int p2)]) hx hb dX12_laysLoads_1 rfl hl (by decide) rfl (fun ls hl => ?_)
  exact B2 _ _ _ _ ls p1 p2 0 hu hp hP hD hS (Nat.le_refl _) (by (try simp only [i_lt, i_le, i_eq, Int32.toInt_toInt64, Int32.reduceToInt, Int64.reduceToInt, true_and, and_true, false_and, and_false, false_or, or_false, true_or, or_true, not_true_eq_false, not_false_eq_true, ne_eq, forall_const, true_implies, false_implies, implies_true] at g_p1 ⊢) <;> omega) (by (try simp only [i_lt, i_le, i_eq, Int32.toInt_toInt64, Int32.reduceToInt, Int64.reduceToInt, true_and, and_true, false_and, and_false, false_or, or_false, true_or, or_true, not_true_eq_false, not_false_eq_true, ne_eq, forall_const, true_implies, false_implies, implies_true] at g_p1 ⊢) <;> omega) (lv_sub hl [1, 2, 3, 0] rfl)
set_option maxHeartbeats 4000000 in
set_option maxRecDepth 100000 in
theorem t_X12_lives (l : Launch) (D : va_G) (k : Nat → ClassId) (u : PSt) (hu : WT u) (h0 : Nat) (m_h0 : h0 ∈ u.1) (k_h0 : u.2.1 h0 = 12) (p1 : Int32) (p2 : Int32) : Met l yX12_lives wsX12_lives ({ frames := 5, cells := 0, slots := 0, locals := 127 }) (PreR D k (PW k u) [.ref h0, .int p1, .int p2]) (vp_Si (fun r => True)) 0 0 (fun _ => False) := by
  refine Met.ofW (cc := cX12_lives) (maxL := 3) (ret := (some .int)) (by decide) rfl ?_
  intro p e s m args below meth c s₁ B hml hv
  obtain ⟨rfl, hP, hK⟩ := hv
  have hx := B.exec
  have hb := B.bytes
  have hr := B.returns
  have hts := atoms_spec (ws := wsX12_lives) B.pre
  have hown : s.vm.findClass RX12 = some m.cls := findClass_of_methodNamed B.named
  have hlocks := B.notSynchronized
  have hl := lv_entry ([.ref h0, .int p1, .int p2]) (n := 3) (Nat.le_of_ble_eq_true rfl)
  rw [lg_entry_eq]
  generalize (lg_sl ([.ref h0, .int p1, .int p2]) ++ List.replicate (3 - (lg_sl ([.ref h0, .int p1, .int p2])).length) Slot.unset).toArray = ls at hl ⊢
  have hl : lv_has ls 3 [(0, .ref h0), (1, .int p1), (2, .int p2)] := hl
  refine lv_aload_n hx hb dX12_lives_0 rfl (lv_at hl 0 rfl) ?_
  refine lv_iload_n hx hb dX12_lives_1 rfl (lv_at hl 1 rfl) ?_
  refine rvi (C := RX12) (As := [.int p1]) (rest := []) ⟨hx, hb, hml, hown, hts⟩ (t_X12_isPipe l D k u hu h0 m_h0 k_h0 p1) (cwV 1 hts gX12_lives_X12_isPipe rfl rfl rfl (by decide +kernel) ⟨Nat.le_of_ble_eq_true rfl, Nat.le_of_ble_eq_true rfl⟩) hP hK (precv hK hP m_h0 (cF12 k_h0) rfl) rfl hl.1 rfl (Nat.le_of_ble_eq_true rfl) dX12_lives_2 ⟨Nat.le_of_ble_eq_true rfl, Nat.le_of_ble_eq_true rfl⟩ (fun r1 hr1 => ?_)
  refine lv_if_eq (tgt := 25) hx hb dX12_lives_5 (by decide) (fun c2 => ?_) (fun c2 => ?_)
  · have eb3 : r1.toInt = 0 := by rcases hr1 with q | ⟨q, -⟩; exact q; (exact absurd (c2) (fun w => by rw [w] at q; exact absurd q (by decide)))
    clear hr1
    refine lv_bipush (v := (-2)) hx hb dX12_lives_25 (by decide) ?_
    exact W.iret (v := (-2)) hx hb hr (fun t ht hW => ⟨(-2), rfl, trivial, ht⟩) (fun q h => by cases h) dX12_lives_27
  · have eb4 : r1.toInt = 1 := by rcases hr1 with q | ⟨q, -⟩; exact absurd (i_eq.mpr q) c2; exact q
    have fb4 : 0 ≤ p1.toInt ∧ p1.toInt ≤ 11 := by rcases hr1 with q | ⟨q, r⟩; exact absurd q (by omega); exact r
    clear hr1
    refine lv_aload_n hx hb dX12_lives_8 rfl (lv_at hl 0 rfl) ?_
    refine lv_iload_n hx hb dX12_lives_9 rfl (lv_at hl 2 rfl) ?_
    refine rvi (C := RX12) (As := [.int p2]) (rest := []) ⟨hx, hb, hml, hown, hts⟩ (t_X12_isHour l D k u hu h0 m_h0 k_h0 p2) (cwV 1 hts gX12_lives_X12_isHour rfl rfl rfl (by decide +kernel) ⟨Nat.le_of_ble_eq_true rfl, Nat.le_of_ble_eq_true rfl⟩) hP hK (precv hK hP m_h0 (cF12 k_h0) rfl) rfl hl.1 rfl (Nat.le_of_ble_eq_true rfl) dX12_lives_10 ⟨Nat.le_of_ble_eq_true rfl, Nat.le_of_ble_eq_true rfl⟩ (fun r5 hr5 => ?_)
    refine lv_if_eq (tgt := 25) hx hb dX12_lives_13 (by decide) (fun c6 => ?_) (fun c6 => ?_)
    · have eb7 : r5.toInt = 0 := by rcases hr5 with q | ⟨q, -⟩; exact q; (exact absurd (c6) (fun w => by rw [w] at q; exact absurd q (by decide)))
      clear hr5
      refine lv_bipush (v := (-2)) hx hb dX12_lives_25 (by decide) ?_
      exact W.iret (v := (-2)) hx hb hr (fun t ht hW => ⟨(-2), rfl, trivial, ht⟩) (fun q h => by cases h) dX12_lives_27
    · have eb8 : r5.toInt = 1 := by rcases hr5 with q | ⟨q, -⟩; exact absurd (i_eq.mpr q) c6; exact q
      have fb8 : 0 ≤ p2.toInt ∧ p2.toInt ≤ 1999 := by rcases hr5 with q | ⟨q, r⟩; exact absurd q (by omega); exact r
      clear hr5
      refine lv_aload_n hx hb dX12_lives_16 rfl (lv_at hl 0 rfl) ?_
      refine lv_iload_n hx hb dX12_lives_17 rfl (lv_at hl 1 rfl) ?_
      refine lv_iload_n hx hb dX12_lives_18 rfl (lv_at hl 2 rfl) ?_
      refine rvi (C := RX12) (As := [.int p1, .int p2]) (rest := []) ⟨hx, hb, hml, hown, hts⟩ (t_X12_livesOf l D k u hu h0 m_h0 k_h0 p1 p2 (by (try simp only [i_lt, i_le, i_eq, Int32.toInt_toInt64, Int32.reduceToInt, Int64.reduceToInt, true_and, and_true, false_and, and_false, false_or, or_false, true_or, or_true, not_true_eq_false, not_false_eq_true, ne_eq, forall_const, true_implies, false_implies, implies_true] at eb4 fb4 eb8 fb8 ⊢) <;> omega) (by (try simp only [i_lt, i_le, i_eq, Int32.toInt_toInt64, Int32.reduceToInt, Int64.reduceToInt, true_and, and_true, false_and, and_false, false_or, or_false, true_or, or_true, not_true_eq_false, not_false_eq_true, ne_eq, forall_const, true_implies, false_implies, implies_true] at eb4 fb4 eb8 fb8 ⊢) <;> omega)) (cwV 2 hts gX12_lives_X12_livesOf rfl rfl rfl (by decide +kernel) ⟨Nat.le_of_ble_eq_true rfl, Nat.le_of_ble_eq_true rfl⟩) hP hK (precv hK hP m_h0 (cF12 k_h0) rfl) rfl hl.1 rfl (Nat.le_of_ble_eq_true rfl) dX12_lives_19 ⟨Nat.le_of_ble_eq_true rfl, Nat.le_of_ble_eq_true rfl⟩ (fun r9 hr9 => ?_)
      refine lv_goto (tgt := 27) hx hb dX12_lives_22 (by decide) ?_
      exact W.iret (v := r9) hx hb hr (fun t ht hW => ⟨r9, rfl, trivial, ht⟩) (fun q h => by cases h) dX12_lives_27
