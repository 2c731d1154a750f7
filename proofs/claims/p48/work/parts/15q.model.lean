set_option maxHeartbeats 4000000 in
set_option maxRecDepth 100000 in
theorem t_X12_risk (l : Launch) (D : va_G) (k : Nat → ClassId) (u : PSt) (hu : WT u) (h0 : Nat) (m_h0 : h0 ∈ u.1) (k_h0 : u.2.1 h0 = 12) (p1 : Int32) (p2 : Int32) (p3 : Int32) : Met l yX12_risk wsX12_risk ({ frames := 5, cells := 0, slots := 0, locals := 127 }) (PreR D k (PW k u) [.ref h0, .int p1, .int p2, .int p3]) (vp_Si (fun r => True)) 0 0 (fun _ => False) := by
  refine Met.ofW (cc := cX12_risk) (maxL := 6) (ret := (some .int)) (by decide) rfl ?_
  intro p e s m args below meth c s₁ B hml hv
  obtain ⟨rfl, hP, hK⟩ := hv
  have hx := B.exec
  have hb := B.bytes
  have hr := B.returns
  have hts := atoms_spec (ws := wsX12_risk) B.pre
  have hown : s.vm.findClass RX12 = some m.cls := findClass_of_methodNamed B.named
  have hlocks := B.notSynchronized
  have i_X12 : ∀ w ∈ wsX120, w ∈ wsX12_risk := by decide +kernel
  obtain ⟨a1, q0_1, m0_a1, k0_a1⟩ := (hu h0 m_h0).1 1 50 (by rw [k_h0]; rfl)
  have m_a1 := m0_a1
  have k_a1 := k0_a1
  have B37 : ∀ (n37 : Nat) (ls : Array Slot) (v1 : Int32) (v2 : Int32) (v3 : Int32) (v4 : Int32) (v5 : Int32), (2147483648 - v5.toInt).toNat ≤ n37 → 0 ≤ v1.toInt ∧ v1.toInt ≤ 11 → 0 ≤ v2.toInt ∧ v2.toInt ≤ 1999 → 1 ≤ v3.toInt ∧ v3.toInt ≤ 200 → 0 ≤ v5.toInt ∧ v5.toInt ≤ 2000 → lv_has ls 6 [(0, .ref h0), (1, .int v1), (2, .int v2), (3, .int v3), (4, .int v4), (5, .int v5)] → W p l e (headSpec wsX12_risk ({ frames := 5, cells := 0, slots := 0, locals := 127 })).room s m ([.ref h0, .int p1, .int p2, .int p3] : List Value).toArray below meth c s.heap [] 0 0 (MQ below (vp_Si (fun r => True)) ([.ref h0, .int p1, .int p2, .int p3] : List Value).toArray s 0 0 (fun _ => False)) (F0 m 37 ls []) := by
    intro n37
    induction n37 with
    | zero =>
      intro ls v1 v2 v3 v4 v5 hn37 g_v1 g_v2 g_v3 g_v5 hl
      exact absurd hn37 (by have := Int32.toInt_lt v5; have := Int32.le_toInt v5; omega)
    | succ n37 ih37 =>
      intro ls v1 v2 v3 v4 v5 hn37 g_v1 g_v2 g_v3 g_v5 hl
      refine lv_iload hx hb dX12_risk_37 (lv_at hl 5 rfl) ?_
      refine lv_aload_n hx hb dX12_risk_39 rfl (lv_at hl 0 rfl) ?_
      refine pget (ci := 12) (v := va_rf (u.2.2.2.2 h0 1)) (C := RX12) (T := TX12) (N := 34) hx hb hts i_X12 hown hK hP m_h0 (cF12 k_h0) rfl 1 (by decide) (hts (.fieldLink RX12 13 "BellowsRowModel" "world" "[I") (by decide +kernel)) (fun _ h9 => h9) rfl dX12_risk_40 ?_
      refine W.eq (g2 := F0 m 43 ls [.ref a1, .int v5]) (by rw [q0_1]; rfl) ?_
      refine lv_bipush (v := 6) hx hb dX12_risk_43 (by decide) ?_
      refine palI hx hb hK hP m_a1 (cF50 k_a1) 1 rfl (vp_in_iff.mpr (by decide)) dX12_risk_45 ?_
      refine lv_topi (fun x1 ex1 => ?_)
      have tx1 : x1.toInt = (u.2.2.1 a1 6).toInt := congrArg Int32.toInt ex1
      have g2 : 0 ≤ x1.toInt ∧ x1.toInt ≤ 2000 := by have g : okI (u.2.1 a1) (6) (u.2.2.1 a1 (6)) := (hu a1 m_a1).2.2.2 (6); rw [k_a1, ← (show x1 = u.2.2.1 a1 (6) from ex1)] at g; have g : okW (6) x1 := g; unfold okW at g; (try simp only [i_lt, i_le, i_eq, Int32.toInt_toInt64, Int32.reduceToInt, Int64.reduceToInt, true_and, and_true, false_and, and_false, false_or, or_false, true_or, or_true, not_true_eq_false, not_false_eq_true, ne_eq, forall_const, true_implies, false_implies, implies_true] at g_v1 g_v2 g_v3 g_v5 hn37 tx1 g ⊢) <;> omega
      refine lv_iload_n hx hb dX12_risk_46 rfl (lv_at hl 2 rfl) ?_
      refine lv_iload_n hx hb dX12_risk_47 rfl (lv_at hl 3 rfl) ?_
      refine lv_iadd hx hb dX12_risk_48 ?_
      refine lv_topi (fun x3 ex3 => ?_)
      have tx3 : x3.toInt = v2.toInt + v3.toInt := by rw [ex3]; exact i_add (by (try simp only [i_lt, i_le, i_eq, Int32.toInt_toInt64, Int32.reduceToInt, Int64.reduceToInt, true_and, and_true, false_and, and_false, false_or, or_false, true_or, or_true, not_true_eq_false, not_false_eq_true, ne_eq, forall_const, true_implies, false_implies, implies_true] at g_v1 g_v2 g_v3 g_v5 hn37 tx1 g2 ⊢) <;> omega) (by (try simp only [i_lt, i_le, i_eq, Int32.toInt_toInt64, Int32.reduceToInt, Int64.reduceToInt, true_and, and_true, false_and, and_false, false_or, or_false, true_or, or_true, not_true_eq_false, not_false_eq_true, ne_eq, forall_const, true_implies, false_implies, implies_true] at g_v1 g_v2 g_v3 g_v5 hn37 tx1 g2 ⊢) <;> omega)
      refine va_mmin hx hb (hml.trans hl.1.symm) hown (hts (.methodLink RX12 113 Lib.Math.min.name) (by decide +kernel)) (hts (.static Lib.Math.min.name) (by decide +kernel)) (hts (.initialized "java/lang/Math") (by decide +kernel)) (hts (.code Lib.Math.min.name Lib.Math.min.code 2 (some .int)) (by decide +kernel)) (Nat.le_of_ble_eq_true rfl) (Nat.le_of_ble_eq_true rfl) (Nat.le_of_ble_eq_true rfl) (Nat.le_of_ble_eq_true rfl) dX12_risk_49 ?_
      refine lv_topi (fun x4 ex4 => ?_)
      have tx4 : x4.toInt ≤ x1.toInt ∧ x4.toInt ≤ x3.toInt ∧ (x4.toInt = x1.toInt ∨ x4.toInt = x3.toInt) := by rw [ex4]; exact i_min
      refine lv_icmp_ge (tgt := 73) hx hb dX12_risk_52 (by decide) (fun c5 => ?_) (fun c5 => ?_)
      · refine lv_iload hx hb dX12_risk_73 (lv_at hl 4 rfl) ?_
        exact W.iret (v := v4) hx hb hr (fun t ht hW => ⟨v4, rfl, trivial, ht⟩) (fun q h => by cases h) dX12_risk_75
      · refine lv_iload hx hb dX12_risk_55 (lv_at hl 4 rfl) ?_
        refine lv_aload_n hx hb dX12_risk_57 rfl (lv_at hl 0 rfl) ?_
        refine lv_iload_n hx hb dX12_risk_58 rfl (lv_at hl 1 rfl) ?_
        refine lv_iload hx hb dX12_risk_59 (lv_at hl 5 rfl) ?_
        refine rvi (C := RX12) (As := [.int v1, .int v5]) (rest := [.int v4]) ⟨hx, hb, hml, hown, hts⟩ (t_X12_livesOf l D k u hu h0 m_h0 k_h0 v1 v5 (by (try simp only [i_lt, i_le, i_eq, Int32.toInt_toInt64, Int32.reduceToInt, Int64.reduceToInt, true_and, and_true, false_and, and_false, false_or, or_false, true_or, or_true, not_true_eq_false, not_false_eq_true, ne_eq, forall_const, true_implies, false_implies, implies_true] at g_v1 g_v2 g_v3 g_v5 hn37 tx1 g2 tx3 tx4 c5 ⊢) <;> omega) (by (try simp only [i_lt, i_le, i_eq, Int32.toInt_toInt64, Int32.reduceToInt, Int64.reduceToInt, true_and, and_true, false_and, and_false, false_or, or_false, true_or, or_true, not_true_eq_false, not_false_eq_true, ne_eq, forall_const, true_implies, false_implies, implies_true] at g_v1 g_v2 g_v3 g_v5 hn37 tx1 g2 tx3 tx4 c5 ⊢) <;> omega)) (cwV 2 hts gX12_risk_X12_livesOf rfl rfl rfl (by decide +kernel) ⟨Nat.le_of_ble_eq_true rfl, Nat.le_of_ble_eq_true rfl⟩) hP hK (precv hK hP m_h0 (cF12 k_h0) rfl) rfl hl.1 rfl (Nat.le_of_ble_eq_true rfl) dX12_risk_61 ⟨Nat.le_of_ble_eq_true rfl, Nat.le_of_ble_eq_true rfl⟩ (fun r6 hr6 => ?_)
        refine lv_iadd hx hb dX12_risk_64 ?_
        refine lv_topi (fun x7 ex7 => ?_)
        refine lv_istore (lv' := [(4, .int x7), (0, .ref h0), (1, .int v1), (2, .int v2), (3, .int v3), (5, .int v5)]) hx hb dX12_risk_65 hl (by decide) rfl (fun ls hl => ?_)
        obtain ⟨x8, ex8⟩ : ∃ y : Int32, y = v5 + 1 := ⟨_, rfl⟩
        have tx8 : x8.toInt = v5.toInt + 1 := by rw [ex8]; exact i_add (b := 1) (by (try simp only [i_lt, i_le, i_eq, Int32.toInt_toInt64, Int32.reduceToInt, Int64.reduceToInt, true_and, and_true, false_and, and_false, false_or, or_false, true_or, or_true, not_true_eq_false, not_false_eq_true, ne_eq, forall_const, true_implies, false_implies, implies_true] at g_v1 g_v2 g_v3 g_v5 hn37 tx1 g2 tx3 tx4 c5 ⊢) <;> omega) (by (try simp only [i_lt, i_le, i_eq, Int32.toInt_toInt64, Int32.reduceToInt, Int64.reduceToInt, true_and, and_true, false_and, and_false, false_or, or_false, true_or, or_true, not_true_eq_false, not_false_eq_true, ne_eq, forall_const, true_implies, false_implies, implies_true] at g_v1 g_v2 g_v3 g_v5 hn37 tx1 g2 tx3 tx4 c5 ⊢) <;> omega)
        refine lv_iinc (v := x8) (lv' := [(5, .int x8), (4, .int x7), (0, .ref h0), (1, .int v1), (2, .int v2), (3, .int v3)]) hx hb dX12_risk_67 hl (k := 5) rfl (by rw [ex8]; rfl) (by decide) rfl (fun ls hl => ?_)
        refine lv_goto (tgt := 37) hx hb dX12_risk_70 (by decide) ?_
        exact ih37 ls v1 v2 v3 x7 x8 (by (try simp only [i_lt, i_le, i_eq, Int32.toInt_toInt64, Int32.reduceToInt, Int64.reduceToInt, true_and, and_true, false_and, and_false, false_or, or_false, true_or, or_true, not_true_eq_false, not_false_eq_true, ne_eq, forall_const, true_implies, false_implies, implies_true] at g_v1 g_v2 g_v3 g_v5 hn37 tx1 g2 tx3 tx4 c5 tx8 ⊢) <;> omega) (by (try simp only [i_lt, i_le, i_eq, Int32.toInt_toInt64, Int32.reduceToInt, Int64.reduceToInt, true_and, and_true, false_and, and_false, false_or, or_false, true_or, or_true, not_true_eq_false, not_false_eq_true, ne_eq, forall_const, true_implies, false_implies, implies_true] at g_v1 g_v2 g_v3 g_v5 hn37 tx1 g2 tx3 tx4 c5 tx8 ⊢) <;> omega) (by (try simp only [i_lt, i_le, i_eq, Int32.toInt_toInt64, Int32.reduceToInt, Int64.reduceToInt, true_and, and_true, false_and, and_false, false_or, or_false, true_or, or_true, not_true_eq_false, not_false_eq_true, ne_eq, forall_const, true_implies, false_implies, implies_true] at g_v1 g_v2 g_v3 g_v5 hn37 tx1 g2 tx3 tx4 c5 tx8 ⊢) <;> omega) (by (try simp only [i_lt, i_le, i_eq, Int32.toInt_toInt64, Int32.reduceToInt, Int64.reduceToInt, true_and, and_true, false_and, and_false, false_or, or_false, true_or, or_true, not_true_eq_false, not_false_eq_true, ne_eq, forall_const, true_implies, false_implies, implies_true] at g_v1 g_v2 g_v3 g_v5 hn37 tx1 g2 tx3 tx4 c5 tx8 ⊢) <;> omega) (by (try simp only [i_lt, i_le, i_eq, Int32.toInt_toInt64, Int32.reduceToInt, Int64.reduceToInt, true_and, and_true, false_and, and_false, false_or, or_false, true_or, or_true, not_true_eq_false, not_false_eq_true, ne_eq, forall_const, true_implies, false_implies, implies_true] at g_v1 g_v2 g_v3 g_v5 hn37 tx1 g2 tx3 tx4 c5 tx8 ⊢) <;> omega) (lv_sub hl [2, 3, 4, 5, 1, 0] rfl)
  have hl := lv_entry ([.ref h0, .int p1, .int p2, .int p3]) (n := 6) (Nat.le_of_ble_eq_true rfl)
  rw [lg_entry_eq]
  generalize (lg_sl ([.ref h0, .int p1, .int p2, .int p3]) ++ List.replicate (6 - (lg_sl ([.ref h0, .int p1, .int p2, .int p3])).length) Slot.unset).toArray = ls at hl ⊢
  have hl : lv_has ls 6 [(0, .ref h0), (1, .int p1), (2, .int p2), (3, .int p3)] := hl
  refine lv_aload_n hx hb dX12_risk_0 rfl (lv_at hl 0 rfl) ?_
  refine lv_iload_n hx hb dX12_risk_1 rfl (lv_at hl 1 rfl) ?_
  refine rvi (C := RX12) (As := [.int p1]) (rest := []) ⟨hx, hb, hml, hown, hts⟩ (t_X12_isPipe l D k u hu h0 m_h0 k_h0 p1) (cwV 1 hts gX12_risk_X12_isPipe rfl rfl rfl (by decide +kernel) ⟨Nat.le_of_ble_eq_true rfl, Nat.le_of_ble_eq_true rfl⟩) hP hK (precv hK hP m_h0 (cF12 k_h0) rfl) rfl hl.1 rfl (Nat.le_of_ble_eq_true rfl) dX12_risk_2 ⟨Nat.le_of_ble_eq_true rfl, Nat.le_of_ble_eq_true rfl⟩ (fun r9 hr9 => ?_)
  refine lv_if_eq (tgt := 28) hx hb dX12_risk_5 (by decide) (fun c10 => ?_) (fun c10 => ?_)
  · have eb11 : r9.toInt = 0 := by rcases hr9 with q | ⟨q, -⟩; exact q; (exact absurd (c10) (fun w => by rw [w] at q; exact absurd q (by decide)))
    clear hr9
    refine lv_bipush (v := (-2)) hx hb dX12_risk_28 (by decide) ?_
    exact W.iret (v := (-2)) hx hb hr (fun t ht hW => ⟨(-2), rfl, trivial, ht⟩) (fun q h => by cases h) dX12_risk_30
  · have eb12 : r9.toInt = 1 := by rcases hr9 with q | ⟨q, -⟩; exact absurd (i_eq.mpr q) c10; exact q
    have fb12 : 0 ≤ p1.toInt ∧ p1.toInt ≤ 11 := by rcases hr9 with q | ⟨q, r⟩; exact absurd q (by omega); exact r
    clear hr9
    refine lv_aload_n hx hb dX12_risk_8 rfl (lv_at hl 0 rfl) ?_
    refine lv_iload_n hx hb dX12_risk_9 rfl (lv_at hl 2 rfl) ?_
    refine rvi (C := RX12) (As := [.int p2]) (rest := []) ⟨hx, hb, hml, hown, hts⟩ (t_X12_isHour l D k u hu h0 m_h0 k_h0 p2) (cwV 1 hts gX12_risk_X12_isHour rfl rfl rfl (by decide +kernel) ⟨Nat.le_of_ble_eq_true rfl, Nat.le_of_ble_eq_true rfl⟩) hP hK (precv hK hP m_h0 (cF12 k_h0) rfl) rfl hl.1 rfl (Nat.le_of_ble_eq_true rfl) dX12_risk_10 ⟨Nat.le_of_ble_eq_true rfl, Nat.le_of_ble_eq_true rfl⟩ (fun r13 hr13 => ?_)
    refine lv_if_eq (tgt := 28) hx hb dX12_risk_13 (by decide) (fun c14 => ?_) (fun c14 => ?_)
    · have eb15 : r13.toInt = 0 := by rcases hr13 with q | ⟨q, -⟩; exact q; (exact absurd (c14) (fun w => by rw [w] at q; exact absurd q (by decide)))
      clear hr13
      refine lv_bipush (v := (-2)) hx hb dX12_risk_28 (by decide) ?_
      exact W.iret (v := (-2)) hx hb hr (fun t ht hW => ⟨(-2), rfl, trivial, ht⟩) (fun q h => by cases h) dX12_risk_30
    · have eb16 : r13.toInt = 1 := by rcases hr13 with q | ⟨q, -⟩; exact absurd (i_eq.mpr q) c14; exact q
      have fb16 : 0 ≤ p2.toInt ∧ p2.toInt ≤ 1999 := by rcases hr13 with q | ⟨q, r⟩; exact absurd q (by omega); exact r
      clear hr13
      refine lv_iload_n hx hb dX12_risk_16 rfl (lv_at hl 3 rfl) ?_
      refine lv_i2l hx hb dX12_risk_17 rfl ?_
      have b17 := Int32.toInt_lt p3
      have ab17 := Int32.le_toInt p3
      refine lv_topl (fun x18 ex18 => ?_)
      have tx18 : x18.toInt = p3.toInt := by rw [ex18]; exact Int32.toInt_toInt64 _
      refine lv_lconst (v := 1) hx hb dX12_risk_18 (by decide) ?_
      refine lv_ldc2 (own := RX12) (v := 200) hx hb hown (hts (.constantLong RX12 447 (200)) (by decide +kernel)) dX12_risk_19 ?_
      refine psi (As := [.long x18, .long 1, .long 200]) (rest := []) ⟨hx, hb, hml, hown, hts⟩ (t_X12_in l D k x18 1 200) (va_cwS 3 hts gX12_risk_X12_in rfl rfl rfl (by decide +kernel) ⟨Nat.le_of_ble_eq_true rfl, Nat.le_of_ble_eq_true rfl⟩) hK rfl hl.1 rfl (Nat.le_of_ble_eq_true rfl) dX12_risk_22 ⟨Nat.le_of_ble_eq_true rfl, Nat.le_of_ble_eq_true rfl⟩ (fun r19 hr19 => ?_)
      refine lv_if_ne (tgt := 31) hx hb dX12_risk_25 (by decide) (fun c20 => ?_) (fun c20 => ?_)
      · have eb21 : r19.toInt = 1 := by rcases hr19 with ⟨q, -⟩ | ⟨q, -⟩; exact absurd (i_eq.mpr q) c20; exact q
        have fb21 : (1 : Int64).toInt ≤ x18.toInt ∧ x18.toInt ≤ (200 : Int64).toInt := by rcases hr19 with ⟨q, r⟩ | ⟨q, r⟩; exact absurd q (by omega); exact r
        clear hr19
        refine lv_iconst (v := 0) hx hb dX12_risk_31 (by decide) ?_
        refine lv_istore (lv' := [(4, .int 0), (0, .ref h0), (1, .int p1), (2, .int p2), (3, .int p3)]) hx hb dX12_risk_32 hl (by decide) rfl (fun ls hl => ?_)
        refine lv_iload_n hx hb dX12_risk_34 rfl (lv_at hl 3 rfl) ?_
        refine lv_istore (lv' := [(5, .int p2), (4, .int 0), (0, .ref h0), (1, .int p1), (2, .int p2), (3, .int p3)]) hx hb dX12_risk_35 hl (by decide) rfl (fun ls hl => ?_)
        exact B37 _ ls p1 p2 p3 0 p2 (Nat.le_refl _) (by (try simp only [i_lt, i_le, i_eq, Int32.toInt_toInt64, Int32.reduceToInt, Int64.reduceToInt, true_and, and_true, false_and, and_false, false_or, or_false, true_or, or_true, not_true_eq_false, not_false_eq_true, ne_eq, forall_const, true_implies, false_implies, implies_true] at eb12 fb12 eb16 fb16 b17 ab17 tx18 eb21 fb21 ⊢) <;> omega) (by (try simp only [i_lt, i_le, i_eq, Int32.toInt_toInt64, Int32.reduceToInt, Int64.reduceToInt, true_and, and_true, false_and, and_false, false_or, or_false, true_or, or_true, not_true_eq_false, not_false_eq_true, ne_eq, forall_const, true_implies, false_implies, implies_true] at eb12 fb12 eb16 fb16 b17 ab17 tx18 eb21 fb21 ⊢) <;> omega) (by (try simp only [i_lt, i_le, i_eq, Int32.toInt_toInt64, Int32.reduceToInt, Int64.reduceToInt, true_and, and_true, false_and, and_false, false_or, or_false, true_or, or_true, not_true_eq_false, not_false_eq_true, ne_eq, forall_const, true_implies, false_implies, implies_true] at eb12 fb12 eb16 fb16 b17 ab17 tx18 eb21 fb21 ⊢) <;> omega) (by (try simp only [i_lt, i_le, i_eq, Int32.toInt_toInt64, Int32.reduceToInt, Int64.reduceToInt, true_and, and_true, false_and, and_false, false_or, or_false, true_or, or_true, not_true_eq_false, not_false_eq_true, ne_eq, forall_const, true_implies, false_implies, implies_true] at eb12 fb12 eb16 fb16 b17 ab17 tx18 eb21 fb21 ⊢) <;> omega) (lv_sub hl [2, 3, 4, 5, 1, 0] rfl)
      · have eb22 : r19.toInt = 0 := by rcases hr19 with ⟨q, -⟩ | ⟨q, -⟩; exact q; (exact absurd (c20) (fun w => by rw [w] at q; exact absurd q (by decide)))
        have fb22 : (x18.toInt < (1 : Int64).toInt ∨ (200 : Int64).toInt < x18.toInt) := by rcases hr19 with ⟨q, r⟩ | ⟨q, r⟩; exact r; exact absurd q (by omega)
        clear hr19
        refine lv_bipush (v := (-2)) hx hb dX12_risk_28 (by decide) ?_
        exact W.iret (v := (-2)) hx hb hr (fun t ht hW => ⟨(-2), rfl, trivial, ht⟩) (fun q h => by cases h) dX12_risk_30
set_option maxHeartbeats 4000000 in
set_option maxRecDepth 100000 in
theorem t_X12_safest (l : Launch) (D : va_G) (k : Nat → ClassId) (u0 : PSt) (hu : WT u0) (h0 : Nat) (m_h0 : h0 ∈ u0.1) (k_h0 : u0.2.1 h0 = 12) (p1 : Int32) (p2 : Int32) (p3 : Int32) (sz : Nat) : Met l yX12_safest wsX12_safest ({ frames := 5, cells := 0, slots := 0, locals := 127 }) (PreM D k sz (PW k u0) [.ref h0, .int p1, .int p2, .int p3]) (va_Qi (fun r v => WT v ∧ PX u0 v ∧ (True)) (WB D (va_A (PW k u0) sz) (PW k)) (va_A (PW k u0) sz)) 0 0 (va_A (PW k u0) sz) := by
  refine Met.ofW (cc := cX12_safest) (maxL := 7) (ret := (some .int)) (by decide) rfl ?_
  intro p e s m args below meth c s₁ B hml hv
  obtain ⟨rfl, hsz, hP, hK, hD0, hN⟩ := hv
  have hx := B.exec
  have hb := B.bytes
  have hr := B.returns
  have hts := atoms_spec (ws := wsX12_safest) B.pre
  have hown : s.vm.findClass RX12 = some m.cls := findClass_of_methodNamed B.named
  have hlocks := B.notSynchronized
  have i_X12 : ∀ w ∈ wsX120, w ∈ wsX12_safest := by decide +kernel
  obtain ⟨a1, q0_1, m0_a1, k0_a1⟩ := (hu h0 m_h0).1 1 50 (by rw [k_h0]; rfl)
  have m0_h0 := m_h0
  have k0_h0 := k_h0
  have m_a1 := m0_a1
  have k_a1 := k0_a1
  subst hsz
  have hD := hD0.self (sz := s.heap.size)
  generalize hAe : va_A (PW k u0) s.heap.size = A at hD ⊢
  have hA : ∀ q : Nat, s.heap.size ≤ q → A q := fun q h => by rw [← hAe]; exact Or.inr h
  have hS : va_S A s.heap s.heap [] := va_S.rf
  have hp : PX u0 u0 := PX.rf
  have B53 : ∀ (n53 : Nat) (u : PSt) (H : Heap) (locs : List Loc) (ls : Array Slot) (v1 : Int32) (v2 : Int32) (v4 : Int32) (v5 : Int32), WT u → PX u0 u → va_P D vwCl (PW k u) H → va_D A (PW k u) → va_S A s.heap H locs → (2000 - (u.2.2.1 h0 28).toInt).toNat + 1 ≤ n53 → 0 ≤ v1.toInt ∧ v1.toInt ≤ 11 → 0 ≤ v2.toInt ∧ v2.toInt ≤ 1999 → (0 ≤ (u.2.2.1 h0 28).toInt ∧ (u.2.2.1 h0 28).toInt ≤ 1000) → lv_has ls 7 [(0, .ref h0), (1, .int v1), (2, .int v2), (4, .int v4), (5, .int v5)] → W p l e (headSpec wsX12_safest ({ frames := 5, cells := 0, slots := 0, locals := 127 })).room s m ([.ref h0, .int p1, .int p2, .int p3] : List Value).toArray below meth c H locs 0 0 (MQ below (va_Qi (fun r v => WT v ∧ PX u0 v ∧ (True)) (WB D A (PW k)) A) ([.ref h0, .int p1, .int p2, .int p3] : List Value).toArray s 0 0 A) (F0 m 53 ls []) := by
    intro n53
    induction n53 with
    | zero =>
      intro u H locs ls v1 v2 v4 v5 hu hp hP hD hS hn53 g_v1 g_v2 ex0 hl
      exact absurd hn53 (by omega)
    | succ n53 ih53 =>
      intro u H locs ls v1 v2 v4 v5 hu hp hP hD hS hn53 g_v1 g_v2 ex0 hl
      have B68 : ∀ (n68 : Nat) (u : PSt) (H : Heap) (locs : List Loc) (ls : Array Slot) (v1 : Int32) (v2 : Int32) (v4 : Int32) (v5 : Int32), WT u → PX u0 u → va_P D vwCl (PW k u) H → va_D A (PW k u) → va_S A s.heap H locs → (2000 - (u.2.2.1 h0 29).toInt).toNat + 1 ≤ n68 → 0 ≤ v1.toInt ∧ v1.toInt ≤ 11 → 0 ≤ v2.toInt ∧ v2.toInt ≤ 1999 → (2000 - (u.2.2.1 h0 28).toInt).toNat + 1 ≤ n53 + 1 → (0 ≤ (u.2.2.1 h0 28).toInt ∧ (u.2.2.1 h0 28).toInt ≤ 900) → (0 ≤ (u.2.2.1 h0 29).toInt ∧ (u.2.2.1 h0 29).toInt ≤ 600) → lv_has ls 7 [(0, .ref h0), (1, .int v1), (2, .int v2), (4, .int v4), (5, .int v5)] → W p l e (headSpec wsX12_safest ({ frames := 5, cells := 0, slots := 0, locals := 127 })).room s m ([.ref h0, .int p1, .int p2, .int p3] : List Value).toArray below meth c H locs 0 0 (MQ below (va_Qi (fun r v => WT v ∧ PX u0 v ∧ (True)) (WB D A (PW k)) A) ([.ref h0, .int p1, .int p2, .int p3] : List Value).toArray s 0 0 A) (F0 m 68 ls []) := by
        intro n68
        induction n68 with
        | zero =>
          intro u H locs ls v1 v2 v4 v5 hu hp hP hD hS hn68 g_v1 g_v2 hn53 ex0 ex1 hl
          exact absurd hn68 (by omega)
        | succ n68 ih68 =>
          intro u H locs ls v1 v2 v4 v5 hu hp hP hD hS hn68 g_v1 g_v2 hn53 ex0 ex1 hl
          refine lv_aload_n hx hb dX12_safest_68 rfl (lv_at hl 0 rfl) ?_
          have k_h0 : u.2.1 h0 = 12 := (hp h0 m0_h0).2.1.trans k0_h0
          have m_h0 : h0 ∈ u.1 := (hp h0 m0_h0).1
          refine pget (ci := 12) (v := .int (u.2.2.1 h0 29)) (C := RX12) (T := TX12) (N := 34) hx hb hts i_X12 hown hK hP m_h0 (cF12 k_h0) rfl 29 (by decide) (hts (.fieldLink RX12 427 "BellowsRowModel" "movedY" "I") (by decide +kernel)) (fun _ h9 => h9) rfl dX12_safest_69 ?_
          refine lv_sipush (v := 500) hx hb dX12_safest_72 (by decide) ?_
          refine lv_icmp_gt (tgt := 135) hx hb dX12_safest_75 (by decide) (fun c1 => ?_) (fun c1 => ?_)
          · refine lv_aload_n hx hb dX12_safest_135 rfl (lv_at hl 0 rfl) ?_
            refine lv_dup hx hb dX12_safest_136 rfl ?_
            refine pget (ci := 12) (v := .int (u.2.2.1 h0 28)) (C := RX12) (T := TX12) (N := 34) hx hb hts i_X12 hown hK hP m_h0 (cF12 k_h0) rfl 28 (by decide) (hts (.fieldLink RX12 421 "BellowsRowModel" "movedX" "I") (by decide +kernel)) (fun _ h9 => h9) rfl dX12_safest_137 ?_
            refine lv_bipush (v := 100) hx hb dX12_safest_140 (by decide) ?_
            refine lv_iadd hx hb dX12_safest_142 ?_
            refine lv_topi (fun x2 ex2 => ?_)
            have tx2 : x2.toInt = (u.2.2.1 h0 28).toInt + (100 : Int32).toInt := by rw [ex2]; exact i_add (by (try simp only [i_lt, i_le, i_eq, Int32.toInt_toInt64, Int32.reduceToInt, Int64.reduceToInt, true_and, and_true, false_and, and_false, false_or, or_false, true_or, or_true, not_true_eq_false, not_false_eq_true, ne_eq, forall_const, true_implies, false_implies, implies_true] at g_v1 g_v2 hn53 ex0 ex1 hn68 c1 ⊢) <;> omega) (by (try simp only [i_lt, i_le, i_eq, Int32.toInt_toInt64, Int32.reduceToInt, Int64.reduceToInt, true_and, and_true, false_and, and_false, false_or, or_false, true_or, or_true, not_true_eq_false, not_false_eq_true, ne_eq, forall_const, true_implies, false_implies, implies_true] at g_v1 g_v2 hn53 ex0 ex1 hn68 c1 ⊢) <;> omega)
            refine pput (u' := pSI u h0 28 x2) (ci := 12) (v := .int x2) (ty := .int) (C := RX12) (T := TX12) (N := 34) hx hb hts i_X12 tyX12 tyX12_ok nmX12 hown hK hP hD hS m_h0 (cF12 k_h0) rfl 28 (by decide) (hts (.fieldLink RX12 421 "BellowsRowModel" "movedX" "I") (by decide +kernel)) (fun _ h9 => h9) rfl (by decide +kernel) rfl rfl (Nat.le_of_ble_eq_true rfl) rfl (sF12_28 k_h0 x2) dX12_safest_143 (fun H locs hP hD hS => ?_)
            have hu := WT.setI (a := h0) (s := 28) (v := x2) hu (by rw [k_h0]; exact trivial)
            have hp := PX.setI (a := h0) (s := 28) (v := x2) hp (by rw [k_h0]; decide)
            obtain ⟨u3, hu3⟩ : ∃ z, z = pSI u h0 28 x2 := ⟨_, rfl⟩
            rw [← hu3] at hP hD hu hp
            have w4 : (u3.2.2.1 h0 29).toInt = (u.2.2.1 h0 29).toInt := by rw [hu3]; exact congrArg Int32.toInt (if_neg (fun q => absurd q.2 (by decide)))
            have w5 : (u3.2.2.1 h0 28).toInt = x2.toInt := by rw [hu3]; exact congrArg Int32.toInt (if_pos ⟨rfl, rfl⟩)
            refine lv_goto (tgt := 53) hx hb dX12_safest_146 (by decide) ?_
            exact ih53 _ _ _ ls v1 v2 v4 v5 hu hp hP hD hS (by (try simp only [i_lt, i_le, i_eq, Int32.toInt_toInt64, Int32.reduceToInt, Int64.reduceToInt, true_and, and_true, false_and, and_false, false_or, or_false, true_or, or_true, not_true_eq_false, not_false_eq_true, ne_eq, forall_const, true_implies, false_implies, implies_true] at g_v1 g_v2 hn53 ex0 ex1 hn68 c1 tx2 w4 w5 ⊢) <;> omega) (by (try simp only [i_lt, i_le, i_eq, Int32.toInt_toInt64, Int32.reduceToInt, Int64.reduceToInt, true_and, and_true, false_and, and_false, false_or, or_false, true_or, or_true, not_true_eq_false, not_false_eq_true, ne_eq, forall_const, true_implies, false_implies, implies_true] at g_v1 g_v2 hn53 ex0 ex1 hn68 c1 tx2 w4 w5 ⊢) <;> omega) (by (try simp only [i_lt, i_le, i_eq, Int32.toInt_toInt64, Int32.reduceToInt, Int64.reduceToInt, true_and, and_true, false_and, and_false, false_or, or_false, true_or, or_true, not_true_eq_false, not_false_eq_true, ne_eq, forall_const, true_implies, false_implies, implies_true] at g_v1 g_v2 hn53 ex0 ex1 hn68 c1 tx2 w4 w5 ⊢) <;> omega) (by (try simp only [i_lt, i_le, i_eq, Int32.toInt_toInt64, Int32.reduceToInt, Int64.reduceToInt, true_and, and_true, false_and, and_false, false_or, or_false, true_or, or_true, not_true_eq_false, not_false_eq_true, ne_eq, forall_const, true_implies, false_implies, implies_true] at g_v1 g_v2 hn53 ex0 ex1 hn68 c1 tx2 w4 w5 ⊢) <;> omega) (lv_sub hl [0, 1, 2, 3, 4] rfl)
          · refine lv_aload_n hx hb dX12_safest_78 rfl (lv_at hl 0 rfl) ?_
            refine lv_iload_n hx hb dX12_safest_79 rfl (lv_at hl 1 rfl) ?_
            refine lv_iload_n hx hb dX12_safest_80 rfl (lv_at hl 2 rfl) ?_
            refine rvi (C := RX12) (As := [.int v1, .int v2]) (rest := []) ⟨hx, hb, hml, hown, hts⟩ (t_X12_livesOf l D k u hu h0 m_h0 k_h0 v1 v2 (by (try simp only [i_lt, i_le, i_eq, Int32.toInt_toInt64, Int32.reduceToInt, Int64.reduceToInt, true_and, and_true, false_and, and_false, false_or, or_false, true_or, or_true, not_true_eq_false, not_false_eq_true, ne_eq, forall_const, true_implies, false_implies, implies_true] at g_v1 g_v2 hn53 ex0 ex1 hn68 c1 ⊢) <;> omega) (by (try simp only [i_lt, i_le, i_eq, Int32.toInt_toInt64, Int32.reduceToInt, Int64.reduceToInt, true_and, and_true, false_and, and_false, false_or, or_false, true_or, or_true, not_true_eq_false, not_false_eq_true, ne_eq, forall_const, true_implies, false_implies, implies_true] at g_v1 g_v2 hn53 ex0 ex1 hn68 c1 ⊢) <;> omega)) (cwV 2 hts gX12_safest_X12_livesOf rfl rfl rfl (by decide +kernel) ⟨Nat.le_of_ble_eq_true rfl, Nat.le_of_ble_eq_true rfl⟩) hP hK (precv hK hP m_h0 (cF12 k_h0) rfl) rfl hl.1 rfl (Nat.le_of_ble_eq_true rfl) dX12_safest_81 ⟨Nat.le_of_ble_eq_true rfl, Nat.le_of_ble_eq_true rfl⟩ (fun r6 hr6 => ?_)
            refine lv_istore (lv' := [(6, .int r6), (0, .ref h0), (1, .int v1), (2, .int v2), (4, .int v4), (5, .int v5)]) hx hb dX12_safest_84 hl (by decide) rfl (fun ls hl => ?_)
            refine lv_iload hx hb dX12_safest_86 (lv_at hl 4 rfl) ?_
            refine lv_iconst (v := (-1)) hx hb dX12_safest_88 (by decide) ?_
            refine lv_icmp_eq (tgt := 102) hx hb dX12_safest_89 (by decide) (fun c7 => ?_) (fun c7 => ?_)
            · refine lv_sipush (v := 1000) hx hb dX12_safest_102 (by decide) ?_
              refine lv_aload_n hx hb dX12_safest_105 rfl (lv_at hl 1 rfl) ?_
              refine pget (ci := 12) (v := .int (u.2.2.1 h0 28)) (C := RX12) (T := TX12) (N := 34) hx hb hts i_X12 hown hK hP m_h0 (cF12 k_h0) rfl 28 (by decide) (hts (.fieldLink RX12 421 "BellowsRowModel" "movedX" "I") (by decide +kernel)) (fun _ h9 => h9) rfl dX12_safest_106 ?_
              refine lv_imul hx hb dX12_safest_109 ?_
              refine lv_topi (fun x8 ex8 => ?_)
              refine lv_aload_n hx hb dX12_safest_110 rfl (lv_at hl 1 rfl) ?_
              refine pget (ci := 12) (v := .int (u.2.2.1 h0 29)) (C := RX12) (T := TX12) (N := 34) hx hb hts i_X12 hown hK hP m_h0 (cF12 k_h0) rfl 29 (by decide) (hts (.fieldLink RX12 427 "BellowsRowModel" "movedY" "I") (by decide +kernel)) (fun _ h9 => h9) rfl dX12_safest_111 ?_
              refine lv_iadd hx hb dX12_safest_114 ?_
              refine lv_topi (fun x9 ex9 => ?_)
              refine lv_istore (lv' := [(4, .int x9), (6, .int r6), (0, .ref h0), (1, .int v1), (2, .int v2), (5, .int v5)]) hx hb dX12_safest_115 hl (by decide) rfl (fun ls hl => ?_)
              refine lv_iload hx hb dX12_safest_117 (lv_at hl 1 rfl) ?_
              refine lv_istore (lv' := [(5, .int r6), (4, .int x9), (6, .int r6), (0, .ref h0), (1, .int v1), (2, .int v2)]) hx hb dX12_safest_119 hl (by decide) rfl (fun ls hl => ?_)
              refine lv_aload_n hx hb dX12_safest_121 rfl (lv_at hl 3 rfl) ?_
              refine lv_dup hx hb dX12_safest_122 rfl ?_
              refine pget (ci := 12) (v := .int (u.2.2.1 h0 29)) (C := RX12) (T := TX12) (N := 34) hx hb hts i_X12 hown hK hP m_h0 (cF12 k_h0) rfl 29 (by decide) (hts (.fieldLink RX12 427 "BellowsRowModel" "movedY" "I") (by decide +kernel)) (fun _ h9 => h9) rfl dX12_safest_123 ?_
              refine lv_bipush (v := 100) hx hb dX12_safest_126 (by decide) ?_
              refine lv_iadd hx hb dX12_safest_128 ?_
              refine lv_topi (fun x10 ex10 => ?_)
              have tx10 : x10.toInt = (u.2.2.1 h0 29).toInt + (100 : Int32).toInt := by rw [ex10]; exact i_add (by (try simp only [i_lt, i_le, i_eq, Int32.toInt_toInt64, Int32.reduceToInt, Int64.reduceToInt, true_and, and_true, false_and, and_false, false_or, or_false, true_or, or_true, not_true_eq_false, not_false_eq_true, ne_eq, forall_const, true_implies, false_implies, implies_true] at g_v1 g_v2 hn53 ex0 ex1 hn68 c1 c7 ⊢) <;> omega) (by (try simp only [i_lt, i_le, i_eq, Int32.toInt_toInt64, Int32.reduceToInt, Int64.reduceToInt, true_and, and_true, false_and, and_false, false_or, or_false, true_or, or_true, not_true_eq_false, not_false_eq_true, ne_eq, forall_const, true_implies, false_implies, implies_true] at g_v1 g_v2 hn53 ex0 ex1 hn68 c1 c7 ⊢) <;> omega)
              refine pput (u' := pSI u h0 29 x10) (ci := 12) (v := .int x10) (ty := .int) (C := RX12) (T := TX12) (N := 34) hx hb hts i_X12 tyX12 tyX12_ok nmX12 hown hK hP hD hS m_h0 (cF12 k_h0) rfl 29 (by decide) (hts (.fieldLink RX12 427 "BellowsRowModel" "movedY" "I") (by decide +kernel)) (fun _ h9 => h9) rfl (by decide +kernel) rfl rfl (Nat.le_of_ble_eq_true rfl) rfl (sF12_29 k_h0 x10) dX12_safest_129 (fun H locs hP hD hS => ?_)
              have hu := WT.setI (a := h0) (s := 29) (v := x10) hu (by rw [k_h0]; exact trivial)
              have hp := PX.setI (a := h0) (s := 29) (v := x10) hp (by rw [k_h0]; decide)
              obtain ⟨u11, hu11⟩ : ∃ z, z = pSI u h0 29 x10 := ⟨_, rfl⟩
              rw [← hu11] at hP hD hu hp
              have w12 : (u11.2.2.1 h0 28).toInt = (u.2.2.1 h0 28).toInt := by rw [hu11]; exact congrArg Int32.toInt (if_neg (fun q => absurd q.2 (by decide)))
              have w13 : (u11.2.2.1 h0 29).toInt = x10.toInt := by rw [hu11]; exact congrArg Int32.toInt (if_pos ⟨rfl, rfl⟩)
              refine lv_goto (tgt := 68) hx hb dX12_safest_132 (by decide) ?_
              exact ih68 _ _ _ ls v1 v2 x9 r6 hu hp hP hD hS (by (try simp only [i_lt, i_le, i_eq, Int32.toInt_toInt64, Int32.reduceToInt, Int64.reduceToInt, true_and, and_true, false_and, and_false, false_or, or_false, true_or, or_true, not_true_eq_false, not_false_eq_true, ne_eq, forall_const, true_implies, false_implies, implies_true] at g_v1 g_v2 hn53 ex0 ex1 hn68 c1 c7 tx10 w12 w13 ⊢) <;> omega) (by (try simp only [i_lt, i_le, i_eq, Int32.toInt_toInt64, Int32.reduceToInt, Int64.reduceToInt, true_and, and_true, false_and, and_false, false_or, or_false, true_or, or_true, not_true_eq_false, not_false_eq_true, ne_eq, forall_const, true_implies, false_implies, implies_true] at g_v1 g_v2 hn53 ex0 ex1 hn68 c1 c7 tx10 w12 w13 ⊢) <;> omega) (by (try simp only [i_lt, i_le, i_eq, Int32.toInt_toInt64, Int32.reduceToInt, Int64.reduceToInt, true_and, and_true, false_and, and_false, false_or, or_false, true_or, or_true, not_true_eq_false, not_false_eq_true, ne_eq, forall_const, true_implies, false_implies, implies_true] at g_v1 g_v2 hn53 ex0 ex1 hn68 c1 c7 tx10 w12 w13 ⊢) <;> omega) (by (try simp only [i_lt, i_le, i_eq, Int32.toInt_toInt64, Int32.reduceToInt, Int64.reduceToInt, true_and, and_true, false_and, and_false, false_or, or_false, true_or, or_true, not_true_eq_false, not_false_eq_true, ne_eq, forall_const, true_implies, false_implies, implies_true] at g_v1 g_v2 hn53 ex0 ex1 hn68 c1 c7 tx10 w12 w13 ⊢) <;> omega) (by (try simp only [i_lt, i_le, i_eq, Int32.toInt_toInt64, Int32.reduceToInt, Int64.reduceToInt, true_and, and_true, false_and, and_false, false_or, or_false, true_or, or_true, not_true_eq_false, not_false_eq_true, ne_eq, forall_const, true_implies, false_implies, implies_true] at g_v1 g_v2 hn53 ex0 ex1 hn68 c1 c7 tx10 w12 w13 ⊢) <;> omega) (by (try simp only [i_lt, i_le, i_eq, Int32.toInt_toInt64, Int32.reduceToInt, Int64.reduceToInt, true_and, and_true, false_and, and_false, false_or, or_false, true_or, or_true, not_true_eq_false, not_false_eq_true, ne_eq, forall_const, true_implies, false_implies, implies_true] at g_v1 g_v2 hn53 ex0 ex1 hn68 c1 c7 tx10 w12 w13 ⊢) <;> omega) (lv_sub hl [3, 4, 5, 1, 0] rfl)
            · refine lv_iload hx hb dX12_safest_92 (lv_at hl 0 rfl) ?_
              refine lv_iload hx hb dX12_safest_94 (lv_at hl 5 rfl) ?_
              refine lv_icmp_lt (tgt := 102) hx hb dX12_safest_96 (by decide) (fun c14 => ?_) (fun c14 => ?_)
              · have b15 := Int32.toInt_lt r6
                have b16 := Int32.toInt_lt v5
                refine lv_sipush (v := 1000) hx hb dX12_safest_102 (by decide) ?_
                refine lv_aload_n hx hb dX12_safest_105 rfl (lv_at hl 1 rfl) ?_
                refine pget (ci := 12) (v := .int (u.2.2.1 h0 28)) (C := RX12) (T := TX12) (N := 34) hx hb hts i_X12 hown hK hP m_h0 (cF12 k_h0) rfl 28 (by decide) (hts (.fieldLink RX12 421 "BellowsRowModel" "movedX" "I") (by decide +kernel)) (fun _ h9 => h9) rfl dX12_safest_106 ?_
                refine lv_imul hx hb dX12_safest_109 ?_
                refine lv_topi (fun x17 ex17 => ?_)
                refine lv_aload_n hx hb dX12_safest_110 rfl (lv_at hl 1 rfl) ?_
                refine pget (ci := 12) (v := .int (u.2.2.1 h0 29)) (C := RX12) (T := TX12) (N := 34) hx hb hts i_X12 hown hK hP m_h0 (cF12 k_h0) rfl 29 (by decide) (hts (.fieldLink RX12 427 "BellowsRowModel" "movedY" "I") (by decide +kernel)) (fun _ h9 => h9) rfl dX12_safest_111 ?_
                refine lv_iadd hx hb dX12_safest_114 ?_
                refine lv_topi (fun x18 ex18 => ?_)
                refine lv_istore (lv' := [(4, .int x18), (6, .int r6), (0, .ref h0), (1, .int v1), (2, .int v2), (5, .int v5)]) hx hb dX12_safest_115 hl (by decide) rfl (fun ls hl => ?_)
                refine lv_iload hx hb dX12_safest_117 (lv_at hl 1 rfl) ?_
                refine lv_istore (lv' := [(5, .int r6), (4, .int x18), (6, .int r6), (0, .ref h0), (1, .int v1), (2, .int v2)]) hx hb dX12_safest_119 hl (by decide) rfl (fun ls hl => ?_)
                refine lv_aload_n hx hb dX12_safest_121 rfl (lv_at hl 3 rfl) ?_
                refine lv_dup hx hb dX12_safest_122 rfl ?_
                refine pget (ci := 12) (v := .int (u.2.2.1 h0 29)) (C := RX12) (T := TX12) (N := 34) hx hb hts i_X12 hown hK hP m_h0 (cF12 k_h0) rfl 29 (by decide) (hts (.fieldLink RX12 427 "BellowsRowModel" "movedY" "I") (by decide +kernel)) (fun _ h9 => h9) rfl dX12_safest_123 ?_
                refine lv_bipush (v := 100) hx hb dX12_safest_126 (by decide) ?_
                refine lv_iadd hx hb dX12_safest_128 ?_
                refine lv_topi (fun x19 ex19 => ?_)
                have tx19 : x19.toInt = (u.2.2.1 h0 29).toInt + (100 : Int32).toInt := by rw [ex19]; exact i_add (by (try simp only [i_lt, i_le, i_eq, Int32.toInt_toInt64, Int32.reduceToInt, Int64.reduceToInt, true_and, and_true, false_and, and_false, false_or, or_false, true_or, or_true, not_true_eq_false, not_false_eq_true, ne_eq, forall_const, true_implies, false_implies, implies_true] at g_v1 g_v2 hn53 ex0 ex1 hn68 c1 c7 c14 b15 b16 ⊢) <;> omega) (by (try simp only [i_lt, i_le, i_eq, Int32.toInt_toInt64, Int32.reduceToInt, Int64.reduceToInt, true_and, and_true, false_and, and_false, false_or, or_false, true_or, or_true, not_true_eq_false, not_false_eq_true, ne_eq, forall_const, true_implies, false_implies, implies_true] at g_v1 g_v2 hn53 ex0 ex1 hn68 c1 c7 c14 b15 b16 ⊢) <;> omega)
                refine pput (u' := pSI u h0 29 x19) (ci := 12) (v := .int x19) (ty := .int) (C := RX12) (T := TX12) (N := 34) hx hb hts i_X12 tyX12 tyX12_ok nmX12 hown hK hP hD hS m_h0 (cF12 k_h0) rfl 29 (by decide) (hts (.fieldLink RX12 427 "BellowsRowModel" "movedY" "I") (by decide +kernel)) (fun _ h9 => h9) rfl (by decide +kernel) rfl rfl (Nat.le_of_ble_eq_true rfl) rfl (sF12_29 k_h0 x19) dX12_safest_129 (fun H locs hP hD hS => ?_)
                have hu := WT.setI (a := h0) (s := 29) (v := x19) hu (by rw [k_h0]; exact trivial)
                have hp := PX.setI (a := h0) (s := 29) (v := x19) hp (by rw [k_h0]; decide)
                obtain ⟨u20, hu20⟩ : ∃ z, z = pSI u h0 29 x19 := ⟨_, rfl⟩
                rw [← hu20] at hP hD hu hp
                have w21 : (u20.2.2.1 h0 28).toInt = (u.2.2.1 h0 28).toInt := by rw [hu20]; exact congrArg Int32.toInt (if_neg (fun q => absurd q.2 (by decide)))
                have w22 : (u20.2.2.1 h0 29).toInt = x19.toInt := by rw [hu20]; exact congrArg Int32.toInt (if_pos ⟨rfl, rfl⟩)
                refine lv_goto (tgt := 68) hx hb dX12_safest_132 (by decide) ?_
                exact ih68 _ _ _ ls v1 v2 x18 r6 hu hp hP hD hS (by (try simp only [i_lt, i_le, i_eq, Int32.toInt_toInt64, Int32.reduceToInt, Int64.reduceToInt, true_and, and_true, false_and, and_false, false_or, or_false, true_or, or_true, not_true_eq_false, not_false_eq_true, ne_eq, forall_const, true_implies, false_implies, implies_true] at g_v1 g_v2 hn53 ex0 ex1 hn68 c1 c7 c14 b15 b16 tx19 w21 w22 ⊢) <;> omega) (by (try simp only [i_lt, i_le, i_eq, Int32.toInt_toInt64, Int32.reduceToInt, Int64.reduceToInt, true_and, and_true, false_and, and_false, false_or, or_false, true_or, or_true, not_true_eq_false, not_false_eq_true, ne_eq, forall_const, true_implies, false_implies, implies_true] at g_v1 g_v2 hn53 ex0 ex1 hn68 c1 c7 c14 b15 b16 tx19 w21 w22 ⊢) <;> omega) (by (try simp only [i_lt, i_le, i_eq, Int32.toInt_toInt64, Int32.reduceToInt, Int64.reduceToInt, true_and, and_true, false_and, and_false, false_or, or_false, true_or, or_true, not_true_eq_false, not_false_eq_true, ne_eq, forall_const, true_implies, false_implies, implies_true] at g_v1 g_v2 hn53 ex0 ex1 hn68 c1 c7 c14 b15 b16 tx19 w21 w22 ⊢) <;> omega) (by (try simp only [i_lt, i_le, i_eq, Int32.toInt_toInt64, Int32.reduceToInt, Int64.reduceToInt, true_and, and_true, false_and, and_false, false_or, or_false, true_or, or_true, not_true_eq_false, not_false_eq_true, ne_eq, forall_const, true_implies, false_implies, implies_true] at g_v1 g_v2 hn53 ex0 ex1 hn68 c1 c7 c14 b15 b16 tx19 w21 w22 ⊢) <;> omega) (by (try simp only [i_lt, i_le, i_eq, Int32.toInt_toInt64, Int32.reduceToInt, Int64.reduceToInt, true_and, and_true, false_and, and_false, false_or, or_false, true_or, or_true, not_true_eq_false, not_false_eq_true, ne_eq, forall_const, true_implies, false_implies, implies_true] at g_v1 g_v2 hn53 ex0 ex1 hn68 c1 c7 c14 b15 b16 tx19 w21 w22 ⊢) <;> omega) (by (try simp only [i_lt, i_le, i_eq, Int32.toInt_toInt64, Int32.reduceToInt, Int64.reduceToInt, true_and, and_true, false_and, and_false, false_or, or_false, true_or, or_true, not_true_eq_false, not_false_eq_true, ne_eq, forall_const, true_implies, false_implies, implies_true] at g_v1 g_v2 hn53 ex0 ex1 hn68 c1 c7 c14 b15 b16 tx19 w21 w22 ⊢) <;> omega) (lv_sub hl [3, 4, 5, 1, 0] rfl)
              · have b23 := Int32.toInt_lt r6
                have b24 := Int32.toInt_lt v5
                refine lv_goto (tgt := 121) hx hb dX12_safest_99 (by decide) ?_
                refine lv_aload_n hx hb dX12_safest_121 rfl (lv_at hl 1 rfl) ?_
                refine lv_dup hx hb dX12_safest_122 rfl ?_
                refine pget (ci := 12) (v := .int (u.2.2.1 h0 29)) (C := RX12) (T := TX12) (N := 34) hx hb hts i_X12 hown hK hP m_h0 (cF12 k_h0) rfl 29 (by decide) (hts (.fieldLink RX12 427 "BellowsRowModel" "movedY" "I") (by decide +kernel)) (fun _ h9 => h9) rfl dX12_safest_123 ?_
                refine lv_bipush (v := 100) hx hb dX12_safest_126 (by decide) ?_
                refine lv_iadd hx hb dX12_safest_128 ?_
                refine lv_topi (fun x25 ex25 => ?_)
                have tx25 : x25.toInt = (u.2.2.1 h0 29).toInt + (100 : Int32).toInt := by rw [ex25]; exact i_add (by (try simp only [i_lt, i_le, i_eq, Int32.toInt_toInt64, Int32.reduceToInt, Int64.reduceToInt, true_and, and_true, false_and, and_false, false_or, or_false, true_or, or_true, not_true_eq_false, not_false_eq_true, ne_eq, forall_const, true_implies, false_implies, implies_true] at g_v1 g_v2 hn53 ex0 ex1 hn68 c1 c7 c14 b23 b24 ⊢) <;> omega) (by (try simp only [i_lt, i_le, i_eq, Int32.toInt_toInt64, Int32.reduceToInt, Int64.reduceToInt, true_and, and_true, false_and, and_false, false_or, or_false, true_or, or_true, not_true_eq_false, not_false_eq_true, ne_eq, forall_const, true_implies, false_implies, implies_true] at g_v1 g_v2 hn53 ex0 ex1 hn68 c1 c7 c14 b23 b24 ⊢) <;> omega)
                refine pput (u' := pSI u h0 29 x25) (ci := 12) (v := .int x25) (ty := .int) (C := RX12) (T := TX12) (N := 34) hx hb hts i_X12 tyX12 tyX12_ok nmX12 hown hK hP hD hS m_h0 (cF12 k_h0) rfl 29 (by decide) (hts (.fieldLink RX12 427 "BellowsRowModel" "movedY" "I") (by decide +kernel)) (fun _ h9 => h9) rfl (by decide +kernel) rfl rfl (Nat.le_of_ble_eq_true rfl) rfl (sF12_29 k_h0 x25) dX12_safest_129 (fun H locs hP hD hS => ?_)
                have hu := WT.setI (a := h0) (s := 29) (v := x25) hu (by rw [k_h0]; exact trivial)
                have hp := PX.setI (a := h0) (s := 29) (v := x25) hp (by rw [k_h0]; decide)
                obtain ⟨u26, hu26⟩ : ∃ z, z = pSI u h0 29 x25 := ⟨_, rfl⟩
                rw [← hu26] at hP hD hu hp
                have w27 : (u26.2.2.1 h0 28).toInt = (u.2.2.1 h0 28).toInt := by rw [hu26]; exact congrArg Int32.toInt (if_neg (fun q => absurd q.2 (by decide)))
                have w28 : (u26.2.2.1 h0 29).toInt = x25.toInt := by rw [hu26]; exact congrArg Int32.toInt (if_pos ⟨rfl, rfl⟩)
                refine lv_goto (tgt := 68) hx hb dX12_safest_132 (by decide) ?_
                exact ih68 _ _ _ ls v1 v2 v4 v5 hu hp hP hD hS (by (try simp only [i_lt, i_le, i_eq, Int32.toInt_toInt64, Int32.reduceToInt, Int64.reduceToInt, true_and, and_true, false_and, and_false, false_or, or_false, true_or, or_true, not_true_eq_false, not_false_eq_true, ne_eq, forall_const, true_implies, false_implies, implies_true] at g_v1 g_v2 hn53 ex0 ex1 hn68 c1 c7 c14 b23 b24 tx25 w27 w28 ⊢) <;> omega) (by (try simp only [i_lt, i_le, i_eq, Int32.toInt_toInt64, Int32.reduceToInt, Int64.reduceToInt, true_and, and_true, false_and, and_false, false_or, or_false, true_or, or_true, not_true_eq_false, not_false_eq_true, ne_eq, forall_const, true_implies, false_implies, implies_true] at g_v1 g_v2 hn53 ex0 ex1 hn68 c1 c7 c14 b23 b24 tx25 w27 w28 ⊢) <;> omega) (by (try simp only [i_lt, i_le, i_eq, Int32.toInt_toInt64, Int32.reduceToInt, Int64.reduceToInt, true_and, and_true, false_and, and_false, false_or, or_false, true_or, or_true, not_true_eq_false, not_false_eq_true, ne_eq, forall_const, true_implies, false_implies, implies_true] at g_v1 g_v2 hn53 ex0 ex1 hn68 c1 c7 c14 b23 b24 tx25 w27 w28 ⊢) <;> omega) (by (try simp only [i_lt, i_le, i_eq, Int32.toInt_toInt64, Int32.reduceToInt, Int64.reduceToInt, true_and, and_true, false_and, and_false, false_or, or_false, true_or, or_true, not_true_eq_false, not_false_eq_true, ne_eq, forall_const, true_implies, false_implies, implies_true] at g_v1 g_v2 hn53 ex0 ex1 hn68 c1 c7 c14 b23 b24 tx25 w27 w28 ⊢) <;> omega) (by (try simp only [i_lt, i_le, i_eq, Int32.toInt_toInt64, Int32.reduceToInt, Int64.reduceToInt, true_and, and_true, false_and, and_false, false_or, or_false, true_or, or_true, not_true_eq_false, not_false_eq_true, ne_eq, forall_const, true_implies, false_implies, implies_true] at g_v1 g_v2 hn53 ex0 ex1 hn68 c1 c7 c14 b23 b24 tx25 w27 w28 ⊢) <;> omega) (by (try simp only [i_lt, i_le, i_eq, Int32.toInt_toInt64, Int32.reduceToInt, Int64.reduceToInt, true_and, and_true, false_and, and_false, false_or, or_false, true_or, or_true, not_true_eq_false, not_false_eq_true, ne_eq, forall_const, true_implies, false_implies, implies_true] at g_v1 g_v2 hn53 ex0 ex1 hn68 c1 c7 c14 b23 b24 tx25 w27 w28 ⊢) <;> omega) (lv_sub hl [1, 2, 3, 4, 5] rfl)
      refine lv_aload_n hx hb dX12_safest_53 rfl (lv_at hl 0 rfl) ?_
      have k_h0 : u.2.1 h0 = 12 := (hp h0 m0_h0).2.1.trans k0_h0
      have m_h0 : h0 ∈ u.1 := (hp h0 m0_h0).1
      refine pget (ci := 12) (v := .int (u.2.2.1 h0 28)) (C := RX12) (T := TX12) (N := 34) hx hb hts i_X12 hown hK hP m_h0 (cF12 k_h0) rfl 28 (by decide) (hts (.fieldLink RX12 421 "BellowsRowModel" "movedX" "I") (by decide +kernel)) (fun _ h9 => h9) rfl dX12_safest_54 ?_
      refine lv_sipush (v := 900) hx hb dX12_safest_57 (by decide) ?_
      refine lv_icmp_gt (tgt := 149) hx hb dX12_safest_60 (by decide) (fun c29 => ?_) (fun c29 => ?_)
      · refine lv_aload_n hx hb dX12_safest_149 rfl (lv_at hl 0 rfl) ?_
        refine lv_iconst (v := (-1)) hx hb dX12_safest_150 (by decide) ?_
        refine pput (u' := pSI u h0 27 (-1)) (ci := 12) (v := .int (-1)) (ty := .int) (C := RX12) (T := TX12) (N := 34) hx hb hts i_X12 tyX12 tyX12_ok nmX12 hown hK hP hD hS m_h0 (cF12 k_h0) rfl 27 (by decide) (hts (.fieldLink RX12 58 "BellowsRowModel" "movedRoom" "I") (by decide +kernel)) (fun _ h9 => h9) rfl (by decide +kernel) rfl rfl (Nat.le_of_ble_eq_true rfl) rfl (sF12_27 k_h0 (-1)) dX12_safest_151 (fun H locs hP hD hS => ?_)
        have hu := WT.setI (a := h0) (s := 27) (v := (-1)) hu (by rw [k_h0]; exact trivial)
        have hp := PX.setI (a := h0) (s := 27) (v := (-1)) hp (by rw [k_h0]; decide)
        obtain ⟨u30, hu30⟩ : ∃ z, z = pSI u h0 27 (-1) := ⟨_, rfl⟩
        rw [← hu30] at hP hD hu hp
        have w31 : (u30.2.2.1 h0 29).toInt = (u.2.2.1 h0 29).toInt := by rw [hu30]; exact congrArg Int32.toInt (if_neg (fun q => absurd q.2 (by decide)))
        have w32 : (u30.2.2.1 h0 28).toInt = (u.2.2.1 h0 28).toInt := by rw [hu30]; exact congrArg Int32.toInt (if_neg (fun q => absurd q.2 (by decide)))
        refine lv_iload hx hb dX12_safest_154 (lv_at hl 3 rfl) ?_
        exact W.iret (v := v4) hx hb hr (fun t ht hW => ⟨⟨v4, u30, rfl, ⟨hu, hp, trivial⟩, by rw [ht]; exact hP, hD⟩, hS.F ht⟩) hS.2.2 dX12_safest_156
      · refine lv_aload_n hx hb dX12_safest_63 rfl (lv_at hl 0 rfl) ?_
        refine lv_iconst (v := 0) hx hb dX12_safest_64 (by decide) ?_
        refine pput (u' := pSI u h0 29 0) (ci := 12) (v := .int 0) (ty := .int) (C := RX12) (T := TX12) (N := 34) hx hb hts i_X12 tyX12 tyX12_ok nmX12 hown hK hP hD hS m_h0 (cF12 k_h0) rfl 29 (by decide) (hts (.fieldLink RX12 427 "BellowsRowModel" "movedY" "I") (by decide +kernel)) (fun _ h9 => h9) rfl (by decide +kernel) rfl rfl (Nat.le_of_ble_eq_true rfl) rfl (sF12_29 k_h0 0) dX12_safest_65 (fun H locs hP hD hS => ?_)
        have hu := WT.setI (a := h0) (s := 29) (v := 0) hu (by rw [k_h0]; exact trivial)
        have hp := PX.setI (a := h0) (s := 29) (v := 0) hp (by rw [k_h0]; decide)
        obtain ⟨u33, hu33⟩ : ∃ z, z = pSI u h0 29 0 := ⟨_, rfl⟩
        rw [← hu33] at hP hD hu hp
        have w34 : (u33.2.2.1 h0 29).toInt = (0 : Int32).toInt := by rw [hu33]; exact congrArg Int32.toInt (if_pos ⟨rfl, rfl⟩)
        have w35 : (u33.2.2.1 h0 28).toInt = (u.2.2.1 h0 28).toInt := by rw [hu33]; exact congrArg Int32.toInt (if_neg (fun q => absurd q.2 (by decide)))
        exact B68 _ _ _ _ ls v1 v2 v4 v5 hu hp hP hD hS (Nat.le_refl _) (by (try simp only [i_lt, i_le, i_eq, Int32.toInt_toInt64, Int32.reduceToInt, Int64.reduceToInt, true_and, and_true, false_and, and_false, false_or, or_false, true_or, or_true, not_true_eq_false, not_false_eq_true, ne_eq, forall_const, true_implies, false_implies, implies_true] at g_v1 g_v2 ex0 hn53 c29 w34 w35 ⊢) <;> omega) (by (try simp only [i_lt, i_le, i_eq, Int32.toInt_toInt64, Int32.reduceToInt, Int64.reduceToInt, true_and, and_true, false_and, and_false, false_or, or_false, true_or, or_true, not_true_eq_false, not_false_eq_true, ne_eq, forall_const, true_implies, false_implies, implies_true] at g_v1 g_v2 ex0 hn53 c29 w34 w35 ⊢) <;> omega) (by (try simp only [i_lt, i_le, i_eq, Int32.toInt_toInt64, Int32.reduceToInt, Int64.reduceToInt, true_and, and_true, false_and, and_false, false_or, or_false, true_or, or_true, not_true_eq_false, not_false_eq_true, ne_eq, forall_const, true_implies, false_implies, implies_true] at g_v1 g_v2 ex0 hn53 c29 w34 w35 ⊢) <;> omega) (by (try simp only [i_lt, i_le, i_eq, Int32.toInt_toInt64, Int32.reduceToInt, Int64.reduceToInt, true_and, and_true, false_and, and_false, false_or, or_false, true_or, or_true, not_true_eq_false, not_false_eq_true, ne_eq, forall_const, true_implies, false_implies, implies_true] at g_v1 g_v2 ex0 hn53 c29 w34 w35 ⊢) <;> omega) (by (try simp only [i_lt, i_le, i_eq, Int32.toInt_toInt64, Int32.reduceToInt, Int64.reduceToInt, true_and, and_true, false_and, and_false, false_or, or_false, true_or, or_true, not_true_eq_false, not_false_eq_true, ne_eq, forall_const, true_implies, false_implies, implies_true] at g_v1 g_v2 ex0 hn53 c29 w34 w35 ⊢) <;> omega) (lv_sub hl [0, 1, 2, 3, 4] rfl)
  have hl := lv_entry ([.ref h0, .int p1, .int p2, .int p3]) (n := 7) (Nat.le_of_ble_eq_true rfl)
  rw [lg_entry_eq]
  generalize (lg_sl ([.ref h0, .int p1, .int p2, .int p3]) ++ List.replicate (7 - (lg_sl ([.ref h0, .int p1, .int p2, .int p3])).length) Slot.unset).toArray = ls at hl ⊢
  have hl : lv_has ls 7 [(0, .ref h0), (1, .int p1), (2, .int p2), (3, .int p3)] := hl
  refine lv_aload_n hx hb dX12_safest_0 rfl (lv_at hl 0 rfl) ?_
  refine lv_iload_n hx hb dX12_safest_1 rfl (lv_at hl 1 rfl) ?_
  refine rvi (C := RX12) (As := [.int p1]) (rest := []) ⟨hx, hb, hml, hown, hts⟩ (t_X12_isPipe l D k u0 hu h0 m_h0 k_h0 p1) (cwV 1 hts gX12_safest_X12_isPipe rfl rfl rfl (by decide +kernel) ⟨Nat.le_of_ble_eq_true rfl, Nat.le_of_ble_eq_true rfl⟩) hP hK (precv hK hP m_h0 (cF12 k_h0) rfl) rfl hl.1 rfl (Nat.le_of_ble_eq_true rfl) dX12_safest_2 ⟨Nat.le_of_ble_eq_true rfl, Nat.le_of_ble_eq_true rfl⟩ (fun r36 hr36 => ?_)
  refine lv_if_eq (tgt := 34) hx hb dX12_safest_5 (by decide) (fun c37 => ?_) (fun c37 => ?_)
  · have eb38 : r36.toInt = 0 := by rcases hr36 with q | ⟨q, -⟩; exact q; (exact absurd (c37) (fun w => by rw [w] at q; exact absurd q (by decide)))
    clear hr36
    refine lv_bipush (v := (-2)) hx hb dX12_safest_34 (by decide) ?_
    exact W.iret (v := (-2)) hx hb hr (fun t ht hW => ⟨⟨(-2), u0, rfl, ⟨hu, hp, trivial⟩, by rw [ht]; exact hP, hD⟩, hS.F ht⟩) hS.2.2 dX12_safest_36
  · have eb39 : r36.toInt = 1 := by rcases hr36 with q | ⟨q, -⟩; exact absurd (i_eq.mpr q) c37; exact q
    have fb39 : 0 ≤ p1.toInt ∧ p1.toInt ≤ 11 := by rcases hr36 with q | ⟨q, r⟩; exact absurd q (by omega); exact r
    clear hr36
    refine lv_aload_n hx hb dX12_safest_8 rfl (lv_at hl 0 rfl) ?_
    refine lv_iload_n hx hb dX12_safest_9 rfl (lv_at hl 2 rfl) ?_
    refine rvi (C := RX12) (As := [.int p2]) (rest := []) ⟨hx, hb, hml, hown, hts⟩ (t_X12_isHour l D k u0 hu h0 m_h0 k_h0 p2) (cwV 1 hts gX12_safest_X12_isHour rfl rfl rfl (by decide +kernel) ⟨Nat.le_of_ble_eq_true rfl, Nat.le_of_ble_eq_true rfl⟩) hP hK (precv hK hP m_h0 (cF12 k_h0) rfl) rfl hl.1 rfl (Nat.le_of_ble_eq_true rfl) dX12_safest_10 ⟨Nat.le_of_ble_eq_true rfl, Nat.le_of_ble_eq_true rfl⟩ (fun r40 hr40 => ?_)
    refine lv_if_eq (tgt := 34) hx hb dX12_safest_13 (by decide) (fun c41 => ?_) (fun c41 => ?_)
    · have eb42 : r40.toInt = 0 := by rcases hr40 with q | ⟨q, -⟩; exact q; (exact absurd (c41) (fun w => by rw [w] at q; exact absurd q (by decide)))
      clear hr40
      refine lv_bipush (v := (-2)) hx hb dX12_safest_34 (by decide) ?_
      exact W.iret (v := (-2)) hx hb hr (fun t ht hW => ⟨⟨(-2), u0, rfl, ⟨hu, hp, trivial⟩, by rw [ht]; exact hP, hD⟩, hS.F ht⟩) hS.2.2 dX12_safest_36
    · have eb43 : r40.toInt = 1 := by rcases hr40 with q | ⟨q, -⟩; exact absurd (i_eq.mpr q) c41; exact q
      have fb43 : 0 ≤ p2.toInt ∧ p2.toInt ≤ 1999 := by rcases hr40 with q | ⟨q, r⟩; exact absurd q (by omega); exact r
      clear hr40
      refine lv_iload_n hx hb dX12_safest_16 rfl (lv_at hl 3 rfl) ?_
      refine lv_i2l hx hb dX12_safest_17 rfl ?_
      have b44 := Int32.toInt_lt p3
      have ab44 := Int32.le_toInt p3
      refine lv_topl (fun x45 ex45 => ?_)
      have tx45 : x45.toInt = p3.toInt := by rw [ex45]; exact Int32.toInt_toInt64 _
      refine lv_lconst (v := 0) hx hb dX12_safest_18 (by decide) ?_
      refine lv_aload_n hx hb dX12_safest_19 rfl (lv_at hl 0 rfl) ?_
      refine pget (ci := 12) (v := va_rf (u0.2.2.2.2 h0 1)) (C := RX12) (T := TX12) (N := 34) hx hb hts i_X12 hown hK hP m_h0 (cF12 k_h0) rfl 1 (by decide) (hts (.fieldLink RX12 13 "BellowsRowModel" "world" "[I") (by decide +kernel)) (fun _ h9 => h9) rfl dX12_safest_20 ?_
      refine W.eq (g2 := F0 m 23 ls [.ref a1, .long 0, .long x45]) (by rw [(((hp h0 m0_h0).2.2.2.2.2.1 k0_h0 1).trans q0_1)]; rfl) ?_
      refine lv_iconst (v := 3) hx hb dX12_safest_23 (by decide) ?_
      refine palI hx hb hK hP m_a1 (cF50 k_a1) 1 rfl (vp_in_iff.mpr (by decide)) dX12_safest_24 ?_
      refine lv_topi (fun x46 ex46 => ?_)
      have tx46 : x46.toInt = (u0.2.2.1 a1 3).toInt := congrArg Int32.toInt ex46
      have g47 : 0 ≤ x46.toInt ∧ x46.toInt ≤ 12 := by have g : okI (u0.2.1 a1) (3) (u0.2.2.1 a1 (3)) := (hu a1 m_a1).2.2.2 (3); rw [k_a1, ← (show x46 = u0.2.2.1 a1 (3) from ex46)] at g; have g : okW (3) x46 := g; unfold okW at g; (try simp only [i_lt, i_le, i_eq, Int32.toInt_toInt64, Int32.reduceToInt, Int64.reduceToInt, true_and, and_true, false_and, and_false, false_or, or_false, true_or, or_true, not_true_eq_false, not_false_eq_true, ne_eq, forall_const, true_implies, false_implies, implies_true] at eb39 fb39 eb43 fb43 b44 ab44 tx45 tx46 g ⊢) <;> omega
      refine lv_iconst (v := 1) hx hb dX12_safest_25 (by decide) ?_
      refine lv_isub hx hb dX12_safest_26 ?_
      refine lv_topi (fun x48 ex48 => ?_)
      have tx48 : x48.toInt = x46.toInt - (1 : Int32).toInt := by rw [ex48]; exact i_sub (by (try simp only [i_lt, i_le, i_eq, Int32.toInt_toInt64, Int32.reduceToInt, Int64.reduceToInt, true_and, and_true, false_and, and_false, false_or, or_false, true_or, or_true, not_true_eq_false, not_false_eq_true, ne_eq, forall_const, true_implies, false_implies, implies_true] at eb39 fb39 eb43 fb43 b44 ab44 tx45 tx46 g47 ⊢) <;> omega) (by (try simp only [i_lt, i_le, i_eq, Int32.toInt_toInt64, Int32.reduceToInt, Int64.reduceToInt, true_and, and_true, false_and, and_false, false_or, or_false, true_or, or_true, not_true_eq_false, not_false_eq_true, ne_eq, forall_const, true_implies, false_implies, implies_true] at eb39 fb39 eb43 fb43 b44 ab44 tx45 tx46 g47 ⊢) <;> omega)
      refine lv_i2l hx hb dX12_safest_27 rfl ?_
      refine lv_topl (fun x49 ex49 => ?_)
      have tx49 : x49.toInt = x48.toInt := by rw [ex49]; exact Int32.toInt_toInt64 _
      refine psi (As := [.long x45, .long 0, .long x49]) (rest := []) ⟨hx, hb, hml, hown, hts⟩ (t_X12_in l D k x45 0 x49) (va_cwS 3 hts gX12_safest_X12_in rfl rfl rfl (by decide +kernel) ⟨Nat.le_of_ble_eq_true rfl, Nat.le_of_ble_eq_true rfl⟩) hK rfl hl.1 rfl (Nat.le_of_ble_eq_true rfl) dX12_safest_28 ⟨Nat.le_of_ble_eq_true rfl, Nat.le_of_ble_eq_true rfl⟩ (fun r50 hr50 => ?_)
      refine lv_if_ne (tgt := 37) hx hb dX12_safest_31 (by decide) (fun c51 => ?_) (fun c51 => ?_)
      · have eb52 : r50.toInt = 1 := by rcases hr50 with ⟨q, -⟩ | ⟨q, -⟩; exact absurd (i_eq.mpr q) c51; exact q
        have fb52 : (0 : Int64).toInt ≤ x45.toInt ∧ x45.toInt ≤ x49.toInt := by rcases hr50 with ⟨q, r⟩ | ⟨q, r⟩; exact absurd q (by omega); exact r
        clear hr50
        refine lv_iconst (v := (-1)) hx hb dX12_safest_37 (by decide) ?_
        refine lv_istore (lv' := [(4, .int (-1)), (0, .ref h0), (1, .int p1), (2, .int p2), (3, .int p3)]) hx hb dX12_safest_38 hl (by decide) rfl (fun ls hl => ?_)
        refine lv_iconst (v := 0) hx hb dX12_safest_40 (by decide) ?_
        refine lv_istore (lv' := [(5, .int 0), (4, .int (-1)), (0, .ref h0), (1, .int p1), (2, .int p2), (3, .int p3)]) hx hb dX12_safest_41 hl (by decide) rfl (fun ls hl => ?_)
        refine lv_aload_n hx hb dX12_safest_43 rfl (lv_at hl 2 rfl) ?_
        refine lv_iload_n hx hb dX12_safest_44 rfl (lv_at hl 5 rfl) ?_
        refine pput (u' := pSI u0 h0 27 p3) (ci := 12) (v := .int p3) (ty := .int) (C := RX12) (T := TX12) (N := 34) hx hb hts i_X12 tyX12 tyX12_ok nmX12 hown hK hP hD hS m_h0 (cF12 k_h0) rfl 27 (by decide) (hts (.fieldLink RX12 58 "BellowsRowModel" "movedRoom" "I") (by decide +kernel)) (fun _ h9 => h9) rfl (by decide +kernel) rfl rfl (Nat.le_of_ble_eq_true rfl) rfl (sF12_27 k_h0 p3) dX12_safest_45 (fun H locs hP hD hS => ?_)
        have hu := WT.setI (a := h0) (s := 27) (v := p3) hu (by rw [k_h0]; exact trivial)
        have hp := PX.setI (a := h0) (s := 27) (v := p3) hp (by rw [k_h0]; decide)
        obtain ⟨u53, hu53⟩ : ∃ z, z = pSI u0 h0 27 p3 := ⟨_, rfl⟩
        rw [← hu53] at hP hD hu hp
        have w54 : (u53.2.2.1 h0 28).toInt = (u0.2.2.1 h0 28).toInt := by rw [hu53]; exact congrArg Int32.toInt (if_neg (fun q => absurd q.2 (by decide)))
        have w55 : (u53.2.2.1 h0 29).toInt = (u0.2.2.1 h0 29).toInt := by rw [hu53]; exact congrArg Int32.toInt (if_neg (fun q => absurd q.2 (by decide)))
        refine lv_aload_n hx hb dX12_safest_48 rfl (lv_at hl 2 rfl) ?_
        refine lv_iconst (v := 0) hx hb dX12_safest_49 (by decide) ?_
        have k_h0 : u53.2.1 h0 = 12 := (hp h0 m0_h0).2.1.trans k0_h0
        have m_h0 : h0 ∈ u53.1 := (hp h0 m0_h0).1
        refine pput (u' := pSI u53 h0 28 0) (ci := 12) (v := .int 0) (ty := .int) (C := RX12) (T := TX12) (N := 34) hx hb hts i_X12 tyX12 tyX12_ok nmX12 hown hK hP hD hS m_h0 (cF12 k_h0) rfl 28 (by decide) (hts (.fieldLink RX12 421 "BellowsRowModel" "movedX" "I") (by decide +kernel)) (fun _ h9 => h9) rfl (by decide +kernel) rfl rfl (Nat.le_of_ble_eq_true rfl) rfl (sF12_28 k_h0 0) dX12_safest_50 (fun H locs hP hD hS => ?_)
        have hu := WT.setI (a := h0) (s := 28) (v := 0) hu (by rw [k_h0]; exact trivial)
        have hp := PX.setI (a := h0) (s := 28) (v := 0) hp (by rw [k_h0]; decide)
        obtain ⟨u56, hu56⟩ : ∃ z, z = pSI u53 h0 28 0 := ⟨_, rfl⟩
        rw [← hu56] at hP hD hu hp
        have w57 : (u56.2.2.1 h0 28).toInt = (0 : Int32).toInt := by rw [hu56]; exact congrArg Int32.toInt (if_pos ⟨rfl, rfl⟩)
        have w58 : (u56.2.2.1 h0 29).toInt = (u53.2.2.1 h0 29).toInt := by rw [hu56]; exact congrArg Int32.toInt (if_neg (fun q => absurd q.2 (by decide)))
        exact B53 _ _ _ _ ls p1 p2 (-1) 0 hu hp hP hD hS (Nat.le_refl _) (by (try simp only [i_lt, i_le, i_eq, Int32.toInt_toInt64, Int32.reduceToInt, Int64.reduceToInt, true_and, and_true, false_and, and_false, false_or, or_false, true_or, or_true, not_true_eq_false, not_false_eq_true, ne_eq, forall_const, true_implies, false_implies, implies_true] at eb39 fb39 eb43 fb43 b44 ab44 tx45 tx46 g47 tx48 tx49 eb52 fb52 w54 w55 w57 w58 ⊢) <;> omega) (by (try simp only [i_lt, i_le, i_eq, Int32.toInt_toInt64, Int32.reduceToInt, Int64.reduceToInt, true_and, and_true, false_and, and_false, false_or, or_false, true_or, or_true, not_true_eq_false, not_false_eq_true, ne_eq, forall_const, true_implies, false_implies, implies_true] at eb39 fb39 eb43 fb43 b44 ab44 tx45 tx46 g47 tx48 tx49 eb52 fb52 w54 w55 w57 w58 ⊢) <;> omega) (by (try simp only [i_lt, i_le, i_eq, Int32.toInt_toInt64, Int32.reduceToInt, Int64.reduceToInt, true_and, and_true, false_and, and_false, false_or, or_false, true_or, or_true, not_true_eq_false, not_false_eq_true, ne_eq, forall_const, true_implies, false_implies, implies_true] at eb39 fb39 eb43 fb43 b44 ab44 tx45 tx46 g47 tx48 tx49 eb52 fb52 w54 w55 w57 w58 ⊢) <;> omega) (lv_sub hl [2, 3, 4, 1, 0] rfl)
      · have eb59 : r50.toInt = 0 := by rcases hr50 with ⟨q, -⟩ | ⟨q, -⟩; exact q; (exact absurd (c51) (fun w => by rw [w] at q; exact absurd q (by decide)))
        have fb59 : (x45.toInt < (0 : Int64).toInt ∨ x49.toInt < x45.toInt) := by rcases hr50 with ⟨q, r⟩ | ⟨q, r⟩; exact r; exact absurd q (by omega)
        clear hr50
        refine lv_bipush (v := (-2)) hx hb dX12_safest_34 (by decide) ?_
        exact W.iret (v := (-2)) hx hb hr (fun t ht hW => ⟨⟨(-2), u0, rfl, ⟨hu, hp, trivial⟩, by rw [ht]; exact hP, hD⟩, hS.F ht⟩) hS.2.2 dX12_safest_36
