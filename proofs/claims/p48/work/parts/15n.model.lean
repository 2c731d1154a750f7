set_option maxHeartbeats 4000000 in
set_option maxRecDepth 100000 in
theorem t_X12_lightsOf (l : Launch) (D : va_G) (k : Nat → ClassId) (u : PSt) (hu : WT u) (h0 : Nat) (m_h0 : h0 ∈ u.1) (k_h0 : u.2.1 h0 = 12) (p1 : Int32) (p2 : Int32) (g_p1 : 0 ≤ p1.toInt ∧ p1.toInt ≤ 11) (g_p2 : 0 ≤ p2.toInt ∧ p2.toInt ≤ 1999) : Met l yX12_lightsOf wsX12_lightsOf ({ frames := 2, cells := 0, slots := 0, locals := 50 }) (PreR D k (PW k u) [.ref h0, .int p1, .int p2]) (vp_Si (fun r => -1 ≤ r.toInt ∧ r.toInt ≤ 60)) 0 0 (fun _ => False) := by
  refine Met.ofW (cc := cX12_lightsOf) (maxL := 6) (ret := (some .int)) (by decide) rfl ?_
  intro p e s m args below meth c s₁ B hml hv
  obtain ⟨rfl, hP, hK⟩ := hv
  have hx := B.exec
  have hb := B.bytes
  have hr := B.returns
  have hts := atoms_spec (ws := wsX12_lightsOf) B.pre
  have hown : s.vm.findClass RX12 = some m.cls := findClass_of_methodNamed B.named
  have hlocks := B.notSynchronized
  have i_X12 : ∀ w ∈ wsX120, w ∈ wsX12_lightsOf := by decide +kernel
  obtain ⟨a1, q0_1, m0_a1, k0_a1⟩ := (hu h0 m_h0).1 1 50 (by rw [k_h0]; rfl)
  have m_a1 := m0_a1
  have k_a1 := k0_a1
  have B2 : ∀ (n2 : Nat) (ls : Array Slot) (v1 : Int32) (v2 : Int32) (v3 : Int32), (2147483648 - v3.toInt).toNat ≤ n2 → 0 ≤ v1.toInt ∧ v1.toInt ≤ 11 → 0 ≤ v2.toInt ∧ v2.toInt ≤ 1999 → 1 ≤ v3.toInt ∧ v3.toInt ≤ 61 → lv_has ls 6 [(0, .ref h0), (1, .int v1), (2, .int v2), (3, .int v3)] → W p l e (headSpec wsX12_lightsOf ({ frames := 2, cells := 0, slots := 0, locals := 50 })).room s m ([.ref h0, .int p1, .int p2] : List Value).toArray below meth c s.heap [] 0 0 (MQ below (vp_Si (fun r => -1 ≤ r.toInt ∧ r.toInt ≤ 60)) ([.ref h0, .int p1, .int p2] : List Value).toArray s 0 0 (fun _ => False)) (F0 m 2 ls []) := by
    intro n2
    induction n2 with
    | zero =>
      intro ls v1 v2 v3 hn2 g_v1 g_v2 g_v3 hl
      exact absurd hn2 (by have := Int32.toInt_lt v3; have := Int32.le_toInt v3; omega)
    | succ n2 ih2 =>
      intro ls v1 v2 v3 hn2 g_v1 g_v2 g_v3 hl
      have B20 : ∀ (n20 : Nat) (ls : Array Slot) (v1 : Int32) (v2 : Int32) (v3 : Int32) (v4 : Int32) (v5 : Int32), (2147483648 - v5.toInt).toNat ≤ n20 → 0 ≤ v1.toInt ∧ v1.toInt ≤ 11 → 0 ≤ v2.toInt ∧ v2.toInt ≤ 1999 → 1 ≤ v3.toInt ∧ v3.toInt ≤ 60 → 0 ≤ v5.toInt ∧ v5.toInt ≤ 12 → (2147483648 - v3.toInt).toNat ≤ n2 + 1 → lv_has ls 6 [(0, .ref h0), (1, .int v1), (2, .int v2), (3, .int v3), (4, .int v4), (5, .int v5)] → W p l e (headSpec wsX12_lightsOf ({ frames := 2, cells := 0, slots := 0, locals := 50 })).room s m ([.ref h0, .int p1, .int p2] : List Value).toArray below meth c s.heap [] 0 0 (MQ below (vp_Si (fun r => -1 ≤ r.toInt ∧ r.toInt ≤ 60)) ([.ref h0, .int p1, .int p2] : List Value).toArray s 0 0 (fun _ => False)) (F0 m 20 ls []) := by
        intro n20
        induction n20 with
        | zero =>
          intro ls v1 v2 v3 v4 v5 hn20 g_v1 g_v2 g_v3 g_v5 hn2 hl
          exact absurd hn20 (by have := Int32.toInt_lt v5; have := Int32.le_toInt v5; omega)
        | succ n20 ih20 =>
          intro ls v1 v2 v3 v4 v5 hn20 g_v1 g_v2 g_v3 g_v5 hn2 hl
          refine lv_iload hx hb dX12_lightsOf_20 (lv_at hl 5 rfl) ?_
          refine lv_aload_n hx hb dX12_lightsOf_22 rfl (lv_at hl 0 rfl) ?_
          refine pget (ci := 12) (v := va_rf (u.2.2.2.2 h0 1)) (C := RX12) (T := TX12) (N := 34) hx hb hts i_X12 hown hK hP m_h0 (cF12 k_h0) rfl 1 (by decide) (hts (.fieldLink RX12 13 "BellowsRowModel" "world" "[I") (by decide +kernel)) (fun _ h9 => h9) rfl dX12_lightsOf_23 ?_
          refine W.eq (g2 := F0 m 26 ls [.ref a1, .int v5]) (by rw [q0_1]; rfl) ?_
          refine lv_iconst (v := 3) hx hb dX12_lightsOf_26 (by decide) ?_
          refine palI hx hb hK hP m_a1 (cF50 k_a1) 1 rfl (vp_in_iff.mpr (by decide)) dX12_lightsOf_27 ?_
          refine lv_topi (fun x1 ex1 => ?_)
          have tx1 : x1.toInt = (u.2.2.1 a1 3).toInt := congrArg Int32.toInt ex1
          have g2 : 0 ≤ x1.toInt ∧ x1.toInt ≤ 12 := by have g : okI (u.2.1 a1) (3) (u.2.2.1 a1 (3)) := (hu a1 m_a1).2.2.2 (3); rw [k_a1, ← (show x1 = u.2.2.1 a1 (3) from ex1)] at g; have g : okW (3) x1 := g; unfold okW at g; (try simp only [i_lt, i_le, i_eq, Int32.toInt_toInt64, Int32.reduceToInt, Int64.reduceToInt, true_and, and_true, false_and, and_false, false_or, or_false, true_or, or_true, not_true_eq_false, not_false_eq_true, ne_eq, forall_const, true_implies, false_implies, implies_true] at g_v1 g_v2 g_v3 g_v5 hn2 hn20 tx1 g ⊢) <;> omega
          refine lv_icmp_ge (tgt := 63) hx hb dX12_lightsOf_28 (by decide) (fun c3 => ?_) (fun c3 => ?_)
          · obtain ⟨x4, ex4⟩ : ∃ y : Int32, y = v3 + 1 := ⟨_, rfl⟩
            have tx4 : x4.toInt = v3.toInt + 1 := by rw [ex4]; exact i_add (b := 1) (by (try simp only [i_lt, i_le, i_eq, Int32.toInt_toInt64, Int32.reduceToInt, Int64.reduceToInt, true_and, and_true, false_and, and_false, false_or, or_false, true_or, or_true, not_true_eq_false, not_false_eq_true, ne_eq, forall_const, true_implies, false_implies, implies_true] at g_v1 g_v2 g_v3 g_v5 hn2 hn20 tx1 g2 c3 ⊢) <;> omega) (by (try simp only [i_lt, i_le, i_eq, Int32.toInt_toInt64, Int32.reduceToInt, Int64.reduceToInt, true_and, and_true, false_and, and_false, false_or, or_false, true_or, or_true, not_true_eq_false, not_false_eq_true, ne_eq, forall_const, true_implies, false_implies, implies_true] at g_v1 g_v2 g_v3 g_v5 hn2 hn20 tx1 g2 c3 ⊢) <;> omega)
            refine lv_iinc (v := x4) (lv' := [(3, .int x4), (0, .ref h0), (1, .int v1), (2, .int v2), (4, .int v4), (5, .int v5)]) hx hb dX12_lightsOf_63 hl (k := 3) rfl (by rw [ex4]; rfl) (by decide) rfl (fun ls hl => ?_)
            refine lv_goto (tgt := 2) hx hb dX12_lightsOf_66 (by decide) ?_
            exact ih2 ls v1 v2 x4 (by (try simp only [i_lt, i_le, i_eq, Int32.toInt_toInt64, Int32.reduceToInt, Int64.reduceToInt, true_and, and_true, false_and, and_false, false_or, or_false, true_or, or_true, not_true_eq_false, not_false_eq_true, ne_eq, forall_const, true_implies, false_implies, implies_true] at g_v1 g_v2 g_v3 g_v5 hn2 hn20 tx1 g2 c3 tx4 ⊢) <;> omega) (by (try simp only [i_lt, i_le, i_eq, Int32.toInt_toInt64, Int32.reduceToInt, Int64.reduceToInt, true_and, and_true, false_and, and_false, false_or, or_false, true_or, or_true, not_true_eq_false, not_false_eq_true, ne_eq, forall_const, true_implies, false_implies, implies_true] at g_v1 g_v2 g_v3 g_v5 hn2 hn20 tx1 g2 c3 tx4 ⊢) <;> omega) (by (try simp only [i_lt, i_le, i_eq, Int32.toInt_toInt64, Int32.reduceToInt, Int64.reduceToInt, true_and, and_true, false_and, and_false, false_or, or_false, true_or, or_true, not_true_eq_false, not_false_eq_true, ne_eq, forall_const, true_implies, false_implies, implies_true] at g_v1 g_v2 g_v3 g_v5 hn2 hn20 tx1 g2 c3 tx4 ⊢) <;> omega) (by (try simp only [i_lt, i_le, i_eq, Int32.toInt_toInt64, Int32.reduceToInt, Int64.reduceToInt, true_and, and_true, false_and, and_false, false_or, or_false, true_or, or_true, not_true_eq_false, not_false_eq_true, ne_eq, forall_const, true_implies, false_implies, implies_true] at g_v1 g_v2 g_v3 g_v5 hn2 hn20 tx1 g2 c3 tx4 ⊢) <;> omega) (lv_sub hl [1, 2, 3, 0] rfl)
          · refine lv_aload_n hx hb dX12_lightsOf_31 rfl (lv_at hl 0 rfl) ?_
            refine lv_iload hx hb dX12_lightsOf_32 (lv_at hl 5 rfl) ?_
            refine lv_iconst (v := 4) hx hb dX12_lightsOf_34 (by decide) ?_
            refine rvi (C := RX12) (As := [.int v5, .int 4]) (rest := []) ⟨hx, hb, hml, hown, hts⟩ (t_X12_ofRoom l D k u hu h0 m_h0 k_h0 v5 4 (by (try simp only [i_lt, i_le, i_eq, Int32.toInt_toInt64, Int32.reduceToInt, Int64.reduceToInt, true_and, and_true, false_and, and_false, false_or, or_false, true_or, or_true, not_true_eq_false, not_false_eq_true, ne_eq, forall_const, true_implies, false_implies, implies_true] at g_v1 g_v2 g_v3 g_v5 hn2 hn20 tx1 g2 c3 ⊢) <;> omega) (by decide)) (cwV 2 hts gX12_lightsOf_X12_ofRoom rfl rfl rfl (by decide +kernel) ⟨Nat.le_of_ble_eq_true rfl, Nat.le_of_ble_eq_true rfl⟩) hP hK (precv hK hP m_h0 (cF12 k_h0) rfl) rfl hl.1 rfl (Nat.le_of_ble_eq_true rfl) dX12_lightsOf_35 ⟨Nat.le_of_ble_eq_true rfl, Nat.le_of_ble_eq_true rfl⟩ (fun r5 hr5 => ?_)
            refine lv_iconst (v := 1) hx hb dX12_lightsOf_38 (by decide) ?_
            refine lv_icmp_ne (tgt := 57) hx hb dX12_lightsOf_39 (by decide) (fun c6 => ?_) (fun c6 => ?_)
            · obtain ⟨x7, ex7⟩ : ∃ y : Int32, y = v5 + 1 := ⟨_, rfl⟩
              have tx7 : x7.toInt = v5.toInt + 1 := by rw [ex7]; exact i_add (b := 1) (by (try simp only [i_lt, i_le, i_eq, Int32.toInt_toInt64, Int32.reduceToInt, Int64.reduceToInt, true_and, and_true, false_and, and_false, false_or, or_false, true_or, or_true, not_true_eq_false, not_false_eq_true, ne_eq, forall_const, true_implies, false_implies, implies_true] at g_v1 g_v2 g_v3 g_v5 hn2 hn20 tx1 g2 c3 c6 ⊢) <;> omega) (by (try simp only [i_lt, i_le, i_eq, Int32.toInt_toInt64, Int32.reduceToInt, Int64.reduceToInt, true_and, and_true, false_and, and_false, false_or, or_false, true_or, or_true, not_true_eq_false, not_false_eq_true, ne_eq, forall_const, true_implies, false_implies, implies_true] at g_v1 g_v2 g_v3 g_v5 hn2 hn20 tx1 g2 c3 c6 ⊢) <;> omega)
              refine lv_iinc (v := x7) (lv' := [(5, .int x7), (0, .ref h0), (1, .int v1), (2, .int v2), (3, .int v3), (4, .int v4)]) hx hb dX12_lightsOf_57 hl (k := 5) rfl (by rw [ex7]; rfl) (by decide) rfl (fun ls hl => ?_)
              refine lv_goto (tgt := 20) hx hb dX12_lightsOf_60 (by decide) ?_
              exact ih20 ls v1 v2 v3 v4 x7 (by (try simp only [i_lt, i_le, i_eq, Int32.toInt_toInt64, Int32.reduceToInt, Int64.reduceToInt, true_and, and_true, false_and, and_false, false_or, or_false, true_or, or_true, not_true_eq_false, not_false_eq_true, ne_eq, forall_const, true_implies, false_implies, implies_true] at g_v1 g_v2 g_v3 g_v5 hn2 hn20 tx1 g2 c3 c6 tx7 ⊢) <;> omega) (by (try simp only [i_lt, i_le, i_eq, Int32.toInt_toInt64, Int32.reduceToInt, Int64.reduceToInt, true_and, and_true, false_and, and_false, false_or, or_false, true_or, or_true, not_true_eq_false, not_false_eq_true, ne_eq, forall_const, true_implies, false_implies, implies_true] at g_v1 g_v2 g_v3 g_v5 hn2 hn20 tx1 g2 c3 c6 tx7 ⊢) <;> omega) (by (try simp only [i_lt, i_le, i_eq, Int32.toInt_toInt64, Int32.reduceToInt, Int64.reduceToInt, true_and, and_true, false_and, and_false, false_or, or_false, true_or, or_true, not_true_eq_false, not_false_eq_true, ne_eq, forall_const, true_implies, false_implies, implies_true] at g_v1 g_v2 g_v3 g_v5 hn2 hn20 tx1 g2 c3 c6 tx7 ⊢) <;> omega) (by (try simp only [i_lt, i_le, i_eq, Int32.toInt_toInt64, Int32.reduceToInt, Int64.reduceToInt, true_and, and_true, false_and, and_false, false_or, or_false, true_or, or_true, not_true_eq_false, not_false_eq_true, ne_eq, forall_const, true_implies, false_implies, implies_true] at g_v1 g_v2 g_v3 g_v5 hn2 hn20 tx1 g2 c3 c6 tx7 ⊢) <;> omega) (by (try simp only [i_lt, i_le, i_eq, Int32.toInt_toInt64, Int32.reduceToInt, Int64.reduceToInt, true_and, and_true, false_and, and_false, false_or, or_false, true_or, or_true, not_true_eq_false, not_false_eq_true, ne_eq, forall_const, true_implies, false_implies, implies_true] at g_v1 g_v2 g_v3 g_v5 hn2 hn20 tx1 g2 c3 c6 tx7 ⊢) <;> omega) (by (try simp only [i_lt, i_le, i_eq, Int32.toInt_toInt64, Int32.reduceToInt, Int64.reduceToInt, true_and, and_true, false_and, and_false, false_or, or_false, true_or, or_true, not_true_eq_false, not_false_eq_true, ne_eq, forall_const, true_implies, false_implies, implies_true] at g_v1 g_v2 g_v3 g_v5 hn2 hn20 tx1 g2 c3 c6 tx7 ⊢) <;> omega) (lv_sub hl [1, 2, 3, 4, 5, 0] rfl)
            · refine lv_aload_n hx hb dX12_lightsOf_42 rfl (lv_at hl 0 rfl) ?_
              refine lv_iload_n hx hb dX12_lightsOf_43 rfl (lv_at hl 1 rfl) ?_
              refine lv_iload hx hb dX12_lightsOf_44 (lv_at hl 5 rfl) ?_
              refine lv_iload_n hx hb dX12_lightsOf_46 rfl (lv_at hl 3 rfl) ?_
              refine rvi (C := RX12) (As := [.int v1, .int v5, .int v3]) (rest := []) ⟨hx, hb, hml, hown, hts⟩ (t_X12_awayOf l D k u hu h0 m_h0 k_h0 v1 v5 v3 (by (try simp only [i_lt, i_le, i_eq, Int32.toInt_toInt64, Int32.reduceToInt, Int64.reduceToInt, true_and, and_true, false_and, and_false, false_or, or_false, true_or, or_true, not_true_eq_false, not_false_eq_true, ne_eq, forall_const, true_implies, false_implies, implies_true] at g_v1 g_v2 g_v3 g_v5 hn2 hn20 tx1 g2 c3 c6 ⊢) <;> omega) (by (try simp only [i_lt, i_le, i_eq, Int32.toInt_toInt64, Int32.reduceToInt, Int64.reduceToInt, true_and, and_true, false_and, and_false, false_or, or_false, true_or, or_true, not_true_eq_false, not_false_eq_true, ne_eq, forall_const, true_implies, false_implies, implies_true] at g_v1 g_v2 g_v3 g_v5 hn2 hn20 tx1 g2 c3 c6 ⊢) <;> omega)) (cwV 3 hts gX12_lightsOf_X12_awayOf rfl rfl rfl (by decide +kernel) ⟨Nat.le_of_ble_eq_true rfl, Nat.le_of_ble_eq_true rfl⟩) hP hK (precv hK hP m_h0 (cF12 k_h0) rfl) rfl hl.1 rfl (Nat.le_of_ble_eq_true rfl) dX12_lightsOf_47 ⟨Nat.le_of_ble_eq_true rfl, Nat.le_of_ble_eq_true rfl⟩ (fun r8 hr8 => ?_)
              refine lv_iload hx hb dX12_lightsOf_50 (lv_at hl 4 rfl) ?_
              refine lv_icmp_gt (tgt := 57) hx hb dX12_lightsOf_52 (by decide) (fun c9 => ?_) (fun c9 => ?_)
              · have b10 := Int32.toInt_lt r8
                have b11 := Int32.toInt_lt v4
                obtain ⟨x12, ex12⟩ : ∃ y : Int32, y = v5 + 1 := ⟨_, rfl⟩
                have tx12 : x12.toInt = v5.toInt + 1 := by rw [ex12]; exact i_add (b := 1) (by (try simp only [i_lt, i_le, i_eq, Int32.toInt_toInt64, Int32.reduceToInt, Int64.reduceToInt, true_and, and_true, false_and, and_false, false_or, or_false, true_or, or_true, not_true_eq_false, not_false_eq_true, ne_eq, forall_const, true_implies, false_implies, implies_true] at g_v1 g_v2 g_v3 g_v5 hn2 hn20 tx1 g2 c3 c6 c9 b10 b11 ⊢) <;> omega) (by (try simp only [i_lt, i_le, i_eq, Int32.toInt_toInt64, Int32.reduceToInt, Int64.reduceToInt, true_and, and_true, false_and, and_false, false_or, or_false, true_or, or_true, not_true_eq_false, not_false_eq_true, ne_eq, forall_const, true_implies, false_implies, implies_true] at g_v1 g_v2 g_v3 g_v5 hn2 hn20 tx1 g2 c3 c6 c9 b10 b11 ⊢) <;> omega)
                refine lv_iinc (v := x12) (lv' := [(5, .int x12), (0, .ref h0), (1, .int v1), (2, .int v2), (3, .int v3), (4, .int v4)]) hx hb dX12_lightsOf_57 hl (k := 5) rfl (by rw [ex12]; rfl) (by decide) rfl (fun ls hl => ?_)
                refine lv_goto (tgt := 20) hx hb dX12_lightsOf_60 (by decide) ?_
                exact ih20 ls v1 v2 v3 v4 x12 (by (try simp only [i_lt, i_le, i_eq, Int32.toInt_toInt64, Int32.reduceToInt, Int64.reduceToInt, true_and, and_true, false_and, and_false, false_or, or_false, true_or, or_true, not_true_eq_false, not_false_eq_true, ne_eq, forall_const, true_implies, false_implies, implies_true] at g_v1 g_v2 g_v3 g_v5 hn2 hn20 tx1 g2 c3 c6 c9 b10 b11 tx12 ⊢) <;> omega) (by (try simp only [i_lt, i_le, i_eq, Int32.toInt_toInt64, Int32.reduceToInt, Int64.reduceToInt, true_and, and_true, false_and, and_false, false_or, or_false, true_or, or_true, not_true_eq_false, not_false_eq_true, ne_eq, forall_const, true_implies, false_implies, implies_true] at g_v1 g_v2 g_v3 g_v5 hn2 hn20 tx1 g2 c3 c6 c9 b10 b11 tx12 ⊢) <;> omega) (by (try simp only [i_lt, i_le, i_eq, Int32.toInt_toInt64, Int32.reduceToInt, Int64.reduceToInt, true_and, and_true, false_and, and_false, false_or, or_false, true_or, or_true, not_true_eq_false, not_false_eq_true, ne_eq, forall_const, true_implies, false_implies, implies_true] at g_v1 g_v2 g_v3 g_v5 hn2 hn20 tx1 g2 c3 c6 c9 b10 b11 tx12 ⊢) <;> omega) (by (try simp only [i_lt, i_le, i_eq, Int32.toInt_toInt64, Int32.reduceToInt, Int64.reduceToInt, true_and, and_true, false_and, and_false, false_or, or_false, true_or, or_true, not_true_eq_false, not_false_eq_true, ne_eq, forall_const, true_implies, false_implies, implies_true] at g_v1 g_v2 g_v3 g_v5 hn2 hn20 tx1 g2 c3 c6 c9 b10 b11 tx12 ⊢) <;> omega) (by (try simp only [i_lt, i_le, i_eq, Int32.toInt_toInt64, Int32.reduceToInt, Int64.reduceToInt, true_and, and_true, false_and, and_false, false_or, or_false, true_or, or_true, not_true_eq_false, not_false_eq_true, ne_eq, forall_const, true_implies, false_implies, implies_true] at g_v1 g_v2 g_v3 g_v5 hn2 hn20 tx1 g2 c3 c6 c9 b10 b11 tx12 ⊢) <;> omega) (by (try simp only [i_lt, i_le, i_eq, Int32.toInt_toInt64, Int32.reduceToInt, Int64.reduceToInt, true_and, and_true, false_and, and_false, false_or, or_false, true_or, or_true, not_true_eq_false, not_false_eq_true, ne_eq, forall_const, true_implies, false_implies, implies_true] at g_v1 g_v2 g_v3 g_v5 hn2 hn20 tx1 g2 c3 c6 c9 b10 b11 tx12 ⊢) <;> omega) (lv_sub hl [1, 2, 3, 4, 5, 0] rfl)
              · have b13 := Int32.toInt_lt r8
                have b14 := Int32.toInt_lt v4
                refine lv_iload_n hx hb dX12_lightsOf_55 rfl (lv_at hl 3 rfl) ?_
                exact W.iret (v := v3) hx hb hr (fun t ht hW => ⟨v3, rfl, (by (try simp only [i_lt, i_le, i_eq, Int32.toInt_toInt64, Int32.reduceToInt, Int64.reduceToInt, true_and, and_true, false_and, and_false, false_or, or_false, true_or, or_true, not_true_eq_false, not_false_eq_true, ne_eq, forall_const, true_implies, false_implies, implies_true] at g_v1 g_v2 g_v3 g_v5 hn2 hn20 tx1 g2 c3 c6 c9 b13 b14 ⊢) <;> omega), ht⟩) (fun q h => by cases h) dX12_lightsOf_56
      refine lv_iload_n hx hb dX12_lightsOf_2 rfl (lv_at hl 3 rfl) ?_
      refine lv_bipush (v := 60) hx hb dX12_lightsOf_3 (by decide) ?_
      refine lv_icmp_gt (tgt := 69) hx hb dX12_lightsOf_5 (by decide) (fun c15 => ?_) (fun c15 => ?_)
      · refine lv_iconst (v := (-1)) hx hb dX12_lightsOf_69 (by decide) ?_
        exact W.iret (v := (-1)) hx hb hr (fun t ht hW => ⟨(-1), rfl, (by decide), ht⟩) (fun q h => by cases h) dX12_lightsOf_70
      · refine lv_aload_n hx hb dX12_lightsOf_8 rfl (lv_at hl 0 rfl) ?_
        refine lv_iload_n hx hb dX12_lightsOf_9 rfl (lv_at hl 1 rfl) ?_
        refine lv_iload_n hx hb dX12_lightsOf_10 rfl (lv_at hl 2 rfl) ?_
        refine lv_iload_n hx hb dX12_lightsOf_11 rfl (lv_at hl 3 rfl) ?_
        refine rvi (C := RX12) (As := [.int v1, .int v2, .int v3]) (rest := []) ⟨hx, hb, hml, hown, hts⟩ (t_X12_reachOf l D k u hu h0 m_h0 k_h0 v1 v2 v3 (by (try simp only [i_lt, i_le, i_eq, Int32.toInt_toInt64, Int32.reduceToInt, Int64.reduceToInt, true_and, and_true, false_and, and_false, false_or, or_false, true_or, or_true, not_true_eq_false, not_false_eq_true, ne_eq, forall_const, true_implies, false_implies, implies_true] at g_v1 g_v2 g_v3 hn2 c15 ⊢) <;> omega) (by (try simp only [i_lt, i_le, i_eq, Int32.toInt_toInt64, Int32.reduceToInt, Int64.reduceToInt, true_and, and_true, false_and, and_false, false_or, or_false, true_or, or_true, not_true_eq_false, not_false_eq_true, ne_eq, forall_const, true_implies, false_implies, implies_true] at g_v1 g_v2 g_v3 hn2 c15 ⊢) <;> omega) (by (try simp only [i_lt, i_le, i_eq, Int32.toInt_toInt64, Int32.reduceToInt, Int64.reduceToInt, true_and, and_true, false_and, and_false, false_or, or_false, true_or, or_true, not_true_eq_false, not_false_eq_true, ne_eq, forall_const, true_implies, false_implies, implies_true] at g_v1 g_v2 g_v3 hn2 c15 ⊢) <;> omega)) (cwV 3 hts gX12_lightsOf_X12_reachOf rfl rfl rfl (by decide +kernel) ⟨Nat.le_of_ble_eq_true rfl, Nat.le_of_ble_eq_true rfl⟩) hP hK (precv hK hP m_h0 (cF12 k_h0) rfl) rfl hl.1 rfl (Nat.le_of_ble_eq_true rfl) dX12_lightsOf_12 ⟨Nat.le_of_ble_eq_true rfl, Nat.le_of_ble_eq_true rfl⟩ (fun r16 hr16 => ?_)
        refine lv_istore (lv' := [(4, .int r16), (0, .ref h0), (1, .int v1), (2, .int v2), (3, .int v3)]) hx hb dX12_lightsOf_15 hl (by decide) rfl (fun ls hl => ?_)
        refine lv_iconst (v := 0) hx hb dX12_lightsOf_17 (by decide) ?_
        refine lv_istore (lv' := [(5, .int 0), (4, .int r16), (0, .ref h0), (1, .int v1), (2, .int v2), (3, .int v3)]) hx hb dX12_lightsOf_18 hl (by decide) rfl (fun ls hl => ?_)
        exact B20 _ ls v1 v2 v3 r16 0 (Nat.le_refl _) (by (try simp only [i_lt, i_le, i_eq, Int32.toInt_toInt64, Int32.reduceToInt, Int64.reduceToInt, true_and, and_true, false_and, and_false, false_or, or_false, true_or, or_true, not_true_eq_false, not_false_eq_true, ne_eq, forall_const, true_implies, false_implies, implies_true] at g_v1 g_v2 g_v3 hn2 c15 ⊢) <;> omega) (by (try simp only [i_lt, i_le, i_eq, Int32.toInt_toInt64, Int32.reduceToInt, Int64.reduceToInt, true_and, and_true, false_and, and_false, false_or, or_false, true_or, or_true, not_true_eq_false, not_false_eq_true, ne_eq, forall_const, true_implies, false_implies, implies_true] at g_v1 g_v2 g_v3 hn2 c15 ⊢) <;> omega) (by (try simp only [i_lt, i_le, i_eq, Int32.toInt_toInt64, Int32.reduceToInt, Int64.reduceToInt, true_and, and_true, false_and, and_false, false_or, or_false, true_or, or_true, not_true_eq_false, not_false_eq_true, ne_eq, forall_const, true_implies, false_implies, implies_true] at g_v1 g_v2 g_v3 hn2 c15 ⊢) <;> omega) (by (try simp only [i_lt, i_le, i_eq, Int32.toInt_toInt64, Int32.reduceToInt, Int64.reduceToInt, true_and, and_true, false_and, and_false, false_or, or_false, true_or, or_true, not_true_eq_false, not_false_eq_true, ne_eq, forall_const, true_implies, false_implies, implies_true] at g_v1 g_v2 g_v3 hn2 c15 ⊢) <;> omega) (by (try simp only [i_lt, i_le, i_eq, Int32.toInt_toInt64, Int32.reduceToInt, Int64.reduceToInt, true_and, and_true, false_and, and_false, false_or, or_false, true_or, or_true, not_true_eq_false, not_false_eq_true, ne_eq, forall_const, true_implies, false_implies, implies_true] at g_v1 g_v2 g_v3 hn2 c15 ⊢) <;> omega) (lv_sub hl [2, 3, 4, 5, 1, 0] rfl)
  have hl := lv_entry ([.ref h0, .int p1, .int p2]) (n := 6) (Nat.le_of_ble_eq_true rfl)
  rw [lg_entry_eq]
  generalize (lg_sl ([.ref h0, .int p1, .int p2]) ++ List.replicate (6 - (lg_sl ([.ref h0, .int p1, .int p2])).length) Slot.unset).toArray = ls at hl ⊢
  have hl : lv_has ls 6 [(0, .ref h0), (1, .int p1), (2, .int p2)] := hl
  refine lv_iconst (v := 1) hx hb dX12_lightsOf_0 (by decide) ?_
  refine lv_istore_n (lv' := [(3, .int 1), (0, .ref h0), (1, .int p1), (2, .int p2)]) hx hb dX12_lightsOf_1 rfl hl (by decide) rfl (fun ls hl => ?_)
  exact B2 _ ls p1 p2 1 (Nat.le_refl _) (by (try simp only [i_lt, i_le, i_eq, Int32.toInt_toInt64, Int32.reduceToInt, Int64.reduceToInt, true_and, and_true, false_and, and_false, false_or, or_false, true_or, or_true, not_true_eq_false, not_false_eq_true, ne_eq, forall_const, true_implies, false_implies, implies_true] at g_p1 g_p2 ⊢) <;> omega) (by (try simp only [i_lt, i_le, i_eq, Int32.toInt_toInt64, Int32.reduceToInt, Int64.reduceToInt, true_and, and_true, false_and, and_false, false_or, or_false, true_or, or_true, not_true_eq_false, not_false_eq_true, ne_eq, forall_const, true_implies, false_implies, implies_true] at g_p1 g_p2 ⊢) <;> omega) (by (try simp only [i_lt, i_le, i_eq, Int32.toInt_toInt64, Int32.reduceToInt, Int64.reduceToInt, true_and, and_true, false_and, and_false, false_or, or_false, true_or, or_true, not_true_eq_false, not_false_eq_true, ne_eq, forall_const, true_implies, false_implies, implies_true] at g_p1 g_p2 ⊢) <;> omega) (lv_sub hl [1, 2, 3, 0] rfl)
set_option maxHeartbeats 4000000 in
set_option maxRecDepth 100000 in
theorem t_X12_needOf (l : Launch) (D : va_G) (k : Nat → ClassId) (u0 : PSt) (hu : WT u0) (h0 : Nat) (m_h0 : h0 ∈ u0.1) (k_h0 : u0.2.1 h0 = 12) (p1 : Int32) (p2 : Int32) (g_p1 : 0 ≤ p1.toInt ∧ p1.toInt ≤ 11) (sz : Nat) : Met l yX12_needOf wsX12_needOf ({ frames := 3, cells := 0, slots := 0, locals := 72 }) (PreM D k sz (PW k u0) [.ref h0, .int p1, .int p2]) (va_Ql (fun r v => WT v ∧ PX u0 v ∧ (True)) (WB D (va_A (PW k u0) sz) (PW k)) (va_A (PW k u0) sz)) 0 0 (va_A (PW k u0) sz) := by
  refine Met.ofW (cc := cX12_needOf) (maxL := 5) (ret := (some .long)) (by decide) rfl ?_
  intro p e s m args below meth c s₁ B hml hv
  obtain ⟨rfl, hsz, hP, hK, hD0, hN⟩ := hv
  have hx := B.exec
  have hb := B.bytes
  have hr := B.returns
  have hts := atoms_spec (ws := wsX12_needOf) B.pre
  have hown : s.vm.findClass RX12 = some m.cls := findClass_of_methodNamed B.named
  have hlocks := B.notSynchronized
  have m0_h0 := m_h0
  have k0_h0 := k_h0
  subst hsz
  have hD := hD0.self (sz := s.heap.size)
  generalize hAe : va_A (PW k u0) s.heap.size = A at hD ⊢
  have hA : ∀ q : Nat, s.heap.size ≤ q → A q := fun q h => by rw [← hAe]; exact Or.inr h
  have hS : va_S A s.heap s.heap [] := va_S.rf
  have hp : PX u0 u0 := PX.rf
  have hl := lv_entry ([.ref h0, .int p1, .int p2]) (n := 5) (Nat.le_of_ble_eq_true rfl)
  rw [lg_entry_eq]
  generalize (lg_sl ([.ref h0, .int p1, .int p2]) ++ List.replicate (5 - (lg_sl ([.ref h0, .int p1, .int p2])).length) Slot.unset).toArray = ls at hl ⊢
  have hl : lv_has ls 5 [(0, .ref h0), (1, .int p1), (2, .int p2)] := hl
  refine lv_iload_n hx hb dX12_needOf_0 rfl (lv_at hl 2 rfl) ?_
  refine lv_i2l hx hb dX12_needOf_1 rfl ?_
  have b1 := Int32.toInt_lt p2
  have ab1 := Int32.le_toInt p2
  refine lv_topl (fun x2 ex2 => ?_)
  have tx2 : x2.toInt = p2.toInt := by rw [ex2]; exact Int32.toInt_toInt64 _
  refine lv_aload_n hx hb dX12_needOf_2 rfl (lv_at hl 0 rfl) ?_
  refine lv_iload_n hx hb dX12_needOf_3 rfl (lv_at hl 1 rfl) ?_
  refine lv_iconst (v := 2) hx hb dX12_needOf_4 (by decide) ?_
  refine rvi (C := RX12) (As := [.int p1, .int 2]) (rest := [.long x2]) ⟨hx, hb, hml, hown, hts⟩ (t_X12_ofPipe l D k u0 hu h0 m_h0 k_h0 p1 2 (by (try simp only [i_lt, i_le, i_eq, Int32.toInt_toInt64, Int32.reduceToInt, Int64.reduceToInt, true_and, and_true, false_and, and_false, false_or, or_false, true_or, or_true, not_true_eq_false, not_false_eq_true, ne_eq, forall_const, true_implies, false_implies, implies_true] at g_p1 b1 ab1 tx2 ⊢) <;> omega) (by decide)) (cwV 2 hts gX12_needOf_X12_ofPipe rfl rfl rfl (by decide +kernel) ⟨Nat.le_of_ble_eq_true rfl, Nat.le_of_ble_eq_true rfl⟩) hP hK (precv hK hP m_h0 (cF12 k_h0) rfl) rfl hl.1 rfl (Nat.le_of_ble_eq_true rfl) dX12_needOf_5 ⟨Nat.le_of_ble_eq_true rfl, Nat.le_of_ble_eq_true rfl⟩ (fun r3 hr3 => ?_)
  replace hr3 : 0 ≤ r3.toInt ∧ r3.toInt ≤ 40 := by have h := hr3.1; clear hr3; (simp only [i_lt, i_le, i_eq, Int32.toInt_toInt64, Int32.reduceToInt, Int64.reduceToInt, true_and, and_true, false_and, and_false, false_or, or_false, true_or, or_true, not_true_eq_false, not_false_eq_true, ne_eq, forall_const, true_implies, false_implies, implies_true] at h) <;> omega
  refine lv_i2l hx hb dX12_needOf_8 rfl ?_
  refine lv_topl (fun x4 ex4 => ?_)
  have tx4 : x4.toInt = r3.toInt := by rw [ex4]; exact Int32.toInt_toInt64 _
  refine lv_lmul hx hb dX12_needOf_9 ?_
  refine lv_topl (fun x5 ex5 => ?_)
  refine lv_aload_n hx hb dX12_needOf_10 rfl (lv_at hl 0 rfl) ?_
  refine lv_iload_n hx hb dX12_needOf_11 rfl (lv_at hl 1 rfl) ?_
  refine lv_iconst (v := 2) hx hb dX12_needOf_12 (by decide) ?_
  refine rvi (C := RX12) (As := [.int p1, .int 2]) (rest := [.long x5]) ⟨hx, hb, hml, hown, hts⟩ (t_X12_ofPipe l D k u0 hu h0 m_h0 k_h0 p1 2 (by (try simp only [i_lt, i_le, i_eq, Int32.toInt_toInt64, Int32.reduceToInt, Int64.reduceToInt, true_and, and_true, false_and, and_false, false_or, or_false, true_or, or_true, not_true_eq_false, not_false_eq_true, ne_eq, forall_const, true_implies, false_implies, implies_true] at g_p1 b1 ab1 tx2 hr3 tx4 ⊢) <;> omega) (by decide)) (cwV 2 hts gX12_needOf_X12_ofPipe rfl rfl rfl (by decide +kernel) ⟨Nat.le_of_ble_eq_true rfl, Nat.le_of_ble_eq_true rfl⟩) hP hK (precv hK hP m_h0 (cF12 k_h0) rfl) rfl hl.1 rfl (Nat.le_of_ble_eq_true rfl) dX12_needOf_13 ⟨Nat.le_of_ble_eq_true rfl, Nat.le_of_ble_eq_true rfl⟩ (fun r6 hr6 => ?_)
  replace hr6 : 0 ≤ r6.toInt ∧ r6.toInt ≤ 40 := by have h := hr6.1; clear hr6; (simp only [i_lt, i_le, i_eq, Int32.toInt_toInt64, Int32.reduceToInt, Int64.reduceToInt, true_and, and_true, false_and, and_false, false_or, or_false, true_or, or_true, not_true_eq_false, not_false_eq_true, ne_eq, forall_const, true_implies, false_implies, implies_true] at h) <;> omega
  refine lv_i2l hx hb dX12_needOf_16 rfl ?_
  refine lv_topl (fun x7 ex7 => ?_)
  have tx7 : x7.toInt = r6.toInt := by rw [ex7]; exact Int32.toInt_toInt64 _
  refine lv_lmul hx hb dX12_needOf_17 ?_
  refine lv_topl (fun x8 ex8 => ?_)
  refine lv_aload_n hx hb dX12_needOf_18 rfl (lv_at hl 0 rfl) ?_
  refine lv_iload_n hx hb dX12_needOf_19 rfl (lv_at hl 1 rfl) ?_
  refine wiV (C := RX12) (As := [.int p1]) (rest := [.long x8]) ⟨hx, hb, hml, hown, hts⟩ (fun sz => t_X12_leverOf l D k u0 hu h0 m_h0 k_h0 p1 (by (try simp only [i_lt, i_le, i_eq, Int32.toInt_toInt64, Int32.reduceToInt, Int64.reduceToInt, true_and, and_true, false_and, and_false, false_or, or_false, true_or, or_true, not_true_eq_false, not_false_eq_true, ne_eq, forall_const, true_implies, false_implies, implies_true] at g_p1 b1 ab1 tx2 hr3 tx4 hr6 tx7 ⊢) <;> omega) sz) (cwV 1 hts gX12_needOf_X12_leverOf rfl rfl rfl (by decide +kernel) ⟨Nat.le_of_ble_eq_true rfl, Nat.le_of_ble_eq_true rfl⟩) hP hK hD hN hS hA (precv hK hP m_h0 (cF12 k_h0) rfl) rfl hl.1 rfl (Nat.le_of_ble_eq_true rfl) dX12_needOf_20 ⟨Nat.le_of_ble_eq_true rfl, Nat.le_of_ble_eq_true rfl⟩ (fun r9 u10 H locs hqu10 hP hD hS => ?_)
  obtain ⟨hu, hxu10, hr9⟩ := hqu10
  have hp := PX.trans hp hxu10
  refine lv_i2l hx hb dX12_needOf_23 rfl ?_
  have b11 := Int32.toInt_lt r9
  have ab11 := Int32.le_toInt r9
  refine lv_topl (fun x12 ex12 => ?_)
  have tx12 : x12.toInt = r9.toInt := by rw [ex12]; exact Int32.toInt_toInt64 _
  refine lv_lmul hx hb dX12_needOf_24 ?_
  refine lv_topl (fun x13 ex13 => ?_)
  refine lv_lstore_n (lv' := [(3, .long x13), (0, .ref h0), (1, .int p1), (2, .int p2)]) hx hb dX12_needOf_25 rfl hl (by decide) rfl (fun ls hl => ?_)
  refine lv_lload_n hx hb dX12_needOf_26 rfl (lv_at hl 0 rfl) ?_
  refine lv_aload_n hx hb dX12_needOf_27 rfl (lv_at hl 1 rfl) ?_
  refine lv_iload_n hx hb dX12_needOf_28 rfl (lv_at hl 2 rfl) ?_
  refine lv_bipush (v := 6) hx hb dX12_needOf_29 (by decide) ?_
  have k_h0 : u10.2.1 h0 = 12 := (hp h0 m0_h0).2.1.trans k0_h0
  have m_h0 : h0 ∈ u10.1 := (hp h0 m0_h0).1
  refine rvi (C := RX12) (As := [.int p1, .int 6]) (rest := [.long x13]) ⟨hx, hb, hml, hown, hts⟩ (t_X12_ofPipe l D k u10 hu h0 m_h0 k_h0 p1 6 (by (try simp only [i_lt, i_le, i_eq, Int32.toInt_toInt64, Int32.reduceToInt, Int64.reduceToInt, true_and, and_true, false_and, and_false, false_or, or_false, true_or, or_true, not_true_eq_false, not_false_eq_true, ne_eq, forall_const, true_implies, false_implies, implies_true] at g_p1 b1 ab1 tx2 hr3 tx4 hr6 tx7 b11 ab11 tx12 ⊢) <;> omega) (by decide)) (cwV 2 hts gX12_needOf_X12_ofPipe rfl rfl rfl (by decide +kernel) ⟨Nat.le_of_ble_eq_true rfl, Nat.le_of_ble_eq_true rfl⟩) hP hK (precv hK hP m_h0 (cF12 k_h0) rfl) rfl hl.1 rfl (Nat.le_of_ble_eq_true rfl) dX12_needOf_31 ⟨Nat.le_of_ble_eq_true rfl, Nat.le_of_ble_eq_true rfl⟩ (fun r14 hr14 => ?_)
  clear hr14
  refine lv_iconst (v := 1) hx hb dX12_needOf_34 (by decide) ?_
  refine lv_icmp_ne (tgt := 42) hx hb dX12_needOf_35 (by decide) (fun c15 => ?_) (fun c15 => ?_)
  · refine lv_ldc2 (own := RX12) (v := 100) hx hb hown (hts (.constantLong RX12 336 (100)) (by decide +kernel)) dX12_needOf_42 ?_
    refine lv_aload_n hx hb dX12_needOf_45 rfl (lv_at hl 1 rfl) ?_
    refine lv_iload_n hx hb dX12_needOf_46 rfl (lv_at hl 2 rfl) ?_
    refine wiV (C := RX12) (As := [.int p1]) (rest := [.long 100, .long x13]) ⟨hx, hb, hml, hown, hts⟩ (fun sz => t_X12_weightOf l D k u10 hu h0 m_h0 k_h0 p1 (by (try simp only [i_lt, i_le, i_eq, Int32.toInt_toInt64, Int32.reduceToInt, Int64.reduceToInt, true_and, and_true, false_and, and_false, false_or, or_false, true_or, or_true, not_true_eq_false, not_false_eq_true, ne_eq, forall_const, true_implies, false_implies, implies_true] at g_p1 b1 ab1 tx2 hr3 tx4 hr6 tx7 b11 ab11 tx12 c15 ⊢) <;> omega) sz) (cwV 1 hts gX12_needOf_X12_weightOf rfl rfl rfl (by decide +kernel) ⟨Nat.le_of_ble_eq_true rfl, Nat.le_of_ble_eq_true rfl⟩) hP hK hD hN hS hA (precv hK hP m_h0 (cF12 k_h0) rfl) rfl hl.1 rfl (Nat.le_of_ble_eq_true rfl) dX12_needOf_47 ⟨Nat.le_of_ble_eq_true rfl, Nat.le_of_ble_eq_true rfl⟩ (fun r16 u17 H locs hqu17 hP hD hS => ?_)
    obtain ⟨hu, hxu17, hr16⟩ := hqu17
    have hp := PX.trans hp hxu17
    refine lv_i2l hx hb dX12_needOf_50 rfl ?_
    have b18 := Int32.toInt_lt r16
    have ab18 := Int32.le_toInt r16
    refine lv_topl (fun x19 ex19 => ?_)
    have tx19 : x19.toInt = r16.toInt := by rw [ex19]; exact Int32.toInt_toInt64 _
    refine lv_lmul hx hb dX12_needOf_51 ?_
    refine lv_topl (fun x20 ex20 => ?_)
    refine lv_ladd hx hb dX12_needOf_52 ?_
    refine lv_topl (fun x21 ex21 => ?_)
    exact W.lret (v := x21) hx hb hr (fun t ht hW => ⟨⟨x21, u17, rfl, ⟨hu, hp, trivial⟩, by rw [ht]; exact hP, hD⟩, hS.F ht⟩) hS.2.2 dX12_needOf_53
  · refine lv_lconst (v := 0) hx hb dX12_needOf_38 (by decide) ?_
    refine lv_goto (tgt := 52) hx hb dX12_needOf_39 (by decide) ?_
    refine lv_ladd hx hb dX12_needOf_52 ?_
    refine lv_topl (fun x22 ex22 => ?_)
    exact W.lret (v := x22) hx hb hr (fun t ht hW => ⟨⟨x22, u10, rfl, ⟨hu, hp, trivial⟩, by rw [ht]; exact hP, hD⟩, hS.F ht⟩) hS.2.2 dX12_needOf_53
set_option maxHeartbeats 4000000 in
set_option maxRecDepth 100000 in
theorem t_X12_pipe (l : Launch) (D : va_G) (k : Nat → ClassId) (u0 : PSt) (hu : WT u0) (h0 : Nat) (m_h0 : h0 ∈ u0.1) (k_h0 : u0.2.1 h0 = 12) (p1 : Int32) (p2 : Int32) (sz : Nat) : Met l yX12_pipe wsX12_pipe ({ frames := 3, cells := 0, slots := 0, locals := 72 }) (PreM D k sz (PW k u0) [.ref h0, .int p1, .int p2]) (va_Qi (fun r v => WT v ∧ PX u0 v ∧ (True)) (WB D (va_A (PW k u0) sz) (PW k)) (va_A (PW k u0) sz)) 0 0 (va_A (PW k u0) sz) := by
  refine Met.ofW (cc := cX12_pipe) (maxL := 3) (ret := (some .int)) (by decide) rfl ?_
  intro p e s m args below meth c s₁ B hml hv
  obtain ⟨rfl, hsz, hP, hK, hD0, hN⟩ := hv
  have hx := B.exec
  have hb := B.bytes
  have hr := B.returns
  have hts := atoms_spec (ws := wsX12_pipe) B.pre
  have hown : s.vm.findClass RX12 = some m.cls := findClass_of_methodNamed B.named
  have hlocks := B.notSynchronized
  have i_X12 : ∀ w ∈ wsX120, w ∈ wsX12_pipe := by decide +kernel
  have m0_h0 := m_h0
  have k0_h0 := k_h0
  subst hsz
  have hD := hD0.self (sz := s.heap.size)
  generalize hAe : va_A (PW k u0) s.heap.size = A at hD ⊢
  have hA : ∀ q : Nat, s.heap.size ≤ q → A q := fun q h => by rw [← hAe]; exact Or.inr h
  have hS : va_S A s.heap s.heap [] := va_S.rf
  have hp : PX u0 u0 := PX.rf
  have hl := lv_entry ([.ref h0, .int p1, .int p2]) (n := 3) (Nat.le_of_ble_eq_true rfl)
  rw [lg_entry_eq]
  generalize (lg_sl ([.ref h0, .int p1, .int p2]) ++ List.replicate (3 - (lg_sl ([.ref h0, .int p1, .int p2])).length) Slot.unset).toArray = ls at hl ⊢
  have hl : lv_has ls 3 [(0, .ref h0), (1, .int p1), (2, .int p2)] := hl
  refine lv_aload_n hx hb dX12_pipe_0 rfl (lv_at hl 0 rfl) ?_
  refine lv_iload_n hx hb dX12_pipe_1 rfl (lv_at hl 1 rfl) ?_
  refine rvi (C := RX12) (As := [.int p1]) (rest := []) ⟨hx, hb, hml, hown, hts⟩ (t_X12_isPipe l D k u0 hu h0 m_h0 k_h0 p1) (cwV 1 hts gX12_pipe_X12_isPipe rfl rfl rfl (by decide +kernel) ⟨Nat.le_of_ble_eq_true rfl, Nat.le_of_ble_eq_true rfl⟩) hP hK (precv hK hP m_h0 (cF12 k_h0) rfl) rfl hl.1 rfl (Nat.le_of_ble_eq_true rfl) dX12_pipe_2 ⟨Nat.le_of_ble_eq_true rfl, Nat.le_of_ble_eq_true rfl⟩ (fun r1 hr1 => ?_)
  refine lv_if_eq (tgt := 20) hx hb dX12_pipe_5 (by decide) (fun c2 => ?_) (fun c2 => ?_)
  · have eb3 : r1.toInt = 0 := by rcases hr1 with q | ⟨q, -⟩; exact q; (exact absurd (c2) (fun w => by rw [w] at q; exact absurd q (by decide)))
    clear hr1
    refine lv_ldcw (own := RX12) (v := (-2000000000)) hx hb hown (hts (.constant RX12 302 (-2000000000)) (by decide +kernel)) dX12_pipe_20 ?_
    exact W.iret (v := (-2000000000)) hx hb hr (fun t ht hW => ⟨⟨(-2000000000), u0, rfl, ⟨hu, hp, trivial⟩, by rw [ht]; exact hP, hD⟩, hS.F ht⟩) hS.2.2 dX12_pipe_23
  · have eb4 : r1.toInt = 1 := by rcases hr1 with q | ⟨q, -⟩; exact absurd (i_eq.mpr q) c2; exact q
    have fb4 : 0 ≤ p1.toInt ∧ p1.toInt ≤ 11 := by rcases hr1 with q | ⟨q, r⟩; exact absurd q (by omega); exact r
    clear hr1
    refine lv_iload_n hx hb dX12_pipe_8 rfl (lv_at hl 2 rfl) ?_
    refine lv_i2l hx hb dX12_pipe_9 rfl ?_
    have b5 := Int32.toInt_lt p2
    have ab5 := Int32.le_toInt p2
    refine lv_topl (fun x6 ex6 => ?_)
    have tx6 : x6.toInt = p2.toInt := by rw [ex6]; exact Int32.toInt_toInt64 _
    refine lv_lconst (v := 0) hx hb dX12_pipe_10 (by decide) ?_
    refine lv_ldc2 (own := RX12) (v := 7) hx hb hown (hts (.constantLong RX12 323 (7)) (by decide +kernel)) dX12_pipe_11 ?_
    refine psi (As := [.long x6, .long 0, .long 7]) (rest := []) ⟨hx, hb, hml, hown, hts⟩ (t_X12_in l D k x6 0 7) (va_cwS 3 hts gX12_pipe_X12_in rfl rfl rfl (by decide +kernel) ⟨Nat.le_of_ble_eq_true rfl, Nat.le_of_ble_eq_true rfl⟩) hK rfl hl.1 rfl (Nat.le_of_ble_eq_true rfl) dX12_pipe_14 ⟨Nat.le_of_ble_eq_true rfl, Nat.le_of_ble_eq_true rfl⟩ (fun r7 hr7 => ?_)
    refine lv_if_ne (tgt := 24) hx hb dX12_pipe_17 (by decide) (fun c8 => ?_) (fun c8 => ?_)
    · have eb9 : r7.toInt = 1 := by rcases hr7 with ⟨q, -⟩ | ⟨q, -⟩; exact absurd (i_eq.mpr q) c8; exact q
      have fb9 : (0 : Int64).toInt ≤ x6.toInt ∧ x6.toInt ≤ (7 : Int64).toInt := by rcases hr7 with ⟨q, r⟩ | ⟨q, r⟩; exact absurd q (by omega); exact r
      clear hr7
      refine lv_aload_n hx hb dX12_pipe_24 rfl (lv_at hl 0 rfl) ?_
      refine lv_iload_n hx hb dX12_pipe_25 rfl (lv_at hl 1 rfl) ?_
      refine wvV (C := RX12) (As := [.int p1]) (rest := []) ⟨hx, hb, hml, hown, hts⟩ (fun sz => t_X12_bends l D k u0 hu h0 m_h0 k_h0 p1 (by (try simp only [i_lt, i_le, i_eq, Int32.toInt_toInt64, Int32.reduceToInt, Int64.reduceToInt, true_and, and_true, false_and, and_false, false_or, or_false, true_or, or_true, not_true_eq_false, not_false_eq_true, ne_eq, forall_const, true_implies, false_implies, implies_true] at eb4 fb4 b5 ab5 tx6 eb9 fb9 ⊢) <;> omega) sz) (cwV 1 hts gX12_pipe_X12_bends rfl rfl rfl (by decide +kernel) ⟨Nat.le_of_ble_eq_true rfl, Nat.le_of_ble_eq_true rfl⟩) hP hK hD hN hS hA (precv hK hP m_h0 (cF12 k_h0) rfl) rfl hl.1 rfl (Nat.le_of_ble_eq_true rfl) dX12_pipe_26 ⟨Nat.le_of_ble_eq_true rfl, Nat.le_of_ble_eq_true rfl⟩ (fun u11 H locs hqu11 hP hD hS => ?_)
      obtain ⟨hu, hxu11, hr10⟩ := hqu11
      have hp := PX.trans hp hxu11
      refine lv_iload_n hx hb dX12_pipe_29 rfl (lv_at hl 2 rfl) ?_
      by_cases k12 : p2 = 0
      · refine lv_tableIn (tgt := 72) hx hb dX12_pipe_30 (by rw [k12]; decide) (by rw [k12]; decide) (by rw [k12]; rfl) (by decide) ?_
        refine lv_aload_n hx hb dX12_pipe_72 rfl (lv_at hl 0 rfl) ?_
        refine lv_iload_n hx hb dX12_pipe_73 rfl (lv_at hl 1 rfl) ?_
        refine lv_iconst (v := 0) hx hb dX12_pipe_74 (by decide) ?_
        have k_h0 : u11.2.1 h0 = 12 := (hp h0 m0_h0).2.1.trans k0_h0
        have m_h0 : h0 ∈ u11.1 := (hp h0 m0_h0).1
        refine rvi (C := RX12) (As := [.int p1, .int 0]) (rest := []) ⟨hx, hb, hml, hown, hts⟩ (t_X12_ofPipe l D k u11 hu h0 m_h0 k_h0 p1 0 (by (try simp only [i_lt, i_le, i_eq, Int32.toInt_toInt64, Int32.reduceToInt, Int64.reduceToInt, true_and, and_true, false_and, and_false, false_or, or_false, true_or, or_true, not_true_eq_false, not_false_eq_true, ne_eq, forall_const, true_implies, false_implies, implies_true] at eb4 fb4 b5 ab5 tx6 eb9 fb9 k12 ⊢) <;> omega) (by decide)) (cwV 2 hts gX12_pipe_X12_ofPipe rfl rfl rfl (by decide +kernel) ⟨Nat.le_of_ble_eq_true rfl, Nat.le_of_ble_eq_true rfl⟩) hP hK (precv hK hP m_h0 (cF12 k_h0) rfl) rfl hl.1 rfl (Nat.le_of_ble_eq_true rfl) dX12_pipe_75 ⟨Nat.le_of_ble_eq_true rfl, Nat.le_of_ble_eq_true rfl⟩ (fun r13 hr13 => ?_)
        replace hr13 : 0 ≤ r13.toInt ∧ r13.toInt ≤ 7 := by have h := hr13.1; clear hr13; (simp only [i_lt, i_le, i_eq, Int32.toInt_toInt64, Int32.reduceToInt, Int64.reduceToInt, true_and, and_true, false_and, and_false, false_or, or_false, true_or, or_true, not_true_eq_false, not_false_eq_true, ne_eq, forall_const, true_implies, false_implies, implies_true] at h) <;> omega
        exact W.iret (v := r13) hx hb hr (fun t ht hW => ⟨⟨r13, u11, rfl, ⟨hu, hp, trivial⟩, by rw [ht]; exact hP, hD⟩, hS.F ht⟩) hS.2.2 dX12_pipe_78
      by_cases k14 : p2 = 1
      · refine lv_tableIn (tgt := 79) hx hb dX12_pipe_30 (by rw [k14]; decide) (by rw [k14]; decide) (by rw [k14]; rfl) (by decide) ?_
        refine lv_aload_n hx hb dX12_pipe_79 rfl (lv_at hl 0 rfl) ?_
        refine lv_iload_n hx hb dX12_pipe_80 rfl (lv_at hl 1 rfl) ?_
        refine lv_iconst (v := 1) hx hb dX12_pipe_81 (by decide) ?_
        have k_h0 : u11.2.1 h0 = 12 := (hp h0 m0_h0).2.1.trans k0_h0
        have m_h0 : h0 ∈ u11.1 := (hp h0 m0_h0).1
        refine rvi (C := RX12) (As := [.int p1, .int 1]) (rest := []) ⟨hx, hb, hml, hown, hts⟩ (t_X12_ofPipe l D k u11 hu h0 m_h0 k_h0 p1 1 (by (try simp only [i_lt, i_le, i_eq, Int32.toInt_toInt64, Int32.reduceToInt, Int64.reduceToInt, true_and, and_true, false_and, and_false, false_or, or_false, true_or, or_true, not_true_eq_false, not_false_eq_true, ne_eq, forall_const, true_implies, false_implies, implies_true] at eb4 fb4 b5 ab5 tx6 eb9 fb9 k14 ⊢) <;> omega) (by decide)) (cwV 2 hts gX12_pipe_X12_ofPipe rfl rfl rfl (by decide +kernel) ⟨Nat.le_of_ble_eq_true rfl, Nat.le_of_ble_eq_true rfl⟩) hP hK (precv hK hP m_h0 (cF12 k_h0) rfl) rfl hl.1 rfl (Nat.le_of_ble_eq_true rfl) dX12_pipe_82 ⟨Nat.le_of_ble_eq_true rfl, Nat.le_of_ble_eq_true rfl⟩ (fun r15 hr15 => ?_)
        replace hr15 : 0 ≤ r15.toInt ∧ r15.toInt ≤ 7 := by have h := hr15.1; clear hr15; (simp only [i_lt, i_le, i_eq, Int32.toInt_toInt64, Int32.reduceToInt, Int64.reduceToInt, true_and, and_true, false_and, and_false, false_or, or_false, true_or, or_true, not_true_eq_false, not_false_eq_true, ne_eq, forall_const, true_implies, false_implies, implies_true] at h) <;> omega
        exact W.iret (v := r15) hx hb hr (fun t ht hW => ⟨⟨r15, u11, rfl, ⟨hu, hp, trivial⟩, by rw [ht]; exact hP, hD⟩, hS.F ht⟩) hS.2.2 dX12_pipe_85
      by_cases k16 : p2 = 2
      · refine lv_tableIn (tgt := 86) hx hb dX12_pipe_30 (by rw [k16]; decide) (by rw [k16]; decide) (by rw [k16]; rfl) (by decide) ?_
        refine lv_aload_n hx hb dX12_pipe_86 rfl (lv_at hl 0 rfl) ?_
        have k_h0 : u11.2.1 h0 = 12 := (hp h0 m0_h0).2.1.trans k0_h0
        have m_h0 : h0 ∈ u11.1 := (hp h0 m0_h0).1
        refine pget (ci := 12) (v := .int (u11.2.2.1 h0 16)) (C := RX12) (T := TX12) (N := 34) hx hb hts i_X12 hown hK hP m_h0 (cF12 k_h0) rfl 16 (by decide) (hts (.fieldLink RX12 303 "BellowsRowModel" "bendMany" "I") (by decide +kernel)) (fun _ h9 => h9) rfl dX12_pipe_87 ?_
        have g17 := (hu h0 m_h0).2.2.2 16
        rw [k_h0] at g17
        replace g17 : 0 ≤ (u11.2.2.1 h0 16).toInt ∧ (u11.2.2.1 h0 16).toInt ≤ 8 := g17
        exact W.iret (v := (u11.2.2.1 h0 16)) hx hb hr (fun t ht hW => ⟨⟨(u11.2.2.1 h0 16), u11, rfl, ⟨hu, hp, trivial⟩, by rw [ht]; exact hP, hD⟩, hS.F ht⟩) hS.2.2 dX12_pipe_90
      by_cases k18 : p2 = 3
      · refine lv_tableIn (tgt := 91) hx hb dX12_pipe_30 (by rw [k18]; decide) (by rw [k18]; decide) (by rw [k18]; rfl) (by decide) ?_
        refine lv_aload_n hx hb dX12_pipe_91 rfl (lv_at hl 0 rfl) ?_
        have k_h0 : u11.2.1 h0 = 12 := (hp h0 m0_h0).2.1.trans k0_h0
        have m_h0 : h0 ∈ u11.1 := (hp h0 m0_h0).1
        refine pget (ci := 12) (v := .int (u11.2.2.1 h0 21)) (C := RX12) (T := TX12) (N := 34) hx hb hts i_X12 hown hK hP m_h0 (cF12 k_h0) rfl 21 (by decide) (hts (.fieldLink RX12 306 "BellowsRowModel" "length" "I") (by decide +kernel)) (fun _ h9 => h9) rfl dX12_pipe_92 ?_
        exact W.iret (v := (u11.2.2.1 h0 21)) hx hb hr (fun t ht hW => ⟨⟨(u11.2.2.1 h0 21), u11, rfl, ⟨hu, hp, trivial⟩, by rw [ht]; exact hP, hD⟩, hS.F ht⟩) hS.2.2 dX12_pipe_95
      by_cases k19 : p2 = 4
      · refine lv_tableIn (tgt := 96) hx hb dX12_pipe_30 (by rw [k19]; decide) (by rw [k19]; decide) (by rw [k19]; rfl) (by decide) ?_
        refine lv_aload_n hx hb dX12_pipe_96 rfl (lv_at hl 0 rfl) ?_
        refine lv_iload_n hx hb dX12_pipe_97 rfl (lv_at hl 1 rfl) ?_
        have k_h0 : u11.2.1 h0 = 12 := (hp h0 m0_h0).2.1.trans k0_h0
        have m_h0 : h0 ∈ u11.1 := (hp h0 m0_h0).1
        refine wiV (C := RX12) (As := [.int p1]) (rest := []) ⟨hx, hb, hml, hown, hts⟩ (fun sz => t_X12_weightOf l D k u11 hu h0 m_h0 k_h0 p1 (by (try simp only [i_lt, i_le, i_eq, Int32.toInt_toInt64, Int32.reduceToInt, Int64.reduceToInt, true_and, and_true, false_and, and_false, false_or, or_false, true_or, or_true, not_true_eq_false, not_false_eq_true, ne_eq, forall_const, true_implies, false_implies, implies_true] at eb4 fb4 b5 ab5 tx6 eb9 fb9 k19 ⊢) <;> omega) sz) (cwV 1 hts gX12_pipe_X12_weightOf rfl rfl rfl (by decide +kernel) ⟨Nat.le_of_ble_eq_true rfl, Nat.le_of_ble_eq_true rfl⟩) hP hK hD hN hS hA (precv hK hP m_h0 (cF12 k_h0) rfl) rfl hl.1 rfl (Nat.le_of_ble_eq_true rfl) dX12_pipe_98 ⟨Nat.le_of_ble_eq_true rfl, Nat.le_of_ble_eq_true rfl⟩ (fun r20 u21 H locs hqu21 hP hD hS => ?_)
        obtain ⟨hu, hxu21, hr20⟩ := hqu21
        have hp := PX.trans hp hxu21
        exact W.iret (v := r20) hx hb hr (fun t ht hW => ⟨⟨r20, u21, rfl, ⟨hu, hp, trivial⟩, by rw [ht]; exact hP, hD⟩, hS.F ht⟩) hS.2.2 dX12_pipe_101
      by_cases k22 : p2 = 5
      · refine lv_tableIn (tgt := 102) hx hb dX12_pipe_30 (by rw [k22]; decide) (by rw [k22]; decide) (by rw [k22]; rfl) (by decide) ?_
        refine lv_aload_n hx hb dX12_pipe_102 rfl (lv_at hl 0 rfl) ?_
        refine lv_iload_n hx hb dX12_pipe_103 rfl (lv_at hl 1 rfl) ?_
        have k_h0 : u11.2.1 h0 = 12 := (hp h0 m0_h0).2.1.trans k0_h0
        have m_h0 : h0 ∈ u11.1 := (hp h0 m0_h0).1
        refine wiV (C := RX12) (As := [.int p1]) (rest := []) ⟨hx, hb, hml, hown, hts⟩ (fun sz => t_X12_leverOf l D k u11 hu h0 m_h0 k_h0 p1 (by (try simp only [i_lt, i_le, i_eq, Int32.toInt_toInt64, Int32.reduceToInt, Int64.reduceToInt, true_and, and_true, false_and, and_false, false_or, or_false, true_or, or_true, not_true_eq_false, not_false_eq_true, ne_eq, forall_const, true_implies, false_implies, implies_true] at eb4 fb4 b5 ab5 tx6 eb9 fb9 k22 ⊢) <;> omega) sz) (cwV 1 hts gX12_pipe_X12_leverOf rfl rfl rfl (by decide +kernel) ⟨Nat.le_of_ble_eq_true rfl, Nat.le_of_ble_eq_true rfl⟩) hP hK hD hN hS hA (precv hK hP m_h0 (cF12 k_h0) rfl) rfl hl.1 rfl (Nat.le_of_ble_eq_true rfl) dX12_pipe_104 ⟨Nat.le_of_ble_eq_true rfl, Nat.le_of_ble_eq_true rfl⟩ (fun r23 u24 H locs hqu24 hP hD hS => ?_)
        obtain ⟨hu, hxu24, hr23⟩ := hqu24
        have hp := PX.trans hp hxu24
        exact W.iret (v := r23) hx hb hr (fun t ht hW => ⟨⟨r23, u24, rfl, ⟨hu, hp, trivial⟩, by rw [ht]; exact hP, hD⟩, hS.F ht⟩) hS.2.2 dX12_pipe_107
      by_cases k25 : p2 = 6
      · refine lv_tableIn (tgt := 108) hx hb dX12_pipe_30 (by rw [k25]; decide) (by rw [k25]; decide) (by rw [k25]; rfl) (by decide) ?_
        refine lv_aload_n hx hb dX12_pipe_108 rfl (lv_at hl 0 rfl) ?_
        refine lv_iload_n hx hb dX12_pipe_109 rfl (lv_at hl 1 rfl) ?_
        refine lv_iconst (v := 1) hx hb dX12_pipe_110 (by decide) ?_
        have k_h0 : u11.2.1 h0 = 12 := (hp h0 m0_h0).2.1.trans k0_h0
        have m_h0 : h0 ∈ u11.1 := (hp h0 m0_h0).1
        refine rvi (C := RX12) (As := [.int p1, .int 1]) (rest := []) ⟨hx, hb, hml, hown, hts⟩ (t_X12_ofPipe l D k u11 hu h0 m_h0 k_h0 p1 1 (by (try simp only [i_lt, i_le, i_eq, Int32.toInt_toInt64, Int32.reduceToInt, Int64.reduceToInt, true_and, and_true, false_and, and_false, false_or, or_false, true_or, or_true, not_true_eq_false, not_false_eq_true, ne_eq, forall_const, true_implies, false_implies, implies_true] at eb4 fb4 b5 ab5 tx6 eb9 fb9 k25 ⊢) <;> omega) (by decide)) (cwV 2 hts gX12_pipe_X12_ofPipe rfl rfl rfl (by decide +kernel) ⟨Nat.le_of_ble_eq_true rfl, Nat.le_of_ble_eq_true rfl⟩) hP hK (precv hK hP m_h0 (cF12 k_h0) rfl) rfl hl.1 rfl (Nat.le_of_ble_eq_true rfl) dX12_pipe_111 ⟨Nat.le_of_ble_eq_true rfl, Nat.le_of_ble_eq_true rfl⟩ (fun r26 hr26 => ?_)
        replace hr26 : 0 ≤ r26.toInt ∧ r26.toInt ≤ 7 := by have h := hr26.1; clear hr26; (simp only [i_lt, i_le, i_eq, Int32.toInt_toInt64, Int32.reduceToInt, Int64.reduceToInt, true_and, and_true, false_and, and_false, false_or, or_false, true_or, or_true, not_true_eq_false, not_false_eq_true, ne_eq, forall_const, true_implies, false_implies, implies_true] at h) <;> omega
        refine lv_aload_n hx hb dX12_pipe_114 rfl (lv_at hl 0 rfl) ?_
        refine lv_iload_n hx hb dX12_pipe_115 rfl (lv_at hl 1 rfl) ?_
        refine lv_iconst (v := 0) hx hb dX12_pipe_116 (by decide) ?_
        refine rvi (C := RX12) (As := [.int p1, .int 0]) (rest := [.int r26]) ⟨hx, hb, hml, hown, hts⟩ (t_X12_ofPipe l D k u11 hu h0 m_h0 k_h0 p1 0 (by (try simp only [i_lt, i_le, i_eq, Int32.toInt_toInt64, Int32.reduceToInt, Int64.reduceToInt, true_and, and_true, false_and, and_false, false_or, or_false, true_or, or_true, not_true_eq_false, not_false_eq_true, ne_eq, forall_const, true_implies, false_implies, implies_true] at eb4 fb4 b5 ab5 tx6 eb9 fb9 k25 hr26 ⊢) <;> omega) (by decide)) (cwV 2 hts gX12_pipe_X12_ofPipe rfl rfl rfl (by decide +kernel) ⟨Nat.le_of_ble_eq_true rfl, Nat.le_of_ble_eq_true rfl⟩) hP hK (precv hK hP m_h0 (cF12 k_h0) rfl) rfl hl.1 rfl (Nat.le_of_ble_eq_true rfl) dX12_pipe_117 ⟨Nat.le_of_ble_eq_true rfl, Nat.le_of_ble_eq_true rfl⟩ (fun r27 hr27 => ?_)
        replace hr27 : 0 ≤ r27.toInt ∧ r27.toInt ≤ 7 := by have h := hr27.1; clear hr27; (simp only [i_lt, i_le, i_eq, Int32.toInt_toInt64, Int32.reduceToInt, Int64.reduceToInt, true_and, and_true, false_and, and_false, false_or, or_false, true_or, or_true, not_true_eq_false, not_false_eq_true, ne_eq, forall_const, true_implies, false_implies, implies_true] at h) <;> omega
        refine lv_iconst (v := 1) hx hb dX12_pipe_120 (by decide) ?_
        refine lv_iadd hx hb dX12_pipe_121 ?_
        refine lv_topi (fun x28 ex28 => ?_)
        have tx28 : x28.toInt = r27.toInt + (1 : Int32).toInt := by rw [ex28]; exact i_add (by (try simp only [i_lt, i_le, i_eq, Int32.toInt_toInt64, Int32.reduceToInt, Int64.reduceToInt, true_and, and_true, false_and, and_false, false_or, or_false, true_or, or_true, not_true_eq_false, not_false_eq_true, ne_eq, forall_const, true_implies, false_implies, implies_true] at eb4 fb4 b5 ab5 tx6 eb9 fb9 k25 hr26 hr27 ⊢) <;> omega) (by (try simp only [i_lt, i_le, i_eq, Int32.toInt_toInt64, Int32.reduceToInt, Int64.reduceToInt, true_and, and_true, false_and, and_false, false_or, or_false, true_or, or_true, not_true_eq_false, not_false_eq_true, ne_eq, forall_const, true_implies, false_implies, implies_true] at eb4 fb4 b5 ab5 tx6 eb9 fb9 k25 hr26 hr27 ⊢) <;> omega)
        refine lv_icmp_le (tgt := 136) hx hb dX12_pipe_122 (by decide) (fun c29 => ?_) (fun c29 => ?_)
        · refine lv_iconst (v := (-1)) hx hb dX12_pipe_136 (by decide) ?_
          exact W.iret (v := (-1)) hx hb hr (fun t ht hW => ⟨⟨(-1), u11, rfl, ⟨hu, hp, trivial⟩, by rw [ht]; exact hP, hD⟩, hS.F ht⟩) hS.2.2 dX12_pipe_137
        · refine lv_aload_n hx hb dX12_pipe_125 rfl (lv_at hl 0 rfl) ?_
          refine lv_iload_n hx hb dX12_pipe_126 rfl (lv_at hl 1 rfl) ?_
          refine lv_iconst (v := 0) hx hb dX12_pipe_127 (by decide) ?_
          refine rvi (C := RX12) (As := [.int p1, .int 0]) (rest := []) ⟨hx, hb, hml, hown, hts⟩ (t_X12_ofPipe l D k u11 hu h0 m_h0 k_h0 p1 0 (by (try simp only [i_lt, i_le, i_eq, Int32.toInt_toInt64, Int32.reduceToInt, Int64.reduceToInt, true_and, and_true, false_and, and_false, false_or, or_false, true_or, or_true, not_true_eq_false, not_false_eq_true, ne_eq, forall_const, true_implies, false_implies, implies_true] at eb4 fb4 b5 ab5 tx6 eb9 fb9 k25 hr26 hr27 tx28 c29 ⊢) <;> omega) (by decide)) (cwV 2 hts gX12_pipe_X12_ofPipe rfl rfl rfl (by decide +kernel) ⟨Nat.le_of_ble_eq_true rfl, Nat.le_of_ble_eq_true rfl⟩) hP hK (precv hK hP m_h0 (cF12 k_h0) rfl) rfl hl.1 rfl (Nat.le_of_ble_eq_true rfl) dX12_pipe_128 ⟨Nat.le_of_ble_eq_true rfl, Nat.le_of_ble_eq_true rfl⟩ (fun r30 hr30 => ?_)
          replace hr30 : 0 ≤ r30.toInt ∧ r30.toInt ≤ 7 := by have h := hr30.1; clear hr30; (simp only [i_lt, i_le, i_eq, Int32.toInt_toInt64, Int32.reduceToInt, Int64.reduceToInt, true_and, and_true, false_and, and_false, false_or, or_false, true_or, or_true, not_true_eq_false, not_false_eq_true, ne_eq, forall_const, true_implies, false_implies, implies_true] at h) <;> omega
          refine lv_iconst (v := 1) hx hb dX12_pipe_131 (by decide) ?_
          refine lv_iadd hx hb dX12_pipe_132 ?_
          refine lv_topi (fun x31 ex31 => ?_)
          have tx31 : x31.toInt = r30.toInt + (1 : Int32).toInt := by rw [ex31]; exact i_add (by (try simp only [i_lt, i_le, i_eq, Int32.toInt_toInt64, Int32.reduceToInt, Int64.reduceToInt, true_and, and_true, false_and, and_false, false_or, or_false, true_or, or_true, not_true_eq_false, not_false_eq_true, ne_eq, forall_const, true_implies, false_implies, implies_true] at eb4 fb4 b5 ab5 tx6 eb9 fb9 k25 hr26 hr27 tx28 c29 hr30 ⊢) <;> omega) (by (try simp only [i_lt, i_le, i_eq, Int32.toInt_toInt64, Int32.reduceToInt, Int64.reduceToInt, true_and, and_true, false_and, and_false, false_or, or_false, true_or, or_true, not_true_eq_false, not_false_eq_true, ne_eq, forall_const, true_implies, false_implies, implies_true] at eb4 fb4 b5 ab5 tx6 eb9 fb9 k25 hr26 hr27 tx28 c29 hr30 ⊢) <;> omega)
          refine lv_goto (tgt := 137) hx hb dX12_pipe_133 (by decide) ?_
          exact W.iret (v := x31) hx hb hr (fun t ht hW => ⟨⟨x31, u11, rfl, ⟨hu, hp, trivial⟩, by rw [ht]; exact hP, hD⟩, hS.F ht⟩) hS.2.2 dX12_pipe_137
      have zk12 : ¬ p2.toInt = 0 := fun z => k12 (Int32.toInt_inj.mp (z.trans (by decide)))
      have zk14 : ¬ p2.toInt = 1 := fun z => k14 (Int32.toInt_inj.mp (z.trans (by decide)))
      have zk16 : ¬ p2.toInt = 2 := fun z => k16 (Int32.toInt_inj.mp (z.trans (by decide)))
      have zk18 : ¬ p2.toInt = 3 := fun z => k18 (Int32.toInt_inj.mp (z.trans (by decide)))
      have zk19 : ¬ p2.toInt = 4 := fun z => k19 (Int32.toInt_inj.mp (z.trans (by decide)))
      have zk22 : ¬ p2.toInt = 5 := fun z => k22 (Int32.toInt_inj.mp (z.trans (by decide)))
      have zk25 : ¬ p2.toInt = 6 := fun z => k25 (Int32.toInt_inj.mp (z.trans (by decide)))
      refine lv_tableOut (tgt := 138) hx hb dX12_pipe_30 (by omega) (by decide) ?_
      refine lv_aload_n hx hb dX12_pipe_138 rfl (lv_at hl 0 rfl) ?_
      refine lv_iload_n hx hb dX12_pipe_139 rfl (lv_at hl 1 rfl) ?_
      have k_h0 : u11.2.1 h0 = 12 := (hp h0 m0_h0).2.1.trans k0_h0
      have m_h0 : h0 ∈ u11.1 := (hp h0 m0_h0).1
      refine rvi (C := RX12) (As := [.int p1]) (rest := []) ⟨hx, hb, hml, hown, hts⟩ (t_X12_holdsOf l D k u11 hu h0 m_h0 k_h0 p1 (by (try simp only [i_lt, i_le, i_eq, Int32.toInt_toInt64, Int32.reduceToInt, Int64.reduceToInt, true_and, and_true, false_and, and_false, false_or, or_false, true_or, or_true, not_true_eq_false, not_false_eq_true, ne_eq, forall_const, true_implies, false_implies, implies_true] at eb4 fb4 b5 ab5 tx6 eb9 fb9 k12 k14 k16 k18 k19 k22 k25 ⊢) <;> omega)) (cwV 1 hts gX12_pipe_X12_holdsOf rfl rfl rfl (by decide +kernel) ⟨Nat.le_of_ble_eq_true rfl, Nat.le_of_ble_eq_true rfl⟩) hP hK (precv hK hP m_h0 (cF12 k_h0) rfl) rfl hl.1 rfl (Nat.le_of_ble_eq_true rfl) dX12_pipe_140 ⟨Nat.le_of_ble_eq_true rfl, Nat.le_of_ble_eq_true rfl⟩ (fun r32 hr32 => ?_)
      exact W.iret (v := r32) hx hb hr (fun t ht hW => ⟨⟨r32, u11, rfl, ⟨hu, hp, trivial⟩, by rw [ht]; exact hP, hD⟩, hS.F ht⟩) hS.2.2 dX12_pipe_143
    · have eb33 : r7.toInt = 0 := by rcases hr7 with ⟨q, -⟩ | ⟨q, -⟩; exact q; (exact absurd (c8) (fun w => by rw [w] at q; exact absurd q (by decide)))
      have fb33 : (x6.toInt < (0 : Int64).toInt ∨ (7 : Int64).toInt < x6.toInt) := by rcases hr7 with ⟨q, r⟩ | ⟨q, r⟩; exact r; exact absurd q (by omega)
      clear hr7
      refine lv_ldcw (own := RX12) (v := (-2000000000)) hx hb hown (hts (.constant RX12 302 (-2000000000)) (by decide +kernel)) dX12_pipe_20 ?_
      exact W.iret (v := (-2000000000)) hx hb hr (fun t ht hW => ⟨⟨(-2000000000), u0, rfl, ⟨hu, hp, trivial⟩, by rw [ht]; exact hP, hD⟩, hS.F ht⟩) hS.2.2 dX12_pipe_23
