set_option maxHeartbeats 4000000 in
set_option maxRecDepth 100000 in
theorem t_X12_whoOf (l : Launch) (D : va_G) (k : Nat → ClassId) (u : PSt) (hu : WT u) (h0 : Nat) (m_h0 : h0 ∈ u.1) (k_h0 : u.2.1 h0 = 12) (p1 : Int32) (p2 : Int32) : Met l yX12_whoOf wsX12_whoOf ({ frames := 2, cells := 0, slots := 0, locals := 48 }) (PreR D k (PW k u) [.ref h0, .int p1, .int p2]) (vp_Si (fun r => True)) 0 0 (fun _ => False) := by
  refine Met.ofW (cc := cX12_whoOf) (maxL := 4) (ret := (some .int)) (by decide) rfl ?_
  intro p e s m args below meth c s₁ B hml hv
  obtain ⟨rfl, hP, hK⟩ := hv
  have hx := B.exec
  have hb := B.bytes
  have hr := B.returns
  have hts := atoms_spec (ws := wsX12_whoOf) B.pre
  have hown : s.vm.findClass RX12 = some m.cls := findClass_of_methodNamed B.named
  have hlocks := B.notSynchronized
  have i_X12 : ∀ w ∈ wsX120, w ∈ wsX12_whoOf := by decide +kernel
  obtain ⟨a1, q0_1, m0_a1, k0_a1⟩ := (hu h0 m_h0).1 1 50 (by rw [k_h0]; rfl)
  have m_a1 := m0_a1
  have k_a1 := k0_a1
  have B2 : ∀ (n2 : Nat) (ls : Array Slot) (v1 : Int32) (v2 : Int32) (v3 : Int32), (2147483648 - v3.toInt).toNat ≤ n2 → 0 ≤ v3.toInt ∧ v3.toInt ≤ 12 → lv_has ls 4 [(0, .ref h0), (1, .int v1), (2, .int v2), (3, .int v3)] → W p l e (headSpec wsX12_whoOf ({ frames := 2, cells := 0, slots := 0, locals := 48 })).room s m ([.ref h0, .int p1, .int p2] : List Value).toArray below meth c s.heap [] 0 0 (MQ below (vp_Si (fun r => True)) ([.ref h0, .int p1, .int p2] : List Value).toArray s 0 0 (fun _ => False)) (F0 m 2 ls []) := by
    intro n2
    induction n2 with
    | zero =>
      intro ls v1 v2 v3 hn2 g_v3 hl
      exact absurd hn2 (by have := Int32.toInt_lt v3; have := Int32.le_toInt v3; omega)
    | succ n2 ih2 =>
      intro ls v1 v2 v3 hn2 g_v3 hl
      refine lv_iload_n hx hb dX12_whoOf_2 rfl (lv_at hl 3 rfl) ?_
      refine lv_aload_n hx hb dX12_whoOf_3 rfl (lv_at hl 0 rfl) ?_
      refine pget (ci := 12) (v := va_rf (u.2.2.2.2 h0 1)) (C := RX12) (T := TX12) (N := 34) hx hb hts i_X12 hown hK hP m_h0 (cF12 k_h0) rfl 1 (by decide) (hts (.fieldLink RX12 13 "BellowsRowModel" "world" "[I") (by decide +kernel)) (fun _ h9 => h9) rfl dX12_whoOf_4 ?_
      refine W.eq (g2 := F0 m 7 ls [.ref a1, .int v3]) (by rw [q0_1]; rfl) ?_
      refine lv_iconst (v := 4) hx hb dX12_whoOf_7 (by decide) ?_
      refine palI hx hb hK hP m_a1 (cF50 k_a1) 1 rfl (vp_in_iff.mpr (by decide)) dX12_whoOf_8 ?_
      refine lv_topi (fun x1 ex1 => ?_)
      have tx1 : x1.toInt = (u.2.2.1 a1 4).toInt := congrArg Int32.toInt ex1
      have g2 : 0 ≤ x1.toInt ∧ x1.toInt ≤ 12 := by have g : okI (u.2.1 a1) (4) (u.2.2.1 a1 (4)) := (hu a1 m_a1).2.2.2 (4); rw [k_a1, ← (show x1 = u.2.2.1 a1 (4) from ex1)] at g; have g : okW (4) x1 := g; unfold okW at g; (try simp only [i_lt, i_le, i_eq, Int32.toInt_toInt64, Int32.reduceToInt, Int64.reduceToInt, true_and, and_true, false_and, and_false, false_or, or_false, true_or, or_true, not_true_eq_false, not_false_eq_true, ne_eq, forall_const, true_implies, false_implies, implies_true] at g_v3 hn2 tx1 g ⊢) <;> omega
      refine lv_icmp_ge (tgt := 48) hx hb dX12_whoOf_9 (by decide) (fun c3 => ?_) (fun c3 => ?_)
      · refine lv_iconst (v := (-1)) hx hb dX12_whoOf_48 (by decide) ?_
        exact W.iret (v := (-1)) hx hb hr (fun t ht hW => ⟨(-1), rfl, trivial, ht⟩) (fun q h => by cases h) dX12_whoOf_49
      · refine lv_aload_n hx hb dX12_whoOf_12 rfl (lv_at hl 0 rfl) ?_
        refine pget (ci := 12) (v := va_rf (u.2.2.2.2 h0 1)) (C := RX12) (T := TX12) (N := 34) hx hb hts i_X12 hown hK hP m_h0 (cF12 k_h0) rfl 1 (by decide) (hts (.fieldLink RX12 13 "BellowsRowModel" "world" "[I") (by decide +kernel)) (fun _ h9 => h9) rfl dX12_whoOf_13 ?_
        refine W.eq (g2 := F0 m 16 ls [.ref a1]) (by rw [q0_1]; rfl) ?_
        refine lv_sipush (v := 374) hx hb dX12_whoOf_16 (by decide) ?_
        refine lv_iconst (v := 4) hx hb dX12_whoOf_19 (by decide) ?_
        refine lv_iload_n hx hb dX12_whoOf_20 rfl (lv_at hl 3 rfl) ?_
        refine lv_imul hx hb dX12_whoOf_21 ?_
        refine lv_topi (fun x4 ex4 => ?_)
        have tx4 : x4.toInt = 4 * v3.toInt := by rw [ex4]; exact i_mulc (c := 4) (by decide) ((show 0 ≤ v3.toInt ∧ v3.toInt ≤ 11 from by (try simp only [i_lt, i_le, i_eq, Int32.toInt_toInt64, Int32.reduceToInt, Int64.reduceToInt, true_and, and_true, false_and, and_false, false_or, or_false, true_or, or_true, not_true_eq_false, not_false_eq_true, ne_eq, forall_const, true_implies, false_implies, implies_true] at g_v3 hn2 tx1 g2 c3 ⊢) <;> omega)) (by decide)
        refine lv_iadd hx hb dX12_whoOf_22 ?_
        refine lv_topi (fun x5 ex5 => ?_)
        have tx5 : x5.toInt = (374 : Int32).toInt + x4.toInt := by rw [ex5]; exact i_add (by (try simp only [i_lt, i_le, i_eq, Int32.toInt_toInt64, Int32.reduceToInt, Int64.reduceToInt, true_and, and_true, false_and, and_false, false_or, or_false, true_or, or_true, not_true_eq_false, not_false_eq_true, ne_eq, forall_const, true_implies, false_implies, implies_true] at g_v3 hn2 tx1 g2 c3 tx4 ⊢) <;> omega) (by (try simp only [i_lt, i_le, i_eq, Int32.toInt_toInt64, Int32.reduceToInt, Int64.reduceToInt, true_and, and_true, false_and, and_false, false_or, or_false, true_or, or_true, not_true_eq_false, not_false_eq_true, ne_eq, forall_const, true_implies, false_implies, implies_true] at g_v3 hn2 tx1 g2 c3 tx4 ⊢) <;> omega)
        refine palI hx hb hK hP m_a1 (cF50 k_a1) 1 rfl (vp_in_iff.mpr (by (try simp only [i_lt, i_le, i_eq, Int32.toInt_toInt64, Int32.reduceToInt, Int64.reduceToInt, true_and, and_true, false_and, and_false, false_or, or_false, true_or, or_true, not_true_eq_false, not_false_eq_true, ne_eq, forall_const, true_implies, false_implies, implies_true] at g_v3 hn2 tx1 g2 c3 tx4 tx5 ⊢) <;> omega)) dX12_whoOf_23 ?_
        refine lv_topi (fun x6 ex6 => ?_)
        have tx6 : x6.toInt = (u.2.2.1 a1 (x5.toNatClampNeg)).toInt := congrArg Int32.toInt ex6
        refine lv_iload_n hx hb dX12_whoOf_24 rfl (lv_at hl 1 rfl) ?_
        refine psi (As := [.int x6, .int v1]) (rest := []) ⟨hx, hb, hml, hown, hts⟩ (t_X12_holds l D k x6 v1) (va_cwS 2 hts gX12_whoOf_X12_holds rfl rfl rfl (by decide +kernel) ⟨Nat.le_of_ble_eq_true rfl, Nat.le_of_ble_eq_true rfl⟩) hK rfl hl.1 rfl (Nat.le_of_ble_eq_true rfl) dX12_whoOf_25 ⟨Nat.le_of_ble_eq_true rfl, Nat.le_of_ble_eq_true rfl⟩ (fun r7 hr7 => ?_)
        refine lv_if_eq (tgt := 42) hx hb dX12_whoOf_28 (by decide) (fun c8 => ?_) (fun c8 => ?_)
        · obtain ⟨x9, ex9⟩ : ∃ y : Int32, y = v3 + 1 := ⟨_, rfl⟩
          have tx9 : x9.toInt = v3.toInt + 1 := by rw [ex9]; exact i_add (b := 1) (by (try simp only [i_lt, i_le, i_eq, Int32.toInt_toInt64, Int32.reduceToInt, Int64.reduceToInt, true_and, and_true, false_and, and_false, false_or, or_false, true_or, or_true, not_true_eq_false, not_false_eq_true, ne_eq, forall_const, true_implies, false_implies, implies_true] at g_v3 hn2 tx1 g2 c3 tx4 tx5 tx6 hr7 c8 ⊢) <;> omega) (by (try simp only [i_lt, i_le, i_eq, Int32.toInt_toInt64, Int32.reduceToInt, Int64.reduceToInt, true_and, and_true, false_and, and_false, false_or, or_false, true_or, or_true, not_true_eq_false, not_false_eq_true, ne_eq, forall_const, true_implies, false_implies, implies_true] at g_v3 hn2 tx1 g2 c3 tx4 tx5 tx6 hr7 c8 ⊢) <;> omega)
          refine lv_iinc (v := x9) (lv' := [(3, .int x9), (0, .ref h0), (1, .int v1), (2, .int v2)]) hx hb dX12_whoOf_42 hl (k := 3) rfl (by rw [ex9]; rfl) (by decide) rfl (fun ls hl => ?_)
          refine lv_goto (tgt := 2) hx hb dX12_whoOf_45 (by decide) ?_
          exact ih2 ls v1 v2 x9 (by (try simp only [i_lt, i_le, i_eq, Int32.toInt_toInt64, Int32.reduceToInt, Int64.reduceToInt, true_and, and_true, false_and, and_false, false_or, or_false, true_or, or_true, not_true_eq_false, not_false_eq_true, ne_eq, forall_const, true_implies, false_implies, implies_true] at g_v3 hn2 tx1 g2 c3 tx4 tx5 tx6 hr7 c8 tx9 ⊢) <;> omega) (by (try simp only [i_lt, i_le, i_eq, Int32.toInt_toInt64, Int32.reduceToInt, Int64.reduceToInt, true_and, and_true, false_and, and_false, false_or, or_false, true_or, or_true, not_true_eq_false, not_false_eq_true, ne_eq, forall_const, true_implies, false_implies, implies_true] at g_v3 hn2 tx1 g2 c3 tx4 tx5 tx6 hr7 c8 tx9 ⊢) <;> omega) (lv_sub hl [1, 2, 3, 0] rfl)
        · refine lv_aload_n hx hb dX12_whoOf_31 rfl (lv_at hl 0 rfl) ?_
          refine lv_iload_n hx hb dX12_whoOf_32 rfl (lv_at hl 3 rfl) ?_
          refine lv_iload_n hx hb dX12_whoOf_33 rfl (lv_at hl 2 rfl) ?_
          refine rvi (C := RX12) (As := [.int v3, .int v2]) (rest := []) ⟨hx, hb, hml, hown, hts⟩ (t_X12_isThere l D k u hu h0 m_h0 k_h0 v3 v2 (by (try simp only [i_lt, i_le, i_eq, Int32.toInt_toInt64, Int32.reduceToInt, Int64.reduceToInt, true_and, and_true, false_and, and_false, false_or, or_false, true_or, or_true, not_true_eq_false, not_false_eq_true, ne_eq, forall_const, true_implies, false_implies, implies_true] at g_v3 hn2 tx1 g2 c3 tx4 tx5 tx6 hr7 c8 ⊢) <;> omega)) (cwV 2 hts gX12_whoOf_X12_isThere rfl rfl rfl (by decide +kernel) ⟨Nat.le_of_ble_eq_true rfl, Nat.le_of_ble_eq_true rfl⟩) hP hK (precv hK hP m_h0 (cF12 k_h0) rfl) rfl hl.1 rfl (Nat.le_of_ble_eq_true rfl) dX12_whoOf_34 ⟨Nat.le_of_ble_eq_true rfl, Nat.le_of_ble_eq_true rfl⟩ (fun r10 hr10 => ?_)
          refine lv_if_eq (tgt := 42) hx hb dX12_whoOf_37 (by decide) (fun c11 => ?_) (fun c11 => ?_)
          · obtain ⟨x12, ex12⟩ : ∃ y : Int32, y = v3 + 1 := ⟨_, rfl⟩
            have tx12 : x12.toInt = v3.toInt + 1 := by rw [ex12]; exact i_add (b := 1) (by (try simp only [i_lt, i_le, i_eq, Int32.toInt_toInt64, Int32.reduceToInt, Int64.reduceToInt, true_and, and_true, false_and, and_false, false_or, or_false, true_or, or_true, not_true_eq_false, not_false_eq_true, ne_eq, forall_const, true_implies, false_implies, implies_true] at g_v3 hn2 tx1 g2 c3 tx4 tx5 tx6 hr7 c8 hr10 c11 ⊢) <;> omega) (by (try simp only [i_lt, i_le, i_eq, Int32.toInt_toInt64, Int32.reduceToInt, Int64.reduceToInt, true_and, and_true, false_and, and_false, false_or, or_false, true_or, or_true, not_true_eq_false, not_false_eq_true, ne_eq, forall_const, true_implies, false_implies, implies_true] at g_v3 hn2 tx1 g2 c3 tx4 tx5 tx6 hr7 c8 hr10 c11 ⊢) <;> omega)
            refine lv_iinc (v := x12) (lv' := [(3, .int x12), (0, .ref h0), (1, .int v1), (2, .int v2)]) hx hb dX12_whoOf_42 hl (k := 3) rfl (by rw [ex12]; rfl) (by decide) rfl (fun ls hl => ?_)
            refine lv_goto (tgt := 2) hx hb dX12_whoOf_45 (by decide) ?_
            exact ih2 ls v1 v2 x12 (by (try simp only [i_lt, i_le, i_eq, Int32.toInt_toInt64, Int32.reduceToInt, Int64.reduceToInt, true_and, and_true, false_and, and_false, false_or, or_false, true_or, or_true, not_true_eq_false, not_false_eq_true, ne_eq, forall_const, true_implies, false_implies, implies_true] at g_v3 hn2 tx1 g2 c3 tx4 tx5 tx6 hr7 c8 hr10 c11 tx12 ⊢) <;> omega) (by (try simp only [i_lt, i_le, i_eq, Int32.toInt_toInt64, Int32.reduceToInt, Int64.reduceToInt, true_and, and_true, false_and, and_false, false_or, or_false, true_or, or_true, not_true_eq_false, not_false_eq_true, ne_eq, forall_const, true_implies, false_implies, implies_true] at g_v3 hn2 tx1 g2 c3 tx4 tx5 tx6 hr7 c8 hr10 c11 tx12 ⊢) <;> omega) (lv_sub hl [1, 2, 3, 0] rfl)
          · refine lv_iload_n hx hb dX12_whoOf_40 rfl (lv_at hl 3 rfl) ?_
            exact W.iret (v := v3) hx hb hr (fun t ht hW => ⟨v3, rfl, trivial, ht⟩) (fun q h => by cases h) dX12_whoOf_41
  have hl := lv_entry ([.ref h0, .int p1, .int p2]) (n := 4) (Nat.le_of_ble_eq_true rfl)
  rw [lg_entry_eq]
  generalize (lg_sl ([.ref h0, .int p1, .int p2]) ++ List.replicate (4 - (lg_sl ([.ref h0, .int p1, .int p2])).length) Slot.unset).toArray = ls at hl ⊢
  have hl : lv_has ls 4 [(0, .ref h0), (1, .int p1), (2, .int p2)] := hl
  refine lv_iconst (v := 0) hx hb dX12_whoOf_0 (by decide) ?_
  refine lv_istore_n (lv' := [(3, .int 0), (0, .ref h0), (1, .int p1), (2, .int p2)]) hx hb dX12_whoOf_1 rfl hl (by decide) rfl (fun ls hl => ?_)
  exact B2 _ ls p1 p2 0 (Nat.le_refl _) (by (try simp only [i_lt, i_le, i_eq, Int32.toInt_toInt64, Int32.reduceToInt, Int64.reduceToInt, true_and, and_true, false_and, and_false, false_or, or_false, true_or, or_true, not_true_eq_false, not_false_eq_true, ne_eq, forall_const, true_implies, false_implies, implies_true]) <;> omega) (lv_sub hl [1, 2, 3, 0] rfl)
set_option maxHeartbeats 4000000 in
set_option maxRecDepth 100000 in
theorem t_X12_write (l : Launch) (D : va_G) (k : Nat → ClassId) (u0 : PSt) (hu : WT u0) (h0 : Nat) (m_h0 : h0 ∈ u0.1) (k_h0 : u0.2.1 h0 = 12) (p1 : Int32) (p2 : Int32) (p3 : Int64) (sz : Nat) : Met l yX12_write wsX12_write ({ frames := 2, cells := 0, slots := 0, locals := 45 }) (PreM D k sz (PW k u0) [.ref h0, .int p1, .int p2, .long p3]) (va_Qi (fun r v => WT v ∧ PX u0 v ∧ (True)) (WB D (va_A (PW k u0) sz) (PW k)) (va_A (PW k u0) sz)) 0 0 (va_A (PW k u0) sz) := by
  refine Met.ofW (cc := cX12_write) (maxL := 5) (ret := (some .int)) (by decide) rfl ?_
  intro p e s m args below meth c s₁ B hml hv
  obtain ⟨rfl, hsz, hP, hK, hD0, hN⟩ := hv
  have hx := B.exec
  have hb := B.bytes
  have hr := B.returns
  have hts := atoms_spec (ws := wsX12_write) B.pre
  have hown : s.vm.findClass RX12 = some m.cls := findClass_of_methodNamed B.named
  have hlocks := B.notSynchronized
  have i_X12 : ∀ w ∈ wsX120, w ∈ wsX12_write := by decide +kernel
  obtain ⟨a30, q0_30, m0_a30, k0_a30⟩ := (hu h0 m_h0).1 30 60 (by rw [k_h0]; rfl)
  obtain ⟨a31, q0_31, m0_a31, k0_a31⟩ := (hu h0 m_h0).1 31 61 (by rw [k_h0]; rfl)
  obtain ⟨a32, q0_32, m0_a32, k0_a32⟩ := (hu h0 m_h0).1 32 62 (by rw [k_h0]; rfl)
  have m0_h0 := m_h0
  have k0_h0 := k_h0
  have m_a30 := m0_a30
  have m_a31 := m0_a31
  have m_a32 := m0_a32
  have k_a30 := k0_a30
  have k_a31 := k0_a31
  have k_a32 := k0_a32
  subst hsz
  have hD := hD0.self (sz := s.heap.size)
  generalize hAe : va_A (PW k u0) s.heap.size = A at hD ⊢
  have hA : ∀ q : Nat, s.heap.size ≤ q → A q := fun q h => by rw [← hAe]; exact Or.inr h
  have hS : va_S A s.heap s.heap [] := va_S.rf
  have hp : PX u0 u0 := PX.rf
  have hl := lv_entry ([.ref h0, .int p1, .int p2, .long p3]) (n := 5) (Nat.le_of_ble_eq_true rfl)
  rw [lg_entry_eq]
  generalize (lg_sl ([.ref h0, .int p1, .int p2, .long p3]) ++ List.replicate (5 - (lg_sl ([.ref h0, .int p1, .int p2, .long p3])).length) Slot.unset).toArray = ls at hl ⊢
  have hl : lv_has ls 5 [(0, .ref h0), (1, .int p1), (2, .int p2), (3, .long p3)] := hl
  refine lv_iload_n hx hb dX12_write_0 rfl (lv_at hl 1 rfl) ?_
  refine psi (As := [.int p1]) (rest := []) ⟨hx, hb, hml, hown, hts⟩ (t_X12_isSlot l D k p1) (va_cwS 1 hts gX12_write_X12_isSlot rfl rfl rfl (by decide +kernel) ⟨Nat.le_of_ble_eq_true rfl, Nat.le_of_ble_eq_true rfl⟩) hK rfl hl.1 rfl (Nat.le_of_ble_eq_true rfl) dX12_write_1 ⟨Nat.le_of_ble_eq_true rfl, Nat.le_of_ble_eq_true rfl⟩ (fun r1 hr1 => ?_)
  refine lv_if_ne (tgt := 10) hx hb dX12_write_4 (by decide) (fun c2 => ?_) (fun c2 => ?_)
  · have eb3 : r1.toInt = 1 := by rcases hr1 with ⟨q, -⟩ | ⟨q, -⟩; exact absurd (i_eq.mpr q) c2; exact q
    have fb3 : 0 ≤ p1.toInt ∧ p1.toInt ≤ 3 := by rcases hr1 with ⟨q, r⟩ | ⟨q, r⟩; exact absurd q (by omega); exact r
    clear hr1
    refine lv_aload_n hx hb dX12_write_10 rfl (lv_at hl 0 rfl) ?_
    refine pget (ci := 12) (v := va_rf (u0.2.2.2.2 h0 30)) (C := RX12) (T := TX12) (N := 34) hx hb hts i_X12 hown hK hP m_h0 (cF12 k_h0) rfl 30 (by decide) (hts (.fieldLink RX12 61 "BellowsRowModel" "slotMany" "[I") (by decide +kernel)) (fun _ h9 => h9) rfl dX12_write_11 ?_
    refine W.eq (g2 := F0 m 14 ls [.ref a30]) (by rw [(((hp h0 m0_h0).2.2.2.2.2.1 k0_h0 30).trans q0_30)]; rfl) ?_
    refine lv_iload_n hx hb dX12_write_14 rfl (lv_at hl 1 rfl) ?_
    refine palI hx hb hK hP m_a30 (cF60 k_a30) 1 rfl (vp_in_iff.mpr (by (try simp only [i_lt, i_le, i_eq, Int32.toInt_toInt64, Int32.reduceToInt, Int64.reduceToInt, true_and, and_true, false_and, and_false, false_or, or_false, true_or, or_true, not_true_eq_false, not_false_eq_true, ne_eq, forall_const, true_implies, false_implies, implies_true] at eb3 fb3 ⊢) <;> omega)) dX12_write_15 ?_
    refine lv_topi (fun x4 ex4 => ?_)
    have tx4 : x4.toInt = (u0.2.2.1 a30 (p1.toNatClampNeg)).toInt := congrArg Int32.toInt ex4
    have g5 : -1 ≤ x4.toInt ∧ x4.toInt ≤ 60 := by have g := (hu a30 m_a30).2.2.2 (p1.toNatClampNeg); rw [k_a30] at g; rw [show x4 = _ from ex4]; exact g
    refine lv_iconst (v := (-1)) hx hb dX12_write_16 (by decide) ?_
    refine lv_icmp_ne (tgt := 23) hx hb dX12_write_17 (by decide) (fun c6 => ?_) (fun c6 => ?_)
    · refine lv_iload_n hx hb dX12_write_23 rfl (lv_at hl 2 rfl) ?_
      refine lv_i2l hx hb dX12_write_24 rfl ?_
      have b7 := Int32.toInt_lt p2
      have ab7 := Int32.le_toInt p2
      refine lv_topl (fun x8 ex8 => ?_)
      have tx8 : x8.toInt = p2.toInt := by rw [ex8]; exact Int32.toInt_toInt64 _
      refine lv_lconst (v := 0) hx hb dX12_write_25 (by decide) ?_
      refine lv_aload_n hx hb dX12_write_26 rfl (lv_at hl 0 rfl) ?_
      refine pget (ci := 12) (v := va_rf (u0.2.2.2.2 h0 30)) (C := RX12) (T := TX12) (N := 34) hx hb hts i_X12 hown hK hP m_h0 (cF12 k_h0) rfl 30 (by decide) (hts (.fieldLink RX12 61 "BellowsRowModel" "slotMany" "[I") (by decide +kernel)) (fun _ h9 => h9) rfl dX12_write_27 ?_
      refine W.eq (g2 := F0 m 30 ls [.ref a30, .long 0, .long x8]) (by rw [(((hp h0 m0_h0).2.2.2.2.2.1 k0_h0 30).trans q0_30)]; rfl) ?_
      refine lv_iload_n hx hb dX12_write_30 rfl (lv_at hl 1 rfl) ?_
      refine palI hx hb hK hP m_a30 (cF60 k_a30) 1 rfl (vp_in_iff.mpr (by (try simp only [i_lt, i_le, i_eq, Int32.toInt_toInt64, Int32.reduceToInt, Int64.reduceToInt, true_and, and_true, false_and, and_false, false_or, or_false, true_or, or_true, not_true_eq_false, not_false_eq_true, ne_eq, forall_const, true_implies, false_implies, implies_true] at eb3 fb3 tx4 g5 c6 b7 ab7 tx8 ⊢) <;> omega)) dX12_write_31 ?_
      refine lv_topi (fun x9 ex9 => ?_)
      have tx9 : x9.toInt = (u0.2.2.1 a30 (p1.toNatClampNeg)).toInt := congrArg Int32.toInt ex9
      have g10 : -1 ≤ x9.toInt ∧ x9.toInt ≤ 60 := by have g := (hu a30 m_a30).2.2.2 (p1.toNatClampNeg); rw [k_a30] at g; rw [show x9 = _ from ex9]; exact g
      refine lv_iconst (v := 1) hx hb dX12_write_32 (by decide) ?_
      refine lv_isub hx hb dX12_write_33 ?_
      refine lv_topi (fun x11 ex11 => ?_)
      have tx11 : x11.toInt = x9.toInt - (1 : Int32).toInt := by rw [ex11]; exact i_sub (by (try simp only [i_lt, i_le, i_eq, Int32.toInt_toInt64, Int32.reduceToInt, Int64.reduceToInt, true_and, and_true, false_and, and_false, false_or, or_false, true_or, or_true, not_true_eq_false, not_false_eq_true, ne_eq, forall_const, true_implies, false_implies, implies_true] at eb3 fb3 tx4 g5 c6 b7 ab7 tx8 tx9 g10 ⊢) <;> omega) (by (try simp only [i_lt, i_le, i_eq, Int32.toInt_toInt64, Int32.reduceToInt, Int64.reduceToInt, true_and, and_true, false_and, and_false, false_or, or_false, true_or, or_true, not_true_eq_false, not_false_eq_true, ne_eq, forall_const, true_implies, false_implies, implies_true] at eb3 fb3 tx4 g5 c6 b7 ab7 tx8 tx9 g10 ⊢) <;> omega)
      refine lv_i2l hx hb dX12_write_34 rfl ?_
      refine lv_topl (fun x12 ex12 => ?_)
      have tx12 : x12.toInt = x11.toInt := by rw [ex12]; exact Int32.toInt_toInt64 _
      refine psi (As := [.long x8, .long 0, .long x12]) (rest := []) ⟨hx, hb, hml, hown, hts⟩ (t_X12_in l D k x8 0 x12) (va_cwS 3 hts gX12_write_X12_in rfl rfl rfl (by decide +kernel) ⟨Nat.le_of_ble_eq_true rfl, Nat.le_of_ble_eq_true rfl⟩) hK rfl hl.1 rfl (Nat.le_of_ble_eq_true rfl) dX12_write_35 ⟨Nat.le_of_ble_eq_true rfl, Nat.le_of_ble_eq_true rfl⟩ (fun r13 hr13 => ?_)
      refine lv_if_ne (tgt := 44) hx hb dX12_write_38 (by decide) (fun c14 => ?_) (fun c14 => ?_)
      · have eb15 : r13.toInt = 1 := by rcases hr13 with ⟨q, -⟩ | ⟨q, -⟩; exact absurd (i_eq.mpr q) c14; exact q
        have fb15 : (0 : Int64).toInt ≤ x8.toInt ∧ x8.toInt ≤ x12.toInt := by rcases hr13 with ⟨q, r⟩ | ⟨q, r⟩; exact absurd q (by omega); exact r
        clear hr13
        refine lv_aload_n hx hb dX12_write_44 rfl (lv_at hl 0 rfl) ?_
        refine pget (ci := 12) (v := va_rf (u0.2.2.2.2 h0 32)) (C := RX12) (T := TX12) (N := 34) hx hb hts i_X12 hown hK hP m_h0 (cF12 k_h0) rfl 32 (by decide) (hts (.fieldLink RX12 67 "BellowsRowModel" "numbers" "[J") (by decide +kernel)) (fun _ h9 => h9) rfl dX12_write_45 ?_
        refine W.eq (g2 := F0 m 48 ls [.ref a32]) (by rw [(((hp h0 m0_h0).2.2.2.2.2.1 k0_h0 32).trans q0_32)]; rfl) ?_
        refine lv_bipush (v := 60) hx hb dX12_write_48 (by decide) ?_
        refine lv_iload_n hx hb dX12_write_50 rfl (lv_at hl 1 rfl) ?_
        refine lv_imul hx hb dX12_write_51 ?_
        refine lv_topi (fun x16 ex16 => ?_)
        have tx16 : x16.toInt = 60 * p1.toInt := by rw [ex16]; exact i_mulc (c := 60) (by decide) ((show 0 ≤ p1.toInt ∧ p1.toInt ≤ 3 from by (try simp only [i_lt, i_le, i_eq, Int32.toInt_toInt64, Int32.reduceToInt, Int64.reduceToInt, true_and, and_true, false_and, and_false, false_or, or_false, true_or, or_true, not_true_eq_false, not_false_eq_true, ne_eq, forall_const, true_implies, false_implies, implies_true] at eb3 fb3 tx4 g5 c6 b7 ab7 tx8 tx9 g10 tx11 tx12 eb15 fb15 ⊢) <;> omega)) (by decide)
        refine lv_iload_n hx hb dX12_write_52 rfl (lv_at hl 2 rfl) ?_
        refine lv_iadd hx hb dX12_write_53 ?_
        refine lv_topi (fun x17 ex17 => ?_)
        have tx17 : x17.toInt = x16.toInt + p2.toInt := by rw [ex17]; exact i_add (by (try simp only [i_lt, i_le, i_eq, Int32.toInt_toInt64, Int32.reduceToInt, Int64.reduceToInt, true_and, and_true, false_and, and_false, false_or, or_false, true_or, or_true, not_true_eq_false, not_false_eq_true, ne_eq, forall_const, true_implies, false_implies, implies_true] at eb3 fb3 tx4 g5 c6 b7 ab7 tx8 tx9 g10 tx11 tx12 eb15 fb15 tx16 ⊢) <;> omega) (by (try simp only [i_lt, i_le, i_eq, Int32.toInt_toInt64, Int32.reduceToInt, Int64.reduceToInt, true_and, and_true, false_and, and_false, false_or, or_false, true_or, or_true, not_true_eq_false, not_false_eq_true, ne_eq, forall_const, true_implies, false_implies, implies_true] at eb3 fb3 tx4 g5 c6 b7 ab7 tx8 tx9 g10 tx11 tx12 eb15 fb15 tx16 ⊢) <;> omega)
        refine lv_lload_n hx hb dX12_write_54 rfl (lv_at hl 3 rfl) ?_
        refine lv_aload_n hx hb dX12_write_55 rfl (lv_at hl 0 rfl) ?_
        refine pget (ci := 12) (v := va_rf (u0.2.2.2.2 h0 31)) (C := RX12) (T := TX12) (N := 34) hx hb hts i_X12 hown hK hP m_h0 (cF12 k_h0) rfl 31 (by decide) (hts (.fieldLink RX12 64 "BellowsRowModel" "width" "[I") (by decide +kernel)) (fun _ h9 => h9) rfl dX12_write_56 ?_
        refine W.eq (g2 := F0 m 59 ls [.ref a31, .long p3, .int x17, .ref a32]) (by rw [(((hp h0 m0_h0).2.2.2.2.2.1 k0_h0 31).trans q0_31)]; rfl) ?_
        refine lv_iload_n hx hb dX12_write_59 rfl (lv_at hl 1 rfl) ?_
        refine palI hx hb hK hP m_a31 (cF61 k_a31) 1 rfl (vp_in_iff.mpr (by (try simp only [i_lt, i_le, i_eq, Int32.toInt_toInt64, Int32.reduceToInt, Int64.reduceToInt, true_and, and_true, false_and, and_false, false_or, or_false, true_or, or_true, not_true_eq_false, not_false_eq_true, ne_eq, forall_const, true_implies, false_implies, implies_true] at eb3 fb3 tx4 g5 c6 b7 ab7 tx8 tx9 g10 tx11 tx12 eb15 fb15 tx16 tx17 ⊢) <;> omega)) dX12_write_60 ?_
        refine lv_topi (fun x18 ex18 => ?_)
        have tx18 : x18.toInt = (u0.2.2.1 a31 (p1.toNatClampNeg)).toInt := congrArg Int32.toInt ex18
        have g19 : 0 ≤ x18.toInt ∧ x18.toInt ≤ 3 := by have g := (hu a31 m_a31).2.2.2 (p1.toNatClampNeg); rw [k_a31] at g; rw [show x18 = _ from ex18]; exact g
        refine psl (As := [.long p3, .int x18]) (rest := [.int x17, .ref a32]) ⟨hx, hb, hml, hown, hts⟩ (t_X12_cut l D k p3 x18) (va_cwS 2 hts gX12_write_X12_cut rfl rfl rfl (by decide +kernel) ⟨Nat.le_of_ble_eq_true rfl, Nat.le_of_ble_eq_true rfl⟩) hK rfl hl.1 rfl (Nat.le_of_ble_eq_true rfl) dX12_write_61 ⟨Nat.le_of_ble_eq_true rfl, Nat.le_of_ble_eq_true rfl⟩ (fun r20 hr20 => ?_)
        refine pasJ (u' := pSJ u0 a32 (x17.toNatClampNeg) r20) hx hb hK hP hD hS m_a32 (cF62 k_a32) 2 rfl (vp_in_iff.mpr (by (try simp only [i_lt, i_le, i_eq, Int32.toInt_toInt64, Int32.reduceToInt, Int64.reduceToInt, true_and, and_true, false_and, and_false, false_or, or_false, true_or, or_true, not_true_eq_false, not_false_eq_true, ne_eq, forall_const, true_implies, false_implies, implies_true] at eb3 fb3 tx4 g5 c6 b7 ab7 tx8 tx9 g10 tx11 tx12 eb15 fb15 tx16 tx17 tx18 g19 ⊢) <;> omega)) rfl (sF62 k_a32 _ _) dX12_write_64 (fun H locs hP hD hS => ?_)
        have hu := WT.setJ (a := a32) (s := (x17.toNatClampNeg)) (v := r20) hu
        have hp := PX.setJ (a := a32) (s := (x17.toNatClampNeg)) (v := r20) hp
        obtain ⟨u21, hu21⟩ : ∃ z, z = pSJ u0 a32 (x17.toNatClampNeg) r20 := ⟨_, rfl⟩
        rw [← hu21] at hP hD hu hp
        refine lv_iconst (v := 0) hx hb dX12_write_65 (by decide) ?_
        exact W.iret (v := 0) hx hb hr (fun t ht hW => ⟨⟨0, u21, rfl, ⟨hu, hp, trivial⟩, by rw [ht]; exact hP, hD⟩, hS.F ht⟩) hS.2.2 dX12_write_66
      · have eb22 : r13.toInt = 0 := by rcases hr13 with ⟨q, -⟩ | ⟨q, -⟩; exact q; (exact absurd (c14) (fun w => by rw [w] at q; exact absurd q (by decide)))
        have fb22 : (x8.toInt < (0 : Int64).toInt ∨ x12.toInt < x8.toInt) := by rcases hr13 with ⟨q, r⟩ | ⟨q, r⟩; exact r; exact absurd q (by omega)
        clear hr13
        refine lv_bipush (v := (-7)) hx hb dX12_write_41 (by decide) ?_
        exact W.iret (v := (-7)) hx hb hr (fun t ht hW => ⟨⟨(-7), u0, rfl, ⟨hu, hp, trivial⟩, by rw [ht]; exact hP, hD⟩, hS.F ht⟩) hS.2.2 dX12_write_43
    · refine lv_bipush (v := (-6)) hx hb dX12_write_20 (by decide) ?_
      exact W.iret (v := (-6)) hx hb hr (fun t ht hW => ⟨⟨(-6), u0, rfl, ⟨hu, hp, trivial⟩, by rw [ht]; exact hP, hD⟩, hS.F ht⟩) hS.2.2 dX12_write_22
  · have eb23 : r1.toInt = 0 := by rcases hr1 with ⟨q, -⟩ | ⟨q, -⟩; exact q; (exact absurd (c2) (fun w => by rw [w] at q; exact absurd q (by decide)))
    have fb23 : (p1.toInt < 0 ∨ 3 < p1.toInt) := by rcases hr1 with ⟨q, r⟩ | ⟨q, r⟩; exact r; exact absurd q (by omega)
    clear hr1
    refine lv_bipush (v := (-2)) hx hb dX12_write_7 (by decide) ?_
    exact W.iret (v := (-2)) hx hb hr (fun t ht hW => ⟨⟨(-2), u0, rfl, ⟨hu, hp, trivial⟩, by rw [ht]; exact hP, hD⟩, hS.F ht⟩) hS.2.2 dX12_write_9
set_option maxHeartbeats 4000000 in
set_option maxRecDepth 100000 in
theorem t_X12_asked (l : Launch) (D : va_G) (k : Nat → ClassId) (u : PSt) (hu : WT u) (h0 : Nat) (m_h0 : h0 ∈ u.1) (k_h0 : u.2.1 h0 = 12) (p1 : Int32) (p2 : Int32) : Met l yX12_asked wsX12_asked ({ frames := 3, cells := 0, slots := 0, locals := 71 }) (PreR D k (PW k u) [.ref h0, .int p1, .int p2]) (vp_Si (fun r => True)) 0 0 (fun _ => False) := by
  refine Met.ofW (cc := cX12_asked) (maxL := 7) (ret := (some .int)) (by decide) rfl ?_
  intro p e s m args below meth c s₁ B hml hv
  obtain ⟨rfl, hP, hK⟩ := hv
  have hx := B.exec
  have hb := B.bytes
  have hr := B.returns
  have hts := atoms_spec (ws := wsX12_asked) B.pre
  have hown : s.vm.findClass RX12 = some m.cls := findClass_of_methodNamed B.named
  have hlocks := B.notSynchronized
  have i_X12 : ∀ w ∈ wsX120, w ∈ wsX12_asked := by decide +kernel
  obtain ⟨a1, q0_1, m0_a1, k0_a1⟩ := (hu h0 m_h0).1 1 50 (by rw [k_h0]; rfl)
  have m_a1 := m0_a1
  have k_a1 := k0_a1
  have B68 : ∀ (n68 : Nat) (ls : Array Slot) (v2 : Int32) (v3 : Int32) (v4 : Int32) (v5 : Int32) (v6 : Int32), (2147483648 - v6.toInt).toNat ≤ n68 → 422 ≤ v3.toInt ∧ v3.toInt ≤ 479 → 0 ≤ v4.toInt ∧ v4.toInt ≤ 15 → 0 ≤ v6.toInt ∧ v6.toInt ≤ 4 → lv_has ls 7 [(0, .ref h0), (2, .int v2), (3, .int v3), (4, .int v4), (5, .int v5), (6, .int v6)] → W p l e (headSpec wsX12_asked ({ frames := 3, cells := 0, slots := 0, locals := 71 })).room s m ([.ref h0, .int p1, .int p2] : List Value).toArray below meth c s.heap [] 0 0 (MQ below (vp_Si (fun r => True)) ([.ref h0, .int p1, .int p2] : List Value).toArray s 0 0 (fun _ => False)) (F0 m 68 ls []) := by
    intro n68
    induction n68 with
    | zero =>
      intro ls v2 v3 v4 v5 v6 hn68 g_v3 g_v4 g_v6 hl
      exact absurd hn68 (by have := Int32.toInt_lt v6; have := Int32.le_toInt v6; omega)
    | succ n68 ih68 =>
      intro ls v2 v3 v4 v5 v6 hn68 g_v3 g_v4 g_v6 hl
      refine lv_iload hx hb dX12_asked_68 (lv_at hl 5 rfl) ?_
      refine lv_iconst (v := 4) hx hb dX12_asked_70 (by decide) ?_
      refine lv_icmp_ge (tgt := 111) hx hb dX12_asked_71 (by decide) (fun c1 => ?_) (fun c1 => ?_)
      · refine lv_aload_n hx hb dX12_asked_111 rfl (lv_at hl 0 rfl) ?_
        refine pget (ci := 12) (v := va_rf (u.2.2.2.2 h0 1)) (C := RX12) (T := TX12) (N := 34) hx hb hts i_X12 hown hK hP m_h0 (cF12 k_h0) rfl 1 (by decide) (hts (.fieldLink RX12 13 "BellowsRowModel" "world" "[I") (by decide +kernel)) (fun _ h9 => h9) rfl dX12_asked_112 ?_
        refine W.eq (g2 := F0 m 115 ls [.ref a1]) (by rw [q0_1]; rfl) ?_
        refine lv_iload_n hx hb dX12_asked_115 rfl (lv_at hl 2 rfl) ?_
        refine lv_iconst (v := 2) hx hb dX12_asked_116 (by decide) ?_
        refine lv_iadd hx hb dX12_asked_117 ?_
        refine lv_topi (fun x2 ex2 => ?_)
        have tx2 : x2.toInt = v3.toInt + (2 : Int32).toInt := by rw [ex2]; exact i_add (by (try simp only [i_lt, i_le, i_eq, Int32.toInt_toInt64, Int32.reduceToInt, Int64.reduceToInt, true_and, and_true, false_and, and_false, false_or, or_false, true_or, or_true, not_true_eq_false, not_false_eq_true, ne_eq, forall_const, true_implies, false_implies, implies_true] at g_v3 g_v4 g_v6 hn68 c1 ⊢) <;> omega) (by (try simp only [i_lt, i_le, i_eq, Int32.toInt_toInt64, Int32.reduceToInt, Int64.reduceToInt, true_and, and_true, false_and, and_false, false_or, or_false, true_or, or_true, not_true_eq_false, not_false_eq_true, ne_eq, forall_const, true_implies, false_implies, implies_true] at g_v3 g_v4 g_v6 hn68 c1 ⊢) <;> omega)
        refine palI hx hb hK hP m_a1 (cF50 k_a1) 1 rfl (vp_in_iff.mpr (by (try simp only [i_lt, i_le, i_eq, Int32.toInt_toInt64, Int32.reduceToInt, Int64.reduceToInt, true_and, and_true, false_and, and_false, false_or, or_false, true_or, or_true, not_true_eq_false, not_false_eq_true, ne_eq, forall_const, true_implies, false_implies, implies_true] at g_v3 g_v4 g_v6 hn68 c1 tx2 ⊢) <;> omega)) dX12_asked_118 ?_
        refine lv_topi (fun x3 ex3 => ?_)
        have tx3 : x3.toInt = (u.2.2.1 a1 (x2.toNatClampNeg)).toInt := congrArg Int32.toInt ex3
        refine lv_istore (lv' := [(6, .int x3), (0, .ref h0), (2, .int v2), (3, .int v3), (4, .int v4), (5, .int v5)]) hx hb dX12_asked_119 hl (by decide) rfl (fun ls hl => ?_)
        refine lv_iload_n hx hb dX12_asked_121 rfl (lv_at hl 2 rfl) ?_
        refine lv_if_ne (tgt := 136) hx hb dX12_asked_122 (by decide) (fun c4 => ?_) (fun c4 => ?_)
        · refine lv_iload_n hx hb dX12_asked_136 rfl (lv_at hl 2 rfl) ?_
          refine lv_iconst (v := 1) hx hb dX12_asked_137 (by decide) ?_
          refine lv_icmp_ne (tgt := 151) hx hb dX12_asked_138 (by decide) (fun c5 => ?_) (fun c5 => ?_)
          · refine lv_iload_n hx hb dX12_asked_151 rfl (lv_at hl 2 rfl) ?_
            refine lv_iconst (v := 2) hx hb dX12_asked_152 (by decide) ?_
            refine lv_icmp_ne (tgt := 169) hx hb dX12_asked_153 (by decide) (fun c6 => ?_) (fun c6 => ?_)
            · refine lv_iload hx hb dX12_asked_169 (lv_at hl 0 rfl) ?_
              refine lv_iload hx hb dX12_asked_171 (lv_at hl 5 rfl) ?_
              refine lv_iconst (v := (-1)) hx hb dX12_asked_173 (by decide) ?_
              refine lv_ixor hx hb dX12_asked_174 ?_
              refine lv_topi (fun x7 ex7 => ?_)
              refine lv_iand hx hb dX12_asked_175 ?_
              refine lv_topi (fun x8 ex8 => ?_)
              exact W.iret (v := x8) hx hb hr (fun t ht hW => ⟨x8, rfl, trivial, ht⟩) (fun q h => by cases h) dX12_asked_176
            · refine lv_iload hx hb dX12_asked_156 (lv_at hl 0 rfl) ?_
              refine lv_iload hx hb dX12_asked_158 (lv_at hl 4 rfl) ?_
              refine lv_iand hx hb dX12_asked_160 ?_
              refine lv_topi (fun x9 ex9 => ?_)
              refine lv_iload hx hb dX12_asked_161 (lv_at hl 5 rfl) ?_
              refine lv_iconst (v := (-1)) hx hb dX12_asked_163 (by decide) ?_
              refine lv_ixor hx hb dX12_asked_164 ?_
              refine lv_topi (fun x10 ex10 => ?_)
              refine lv_iand hx hb dX12_asked_165 ?_
              refine lv_topi (fun x11 ex11 => ?_)
              refine lv_goto (tgt := 176) hx hb dX12_asked_166 (by decide) ?_
              exact W.iret (v := x11) hx hb hr (fun t ht hW => ⟨x11, rfl, trivial, ht⟩) (fun q h => by cases h) dX12_asked_176
          · refine lv_iload hx hb dX12_asked_141 (lv_at hl 0 rfl) ?_
            refine lv_iload hx hb dX12_asked_143 (lv_at hl 4 rfl) ?_
            refine lv_iconst (v := (-1)) hx hb dX12_asked_145 (by decide) ?_
            refine lv_ixor hx hb dX12_asked_146 ?_
            refine lv_topi (fun x12 ex12 => ?_)
            refine lv_iand hx hb dX12_asked_147 ?_
            refine lv_topi (fun x13 ex13 => ?_)
            refine lv_goto (tgt := 176) hx hb dX12_asked_148 (by decide) ?_
            exact W.iret (v := x13) hx hb hr (fun t ht hW => ⟨x13, rfl, trivial, ht⟩) (fun q h => by cases h) dX12_asked_176
        · refine lv_iload hx hb dX12_asked_125 (lv_at hl 0 rfl) ?_
          refine lv_iload hx hb dX12_asked_127 (lv_at hl 4 rfl) ?_
          refine lv_iand hx hb dX12_asked_129 ?_
          refine lv_topi (fun x14 ex14 => ?_)
          refine lv_iload hx hb dX12_asked_130 (lv_at hl 5 rfl) ?_
          refine lv_iand hx hb dX12_asked_132 ?_
          refine lv_topi (fun x15 ex15 => ?_)
          refine lv_goto (tgt := 176) hx hb dX12_asked_133 (by decide) ?_
          exact W.iret (v := x15) hx hb hr (fun t ht hW => ⟨x15, rfl, trivial, ht⟩) (fun q h => by cases h) dX12_asked_176
      · refine lv_iload hx hb dX12_asked_74 (lv_at hl 4 rfl) ?_
        refine lv_aload_n hx hb dX12_asked_76 rfl (lv_at hl 0 rfl) ?_
        refine lv_iload hx hb dX12_asked_77 (lv_at hl 5 rfl) ?_
        refine lv_aload_n hx hb dX12_asked_79 rfl (lv_at hl 0 rfl) ?_
        refine pget (ci := 12) (v := va_rf (u.2.2.2.2 h0 1)) (C := RX12) (T := TX12) (N := 34) hx hb hts i_X12 hown hK hP m_h0 (cF12 k_h0) rfl 1 (by decide) (hts (.fieldLink RX12 13 "BellowsRowModel" "world" "[I") (by decide +kernel)) (fun _ h9 => h9) rfl dX12_asked_80 ?_
        refine W.eq (g2 := F0 m 83 ls [.ref a1, .int v6, .ref h0, .int v5]) (by rw [q0_1]; rfl) ?_
        refine lv_iload_n hx hb dX12_asked_83 rfl (lv_at hl 2 rfl) ?_
        refine lv_iconst (v := 1) hx hb dX12_asked_84 (by decide) ?_
        refine lv_iadd hx hb dX12_asked_85 ?_
        refine lv_topi (fun x16 ex16 => ?_)
        have tx16 : x16.toInt = v3.toInt + (1 : Int32).toInt := by rw [ex16]; exact i_add (by (try simp only [i_lt, i_le, i_eq, Int32.toInt_toInt64, Int32.reduceToInt, Int64.reduceToInt, true_and, and_true, false_and, and_false, false_or, or_false, true_or, or_true, not_true_eq_false, not_false_eq_true, ne_eq, forall_const, true_implies, false_implies, implies_true] at g_v3 g_v4 g_v6 hn68 c1 ⊢) <;> omega) (by (try simp only [i_lt, i_le, i_eq, Int32.toInt_toInt64, Int32.reduceToInt, Int64.reduceToInt, true_and, and_true, false_and, and_false, false_or, or_false, true_or, or_true, not_true_eq_false, not_false_eq_true, ne_eq, forall_const, true_implies, false_implies, implies_true] at g_v3 g_v4 g_v6 hn68 c1 ⊢) <;> omega)
        refine palI hx hb hK hP m_a1 (cF50 k_a1) 1 rfl (vp_in_iff.mpr (by (try simp only [i_lt, i_le, i_eq, Int32.toInt_toInt64, Int32.reduceToInt, Int64.reduceToInt, true_and, and_true, false_and, and_false, false_or, or_false, true_or, or_true, not_true_eq_false, not_false_eq_true, ne_eq, forall_const, true_implies, false_implies, implies_true] at g_v3 g_v4 g_v6 hn68 c1 tx16 ⊢) <;> omega)) dX12_asked_86 ?_
        refine lv_topi (fun x17 ex17 => ?_)
        have tx17 : x17.toInt = (u.2.2.1 a1 (x16.toNatClampNeg)).toInt := congrArg Int32.toInt ex17
        refine rvi (C := RX12) (As := [.int v6, .int x17]) (rest := [.int v5]) ⟨hx, hb, hml, hown, hts⟩ (t_X12_whoOf l D k u hu h0 m_h0 k_h0 v6 x17) (cwV 2 hts gX12_asked_X12_whoOf rfl rfl rfl (by decide +kernel) ⟨Nat.le_of_ble_eq_true rfl, Nat.le_of_ble_eq_true rfl⟩) hP hK (precv hK hP m_h0 (cF12 k_h0) rfl) rfl hl.1 rfl (Nat.le_of_ble_eq_true rfl) dX12_asked_87 ⟨Nat.le_of_ble_eq_true rfl, Nat.le_of_ble_eq_true rfl⟩ (fun r18 hr18 => ?_)
        refine lv_iconst (v := (-1)) hx hb dX12_asked_90 (by decide) ?_
        refine lv_icmp_ne (tgt := 98) hx hb dX12_asked_91 (by decide) (fun c19 => ?_) (fun c19 => ?_)
        · refine lv_iconst (v := 1) hx hb dX12_asked_98 (by decide) ?_
          refine lv_iload hx hb dX12_asked_99 (lv_at hl 5 rfl) ?_
          refine lv_ishl hx hb dX12_asked_101 ?_
          refine lv_topi (fun x20 ex20 => ?_)
          refine lv_ior hx hb dX12_asked_102 ?_
          refine lv_topi (fun x21 ex21 => ?_)
          refine lv_istore (lv' := [(5, .int x21), (0, .ref h0), (2, .int v2), (3, .int v3), (4, .int v4), (6, .int v6)]) hx hb dX12_asked_103 hl (by decide) rfl (fun ls hl => ?_)
          obtain ⟨x22, ex22⟩ : ∃ y : Int32, y = v6 + 1 := ⟨_, rfl⟩
          have tx22 : x22.toInt = v6.toInt + 1 := by rw [ex22]; exact i_add (b := 1) (by (try simp only [i_lt, i_le, i_eq, Int32.toInt_toInt64, Int32.reduceToInt, Int64.reduceToInt, true_and, and_true, false_and, and_false, false_or, or_false, true_or, or_true, not_true_eq_false, not_false_eq_true, ne_eq, forall_const, true_implies, false_implies, implies_true] at g_v3 g_v4 g_v6 hn68 c1 tx16 tx17 ⊢) <;> omega) (by (try simp only [i_lt, i_le, i_eq, Int32.toInt_toInt64, Int32.reduceToInt, Int64.reduceToInt, true_and, and_true, false_and, and_false, false_or, or_false, true_or, or_true, not_true_eq_false, not_false_eq_true, ne_eq, forall_const, true_implies, false_implies, implies_true] at g_v3 g_v4 g_v6 hn68 c1 tx16 tx17 ⊢) <;> omega)
          refine lv_iinc (v := x22) (lv' := [(6, .int x22), (5, .int x21), (0, .ref h0), (2, .int v2), (3, .int v3), (4, .int v4)]) hx hb dX12_asked_105 hl (k := 5) rfl (by rw [ex22]; rfl) (by decide) rfl (fun ls hl => ?_)
          refine lv_goto (tgt := 68) hx hb dX12_asked_108 (by decide) ?_
          exact ih68 ls v2 v3 v4 x21 x22 (by (try simp only [i_lt, i_le, i_eq, Int32.toInt_toInt64, Int32.reduceToInt, Int64.reduceToInt, true_and, and_true, false_and, and_false, false_or, or_false, true_or, or_true, not_true_eq_false, not_false_eq_true, ne_eq, forall_const, true_implies, false_implies, implies_true] at g_v3 g_v4 g_v6 hn68 c1 tx16 tx17 tx22 ⊢) <;> omega) (by (try simp only [i_lt, i_le, i_eq, Int32.toInt_toInt64, Int32.reduceToInt, Int64.reduceToInt, true_and, and_true, false_and, and_false, false_or, or_false, true_or, or_true, not_true_eq_false, not_false_eq_true, ne_eq, forall_const, true_implies, false_implies, implies_true] at g_v3 g_v4 g_v6 hn68 c1 tx16 tx17 tx22 ⊢) <;> omega) (by (try simp only [i_lt, i_le, i_eq, Int32.toInt_toInt64, Int32.reduceToInt, Int64.reduceToInt, true_and, and_true, false_and, and_false, false_or, or_false, true_or, or_true, not_true_eq_false, not_false_eq_true, ne_eq, forall_const, true_implies, false_implies, implies_true] at g_v3 g_v4 g_v6 hn68 c1 tx16 tx17 tx22 ⊢) <;> omega) (by (try simp only [i_lt, i_le, i_eq, Int32.toInt_toInt64, Int32.reduceToInt, Int64.reduceToInt, true_and, and_true, false_and, and_false, false_or, or_false, true_or, or_true, not_true_eq_false, not_false_eq_true, ne_eq, forall_const, true_implies, false_implies, implies_true] at g_v3 g_v4 g_v6 hn68 c1 tx16 tx17 tx22 ⊢) <;> omega) (lv_sub hl [2, 3, 4, 5, 1, 0] rfl)
        · refine lv_iconst (v := 0) hx hb dX12_asked_94 (by decide) ?_
          refine lv_goto (tgt := 102) hx hb dX12_asked_95 (by decide) ?_
          refine lv_ior hx hb dX12_asked_102 ?_
          refine lv_topi (fun x23 ex23 => ?_)
          refine lv_istore (lv' := [(5, .int x23), (0, .ref h0), (2, .int v2), (3, .int v3), (4, .int v4), (6, .int v6)]) hx hb dX12_asked_103 hl (by decide) rfl (fun ls hl => ?_)
          obtain ⟨x24, ex24⟩ : ∃ y : Int32, y = v6 + 1 := ⟨_, rfl⟩
          have tx24 : x24.toInt = v6.toInt + 1 := by rw [ex24]; exact i_add (b := 1) (by (try simp only [i_lt, i_le, i_eq, Int32.toInt_toInt64, Int32.reduceToInt, Int64.reduceToInt, true_and, and_true, false_and, and_false, false_or, or_false, true_or, or_true, not_true_eq_false, not_false_eq_true, ne_eq, forall_const, true_implies, false_implies, implies_true] at g_v3 g_v4 g_v6 hn68 c1 tx16 tx17 c19 ⊢) <;> omega) (by (try simp only [i_lt, i_le, i_eq, Int32.toInt_toInt64, Int32.reduceToInt, Int64.reduceToInt, true_and, and_true, false_and, and_false, false_or, or_false, true_or, or_true, not_true_eq_false, not_false_eq_true, ne_eq, forall_const, true_implies, false_implies, implies_true] at g_v3 g_v4 g_v6 hn68 c1 tx16 tx17 c19 ⊢) <;> omega)
          refine lv_iinc (v := x24) (lv' := [(6, .int x24), (5, .int x23), (0, .ref h0), (2, .int v2), (3, .int v3), (4, .int v4)]) hx hb dX12_asked_105 hl (k := 5) rfl (by rw [ex24]; rfl) (by decide) rfl (fun ls hl => ?_)
          refine lv_goto (tgt := 68) hx hb dX12_asked_108 (by decide) ?_
          exact ih68 ls v2 v3 v4 x23 x24 (by (try simp only [i_lt, i_le, i_eq, Int32.toInt_toInt64, Int32.reduceToInt, Int64.reduceToInt, true_and, and_true, false_and, and_false, false_or, or_false, true_or, or_true, not_true_eq_false, not_false_eq_true, ne_eq, forall_const, true_implies, false_implies, implies_true] at g_v3 g_v4 g_v6 hn68 c1 tx16 tx17 c19 tx24 ⊢) <;> omega) (by (try simp only [i_lt, i_le, i_eq, Int32.toInt_toInt64, Int32.reduceToInt, Int64.reduceToInt, true_and, and_true, false_and, and_false, false_or, or_false, true_or, or_true, not_true_eq_false, not_false_eq_true, ne_eq, forall_const, true_implies, false_implies, implies_true] at g_v3 g_v4 g_v6 hn68 c1 tx16 tx17 c19 tx24 ⊢) <;> omega) (by (try simp only [i_lt, i_le, i_eq, Int32.toInt_toInt64, Int32.reduceToInt, Int64.reduceToInt, true_and, and_true, false_and, and_false, false_or, or_false, true_or, or_true, not_true_eq_false, not_false_eq_true, ne_eq, forall_const, true_implies, false_implies, implies_true] at g_v3 g_v4 g_v6 hn68 c1 tx16 tx17 c19 tx24 ⊢) <;> omega) (by (try simp only [i_lt, i_le, i_eq, Int32.toInt_toInt64, Int32.reduceToInt, Int64.reduceToInt, true_and, and_true, false_and, and_false, false_or, or_false, true_or, or_true, not_true_eq_false, not_false_eq_true, ne_eq, forall_const, true_implies, false_implies, implies_true] at g_v3 g_v4 g_v6 hn68 c1 tx16 tx17 c19 tx24 ⊢) <;> omega) (lv_sub hl [2, 3, 4, 5, 1, 0] rfl)
  have hl := lv_entry ([.ref h0, .int p1, .int p2]) (n := 7) (Nat.le_of_ble_eq_true rfl)
  rw [lg_entry_eq]
  generalize (lg_sl ([.ref h0, .int p1, .int p2]) ++ List.replicate (7 - (lg_sl ([.ref h0, .int p1, .int p2])).length) Slot.unset).toArray = ls at hl ⊢
  have hl : lv_has ls 7 [(0, .ref h0), (1, .int p1), (2, .int p2)] := hl
  refine lv_iload_n hx hb dX12_asked_0 rfl (lv_at hl 1 rfl) ?_
  refine lv_i2l hx hb dX12_asked_1 rfl ?_
  have b25 := Int32.toInt_lt p1
  have ab25 := Int32.le_toInt p1
  refine lv_topl (fun x26 ex26 => ?_)
  have tx26 : x26.toInt = p1.toInt := by rw [ex26]; exact Int32.toInt_toInt64 _
  refine lv_lconst (v := 0) hx hb dX12_asked_2 (by decide) ?_
  refine lv_aload_n hx hb dX12_asked_3 rfl (lv_at hl 0 rfl) ?_
  refine pget (ci := 12) (v := va_rf (u.2.2.2.2 h0 1)) (C := RX12) (T := TX12) (N := 34) hx hb hts i_X12 hown hK hP m_h0 (cF12 k_h0) rfl 1 (by decide) (hts (.fieldLink RX12 13 "BellowsRowModel" "world" "[I") (by decide +kernel)) (fun _ h9 => h9) rfl dX12_asked_4 ?_
  refine W.eq (g2 := F0 m 7 ls [.ref a1, .long 0, .long x26]) (by rw [q0_1]; rfl) ?_
  refine lv_iconst (v := 5) hx hb dX12_asked_7 (by decide) ?_
  refine palI hx hb hK hP m_a1 (cF50 k_a1) 1 rfl (vp_in_iff.mpr (by decide)) dX12_asked_8 ?_
  refine lv_topi (fun x27 ex27 => ?_)
  have tx27 : x27.toInt = (u.2.2.1 a1 5).toInt := congrArg Int32.toInt ex27
  have g28 : 0 ≤ x27.toInt ∧ x27.toInt ≤ 20 := by have g : okI (u.2.1 a1) (5) (u.2.2.1 a1 (5)) := (hu a1 m_a1).2.2.2 (5); rw [k_a1, ← (show x27 = u.2.2.1 a1 (5) from ex27)] at g; have g : okW (5) x27 := g; unfold okW at g; (try simp only [i_lt, i_le, i_eq, Int32.toInt_toInt64, Int32.reduceToInt, Int64.reduceToInt, true_and, and_true, false_and, and_false, false_or, or_false, true_or, or_true, not_true_eq_false, not_false_eq_true, ne_eq, forall_const, true_implies, false_implies, implies_true] at b25 ab25 tx26 tx27 g ⊢) <;> omega
  refine lv_iconst (v := 1) hx hb dX12_asked_9 (by decide) ?_
  refine lv_isub hx hb dX12_asked_10 ?_
  refine lv_topi (fun x29 ex29 => ?_)
  have tx29 : x29.toInt = x27.toInt - (1 : Int32).toInt := by rw [ex29]; exact i_sub (by (try simp only [i_lt, i_le, i_eq, Int32.toInt_toInt64, Int32.reduceToInt, Int64.reduceToInt, true_and, and_true, false_and, and_false, false_or, or_false, true_or, or_true, not_true_eq_false, not_false_eq_true, ne_eq, forall_const, true_implies, false_implies, implies_true] at b25 ab25 tx26 tx27 g28 ⊢) <;> omega) (by (try simp only [i_lt, i_le, i_eq, Int32.toInt_toInt64, Int32.reduceToInt, Int64.reduceToInt, true_and, and_true, false_and, and_false, false_or, or_false, true_or, or_true, not_true_eq_false, not_false_eq_true, ne_eq, forall_const, true_implies, false_implies, implies_true] at b25 ab25 tx26 tx27 g28 ⊢) <;> omega)
  refine lv_i2l hx hb dX12_asked_11 rfl ?_
  refine lv_topl (fun x30 ex30 => ?_)
  have tx30 : x30.toInt = x29.toInt := by rw [ex30]; exact Int32.toInt_toInt64 _
  refine psi (As := [.long x26, .long 0, .long x30]) (rest := []) ⟨hx, hb, hml, hown, hts⟩ (t_X12_in l D k x26 0 x30) (va_cwS 3 hts gX12_asked_X12_in rfl rfl rfl (by decide +kernel) ⟨Nat.le_of_ble_eq_true rfl, Nat.le_of_ble_eq_true rfl⟩) hK rfl hl.1 rfl (Nat.le_of_ble_eq_true rfl) dX12_asked_12 ⟨Nat.le_of_ble_eq_true rfl, Nat.le_of_ble_eq_true rfl⟩ (fun r31 hr31 => ?_)
  refine lv_if_eq (tgt := 30) hx hb dX12_asked_15 (by decide) (fun c32 => ?_) (fun c32 => ?_)
  · have eb33 : r31.toInt = 0 := by rcases hr31 with ⟨q, -⟩ | ⟨q, -⟩; exact q; (exact absurd (c32) (fun w => by rw [w] at q; exact absurd q (by decide)))
    have fb33 : (x26.toInt < (0 : Int64).toInt ∨ x30.toInt < x26.toInt) := by rcases hr31 with ⟨q, r⟩ | ⟨q, r⟩; exact r; exact absurd q (by omega)
    clear hr31
    refine lv_bipush (v := (-2)) hx hb dX12_asked_30 (by decide) ?_
    exact W.iret (v := (-2)) hx hb hr (fun t ht hW => ⟨(-2), rfl, trivial, ht⟩) (fun q h => by cases h) dX12_asked_32
  · have eb34 : r31.toInt = 1 := by rcases hr31 with ⟨q, -⟩ | ⟨q, -⟩; exact absurd (i_eq.mpr q) c32; exact q
    have fb34 : (0 : Int64).toInt ≤ x26.toInt ∧ x26.toInt ≤ x30.toInt := by rcases hr31 with ⟨q, r⟩ | ⟨q, r⟩; exact absurd q (by omega); exact r
    clear hr31
    refine lv_iload_n hx hb dX12_asked_18 rfl (lv_at hl 2 rfl) ?_
    refine lv_i2l hx hb dX12_asked_19 rfl ?_
    have b35 := Int32.toInt_lt p2
    have ab35 := Int32.le_toInt p2
    refine lv_topl (fun x36 ex36 => ?_)
    have tx36 : x36.toInt = p2.toInt := by rw [ex36]; exact Int32.toInt_toInt64 _
    refine lv_lconst (v := 0) hx hb dX12_asked_20 (by decide) ?_
    refine lv_ldc2 (own := RX12) (v := 3) hx hb hown (hts (.constantLong RX12 334 (3)) (by decide +kernel)) dX12_asked_21 ?_
    refine psi (As := [.long x36, .long 0, .long 3]) (rest := []) ⟨hx, hb, hml, hown, hts⟩ (t_X12_in l D k x36 0 3) (va_cwS 3 hts gX12_asked_X12_in rfl rfl rfl (by decide +kernel) ⟨Nat.le_of_ble_eq_true rfl, Nat.le_of_ble_eq_true rfl⟩) hK rfl hl.1 rfl (Nat.le_of_ble_eq_true rfl) dX12_asked_24 ⟨Nat.le_of_ble_eq_true rfl, Nat.le_of_ble_eq_true rfl⟩ (fun r37 hr37 => ?_)
    refine lv_if_ne (tgt := 33) hx hb dX12_asked_27 (by decide) (fun c38 => ?_) (fun c38 => ?_)
    · have eb39 : r37.toInt = 1 := by rcases hr37 with ⟨q, -⟩ | ⟨q, -⟩; exact absurd (i_eq.mpr q) c38; exact q
      have fb39 : (0 : Int64).toInt ≤ x36.toInt ∧ x36.toInt ≤ (3 : Int64).toInt := by rcases hr37 with ⟨q, r⟩ | ⟨q, r⟩; exact absurd q (by omega); exact r
      clear hr37
      refine lv_sipush (v := 422) hx hb dX12_asked_33 (by decide) ?_
      refine lv_iconst (v := 3) hx hb dX12_asked_36 (by decide) ?_
      refine lv_iload_n hx hb dX12_asked_37 rfl (lv_at hl 1 rfl) ?_
      refine lv_imul hx hb dX12_asked_38 ?_
      refine lv_topi (fun x40 ex40 => ?_)
      have tx40 : x40.toInt = 3 * p1.toInt := by rw [ex40]; exact i_mulc (c := 3) (by decide) ((show 0 ≤ p1.toInt ∧ p1.toInt ≤ 19 from by (try simp only [i_lt, i_le, i_eq, Int32.toInt_toInt64, Int32.reduceToInt, Int64.reduceToInt, true_and, and_true, false_and, and_false, false_or, or_false, true_or, or_true, not_true_eq_false, not_false_eq_true, ne_eq, forall_const, true_implies, false_implies, implies_true] at b25 ab25 tx26 tx27 g28 tx29 tx30 eb34 fb34 b35 ab35 tx36 eb39 fb39 ⊢) <;> omega)) (by decide)
      refine lv_iadd hx hb dX12_asked_39 ?_
      refine lv_topi (fun x41 ex41 => ?_)
      have tx41 : x41.toInt = (422 : Int32).toInt + x40.toInt := by rw [ex41]; exact i_add (by (try simp only [i_lt, i_le, i_eq, Int32.toInt_toInt64, Int32.reduceToInt, Int64.reduceToInt, true_and, and_true, false_and, and_false, false_or, or_false, true_or, or_true, not_true_eq_false, not_false_eq_true, ne_eq, forall_const, true_implies, false_implies, implies_true] at b25 ab25 tx26 tx27 g28 tx29 tx30 eb34 fb34 b35 ab35 tx36 eb39 fb39 tx40 ⊢) <;> omega) (by (try simp only [i_lt, i_le, i_eq, Int32.toInt_toInt64, Int32.reduceToInt, Int64.reduceToInt, true_and, and_true, false_and, and_false, false_or, or_false, true_or, or_true, not_true_eq_false, not_false_eq_true, ne_eq, forall_const, true_implies, false_implies, implies_true] at b25 ab25 tx26 tx27 g28 tx29 tx30 eb34 fb34 b35 ab35 tx36 eb39 fb39 tx40 ⊢) <;> omega)
      refine lv_istore_n (lv' := [(3, .int x41), (0, .ref h0), (1, .int p1), (2, .int p2)]) hx hb dX12_asked_40 rfl hl (by decide) rfl (fun ls hl => ?_)
      refine lv_aload_n hx hb dX12_asked_41 rfl (lv_at hl 1 rfl) ?_
      refine pget (ci := 12) (v := va_rf (u.2.2.2.2 h0 1)) (C := RX12) (T := TX12) (N := 34) hx hb hts i_X12 hown hK hP m_h0 (cF12 k_h0) rfl 1 (by decide) (hts (.fieldLink RX12 13 "BellowsRowModel" "world" "[I") (by decide +kernel)) (fun _ h9 => h9) rfl dX12_asked_42 ?_
      refine W.eq (g2 := F0 m 45 ls [.ref a1]) (by rw [q0_1]; rfl) ?_
      refine lv_bipush (v := 9) hx hb dX12_asked_45 (by decide) ?_
      refine palI hx hb hK hP m_a1 (cF50 k_a1) 1 rfl (vp_in_iff.mpr (by decide)) dX12_asked_47 ?_
      refine lv_topi (fun x42 ex42 => ?_)
      have tx42 : x42.toInt = (u.2.2.1 a1 9).toInt := congrArg Int32.toInt ex42
      refine lv_iconst (v := 4) hx hb dX12_asked_48 (by decide) ?_
      refine lv_aload_n hx hb dX12_asked_49 rfl (lv_at hl 1 rfl) ?_
      refine pget (ci := 12) (v := va_rf (u.2.2.2.2 h0 1)) (C := RX12) (T := TX12) (N := 34) hx hb hts i_X12 hown hK hP m_h0 (cF12 k_h0) rfl 1 (by decide) (hts (.fieldLink RX12 13 "BellowsRowModel" "world" "[I") (by decide +kernel)) (fun _ h9 => h9) rfl dX12_asked_50 ?_
      refine W.eq (g2 := F0 m 53 ls [.ref a1, .int 4, .int x42]) (by rw [q0_1]; rfl) ?_
      refine lv_iload_n hx hb dX12_asked_53 rfl (lv_at hl 0 rfl) ?_
      refine palI hx hb hK hP m_a1 (cF50 k_a1) 1 rfl (vp_in_iff.mpr (by (try simp only [i_lt, i_le, i_eq, Int32.toInt_toInt64, Int32.reduceToInt, Int64.reduceToInt, true_and, and_true, false_and, and_false, false_or, or_false, true_or, or_true, not_true_eq_false, not_false_eq_true, ne_eq, forall_const, true_implies, false_implies, implies_true] at b25 ab25 tx26 tx27 g28 tx29 tx30 eb34 fb34 b35 ab35 tx36 eb39 fb39 tx40 tx41 tx42 ⊢) <;> omega)) dX12_asked_54 ?_
      refine lv_topi (fun x43 ex43 => ?_)
      have tx43 : x43.toInt = (u.2.2.1 a1 (x41.toNatClampNeg)).toInt := congrArg Int32.toInt ex43
      refine lv_imul hx hb dX12_asked_55 ?_
      refine lv_topi (fun x44 ex44 => ?_)
      refine lv_ishr hx hb dX12_asked_56 ?_
      refine lv_topi (fun x45 ex45 => ?_)
      refine lv_bipush (v := 15) hx hb dX12_asked_57 (by decide) ?_
      refine lv_iand hx hb dX12_asked_59 ?_
      refine lv_topi (fun x46 ex46 => ?_)
      have tx46 : 0 ≤ x46.toInt ∧ x46.toInt ≤ 15 := by rw [ex46]; exact i_and (m := 15) (b := 4) (by decide) (by decide)
      refine lv_istore (lv' := [(4, .int x46), (3, .int x41), (0, .ref h0), (1, .int p1), (2, .int p2)]) hx hb dX12_asked_60 hl (by decide) rfl (fun ls hl => ?_)
      refine lv_iconst (v := 0) hx hb dX12_asked_62 (by decide) ?_
      refine lv_istore (lv' := [(5, .int 0), (4, .int x46), (3, .int x41), (0, .ref h0), (1, .int p1), (2, .int p2)]) hx hb dX12_asked_63 hl (by decide) rfl (fun ls hl => ?_)
      refine lv_iconst (v := 0) hx hb dX12_asked_65 (by decide) ?_
      refine lv_istore (lv' := [(6, .int 0), (5, .int 0), (4, .int x46), (3, .int x41), (0, .ref h0), (1, .int p1), (2, .int p2)]) hx hb dX12_asked_66 hl (by decide) rfl (fun ls hl => ?_)
      exact B68 _ ls p2 x41 x46 0 0 (Nat.le_refl _) (by (try simp only [i_lt, i_le, i_eq, Int32.toInt_toInt64, Int32.reduceToInt, Int64.reduceToInt, true_and, and_true, false_and, and_false, false_or, or_false, true_or, or_true, not_true_eq_false, not_false_eq_true, ne_eq, forall_const, true_implies, false_implies, implies_true] at b25 ab25 tx26 tx27 g28 tx29 tx30 eb34 fb34 b35 ab35 tx36 eb39 fb39 tx40 tx41 tx42 tx43 tx46 ⊢) <;> omega) (by (try simp only [i_lt, i_le, i_eq, Int32.toInt_toInt64, Int32.reduceToInt, Int64.reduceToInt, true_and, and_true, false_and, and_false, false_or, or_false, true_or, or_true, not_true_eq_false, not_false_eq_true, ne_eq, forall_const, true_implies, false_implies, implies_true] at b25 ab25 tx26 tx27 g28 tx29 tx30 eb34 fb34 b35 ab35 tx36 eb39 fb39 tx40 tx41 tx42 tx43 tx46 ⊢) <;> omega) (by (try simp only [i_lt, i_le, i_eq, Int32.toInt_toInt64, Int32.reduceToInt, Int64.reduceToInt, true_and, and_true, false_and, and_false, false_or, or_false, true_or, or_true, not_true_eq_false, not_false_eq_true, ne_eq, forall_const, true_implies, false_implies, implies_true] at b25 ab25 tx26 tx27 g28 tx29 tx30 eb34 fb34 b35 ab35 tx36 eb39 fb39 tx40 tx41 tx42 tx43 tx46 ⊢) <;> omega) (lv_sub hl [4, 6, 3, 2, 1, 0] rfl)
    · have eb47 : r37.toInt = 0 := by rcases hr37 with ⟨q, -⟩ | ⟨q, -⟩; exact q; (exact absurd (c38) (fun w => by rw [w] at q; exact absurd q (by decide)))
      have fb47 : (x36.toInt < (0 : Int64).toInt ∨ (3 : Int64).toInt < x36.toInt) := by rcases hr37 with ⟨q, r⟩ | ⟨q, r⟩; exact r; exact absurd q (by omega)
      clear hr37
      refine lv_bipush (v := (-2)) hx hb dX12_asked_30 (by decide) ?_
      exact W.iret (v := (-2)) hx hb hr (fun t ht hW => ⟨(-2), rfl, trivial, ht⟩) (fun q h => by cases h) dX12_asked_32
