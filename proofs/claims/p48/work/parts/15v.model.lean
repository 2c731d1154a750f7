set_option maxHeartbeats 4000000 in
set_option maxRecDepth 100000 in
theorem t_X12_cap (l : Launch) (D : va_G) (k : Nat → ClassId) (u0 : PSt) (hu : WT u0) (h0 : Nat) (m_h0 : h0 ∈ u0.1) (k_h0 : u0.2.1 h0 = 12) (p1 : Int32) (sz : Nat) : Met l yX12_cap wsX12_cap ({ frames := 7, cells := 0, slots := 0, locals := 170 }) (PreM D k sz (PW k u0) [.ref h0, .int p1]) (va_Qi (fun r v => WT v ∧ PX u0 v ∧ (True)) (WB D (va_A (PW k u0) sz) (PW k)) (va_A (PW k u0) sz)) 0 0 (va_A (PW k u0) sz) := by
  refine Met.ofW (cc := cX12_cap) (maxL := 3) (ret := (some .int)) (by decide) rfl ?_
  intro p e s m args below meth c s₁ B hml hv
  obtain ⟨rfl, hsz, hP, hK, hD0, hN⟩ := hv
  have hx := B.exec
  have hb := B.bytes
  have hr := B.returns
  have hts := atoms_spec (ws := wsX12_cap) B.pre
  have hown : s.vm.findClass RX12 = some m.cls := findClass_of_methodNamed B.named
  have hlocks := B.notSynchronized
  have m0_h0 := m_h0
  have k0_h0 := k_h0
  subst hsz
  have hD := hD0.self (sz := s.heap.size)
  generalize hAe : va_A (PW k u0) s.heap.size = A at hD ⊢
  have hA : ∀ q : Nat, s.heap.size ≤ q → A q := fun q h => by rw [← hAe]; exact Or.inr h
  have hS : va_S A s.heap s.heap [] := va_S.rf
  have hp : PX u0 u0 := PX.rf
  have B15 : ∀ (n15 : Nat) (u : PSt) (H : Heap) (locs : List Loc) (ls : Array Slot) (v1 : Int32) (v2 : Int32), WT u → PX u0 u → va_P D vwCl (PW k u) H → va_D A (PW k u) → va_S A s.heap H locs → (v2.toInt + 2147483649).toNat ≤ n15 → 0 ≤ v1.toInt ∧ v1.toInt ≤ 11 → -1 ≤ v2.toInt ∧ v2.toInt ≤ 999 → lv_has ls 3 [(0, .ref h0), (1, .int v1), (2, .int v2)] → W p l e (headSpec wsX12_cap ({ frames := 7, cells := 0, slots := 0, locals := 170 })).room s m ([.ref h0, .int p1] : List Value).toArray below meth c H locs 0 0 (MQ below (va_Qi (fun r v => WT v ∧ PX u0 v ∧ (True)) (WB D A (PW k)) A) ([.ref h0, .int p1] : List Value).toArray s 0 0 A) (F0 m 15 ls []) := by
    intro n15
    induction n15 with
    | zero =>
      intro u H locs ls v1 v2 hu hp hP hD hS hn15 g_v1 g_v2 hl
      exact absurd hn15 (by have := Int32.toInt_lt v2; have := Int32.le_toInt v2; omega)
    | succ n15 ih15 =>
      intro u H locs ls v1 v2 hu hp hP hD hS hn15 g_v1 g_v2 hl
      refine lv_iload_n hx hb dX12_cap_15 rfl (lv_at hl 2 rfl) ?_
      refine lv_if_lt (tgt := 42) hx hb dX12_cap_16 (by decide) (fun c1 => ?_) (fun c1 => ?_)
      · refine lv_iconst (v := (-1)) hx hb dX12_cap_42 (by decide) ?_
        exact W.iret (v := (-1)) hx hb hr (fun t ht hW => ⟨⟨(-1), u, rfl, ⟨hu, hp, trivial⟩, by rw [ht]; exact hP, hD⟩, hS.F ht⟩) hS.2.2 dX12_cap_43
      · refine lv_aload_n hx hb dX12_cap_19 rfl (lv_at hl 0 rfl) ?_
        refine lv_iload_n hx hb dX12_cap_20 rfl (lv_at hl 2 rfl) ?_
        have k_h0 : u.2.1 h0 = 12 := (hp h0 m0_h0).2.1.trans k0_h0
        have m_h0 : h0 ∈ u.1 := (hp h0 m0_h0).1
        refine wvV (C := RX12) (As := [.int v2]) (rest := []) ⟨hx, hb, hml, hown, hts⟩ (fun sz => t_X12_caps l D k u hu h0 m_h0 k_h0 v2 (by (try simp only [i_lt, i_le, i_eq, Int32.toInt_toInt64, Int32.reduceToInt, Int64.reduceToInt, true_and, and_true, false_and, and_false, false_or, or_false, true_or, or_true, not_true_eq_false, not_false_eq_true, ne_eq, forall_const, true_implies, false_implies, implies_true] at g_v1 g_v2 hn15 c1 ⊢) <;> omega) sz) (cwV 1 hts gX12_cap_X12_caps rfl rfl rfl (by decide +kernel) ⟨Nat.le_of_ble_eq_true rfl, Nat.le_of_ble_eq_true rfl⟩) hP hK hD hN hS hA (precv hK hP m_h0 (cF12 k_h0) rfl) rfl hl.1 rfl (Nat.le_of_ble_eq_true rfl) dX12_cap_21 ⟨Nat.le_of_ble_eq_true rfl, Nat.le_of_ble_eq_true rfl⟩ (fun u3 H locs hqu3 hP hD hS => ?_)
        obtain ⟨hu, hxu3, hr2⟩ := hqu3
        have hp := PX.trans hp hxu3
        refine lv_aload_n hx hb dX12_cap_24 rfl (lv_at hl 0 rfl) ?_
        refine lv_iload_n hx hb dX12_cap_25 rfl (lv_at hl 1 rfl) ?_
        refine lv_iconst (v := 0) hx hb dX12_cap_26 (by decide) ?_
        have k_h0 : u3.2.1 h0 = 12 := (hp h0 m0_h0).2.1.trans k0_h0
        have m_h0 : h0 ∈ u3.1 := (hp h0 m0_h0).1
        refine wiV (C := RX12) (As := [.int v1, .int 0]) (rest := []) ⟨hx, hb, hml, hown, hts⟩ (fun sz => t_X12_goesBy l D k u3 hu h0 m_h0 k_h0 v1 0 (by (try simp only [i_lt, i_le, i_eq, Int32.toInt_toInt64, Int32.reduceToInt, Int64.reduceToInt, true_and, and_true, false_and, and_false, false_or, or_false, true_or, or_true, not_true_eq_false, not_false_eq_true, ne_eq, forall_const, true_implies, false_implies, implies_true] at g_v1 g_v2 hn15 c1 ⊢) <;> omega) sz) (cwV 2 hts gX12_cap_X12_goesBy rfl rfl rfl (by decide +kernel) ⟨Nat.le_of_ble_eq_true rfl, Nat.le_of_ble_eq_true rfl⟩) hP hK hD hN hS hA (precv hK hP m_h0 (cF12 k_h0) rfl) rfl hl.1 rfl (Nat.le_of_ble_eq_true rfl) dX12_cap_27 ⟨Nat.le_of_ble_eq_true rfl, Nat.le_of_ble_eq_true rfl⟩ (fun r4 u5 H locs hqu5 hP hD hS => ?_)
        obtain ⟨hu, hxu5, hr4⟩ := hqu5
        have hp := PX.trans hp hxu5
        refine lv_iconst (v := (-1)) hx hb dX12_cap_30 (by decide) ?_
        refine lv_icmp_ne (tgt := 36) hx hb dX12_cap_31 (by decide) (fun c6 => ?_) (fun c6 => ?_)
        · obtain ⟨x7, ex7⟩ : ∃ y : Int32, y = v2 + (-1) := ⟨_, rfl⟩
          have tx7 : x7.toInt = v2.toInt + -1 := by rw [ex7]; exact i_add (b := (-1)) (by (try simp only [i_lt, i_le, i_eq, Int32.toInt_toInt64, Int32.reduceToInt, Int64.reduceToInt, true_and, and_true, false_and, and_false, false_or, or_false, true_or, or_true, not_true_eq_false, not_false_eq_true, ne_eq, forall_const, true_implies, false_implies, implies_true] at g_v1 g_v2 hn15 c1 c6 ⊢) <;> omega) (by (try simp only [i_lt, i_le, i_eq, Int32.toInt_toInt64, Int32.reduceToInt, Int64.reduceToInt, true_and, and_true, false_and, and_false, false_or, or_false, true_or, or_true, not_true_eq_false, not_false_eq_true, ne_eq, forall_const, true_implies, false_implies, implies_true] at g_v1 g_v2 hn15 c1 c6 ⊢) <;> omega)
          refine lv_iinc (v := x7) (lv' := [(2, .int x7), (0, .ref h0), (1, .int v1)]) hx hb dX12_cap_36 hl (k := 2) rfl (by rw [ex7]; rfl) (by decide) rfl (fun ls hl => ?_)
          refine lv_goto (tgt := 15) hx hb dX12_cap_39 (by decide) ?_
          exact ih15 _ _ _ ls v1 x7 hu hp hP hD hS (by (try simp only [i_lt, i_le, i_eq, Int32.toInt_toInt64, Int32.reduceToInt, Int64.reduceToInt, true_and, and_true, false_and, and_false, false_or, or_false, true_or, or_true, not_true_eq_false, not_false_eq_true, ne_eq, forall_const, true_implies, false_implies, implies_true] at g_v1 g_v2 hn15 c1 c6 tx7 ⊢) <;> omega) (by (try simp only [i_lt, i_le, i_eq, Int32.toInt_toInt64, Int32.reduceToInt, Int64.reduceToInt, true_and, and_true, false_and, and_false, false_or, or_false, true_or, or_true, not_true_eq_false, not_false_eq_true, ne_eq, forall_const, true_implies, false_implies, implies_true] at g_v1 g_v2 hn15 c1 c6 tx7 ⊢) <;> omega) (by (try simp only [i_lt, i_le, i_eq, Int32.toInt_toInt64, Int32.reduceToInt, Int64.reduceToInt, true_and, and_true, false_and, and_false, false_or, or_false, true_or, or_true, not_true_eq_false, not_false_eq_true, ne_eq, forall_const, true_implies, false_implies, implies_true] at g_v1 g_v2 hn15 c1 c6 tx7 ⊢) <;> omega) (lv_sub hl [1, 2, 0] rfl)
        · refine lv_iload_n hx hb dX12_cap_34 rfl (lv_at hl 2 rfl) ?_
          exact W.iret (v := v2) hx hb hr (fun t ht hW => ⟨⟨v2, u5, rfl, ⟨hu, hp, trivial⟩, by rw [ht]; exact hP, hD⟩, hS.F ht⟩) hS.2.2 dX12_cap_35
  have hl := lv_entry ([.ref h0, .int p1]) (n := 3) (Nat.le_of_ble_eq_true rfl)
  rw [lg_entry_eq]
  generalize (lg_sl ([.ref h0, .int p1]) ++ List.replicate (3 - (lg_sl ([.ref h0, .int p1])).length) Slot.unset).toArray = ls at hl ⊢
  have hl : lv_has ls 3 [(0, .ref h0), (1, .int p1)] := hl
  refine lv_aload_n hx hb dX12_cap_0 rfl (lv_at hl 0 rfl) ?_
  refine lv_iload_n hx hb dX12_cap_1 rfl (lv_at hl 1 rfl) ?_
  refine rvi (C := RX12) (As := [.int p1]) (rest := []) ⟨hx, hb, hml, hown, hts⟩ (t_X12_isPipe l D k u0 hu h0 m_h0 k_h0 p1) (cwV 1 hts gX12_cap_X12_isPipe rfl rfl rfl (by decide +kernel) ⟨Nat.le_of_ble_eq_true rfl, Nat.le_of_ble_eq_true rfl⟩) hP hK (precv hK hP m_h0 (cF12 k_h0) rfl) rfl hl.1 rfl (Nat.le_of_ble_eq_true rfl) dX12_cap_2 ⟨Nat.le_of_ble_eq_true rfl, Nat.le_of_ble_eq_true rfl⟩ (fun r8 hr8 => ?_)
  refine lv_if_ne (tgt := 11) hx hb dX12_cap_5 (by decide) (fun c9 => ?_) (fun c9 => ?_)
  · have eb10 : r8.toInt = 1 := by rcases hr8 with q | ⟨q, -⟩; exact absurd (i_eq.mpr q) c9; exact q
    have fb10 : 0 ≤ p1.toInt ∧ p1.toInt ≤ 11 := by rcases hr8 with q | ⟨q, r⟩; exact absurd q (by omega); exact r
    clear hr8
    refine lv_sipush (v := 999) hx hb dX12_cap_11 (by decide) ?_
    refine lv_istore_n (lv' := [(2, .int 999), (0, .ref h0), (1, .int p1)]) hx hb dX12_cap_14 rfl hl (by decide) rfl (fun ls hl => ?_)
    exact B15 _ _ _ _ ls p1 999 hu hp hP hD hS (Nat.le_refl _) (by (try simp only [i_lt, i_le, i_eq, Int32.toInt_toInt64, Int32.reduceToInt, Int64.reduceToInt, true_and, and_true, false_and, and_false, false_or, or_false, true_or, or_true, not_true_eq_false, not_false_eq_true, ne_eq, forall_const, true_implies, false_implies, implies_true] at eb10 fb10 ⊢) <;> omega) (by (try simp only [i_lt, i_le, i_eq, Int32.toInt_toInt64, Int32.reduceToInt, Int64.reduceToInt, true_and, and_true, false_and, and_false, false_or, or_false, true_or, or_true, not_true_eq_false, not_false_eq_true, ne_eq, forall_const, true_implies, false_implies, implies_true] at eb10 fb10 ⊢) <;> omega) (lv_sub hl [1, 2, 0] rfl)
  · have eb11 : r8.toInt = 0 := by rcases hr8 with q | ⟨q, -⟩; exact q; (exact absurd (c9) (fun w => by rw [w] at q; exact absurd q (by decide)))
    clear hr8
    refine lv_bipush (v := (-2)) hx hb dX12_cap_8 (by decide) ?_
    exact W.iret (v := (-2)) hx hb hr (fun t ht hW => ⟨⟨(-2), u0, rfl, ⟨hu, hp, trivial⟩, by rw [ht]; exact hP, hD⟩, hS.F ht⟩) hS.2.2 dX12_cap_10
set_option maxHeartbeats 4000000 in
set_option maxRecDepth 100000 in
theorem t_X12_firstBut (l : Launch) (D : va_G) (k : Nat → ClassId) (u0 : PSt) (hu : WT u0) (h0 : Nat) (m_h0 : h0 ∈ u0.1) (k_h0 : u0.2.1 h0 = 12) (p1 : Int32) (p2 : Int32) (sz : Nat) : Met l yX12_firstBut wsX12_firstBut ({ frames := 8, cells := 0, slots := 0, locals := 191 }) (PreM D k sz (PW k u0) [.ref h0, .int p1, .int p2]) (va_Qi (fun r v => WT v ∧ PX u0 v ∧ (True)) (WB D (va_A (PW k u0) sz) (PW k)) (va_A (PW k u0) sz)) 0 0 (va_A (PW k u0) sz) := by
  refine Met.ofW (cc := cX12_firstBut) (maxL := 7) (ret := (some .int)) (by decide) rfl ?_
  intro p e s m args below meth c s₁ B hml hv
  obtain ⟨rfl, hsz, hP, hK, hD0, hN⟩ := hv
  have hx := B.exec
  have hb := B.bytes
  have hr := B.returns
  have hts := atoms_spec (ws := wsX12_firstBut) B.pre
  have hown : s.vm.findClass RX12 = some m.cls := findClass_of_methodNamed B.named
  have hlocks := B.notSynchronized
  have i_X12 : ∀ w ∈ wsX120, w ∈ wsX12_firstBut := by decide +kernel
  obtain ⟨a1, q0_1, m0_a1, k0_a1⟩ := (hu h0 m_h0).1 1 50 (by rw [k_h0]; rfl)
  have m0_h0 := m_h0
  have k0_h0 := k_h0
  have m_a1 := m0_a1
  have k_a1 := k0_a1
  subst hsz
  have hD := hD0.self (sz := s.heap.size)
  generalize hAe : va_A (PW k u0) s.heap.size = A at hD ⊢
  have hA : ∀ q : Nat, s.heap.size ≤ q → A q := fun q h => by rw [← hAe]; exact Or.inr h
  have hS : va_S A s.heap s.heap [] := va_S.rf
  have hp : PX u0 u0 := PX.rf
  have B71 : ∀ (n71 : Nat) (u : PSt) (H : Heap) (locs : List Loc) (ls : Array Slot) (v1 : Int32) (v2 : Int32) (v3 : Int32) (v4 : Int32) (v5 : Int32), WT u → PX u0 u → va_P D vwCl (PW k u) H → va_D A (PW k u) → va_S A s.heap H locs → (2147483648 - v5.toInt).toNat ≤ n71 → -1 ≤ v3.toInt ∧ v3.toInt ≤ 200 → 0 ≤ v5.toInt ∧ v5.toInt ≤ 8 → lv_has ls 7 [(0, .ref h0), (1, .int v1), (2, .int v2), (3, .int v3), (4, .int v4), (5, .int v5)] → W p l e (headSpec wsX12_firstBut ({ frames := 8, cells := 0, slots := 0, locals := 191 })).room s m ([.ref h0, .int p1, .int p2] : List Value).toArray below meth c H locs 0 0 (MQ below (va_Qi (fun r v => WT v ∧ PX u0 v ∧ (True)) (WB D A (PW k)) A) ([.ref h0, .int p1, .int p2] : List Value).toArray s 0 0 A) (F0 m 71 ls []) := by
    intro n71
    induction n71 with
    | zero =>
      intro u H locs ls v1 v2 v3 v4 v5 hu hp hP hD hS hn71 g_v3 g_v5 hl
      exact absurd hn71 (by have := Int32.toInt_lt v5; have := Int32.le_toInt v5; omega)
    | succ n71 ih71 =>
      intro u H locs ls v1 v2 v3 v4 v5 hu hp hP hD hS hn71 g_v3 g_v5 hl
      refine lv_iload hx hb dX12_firstBut_71 (lv_at hl 5 rfl) ?_
      refine lv_aload_n hx hb dX12_firstBut_73 rfl (lv_at hl 0 rfl) ?_
      have k_h0 : u.2.1 h0 = 12 := (hp h0 m0_h0).2.1.trans k0_h0
      have m_h0 : h0 ∈ u.1 := (hp h0 m0_h0).1
      have k_a1 : u.2.1 a1 = 50 := (hp a1 m0_a1).2.1.trans k0_a1
      have m_a1 : a1 ∈ u.1 := (hp a1 m0_a1).1
      refine pget (ci := 12) (v := va_rf (u.2.2.2.2 h0 1)) (C := RX12) (T := TX12) (N := 34) hx hb hts i_X12 hown hK hP m_h0 (cF12 k_h0) rfl 1 (by decide) (hts (.fieldLink RX12 13 "BellowsRowModel" "world" "[I") (by decide +kernel)) (fun _ h9 => h9) rfl dX12_firstBut_74 ?_
      refine W.eq (g2 := F0 m 77 ls [.ref a1, .int v5]) (by rw [(((hp h0 m0_h0).2.2.2.2.2.1 k0_h0 1).trans q0_1)]; rfl) ?_
      refine lv_iconst (v := 1) hx hb dX12_firstBut_77 (by decide) ?_
      refine palI hx hb hK hP m_a1 (cF50 k_a1) 1 rfl (vp_in_iff.mpr (by decide)) dX12_firstBut_78 ?_
      refine lv_topi (fun x1 ex1 => ?_)
      have tx1 : x1.toInt = (u.2.2.1 a1 1).toInt := congrArg Int32.toInt ex1
      have g2 : 0 ≤ x1.toInt ∧ x1.toInt ≤ 8 := by have g : okI (u.2.1 a1) (1) (u.2.2.1 a1 (1)) := (hu a1 m_a1).2.2.2 (1); rw [k_a1, ← (show x1 = u.2.2.1 a1 (1) from ex1)] at g; have g : okW (1) x1 := g; unfold okW at g; (try simp only [i_lt, i_le, i_eq, Int32.toInt_toInt64, Int32.reduceToInt, Int64.reduceToInt, true_and, and_true, false_and, and_false, false_or, or_false, true_or, or_true, not_true_eq_false, not_false_eq_true, ne_eq, forall_const, true_implies, false_implies, implies_true] at g_v3 g_v5 hn71 tx1 g ⊢) <;> omega
      refine lv_icmp_ge (tgt := 137) hx hb dX12_firstBut_79 (by decide) (fun c3 => ?_) (fun c3 => ?_)
      · refine lv_iload_n hx hb dX12_firstBut_137 rfl (lv_at hl 2 rfl) ?_
        refine lv_if_ne (tgt := 145) hx hb dX12_firstBut_138 (by decide) (fun c4 => ?_) (fun c4 => ?_)
        · refine lv_iload_n hx hb dX12_firstBut_145 rfl (lv_at hl 2 rfl) ?_
          refine lv_iconst (v := 1) hx hb dX12_firstBut_146 (by decide) ?_
          refine lv_icmp_ne (tgt := 155) hx hb dX12_firstBut_147 (by decide) (fun c5 => ?_) (fun c5 => ?_)
          · refine lv_iconst (v := (-1)) hx hb dX12_firstBut_155 (by decide) ?_
            exact W.iret (v := (-1)) hx hb hr (fun t ht hW => ⟨⟨(-1), u, rfl, ⟨hu, hp, trivial⟩, by rw [ht]; exact hP, hD⟩, hS.F ht⟩) hS.2.2 dX12_firstBut_156
          · refine lv_iload hx hb dX12_firstBut_150 (lv_at hl 4 rfl) ?_
            refine lv_goto (tgt := 156) hx hb dX12_firstBut_152 (by decide) ?_
            exact W.iret (v := v4) hx hb hr (fun t ht hW => ⟨⟨v4, u, rfl, ⟨hu, hp, trivial⟩, by rw [ht]; exact hP, hD⟩, hS.F ht⟩) hS.2.2 dX12_firstBut_156
        · refine lv_iload_n hx hb dX12_firstBut_141 rfl (lv_at hl 3 rfl) ?_
          refine lv_goto (tgt := 156) hx hb dX12_firstBut_142 (by decide) ?_
          exact W.iret (v := v3) hx hb hr (fun t ht hW => ⟨⟨v3, u, rfl, ⟨hu, hp, trivial⟩, by rw [ht]; exact hP, hD⟩, hS.F ht⟩) hS.2.2 dX12_firstBut_156
      · refine lv_aload_n hx hb dX12_firstBut_82 rfl (lv_at hl 0 rfl) ?_
        refine lv_iload hx hb dX12_firstBut_83 (lv_at hl 5 rfl) ?_
        refine rvi (C := RX12) (As := [.int v5]) (rest := []) ⟨hx, hb, hml, hown, hts⟩ (t_X12_burstsOf l D k u hu h0 m_h0 k_h0 v5 (by (try simp only [i_lt, i_le, i_eq, Int32.toInt_toInt64, Int32.reduceToInt, Int64.reduceToInt, true_and, and_true, false_and, and_false, false_or, or_false, true_or, or_true, not_true_eq_false, not_false_eq_true, ne_eq, forall_const, true_implies, false_implies, implies_true] at g_v3 g_v5 hn71 tx1 g2 c3 ⊢) <;> omega)) (cwV 1 hts gX12_firstBut_X12_burstsOf rfl rfl rfl (by decide +kernel) ⟨Nat.le_of_ble_eq_true rfl, Nat.le_of_ble_eq_true rfl⟩) hP hK (precv hK hP m_h0 (cF12 k_h0) rfl) rfl hl.1 rfl (Nat.le_of_ble_eq_true rfl) dX12_firstBut_85 ⟨Nat.le_of_ble_eq_true rfl, Nat.le_of_ble_eq_true rfl⟩ (fun r6 hr6 => ?_)
        refine lv_istore (lv' := [(6, .int r6), (0, .ref h0), (1, .int v1), (2, .int v2), (3, .int v3), (4, .int v4), (5, .int v5)]) hx hb dX12_firstBut_88 hl (by decide) rfl (fun ls hl => ?_)
        refine lv_bipush (v := 100) hx hb dX12_firstBut_90 (by decide) ?_
        refine lv_iload hx hb dX12_firstBut_92 (lv_at hl 6 rfl) ?_
        refine lv_iadd hx hb dX12_firstBut_94 ?_
        refine lv_topi (fun x7 ex7 => ?_)
        have tx7 : x7.toInt = (100 : Int32).toInt + v5.toInt := by rw [ex7]; exact i_add (by (try simp only [i_lt, i_le, i_eq, Int32.toInt_toInt64, Int32.reduceToInt, Int64.reduceToInt, true_and, and_true, false_and, and_false, false_or, or_false, true_or, or_true, not_true_eq_false, not_false_eq_true, ne_eq, forall_const, true_implies, false_implies, implies_true] at g_v3 g_v5 hn71 tx1 g2 c3 ⊢) <;> omega) (by (try simp only [i_lt, i_le, i_eq, Int32.toInt_toInt64, Int32.reduceToInt, Int64.reduceToInt, true_and, and_true, false_and, and_false, false_or, or_false, true_or, or_true, not_true_eq_false, not_false_eq_true, ne_eq, forall_const, true_implies, false_implies, implies_true] at g_v3 g_v5 hn71 tx1 g2 c3 ⊢) <;> omega)
        refine lv_iload_n hx hb dX12_firstBut_95 rfl (lv_at hl 2 rfl) ?_
        refine lv_icmp_eq (tgt := 131) hx hb dX12_firstBut_96 (by decide) (fun c8 => ?_) (fun c8 => ?_)
        · have b9 := Int32.toInt_lt v1
          obtain ⟨x10, ex10⟩ : ∃ y : Int32, y = v5 + 1 := ⟨_, rfl⟩
          have tx10 : x10.toInt = v5.toInt + 1 := by rw [ex10]; exact i_add (b := 1) (by (try simp only [i_lt, i_le, i_eq, Int32.toInt_toInt64, Int32.reduceToInt, Int64.reduceToInt, true_and, and_true, false_and, and_false, false_or, or_false, true_or, or_true, not_true_eq_false, not_false_eq_true, ne_eq, forall_const, true_implies, false_implies, implies_true] at g_v3 g_v5 hn71 tx1 g2 c3 tx7 c8 b9 ⊢) <;> omega) (by (try simp only [i_lt, i_le, i_eq, Int32.toInt_toInt64, Int32.reduceToInt, Int64.reduceToInt, true_and, and_true, false_and, and_false, false_or, or_false, true_or, or_true, not_true_eq_false, not_false_eq_true, ne_eq, forall_const, true_implies, false_implies, implies_true] at g_v3 g_v5 hn71 tx1 g2 c3 tx7 c8 b9 ⊢) <;> omega)
          refine lv_iinc (v := x10) (lv' := [(5, .int x10), (6, .int r6), (0, .ref h0), (1, .int v1), (2, .int v2), (3, .int v3), (4, .int v4)]) hx hb dX12_firstBut_131 hl (k := 6) rfl (by rw [ex10]; rfl) (by decide) rfl (fun ls hl => ?_)
          refine lv_goto (tgt := 71) hx hb dX12_firstBut_134 (by decide) ?_
          exact ih71 _ _ _ ls v1 v2 v3 v4 x10 hu hp hP hD hS (by (try simp only [i_lt, i_le, i_eq, Int32.toInt_toInt64, Int32.reduceToInt, Int64.reduceToInt, true_and, and_true, false_and, and_false, false_or, or_false, true_or, or_true, not_true_eq_false, not_false_eq_true, ne_eq, forall_const, true_implies, false_implies, implies_true] at g_v3 g_v5 hn71 tx1 g2 c3 tx7 c8 b9 tx10 ⊢) <;> omega) (by (try simp only [i_lt, i_le, i_eq, Int32.toInt_toInt64, Int32.reduceToInt, Int64.reduceToInt, true_and, and_true, false_and, and_false, false_or, or_false, true_or, or_true, not_true_eq_false, not_false_eq_true, ne_eq, forall_const, true_implies, false_implies, implies_true] at g_v3 g_v5 hn71 tx1 g2 c3 tx7 c8 b9 tx10 ⊢) <;> omega) (by (try simp only [i_lt, i_le, i_eq, Int32.toInt_toInt64, Int32.reduceToInt, Int64.reduceToInt, true_and, and_true, false_and, and_false, false_or, or_false, true_or, or_true, not_true_eq_false, not_false_eq_true, ne_eq, forall_const, true_implies, false_implies, implies_true] at g_v3 g_v5 hn71 tx1 g2 c3 tx7 c8 b9 tx10 ⊢) <;> omega) (lv_sub hl [2, 3, 4, 5, 6, 0] rfl)
        · have b11 := Int32.toInt_lt v1
          refine lv_iload hx hb dX12_firstBut_99 (lv_at hl 0 rfl) ?_
          refine lv_iconst (v := (-1)) hx hb dX12_firstBut_101 (by decide) ?_
          refine lv_icmp_eq (tgt := 131) hx hb dX12_firstBut_102 (by decide) (fun c12 => ?_) (fun c12 => ?_)
          · obtain ⟨x13, ex13⟩ : ∃ y : Int32, y = v5 + 1 := ⟨_, rfl⟩
            have tx13 : x13.toInt = v5.toInt + 1 := by rw [ex13]; exact i_add (b := 1) (by (try simp only [i_lt, i_le, i_eq, Int32.toInt_toInt64, Int32.reduceToInt, Int64.reduceToInt, true_and, and_true, false_and, and_false, false_or, or_false, true_or, or_true, not_true_eq_false, not_false_eq_true, ne_eq, forall_const, true_implies, false_implies, implies_true] at g_v3 g_v5 hn71 tx1 g2 c3 tx7 b11 c12 ⊢) <;> omega) (by (try simp only [i_lt, i_le, i_eq, Int32.toInt_toInt64, Int32.reduceToInt, Int64.reduceToInt, true_and, and_true, false_and, and_false, false_or, or_false, true_or, or_true, not_true_eq_false, not_false_eq_true, ne_eq, forall_const, true_implies, false_implies, implies_true] at g_v3 g_v5 hn71 tx1 g2 c3 tx7 b11 c12 ⊢) <;> omega)
            refine lv_iinc (v := x13) (lv' := [(5, .int x13), (6, .int r6), (0, .ref h0), (1, .int v1), (2, .int v2), (3, .int v3), (4, .int v4)]) hx hb dX12_firstBut_131 hl (k := 6) rfl (by rw [ex13]; rfl) (by decide) rfl (fun ls hl => ?_)
            refine lv_goto (tgt := 71) hx hb dX12_firstBut_134 (by decide) ?_
            exact ih71 _ _ _ ls v1 v2 v3 v4 x13 hu hp hP hD hS (by (try simp only [i_lt, i_le, i_eq, Int32.toInt_toInt64, Int32.reduceToInt, Int64.reduceToInt, true_and, and_true, false_and, and_false, false_or, or_false, true_or, or_true, not_true_eq_false, not_false_eq_true, ne_eq, forall_const, true_implies, false_implies, implies_true] at g_v3 g_v5 hn71 tx1 g2 c3 tx7 b11 c12 tx13 ⊢) <;> omega) (by (try simp only [i_lt, i_le, i_eq, Int32.toInt_toInt64, Int32.reduceToInt, Int64.reduceToInt, true_and, and_true, false_and, and_false, false_or, or_false, true_or, or_true, not_true_eq_false, not_false_eq_true, ne_eq, forall_const, true_implies, false_implies, implies_true] at g_v3 g_v5 hn71 tx1 g2 c3 tx7 b11 c12 tx13 ⊢) <;> omega) (by (try simp only [i_lt, i_le, i_eq, Int32.toInt_toInt64, Int32.reduceToInt, Int64.reduceToInt, true_and, and_true, false_and, and_false, false_or, or_false, true_or, or_true, not_true_eq_false, not_false_eq_true, ne_eq, forall_const, true_implies, false_implies, implies_true] at g_v3 g_v5 hn71 tx1 g2 c3 tx7 b11 c12 tx13 ⊢) <;> omega) (lv_sub hl [2, 3, 4, 5, 6, 0] rfl)
          · refine lv_iload hx hb dX12_firstBut_105 (lv_at hl 5 rfl) ?_
            refine lv_iconst (v := (-1)) hx hb dX12_firstBut_107 (by decide) ?_
            refine lv_icmp_eq (tgt := 121) hx hb dX12_firstBut_108 (by decide) (fun c14 => ?_) (fun c14 => ?_)
            · refine lv_bipush (v := 100) hx hb dX12_firstBut_121 (by decide) ?_
              refine lv_iload hx hb dX12_firstBut_123 (lv_at hl 6 rfl) ?_
              refine lv_iadd hx hb dX12_firstBut_125 ?_
              refine lv_topi (fun x15 ex15 => ?_)
              have tx15 : x15.toInt = (100 : Int32).toInt + v5.toInt := by rw [ex15]; exact i_add (by (try simp only [i_lt, i_le, i_eq, Int32.toInt_toInt64, Int32.reduceToInt, Int64.reduceToInt, true_and, and_true, false_and, and_false, false_or, or_false, true_or, or_true, not_true_eq_false, not_false_eq_true, ne_eq, forall_const, true_implies, false_implies, implies_true] at g_v3 g_v5 hn71 tx1 g2 c3 tx7 b11 c14 ⊢) <;> omega) (by (try simp only [i_lt, i_le, i_eq, Int32.toInt_toInt64, Int32.reduceToInt, Int64.reduceToInt, true_and, and_true, false_and, and_false, false_or, or_false, true_or, or_true, not_true_eq_false, not_false_eq_true, ne_eq, forall_const, true_implies, false_implies, implies_true] at g_v3 g_v5 hn71 tx1 g2 c3 tx7 b11 c14 ⊢) <;> omega)
              refine lv_istore_n (lv' := [(3, .int x15), (6, .int r6), (0, .ref h0), (1, .int v1), (2, .int v2), (4, .int v4), (5, .int v5)]) hx hb dX12_firstBut_126 rfl hl (by decide) rfl (fun ls hl => ?_)
              refine lv_iload hx hb dX12_firstBut_127 (lv_at hl 1 rfl) ?_
              refine lv_istore (lv' := [(4, .int r6), (3, .int x15), (6, .int r6), (0, .ref h0), (1, .int v1), (2, .int v2), (5, .int v5)]) hx hb dX12_firstBut_129 hl (by decide) rfl (fun ls hl => ?_)
              obtain ⟨x16, ex16⟩ : ∃ y : Int32, y = v5 + 1 := ⟨_, rfl⟩
              have tx16 : x16.toInt = v5.toInt + 1 := by rw [ex16]; exact i_add (b := 1) (by (try simp only [i_lt, i_le, i_eq, Int32.toInt_toInt64, Int32.reduceToInt, Int64.reduceToInt, true_and, and_true, false_and, and_false, false_or, or_false, true_or, or_true, not_true_eq_false, not_false_eq_true, ne_eq, forall_const, true_implies, false_implies, implies_true] at g_v3 g_v5 hn71 tx1 g2 c3 tx7 b11 c14 tx15 ⊢) <;> omega) (by (try simp only [i_lt, i_le, i_eq, Int32.toInt_toInt64, Int32.reduceToInt, Int64.reduceToInt, true_and, and_true, false_and, and_false, false_or, or_false, true_or, or_true, not_true_eq_false, not_false_eq_true, ne_eq, forall_const, true_implies, false_implies, implies_true] at g_v3 g_v5 hn71 tx1 g2 c3 tx7 b11 c14 tx15 ⊢) <;> omega)
              refine lv_iinc (v := x16) (lv' := [(5, .int x16), (4, .int r6), (3, .int x15), (6, .int r6), (0, .ref h0), (1, .int v1), (2, .int v2)]) hx hb dX12_firstBut_131 hl (k := 6) rfl (by rw [ex16]; rfl) (by decide) rfl (fun ls hl => ?_)
              refine lv_goto (tgt := 71) hx hb dX12_firstBut_134 (by decide) ?_
              exact ih71 _ _ _ ls v1 v2 x15 r6 x16 hu hp hP hD hS (by (try simp only [i_lt, i_le, i_eq, Int32.toInt_toInt64, Int32.reduceToInt, Int64.reduceToInt, true_and, and_true, false_and, and_false, false_or, or_false, true_or, or_true, not_true_eq_false, not_false_eq_true, ne_eq, forall_const, true_implies, false_implies, implies_true] at g_v3 g_v5 hn71 tx1 g2 c3 tx7 b11 c14 tx15 tx16 ⊢) <;> omega) (by (try simp only [i_lt, i_le, i_eq, Int32.toInt_toInt64, Int32.reduceToInt, Int64.reduceToInt, true_and, and_true, false_and, and_false, false_or, or_false, true_or, or_true, not_true_eq_false, not_false_eq_true, ne_eq, forall_const, true_implies, false_implies, implies_true] at g_v3 g_v5 hn71 tx1 g2 c3 tx7 b11 c14 tx15 tx16 ⊢) <;> omega) (by (try simp only [i_lt, i_le, i_eq, Int32.toInt_toInt64, Int32.reduceToInt, Int64.reduceToInt, true_and, and_true, false_and, and_false, false_or, or_false, true_or, or_true, not_true_eq_false, not_false_eq_true, ne_eq, forall_const, true_implies, false_implies, implies_true] at g_v3 g_v5 hn71 tx1 g2 c3 tx7 b11 c14 tx15 tx16 ⊢) <;> omega) (lv_sub hl [4, 5, 6, 2, 1, 0] rfl)
            · refine lv_iload hx hb dX12_firstBut_111 (lv_at hl 0 rfl) ?_
              refine lv_iload hx hb dX12_firstBut_113 (lv_at hl 5 rfl) ?_
              refine lv_icmp_lt (tgt := 121) hx hb dX12_firstBut_115 (by decide) (fun c17 => ?_) (fun c17 => ?_)
              · have b18 := Int32.toInt_lt r6
                have b19 := Int32.toInt_lt v4
                refine lv_bipush (v := 100) hx hb dX12_firstBut_121 (by decide) ?_
                refine lv_iload hx hb dX12_firstBut_123 (lv_at hl 6 rfl) ?_
                refine lv_iadd hx hb dX12_firstBut_125 ?_
                refine lv_topi (fun x20 ex20 => ?_)
                have tx20 : x20.toInt = (100 : Int32).toInt + v5.toInt := by rw [ex20]; exact i_add (by (try simp only [i_lt, i_le, i_eq, Int32.toInt_toInt64, Int32.reduceToInt, Int64.reduceToInt, true_and, and_true, false_and, and_false, false_or, or_false, true_or, or_true, not_true_eq_false, not_false_eq_true, ne_eq, forall_const, true_implies, false_implies, implies_true] at g_v3 g_v5 hn71 tx1 g2 c3 tx7 b11 c17 b18 b19 ⊢) <;> omega) (by (try simp only [i_lt, i_le, i_eq, Int32.toInt_toInt64, Int32.reduceToInt, Int64.reduceToInt, true_and, and_true, false_and, and_false, false_or, or_false, true_or, or_true, not_true_eq_false, not_false_eq_true, ne_eq, forall_const, true_implies, false_implies, implies_true] at g_v3 g_v5 hn71 tx1 g2 c3 tx7 b11 c17 b18 b19 ⊢) <;> omega)
                refine lv_istore_n (lv' := [(3, .int x20), (6, .int r6), (0, .ref h0), (1, .int v1), (2, .int v2), (4, .int v4), (5, .int v5)]) hx hb dX12_firstBut_126 rfl hl (by decide) rfl (fun ls hl => ?_)
                refine lv_iload hx hb dX12_firstBut_127 (lv_at hl 1 rfl) ?_
                refine lv_istore (lv' := [(4, .int r6), (3, .int x20), (6, .int r6), (0, .ref h0), (1, .int v1), (2, .int v2), (5, .int v5)]) hx hb dX12_firstBut_129 hl (by decide) rfl (fun ls hl => ?_)
                obtain ⟨x21, ex21⟩ : ∃ y : Int32, y = v5 + 1 := ⟨_, rfl⟩
                have tx21 : x21.toInt = v5.toInt + 1 := by rw [ex21]; exact i_add (b := 1) (by (try simp only [i_lt, i_le, i_eq, Int32.toInt_toInt64, Int32.reduceToInt, Int64.reduceToInt, true_and, and_true, false_and, and_false, false_or, or_false, true_or, or_true, not_true_eq_false, not_false_eq_true, ne_eq, forall_const, true_implies, false_implies, implies_true] at g_v3 g_v5 hn71 tx1 g2 c3 tx7 b11 c17 b18 b19 tx20 ⊢) <;> omega) (by (try simp only [i_lt, i_le, i_eq, Int32.toInt_toInt64, Int32.reduceToInt, Int64.reduceToInt, true_and, and_true, false_and, and_false, false_or, or_false, true_or, or_true, not_true_eq_false, not_false_eq_true, ne_eq, forall_const, true_implies, false_implies, implies_true] at g_v3 g_v5 hn71 tx1 g2 c3 tx7 b11 c17 b18 b19 tx20 ⊢) <;> omega)
                refine lv_iinc (v := x21) (lv' := [(5, .int x21), (4, .int r6), (3, .int x20), (6, .int r6), (0, .ref h0), (1, .int v1), (2, .int v2)]) hx hb dX12_firstBut_131 hl (k := 6) rfl (by rw [ex21]; rfl) (by decide) rfl (fun ls hl => ?_)
                refine lv_goto (tgt := 71) hx hb dX12_firstBut_134 (by decide) ?_
                exact ih71 _ _ _ ls v1 v2 x20 r6 x21 hu hp hP hD hS (by (try simp only [i_lt, i_le, i_eq, Int32.toInt_toInt64, Int32.reduceToInt, Int64.reduceToInt, true_and, and_true, false_and, and_false, false_or, or_false, true_or, or_true, not_true_eq_false, not_false_eq_true, ne_eq, forall_const, true_implies, false_implies, implies_true] at g_v3 g_v5 hn71 tx1 g2 c3 tx7 b11 c17 b18 b19 tx20 tx21 ⊢) <;> omega) (by (try simp only [i_lt, i_le, i_eq, Int32.toInt_toInt64, Int32.reduceToInt, Int64.reduceToInt, true_and, and_true, false_and, and_false, false_or, or_false, true_or, or_true, not_true_eq_false, not_false_eq_true, ne_eq, forall_const, true_implies, false_implies, implies_true] at g_v3 g_v5 hn71 tx1 g2 c3 tx7 b11 c17 b18 b19 tx20 tx21 ⊢) <;> omega) (by (try simp only [i_lt, i_le, i_eq, Int32.toInt_toInt64, Int32.reduceToInt, Int64.reduceToInt, true_and, and_true, false_and, and_false, false_or, or_false, true_or, or_true, not_true_eq_false, not_false_eq_true, ne_eq, forall_const, true_implies, false_implies, implies_true] at g_v3 g_v5 hn71 tx1 g2 c3 tx7 b11 c17 b18 b19 tx20 tx21 ⊢) <;> omega) (lv_sub hl [4, 5, 6, 2, 1, 0] rfl)
              · have b22 := Int32.toInt_lt r6
                have b23 := Int32.toInt_lt v4
                refine lv_goto (tgt := 131) hx hb dX12_firstBut_118 (by decide) ?_
                obtain ⟨x24, ex24⟩ : ∃ y : Int32, y = v5 + 1 := ⟨_, rfl⟩
                have tx24 : x24.toInt = v5.toInt + 1 := by rw [ex24]; exact i_add (b := 1) (by (try simp only [i_lt, i_le, i_eq, Int32.toInt_toInt64, Int32.reduceToInt, Int64.reduceToInt, true_and, and_true, false_and, and_false, false_or, or_false, true_or, or_true, not_true_eq_false, not_false_eq_true, ne_eq, forall_const, true_implies, false_implies, implies_true] at g_v3 g_v5 hn71 tx1 g2 c3 tx7 b11 c17 b22 b23 ⊢) <;> omega) (by (try simp only [i_lt, i_le, i_eq, Int32.toInt_toInt64, Int32.reduceToInt, Int64.reduceToInt, true_and, and_true, false_and, and_false, false_or, or_false, true_or, or_true, not_true_eq_false, not_false_eq_true, ne_eq, forall_const, true_implies, false_implies, implies_true] at g_v3 g_v5 hn71 tx1 g2 c3 tx7 b11 c17 b22 b23 ⊢) <;> omega)
                refine lv_iinc (v := x24) (lv' := [(5, .int x24), (6, .int r6), (0, .ref h0), (1, .int v1), (2, .int v2), (3, .int v3), (4, .int v4)]) hx hb dX12_firstBut_131 hl (k := 6) rfl (by rw [ex24]; rfl) (by decide) rfl (fun ls hl => ?_)
                refine lv_goto (tgt := 71) hx hb dX12_firstBut_134 (by decide) ?_
                exact ih71 _ _ _ ls v1 v2 v3 v4 x24 hu hp hP hD hS (by (try simp only [i_lt, i_le, i_eq, Int32.toInt_toInt64, Int32.reduceToInt, Int64.reduceToInt, true_and, and_true, false_and, and_false, false_or, or_false, true_or, or_true, not_true_eq_false, not_false_eq_true, ne_eq, forall_const, true_implies, false_implies, implies_true] at g_v3 g_v5 hn71 tx1 g2 c3 tx7 b11 c17 b22 b23 tx24 ⊢) <;> omega) (by (try simp only [i_lt, i_le, i_eq, Int32.toInt_toInt64, Int32.reduceToInt, Int64.reduceToInt, true_and, and_true, false_and, and_false, false_or, or_false, true_or, or_true, not_true_eq_false, not_false_eq_true, ne_eq, forall_const, true_implies, false_implies, implies_true] at g_v3 g_v5 hn71 tx1 g2 c3 tx7 b11 c17 b22 b23 tx24 ⊢) <;> omega) (by (try simp only [i_lt, i_le, i_eq, Int32.toInt_toInt64, Int32.reduceToInt, Int64.reduceToInt, true_and, and_true, false_and, and_false, false_or, or_false, true_or, or_true, not_true_eq_false, not_false_eq_true, ne_eq, forall_const, true_implies, false_implies, implies_true] at g_v3 g_v5 hn71 tx1 g2 c3 tx7 b11 c17 b22 b23 tx24 ⊢) <;> omega) (lv_sub hl [2, 3, 4, 5, 6, 0] rfl)
  have B8 : ∀ (n8 : Nat) (u : PSt) (H : Heap) (locs : List Loc) (ls : Array Slot) (v1 : Int32) (v2 : Int32) (v3 : Int32) (v4 : Int32) (v5 : Int32), WT u → PX u0 u → va_P D vwCl (PW k u) H → va_D A (PW k u) → va_S A s.heap H locs → (2147483648 - v5.toInt).toNat ≤ n8 → -1 ≤ v3.toInt ∧ v3.toInt ≤ 11 → 0 ≤ v5.toInt ∧ v5.toInt ≤ 12 → lv_has ls 7 [(0, .ref h0), (1, .int v1), (2, .int v2), (3, .int v3), (4, .int v4), (5, .int v5)] → W p l e (headSpec wsX12_firstBut ({ frames := 8, cells := 0, slots := 0, locals := 191 })).room s m ([.ref h0, .int p1, .int p2] : List Value).toArray below meth c H locs 0 0 (MQ below (va_Qi (fun r v => WT v ∧ PX u0 v ∧ (True)) (WB D A (PW k)) A) ([.ref h0, .int p1, .int p2] : List Value).toArray s 0 0 A) (F0 m 8 ls []) := by
    intro n8
    induction n8 with
    | zero =>
      intro u H locs ls v1 v2 v3 v4 v5 hu hp hP hD hS hn8 g_v3 g_v5 hl
      exact absurd hn8 (by have := Int32.toInt_lt v5; have := Int32.le_toInt v5; omega)
    | succ n8 ih8 =>
      intro u H locs ls v1 v2 v3 v4 v5 hu hp hP hD hS hn8 g_v3 g_v5 hl
      refine lv_iload hx hb dX12_firstBut_8 (lv_at hl 5 rfl) ?_
      refine lv_aload_n hx hb dX12_firstBut_10 rfl (lv_at hl 0 rfl) ?_
      have k_h0 : u.2.1 h0 = 12 := (hp h0 m0_h0).2.1.trans k0_h0
      have m_h0 : h0 ∈ u.1 := (hp h0 m0_h0).1
      have k_a1 : u.2.1 a1 = 50 := (hp a1 m0_a1).2.1.trans k0_a1
      have m_a1 : a1 ∈ u.1 := (hp a1 m0_a1).1
      refine pget (ci := 12) (v := va_rf (u.2.2.2.2 h0 1)) (C := RX12) (T := TX12) (N := 34) hx hb hts i_X12 hown hK hP m_h0 (cF12 k_h0) rfl 1 (by decide) (hts (.fieldLink RX12 13 "BellowsRowModel" "world" "[I") (by decide +kernel)) (fun _ h9 => h9) rfl dX12_firstBut_11 ?_
      refine W.eq (g2 := F0 m 14 ls [.ref a1, .int v5]) (by rw [(((hp h0 m0_h0).2.2.2.2.2.1 k0_h0 1).trans q0_1)]; rfl) ?_
      refine lv_iconst (v := 2) hx hb dX12_firstBut_14 (by decide) ?_
      refine palI hx hb hK hP m_a1 (cF50 k_a1) 1 rfl (vp_in_iff.mpr (by decide)) dX12_firstBut_15 ?_
      refine lv_topi (fun x25 ex25 => ?_)
      have tx25 : x25.toInt = (u.2.2.1 a1 2).toInt := congrArg Int32.toInt ex25
      have g26 : 0 ≤ x25.toInt ∧ x25.toInt ≤ 12 := by have g : okI (u.2.1 a1) (2) (u.2.2.1 a1 (2)) := (hu a1 m_a1).2.2.2 (2); rw [k_a1, ← (show x25 = u.2.2.1 a1 (2) from ex25)] at g; have g : okW (2) x25 := g; unfold okW at g; (try simp only [i_lt, i_le, i_eq, Int32.toInt_toInt64, Int32.reduceToInt, Int64.reduceToInt, true_and, and_true, false_and, and_false, false_or, or_false, true_or, or_true, not_true_eq_false, not_false_eq_true, ne_eq, forall_const, true_implies, false_implies, implies_true] at g_v3 g_v5 hn8 tx25 g ⊢) <;> omega
      refine lv_icmp_ge (tgt := 68) hx hb dX12_firstBut_16 (by decide) (fun c27 => ?_) (fun c27 => ?_)
      · refine lv_iconst (v := 0) hx hb dX12_firstBut_68 (by decide) ?_
        refine lv_istore (lv' := [(5, .int 0), (0, .ref h0), (1, .int v1), (2, .int v2), (3, .int v3), (4, .int v4)]) hx hb dX12_firstBut_69 hl (by decide) rfl (fun ls hl => ?_)
        exact B71 _ _ _ _ ls v1 v2 v3 v4 0 hu hp hP hD hS (Nat.le_refl _) (by (try simp only [i_lt, i_le, i_eq, Int32.toInt_toInt64, Int32.reduceToInt, Int64.reduceToInt, true_and, and_true, false_and, and_false, false_or, or_false, true_or, or_true, not_true_eq_false, not_false_eq_true, ne_eq, forall_const, true_implies, false_implies, implies_true] at g_v3 g_v5 hn8 tx25 g26 c27 ⊢) <;> omega) (by (try simp only [i_lt, i_le, i_eq, Int32.toInt_toInt64, Int32.reduceToInt, Int64.reduceToInt, true_and, and_true, false_and, and_false, false_or, or_false, true_or, or_true, not_true_eq_false, not_false_eq_true, ne_eq, forall_const, true_implies, false_implies, implies_true] at g_v3 g_v5 hn8 tx25 g26 c27 ⊢) <;> omega) (lv_sub hl [1, 2, 3, 4, 5, 0] rfl)
      · refine lv_aload_n hx hb dX12_firstBut_19 rfl (lv_at hl 0 rfl) ?_
        refine lv_iload hx hb dX12_firstBut_20 (lv_at hl 5 rfl) ?_
        refine wiV (C := RX12) (As := [.int v5]) (rest := []) ⟨hx, hb, hml, hown, hts⟩ (fun sz => t_X12_goesOf l D k u hu h0 m_h0 k_h0 v5 (by (try simp only [i_lt, i_le, i_eq, Int32.toInt_toInt64, Int32.reduceToInt, Int64.reduceToInt, true_and, and_true, false_and, and_false, false_or, or_false, true_or, or_true, not_true_eq_false, not_false_eq_true, ne_eq, forall_const, true_implies, false_implies, implies_true] at g_v3 g_v5 hn8 tx25 g26 c27 ⊢) <;> omega) sz) (cwV 1 hts gX12_firstBut_X12_goesOf rfl rfl rfl (by decide +kernel) ⟨Nat.le_of_ble_eq_true rfl, Nat.le_of_ble_eq_true rfl⟩) hP hK hD hN hS hA (precv hK hP m_h0 (cF12 k_h0) rfl) rfl hl.1 rfl (Nat.le_of_ble_eq_true rfl) dX12_firstBut_22 ⟨Nat.le_of_ble_eq_true rfl, Nat.le_of_ble_eq_true rfl⟩ (fun r28 u29 H locs hqu29 hP hD hS => ?_)
        obtain ⟨hu, hxu29, hr28⟩ := hqu29
        have hp := PX.trans hp hxu29
        refine lv_istore (lv' := [(6, .int r28), (0, .ref h0), (1, .int v1), (2, .int v2), (3, .int v3), (4, .int v4), (5, .int v5)]) hx hb dX12_firstBut_25 hl (by decide) rfl (fun ls hl => ?_)
        refine lv_iload hx hb dX12_firstBut_27 (lv_at hl 6 rfl) ?_
        refine lv_iload_n hx hb dX12_firstBut_29 rfl (lv_at hl 2 rfl) ?_
        refine lv_icmp_eq (tgt := 62) hx hb dX12_firstBut_30 (by decide) (fun c30 => ?_) (fun c30 => ?_)
        · have b31 := Int32.toInt_lt v1
          obtain ⟨x32, ex32⟩ : ∃ y : Int32, y = v5 + 1 := ⟨_, rfl⟩
          have tx32 : x32.toInt = v5.toInt + 1 := by rw [ex32]; exact i_add (b := 1) (by (try simp only [i_lt, i_le, i_eq, Int32.toInt_toInt64, Int32.reduceToInt, Int64.reduceToInt, true_and, and_true, false_and, and_false, false_or, or_false, true_or, or_true, not_true_eq_false, not_false_eq_true, ne_eq, forall_const, true_implies, false_implies, implies_true] at g_v3 g_v5 hn8 tx25 g26 c27 c30 b31 ⊢) <;> omega) (by (try simp only [i_lt, i_le, i_eq, Int32.toInt_toInt64, Int32.reduceToInt, Int64.reduceToInt, true_and, and_true, false_and, and_false, false_or, or_false, true_or, or_true, not_true_eq_false, not_false_eq_true, ne_eq, forall_const, true_implies, false_implies, implies_true] at g_v3 g_v5 hn8 tx25 g26 c27 c30 b31 ⊢) <;> omega)
          refine lv_iinc (v := x32) (lv' := [(5, .int x32), (6, .int r28), (0, .ref h0), (1, .int v1), (2, .int v2), (3, .int v3), (4, .int v4)]) hx hb dX12_firstBut_62 hl (k := 6) rfl (by rw [ex32]; rfl) (by decide) rfl (fun ls hl => ?_)
          refine lv_goto (tgt := 8) hx hb dX12_firstBut_65 (by decide) ?_
          exact ih8 _ _ _ ls v1 v2 v3 v4 x32 hu hp hP hD hS (by (try simp only [i_lt, i_le, i_eq, Int32.toInt_toInt64, Int32.reduceToInt, Int64.reduceToInt, true_and, and_true, false_and, and_false, false_or, or_false, true_or, or_true, not_true_eq_false, not_false_eq_true, ne_eq, forall_const, true_implies, false_implies, implies_true] at g_v3 g_v5 hn8 tx25 g26 c27 c30 b31 tx32 ⊢) <;> omega) (by (try simp only [i_lt, i_le, i_eq, Int32.toInt_toInt64, Int32.reduceToInt, Int64.reduceToInt, true_and, and_true, false_and, and_false, false_or, or_false, true_or, or_true, not_true_eq_false, not_false_eq_true, ne_eq, forall_const, true_implies, false_implies, implies_true] at g_v3 g_v5 hn8 tx25 g26 c27 c30 b31 tx32 ⊢) <;> omega) (by (try simp only [i_lt, i_le, i_eq, Int32.toInt_toInt64, Int32.reduceToInt, Int64.reduceToInt, true_and, and_true, false_and, and_false, false_or, or_false, true_or, or_true, not_true_eq_false, not_false_eq_true, ne_eq, forall_const, true_implies, false_implies, implies_true] at g_v3 g_v5 hn8 tx25 g26 c27 c30 b31 tx32 ⊢) <;> omega) (lv_sub hl [2, 3, 4, 5, 6, 0] rfl)
        · have b33 := Int32.toInt_lt v1
          refine lv_iload hx hb dX12_firstBut_33 (lv_at hl 0 rfl) ?_
          refine lv_iconst (v := (-1)) hx hb dX12_firstBut_35 (by decide) ?_
          refine lv_icmp_eq (tgt := 62) hx hb dX12_firstBut_36 (by decide) (fun c34 => ?_) (fun c34 => ?_)
          · obtain ⟨x35, ex35⟩ : ∃ y : Int32, y = v5 + 1 := ⟨_, rfl⟩
            have tx35 : x35.toInt = v5.toInt + 1 := by rw [ex35]; exact i_add (b := 1) (by (try simp only [i_lt, i_le, i_eq, Int32.toInt_toInt64, Int32.reduceToInt, Int64.reduceToInt, true_and, and_true, false_and, and_false, false_or, or_false, true_or, or_true, not_true_eq_false, not_false_eq_true, ne_eq, forall_const, true_implies, false_implies, implies_true] at g_v3 g_v5 hn8 tx25 g26 c27 b33 c34 ⊢) <;> omega) (by (try simp only [i_lt, i_le, i_eq, Int32.toInt_toInt64, Int32.reduceToInt, Int64.reduceToInt, true_and, and_true, false_and, and_false, false_or, or_false, true_or, or_true, not_true_eq_false, not_false_eq_true, ne_eq, forall_const, true_implies, false_implies, implies_true] at g_v3 g_v5 hn8 tx25 g26 c27 b33 c34 ⊢) <;> omega)
            refine lv_iinc (v := x35) (lv' := [(5, .int x35), (6, .int r28), (0, .ref h0), (1, .int v1), (2, .int v2), (3, .int v3), (4, .int v4)]) hx hb dX12_firstBut_62 hl (k := 6) rfl (by rw [ex35]; rfl) (by decide) rfl (fun ls hl => ?_)
            refine lv_goto (tgt := 8) hx hb dX12_firstBut_65 (by decide) ?_
            exact ih8 _ _ _ ls v1 v2 v3 v4 x35 hu hp hP hD hS (by (try simp only [i_lt, i_le, i_eq, Int32.toInt_toInt64, Int32.reduceToInt, Int64.reduceToInt, true_and, and_true, false_and, and_false, false_or, or_false, true_or, or_true, not_true_eq_false, not_false_eq_true, ne_eq, forall_const, true_implies, false_implies, implies_true] at g_v3 g_v5 hn8 tx25 g26 c27 b33 c34 tx35 ⊢) <;> omega) (by (try simp only [i_lt, i_le, i_eq, Int32.toInt_toInt64, Int32.reduceToInt, Int64.reduceToInt, true_and, and_true, false_and, and_false, false_or, or_false, true_or, or_true, not_true_eq_false, not_false_eq_true, ne_eq, forall_const, true_implies, false_implies, implies_true] at g_v3 g_v5 hn8 tx25 g26 c27 b33 c34 tx35 ⊢) <;> omega) (by (try simp only [i_lt, i_le, i_eq, Int32.toInt_toInt64, Int32.reduceToInt, Int64.reduceToInt, true_and, and_true, false_and, and_false, false_or, or_false, true_or, or_true, not_true_eq_false, not_false_eq_true, ne_eq, forall_const, true_implies, false_implies, implies_true] at g_v3 g_v5 hn8 tx25 g26 c27 b33 c34 tx35 ⊢) <;> omega) (lv_sub hl [2, 3, 4, 5, 6, 0] rfl)
          · refine lv_iload hx hb dX12_firstBut_39 (lv_at hl 5 rfl) ?_
            refine lv_iconst (v := (-1)) hx hb dX12_firstBut_41 (by decide) ?_
            refine lv_icmp_eq (tgt := 55) hx hb dX12_firstBut_42 (by decide) (fun c36 => ?_) (fun c36 => ?_)
            · refine lv_iload hx hb dX12_firstBut_55 (lv_at hl 6 rfl) ?_
              refine lv_istore_n (lv' := [(3, .int v5), (6, .int r28), (0, .ref h0), (1, .int v1), (2, .int v2), (4, .int v4), (5, .int v5)]) hx hb dX12_firstBut_57 rfl hl (by decide) rfl (fun ls hl => ?_)
              refine lv_iload hx hb dX12_firstBut_58 (lv_at hl 1 rfl) ?_
              refine lv_istore (lv' := [(4, .int r28), (3, .int v5), (6, .int r28), (0, .ref h0), (1, .int v1), (2, .int v2), (5, .int v5)]) hx hb dX12_firstBut_60 hl (by decide) rfl (fun ls hl => ?_)
              obtain ⟨x37, ex37⟩ : ∃ y : Int32, y = v5 + 1 := ⟨_, rfl⟩
              have tx37 : x37.toInt = v5.toInt + 1 := by rw [ex37]; exact i_add (b := 1) (by (try simp only [i_lt, i_le, i_eq, Int32.toInt_toInt64, Int32.reduceToInt, Int64.reduceToInt, true_and, and_true, false_and, and_false, false_or, or_false, true_or, or_true, not_true_eq_false, not_false_eq_true, ne_eq, forall_const, true_implies, false_implies, implies_true] at g_v3 g_v5 hn8 tx25 g26 c27 b33 c36 ⊢) <;> omega) (by (try simp only [i_lt, i_le, i_eq, Int32.toInt_toInt64, Int32.reduceToInt, Int64.reduceToInt, true_and, and_true, false_and, and_false, false_or, or_false, true_or, or_true, not_true_eq_false, not_false_eq_true, ne_eq, forall_const, true_implies, false_implies, implies_true] at g_v3 g_v5 hn8 tx25 g26 c27 b33 c36 ⊢) <;> omega)
              refine lv_iinc (v := x37) (lv' := [(5, .int x37), (4, .int r28), (3, .int v5), (6, .int r28), (0, .ref h0), (1, .int v1), (2, .int v2)]) hx hb dX12_firstBut_62 hl (k := 6) rfl (by rw [ex37]; rfl) (by decide) rfl (fun ls hl => ?_)
              refine lv_goto (tgt := 8) hx hb dX12_firstBut_65 (by decide) ?_
              exact ih8 _ _ _ ls v1 v2 v5 r28 x37 hu hp hP hD hS (by (try simp only [i_lt, i_le, i_eq, Int32.toInt_toInt64, Int32.reduceToInt, Int64.reduceToInt, true_and, and_true, false_and, and_false, false_or, or_false, true_or, or_true, not_true_eq_false, not_false_eq_true, ne_eq, forall_const, true_implies, false_implies, implies_true] at g_v3 g_v5 hn8 tx25 g26 c27 b33 c36 tx37 ⊢) <;> omega) (by (try simp only [i_lt, i_le, i_eq, Int32.toInt_toInt64, Int32.reduceToInt, Int64.reduceToInt, true_and, and_true, false_and, and_false, false_or, or_false, true_or, or_true, not_true_eq_false, not_false_eq_true, ne_eq, forall_const, true_implies, false_implies, implies_true] at g_v3 g_v5 hn8 tx25 g26 c27 b33 c36 tx37 ⊢) <;> omega) (by (try simp only [i_lt, i_le, i_eq, Int32.toInt_toInt64, Int32.reduceToInt, Int64.reduceToInt, true_and, and_true, false_and, and_false, false_or, or_false, true_or, or_true, not_true_eq_false, not_false_eq_true, ne_eq, forall_const, true_implies, false_implies, implies_true] at g_v3 g_v5 hn8 tx25 g26 c27 b33 c36 tx37 ⊢) <;> omega) (lv_sub hl [4, 5, 6, 2, 1, 0] rfl)
            · refine lv_iload hx hb dX12_firstBut_45 (lv_at hl 0 rfl) ?_
              refine lv_iload hx hb dX12_firstBut_47 (lv_at hl 5 rfl) ?_
              refine lv_icmp_lt (tgt := 55) hx hb dX12_firstBut_49 (by decide) (fun c38 => ?_) (fun c38 => ?_)
              · have b39 := Int32.toInt_lt r28
                have b40 := Int32.toInt_lt v4
                refine lv_iload hx hb dX12_firstBut_55 (lv_at hl 6 rfl) ?_
                refine lv_istore_n (lv' := [(3, .int v5), (6, .int r28), (0, .ref h0), (1, .int v1), (2, .int v2), (4, .int v4), (5, .int v5)]) hx hb dX12_firstBut_57 rfl hl (by decide) rfl (fun ls hl => ?_)
                refine lv_iload hx hb dX12_firstBut_58 (lv_at hl 1 rfl) ?_
                refine lv_istore (lv' := [(4, .int r28), (3, .int v5), (6, .int r28), (0, .ref h0), (1, .int v1), (2, .int v2), (5, .int v5)]) hx hb dX12_firstBut_60 hl (by decide) rfl (fun ls hl => ?_)
                obtain ⟨x41, ex41⟩ : ∃ y : Int32, y = v5 + 1 := ⟨_, rfl⟩
                have tx41 : x41.toInt = v5.toInt + 1 := by rw [ex41]; exact i_add (b := 1) (by (try simp only [i_lt, i_le, i_eq, Int32.toInt_toInt64, Int32.reduceToInt, Int64.reduceToInt, true_and, and_true, false_and, and_false, false_or, or_false, true_or, or_true, not_true_eq_false, not_false_eq_true, ne_eq, forall_const, true_implies, false_implies, implies_true] at g_v3 g_v5 hn8 tx25 g26 c27 b33 c38 b39 b40 ⊢) <;> omega) (by (try simp only [i_lt, i_le, i_eq, Int32.toInt_toInt64, Int32.reduceToInt, Int64.reduceToInt, true_and, and_true, false_and, and_false, false_or, or_false, true_or, or_true, not_true_eq_false, not_false_eq_true, ne_eq, forall_const, true_implies, false_implies, implies_true] at g_v3 g_v5 hn8 tx25 g26 c27 b33 c38 b39 b40 ⊢) <;> omega)
                refine lv_iinc (v := x41) (lv' := [(5, .int x41), (4, .int r28), (3, .int v5), (6, .int r28), (0, .ref h0), (1, .int v1), (2, .int v2)]) hx hb dX12_firstBut_62 hl (k := 6) rfl (by rw [ex41]; rfl) (by decide) rfl (fun ls hl => ?_)
                refine lv_goto (tgt := 8) hx hb dX12_firstBut_65 (by decide) ?_
                exact ih8 _ _ _ ls v1 v2 v5 r28 x41 hu hp hP hD hS (by (try simp only [i_lt, i_le, i_eq, Int32.toInt_toInt64, Int32.reduceToInt, Int64.reduceToInt, true_and, and_true, false_and, and_false, false_or, or_false, true_or, or_true, not_true_eq_false, not_false_eq_true, ne_eq, forall_const, true_implies, false_implies, implies_true] at g_v3 g_v5 hn8 tx25 g26 c27 b33 c38 b39 b40 tx41 ⊢) <;> omega) (by (try simp only [i_lt, i_le, i_eq, Int32.toInt_toInt64, Int32.reduceToInt, Int64.reduceToInt, true_and, and_true, false_and, and_false, false_or, or_false, true_or, or_true, not_true_eq_false, not_false_eq_true, ne_eq, forall_const, true_implies, false_implies, implies_true] at g_v3 g_v5 hn8 tx25 g26 c27 b33 c38 b39 b40 tx41 ⊢) <;> omega) (by (try simp only [i_lt, i_le, i_eq, Int32.toInt_toInt64, Int32.reduceToInt, Int64.reduceToInt, true_and, and_true, false_and, and_false, false_or, or_false, true_or, or_true, not_true_eq_false, not_false_eq_true, ne_eq, forall_const, true_implies, false_implies, implies_true] at g_v3 g_v5 hn8 tx25 g26 c27 b33 c38 b39 b40 tx41 ⊢) <;> omega) (lv_sub hl [4, 5, 6, 2, 1, 0] rfl)
              · have b42 := Int32.toInt_lt r28
                have b43 := Int32.toInt_lt v4
                refine lv_goto (tgt := 62) hx hb dX12_firstBut_52 (by decide) ?_
                obtain ⟨x44, ex44⟩ : ∃ y : Int32, y = v5 + 1 := ⟨_, rfl⟩
                have tx44 : x44.toInt = v5.toInt + 1 := by rw [ex44]; exact i_add (b := 1) (by (try simp only [i_lt, i_le, i_eq, Int32.toInt_toInt64, Int32.reduceToInt, Int64.reduceToInt, true_and, and_true, false_and, and_false, false_or, or_false, true_or, or_true, not_true_eq_false, not_false_eq_true, ne_eq, forall_const, true_implies, false_implies, implies_true] at g_v3 g_v5 hn8 tx25 g26 c27 b33 c38 b42 b43 ⊢) <;> omega) (by (try simp only [i_lt, i_le, i_eq, Int32.toInt_toInt64, Int32.reduceToInt, Int64.reduceToInt, true_and, and_true, false_and, and_false, false_or, or_false, true_or, or_true, not_true_eq_false, not_false_eq_true, ne_eq, forall_const, true_implies, false_implies, implies_true] at g_v3 g_v5 hn8 tx25 g26 c27 b33 c38 b42 b43 ⊢) <;> omega)
                refine lv_iinc (v := x44) (lv' := [(5, .int x44), (6, .int r28), (0, .ref h0), (1, .int v1), (2, .int v2), (3, .int v3), (4, .int v4)]) hx hb dX12_firstBut_62 hl (k := 6) rfl (by rw [ex44]; rfl) (by decide) rfl (fun ls hl => ?_)
                refine lv_goto (tgt := 8) hx hb dX12_firstBut_65 (by decide) ?_
                exact ih8 _ _ _ ls v1 v2 v3 v4 x44 hu hp hP hD hS (by (try simp only [i_lt, i_le, i_eq, Int32.toInt_toInt64, Int32.reduceToInt, Int64.reduceToInt, true_and, and_true, false_and, and_false, false_or, or_false, true_or, or_true, not_true_eq_false, not_false_eq_true, ne_eq, forall_const, true_implies, false_implies, implies_true] at g_v3 g_v5 hn8 tx25 g26 c27 b33 c38 b42 b43 tx44 ⊢) <;> omega) (by (try simp only [i_lt, i_le, i_eq, Int32.toInt_toInt64, Int32.reduceToInt, Int64.reduceToInt, true_and, and_true, false_and, and_false, false_or, or_false, true_or, or_true, not_true_eq_false, not_false_eq_true, ne_eq, forall_const, true_implies, false_implies, implies_true] at g_v3 g_v5 hn8 tx25 g26 c27 b33 c38 b42 b43 tx44 ⊢) <;> omega) (by (try simp only [i_lt, i_le, i_eq, Int32.toInt_toInt64, Int32.reduceToInt, Int64.reduceToInt, true_and, and_true, false_and, and_false, false_or, or_false, true_or, or_true, not_true_eq_false, not_false_eq_true, ne_eq, forall_const, true_implies, false_implies, implies_true] at g_v3 g_v5 hn8 tx25 g26 c27 b33 c38 b42 b43 tx44 ⊢) <;> omega) (lv_sub hl [2, 3, 4, 5, 6, 0] rfl)
  have hl := lv_entry ([.ref h0, .int p1, .int p2]) (n := 7) (Nat.le_of_ble_eq_true rfl)
  rw [lg_entry_eq]
  generalize (lg_sl ([.ref h0, .int p1, .int p2]) ++ List.replicate (7 - (lg_sl ([.ref h0, .int p1, .int p2])).length) Slot.unset).toArray = ls at hl ⊢
  have hl : lv_has ls 7 [(0, .ref h0), (1, .int p1), (2, .int p2)] := hl
  refine lv_iconst (v := (-1)) hx hb dX12_firstBut_0 (by decide) ?_
  refine lv_istore_n (lv' := [(3, .int (-1)), (0, .ref h0), (1, .int p1), (2, .int p2)]) hx hb dX12_firstBut_1 rfl hl (by decide) rfl (fun ls hl => ?_)
  refine lv_iconst (v := (-1)) hx hb dX12_firstBut_2 (by decide) ?_
  refine lv_istore (lv' := [(4, .int (-1)), (3, .int (-1)), (0, .ref h0), (1, .int p1), (2, .int p2)]) hx hb dX12_firstBut_3 hl (by decide) rfl (fun ls hl => ?_)
  refine lv_iconst (v := 0) hx hb dX12_firstBut_5 (by decide) ?_
  refine lv_istore (lv' := [(5, .int 0), (4, .int (-1)), (3, .int (-1)), (0, .ref h0), (1, .int p1), (2, .int p2)]) hx hb dX12_firstBut_6 hl (by decide) rfl (fun ls hl => ?_)
  exact B8 _ _ _ _ ls p1 p2 (-1) (-1) 0 hu hp hP hD hS (Nat.le_refl _) (by (try simp only [i_lt, i_le, i_eq, Int32.toInt_toInt64, Int32.reduceToInt, Int64.reduceToInt, true_and, and_true, false_and, and_false, false_or, or_false, true_or, or_true, not_true_eq_false, not_false_eq_true, ne_eq, forall_const, true_implies, false_implies, implies_true]) <;> omega) (by (try simp only [i_lt, i_le, i_eq, Int32.toInt_toInt64, Int32.reduceToInt, Int64.reduceToInt, true_and, and_true, false_and, and_false, false_or, or_false, true_or, or_true, not_true_eq_false, not_false_eq_true, ne_eq, forall_const, true_implies, false_implies, implies_true]) <;> omega) (lv_sub hl [3, 4, 5, 2, 1, 0] rfl)
set_option maxHeartbeats 4000000 in
set_option maxRecDepth 100000 in
theorem t_X12_goes (l : Launch) (D : va_G) (k : Nat → ClassId) (u0 : PSt) (hu : WT u0) (h0 : Nat) (m_h0 : h0 ∈ u0.1) (k_h0 : u0.2.1 h0 = 12) (p1 : Int32) (sz : Nat) : Met l yX12_goes wsX12_goes ({ frames := 8, cells := 0, slots := 0, locals := 191 }) (PreM D k sz (PW k u0) [.ref h0, .int p1]) (va_Qi (fun r v => WT v ∧ PX u0 v ∧ (True)) (WB D (va_A (PW k u0) sz) (PW k)) (va_A (PW k u0) sz)) 0 0 (va_A (PW k u0) sz) := by
  refine Met.ofW (cc := cX12_goes) (maxL := 2) (ret := (some .int)) (by decide) rfl ?_
  intro p e s m args below meth c s₁ B hml hv
  obtain ⟨rfl, hsz, hP, hK, hD0, hN⟩ := hv
  have hx := B.exec
  have hb := B.bytes
  have hr := B.returns
  have hts := atoms_spec (ws := wsX12_goes) B.pre
  have hown : s.vm.findClass RX12 = some m.cls := findClass_of_methodNamed B.named
  have hlocks := B.notSynchronized
  have m0_h0 := m_h0
  have k0_h0 := k_h0
  subst hsz
  have hD := hD0.self (sz := s.heap.size)
  generalize hAe : va_A (PW k u0) s.heap.size = A at hD ⊢
  have hA : ∀ q : Nat, s.heap.size ≤ q → A q := fun q h => by rw [← hAe]; exact Or.inr h
  have hS : va_S A s.heap s.heap [] := va_S.rf
  have hp : PX u0 u0 := PX.rf
  have hl := lv_entry ([.ref h0, .int p1]) (n := 2) (Nat.le_of_ble_eq_true rfl)
  rw [lg_entry_eq]
  generalize (lg_sl ([.ref h0, .int p1]) ++ List.replicate (2 - (lg_sl ([.ref h0, .int p1])).length) Slot.unset).toArray = ls at hl ⊢
  have hl : lv_has ls 2 [(0, .ref h0), (1, .int p1)] := hl
  refine lv_aload_n hx hb dX12_goes_0 rfl (lv_at hl 0 rfl) ?_
  refine lv_iload_n hx hb dX12_goes_1 rfl (lv_at hl 1 rfl) ?_
  refine rvi (C := RX12) (As := [.int p1]) (rest := []) ⟨hx, hb, hml, hown, hts⟩ (t_X12_isPipe l D k u0 hu h0 m_h0 k_h0 p1) (cwV 1 hts gX12_goes_X12_isPipe rfl rfl rfl (by decide +kernel) ⟨Nat.le_of_ble_eq_true rfl, Nat.le_of_ble_eq_true rfl⟩) hP hK (precv hK hP m_h0 (cF12 k_h0) rfl) rfl hl.1 rfl (Nat.le_of_ble_eq_true rfl) dX12_goes_2 ⟨Nat.le_of_ble_eq_true rfl, Nat.le_of_ble_eq_true rfl⟩ (fun r1 hr1 => ?_)
  refine lv_if_eq (tgt := 16) hx hb dX12_goes_5 (by decide) (fun c2 => ?_) (fun c2 => ?_)
  · have eb3 : r1.toInt = 0 := by rcases hr1 with q | ⟨q, -⟩; exact q; (exact absurd (c2) (fun w => by rw [w] at q; exact absurd q (by decide)))
    clear hr1
    refine lv_bipush (v := (-2)) hx hb dX12_goes_16 (by decide) ?_
    exact W.iret (v := (-2)) hx hb hr (fun t ht hW => ⟨⟨(-2), u0, rfl, ⟨hu, hp, trivial⟩, by rw [ht]; exact hP, hD⟩, hS.F ht⟩) hS.2.2 dX12_goes_18
  · have eb4 : r1.toInt = 1 := by rcases hr1 with q | ⟨q, -⟩; exact absurd (i_eq.mpr q) c2; exact q
    have fb4 : 0 ≤ p1.toInt ∧ p1.toInt ≤ 11 := by rcases hr1 with q | ⟨q, r⟩; exact absurd q (by omega); exact r
    clear hr1
    refine lv_aload_n hx hb dX12_goes_8 rfl (lv_at hl 0 rfl) ?_
    refine lv_iload_n hx hb dX12_goes_9 rfl (lv_at hl 1 rfl) ?_
    refine wiV (C := RX12) (As := [.int p1]) (rest := []) ⟨hx, hb, hml, hown, hts⟩ (fun sz => t_X12_goesOf l D k u0 hu h0 m_h0 k_h0 p1 (by (try simp only [i_lt, i_le, i_eq, Int32.toInt_toInt64, Int32.reduceToInt, Int64.reduceToInt, true_and, and_true, false_and, and_false, false_or, or_false, true_or, or_true, not_true_eq_false, not_false_eq_true, ne_eq, forall_const, true_implies, false_implies, implies_true] at eb4 fb4 ⊢) <;> omega) sz) (cwV 1 hts gX12_goes_X12_goesOf rfl rfl rfl (by decide +kernel) ⟨Nat.le_of_ble_eq_true rfl, Nat.le_of_ble_eq_true rfl⟩) hP hK hD hN hS hA (precv hK hP m_h0 (cF12 k_h0) rfl) rfl hl.1 rfl (Nat.le_of_ble_eq_true rfl) dX12_goes_10 ⟨Nat.le_of_ble_eq_true rfl, Nat.le_of_ble_eq_true rfl⟩ (fun r5 u6 H locs hqu6 hP hD hS => ?_)
    obtain ⟨hu, hxu6, hr5⟩ := hqu6
    have hp := PX.trans hp hxu6
    refine lv_goto (tgt := 18) hx hb dX12_goes_13 (by decide) ?_
    exact W.iret (v := r5) hx hb hr (fun t ht hW => ⟨⟨r5, u6, rfl, ⟨hu, hp, trivial⟩, by rw [ht]; exact hP, hD⟩, hS.F ht⟩) hS.2.2 dX12_goes_18
