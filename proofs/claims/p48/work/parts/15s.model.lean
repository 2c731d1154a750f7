set_option maxHeartbeats 4000000 in
set_option maxRecDepth 100000 in
theorem t_X12_load (l : Launch) (D : va_G) (k : Nat → ClassId) (u0 : PSt) (hu : WT u0) (h0 : Nat) (m_h0 : h0 ∈ u0.1) (k_h0 : u0.2.1 h0 = 12) (p1 : Int32) (p2 : Int32) (sz : Nat) : Met l yX12_load wsX12_load ({ frames := 5, cells := 0, slots := 0, locals := 123 }) (PreM D k sz (PW k u0) [.ref h0, .int p1, .int p2]) (va_Qi (fun r v => WT v ∧ PX u0 v ∧ (True)) (WB D (va_A (PW k u0) sz) (PW k)) (va_A (PW k u0) sz)) 0 0 (va_A (PW k u0) sz) := by
  refine Met.ofW (cc := cX12_load) (maxL := 3) (ret := (some .int)) (by decide) rfl ?_
  intro p e s m args below meth c s₁ B hml hv
  obtain ⟨rfl, hsz, hP, hK, hD0, hN⟩ := hv
  have hx := B.exec
  have hb := B.bytes
  have hr := B.returns
  have hts := atoms_spec (ws := wsX12_load) B.pre
  have hown : s.vm.findClass RX12 = some m.cls := findClass_of_methodNamed B.named
  have hlocks := B.notSynchronized
  have m0_h0 := m_h0
  have k0_h0 := k_h0
  subst hsz
  have hD := hD0.self (sz := s.heap.size)
  generalize hAe : va_A (PW k u0) s.heap.size = A at hD ⊢
  have hA : ∀ q : Nat, s.heap.size ≤ q → A q := fun q h => by rw [← hAe]; exact Or.inr h
  have hS : va_S A s.heap s.heap [] := va_S.rf
  have hp : PX u0 u0 := PX.rf
  have hl := lv_entry ([.ref h0, .int p1, .int p2]) (n := 3) (Nat.le_of_ble_eq_true rfl)
  rw [lg_entry_eq]
  generalize (lg_sl ([.ref h0, .int p1, .int p2]) ++ List.replicate (3 - (lg_sl ([.ref h0, .int p1, .int p2])).length) Slot.unset).toArray = ls at hl ⊢
  have hl : lv_has ls 3 [(0, .ref h0), (1, .int p1), (2, .int p2)] := hl
  refine lv_aload_n hx hb dX12_load_0 rfl (lv_at hl 0 rfl) ?_
  refine lv_iload_n hx hb dX12_load_1 rfl (lv_at hl 1 rfl) ?_
  refine rvi (C := RX12) (As := [.int p1]) (rest := []) ⟨hx, hb, hml, hown, hts⟩ (t_X12_isPipe l D k u0 hu h0 m_h0 k_h0 p1) (cwV 1 hts gX12_load_X12_isPipe rfl rfl rfl (by decide +kernel) ⟨Nat.le_of_ble_eq_true rfl, Nat.le_of_ble_eq_true rfl⟩) hP hK (precv hK hP m_h0 (cF12 k_h0) rfl) rfl hl.1 rfl (Nat.le_of_ble_eq_true rfl) dX12_load_2 ⟨Nat.le_of_ble_eq_true rfl, Nat.le_of_ble_eq_true rfl⟩ (fun r1 hr1 => ?_)
  refine lv_if_eq (tgt := 25) hx hb dX12_load_5 (by decide) (fun c2 => ?_) (fun c2 => ?_)
  · have eb3 : r1.toInt = 0 := by rcases hr1 with q | ⟨q, -⟩; exact q; (exact absurd (c2) (fun w => by rw [w] at q; exact absurd q (by decide)))
    clear hr1
    refine lv_bipush (v := (-2)) hx hb dX12_load_25 (by decide) ?_
    exact W.iret (v := (-2)) hx hb hr (fun t ht hW => ⟨⟨(-2), u0, rfl, ⟨hu, hp, trivial⟩, by rw [ht]; exact hP, hD⟩, hS.F ht⟩) hS.2.2 dX12_load_27
  · have eb4 : r1.toInt = 1 := by rcases hr1 with q | ⟨q, -⟩; exact absurd (i_eq.mpr q) c2; exact q
    have fb4 : 0 ≤ p1.toInt ∧ p1.toInt ≤ 11 := by rcases hr1 with q | ⟨q, r⟩; exact absurd q (by omega); exact r
    clear hr1
    refine lv_iload_n hx hb dX12_load_8 rfl (lv_at hl 2 rfl) ?_
    refine psi (As := [.int p2]) (rest := []) ⟨hx, hb, hml, hown, hts⟩ (t_X12_isPress l D k p2) (va_cwS 1 hts gX12_load_X12_isPress rfl rfl rfl (by decide +kernel) ⟨Nat.le_of_ble_eq_true rfl, Nat.le_of_ble_eq_true rfl⟩) hK rfl hl.1 rfl (Nat.le_of_ble_eq_true rfl) dX12_load_9 ⟨Nat.le_of_ble_eq_true rfl, Nat.le_of_ble_eq_true rfl⟩ (fun r5 hr5 => ?_)
    refine lv_if_eq (tgt := 25) hx hb dX12_load_12 (by decide) (fun c6 => ?_) (fun c6 => ?_)
    · have eb7 : r5.toInt = 0 := by rcases hr5 with ⟨q, -⟩ | ⟨q, -⟩; exact q; (exact absurd (c6) (fun w => by rw [w] at q; exact absurd q (by decide)))
      have fb7 : (p2.toInt < 0 ∨ 999 < p2.toInt) := by rcases hr5 with ⟨q, r⟩ | ⟨q, r⟩; exact r; exact absurd q (by omega)
      clear hr5
      refine lv_bipush (v := (-2)) hx hb dX12_load_25 (by decide) ?_
      exact W.iret (v := (-2)) hx hb hr (fun t ht hW => ⟨⟨(-2), u0, rfl, ⟨hu, hp, trivial⟩, by rw [ht]; exact hP, hD⟩, hS.F ht⟩) hS.2.2 dX12_load_27
    · have eb8 : r5.toInt = 1 := by rcases hr5 with ⟨q, -⟩ | ⟨q, -⟩; exact absurd (i_eq.mpr q) c6; exact q
      have fb8 : 0 ≤ p2.toInt ∧ p2.toInt ≤ 999 := by rcases hr5 with ⟨q, r⟩ | ⟨q, r⟩; exact absurd q (by omega); exact r
      clear hr5
      refine lv_aload_n hx hb dX12_load_15 rfl (lv_at hl 0 rfl) ?_
      refine lv_iload_n hx hb dX12_load_16 rfl (lv_at hl 1 rfl) ?_
      refine lv_iload_n hx hb dX12_load_17 rfl (lv_at hl 2 rfl) ?_
      refine lv_iconst (v := 0) hx hb dX12_load_18 (by decide) ?_
      refine wiV (C := RX12) (As := [.int p1, .int p2, .int 0]) (rest := []) ⟨hx, hb, hml, hown, hts⟩ (fun sz => t_X12_loadOf l D k u0 hu h0 m_h0 k_h0 p1 p2 0 (by (try simp only [i_lt, i_le, i_eq, Int32.toInt_toInt64, Int32.reduceToInt, Int64.reduceToInt, true_and, and_true, false_and, and_false, false_or, or_false, true_or, or_true, not_true_eq_false, not_false_eq_true, ne_eq, forall_const, true_implies, false_implies, implies_true] at eb4 fb4 eb8 fb8 ⊢) <;> omega) sz) (cwV 3 hts gX12_load_X12_loadOf rfl rfl rfl (by decide +kernel) ⟨Nat.le_of_ble_eq_true rfl, Nat.le_of_ble_eq_true rfl⟩) hP hK hD hN hS hA (precv hK hP m_h0 (cF12 k_h0) rfl) rfl hl.1 rfl (Nat.le_of_ble_eq_true rfl) dX12_load_19 ⟨Nat.le_of_ble_eq_true rfl, Nat.le_of_ble_eq_true rfl⟩ (fun r9 u10 H locs hqu10 hP hD hS => ?_)
      obtain ⟨hu, hxu10, hr9⟩ := hqu10
      have hp := PX.trans hp hxu10
      refine lv_goto (tgt := 27) hx hb dX12_load_22 (by decide) ?_
      exact W.iret (v := r9) hx hb hr (fun t ht hW => ⟨⟨r9, u10, rfl, ⟨hu, hp, trivial⟩, by rw [ht]; exact hP, hD⟩, hS.F ht⟩) hS.2.2 dX12_load_27
set_option maxHeartbeats 4000000 in
set_option maxRecDepth 100000 in
theorem t_X12_wear (l : Launch) (D : va_G) (k : Nat → ClassId) (u0 : PSt) (hu : WT u0) (h0 : Nat) (m_h0 : h0 ∈ u0.1) (k_h0 : u0.2.1 h0 = 12) (p1 : Int32) (p2 : Int32) (sz : Nat) : Met l yX12_wear wsX12_wear ({ frames := 6, cells := 0, slots := 0, locals := 146 }) (PreM D k sz (PW k u0) [.ref h0, .int p1, .int p2]) (va_Qi (fun r v => WT v ∧ PX u0 v ∧ (True)) (WB D (va_A (PW k u0) sz) (PW k)) (va_A (PW k u0) sz)) 0 0 (va_A (PW k u0) sz) := by
  refine Met.ofW (cc := cX12_wear) (maxL := 5) (ret := (some .int)) (by decide) rfl ?_
  intro p e s m args below meth c s₁ B hml hv
  obtain ⟨rfl, hsz, hP, hK, hD0, hN⟩ := hv
  have hx := B.exec
  have hb := B.bytes
  have hr := B.returns
  have hts := atoms_spec (ws := wsX12_wear) B.pre
  have hown : s.vm.findClass RX12 = some m.cls := findClass_of_methodNamed B.named
  have hlocks := B.notSynchronized
  have m0_h0 := m_h0
  have k0_h0 := k_h0
  subst hsz
  have hD := hD0.self (sz := s.heap.size)
  generalize hAe : va_A (PW k u0) s.heap.size = A at hD ⊢
  have hA : ∀ q : Nat, s.heap.size ≤ q → A q := fun q h => by rw [← hAe]; exact Or.inr h
  have hS : va_S A s.heap s.heap [] := va_S.rf
  have hp : PX u0 u0 := PX.rf
  have B35 : ∀ (n35 : Nat) (u : PSt) (H : Heap) (locs : List Loc) (ls : Array Slot) (v2 : Int32) (v3 : Int32) (v4 : Int32), WT u → PX u0 u → va_P D vwCl (PW k u) H → va_D A (PW k u) → va_S A s.heap H locs → (2147483648 - v4.toInt).toNat ≤ n35 → 0 ≤ v2.toInt ∧ v2.toInt ≤ 1999 → 0 ≤ v4.toInt ∧ v4.toInt ≤ 2000 → lv_has ls 5 [(0, .ref h0), (2, .int v2), (3, .int v3), (4, .int v4)] → W p l e (headSpec wsX12_wear ({ frames := 6, cells := 0, slots := 0, locals := 146 })).room s m ([.ref h0, .int p1, .int p2] : List Value).toArray below meth c H locs 0 0 (MQ below (va_Qi (fun r v => WT v ∧ PX u0 v ∧ (True)) (WB D A (PW k)) A) ([.ref h0, .int p1, .int p2] : List Value).toArray s 0 0 A) (F0 m 35 ls []) := by
    intro n35
    induction n35 with
    | zero =>
      intro u H locs ls v2 v3 v4 hu hp hP hD hS hn35 g_v2 g_v4 hl
      exact absurd hn35 (by have := Int32.toInt_lt v4; have := Int32.le_toInt v4; omega)
    | succ n35 ih35 =>
      intro u H locs ls v2 v3 v4 hu hp hP hD hS hn35 g_v2 g_v4 hl
      refine lv_iload hx hb dX12_wear_35 (lv_at hl 3 rfl) ?_
      refine lv_iload_n hx hb dX12_wear_37 rfl (lv_at hl 1 rfl) ?_
      refine lv_icmp_gt (tgt := 56) hx hb dX12_wear_38 (by decide) (fun c1 => ?_) (fun c1 => ?_)
      · refine lv_iload_n hx hb dX12_wear_56 rfl (lv_at hl 2 rfl) ?_
        exact W.iret (v := v3) hx hb hr (fun t ht hW => ⟨⟨v3, u, rfl, ⟨hu, hp, trivial⟩, by rw [ht]; exact hP, hD⟩, hS.F ht⟩) hS.2.2 dX12_wear_57
      · refine lv_iload_n hx hb dX12_wear_41 rfl (lv_at hl 2 rfl) ?_
        refine lv_aload_n hx hb dX12_wear_42 rfl (lv_at hl 0 rfl) ?_
        refine lv_iload hx hb dX12_wear_43 (lv_at hl 3 rfl) ?_
        have k_h0 : u.2.1 h0 = 12 := (hp h0 m0_h0).2.1.trans k0_h0
        have m_h0 : h0 ∈ u.1 := (hp h0 m0_h0).1
        refine rvi (C := RX12) (As := [.int v4]) (rest := [.int v3]) ⟨hx, hb, hml, hown, hts⟩ (t_X12_wearIn l D k u hu h0 m_h0 k_h0 v4 (by (try simp only [i_lt, i_le, i_eq, Int32.toInt_toInt64, Int32.reduceToInt, Int64.reduceToInt, true_and, and_true, false_and, and_false, false_or, or_false, true_or, or_true, not_true_eq_false, not_false_eq_true, ne_eq, forall_const, true_implies, false_implies, implies_true] at g_v2 g_v4 hn35 c1 ⊢) <;> omega)) (cwV 1 hts gX12_wear_X12_wearIn rfl rfl rfl (by decide +kernel) ⟨Nat.le_of_ble_eq_true rfl, Nat.le_of_ble_eq_true rfl⟩) hP hK (precv hK hP m_h0 (cF12 k_h0) rfl) rfl hl.1 rfl (Nat.le_of_ble_eq_true rfl) dX12_wear_45 ⟨Nat.le_of_ble_eq_true rfl, Nat.le_of_ble_eq_true rfl⟩ (fun r2 hr2 => ?_)
        refine lv_iadd hx hb dX12_wear_48 ?_
        refine lv_topi (fun x3 ex3 => ?_)
        refine lv_istore_n (lv' := [(3, .int x3), (0, .ref h0), (2, .int v2), (4, .int v4)]) hx hb dX12_wear_49 rfl hl (by decide) rfl (fun ls hl => ?_)
        obtain ⟨x4, ex4⟩ : ∃ y : Int32, y = v4 + 1 := ⟨_, rfl⟩
        have tx4 : x4.toInt = v4.toInt + 1 := by rw [ex4]; exact i_add (b := 1) (by (try simp only [i_lt, i_le, i_eq, Int32.toInt_toInt64, Int32.reduceToInt, Int64.reduceToInt, true_and, and_true, false_and, and_false, false_or, or_false, true_or, or_true, not_true_eq_false, not_false_eq_true, ne_eq, forall_const, true_implies, false_implies, implies_true] at g_v2 g_v4 hn35 c1 ⊢) <;> omega) (by (try simp only [i_lt, i_le, i_eq, Int32.toInt_toInt64, Int32.reduceToInt, Int64.reduceToInt, true_and, and_true, false_and, and_false, false_or, or_false, true_or, or_true, not_true_eq_false, not_false_eq_true, ne_eq, forall_const, true_implies, false_implies, implies_true] at g_v2 g_v4 hn35 c1 ⊢) <;> omega)
        refine lv_iinc (v := x4) (lv' := [(4, .int x4), (3, .int x3), (0, .ref h0), (2, .int v2)]) hx hb dX12_wear_50 hl (k := 3) rfl (by rw [ex4]; rfl) (by decide) rfl (fun ls hl => ?_)
        refine lv_goto (tgt := 35) hx hb dX12_wear_53 (by decide) ?_
        exact ih35 _ _ _ ls v2 x3 x4 hu hp hP hD hS (by (try simp only [i_lt, i_le, i_eq, Int32.toInt_toInt64, Int32.reduceToInt, Int64.reduceToInt, true_and, and_true, false_and, and_false, false_or, or_false, true_or, or_true, not_true_eq_false, not_false_eq_true, ne_eq, forall_const, true_implies, false_implies, implies_true] at g_v2 g_v4 hn35 c1 tx4 ⊢) <;> omega) (by (try simp only [i_lt, i_le, i_eq, Int32.toInt_toInt64, Int32.reduceToInt, Int64.reduceToInt, true_and, and_true, false_and, and_false, false_or, or_false, true_or, or_true, not_true_eq_false, not_false_eq_true, ne_eq, forall_const, true_implies, false_implies, implies_true] at g_v2 g_v4 hn35 c1 tx4 ⊢) <;> omega) (by (try simp only [i_lt, i_le, i_eq, Int32.toInt_toInt64, Int32.reduceToInt, Int64.reduceToInt, true_and, and_true, false_and, and_false, false_or, or_false, true_or, or_true, not_true_eq_false, not_false_eq_true, ne_eq, forall_const, true_implies, false_implies, implies_true] at g_v2 g_v4 hn35 c1 tx4 ⊢) <;> omega) (lv_sub hl [2, 3, 1, 0] rfl)
  have hl := lv_entry ([.ref h0, .int p1, .int p2]) (n := 5) (Nat.le_of_ble_eq_true rfl)
  rw [lg_entry_eq]
  generalize (lg_sl ([.ref h0, .int p1, .int p2]) ++ List.replicate (5 - (lg_sl ([.ref h0, .int p1, .int p2])).length) Slot.unset).toArray = ls at hl ⊢
  have hl : lv_has ls 5 [(0, .ref h0), (1, .int p1), (2, .int p2)] := hl
  refine lv_aload_n hx hb dX12_wear_0 rfl (lv_at hl 0 rfl) ?_
  refine lv_iload_n hx hb dX12_wear_1 rfl (lv_at hl 1 rfl) ?_
  refine rvi (C := RX12) (As := [.int p1]) (rest := []) ⟨hx, hb, hml, hown, hts⟩ (t_X12_isPipe l D k u0 hu h0 m_h0 k_h0 p1) (cwV 1 hts gX12_wear_X12_isPipe rfl rfl rfl (by decide +kernel) ⟨Nat.le_of_ble_eq_true rfl, Nat.le_of_ble_eq_true rfl⟩) hP hK (precv hK hP m_h0 (cF12 k_h0) rfl) rfl hl.1 rfl (Nat.le_of_ble_eq_true rfl) dX12_wear_2 ⟨Nat.le_of_ble_eq_true rfl, Nat.le_of_ble_eq_true rfl⟩ (fun r5 hr5 => ?_)
  refine lv_if_eq (tgt := 16) hx hb dX12_wear_5 (by decide) (fun c6 => ?_) (fun c6 => ?_)
  · have eb7 : r5.toInt = 0 := by rcases hr5 with q | ⟨q, -⟩; exact q; (exact absurd (c6) (fun w => by rw [w] at q; exact absurd q (by decide)))
    clear hr5
    refine lv_bipush (v := (-2)) hx hb dX12_wear_16 (by decide) ?_
    exact W.iret (v := (-2)) hx hb hr (fun t ht hW => ⟨⟨(-2), u0, rfl, ⟨hu, hp, trivial⟩, by rw [ht]; exact hP, hD⟩, hS.F ht⟩) hS.2.2 dX12_wear_18
  · have eb8 : r5.toInt = 1 := by rcases hr5 with q | ⟨q, -⟩; exact absurd (i_eq.mpr q) c6; exact q
    have fb8 : 0 ≤ p1.toInt ∧ p1.toInt ≤ 11 := by rcases hr5 with q | ⟨q, r⟩; exact absurd q (by omega); exact r
    clear hr5
    refine lv_aload_n hx hb dX12_wear_8 rfl (lv_at hl 0 rfl) ?_
    refine lv_iload_n hx hb dX12_wear_9 rfl (lv_at hl 2 rfl) ?_
    refine rvi (C := RX12) (As := [.int p2]) (rest := []) ⟨hx, hb, hml, hown, hts⟩ (t_X12_isHour l D k u0 hu h0 m_h0 k_h0 p2) (cwV 1 hts gX12_wear_X12_isHour rfl rfl rfl (by decide +kernel) ⟨Nat.le_of_ble_eq_true rfl, Nat.le_of_ble_eq_true rfl⟩) hP hK (precv hK hP m_h0 (cF12 k_h0) rfl) rfl hl.1 rfl (Nat.le_of_ble_eq_true rfl) dX12_wear_10 ⟨Nat.le_of_ble_eq_true rfl, Nat.le_of_ble_eq_true rfl⟩ (fun r9 hr9 => ?_)
    refine lv_if_ne (tgt := 19) hx hb dX12_wear_13 (by decide) (fun c10 => ?_) (fun c10 => ?_)
    · have eb11 : r9.toInt = 1 := by rcases hr9 with q | ⟨q, -⟩; exact absurd (i_eq.mpr q) c10; exact q
      have fb11 : 0 ≤ p2.toInt ∧ p2.toInt ≤ 1999 := by rcases hr9 with q | ⟨q, r⟩; exact absurd q (by omega); exact r
      clear hr9
      refine lv_aload_n hx hb dX12_wear_19 rfl (lv_at hl 0 rfl) ?_
      refine lv_iconst (v := 0) hx hb dX12_wear_20 (by decide) ?_
      refine wvV (C := RX12) (As := [.int 0]) (rest := []) ⟨hx, hb, hml, hown, hts⟩ (fun sz => t_X12_lays l D k u0 hu h0 m_h0 k_h0 0 sz) (cwV 1 hts gX12_wear_X12_lays rfl rfl rfl (by decide +kernel) ⟨Nat.le_of_ble_eq_true rfl, Nat.le_of_ble_eq_true rfl⟩) hP hK hD hN hS hA (precv hK hP m_h0 (cF12 k_h0) rfl) rfl hl.1 rfl (Nat.le_of_ble_eq_true rfl) dX12_wear_21 ⟨Nat.le_of_ble_eq_true rfl, Nat.le_of_ble_eq_true rfl⟩ (fun u13 H locs hqu13 hP hD hS => ?_)
      obtain ⟨hu, hxu13, hr12⟩ := hqu13
      have hp := PX.trans hp hxu13
      refine lv_aload_n hx hb dX12_wear_24 rfl (lv_at hl 0 rfl) ?_
      refine lv_iload_n hx hb dX12_wear_25 rfl (lv_at hl 1 rfl) ?_
      refine lv_iconst (v := 0) hx hb dX12_wear_26 (by decide) ?_
      have k_h0 : u13.2.1 h0 = 12 := (hp h0 m0_h0).2.1.trans k0_h0
      have m_h0 : h0 ∈ u13.1 := (hp h0 m0_h0).1
      refine wvV (C := RX12) (As := [.int p1, .int 0]) (rest := []) ⟨hx, hb, hml, hown, hts⟩ (fun sz => t_X12_laysLoads l D k u13 hu h0 m_h0 k_h0 p1 0 (by (try simp only [i_lt, i_le, i_eq, Int32.toInt_toInt64, Int32.reduceToInt, Int64.reduceToInt, true_and, and_true, false_and, and_false, false_or, or_false, true_or, or_true, not_true_eq_false, not_false_eq_true, ne_eq, forall_const, true_implies, false_implies, implies_true] at eb8 fb8 eb11 fb11 ⊢) <;> omega) sz) (cwV 2 hts gX12_wear_X12_laysLoads rfl rfl rfl (by decide +kernel) ⟨Nat.le_of_ble_eq_true rfl, Nat.le_of_ble_eq_true rfl⟩) hP hK hD hN hS hA (precv hK hP m_h0 (cF12 k_h0) rfl) rfl hl.1 rfl (Nat.le_of_ble_eq_true rfl) dX12_wear_27 ⟨Nat.le_of_ble_eq_true rfl, Nat.le_of_ble_eq_true rfl⟩ (fun u15 H locs hqu15 hP hD hS => ?_)
      obtain ⟨hu, hxu15, hr14⟩ := hqu15
      have hp := PX.trans hp hxu15
      refine lv_iconst (v := 0) hx hb dX12_wear_30 (by decide) ?_
      refine lv_istore_n (lv' := [(3, .int 0), (0, .ref h0), (1, .int p1), (2, .int p2)]) hx hb dX12_wear_31 rfl hl (by decide) rfl (fun ls hl => ?_)
      refine lv_iconst (v := 0) hx hb dX12_wear_32 (by decide) ?_
      refine lv_istore (lv' := [(4, .int 0), (3, .int 0), (0, .ref h0), (1, .int p1), (2, .int p2)]) hx hb dX12_wear_33 hl (by decide) rfl (fun ls hl => ?_)
      exact B35 _ _ _ _ ls p2 0 0 hu hp hP hD hS (Nat.le_refl _) (by (try simp only [i_lt, i_le, i_eq, Int32.toInt_toInt64, Int32.reduceToInt, Int64.reduceToInt, true_and, and_true, false_and, and_false, false_or, or_false, true_or, or_true, not_true_eq_false, not_false_eq_true, ne_eq, forall_const, true_implies, false_implies, implies_true] at eb8 fb8 eb11 fb11 ⊢) <;> omega) (by (try simp only [i_lt, i_le, i_eq, Int32.toInt_toInt64, Int32.reduceToInt, Int64.reduceToInt, true_and, and_true, false_and, and_false, false_or, or_false, true_or, or_true, not_true_eq_false, not_false_eq_true, ne_eq, forall_const, true_implies, false_implies, implies_true] at eb8 fb8 eb11 fb11 ⊢) <;> omega) (lv_sub hl [2, 4, 1, 0] rfl)
    · have eb16 : r9.toInt = 0 := by rcases hr9 with q | ⟨q, -⟩; exact q; (exact absurd (c10) (fun w => by rw [w] at q; exact absurd q (by decide)))
      clear hr9
      refine lv_bipush (v := (-2)) hx hb dX12_wear_16 (by decide) ?_
      exact W.iret (v := (-2)) hx hb hr (fun t ht hW => ⟨⟨(-2), u0, rfl, ⟨hu, hp, trivial⟩, by rw [ht]; exact hP, hD⟩, hS.F ht⟩) hS.2.2 dX12_wear_18
set_option maxHeartbeats 4000000 in
set_option maxRecDepth 100000 in
theorem t_X12_bows (l : Launch) (D : va_G) (k : Nat → ClassId) (u0 : PSt) (hu : WT u0) (h0 : Nat) (m_h0 : h0 ∈ u0.1) (k_h0 : u0.2.1 h0 = 12) (p1 : Int32) (sz : Nat) : Met l yX12_bows wsX12_bows ({ frames := 6, cells := 0, slots := 0, locals := 145 }) (PreM D k sz (PW k u0) [.ref h0, .int p1]) (va_Qi (fun r v => WT v ∧ PX u0 v ∧ (True)) (WB D (va_A (PW k u0) sz) (PW k)) (va_A (PW k u0) sz)) 0 0 (va_A (PW k u0) sz) := by
  refine Met.ofW (cc := cX12_bows) (maxL := 2) (ret := (some .int)) (by decide) rfl ?_
  intro p e s m args below meth c s₁ B hml hv
  obtain ⟨rfl, hsz, hP, hK, hD0, hN⟩ := hv
  have hx := B.exec
  have hb := B.bytes
  have hr := B.returns
  have hts := atoms_spec (ws := wsX12_bows) B.pre
  have hown : s.vm.findClass RX12 = some m.cls := findClass_of_methodNamed B.named
  have hlocks := B.notSynchronized
  have m0_h0 := m_h0
  have k0_h0 := k_h0
  subst hsz
  have hD := hD0.self (sz := s.heap.size)
  generalize hAe : va_A (PW k u0) s.heap.size = A at hD ⊢
  have hA : ∀ q : Nat, s.heap.size ≤ q → A q := fun q h => by rw [← hAe]; exact Or.inr h
  have hS : va_S A s.heap s.heap [] := va_S.rf
  have hp : PX u0 u0 := PX.rf
  have hl := lv_entry ([.ref h0, .int p1]) (n := 2) (Nat.le_of_ble_eq_true rfl)
  rw [lg_entry_eq]
  generalize (lg_sl ([.ref h0, .int p1]) ++ List.replicate (2 - (lg_sl ([.ref h0, .int p1])).length) Slot.unset).toArray = ls at hl ⊢
  have hl : lv_has ls 2 [(0, .ref h0), (1, .int p1)] := hl
  refine lv_aload_n hx hb dX12_bows_0 rfl (lv_at hl 0 rfl) ?_
  refine lv_iload_n hx hb dX12_bows_1 rfl (lv_at hl 1 rfl) ?_
  refine rvi (C := RX12) (As := [.int p1]) (rest := []) ⟨hx, hb, hml, hown, hts⟩ (t_X12_isPipe l D k u0 hu h0 m_h0 k_h0 p1) (cwV 1 hts gX12_bows_X12_isPipe rfl rfl rfl (by decide +kernel) ⟨Nat.le_of_ble_eq_true rfl, Nat.le_of_ble_eq_true rfl⟩) hP hK (precv hK hP m_h0 (cF12 k_h0) rfl) rfl hl.1 rfl (Nat.le_of_ble_eq_true rfl) dX12_bows_2 ⟨Nat.le_of_ble_eq_true rfl, Nat.le_of_ble_eq_true rfl⟩ (fun r1 hr1 => ?_)
  refine lv_if_eq (tgt := 16) hx hb dX12_bows_5 (by decide) (fun c2 => ?_) (fun c2 => ?_)
  · have eb3 : r1.toInt = 0 := by rcases hr1 with q | ⟨q, -⟩; exact q; (exact absurd (c2) (fun w => by rw [w] at q; exact absurd q (by decide)))
    clear hr1
    refine lv_bipush (v := (-2)) hx hb dX12_bows_16 (by decide) ?_
    exact W.iret (v := (-2)) hx hb hr (fun t ht hW => ⟨⟨(-2), u0, rfl, ⟨hu, hp, trivial⟩, by rw [ht]; exact hP, hD⟩, hS.F ht⟩) hS.2.2 dX12_bows_18
  · have eb4 : r1.toInt = 1 := by rcases hr1 with q | ⟨q, -⟩; exact absurd (i_eq.mpr q) c2; exact q
    have fb4 : 0 ≤ p1.toInt ∧ p1.toInt ≤ 11 := by rcases hr1 with q | ⟨q, r⟩; exact absurd q (by omega); exact r
    clear hr1
    refine lv_aload_n hx hb dX12_bows_8 rfl (lv_at hl 0 rfl) ?_
    refine lv_iload_n hx hb dX12_bows_9 rfl (lv_at hl 1 rfl) ?_
    refine wiV (C := RX12) (As := [.int p1]) (rest := []) ⟨hx, hb, hml, hown, hts⟩ (fun sz => t_X12_bowsOf l D k u0 hu h0 m_h0 k_h0 p1 (by (try simp only [i_lt, i_le, i_eq, Int32.toInt_toInt64, Int32.reduceToInt, Int64.reduceToInt, true_and, and_true, false_and, and_false, false_or, or_false, true_or, or_true, not_true_eq_false, not_false_eq_true, ne_eq, forall_const, true_implies, false_implies, implies_true] at eb4 fb4 ⊢) <;> omega) sz) (cwV 1 hts gX12_bows_X12_bowsOf rfl rfl rfl (by decide +kernel) ⟨Nat.le_of_ble_eq_true rfl, Nat.le_of_ble_eq_true rfl⟩) hP hK hD hN hS hA (precv hK hP m_h0 (cF12 k_h0) rfl) rfl hl.1 rfl (Nat.le_of_ble_eq_true rfl) dX12_bows_10 ⟨Nat.le_of_ble_eq_true rfl, Nat.le_of_ble_eq_true rfl⟩ (fun r5 u6 H locs hqu6 hP hD hS => ?_)
    obtain ⟨hu, hxu6, hr5⟩ := hqu6
    have hp := PX.trans hp hxu6
    refine lv_goto (tgt := 18) hx hb dX12_bows_13 (by decide) ?_
    exact W.iret (v := r5) hx hb hr (fun t ht hW => ⟨⟨r5, u6, rfl, ⟨hu, hp, trivial⟩, by rw [ht]; exact hP, hD⟩, hS.F ht⟩) hS.2.2 dX12_bows_18
set_option maxHeartbeats 4000000 in
set_option maxRecDepth 100000 in
theorem t_X12_goesBy (l : Launch) (D : va_G) (k : Nat → ClassId) (u0 : PSt) (hu : WT u0) (h0 : Nat) (m_h0 : h0 ∈ u0.1) (k_h0 : u0.2.1 h0 = 12) (p1 : Int32) (p2 : Int32) (g_p1 : 0 ≤ p1.toInt ∧ p1.toInt ≤ 11) (sz : Nat) : Met l yX12_goesBy wsX12_goesBy ({ frames := 6, cells := 0, slots := 0, locals := 146 }) (PreM D k sz (PW k u0) [.ref h0, .int p1, .int p2]) (va_Qi (fun r v => WT v ∧ PX u0 v ∧ (True)) (WB D (va_A (PW k u0) sz) (PW k)) (va_A (PW k u0) sz)) 0 0 (va_A (PW k u0) sz) := by
  refine Met.ofW (cc := cX12_goesBy) (maxL := 5) (ret := (some .int)) (by decide) rfl ?_
  intro p e s m args below meth c s₁ B hml hv
  obtain ⟨rfl, hsz, hP, hK, hD0, hN⟩ := hv
  have hx := B.exec
  have hb := B.bytes
  have hr := B.returns
  have hts := atoms_spec (ws := wsX12_goesBy) B.pre
  have hown : s.vm.findClass RX12 = some m.cls := findClass_of_methodNamed B.named
  have hlocks := B.notSynchronized
  have i_X12 : ∀ w ∈ wsX120, w ∈ wsX12_goesBy := by decide +kernel
  obtain ⟨a22, q0_22, m0_a22, k0_a22⟩ := (hu h0 m_h0).1 22 57 (by rw [k_h0]; rfl)
  obtain ⟨a24, q0_24, m0_a24, k0_a24⟩ := (hu h0 m_h0).1 24 58 (by rw [k_h0]; rfl)
  have m0_h0 := m_h0
  have k0_h0 := k_h0
  have m_a22 := m0_a22
  have m_a24 := m0_a24
  have k_a22 := k0_a22
  have k_a24 := k0_a24
  subst hsz
  have hD := hD0.self (sz := s.heap.size)
  generalize hAe : va_A (PW k u0) s.heap.size = A at hD ⊢
  have hA : ∀ q : Nat, s.heap.size ≤ q → A q := fun q h => by rw [← hAe]; exact Or.inr h
  have hS : va_S A s.heap s.heap [] := va_S.rf
  have hp : PX u0 u0 := PX.rf
  have B11 : ∀ (n11 : Nat) (u : PSt) (H : Heap) (locs : List Loc) (ls : Array Slot) (v1 : Int32) (v3 : Int32) (v4 : Int32), WT u → PX u0 u → va_P D vwCl (PW k u) H → va_D A (PW k u) → va_S A s.heap H locs → (2147483648 - v4.toInt).toNat ≤ n11 → 0 ≤ v1.toInt ∧ v1.toInt ≤ 11 → v3.toInt ≤ 2147483646 → 0 ≤ v4.toInt ∧ v4.toInt ≤ 2000 → lv_has ls 5 [(0, .ref h0), (1, .int v1), (3, .int v3), (4, .int v4)] → W p l e (headSpec wsX12_goesBy ({ frames := 6, cells := 0, slots := 0, locals := 146 })).room s m ([.ref h0, .int p1, .int p2] : List Value).toArray below meth c H locs 0 0 (MQ below (va_Qi (fun r v => WT v ∧ PX u0 v ∧ (True)) (WB D A (PW k)) A) ([.ref h0, .int p1, .int p2] : List Value).toArray s 0 0 A) (F0 m 11 ls []) := by
    intro n11
    induction n11 with
    | zero =>
      intro u H locs ls v1 v3 v4 hu hp hP hD hS hn11 g_v1 g_v3 g_v4 hl
      exact absurd hn11 (by have := Int32.toInt_lt v4; have := Int32.le_toInt v4; omega)
    | succ n11 ih11 =>
      intro u H locs ls v1 v3 v4 hu hp hP hD hS hn11 g_v1 g_v3 g_v4 hl
      refine lv_iload hx hb dX12_goesBy_11 (lv_at hl 3 rfl) ?_
      refine lv_aload_n hx hb dX12_goesBy_13 rfl (lv_at hl 0 rfl) ?_
      have k_h0 : u.2.1 h0 = 12 := (hp h0 m0_h0).2.1.trans k0_h0
      have m_h0 : h0 ∈ u.1 := (hp h0 m0_h0).1
      refine pget (ci := 12) (v := .int (u.2.2.1 h0 23)) (C := RX12) (T := TX12) (N := 34) hx hb hts i_X12 hown hK hP m_h0 (cF12 k_h0) rfl 23 (by decide) (hts (.fieldLink RX12 362 "BellowsRowModel" "many" "I") (by decide +kernel)) (fun _ h9 => h9) rfl dX12_goesBy_14 ?_
      have g1 := (hu h0 m_h0).2.2.2 23
      rw [k_h0] at g1
      replace g1 : 0 ≤ (u.2.2.1 h0 23).toInt ∧ (u.2.2.1 h0 23).toInt ≤ 2000 := g1
      refine lv_icmp_ge (tgt := 81) hx hb dX12_goesBy_17 (by decide) (fun c2 => ?_) (fun c2 => ?_)
      · refine lv_iconst (v := (-1)) hx hb dX12_goesBy_81 (by decide) ?_
        exact W.iret (v := (-1)) hx hb hr (fun t ht hW => ⟨⟨(-1), u, rfl, ⟨hu, hp, trivial⟩, by rw [ht]; exact hP, hD⟩, hS.F ht⟩) hS.2.2 dX12_goesBy_82
      · refine lv_iload_n hx hb dX12_goesBy_20 rfl (lv_at hl 2 rfl) ?_
        refine lv_aload_n hx hb dX12_goesBy_21 rfl (lv_at hl 0 rfl) ?_
        refine lv_iload hx hb dX12_goesBy_22 (lv_at hl 3 rfl) ?_
        refine rvi (C := RX12) (As := [.int v4]) (rest := [.int v3]) ⟨hx, hb, hml, hown, hts⟩ (t_X12_wearIn l D k u hu h0 m_h0 k_h0 v4 (by (try simp only [i_lt, i_le, i_eq, Int32.toInt_toInt64, Int32.reduceToInt, Int64.reduceToInt, true_and, and_true, false_and, and_false, false_or, or_false, true_or, or_true, not_true_eq_false, not_false_eq_true, ne_eq, forall_const, true_implies, false_implies, implies_true] at g_v1 g_v3 g_v4 hn11 g1 c2 ⊢) <;> omega)) (cwV 1 hts gX12_goesBy_X12_wearIn rfl rfl rfl (by decide +kernel) ⟨Nat.le_of_ble_eq_true rfl, Nat.le_of_ble_eq_true rfl⟩) hP hK (precv hK hP m_h0 (cF12 k_h0) rfl) rfl hl.1 rfl (Nat.le_of_ble_eq_true rfl) dX12_goesBy_24 ⟨Nat.le_of_ble_eq_true rfl, Nat.le_of_ble_eq_true rfl⟩ (fun r3 hr3 => ?_)
        refine lv_iadd hx hb dX12_goesBy_27 ?_
        refine lv_topi (fun x4 ex4 => ?_)
        refine lv_istore_n (lv' := [(3, .int x4), (0, .ref h0), (1, .int v1), (4, .int v4)]) hx hb dX12_goesBy_28 rfl hl (by decide) rfl (fun ls hl => ?_)
        refine lv_aload_n hx hb dX12_goesBy_29 rfl (lv_at hl 1 rfl) ?_
        refine lv_aload_n hx hb dX12_goesBy_30 rfl (lv_at hl 1 rfl) ?_
        have k_a24 : u.2.1 a24 = 58 := (hp a24 m0_a24).2.1.trans k0_a24
        have m_a24 : a24 ∈ u.1 := (hp a24 m0_a24).1
        refine pget (ci := 12) (v := va_rf (u.2.2.2.2 h0 24)) (C := RX12) (T := TX12) (N := 34) hx hb hts i_X12 hown hK hP m_h0 (cF12 k_h0) rfl 24 (by decide) (hts (.fieldLink RX12 52 "BellowsRowModel" "loads" "[I") (by decide +kernel)) (fun _ h9 => h9) rfl dX12_goesBy_31 ?_
        refine W.eq (g2 := F0 m 34 ls [.ref a24, .ref h0]) (by rw [(((hp h0 m0_h0).2.2.2.2.2.1 k0_h0 24).trans q0_24)]; rfl) ?_
        refine lv_aload_n hx hb dX12_goesBy_34 rfl (lv_at hl 1 rfl) ?_
        have k_a22 : u.2.1 a22 = 57 := (hp a22 m0_a22).2.1.trans k0_a22
        have m_a22 : a22 ∈ u.1 := (hp a22 m0_a22).1
        refine pget (ci := 12) (v := va_rf (u.2.2.2.2 h0 22)) (C := RX12) (T := TX12) (N := 34) hx hb hts i_X12 hown hK hP m_h0 (cF12 k_h0) rfl 22 (by decide) (hts (.fieldLink RX12 49 "BellowsRowModel" "presses" "[I") (by decide +kernel)) (fun _ h9 => h9) rfl dX12_goesBy_35 ?_
        refine W.eq (g2 := F0 m 38 ls [.ref a22, .ref a24, .ref h0]) (by rw [(((hp h0 m0_h0).2.2.2.2.2.1 k0_h0 22).trans q0_22)]; rfl) ?_
        refine lv_iload hx hb dX12_goesBy_38 (lv_at hl 3 rfl) ?_
        refine palI hx hb hK hP m_a22 (cF57 k_a22) 1 rfl (vp_in_iff.mpr (by (try simp only [i_lt, i_le, i_eq, Int32.toInt_toInt64, Int32.reduceToInt, Int64.reduceToInt, true_and, and_true, false_and, and_false, false_or, or_false, true_or, or_true, not_true_eq_false, not_false_eq_true, ne_eq, forall_const, true_implies, false_implies, implies_true] at g_v1 g_v3 g_v4 hn11 g1 c2 ⊢) <;> omega)) dX12_goesBy_40 ?_
        refine lv_topi (fun x5 ex5 => ?_)
        have tx5 : x5.toInt = (u.2.2.1 a22 (v4.toNatClampNeg)).toInt := congrArg Int32.toInt ex5
        have g6 : 0 ≤ x5.toInt ∧ x5.toInt ≤ 999 := by have g := (hu a22 m_a22).2.2.2 (v4.toNatClampNeg); rw [k_a22] at g; rw [show x5 = _ from ex5]; exact g
        refine palI hx hb hK hP m_a24 (cF58 k_a24) 1 rfl (vp_in_iff.mpr (by (try simp only [i_lt, i_le, i_eq, Int32.toInt_toInt64, Int32.reduceToInt, Int64.reduceToInt, true_and, and_true, false_and, and_false, false_or, or_false, true_or, or_true, not_true_eq_false, not_false_eq_true, ne_eq, forall_const, true_implies, false_implies, implies_true] at g_v1 g_v3 g_v4 hn11 g1 c2 tx5 g6 ⊢) <;> omega)) dX12_goesBy_41 ?_
        refine lv_topi (fun x7 ex7 => ?_)
        have tx7 : x7.toInt = (u.2.2.1 a24 (x5.toNatClampNeg)).toInt := congrArg Int32.toInt ex7
        refine lv_bipush (v := 100) hx hb dX12_goesBy_42 (by decide) ?_
        refine lv_icmp_le (tgt := 51) hx hb dX12_goesBy_44 (by decide) (fun c8 => ?_) (fun c8 => ?_)
        · refine lv_iconst (v := 1) hx hb dX12_goesBy_51 (by decide) ?_
          refine pput (u' := pSI u h0 25 1) (ci := 12) (v := .int 1) (ty := .int) (C := RX12) (T := TX12) (N := 34) hx hb hts i_X12 tyX12 tyX12_ok nmX12 hown hK hP hD hS m_h0 (cF12 k_h0) rfl 25 (by decide) (hts (.fieldLink RX12 375 "BellowsRowModel" "byWear" "I") (by decide +kernel)) (fun _ h9 => h9) rfl (by decide +kernel) rfl rfl (Nat.le_of_ble_eq_true rfl) rfl (sF12_25 k_h0 1) dX12_goesBy_52 (fun H locs hP hD hS => ?_)
          have hu := WT.setI (a := h0) (s := 25) (v := 1) hu (by rw [k_h0]; exact trivial)
          have hp := PX.setI (a := h0) (s := 25) (v := 1) hp (by rw [k_h0]; decide)
          obtain ⟨u9, hu9⟩ : ∃ z, z = pSI u h0 25 1 := ⟨_, rfl⟩
          rw [← hu9] at hP hD hu hp
          have w10 : (u9.2.2.1 h0 23).toInt = (u.2.2.1 h0 23).toInt := by rw [hu9]; exact congrArg Int32.toInt (if_neg (fun q => absurd q.2 (by decide)))
          refine lv_aload_n hx hb dX12_goesBy_55 rfl (lv_at hl 1 rfl) ?_
          have k_h0 : u9.2.1 h0 = 12 := (hp h0 m0_h0).2.1.trans k0_h0
          have m_h0 : h0 ∈ u9.1 := (hp h0 m0_h0).1
          refine pget (ci := 12) (v := .int (u9.2.2.1 h0 25)) (C := RX12) (T := TX12) (N := 34) hx hb hts i_X12 hown hK hP m_h0 (cF12 k_h0) rfl 25 (by decide) (hts (.fieldLink RX12 375 "BellowsRowModel" "byWear" "I") (by decide +kernel)) (fun _ h9 => h9) rfl dX12_goesBy_56 ?_
          refine lv_if_eq (tgt := 72) hx hb dX12_goesBy_59 (by decide) (fun c11 => ?_) (fun c11 => ?_)
          · refine lv_iload hx hb dX12_goesBy_72 (lv_at hl 3 rfl) ?_
            exact W.iret (v := v4) hx hb hr (fun t ht hW => ⟨⟨v4, u9, rfl, ⟨hu, hp, trivial⟩, by rw [ht]; exact hP, hD⟩, hS.F ht⟩) hS.2.2 dX12_goesBy_74
          · refine lv_iload_n hx hb dX12_goesBy_62 rfl (lv_at hl 0 rfl) ?_
            refine lv_aload_n hx hb dX12_goesBy_63 rfl (lv_at hl 1 rfl) ?_
            refine lv_iload_n hx hb dX12_goesBy_64 rfl (lv_at hl 2 rfl) ?_
            refine lv_iconst (v := 5) hx hb dX12_goesBy_65 (by decide) ?_
            refine rvi (C := RX12) (As := [.int v1, .int 5]) (rest := [.int x4]) ⟨hx, hb, hml, hown, hts⟩ (t_X12_ofPipe l D k u9 hu h0 m_h0 k_h0 v1 5 (by (try simp only [i_lt, i_le, i_eq, Int32.toInt_toInt64, Int32.reduceToInt, Int64.reduceToInt, true_and, and_true, false_and, and_false, false_or, or_false, true_or, or_true, not_true_eq_false, not_false_eq_true, ne_eq, forall_const, true_implies, false_implies, implies_true] at g_v1 g_v3 g_v4 hn11 g1 c2 tx5 g6 tx7 c8 w10 ⊢) <;> omega) (by decide)) (cwV 2 hts gX12_goesBy_X12_ofPipe rfl rfl rfl (by decide +kernel) ⟨Nat.le_of_ble_eq_true rfl, Nat.le_of_ble_eq_true rfl⟩) hP hK (precv hK hP m_h0 (cF12 k_h0) rfl) rfl hl.1 rfl (Nat.le_of_ble_eq_true rfl) dX12_goesBy_66 ⟨Nat.le_of_ble_eq_true rfl, Nat.le_of_ble_eq_true rfl⟩ (fun r12 hr12 => ?_)
            clear hr12
            refine lv_icmp_lt (tgt := 75) hx hb dX12_goesBy_69 (by decide) (fun c13 => ?_) (fun c13 => ?_)
            · have b14 := Int32.toInt_lt x4
              have b15 := Int32.toInt_lt r12
              obtain ⟨x16, ex16⟩ : ∃ y : Int32, y = v4 + 1 := ⟨_, rfl⟩
              have tx16 : x16.toInt = v4.toInt + 1 := by rw [ex16]; exact i_add (b := 1) (by (try simp only [i_lt, i_le, i_eq, Int32.toInt_toInt64, Int32.reduceToInt, Int64.reduceToInt, true_and, and_true, false_and, and_false, false_or, or_false, true_or, or_true, not_true_eq_false, not_false_eq_true, ne_eq, forall_const, true_implies, false_implies, implies_true] at g_v1 g_v3 g_v4 hn11 g1 c2 tx5 g6 tx7 c8 w10 c13 b14 b15 ⊢) <;> omega) (by (try simp only [i_lt, i_le, i_eq, Int32.toInt_toInt64, Int32.reduceToInt, Int64.reduceToInt, true_and, and_true, false_and, and_false, false_or, or_false, true_or, or_true, not_true_eq_false, not_false_eq_true, ne_eq, forall_const, true_implies, false_implies, implies_true] at g_v1 g_v3 g_v4 hn11 g1 c2 tx5 g6 tx7 c8 w10 c13 b14 b15 ⊢) <;> omega)
              refine lv_iinc (v := x16) (lv' := [(4, .int x16), (3, .int x4), (0, .ref h0), (1, .int v1)]) hx hb dX12_goesBy_75 hl (k := 3) rfl (by rw [ex16]; rfl) (by decide) rfl (fun ls hl => ?_)
              refine lv_goto (tgt := 11) hx hb dX12_goesBy_78 (by decide) ?_
              exact ih11 _ _ _ ls v1 x4 x16 hu hp hP hD hS (by (try simp only [i_lt, i_le, i_eq, Int32.toInt_toInt64, Int32.reduceToInt, Int64.reduceToInt, true_and, and_true, false_and, and_false, false_or, or_false, true_or, or_true, not_true_eq_false, not_false_eq_true, ne_eq, forall_const, true_implies, false_implies, implies_true] at g_v1 g_v3 g_v4 hn11 g1 c2 tx5 g6 tx7 c8 w10 c13 b14 b15 tx16 ⊢) <;> omega) (by (try simp only [i_lt, i_le, i_eq, Int32.toInt_toInt64, Int32.reduceToInt, Int64.reduceToInt, true_and, and_true, false_and, and_false, false_or, or_false, true_or, or_true, not_true_eq_false, not_false_eq_true, ne_eq, forall_const, true_implies, false_implies, implies_true] at g_v1 g_v3 g_v4 hn11 g1 c2 tx5 g6 tx7 c8 w10 c13 b14 b15 tx16 ⊢) <;> omega) (by (try simp only [i_lt, i_le, i_eq, Int32.toInt_toInt64, Int32.reduceToInt, Int64.reduceToInt, true_and, and_true, false_and, and_false, false_or, or_false, true_or, or_true, not_true_eq_false, not_false_eq_true, ne_eq, forall_const, true_implies, false_implies, implies_true] at g_v1 g_v3 g_v4 hn11 g1 c2 tx5 g6 tx7 c8 w10 c13 b14 b15 tx16 ⊢) <;> omega) (by (try simp only [i_lt, i_le, i_eq, Int32.toInt_toInt64, Int32.reduceToInt, Int64.reduceToInt, true_and, and_true, false_and, and_false, false_or, or_false, true_or, or_true, not_true_eq_false, not_false_eq_true, ne_eq, forall_const, true_implies, false_implies, implies_true] at g_v1 g_v3 g_v4 hn11 g1 c2 tx5 g6 tx7 c8 w10 c13 b14 b15 tx16 ⊢) <;> omega) (lv_sub hl [2, 3, 1, 0] rfl)
            · have b17 := Int32.toInt_lt x4
              have b18 := Int32.toInt_lt r12
              refine lv_iload hx hb dX12_goesBy_72 (lv_at hl 3 rfl) ?_
              exact W.iret (v := v4) hx hb hr (fun t ht hW => ⟨⟨v4, u9, rfl, ⟨hu, hp, trivial⟩, by rw [ht]; exact hP, hD⟩, hS.F ht⟩) hS.2.2 dX12_goesBy_74
        · refine lv_iconst (v := 0) hx hb dX12_goesBy_47 (by decide) ?_
          refine lv_goto (tgt := 52) hx hb dX12_goesBy_48 (by decide) ?_
          refine pput (u' := pSI u h0 25 0) (ci := 12) (v := .int 0) (ty := .int) (C := RX12) (T := TX12) (N := 34) hx hb hts i_X12 tyX12 tyX12_ok nmX12 hown hK hP hD hS m_h0 (cF12 k_h0) rfl 25 (by decide) (hts (.fieldLink RX12 375 "BellowsRowModel" "byWear" "I") (by decide +kernel)) (fun _ h9 => h9) rfl (by decide +kernel) rfl rfl (Nat.le_of_ble_eq_true rfl) rfl (sF12_25 k_h0 0) dX12_goesBy_52 (fun H locs hP hD hS => ?_)
          have hu := WT.setI (a := h0) (s := 25) (v := 0) hu (by rw [k_h0]; exact trivial)
          have hp := PX.setI (a := h0) (s := 25) (v := 0) hp (by rw [k_h0]; decide)
          obtain ⟨u19, hu19⟩ : ∃ z, z = pSI u h0 25 0 := ⟨_, rfl⟩
          rw [← hu19] at hP hD hu hp
          have w20 : (u19.2.2.1 h0 23).toInt = (u.2.2.1 h0 23).toInt := by rw [hu19]; exact congrArg Int32.toInt (if_neg (fun q => absurd q.2 (by decide)))
          refine lv_aload_n hx hb dX12_goesBy_55 rfl (lv_at hl 1 rfl) ?_
          have k_h0 : u19.2.1 h0 = 12 := (hp h0 m0_h0).2.1.trans k0_h0
          have m_h0 : h0 ∈ u19.1 := (hp h0 m0_h0).1
          refine pget (ci := 12) (v := .int (u19.2.2.1 h0 25)) (C := RX12) (T := TX12) (N := 34) hx hb hts i_X12 hown hK hP m_h0 (cF12 k_h0) rfl 25 (by decide) (hts (.fieldLink RX12 375 "BellowsRowModel" "byWear" "I") (by decide +kernel)) (fun _ h9 => h9) rfl dX12_goesBy_56 ?_
          refine lv_if_eq (tgt := 72) hx hb dX12_goesBy_59 (by decide) (fun c21 => ?_) (fun c21 => ?_)
          · refine lv_iload hx hb dX12_goesBy_72 (lv_at hl 3 rfl) ?_
            exact W.iret (v := v4) hx hb hr (fun t ht hW => ⟨⟨v4, u19, rfl, ⟨hu, hp, trivial⟩, by rw [ht]; exact hP, hD⟩, hS.F ht⟩) hS.2.2 dX12_goesBy_74
          · refine lv_iload_n hx hb dX12_goesBy_62 rfl (lv_at hl 0 rfl) ?_
            refine lv_aload_n hx hb dX12_goesBy_63 rfl (lv_at hl 1 rfl) ?_
            refine lv_iload_n hx hb dX12_goesBy_64 rfl (lv_at hl 2 rfl) ?_
            refine lv_iconst (v := 5) hx hb dX12_goesBy_65 (by decide) ?_
            refine rvi (C := RX12) (As := [.int v1, .int 5]) (rest := [.int x4]) ⟨hx, hb, hml, hown, hts⟩ (t_X12_ofPipe l D k u19 hu h0 m_h0 k_h0 v1 5 (by (try simp only [i_lt, i_le, i_eq, Int32.toInt_toInt64, Int32.reduceToInt, Int64.reduceToInt, true_and, and_true, false_and, and_false, false_or, or_false, true_or, or_true, not_true_eq_false, not_false_eq_true, ne_eq, forall_const, true_implies, false_implies, implies_true] at g_v1 g_v3 g_v4 hn11 g1 c2 tx5 g6 tx7 c8 w20 ⊢) <;> omega) (by decide)) (cwV 2 hts gX12_goesBy_X12_ofPipe rfl rfl rfl (by decide +kernel) ⟨Nat.le_of_ble_eq_true rfl, Nat.le_of_ble_eq_true rfl⟩) hP hK (precv hK hP m_h0 (cF12 k_h0) rfl) rfl hl.1 rfl (Nat.le_of_ble_eq_true rfl) dX12_goesBy_66 ⟨Nat.le_of_ble_eq_true rfl, Nat.le_of_ble_eq_true rfl⟩ (fun r22 hr22 => ?_)
            clear hr22
            refine lv_icmp_lt (tgt := 75) hx hb dX12_goesBy_69 (by decide) (fun c23 => ?_) (fun c23 => ?_)
            · have b24 := Int32.toInt_lt x4
              have b25 := Int32.toInt_lt r22
              obtain ⟨x26, ex26⟩ : ∃ y : Int32, y = v4 + 1 := ⟨_, rfl⟩
              have tx26 : x26.toInt = v4.toInt + 1 := by rw [ex26]; exact i_add (b := 1) (by (try simp only [i_lt, i_le, i_eq, Int32.toInt_toInt64, Int32.reduceToInt, Int64.reduceToInt, true_and, and_true, false_and, and_false, false_or, or_false, true_or, or_true, not_true_eq_false, not_false_eq_true, ne_eq, forall_const, true_implies, false_implies, implies_true] at g_v1 g_v3 g_v4 hn11 g1 c2 tx5 g6 tx7 c8 w20 c23 b24 b25 ⊢) <;> omega) (by (try simp only [i_lt, i_le, i_eq, Int32.toInt_toInt64, Int32.reduceToInt, Int64.reduceToInt, true_and, and_true, false_and, and_false, false_or, or_false, true_or, or_true, not_true_eq_false, not_false_eq_true, ne_eq, forall_const, true_implies, false_implies, implies_true] at g_v1 g_v3 g_v4 hn11 g1 c2 tx5 g6 tx7 c8 w20 c23 b24 b25 ⊢) <;> omega)
              refine lv_iinc (v := x26) (lv' := [(4, .int x26), (3, .int x4), (0, .ref h0), (1, .int v1)]) hx hb dX12_goesBy_75 hl (k := 3) rfl (by rw [ex26]; rfl) (by decide) rfl (fun ls hl => ?_)
              refine lv_goto (tgt := 11) hx hb dX12_goesBy_78 (by decide) ?_
              exact ih11 _ _ _ ls v1 x4 x26 hu hp hP hD hS (by (try simp only [i_lt, i_le, i_eq, Int32.toInt_toInt64, Int32.reduceToInt, Int64.reduceToInt, true_and, and_true, false_and, and_false, false_or, or_false, true_or, or_true, not_true_eq_false, not_false_eq_true, ne_eq, forall_const, true_implies, false_implies, implies_true] at g_v1 g_v3 g_v4 hn11 g1 c2 tx5 g6 tx7 c8 w20 c23 b24 b25 tx26 ⊢) <;> omega) (by (try simp only [i_lt, i_le, i_eq, Int32.toInt_toInt64, Int32.reduceToInt, Int64.reduceToInt, true_and, and_true, false_and, and_false, false_or, or_false, true_or, or_true, not_true_eq_false, not_false_eq_true, ne_eq, forall_const, true_implies, false_implies, implies_true] at g_v1 g_v3 g_v4 hn11 g1 c2 tx5 g6 tx7 c8 w20 c23 b24 b25 tx26 ⊢) <;> omega) (by (try simp only [i_lt, i_le, i_eq, Int32.toInt_toInt64, Int32.reduceToInt, Int64.reduceToInt, true_and, and_true, false_and, and_false, false_or, or_false, true_or, or_true, not_true_eq_false, not_false_eq_true, ne_eq, forall_const, true_implies, false_implies, implies_true] at g_v1 g_v3 g_v4 hn11 g1 c2 tx5 g6 tx7 c8 w20 c23 b24 b25 tx26 ⊢) <;> omega) (by (try simp only [i_lt, i_le, i_eq, Int32.toInt_toInt64, Int32.reduceToInt, Int64.reduceToInt, true_and, and_true, false_and, and_false, false_or, or_false, true_or, or_true, not_true_eq_false, not_false_eq_true, ne_eq, forall_const, true_implies, false_implies, implies_true] at g_v1 g_v3 g_v4 hn11 g1 c2 tx5 g6 tx7 c8 w20 c23 b24 b25 tx26 ⊢) <;> omega) (lv_sub hl [2, 3, 1, 0] rfl)
            · have b27 := Int32.toInt_lt x4
              have b28 := Int32.toInt_lt r22
              refine lv_iload hx hb dX12_goesBy_72 (lv_at hl 3 rfl) ?_
              exact W.iret (v := v4) hx hb hr (fun t ht hW => ⟨⟨v4, u19, rfl, ⟨hu, hp, trivial⟩, by rw [ht]; exact hP, hD⟩, hS.F ht⟩) hS.2.2 dX12_goesBy_74
  have hl := lv_entry ([.ref h0, .int p1, .int p2]) (n := 5) (Nat.le_of_ble_eq_true rfl)
  rw [lg_entry_eq]
  generalize (lg_sl ([.ref h0, .int p1, .int p2]) ++ List.replicate (5 - (lg_sl ([.ref h0, .int p1, .int p2])).length) Slot.unset).toArray = ls at hl ⊢
  have hl : lv_has ls 5 [(0, .ref h0), (1, .int p1), (2, .int p2)] := hl
  refine lv_aload_n hx hb dX12_goesBy_0 rfl (lv_at hl 0 rfl) ?_
  refine lv_iload_n hx hb dX12_goesBy_1 rfl (lv_at hl 1 rfl) ?_
  refine lv_iload_n hx hb dX12_goesBy_2 rfl (lv_at hl 2 rfl) ?_
  refine wvV (C := RX12) (As := [.int p1, .int p2]) (rest := []) ⟨hx, hb, hml, hown, hts⟩ (fun sz => t_X12_laysLoads l D k u0 hu h0 m_h0 k_h0 p1 p2 (by (try simp only [i_lt, i_le, i_eq, Int32.toInt_toInt64, Int32.reduceToInt, Int64.reduceToInt, true_and, and_true, false_and, and_false, false_or, or_false, true_or, or_true, not_true_eq_false, not_false_eq_true, ne_eq, forall_const, true_implies, false_implies, implies_true] at g_p1 ⊢) <;> omega) sz) (cwV 2 hts gX12_goesBy_X12_laysLoads rfl rfl rfl (by decide +kernel) ⟨Nat.le_of_ble_eq_true rfl, Nat.le_of_ble_eq_true rfl⟩) hP hK hD hN hS hA (precv hK hP m_h0 (cF12 k_h0) rfl) rfl hl.1 rfl (Nat.le_of_ble_eq_true rfl) dX12_goesBy_3 ⟨Nat.le_of_ble_eq_true rfl, Nat.le_of_ble_eq_true rfl⟩ (fun u30 H locs hqu30 hP hD hS => ?_)
  obtain ⟨hu, hxu30, hr29⟩ := hqu30
  have hp := PX.trans hp hxu30
  refine lv_iconst (v := 0) hx hb dX12_goesBy_6 (by decide) ?_
  refine lv_istore_n (lv' := [(3, .int 0), (0, .ref h0), (1, .int p1), (2, .int p2)]) hx hb dX12_goesBy_7 rfl hl (by decide) rfl (fun ls hl => ?_)
  refine lv_iconst (v := 0) hx hb dX12_goesBy_8 (by decide) ?_
  refine lv_istore (lv' := [(4, .int 0), (3, .int 0), (0, .ref h0), (1, .int p1), (2, .int p2)]) hx hb dX12_goesBy_9 hl (by decide) rfl (fun ls hl => ?_)
  exact B11 _ _ _ _ ls p1 0 0 hu hp hP hD hS (Nat.le_refl _) (by (try simp only [i_lt, i_le, i_eq, Int32.toInt_toInt64, Int32.reduceToInt, Int64.reduceToInt, true_and, and_true, false_and, and_false, false_or, or_false, true_or, or_true, not_true_eq_false, not_false_eq_true, ne_eq, forall_const, true_implies, false_implies, implies_true] at g_p1 ⊢) <;> omega) (by (try simp only [i_lt, i_le, i_eq, Int32.toInt_toInt64, Int32.reduceToInt, Int64.reduceToInt, true_and, and_true, false_and, and_false, false_or, or_false, true_or, or_true, not_true_eq_false, not_false_eq_true, ne_eq, forall_const, true_implies, false_implies, implies_true] at g_p1 ⊢) <;> omega) (by (try simp only [i_lt, i_le, i_eq, Int32.toInt_toInt64, Int32.reduceToInt, Int64.reduceToInt, true_and, and_true, false_and, and_false, false_or, or_false, true_or, or_true, not_true_eq_false, not_false_eq_true, ne_eq, forall_const, true_implies, false_implies, implies_true] at g_p1 ⊢) <;> omega) (lv_sub hl [2, 3, 1, 0] rfl)
set_option maxHeartbeats 4000000 in
set_option maxRecDepth 100000 in
theorem t_X12_goesOf (l : Launch) (D : va_G) (k : Nat → ClassId) (u0 : PSt) (hu : WT u0) (h0 : Nat) (m_h0 : h0 ∈ u0.1) (k_h0 : u0.2.1 h0 = 12) (p1 : Int32) (g_p1 : 0 ≤ p1.toInt ∧ p1.toInt ≤ 11) (sz : Nat) : Met l yX12_goesOf wsX12_goesOf ({ frames := 7, cells := 0, slots := 0, locals := 170 }) (PreM D k sz (PW k u0) [.ref h0, .int p1]) (va_Qi (fun r v => WT v ∧ PX u0 v ∧ (True)) (WB D (va_A (PW k u0) sz) (PW k)) (va_A (PW k u0) sz)) 0 0 (va_A (PW k u0) sz) := by
  refine Met.ofW (cc := cX12_goesOf) (maxL := 2) (ret := (some .int)) (by decide) rfl ?_
  intro p e s m args below meth c s₁ B hml hv
  obtain ⟨rfl, hsz, hP, hK, hD0, hN⟩ := hv
  have hx := B.exec
  have hb := B.bytes
  have hr := B.returns
  have hts := atoms_spec (ws := wsX12_goesOf) B.pre
  have hown : s.vm.findClass RX12 = some m.cls := findClass_of_methodNamed B.named
  have hlocks := B.notSynchronized
  have m0_h0 := m_h0
  have k0_h0 := k_h0
  subst hsz
  have hD := hD0.self (sz := s.heap.size)
  generalize hAe : va_A (PW k u0) s.heap.size = A at hD ⊢
  have hA : ∀ q : Nat, s.heap.size ≤ q → A q := fun q h => by rw [← hAe]; exact Or.inr h
  have hS : va_S A s.heap s.heap [] := va_S.rf
  have hp : PX u0 u0 := PX.rf
  have hl := lv_entry ([.ref h0, .int p1]) (n := 2) (Nat.le_of_ble_eq_true rfl)
  rw [lg_entry_eq]
  generalize (lg_sl ([.ref h0, .int p1]) ++ List.replicate (2 - (lg_sl ([.ref h0, .int p1])).length) Slot.unset).toArray = ls at hl ⊢
  have hl : lv_has ls 2 [(0, .ref h0), (1, .int p1)] := hl
  refine lv_aload_n hx hb dX12_goesOf_0 rfl (lv_at hl 0 rfl) ?_
  refine lv_iconst (v := 0) hx hb dX12_goesOf_1 (by decide) ?_
  refine wvV (C := RX12) (As := [.int 0]) (rest := []) ⟨hx, hb, hml, hown, hts⟩ (fun sz => t_X12_lays l D k u0 hu h0 m_h0 k_h0 0 sz) (cwV 1 hts gX12_goesOf_X12_lays rfl rfl rfl (by decide +kernel) ⟨Nat.le_of_ble_eq_true rfl, Nat.le_of_ble_eq_true rfl⟩) hP hK hD hN hS hA (precv hK hP m_h0 (cF12 k_h0) rfl) rfl hl.1 rfl (Nat.le_of_ble_eq_true rfl) dX12_goesOf_2 ⟨Nat.le_of_ble_eq_true rfl, Nat.le_of_ble_eq_true rfl⟩ (fun u2 H locs hqu2 hP hD hS => ?_)
  obtain ⟨hu, hxu2, hr1⟩ := hqu2
  have hp := PX.trans hp hxu2
  refine lv_aload_n hx hb dX12_goesOf_5 rfl (lv_at hl 0 rfl) ?_
  refine lv_iload_n hx hb dX12_goesOf_6 rfl (lv_at hl 1 rfl) ?_
  refine lv_iconst (v := 0) hx hb dX12_goesOf_7 (by decide) ?_
  have k_h0 : u2.2.1 h0 = 12 := (hp h0 m0_h0).2.1.trans k0_h0
  have m_h0 : h0 ∈ u2.1 := (hp h0 m0_h0).1
  refine wiV (C := RX12) (As := [.int p1, .int 0]) (rest := []) ⟨hx, hb, hml, hown, hts⟩ (fun sz => t_X12_goesBy l D k u2 hu h0 m_h0 k_h0 p1 0 (by (try simp only [i_lt, i_le, i_eq, Int32.toInt_toInt64, Int32.reduceToInt, Int64.reduceToInt, true_and, and_true, false_and, and_false, false_or, or_false, true_or, or_true, not_true_eq_false, not_false_eq_true, ne_eq, forall_const, true_implies, false_implies, implies_true] at g_p1 ⊢) <;> omega) sz) (cwV 2 hts gX12_goesOf_X12_goesBy rfl rfl rfl (by decide +kernel) ⟨Nat.le_of_ble_eq_true rfl, Nat.le_of_ble_eq_true rfl⟩) hP hK hD hN hS hA (precv hK hP m_h0 (cF12 k_h0) rfl) rfl hl.1 rfl (Nat.le_of_ble_eq_true rfl) dX12_goesOf_8 ⟨Nat.le_of_ble_eq_true rfl, Nat.le_of_ble_eq_true rfl⟩ (fun r3 u4 H locs hqu4 hP hD hS => ?_)
  obtain ⟨hu, hxu4, hr3⟩ := hqu4
  have hp := PX.trans hp hxu4
  exact W.iret (v := r3) hx hb hr (fun t ht hW => ⟨⟨r3, u4, rfl, ⟨hu, hp, trivial⟩, by rw [ht]; exact hP, hD⟩, hS.F ht⟩) hS.2.2 dX12_goesOf_11
