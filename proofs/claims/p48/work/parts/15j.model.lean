set_option maxHeartbeats 4000000 in
set_option maxRecDepth 100000 in
theorem t_X12_bends (l : Launch) (D : va_G) (k : Nat → ClassId) (u0 : PSt) (hu : WT u0) (h0 : Nat) (m_h0 : h0 ∈ u0.1) (k_h0 : u0.2.1 h0 = 12) (p1 : Int32) (g_p1 : 0 ≤ p1.toInt ∧ p1.toInt ≤ 11) (sz : Nat) : Met l yX12_bends wsX12_bends ({ frames := 1, cells := 0, slots := 0, locals := 22 }) (PreM D k sz (PW k u0) [.ref h0, .int p1]) (va_Qv (fun v => WT v ∧ PX u0 v ∧ (True)) (WB D (va_A (PW k u0) sz) (PW k)) (va_A (PW k u0) sz)) 0 0 (va_A (PW k u0) sz) := by
  refine Met.ofW (cc := cX12_bends) (maxL := 8) (ret := none) (by decide) rfl ?_
  intro p e s m args below meth c s₁ B hml hv
  obtain ⟨rfl, hsz, hP, hK, hD0, hN⟩ := hv
  have hx := B.exec
  have hb := B.bytes
  have hr := B.returns
  have hts := atoms_spec (ws := wsX12_bends) B.pre
  have hown : s.vm.findClass RX12 = some m.cls := findClass_of_methodNamed B.named
  have hlocks := B.notSynchronized
  have i_X12 : ∀ w ∈ wsX120, w ∈ wsX12_bends := by decide +kernel
  obtain ⟨a1, q0_1, m0_a1, k0_a1⟩ := (hu h0 m_h0).1 1 50 (by rw [k_h0]; rfl)
  obtain ⟨a17, q0_17, m0_a17, k0_a17⟩ := (hu h0 m_h0).1 17 56 (by rw [k_h0]; rfl)
  obtain ⟨a18, q0_18, m0_a18, k0_a18⟩ := (hu h0 m_h0).1 18 56 (by rw [k_h0]; rfl)
  obtain ⟨a19, q0_19, m0_a19, k0_a19⟩ := (hu h0 m_h0).1 19 56 (by rw [k_h0]; rfl)
  obtain ⟨a20, q0_20, m0_a20, k0_a20⟩ := (hu h0 m_h0).1 20 56 (by rw [k_h0]; rfl)
  have m0_h0 := m_h0
  have k0_h0 := k_h0
  have m_a1 := m0_a1
  have m_a17 := m0_a17
  have m_a18 := m0_a18
  have m_a19 := m0_a19
  have m_a20 := m0_a20
  have k_a1 := k0_a1
  have k_a17 := k0_a17
  have k_a18 := k0_a18
  have k_a19 := k0_a19
  have k_a20 := k0_a20
  subst hsz
  have hD := hD0.self (sz := s.heap.size)
  generalize hAe : va_A (PW k u0) s.heap.size = A at hD ⊢
  have hA : ∀ q : Nat, s.heap.size ≤ q → A q := fun q h => by rw [← hAe]; exact Or.inr h
  have hS : va_S A s.heap s.heap [] := va_S.rf
  have hp : PX u0 u0 := PX.rf
  have B17 : ∀ (n17 : Nat) (u : PSt) (H : Heap) (locs : List Loc) (ls : Array Slot) (v1 : Int32) (v2 : Int32) (v3 : Int32) (v4 : Int32), WT u → PX u0 u → va_P D vwCl (PW k u) H → va_D A (PW k u) → va_S A s.heap H locs → (2147483648 - v4.toInt).toNat ≤ n17 → 0 ≤ v1.toInt ∧ v1.toInt ≤ 11 → 0 ≤ v4.toInt ∧ v4.toInt ≤ 8 → ((u.2.2.1 h0 16).toInt ≤ v4.toInt) → lv_has ls 8 [(0, .ref h0), (1, .int v1), (2, .int v2), (3, .int v3), (4, .int v4)] → W p l e (headSpec wsX12_bends ({ frames := 1, cells := 0, slots := 0, locals := 22 })).room s m ([.ref h0, .int p1] : List Value).toArray below meth c H locs 0 0 (MQ below (va_Qv (fun v => WT v ∧ PX u0 v ∧ (True)) (WB D A (PW k)) A) ([.ref h0, .int p1] : List Value).toArray s 0 0 A) (F0 m 17 ls []) := by
    intro n17
    induction n17 with
    | zero =>
      intro u H locs ls v1 v2 v3 v4 hu hp hP hD hS hn17 g_v1 g_v4 ex0 hl
      exact absurd hn17 (by have := Int32.toInt_lt v4; have := Int32.le_toInt v4; omega)
    | succ n17 ih17 =>
      intro u H locs ls v1 v2 v3 v4 hu hp hP hD hS hn17 g_v1 g_v4 ex0 hl
      refine lv_iload hx hb dX12_bends_17 (lv_at hl 4 rfl) ?_
      refine lv_aload_n hx hb dX12_bends_19 rfl (lv_at hl 0 rfl) ?_
      refine lv_iload_n hx hb dX12_bends_20 rfl (lv_at hl 1 rfl) ?_
      refine lv_iconst (v := 3) hx hb dX12_bends_21 (by decide) ?_
      have k_h0 : u.2.1 h0 = 12 := (hp h0 m0_h0).2.1.trans k0_h0
      have m_h0 : h0 ∈ u.1 := (hp h0 m0_h0).1
      refine rvi (C := RX12) (As := [.int v1, .int 3]) (rest := [.int v4]) ⟨hx, hb, hml, hown, hts⟩ (t_X12_ofPipe l D k u hu h0 m_h0 k_h0 v1 3 (by (try simp only [i_lt, i_le, i_eq, Int32.toInt_toInt64, Int32.reduceToInt, Int64.reduceToInt, true_and, and_true, false_and, and_false, false_or, or_false, true_or, or_true, not_true_eq_false, not_false_eq_true, ne_eq, forall_const, true_implies, false_implies, implies_true] at g_v1 g_v4 ex0 hn17 ⊢) <;> omega) (by decide)) (cwV 2 hts gX12_bends_X12_ofPipe rfl rfl rfl (by decide +kernel) ⟨Nat.le_of_ble_eq_true rfl, Nat.le_of_ble_eq_true rfl⟩) hP hK (precv hK hP m_h0 (cF12 k_h0) rfl) rfl hl.1 rfl (Nat.le_of_ble_eq_true rfl) dX12_bends_22 ⟨Nat.le_of_ble_eq_true rfl, Nat.le_of_ble_eq_true rfl⟩ (fun r1 hr1 => ?_)
      have yr1 : r1.toInt = (u.2.2.1 a1 (26 + 24 * v1.toInt + 3).toNat).toInt := by have h := hr1.2; rw [ar_eq (((hp h0 m0_h0).2.2.2.2.2.1 k0_h0 1).trans q0_1)] at h; exact h
      replace hr1 : 0 ≤ r1.toInt ∧ r1.toInt ≤ 8 := by have h := hr1.1; clear hr1; (simp only [i_lt, i_le, i_eq, Int32.toInt_toInt64, Int32.reduceToInt, Int64.reduceToInt, true_and, and_true, false_and, and_false, false_or, or_false, true_or, or_true, not_true_eq_false, not_false_eq_true, ne_eq, forall_const, true_implies, false_implies, implies_true] at h) <;> omega
      refine lv_icmp_ge (tgt := 222) hx hb dX12_bends_25 (by decide) (fun c2 => ?_) (fun c2 => ?_)
      · exact W.vret hx hb hr (fun t ht hW => ⟨⟨u, rfl, ⟨hu, hp, trivial⟩, by rw [ht]; exact hP, hD⟩, hS.F ht⟩) hS.2.2 dX12_bends_222
      · refine lv_aload_n hx hb dX12_bends_28 rfl (lv_at hl 0 rfl) ?_
        refine lv_iload_n hx hb dX12_bends_29 rfl (lv_at hl 1 rfl) ?_
        refine lv_bipush (v := 8) hx hb dX12_bends_30 (by decide) ?_
        refine lv_iconst (v := 2) hx hb dX12_bends_32 (by decide) ?_
        refine lv_iload hx hb dX12_bends_33 (lv_at hl 4 rfl) ?_
        refine lv_imul hx hb dX12_bends_35 ?_
        refine lv_topi (fun x3 ex3 => ?_)
        have tx3 : x3.toInt = 2 * v4.toInt := by rw [ex3]; exact i_mulc (c := 2) (by decide) ((show 0 ≤ v4.toInt ∧ v4.toInt ≤ 7 from by (try simp only [i_lt, i_le, i_eq, Int32.toInt_toInt64, Int32.reduceToInt, Int64.reduceToInt, true_and, and_true, false_and, and_false, false_or, or_false, true_or, or_true, not_true_eq_false, not_false_eq_true, ne_eq, forall_const, true_implies, false_implies, implies_true] at g_v1 g_v4 ex0 hn17 yr1 hr1 c2 ⊢) <;> omega)) (by decide)
        refine lv_iadd hx hb dX12_bends_36 ?_
        refine lv_topi (fun x4 ex4 => ?_)
        have tx4 : x4.toInt = (8 : Int32).toInt + x3.toInt := by rw [ex4]; exact i_add (by (try simp only [i_lt, i_le, i_eq, Int32.toInt_toInt64, Int32.reduceToInt, Int64.reduceToInt, true_and, and_true, false_and, and_false, false_or, or_false, true_or, or_true, not_true_eq_false, not_false_eq_true, ne_eq, forall_const, true_implies, false_implies, implies_true] at g_v1 g_v4 ex0 hn17 yr1 hr1 c2 tx3 ⊢) <;> omega) (by (try simp only [i_lt, i_le, i_eq, Int32.toInt_toInt64, Int32.reduceToInt, Int64.reduceToInt, true_and, and_true, false_and, and_false, false_or, or_false, true_or, or_true, not_true_eq_false, not_false_eq_true, ne_eq, forall_const, true_implies, false_implies, implies_true] at g_v1 g_v4 ex0 hn17 yr1 hr1 c2 tx3 ⊢) <;> omega)
        have k_a1 : u.2.1 a1 = 50 := (hp a1 m0_a1).2.1.trans k0_a1
        have m_a1 : a1 ∈ u.1 := (hp a1 m0_a1).1
        refine rvi (C := RX12) (As := [.int v1, .int x4]) (rest := []) ⟨hx, hb, hml, hown, hts⟩ (t_X12_ofPipe l D k u hu h0 m_h0 k_h0 v1 x4 (by (try simp only [i_lt, i_le, i_eq, Int32.toInt_toInt64, Int32.reduceToInt, Int64.reduceToInt, true_and, and_true, false_and, and_false, false_or, or_false, true_or, or_true, not_true_eq_false, not_false_eq_true, ne_eq, forall_const, true_implies, false_implies, implies_true] at g_v1 g_v4 ex0 hn17 yr1 hr1 c2 tx3 tx4 ⊢) <;> omega) (by (try simp only [i_lt, i_le, i_eq, Int32.toInt_toInt64, Int32.reduceToInt, Int64.reduceToInt, true_and, and_true, false_and, and_false, false_or, or_false, true_or, or_true, not_true_eq_false, not_false_eq_true, ne_eq, forall_const, true_implies, false_implies, implies_true] at g_v1 g_v4 ex0 hn17 yr1 hr1 c2 tx3 tx4 ⊢) <;> omega)) (cwV 2 hts gX12_bends_X12_ofPipe rfl rfl rfl (by decide +kernel) ⟨Nat.le_of_ble_eq_true rfl, Nat.le_of_ble_eq_true rfl⟩) hP hK (precv hK hP m_h0 (cF12 k_h0) rfl) rfl hl.1 rfl (Nat.le_of_ble_eq_true rfl) dX12_bends_37 ⟨Nat.le_of_ble_eq_true rfl, Nat.le_of_ble_eq_true rfl⟩ (fun r5 hr5 => ?_)
        clear hr5
        refine lv_istore (lv' := [(5, .int r5), (0, .ref h0), (1, .int v1), (2, .int v2), (3, .int v3), (4, .int v4)]) hx hb dX12_bends_40 hl (by decide) rfl (fun ls hl => ?_)
        refine lv_aload_n hx hb dX12_bends_42 rfl (lv_at hl 1 rfl) ?_
        refine lv_iload_n hx hb dX12_bends_43 rfl (lv_at hl 2 rfl) ?_
        refine lv_bipush (v := 8) hx hb dX12_bends_44 (by decide) ?_
        refine lv_iconst (v := 2) hx hb dX12_bends_46 (by decide) ?_
        refine lv_iload hx hb dX12_bends_47 (lv_at hl 5 rfl) ?_
        refine lv_imul hx hb dX12_bends_49 ?_
        refine lv_topi (fun x6 ex6 => ?_)
        have tx6 : x6.toInt = 2 * v4.toInt := by rw [ex6]; exact i_mulc (c := 2) (by decide) ((show 0 ≤ v4.toInt ∧ v4.toInt ≤ 7 from by (try simp only [i_lt, i_le, i_eq, Int32.toInt_toInt64, Int32.reduceToInt, Int64.reduceToInt, true_and, and_true, false_and, and_false, false_or, or_false, true_or, or_true, not_true_eq_false, not_false_eq_true, ne_eq, forall_const, true_implies, false_implies, implies_true] at g_v1 g_v4 ex0 hn17 yr1 hr1 c2 tx3 tx4 ⊢) <;> omega)) (by decide)
        refine lv_iadd hx hb dX12_bends_50 ?_
        refine lv_topi (fun x7 ex7 => ?_)
        have tx7 : x7.toInt = (8 : Int32).toInt + x6.toInt := by rw [ex7]; exact i_add (by (try simp only [i_lt, i_le, i_eq, Int32.toInt_toInt64, Int32.reduceToInt, Int64.reduceToInt, true_and, and_true, false_and, and_false, false_or, or_false, true_or, or_true, not_true_eq_false, not_false_eq_true, ne_eq, forall_const, true_implies, false_implies, implies_true] at g_v1 g_v4 ex0 hn17 yr1 hr1 c2 tx3 tx4 tx6 ⊢) <;> omega) (by (try simp only [i_lt, i_le, i_eq, Int32.toInt_toInt64, Int32.reduceToInt, Int64.reduceToInt, true_and, and_true, false_and, and_false, false_or, or_false, true_or, or_true, not_true_eq_false, not_false_eq_true, ne_eq, forall_const, true_implies, false_implies, implies_true] at g_v1 g_v4 ex0 hn17 yr1 hr1 c2 tx3 tx4 tx6 ⊢) <;> omega)
        refine lv_iconst (v := 1) hx hb dX12_bends_51 (by decide) ?_
        refine lv_iadd hx hb dX12_bends_52 ?_
        refine lv_topi (fun x8 ex8 => ?_)
        have tx8 : x8.toInt = x7.toInt + (1 : Int32).toInt := by rw [ex8]; exact i_add (by (try simp only [i_lt, i_le, i_eq, Int32.toInt_toInt64, Int32.reduceToInt, Int64.reduceToInt, true_and, and_true, false_and, and_false, false_or, or_false, true_or, or_true, not_true_eq_false, not_false_eq_true, ne_eq, forall_const, true_implies, false_implies, implies_true] at g_v1 g_v4 ex0 hn17 yr1 hr1 c2 tx3 tx4 tx6 tx7 ⊢) <;> omega) (by (try simp only [i_lt, i_le, i_eq, Int32.toInt_toInt64, Int32.reduceToInt, Int64.reduceToInt, true_and, and_true, false_and, and_false, false_or, or_false, true_or, or_true, not_true_eq_false, not_false_eq_true, ne_eq, forall_const, true_implies, false_implies, implies_true] at g_v1 g_v4 ex0 hn17 yr1 hr1 c2 tx3 tx4 tx6 tx7 ⊢) <;> omega)
        refine rvi (C := RX12) (As := [.int v1, .int x8]) (rest := []) ⟨hx, hb, hml, hown, hts⟩ (t_X12_ofPipe l D k u hu h0 m_h0 k_h0 v1 x8 (by (try simp only [i_lt, i_le, i_eq, Int32.toInt_toInt64, Int32.reduceToInt, Int64.reduceToInt, true_and, and_true, false_and, and_false, false_or, or_false, true_or, or_true, not_true_eq_false, not_false_eq_true, ne_eq, forall_const, true_implies, false_implies, implies_true] at g_v1 g_v4 ex0 hn17 yr1 hr1 c2 tx3 tx4 tx6 tx7 tx8 ⊢) <;> omega) (by (try simp only [i_lt, i_le, i_eq, Int32.toInt_toInt64, Int32.reduceToInt, Int64.reduceToInt, true_and, and_true, false_and, and_false, false_or, or_false, true_or, or_true, not_true_eq_false, not_false_eq_true, ne_eq, forall_const, true_implies, false_implies, implies_true] at g_v1 g_v4 ex0 hn17 yr1 hr1 c2 tx3 tx4 tx6 tx7 tx8 ⊢) <;> omega)) (cwV 2 hts gX12_bends_X12_ofPipe rfl rfl rfl (by decide +kernel) ⟨Nat.le_of_ble_eq_true rfl, Nat.le_of_ble_eq_true rfl⟩) hP hK (precv hK hP m_h0 (cF12 k_h0) rfl) rfl hl.1 rfl (Nat.le_of_ble_eq_true rfl) dX12_bends_53 ⟨Nat.le_of_ble_eq_true rfl, Nat.le_of_ble_eq_true rfl⟩ (fun r9 hr9 => ?_)
        clear hr9
        refine lv_istore (lv' := [(6, .int r9), (5, .int r5), (0, .ref h0), (1, .int v1), (2, .int v2), (3, .int v3), (4, .int v4)]) hx hb dX12_bends_56 hl (by decide) rfl (fun ls hl => ?_)
        refine lv_iload_n hx hb dX12_bends_58 rfl (lv_at hl 4 rfl) ?_
        refine lv_iload hx hb dX12_bends_59 (lv_at hl 1 rfl) ?_
        refine lv_if_ne (tgt := 69) hx hb dX12_bends_61 (by decide) (fun c10 => ?_) (fun c10 => ?_)
        · refine lv_iconst (v := 0) hx hb dX12_bends_69 (by decide) ?_
          refine lv_iadd hx hb dX12_bends_70 ?_
          refine lv_topi (fun x11 ex11 => ?_)
          refine lv_istore_n (lv' := [(2, .int x11), (6, .int r9), (5, .int r5), (0, .ref h0), (1, .int v1), (3, .int v3), (4, .int v4)]) hx hb dX12_bends_71 rfl hl (by decide) rfl (fun ls hl => ?_)
          refine lv_iload_n hx hb dX12_bends_72 rfl (lv_at hl 5 rfl) ?_
          refine lv_iload hx hb dX12_bends_73 (lv_at hl 2 rfl) ?_
          refine psi (As := [.int r5]) (rest := [.int v3]) ⟨hx, hb, hml, hown, hts⟩ (t_X12_upOf l D k r5) (va_cwS 1 hts gX12_bends_X12_upOf rfl rfl rfl (by decide +kernel) ⟨Nat.le_of_ble_eq_true rfl, Nat.le_of_ble_eq_true rfl⟩) hK rfl hl.1 rfl (Nat.le_of_ble_eq_true rfl) dX12_bends_75 ⟨Nat.le_of_ble_eq_true rfl, Nat.le_of_ble_eq_true rfl⟩ (fun r12 hr12 => ?_)
          refine lv_iload hx hb dX12_bends_78 (lv_at hl 1 rfl) ?_
          refine lv_imul hx hb dX12_bends_80 ?_
          refine lv_topi (fun x13 ex13 => ?_)
          refine lv_iadd hx hb dX12_bends_81 ?_
          refine lv_topi (fun x14 ex14 => ?_)
          refine lv_istore_n (lv' := [(3, .int x14), (2, .int x11), (6, .int r9), (5, .int r5), (0, .ref h0), (1, .int v1), (4, .int v4)]) hx hb dX12_bends_82 rfl hl (by decide) rfl (fun ls hl => ?_)
          refine lv_aload_n hx hb dX12_bends_83 rfl (lv_at hl 4 rfl) ?_
          refine lv_dup hx hb dX12_bends_84 rfl ?_
          refine pget (ci := 12) (v := .int (u.2.2.1 h0 21)) (C := RX12) (T := TX12) (N := 34) hx hb hts i_X12 hown hK hP m_h0 (cF12 k_h0) rfl 21 (by decide) (hts (.fieldLink RX12 306 "BellowsRowModel" "length" "I") (by decide +kernel)) (fun _ h9 => h9) rfl dX12_bends_85 ?_
          refine lv_iload hx hb dX12_bends_88 (lv_at hl 2 rfl) ?_
          refine lv_iadd hx hb dX12_bends_90 ?_
          refine lv_topi (fun x15 ex15 => ?_)
          refine pput (u' := pSI u h0 21 x15) (ci := 12) (v := .int x15) (ty := .int) (C := RX12) (T := TX12) (N := 34) hx hb hts i_X12 tyX12 tyX12_ok nmX12 hown hK hP hD hS m_h0 (cF12 k_h0) rfl 21 (by decide) (hts (.fieldLink RX12 306 "BellowsRowModel" "length" "I") (by decide +kernel)) (fun _ h9 => h9) rfl (by decide +kernel) rfl rfl (Nat.le_of_ble_eq_true rfl) rfl (sF12_21 k_h0 x15) dX12_bends_91 (fun H locs hP hD hS => ?_)
          have hu := WT.setI (a := h0) (s := 21) (v := x15) hu (by rw [k_h0]; exact trivial)
          have hp := PX.setI (a := h0) (s := 21) (v := x15) hp (by rw [k_h0]; decide)
          obtain ⟨u16, hu16⟩ : ∃ z, z = pSI u h0 21 x15 := ⟨_, rfl⟩
          rw [← hu16] at hP hD hu hp
          have w17 : (u16.2.2.1 h0 16).toInt = (u.2.2.1 h0 16).toInt := by rw [hu16]; exact congrArg Int32.toInt (if_neg (fun q => absurd q.2 (by decide)))
          have w18 : (u16.2.2.1 a1 (26 + 24 * v1.toInt + 3).toNat).toInt = (u.2.2.1 a1 (26 + 24 * v1.toInt + 3).toNat).toInt := by rw [hu16]; exact congrArg Int32.toInt (if_neg (fun q => by have y := q.1; have z := k_a1; rw [y, k_h0] at z; exact absurd z (by decide)))
          have w19 : (u16.2.2.1 h0 21).toInt = x15.toInt := by rw [hu16]; exact congrArg Int32.toInt (if_pos ⟨rfl, rfl⟩)
          refine lv_iload hx hb dX12_bends_94 (lv_at hl 6 rfl) ?_
          refine lv_iconst (v := 1) hx hb dX12_bends_96 (by decide) ?_
          refine lv_iadd hx hb dX12_bends_97 ?_
          refine lv_topi (fun x20 ex20 => ?_)
          have tx20 : x20.toInt = v4.toInt + (1 : Int32).toInt := by rw [ex20]; exact i_add (by (try simp only [i_lt, i_le, i_eq, Int32.toInt_toInt64, Int32.reduceToInt, Int64.reduceToInt, true_and, and_true, false_and, and_false, false_or, or_false, true_or, or_true, not_true_eq_false, not_false_eq_true, ne_eq, forall_const, true_implies, false_implies, implies_true] at g_v1 g_v4 ex0 hn17 yr1 hr1 c2 tx3 tx4 tx6 tx7 tx8 c10 w17 w18 w19 ⊢) <;> omega) (by (try simp only [i_lt, i_le, i_eq, Int32.toInt_toInt64, Int32.reduceToInt, Int64.reduceToInt, true_and, and_true, false_and, and_false, false_or, or_false, true_or, or_true, not_true_eq_false, not_false_eq_true, ne_eq, forall_const, true_implies, false_implies, implies_true] at g_v1 g_v4 ex0 hn17 yr1 hr1 c2 tx3 tx4 tx6 tx7 tx8 c10 w17 w18 w19 ⊢) <;> omega)
          refine lv_aload_n hx hb dX12_bends_98 rfl (lv_at hl 4 rfl) ?_
          refine lv_iload_n hx hb dX12_bends_99 rfl (lv_at hl 5 rfl) ?_
          refine lv_iconst (v := 3) hx hb dX12_bends_100 (by decide) ?_
          have k_h0 : u16.2.1 h0 = 12 := (hp h0 m0_h0).2.1.trans k0_h0
          have m_h0 : h0 ∈ u16.1 := (hp h0 m0_h0).1
          have k_a1 : u16.2.1 a1 = 50 := (hp a1 m0_a1).2.1.trans k0_a1
          have m_a1 : a1 ∈ u16.1 := (hp a1 m0_a1).1
          refine rvi (C := RX12) (As := [.int v1, .int 3]) (rest := [.int x20]) ⟨hx, hb, hml, hown, hts⟩ (t_X12_ofPipe l D k u16 hu h0 m_h0 k_h0 v1 3 (by (try simp only [i_lt, i_le, i_eq, Int32.toInt_toInt64, Int32.reduceToInt, Int64.reduceToInt, true_and, and_true, false_and, and_false, false_or, or_false, true_or, or_true, not_true_eq_false, not_false_eq_true, ne_eq, forall_const, true_implies, false_implies, implies_true] at g_v1 g_v4 ex0 hn17 yr1 hr1 c2 tx3 tx4 tx6 tx7 tx8 c10 w17 w18 w19 tx20 ⊢) <;> omega) (by decide)) (cwV 2 hts gX12_bends_X12_ofPipe rfl rfl rfl (by decide +kernel) ⟨Nat.le_of_ble_eq_true rfl, Nat.le_of_ble_eq_true rfl⟩) hP hK (precv hK hP m_h0 (cF12 k_h0) rfl) rfl hl.1 rfl (Nat.le_of_ble_eq_true rfl) dX12_bends_101 ⟨Nat.le_of_ble_eq_true rfl, Nat.le_of_ble_eq_true rfl⟩ (fun r21 hr21 => ?_)
          have yr21 : r21.toInt = (u16.2.2.1 a1 (26 + 24 * v1.toInt + 3).toNat).toInt := by have h := hr21.2; rw [ar_eq (((hp h0 m0_h0).2.2.2.2.2.1 k0_h0 1).trans q0_1)] at h; exact h
          replace hr21 : 0 ≤ r21.toInt ∧ r21.toInt ≤ 8 := by have h := hr21.1; clear hr21; (simp only [i_lt, i_le, i_eq, Int32.toInt_toInt64, Int32.reduceToInt, Int64.reduceToInt, true_and, and_true, false_and, and_false, false_or, or_false, true_or, or_true, not_true_eq_false, not_false_eq_true, ne_eq, forall_const, true_implies, false_implies, implies_true] at h) <;> omega
          refine lv_icmp_ne (tgt := 110) hx hb dX12_bends_104 (by decide) (fun c22 => ?_) (fun c22 => ?_)
          · refine lv_aload_n hx hb dX12_bends_110 rfl (lv_at hl 4 rfl) ?_
            refine lv_iload_n hx hb dX12_bends_111 rfl (lv_at hl 5 rfl) ?_
            refine lv_bipush (v := 8) hx hb dX12_bends_112 (by decide) ?_
            refine lv_iconst (v := 2) hx hb dX12_bends_114 (by decide) ?_
            refine lv_iload hx hb dX12_bends_115 (lv_at hl 6 rfl) ?_
            refine lv_imul hx hb dX12_bends_117 ?_
            refine lv_topi (fun x23 ex23 => ?_)
            have tx23 : x23.toInt = 2 * v4.toInt := by rw [ex23]; exact i_mulc (c := 2) (by decide) ((show 0 ≤ v4.toInt ∧ v4.toInt ≤ 7 from by (try simp only [i_lt, i_le, i_eq, Int32.toInt_toInt64, Int32.reduceToInt, Int64.reduceToInt, true_and, and_true, false_and, and_false, false_or, or_false, true_or, or_true, not_true_eq_false, not_false_eq_true, ne_eq, forall_const, true_implies, false_implies, implies_true] at g_v1 g_v4 ex0 hn17 yr1 hr1 c2 tx3 tx4 tx6 tx7 tx8 c10 w17 w18 w19 tx20 yr21 hr21 c22 ⊢) <;> omega)) (by decide)
            refine lv_iadd hx hb dX12_bends_118 ?_
            refine lv_topi (fun x24 ex24 => ?_)
            have tx24 : x24.toInt = (8 : Int32).toInt + x23.toInt := by rw [ex24]; exact i_add (by (try simp only [i_lt, i_le, i_eq, Int32.toInt_toInt64, Int32.reduceToInt, Int64.reduceToInt, true_and, and_true, false_and, and_false, false_or, or_false, true_or, or_true, not_true_eq_false, not_false_eq_true, ne_eq, forall_const, true_implies, false_implies, implies_true] at g_v1 g_v4 ex0 hn17 yr1 hr1 c2 tx3 tx4 tx6 tx7 tx8 c10 w17 w18 w19 tx20 yr21 hr21 c22 tx23 ⊢) <;> omega) (by (try simp only [i_lt, i_le, i_eq, Int32.toInt_toInt64, Int32.reduceToInt, Int64.reduceToInt, true_and, and_true, false_and, and_false, false_or, or_false, true_or, or_true, not_true_eq_false, not_false_eq_true, ne_eq, forall_const, true_implies, false_implies, implies_true] at g_v1 g_v4 ex0 hn17 yr1 hr1 c2 tx3 tx4 tx6 tx7 tx8 c10 w17 w18 w19 tx20 yr21 hr21 c22 tx23 ⊢) <;> omega)
            refine lv_iconst (v := 2) hx hb dX12_bends_119 (by decide) ?_
            refine lv_iadd hx hb dX12_bends_120 ?_
            refine lv_topi (fun x25 ex25 => ?_)
            have tx25 : x25.toInt = x24.toInt + (2 : Int32).toInt := by rw [ex25]; exact i_add (by (try simp only [i_lt, i_le, i_eq, Int32.toInt_toInt64, Int32.reduceToInt, Int64.reduceToInt, true_and, and_true, false_and, and_false, false_or, or_false, true_or, or_true, not_true_eq_false, not_false_eq_true, ne_eq, forall_const, true_implies, false_implies, implies_true] at g_v1 g_v4 ex0 hn17 yr1 hr1 c2 tx3 tx4 tx6 tx7 tx8 c10 w17 w18 w19 tx20 yr21 hr21 c22 tx23 tx24 ⊢) <;> omega) (by (try simp only [i_lt, i_le, i_eq, Int32.toInt_toInt64, Int32.reduceToInt, Int64.reduceToInt, true_and, and_true, false_and, and_false, false_or, or_false, true_or, or_true, not_true_eq_false, not_false_eq_true, ne_eq, forall_const, true_implies, false_implies, implies_true] at g_v1 g_v4 ex0 hn17 yr1 hr1 c2 tx3 tx4 tx6 tx7 tx8 c10 w17 w18 w19 tx20 yr21 hr21 c22 tx23 tx24 ⊢) <;> omega)
            refine rvi (C := RX12) (As := [.int v1, .int x25]) (rest := []) ⟨hx, hb, hml, hown, hts⟩ (t_X12_ofPipe l D k u16 hu h0 m_h0 k_h0 v1 x25 (by (try simp only [i_lt, i_le, i_eq, Int32.toInt_toInt64, Int32.reduceToInt, Int64.reduceToInt, true_and, and_true, false_and, and_false, false_or, or_false, true_or, or_true, not_true_eq_false, not_false_eq_true, ne_eq, forall_const, true_implies, false_implies, implies_true] at g_v1 g_v4 ex0 hn17 yr1 hr1 c2 tx3 tx4 tx6 tx7 tx8 c10 w17 w18 w19 tx20 yr21 hr21 c22 tx23 tx24 tx25 ⊢) <;> omega) (by (try simp only [i_lt, i_le, i_eq, Int32.toInt_toInt64, Int32.reduceToInt, Int64.reduceToInt, true_and, and_true, false_and, and_false, false_or, or_false, true_or, or_true, not_true_eq_false, not_false_eq_true, ne_eq, forall_const, true_implies, false_implies, implies_true] at g_v1 g_v4 ex0 hn17 yr1 hr1 c2 tx3 tx4 tx6 tx7 tx8 c10 w17 w18 w19 tx20 yr21 hr21 c22 tx23 tx24 tx25 ⊢) <;> omega)) (cwV 2 hts gX12_bends_X12_ofPipe rfl rfl rfl (by decide +kernel) ⟨Nat.le_of_ble_eq_true rfl, Nat.le_of_ble_eq_true rfl⟩) hP hK (precv hK hP m_h0 (cF12 k_h0) rfl) rfl hl.1 rfl (Nat.le_of_ble_eq_true rfl) dX12_bends_121 ⟨Nat.le_of_ble_eq_true rfl, Nat.le_of_ble_eq_true rfl⟩ (fun r26 hr26 => ?_)
            clear hr26
            refine lv_istore (lv' := [(7, .int r26), (3, .int x14), (2, .int x11), (6, .int r9), (5, .int r5), (0, .ref h0), (1, .int v1), (4, .int v4)]) hx hb dX12_bends_124 hl (by decide) rfl (fun ls hl => ?_)
            refine lv_iload hx hb dX12_bends_126 (lv_at hl 4 rfl) ?_
            refine lv_iload hx hb dX12_bends_128 (lv_at hl 0 rfl) ?_
            refine lv_icmp_ne (tgt := 136) hx hb dX12_bends_130 (by decide) (fun c27 => ?_) (fun c27 => ?_)
            · have b28 := Int32.toInt_lt r5
              have b29 := Int32.toInt_lt r26
              refine lv_aload_n hx hb dX12_bends_136 rfl (lv_at hl 5 rfl) ?_
              have k_a17 : u16.2.1 a17 = 56 := (hp a17 m0_a17).2.1.trans k0_a17
              have m_a17 : a17 ∈ u16.1 := (hp a17 m0_a17).1
              refine pget (ci := 12) (v := va_rf (u16.2.2.2.2 h0 17)) (C := RX12) (T := TX12) (N := 34) hx hb hts i_X12 hown hK hP m_h0 (cF12 k_h0) rfl 17 (by decide) (hts (.fieldLink RX12 37 "BellowsRowModel" "bendX" "[I") (by decide +kernel)) (fun _ h9 => h9) rfl dX12_bends_137 ?_
              refine W.eq (g2 := F0 m 140 ls [.ref a17]) (by rw [(((hp h0 m0_h0).2.2.2.2.2.1 k0_h0 17).trans q0_17)]; rfl) ?_
              refine lv_aload_n hx hb dX12_bends_140 rfl (lv_at hl 5 rfl) ?_
              refine pget (ci := 12) (v := .int (u16.2.2.1 h0 16)) (C := RX12) (T := TX12) (N := 34) hx hb hts i_X12 hown hK hP m_h0 (cF12 k_h0) rfl 16 (by decide) (hts (.fieldLink RX12 303 "BellowsRowModel" "bendMany" "I") (by decide +kernel)) (fun _ h9 => h9) rfl dX12_bends_141 ?_
              have g30 := (hu h0 m_h0).2.2.2 16
              rw [k_h0] at g30
              replace g30 : 0 ≤ (u16.2.2.1 h0 16).toInt ∧ (u16.2.2.1 h0 16).toInt ≤ 8 := g30
              refine lv_iload_n hx hb dX12_bends_144 rfl (lv_at hl 2 rfl) ?_
              refine pasI (u' := pSI u16 a17 ((u16.2.2.1 h0 16).toNatClampNeg) x11) hx hb hK hP hD hS m_a17 (cF56 k_a17) 1 rfl (vp_in_iff.mpr (by (try simp only [i_lt, i_le, i_eq, Int32.toInt_toInt64, Int32.reduceToInt, Int64.reduceToInt, true_and, and_true, false_and, and_false, false_or, or_false, true_or, or_true, not_true_eq_false, not_false_eq_true, ne_eq, forall_const, true_implies, false_implies, implies_true] at g_v1 g_v4 ex0 hn17 yr1 hr1 c2 tx3 tx4 tx6 tx7 tx8 c10 w17 w18 w19 tx20 yr21 hr21 c22 tx23 tx24 tx25 c27 b28 b29 g30 ⊢) <;> omega)) rfl (sF56 k_a17 _ _) dX12_bends_145 (fun H locs hP hD hS => ?_)
              have hu := WT.setI (a := a17) (s := ((u16.2.2.1 h0 16).toNatClampNeg)) (v := x11) hu (by rw [k_a17]; exact trivial)
              have hp := PX.setI (a := a17) (s := ((u16.2.2.1 h0 16).toNatClampNeg)) (v := x11) hp (by rw [k_a17]; decide)
              obtain ⟨u31, hu31⟩ : ∃ z, z = pSI u16 a17 ((u16.2.2.1 h0 16).toNatClampNeg) x11 := ⟨_, rfl⟩
              rw [← hu31] at hP hD hu hp
              have w32 : (u31.2.2.1 a1 (26 + 24 * v1.toInt + 3).toNat).toInt = (u16.2.2.1 a1 (26 + 24 * v1.toInt + 3).toNat).toInt := by rw [hu31]; exact congrArg Int32.toInt (if_neg (fun q => by have y := q.1; have z := k_a1; rw [y, k_a17] at z; exact absurd z (by decide)))
              have w33 : (u31.2.2.1 h0 21).toInt = (u16.2.2.1 h0 21).toInt := by rw [hu31]; exact congrArg Int32.toInt (if_neg (fun q => by have y := q.1; have z := k_h0; rw [y, k_a17] at z; exact absurd z (by decide)))
              have w34 : (u31.2.2.1 h0 16).toInt = (u16.2.2.1 h0 16).toInt := by rw [hu31]; exact congrArg Int32.toInt (if_neg (fun q => by have y := q.1; have z := k_h0; rw [y, k_a17] at z; exact absurd z (by decide)))
              refine lv_aload_n hx hb dX12_bends_146 rfl (lv_at hl 5 rfl) ?_
              have k_h0 : u31.2.1 h0 = 12 := (hp h0 m0_h0).2.1.trans k0_h0
              have m_h0 : h0 ∈ u31.1 := (hp h0 m0_h0).1
              have k_a18 : u31.2.1 a18 = 56 := (hp a18 m0_a18).2.1.trans k0_a18
              have m_a18 : a18 ∈ u31.1 := (hp a18 m0_a18).1
              refine pget (ci := 12) (v := va_rf (u31.2.2.2.2 h0 18)) (C := RX12) (T := TX12) (N := 34) hx hb hts i_X12 hown hK hP m_h0 (cF12 k_h0) rfl 18 (by decide) (hts (.fieldLink RX12 40 "BellowsRowModel" "bendY" "[I") (by decide +kernel)) (fun _ h9 => h9) rfl dX12_bends_147 ?_
              refine W.eq (g2 := F0 m 150 ls [.ref a18]) (by rw [(((hp h0 m0_h0).2.2.2.2.2.1 k0_h0 18).trans q0_18)]; rfl) ?_
              refine lv_aload_n hx hb dX12_bends_150 rfl (lv_at hl 5 rfl) ?_
              refine pget (ci := 12) (v := .int (u31.2.2.1 h0 16)) (C := RX12) (T := TX12) (N := 34) hx hb hts i_X12 hown hK hP m_h0 (cF12 k_h0) rfl 16 (by decide) (hts (.fieldLink RX12 303 "BellowsRowModel" "bendMany" "I") (by decide +kernel)) (fun _ h9 => h9) rfl dX12_bends_151 ?_
              have g35 := (hu h0 m_h0).2.2.2 16
              rw [k_h0] at g35
              replace g35 : 0 ≤ (u31.2.2.1 h0 16).toInt ∧ (u31.2.2.1 h0 16).toInt ≤ 8 := g35
              refine lv_iload_n hx hb dX12_bends_154 rfl (lv_at hl 1 rfl) ?_
              have k_a1 : u31.2.1 a1 = 50 := (hp a1 m0_a1).2.1.trans k0_a1
              have m_a1 : a1 ∈ u31.1 := (hp a1 m0_a1).1
              refine pasI (u' := pSI u31 a18 ((u31.2.2.1 h0 16).toNatClampNeg) x14) hx hb hK hP hD hS m_a18 (cF56 k_a18) 1 rfl (vp_in_iff.mpr (by (try simp only [i_lt, i_le, i_eq, Int32.toInt_toInt64, Int32.reduceToInt, Int64.reduceToInt, true_and, and_true, false_and, and_false, false_or, or_false, true_or, or_true, not_true_eq_false, not_false_eq_true, ne_eq, forall_const, true_implies, false_implies, implies_true] at g_v1 g_v4 ex0 hn17 yr1 hr1 c2 tx3 tx4 tx6 tx7 tx8 c10 w17 w18 w19 tx20 yr21 hr21 c22 tx23 tx24 tx25 c27 b28 b29 g30 w32 w33 w34 g35 ⊢) <;> omega)) rfl (sF56 k_a18 _ _) dX12_bends_155 (fun H locs hP hD hS => ?_)
              have hu := WT.setI (a := a18) (s := ((u31.2.2.1 h0 16).toNatClampNeg)) (v := x14) hu (by rw [k_a18]; exact trivial)
              have hp := PX.setI (a := a18) (s := ((u31.2.2.1 h0 16).toNatClampNeg)) (v := x14) hp (by rw [k_a18]; decide)
              obtain ⟨u36, hu36⟩ : ∃ z, z = pSI u31 a18 ((u31.2.2.1 h0 16).toNatClampNeg) x14 := ⟨_, rfl⟩
              rw [← hu36] at hP hD hu hp
              have w37 : (u36.2.2.1 a1 (26 + 24 * v1.toInt + 3).toNat).toInt = (u31.2.2.1 a1 (26 + 24 * v1.toInt + 3).toNat).toInt := by rw [hu36]; exact congrArg Int32.toInt (if_neg (fun q => by have y := q.1; have z := k_a1; rw [y, k_a18] at z; exact absurd z (by decide)))
              have w38 : (u36.2.2.1 h0 21).toInt = (u31.2.2.1 h0 21).toInt := by rw [hu36]; exact congrArg Int32.toInt (if_neg (fun q => by have y := q.1; have z := k_h0; rw [y, k_a18] at z; exact absurd z (by decide)))
              have w39 : (u36.2.2.1 h0 16).toInt = (u31.2.2.1 h0 16).toInt := by rw [hu36]; exact congrArg Int32.toInt (if_neg (fun q => by have y := q.1; have z := k_h0; rw [y, k_a18] at z; exact absurd z (by decide)))
              refine lv_aload_n hx hb dX12_bends_156 rfl (lv_at hl 5 rfl) ?_
              have k_h0 : u36.2.1 h0 = 12 := (hp h0 m0_h0).2.1.trans k0_h0
              have m_h0 : h0 ∈ u36.1 := (hp h0 m0_h0).1
              have k_a19 : u36.2.1 a19 = 56 := (hp a19 m0_a19).2.1.trans k0_a19
              have m_a19 : a19 ∈ u36.1 := (hp a19 m0_a19).1
              refine pget (ci := 12) (v := va_rf (u36.2.2.2.2 h0 19)) (C := RX12) (T := TX12) (N := 34) hx hb hts i_X12 hown hK hP m_h0 (cF12 k_h0) rfl 19 (by decide) (hts (.fieldLink RX12 43 "BellowsRowModel" "along" "[I") (by decide +kernel)) (fun _ h9 => h9) rfl dX12_bends_157 ?_
              refine W.eq (g2 := F0 m 160 ls [.ref a19]) (by rw [(((hp h0 m0_h0).2.2.2.2.2.1 k0_h0 19).trans q0_19)]; rfl) ?_
              refine lv_aload_n hx hb dX12_bends_160 rfl (lv_at hl 5 rfl) ?_
              refine pget (ci := 12) (v := .int (u36.2.2.1 h0 16)) (C := RX12) (T := TX12) (N := 34) hx hb hts i_X12 hown hK hP m_h0 (cF12 k_h0) rfl 16 (by decide) (hts (.fieldLink RX12 303 "BellowsRowModel" "bendMany" "I") (by decide +kernel)) (fun _ h9 => h9) rfl dX12_bends_161 ?_
              have g40 := (hu h0 m_h0).2.2.2 16
              rw [k_h0] at g40
              replace g40 : 0 ≤ (u36.2.2.1 h0 16).toInt ∧ (u36.2.2.1 h0 16).toInt ≤ 8 := g40
              refine lv_iload hx hb dX12_bends_164 (lv_at hl 4 rfl) ?_
              refine lv_if_ne (tgt := 173) hx hb dX12_bends_166 (by decide) (fun c41 => ?_) (fun c41 => ?_)
              · refine lv_iconst (v := 0) hx hb dX12_bends_173 (by decide) ?_
                refine lv_iload hx hb dX12_bends_174 (lv_at hl 0 rfl) ?_
                refine lv_if_ne (tgt := 183) hx hb dX12_bends_176 (by decide) (fun c42 => ?_) (fun c42 => ?_)
                · refine lv_iconst (v := 0) hx hb dX12_bends_183 (by decide) ?_
                  refine lv_isub hx hb dX12_bends_184 ?_
                  refine lv_topi (fun x43 ex43 => ?_)
                  have tx43 : x43.toInt = (0 : Int32).toInt - (0 : Int32).toInt := by rw [ex43]; exact i_sub (by (try simp only [i_lt, i_le, i_eq, Int32.toInt_toInt64, Int32.reduceToInt, Int64.reduceToInt, true_and, and_true, false_and, and_false, false_or, or_false, true_or, or_true, not_true_eq_false, not_false_eq_true, ne_eq, forall_const, true_implies, false_implies, implies_true] at g_v1 g_v4 ex0 hn17 yr1 hr1 c2 tx3 tx4 tx6 tx7 tx8 c10 w17 w18 w19 tx20 yr21 hr21 c22 tx23 tx24 tx25 c27 b28 b29 g30 w32 w33 w34 g35 w37 w38 w39 g40 c41 c42 ⊢) <;> omega) (by (try simp only [i_lt, i_le, i_eq, Int32.toInt_toInt64, Int32.reduceToInt, Int64.reduceToInt, true_and, and_true, false_and, and_false, false_or, or_false, true_or, or_true, not_true_eq_false, not_false_eq_true, ne_eq, forall_const, true_implies, false_implies, implies_true] at g_v1 g_v4 ex0 hn17 yr1 hr1 c2 tx3 tx4 tx6 tx7 tx8 c10 w17 w18 w19 tx20 yr21 hr21 c22 tx23 tx24 tx25 c27 b28 b29 g30 w32 w33 w34 g35 w37 w38 w39 g40 c41 c42 ⊢) <;> omega)
                  have k_a1 : u36.2.1 a1 = 50 := (hp a1 m0_a1).2.1.trans k0_a1
                  have m_a1 : a1 ∈ u36.1 := (hp a1 m0_a1).1
                  refine pasI (u' := pSI u36 a19 ((u36.2.2.1 h0 16).toNatClampNeg) x43) hx hb hK hP hD hS m_a19 (cF56 k_a19) 1 rfl (vp_in_iff.mpr (by (try simp only [i_lt, i_le, i_eq, Int32.toInt_toInt64, Int32.reduceToInt, Int64.reduceToInt, true_and, and_true, false_and, and_false, false_or, or_false, true_or, or_true, not_true_eq_false, not_false_eq_true, ne_eq, forall_const, true_implies, false_implies, implies_true] at g_v1 g_v4 ex0 hn17 yr1 hr1 c2 tx3 tx4 tx6 tx7 tx8 c10 w17 w18 w19 tx20 yr21 hr21 c22 tx23 tx24 tx25 c27 b28 b29 g30 w32 w33 w34 g35 w37 w38 w39 g40 c41 c42 tx43 ⊢) <;> omega)) rfl (sF56 k_a19 _ _) dX12_bends_185 (fun H locs hP hD hS => ?_)
                  have hu := WT.setI (a := a19) (s := ((u36.2.2.1 h0 16).toNatClampNeg)) (v := x43) hu (by rw [k_a19]; exact trivial)
                  have hp := PX.setI (a := a19) (s := ((u36.2.2.1 h0 16).toNatClampNeg)) (v := x43) hp (by rw [k_a19]; decide)
                  obtain ⟨u44, hu44⟩ : ∃ z, z = pSI u36 a19 ((u36.2.2.1 h0 16).toNatClampNeg) x43 := ⟨_, rfl⟩
                  rw [← hu44] at hP hD hu hp
                  have w45 : (u44.2.2.1 a1 (26 + 24 * v1.toInt + 3).toNat).toInt = (u36.2.2.1 a1 (26 + 24 * v1.toInt + 3).toNat).toInt := by rw [hu44]; exact congrArg Int32.toInt (if_neg (fun q => by have y := q.1; have z := k_a1; rw [y, k_a19] at z; exact absurd z (by decide)))
                  have w46 : (u44.2.2.1 h0 21).toInt = (u36.2.2.1 h0 21).toInt := by rw [hu44]; exact congrArg Int32.toInt (if_neg (fun q => by have y := q.1; have z := k_h0; rw [y, k_a19] at z; exact absurd z (by decide)))
                  have w47 : (u44.2.2.1 h0 16).toInt = (u36.2.2.1 h0 16).toInt := by rw [hu44]; exact congrArg Int32.toInt (if_neg (fun q => by have y := q.1; have z := k_h0; rw [y, k_a19] at z; exact absurd z (by decide)))
                  refine lv_aload_n hx hb dX12_bends_186 rfl (lv_at hl 5 rfl) ?_
                  have k_h0 : u44.2.1 h0 = 12 := (hp h0 m0_h0).2.1.trans k0_h0
                  have m_h0 : h0 ∈ u44.1 := (hp h0 m0_h0).1
                  have k_a20 : u44.2.1 a20 = 56 := (hp a20 m0_a20).2.1.trans k0_a20
                  have m_a20 : a20 ∈ u44.1 := (hp a20 m0_a20).1
                  refine pget (ci := 12) (v := va_rf (u44.2.2.2.2 h0 20)) (C := RX12) (T := TX12) (N := 34) hx hb hts i_X12 hown hK hP m_h0 (cF12 k_h0) rfl 20 (by decide) (hts (.fieldLink RX12 46 "BellowsRowModel" "across" "[I") (by decide +kernel)) (fun _ h9 => h9) rfl dX12_bends_187 ?_
                  refine W.eq (g2 := F0 m 190 ls [.ref a20]) (by rw [(((hp h0 m0_h0).2.2.2.2.2.1 k0_h0 20).trans q0_20)]; rfl) ?_
                  refine lv_aload_n hx hb dX12_bends_190 rfl (lv_at hl 5 rfl) ?_
                  refine pget (ci := 12) (v := .int (u44.2.2.1 h0 16)) (C := RX12) (T := TX12) (N := 34) hx hb hts i_X12 hown hK hP m_h0 (cF12 k_h0) rfl 16 (by decide) (hts (.fieldLink RX12 303 "BellowsRowModel" "bendMany" "I") (by decide +kernel)) (fun _ h9 => h9) rfl dX12_bends_191 ?_
                  have g48 := (hu h0 m_h0).2.2.2 16
                  rw [k_h0] at g48
                  replace g48 : 0 ≤ (u44.2.2.1 h0 16).toInt ∧ (u44.2.2.1 h0 16).toInt ≤ 8 := g48
                  refine lv_iload hx hb dX12_bends_194 (lv_at hl 4 rfl) ?_
                  have k_a1 : u44.2.1 a1 = 50 := (hp a1 m0_a1).2.1.trans k0_a1
                  have m_a1 : a1 ∈ u44.1 := (hp a1 m0_a1).1
                  refine psi (As := [.int r5]) (rest := [.int (u44.2.2.1 h0 16), .ref a20]) ⟨hx, hb, hml, hown, hts⟩ (t_X12_upOf l D k r5) (va_cwS 1 hts gX12_bends_X12_upOf rfl rfl rfl (by decide +kernel) ⟨Nat.le_of_ble_eq_true rfl, Nat.le_of_ble_eq_true rfl⟩) hK rfl hl.1 rfl (Nat.le_of_ble_eq_true rfl) dX12_bends_196 ⟨Nat.le_of_ble_eq_true rfl, Nat.le_of_ble_eq_true rfl⟩ (fun r49 hr49 => ?_)
                  refine lv_iload hx hb dX12_bends_199 (lv_at hl 0 rfl) ?_
                  refine psi (As := [.int r26]) (rest := [.int r49, .int (u44.2.2.1 h0 16), .ref a20]) ⟨hx, hb, hml, hown, hts⟩ (t_X12_upOf l D k r26) (va_cwS 1 hts gX12_bends_X12_upOf rfl rfl rfl (by decide +kernel) ⟨Nat.le_of_ble_eq_true rfl, Nat.le_of_ble_eq_true rfl⟩) hK rfl hl.1 rfl (Nat.le_of_ble_eq_true rfl) dX12_bends_201 ⟨Nat.le_of_ble_eq_true rfl, Nat.le_of_ble_eq_true rfl⟩ (fun r50 hr50 => ?_)
                  refine lv_isub hx hb dX12_bends_204 ?_
                  refine lv_topi (fun x51 ex51 => ?_)
                  refine pasI (u' := pSI u44 a20 ((u44.2.2.1 h0 16).toNatClampNeg) x51) hx hb hK hP hD hS m_a20 (cF56 k_a20) 1 rfl (vp_in_iff.mpr (by (try simp only [i_lt, i_le, i_eq, Int32.toInt_toInt64, Int32.reduceToInt, Int64.reduceToInt, true_and, and_true, false_and, and_false, false_or, or_false, true_or, or_true, not_true_eq_false, not_false_eq_true, ne_eq, forall_const, true_implies, false_implies, implies_true] at g_v1 g_v4 ex0 hn17 yr1 hr1 c2 tx3 tx4 tx6 tx7 tx8 c10 w17 w18 w19 tx20 yr21 hr21 c22 tx23 tx24 tx25 c27 b28 b29 g30 w32 w33 w34 g35 w37 w38 w39 g40 c41 c42 tx43 w45 w46 w47 g48 ⊢) <;> omega)) rfl (sF56 k_a20 _ _) dX12_bends_205 (fun H locs hP hD hS => ?_)
                  have hu := WT.setI (a := a20) (s := ((u44.2.2.1 h0 16).toNatClampNeg)) (v := x51) hu (by rw [k_a20]; exact trivial)
                  have hp := PX.setI (a := a20) (s := ((u44.2.2.1 h0 16).toNatClampNeg)) (v := x51) hp (by rw [k_a20]; decide)
                  obtain ⟨u52, hu52⟩ : ∃ z, z = pSI u44 a20 ((u44.2.2.1 h0 16).toNatClampNeg) x51 := ⟨_, rfl⟩
                  rw [← hu52] at hP hD hu hp
                  have w53 : (u52.2.2.1 a1 (26 + 24 * v1.toInt + 3).toNat).toInt = (u44.2.2.1 a1 (26 + 24 * v1.toInt + 3).toNat).toInt := by rw [hu52]; exact congrArg Int32.toInt (if_neg (fun q => by have y := q.1; have z := k_a1; rw [y, k_a20] at z; exact absurd z (by decide)))
                  have w54 : (u52.2.2.1 h0 21).toInt = (u44.2.2.1 h0 21).toInt := by rw [hu52]; exact congrArg Int32.toInt (if_neg (fun q => by have y := q.1; have z := k_h0; rw [y, k_a20] at z; exact absurd z (by decide)))
                  have w55 : (u52.2.2.1 h0 16).toInt = (u44.2.2.1 h0 16).toInt := by rw [hu52]; exact congrArg Int32.toInt (if_neg (fun q => by have y := q.1; have z := k_h0; rw [y, k_a20] at z; exact absurd z (by decide)))
                  refine lv_aload_n hx hb dX12_bends_206 rfl (lv_at hl 5 rfl) ?_
                  refine lv_dup hx hb dX12_bends_207 rfl ?_
                  have k_h0 : u52.2.1 h0 = 12 := (hp h0 m0_h0).2.1.trans k0_h0
                  have m_h0 : h0 ∈ u52.1 := (hp h0 m0_h0).1
                  refine pget (ci := 12) (v := .int (u52.2.2.1 h0 16)) (C := RX12) (T := TX12) (N := 34) hx hb hts i_X12 hown hK hP m_h0 (cF12 k_h0) rfl 16 (by decide) (hts (.fieldLink RX12 303 "BellowsRowModel" "bendMany" "I") (by decide +kernel)) (fun _ h9 => h9) rfl dX12_bends_208 ?_
                  have g56 := (hu h0 m_h0).2.2.2 16
                  rw [k_h0] at g56
                  replace g56 : 0 ≤ (u52.2.2.1 h0 16).toInt ∧ (u52.2.2.1 h0 16).toInt ≤ 8 := g56
                  refine lv_iconst (v := 1) hx hb dX12_bends_211 (by decide) ?_
                  refine lv_iadd hx hb dX12_bends_212 ?_
                  refine lv_topi (fun x57 ex57 => ?_)
                  have tx57 : x57.toInt = (u52.2.2.1 h0 16).toInt + (1 : Int32).toInt := by rw [ex57]; exact i_add (by (try simp only [i_lt, i_le, i_eq, Int32.toInt_toInt64, Int32.reduceToInt, Int64.reduceToInt, true_and, and_true, false_and, and_false, false_or, or_false, true_or, or_true, not_true_eq_false, not_false_eq_true, ne_eq, forall_const, true_implies, false_implies, implies_true] at g_v1 g_v4 ex0 hn17 yr1 hr1 c2 tx3 tx4 tx6 tx7 tx8 c10 w17 w18 w19 tx20 yr21 hr21 c22 tx23 tx24 tx25 c27 b28 b29 g30 w32 w33 w34 g35 w37 w38 w39 g40 c41 c42 tx43 w45 w46 w47 g48 w53 w54 w55 g56 ⊢) <;> omega) (by (try simp only [i_lt, i_le, i_eq, Int32.toInt_toInt64, Int32.reduceToInt, Int64.reduceToInt, true_and, and_true, false_and, and_false, false_or, or_false, true_or, or_true, not_true_eq_false, not_false_eq_true, ne_eq, forall_const, true_implies, false_implies, implies_true] at g_v1 g_v4 ex0 hn17 yr1 hr1 c2 tx3 tx4 tx6 tx7 tx8 c10 w17 w18 w19 tx20 yr21 hr21 c22 tx23 tx24 tx25 c27 b28 b29 g30 w32 w33 w34 g35 w37 w38 w39 g40 c41 c42 tx43 w45 w46 w47 g48 w53 w54 w55 g56 ⊢) <;> omega)
                  have k_a1 : u52.2.1 a1 = 50 := (hp a1 m0_a1).2.1.trans k0_a1
                  have m_a1 : a1 ∈ u52.1 := (hp a1 m0_a1).1
                  refine pput (u' := pSI u52 h0 16 x57) (ci := 12) (v := .int x57) (ty := .int) (C := RX12) (T := TX12) (N := 34) hx hb hts i_X12 tyX12 tyX12_ok nmX12 hown hK hP hD hS m_h0 (cF12 k_h0) rfl 16 (by decide) (hts (.fieldLink RX12 303 "BellowsRowModel" "bendMany" "I") (by decide +kernel)) (fun _ h9 => h9) rfl (by decide +kernel) rfl rfl (Nat.le_of_ble_eq_true rfl) rfl (sF12_16 k_h0 x57) dX12_bends_213 (fun H locs hP hD hS => ?_)
                  have hu := WT.setI (a := h0) (s := 16) (v := x57) hu (by rw [k_h0]; exact (show 0 ≤ x57.toInt ∧ x57.toInt ≤ 8 from by (try simp only [i_lt, i_le, i_eq, Int32.toInt_toInt64, Int32.reduceToInt, Int64.reduceToInt, true_and, and_true, false_and, and_false, false_or, or_false, true_or, or_true, not_true_eq_false, not_false_eq_true, ne_eq, forall_const, true_implies, false_implies, implies_true] at g_v1 g_v4 ex0 hn17 yr1 hr1 c2 tx3 tx4 tx6 tx7 tx8 c10 w17 w18 w19 tx20 yr21 hr21 c22 tx23 tx24 tx25 c27 b28 b29 g30 w32 w33 w34 g35 w37 w38 w39 g40 c41 c42 tx43 w45 w46 w47 g48 w53 w54 w55 g56 tx57 ⊢) <;> omega))
                  have hp := PX.setI (a := h0) (s := 16) (v := x57) hp (by rw [k_h0]; decide)
                  obtain ⟨u58, hu58⟩ : ∃ z, z = pSI u52 h0 16 x57 := ⟨_, rfl⟩
                  rw [← hu58] at hP hD hu hp
                  have w59 : (u58.2.2.1 a1 (26 + 24 * v1.toInt + 3).toNat).toInt = (u52.2.2.1 a1 (26 + 24 * v1.toInt + 3).toNat).toInt := by rw [hu58]; exact congrArg Int32.toInt (if_neg (fun q => by have y := q.1; have z := k_a1; rw [y, k_h0] at z; exact absurd z (by decide)))
                  have w60 : (u58.2.2.1 h0 21).toInt = (u52.2.2.1 h0 21).toInt := by rw [hu58]; exact congrArg Int32.toInt (if_neg (fun q => absurd q.2 (by decide)))
                  have w61 : (u58.2.2.1 h0 16).toInt = x57.toInt := by rw [hu58]; exact congrArg Int32.toInt (if_pos ⟨rfl, rfl⟩)
                  obtain ⟨x62, ex62⟩ : ∃ y : Int32, y = v4 + 1 := ⟨_, rfl⟩
                  have tx62 : x62.toInt = v4.toInt + 1 := by rw [ex62]; exact i_add (b := 1) (by (try simp only [i_lt, i_le, i_eq, Int32.toInt_toInt64, Int32.reduceToInt, Int64.reduceToInt, true_and, and_true, false_and, and_false, false_or, or_false, true_or, or_true, not_true_eq_false, not_false_eq_true, ne_eq, forall_const, true_implies, false_implies, implies_true] at g_v1 g_v4 ex0 hn17 yr1 hr1 c2 tx3 tx4 tx6 tx7 tx8 c10 w17 w18 w19 tx20 yr21 hr21 c22 tx23 tx24 tx25 c27 b28 b29 g30 w32 w33 w34 g35 w37 w38 w39 g40 c41 c42 tx43 w45 w46 w47 g48 w53 w54 w55 g56 tx57 w59 w60 w61 ⊢) <;> omega) (by (try simp only [i_lt, i_le, i_eq, Int32.toInt_toInt64, Int32.reduceToInt, Int64.reduceToInt, true_and, and_true, false_and, and_false, false_or, or_false, true_or, or_true, not_true_eq_false, not_false_eq_true, ne_eq, forall_const, true_implies, false_implies, implies_true] at g_v1 g_v4 ex0 hn17 yr1 hr1 c2 tx3 tx4 tx6 tx7 tx8 c10 w17 w18 w19 tx20 yr21 hr21 c22 tx23 tx24 tx25 c27 b28 b29 g30 w32 w33 w34 g35 w37 w38 w39 g40 c41 c42 tx43 w45 w46 w47 g48 w53 w54 w55 g56 tx57 w59 w60 w61 ⊢) <;> omega)
                  refine lv_iinc (v := x62) (lv' := [(4, .int x62), (7, .int r26), (3, .int x14), (2, .int x11), (6, .int r9), (5, .int r5), (0, .ref h0), (1, .int v1)]) hx hb dX12_bends_216 hl (k := 7) rfl (by rw [ex62]; rfl) (by decide) rfl (fun ls hl => ?_)
                  refine lv_goto (tgt := 17) hx hb dX12_bends_219 (by decide) ?_
                  exact ih17 _ _ _ ls v1 x11 x14 x62 hu hp hP hD hS (by (try simp only [i_lt, i_le, i_eq, Int32.toInt_toInt64, Int32.reduceToInt, Int64.reduceToInt, true_and, and_true, false_and, and_false, false_or, or_false, true_or, or_true, not_true_eq_false, not_false_eq_true, ne_eq, forall_const, true_implies, false_implies, implies_true] at g_v1 g_v4 ex0 hn17 yr1 hr1 c2 tx3 tx4 tx6 tx7 tx8 c10 w17 w18 w19 tx20 yr21 hr21 c22 tx23 tx24 tx25 c27 b28 b29 g30 w32 w33 w34 g35 w37 w38 w39 g40 c41 c42 tx43 w45 w46 w47 g48 w53 w54 w55 g56 tx57 w59 w60 w61 tx62 ⊢) <;> omega) (by (try simp only [i_lt, i_le, i_eq, Int32.toInt_toInt64, Int32.reduceToInt, Int64.reduceToInt, true_and, and_true, false_and, and_false, false_or, or_false, true_or, or_true, not_true_eq_false, not_false_eq_true, ne_eq, forall_const, true_implies, false_implies, implies_true] at g_v1 g_v4 ex0 hn17 yr1 hr1 c2 tx3 tx4 tx6 tx7 tx8 c10 w17 w18 w19 tx20 yr21 hr21 c22 tx23 tx24 tx25 c27 b28 b29 g30 w32 w33 w34 g35 w37 w38 w39 g40 c41 c42 tx43 w45 w46 w47 g48 w53 w54 w55 g56 tx57 w59 w60 w61 tx62 ⊢) <;> omega) (by (try simp only [i_lt, i_le, i_eq, Int32.toInt_toInt64, Int32.reduceToInt, Int64.reduceToInt, true_and, and_true, false_and, and_false, false_or, or_false, true_or, or_true, not_true_eq_false, not_false_eq_true, ne_eq, forall_const, true_implies, false_implies, implies_true] at g_v1 g_v4 ex0 hn17 yr1 hr1 c2 tx3 tx4 tx6 tx7 tx8 c10 w17 w18 w19 tx20 yr21 hr21 c22 tx23 tx24 tx25 c27 b28 b29 g30 w32 w33 w34 g35 w37 w38 w39 g40 c41 c42 tx43 w45 w46 w47 g48 w53 w54 w55 g56 tx57 w59 w60 w61 tx62 ⊢) <;> omega) (by (try simp only [i_lt, i_le, i_eq, Int32.toInt_toInt64, Int32.reduceToInt, Int64.reduceToInt, true_and, and_true, false_and, and_false, false_or, or_false, true_or, or_true, not_true_eq_false, not_false_eq_true, ne_eq, forall_const, true_implies, false_implies, implies_true] at g_v1 g_v4 ex0 hn17 yr1 hr1 c2 tx3 tx4 tx6 tx7 tx8 c10 w17 w18 w19 tx20 yr21 hr21 c22 tx23 tx24 tx25 c27 b28 b29 g30 w32 w33 w34 g35 w37 w38 w39 g40 c41 c42 tx43 w45 w46 w47 g48 w53 w54 w55 g56 tx57 w59 w60 w61 tx62 ⊢) <;> omega) (lv_sub hl [6, 7, 3, 2, 0] rfl)
                · refine lv_iconst (v := 1) hx hb dX12_bends_179 (by decide) ?_
                  refine lv_goto (tgt := 184) hx hb dX12_bends_180 (by decide) ?_
                  refine lv_isub hx hb dX12_bends_184 ?_
                  refine lv_topi (fun x63 ex63 => ?_)
                  have tx63 : x63.toInt = (0 : Int32).toInt - (1 : Int32).toInt := by rw [ex63]; exact i_sub (by (try simp only [i_lt, i_le, i_eq, Int32.toInt_toInt64, Int32.reduceToInt, Int64.reduceToInt, true_and, and_true, false_and, and_false, false_or, or_false, true_or, or_true, not_true_eq_false, not_false_eq_true, ne_eq, forall_const, true_implies, false_implies, implies_true] at g_v1 g_v4 ex0 hn17 yr1 hr1 c2 tx3 tx4 tx6 tx7 tx8 c10 w17 w18 w19 tx20 yr21 hr21 c22 tx23 tx24 tx25 c27 b28 b29 g30 w32 w33 w34 g35 w37 w38 w39 g40 c41 c42 ⊢) <;> omega) (by (try simp only [i_lt, i_le, i_eq, Int32.toInt_toInt64, Int32.reduceToInt, Int64.reduceToInt, true_and, and_true, false_and, and_false, false_or, or_false, true_or, or_true, not_true_eq_false, not_false_eq_true, ne_eq, forall_const, true_implies, false_implies, implies_true] at g_v1 g_v4 ex0 hn17 yr1 hr1 c2 tx3 tx4 tx6 tx7 tx8 c10 w17 w18 w19 tx20 yr21 hr21 c22 tx23 tx24 tx25 c27 b28 b29 g30 w32 w33 w34 g35 w37 w38 w39 g40 c41 c42 ⊢) <;> omega)
                  have k_a1 : u36.2.1 a1 = 50 := (hp a1 m0_a1).2.1.trans k0_a1
                  have m_a1 : a1 ∈ u36.1 := (hp a1 m0_a1).1
                  refine pasI (u' := pSI u36 a19 ((u36.2.2.1 h0 16).toNatClampNeg) x63) hx hb hK hP hD hS m_a19 (cF56 k_a19) 1 rfl (vp_in_iff.mpr (by (try simp only [i_lt, i_le, i_eq, Int32.toInt_toInt64, Int32.reduceToInt, Int64.reduceToInt, true_and, and_true, false_and, and_false, false_or, or_false, true_or, or_true, not_true_eq_false, not_false_eq_true, ne_eq, forall_const, true_implies, false_implies, implies_true] at g_v1 g_v4 ex0 hn17 yr1 hr1 c2 tx3 tx4 tx6 tx7 tx8 c10 w17 w18 w19 tx20 yr21 hr21 c22 tx23 tx24 tx25 c27 b28 b29 g30 w32 w33 w34 g35 w37 w38 w39 g40 c41 c42 tx63 ⊢) <;> omega)) rfl (sF56 k_a19 _ _) dX12_bends_185 (fun H locs hP hD hS => ?_)
                  have hu := WT.setI (a := a19) (s := ((u36.2.2.1 h0 16).toNatClampNeg)) (v := x63) hu (by rw [k_a19]; exact trivial)
                  have hp := PX.setI (a := a19) (s := ((u36.2.2.1 h0 16).toNatClampNeg)) (v := x63) hp (by rw [k_a19]; decide)
                  obtain ⟨u64, hu64⟩ : ∃ z, z = pSI u36 a19 ((u36.2.2.1 h0 16).toNatClampNeg) x63 := ⟨_, rfl⟩
                  rw [← hu64] at hP hD hu hp
                  have w65 : (u64.2.2.1 a1 (26 + 24 * v1.toInt + 3).toNat).toInt = (u36.2.2.1 a1 (26 + 24 * v1.toInt + 3).toNat).toInt := by rw [hu64]; exact congrArg Int32.toInt (if_neg (fun q => by have y := q.1; have z := k_a1; rw [y, k_a19] at z; exact absurd z (by decide)))
                  have w66 : (u64.2.2.1 h0 21).toInt = (u36.2.2.1 h0 21).toInt := by rw [hu64]; exact congrArg Int32.toInt (if_neg (fun q => by have y := q.1; have z := k_h0; rw [y, k_a19] at z; exact absurd z (by decide)))
                  have w67 : (u64.2.2.1 h0 16).toInt = (u36.2.2.1 h0 16).toInt := by rw [hu64]; exact congrArg Int32.toInt (if_neg (fun q => by have y := q.1; have z := k_h0; rw [y, k_a19] at z; exact absurd z (by decide)))
                  refine lv_aload_n hx hb dX12_bends_186 rfl (lv_at hl 5 rfl) ?_
                  have k_h0 : u64.2.1 h0 = 12 := (hp h0 m0_h0).2.1.trans k0_h0
                  have m_h0 : h0 ∈ u64.1 := (hp h0 m0_h0).1
                  have k_a20 : u64.2.1 a20 = 56 := (hp a20 m0_a20).2.1.trans k0_a20
                  have m_a20 : a20 ∈ u64.1 := (hp a20 m0_a20).1
                  refine pget (ci := 12) (v := va_rf (u64.2.2.2.2 h0 20)) (C := RX12) (T := TX12) (N := 34) hx hb hts i_X12 hown hK hP m_h0 (cF12 k_h0) rfl 20 (by decide) (hts (.fieldLink RX12 46 "BellowsRowModel" "across" "[I") (by decide +kernel)) (fun _ h9 => h9) rfl dX12_bends_187 ?_
                  refine W.eq (g2 := F0 m 190 ls [.ref a20]) (by rw [(((hp h0 m0_h0).2.2.2.2.2.1 k0_h0 20).trans q0_20)]; rfl) ?_
                  refine lv_aload_n hx hb dX12_bends_190 rfl (lv_at hl 5 rfl) ?_
                  refine pget (ci := 12) (v := .int (u64.2.2.1 h0 16)) (C := RX12) (T := TX12) (N := 34) hx hb hts i_X12 hown hK hP m_h0 (cF12 k_h0) rfl 16 (by decide) (hts (.fieldLink RX12 303 "BellowsRowModel" "bendMany" "I") (by decide +kernel)) (fun _ h9 => h9) rfl dX12_bends_191 ?_
                  have g68 := (hu h0 m_h0).2.2.2 16
                  rw [k_h0] at g68
                  replace g68 : 0 ≤ (u64.2.2.1 h0 16).toInt ∧ (u64.2.2.1 h0 16).toInt ≤ 8 := g68
                  refine lv_iload hx hb dX12_bends_194 (lv_at hl 4 rfl) ?_
                  have k_a1 : u64.2.1 a1 = 50 := (hp a1 m0_a1).2.1.trans k0_a1
                  have m_a1 : a1 ∈ u64.1 := (hp a1 m0_a1).1
                  refine psi (As := [.int r5]) (rest := [.int (u64.2.2.1 h0 16), .ref a20]) ⟨hx, hb, hml, hown, hts⟩ (t_X12_upOf l D k r5) (va_cwS 1 hts gX12_bends_X12_upOf rfl rfl rfl (by decide +kernel) ⟨Nat.le_of_ble_eq_true rfl, Nat.le_of_ble_eq_true rfl⟩) hK rfl hl.1 rfl (Nat.le_of_ble_eq_true rfl) dX12_bends_196 ⟨Nat.le_of_ble_eq_true rfl, Nat.le_of_ble_eq_true rfl⟩ (fun r69 hr69 => ?_)
                  refine lv_iload hx hb dX12_bends_199 (lv_at hl 0 rfl) ?_
                  refine psi (As := [.int r26]) (rest := [.int r69, .int (u64.2.2.1 h0 16), .ref a20]) ⟨hx, hb, hml, hown, hts⟩ (t_X12_upOf l D k r26) (va_cwS 1 hts gX12_bends_X12_upOf rfl rfl rfl (by decide +kernel) ⟨Nat.le_of_ble_eq_true rfl, Nat.le_of_ble_eq_true rfl⟩) hK rfl hl.1 rfl (Nat.le_of_ble_eq_true rfl) dX12_bends_201 ⟨Nat.le_of_ble_eq_true rfl, Nat.le_of_ble_eq_true rfl⟩ (fun r70 hr70 => ?_)
                  refine lv_isub hx hb dX12_bends_204 ?_
                  refine lv_topi (fun x71 ex71 => ?_)
                  refine pasI (u' := pSI u64 a20 ((u64.2.2.1 h0 16).toNatClampNeg) x71) hx hb hK hP hD hS m_a20 (cF56 k_a20) 1 rfl (vp_in_iff.mpr (by (try simp only [i_lt, i_le, i_eq, Int32.toInt_toInt64, Int32.reduceToInt, Int64.reduceToInt, true_and, and_true, false_and, and_false, false_or, or_false, true_or, or_true, not_true_eq_false, not_false_eq_true, ne_eq, forall_const, true_implies, false_implies, implies_true] at g_v1 g_v4 ex0 hn17 yr1 hr1 c2 tx3 tx4 tx6 tx7 tx8 c10 w17 w18 w19 tx20 yr21 hr21 c22 tx23 tx24 tx25 c27 b28 b29 g30 w32 w33 w34 g35 w37 w38 w39 g40 c41 c42 tx63 w65 w66 w67 g68 ⊢) <;> omega)) rfl (sF56 k_a20 _ _) dX12_bends_205 (fun H locs hP hD hS => ?_)
                  have hu := WT.setI (a := a20) (s := ((u64.2.2.1 h0 16).toNatClampNeg)) (v := x71) hu (by rw [k_a20]; exact trivial)
                  have hp := PX.setI (a := a20) (s := ((u64.2.2.1 h0 16).toNatClampNeg)) (v := x71) hp (by rw [k_a20]; decide)
                  obtain ⟨u72, hu72⟩ : ∃ z, z = pSI u64 a20 ((u64.2.2.1 h0 16).toNatClampNeg) x71 := ⟨_, rfl⟩
                  rw [← hu72] at hP hD hu hp
                  have w73 : (u72.2.2.1 a1 (26 + 24 * v1.toInt + 3).toNat).toInt = (u64.2.2.1 a1 (26 + 24 * v1.toInt + 3).toNat).toInt := by rw [hu72]; exact congrArg Int32.toInt (if_neg (fun q => by have y := q.1; have z := k_a1; rw [y, k_a20] at z; exact absurd z (by decide)))
                  have w74 : (u72.2.2.1 h0 21).toInt = (u64.2.2.1 h0 21).toInt := by rw [hu72]; exact congrArg Int32.toInt (if_neg (fun q => by have y := q.1; have z := k_h0; rw [y, k_a20] at z; exact absurd z (by decide)))
                  have w75 : (u72.2.2.1 h0 16).toInt = (u64.2.2.1 h0 16).toInt := by rw [hu72]; exact congrArg Int32.toInt (if_neg (fun q => by have y := q.1; have z := k_h0; rw [y, k_a20] at z; exact absurd z (by decide)))
                  refine lv_aload_n hx hb dX12_bends_206 rfl (lv_at hl 5 rfl) ?_
                  refine lv_dup hx hb dX12_bends_207 rfl ?_
                  have k_h0 : u72.2.1 h0 = 12 := (hp h0 m0_h0).2.1.trans k0_h0
                  have m_h0 : h0 ∈ u72.1 := (hp h0 m0_h0).1
                  refine pget (ci := 12) (v := .int (u72.2.2.1 h0 16)) (C := RX12) (T := TX12) (N := 34) hx hb hts i_X12 hown hK hP m_h0 (cF12 k_h0) rfl 16 (by decide) (hts (.fieldLink RX12 303 "BellowsRowModel" "bendMany" "I") (by decide +kernel)) (fun _ h9 => h9) rfl dX12_bends_208 ?_
                  have g76 := (hu h0 m_h0).2.2.2 16
                  rw [k_h0] at g76
                  replace g76 : 0 ≤ (u72.2.2.1 h0 16).toInt ∧ (u72.2.2.1 h0 16).toInt ≤ 8 := g76
                  refine lv_iconst (v := 1) hx hb dX12_bends_211 (by decide) ?_
                  refine lv_iadd hx hb dX12_bends_212 ?_
                  refine lv_topi (fun x77 ex77 => ?_)
                  have tx77 : x77.toInt = (u72.2.2.1 h0 16).toInt + (1 : Int32).toInt := by rw [ex77]; exact i_add (by (try simp only [i_lt, i_le, i_eq, Int32.toInt_toInt64, Int32.reduceToInt, Int64.reduceToInt, true_and, and_true, false_and, and_false, false_or, or_false, true_or, or_true, not_true_eq_false, not_false_eq_true, ne_eq, forall_const, true_implies, false_implies, implies_true] at g_v1 g_v4 ex0 hn17 yr1 hr1 c2 tx3 tx4 tx6 tx7 tx8 c10 w17 w18 w19 tx20 yr21 hr21 c22 tx23 tx24 tx25 c27 b28 b29 g30 w32 w33 w34 g35 w37 w38 w39 g40 c41 c42 tx63 w65 w66 w67 g68 w73 w74 w75 g76 ⊢) <;> omega) (by (try simp only [i_lt, i_le, i_eq, Int32.toInt_toInt64, Int32.reduceToInt, Int64.reduceToInt, true_and, and_true, false_and, and_false, false_or, or_false, true_or, or_true, not_true_eq_false, not_false_eq_true, ne_eq, forall_const, true_implies, false_implies, implies_true] at g_v1 g_v4 ex0 hn17 yr1 hr1 c2 tx3 tx4 tx6 tx7 tx8 c10 w17 w18 w19 tx20 yr21 hr21 c22 tx23 tx24 tx25 c27 b28 b29 g30 w32 w33 w34 g35 w37 w38 w39 g40 c41 c42 tx63 w65 w66 w67 g68 w73 w74 w75 g76 ⊢) <;> omega)
                  have k_a1 : u72.2.1 a1 = 50 := (hp a1 m0_a1).2.1.trans k0_a1
                  have m_a1 : a1 ∈ u72.1 := (hp a1 m0_a1).1
                  refine pput (u' := pSI u72 h0 16 x77) (ci := 12) (v := .int x77) (ty := .int) (C := RX12) (T := TX12) (N := 34) hx hb hts i_X12 tyX12 tyX12_ok nmX12 hown hK hP hD hS m_h0 (cF12 k_h0) rfl 16 (by decide) (hts (.fieldLink RX12 303 "BellowsRowModel" "bendMany" "I") (by decide +kernel)) (fun _ h9 => h9) rfl (by decide +kernel) rfl rfl (Nat.le_of_ble_eq_true rfl) rfl (sF12_16 k_h0 x77) dX12_bends_213 (fun H locs hP hD hS => ?_)
                  have hu := WT.setI (a := h0) (s := 16) (v := x77) hu (by rw [k_h0]; exact (show 0 ≤ x77.toInt ∧ x77.toInt ≤ 8 from by (try simp only [i_lt, i_le, i_eq, Int32.toInt_toInt64, Int32.reduceToInt, Int64.reduceToInt, true_and, and_true, false_and, and_false, false_or, or_false, true_or, or_true, not_true_eq_false, not_false_eq_true, ne_eq, forall_const, true_implies, false_implies, implies_true] at g_v1 g_v4 ex0 hn17 yr1 hr1 c2 tx3 tx4 tx6 tx7 tx8 c10 w17 w18 w19 tx20 yr21 hr21 c22 tx23 tx24 tx25 c27 b28 b29 g30 w32 w33 w34 g35 w37 w38 w39 g40 c41 c42 tx63 w65 w66 w67 g68 w73 w74 w75 g76 tx77 ⊢) <;> omega))
                  have hp := PX.setI (a := h0) (s := 16) (v := x77) hp (by rw [k_h0]; decide)
                  obtain ⟨u78, hu78⟩ : ∃ z, z = pSI u72 h0 16 x77 := ⟨_, rfl⟩
                  rw [← hu78] at hP hD hu hp
                  have w79 : (u78.2.2.1 a1 (26 + 24 * v1.toInt + 3).toNat).toInt = (u72.2.2.1 a1 (26 + 24 * v1.toInt + 3).toNat).toInt := by rw [hu78]; exact congrArg Int32.toInt (if_neg (fun q => by have y := q.1; have z := k_a1; rw [y, k_h0] at z; exact absurd z (by decide)))
                  have w80 : (u78.2.2.1 h0 21).toInt = (u72.2.2.1 h0 21).toInt := by rw [hu78]; exact congrArg Int32.toInt (if_neg (fun q => absurd q.2 (by decide)))
                  have w81 : (u78.2.2.1 h0 16).toInt = x77.toInt := by rw [hu78]; exact congrArg Int32.toInt (if_pos ⟨rfl, rfl⟩)
                  obtain ⟨x82, ex82⟩ : ∃ y : Int32, y = v4 + 1 := ⟨_, rfl⟩
                  have tx82 : x82.toInt = v4.toInt + 1 := by rw [ex82]; exact i_add (b := 1) (by (try simp only [i_lt, i_le, i_eq, Int32.toInt_toInt64, Int32.reduceToInt, Int64.reduceToInt, true_and, and_true, false_and, and_false, false_or, or_false, true_or, or_true, not_true_eq_false, not_false_eq_true, ne_eq, forall_const, true_implies, false_implies, implies_true] at g_v1 g_v4 ex0 hn17 yr1 hr1 c2 tx3 tx4 tx6 tx7 tx8 c10 w17 w18 w19 tx20 yr21 hr21 c22 tx23 tx24 tx25 c27 b28 b29 g30 w32 w33 w34 g35 w37 w38 w39 g40 c41 c42 tx63 w65 w66 w67 g68 w73 w74 w75 g76 tx77 w79 w80 w81 ⊢) <;> omega) (by (try simp only [i_lt, i_le, i_eq, Int32.toInt_toInt64, Int32.reduceToInt, Int64.reduceToInt, true_and, and_true, false_and, and_false, false_or, or_false, true_or, or_true, not_true_eq_false, not_false_eq_true, ne_eq, forall_const, true_implies, false_implies, implies_true] at g_v1 g_v4 ex0 hn17 yr1 hr1 c2 tx3 tx4 tx6 tx7 tx8 c10 w17 w18 w19 tx20 yr21 hr21 c22 tx23 tx24 tx25 c27 b28 b29 g30 w32 w33 w34 g35 w37 w38 w39 g40 c41 c42 tx63 w65 w66 w67 g68 w73 w74 w75 g76 tx77 w79 w80 w81 ⊢) <;> omega)
                  refine lv_iinc (v := x82) (lv' := [(4, .int x82), (7, .int r26), (3, .int x14), (2, .int x11), (6, .int r9), (5, .int r5), (0, .ref h0), (1, .int v1)]) hx hb dX12_bends_216 hl (k := 7) rfl (by rw [ex82]; rfl) (by decide) rfl (fun ls hl => ?_)
                  refine lv_goto (tgt := 17) hx hb dX12_bends_219 (by decide) ?_
                  exact ih17 _ _ _ ls v1 x11 x14 x82 hu hp hP hD hS (by (try simp only [i_lt, i_le, i_eq, Int32.toInt_toInt64, Int32.reduceToInt, Int64.reduceToInt, true_and, and_true, false_and, and_false, false_or, or_false, true_or, or_true, not_true_eq_false, not_false_eq_true, ne_eq, forall_const, true_implies, false_implies, implies_true] at g_v1 g_v4 ex0 hn17 yr1 hr1 c2 tx3 tx4 tx6 tx7 tx8 c10 w17 w18 w19 tx20 yr21 hr21 c22 tx23 tx24 tx25 c27 b28 b29 g30 w32 w33 w34 g35 w37 w38 w39 g40 c41 c42 tx63 w65 w66 w67 g68 w73 w74 w75 g76 tx77 w79 w80 w81 tx82 ⊢) <;> omega) (by (try simp only [i_lt, i_le, i_eq, Int32.toInt_toInt64, Int32.reduceToInt, Int64.reduceToInt, true_and, and_true, false_and, and_false, false_or, or_false, true_or, or_true, not_true_eq_false, not_false_eq_true, ne_eq, forall_const, true_implies, false_implies, implies_true] at g_v1 g_v4 ex0 hn17 yr1 hr1 c2 tx3 tx4 tx6 tx7 tx8 c10 w17 w18 w19 tx20 yr21 hr21 c22 tx23 tx24 tx25 c27 b28 b29 g30 w32 w33 w34 g35 w37 w38 w39 g40 c41 c42 tx63 w65 w66 w67 g68 w73 w74 w75 g76 tx77 w79 w80 w81 tx82 ⊢) <;> omega) (by (try simp only [i_lt, i_le, i_eq, Int32.toInt_toInt64, Int32.reduceToInt, Int64.reduceToInt, true_and, and_true, false_and, and_false, false_or, or_false, true_or, or_true, not_true_eq_false, not_false_eq_true, ne_eq, forall_const, true_implies, false_implies, implies_true] at g_v1 g_v4 ex0 hn17 yr1 hr1 c2 tx3 tx4 tx6 tx7 tx8 c10 w17 w18 w19 tx20 yr21 hr21 c22 tx23 tx24 tx25 c27 b28 b29 g30 w32 w33 w34 g35 w37 w38 w39 g40 c41 c42 tx63 w65 w66 w67 g68 w73 w74 w75 g76 tx77 w79 w80 w81 tx82 ⊢) <;> omega) (by (try simp only [i_lt, i_le, i_eq, Int32.toInt_toInt64, Int32.reduceToInt, Int64.reduceToInt, true_and, and_true, false_and, and_false, false_or, or_false, true_or, or_true, not_true_eq_false, not_false_eq_true, ne_eq, forall_const, true_implies, false_implies, implies_true] at g_v1 g_v4 ex0 hn17 yr1 hr1 c2 tx3 tx4 tx6 tx7 tx8 c10 w17 w18 w19 tx20 yr21 hr21 c22 tx23 tx24 tx25 c27 b28 b29 g30 w32 w33 w34 g35 w37 w38 w39 g40 c41 c42 tx63 w65 w66 w67 g68 w73 w74 w75 g76 tx77 w79 w80 w81 tx82 ⊢) <;> omega) (lv_sub hl [6, 7, 3, 2, 0] rfl)
              · refine lv_iconst (v := 1) hx hb dX12_bends_169 (by decide) ?_
                refine lv_goto (tgt := 174) hx hb dX12_bends_170 (by decide) ?_
                refine lv_iload hx hb dX12_bends_174 (lv_at hl 0 rfl) ?_
                refine lv_if_ne (tgt := 183) hx hb dX12_bends_176 (by decide) (fun c83 => ?_) (fun c83 => ?_)
                · refine lv_iconst (v := 0) hx hb dX12_bends_183 (by decide) ?_
                  refine lv_isub hx hb dX12_bends_184 ?_
                  refine lv_topi (fun x84 ex84 => ?_)
                  have tx84 : x84.toInt = (1 : Int32).toInt - (0 : Int32).toInt := by rw [ex84]; exact i_sub (by (try simp only [i_lt, i_le, i_eq, Int32.toInt_toInt64, Int32.reduceToInt, Int64.reduceToInt, true_and, and_true, false_and, and_false, false_or, or_false, true_or, or_true, not_true_eq_false, not_false_eq_true, ne_eq, forall_const, true_implies, false_implies, implies_true] at g_v1 g_v4 ex0 hn17 yr1 hr1 c2 tx3 tx4 tx6 tx7 tx8 c10 w17 w18 w19 tx20 yr21 hr21 c22 tx23 tx24 tx25 c27 b28 b29 g30 w32 w33 w34 g35 w37 w38 w39 g40 c41 c83 ⊢) <;> omega) (by (try simp only [i_lt, i_le, i_eq, Int32.toInt_toInt64, Int32.reduceToInt, Int64.reduceToInt, true_and, and_true, false_and, and_false, false_or, or_false, true_or, or_true, not_true_eq_false, not_false_eq_true, ne_eq, forall_const, true_implies, false_implies, implies_true] at g_v1 g_v4 ex0 hn17 yr1 hr1 c2 tx3 tx4 tx6 tx7 tx8 c10 w17 w18 w19 tx20 yr21 hr21 c22 tx23 tx24 tx25 c27 b28 b29 g30 w32 w33 w34 g35 w37 w38 w39 g40 c41 c83 ⊢) <;> omega)
                  have k_a1 : u36.2.1 a1 = 50 := (hp a1 m0_a1).2.1.trans k0_a1
                  have m_a1 : a1 ∈ u36.1 := (hp a1 m0_a1).1
                  refine pasI (u' := pSI u36 a19 ((u36.2.2.1 h0 16).toNatClampNeg) x84) hx hb hK hP hD hS m_a19 (cF56 k_a19) 1 rfl (vp_in_iff.mpr (by (try simp only [i_lt, i_le, i_eq, Int32.toInt_toInt64, Int32.reduceToInt, Int64.reduceToInt, true_and, and_true, false_and, and_false, false_or, or_false, true_or, or_true, not_true_eq_false, not_false_eq_true, ne_eq, forall_const, true_implies, false_implies, implies_true] at g_v1 g_v4 ex0 hn17 yr1 hr1 c2 tx3 tx4 tx6 tx7 tx8 c10 w17 w18 w19 tx20 yr21 hr21 c22 tx23 tx24 tx25 c27 b28 b29 g30 w32 w33 w34 g35 w37 w38 w39 g40 c41 c83 tx84 ⊢) <;> omega)) rfl (sF56 k_a19 _ _) dX12_bends_185 (fun H locs hP hD hS => ?_)
                  have hu := WT.setI (a := a19) (s := ((u36.2.2.1 h0 16).toNatClampNeg)) (v := x84) hu (by rw [k_a19]; exact trivial)
                  have hp := PX.setI (a := a19) (s := ((u36.2.2.1 h0 16).toNatClampNeg)) (v := x84) hp (by rw [k_a19]; decide)
                  obtain ⟨u85, hu85⟩ : ∃ z, z = pSI u36 a19 ((u36.2.2.1 h0 16).toNatClampNeg) x84 := ⟨_, rfl⟩
                  rw [← hu85] at hP hD hu hp
                  have w86 : (u85.2.2.1 a1 (26 + 24 * v1.toInt + 3).toNat).toInt = (u36.2.2.1 a1 (26 + 24 * v1.toInt + 3).toNat).toInt := by rw [hu85]; exact congrArg Int32.toInt (if_neg (fun q => by have y := q.1; have z := k_a1; rw [y, k_a19] at z; exact absurd z (by decide)))
                  have w87 : (u85.2.2.1 h0 21).toInt = (u36.2.2.1 h0 21).toInt := by rw [hu85]; exact congrArg Int32.toInt (if_neg (fun q => by have y := q.1; have z := k_h0; rw [y, k_a19] at z; exact absurd z (by decide)))
                  have w88 : (u85.2.2.1 h0 16).toInt = (u36.2.2.1 h0 16).toInt := by rw [hu85]; exact congrArg Int32.toInt (if_neg (fun q => by have y := q.1; have z := k_h0; rw [y, k_a19] at z; exact absurd z (by decide)))
                  refine lv_aload_n hx hb dX12_bends_186 rfl (lv_at hl 5 rfl) ?_
                  have k_h0 : u85.2.1 h0 = 12 := (hp h0 m0_h0).2.1.trans k0_h0
                  have m_h0 : h0 ∈ u85.1 := (hp h0 m0_h0).1
                  have k_a20 : u85.2.1 a20 = 56 := (hp a20 m0_a20).2.1.trans k0_a20
                  have m_a20 : a20 ∈ u85.1 := (hp a20 m0_a20).1
                  refine pget (ci := 12) (v := va_rf (u85.2.2.2.2 h0 20)) (C := RX12) (T := TX12) (N := 34) hx hb hts i_X12 hown hK hP m_h0 (cF12 k_h0) rfl 20 (by decide) (hts (.fieldLink RX12 46 "BellowsRowModel" "across" "[I") (by decide +kernel)) (fun _ h9 => h9) rfl dX12_bends_187 ?_
                  refine W.eq (g2 := F0 m 190 ls [.ref a20]) (by rw [(((hp h0 m0_h0).2.2.2.2.2.1 k0_h0 20).trans q0_20)]; rfl) ?_
                  refine lv_aload_n hx hb dX12_bends_190 rfl (lv_at hl 5 rfl) ?_
                  refine pget (ci := 12) (v := .int (u85.2.2.1 h0 16)) (C := RX12) (T := TX12) (N := 34) hx hb hts i_X12 hown hK hP m_h0 (cF12 k_h0) rfl 16 (by decide) (hts (.fieldLink RX12 303 "BellowsRowModel" "bendMany" "I") (by decide +kernel)) (fun _ h9 => h9) rfl dX12_bends_191 ?_
                  have g89 := (hu h0 m_h0).2.2.2 16
                  rw [k_h0] at g89
                  replace g89 : 0 ≤ (u85.2.2.1 h0 16).toInt ∧ (u85.2.2.1 h0 16).toInt ≤ 8 := g89
                  refine lv_iload hx hb dX12_bends_194 (lv_at hl 4 rfl) ?_
                  have k_a1 : u85.2.1 a1 = 50 := (hp a1 m0_a1).2.1.trans k0_a1
                  have m_a1 : a1 ∈ u85.1 := (hp a1 m0_a1).1
                  refine psi (As := [.int r5]) (rest := [.int (u85.2.2.1 h0 16), .ref a20]) ⟨hx, hb, hml, hown, hts⟩ (t_X12_upOf l D k r5) (va_cwS 1 hts gX12_bends_X12_upOf rfl rfl rfl (by decide +kernel) ⟨Nat.le_of_ble_eq_true rfl, Nat.le_of_ble_eq_true rfl⟩) hK rfl hl.1 rfl (Nat.le_of_ble_eq_true rfl) dX12_bends_196 ⟨Nat.le_of_ble_eq_true rfl, Nat.le_of_ble_eq_true rfl⟩ (fun r90 hr90 => ?_)
                  refine lv_iload hx hb dX12_bends_199 (lv_at hl 0 rfl) ?_
                  refine psi (As := [.int r26]) (rest := [.int r90, .int (u85.2.2.1 h0 16), .ref a20]) ⟨hx, hb, hml, hown, hts⟩ (t_X12_upOf l D k r26) (va_cwS 1 hts gX12_bends_X12_upOf rfl rfl rfl (by decide +kernel) ⟨Nat.le_of_ble_eq_true rfl, Nat.le_of_ble_eq_true rfl⟩) hK rfl hl.1 rfl (Nat.le_of_ble_eq_true rfl) dX12_bends_201 ⟨Nat.le_of_ble_eq_true rfl, Nat.le_of_ble_eq_true rfl⟩ (fun r91 hr91 => ?_)
                  refine lv_isub hx hb dX12_bends_204 ?_
                  refine lv_topi (fun x92 ex92 => ?_)
                  refine pasI (u' := pSI u85 a20 ((u85.2.2.1 h0 16).toNatClampNeg) x92) hx hb hK hP hD hS m_a20 (cF56 k_a20) 1 rfl (vp_in_iff.mpr (by (try simp only [i_lt, i_le, i_eq, Int32.toInt_toInt64, Int32.reduceToInt, Int64.reduceToInt, true_and, and_true, false_and, and_false, false_or, or_false, true_or, or_true, not_true_eq_false, not_false_eq_true, ne_eq, forall_const, true_implies, false_implies, implies_true] at g_v1 g_v4 ex0 hn17 yr1 hr1 c2 tx3 tx4 tx6 tx7 tx8 c10 w17 w18 w19 tx20 yr21 hr21 c22 tx23 tx24 tx25 c27 b28 b29 g30 w32 w33 w34 g35 w37 w38 w39 g40 c41 c83 tx84 w86 w87 w88 g89 ⊢) <;> omega)) rfl (sF56 k_a20 _ _) dX12_bends_205 (fun H locs hP hD hS => ?_)
                  have hu := WT.setI (a := a20) (s := ((u85.2.2.1 h0 16).toNatClampNeg)) (v := x92) hu (by rw [k_a20]; exact trivial)
                  have hp := PX.setI (a := a20) (s := ((u85.2.2.1 h0 16).toNatClampNeg)) (v := x92) hp (by rw [k_a20]; decide)
                  obtain ⟨u93, hu93⟩ : ∃ z, z = pSI u85 a20 ((u85.2.2.1 h0 16).toNatClampNeg) x92 := ⟨_, rfl⟩
                  rw [← hu93] at hP hD hu hp
                  have w94 : (u93.2.2.1 a1 (26 + 24 * v1.toInt + 3).toNat).toInt = (u85.2.2.1 a1 (26 + 24 * v1.toInt + 3).toNat).toInt := by rw [hu93]; exact congrArg Int32.toInt (if_neg (fun q => by have y := q.1; have z := k_a1; rw [y, k_a20] at z; exact absurd z (by decide)))
                  have w95 : (u93.2.2.1 h0 21).toInt = (u85.2.2.1 h0 21).toInt := by rw [hu93]; exact congrArg Int32.toInt (if_neg (fun q => by have y := q.1; have z := k_h0; rw [y, k_a20] at z; exact absurd z (by decide)))
                  have w96 : (u93.2.2.1 h0 16).toInt = (u85.2.2.1 h0 16).toInt := by rw [hu93]; exact congrArg Int32.toInt (if_neg (fun q => by have y := q.1; have z := k_h0; rw [y, k_a20] at z; exact absurd z (by decide)))
                  refine lv_aload_n hx hb dX12_bends_206 rfl (lv_at hl 5 rfl) ?_
                  refine lv_dup hx hb dX12_bends_207 rfl ?_
                  have k_h0 : u93.2.1 h0 = 12 := (hp h0 m0_h0).2.1.trans k0_h0
                  have m_h0 : h0 ∈ u93.1 := (hp h0 m0_h0).1
                  refine pget (ci := 12) (v := .int (u93.2.2.1 h0 16)) (C := RX12) (T := TX12) (N := 34) hx hb hts i_X12 hown hK hP m_h0 (cF12 k_h0) rfl 16 (by decide) (hts (.fieldLink RX12 303 "BellowsRowModel" "bendMany" "I") (by decide +kernel)) (fun _ h9 => h9) rfl dX12_bends_208 ?_
                  have g97 := (hu h0 m_h0).2.2.2 16
                  rw [k_h0] at g97
                  replace g97 : 0 ≤ (u93.2.2.1 h0 16).toInt ∧ (u93.2.2.1 h0 16).toInt ≤ 8 := g97
                  refine lv_iconst (v := 1) hx hb dX12_bends_211 (by decide) ?_
                  refine lv_iadd hx hb dX12_bends_212 ?_
                  refine lv_topi (fun x98 ex98 => ?_)
                  have tx98 : x98.toInt = (u93.2.2.1 h0 16).toInt + (1 : Int32).toInt := by rw [ex98]; exact i_add (by (try simp only [i_lt, i_le, i_eq, Int32.toInt_toInt64, Int32.reduceToInt, Int64.reduceToInt, true_and, and_true, false_and, and_false, false_or, or_false, true_or, or_true, not_true_eq_false, not_false_eq_true, ne_eq, forall_const, true_implies, false_implies, implies_true] at g_v1 g_v4 ex0 hn17 yr1 hr1 c2 tx3 tx4 tx6 tx7 tx8 c10 w17 w18 w19 tx20 yr21 hr21 c22 tx23 tx24 tx25 c27 b28 b29 g30 w32 w33 w34 g35 w37 w38 w39 g40 c41 c83 tx84 w86 w87 w88 g89 w94 w95 w96 g97 ⊢) <;> omega) (by (try simp only [i_lt, i_le, i_eq, Int32.toInt_toInt64, Int32.reduceToInt, Int64.reduceToInt, true_and, and_true, false_and, and_false, false_or, or_false, true_or, or_true, not_true_eq_false, not_false_eq_true, ne_eq, forall_const, true_implies, false_implies, implies_true] at g_v1 g_v4 ex0 hn17 yr1 hr1 c2 tx3 tx4 tx6 tx7 tx8 c10 w17 w18 w19 tx20 yr21 hr21 c22 tx23 tx24 tx25 c27 b28 b29 g30 w32 w33 w34 g35 w37 w38 w39 g40 c41 c83 tx84 w86 w87 w88 g89 w94 w95 w96 g97 ⊢) <;> omega)
                  have k_a1 : u93.2.1 a1 = 50 := (hp a1 m0_a1).2.1.trans k0_a1
                  have m_a1 : a1 ∈ u93.1 := (hp a1 m0_a1).1
                  refine pput (u' := pSI u93 h0 16 x98) (ci := 12) (v := .int x98) (ty := .int) (C := RX12) (T := TX12) (N := 34) hx hb hts i_X12 tyX12 tyX12_ok nmX12 hown hK hP hD hS m_h0 (cF12 k_h0) rfl 16 (by decide) (hts (.fieldLink RX12 303 "BellowsRowModel" "bendMany" "I") (by decide +kernel)) (fun _ h9 => h9) rfl (by decide +kernel) rfl rfl (Nat.le_of_ble_eq_true rfl) rfl (sF12_16 k_h0 x98) dX12_bends_213 (fun H locs hP hD hS => ?_)
                  have hu := WT.setI (a := h0) (s := 16) (v := x98) hu (by rw [k_h0]; exact (show 0 ≤ x98.toInt ∧ x98.toInt ≤ 8 from by (try simp only [i_lt, i_le, i_eq, Int32.toInt_toInt64, Int32.reduceToInt, Int64.reduceToInt, true_and, and_true, false_and, and_false, false_or, or_false, true_or, or_true, not_true_eq_false, not_false_eq_true, ne_eq, forall_const, true_implies, false_implies, implies_true] at g_v1 g_v4 ex0 hn17 yr1 hr1 c2 tx3 tx4 tx6 tx7 tx8 c10 w17 w18 w19 tx20 yr21 hr21 c22 tx23 tx24 tx25 c27 b28 b29 g30 w32 w33 w34 g35 w37 w38 w39 g40 c41 c83 tx84 w86 w87 w88 g89 w94 w95 w96 g97 tx98 ⊢) <;> omega))
                  have hp := PX.setI (a := h0) (s := 16) (v := x98) hp (by rw [k_h0]; decide)
                  obtain ⟨u99, hu99⟩ : ∃ z, z = pSI u93 h0 16 x98 := ⟨_, rfl⟩
                  rw [← hu99] at hP hD hu hp
                  have w100 : (u99.2.2.1 a1 (26 + 24 * v1.toInt + 3).toNat).toInt = (u93.2.2.1 a1 (26 + 24 * v1.toInt + 3).toNat).toInt := by rw [hu99]; exact congrArg Int32.toInt (if_neg (fun q => by have y := q.1; have z := k_a1; rw [y, k_h0] at z; exact absurd z (by decide)))
                  have w101 : (u99.2.2.1 h0 21).toInt = (u93.2.2.1 h0 21).toInt := by rw [hu99]; exact congrArg Int32.toInt (if_neg (fun q => absurd q.2 (by decide)))
                  have w102 : (u99.2.2.1 h0 16).toInt = x98.toInt := by rw [hu99]; exact congrArg Int32.toInt (if_pos ⟨rfl, rfl⟩)
                  obtain ⟨x103, ex103⟩ : ∃ y : Int32, y = v4 + 1 := ⟨_, rfl⟩
                  have tx103 : x103.toInt = v4.toInt + 1 := by rw [ex103]; exact i_add (b := 1) (by (try simp only [i_lt, i_le, i_eq, Int32.toInt_toInt64, Int32.reduceToInt, Int64.reduceToInt, true_and, and_true, false_and, and_false, false_or, or_false, true_or, or_true, not_true_eq_false, not_false_eq_true, ne_eq, forall_const, true_implies, false_implies, implies_true] at g_v1 g_v4 ex0 hn17 yr1 hr1 c2 tx3 tx4 tx6 tx7 tx8 c10 w17 w18 w19 tx20 yr21 hr21 c22 tx23 tx24 tx25 c27 b28 b29 g30 w32 w33 w34 g35 w37 w38 w39 g40 c41 c83 tx84 w86 w87 w88 g89 w94 w95 w96 g97 tx98 w100 w101 w102 ⊢) <;> omega) (by (try simp only [i_lt, i_le, i_eq, Int32.toInt_toInt64, Int32.reduceToInt, Int64.reduceToInt, true_and, and_true, false_and, and_false, false_or, or_false, true_or, or_true, not_true_eq_false, not_false_eq_true, ne_eq, forall_const, true_implies, false_implies, implies_true] at g_v1 g_v4 ex0 hn17 yr1 hr1 c2 tx3 tx4 tx6 tx7 tx8 c10 w17 w18 w19 tx20 yr21 hr21 c22 tx23 tx24 tx25 c27 b28 b29 g30 w32 w33 w34 g35 w37 w38 w39 g40 c41 c83 tx84 w86 w87 w88 g89 w94 w95 w96 g97 tx98 w100 w101 w102 ⊢) <;> omega)
                  refine lv_iinc (v := x103) (lv' := [(4, .int x103), (7, .int r26), (3, .int x14), (2, .int x11), (6, .int r9), (5, .int r5), (0, .ref h0), (1, .int v1)]) hx hb dX12_bends_216 hl (k := 7) rfl (by rw [ex103]; rfl) (by decide) rfl (fun ls hl => ?_)
                  refine lv_goto (tgt := 17) hx hb dX12_bends_219 (by decide) ?_
                  exact ih17 _ _ _ ls v1 x11 x14 x103 hu hp hP hD hS (by (try simp only [i_lt, i_le, i_eq, Int32.toInt_toInt64, Int32.reduceToInt, Int64.reduceToInt, true_and, and_true, false_and, and_false, false_or, or_false, true_or, or_true, not_true_eq_false, not_false_eq_true, ne_eq, forall_const, true_implies, false_implies, implies_true] at g_v1 g_v4 ex0 hn17 yr1 hr1 c2 tx3 tx4 tx6 tx7 tx8 c10 w17 w18 w19 tx20 yr21 hr21 c22 tx23 tx24 tx25 c27 b28 b29 g30 w32 w33 w34 g35 w37 w38 w39 g40 c41 c83 tx84 w86 w87 w88 g89 w94 w95 w96 g97 tx98 w100 w101 w102 tx103 ⊢) <;> omega) (by (try simp only [i_lt, i_le, i_eq, Int32.toInt_toInt64, Int32.reduceToInt, Int64.reduceToInt, true_and, and_true, false_and, and_false, false_or, or_false, true_or, or_true, not_true_eq_false, not_false_eq_true, ne_eq, forall_const, true_implies, false_implies, implies_true] at g_v1 g_v4 ex0 hn17 yr1 hr1 c2 tx3 tx4 tx6 tx7 tx8 c10 w17 w18 w19 tx20 yr21 hr21 c22 tx23 tx24 tx25 c27 b28 b29 g30 w32 w33 w34 g35 w37 w38 w39 g40 c41 c83 tx84 w86 w87 w88 g89 w94 w95 w96 g97 tx98 w100 w101 w102 tx103 ⊢) <;> omega) (by (try simp only [i_lt, i_le, i_eq, Int32.toInt_toInt64, Int32.reduceToInt, Int64.reduceToInt, true_and, and_true, false_and, and_false, false_or, or_false, true_or, or_true, not_true_eq_false, not_false_eq_true, ne_eq, forall_const, true_implies, false_implies, implies_true] at g_v1 g_v4 ex0 hn17 yr1 hr1 c2 tx3 tx4 tx6 tx7 tx8 c10 w17 w18 w19 tx20 yr21 hr21 c22 tx23 tx24 tx25 c27 b28 b29 g30 w32 w33 w34 g35 w37 w38 w39 g40 c41 c83 tx84 w86 w87 w88 g89 w94 w95 w96 g97 tx98 w100 w101 w102 tx103 ⊢) <;> omega) (by (try simp only [i_lt, i_le, i_eq, Int32.toInt_toInt64, Int32.reduceToInt, Int64.reduceToInt, true_and, and_true, false_and, and_false, false_or, or_false, true_or, or_true, not_true_eq_false, not_false_eq_true, ne_eq, forall_const, true_implies, false_implies, implies_true] at g_v1 g_v4 ex0 hn17 yr1 hr1 c2 tx3 tx4 tx6 tx7 tx8 c10 w17 w18 w19 tx20 yr21 hr21 c22 tx23 tx24 tx25 c27 b28 b29 g30 w32 w33 w34 g35 w37 w38 w39 g40 c41 c83 tx84 w86 w87 w88 g89 w94 w95 w96 g97 tx98 w100 w101 w102 tx103 ⊢) <;> omega) (lv_sub hl [6, 7, 3, 2, 0] rfl)
                · refine lv_iconst (v := 1) hx hb dX12_bends_179 (by decide) ?_
                  refine lv_goto (tgt := 184) hx hb dX12_bends_180 (by decide) ?_
                  refine lv_isub hx hb dX12_bends_184 ?_
                  refine lv_topi (fun x104 ex104 => ?_)
                  have tx104 : x104.toInt = (1 : Int32).toInt - (1 : Int32).toInt := by rw [ex104]; exact i_sub (by (try simp only [i_lt, i_le, i_eq, Int32.toInt_toInt64, Int32.reduceToInt, Int64.reduceToInt, true_and, and_true, false_and, and_false, false_or, or_false, true_or, or_true, not_true_eq_false, not_false_eq_true, ne_eq, forall_const, true_implies, false_implies, implies_true] at g_v1 g_v4 ex0 hn17 yr1 hr1 c2 tx3 tx4 tx6 tx7 tx8 c10 w17 w18 w19 tx20 yr21 hr21 c22 tx23 tx24 tx25 c27 b28 b29 g30 w32 w33 w34 g35 w37 w38 w39 g40 c41 c83 ⊢) <;> omega) (by (try simp only [i_lt, i_le, i_eq, Int32.toInt_toInt64, Int32.reduceToInt, Int64.reduceToInt, true_and, and_true, false_and, and_false, false_or, or_false, true_or, or_true, not_true_eq_false, not_false_eq_true, ne_eq, forall_const, true_implies, false_implies, implies_true] at g_v1 g_v4 ex0 hn17 yr1 hr1 c2 tx3 tx4 tx6 tx7 tx8 c10 w17 w18 w19 tx20 yr21 hr21 c22 tx23 tx24 tx25 c27 b28 b29 g30 w32 w33 w34 g35 w37 w38 w39 g40 c41 c83 ⊢) <;> omega)
                  have k_a1 : u36.2.1 a1 = 50 := (hp a1 m0_a1).2.1.trans k0_a1
                  have m_a1 : a1 ∈ u36.1 := (hp a1 m0_a1).1
                  refine pasI (u' := pSI u36 a19 ((u36.2.2.1 h0 16).toNatClampNeg) x104) hx hb hK hP hD hS m_a19 (cF56 k_a19) 1 rfl (vp_in_iff.mpr (by (try simp only [i_lt, i_le, i_eq, Int32.toInt_toInt64, Int32.reduceToInt, Int64.reduceToInt, true_and, and_true, false_and, and_false, false_or, or_false, true_or, or_true, not_true_eq_false, not_false_eq_true, ne_eq, forall_const, true_implies, false_implies, implies_true] at g_v1 g_v4 ex0 hn17 yr1 hr1 c2 tx3 tx4 tx6 tx7 tx8 c10 w17 w18 w19 tx20 yr21 hr21 c22 tx23 tx24 tx25 c27 b28 b29 g30 w32 w33 w34 g35 w37 w38 w39 g40 c41 c83 tx104 ⊢) <;> omega)) rfl (sF56 k_a19 _ _) dX12_bends_185 (fun H locs hP hD hS => ?_)
                  have hu := WT.setI (a := a19) (s := ((u36.2.2.1 h0 16).toNatClampNeg)) (v := x104) hu (by rw [k_a19]; exact trivial)
                  have hp := PX.setI (a := a19) (s := ((u36.2.2.1 h0 16).toNatClampNeg)) (v := x104) hp (by rw [k_a19]; decide)
                  obtain ⟨u105, hu105⟩ : ∃ z, z = pSI u36 a19 ((u36.2.2.1 h0 16).toNatClampNeg) x104 := ⟨_, rfl⟩
                  rw [← hu105] at hP hD hu hp
                  have w106 : (u105.2.2.1 a1 (26 + 24 * v1.toInt + 3).toNat).toInt = (u36.2.2.1 a1 (26 + 24 * v1.toInt + 3).toNat).toInt := by rw [hu105]; exact congrArg Int32.toInt (if_neg (fun q => by have y := q.1; have z := k_a1; rw [y, k_a19] at z; exact absurd z (by decide)))
                  have w107 : (u105.2.2.1 h0 21).toInt = (u36.2.2.1 h0 21).toInt := by rw [hu105]; exact congrArg Int32.toInt (if_neg (fun q => by have y := q.1; have z := k_h0; rw [y, k_a19] at z; exact absurd z (by decide)))
                  have w108 : (u105.2.2.1 h0 16).toInt = (u36.2.2.1 h0 16).toInt := by rw [hu105]; exact congrArg Int32.toInt (if_neg (fun q => by have y := q.1; have z := k_h0; rw [y, k_a19] at z; exact absurd z (by decide)))
                  refine lv_aload_n hx hb dX12_bends_186 rfl (lv_at hl 5 rfl) ?_
                  have k_h0 : u105.2.1 h0 = 12 := (hp h0 m0_h0).2.1.trans k0_h0
                  have m_h0 : h0 ∈ u105.1 := (hp h0 m0_h0).1
                  have k_a20 : u105.2.1 a20 = 56 := (hp a20 m0_a20).2.1.trans k0_a20
                  have m_a20 : a20 ∈ u105.1 := (hp a20 m0_a20).1
                  refine pget (ci := 12) (v := va_rf (u105.2.2.2.2 h0 20)) (C := RX12) (T := TX12) (N := 34) hx hb hts i_X12 hown hK hP m_h0 (cF12 k_h0) rfl 20 (by decide) (hts (.fieldLink RX12 46 "BellowsRowModel" "across" "[I") (by decide +kernel)) (fun _ h9 => h9) rfl dX12_bends_187 ?_
                  refine W.eq (g2 := F0 m 190 ls [.ref a20]) (by rw [(((hp h0 m0_h0).2.2.2.2.2.1 k0_h0 20).trans q0_20)]; rfl) ?_
                  refine lv_aload_n hx hb dX12_bends_190 rfl (lv_at hl 5 rfl) ?_
                  refine pget (ci := 12) (v := .int (u105.2.2.1 h0 16)) (C := RX12) (T := TX12) (N := 34) hx hb hts i_X12 hown hK hP m_h0 (cF12 k_h0) rfl 16 (by decide) (hts (.fieldLink RX12 303 "BellowsRowModel" "bendMany" "I") (by decide +kernel)) (fun _ h9 => h9) rfl dX12_bends_191 ?_
                  have g109 := (hu h0 m_h0).2.2.2 16
                  rw [k_h0] at g109
                  replace g109 : 0 ≤ (u105.2.2.1 h0 16).toInt ∧ (u105.2.2.1 h0 16).toInt ≤ 8 := g109
                  refine lv_iload hx hb dX12_bends_194 (lv_at hl 4 rfl) ?_
                  have k_a1 : u105.2.1 a1 = 50 := (hp a1 m0_a1).2.1.trans k0_a1
                  have m_a1 : a1 ∈ u105.1 := (hp a1 m0_a1).1
                  refine psi (As := [.int r5]) (rest := [.int (u105.2.2.1 h0 16), .ref a20]) ⟨hx, hb, hml, hown, hts⟩ (t_X12_upOf l D k r5) (va_cwS 1 hts gX12_bends_X12_upOf rfl rfl rfl (by decide +kernel) ⟨Nat.le_of_ble_eq_true rfl, Nat.le_of_ble_eq_true rfl⟩) hK rfl hl.1 rfl (Nat.le_of_ble_eq_true rfl) dX12_bends_196 ⟨Nat.le_of_ble_eq_true rfl, Nat.le_of_ble_eq_true rfl⟩ (fun r110 hr110 => ?_)
                  refine lv_iload hx hb dX12_bends_199 (lv_at hl 0 rfl) ?_
                  refine psi (As := [.int r26]) (rest := [.int r110, .int (u105.2.2.1 h0 16), .ref a20]) ⟨hx, hb, hml, hown, hts⟩ (t_X12_upOf l D k r26) (va_cwS 1 hts gX12_bends_X12_upOf rfl rfl rfl (by decide +kernel) ⟨Nat.le_of_ble_eq_true rfl, Nat.le_of_ble_eq_true rfl⟩) hK rfl hl.1 rfl (Nat.le_of_ble_eq_true rfl) dX12_bends_201 ⟨Nat.le_of_ble_eq_true rfl, Nat.le_of_ble_eq_true rfl⟩ (fun r111 hr111 => ?_)
                  refine lv_isub hx hb dX12_bends_204 ?_
                  refine lv_topi (fun x112 ex112 => ?_)
                  refine pasI (u' := pSI u105 a20 ((u105.2.2.1 h0 16).toNatClampNeg) x112) hx hb hK hP hD hS m_a20 (cF56 k_a20) 1 rfl (vp_in_iff.mpr (by (try simp only [i_lt, i_le, i_eq, Int32.toInt_toInt64, Int32.reduceToInt, Int64.reduceToInt, true_and, and_true, false_and, and_false, false_or, or_false, true_or, or_true, not_true_eq_false, not_false_eq_true, ne_eq, forall_const, true_implies, false_implies, implies_true] at g_v1 g_v4 ex0 hn17 yr1 hr1 c2 tx3 tx4 tx6 tx7 tx8 c10 w17 w18 w19 tx20 yr21 hr21 c22 tx23 tx24 tx25 c27 b28 b29 g30 w32 w33 w34 g35 w37 w38 w39 g40 c41 c83 tx104 w106 w107 w108 g109 ⊢) <;> omega)) rfl (sF56 k_a20 _ _) dX12_bends_205 (fun H locs hP hD hS => ?_)
                  have hu := WT.setI (a := a20) (s := ((u105.2.2.1 h0 16).toNatClampNeg)) (v := x112) hu (by rw [k_a20]; exact trivial)
                  have hp := PX.setI (a := a20) (s := ((u105.2.2.1 h0 16).toNatClampNeg)) (v := x112) hp (by rw [k_a20]; decide)
                  obtain ⟨u113, hu113⟩ : ∃ z, z = pSI u105 a20 ((u105.2.2.1 h0 16).toNatClampNeg) x112 := ⟨_, rfl⟩
                  rw [← hu113] at hP hD hu hp
                  have w114 : (u113.2.2.1 a1 (26 + 24 * v1.toInt + 3).toNat).toInt = (u105.2.2.1 a1 (26 + 24 * v1.toInt + 3).toNat).toInt := by rw [hu113]; exact congrArg Int32.toInt (if_neg (fun q => by have y := q.1; have z := k_a1; rw [y, k_a20] at z; exact absurd z (by decide)))
                  have w115 : (u113.2.2.1 h0 21).toInt = (u105.2.2.1 h0 21).toInt := by rw [hu113]; exact congrArg Int32.toInt (if_neg (fun q => by have y := q.1; have z := k_h0; rw [y, k_a20] at z; exact absurd z (by decide)))
                  have w116 : (u113.2.2.1 h0 16).toInt = (u105.2.2.1 h0 16).toInt := by rw [hu113]; exact congrArg Int32.toInt (if_neg (fun q => by have y := q.1; have z := k_h0; rw [y, k_a20] at z; exact absurd z (by decide)))
                  refine lv_aload_n hx hb dX12_bends_206 rfl (lv_at hl 5 rfl) ?_
                  refine lv_dup hx hb dX12_bends_207 rfl ?_
                  have k_h0 : u113.2.1 h0 = 12 := (hp h0 m0_h0).2.1.trans k0_h0
                  have m_h0 : h0 ∈ u113.1 := (hp h0 m0_h0).1
                  refine pget (ci := 12) (v := .int (u113.2.2.1 h0 16)) (C := RX12) (T := TX12) (N := 34) hx hb hts i_X12 hown hK hP m_h0 (cF12 k_h0) rfl 16 (by decide) (hts (.fieldLink RX12 303 "BellowsRowModel" "bendMany" "I") (by decide +kernel)) (fun _ h9 => h9) rfl dX12_bends_208 ?_
                  have g117 := (hu h0 m_h0).2.2.2 16
                  rw [k_h0] at g117
                  replace g117 : 0 ≤ (u113.2.2.1 h0 16).toInt ∧ (u113.2.2.1 h0 16).toInt ≤ 8 := g117
                  refine lv_iconst (v := 1) hx hb dX12_bends_211 (by decide) ?_
                  refine lv_iadd hx hb dX12_bends_212 ?_
                  refine lv_topi (fun x118 ex118 => ?_)
                  have tx118 : x118.toInt = (u113.2.2.1 h0 16).toInt + (1 : Int32).toInt := by rw [ex118]; exact i_add (by (try simp only [i_lt, i_le, i_eq, Int32.toInt_toInt64, Int32.reduceToInt, Int64.reduceToInt, true_and, and_true, false_and, and_false, false_or, or_false, true_or, or_true, not_true_eq_false, not_false_eq_true, ne_eq, forall_const, true_implies, false_implies, implies_true] at g_v1 g_v4 ex0 hn17 yr1 hr1 c2 tx3 tx4 tx6 tx7 tx8 c10 w17 w18 w19 tx20 yr21 hr21 c22 tx23 tx24 tx25 c27 b28 b29 g30 w32 w33 w34 g35 w37 w38 w39 g40 c41 c83 tx104 w106 w107 w108 g109 w114 w115 w116 g117 ⊢) <;> omega) (by (try simp only [i_lt, i_le, i_eq, Int32.toInt_toInt64, Int32.reduceToInt, Int64.reduceToInt, true_and, and_true, false_and, and_false, false_or, or_false, true_or, or_true, not_true_eq_false, not_false_eq_true, ne_eq, forall_const, true_implies, false_implies, implies_true] at g_v1 g_v4 ex0 hn17 yr1 hr1 c2 tx3 tx4 tx6 tx7 tx8 c10 w17 w18 w19 tx20 yr21 hr21 c22 tx23 tx24 tx25 c27 b28 b29 g30 w32 w33 w34 g35 w37 w38 w39 g40 c41 c83 tx104 w106 w107 w108 g109 w114 w115 w116 g117 ⊢) <;> omega)
                  have k_a1 : u113.2.1 a1 = 50 := (hp a1 m0_a1).2.1.trans k0_a1
                  have m_a1 : a1 ∈ u113.1 := (hp a1 m0_a1).1
                  refine pput (u' := pSI u113 h0 16 x118) (ci := 12) (v := .int x118) (ty := .int) (C := RX12) (T := TX12) (N := 34) hx hb hts i_X12 tyX12 tyX12_ok nmX12 hown hK hP hD hS m_h0 (cF12 k_h0) rfl 16 (by decide) (hts (.fieldLink RX12 303 "BellowsRowModel" "bendMany" "I") (by decide +kernel)) (fun _ h9 => h9) rfl (by decide +kernel) rfl rfl (Nat.le_of_ble_eq_true rfl) rfl (sF12_16 k_h0 x118) dX12_bends_213 (fun H locs hP hD hS => ?_)
                  have hu := WT.setI (a := h0) (s := 16) (v := x118) hu (by rw [k_h0]; exact (show 0 ≤ x118.toInt ∧ x118.toInt ≤ 8 from by (try simp only [i_lt, i_le, i_eq, Int32.toInt_toInt64, Int32.reduceToInt, Int64.reduceToInt, true_and, and_true, false_and, and_false, false_or, or_false, true_or, or_true, not_true_eq_false, not_false_eq_true, ne_eq, forall_const, true_implies, false_implies, implies_true] at g_v1 g_v4 ex0 hn17 yr1 hr1 c2 tx3 tx4 tx6 tx7 tx8 c10 w17 w18 w19 tx20 yr21 hr21 c22 tx23 tx24 tx25 c27 b28 b29 g30 w32 w33 w34 g35 w37 w38 w39 g40 c41 c83 tx104 w106 w107 w108 g109 w114 w115 w116 g117 tx118 ⊢) <;> omega))
                  have hp := PX.setI (a := h0) (s := 16) (v := x118) hp (by rw [k_h0]; decide)
                  obtain ⟨u119, hu119⟩ : ∃ z, z = pSI u113 h0 16 x118 := ⟨_, rfl⟩
                  rw [← hu119] at hP hD hu hp
                  have w120 : (u119.2.2.1 a1 (26 + 24 * v1.toInt + 3).toNat).toInt = (u113.2.2.1 a1 (26 + 24 * v1.toInt + 3).toNat).toInt := by rw [hu119]; exact congrArg Int32.toInt (if_neg (fun q => by have y := q.1; have z := k_a1; rw [y, k_h0] at z; exact absurd z (by decide)))
                  have w121 : (u119.2.2.1 h0 21).toInt = (u113.2.2.1 h0 21).toInt := by rw [hu119]; exact congrArg Int32.toInt (if_neg (fun q => absurd q.2 (by decide)))
                  have w122 : (u119.2.2.1 h0 16).toInt = x118.toInt := by rw [hu119]; exact congrArg Int32.toInt (if_pos ⟨rfl, rfl⟩)
                  obtain ⟨x123, ex123⟩ : ∃ y : Int32, y = v4 + 1 := ⟨_, rfl⟩
                  have tx123 : x123.toInt = v4.toInt + 1 := by rw [ex123]; exact i_add (b := 1) (by (try simp only [i_lt, i_le, i_eq, Int32.toInt_toInt64, Int32.reduceToInt, Int64.reduceToInt, true_and, and_true, false_and, and_false, false_or, or_false, true_or, or_true, not_true_eq_false, not_false_eq_true, ne_eq, forall_const, true_implies, false_implies, implies_true] at g_v1 g_v4 ex0 hn17 yr1 hr1 c2 tx3 tx4 tx6 tx7 tx8 c10 w17 w18 w19 tx20 yr21 hr21 c22 tx23 tx24 tx25 c27 b28 b29 g30 w32 w33 w34 g35 w37 w38 w39 g40 c41 c83 tx104 w106 w107 w108 g109 w114 w115 w116 g117 tx118 w120 w121 w122 ⊢) <;> omega) (by (try simp only [i_lt, i_le, i_eq, Int32.toInt_toInt64, Int32.reduceToInt, Int64.reduceToInt, true_and, and_true, false_and, and_false, false_or, or_false, true_or, or_true, not_true_eq_false, not_false_eq_true, ne_eq, forall_const, true_implies, false_implies, implies_true] at g_v1 g_v4 ex0 hn17 yr1 hr1 c2 tx3 tx4 tx6 tx7 tx8 c10 w17 w18 w19 tx20 yr21 hr21 c22 tx23 tx24 tx25 c27 b28 b29 g30 w32 w33 w34 g35 w37 w38 w39 g40 c41 c83 tx104 w106 w107 w108 g109 w114 w115 w116 g117 tx118 w120 w121 w122 ⊢) <;> omega)
                  refine lv_iinc (v := x123) (lv' := [(4, .int x123), (7, .int r26), (3, .int x14), (2, .int x11), (6, .int r9), (5, .int r5), (0, .ref h0), (1, .int v1)]) hx hb dX12_bends_216 hl (k := 7) rfl (by rw [ex123]; rfl) (by decide) rfl (fun ls hl => ?_)
                  refine lv_goto (tgt := 17) hx hb dX12_bends_219 (by decide) ?_
                  exact ih17 _ _ _ ls v1 x11 x14 x123 hu hp hP hD hS (by (try simp only [i_lt, i_le, i_eq, Int32.toInt_toInt64, Int32.reduceToInt, Int64.reduceToInt, true_and, and_true, false_and, and_false, false_or, or_false, true_or, or_true, not_true_eq_false, not_false_eq_true, ne_eq, forall_const, true_implies, false_implies, implies_true] at g_v1 g_v4 ex0 hn17 yr1 hr1 c2 tx3 tx4 tx6 tx7 tx8 c10 w17 w18 w19 tx20 yr21 hr21 c22 tx23 tx24 tx25 c27 b28 b29 g30 w32 w33 w34 g35 w37 w38 w39 g40 c41 c83 tx104 w106 w107 w108 g109 w114 w115 w116 g117 tx118 w120 w121 w122 tx123 ⊢) <;> omega) (by (try simp only [i_lt, i_le, i_eq, Int32.toInt_toInt64, Int32.reduceToInt, Int64.reduceToInt, true_and, and_true, false_and, and_false, false_or, or_false, true_or, or_true, not_true_eq_false, not_false_eq_true, ne_eq, forall_const, true_implies, false_implies, implies_true] at g_v1 g_v4 ex0 hn17 yr1 hr1 c2 tx3 tx4 tx6 tx7 tx8 c10 w17 w18 w19 tx20 yr21 hr21 c22 tx23 tx24 tx25 c27 b28 b29 g30 w32 w33 w34 g35 w37 w38 w39 g40 c41 c83 tx104 w106 w107 w108 g109 w114 w115 w116 g117 tx118 w120 w121 w122 tx123 ⊢) <;> omega) (by (try simp only [i_lt, i_le, i_eq, Int32.toInt_toInt64, Int32.reduceToInt, Int64.reduceToInt, true_and, and_true, false_and, and_false, false_or, or_false, true_or, or_true, not_true_eq_false, not_false_eq_true, ne_eq, forall_const, true_implies, false_implies, implies_true] at g_v1 g_v4 ex0 hn17 yr1 hr1 c2 tx3 tx4 tx6 tx7 tx8 c10 w17 w18 w19 tx20 yr21 hr21 c22 tx23 tx24 tx25 c27 b28 b29 g30 w32 w33 w34 g35 w37 w38 w39 g40 c41 c83 tx104 w106 w107 w108 g109 w114 w115 w116 g117 tx118 w120 w121 w122 tx123 ⊢) <;> omega) (by (try simp only [i_lt, i_le, i_eq, Int32.toInt_toInt64, Int32.reduceToInt, Int64.reduceToInt, true_and, and_true, false_and, and_false, false_or, or_false, true_or, or_true, not_true_eq_false, not_false_eq_true, ne_eq, forall_const, true_implies, false_implies, implies_true] at g_v1 g_v4 ex0 hn17 yr1 hr1 c2 tx3 tx4 tx6 tx7 tx8 c10 w17 w18 w19 tx20 yr21 hr21 c22 tx23 tx24 tx25 c27 b28 b29 g30 w32 w33 w34 g35 w37 w38 w39 g40 c41 c83 tx104 w106 w107 w108 g109 w114 w115 w116 g117 tx118 w120 w121 w122 tx123 ⊢) <;> omega) (lv_sub hl [6, 7, 3, 2, 0] rfl)
            · have b124 := Int32.toInt_lt r5
              have b125 := Int32.toInt_lt r26
              refine lv_goto (tgt := 216) hx hb dX12_bends_133 (by decide) ?_
              obtain ⟨x126, ex126⟩ : ∃ y : Int32, y = v4 + 1 := ⟨_, rfl⟩
              have tx126 : x126.toInt = v4.toInt + 1 := by rw [ex126]; exact i_add (b := 1) (by (try simp only [i_lt, i_le, i_eq, Int32.toInt_toInt64, Int32.reduceToInt, Int64.reduceToInt, true_and, and_true, false_and, and_false, false_or, or_false, true_or, or_true, not_true_eq_false, not_false_eq_true, ne_eq, forall_const, true_implies, false_implies, implies_true] at g_v1 g_v4 ex0 hn17 yr1 hr1 c2 tx3 tx4 tx6 tx7 tx8 c10 w17 w18 w19 tx20 yr21 hr21 c22 tx23 tx24 tx25 c27 b124 b125 ⊢) <;> omega) (by (try simp only [i_lt, i_le, i_eq, Int32.toInt_toInt64, Int32.reduceToInt, Int64.reduceToInt, true_and, and_true, false_and, and_false, false_or, or_false, true_or, or_true, not_true_eq_false, not_false_eq_true, ne_eq, forall_const, true_implies, false_implies, implies_true] at g_v1 g_v4 ex0 hn17 yr1 hr1 c2 tx3 tx4 tx6 tx7 tx8 c10 w17 w18 w19 tx20 yr21 hr21 c22 tx23 tx24 tx25 c27 b124 b125 ⊢) <;> omega)
              refine lv_iinc (v := x126) (lv' := [(4, .int x126), (7, .int r26), (3, .int x14), (2, .int x11), (6, .int r9), (5, .int r5), (0, .ref h0), (1, .int v1)]) hx hb dX12_bends_216 hl (k := 7) rfl (by rw [ex126]; rfl) (by decide) rfl (fun ls hl => ?_)
              refine lv_goto (tgt := 17) hx hb dX12_bends_219 (by decide) ?_
              exact ih17 _ _ _ ls v1 x11 x14 x126 hu hp hP hD hS (by (try simp only [i_lt, i_le, i_eq, Int32.toInt_toInt64, Int32.reduceToInt, Int64.reduceToInt, true_and, and_true, false_and, and_false, false_or, or_false, true_or, or_true, not_true_eq_false, not_false_eq_true, ne_eq, forall_const, true_implies, false_implies, implies_true] at g_v1 g_v4 ex0 hn17 yr1 hr1 c2 tx3 tx4 tx6 tx7 tx8 c10 w17 w18 w19 tx20 yr21 hr21 c22 tx23 tx24 tx25 c27 b124 b125 tx126 ⊢) <;> omega) (by (try simp only [i_lt, i_le, i_eq, Int32.toInt_toInt64, Int32.reduceToInt, Int64.reduceToInt, true_and, and_true, false_and, and_false, false_or, or_false, true_or, or_true, not_true_eq_false, not_false_eq_true, ne_eq, forall_const, true_implies, false_implies, implies_true] at g_v1 g_v4 ex0 hn17 yr1 hr1 c2 tx3 tx4 tx6 tx7 tx8 c10 w17 w18 w19 tx20 yr21 hr21 c22 tx23 tx24 tx25 c27 b124 b125 tx126 ⊢) <;> omega) (by (try simp only [i_lt, i_le, i_eq, Int32.toInt_toInt64, Int32.reduceToInt, Int64.reduceToInt, true_and, and_true, false_and, and_false, false_or, or_false, true_or, or_true, not_true_eq_false, not_false_eq_true, ne_eq, forall_const, true_implies, false_implies, implies_true] at g_v1 g_v4 ex0 hn17 yr1 hr1 c2 tx3 tx4 tx6 tx7 tx8 c10 w17 w18 w19 tx20 yr21 hr21 c22 tx23 tx24 tx25 c27 b124 b125 tx126 ⊢) <;> omega) (by (try simp only [i_lt, i_le, i_eq, Int32.toInt_toInt64, Int32.reduceToInt, Int64.reduceToInt, true_and, and_true, false_and, and_false, false_or, or_false, true_or, or_true, not_true_eq_false, not_false_eq_true, ne_eq, forall_const, true_implies, false_implies, implies_true] at g_v1 g_v4 ex0 hn17 yr1 hr1 c2 tx3 tx4 tx6 tx7 tx8 c10 w17 w18 w19 tx20 yr21 hr21 c22 tx23 tx24 tx25 c27 b124 b125 tx126 ⊢) <;> omega) (lv_sub hl [6, 7, 3, 2, 0] rfl)
          · refine lv_goto (tgt := 216) hx hb dX12_bends_107 (by decide) ?_
            obtain ⟨x127, ex127⟩ : ∃ y : Int32, y = v4 + 1 := ⟨_, rfl⟩
            have tx127 : x127.toInt = v4.toInt + 1 := by rw [ex127]; exact i_add (b := 1) (by (try simp only [i_lt, i_le, i_eq, Int32.toInt_toInt64, Int32.reduceToInt, Int64.reduceToInt, true_and, and_true, false_and, and_false, false_or, or_false, true_or, or_true, not_true_eq_false, not_false_eq_true, ne_eq, forall_const, true_implies, false_implies, implies_true] at g_v1 g_v4 ex0 hn17 yr1 hr1 c2 tx3 tx4 tx6 tx7 tx8 c10 w17 w18 w19 tx20 yr21 hr21 c22 ⊢) <;> omega) (by (try simp only [i_lt, i_le, i_eq, Int32.toInt_toInt64, Int32.reduceToInt, Int64.reduceToInt, true_and, and_true, false_and, and_false, false_or, or_false, true_or, or_true, not_true_eq_false, not_false_eq_true, ne_eq, forall_const, true_implies, false_implies, implies_true] at g_v1 g_v4 ex0 hn17 yr1 hr1 c2 tx3 tx4 tx6 tx7 tx8 c10 w17 w18 w19 tx20 yr21 hr21 c22 ⊢) <;> omega)
            refine lv_iinc (v := x127) (lv' := [(4, .int x127), (3, .int x14), (2, .int x11), (6, .int r9), (5, .int r5), (0, .ref h0), (1, .int v1)]) hx hb dX12_bends_216 hl (k := 6) rfl (by rw [ex127]; rfl) (by decide) rfl (fun ls hl => ?_)
            refine lv_goto (tgt := 17) hx hb dX12_bends_219 (by decide) ?_
            exact ih17 _ _ _ ls v1 x11 x14 x127 hu hp hP hD hS (by (try simp only [i_lt, i_le, i_eq, Int32.toInt_toInt64, Int32.reduceToInt, Int64.reduceToInt, true_and, and_true, false_and, and_false, false_or, or_false, true_or, or_true, not_true_eq_false, not_false_eq_true, ne_eq, forall_const, true_implies, false_implies, implies_true] at g_v1 g_v4 ex0 hn17 yr1 hr1 c2 tx3 tx4 tx6 tx7 tx8 c10 w17 w18 w19 tx20 yr21 hr21 c22 tx127 ⊢) <;> omega) (by (try simp only [i_lt, i_le, i_eq, Int32.toInt_toInt64, Int32.reduceToInt, Int64.reduceToInt, true_and, and_true, false_and, and_false, false_or, or_false, true_or, or_true, not_true_eq_false, not_false_eq_true, ne_eq, forall_const, true_implies, false_implies, implies_true] at g_v1 g_v4 ex0 hn17 yr1 hr1 c2 tx3 tx4 tx6 tx7 tx8 c10 w17 w18 w19 tx20 yr21 hr21 c22 tx127 ⊢) <;> omega) (by (try simp only [i_lt, i_le, i_eq, Int32.toInt_toInt64, Int32.reduceToInt, Int64.reduceToInt, true_and, and_true, false_and, and_false, false_or, or_false, true_or, or_true, not_true_eq_false, not_false_eq_true, ne_eq, forall_const, true_implies, false_implies, implies_true] at g_v1 g_v4 ex0 hn17 yr1 hr1 c2 tx3 tx4 tx6 tx7 tx8 c10 w17 w18 w19 tx20 yr21 hr21 c22 tx127 ⊢) <;> omega) (by (try simp only [i_lt, i_le, i_eq, Int32.toInt_toInt64, Int32.reduceToInt, Int64.reduceToInt, true_and, and_true, false_and, and_false, false_or, or_false, true_or, or_true, not_true_eq_false, not_false_eq_true, ne_eq, forall_const, true_implies, false_implies, implies_true] at g_v1 g_v4 ex0 hn17 yr1 hr1 c2 tx3 tx4 tx6 tx7 tx8 c10 w17 w18 w19 tx20 yr21 hr21 c22 tx127 ⊢) <;> omega) (lv_sub hl [5, 6, 2, 1, 0] rfl)
        · refine lv_iload hx hb dX12_bends_64 (lv_at hl 0 rfl) ?_
          refine lv_goto (tgt := 70) hx hb dX12_bends_66 (by decide) ?_
          refine lv_iadd hx hb dX12_bends_70 ?_
          refine lv_topi (fun x128 ex128 => ?_)
          refine lv_istore_n (lv' := [(2, .int x128), (6, .int r9), (5, .int r5), (0, .ref h0), (1, .int v1), (3, .int v3), (4, .int v4)]) hx hb dX12_bends_71 rfl hl (by decide) rfl (fun ls hl => ?_)
          refine lv_iload_n hx hb dX12_bends_72 rfl (lv_at hl 5 rfl) ?_
          refine lv_iload hx hb dX12_bends_73 (lv_at hl 2 rfl) ?_
          refine psi (As := [.int r5]) (rest := [.int v3]) ⟨hx, hb, hml, hown, hts⟩ (t_X12_upOf l D k r5) (va_cwS 1 hts gX12_bends_X12_upOf rfl rfl rfl (by decide +kernel) ⟨Nat.le_of_ble_eq_true rfl, Nat.le_of_ble_eq_true rfl⟩) hK rfl hl.1 rfl (Nat.le_of_ble_eq_true rfl) dX12_bends_75 ⟨Nat.le_of_ble_eq_true rfl, Nat.le_of_ble_eq_true rfl⟩ (fun r129 hr129 => ?_)
          refine lv_iload hx hb dX12_bends_78 (lv_at hl 1 rfl) ?_
          refine lv_imul hx hb dX12_bends_80 ?_
          refine lv_topi (fun x130 ex130 => ?_)
          refine lv_iadd hx hb dX12_bends_81 ?_
          refine lv_topi (fun x131 ex131 => ?_)
          refine lv_istore_n (lv' := [(3, .int x131), (2, .int x128), (6, .int r9), (5, .int r5), (0, .ref h0), (1, .int v1), (4, .int v4)]) hx hb dX12_bends_82 rfl hl (by decide) rfl (fun ls hl => ?_)
          refine lv_aload_n hx hb dX12_bends_83 rfl (lv_at hl 4 rfl) ?_
          refine lv_dup hx hb dX12_bends_84 rfl ?_
          refine pget (ci := 12) (v := .int (u.2.2.1 h0 21)) (C := RX12) (T := TX12) (N := 34) hx hb hts i_X12 hown hK hP m_h0 (cF12 k_h0) rfl 21 (by decide) (hts (.fieldLink RX12 306 "BellowsRowModel" "length" "I") (by decide +kernel)) (fun _ h9 => h9) rfl dX12_bends_85 ?_
          refine lv_iload hx hb dX12_bends_88 (lv_at hl 2 rfl) ?_
          refine lv_iadd hx hb dX12_bends_90 ?_
          refine lv_topi (fun x132 ex132 => ?_)
          refine pput (u' := pSI u h0 21 x132) (ci := 12) (v := .int x132) (ty := .int) (C := RX12) (T := TX12) (N := 34) hx hb hts i_X12 tyX12 tyX12_ok nmX12 hown hK hP hD hS m_h0 (cF12 k_h0) rfl 21 (by decide) (hts (.fieldLink RX12 306 "BellowsRowModel" "length" "I") (by decide +kernel)) (fun _ h9 => h9) rfl (by decide +kernel) rfl rfl (Nat.le_of_ble_eq_true rfl) rfl (sF12_21 k_h0 x132) dX12_bends_91 (fun H locs hP hD hS => ?_)
          have hu := WT.setI (a := h0) (s := 21) (v := x132) hu (by rw [k_h0]; exact trivial)
          have hp := PX.setI (a := h0) (s := 21) (v := x132) hp (by rw [k_h0]; decide)
          obtain ⟨u133, hu133⟩ : ∃ z, z = pSI u h0 21 x132 := ⟨_, rfl⟩
          rw [← hu133] at hP hD hu hp
          have w134 : (u133.2.2.1 h0 16).toInt = (u.2.2.1 h0 16).toInt := by rw [hu133]; exact congrArg Int32.toInt (if_neg (fun q => absurd q.2 (by decide)))
          have w135 : (u133.2.2.1 a1 (26 + 24 * v1.toInt + 3).toNat).toInt = (u.2.2.1 a1 (26 + 24 * v1.toInt + 3).toNat).toInt := by rw [hu133]; exact congrArg Int32.toInt (if_neg (fun q => by have y := q.1; have z := k_a1; rw [y, k_h0] at z; exact absurd z (by decide)))
          have w136 : (u133.2.2.1 h0 21).toInt = x132.toInt := by rw [hu133]; exact congrArg Int32.toInt (if_pos ⟨rfl, rfl⟩)
          refine lv_iload hx hb dX12_bends_94 (lv_at hl 6 rfl) ?_
          refine lv_iconst (v := 1) hx hb dX12_bends_96 (by decide) ?_
          refine lv_iadd hx hb dX12_bends_97 ?_
          refine lv_topi (fun x137 ex137 => ?_)
          have tx137 : x137.toInt = v4.toInt + (1 : Int32).toInt := by rw [ex137]; exact i_add (by (try simp only [i_lt, i_le, i_eq, Int32.toInt_toInt64, Int32.reduceToInt, Int64.reduceToInt, true_and, and_true, false_and, and_false, false_or, or_false, true_or, or_true, not_true_eq_false, not_false_eq_true, ne_eq, forall_const, true_implies, false_implies, implies_true] at g_v1 g_v4 ex0 hn17 yr1 hr1 c2 tx3 tx4 tx6 tx7 tx8 c10 w134 w135 w136 ⊢) <;> omega) (by (try simp only [i_lt, i_le, i_eq, Int32.toInt_toInt64, Int32.reduceToInt, Int64.reduceToInt, true_and, and_true, false_and, and_false, false_or, or_false, true_or, or_true, not_true_eq_false, not_false_eq_true, ne_eq, forall_const, true_implies, false_implies, implies_true] at g_v1 g_v4 ex0 hn17 yr1 hr1 c2 tx3 tx4 tx6 tx7 tx8 c10 w134 w135 w136 ⊢) <;> omega)
          refine lv_aload_n hx hb dX12_bends_98 rfl (lv_at hl 4 rfl) ?_
          refine lv_iload_n hx hb dX12_bends_99 rfl (lv_at hl 5 rfl) ?_
          refine lv_iconst (v := 3) hx hb dX12_bends_100 (by decide) ?_
          have k_h0 : u133.2.1 h0 = 12 := (hp h0 m0_h0).2.1.trans k0_h0
          have m_h0 : h0 ∈ u133.1 := (hp h0 m0_h0).1
          have k_a1 : u133.2.1 a1 = 50 := (hp a1 m0_a1).2.1.trans k0_a1
          have m_a1 : a1 ∈ u133.1 := (hp a1 m0_a1).1
          refine rvi (C := RX12) (As := [.int v1, .int 3]) (rest := [.int x137]) ⟨hx, hb, hml, hown, hts⟩ (t_X12_ofPipe l D k u133 hu h0 m_h0 k_h0 v1 3 (by (try simp only [i_lt, i_le, i_eq, Int32.toInt_toInt64, Int32.reduceToInt, Int64.reduceToInt, true_and, and_true, false_and, and_false, false_or, or_false, true_or, or_true, not_true_eq_false, not_false_eq_true, ne_eq, forall_const, true_implies, false_implies, implies_true] at g_v1 g_v4 ex0 hn17 yr1 hr1 c2 tx3 tx4 tx6 tx7 tx8 c10 w134 w135 w136 tx137 ⊢) <;> omega) (by decide)) (cwV 2 hts gX12_bends_X12_ofPipe rfl rfl rfl (by decide +kernel) ⟨Nat.le_of_ble_eq_true rfl, Nat.le_of_ble_eq_true rfl⟩) hP hK (precv hK hP m_h0 (cF12 k_h0) rfl) rfl hl.1 rfl (Nat.le_of_ble_eq_true rfl) dX12_bends_101 ⟨Nat.le_of_ble_eq_true rfl, Nat.le_of_ble_eq_true rfl⟩ (fun r138 hr138 => ?_)
          have yr138 : r138.toInt = (u133.2.2.1 a1 (26 + 24 * v1.toInt + 3).toNat).toInt := by have h := hr138.2; rw [ar_eq (((hp h0 m0_h0).2.2.2.2.2.1 k0_h0 1).trans q0_1)] at h; exact h
          replace hr138 : 0 ≤ r138.toInt ∧ r138.toInt ≤ 8 := by have h := hr138.1; clear hr138; (simp only [i_lt, i_le, i_eq, Int32.toInt_toInt64, Int32.reduceToInt, Int64.reduceToInt, true_and, and_true, false_and, and_false, false_or, or_false, true_or, or_true, not_true_eq_false, not_false_eq_true, ne_eq, forall_const, true_implies, false_implies, implies_true] at h) <;> omega
          refine lv_icmp_ne (tgt := 110) hx hb dX12_bends_104 (by decide) (fun c139 => ?_) (fun c139 => ?_)
          · refine lv_aload_n hx hb dX12_bends_110 rfl (lv_at hl 4 rfl) ?_
            refine lv_iload_n hx hb dX12_bends_111 rfl (lv_at hl 5 rfl) ?_
            refine lv_bipush (v := 8) hx hb dX12_bends_112 (by decide) ?_
            refine lv_iconst (v := 2) hx hb dX12_bends_114 (by decide) ?_
            refine lv_iload hx hb dX12_bends_115 (lv_at hl 6 rfl) ?_
            refine lv_imul hx hb dX12_bends_117 ?_
            refine lv_topi (fun x140 ex140 => ?_)
            have tx140 : x140.toInt = 2 * v4.toInt := by rw [ex140]; exact i_mulc (c := 2) (by decide) ((show 0 ≤ v4.toInt ∧ v4.toInt ≤ 7 from by (try simp only [i_lt, i_le, i_eq, Int32.toInt_toInt64, Int32.reduceToInt, Int64.reduceToInt, true_and, and_true, false_and, and_false, false_or, or_false, true_or, or_true, not_true_eq_false, not_false_eq_true, ne_eq, forall_const, true_implies, false_implies, implies_true] at g_v1 g_v4 ex0 hn17 yr1 hr1 c2 tx3 tx4 tx6 tx7 tx8 c10 w134 w135 w136 tx137 yr138 hr138 c139 ⊢) <;> omega)) (by decide)
            refine lv_iadd hx hb dX12_bends_118 ?_
            refine lv_topi (fun x141 ex141 => ?_)
            have tx141 : x141.toInt = (8 : Int32).toInt + x140.toInt := by rw [ex141]; exact i_add (by (try simp only [i_lt, i_le, i_eq, Int32.toInt_toInt64, Int32.reduceToInt, Int64.reduceToInt, true_and, and_true, false_and, and_false, false_or, or_false, true_or, or_true, not_true_eq_false, not_false_eq_true, ne_eq, forall_const, true_implies, false_implies, implies_true] at g_v1 g_v4 ex0 hn17 yr1 hr1 c2 tx3 tx4 tx6 tx7 tx8 c10 w134 w135 w136 tx137 yr138 hr138 c139 tx140 ⊢) <;> omega) (by (try simp only [i_lt, i_le, i_eq, Int32.toInt_toInt64, Int32.reduceToInt, Int64.reduceToInt, true_and, and_true, false_and, and_false, false_or, or_false, true_or, or_true, not_true_eq_false, not_false_eq_true, ne_eq, forall_const, true_implies, false_implies, implies_true] at g_v1 g_v4 ex0 hn17 yr1 hr1 c2 tx3 tx4 tx6 tx7 tx8 c10 w134 w135 w136 tx137 yr138 hr138 c139 tx140 ⊢) <;> omega)
            refine lv_iconst (v := 2) hx hb dX12_bends_119 (by decide) ?_
            refine lv_iadd hx hb dX12_bends_120 ?_
            refine lv_topi (fun x142 ex142 => ?_)
            have tx142 : x142.toInt = x141.toInt + (2 : Int32).toInt := by rw [ex142]; exact i_add (by (try simp only [i_lt, i_le, i_eq, Int32.toInt_toInt64, Int32.reduceToInt, Int64.reduceToInt, true_and, and_true, false_and, and_false, false_or, or_false, true_or, or_true, not_true_eq_false, not_false_eq_true, ne_eq, forall_const, true_implies, false_implies, implies_true] at g_v1 g_v4 ex0 hn17 yr1 hr1 c2 tx3 tx4 tx6 tx7 tx8 c10 w134 w135 w136 tx137 yr138 hr138 c139 tx140 tx141 ⊢) <;> omega) (by (try simp only [i_lt, i_le, i_eq, Int32.toInt_toInt64, Int32.reduceToInt, Int64.reduceToInt, true_and, and_true, false_and, and_false, false_or, or_false, true_or, or_true, not_true_eq_false, not_false_eq_true, ne_eq, forall_const, true_implies, false_implies, implies_true] at g_v1 g_v4 ex0 hn17 yr1 hr1 c2 tx3 tx4 tx6 tx7 tx8 c10 w134 w135 w136 tx137 yr138 hr138 c139 tx140 tx141 ⊢) <;> omega)
            refine rvi (C := RX12) (As := [.int v1, .int x142]) (rest := []) ⟨hx, hb, hml, hown, hts⟩ (t_X12_ofPipe l D k u133 hu h0 m_h0 k_h0 v1 x142 (by (try simp only [i_lt, i_le, i_eq, Int32.toInt_toInt64, Int32.reduceToInt, Int64.reduceToInt, true_and, and_true, false_and, and_false, false_or, or_false, true_or, or_true, not_true_eq_false, not_false_eq_true, ne_eq, forall_const, true_implies, false_implies, implies_true] at g_v1 g_v4 ex0 hn17 yr1 hr1 c2 tx3 tx4 tx6 tx7 tx8 c10 w134 w135 w136 tx137 yr138 hr138 c139 tx140 tx141 tx142 ⊢) <;> omega) (by (try simp only [i_lt, i_le, i_eq, Int32.toInt_toInt64, Int32.reduceToInt, Int64.reduceToInt, true_and, and_true, false_and, and_false, false_or, or_false, true_or, or_true, not_true_eq_false, not_false_eq_true, ne_eq, forall_const, true_implies, false_implies, implies_true] at g_v1 g_v4 ex0 hn17 yr1 hr1 c2 tx3 tx4 tx6 tx7 tx8 c10 w134 w135 w136 tx137 yr138 hr138 c139 tx140 tx141 tx142 ⊢) <;> omega)) (cwV 2 hts gX12_bends_X12_ofPipe rfl rfl rfl (by decide +kernel) ⟨Nat.le_of_ble_eq_true rfl, Nat.le_of_ble_eq_true rfl⟩) hP hK (precv hK hP m_h0 (cF12 k_h0) rfl) rfl hl.1 rfl (Nat.le_of_ble_eq_true rfl) dX12_bends_121 ⟨Nat.le_of_ble_eq_true rfl, Nat.le_of_ble_eq_true rfl⟩ (fun r143 hr143 => ?_)
            clear hr143
            refine lv_istore (lv' := [(7, .int r143), (3, .int x131), (2, .int x128), (6, .int r9), (5, .int r5), (0, .ref h0), (1, .int v1), (4, .int v4)]) hx hb dX12_bends_124 hl (by decide) rfl (fun ls hl => ?_)
            refine lv_iload hx hb dX12_bends_126 (lv_at hl 4 rfl) ?_
            refine lv_iload hx hb dX12_bends_128 (lv_at hl 0 rfl) ?_
            refine lv_icmp_ne (tgt := 136) hx hb dX12_bends_130 (by decide) (fun c144 => ?_) (fun c144 => ?_)
            · have b145 := Int32.toInt_lt r143
              refine lv_aload_n hx hb dX12_bends_136 rfl (lv_at hl 5 rfl) ?_
              have k_a17 : u133.2.1 a17 = 56 := (hp a17 m0_a17).2.1.trans k0_a17
              have m_a17 : a17 ∈ u133.1 := (hp a17 m0_a17).1
              refine pget (ci := 12) (v := va_rf (u133.2.2.2.2 h0 17)) (C := RX12) (T := TX12) (N := 34) hx hb hts i_X12 hown hK hP m_h0 (cF12 k_h0) rfl 17 (by decide) (hts (.fieldLink RX12 37 "BellowsRowModel" "bendX" "[I") (by decide +kernel)) (fun _ h9 => h9) rfl dX12_bends_137 ?_
              refine W.eq (g2 := F0 m 140 ls [.ref a17]) (by rw [(((hp h0 m0_h0).2.2.2.2.2.1 k0_h0 17).trans q0_17)]; rfl) ?_
              refine lv_aload_n hx hb dX12_bends_140 rfl (lv_at hl 5 rfl) ?_
              refine pget (ci := 12) (v := .int (u133.2.2.1 h0 16)) (C := RX12) (T := TX12) (N := 34) hx hb hts i_X12 hown hK hP m_h0 (cF12 k_h0) rfl 16 (by decide) (hts (.fieldLink RX12 303 "BellowsRowModel" "bendMany" "I") (by decide +kernel)) (fun _ h9 => h9) rfl dX12_bends_141 ?_
              have g146 := (hu h0 m_h0).2.2.2 16
              rw [k_h0] at g146
              replace g146 : 0 ≤ (u133.2.2.1 h0 16).toInt ∧ (u133.2.2.1 h0 16).toInt ≤ 8 := g146
              refine lv_iload_n hx hb dX12_bends_144 rfl (lv_at hl 2 rfl) ?_
              refine pasI (u' := pSI u133 a17 ((u133.2.2.1 h0 16).toNatClampNeg) x128) hx hb hK hP hD hS m_a17 (cF56 k_a17) 1 rfl (vp_in_iff.mpr (by (try simp only [i_lt, i_le, i_eq, Int32.toInt_toInt64, Int32.reduceToInt, Int64.reduceToInt, true_and, and_true, false_and, and_false, false_or, or_false, true_or, or_true, not_true_eq_false, not_false_eq_true, ne_eq, forall_const, true_implies, false_implies, implies_true] at g_v1 g_v4 ex0 hn17 yr1 hr1 c2 tx3 tx4 tx6 tx7 tx8 c10 w134 w135 w136 tx137 yr138 hr138 c139 tx140 tx141 tx142 c144 b145 g146 ⊢) <;> omega)) rfl (sF56 k_a17 _ _) dX12_bends_145 (fun H locs hP hD hS => ?_)
              have hu := WT.setI (a := a17) (s := ((u133.2.2.1 h0 16).toNatClampNeg)) (v := x128) hu (by rw [k_a17]; exact trivial)
              have hp := PX.setI (a := a17) (s := ((u133.2.2.1 h0 16).toNatClampNeg)) (v := x128) hp (by rw [k_a17]; decide)
              obtain ⟨u147, hu147⟩ : ∃ z, z = pSI u133 a17 ((u133.2.2.1 h0 16).toNatClampNeg) x128 := ⟨_, rfl⟩
              rw [← hu147] at hP hD hu hp
              have w148 : (u147.2.2.1 a1 (26 + 24 * v1.toInt + 3).toNat).toInt = (u133.2.2.1 a1 (26 + 24 * v1.toInt + 3).toNat).toInt := by rw [hu147]; exact congrArg Int32.toInt (if_neg (fun q => by have y := q.1; have z := k_a1; rw [y, k_a17] at z; exact absurd z (by decide)))
              have w149 : (u147.2.2.1 h0 21).toInt = (u133.2.2.1 h0 21).toInt := by rw [hu147]; exact congrArg Int32.toInt (if_neg (fun q => by have y := q.1; have z := k_h0; rw [y, k_a17] at z; exact absurd z (by decide)))
              have w150 : (u147.2.2.1 h0 16).toInt = (u133.2.2.1 h0 16).toInt := by rw [hu147]; exact congrArg Int32.toInt (if_neg (fun q => by have y := q.1; have z := k_h0; rw [y, k_a17] at z; exact absurd z (by decide)))
              refine lv_aload_n hx hb dX12_bends_146 rfl (lv_at hl 5 rfl) ?_
              have k_h0 : u147.2.1 h0 = 12 := (hp h0 m0_h0).2.1.trans k0_h0
              have m_h0 : h0 ∈ u147.1 := (hp h0 m0_h0).1
              have k_a18 : u147.2.1 a18 = 56 := (hp a18 m0_a18).2.1.trans k0_a18
              have m_a18 : a18 ∈ u147.1 := (hp a18 m0_a18).1
              refine pget (ci := 12) (v := va_rf (u147.2.2.2.2 h0 18)) (C := RX12) (T := TX12) (N := 34) hx hb hts i_X12 hown hK hP m_h0 (cF12 k_h0) rfl 18 (by decide) (hts (.fieldLink RX12 40 "BellowsRowModel" "bendY" "[I") (by decide +kernel)) (fun _ h9 => h9) rfl dX12_bends_147 ?_
              refine W.eq (g2 := F0 m 150 ls [.ref a18]) (by rw [(((hp h0 m0_h0).2.2.2.2.2.1 k0_h0 18).trans q0_18)]; rfl) ?_
              refine lv_aload_n hx hb dX12_bends_150 rfl (lv_at hl 5 rfl) ?_
              refine pget (ci := 12) (v := .int (u147.2.2.1 h0 16)) (C := RX12) (T := TX12) (N := 34) hx hb hts i_X12 hown hK hP m_h0 (cF12 k_h0) rfl 16 (by decide) (hts (.fieldLink RX12 303 "BellowsRowModel" "bendMany" "I") (by decide +kernel)) (fun _ h9 => h9) rfl dX12_bends_151 ?_
              have g151 := (hu h0 m_h0).2.2.2 16
              rw [k_h0] at g151
              replace g151 : 0 ≤ (u147.2.2.1 h0 16).toInt ∧ (u147.2.2.1 h0 16).toInt ≤ 8 := g151
              refine lv_iload_n hx hb dX12_bends_154 rfl (lv_at hl 1 rfl) ?_
              have k_a1 : u147.2.1 a1 = 50 := (hp a1 m0_a1).2.1.trans k0_a1
              have m_a1 : a1 ∈ u147.1 := (hp a1 m0_a1).1
              refine pasI (u' := pSI u147 a18 ((u147.2.2.1 h0 16).toNatClampNeg) x131) hx hb hK hP hD hS m_a18 (cF56 k_a18) 1 rfl (vp_in_iff.mpr (by (try simp only [i_lt, i_le, i_eq, Int32.toInt_toInt64, Int32.reduceToInt, Int64.reduceToInt, true_and, and_true, false_and, and_false, false_or, or_false, true_or, or_true, not_true_eq_false, not_false_eq_true, ne_eq, forall_const, true_implies, false_implies, implies_true] at g_v1 g_v4 ex0 hn17 yr1 hr1 c2 tx3 tx4 tx6 tx7 tx8 c10 w134 w135 w136 tx137 yr138 hr138 c139 tx140 tx141 tx142 c144 b145 g146 w148 w149 w150 g151 ⊢) <;> omega)) rfl (sF56 k_a18 _ _) dX12_bends_155 (fun H locs hP hD hS => ?_)
              have hu := WT.setI (a := a18) (s := ((u147.2.2.1 h0 16).toNatClampNeg)) (v := x131) hu (by rw [k_a18]; exact trivial)
              have hp := PX.setI (a := a18) (s := ((u147.2.2.1 h0 16).toNatClampNeg)) (v := x131) hp (by rw [k_a18]; decide)
              obtain ⟨u152, hu152⟩ : ∃ z, z = pSI u147 a18 ((u147.2.2.1 h0 16).toNatClampNeg) x131 := ⟨_, rfl⟩
              rw [← hu152] at hP hD hu hp
              have w153 : (u152.2.2.1 a1 (26 + 24 * v1.toInt + 3).toNat).toInt = (u147.2.2.1 a1 (26 + 24 * v1.toInt + 3).toNat).toInt := by rw [hu152]; exact congrArg Int32.toInt (if_neg (fun q => by have y := q.1; have z := k_a1; rw [y, k_a18] at z; exact absurd z (by decide)))
              have w154 : (u152.2.2.1 h0 21).toInt = (u147.2.2.1 h0 21).toInt := by rw [hu152]; exact congrArg Int32.toInt (if_neg (fun q => by have y := q.1; have z := k_h0; rw [y, k_a18] at z; exact absurd z (by decide)))
              have w155 : (u152.2.2.1 h0 16).toInt = (u147.2.2.1 h0 16).toInt := by rw [hu152]; exact congrArg Int32.toInt (if_neg (fun q => by have y := q.1; have z := k_h0; rw [y, k_a18] at z; exact absurd z (by decide)))
              refine lv_aload_n hx hb dX12_bends_156 rfl (lv_at hl 5 rfl) ?_
              have k_h0 : u152.2.1 h0 = 12 := (hp h0 m0_h0).2.1.trans k0_h0
              have m_h0 : h0 ∈ u152.1 := (hp h0 m0_h0).1
              have k_a19 : u152.2.1 a19 = 56 := (hp a19 m0_a19).2.1.trans k0_a19
              have m_a19 : a19 ∈ u152.1 := (hp a19 m0_a19).1
              refine pget (ci := 12) (v := va_rf (u152.2.2.2.2 h0 19)) (C := RX12) (T := TX12) (N := 34) hx hb hts i_X12 hown hK hP m_h0 (cF12 k_h0) rfl 19 (by decide) (hts (.fieldLink RX12 43 "BellowsRowModel" "along" "[I") (by decide +kernel)) (fun _ h9 => h9) rfl dX12_bends_157 ?_
              refine W.eq (g2 := F0 m 160 ls [.ref a19]) (by rw [(((hp h0 m0_h0).2.2.2.2.2.1 k0_h0 19).trans q0_19)]; rfl) ?_
              refine lv_aload_n hx hb dX12_bends_160 rfl (lv_at hl 5 rfl) ?_
              refine pget (ci := 12) (v := .int (u152.2.2.1 h0 16)) (C := RX12) (T := TX12) (N := 34) hx hb hts i_X12 hown hK hP m_h0 (cF12 k_h0) rfl 16 (by decide) (hts (.fieldLink RX12 303 "BellowsRowModel" "bendMany" "I") (by decide +kernel)) (fun _ h9 => h9) rfl dX12_bends_161 ?_
              have g156 := (hu h0 m_h0).2.2.2 16
              rw [k_h0] at g156
              replace g156 : 0 ≤ (u152.2.2.1 h0 16).toInt ∧ (u152.2.2.1 h0 16).toInt ≤ 8 := g156
              refine lv_iload hx hb dX12_bends_164 (lv_at hl 4 rfl) ?_
              refine lv_if_ne (tgt := 173) hx hb dX12_bends_166 (by decide) (fun h => absurd (by (try simp only [i_lt, i_le, i_eq, Int32.toInt_toInt64, Int32.reduceToInt, Int64.reduceToInt, true_and, and_true, false_and, and_false, false_or, or_false, true_or, or_true, not_true_eq_false, not_false_eq_true, ne_eq, forall_const, true_implies, false_implies, implies_true] at g_v1 g_v4 ex0 hn17 yr1 hr1 c2 tx3 tx4 tx6 tx7 tx8 c10 w134 w135 w136 tx137 yr138 hr138 c139 tx140 tx141 tx142 c144 b145 g146 w148 w149 w150 g151 w153 w154 w155 g156 ⊢) <;> omega) h) (fun _ => ?_)
              refine lv_iconst (v := 1) hx hb dX12_bends_169 (by decide) ?_
              refine lv_goto (tgt := 174) hx hb dX12_bends_170 (by decide) ?_
              refine lv_iload hx hb dX12_bends_174 (lv_at hl 0 rfl) ?_
              refine lv_if_ne (tgt := 183) hx hb dX12_bends_176 (by decide) (fun c157 => ?_) (fun c157 => ?_)
              · refine lv_iconst (v := 0) hx hb dX12_bends_183 (by decide) ?_
                refine lv_isub hx hb dX12_bends_184 ?_
                refine lv_topi (fun x158 ex158 => ?_)
                have tx158 : x158.toInt = (1 : Int32).toInt - (0 : Int32).toInt := by rw [ex158]; exact i_sub (by (try simp only [i_lt, i_le, i_eq, Int32.toInt_toInt64, Int32.reduceToInt, Int64.reduceToInt, true_and, and_true, false_and, and_false, false_or, or_false, true_or, or_true, not_true_eq_false, not_false_eq_true, ne_eq, forall_const, true_implies, false_implies, implies_true] at g_v1 g_v4 ex0 hn17 yr1 hr1 c2 tx3 tx4 tx6 tx7 tx8 c10 w134 w135 w136 tx137 yr138 hr138 c139 tx140 tx141 tx142 c144 b145 g146 w148 w149 w150 g151 w153 w154 w155 g156 c157 ⊢) <;> omega) (by (try simp only [i_lt, i_le, i_eq, Int32.toInt_toInt64, Int32.reduceToInt, Int64.reduceToInt, true_and, and_true, false_and, and_false, false_or, or_false, true_or, or_true, not_true_eq_false, not_false_eq_true, ne_eq, forall_const, true_implies, false_implies, implies_true] at g_v1 g_v4 ex0 hn17 yr1 hr1 c2 tx3 tx4 tx6 tx7 tx8 c10 w134 w135 w136 tx137 yr138 hr138 c139 tx140 tx141 tx142 c144 b145 g146 w148 w149 w150 g151 w153 w154 w155 g156 c157 ⊢) <;> omega)
                have k_a1 : u152.2.1 a1 = 50 := (hp a1 m0_a1).2.1.trans k0_a1
                have m_a1 : a1 ∈ u152.1 := (hp a1 m0_a1).1
                refine pasI (u' := pSI u152 a19 ((u152.2.2.1 h0 16).toNatClampNeg) x158) hx hb hK hP hD hS m_a19 (cF56 k_a19) 1 rfl (vp_in_iff.mpr (by (try simp only [i_lt, i_le, i_eq, Int32.toInt_toInt64, Int32.reduceToInt, Int64.reduceToInt, true_and, and_true, false_and, and_false, false_or, or_false, true_or, or_true, not_true_eq_false, not_false_eq_true, ne_eq, forall_const, true_implies, false_implies, implies_true] at g_v1 g_v4 ex0 hn17 yr1 hr1 c2 tx3 tx4 tx6 tx7 tx8 c10 w134 w135 w136 tx137 yr138 hr138 c139 tx140 tx141 tx142 c144 b145 g146 w148 w149 w150 g151 w153 w154 w155 g156 c157 tx158 ⊢) <;> omega)) rfl (sF56 k_a19 _ _) dX12_bends_185 (fun H locs hP hD hS => ?_)
                have hu := WT.setI (a := a19) (s := ((u152.2.2.1 h0 16).toNatClampNeg)) (v := x158) hu (by rw [k_a19]; exact trivial)
                have hp := PX.setI (a := a19) (s := ((u152.2.2.1 h0 16).toNatClampNeg)) (v := x158) hp (by rw [k_a19]; decide)
                obtain ⟨u159, hu159⟩ : ∃ z, z = pSI u152 a19 ((u152.2.2.1 h0 16).toNatClampNeg) x158 := ⟨_, rfl⟩
                rw [← hu159] at hP hD hu hp
                have w160 : (u159.2.2.1 a1 (26 + 24 * v1.toInt + 3).toNat).toInt = (u152.2.2.1 a1 (26 + 24 * v1.toInt + 3).toNat).toInt := by rw [hu159]; exact congrArg Int32.toInt (if_neg (fun q => by have y := q.1; have z := k_a1; rw [y, k_a19] at z; exact absurd z (by decide)))
                have w161 : (u159.2.2.1 h0 21).toInt = (u152.2.2.1 h0 21).toInt := by rw [hu159]; exact congrArg Int32.toInt (if_neg (fun q => by have y := q.1; have z := k_h0; rw [y, k_a19] at z; exact absurd z (by decide)))
                have w162 : (u159.2.2.1 h0 16).toInt = (u152.2.2.1 h0 16).toInt := by rw [hu159]; exact congrArg Int32.toInt (if_neg (fun q => by have y := q.1; have z := k_h0; rw [y, k_a19] at z; exact absurd z (by decide)))
                refine lv_aload_n hx hb dX12_bends_186 rfl (lv_at hl 5 rfl) ?_
                have k_h0 : u159.2.1 h0 = 12 := (hp h0 m0_h0).2.1.trans k0_h0
                have m_h0 : h0 ∈ u159.1 := (hp h0 m0_h0).1
                have k_a20 : u159.2.1 a20 = 56 := (hp a20 m0_a20).2.1.trans k0_a20
                have m_a20 : a20 ∈ u159.1 := (hp a20 m0_a20).1
                refine pget (ci := 12) (v := va_rf (u159.2.2.2.2 h0 20)) (C := RX12) (T := TX12) (N := 34) hx hb hts i_X12 hown hK hP m_h0 (cF12 k_h0) rfl 20 (by decide) (hts (.fieldLink RX12 46 "BellowsRowModel" "across" "[I") (by decide +kernel)) (fun _ h9 => h9) rfl dX12_bends_187 ?_
                refine W.eq (g2 := F0 m 190 ls [.ref a20]) (by rw [(((hp h0 m0_h0).2.2.2.2.2.1 k0_h0 20).trans q0_20)]; rfl) ?_
                refine lv_aload_n hx hb dX12_bends_190 rfl (lv_at hl 5 rfl) ?_
                refine pget (ci := 12) (v := .int (u159.2.2.1 h0 16)) (C := RX12) (T := TX12) (N := 34) hx hb hts i_X12 hown hK hP m_h0 (cF12 k_h0) rfl 16 (by decide) (hts (.fieldLink RX12 303 "BellowsRowModel" "bendMany" "I") (by decide +kernel)) (fun _ h9 => h9) rfl dX12_bends_191 ?_
                have g163 := (hu h0 m_h0).2.2.2 16
                rw [k_h0] at g163
                replace g163 : 0 ≤ (u159.2.2.1 h0 16).toInt ∧ (u159.2.2.1 h0 16).toInt ≤ 8 := g163
                refine lv_iload hx hb dX12_bends_194 (lv_at hl 4 rfl) ?_
                have k_a1 : u159.2.1 a1 = 50 := (hp a1 m0_a1).2.1.trans k0_a1
                have m_a1 : a1 ∈ u159.1 := (hp a1 m0_a1).1
                refine psi (As := [.int r5]) (rest := [.int (u159.2.2.1 h0 16), .ref a20]) ⟨hx, hb, hml, hown, hts⟩ (t_X12_upOf l D k r5) (va_cwS 1 hts gX12_bends_X12_upOf rfl rfl rfl (by decide +kernel) ⟨Nat.le_of_ble_eq_true rfl, Nat.le_of_ble_eq_true rfl⟩) hK rfl hl.1 rfl (Nat.le_of_ble_eq_true rfl) dX12_bends_196 ⟨Nat.le_of_ble_eq_true rfl, Nat.le_of_ble_eq_true rfl⟩ (fun r164 hr164 => ?_)
                refine lv_iload hx hb dX12_bends_199 (lv_at hl 0 rfl) ?_
                refine psi (As := [.int r143]) (rest := [.int r164, .int (u159.2.2.1 h0 16), .ref a20]) ⟨hx, hb, hml, hown, hts⟩ (t_X12_upOf l D k r143) (va_cwS 1 hts gX12_bends_X12_upOf rfl rfl rfl (by decide +kernel) ⟨Nat.le_of_ble_eq_true rfl, Nat.le_of_ble_eq_true rfl⟩) hK rfl hl.1 rfl (Nat.le_of_ble_eq_true rfl) dX12_bends_201 ⟨Nat.le_of_ble_eq_true rfl, Nat.le_of_ble_eq_true rfl⟩ (fun r165 hr165 => ?_)
                refine lv_isub hx hb dX12_bends_204 ?_
                refine lv_topi (fun x166 ex166 => ?_)
                refine pasI (u' := pSI u159 a20 ((u159.2.2.1 h0 16).toNatClampNeg) x166) hx hb hK hP hD hS m_a20 (cF56 k_a20) 1 rfl (vp_in_iff.mpr (by (try simp only [i_lt, i_le, i_eq, Int32.toInt_toInt64, Int32.reduceToInt, Int64.reduceToInt, true_and, and_true, false_and, and_false, false_or, or_false, true_or, or_true, not_true_eq_false, not_false_eq_true, ne_eq, forall_const, true_implies, false_implies, implies_true] at g_v1 g_v4 ex0 hn17 yr1 hr1 c2 tx3 tx4 tx6 tx7 tx8 c10 w134 w135 w136 tx137 yr138 hr138 c139 tx140 tx141 tx142 c144 b145 g146 w148 w149 w150 g151 w153 w154 w155 g156 c157 tx158 w160 w161 w162 g163 ⊢) <;> omega)) rfl (sF56 k_a20 _ _) dX12_bends_205 (fun H locs hP hD hS => ?_)
                have hu := WT.setI (a := a20) (s := ((u159.2.2.1 h0 16).toNatClampNeg)) (v := x166) hu (by rw [k_a20]; exact trivial)
                have hp := PX.setI (a := a20) (s := ((u159.2.2.1 h0 16).toNatClampNeg)) (v := x166) hp (by rw [k_a20]; decide)
                obtain ⟨u167, hu167⟩ : ∃ z, z = pSI u159 a20 ((u159.2.2.1 h0 16).toNatClampNeg) x166 := ⟨_, rfl⟩
                rw [← hu167] at hP hD hu hp
                have w168 : (u167.2.2.1 a1 (26 + 24 * v1.toInt + 3).toNat).toInt = (u159.2.2.1 a1 (26 + 24 * v1.toInt + 3).toNat).toInt := by rw [hu167]; exact congrArg Int32.toInt (if_neg (fun q => by have y := q.1; have z := k_a1; rw [y, k_a20] at z; exact absurd z (by decide)))
                have w169 : (u167.2.2.1 h0 21).toInt = (u159.2.2.1 h0 21).toInt := by rw [hu167]; exact congrArg Int32.toInt (if_neg (fun q => by have y := q.1; have z := k_h0; rw [y, k_a20] at z; exact absurd z (by decide)))
                have w170 : (u167.2.2.1 h0 16).toInt = (u159.2.2.1 h0 16).toInt := by rw [hu167]; exact congrArg Int32.toInt (if_neg (fun q => by have y := q.1; have z := k_h0; rw [y, k_a20] at z; exact absurd z (by decide)))
                refine lv_aload_n hx hb dX12_bends_206 rfl (lv_at hl 5 rfl) ?_
                refine lv_dup hx hb dX12_bends_207 rfl ?_
                have k_h0 : u167.2.1 h0 = 12 := (hp h0 m0_h0).2.1.trans k0_h0
                have m_h0 : h0 ∈ u167.1 := (hp h0 m0_h0).1
                refine pget (ci := 12) (v := .int (u167.2.2.1 h0 16)) (C := RX12) (T := TX12) (N := 34) hx hb hts i_X12 hown hK hP m_h0 (cF12 k_h0) rfl 16 (by decide) (hts (.fieldLink RX12 303 "BellowsRowModel" "bendMany" "I") (by decide +kernel)) (fun _ h9 => h9) rfl dX12_bends_208 ?_
                have g171 := (hu h0 m_h0).2.2.2 16
                rw [k_h0] at g171
                replace g171 : 0 ≤ (u167.2.2.1 h0 16).toInt ∧ (u167.2.2.1 h0 16).toInt ≤ 8 := g171
                refine lv_iconst (v := 1) hx hb dX12_bends_211 (by decide) ?_
                refine lv_iadd hx hb dX12_bends_212 ?_
                refine lv_topi (fun x172 ex172 => ?_)
                have tx172 : x172.toInt = (u167.2.2.1 h0 16).toInt + (1 : Int32).toInt := by rw [ex172]; exact i_add (by (try simp only [i_lt, i_le, i_eq, Int32.toInt_toInt64, Int32.reduceToInt, Int64.reduceToInt, true_and, and_true, false_and, and_false, false_or, or_false, true_or, or_true, not_true_eq_false, not_false_eq_true, ne_eq, forall_const, true_implies, false_implies, implies_true] at g_v1 g_v4 ex0 hn17 yr1 hr1 c2 tx3 tx4 tx6 tx7 tx8 c10 w134 w135 w136 tx137 yr138 hr138 c139 tx140 tx141 tx142 c144 b145 g146 w148 w149 w150 g151 w153 w154 w155 g156 c157 tx158 w160 w161 w162 g163 w168 w169 w170 g171 ⊢) <;> omega) (by (try simp only [i_lt, i_le, i_eq, Int32.toInt_toInt64, Int32.reduceToInt, Int64.reduceToInt, true_and, and_true, false_and, and_false, false_or, or_false, true_or, or_true, not_true_eq_false, not_false_eq_true, ne_eq, forall_const, true_implies, false_implies, implies_true] at g_v1 g_v4 ex0 hn17 yr1 hr1 c2 tx3 tx4 tx6 tx7 tx8 c10 w134 w135 w136 tx137 yr138 hr138 c139 tx140 tx141 tx142 c144 b145 g146 w148 w149 w150 g151 w153 w154 w155 g156 c157 tx158 w160 w161 w162 g163 w168 w169 w170 g171 ⊢) <;> omega)
                have k_a1 : u167.2.1 a1 = 50 := (hp a1 m0_a1).2.1.trans k0_a1
                have m_a1 : a1 ∈ u167.1 := (hp a1 m0_a1).1
                refine pput (u' := pSI u167 h0 16 x172) (ci := 12) (v := .int x172) (ty := .int) (C := RX12) (T := TX12) (N := 34) hx hb hts i_X12 tyX12 tyX12_ok nmX12 hown hK hP hD hS m_h0 (cF12 k_h0) rfl 16 (by decide) (hts (.fieldLink RX12 303 "BellowsRowModel" "bendMany" "I") (by decide +kernel)) (fun _ h9 => h9) rfl (by decide +kernel) rfl rfl (Nat.le_of_ble_eq_true rfl) rfl (sF12_16 k_h0 x172) dX12_bends_213 (fun H locs hP hD hS => ?_)
                have hu := WT.setI (a := h0) (s := 16) (v := x172) hu (by rw [k_h0]; exact (show 0 ≤ x172.toInt ∧ x172.toInt ≤ 8 from by (try simp only [i_lt, i_le, i_eq, Int32.toInt_toInt64, Int32.reduceToInt, Int64.reduceToInt, true_and, and_true, false_and, and_false, false_or, or_false, true_or, or_true, not_true_eq_false, not_false_eq_true, ne_eq, forall_const, true_implies, false_implies, implies_true] at g_v1 g_v4 ex0 hn17 yr1 hr1 c2 tx3 tx4 tx6 tx7 tx8 c10 w134 w135 w136 tx137 yr138 hr138 c139 tx140 tx141 tx142 c144 b145 g146 w148 w149 w150 g151 w153 w154 w155 g156 c157 tx158 w160 w161 w162 g163 w168 w169 w170 g171 tx172 ⊢) <;> omega))
                have hp := PX.setI (a := h0) (s := 16) (v := x172) hp (by rw [k_h0]; decide)
                obtain ⟨u173, hu173⟩ : ∃ z, z = pSI u167 h0 16 x172 := ⟨_, rfl⟩
                rw [← hu173] at hP hD hu hp
                have w174 : (u173.2.2.1 a1 (26 + 24 * v1.toInt + 3).toNat).toInt = (u167.2.2.1 a1 (26 + 24 * v1.toInt + 3).toNat).toInt := by rw [hu173]; exact congrArg Int32.toInt (if_neg (fun q => by have y := q.1; have z := k_a1; rw [y, k_h0] at z; exact absurd z (by decide)))
                have w175 : (u173.2.2.1 h0 21).toInt = (u167.2.2.1 h0 21).toInt := by rw [hu173]; exact congrArg Int32.toInt (if_neg (fun q => absurd q.2 (by decide)))
                have w176 : (u173.2.2.1 h0 16).toInt = x172.toInt := by rw [hu173]; exact congrArg Int32.toInt (if_pos ⟨rfl, rfl⟩)
                obtain ⟨x177, ex177⟩ : ∃ y : Int32, y = v4 + 1 := ⟨_, rfl⟩
                have tx177 : x177.toInt = v4.toInt + 1 := by rw [ex177]; exact i_add (b := 1) (by (try simp only [i_lt, i_le, i_eq, Int32.toInt_toInt64, Int32.reduceToInt, Int64.reduceToInt, true_and, and_true, false_and, and_false, false_or, or_false, true_or, or_true, not_true_eq_false, not_false_eq_true, ne_eq, forall_const, true_implies, false_implies, implies_true] at g_v1 g_v4 ex0 hn17 yr1 hr1 c2 tx3 tx4 tx6 tx7 tx8 c10 w134 w135 w136 tx137 yr138 hr138 c139 tx140 tx141 tx142 c144 b145 g146 w148 w149 w150 g151 w153 w154 w155 g156 c157 tx158 w160 w161 w162 g163 w168 w169 w170 g171 tx172 w174 w175 w176 ⊢) <;> omega) (by (try simp only [i_lt, i_le, i_eq, Int32.toInt_toInt64, Int32.reduceToInt, Int64.reduceToInt, true_and, and_true, false_and, and_false, false_or, or_false, true_or, or_true, not_true_eq_false, not_false_eq_true, ne_eq, forall_const, true_implies, false_implies, implies_true] at g_v1 g_v4 ex0 hn17 yr1 hr1 c2 tx3 tx4 tx6 tx7 tx8 c10 w134 w135 w136 tx137 yr138 hr138 c139 tx140 tx141 tx142 c144 b145 g146 w148 w149 w150 g151 w153 w154 w155 g156 c157 tx158 w160 w161 w162 g163 w168 w169 w170 g171 tx172 w174 w175 w176 ⊢) <;> omega)
                refine lv_iinc (v := x177) (lv' := [(4, .int x177), (7, .int r143), (3, .int x131), (2, .int x128), (6, .int r9), (5, .int r5), (0, .ref h0), (1, .int v1)]) hx hb dX12_bends_216 hl (k := 7) rfl (by rw [ex177]; rfl) (by decide) rfl (fun ls hl => ?_)
                refine lv_goto (tgt := 17) hx hb dX12_bends_219 (by decide) ?_
                exact ih17 _ _ _ ls v1 x128 x131 x177 hu hp hP hD hS (by (try simp only [i_lt, i_le, i_eq, Int32.toInt_toInt64, Int32.reduceToInt, Int64.reduceToInt, true_and, and_true, false_and, and_false, false_or, or_false, true_or, or_true, not_true_eq_false, not_false_eq_true, ne_eq, forall_const, true_implies, false_implies, implies_true] at g_v1 g_v4 ex0 hn17 yr1 hr1 c2 tx3 tx4 tx6 tx7 tx8 c10 w134 w135 w136 tx137 yr138 hr138 c139 tx140 tx141 tx142 c144 b145 g146 w148 w149 w150 g151 w153 w154 w155 g156 c157 tx158 w160 w161 w162 g163 w168 w169 w170 g171 tx172 w174 w175 w176 tx177 ⊢) <;> omega) (by (try simp only [i_lt, i_le, i_eq, Int32.toInt_toInt64, Int32.reduceToInt, Int64.reduceToInt, true_and, and_true, false_and, and_false, false_or, or_false, true_or, or_true, not_true_eq_false, not_false_eq_true, ne_eq, forall_const, true_implies, false_implies, implies_true] at g_v1 g_v4 ex0 hn17 yr1 hr1 c2 tx3 tx4 tx6 tx7 tx8 c10 w134 w135 w136 tx137 yr138 hr138 c139 tx140 tx141 tx142 c144 b145 g146 w148 w149 w150 g151 w153 w154 w155 g156 c157 tx158 w160 w161 w162 g163 w168 w169 w170 g171 tx172 w174 w175 w176 tx177 ⊢) <;> omega) (by (try simp only [i_lt, i_le, i_eq, Int32.toInt_toInt64, Int32.reduceToInt, Int64.reduceToInt, true_and, and_true, false_and, and_false, false_or, or_false, true_or, or_true, not_true_eq_false, not_false_eq_true, ne_eq, forall_const, true_implies, false_implies, implies_true] at g_v1 g_v4 ex0 hn17 yr1 hr1 c2 tx3 tx4 tx6 tx7 tx8 c10 w134 w135 w136 tx137 yr138 hr138 c139 tx140 tx141 tx142 c144 b145 g146 w148 w149 w150 g151 w153 w154 w155 g156 c157 tx158 w160 w161 w162 g163 w168 w169 w170 g171 tx172 w174 w175 w176 tx177 ⊢) <;> omega) (by (try simp only [i_lt, i_le, i_eq, Int32.toInt_toInt64, Int32.reduceToInt, Int64.reduceToInt, true_and, and_true, false_and, and_false, false_or, or_false, true_or, or_true, not_true_eq_false, not_false_eq_true, ne_eq, forall_const, true_implies, false_implies, implies_true] at g_v1 g_v4 ex0 hn17 yr1 hr1 c2 tx3 tx4 tx6 tx7 tx8 c10 w134 w135 w136 tx137 yr138 hr138 c139 tx140 tx141 tx142 c144 b145 g146 w148 w149 w150 g151 w153 w154 w155 g156 c157 tx158 w160 w161 w162 g163 w168 w169 w170 g171 tx172 w174 w175 w176 tx177 ⊢) <;> omega) (lv_sub hl [6, 7, 3, 2, 0] rfl)
              · refine lv_iconst (v := 1) hx hb dX12_bends_179 (by decide) ?_
                refine lv_goto (tgt := 184) hx hb dX12_bends_180 (by decide) ?_
                refine lv_isub hx hb dX12_bends_184 ?_
                refine lv_topi (fun x178 ex178 => ?_)
                have tx178 : x178.toInt = (1 : Int32).toInt - (1 : Int32).toInt := by rw [ex178]; exact i_sub (by (try simp only [i_lt, i_le, i_eq, Int32.toInt_toInt64, Int32.reduceToInt, Int64.reduceToInt, true_and, and_true, false_and, and_false, false_or, or_false, true_or, or_true, not_true_eq_false, not_false_eq_true, ne_eq, forall_const, true_implies, false_implies, implies_true] at g_v1 g_v4 ex0 hn17 yr1 hr1 c2 tx3 tx4 tx6 tx7 tx8 c10 w134 w135 w136 tx137 yr138 hr138 c139 tx140 tx141 tx142 c144 b145 g146 w148 w149 w150 g151 w153 w154 w155 g156 c157 ⊢) <;> omega) (by (try simp only [i_lt, i_le, i_eq, Int32.toInt_toInt64, Int32.reduceToInt, Int64.reduceToInt, true_and, and_true, false_and, and_false, false_or, or_false, true_or, or_true, not_true_eq_false, not_false_eq_true, ne_eq, forall_const, true_implies, false_implies, implies_true] at g_v1 g_v4 ex0 hn17 yr1 hr1 c2 tx3 tx4 tx6 tx7 tx8 c10 w134 w135 w136 tx137 yr138 hr138 c139 tx140 tx141 tx142 c144 b145 g146 w148 w149 w150 g151 w153 w154 w155 g156 c157 ⊢) <;> omega)
                have k_a1 : u152.2.1 a1 = 50 := (hp a1 m0_a1).2.1.trans k0_a1
                have m_a1 : a1 ∈ u152.1 := (hp a1 m0_a1).1
                refine pasI (u' := pSI u152 a19 ((u152.2.2.1 h0 16).toNatClampNeg) x178) hx hb hK hP hD hS m_a19 (cF56 k_a19) 1 rfl (vp_in_iff.mpr (by (try simp only [i_lt, i_le, i_eq, Int32.toInt_toInt64, Int32.reduceToInt, Int64.reduceToInt, true_and, and_true, false_and, and_false, false_or, or_false, true_or, or_true, not_true_eq_false, not_false_eq_true, ne_eq, forall_const, true_implies, false_implies, implies_true] at g_v1 g_v4 ex0 hn17 yr1 hr1 c2 tx3 tx4 tx6 tx7 tx8 c10 w134 w135 w136 tx137 yr138 hr138 c139 tx140 tx141 tx142 c144 b145 g146 w148 w149 w150 g151 w153 w154 w155 g156 c157 tx178 ⊢) <;> omega)) rfl (sF56 k_a19 _ _) dX12_bends_185 (fun H locs hP hD hS => ?_)
                have hu := WT.setI (a := a19) (s := ((u152.2.2.1 h0 16).toNatClampNeg)) (v := x178) hu (by rw [k_a19]; exact trivial)
                have hp := PX.setI (a := a19) (s := ((u152.2.2.1 h0 16).toNatClampNeg)) (v := x178) hp (by rw [k_a19]; decide)
                obtain ⟨u179, hu179⟩ : ∃ z, z = pSI u152 a19 ((u152.2.2.1 h0 16).toNatClampNeg) x178 := ⟨_, rfl⟩
                rw [← hu179] at hP hD hu hp
                have w180 : (u179.2.2.1 a1 (26 + 24 * v1.toInt + 3).toNat).toInt = (u152.2.2.1 a1 (26 + 24 * v1.toInt + 3).toNat).toInt := by rw [hu179]; exact congrArg Int32.toInt (if_neg (fun q => by have y := q.1; have z := k_a1; rw [y, k_a19] at z; exact absurd z (by decide)))
                have w181 : (u179.2.2.1 h0 21).toInt = (u152.2.2.1 h0 21).toInt := by rw [hu179]; exact congrArg Int32.toInt (if_neg (fun q => by have y := q.1; have z := k_h0; rw [y, k_a19] at z; exact absurd z (by decide)))
                have w182 : (u179.2.2.1 h0 16).toInt = (u152.2.2.1 h0 16).toInt := by rw [hu179]; exact congrArg Int32.toInt (if_neg (fun q => by have y := q.1; have z := k_h0; rw [y, k_a19] at z; exact absurd z (by decide)))
                refine lv_aload_n hx hb dX12_bends_186 rfl (lv_at hl 5 rfl) ?_
                have k_h0 : u179.2.1 h0 = 12 := (hp h0 m0_h0).2.1.trans k0_h0
                have m_h0 : h0 ∈ u179.1 := (hp h0 m0_h0).1
                have k_a20 : u179.2.1 a20 = 56 := (hp a20 m0_a20).2.1.trans k0_a20
                have m_a20 : a20 ∈ u179.1 := (hp a20 m0_a20).1
                refine pget (ci := 12) (v := va_rf (u179.2.2.2.2 h0 20)) (C := RX12) (T := TX12) (N := 34) hx hb hts i_X12 hown hK hP m_h0 (cF12 k_h0) rfl 20 (by decide) (hts (.fieldLink RX12 46 "BellowsRowModel" "across" "[I") (by decide +kernel)) (fun _ h9 => h9) rfl dX12_bends_187 ?_
                refine W.eq (g2 := F0 m 190 ls [.ref a20]) (by rw [(((hp h0 m0_h0).2.2.2.2.2.1 k0_h0 20).trans q0_20)]; rfl) ?_
                refine lv_aload_n hx hb dX12_bends_190 rfl (lv_at hl 5 rfl) ?_
                refine pget (ci := 12) (v := .int (u179.2.2.1 h0 16)) (C := RX12) (T := TX12) (N := 34) hx hb hts i_X12 hown hK hP m_h0 (cF12 k_h0) rfl 16 (by decide) (hts (.fieldLink RX12 303 "BellowsRowModel" "bendMany" "I") (by decide +kernel)) (fun _ h9 => h9) rfl dX12_bends_191 ?_
                have g183 := (hu h0 m_h0).2.2.2 16
                rw [k_h0] at g183
                replace g183 : 0 ≤ (u179.2.2.1 h0 16).toInt ∧ (u179.2.2.1 h0 16).toInt ≤ 8 := g183
                refine lv_iload hx hb dX12_bends_194 (lv_at hl 4 rfl) ?_
                have k_a1 : u179.2.1 a1 = 50 := (hp a1 m0_a1).2.1.trans k0_a1
                have m_a1 : a1 ∈ u179.1 := (hp a1 m0_a1).1
                refine psi (As := [.int r5]) (rest := [.int (u179.2.2.1 h0 16), .ref a20]) ⟨hx, hb, hml, hown, hts⟩ (t_X12_upOf l D k r5) (va_cwS 1 hts gX12_bends_X12_upOf rfl rfl rfl (by decide +kernel) ⟨Nat.le_of_ble_eq_true rfl, Nat.le_of_ble_eq_true rfl⟩) hK rfl hl.1 rfl (Nat.le_of_ble_eq_true rfl) dX12_bends_196 ⟨Nat.le_of_ble_eq_true rfl, Nat.le_of_ble_eq_true rfl⟩ (fun r184 hr184 => ?_)
                refine lv_iload hx hb dX12_bends_199 (lv_at hl 0 rfl) ?_
                refine psi (As := [.int r143]) (rest := [.int r184, .int (u179.2.2.1 h0 16), .ref a20]) ⟨hx, hb, hml, hown, hts⟩ (t_X12_upOf l D k r143) (va_cwS 1 hts gX12_bends_X12_upOf rfl rfl rfl (by decide +kernel) ⟨Nat.le_of_ble_eq_true rfl, Nat.le_of_ble_eq_true rfl⟩) hK rfl hl.1 rfl (Nat.le_of_ble_eq_true rfl) dX12_bends_201 ⟨Nat.le_of_ble_eq_true rfl, Nat.le_of_ble_eq_true rfl⟩ (fun r185 hr185 => ?_)
                refine lv_isub hx hb dX12_bends_204 ?_
                refine lv_topi (fun x186 ex186 => ?_)
                refine pasI (u' := pSI u179 a20 ((u179.2.2.1 h0 16).toNatClampNeg) x186) hx hb hK hP hD hS m_a20 (cF56 k_a20) 1 rfl (vp_in_iff.mpr (by (try simp only [i_lt, i_le, i_eq, Int32.toInt_toInt64, Int32.reduceToInt, Int64.reduceToInt, true_and, and_true, false_and, and_false, false_or, or_false, true_or, or_true, not_true_eq_false, not_false_eq_true, ne_eq, forall_const, true_implies, false_implies, implies_true] at g_v1 g_v4 ex0 hn17 yr1 hr1 c2 tx3 tx4 tx6 tx7 tx8 c10 w134 w135 w136 tx137 yr138 hr138 c139 tx140 tx141 tx142 c144 b145 g146 w148 w149 w150 g151 w153 w154 w155 g156 c157 tx178 w180 w181 w182 g183 ⊢) <;> omega)) rfl (sF56 k_a20 _ _) dX12_bends_205 (fun H locs hP hD hS => ?_)
                have hu := WT.setI (a := a20) (s := ((u179.2.2.1 h0 16).toNatClampNeg)) (v := x186) hu (by rw [k_a20]; exact trivial)
                have hp := PX.setI (a := a20) (s := ((u179.2.2.1 h0 16).toNatClampNeg)) (v := x186) hp (by rw [k_a20]; decide)
                obtain ⟨u187, hu187⟩ : ∃ z, z = pSI u179 a20 ((u179.2.2.1 h0 16).toNatClampNeg) x186 := ⟨_, rfl⟩
                rw [← hu187] at hP hD hu hp
                have w188 : (u187.2.2.1 a1 (26 + 24 * v1.toInt + 3).toNat).toInt = (u179.2.2.1 a1 (26 + 24 * v1.toInt + 3).toNat).toInt := by rw [hu187]; exact congrArg Int32.toInt (if_neg (fun q => by have y := q.1; have z := k_a1; rw [y, k_a20] at z; exact absurd z (by decide)))
                have w189 : (u187.2.2.1 h0 21).toInt = (u179.2.2.1 h0 21).toInt := by rw [hu187]; exact congrArg Int32.toInt (if_neg (fun q => by have y := q.1; have z := k_h0; rw [y, k_a20] at z; exact absurd z (by decide)))
                have w190 : (u187.2.2.1 h0 16).toInt = (u179.2.2.1 h0 16).toInt := by rw [hu187]; exact congrArg Int32.toInt (if_neg (fun q => by have y := q.1; have z := k_h0; rw [y, k_a20] at z; exact absurd z (by decide)))
                refine lv_aload_n hx hb dX12_bends_206 rfl (lv_at hl 5 rfl) ?_
                refine lv_dup hx hb dX12_bends_207 rfl ?_
                have k_h0 : u187.2.1 h0 = 12 := (hp h0 m0_h0).2.1.trans k0_h0
                have m_h0 : h0 ∈ u187.1 := (hp h0 m0_h0).1
                refine pget (ci := 12) (v := .int (u187.2.2.1 h0 16)) (C := RX12) (T := TX12) (N := 34) hx hb hts i_X12 hown hK hP m_h0 (cF12 k_h0) rfl 16 (by decide) (hts (.fieldLink RX12 303 "BellowsRowModel" "bendMany" "I") (by decide +kernel)) (fun _ h9 => h9) rfl dX12_bends_208 ?_
                have g191 := (hu h0 m_h0).2.2.2 16
                rw [k_h0] at g191
                replace g191 : 0 ≤ (u187.2.2.1 h0 16).toInt ∧ (u187.2.2.1 h0 16).toInt ≤ 8 := g191
                refine lv_iconst (v := 1) hx hb dX12_bends_211 (by decide) ?_
                refine lv_iadd hx hb dX12_bends_212 ?_
                refine lv_topi (fun x192 ex192 => ?_)
                have tx192 : x192.toInt = (u187.2.2.1 h0 16).toInt + (1 : Int32).toInt := by rw [ex192]; exact i_add (by (try simp only [i_lt, i_le, i_eq, Int32.toInt_toInt64, Int32.reduceToInt, Int64.reduceToInt, true_and, and_true, false_and, and_false, false_or, or_false, true_or, or_true, not_true_eq_false, not_false_eq_true, ne_eq, forall_const, true_implies, false_implies, implies_true] at g_v1 g_v4 ex0 hn17 yr1 hr1 c2 tx3 tx4 tx6 tx7 tx8 c10 w134 w135 w136 tx137 yr138 hr138 c139 tx140 tx141 tx142 c144 b145 g146 w148 w149 w150 g151 w153 w154 w155 g156 c157 tx178 w180 w181 w182 g183 w188 w189 w190 g191 ⊢) <;> omega) (by (try simp only [i_lt, i_le, i_eq, Int32.toInt_toInt64, Int32.reduceToInt, Int64.reduceToInt, true_and, and_true, false_and, and_false, false_or, or_false, true_or, or_true, not_true_eq_false, not_false_eq_true, ne_eq, forall_const, true_implies, false_implies, implies_true] at g_v1 g_v4 ex0 hn17 yr1 hr1 c2 tx3 tx4 tx6 tx7 tx8 c10 w134 w135 w136 tx137 yr138 hr138 c139 tx140 tx141 tx142 c144 b145 g146 w148 w149 w150 g151 w153 w154 w155 g156 c157 tx178 w180 w181 w182 g183 w188 w189 w190 g191 ⊢) <;> omega)
                have k_a1 : u187.2.1 a1 = 50 := (hp a1 m0_a1).2.1.trans k0_a1
                have m_a1 : a1 ∈ u187.1 := (hp a1 m0_a1).1
                refine pput (u' := pSI u187 h0 16 x192) (ci := 12) (v := .int x192) (ty := .int) (C := RX12) (T := TX12) (N := 34) hx hb hts i_X12 tyX12 tyX12_ok nmX12 hown hK hP hD hS m_h0 (cF12 k_h0) rfl 16 (by decide) (hts (.fieldLink RX12 303 "BellowsRowModel" "bendMany" "I") (by decide +kernel)) (fun _ h9 => h9) rfl (by decide +kernel) rfl rfl (Nat.le_of_ble_eq_true rfl) rfl (sF12_16 k_h0 x192) dX12_bends_213 (fun H locs hP hD hS => ?_)
                have hu := WT.setI (a := h0) (s := 16) (v := x192) hu (by rw [k_h0]; exact (show 0 ≤ x192.toInt ∧ x192.toInt ≤ 8 from by (try simp only [i_lt, i_le, i_eq, Int32.toInt_toInt64, Int32.reduceToInt, Int64.reduceToInt, true_and, and_true, false_and, and_false, false_or, or_false, true_or, or_true, not_true_eq_false, not_false_eq_true, ne_eq, forall_const, true_implies, false_implies, implies_true] at g_v1 g_v4 ex0 hn17 yr1 hr1 c2 tx3 tx4 tx6 tx7 tx8 c10 w134 w135 w136 tx137 yr138 hr138 c139 tx140 tx141 tx142 c144 b145 g146 w148 w149 w150 g151 w153 w154 w155 g156 c157 tx178 w180 w181 w182 g183 w188 w189 w190 g191 tx192 ⊢) <;> omega))
                have hp := PX.setI (a := h0) (s := 16) (v := x192) hp (by rw [k_h0]; decide)
                obtain ⟨u193, hu193⟩ : ∃ z, z = pSI u187 h0 16 x192 := ⟨_, rfl⟩
                rw [← hu193] at hP hD hu hp
                have w194 : (u193.2.2.1 a1 (26 + 24 * v1.toInt + 3).toNat).toInt = (u187.2.2.1 a1 (26 + 24 * v1.toInt + 3).toNat).toInt := by rw [hu193]; exact congrArg Int32.toInt (if_neg (fun q => by have y := q.1; have z := k_a1; rw [y, k_h0] at z; exact absurd z (by decide)))
                have w195 : (u193.2.2.1 h0 21).toInt = (u187.2.2.1 h0 21).toInt := by rw [hu193]; exact congrArg Int32.toInt (if_neg (fun q => absurd q.2 (by decide)))
                have w196 : (u193.2.2.1 h0 16).toInt = x192.toInt := by rw [hu193]; exact congrArg Int32.toInt (if_pos ⟨rfl, rfl⟩)
                obtain ⟨x197, ex197⟩ : ∃ y : Int32, y = v4 + 1 := ⟨_, rfl⟩
                have tx197 : x197.toInt = v4.toInt + 1 := by rw [ex197]; exact i_add (b := 1) (by (try simp only [i_lt, i_le, i_eq, Int32.toInt_toInt64, Int32.reduceToInt, Int64.reduceToInt, true_and, and_true, false_and, and_false, false_or, or_false, true_or, or_true, not_true_eq_false, not_false_eq_true, ne_eq, forall_const, true_implies, false_implies, implies_true] at g_v1 g_v4 ex0 hn17 yr1 hr1 c2 tx3 tx4 tx6 tx7 tx8 c10 w134 w135 w136 tx137 yr138 hr138 c139 tx140 tx141 tx142 c144 b145 g146 w148 w149 w150 g151 w153 w154 w155 g156 c157 tx178 w180 w181 w182 g183 w188 w189 w190 g191 tx192 w194 w195 w196 ⊢) <;> omega) (by (try simp only [i_lt, i_le, i_eq, Int32.toInt_toInt64, Int32.reduceToInt, Int64.reduceToInt, true_and, and_true, false_and, and_false, false_or, or_false, true_or, or_true, not_true_eq_false, not_false_eq_true, ne_eq, forall_const, true_implies, false_implies, implies_true] at g_v1 g_v4 ex0 hn17 yr1 hr1 c2 tx3 tx4 tx6 tx7 tx8 c10 w134 w135 w136 tx137 yr138 hr138 c139 tx140 tx141 tx142 c144 b145 g146 w148 w149 w150 g151 w153 w154 w155 g156 c157 tx178 w180 w181 w182 g183 w188 w189 w190 g191 tx192 w194 w195 w196 ⊢) <;> omega)
                refine lv_iinc (v := x197) (lv' := [(4, .int x197), (7, .int r143), (3, .int x131), (2, .int x128), (6, .int r9), (5, .int r5), (0, .ref h0), (1, .int v1)]) hx hb dX12_bends_216 hl (k := 7) rfl (by rw [ex197]; rfl) (by decide) rfl (fun ls hl => ?_)
                refine lv_goto (tgt := 17) hx hb dX12_bends_219 (by decide) ?_
                exact ih17 _ _ _ ls v1 x128 x131 x197 hu hp hP hD hS (by (try simp only [i_lt, i_le, i_eq, Int32.toInt_toInt64, Int32.reduceToInt, Int64.reduceToInt, true_and, and_true, false_and, and_false, false_or, or_false, true_or, or_true, not_true_eq_false, not_false_eq_true, ne_eq, forall_const, true_implies, false_implies, implies_true] at g_v1 g_v4 ex0 hn17 yr1 hr1 c2 tx3 tx4 tx6 tx7 tx8 c10 w134 w135 w136 tx137 yr138 hr138 c139 tx140 tx141 tx142 c144 b145 g146 w148 w149 w150 g151 w153 w154 w155 g156 c157 tx178 w180 w181 w182 g183 w188 w189 w190 g191 tx192 w194 w195 w196 tx197 ⊢) <;> omega) (by (try simp only [i_lt, i_le, i_eq, Int32.toInt_toInt64, Int32.reduceToInt, Int64.reduceToInt, true_and, and_true, false_and, and_false, false_or, or_false, true_or, or_true, not_true_eq_false, not_false_eq_true, ne_eq, forall_const, true_implies, false_implies, implies_true] at g_v1 g_v4 ex0 hn17 yr1 hr1 c2 tx3 tx4 tx6 tx7 tx8 c10 w134 w135 w136 tx137 yr138 hr138 c139 tx140 tx141 tx142 c144 b145 g146 w148 w149 w150 g151 w153 w154 w155 g156 c157 tx178 w180 w181 w182 g183 w188 w189 w190 g191 tx192 w194 w195 w196 tx197 ⊢) <;> omega) (by (try simp only [i_lt, i_le, i_eq, Int32.toInt_toInt64, Int32.reduceToInt, Int64.reduceToInt, true_and, and_true, false_and, and_false, false_or, or_false, true_or, or_true, not_true_eq_false, not_false_eq_true, ne_eq, forall_const, true_implies, false_implies, implies_true] at g_v1 g_v4 ex0 hn17 yr1 hr1 c2 tx3 tx4 tx6 tx7 tx8 c10 w134 w135 w136 tx137 yr138 hr138 c139 tx140 tx141 tx142 c144 b145 g146 w148 w149 w150 g151 w153 w154 w155 g156 c157 tx178 w180 w181 w182 g183 w188 w189 w190 g191 tx192 w194 w195 w196 tx197 ⊢) <;> omega) (by (try simp only [i_lt, i_le, i_eq, Int32.toInt_toInt64, Int32.reduceToInt, Int64.reduceToInt, true_and, and_true, false_and, and_false, false_or, or_false, true_or, or_true, not_true_eq_false, not_false_eq_true, ne_eq, forall_const, true_implies, false_implies, implies_true] at g_v1 g_v4 ex0 hn17 yr1 hr1 c2 tx3 tx4 tx6 tx7 tx8 c10 w134 w135 w136 tx137 yr138 hr138 c139 tx140 tx141 tx142 c144 b145 g146 w148 w149 w150 g151 w153 w154 w155 g156 c157 tx178 w180 w181 w182 g183 w188 w189 w190 g191 tx192 w194 w195 w196 tx197 ⊢) <;> omega) (lv_sub hl [6, 7, 3, 2, 0] rfl)
            · have b198 := Int32.toInt_lt r143
              refine lv_goto (tgt := 216) hx hb dX12_bends_133 (by decide) ?_
              obtain ⟨x199, ex199⟩ : ∃ y : Int32, y = v4 + 1 := ⟨_, rfl⟩
              have tx199 : x199.toInt = v4.toInt + 1 := by rw [ex199]; exact i_add (b := 1) (by (try simp only [i_lt, i_le, i_eq, Int32.toInt_toInt64, Int32.reduceToInt, Int64.reduceToInt, true_and, and_true, false_and, and_false, false_or, or_false, true_or, or_true, not_true_eq_false, not_false_eq_true, ne_eq, forall_const, true_implies, false_implies, implies_true] at g_v1 g_v4 ex0 hn17 yr1 hr1 c2 tx3 tx4 tx6 tx7 tx8 c10 w134 w135 w136 tx137 yr138 hr138 c139 tx140 tx141 tx142 c144 b198 ⊢) <;> omega) (by (try simp only [i_lt, i_le, i_eq, Int32.toInt_toInt64, Int32.reduceToInt, Int64.reduceToInt, true_and, and_true, false_and, and_false, false_or, or_false, true_or, or_true, not_true_eq_false, not_false_eq_true, ne_eq, forall_const, true_implies, false_implies, implies_true] at g_v1 g_v4 ex0 hn17 yr1 hr1 c2 tx3 tx4 tx6 tx7 tx8 c10 w134 w135 w136 tx137 yr138 hr138 c139 tx140 tx141 tx142 c144 b198 ⊢) <;> omega)
              refine lv_iinc (v := x199) (lv' := [(4, .int x199), (7, .int r143), (3, .int x131), (2, .int x128), (6, .int r9), (5, .int r5), (0, .ref h0), (1, .int v1)]) hx hb dX12_bends_216 hl (k := 7) rfl (by rw [ex199]; rfl) (by decide) rfl (fun ls hl => ?_)
              refine lv_goto (tgt := 17) hx hb dX12_bends_219 (by decide) ?_
              exact ih17 _ _ _ ls v1 x128 x131 x199 hu hp hP hD hS (by (try simp only [i_lt, i_le, i_eq, Int32.toInt_toInt64, Int32.reduceToInt, Int64.reduceToInt, true_and, and_true, false_and, and_false, false_or, or_false, true_or, or_true, not_true_eq_false, not_false_eq_true, ne_eq, forall_const, true_implies, false_implies, implies_true] at g_v1 g_v4 ex0 hn17 yr1 hr1 c2 tx3 tx4 tx6 tx7 tx8 c10 w134 w135 w136 tx137 yr138 hr138 c139 tx140 tx141 tx142 c144 b198 tx199 ⊢) <;> omega) (by (try simp only [i_lt, i_le, i_eq, Int32.toInt_toInt64, Int32.reduceToInt, Int64.reduceToInt, true_and, and_true, false_and, and_false, false_or, or_false, true_or, or_true, not_true_eq_false, not_false_eq_true, ne_eq, forall_const, true_implies, false_implies, implies_true] at g_v1 g_v4 ex0 hn17 yr1 hr1 c2 tx3 tx4 tx6 tx7 tx8 c10 w134 w135 w136 tx137 yr138 hr138 c139 tx140 tx141 tx142 c144 b198 tx199 ⊢) <;> omega) (by (try simp only [i_lt, i_le, i_eq, Int32.toInt_toInt64, Int32.reduceToInt, Int64.reduceToInt, true_and, and_true, false_and, and_false, false_or, or_false, true_or, or_true, not_true_eq_false, not_false_eq_true, ne_eq, forall_const, true_implies, false_implies, implies_true] at g_v1 g_v4 ex0 hn17 yr1 hr1 c2 tx3 tx4 tx6 tx7 tx8 c10 w134 w135 w136 tx137 yr138 hr138 c139 tx140 tx141 tx142 c144 b198 tx199 ⊢) <;> omega) (by (try simp only [i_lt, i_le, i_eq, Int32.toInt_toInt64, Int32.reduceToInt, Int64.reduceToInt, true_and, and_true, false_and, and_false, false_or, or_false, true_or, or_true, not_true_eq_false, not_false_eq_true, ne_eq, forall_const, true_implies, false_implies, implies_true] at g_v1 g_v4 ex0 hn17 yr1 hr1 c2 tx3 tx4 tx6 tx7 tx8 c10 w134 w135 w136 tx137 yr138 hr138 c139 tx140 tx141 tx142 c144 b198 tx199 ⊢) <;> omega) (lv_sub hl [6, 7, 3, 2, 0] rfl)
          · refine lv_goto (tgt := 216) hx hb dX12_bends_107 (by decide) ?_
            obtain ⟨x200, ex200⟩ : ∃ y : Int32, y = v4 + 1 := ⟨_, rfl⟩
            have tx200 : x200.toInt = v4.toInt + 1 := by rw [ex200]; exact i_add (b := 1) (by (try simp only [i_lt, i_le, i_eq, Int32.toInt_toInt64, Int32.reduceToInt, Int64.reduceToInt, true_and, and_true, false_and, and_false, false_or, or_false, true_or, or_true, not_true_eq_false, not_false_eq_true, ne_eq, forall_const, true_implies, false_implies, implies_true] at g_v1 g_v4 ex0 hn17 yr1 hr1 c2 tx3 tx4 tx6 tx7 tx8 c10 w134 w135 w136 tx137 yr138 hr138 c139 ⊢) <;> omega) (by (try simp only [i_lt, i_le, i_eq, Int32.toInt_toInt64, Int32.reduceToInt, Int64.reduceToInt, true_and, and_true, false_and, and_false, false_or, or_false, true_or, or_true, not_true_eq_false, not_false_eq_true, ne_eq, forall_const, true_implies, false_implies, implies_true] at g_v1 g_v4 ex0 hn17 yr1 hr1 c2 tx3 tx4 tx6 tx7 tx8 c10 w134 w135 w136 tx137 yr138 hr138 c139 ⊢) <;> omega)
            refine lv_iinc (v := x200) (lv' := [(4, .int x200), (3, .int x131), (2, .int x128), (6, .int r9), (5, .int r5), (0, .ref h0), (1, .int v1)]) hx hb dX12_bends_216 hl (k := 6) rfl (by rw [ex200]; rfl) (by decide) rfl (fun ls hl => ?_)
            refine lv_goto (tgt := 17) hx hb dX12_bends_219 (by decide) ?_
            exact ih17 _ _ _ ls v1 x128 x131 x200 hu hp hP hD hS (by (try simp only [i_lt, i_le, i_eq, Int32.toInt_toInt64, Int32.reduceToInt, Int64.reduceToInt, true_and, and_true, false_and, and_false, false_or, or_false, true_or, or_true, not_true_eq_false, not_false_eq_true, ne_eq, forall_const, true_implies, false_implies, implies_true] at g_v1 g_v4 ex0 hn17 yr1 hr1 c2 tx3 tx4 tx6 tx7 tx8 c10 w134 w135 w136 tx137 yr138 hr138 c139 tx200 ⊢) <;> omega) (by (try simp only [i_lt, i_le, i_eq, Int32.toInt_toInt64, Int32.reduceToInt, Int64.reduceToInt, true_and, and_true, false_and, and_false, false_or, or_false, true_or, or_true, not_true_eq_false, not_false_eq_true, ne_eq, forall_const, true_implies, false_implies, implies_true] at g_v1 g_v4 ex0 hn17 yr1 hr1 c2 tx3 tx4 tx6 tx7 tx8 c10 w134 w135 w136 tx137 yr138 hr138 c139 tx200 ⊢) <;> omega) (by (try simp only [i_lt, i_le, i_eq, Int32.toInt_toInt64, Int32.reduceToInt, Int64.reduceToInt, true_and, and_true, false_and, and_false, false_or, or_false, true_or, or_true, not_true_eq_false, not_false_eq_true, ne_eq, forall_const, true_implies, false_implies, implies_true] at g_v1 g_v4 ex0 hn17 yr1 hr1 c2 tx3 tx4 tx6 tx7 tx8 c10 w134 w135 w136 tx137 yr138 hr138 c139 tx200 ⊢) <;> omega) (by (try simp only [i_lt, i_le, i_eq, Int32.toInt_toInt64, Int32.reduceToInt, Int64.reduceToInt, true_and, and_true, false_and, and_false, false_or, or_false, true_or, or_true, not_true_eq_false, not_false_eq_true, ne_eq, forall_const, true_implies, false_implies, implies_true] at g_v1 g_v4 ex0 hn17 yr1 hr1 c2 tx3 tx4 tx6 tx7 tx8 c10 w134 w135 w136 tx137 yr138 hr138 c139 tx200 ⊢) <;> omega) (lv_sub hl [5, 6, 2, 1, 0] rfl)
  have hl := lv_entry ([.ref h0, .int p1]) (n := 8) (Nat.le_of_ble_eq_true rfl)
  rw [lg_entry_eq]
  generalize (lg_sl ([.ref h0, .int p1]) ++ List.replicate (8 - (lg_sl ([.ref h0, .int p1])).length) Slot.unset).toArray = ls at hl ⊢
  have hl : lv_has ls 8 [(0, .ref h0), (1, .int p1)] := hl
  refine lv_aload_n hx hb dX12_bends_0 rfl (lv_at hl 0 rfl) ?_
  refine lv_iconst (v := 0) hx hb dX12_bends_1 (by decide) ?_
  refine pput (u' := pSI u0 h0 16 0) (ci := 12) (v := .int 0) (ty := .int) (C := RX12) (T := TX12) (N := 34) hx hb hts i_X12 tyX12 tyX12_ok nmX12 hown hK hP hD hS m_h0 (cF12 k_h0) rfl 16 (by decide) (hts (.fieldLink RX12 303 "BellowsRowModel" "bendMany" "I") (by decide +kernel)) (fun _ h9 => h9) rfl (by decide +kernel) rfl rfl (Nat.le_of_ble_eq_true rfl) rfl (sF12_16 k_h0 0) dX12_bends_2 (fun H locs hP hD hS => ?_)
  have hu := WT.setI (a := h0) (s := 16) (v := 0) hu (by rw [k_h0]; exact (show 0 ≤ (0 : Int32).toInt ∧ (0 : Int32).toInt ≤ 8 from by decide))
  have hp := PX.setI (a := h0) (s := 16) (v := 0) hp (by rw [k_h0]; decide)
  obtain ⟨u201, hu201⟩ : ∃ z, z = pSI u0 h0 16 0 := ⟨_, rfl⟩
  rw [← hu201] at hP hD hu hp
  have w202 : (u201.2.2.1 h0 16).toInt = (0 : Int32).toInt := by rw [hu201]; exact congrArg Int32.toInt (if_pos ⟨rfl, rfl⟩)
  refine lv_aload_n hx hb dX12_bends_5 rfl (lv_at hl 0 rfl) ?_
  refine lv_iconst (v := 0) hx hb dX12_bends_6 (by decide) ?_
  have k_h0 : u201.2.1 h0 = 12 := (hp h0 m0_h0).2.1.trans k0_h0
  have m_h0 : h0 ∈ u201.1 := (hp h0 m0_h0).1
  refine pput (u' := pSI u201 h0 21 0) (ci := 12) (v := .int 0) (ty := .int) (C := RX12) (T := TX12) (N := 34) hx hb hts i_X12 tyX12 tyX12_ok nmX12 hown hK hP hD hS m_h0 (cF12 k_h0) rfl 21 (by decide) (hts (.fieldLink RX12 306 "BellowsRowModel" "length" "I") (by decide +kernel)) (fun _ h9 => h9) rfl (by decide +kernel) rfl rfl (Nat.le_of_ble_eq_true rfl) rfl (sF12_21 k_h0 0) dX12_bends_7 (fun H locs hP hD hS => ?_)
  have hu := WT.setI (a := h0) (s := 21) (v := 0) hu (by rw [k_h0]; exact trivial)
  have hp := PX.setI (a := h0) (s := 21) (v := 0) hp (by rw [k_h0]; decide)
  obtain ⟨u203, hu203⟩ : ∃ z, z = pSI u201 h0 21 0 := ⟨_, rfl⟩
  rw [← hu203] at hP hD hu hp
  have w204 : (u203.2.2.1 h0 16).toInt = (u201.2.2.1 h0 16).toInt := by rw [hu203]; exact congrArg Int32.toInt (if_neg (fun q => absurd q.2 (by decide)))
  refine lv_iconst (v := 0) hx hb dX12_bends_10 (by decide) ?_
  refine lv_istore_n (lv' := [(2, .int 0), (0, .ref h0), (1, .int p1)]) hx hb dX12_bends_11 rfl hl (by decide) rfl (fun ls hl => ?_)
  refine lv_iconst (v := 0) hx hb dX12_bends_12 (by decide) ?_
  refine lv_istore_n (lv' := [(3, .int 0), (2, .int 0), (0, .ref h0), (1, .int p1)]) hx hb dX12_bends_13 rfl hl (by decide) rfl (fun ls hl => ?_)
  refine lv_iconst (v := 0) hx hb dX12_bends_14 (by decide) ?_
  refine lv_istore (lv' := [(4, .int 0), (3, .int 0), (2, .int 0), (0, .ref h0), (1, .int p1)]) hx hb dX12_bends_15 hl (by decide) rfl (fun ls hl => ?_)
  exact B17 _ _ _ _ ls p1 0 0 0 hu hp hP hD hS (Nat.le_refl _) (by (try simp only [i_lt, i_le, i_eq, Int32.toInt_toInt64, Int32.reduceToInt, Int64.reduceToInt, true_and, and_true, false_and, and_false, false_or, or_false, true_or, or_true, not_true_eq_false, not_false_eq_true, ne_eq, forall_const, true_implies, false_implies, implies_true] at g_p1 w202 w204 ⊢) <;> omega) (by (try simp only [i_lt, i_le, i_eq, Int32.toInt_toInt64, Int32.reduceToInt, Int64.reduceToInt, true_and, and_true, false_and, and_false, false_or, or_false, true_or, or_true, not_true_eq_false, not_false_eq_true, ne_eq, forall_const, true_implies, false_implies, implies_true] at g_p1 w202 w204 ⊢) <;> omega) (by (try simp only [i_lt, i_le, i_eq, Int32.toInt_toInt64, Int32.reduceToInt, Int64.reduceToInt, true_and, and_true, false_and, and_false, false_or, or_false, true_or, or_true, not_true_eq_false, not_false_eq_true, ne_eq, forall_const, true_implies, false_implies, implies_true] at g_p1 w202 w204 ⊢) <;> omega) (lv_sub hl [3, 4, 2, 1, 0] rfl)
