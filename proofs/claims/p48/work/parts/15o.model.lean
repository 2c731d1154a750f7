set_option maxHeartbeats 4000000 in
set_option maxRecDepth 100000 in
theorem t_X12_reach (l : Launch) (D : va_G) (k : Nat → ClassId) (u : PSt) (hu : WT u) (h0 : Nat) (m_h0 : h0 ∈ u.1) (k_h0 : u.2.1 h0 = 12) (p1 : Int32) (p2 : Int32) (p3 : Int32) : Met l yX12_reach wsX12_reach ({ frames := 2, cells := 0, slots := 0, locals := 46 }) (PreR D k (PW k u) [.ref h0, .int p1, .int p2, .int p3]) (vp_Si (fun r => True)) 0 0 (fun _ => False) := by
  refine Met.ofW (cc := cX12_reach) (maxL := 4) (ret := (some .int)) (by decide) rfl ?_
  intro p e s m args below meth c s₁ B hml hv
  obtain ⟨rfl, hP, hK⟩ := hv
  have hx := B.exec
  have hb := B.bytes
  have hr := B.returns
  have hts := atoms_spec (ws := wsX12_reach) B.pre
  have hown : s.vm.findClass RX12 = some m.cls := findClass_of_methodNamed B.named
  have hlocks := B.notSynchronized
  have hl := lv_entry ([.ref h0, .int p1, .int p2, .int p3]) (n := 4) (Nat.le_of_ble_eq_true rfl)
  rw [lg_entry_eq]
  generalize (lg_sl ([.ref h0, .int p1, .int p2, .int p3]) ++ List.replicate (4 - (lg_sl ([.ref h0, .int p1, .int p2, .int p3])).length) Slot.unset).toArray = ls at hl ⊢
  have hl : lv_has ls 4 [(0, .ref h0), (1, .int p1), (2, .int p2), (3, .int p3)] := hl
  refine lv_aload_n hx hb dX12_reach_0 rfl (lv_at hl 0 rfl) ?_
  refine lv_iload_n hx hb dX12_reach_1 rfl (lv_at hl 1 rfl) ?_
  refine rvi (C := RX12) (As := [.int p1]) (rest := []) ⟨hx, hb, hml, hown, hts⟩ (t_X12_isPipe l D k u hu h0 m_h0 k_h0 p1) (cwV 1 hts gX12_reach_X12_isPipe rfl rfl rfl (by decide +kernel) ⟨Nat.le_of_ble_eq_true rfl, Nat.le_of_ble_eq_true rfl⟩) hP hK (precv hK hP m_h0 (cF12 k_h0) rfl) rfl hl.1 rfl (Nat.le_of_ble_eq_true rfl) dX12_reach_2 ⟨Nat.le_of_ble_eq_true rfl, Nat.le_of_ble_eq_true rfl⟩ (fun r1 hr1 => ?_)
  refine lv_if_eq (tgt := 38) hx hb dX12_reach_5 (by decide) (fun c2 => ?_) (fun c2 => ?_)
  · have eb3 : r1.toInt = 0 := by rcases hr1 with q | ⟨q, -⟩; exact q; (exact absurd (c2) (fun w => by rw [w] at q; exact absurd q (by decide)))
    clear hr1
    refine lv_bipush (v := (-2)) hx hb dX12_reach_38 (by decide) ?_
    exact W.iret (v := (-2)) hx hb hr (fun t ht hW => ⟨(-2), rfl, trivial, ht⟩) (fun q h => by cases h) dX12_reach_40
  · have eb4 : r1.toInt = 1 := by rcases hr1 with q | ⟨q, -⟩; exact absurd (i_eq.mpr q) c2; exact q
    have fb4 : 0 ≤ p1.toInt ∧ p1.toInt ≤ 11 := by rcases hr1 with q | ⟨q, r⟩; exact absurd q (by omega); exact r
    clear hr1
    refine lv_aload_n hx hb dX12_reach_8 rfl (lv_at hl 0 rfl) ?_
    refine lv_iload_n hx hb dX12_reach_9 rfl (lv_at hl 2 rfl) ?_
    refine rvi (C := RX12) (As := [.int p2]) (rest := []) ⟨hx, hb, hml, hown, hts⟩ (t_X12_isHour l D k u hu h0 m_h0 k_h0 p2) (cwV 1 hts gX12_reach_X12_isHour rfl rfl rfl (by decide +kernel) ⟨Nat.le_of_ble_eq_true rfl, Nat.le_of_ble_eq_true rfl⟩) hP hK (precv hK hP m_h0 (cF12 k_h0) rfl) rfl hl.1 rfl (Nat.le_of_ble_eq_true rfl) dX12_reach_10 ⟨Nat.le_of_ble_eq_true rfl, Nat.le_of_ble_eq_true rfl⟩ (fun r5 hr5 => ?_)
    refine lv_if_eq (tgt := 38) hx hb dX12_reach_13 (by decide) (fun c6 => ?_) (fun c6 => ?_)
    · have eb7 : r5.toInt = 0 := by rcases hr5 with q | ⟨q, -⟩; exact q; (exact absurd (c6) (fun w => by rw [w] at q; exact absurd q (by decide)))
      clear hr5
      refine lv_bipush (v := (-2)) hx hb dX12_reach_38 (by decide) ?_
      exact W.iret (v := (-2)) hx hb hr (fun t ht hW => ⟨(-2), rfl, trivial, ht⟩) (fun q h => by cases h) dX12_reach_40
    · have eb8 : r5.toInt = 1 := by rcases hr5 with q | ⟨q, -⟩; exact absurd (i_eq.mpr q) c6; exact q
      have fb8 : 0 ≤ p2.toInt ∧ p2.toInt ≤ 1999 := by rcases hr5 with q | ⟨q, r⟩; exact absurd q (by omega); exact r
      clear hr5
      refine lv_iload_n hx hb dX12_reach_16 rfl (lv_at hl 3 rfl) ?_
      refine lv_i2l hx hb dX12_reach_17 rfl ?_
      have b9 := Int32.toInt_lt p3
      have ab9 := Int32.le_toInt p3
      refine lv_topl (fun x10 ex10 => ?_)
      have tx10 : x10.toInt = p3.toInt := by rw [ex10]; exact Int32.toInt_toInt64 _
      refine lv_lconst (v := 1) hx hb dX12_reach_18 (by decide) ?_
      refine lv_ldc2 (own := RX12) (v := 60) hx hb hown (hts (.constantLong RX12 416 (60)) (by decide +kernel)) dX12_reach_19 ?_
      refine psi (As := [.long x10, .long 1, .long 60]) (rest := []) ⟨hx, hb, hml, hown, hts⟩ (t_X12_in l D k x10 1 60) (va_cwS 3 hts gX12_reach_X12_in rfl rfl rfl (by decide +kernel) ⟨Nat.le_of_ble_eq_true rfl, Nat.le_of_ble_eq_true rfl⟩) hK rfl hl.1 rfl (Nat.le_of_ble_eq_true rfl) dX12_reach_22 ⟨Nat.le_of_ble_eq_true rfl, Nat.le_of_ble_eq_true rfl⟩ (fun r11 hr11 => ?_)
      refine lv_if_eq (tgt := 38) hx hb dX12_reach_25 (by decide) (fun c12 => ?_) (fun c12 => ?_)
      · have eb13 : r11.toInt = 0 := by rcases hr11 with ⟨q, -⟩ | ⟨q, -⟩; exact q; (exact absurd (c12) (fun w => by rw [w] at q; exact absurd q (by decide)))
        have fb13 : (x10.toInt < (1 : Int64).toInt ∨ (60 : Int64).toInt < x10.toInt) := by rcases hr11 with ⟨q, r⟩ | ⟨q, r⟩; exact r; exact absurd q (by omega)
        clear hr11
        refine lv_bipush (v := (-2)) hx hb dX12_reach_38 (by decide) ?_
        exact W.iret (v := (-2)) hx hb hr (fun t ht hW => ⟨(-2), rfl, trivial, ht⟩) (fun q h => by cases h) dX12_reach_40
      · have eb14 : r11.toInt = 1 := by rcases hr11 with ⟨q, -⟩ | ⟨q, -⟩; exact absurd (i_eq.mpr q) c12; exact q
        have fb14 : (1 : Int64).toInt ≤ x10.toInt ∧ x10.toInt ≤ (60 : Int64).toInt := by rcases hr11 with ⟨q, r⟩ | ⟨q, r⟩; exact absurd q (by omega); exact r
        clear hr11
        refine lv_aload_n hx hb dX12_reach_28 rfl (lv_at hl 0 rfl) ?_
        refine lv_iload_n hx hb dX12_reach_29 rfl (lv_at hl 1 rfl) ?_
        refine lv_iload_n hx hb dX12_reach_30 rfl (lv_at hl 2 rfl) ?_
        refine lv_iload_n hx hb dX12_reach_31 rfl (lv_at hl 3 rfl) ?_
        refine rvi (C := RX12) (As := [.int p1, .int p2, .int p3]) (rest := []) ⟨hx, hb, hml, hown, hts⟩ (t_X12_reachOf l D k u hu h0 m_h0 k_h0 p1 p2 p3 (by (try simp only [i_lt, i_le, i_eq, Int32.toInt_toInt64, Int32.reduceToInt, Int64.reduceToInt, true_and, and_true, false_and, and_false, false_or, or_false, true_or, or_true, not_true_eq_false, not_false_eq_true, ne_eq, forall_const, true_implies, false_implies, implies_true] at eb4 fb4 eb8 fb8 b9 ab9 tx10 eb14 fb14 ⊢) <;> omega) (by (try simp only [i_lt, i_le, i_eq, Int32.toInt_toInt64, Int32.reduceToInt, Int64.reduceToInt, true_and, and_true, false_and, and_false, false_or, or_false, true_or, or_true, not_true_eq_false, not_false_eq_true, ne_eq, forall_const, true_implies, false_implies, implies_true] at eb4 fb4 eb8 fb8 b9 ab9 tx10 eb14 fb14 ⊢) <;> omega) (by (try simp only [i_lt, i_le, i_eq, Int32.toInt_toInt64, Int32.reduceToInt, Int64.reduceToInt, true_and, and_true, false_and, and_false, false_or, or_false, true_or, or_true, not_true_eq_false, not_false_eq_true, ne_eq, forall_const, true_implies, false_implies, implies_true] at eb4 fb4 eb8 fb8 b9 ab9 tx10 eb14 fb14 ⊢) <;> omega)) (cwV 3 hts gX12_reach_X12_reachOf rfl rfl rfl (by decide +kernel) ⟨Nat.le_of_ble_eq_true rfl, Nat.le_of_ble_eq_true rfl⟩) hP hK (precv hK hP m_h0 (cF12 k_h0) rfl) rfl hl.1 rfl (Nat.le_of_ble_eq_true rfl) dX12_reach_32 ⟨Nat.le_of_ble_eq_true rfl, Nat.le_of_ble_eq_true rfl⟩ (fun r15 hr15 => ?_)
        refine lv_goto (tgt := 40) hx hb dX12_reach_35 (by decide) ?_
        exact W.iret (v := r15) hx hb hr (fun t ht hW => ⟨r15, rfl, trivial, ht⟩) (fun q h => by cases h) dX12_reach_40
set_option maxHeartbeats 4000000 in
set_option maxRecDepth 100000 in
theorem t_X12_staying (l : Launch) (D : va_G) (k : Nat → ClassId) (u0 : PSt) (hu : WT u0) (h0 : Nat) (m_h0 : h0 ∈ u0.1) (k_h0 : u0.2.1 h0 = 12) (p1 : Int32) (sz : Nat) : Met l yX12_staying wsX12_staying ({ frames := 5, cells := 0, slots := 0, locals := 119 }) (PreM D k sz (PW k u0) [.ref h0, .int p1]) (va_Qi (fun r v => WT v ∧ PX u0 v ∧ (True)) (WB D (va_A (PW k u0) sz) (PW k)) (va_A (PW k u0) sz)) 0 0 (va_A (PW k u0) sz) := by
  refine Met.ofW (cc := cX12_staying) (maxL := 6) (ret := (some .int)) (by decide) rfl ?_
  intro p e s m args below meth c s₁ B hml hv
  obtain ⟨rfl, hsz, hP, hK, hD0, hN⟩ := hv
  have hx := B.exec
  have hb := B.bytes
  have hr := B.returns
  have hts := atoms_spec (ws := wsX12_staying) B.pre
  have hown : s.vm.findClass RX12 = some m.cls := findClass_of_methodNamed B.named
  have hlocks := B.notSynchronized
  have i_X12 : ∀ w ∈ wsX120, w ∈ wsX12_staying := by decide +kernel
  obtain ⟨a1, q0_1, m0_a1, k0_a1⟩ := (hu h0 m_h0).1 1 50 (by rw [k_h0]; rfl)
  have m0_h0 := m_h0
  have k0_h0 := k_h0
  have m_a1 := m0_a1
  have k_a1 := k0_a1
  subst hsz
  have hD := hD0.self (sz := s.heap.size)
  generalize hAe : va_A (PW k u0) s.heap.size = A at hD ⊢
  have hA : ∀ q : Nat, s.heap.size ≤ q → A q := fun q h => by rw [← hAe]; exact Or.inr h
  have hS : va_S A s.heap s.heap [] := va_S.rf
  have hp : PX u0 u0 := PX.rf
  have hl := lv_entry ([.ref h0, .int p1]) (n := 6) (Nat.le_of_ble_eq_true rfl)
  rw [lg_entry_eq]
  generalize (lg_sl ([.ref h0, .int p1]) ++ List.replicate (6 - (lg_sl ([.ref h0, .int p1])).length) Slot.unset).toArray = ls at hl ⊢
  have hl : lv_has ls 6 [(0, .ref h0), (1, .int p1)] := hl
  refine lv_iload_n hx hb dX12_staying_0 rfl (lv_at hl 1 rfl) ?_
  refine lv_i2l hx hb dX12_staying_1 rfl ?_
  have b1 := Int32.toInt_lt p1
  have ab1 := Int32.le_toInt p1
  refine lv_topl (fun x2 ex2 => ?_)
  have tx2 : x2.toInt = p1.toInt := by rw [ex2]; exact Int32.toInt_toInt64 _
  refine lv_lconst (v := 0) hx hb dX12_staying_2 (by decide) ?_
  refine lv_aload_n hx hb dX12_staying_3 rfl (lv_at hl 0 rfl) ?_
  refine pget (ci := 12) (v := va_rf (u0.2.2.2.2 h0 1)) (C := RX12) (T := TX12) (N := 34) hx hb hts i_X12 hown hK hP m_h0 (cF12 k_h0) rfl 1 (by decide) (hts (.fieldLink RX12 13 "BellowsRowModel" "world" "[I") (by decide +kernel)) (fun _ h9 => h9) rfl dX12_staying_4 ?_
  refine W.eq (g2 := F0 m 7 ls [.ref a1, .long 0, .long x2]) (by rw [(((hp h0 m0_h0).2.2.2.2.2.1 k0_h0 1).trans q0_1)]; rfl) ?_
  refine lv_iconst (v := 4) hx hb dX12_staying_7 (by decide) ?_
  refine palI hx hb hK hP m_a1 (cF50 k_a1) 1 rfl (vp_in_iff.mpr (by decide)) dX12_staying_8 ?_
  refine lv_topi (fun x3 ex3 => ?_)
  have tx3 : x3.toInt = (u0.2.2.1 a1 4).toInt := congrArg Int32.toInt ex3
  have g4 : 0 ≤ x3.toInt ∧ x3.toInt ≤ 12 := by have g : okI (u0.2.1 a1) (4) (u0.2.2.1 a1 (4)) := (hu a1 m_a1).2.2.2 (4); rw [k_a1, ← (show x3 = u0.2.2.1 a1 (4) from ex3)] at g; have g : okW (4) x3 := g; unfold okW at g; (try simp only [i_lt, i_le, i_eq, Int32.toInt_toInt64, Int32.reduceToInt, Int64.reduceToInt, true_and, and_true, false_and, and_false, false_or, or_false, true_or, or_true, not_true_eq_false, not_false_eq_true, ne_eq, forall_const, true_implies, false_implies, implies_true] at b1 ab1 tx2 tx3 g ⊢) <;> omega
  refine lv_iconst (v := 1) hx hb dX12_staying_9 (by decide) ?_
  refine lv_isub hx hb dX12_staying_10 ?_
  refine lv_topi (fun x5 ex5 => ?_)
  have tx5 : x5.toInt = x3.toInt - (1 : Int32).toInt := by rw [ex5]; exact i_sub (by (try simp only [i_lt, i_le, i_eq, Int32.toInt_toInt64, Int32.reduceToInt, Int64.reduceToInt, true_and, and_true, false_and, and_false, false_or, or_false, true_or, or_true, not_true_eq_false, not_false_eq_true, ne_eq, forall_const, true_implies, false_implies, implies_true] at b1 ab1 tx2 tx3 g4 ⊢) <;> omega) (by (try simp only [i_lt, i_le, i_eq, Int32.toInt_toInt64, Int32.reduceToInt, Int64.reduceToInt, true_and, and_true, false_and, and_false, false_or, or_false, true_or, or_true, not_true_eq_false, not_false_eq_true, ne_eq, forall_const, true_implies, false_implies, implies_true] at b1 ab1 tx2 tx3 g4 ⊢) <;> omega)
  refine lv_i2l hx hb dX12_staying_11 rfl ?_
  refine lv_topl (fun x6 ex6 => ?_)
  have tx6 : x6.toInt = x5.toInt := by rw [ex6]; exact Int32.toInt_toInt64 _
  refine psi (As := [.long x2, .long 0, .long x6]) (rest := []) ⟨hx, hb, hml, hown, hts⟩ (t_X12_in l D k x2 0 x6) (va_cwS 3 hts gX12_staying_X12_in rfl rfl rfl (by decide +kernel) ⟨Nat.le_of_ble_eq_true rfl, Nat.le_of_ble_eq_true rfl⟩) hK rfl hl.1 rfl (Nat.le_of_ble_eq_true rfl) dX12_staying_12 ⟨Nat.le_of_ble_eq_true rfl, Nat.le_of_ble_eq_true rfl⟩ (fun r7 hr7 => ?_)
  refine lv_if_ne (tgt := 21) hx hb dX12_staying_15 (by decide) (fun c8 => ?_) (fun c8 => ?_)
  · have eb9 : r7.toInt = 1 := by rcases hr7 with ⟨q, -⟩ | ⟨q, -⟩; exact absurd (i_eq.mpr q) c8; exact q
    have fb9 : (0 : Int64).toInt ≤ x2.toInt ∧ x2.toInt ≤ x6.toInt := by rcases hr7 with ⟨q, r⟩ | ⟨q, r⟩; exact absurd q (by omega); exact r
    clear hr7
    refine lv_sipush (v := 374) hx hb dX12_staying_21 (by decide) ?_
    refine lv_iconst (v := 4) hx hb dX12_staying_24 (by decide) ?_
    refine lv_iload_n hx hb dX12_staying_25 rfl (lv_at hl 1 rfl) ?_
    refine lv_imul hx hb dX12_staying_26 ?_
    refine lv_topi (fun x10 ex10 => ?_)
    have tx10 : x10.toInt = 4 * p1.toInt := by rw [ex10]; exact i_mulc (c := 4) (by decide) ((show 0 ≤ p1.toInt ∧ p1.toInt ≤ 11 from by (try simp only [i_lt, i_le, i_eq, Int32.toInt_toInt64, Int32.reduceToInt, Int64.reduceToInt, true_and, and_true, false_and, and_false, false_or, or_false, true_or, or_true, not_true_eq_false, not_false_eq_true, ne_eq, forall_const, true_implies, false_implies, implies_true] at b1 ab1 tx2 tx3 g4 tx5 tx6 eb9 fb9 ⊢) <;> omega)) (by decide)
    refine lv_iadd hx hb dX12_staying_27 ?_
    refine lv_topi (fun x11 ex11 => ?_)
    have tx11 : x11.toInt = (374 : Int32).toInt + x10.toInt := by rw [ex11]; exact i_add (by (try simp only [i_lt, i_le, i_eq, Int32.toInt_toInt64, Int32.reduceToInt, Int64.reduceToInt, true_and, and_true, false_and, and_false, false_or, or_false, true_or, or_true, not_true_eq_false, not_false_eq_true, ne_eq, forall_const, true_implies, false_implies, implies_true] at b1 ab1 tx2 tx3 g4 tx5 tx6 eb9 fb9 tx10 ⊢) <;> omega) (by (try simp only [i_lt, i_le, i_eq, Int32.toInt_toInt64, Int32.reduceToInt, Int64.reduceToInt, true_and, and_true, false_and, and_false, false_or, or_false, true_or, or_true, not_true_eq_false, not_false_eq_true, ne_eq, forall_const, true_implies, false_implies, implies_true] at b1 ab1 tx2 tx3 g4 tx5 tx6 eb9 fb9 tx10 ⊢) <;> omega)
    refine lv_istore_n (lv' := [(2, .int x11), (0, .ref h0), (1, .int p1)]) hx hb dX12_staying_28 rfl hl (by decide) rfl (fun ls hl => ?_)
    refine lv_aload_n hx hb dX12_staying_29 rfl (lv_at hl 1 rfl) ?_
    refine rvi (C := RX12) (As := []) (rest := []) ⟨hx, hb, hml, hown, hts⟩ (t_X12_wholeOf l D k u0 hu h0 m_h0 k_h0 ) (cwV 0 hts gX12_staying_X12_wholeOf rfl rfl rfl (by decide +kernel) ⟨Nat.le_of_ble_eq_true rfl, Nat.le_of_ble_eq_true rfl⟩) hP hK (precv hK hP m_h0 (cF12 k_h0) rfl) rfl hl.1 rfl (Nat.le_of_ble_eq_true rfl) dX12_staying_30 ⟨Nat.le_of_ble_eq_true rfl, Nat.le_of_ble_eq_true rfl⟩ (fun r12 hr12 => ?_)
    refine psi (As := [.int r12]) (rest := []) ⟨hx, hb, hml, hown, hts⟩ (t_X12_many0 l D k r12) (va_cwS 1 hts gX12_staying_X12_many0 rfl rfl rfl (by decide +kernel) ⟨Nat.le_of_ble_eq_true rfl, Nat.le_of_ble_eq_true rfl⟩) hK rfl hl.1 rfl (Nat.le_of_ble_eq_true rfl) dX12_staying_33 ⟨Nat.le_of_ble_eq_true rfl, Nat.le_of_ble_eq_true rfl⟩ (fun r13 hr13 => ?_)
    refine lv_istore_n (lv' := [(3, .int r13), (2, .int x11), (0, .ref h0), (1, .int p1)]) hx hb dX12_staying_36 rfl hl (by decide) rfl (fun ls hl => ?_)
    refine lv_aload_n hx hb dX12_staying_37 rfl (lv_at hl 2 rfl) ?_
    refine pget (ci := 12) (v := va_rf (u0.2.2.2.2 h0 1)) (C := RX12) (T := TX12) (N := 34) hx hb hts i_X12 hown hK hP m_h0 (cF12 k_h0) rfl 1 (by decide) (hts (.fieldLink RX12 13 "BellowsRowModel" "world" "[I") (by decide +kernel)) (fun _ h9 => h9) rfl dX12_staying_38 ?_
    refine W.eq (g2 := F0 m 41 ls [.ref a1]) (by rw [(((hp h0 m0_h0).2.2.2.2.2.1 k0_h0 1).trans q0_1)]; rfl) ?_
    refine lv_iload_n hx hb dX12_staying_41 rfl (lv_at hl 1 rfl) ?_
    refine lv_iconst (v := 1) hx hb dX12_staying_42 (by decide) ?_
    refine lv_iadd hx hb dX12_staying_43 ?_
    refine lv_topi (fun x14 ex14 => ?_)
    have tx14 : x14.toInt = x11.toInt + (1 : Int32).toInt := by rw [ex14]; exact i_add (by (try simp only [i_lt, i_le, i_eq, Int32.toInt_toInt64, Int32.reduceToInt, Int64.reduceToInt, true_and, and_true, false_and, and_false, false_or, or_false, true_or, or_true, not_true_eq_false, not_false_eq_true, ne_eq, forall_const, true_implies, false_implies, implies_true] at b1 ab1 tx2 tx3 g4 tx5 tx6 eb9 fb9 tx10 tx11 ⊢) <;> omega) (by (try simp only [i_lt, i_le, i_eq, Int32.toInt_toInt64, Int32.reduceToInt, Int64.reduceToInt, true_and, and_true, false_and, and_false, false_or, or_false, true_or, or_true, not_true_eq_false, not_false_eq_true, ne_eq, forall_const, true_implies, false_implies, implies_true] at b1 ab1 tx2 tx3 g4 tx5 tx6 eb9 fb9 tx10 tx11 ⊢) <;> omega)
    refine palI hx hb hK hP m_a1 (cF50 k_a1) 1 rfl (vp_in_iff.mpr (by (try simp only [i_lt, i_le, i_eq, Int32.toInt_toInt64, Int32.reduceToInt, Int64.reduceToInt, true_and, and_true, false_and, and_false, false_or, or_false, true_or, or_true, not_true_eq_false, not_false_eq_true, ne_eq, forall_const, true_implies, false_implies, implies_true] at b1 ab1 tx2 tx3 g4 tx5 tx6 eb9 fb9 tx10 tx11 tx14 ⊢) <;> omega)) dX12_staying_44 ?_
    refine lv_topi (fun x15 ex15 => ?_)
    have tx15 : x15.toInt = (u0.2.2.1 a1 (x14.toNatClampNeg)).toInt := congrArg Int32.toInt ex15
    refine lv_istore (lv' := [(4, .int x15), (3, .int r13), (2, .int x11), (0, .ref h0), (1, .int p1)]) hx hb dX12_staying_45 hl (by decide) rfl (fun ls hl => ?_)
    refine lv_aload_n hx hb dX12_staying_47 rfl (lv_at hl 3 rfl) ?_
    refine pget (ci := 12) (v := va_rf (u0.2.2.2.2 h0 1)) (C := RX12) (T := TX12) (N := 34) hx hb hts i_X12 hown hK hP m_h0 (cF12 k_h0) rfl 1 (by decide) (hts (.fieldLink RX12 13 "BellowsRowModel" "world" "[I") (by decide +kernel)) (fun _ h9 => h9) rfl dX12_staying_48 ?_
    refine W.eq (g2 := F0 m 51 ls [.ref a1]) (by rw [(((hp h0 m0_h0).2.2.2.2.2.1 k0_h0 1).trans q0_1)]; rfl) ?_
    refine lv_iload_n hx hb dX12_staying_51 rfl (lv_at hl 2 rfl) ?_
    refine lv_iconst (v := 1) hx hb dX12_staying_52 (by decide) ?_
    refine lv_iadd hx hb dX12_staying_53 ?_
    refine lv_topi (fun x16 ex16 => ?_)
    have tx16 : x16.toInt = x11.toInt + (1 : Int32).toInt := by rw [ex16]; exact i_add (by (try simp only [i_lt, i_le, i_eq, Int32.toInt_toInt64, Int32.reduceToInt, Int64.reduceToInt, true_and, and_true, false_and, and_false, false_or, or_false, true_or, or_true, not_true_eq_false, not_false_eq_true, ne_eq, forall_const, true_implies, false_implies, implies_true] at b1 ab1 tx2 tx3 g4 tx5 tx6 eb9 fb9 tx10 tx11 tx14 tx15 ⊢) <;> omega) (by (try simp only [i_lt, i_le, i_eq, Int32.toInt_toInt64, Int32.reduceToInt, Int64.reduceToInt, true_and, and_true, false_and, and_false, false_or, or_false, true_or, or_true, not_true_eq_false, not_false_eq_true, ne_eq, forall_const, true_implies, false_implies, implies_true] at b1 ab1 tx2 tx3 g4 tx5 tx6 eb9 fb9 tx10 tx11 tx14 tx15 ⊢) <;> omega)
    refine lv_iconst (v := 0) hx hb dX12_staying_54 (by decide) ?_
    refine pasI (u' := pSI u0 a1 (x16.toNatClampNeg) 0) hx hb hK hP hD hS m_a1 (cF50 k_a1) 1 rfl (vp_in_iff.mpr (by (try simp only [i_lt, i_le, i_eq, Int32.toInt_toInt64, Int32.reduceToInt, Int64.reduceToInt, true_and, and_true, false_and, and_false, false_or, or_false, true_or, or_true, not_true_eq_false, not_false_eq_true, ne_eq, forall_const, true_implies, false_implies, implies_true] at b1 ab1 tx2 tx3 g4 tx5 tx6 eb9 fb9 tx10 tx11 tx14 tx15 tx16 ⊢) <;> omega)) rfl (sF50 k_a1 _ _) dX12_staying_55 (fun H locs hP hD hS => ?_)
    have hu := WT.setI (a := a1) (s := (x16.toNatClampNeg)) (v := 0) hu (by rw [k_a1]; exact (show okW (x16.toNatClampNeg) (0 : Int32) from by unfold okW; have z := cl_int (x := x16) (by (try simp only [i_lt, i_le, i_eq, Int32.toInt_toInt64, Int32.reduceToInt, Int64.reduceToInt, true_and, and_true, false_and, and_false, false_or, or_false, true_or, or_true, not_true_eq_false, not_false_eq_true, ne_eq, forall_const, true_implies, false_implies, implies_true] at b1 ab1 tx2 tx3 g4 tx5 tx6 eb9 fb9 tx10 tx11 tx14 tx15 tx16 ⊢) <;> omega); (try simp only [i_lt, i_le, i_eq, Int32.toInt_toInt64, Int32.reduceToInt, Int64.reduceToInt, true_and, and_true, false_and, and_false, false_or, or_false, true_or, or_true, not_true_eq_false, not_false_eq_true, ne_eq, forall_const, true_implies, false_implies, implies_true] at b1 ab1 tx2 tx3 g4 tx5 tx6 eb9 fb9 tx10 tx11 tx14 tx15 tx16 z ⊢) <;> omega))
    have hp := PX.setI (a := a1) (s := (x16.toNatClampNeg)) (v := 0) hp (by rw [k_a1]; decide)
    obtain ⟨u17, hu17⟩ : ∃ z, z = pSI u0 a1 (x16.toNatClampNeg) 0 := ⟨_, rfl⟩
    rw [← hu17] at hP hD hu hp
    refine lv_aload_n hx hb dX12_staying_56 rfl (lv_at hl 3 rfl) ?_
    have k_h0 : u17.2.1 h0 = 12 := (hp h0 m0_h0).2.1.trans k0_h0
    have m_h0 : h0 ∈ u17.1 := (hp h0 m0_h0).1
    refine rvi (C := RX12) (As := []) (rest := []) ⟨hx, hb, hml, hown, hts⟩ (t_X12_wholeOf l D k u17 hu h0 m_h0 k_h0 ) (cwV 0 hts gX12_staying_X12_wholeOf rfl rfl rfl (by decide +kernel) ⟨Nat.le_of_ble_eq_true rfl, Nat.le_of_ble_eq_true rfl⟩) hP hK (precv hK hP m_h0 (cF12 k_h0) rfl) rfl hl.1 rfl (Nat.le_of_ble_eq_true rfl) dX12_staying_57 ⟨Nat.le_of_ble_eq_true rfl, Nat.le_of_ble_eq_true rfl⟩ (fun r18 hr18 => ?_)
    refine psi (As := [.int r18]) (rest := []) ⟨hx, hb, hml, hown, hts⟩ (t_X12_many0 l D k r18) (va_cwS 1 hts gX12_staying_X12_many0 rfl rfl rfl (by decide +kernel) ⟨Nat.le_of_ble_eq_true rfl, Nat.le_of_ble_eq_true rfl⟩) hK rfl hl.1 rfl (Nat.le_of_ble_eq_true rfl) dX12_staying_60 ⟨Nat.le_of_ble_eq_true rfl, Nat.le_of_ble_eq_true rfl⟩ (fun r19 hr19 => ?_)
    refine lv_istore (lv' := [(5, .int r19), (4, .int x15), (3, .int r13), (2, .int x11), (0, .ref h0), (1, .int p1)]) hx hb dX12_staying_63 hl (by decide) rfl (fun ls hl => ?_)
    refine lv_aload_n hx hb dX12_staying_65 rfl (lv_at hl 4 rfl) ?_
    have k_a1 : u17.2.1 a1 = 50 := (hp a1 m0_a1).2.1.trans k0_a1
    have m_a1 : a1 ∈ u17.1 := (hp a1 m0_a1).1
    refine pget (ci := 12) (v := va_rf (u17.2.2.2.2 h0 1)) (C := RX12) (T := TX12) (N := 34) hx hb hts i_X12 hown hK hP m_h0 (cF12 k_h0) rfl 1 (by decide) (hts (.fieldLink RX12 13 "BellowsRowModel" "world" "[I") (by decide +kernel)) (fun _ h9 => h9) rfl dX12_staying_66 ?_
    refine W.eq (g2 := F0 m 69 ls [.ref a1]) (by rw [(((hp h0 m0_h0).2.2.2.2.2.1 k0_h0 1).trans q0_1)]; rfl) ?_
    refine lv_iload_n hx hb dX12_staying_69 rfl (lv_at hl 3 rfl) ?_
    refine lv_iconst (v := 1) hx hb dX12_staying_70 (by decide) ?_
    refine lv_iadd hx hb dX12_staying_71 ?_
    refine lv_topi (fun x20 ex20 => ?_)
    have tx20 : x20.toInt = x11.toInt + (1 : Int32).toInt := by rw [ex20]; exact i_add (by (try simp only [i_lt, i_le, i_eq, Int32.toInt_toInt64, Int32.reduceToInt, Int64.reduceToInt, true_and, and_true, false_and, and_false, false_or, or_false, true_or, or_true, not_true_eq_false, not_false_eq_true, ne_eq, forall_const, true_implies, false_implies, implies_true] at b1 ab1 tx2 tx3 g4 tx5 tx6 eb9 fb9 tx10 tx11 tx14 tx15 tx16 ⊢) <;> omega) (by (try simp only [i_lt, i_le, i_eq, Int32.toInt_toInt64, Int32.reduceToInt, Int64.reduceToInt, true_and, and_true, false_and, and_false, false_or, or_false, true_or, or_true, not_true_eq_false, not_false_eq_true, ne_eq, forall_const, true_implies, false_implies, implies_true] at b1 ab1 tx2 tx3 g4 tx5 tx6 eb9 fb9 tx10 tx11 tx14 tx15 tx16 ⊢) <;> omega)
    refine lv_iload hx hb dX12_staying_72 (lv_at hl 1 rfl) ?_
    refine pasI (u' := pSI u17 a1 (x20.toNatClampNeg) x15) hx hb hK hP hD hS m_a1 (cF50 k_a1) 1 rfl (vp_in_iff.mpr (by (try simp only [i_lt, i_le, i_eq, Int32.toInt_toInt64, Int32.reduceToInt, Int64.reduceToInt, true_and, and_true, false_and, and_false, false_or, or_false, true_or, or_true, not_true_eq_false, not_false_eq_true, ne_eq, forall_const, true_implies, false_implies, implies_true] at b1 ab1 tx2 tx3 g4 tx5 tx6 eb9 fb9 tx10 tx11 tx14 tx15 tx16 tx20 ⊢) <;> omega)) rfl (sF50 k_a1 _ _) dX12_staying_74 (fun H locs hP hD hS => ?_)
    have hu := WT.setI (a := a1) (s := (x20.toNatClampNeg)) (v := x15) hu (by rw [k_a1]; exact (show okW (x20.toNatClampNeg) x15 from by unfold okW; have z := cl_int (x := x20) (by (try simp only [i_lt, i_le, i_eq, Int32.toInt_toInt64, Int32.reduceToInt, Int64.reduceToInt, true_and, and_true, false_and, and_false, false_or, or_false, true_or, or_true, not_true_eq_false, not_false_eq_true, ne_eq, forall_const, true_implies, false_implies, implies_true] at b1 ab1 tx2 tx3 g4 tx5 tx6 eb9 fb9 tx10 tx11 tx14 tx15 tx16 tx20 ⊢) <;> omega); (try simp only [i_lt, i_le, i_eq, Int32.toInt_toInt64, Int32.reduceToInt, Int64.reduceToInt, true_and, and_true, false_and, and_false, false_or, or_false, true_or, or_true, not_true_eq_false, not_false_eq_true, ne_eq, forall_const, true_implies, false_implies, implies_true] at b1 ab1 tx2 tx3 g4 tx5 tx6 eb9 fb9 tx10 tx11 tx14 tx15 tx16 tx20 z ⊢) <;> omega))
    have hp := PX.setI (a := a1) (s := (x20.toNatClampNeg)) (v := x15) hp (by rw [k_a1]; decide)
    obtain ⟨u21, hu21⟩ : ∃ z, z = pSI u17 a1 (x20.toNatClampNeg) x15 := ⟨_, rfl⟩
    rw [← hu21] at hP hD hu hp
    refine lv_iload hx hb dX12_staying_75 (lv_at hl 0 rfl) ?_
    refine lv_iload_n hx hb dX12_staying_77 rfl (lv_at hl 2 rfl) ?_
    refine lv_isub hx hb dX12_staying_78 ?_
    refine lv_topi (fun x22 ex22 => ?_)
    exact W.iret (v := x22) hx hb hr (fun t ht hW => ⟨⟨x22, u21, rfl, ⟨hu, hp, trivial⟩, by rw [ht]; exact hP, hD⟩, hS.F ht⟩) hS.2.2 dX12_staying_79
  · have eb23 : r7.toInt = 0 := by rcases hr7 with ⟨q, -⟩ | ⟨q, -⟩; exact q; (exact absurd (c8) (fun w => by rw [w] at q; exact absurd q (by decide)))
    have fb23 : (x2.toInt < (0 : Int64).toInt ∨ x6.toInt < x2.toInt) := by rcases hr7 with ⟨q, r⟩ | ⟨q, r⟩; exact r; exact absurd q (by omega)
    clear hr7
    refine lv_bipush (v := (-2)) hx hb dX12_staying_18 (by decide) ?_
    exact W.iret (v := (-2)) hx hb hr (fun t ht hW => ⟨⟨(-2), u0, rfl, ⟨hu, hp, trivial⟩, by rw [ht]; exact hP, hD⟩, hS.F ht⟩) hS.2.2 dX12_staying_20
set_option maxHeartbeats 4000000 in
set_option maxRecDepth 100000 in
theorem t_X12_takenOf (l : Launch) (D : va_G) (k : Nat → ClassId) (u : PSt) (hu : WT u) (h0 : Nat) (m_h0 : h0 ∈ u.1) (k_h0 : u.2.1 h0 = 12) (p1 : Int32) (p2 : Int32) (g_p1 : 0 ≤ p1.toInt ∧ p1.toInt ≤ 11) (g_p2 : 0 ≤ p2.toInt ∧ p2.toInt ≤ 1999) : Met l yX12_takenOf wsX12_takenOf ({ frames := 3, cells := 0, slots := 0, locals := 75 }) (PreR D k (PW k u) [.ref h0, .int p1, .int p2]) (vp_Si (fun r => True)) 0 0 (fun _ => False) := by
  refine Met.ofW (cc := cX12_takenOf) (maxL := 7) (ret := (some .int)) (by decide) rfl ?_
  intro p e s m args below meth c s₁ B hml hv
  obtain ⟨rfl, hP, hK⟩ := hv
  have hx := B.exec
  have hb := B.bytes
  have hr := B.returns
  have hts := atoms_spec (ws := wsX12_takenOf) B.pre
  have hown : s.vm.findClass RX12 = some m.cls := findClass_of_methodNamed B.named
  have hlocks := B.notSynchronized
  have i_X12 : ∀ w ∈ wsX120, w ∈ wsX12_takenOf := by decide +kernel
  obtain ⟨a1, q0_1, m0_a1, k0_a1⟩ := (hu h0 m_h0).1 1 50 (by rw [k_h0]; rfl)
  have m_a1 := m0_a1
  have k_a1 := k0_a1
  have B29 : ∀ (n29 : Nat) (ls : Array Slot) (v1 : Int32) (v3 : Int32) (v4 : Int32) (v5 : Int32) (v6 : Int32), (2147483648 - v6.toInt).toNat ≤ n29 → 0 ≤ v1.toInt ∧ v1.toInt ≤ 11 → 0 ≤ v3.toInt ∧ v3.toInt ≤ 60 → 0 ≤ v6.toInt ∧ v6.toInt ≤ 12 → lv_has ls 7 [(0, .ref h0), (1, .int v1), (3, .int v3), (4, .int v4), (5, .int v5), (6, .int v6)] → W p l e (headSpec wsX12_takenOf ({ frames := 3, cells := 0, slots := 0, locals := 75 })).room s m ([.ref h0, .int p1, .int p2] : List Value).toArray below meth c s.heap [] 0 0 (MQ below (vp_Si (fun r => True)) ([.ref h0, .int p1, .int p2] : List Value).toArray s 0 0 (fun _ => False)) (F0 m 29 ls []) := by
    intro n29
    induction n29 with
    | zero =>
      intro ls v1 v3 v4 v5 v6 hn29 g_v1 g_v3 g_v6 hl
      exact absurd hn29 (by have := Int32.toInt_lt v6; have := Int32.le_toInt v6; omega)
    | succ n29 ih29 =>
      intro ls v1 v3 v4 v5 v6 hn29 g_v1 g_v3 g_v6 hl
      refine lv_iload hx hb dX12_takenOf_29 (lv_at hl 5 rfl) ?_
      refine lv_aload_n hx hb dX12_takenOf_31 rfl (lv_at hl 0 rfl) ?_
      refine pget (ci := 12) (v := va_rf (u.2.2.2.2 h0 1)) (C := RX12) (T := TX12) (N := 34) hx hb hts i_X12 hown hK hP m_h0 (cF12 k_h0) rfl 1 (by decide) (hts (.fieldLink RX12 13 "BellowsRowModel" "world" "[I") (by decide +kernel)) (fun _ h9 => h9) rfl dX12_takenOf_32 ?_
      refine W.eq (g2 := F0 m 35 ls [.ref a1, .int v6]) (by rw [q0_1]; rfl) ?_
      refine lv_iconst (v := 3) hx hb dX12_takenOf_35 (by decide) ?_
      refine palI hx hb hK hP m_a1 (cF50 k_a1) 1 rfl (vp_in_iff.mpr (by decide)) dX12_takenOf_36 ?_
      refine lv_topi (fun x1 ex1 => ?_)
      have tx1 : x1.toInt = (u.2.2.1 a1 3).toInt := congrArg Int32.toInt ex1
      have g2 : 0 ≤ x1.toInt ∧ x1.toInt ≤ 12 := by have g : okI (u.2.1 a1) (3) (u.2.2.1 a1 (3)) := (hu a1 m_a1).2.2.2 (3); rw [k_a1, ← (show x1 = u.2.2.1 a1 (3) from ex1)] at g; have g : okW (3) x1 := g; unfold okW at g; (try simp only [i_lt, i_le, i_eq, Int32.toInt_toInt64, Int32.reduceToInt, Int64.reduceToInt, true_and, and_true, false_and, and_false, false_or, or_false, true_or, or_true, not_true_eq_false, not_false_eq_true, ne_eq, forall_const, true_implies, false_implies, implies_true] at g_v1 g_v3 g_v6 hn29 tx1 g ⊢) <;> omega
      refine lv_icmp_ge (tgt := 74) hx hb dX12_takenOf_37 (by decide) (fun c3 => ?_) (fun c3 => ?_)
      · refine lv_iload hx hb dX12_takenOf_74 (lv_at hl 4 rfl) ?_
        exact W.iret (v := v5) hx hb hr (fun t ht hW => ⟨v5, rfl, trivial, ht⟩) (fun q h => by cases h) dX12_takenOf_76
      · refine lv_iload hx hb dX12_takenOf_40 (lv_at hl 4 rfl) ?_
        refine lv_aload_n hx hb dX12_takenOf_42 rfl (lv_at hl 0 rfl) ?_
        refine lv_iload_n hx hb dX12_takenOf_43 rfl (lv_at hl 1 rfl) ?_
        refine lv_iload hx hb dX12_takenOf_44 (lv_at hl 5 rfl) ?_
        refine lv_iload_n hx hb dX12_takenOf_46 rfl (lv_at hl 2 rfl) ?_
        refine rvi (C := RX12) (As := [.int v1, .int v6, .int v3]) (rest := [.int v5]) ⟨hx, hb, hml, hown, hts⟩ (t_X12_awayOf l D k u hu h0 m_h0 k_h0 v1 v6 v3 (by (try simp only [i_lt, i_le, i_eq, Int32.toInt_toInt64, Int32.reduceToInt, Int64.reduceToInt, true_and, and_true, false_and, and_false, false_or, or_false, true_or, or_true, not_true_eq_false, not_false_eq_true, ne_eq, forall_const, true_implies, false_implies, implies_true] at g_v1 g_v3 g_v6 hn29 tx1 g2 c3 ⊢) <;> omega) (by (try simp only [i_lt, i_le, i_eq, Int32.toInt_toInt64, Int32.reduceToInt, Int64.reduceToInt, true_and, and_true, false_and, and_false, false_or, or_false, true_or, or_true, not_true_eq_false, not_false_eq_true, ne_eq, forall_const, true_implies, false_implies, implies_true] at g_v1 g_v3 g_v6 hn29 tx1 g2 c3 ⊢) <;> omega)) (cwV 3 hts gX12_takenOf_X12_awayOf rfl rfl rfl (by decide +kernel) ⟨Nat.le_of_ble_eq_true rfl, Nat.le_of_ble_eq_true rfl⟩) hP hK (precv hK hP m_h0 (cF12 k_h0) rfl) rfl hl.1 rfl (Nat.le_of_ble_eq_true rfl) dX12_takenOf_47 ⟨Nat.le_of_ble_eq_true rfl, Nat.le_of_ble_eq_true rfl⟩ (fun r4 hr4 => ?_)
        refine lv_iconst (v := 2) hx hb dX12_takenOf_50 (by decide) ?_
        refine lv_iload hx hb dX12_takenOf_51 (lv_at hl 3 rfl) ?_
        refine lv_imul hx hb dX12_takenOf_53 ?_
        refine lv_topi (fun x5 ex5 => ?_)
        refine lv_icmp_gt (tgt := 64) hx hb dX12_takenOf_54 (by decide) (fun c6 => ?_) (fun c6 => ?_)
        · have b7 := Int32.toInt_lt r4
          have b8 := Int32.toInt_lt x5
          refine lv_iconst (v := 0) hx hb dX12_takenOf_64 (by decide) ?_
          refine lv_ior hx hb dX12_takenOf_65 ?_
          refine lv_topi (fun x9 ex9 => ?_)
          refine lv_istore (lv' := [(5, .int x9), (0, .ref h0), (1, .int v1), (3, .int v3), (4, .int v4), (6, .int v6)]) hx hb dX12_takenOf_66 hl (by decide) rfl (fun ls hl => ?_)
          obtain ⟨x10, ex10⟩ : ∃ y : Int32, y = v6 + 1 := ⟨_, rfl⟩
          have tx10 : x10.toInt = v6.toInt + 1 := by rw [ex10]; exact i_add (b := 1) (by (try simp only [i_lt, i_le, i_eq, Int32.toInt_toInt64, Int32.reduceToInt, Int64.reduceToInt, true_and, and_true, false_and, and_false, false_or, or_false, true_or, or_true, not_true_eq_false, not_false_eq_true, ne_eq, forall_const, true_implies, false_implies, implies_true] at g_v1 g_v3 g_v6 hn29 tx1 g2 c3 c6 b7 b8 ⊢) <;> omega) (by (try simp only [i_lt, i_le, i_eq, Int32.toInt_toInt64, Int32.reduceToInt, Int64.reduceToInt, true_and, and_true, false_and, and_false, false_or, or_false, true_or, or_true, not_true_eq_false, not_false_eq_true, ne_eq, forall_const, true_implies, false_implies, implies_true] at g_v1 g_v3 g_v6 hn29 tx1 g2 c3 c6 b7 b8 ⊢) <;> omega)
          refine lv_iinc (v := x10) (lv' := [(6, .int x10), (5, .int x9), (0, .ref h0), (1, .int v1), (3, .int v3), (4, .int v4)]) hx hb dX12_takenOf_68 hl (k := 5) rfl (by rw [ex10]; rfl) (by decide) rfl (fun ls hl => ?_)
          refine lv_goto (tgt := 29) hx hb dX12_takenOf_71 (by decide) ?_
          exact ih29 ls v1 v3 v4 x9 x10 (by (try simp only [i_lt, i_le, i_eq, Int32.toInt_toInt64, Int32.reduceToInt, Int64.reduceToInt, true_and, and_true, false_and, and_false, false_or, or_false, true_or, or_true, not_true_eq_false, not_false_eq_true, ne_eq, forall_const, true_implies, false_implies, implies_true] at g_v1 g_v3 g_v6 hn29 tx1 g2 c3 c6 b7 b8 tx10 ⊢) <;> omega) (by (try simp only [i_lt, i_le, i_eq, Int32.toInt_toInt64, Int32.reduceToInt, Int64.reduceToInt, true_and, and_true, false_and, and_false, false_or, or_false, true_or, or_true, not_true_eq_false, not_false_eq_true, ne_eq, forall_const, true_implies, false_implies, implies_true] at g_v1 g_v3 g_v6 hn29 tx1 g2 c3 c6 b7 b8 tx10 ⊢) <;> omega) (by (try simp only [i_lt, i_le, i_eq, Int32.toInt_toInt64, Int32.reduceToInt, Int64.reduceToInt, true_and, and_true, false_and, and_false, false_or, or_false, true_or, or_true, not_true_eq_false, not_false_eq_true, ne_eq, forall_const, true_implies, false_implies, implies_true] at g_v1 g_v3 g_v6 hn29 tx1 g2 c3 c6 b7 b8 tx10 ⊢) <;> omega) (by (try simp only [i_lt, i_le, i_eq, Int32.toInt_toInt64, Int32.reduceToInt, Int64.reduceToInt, true_and, and_true, false_and, and_false, false_or, or_false, true_or, or_true, not_true_eq_false, not_false_eq_true, ne_eq, forall_const, true_implies, false_implies, implies_true] at g_v1 g_v3 g_v6 hn29 tx1 g2 c3 c6 b7 b8 tx10 ⊢) <;> omega) (lv_sub hl [2, 3, 4, 5, 1, 0] rfl)
        · have b11 := Int32.toInt_lt r4
          have b12 := Int32.toInt_lt x5
          refine lv_iconst (v := 1) hx hb dX12_takenOf_57 (by decide) ?_
          refine lv_iload hx hb dX12_takenOf_58 (lv_at hl 5 rfl) ?_
          refine lv_ishl hx hb dX12_takenOf_60 ?_
          refine lv_topi (fun x13 ex13 => ?_)
          refine lv_goto (tgt := 65) hx hb dX12_takenOf_61 (by decide) ?_
          refine lv_ior hx hb dX12_takenOf_65 ?_
          refine lv_topi (fun x14 ex14 => ?_)
          refine lv_istore (lv' := [(5, .int x14), (0, .ref h0), (1, .int v1), (3, .int v3), (4, .int v4), (6, .int v6)]) hx hb dX12_takenOf_66 hl (by decide) rfl (fun ls hl => ?_)
          obtain ⟨x15, ex15⟩ : ∃ y : Int32, y = v6 + 1 := ⟨_, rfl⟩
          have tx15 : x15.toInt = v6.toInt + 1 := by rw [ex15]; exact i_add (b := 1) (by (try simp only [i_lt, i_le, i_eq, Int32.toInt_toInt64, Int32.reduceToInt, Int64.reduceToInt, true_and, and_true, false_and, and_false, false_or, or_false, true_or, or_true, not_true_eq_false, not_false_eq_true, ne_eq, forall_const, true_implies, false_implies, implies_true] at g_v1 g_v3 g_v6 hn29 tx1 g2 c3 c6 b11 b12 ⊢) <;> omega) (by (try simp only [i_lt, i_le, i_eq, Int32.toInt_toInt64, Int32.reduceToInt, Int64.reduceToInt, true_and, and_true, false_and, and_false, false_or, or_false, true_or, or_true, not_true_eq_false, not_false_eq_true, ne_eq, forall_const, true_implies, false_implies, implies_true] at g_v1 g_v3 g_v6 hn29 tx1 g2 c3 c6 b11 b12 ⊢) <;> omega)
          refine lv_iinc (v := x15) (lv' := [(6, .int x15), (5, .int x14), (0, .ref h0), (1, .int v1), (3, .int v3), (4, .int v4)]) hx hb dX12_takenOf_68 hl (k := 5) rfl (by rw [ex15]; rfl) (by decide) rfl (fun ls hl => ?_)
          refine lv_goto (tgt := 29) hx hb dX12_takenOf_71 (by decide) ?_
          exact ih29 ls v1 v3 v4 x14 x15 (by (try simp only [i_lt, i_le, i_eq, Int32.toInt_toInt64, Int32.reduceToInt, Int64.reduceToInt, true_and, and_true, false_and, and_false, false_or, or_false, true_or, or_true, not_true_eq_false, not_false_eq_true, ne_eq, forall_const, true_implies, false_implies, implies_true] at g_v1 g_v3 g_v6 hn29 tx1 g2 c3 c6 b11 b12 tx15 ⊢) <;> omega) (by (try simp only [i_lt, i_le, i_eq, Int32.toInt_toInt64, Int32.reduceToInt, Int64.reduceToInt, true_and, and_true, false_and, and_false, false_or, or_false, true_or, or_true, not_true_eq_false, not_false_eq_true, ne_eq, forall_const, true_implies, false_implies, implies_true] at g_v1 g_v3 g_v6 hn29 tx1 g2 c3 c6 b11 b12 tx15 ⊢) <;> omega) (by (try simp only [i_lt, i_le, i_eq, Int32.toInt_toInt64, Int32.reduceToInt, Int64.reduceToInt, true_and, and_true, false_and, and_false, false_or, or_false, true_or, or_true, not_true_eq_false, not_false_eq_true, ne_eq, forall_const, true_implies, false_implies, implies_true] at g_v1 g_v3 g_v6 hn29 tx1 g2 c3 c6 b11 b12 tx15 ⊢) <;> omega) (by (try simp only [i_lt, i_le, i_eq, Int32.toInt_toInt64, Int32.reduceToInt, Int64.reduceToInt, true_and, and_true, false_and, and_false, false_or, or_false, true_or, or_true, not_true_eq_false, not_false_eq_true, ne_eq, forall_const, true_implies, false_implies, implies_true] at g_v1 g_v3 g_v6 hn29 tx1 g2 c3 c6 b11 b12 tx15 ⊢) <;> omega) (lv_sub hl [2, 3, 4, 5, 1, 0] rfl)
  have hl := lv_entry ([.ref h0, .int p1, .int p2]) (n := 7) (Nat.le_of_ble_eq_true rfl)
  rw [lg_entry_eq]
  generalize (lg_sl ([.ref h0, .int p1, .int p2]) ++ List.replicate (7 - (lg_sl ([.ref h0, .int p1, .int p2])).length) Slot.unset).toArray = ls at hl ⊢
  have hl : lv_has ls 7 [(0, .ref h0), (1, .int p1), (2, .int p2)] := hl
  refine lv_aload_n hx hb dX12_takenOf_0 rfl (lv_at hl 0 rfl) ?_
  refine lv_iload_n hx hb dX12_takenOf_1 rfl (lv_at hl 1 rfl) ?_
  refine lv_iload_n hx hb dX12_takenOf_2 rfl (lv_at hl 2 rfl) ?_
  refine rvi (C := RX12) (As := [.int p1, .int p2]) (rest := []) ⟨hx, hb, hml, hown, hts⟩ (t_X12_lightsOf l D k u hu h0 m_h0 k_h0 p1 p2 (by (try simp only [i_lt, i_le, i_eq, Int32.toInt_toInt64, Int32.reduceToInt, Int64.reduceToInt, true_and, and_true, false_and, and_false, false_or, or_false, true_or, or_true, not_true_eq_false, not_false_eq_true, ne_eq, forall_const, true_implies, false_implies, implies_true] at g_p1 g_p2 ⊢) <;> omega) (by (try simp only [i_lt, i_le, i_eq, Int32.toInt_toInt64, Int32.reduceToInt, Int64.reduceToInt, true_and, and_true, false_and, and_false, false_or, or_false, true_or, or_true, not_true_eq_false, not_false_eq_true, ne_eq, forall_const, true_implies, false_implies, implies_true] at g_p1 g_p2 ⊢) <;> omega)) (cwV 2 hts gX12_takenOf_X12_lightsOf rfl rfl rfl (by decide +kernel) ⟨Nat.le_of_ble_eq_true rfl, Nat.le_of_ble_eq_true rfl⟩) hP hK (precv hK hP m_h0 (cF12 k_h0) rfl) rfl hl.1 rfl (Nat.le_of_ble_eq_true rfl) dX12_takenOf_3 ⟨Nat.le_of_ble_eq_true rfl, Nat.le_of_ble_eq_true rfl⟩ (fun r16 hr16 => ?_)
  refine lv_istore_n (lv' := [(3, .int r16), (0, .ref h0), (1, .int p1), (2, .int p2)]) hx hb dX12_takenOf_6 rfl hl (by decide) rfl (fun ls hl => ?_)
  refine lv_iload_n hx hb dX12_takenOf_7 rfl (lv_at hl 0 rfl) ?_
  refine lv_iconst (v := (-1)) hx hb dX12_takenOf_8 (by decide) ?_
  refine lv_icmp_ne (tgt := 14) hx hb dX12_takenOf_9 (by decide) (fun c17 => ?_) (fun c17 => ?_)
  · refine lv_aload_n hx hb dX12_takenOf_14 rfl (lv_at hl 1 rfl) ?_
    refine lv_iload_n hx hb dX12_takenOf_15 rfl (lv_at hl 2 rfl) ?_
    refine lv_iload_n hx hb dX12_takenOf_16 rfl (lv_at hl 3 rfl) ?_
    refine lv_iload_n hx hb dX12_takenOf_17 rfl (lv_at hl 0 rfl) ?_
    refine rvi (C := RX12) (As := [.int p1, .int p2, .int r16]) (rest := []) ⟨hx, hb, hml, hown, hts⟩ (t_X12_reachOf l D k u hu h0 m_h0 k_h0 p1 p2 r16 (by (try simp only [i_lt, i_le, i_eq, Int32.toInt_toInt64, Int32.reduceToInt, Int64.reduceToInt, true_and, and_true, false_and, and_false, false_or, or_false, true_or, or_true, not_true_eq_false, not_false_eq_true, ne_eq, forall_const, true_implies, false_implies, implies_true] at g_p1 g_p2 hr16 c17 ⊢) <;> omega) (by (try simp only [i_lt, i_le, i_eq, Int32.toInt_toInt64, Int32.reduceToInt, Int64.reduceToInt, true_and, and_true, false_and, and_false, false_or, or_false, true_or, or_true, not_true_eq_false, not_false_eq_true, ne_eq, forall_const, true_implies, false_implies, implies_true] at g_p1 g_p2 hr16 c17 ⊢) <;> omega) (by (try simp only [i_lt, i_le, i_eq, Int32.toInt_toInt64, Int32.reduceToInt, Int64.reduceToInt, true_and, and_true, false_and, and_false, false_or, or_false, true_or, or_true, not_true_eq_false, not_false_eq_true, ne_eq, forall_const, true_implies, false_implies, implies_true] at g_p1 g_p2 hr16 c17 ⊢) <;> omega)) (cwV 3 hts gX12_takenOf_X12_reachOf rfl rfl rfl (by decide +kernel) ⟨Nat.le_of_ble_eq_true rfl, Nat.le_of_ble_eq_true rfl⟩) hP hK (precv hK hP m_h0 (cF12 k_h0) rfl) rfl hl.1 rfl (Nat.le_of_ble_eq_true rfl) dX12_takenOf_18 ⟨Nat.le_of_ble_eq_true rfl, Nat.le_of_ble_eq_true rfl⟩ (fun r18 hr18 => ?_)
    refine lv_istore (lv' := [(4, .int r18), (3, .int r16), (0, .ref h0), (1, .int p1), (2, .int p2)]) hx hb dX12_takenOf_21 hl (by decide) rfl (fun ls hl => ?_)
    refine lv_iconst (v := 0) hx hb dX12_takenOf_23 (by decide) ?_
    refine lv_istore (lv' := [(5, .int 0), (4, .int r18), (3, .int r16), (0, .ref h0), (1, .int p1), (2, .int p2)]) hx hb dX12_takenOf_24 hl (by decide) rfl (fun ls hl => ?_)
    refine lv_iconst (v := 0) hx hb dX12_takenOf_26 (by decide) ?_
    refine lv_istore (lv' := [(6, .int 0), (5, .int 0), (4, .int r18), (3, .int r16), (0, .ref h0), (1, .int p1), (2, .int p2)]) hx hb dX12_takenOf_27 hl (by decide) rfl (fun ls hl => ?_)
    exact B29 _ ls p1 r16 r18 0 0 (Nat.le_refl _) (by (try simp only [i_lt, i_le, i_eq, Int32.toInt_toInt64, Int32.reduceToInt, Int64.reduceToInt, true_and, and_true, false_and, and_false, false_or, or_false, true_or, or_true, not_true_eq_false, not_false_eq_true, ne_eq, forall_const, true_implies, false_implies, implies_true] at g_p1 g_p2 hr16 c17 ⊢) <;> omega) (by (try simp only [i_lt, i_le, i_eq, Int32.toInt_toInt64, Int32.reduceToInt, Int64.reduceToInt, true_and, and_true, false_and, and_false, false_or, or_false, true_or, or_true, not_true_eq_false, not_false_eq_true, ne_eq, forall_const, true_implies, false_implies, implies_true] at g_p1 g_p2 hr16 c17 ⊢) <;> omega) (by (try simp only [i_lt, i_le, i_eq, Int32.toInt_toInt64, Int32.reduceToInt, Int64.reduceToInt, true_and, and_true, false_and, and_false, false_or, or_false, true_or, or_true, not_true_eq_false, not_false_eq_true, ne_eq, forall_const, true_implies, false_implies, implies_true] at g_p1 g_p2 hr16 c17 ⊢) <;> omega) (lv_sub hl [4, 5, 3, 2, 1, 0] rfl)
  · refine lv_iconst (v := 0) hx hb dX12_takenOf_12 (by decide) ?_
    exact W.iret (v := 0) hx hb hr (fun t ht hW => ⟨0, rfl, trivial, ht⟩) (fun q h => by cases h) dX12_takenOf_13
set_option maxHeartbeats 4000000 in
set_option maxRecDepth 100000 in
theorem t_X12_taken_ (l : Launch) (D : va_G) (k : Nat → ClassId) (u : PSt) (hu : WT u) (h0 : Nat) (m_h0 : h0 ∈ u.1) (k_h0 : u.2.1 h0 = 12) (p1 : Int32) (p2 : Int32) : Met l yX12_taken_ wsX12_taken_ ({ frames := 4, cells := 0, slots := 0, locals := 101 }) (PreR D k (PW k u) [.ref h0, .int p1, .int p2]) (vp_Si (fun r => True)) 0 0 (fun _ => False) := by
  refine Met.ofW (cc := cX12_taken_) (maxL := 3) (ret := (some .int)) (by decide) rfl ?_
  intro p e s m args below meth c s₁ B hml hv
  obtain ⟨rfl, hP, hK⟩ := hv
  have hx := B.exec
  have hb := B.bytes
  have hr := B.returns
  have hts := atoms_spec (ws := wsX12_taken_) B.pre
  have hown : s.vm.findClass RX12 = some m.cls := findClass_of_methodNamed B.named
  have hlocks := B.notSynchronized
  have hl := lv_entry ([.ref h0, .int p1, .int p2]) (n := 3) (Nat.le_of_ble_eq_true rfl)
  rw [lg_entry_eq]
  generalize (lg_sl ([.ref h0, .int p1, .int p2]) ++ List.replicate (3 - (lg_sl ([.ref h0, .int p1, .int p2])).length) Slot.unset).toArray = ls at hl ⊢
  have hl : lv_has ls 3 [(0, .ref h0), (1, .int p1), (2, .int p2)] := hl
  refine lv_aload_n hx hb dX12_taken__0 rfl (lv_at hl 0 rfl) ?_
  refine lv_iload_n hx hb dX12_taken__1 rfl (lv_at hl 1 rfl) ?_
  refine rvi (C := RX12) (As := [.int p1]) (rest := []) ⟨hx, hb, hml, hown, hts⟩ (t_X12_isPipe l D k u hu h0 m_h0 k_h0 p1) (cwV 1 hts gX12_taken__X12_isPipe rfl rfl rfl (by decide +kernel) ⟨Nat.le_of_ble_eq_true rfl, Nat.le_of_ble_eq_true rfl⟩) hP hK (precv hK hP m_h0 (cF12 k_h0) rfl) rfl hl.1 rfl (Nat.le_of_ble_eq_true rfl) dX12_taken__2 ⟨Nat.le_of_ble_eq_true rfl, Nat.le_of_ble_eq_true rfl⟩ (fun r1 hr1 => ?_)
  refine lv_if_eq (tgt := 25) hx hb dX12_taken__5 (by decide) (fun c2 => ?_) (fun c2 => ?_)
  · have eb3 : r1.toInt = 0 := by rcases hr1 with q | ⟨q, -⟩; exact q; (exact absurd (c2) (fun w => by rw [w] at q; exact absurd q (by decide)))
    clear hr1
    refine lv_bipush (v := (-2)) hx hb dX12_taken__25 (by decide) ?_
    exact W.iret (v := (-2)) hx hb hr (fun t ht hW => ⟨(-2), rfl, trivial, ht⟩) (fun q h => by cases h) dX12_taken__27
  · have eb4 : r1.toInt = 1 := by rcases hr1 with q | ⟨q, -⟩; exact absurd (i_eq.mpr q) c2; exact q
    have fb4 : 0 ≤ p1.toInt ∧ p1.toInt ≤ 11 := by rcases hr1 with q | ⟨q, r⟩; exact absurd q (by omega); exact r
    clear hr1
    refine lv_aload_n hx hb dX12_taken__8 rfl (lv_at hl 0 rfl) ?_
    refine lv_iload_n hx hb dX12_taken__9 rfl (lv_at hl 2 rfl) ?_
    refine rvi (C := RX12) (As := [.int p2]) (rest := []) ⟨hx, hb, hml, hown, hts⟩ (t_X12_isHour l D k u hu h0 m_h0 k_h0 p2) (cwV 1 hts gX12_taken__X12_isHour rfl rfl rfl (by decide +kernel) ⟨Nat.le_of_ble_eq_true rfl, Nat.le_of_ble_eq_true rfl⟩) hP hK (precv hK hP m_h0 (cF12 k_h0) rfl) rfl hl.1 rfl (Nat.le_of_ble_eq_true rfl) dX12_taken__10 ⟨Nat.le_of_ble_eq_true rfl, Nat.le_of_ble_eq_true rfl⟩ (fun r5 hr5 => ?_)
    refine lv_if_eq (tgt := 25) hx hb dX12_taken__13 (by decide) (fun c6 => ?_) (fun c6 => ?_)
    · have eb7 : r5.toInt = 0 := by rcases hr5 with q | ⟨q, -⟩; exact q; (exact absurd (c6) (fun w => by rw [w] at q; exact absurd q (by decide)))
      clear hr5
      refine lv_bipush (v := (-2)) hx hb dX12_taken__25 (by decide) ?_
      exact W.iret (v := (-2)) hx hb hr (fun t ht hW => ⟨(-2), rfl, trivial, ht⟩) (fun q h => by cases h) dX12_taken__27
    · have eb8 : r5.toInt = 1 := by rcases hr5 with q | ⟨q, -⟩; exact absurd (i_eq.mpr q) c6; exact q
      have fb8 : 0 ≤ p2.toInt ∧ p2.toInt ≤ 1999 := by rcases hr5 with q | ⟨q, r⟩; exact absurd q (by omega); exact r
      clear hr5
      refine lv_aload_n hx hb dX12_taken__16 rfl (lv_at hl 0 rfl) ?_
      refine lv_iload_n hx hb dX12_taken__17 rfl (lv_at hl 1 rfl) ?_
      refine lv_iload_n hx hb dX12_taken__18 rfl (lv_at hl 2 rfl) ?_
      refine rvi (C := RX12) (As := [.int p1, .int p2]) (rest := []) ⟨hx, hb, hml, hown, hts⟩ (t_X12_takenOf l D k u hu h0 m_h0 k_h0 p1 p2 (by (try simp only [i_lt, i_le, i_eq, Int32.toInt_toInt64, Int32.reduceToInt, Int64.reduceToInt, true_and, and_true, false_and, and_false, false_or, or_false, true_or, or_true, not_true_eq_false, not_false_eq_true, ne_eq, forall_const, true_implies, false_implies, implies_true] at eb4 fb4 eb8 fb8 ⊢) <;> omega) (by (try simp only [i_lt, i_le, i_eq, Int32.toInt_toInt64, Int32.reduceToInt, Int64.reduceToInt, true_and, and_true, false_and, and_false, false_or, or_false, true_or, or_true, not_true_eq_false, not_false_eq_true, ne_eq, forall_const, true_implies, false_implies, implies_true] at eb4 fb4 eb8 fb8 ⊢) <;> omega)) (cwV 2 hts gX12_taken__X12_takenOf rfl rfl rfl (by decide +kernel) ⟨Nat.le_of_ble_eq_true rfl, Nat.le_of_ble_eq_true rfl⟩) hP hK (precv hK hP m_h0 (cF12 k_h0) rfl) rfl hl.1 rfl (Nat.le_of_ble_eq_true rfl) dX12_taken__19 ⟨Nat.le_of_ble_eq_true rfl, Nat.le_of_ble_eq_true rfl⟩ (fun r9 hr9 => ?_)
      refine lv_goto (tgt := 27) hx hb dX12_taken__22 (by decide) ?_
      exact W.iret (v := r9) hx hb hr (fun t ht hW => ⟨r9, rfl, trivial, ht⟩) (fun q h => by cases h) dX12_taken__27
set_option maxHeartbeats 4000000 in
set_option maxRecDepth 100000 in
theorem t_X12_whole (l : Launch) (D : va_G) (k : Nat → ClassId) (u : PSt) (hu : WT u) (h0 : Nat) (m_h0 : h0 ∈ u.1) (k_h0 : u.2.1 h0 = 12) : Met l yX12_whole wsX12_whole ({ frames := 5, cells := 0, slots := 0, locals := 119 }) (PreR D k (PW k u) [.ref h0]) (vp_Si (fun r => True)) 0 0 (fun _ => False) := by
  refine Met.ofW (cc := cX12_whole) (maxL := 1) (ret := (some .int)) (by decide) rfl ?_
  intro p e s m args below meth c s₁ B hml hv
  obtain ⟨rfl, hP, hK⟩ := hv
  have hx := B.exec
  have hb := B.bytes
  have hr := B.returns
  have hts := atoms_spec (ws := wsX12_whole) B.pre
  have hown : s.vm.findClass RX12 = some m.cls := findClass_of_methodNamed B.named
  have hlocks := B.notSynchronized
  have hl := lv_entry ([.ref h0]) (n := 1) (Nat.le_of_ble_eq_true rfl)
  rw [lg_entry_eq]
  generalize (lg_sl ([.ref h0]) ++ List.replicate (1 - (lg_sl ([.ref h0])).length) Slot.unset).toArray = ls at hl ⊢
  have hl : lv_has ls 1 [(0, .ref h0)] := hl
  refine lv_aload_n hx hb dX12_whole_0 rfl (lv_at hl 0 rfl) ?_
  refine rvi (C := RX12) (As := []) (rest := []) ⟨hx, hb, hml, hown, hts⟩ (t_X12_wholeOf l D k u hu h0 m_h0 k_h0 ) (cwV 0 hts gX12_whole_X12_wholeOf rfl rfl rfl (by decide +kernel) ⟨Nat.le_of_ble_eq_true rfl, Nat.le_of_ble_eq_true rfl⟩) hP hK (precv hK hP m_h0 (cF12 k_h0) rfl) rfl hl.1 rfl (Nat.le_of_ble_eq_true rfl) dX12_whole_1 ⟨Nat.le_of_ble_eq_true rfl, Nat.le_of_ble_eq_true rfl⟩ (fun r1 hr1 => ?_)
  exact W.iret (v := r1) hx hb hr (fun t ht hW => ⟨r1, rfl, trivial, ht⟩) (fun q h => by cases h) dX12_whole_4
set_option maxHeartbeats 4000000 in
set_option maxRecDepth 100000 in
theorem t_X12_lights (l : Launch) (D : va_G) (k : Nat → ClassId) (u : PSt) (hu : WT u) (h0 : Nat) (m_h0 : h0 ∈ u.1) (k_h0 : u.2.1 h0 = 12) (p1 : Int32) (p2 : Int32) : Met l yX12_lights wsX12_lights ({ frames := 3, cells := 0, slots := 0, locals := 75 }) (PreR D k (PW k u) [.ref h0, .int p1, .int p2]) (vp_Si (fun r => True)) 0 0 (fun _ => False) := by
  refine Met.ofW (cc := cX12_lights) (maxL := 3) (ret := (some .int)) (by decide) rfl ?_
  intro p e s m args below meth c s₁ B hml hv
  obtain ⟨rfl, hP, hK⟩ := hv
  have hx := B.exec
  have hb := B.bytes
  have hr := B.returns
  have hts := atoms_spec (ws := wsX12_lights) B.pre
  have hown : s.vm.findClass RX12 = some m.cls := findClass_of_methodNamed B.named
  have hlocks := B.notSynchronized
  have hl := lv_entry ([.ref h0, .int p1, .int p2]) (n := 3) (Nat.le_of_ble_eq_true rfl)
  rw [lg_entry_eq]
  generalize (lg_sl ([.ref h0, .int p1, .int p2]) ++ List.replicate (3 - (lg_sl ([.ref h0, .int p1, .int p2])).length) Slot.unset).toArray = ls at hl ⊢
  have hl : lv_has ls 3 [(0, .ref h0), (1, .int p1), (2, .int p2)] := hl
  refine lv_aload_n hx hb dX12_lights_0 rfl (lv_at hl 0 rfl) ?_
  refine lv_iload_n hx hb dX12_lights_1 rfl (lv_at hl 1 rfl) ?_
  refine rvi (C := RX12) (As := [.int p1]) (rest := []) ⟨hx, hb, hml, hown, hts⟩ (t_X12_isPipe l D k u hu h0 m_h0 k_h0 p1) (cwV 1 hts gX12_lights_X12_isPipe rfl rfl rfl (by decide +kernel) ⟨Nat.le_of_ble_eq_true rfl, Nat.le_of_ble_eq_true rfl⟩) hP hK (precv hK hP m_h0 (cF12 k_h0) rfl) rfl hl.1 rfl (Nat.le_of_ble_eq_true rfl) dX12_lights_2 ⟨Nat.le_of_ble_eq_true rfl, Nat.le_of_ble_eq_true rfl⟩ (fun r1 hr1 => ?_)
  refine lv_if_eq (tgt := 25) hx hb dX12_lights_5 (by decide) (fun c2 => ?_) (fun c2 => ?_)
  · have eb3 : r1.toInt = 0 := by rcases hr1 with q | ⟨q, -⟩; exact q; (exact absurd (c2) (fun w => by rw [w] at q; exact absurd q (by decide)))
    clear hr1
    refine lv_bipush (v := (-2)) hx hb dX12_lights_25 (by decide) ?_
    exact W.iret (v := (-2)) hx hb hr (fun t ht hW => ⟨(-2), rfl, trivial, ht⟩) (fun q h => by cases h) dX12_lights_27
  · have eb4 : r1.toInt = 1 := by rcases hr1 with q | ⟨q, -⟩; exact absurd (i_eq.mpr q) c2; exact q
    have fb4 : 0 ≤ p1.toInt ∧ p1.toInt ≤ 11 := by rcases hr1 with q | ⟨q, r⟩; exact absurd q (by omega); exact r
    clear hr1
    refine lv_aload_n hx hb dX12_lights_8 rfl (lv_at hl 0 rfl) ?_
    refine lv_iload_n hx hb dX12_lights_9 rfl (lv_at hl 2 rfl) ?_
    refine rvi (C := RX12) (As := [.int p2]) (rest := []) ⟨hx, hb, hml, hown, hts⟩ (t_X12_isHour l D k u hu h0 m_h0 k_h0 p2) (cwV 1 hts gX12_lights_X12_isHour rfl rfl rfl (by decide +kernel) ⟨Nat.le_of_ble_eq_true rfl, Nat.le_of_ble_eq_true rfl⟩) hP hK (precv hK hP m_h0 (cF12 k_h0) rfl) rfl hl.1 rfl (Nat.le_of_ble_eq_true rfl) dX12_lights_10 ⟨Nat.le_of_ble_eq_true rfl, Nat.le_of_ble_eq_true rfl⟩ (fun r5 hr5 => ?_)
    refine lv_if_eq (tgt := 25) hx hb dX12_lights_13 (by decide) (fun c6 => ?_) (fun c6 => ?_)
    · have eb7 : r5.toInt = 0 := by rcases hr5 with q | ⟨q, -⟩; exact q; (exact absurd (c6) (fun w => by rw [w] at q; exact absurd q (by decide)))
      clear hr5
      refine lv_bipush (v := (-2)) hx hb dX12_lights_25 (by decide) ?_
      exact W.iret (v := (-2)) hx hb hr (fun t ht hW => ⟨(-2), rfl, trivial, ht⟩) (fun q h => by cases h) dX12_lights_27
    · have eb8 : r5.toInt = 1 := by rcases hr5 with q | ⟨q, -⟩; exact absurd (i_eq.mpr q) c6; exact q
      have fb8 : 0 ≤ p2.toInt ∧ p2.toInt ≤ 1999 := by rcases hr5 with q | ⟨q, r⟩; exact absurd q (by omega); exact r
      clear hr5
      refine lv_aload_n hx hb dX12_lights_16 rfl (lv_at hl 0 rfl) ?_
      refine lv_iload_n hx hb dX12_lights_17 rfl (lv_at hl 1 rfl) ?_
      refine lv_iload_n hx hb dX12_lights_18 rfl (lv_at hl 2 rfl) ?_
      refine rvi (C := RX12) (As := [.int p1, .int p2]) (rest := []) ⟨hx, hb, hml, hown, hts⟩ (t_X12_lightsOf l D k u hu h0 m_h0 k_h0 p1 p2 (by (try simp only [i_lt, i_le, i_eq, Int32.toInt_toInt64, Int32.reduceToInt, Int64.reduceToInt, true_and, and_true, false_and, and_false, false_or, or_false, true_or, or_true, not_true_eq_false, not_false_eq_true, ne_eq, forall_const, true_implies, false_implies, implies_true] at eb4 fb4 eb8 fb8 ⊢) <;> omega) (by (try simp only [i_lt, i_le, i_eq, Int32.toInt_toInt64, Int32.reduceToInt, Int64.reduceToInt, true_and, and_true, false_and, and_false, false_or, or_false, true_or, or_true, not_true_eq_false, not_false_eq_true, ne_eq, forall_const, true_implies, false_implies, implies_true] at eb4 fb4 eb8 fb8 ⊢) <;> omega)) (cwV 2 hts gX12_lights_X12_lightsOf rfl rfl rfl (by decide +kernel) ⟨Nat.le_of_ble_eq_true rfl, Nat.le_of_ble_eq_true rfl⟩) hP hK (precv hK hP m_h0 (cF12 k_h0) rfl) rfl hl.1 rfl (Nat.le_of_ble_eq_true rfl) dX12_lights_19 ⟨Nat.le_of_ble_eq_true rfl, Nat.le_of_ble_eq_true rfl⟩ (fun r9 hr9 => ?_)
      refine lv_goto (tgt := 27) hx hb dX12_lights_22 (by decide) ?_
      exact W.iret (v := r9) hx hb hr (fun t ht hW => ⟨r9, rfl, trivial, ht⟩) (fun q h => by cases h) dX12_lights_27
