set_option maxHeartbeats 4000000 in
set_option maxRecDepth 100000 in
theorem t_X12_who (l : Launch) (D : va_G) (k : Nat → ClassId) (u : PSt) (hu : WT u) (h0 : Nat) (m_h0 : h0 ∈ u.1) (k_h0 : u.2.1 h0 = 12) (p1 : Int32) (p2 : Int32) : Met l yX12_who wsX12_who ({ frames := 3, cells := 0, slots := 0, locals := 71 }) (PreR D k (PW k u) [.ref h0, .int p1, .int p2]) (vp_Si (fun r => True)) 0 0 (fun _ => False) := by
  refine Met.ofW (cc := cX12_who) (maxL := 3) (ret := (some .int)) (by decide) rfl ?_
  intro p e s m args below meth c s₁ B hml hv
  obtain ⟨rfl, hP, hK⟩ := hv
  have hx := B.exec
  have hb := B.bytes
  have hr := B.returns
  have hts := atoms_spec (ws := wsX12_who) B.pre
  have hown : s.vm.findClass RX12 = some m.cls := findClass_of_methodNamed B.named
  have hlocks := B.notSynchronized
  have hl := lv_entry ([.ref h0, .int p1, .int p2]) (n := 3) (Nat.le_of_ble_eq_true rfl)
  rw [lg_entry_eq]
  generalize (lg_sl ([.ref h0, .int p1, .int p2]) ++ List.replicate (3 - (lg_sl ([.ref h0, .int p1, .int p2])).length) Slot.unset).toArray = ls at hl ⊢
  have hl : lv_has ls 3 [(0, .ref h0), (1, .int p1), (2, .int p2)] := hl
  refine lv_iload_n hx hb dX12_who_0 rfl (lv_at hl 1 rfl) ?_
  refine lv_i2l hx hb dX12_who_1 rfl ?_
  have b1 := Int32.toInt_lt p1
  have ab1 := Int32.le_toInt p1
  refine lv_topl (fun x2 ex2 => ?_)
  have tx2 : x2.toInt = p1.toInt := by rw [ex2]; exact Int32.toInt_toInt64 _
  refine lv_lconst (v := 0) hx hb dX12_who_2 (by decide) ?_
  refine lv_ldc2 (own := RX12) (v := 3) hx hb hown (hts (.constantLong RX12 334 (3)) (by decide +kernel)) dX12_who_3 ?_
  refine psi (As := [.long x2, .long 0, .long 3]) (rest := []) ⟨hx, hb, hml, hown, hts⟩ (t_X12_in l D k x2 0 3) (va_cwS 3 hts gX12_who_X12_in rfl rfl rfl (by decide +kernel) ⟨Nat.le_of_ble_eq_true rfl, Nat.le_of_ble_eq_true rfl⟩) hK rfl hl.1 rfl (Nat.le_of_ble_eq_true rfl) dX12_who_6 ⟨Nat.le_of_ble_eq_true rfl, Nat.le_of_ble_eq_true rfl⟩ (fun r3 hr3 => ?_)
  refine lv_if_eq (tgt := 33) hx hb dX12_who_9 (by decide) (fun c4 => ?_) (fun c4 => ?_)
  · have eb5 : r3.toInt = 0 := by rcases hr3 with ⟨q, -⟩ | ⟨q, -⟩; exact q; (exact absurd (c4) (fun w => by rw [w] at q; exact absurd q (by decide)))
    have fb5 : (x2.toInt < (0 : Int64).toInt ∨ (3 : Int64).toInt < x2.toInt) := by rcases hr3 with ⟨q, r⟩ | ⟨q, r⟩; exact r; exact absurd q (by omega)
    clear hr3
    refine lv_bipush (v := (-2)) hx hb dX12_who_33 (by decide) ?_
    exact W.iret (v := (-2)) hx hb hr (fun t ht hW => ⟨(-2), rfl, trivial, ht⟩) (fun q h => by cases h) dX12_who_35
  · have eb6 : r3.toInt = 1 := by rcases hr3 with ⟨q, -⟩ | ⟨q, -⟩; exact absurd (i_eq.mpr q) c4; exact q
    have fb6 : (0 : Int64).toInt ≤ x2.toInt ∧ x2.toInt ≤ (3 : Int64).toInt := by rcases hr3 with ⟨q, r⟩ | ⟨q, r⟩; exact absurd q (by omega); exact r
    clear hr3
    refine lv_iload_n hx hb dX12_who_12 rfl (lv_at hl 2 rfl) ?_
    refine lv_i2l hx hb dX12_who_13 rfl ?_
    have b7 := Int32.toInt_lt p2
    have ab7 := Int32.le_toInt p2
    refine lv_topl (fun x8 ex8 => ?_)
    have tx8 : x8.toInt = p2.toInt := by rw [ex8]; exact Int32.toInt_toInt64 _
    refine lv_lconst (v := 0) hx hb dX12_who_14 (by decide) ?_
    refine lv_ldc2 (own := RX12) (v := 999) hx hb hown (hts (.constantLong RX12 80 (999)) (by decide +kernel)) dX12_who_15 ?_
    refine psi (As := [.long x8, .long 0, .long 999]) (rest := []) ⟨hx, hb, hml, hown, hts⟩ (t_X12_in l D k x8 0 999) (va_cwS 3 hts gX12_who_X12_in rfl rfl rfl (by decide +kernel) ⟨Nat.le_of_ble_eq_true rfl, Nat.le_of_ble_eq_true rfl⟩) hK rfl hl.1 rfl (Nat.le_of_ble_eq_true rfl) dX12_who_18 ⟨Nat.le_of_ble_eq_true rfl, Nat.le_of_ble_eq_true rfl⟩ (fun r9 hr9 => ?_)
    refine lv_if_eq (tgt := 33) hx hb dX12_who_21 (by decide) (fun c10 => ?_) (fun c10 => ?_)
    · have eb11 : r9.toInt = 0 := by rcases hr9 with ⟨q, -⟩ | ⟨q, -⟩; exact q; (exact absurd (c10) (fun w => by rw [w] at q; exact absurd q (by decide)))
      have fb11 : (x8.toInt < (0 : Int64).toInt ∨ (999 : Int64).toInt < x8.toInt) := by rcases hr9 with ⟨q, r⟩ | ⟨q, r⟩; exact r; exact absurd q (by omega)
      clear hr9
      refine lv_bipush (v := (-2)) hx hb dX12_who_33 (by decide) ?_
      exact W.iret (v := (-2)) hx hb hr (fun t ht hW => ⟨(-2), rfl, trivial, ht⟩) (fun q h => by cases h) dX12_who_35
    · have eb12 : r9.toInt = 1 := by rcases hr9 with ⟨q, -⟩ | ⟨q, -⟩; exact absurd (i_eq.mpr q) c10; exact q
      have fb12 : (0 : Int64).toInt ≤ x8.toInt ∧ x8.toInt ≤ (999 : Int64).toInt := by rcases hr9 with ⟨q, r⟩ | ⟨q, r⟩; exact absurd q (by omega); exact r
      clear hr9
      refine lv_aload_n hx hb dX12_who_24 rfl (lv_at hl 0 rfl) ?_
      refine lv_iload_n hx hb dX12_who_25 rfl (lv_at hl 1 rfl) ?_
      refine lv_iload_n hx hb dX12_who_26 rfl (lv_at hl 2 rfl) ?_
      refine rvi (C := RX12) (As := [.int p1, .int p2]) (rest := []) ⟨hx, hb, hml, hown, hts⟩ (t_X12_whoOf l D k u hu h0 m_h0 k_h0 p1 p2) (cwV 2 hts gX12_who_X12_whoOf rfl rfl rfl (by decide +kernel) ⟨Nat.le_of_ble_eq_true rfl, Nat.le_of_ble_eq_true rfl⟩) hP hK (precv hK hP m_h0 (cF12 k_h0) rfl) rfl hl.1 rfl (Nat.le_of_ble_eq_true rfl) dX12_who_27 ⟨Nat.le_of_ble_eq_true rfl, Nat.le_of_ble_eq_true rfl⟩ (fun r13 hr13 => ?_)
      refine lv_goto (tgt := 35) hx hb dX12_who_30 (by decide) ?_
      exact W.iret (v := r13) hx hb hr (fun t ht hW => ⟨r13, rfl, trivial, ht⟩) (fun q h => by cases h) dX12_who_35
set_option maxHeartbeats 4000000 in
set_option maxRecDepth 100000 in
theorem t_X12_wholeOf (l : Launch) (D : va_G) (k : Nat → ClassId) (u : PSt) (hu : WT u) (h0 : Nat) (m_h0 : h0 ∈ u.1) (k_h0 : u.2.1 h0 = 12) : Met l yX12_wholeOf wsX12_wholeOf ({ frames := 4, cells := 0, slots := 0, locals := 97 }) (PreR D k (PW k u) [.ref h0]) (vp_Si (fun r => True)) 0 0 (fun _ => False) := by
  refine Met.ofW (cc := cX12_wholeOf) (maxL := 3) (ret := (some .int)) (by decide) rfl ?_
  intro p e s m args below meth c s₁ B hml hv
  obtain ⟨rfl, hP, hK⟩ := hv
  have hx := B.exec
  have hb := B.bytes
  have hr := B.returns
  have hts := atoms_spec (ws := wsX12_wholeOf) B.pre
  have hown : s.vm.findClass RX12 = some m.cls := findClass_of_methodNamed B.named
  have hlocks := B.notSynchronized
  have i_X12 : ∀ w ∈ wsX120, w ∈ wsX12_wholeOf := by decide +kernel
  obtain ⟨a1, q0_1, m0_a1, k0_a1⟩ := (hu h0 m_h0).1 1 50 (by rw [k_h0]; rfl)
  have m_a1 := m0_a1
  have k_a1 := k0_a1
  have B4 : ∀ (n4 : Nat) (ls : Array Slot) (v1 : Int32) (v2 : Int32), (2147483648 - v2.toInt).toNat ≤ n4 → 0 ≤ v2.toInt ∧ v2.toInt ≤ 20 → lv_has ls 3 [(0, .ref h0), (1, .int v1), (2, .int v2)] → W p l e (headSpec wsX12_wholeOf ({ frames := 4, cells := 0, slots := 0, locals := 97 })).room s m ([.ref h0] : List Value).toArray below meth c s.heap [] 0 0 (MQ below (vp_Si (fun r => True)) ([.ref h0] : List Value).toArray s 0 0 (fun _ => False)) (F0 m 4 ls []) := by
    intro n4
    induction n4 with
    | zero =>
      intro ls v1 v2 hn4 g_v2 hl
      exact absurd hn4 (by have := Int32.toInt_lt v2; have := Int32.le_toInt v2; omega)
    | succ n4 ih4 =>
      intro ls v1 v2 hn4 g_v2 hl
      refine lv_iload_n hx hb dX12_wholeOf_4 rfl (lv_at hl 2 rfl) ?_
      refine lv_aload_n hx hb dX12_wholeOf_5 rfl (lv_at hl 0 rfl) ?_
      refine pget (ci := 12) (v := va_rf (u.2.2.2.2 h0 1)) (C := RX12) (T := TX12) (N := 34) hx hb hts i_X12 hown hK hP m_h0 (cF12 k_h0) rfl 1 (by decide) (hts (.fieldLink RX12 13 "BellowsRowModel" "world" "[I") (by decide +kernel)) (fun _ h9 => h9) rfl dX12_wholeOf_6 ?_
      refine W.eq (g2 := F0 m 9 ls [.ref a1, .int v2]) (by rw [q0_1]; rfl) ?_
      refine lv_iconst (v := 5) hx hb dX12_wholeOf_9 (by decide) ?_
      refine palI hx hb hK hP m_a1 (cF50 k_a1) 1 rfl (vp_in_iff.mpr (by decide)) dX12_wholeOf_10 ?_
      refine lv_topi (fun x1 ex1 => ?_)
      have tx1 : x1.toInt = (u.2.2.1 a1 5).toInt := congrArg Int32.toInt ex1
      have g2 : 0 ≤ x1.toInt ∧ x1.toInt ≤ 20 := by have g : okI (u.2.1 a1) (5) (u.2.2.1 a1 (5)) := (hu a1 m_a1).2.2.2 (5); rw [k_a1, ← (show x1 = u.2.2.1 a1 (5) from ex1)] at g; have g : okW (5) x1 := g; unfold okW at g; (try simp only [i_lt, i_le, i_eq, Int32.toInt_toInt64, Int32.reduceToInt, Int64.reduceToInt, true_and, and_true, false_and, and_false, false_or, or_false, true_or, or_true, not_true_eq_false, not_false_eq_true, ne_eq, forall_const, true_implies, false_implies, implies_true] at g_v2 hn4 tx1 g ⊢) <;> omega
      refine lv_icmp_ge (tgt := 53) hx hb dX12_wholeOf_11 (by decide) (fun c3 => ?_) (fun c3 => ?_)
      · refine lv_iload_n hx hb dX12_wholeOf_53 rfl (lv_at hl 1 rfl) ?_
        exact W.iret (v := v1) hx hb hr (fun t ht hW => ⟨v1, rfl, trivial, ht⟩) (fun q h => by cases h) dX12_wholeOf_54
      · refine lv_iload_n hx hb dX12_wholeOf_14 rfl (lv_at hl 1 rfl) ?_
        refine lv_aload_n hx hb dX12_wholeOf_15 rfl (lv_at hl 0 rfl) ?_
        refine lv_iload_n hx hb dX12_wholeOf_16 rfl (lv_at hl 2 rfl) ?_
        refine lv_iconst (v := 0) hx hb dX12_wholeOf_17 (by decide) ?_
        refine rvi (C := RX12) (As := [.int v2, .int 0]) (rest := [.int v1]) ⟨hx, hb, hml, hown, hts⟩ (t_X12_asked l D k u hu h0 m_h0 k_h0 v2 0) (cwV 2 hts gX12_wholeOf_X12_asked rfl rfl rfl (by decide +kernel) ⟨Nat.le_of_ble_eq_true rfl, Nat.le_of_ble_eq_true rfl⟩) hP hK (precv hK hP m_h0 (cF12 k_h0) rfl) rfl hl.1 rfl (Nat.le_of_ble_eq_true rfl) dX12_wholeOf_18 ⟨Nat.le_of_ble_eq_true rfl, Nat.le_of_ble_eq_true rfl⟩ (fun r4 hr4 => ?_)
        refine lv_aload_n hx hb dX12_wholeOf_21 rfl (lv_at hl 0 rfl) ?_
        refine pget (ci := 12) (v := va_rf (u.2.2.2.2 h0 1)) (C := RX12) (T := TX12) (N := 34) hx hb hts i_X12 hown hK hP m_h0 (cF12 k_h0) rfl 1 (by decide) (hts (.fieldLink RX12 13 "BellowsRowModel" "world" "[I") (by decide +kernel)) (fun _ h9 => h9) rfl dX12_wholeOf_22 ?_
        refine W.eq (g2 := F0 m 25 ls [.ref a1, .int r4, .int v1]) (by rw [q0_1]; rfl) ?_
        refine lv_sipush (v := 422) hx hb dX12_wholeOf_25 (by decide) ?_
        refine lv_iconst (v := 3) hx hb dX12_wholeOf_28 (by decide) ?_
        refine lv_iload_n hx hb dX12_wholeOf_29 rfl (lv_at hl 2 rfl) ?_
        refine lv_imul hx hb dX12_wholeOf_30 ?_
        refine lv_topi (fun x5 ex5 => ?_)
        have tx5 : x5.toInt = 3 * v2.toInt := by rw [ex5]; exact i_mulc (c := 3) (by decide) ((show 0 ≤ v2.toInt ∧ v2.toInt ≤ 19 from by (try simp only [i_lt, i_le, i_eq, Int32.toInt_toInt64, Int32.reduceToInt, Int64.reduceToInt, true_and, and_true, false_and, and_false, false_or, or_false, true_or, or_true, not_true_eq_false, not_false_eq_true, ne_eq, forall_const, true_implies, false_implies, implies_true] at g_v2 hn4 tx1 g2 c3 ⊢) <;> omega)) (by decide)
        refine lv_iadd hx hb dX12_wholeOf_31 ?_
        refine lv_topi (fun x6 ex6 => ?_)
        have tx6 : x6.toInt = (422 : Int32).toInt + x5.toInt := by rw [ex6]; exact i_add (by (try simp only [i_lt, i_le, i_eq, Int32.toInt_toInt64, Int32.reduceToInt, Int64.reduceToInt, true_and, and_true, false_and, and_false, false_or, or_false, true_or, or_true, not_true_eq_false, not_false_eq_true, ne_eq, forall_const, true_implies, false_implies, implies_true] at g_v2 hn4 tx1 g2 c3 tx5 ⊢) <;> omega) (by (try simp only [i_lt, i_le, i_eq, Int32.toInt_toInt64, Int32.reduceToInt, Int64.reduceToInt, true_and, and_true, false_and, and_false, false_or, or_false, true_or, or_true, not_true_eq_false, not_false_eq_true, ne_eq, forall_const, true_implies, false_implies, implies_true] at g_v2 hn4 tx1 g2 c3 tx5 ⊢) <;> omega)
        refine lv_iconst (v := 2) hx hb dX12_wholeOf_32 (by decide) ?_
        refine lv_iadd hx hb dX12_wholeOf_33 ?_
        refine lv_topi (fun x7 ex7 => ?_)
        have tx7 : x7.toInt = x6.toInt + (2 : Int32).toInt := by rw [ex7]; exact i_add (by (try simp only [i_lt, i_le, i_eq, Int32.toInt_toInt64, Int32.reduceToInt, Int64.reduceToInt, true_and, and_true, false_and, and_false, false_or, or_false, true_or, or_true, not_true_eq_false, not_false_eq_true, ne_eq, forall_const, true_implies, false_implies, implies_true] at g_v2 hn4 tx1 g2 c3 tx5 tx6 ⊢) <;> omega) (by (try simp only [i_lt, i_le, i_eq, Int32.toInt_toInt64, Int32.reduceToInt, Int64.reduceToInt, true_and, and_true, false_and, and_false, false_or, or_false, true_or, or_true, not_true_eq_false, not_false_eq_true, ne_eq, forall_const, true_implies, false_implies, implies_true] at g_v2 hn4 tx1 g2 c3 tx5 tx6 ⊢) <;> omega)
        refine palI hx hb hK hP m_a1 (cF50 k_a1) 1 rfl (vp_in_iff.mpr (by (try simp only [i_lt, i_le, i_eq, Int32.toInt_toInt64, Int32.reduceToInt, Int64.reduceToInt, true_and, and_true, false_and, and_false, false_or, or_false, true_or, or_true, not_true_eq_false, not_false_eq_true, ne_eq, forall_const, true_implies, false_implies, implies_true] at g_v2 hn4 tx1 g2 c3 tx5 tx6 tx7 ⊢) <;> omega)) dX12_wholeOf_34 ?_
        refine lv_topi (fun x8 ex8 => ?_)
        have tx8 : x8.toInt = (u.2.2.1 a1 (x7.toNatClampNeg)).toInt := congrArg Int32.toInt ex8
        refine lv_icmp_ne (tgt := 44) hx hb dX12_wholeOf_35 (by decide) (fun c9 => ?_) (fun c9 => ?_)
        · have b10 := Int32.toInt_lt r4
          have b11 := Int32.toInt_lt x8
          refine lv_iconst (v := 0) hx hb dX12_wholeOf_44 (by decide) ?_
          refine lv_ior hx hb dX12_wholeOf_45 ?_
          refine lv_topi (fun x12 ex12 => ?_)
          refine lv_istore_n (lv' := [(1, .int x12), (0, .ref h0), (2, .int v2)]) hx hb dX12_wholeOf_46 rfl hl (by decide) rfl (fun ls hl => ?_)
          obtain ⟨x13, ex13⟩ : ∃ y : Int32, y = v2 + 1 := ⟨_, rfl⟩
          have tx13 : x13.toInt = v2.toInt + 1 := by rw [ex13]; exact i_add (b := 1) (by (try simp only [i_lt, i_le, i_eq, Int32.toInt_toInt64, Int32.reduceToInt, Int64.reduceToInt, true_and, and_true, false_and, and_false, false_or, or_false, true_or, or_true, not_true_eq_false, not_false_eq_true, ne_eq, forall_const, true_implies, false_implies, implies_true] at g_v2 hn4 tx1 g2 c3 tx5 tx6 tx7 tx8 c9 b10 b11 ⊢) <;> omega) (by (try simp only [i_lt, i_le, i_eq, Int32.toInt_toInt64, Int32.reduceToInt, Int64.reduceToInt, true_and, and_true, false_and, and_false, false_or, or_false, true_or, or_true, not_true_eq_false, not_false_eq_true, ne_eq, forall_const, true_implies, false_implies, implies_true] at g_v2 hn4 tx1 g2 c3 tx5 tx6 tx7 tx8 c9 b10 b11 ⊢) <;> omega)
          refine lv_iinc (v := x13) (lv' := [(2, .int x13), (1, .int x12), (0, .ref h0)]) hx hb dX12_wholeOf_47 hl (k := 2) rfl (by rw [ex13]; rfl) (by decide) rfl (fun ls hl => ?_)
          refine lv_goto (tgt := 4) hx hb dX12_wholeOf_50 (by decide) ?_
          exact ih4 ls x12 x13 (by (try simp only [i_lt, i_le, i_eq, Int32.toInt_toInt64, Int32.reduceToInt, Int64.reduceToInt, true_and, and_true, false_and, and_false, false_or, or_false, true_or, or_true, not_true_eq_false, not_false_eq_true, ne_eq, forall_const, true_implies, false_implies, implies_true] at g_v2 hn4 tx1 g2 c3 tx5 tx6 tx7 tx8 c9 b10 b11 tx13 ⊢) <;> omega) (by (try simp only [i_lt, i_le, i_eq, Int32.toInt_toInt64, Int32.reduceToInt, Int64.reduceToInt, true_and, and_true, false_and, and_false, false_or, or_false, true_or, or_true, not_true_eq_false, not_false_eq_true, ne_eq, forall_const, true_implies, false_implies, implies_true] at g_v2 hn4 tx1 g2 c3 tx5 tx6 tx7 tx8 c9 b10 b11 tx13 ⊢) <;> omega) (lv_sub hl [2, 1, 0] rfl)
        · have b14 := Int32.toInt_lt r4
          have b15 := Int32.toInt_lt x8
          refine lv_iconst (v := 1) hx hb dX12_wholeOf_38 (by decide) ?_
          refine lv_iload_n hx hb dX12_wholeOf_39 rfl (lv_at hl 2 rfl) ?_
          refine lv_ishl hx hb dX12_wholeOf_40 ?_
          refine lv_topi (fun x16 ex16 => ?_)
          refine lv_goto (tgt := 45) hx hb dX12_wholeOf_41 (by decide) ?_
          refine lv_ior hx hb dX12_wholeOf_45 ?_
          refine lv_topi (fun x17 ex17 => ?_)
          refine lv_istore_n (lv' := [(1, .int x17), (0, .ref h0), (2, .int v2)]) hx hb dX12_wholeOf_46 rfl hl (by decide) rfl (fun ls hl => ?_)
          obtain ⟨x18, ex18⟩ : ∃ y : Int32, y = v2 + 1 := ⟨_, rfl⟩
          have tx18 : x18.toInt = v2.toInt + 1 := by rw [ex18]; exact i_add (b := 1) (by (try simp only [i_lt, i_le, i_eq, Int32.toInt_toInt64, Int32.reduceToInt, Int64.reduceToInt, true_and, and_true, false_and, and_false, false_or, or_false, true_or, or_true, not_true_eq_false, not_false_eq_true, ne_eq, forall_const, true_implies, false_implies, implies_true] at g_v2 hn4 tx1 g2 c3 tx5 tx6 tx7 tx8 c9 b14 b15 ⊢) <;> omega) (by (try simp only [i_lt, i_le, i_eq, Int32.toInt_toInt64, Int32.reduceToInt, Int64.reduceToInt, true_and, and_true, false_and, and_false, false_or, or_false, true_or, or_true, not_true_eq_false, not_false_eq_true, ne_eq, forall_const, true_implies, false_implies, implies_true] at g_v2 hn4 tx1 g2 c3 tx5 tx6 tx7 tx8 c9 b14 b15 ⊢) <;> omega)
          refine lv_iinc (v := x18) (lv' := [(2, .int x18), (1, .int x17), (0, .ref h0)]) hx hb dX12_wholeOf_47 hl (k := 2) rfl (by rw [ex18]; rfl) (by decide) rfl (fun ls hl => ?_)
          refine lv_goto (tgt := 4) hx hb dX12_wholeOf_50 (by decide) ?_
          exact ih4 ls x17 x18 (by (try simp only [i_lt, i_le, i_eq, Int32.toInt_toInt64, Int32.reduceToInt, Int64.reduceToInt, true_and, and_true, false_and, and_false, false_or, or_false, true_or, or_true, not_true_eq_false, not_false_eq_true, ne_eq, forall_const, true_implies, false_implies, implies_true] at g_v2 hn4 tx1 g2 c3 tx5 tx6 tx7 tx8 c9 b14 b15 tx18 ⊢) <;> omega) (by (try simp only [i_lt, i_le, i_eq, Int32.toInt_toInt64, Int32.reduceToInt, Int64.reduceToInt, true_and, and_true, false_and, and_false, false_or, or_false, true_or, or_true, not_true_eq_false, not_false_eq_true, ne_eq, forall_const, true_implies, false_implies, implies_true] at g_v2 hn4 tx1 g2 c3 tx5 tx6 tx7 tx8 c9 b14 b15 tx18 ⊢) <;> omega) (lv_sub hl [2, 1, 0] rfl)
  have hl := lv_entry ([.ref h0]) (n := 3) (Nat.le_of_ble_eq_true rfl)
  rw [lg_entry_eq]
  generalize (lg_sl ([.ref h0]) ++ List.replicate (3 - (lg_sl ([.ref h0])).length) Slot.unset).toArray = ls at hl ⊢
  have hl : lv_has ls 3 [(0, .ref h0)] := hl
  refine lv_iconst (v := 0) hx hb dX12_wholeOf_0 (by decide) ?_
  refine lv_istore_n (lv' := [(1, .int 0), (0, .ref h0)]) hx hb dX12_wholeOf_1 rfl hl (by decide) rfl (fun ls hl => ?_)
  refine lv_iconst (v := 0) hx hb dX12_wholeOf_2 (by decide) ?_
  refine lv_istore_n (lv' := [(2, .int 0), (1, .int 0), (0, .ref h0)]) hx hb dX12_wholeOf_3 rfl hl (by decide) rfl (fun ls hl => ?_)
  exact B4 _ ls 0 0 (Nat.le_refl _) (by (try simp only [i_lt, i_le, i_eq, Int32.toInt_toInt64, Int32.reduceToInt, Int64.reduceToInt, true_and, and_true, false_and, and_false, false_or, or_false, true_or, or_true, not_true_eq_false, not_false_eq_true, ne_eq, forall_const, true_implies, false_implies, implies_true]) <;> omega) (lv_sub hl [2, 1, 0] rfl)
set_option maxHeartbeats 4000000 in
set_option maxRecDepth 100000 in
theorem t_X12_bend (l : Launch) (D : va_G) (k : Nat → ClassId) (u0 : PSt) (hu : WT u0) (h0 : Nat) (m_h0 : h0 ∈ u0.1) (k_h0 : u0.2.1 h0 = 12) (p1 : Int32) (p2 : Int32) (p3 : Int32) (sz : Nat) : Met l yX12_bend wsX12_bend ({ frames := 2, cells := 0, slots := 0, locals := 49 }) (PreM D k sz (PW k u0) [.ref h0, .int p1, .int p2, .int p3]) (va_Qi (fun r v => WT v ∧ PX u0 v ∧ (True)) (WB D (va_A (PW k u0) sz) (PW k)) (va_A (PW k u0) sz)) 0 0 (va_A (PW k u0) sz) := by
  refine Met.ofW (cc := cX12_bend) (maxL := 4) (ret := (some .int)) (by decide) rfl ?_
  intro p e s m args below meth c s₁ B hml hv
  obtain ⟨rfl, hsz, hP, hK, hD0, hN⟩ := hv
  have hx := B.exec
  have hb := B.bytes
  have hr := B.returns
  have hts := atoms_spec (ws := wsX12_bend) B.pre
  have hown : s.vm.findClass RX12 = some m.cls := findClass_of_methodNamed B.named
  have hlocks := B.notSynchronized
  have i_X12 : ∀ w ∈ wsX120, w ∈ wsX12_bend := by decide +kernel
  obtain ⟨a17, q0_17, m0_a17, k0_a17⟩ := (hu h0 m_h0).1 17 56 (by rw [k_h0]; rfl)
  obtain ⟨a18, q0_18, m0_a18, k0_a18⟩ := (hu h0 m_h0).1 18 56 (by rw [k_h0]; rfl)
  obtain ⟨a19, q0_19, m0_a19, k0_a19⟩ := (hu h0 m_h0).1 19 56 (by rw [k_h0]; rfl)
  obtain ⟨a20, q0_20, m0_a20, k0_a20⟩ := (hu h0 m_h0).1 20 56 (by rw [k_h0]; rfl)
  have m0_h0 := m_h0
  have k0_h0 := k_h0
  have m_a17 := m0_a17
  have m_a18 := m0_a18
  have m_a19 := m0_a19
  have m_a20 := m0_a20
  have k_a17 := k0_a17
  have k_a18 := k0_a18
  have k_a19 := k0_a19
  have k_a20 := k0_a20
  subst hsz
  have hD := hD0.self (sz := s.heap.size)
  generalize hAe : va_A (PW k u0) s.heap.size = A at hD ⊢
  have hA : ∀ q : Nat, s.heap.size ≤ q → A q := fun q h => by rw [← hAe]; exact Or.inr h
  have hS : va_S A s.heap s.heap [] := va_S.rf
  have hp : PX u0 u0 := PX.rf
  have hl := lv_entry ([.ref h0, .int p1, .int p2, .int p3]) (n := 4) (Nat.le_of_ble_eq_true rfl)
  rw [lg_entry_eq]
  generalize (lg_sl ([.ref h0, .int p1, .int p2, .int p3]) ++ List.replicate (4 - (lg_sl ([.ref h0, .int p1, .int p2, .int p3])).length) Slot.unset).toArray = ls at hl ⊢
  have hl : lv_has ls 4 [(0, .ref h0), (1, .int p1), (2, .int p2), (3, .int p3)] := hl
  refine lv_aload_n hx hb dX12_bend_0 rfl (lv_at hl 0 rfl) ?_
  refine lv_iload_n hx hb dX12_bend_1 rfl (lv_at hl 1 rfl) ?_
  refine rvi (C := RX12) (As := [.int p1]) (rest := []) ⟨hx, hb, hml, hown, hts⟩ (t_X12_isPipe l D k u0 hu h0 m_h0 k_h0 p1) (cwV 1 hts gX12_bend_X12_isPipe rfl rfl rfl (by decide +kernel) ⟨Nat.le_of_ble_eq_true rfl, Nat.le_of_ble_eq_true rfl⟩) hP hK (precv hK hP m_h0 (cF12 k_h0) rfl) rfl hl.1 rfl (Nat.le_of_ble_eq_true rfl) dX12_bend_2 ⟨Nat.le_of_ble_eq_true rfl, Nat.le_of_ble_eq_true rfl⟩ (fun r1 hr1 => ?_)
  refine lv_if_eq (tgt := 20) hx hb dX12_bend_5 (by decide) (fun c2 => ?_) (fun c2 => ?_)
  · have eb3 : r1.toInt = 0 := by rcases hr1 with q | ⟨q, -⟩; exact q; (exact absurd (c2) (fun w => by rw [w] at q; exact absurd q (by decide)))
    clear hr1
    refine lv_ldcw (own := RX12) (v := (-2000000000)) hx hb hown (hts (.constant RX12 302 (-2000000000)) (by decide +kernel)) dX12_bend_20 ?_
    exact W.iret (v := (-2000000000)) hx hb hr (fun t ht hW => ⟨⟨(-2000000000), u0, rfl, ⟨hu, hp, trivial⟩, by rw [ht]; exact hP, hD⟩, hS.F ht⟩) hS.2.2 dX12_bend_23
  · have eb4 : r1.toInt = 1 := by rcases hr1 with q | ⟨q, -⟩; exact absurd (i_eq.mpr q) c2; exact q
    have fb4 : 0 ≤ p1.toInt ∧ p1.toInt ≤ 11 := by rcases hr1 with q | ⟨q, r⟩; exact absurd q (by omega); exact r
    clear hr1
    refine lv_iload_n hx hb dX12_bend_8 rfl (lv_at hl 3 rfl) ?_
    refine lv_i2l hx hb dX12_bend_9 rfl ?_
    have b5 := Int32.toInt_lt p3
    have ab5 := Int32.le_toInt p3
    refine lv_topl (fun x6 ex6 => ?_)
    have tx6 : x6.toInt = p3.toInt := by rw [ex6]; exact Int32.toInt_toInt64 _
    refine lv_lconst (v := 0) hx hb dX12_bend_10 (by decide) ?_
    refine lv_ldc2 (own := RX12) (v := 3) hx hb hown (hts (.constantLong RX12 334 (3)) (by decide +kernel)) dX12_bend_11 ?_
    refine psi (As := [.long x6, .long 0, .long 3]) (rest := []) ⟨hx, hb, hml, hown, hts⟩ (t_X12_in l D k x6 0 3) (va_cwS 3 hts gX12_bend_X12_in rfl rfl rfl (by decide +kernel) ⟨Nat.le_of_ble_eq_true rfl, Nat.le_of_ble_eq_true rfl⟩) hK rfl hl.1 rfl (Nat.le_of_ble_eq_true rfl) dX12_bend_14 ⟨Nat.le_of_ble_eq_true rfl, Nat.le_of_ble_eq_true rfl⟩ (fun r7 hr7 => ?_)
    refine lv_if_ne (tgt := 24) hx hb dX12_bend_17 (by decide) (fun c8 => ?_) (fun c8 => ?_)
    · have eb9 : r7.toInt = 1 := by rcases hr7 with ⟨q, -⟩ | ⟨q, -⟩; exact absurd (i_eq.mpr q) c8; exact q
      have fb9 : (0 : Int64).toInt ≤ x6.toInt ∧ x6.toInt ≤ (3 : Int64).toInt := by rcases hr7 with ⟨q, r⟩ | ⟨q, r⟩; exact absurd q (by omega); exact r
      clear hr7
      refine lv_aload_n hx hb dX12_bend_24 rfl (lv_at hl 0 rfl) ?_
      refine lv_iload_n hx hb dX12_bend_25 rfl (lv_at hl 1 rfl) ?_
      refine wvV (C := RX12) (As := [.int p1]) (rest := []) ⟨hx, hb, hml, hown, hts⟩ (fun sz => t_X12_bends l D k u0 hu h0 m_h0 k_h0 p1 (by (try simp only [i_lt, i_le, i_eq, Int32.toInt_toInt64, Int32.reduceToInt, Int64.reduceToInt, true_and, and_true, false_and, and_false, false_or, or_false, true_or, or_true, not_true_eq_false, not_false_eq_true, ne_eq, forall_const, true_implies, false_implies, implies_true] at eb4 fb4 b5 ab5 tx6 eb9 fb9 ⊢) <;> omega) sz) (cwV 1 hts gX12_bend_X12_bends rfl rfl rfl (by decide +kernel) ⟨Nat.le_of_ble_eq_true rfl, Nat.le_of_ble_eq_true rfl⟩) hP hK hD hN hS hA (precv hK hP m_h0 (cF12 k_h0) rfl) rfl hl.1 rfl (Nat.le_of_ble_eq_true rfl) dX12_bend_26 ⟨Nat.le_of_ble_eq_true rfl, Nat.le_of_ble_eq_true rfl⟩ (fun u11 H locs hqu11 hP hD hS => ?_)
      obtain ⟨hu, hxu11, hr10⟩ := hqu11
      have hp := PX.trans hp hxu11
      refine lv_iload_n hx hb dX12_bend_29 rfl (lv_at hl 2 rfl) ?_
      refine lv_i2l hx hb dX12_bend_30 rfl ?_
      have b12 := Int32.toInt_lt p2
      have ab12 := Int32.le_toInt p2
      refine lv_topl (fun x13 ex13 => ?_)
      have tx13 : x13.toInt = p2.toInt := by rw [ex13]; exact Int32.toInt_toInt64 _
      refine lv_lconst (v := 0) hx hb dX12_bend_31 (by decide) ?_
      refine lv_aload_n hx hb dX12_bend_32 rfl (lv_at hl 0 rfl) ?_
      have k_h0 : u11.2.1 h0 = 12 := (hp h0 m0_h0).2.1.trans k0_h0
      have m_h0 : h0 ∈ u11.1 := (hp h0 m0_h0).1
      refine pget (ci := 12) (v := .int (u11.2.2.1 h0 16)) (C := RX12) (T := TX12) (N := 34) hx hb hts i_X12 hown hK hP m_h0 (cF12 k_h0) rfl 16 (by decide) (hts (.fieldLink RX12 303 "BellowsRowModel" "bendMany" "I") (by decide +kernel)) (fun _ h9 => h9) rfl dX12_bend_33 ?_
      have g14 := (hu h0 m_h0).2.2.2 16
      rw [k_h0] at g14
      replace g14 : 0 ≤ (u11.2.2.1 h0 16).toInt ∧ (u11.2.2.1 h0 16).toInt ≤ 8 := g14
      refine lv_iconst (v := 1) hx hb dX12_bend_36 (by decide) ?_
      refine lv_isub hx hb dX12_bend_37 ?_
      refine lv_topi (fun x15 ex15 => ?_)
      have tx15 : x15.toInt = (u11.2.2.1 h0 16).toInt - (1 : Int32).toInt := by rw [ex15]; exact i_sub (by (try simp only [i_lt, i_le, i_eq, Int32.toInt_toInt64, Int32.reduceToInt, Int64.reduceToInt, true_and, and_true, false_and, and_false, false_or, or_false, true_or, or_true, not_true_eq_false, not_false_eq_true, ne_eq, forall_const, true_implies, false_implies, implies_true] at eb4 fb4 b5 ab5 tx6 eb9 fb9 b12 ab12 tx13 g14 ⊢) <;> omega) (by (try simp only [i_lt, i_le, i_eq, Int32.toInt_toInt64, Int32.reduceToInt, Int64.reduceToInt, true_and, and_true, false_and, and_false, false_or, or_false, true_or, or_true, not_true_eq_false, not_false_eq_true, ne_eq, forall_const, true_implies, false_implies, implies_true] at eb4 fb4 b5 ab5 tx6 eb9 fb9 b12 ab12 tx13 g14 ⊢) <;> omega)
      refine lv_i2l hx hb dX12_bend_38 rfl ?_
      refine lv_topl (fun x16 ex16 => ?_)
      have tx16 : x16.toInt = x15.toInt := by rw [ex16]; exact Int32.toInt_toInt64 _
      refine psi (As := [.long x13, .long 0, .long x16]) (rest := []) ⟨hx, hb, hml, hown, hts⟩ (t_X12_in l D k x13 0 x16) (va_cwS 3 hts gX12_bend_X12_in rfl rfl rfl (by decide +kernel) ⟨Nat.le_of_ble_eq_true rfl, Nat.le_of_ble_eq_true rfl⟩) hK rfl hl.1 rfl (Nat.le_of_ble_eq_true rfl) dX12_bend_39 ⟨Nat.le_of_ble_eq_true rfl, Nat.le_of_ble_eq_true rfl⟩ (fun r17 hr17 => ?_)
      refine lv_if_ne (tgt := 49) hx hb dX12_bend_42 (by decide) (fun c18 => ?_) (fun c18 => ?_)
      · have eb19 : r17.toInt = 1 := by rcases hr17 with ⟨q, -⟩ | ⟨q, -⟩; exact absurd (i_eq.mpr q) c18; exact q
        have fb19 : (0 : Int64).toInt ≤ x13.toInt ∧ x13.toInt ≤ x16.toInt := by rcases hr17 with ⟨q, r⟩ | ⟨q, r⟩; exact absurd q (by omega); exact r
        clear hr17
        refine lv_iload_n hx hb dX12_bend_49 rfl (lv_at hl 3 rfl) ?_
        refine lv_if_ne (tgt := 62) hx hb dX12_bend_50 (by decide) (fun c20 => ?_) (fun c20 => ?_)
        · refine lv_iload_n hx hb dX12_bend_62 rfl (lv_at hl 3 rfl) ?_
          refine lv_iconst (v := 1) hx hb dX12_bend_63 (by decide) ?_
          refine lv_icmp_ne (tgt := 76) hx hb dX12_bend_64 (by decide) (fun c21 => ?_) (fun c21 => ?_)
          · refine lv_iload_n hx hb dX12_bend_76 rfl (lv_at hl 3 rfl) ?_
            refine lv_iconst (v := 2) hx hb dX12_bend_77 (by decide) ?_
            refine lv_icmp_ne (tgt := 90) hx hb dX12_bend_78 (by decide) (fun c22 => ?_) (fun c22 => ?_)
            · refine lv_aload_n hx hb dX12_bend_90 rfl (lv_at hl 0 rfl) ?_
              have k_a20 : u11.2.1 a20 = 56 := (hp a20 m0_a20).2.1.trans k0_a20
              have m_a20 : a20 ∈ u11.1 := (hp a20 m0_a20).1
              refine pget (ci := 12) (v := va_rf (u11.2.2.2.2 h0 20)) (C := RX12) (T := TX12) (N := 34) hx hb hts i_X12 hown hK hP m_h0 (cF12 k_h0) rfl 20 (by decide) (hts (.fieldLink RX12 46 "BellowsRowModel" "across" "[I") (by decide +kernel)) (fun _ h9 => h9) rfl dX12_bend_91 ?_
              refine W.eq (g2 := F0 m 94 ls [.ref a20]) (by rw [(((hp h0 m0_h0).2.2.2.2.2.1 k0_h0 20).trans q0_20)]; rfl) ?_
              refine lv_iload_n hx hb dX12_bend_94 rfl (lv_at hl 2 rfl) ?_
              refine palI hx hb hK hP m_a20 (cF56 k_a20) 1 rfl (vp_in_iff.mpr (by (try simp only [i_lt, i_le, i_eq, Int32.toInt_toInt64, Int32.reduceToInt, Int64.reduceToInt, true_and, and_true, false_and, and_false, false_or, or_false, true_or, or_true, not_true_eq_false, not_false_eq_true, ne_eq, forall_const, true_implies, false_implies, implies_true] at eb4 fb4 b5 ab5 tx6 eb9 fb9 b12 ab12 tx13 g14 tx15 tx16 eb19 fb19 c20 c21 c22 ⊢) <;> omega)) dX12_bend_95 ?_
              refine lv_topi (fun x23 ex23 => ?_)
              have tx23 : x23.toInt = (u11.2.2.1 a20 (p2.toNatClampNeg)).toInt := congrArg Int32.toInt ex23
              exact W.iret (v := x23) hx hb hr (fun t ht hW => ⟨⟨x23, u11, rfl, ⟨hu, hp, trivial⟩, by rw [ht]; exact hP, hD⟩, hS.F ht⟩) hS.2.2 dX12_bend_96
            · refine lv_aload_n hx hb dX12_bend_81 rfl (lv_at hl 0 rfl) ?_
              have k_a19 : u11.2.1 a19 = 56 := (hp a19 m0_a19).2.1.trans k0_a19
              have m_a19 : a19 ∈ u11.1 := (hp a19 m0_a19).1
              refine pget (ci := 12) (v := va_rf (u11.2.2.2.2 h0 19)) (C := RX12) (T := TX12) (N := 34) hx hb hts i_X12 hown hK hP m_h0 (cF12 k_h0) rfl 19 (by decide) (hts (.fieldLink RX12 43 "BellowsRowModel" "along" "[I") (by decide +kernel)) (fun _ h9 => h9) rfl dX12_bend_82 ?_
              refine W.eq (g2 := F0 m 85 ls [.ref a19]) (by rw [(((hp h0 m0_h0).2.2.2.2.2.1 k0_h0 19).trans q0_19)]; rfl) ?_
              refine lv_iload_n hx hb dX12_bend_85 rfl (lv_at hl 2 rfl) ?_
              refine palI hx hb hK hP m_a19 (cF56 k_a19) 1 rfl (vp_in_iff.mpr (by (try simp only [i_lt, i_le, i_eq, Int32.toInt_toInt64, Int32.reduceToInt, Int64.reduceToInt, true_and, and_true, false_and, and_false, false_or, or_false, true_or, or_true, not_true_eq_false, not_false_eq_true, ne_eq, forall_const, true_implies, false_implies, implies_true] at eb4 fb4 b5 ab5 tx6 eb9 fb9 b12 ab12 tx13 g14 tx15 tx16 eb19 fb19 c20 c21 c22 ⊢) <;> omega)) dX12_bend_86 ?_
              refine lv_topi (fun x24 ex24 => ?_)
              have tx24 : x24.toInt = (u11.2.2.1 a19 (p2.toNatClampNeg)).toInt := congrArg Int32.toInt ex24
              refine lv_goto (tgt := 96) hx hb dX12_bend_87 (by decide) ?_
              exact W.iret (v := x24) hx hb hr (fun t ht hW => ⟨⟨x24, u11, rfl, ⟨hu, hp, trivial⟩, by rw [ht]; exact hP, hD⟩, hS.F ht⟩) hS.2.2 dX12_bend_96
          · refine lv_aload_n hx hb dX12_bend_67 rfl (lv_at hl 0 rfl) ?_
            have k_a18 : u11.2.1 a18 = 56 := (hp a18 m0_a18).2.1.trans k0_a18
            have m_a18 : a18 ∈ u11.1 := (hp a18 m0_a18).1
            refine pget (ci := 12) (v := va_rf (u11.2.2.2.2 h0 18)) (C := RX12) (T := TX12) (N := 34) hx hb hts i_X12 hown hK hP m_h0 (cF12 k_h0) rfl 18 (by decide) (hts (.fieldLink RX12 40 "BellowsRowModel" "bendY" "[I") (by decide +kernel)) (fun _ h9 => h9) rfl dX12_bend_68 ?_
            refine W.eq (g2 := F0 m 71 ls [.ref a18]) (by rw [(((hp h0 m0_h0).2.2.2.2.2.1 k0_h0 18).trans q0_18)]; rfl) ?_
            refine lv_iload_n hx hb dX12_bend_71 rfl (lv_at hl 2 rfl) ?_
            refine palI hx hb hK hP m_a18 (cF56 k_a18) 1 rfl (vp_in_iff.mpr (by (try simp only [i_lt, i_le, i_eq, Int32.toInt_toInt64, Int32.reduceToInt, Int64.reduceToInt, true_and, and_true, false_and, and_false, false_or, or_false, true_or, or_true, not_true_eq_false, not_false_eq_true, ne_eq, forall_const, true_implies, false_implies, implies_true] at eb4 fb4 b5 ab5 tx6 eb9 fb9 b12 ab12 tx13 g14 tx15 tx16 eb19 fb19 c20 c21 ⊢) <;> omega)) dX12_bend_72 ?_
            refine lv_topi (fun x25 ex25 => ?_)
            have tx25 : x25.toInt = (u11.2.2.1 a18 (p2.toNatClampNeg)).toInt := congrArg Int32.toInt ex25
            refine lv_goto (tgt := 96) hx hb dX12_bend_73 (by decide) ?_
            exact W.iret (v := x25) hx hb hr (fun t ht hW => ⟨⟨x25, u11, rfl, ⟨hu, hp, trivial⟩, by rw [ht]; exact hP, hD⟩, hS.F ht⟩) hS.2.2 dX12_bend_96
        · refine lv_aload_n hx hb dX12_bend_53 rfl (lv_at hl 0 rfl) ?_
          have k_a17 : u11.2.1 a17 = 56 := (hp a17 m0_a17).2.1.trans k0_a17
          have m_a17 : a17 ∈ u11.1 := (hp a17 m0_a17).1
          refine pget (ci := 12) (v := va_rf (u11.2.2.2.2 h0 17)) (C := RX12) (T := TX12) (N := 34) hx hb hts i_X12 hown hK hP m_h0 (cF12 k_h0) rfl 17 (by decide) (hts (.fieldLink RX12 37 "BellowsRowModel" "bendX" "[I") (by decide +kernel)) (fun _ h9 => h9) rfl dX12_bend_54 ?_
          refine W.eq (g2 := F0 m 57 ls [.ref a17]) (by rw [(((hp h0 m0_h0).2.2.2.2.2.1 k0_h0 17).trans q0_17)]; rfl) ?_
          refine lv_iload_n hx hb dX12_bend_57 rfl (lv_at hl 2 rfl) ?_
          refine palI hx hb hK hP m_a17 (cF56 k_a17) 1 rfl (vp_in_iff.mpr (by (try simp only [i_lt, i_le, i_eq, Int32.toInt_toInt64, Int32.reduceToInt, Int64.reduceToInt, true_and, and_true, false_and, and_false, false_or, or_false, true_or, or_true, not_true_eq_false, not_false_eq_true, ne_eq, forall_const, true_implies, false_implies, implies_true] at eb4 fb4 b5 ab5 tx6 eb9 fb9 b12 ab12 tx13 g14 tx15 tx16 eb19 fb19 c20 ⊢) <;> omega)) dX12_bend_58 ?_
          refine lv_topi (fun x26 ex26 => ?_)
          have tx26 : x26.toInt = (u11.2.2.1 a17 (p2.toNatClampNeg)).toInt := congrArg Int32.toInt ex26
          refine lv_goto (tgt := 96) hx hb dX12_bend_59 (by decide) ?_
          exact W.iret (v := x26) hx hb hr (fun t ht hW => ⟨⟨x26, u11, rfl, ⟨hu, hp, trivial⟩, by rw [ht]; exact hP, hD⟩, hS.F ht⟩) hS.2.2 dX12_bend_96
      · have eb27 : r17.toInt = 0 := by rcases hr17 with ⟨q, -⟩ | ⟨q, -⟩; exact q; (exact absurd (c18) (fun w => by rw [w] at q; exact absurd q (by decide)))
        have fb27 : (x13.toInt < (0 : Int64).toInt ∨ x16.toInt < x13.toInt) := by rcases hr17 with ⟨q, r⟩ | ⟨q, r⟩; exact r; exact absurd q (by omega)
        clear hr17
        refine lv_ldcw (own := RX12) (v := (-2000000000)) hx hb hown (hts (.constant RX12 302 (-2000000000)) (by decide +kernel)) dX12_bend_45 ?_
        exact W.iret (v := (-2000000000)) hx hb hr (fun t ht hW => ⟨⟨(-2000000000), u11, rfl, ⟨hu, hp, trivial⟩, by rw [ht]; exact hP, hD⟩, hS.F ht⟩) hS.2.2 dX12_bend_48
    · have eb28 : r7.toInt = 0 := by rcases hr7 with ⟨q, -⟩ | ⟨q, -⟩; exact q; (exact absurd (c8) (fun w => by rw [w] at q; exact absurd q (by decide)))
      have fb28 : (x6.toInt < (0 : Int64).toInt ∨ (3 : Int64).toInt < x6.toInt) := by rcases hr7 with ⟨q, r⟩ | ⟨q, r⟩; exact r; exact absurd q (by omega)
      clear hr7
      refine lv_ldcw (own := RX12) (v := (-2000000000)) hx hb hown (hts (.constant RX12 302 (-2000000000)) (by decide +kernel)) dX12_bend_20 ?_
      exact W.iret (v := (-2000000000)) hx hb hr (fun t ht hW => ⟨⟨(-2000000000), u0, rfl, ⟨hu, hp, trivial⟩, by rw [ht]; exact hP, hD⟩, hS.F ht⟩) hS.2.2 dX12_bend_23
