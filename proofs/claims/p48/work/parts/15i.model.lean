set_option maxHeartbeats 4000000 in
set_option maxRecDepth 100000 in
theorem t_X12_awayOf (l : Launch) (D : va_G) (k : Nat → ClassId) (u : PSt) (hu : WT u) (h0 : Nat) (m_h0 : h0 ∈ u.1) (k_h0 : u.2.1 h0 = 12) (p1 : Int32) (p2 : Int32) (p3 : Int32) (g_p1 : 0 ≤ p1.toInt ∧ p1.toInt ≤ 11) (g_p2 : 0 ≤ p2.toInt ∧ p2.toInt ≤ 11) : Met l yX12_awayOf wsX12_awayOf ({ frames := 1, cells := 0, slots := 0, locals := 22 }) (PreR D k (PW k u) [.ref h0, .int p1, .int p2, .int p3]) (vp_Si (fun r => True)) 0 0 (fun _ => False) := by
  refine Met.ofW (cc := cX12_awayOf) (maxL := 9) (ret := (some .int)) (by decide) rfl ?_
  intro p e s m args below meth c s₁ B hml hv
  obtain ⟨rfl, hP, hK⟩ := hv
  have hx := B.exec
  have hb := B.bytes
  have hr := B.returns
  have hts := atoms_spec (ws := wsX12_awayOf) B.pre
  have hown : s.vm.findClass RX12 = some m.cls := findClass_of_methodNamed B.named
  have hlocks := B.notSynchronized
  have i_X12 : ∀ w ∈ wsX120, w ∈ wsX12_awayOf := by decide +kernel
  obtain ⟨a1, q0_1, m0_a1, k0_a1⟩ := (hu h0 m_h0).1 1 50 (by rw [k_h0]; rfl)
  have m_a1 := m0_a1
  have k_a1 := k0_a1
  have B143 : ∀ (ls : Array Slot) (v5 : Int32) (v6 : Int32) (v7 : Int32) (sk0 : Int32), lv_has ls 9 [(5, .int v5), (6, .int v6), (7, .int v7)] → W p l e (headSpec wsX12_awayOf ({ frames := 1, cells := 0, slots := 0, locals := 22 })).room s m ([.ref h0, .int p1, .int p2, .int p3] : List Value).toArray below meth c s.heap [] 0 0 (MQ below (vp_Si (fun r => True)) ([.ref h0, .int p1, .int p2, .int p3] : List Value).toArray s 0 0 (fun _ => False)) (F0 m 143 ls [.int sk0]) := by
    intro ls v5 v6 v7 sk0  hl
    refine lv_istore (lv' := [(8, .int sk0), (5, .int v5), (6, .int v6), (7, .int v7)]) hx hb dX12_awayOf_143 hl (by decide) rfl (fun ls hl => ?_)
    refine lv_iload hx hb dX12_awayOf_145 (lv_at hl 1 rfl) ?_
    refine lv_iload hx hb dX12_awayOf_147 (lv_at hl 3 rfl) ?_
    refine lv_isub hx hb dX12_awayOf_149 ?_
    refine lv_topi (fun x1 ex1 => ?_)
    refine va_mabs hx hb (hml.trans hl.1.symm) hown (hts (.methodLink RX12 317 Lib.Math.abs.name) (by decide +kernel)) (hts (.static Lib.Math.abs.name) (by decide +kernel)) (hts (.initialized "java/lang/Math") (by decide +kernel)) (hts (.code Lib.Math.abs.name Lib.Math.abs.code 1 (some .int)) (by decide +kernel)) (Nat.le_of_ble_eq_true rfl) (Nat.le_of_ble_eq_true rfl) (Nat.le_of_ble_eq_true rfl) (Nat.le_of_ble_eq_true rfl) dX12_awayOf_150 ?_
    refine lv_topi (fun x2 ex2 => ?_)
    refine lv_iload hx hb dX12_awayOf_153 (lv_at hl 2 rfl) ?_
    refine lv_iload hx hb dX12_awayOf_155 (lv_at hl 0 rfl) ?_
    refine lv_isub hx hb dX12_awayOf_157 ?_
    refine lv_topi (fun x3 ex3 => ?_)
    refine va_mabs hx hb (hml.trans hl.1.symm) hown (hts (.methodLink RX12 317 Lib.Math.abs.name) (by decide +kernel)) (hts (.static Lib.Math.abs.name) (by decide +kernel)) (hts (.initialized "java/lang/Math") (by decide +kernel)) (hts (.code Lib.Math.abs.name Lib.Math.abs.code 1 (some .int)) (by decide +kernel)) (Nat.le_of_ble_eq_true rfl) (Nat.le_of_ble_eq_true rfl) (Nat.le_of_ble_eq_true rfl) (Nat.le_of_ble_eq_true rfl) dX12_awayOf_158 ?_
    refine lv_topi (fun x4 ex4 => ?_)
    refine lv_iadd hx hb dX12_awayOf_161 ?_
    refine lv_topi (fun x5 ex5 => ?_)
    exact W.iret (v := x5) hx hb hr (fun t ht hW => ⟨x5, rfl, trivial, ht⟩) (fun q h => by cases h) dX12_awayOf_162
  have B120 : ∀ (ls : Array Slot) (v2 : Int32) (v5 : Int32) (v6 : Int32) (sk0 : Int32), 0 ≤ v2.toInt ∧ v2.toInt ≤ 11 → lv_has ls 9 [(0, .ref h0), (2, .int v2), (5, .int v5), (6, .int v6)] → W p l e (headSpec wsX12_awayOf ({ frames := 1, cells := 0, slots := 0, locals := 22 })).room s m ([.ref h0, .int p1, .int p2, .int p3] : List Value).toArray below meth c s.heap [] 0 0 (MQ below (vp_Si (fun r => True)) ([.ref h0, .int p1, .int p2, .int p3] : List Value).toArray s 0 0 (fun _ => False)) (F0 m 120 ls [.int sk0]) := by
    intro ls v2 v5 v6 sk0 g_v2 hl
    refine lv_istore (lv' := [(7, .int sk0), (0, .ref h0), (2, .int v2), (5, .int v5), (6, .int v6)]) hx hb dX12_awayOf_120 hl (by decide) rfl (fun ls hl => ?_)
    refine lv_iload_n hx hb dX12_awayOf_122 rfl (lv_at hl 2 rfl) ?_
    refine lv_aload_n hx hb dX12_awayOf_123 rfl (lv_at hl 1 rfl) ?_
    refine pget (ci := 12) (v := .int (u.2.2.1 h0 27)) (C := RX12) (T := TX12) (N := 34) hx hb hts i_X12 hown hK hP m_h0 (cF12 k_h0) rfl 27 (by decide) (hts (.fieldLink RX12 58 "BellowsRowModel" "movedRoom" "I") (by decide +kernel)) (fun _ h9 => h9) rfl dX12_awayOf_124 ?_
    refine lv_icmp_ne (tgt := 137) hx hb dX12_awayOf_127 (by decide) (fun c6 => ?_) (fun c6 => ?_)
    · have b7 := Int32.toInt_lt (u.2.2.1 h0 27)
      refine lv_aload_n hx hb dX12_awayOf_137 rfl (lv_at hl 1 rfl) ?_
      refine lv_iload_n hx hb dX12_awayOf_138 rfl (lv_at hl 2 rfl) ?_
      refine lv_iconst (v := 1) hx hb dX12_awayOf_139 (by decide) ?_
      refine rvi (C := RX12) (As := [.int v2, .int 1]) (rest := []) ⟨hx, hb, hml, hown, hts⟩ (t_X12_ofRoom l D k u hu h0 m_h0 k_h0 v2 1 (by (try simp only [i_lt, i_le, i_eq, Int32.toInt_toInt64, Int32.reduceToInt, Int64.reduceToInt, true_and, and_true, false_and, and_false, false_or, or_false, true_or, or_true, not_true_eq_false, not_false_eq_true, ne_eq, forall_const, true_implies, false_implies, implies_true] at g_v2 b7 ⊢) <;> omega) (by decide)) (cwV 2 hts gX12_awayOf_X12_ofRoom rfl rfl rfl (by decide +kernel) ⟨Nat.le_of_ble_eq_true rfl, Nat.le_of_ble_eq_true rfl⟩) hP hK (precv hK hP m_h0 (cF12 k_h0) rfl) rfl hl.1 rfl (Nat.le_of_ble_eq_true rfl) dX12_awayOf_140 ⟨Nat.le_of_ble_eq_true rfl, Nat.le_of_ble_eq_true rfl⟩ (fun r8 hr8 => ?_)
      exact B143 ls v5 v6 sk0 r8 (lv_sub hl [3, 4, 0] rfl)
    · have b9 := Int32.toInt_lt (u.2.2.1 h0 27)
      refine lv_aload_n hx hb dX12_awayOf_130 rfl (lv_at hl 1 rfl) ?_
      refine pget (ci := 12) (v := .int (u.2.2.1 h0 29)) (C := RX12) (T := TX12) (N := 34) hx hb hts i_X12 hown hK hP m_h0 (cF12 k_h0) rfl 29 (by decide) (hts (.fieldLink RX12 427 "BellowsRowModel" "movedY" "I") (by decide +kernel)) (fun _ h9 => h9) rfl dX12_awayOf_131 ?_
      refine lv_goto (tgt := 143) hx hb dX12_awayOf_134 (by decide) ?_
      exact B143 ls v5 v6 sk0 (u.2.2.1 h0 29) (lv_sub hl [3, 4, 0] rfl)
  have B97 : ∀ (ls : Array Slot) (v2 : Int32) (v5 : Int32) (sk0 : Int32), 0 ≤ v2.toInt ∧ v2.toInt ≤ 11 → lv_has ls 9 [(0, .ref h0), (2, .int v2), (5, .int v5)] → W p l e (headSpec wsX12_awayOf ({ frames := 1, cells := 0, slots := 0, locals := 22 })).room s m ([.ref h0, .int p1, .int p2, .int p3] : List Value).toArray below meth c s.heap [] 0 0 (MQ below (vp_Si (fun r => True)) ([.ref h0, .int p1, .int p2, .int p3] : List Value).toArray s 0 0 (fun _ => False)) (F0 m 97 ls [.int sk0]) := by
    intro ls v2 v5 sk0 g_v2 hl
    refine lv_istore (lv' := [(6, .int sk0), (0, .ref h0), (2, .int v2), (5, .int v5)]) hx hb dX12_awayOf_97 hl (by decide) rfl (fun ls hl => ?_)
    refine lv_iload_n hx hb dX12_awayOf_99 rfl (lv_at hl 2 rfl) ?_
    refine lv_aload_n hx hb dX12_awayOf_100 rfl (lv_at hl 1 rfl) ?_
    refine pget (ci := 12) (v := .int (u.2.2.1 h0 27)) (C := RX12) (T := TX12) (N := 34) hx hb hts i_X12 hown hK hP m_h0 (cF12 k_h0) rfl 27 (by decide) (hts (.fieldLink RX12 58 "BellowsRowModel" "movedRoom" "I") (by decide +kernel)) (fun _ h9 => h9) rfl dX12_awayOf_101 ?_
    refine lv_icmp_ne (tgt := 114) hx hb dX12_awayOf_104 (by decide) (fun c10 => ?_) (fun c10 => ?_)
    · have b11 := Int32.toInt_lt (u.2.2.1 h0 27)
      refine lv_aload_n hx hb dX12_awayOf_114 rfl (lv_at hl 1 rfl) ?_
      refine lv_iload_n hx hb dX12_awayOf_115 rfl (lv_at hl 2 rfl) ?_
      refine lv_iconst (v := 0) hx hb dX12_awayOf_116 (by decide) ?_
      refine rvi (C := RX12) (As := [.int v2, .int 0]) (rest := []) ⟨hx, hb, hml, hown, hts⟩ (t_X12_ofRoom l D k u hu h0 m_h0 k_h0 v2 0 (by (try simp only [i_lt, i_le, i_eq, Int32.toInt_toInt64, Int32.reduceToInt, Int64.reduceToInt, true_and, and_true, false_and, and_false, false_or, or_false, true_or, or_true, not_true_eq_false, not_false_eq_true, ne_eq, forall_const, true_implies, false_implies, implies_true] at g_v2 b11 ⊢) <;> omega) (by decide)) (cwV 2 hts gX12_awayOf_X12_ofRoom rfl rfl rfl (by decide +kernel) ⟨Nat.le_of_ble_eq_true rfl, Nat.le_of_ble_eq_true rfl⟩) hP hK (precv hK hP m_h0 (cF12 k_h0) rfl) rfl hl.1 rfl (Nat.le_of_ble_eq_true rfl) dX12_awayOf_117 ⟨Nat.le_of_ble_eq_true rfl, Nat.le_of_ble_eq_true rfl⟩ (fun r12 hr12 => ?_)
      exact B120 ls v2 v5 sk0 r12 (by (try simp only [i_lt, i_le, i_eq, Int32.toInt_toInt64, Int32.reduceToInt, Int64.reduceToInt, true_and, and_true, false_and, and_false, false_or, or_false, true_or, or_true, not_true_eq_false, not_false_eq_true, ne_eq, forall_const, true_implies, false_implies, implies_true] at g_v2 b11 ⊢) <;> omega) (lv_sub hl [1, 2, 3, 0] rfl)
    · have b13 := Int32.toInt_lt (u.2.2.1 h0 27)
      refine lv_aload_n hx hb dX12_awayOf_107 rfl (lv_at hl 1 rfl) ?_
      refine pget (ci := 12) (v := .int (u.2.2.1 h0 28)) (C := RX12) (T := TX12) (N := 34) hx hb hts i_X12 hown hK hP m_h0 (cF12 k_h0) rfl 28 (by decide) (hts (.fieldLink RX12 421 "BellowsRowModel" "movedX" "I") (by decide +kernel)) (fun _ h9 => h9) rfl dX12_awayOf_108 ?_
      refine lv_goto (tgt := 120) hx hb dX12_awayOf_111 (by decide) ?_
      exact B120 ls v2 v5 sk0 (u.2.2.1 h0 28) (by (try simp only [i_lt, i_le, i_eq, Int32.toInt_toInt64, Int32.reduceToInt, Int64.reduceToInt, true_and, and_true, false_and, and_false, false_or, or_false, true_or, or_true, not_true_eq_false, not_false_eq_true, ne_eq, forall_const, true_implies, false_implies, implies_true] at g_v2 c10 b13 ⊢) <;> omega) (lv_sub hl [1, 2, 3, 0] rfl)
  have B60 : ∀ (ls : Array Slot) (v2 : Int32) (v4 : Int32) (sk0 : Int32) (sk1 : Int32), 0 ≤ v2.toInt ∧ v2.toInt ≤ 11 → lv_has ls 9 [(0, .ref h0), (2, .int v2), (4, .int v4)] → W p l e (headSpec wsX12_awayOf ({ frames := 1, cells := 0, slots := 0, locals := 22 })).room s m ([.ref h0, .int p1, .int p2, .int p3] : List Value).toArray below meth c s.heap [] 0 0 (MQ below (vp_Si (fun r => True)) ([.ref h0, .int p1, .int p2, .int p3] : List Value).toArray s 0 0 (fun _ => False)) (F0 m 60 ls [.int sk0, .int sk1]) := by
    intro ls v2 v4 sk0 sk1 g_v2 hl
    refine lv_iadd hx hb dX12_awayOf_60 ?_
    refine lv_topi (fun x14 ex14 => ?_)
    refine lv_istore (lv' := [(5, .int x14), (0, .ref h0), (2, .int v2), (4, .int v4)]) hx hb dX12_awayOf_61 hl (by decide) rfl (fun ls hl => ?_)
    refine lv_aload_n hx hb dX12_awayOf_63 rfl (lv_at hl 1 rfl) ?_
    refine pget (ci := 12) (v := va_rf (u.2.2.2.2 h0 1)) (C := RX12) (T := TX12) (N := 34) hx hb hts i_X12 hown hK hP m_h0 (cF12 k_h0) rfl 1 (by decide) (hts (.fieldLink RX12 13 "BellowsRowModel" "world" "[I") (by decide +kernel)) (fun _ h9 => h9) rfl dX12_awayOf_64 ?_
    refine W.eq (g2 := F0 m 67 ls [.ref a1]) (by rw [q0_1]; rfl) ?_
    refine lv_bipush (v := 7) hx hb dX12_awayOf_67 (by decide) ?_
    refine palI hx hb hK hP m_a1 (cF50 k_a1) 1 rfl (vp_in_iff.mpr (by decide)) dX12_awayOf_69 ?_
    refine lv_topi (fun x15 ex15 => ?_)
    have tx15 : x15.toInt = (u.2.2.1 a1 7).toInt := congrArg Int32.toInt ex15
    refine lv_iconst (v := 2) hx hb dX12_awayOf_70 (by decide) ?_
    refine lv_icmp_ne (tgt := 79) hx hb dX12_awayOf_71 (by decide) (fun c16 => ?_) (fun c16 => ?_)
    · refine lv_aload_n hx hb dX12_awayOf_79 rfl (lv_at hl 1 rfl) ?_
      refine pget (ci := 12) (v := va_rf (u.2.2.2.2 h0 1)) (C := RX12) (T := TX12) (N := 34) hx hb hts i_X12 hown hK hP m_h0 (cF12 k_h0) rfl 1 (by decide) (hts (.fieldLink RX12 13 "BellowsRowModel" "world" "[I") (by decide +kernel)) (fun _ h9 => h9) rfl dX12_awayOf_80 ?_
      refine W.eq (g2 := F0 m 83 ls [.ref a1]) (by rw [q0_1]; rfl) ?_
      refine lv_bipush (v := 7) hx hb dX12_awayOf_83 (by decide) ?_
      refine palI hx hb hK hP m_a1 (cF50 k_a1) 1 rfl (vp_in_iff.mpr (by decide)) dX12_awayOf_85 ?_
      refine lv_topi (fun x17 ex17 => ?_)
      have tx17 : x17.toInt = (u.2.2.1 a1 7).toInt := congrArg Int32.toInt ex17
      refine lv_iconst (v := 3) hx hb dX12_awayOf_86 (by decide) ?_
      refine lv_icmp_ne (tgt := 96) hx hb dX12_awayOf_87 (by decide) (fun c18 => ?_) (fun c18 => ?_)
      · refine lv_iconst (v := 0) hx hb dX12_awayOf_96 (by decide) ?_
        exact B97 ls v2 x14 0 (by (try simp only [i_lt, i_le, i_eq, Int32.toInt_toInt64, Int32.reduceToInt, Int64.reduceToInt, true_and, and_true, false_and, and_false, false_or, or_false, true_or, or_true, not_true_eq_false, not_false_eq_true, ne_eq, forall_const, true_implies, false_implies, implies_true] at g_v2 tx15 tx17 ⊢) <;> omega) (lv_sub hl [1, 2, 0] rfl)
      · refine lv_iload hx hb dX12_awayOf_90 (lv_at hl 3 rfl) ?_
        refine lv_ineg hx hb dX12_awayOf_92 ?_
        refine lv_topi (fun x19 ex19 => ?_)
        refine lv_goto (tgt := 97) hx hb dX12_awayOf_93 (by decide) ?_
        exact B97 ls v2 x14 x19 (by (try simp only [i_lt, i_le, i_eq, Int32.toInt_toInt64, Int32.reduceToInt, Int64.reduceToInt, true_and, and_true, false_and, and_false, false_or, or_false, true_or, or_true, not_true_eq_false, not_false_eq_true, ne_eq, forall_const, true_implies, false_implies, implies_true] at g_v2 tx15 tx17 c18 ⊢) <;> omega) (lv_sub hl [1, 2, 0] rfl)
    · refine lv_iload hx hb dX12_awayOf_74 (lv_at hl 3 rfl) ?_
      refine lv_goto (tgt := 97) hx hb dX12_awayOf_76 (by decide) ?_
      exact B97 ls v2 x14 v4 (by (try simp only [i_lt, i_le, i_eq, Int32.toInt_toInt64, Int32.reduceToInt, Int64.reduceToInt, true_and, and_true, false_and, and_false, false_or, or_false, true_or, or_true, not_true_eq_false, not_false_eq_true, ne_eq, forall_const, true_implies, false_implies, implies_true] at g_v2 tx15 c16 ⊢) <;> omega) (lv_sub hl [1, 2, 0] rfl)
  have hl := lv_entry ([.ref h0, .int p1, .int p2, .int p3]) (n := 9) (Nat.le_of_ble_eq_true rfl)
  rw [lg_entry_eq]
  generalize (lg_sl ([.ref h0, .int p1, .int p2, .int p3]) ++ List.replicate (9 - (lg_sl ([.ref h0, .int p1, .int p2, .int p3])).length) Slot.unset).toArray = ls at hl ⊢
  have hl : lv_has ls 9 [(0, .ref h0), (1, .int p1), (2, .int p2), (3, .int p3)] := hl
  refine lv_iload_n hx hb dX12_awayOf_0 rfl (lv_at hl 3 rfl) ?_
  refine lv_aload_n hx hb dX12_awayOf_1 rfl (lv_at hl 0 rfl) ?_
  refine pget (ci := 12) (v := va_rf (u.2.2.2.2 h0 1)) (C := RX12) (T := TX12) (N := 34) hx hb hts i_X12 hown hK hP m_h0 (cF12 k_h0) rfl 1 (by decide) (hts (.fieldLink RX12 13 "BellowsRowModel" "world" "[I") (by decide +kernel)) (fun _ h9 => h9) rfl dX12_awayOf_2 ?_
  refine W.eq (g2 := F0 m 5 ls [.ref a1, .int p3]) (by rw [q0_1]; rfl) ?_
  refine lv_bipush (v := 8) hx hb dX12_awayOf_5 (by decide) ?_
  refine palI hx hb hK hP m_a1 (cF50 k_a1) 1 rfl (vp_in_iff.mpr (by decide)) dX12_awayOf_7 ?_
  refine lv_topi (fun x20 ex20 => ?_)
  have tx20 : x20.toInt = (u.2.2.1 a1 8).toInt := congrArg Int32.toInt ex20
  refine lv_imul hx hb dX12_awayOf_8 ?_
  refine lv_topi (fun x21 ex21 => ?_)
  refine lv_istore (lv' := [(4, .int x21), (0, .ref h0), (1, .int p1), (2, .int p2), (3, .int p3)]) hx hb dX12_awayOf_9 hl (by decide) rfl (fun ls hl => ?_)
  refine lv_bipush (v := 50) hx hb dX12_awayOf_11 (by decide) ?_
  refine lv_aload_n hx hb dX12_awayOf_13 rfl (lv_at hl 1 rfl) ?_
  refine lv_iload_n hx hb dX12_awayOf_14 rfl (lv_at hl 2 rfl) ?_
  refine lv_iconst (v := 0) hx hb dX12_awayOf_15 (by decide) ?_
  refine rvi (C := RX12) (As := [.int p1, .int 0]) (rest := [.int 50]) ⟨hx, hb, hml, hown, hts⟩ (t_X12_ofPipe l D k u hu h0 m_h0 k_h0 p1 0 (by (try simp only [i_lt, i_le, i_eq, Int32.toInt_toInt64, Int32.reduceToInt, Int64.reduceToInt, true_and, and_true, false_and, and_false, false_or, or_false, true_or, or_true, not_true_eq_false, not_false_eq_true, ne_eq, forall_const, true_implies, false_implies, implies_true] at g_p1 g_p2 tx20 ⊢) <;> omega) (by decide)) (cwV 2 hts gX12_awayOf_X12_ofPipe rfl rfl rfl (by decide +kernel) ⟨Nat.le_of_ble_eq_true rfl, Nat.le_of_ble_eq_true rfl⟩) hP hK (precv hK hP m_h0 (cF12 k_h0) rfl) rfl hl.1 rfl (Nat.le_of_ble_eq_true rfl) dX12_awayOf_16 ⟨Nat.le_of_ble_eq_true rfl, Nat.le_of_ble_eq_true rfl⟩ (fun r22 hr22 => ?_)
  replace hr22 : 0 ≤ r22.toInt ∧ r22.toInt ≤ 7 := by have h := hr22.1; clear hr22; (simp only [i_lt, i_le, i_eq, Int32.toInt_toInt64, Int32.reduceToInt, Int64.reduceToInt, true_and, and_true, false_and, and_false, false_or, or_false, true_or, or_true, not_true_eq_false, not_false_eq_true, ne_eq, forall_const, true_implies, false_implies, implies_true] at h) <;> omega
  refine lv_aload_n hx hb dX12_awayOf_19 rfl (lv_at hl 1 rfl) ?_
  refine lv_iload_n hx hb dX12_awayOf_20 rfl (lv_at hl 2 rfl) ?_
  refine lv_iconst (v := 1) hx hb dX12_awayOf_21 (by decide) ?_
  refine rvi (C := RX12) (As := [.int p1, .int 1]) (rest := [.int r22, .int 50]) ⟨hx, hb, hml, hown, hts⟩ (t_X12_ofPipe l D k u hu h0 m_h0 k_h0 p1 1 (by (try simp only [i_lt, i_le, i_eq, Int32.toInt_toInt64, Int32.reduceToInt, Int64.reduceToInt, true_and, and_true, false_and, and_false, false_or, or_false, true_or, or_true, not_true_eq_false, not_false_eq_true, ne_eq, forall_const, true_implies, false_implies, implies_true] at g_p1 g_p2 tx20 hr22 ⊢) <;> omega) (by decide)) (cwV 2 hts gX12_awayOf_X12_ofPipe rfl rfl rfl (by decide +kernel) ⟨Nat.le_of_ble_eq_true rfl, Nat.le_of_ble_eq_true rfl⟩) hP hK (precv hK hP m_h0 (cF12 k_h0) rfl) rfl hl.1 rfl (Nat.le_of_ble_eq_true rfl) dX12_awayOf_22 ⟨Nat.le_of_ble_eq_true rfl, Nat.le_of_ble_eq_true rfl⟩ (fun r23 hr23 => ?_)
  replace hr23 : 0 ≤ r23.toInt ∧ r23.toInt ≤ 7 := by have h := hr23.1; clear hr23; (simp only [i_lt, i_le, i_eq, Int32.toInt_toInt64, Int32.reduceToInt, Int64.reduceToInt, true_and, and_true, false_and, and_false, false_or, or_false, true_or, or_true, not_true_eq_false, not_false_eq_true, ne_eq, forall_const, true_implies, false_implies, implies_true] at h) <;> omega
  refine lv_iadd hx hb dX12_awayOf_25 ?_
  refine lv_topi (fun x24 ex24 => ?_)
  have tx24 : x24.toInt = r22.toInt + r23.toInt := by rw [ex24]; exact i_add (by (try simp only [i_lt, i_le, i_eq, Int32.toInt_toInt64, Int32.reduceToInt, Int64.reduceToInt, true_and, and_true, false_and, and_false, false_or, or_false, true_or, or_true, not_true_eq_false, not_false_eq_true, ne_eq, forall_const, true_implies, false_implies, implies_true] at g_p1 g_p2 tx20 hr22 hr23 ⊢) <;> omega) (by (try simp only [i_lt, i_le, i_eq, Int32.toInt_toInt64, Int32.reduceToInt, Int64.reduceToInt, true_and, and_true, false_and, and_false, false_or, or_false, true_or, or_true, not_true_eq_false, not_false_eq_true, ne_eq, forall_const, true_implies, false_implies, implies_true] at g_p1 g_p2 tx20 hr22 hr23 ⊢) <;> omega)
  refine lv_imul hx hb dX12_awayOf_26 ?_
  refine lv_topi (fun x25 ex25 => ?_)
  have tx25 : x25.toInt = 50 * x24.toInt := by rw [ex25]; exact i_mulc (c := 50) (by decide) ((show 0 ≤ x24.toInt ∧ x24.toInt ≤ 14 from by (try simp only [i_lt, i_le, i_eq, Int32.toInt_toInt64, Int32.reduceToInt, Int64.reduceToInt, true_and, and_true, false_and, and_false, false_or, or_false, true_or, or_true, not_true_eq_false, not_false_eq_true, ne_eq, forall_const, true_implies, false_implies, implies_true] at g_p1 g_p2 tx20 hr22 hr23 tx24 ⊢) <;> omega)) (by decide)
  refine lv_aload_n hx hb dX12_awayOf_27 rfl (lv_at hl 1 rfl) ?_
  refine pget (ci := 12) (v := va_rf (u.2.2.2.2 h0 1)) (C := RX12) (T := TX12) (N := 34) hx hb hts i_X12 hown hK hP m_h0 (cF12 k_h0) rfl 1 (by decide) (hts (.fieldLink RX12 13 "BellowsRowModel" "world" "[I") (by decide +kernel)) (fun _ h9 => h9) rfl dX12_awayOf_28 ?_
  refine W.eq (g2 := F0 m 31 ls [.ref a1, .int x25]) (by rw [q0_1]; rfl) ?_
  refine lv_bipush (v := 7) hx hb dX12_awayOf_31 (by decide) ?_
  refine palI hx hb hK hP m_a1 (cF50 k_a1) 1 rfl (vp_in_iff.mpr (by decide)) dX12_awayOf_33 ?_
  refine lv_topi (fun x26 ex26 => ?_)
  have tx26 : x26.toInt = (u.2.2.1 a1 7).toInt := congrArg Int32.toInt ex26
  refine lv_if_ne (tgt := 43) hx hb dX12_awayOf_34 (by decide) (fun c27 => ?_) (fun c27 => ?_)
  · refine lv_aload_n hx hb dX12_awayOf_43 rfl (lv_at hl 1 rfl) ?_
    refine pget (ci := 12) (v := va_rf (u.2.2.2.2 h0 1)) (C := RX12) (T := TX12) (N := 34) hx hb hts i_X12 hown hK hP m_h0 (cF12 k_h0) rfl 1 (by decide) (hts (.fieldLink RX12 13 "BellowsRowModel" "world" "[I") (by decide +kernel)) (fun _ h9 => h9) rfl dX12_awayOf_44 ?_
    refine W.eq (g2 := F0 m 47 ls [.ref a1, .int x25]) (by rw [q0_1]; rfl) ?_
    refine lv_bipush (v := 7) hx hb dX12_awayOf_47 (by decide) ?_
    refine palI hx hb hK hP m_a1 (cF50 k_a1) 1 rfl (vp_in_iff.mpr (by decide)) dX12_awayOf_49 ?_
    refine lv_topi (fun x28 ex28 => ?_)
    have tx28 : x28.toInt = (u.2.2.1 a1 7).toInt := congrArg Int32.toInt ex28
    refine lv_iconst (v := 1) hx hb dX12_awayOf_50 (by decide) ?_
    refine lv_icmp_ne (tgt := 59) hx hb dX12_awayOf_51 (by decide) (fun c29 => ?_) (fun c29 => ?_)
    · refine lv_iconst (v := 0) hx hb dX12_awayOf_59 (by decide) ?_
      exact B60 ls p2 x21 0 x25 (by (try simp only [i_lt, i_le, i_eq, Int32.toInt_toInt64, Int32.reduceToInt, Int64.reduceToInt, true_and, and_true, false_and, and_false, false_or, or_false, true_or, or_true, not_true_eq_false, not_false_eq_true, ne_eq, forall_const, true_implies, false_implies, implies_true] at g_p1 g_p2 tx20 hr22 hr23 tx24 tx25 tx26 tx28 ⊢) <;> omega) (lv_sub hl [1, 3, 0] rfl)
    · refine lv_iload hx hb dX12_awayOf_54 (lv_at hl 0 rfl) ?_
      refine lv_goto (tgt := 60) hx hb dX12_awayOf_56 (by decide) ?_
      exact B60 ls p2 x21 x21 x25 (by (try simp only [i_lt, i_le, i_eq, Int32.toInt_toInt64, Int32.reduceToInt, Int64.reduceToInt, true_and, and_true, false_and, and_false, false_or, or_false, true_or, or_true, not_true_eq_false, not_false_eq_true, ne_eq, forall_const, true_implies, false_implies, implies_true] at g_p1 g_p2 tx20 hr22 hr23 tx24 tx25 tx26 tx28 c29 ⊢) <;> omega) (lv_sub hl [1, 3, 0] rfl)
  · refine lv_iload hx hb dX12_awayOf_37 (lv_at hl 0 rfl) ?_
    refine lv_ineg hx hb dX12_awayOf_39 ?_
    refine lv_topi (fun x30 ex30 => ?_)
    refine lv_goto (tgt := 60) hx hb dX12_awayOf_40 (by decide) ?_
    exact B60 ls p2 x21 x30 x25 (by (try simp only [i_lt, i_le, i_eq, Int32.toInt_toInt64, Int32.reduceToInt, Int64.reduceToInt, true_and, and_true, false_and, and_false, false_or, or_false, true_or, or_true, not_true_eq_false, not_false_eq_true, ne_eq, forall_const, true_implies, false_implies, implies_true] at g_p1 g_p2 tx20 hr22 hr23 tx24 tx25 tx26 c27 ⊢) <;> omega) (lv_sub hl [1, 3, 0] rfl)
set_option maxHeartbeats 4000000 in
set_option maxRecDepth 100000 in
theorem t_X12_back (l : Launch) (D : va_G) (k : Nat → ClassId) (u0 : PSt) (hu : WT u0) (h0 : Nat) (m_h0 : h0 ∈ u0.1) (k_h0 : u0.2.1 h0 = 12) (p1 : Int32) (sz : Nat) : Met l yX12_back wsX12_back ({ frames := 1, cells := 0, slots := 0, locals := 25 }) (PreM D k sz (PW k u0) [.ref h0, .int p1]) (va_Qi (fun r v => WT v ∧ PX u0 v ∧ (True)) (WB D (va_A (PW k u0) sz) (PW k)) (va_A (PW k u0) sz)) 0 0 (va_A (PW k u0) sz) := by
  refine Met.ofW (cc := cX12_back) (maxL := 3) (ret := (some .int)) (by decide) rfl ?_
  intro p e s m args below meth c s₁ B hml hv
  obtain ⟨rfl, hsz, hP, hK, hD0, hN⟩ := hv
  have hx := B.exec
  have hb := B.bytes
  have hr := B.returns
  have hts := atoms_spec (ws := wsX12_back) B.pre
  have hown : s.vm.findClass RX12 = some m.cls := findClass_of_methodNamed B.named
  have hlocks := B.notSynchronized
  have i_X12 : ∀ w ∈ wsX120, w ∈ wsX12_back := by decide +kernel
  obtain ⟨a1, q0_1, m0_a1, k0_a1⟩ := (hu h0 m_h0).1 1 50 (by rw [k_h0]; rfl)
  obtain ⟨a2, q0_2, m0_a2, k0_a2⟩ := (hu h0 m_h0).1 2 52 (by rw [k_h0]; rfl)
  obtain ⟨a3, q0_3, m0_a3, k0_a3⟩ := (hu h0 m_h0).1 3 53 (by rw [k_h0]; rfl)
  have m0_h0 := m_h0
  have k0_h0 := k_h0
  have m_a1 := m0_a1
  have m_a2 := m0_a2
  have m_a3 := m0_a3
  have k_a1 := k0_a1
  have k_a2 := k0_a2
  have k_a3 := k0_a3
  subst hsz
  have hD := hD0.self (sz := s.heap.size)
  generalize hAe : va_A (PW k u0) s.heap.size = A at hD ⊢
  have hA : ∀ q : Nat, s.heap.size ≤ q → A q := fun q h => by rw [← hAe]; exact Or.inr h
  have hS : va_S A s.heap s.heap [] := va_S.rf
  have hp : PX u0 u0 := PX.rf
  have B29 : ∀ (n29 : Nat) (u : PSt) (H : Heap) (locs : List Loc) (ls : Array Slot) (v1 : Int32) (v2 : Int32), WT u → PX u0 u → va_P D vwCl (PW k u) H → va_D A (PW k u) → va_S A s.heap H locs → (2147483648 - v2.toInt).toNat ≤ n29 → 0 ≤ v1.toInt ∧ v1.toInt ≤ 2 → 0 ≤ v2.toInt ∧ v2.toInt ≤ 2482 → lv_has ls 3 [(0, .ref h0), (1, .int v1), (2, .int v2)] → W p l e (headSpec wsX12_back ({ frames := 1, cells := 0, slots := 0, locals := 25 })).room s m ([.ref h0, .int p1] : List Value).toArray below meth c H locs 0 0 (MQ below (va_Qi (fun r v => WT v ∧ PX u0 v ∧ (True)) (WB D A (PW k)) A) ([.ref h0, .int p1] : List Value).toArray s 0 0 A) (F0 m 29 ls []) := by
    intro n29
    induction n29 with
    | zero =>
      intro u H locs ls v1 v2 hu hp hP hD hS hn29 g_v1 g_v2 hl
      exact absurd hn29 (by have := Int32.toInt_lt v2; have := Int32.le_toInt v2; omega)
    | succ n29 ih29 =>
      intro u H locs ls v1 v2 hu hp hP hD hS hn29 g_v1 g_v2 hl
      refine lv_iload_n hx hb dX12_back_29 rfl (lv_at hl 2 rfl) ?_
      refine lv_sipush (v := 2482) hx hb dX12_back_30 (by decide) ?_
      refine lv_icmp_ge (tgt := 60) hx hb dX12_back_33 (by decide) (fun c1 => ?_) (fun c1 => ?_)
      · refine lv_iconst (v := 0) hx hb dX12_back_60 (by decide) ?_
        exact W.iret (v := 0) hx hb hr (fun t ht hW => ⟨⟨0, u, rfl, ⟨hu, hp, trivial⟩, by rw [ht]; exact hP, hD⟩, hS.F ht⟩) hS.2.2 dX12_back_61
      · refine lv_aload_n hx hb dX12_back_36 rfl (lv_at hl 0 rfl) ?_
        have k_h0 : u.2.1 h0 = 12 := (hp h0 m0_h0).2.1.trans k0_h0
        have m_h0 : h0 ∈ u.1 := (hp h0 m0_h0).1
        have k_a1 : u.2.1 a1 = 50 := (hp a1 m0_a1).2.1.trans k0_a1
        have m_a1 : a1 ∈ u.1 := (hp a1 m0_a1).1
        refine pget (ci := 12) (v := va_rf (u.2.2.2.2 h0 1)) (C := RX12) (T := TX12) (N := 34) hx hb hts i_X12 hown hK hP m_h0 (cF12 k_h0) rfl 1 (by decide) (hts (.fieldLink RX12 13 "BellowsRowModel" "world" "[I") (by decide +kernel)) (fun _ h9 => h9) rfl dX12_back_37 ?_
        refine W.eq (g2 := F0 m 40 ls [.ref a1]) (by rw [(((hp h0 m0_h0).2.2.2.2.2.1 k0_h0 1).trans q0_1)]; rfl) ?_
        refine lv_iload_n hx hb dX12_back_40 rfl (lv_at hl 2 rfl) ?_
        refine lv_aload_n hx hb dX12_back_41 rfl (lv_at hl 0 rfl) ?_
        have k_a2 : u.2.1 a2 = 52 := (hp a2 m0_a2).2.1.trans k0_a2
        have m_a2 : a2 ∈ u.1 := (hp a2 m0_a2).1
        refine pget (ci := 12) (v := va_rf (u.2.2.2.2 h0 2)) (C := RX12) (T := TX12) (N := 34) hx hb hts i_X12 hown hK hP m_h0 (cF12 k_h0) rfl 2 (by decide) (hts (.fieldLink RX12 17 "BellowsRowModel" "images" "[I") (by decide +kernel)) (fun _ h9 => h9) rfl dX12_back_42 ?_
        refine W.eq (g2 := F0 m 45 ls [.ref a2, .int v2, .ref a1]) (by rw [(((hp h0 m0_h0).2.2.2.2.2.1 k0_h0 2).trans q0_2)]; rfl) ?_
        refine lv_sipush (v := 2482) hx hb dX12_back_45 (by decide) ?_
        refine lv_iload_n hx hb dX12_back_48 rfl (lv_at hl 1 rfl) ?_
        refine lv_imul hx hb dX12_back_49 ?_
        refine lv_topi (fun x2 ex2 => ?_)
        have tx2 : x2.toInt = 2482 * v1.toInt := by rw [ex2]; exact i_mulc (c := 2482) (by decide) ((show 0 ≤ v1.toInt ∧ v1.toInt ≤ 2 from by (try simp only [i_lt, i_le, i_eq, Int32.toInt_toInt64, Int32.reduceToInt, Int64.reduceToInt, true_and, and_true, false_and, and_false, false_or, or_false, true_or, or_true, not_true_eq_false, not_false_eq_true, ne_eq, forall_const, true_implies, false_implies, implies_true] at g_v1 g_v2 hn29 c1 ⊢) <;> omega)) (by decide)
        refine lv_iload_n hx hb dX12_back_50 rfl (lv_at hl 2 rfl) ?_
        refine lv_iadd hx hb dX12_back_51 ?_
        refine lv_topi (fun x3 ex3 => ?_)
        have tx3 : x3.toInt = x2.toInt + v2.toInt := by rw [ex3]; exact i_add (by (try simp only [i_lt, i_le, i_eq, Int32.toInt_toInt64, Int32.reduceToInt, Int64.reduceToInt, true_and, and_true, false_and, and_false, false_or, or_false, true_or, or_true, not_true_eq_false, not_false_eq_true, ne_eq, forall_const, true_implies, false_implies, implies_true] at g_v1 g_v2 hn29 c1 tx2 ⊢) <;> omega) (by (try simp only [i_lt, i_le, i_eq, Int32.toInt_toInt64, Int32.reduceToInt, Int64.reduceToInt, true_and, and_true, false_and, and_false, false_or, or_false, true_or, or_true, not_true_eq_false, not_false_eq_true, ne_eq, forall_const, true_implies, false_implies, implies_true] at g_v1 g_v2 hn29 c1 tx2 ⊢) <;> omega)
        refine palI hx hb hK hP m_a2 (cF52 k_a2) 1 rfl (vp_in_iff.mpr (by (try simp only [i_lt, i_le, i_eq, Int32.toInt_toInt64, Int32.reduceToInt, Int64.reduceToInt, true_and, and_true, false_and, and_false, false_or, or_false, true_or, or_true, not_true_eq_false, not_false_eq_true, ne_eq, forall_const, true_implies, false_implies, implies_true] at g_v1 g_v2 hn29 c1 tx2 tx3 ⊢) <;> omega)) dX12_back_52 ?_
        refine lv_topi (fun x4 ex4 => ?_)
        have tx4 : x4.toInt = (u.2.2.1 a2 (x3.toNatClampNeg)).toInt := congrArg Int32.toInt ex4
        have g5 : okW ((x3.toNatClampNeg) % 2482) x4 := by have g := (hu a2 m_a2).2.2.2 (x3.toNatClampNeg); rw [k_a2] at g; rw [show x4 = _ from ex4]; exact g
        refine pasI (u' := pSI u a1 (v2.toNatClampNeg) x4) hx hb hK hP hD hS m_a1 (cF50 k_a1) 1 rfl (vp_in_iff.mpr (by (try simp only [i_lt, i_le, i_eq, Int32.toInt_toInt64, Int32.reduceToInt, Int64.reduceToInt, true_and, and_true, false_and, and_false, false_or, or_false, true_or, or_true, not_true_eq_false, not_false_eq_true, ne_eq, forall_const, true_implies, false_implies, implies_true] at g_v1 g_v2 hn29 c1 tx2 tx3 tx4 ⊢) <;> omega)) rfl (sF50 k_a1 _ _) dX12_back_53 (fun H locs hP hD hS => ?_)
        have hu := WT.setI (a := a1) (s := (v2.toNatClampNeg)) (v := x4) hu (by rw [k_a1]; exact (show okW ((v2.toNatClampNeg)) x4 from by have y : (v2.toNatClampNeg) = (x3.toNatClampNeg) % 2482 := (by have z1 := cl_int (x := v2) (by (try simp only [i_lt, i_le, i_eq, Int32.toInt_toInt64, Int32.reduceToInt, Int64.reduceToInt, true_and, and_true, false_and, and_false, false_or, or_false, true_or, or_true, not_true_eq_false, not_false_eq_true, ne_eq, forall_const, true_implies, false_implies, implies_true] at g_v1 g_v2 hn29 c1 tx2 tx3 tx4 ⊢) <;> omega); have z2 := cl_int (x := x3) (by (try simp only [i_lt, i_le, i_eq, Int32.toInt_toInt64, Int32.reduceToInt, Int64.reduceToInt, true_and, and_true, false_and, and_false, false_or, or_false, true_or, or_true, not_true_eq_false, not_false_eq_true, ne_eq, forall_const, true_implies, false_implies, implies_true] at g_v1 g_v2 hn29 c1 tx2 tx3 tx4 ⊢) <;> omega); (try simp only [i_lt, i_le, i_eq, Int32.toInt_toInt64, Int32.reduceToInt, Int64.reduceToInt, true_and, and_true, false_and, and_false, false_or, or_false, true_or, or_true, not_true_eq_false, not_false_eq_true, ne_eq, forall_const, true_implies, false_implies, implies_true] at g_v1 g_v2 hn29 c1 tx2 tx3 tx4 z1 z2 ⊢) <;> omega); rw [y]; exact g5))
        have hp := PX.setI (a := a1) (s := (v2.toNatClampNeg)) (v := x4) hp (by rw [k_a1]; decide)
        obtain ⟨u6, hu6⟩ : ∃ z, z = pSI u a1 (v2.toNatClampNeg) x4 := ⟨_, rfl⟩
        rw [← hu6] at hP hD hu hp
        obtain ⟨x7, ex7⟩ : ∃ y : Int32, y = v2 + 1 := ⟨_, rfl⟩
        have tx7 : x7.toInt = v2.toInt + 1 := by rw [ex7]; exact i_add (b := 1) (by (try simp only [i_lt, i_le, i_eq, Int32.toInt_toInt64, Int32.reduceToInt, Int64.reduceToInt, true_and, and_true, false_and, and_false, false_or, or_false, true_or, or_true, not_true_eq_false, not_false_eq_true, ne_eq, forall_const, true_implies, false_implies, implies_true] at g_v1 g_v2 hn29 c1 tx2 tx3 tx4 ⊢) <;> omega) (by (try simp only [i_lt, i_le, i_eq, Int32.toInt_toInt64, Int32.reduceToInt, Int64.reduceToInt, true_and, and_true, false_and, and_false, false_or, or_false, true_or, or_true, not_true_eq_false, not_false_eq_true, ne_eq, forall_const, true_implies, false_implies, implies_true] at g_v1 g_v2 hn29 c1 tx2 tx3 tx4 ⊢) <;> omega)
        refine lv_iinc (v := x7) (lv' := [(2, .int x7), (0, .ref h0), (1, .int v1)]) hx hb dX12_back_54 hl (k := 2) rfl (by rw [ex7]; rfl) (by decide) rfl (fun ls hl => ?_)
        refine lv_goto (tgt := 29) hx hb dX12_back_57 (by decide) ?_
        exact ih29 _ _ _ ls v1 x7 hu hp hP hD hS (by (try simp only [i_lt, i_le, i_eq, Int32.toInt_toInt64, Int32.reduceToInt, Int64.reduceToInt, true_and, and_true, false_and, and_false, false_or, or_false, true_or, or_true, not_true_eq_false, not_false_eq_true, ne_eq, forall_const, true_implies, false_implies, implies_true] at g_v1 g_v2 hn29 c1 tx2 tx3 tx4 tx7 ⊢) <;> omega) (by (try simp only [i_lt, i_le, i_eq, Int32.toInt_toInt64, Int32.reduceToInt, Int64.reduceToInt, true_and, and_true, false_and, and_false, false_or, or_false, true_or, or_true, not_true_eq_false, not_false_eq_true, ne_eq, forall_const, true_implies, false_implies, implies_true] at g_v1 g_v2 hn29 c1 tx2 tx3 tx4 tx7 ⊢) <;> omega) (by (try simp only [i_lt, i_le, i_eq, Int32.toInt_toInt64, Int32.reduceToInt, Int64.reduceToInt, true_and, and_true, false_and, and_false, false_or, or_false, true_or, or_true, not_true_eq_false, not_false_eq_true, ne_eq, forall_const, true_implies, false_implies, implies_true] at g_v1 g_v2 hn29 c1 tx2 tx3 tx4 tx7 ⊢) <;> omega) (lv_sub hl [1, 2, 0] rfl)
  have hl := lv_entry ([.ref h0, .int p1]) (n := 3) (Nat.le_of_ble_eq_true rfl)
  rw [lg_entry_eq]
  generalize (lg_sl ([.ref h0, .int p1]) ++ List.replicate (3 - (lg_sl ([.ref h0, .int p1])).length) Slot.unset).toArray = ls at hl ⊢
  have hl : lv_has ls 3 [(0, .ref h0), (1, .int p1)] := hl
  refine lv_iload_n hx hb dX12_back_0 rfl (lv_at hl 1 rfl) ?_
  refine lv_i2l hx hb dX12_back_1 rfl ?_
  have b8 := Int32.toInt_lt p1
  have ab8 := Int32.le_toInt p1
  refine lv_topl (fun x9 ex9 => ?_)
  have tx9 : x9.toInt = p1.toInt := by rw [ex9]; exact Int32.toInt_toInt64 _
  refine lv_lconst (v := 0) hx hb dX12_back_2 (by decide) ?_
  refine lv_ldc2 (own := RX12) (v := 2) hx hb hown (hts (.constantLong RX12 74 (2)) (by decide +kernel)) dX12_back_3 ?_
  refine psi (As := [.long x9, .long 0, .long 2]) (rest := []) ⟨hx, hb, hml, hown, hts⟩ (t_X12_in l D k x9 0 2) (va_cwS 3 hts gX12_back_X12_in rfl rfl rfl (by decide +kernel) ⟨Nat.le_of_ble_eq_true rfl, Nat.le_of_ble_eq_true rfl⟩) hK rfl hl.1 rfl (Nat.le_of_ble_eq_true rfl) dX12_back_6 ⟨Nat.le_of_ble_eq_true rfl, Nat.le_of_ble_eq_true rfl⟩ (fun r10 hr10 => ?_)
  refine lv_if_ne (tgt := 15) hx hb dX12_back_9 (by decide) (fun c11 => ?_) (fun c11 => ?_)
  · have eb12 : r10.toInt = 1 := by rcases hr10 with ⟨q, -⟩ | ⟨q, -⟩; exact absurd (i_eq.mpr q) c11; exact q
    have fb12 : (0 : Int64).toInt ≤ x9.toInt ∧ x9.toInt ≤ (2 : Int64).toInt := by rcases hr10 with ⟨q, r⟩ | ⟨q, r⟩; exact absurd q (by omega); exact r
    clear hr10
    refine lv_aload_n hx hb dX12_back_15 rfl (lv_at hl 0 rfl) ?_
    refine pget (ci := 12) (v := va_rf (u0.2.2.2.2 h0 3)) (C := RX12) (T := TX12) (N := 34) hx hb hts i_X12 hown hK hP m_h0 (cF12 k_h0) rfl 3 (by decide) (hts (.fieldLink RX12 20 "BellowsRowModel" "hasImage" "[Z") (by decide +kernel)) (fun _ h9 => h9) rfl dX12_back_16 ?_
    refine W.eq (g2 := F0 m 19 ls [.ref a3]) (by rw [(((hp h0 m0_h0).2.2.2.2.2.1 k0_h0 3).trans q0_3)]; rfl) ?_
    refine lv_iload_n hx hb dX12_back_19 rfl (lv_at hl 1 rfl) ?_
    refine palZ hx hb hK hP m_a3 (cF53 k_a3) 3 rfl (vp_in_iff.mpr (by (try simp only [i_lt, i_le, i_eq, Int32.toInt_toInt64, Int32.reduceToInt, Int64.reduceToInt, true_and, and_true, false_and, and_false, false_or, or_false, true_or, or_true, not_true_eq_false, not_false_eq_true, ne_eq, forall_const, true_implies, false_implies, implies_true] at b8 ab8 tx9 eb12 fb12 ⊢) <;> omega)) dX12_back_20 ?_
    refine lv_topi (fun x13 ex13 => ?_)
    have tx13 : x13.toInt = (u0.2.2.1 a3 (p1.toNatClampNeg)).toInt := congrArg Int32.toInt ex13
    have g14 : 0 ≤ x13.toInt ∧ x13.toInt ≤ 1 := by have g := (hu a3 m_a3).2.2.2 (p1.toNatClampNeg); rw [k_a3] at g; rw [show x13 = _ from ex13]; exact g
    refine lv_if_ne (tgt := 27) hx hb dX12_back_21 (by decide) (fun c15 => ?_) (fun c15 => ?_)
    · refine lv_iconst (v := 0) hx hb dX12_back_27 (by decide) ?_
      refine lv_istore_n (lv' := [(2, .int 0), (0, .ref h0), (1, .int p1)]) hx hb dX12_back_28 rfl hl (by decide) rfl (fun ls hl => ?_)
      exact B29 _ _ _ _ ls p1 0 hu hp hP hD hS (Nat.le_refl _) (by (try simp only [i_lt, i_le, i_eq, Int32.toInt_toInt64, Int32.reduceToInt, Int64.reduceToInt, true_and, and_true, false_and, and_false, false_or, or_false, true_or, or_true, not_true_eq_false, not_false_eq_true, ne_eq, forall_const, true_implies, false_implies, implies_true] at b8 ab8 tx9 eb12 fb12 tx13 g14 c15 ⊢) <;> omega) (by (try simp only [i_lt, i_le, i_eq, Int32.toInt_toInt64, Int32.reduceToInt, Int64.reduceToInt, true_and, and_true, false_and, and_false, false_or, or_false, true_or, or_true, not_true_eq_false, not_false_eq_true, ne_eq, forall_const, true_implies, false_implies, implies_true] at b8 ab8 tx9 eb12 fb12 tx13 g14 c15 ⊢) <;> omega) (lv_sub hl [1, 2, 0] rfl)
    · refine lv_bipush (v := (-6)) hx hb dX12_back_24 (by decide) ?_
      exact W.iret (v := (-6)) hx hb hr (fun t ht hW => ⟨⟨(-6), u0, rfl, ⟨hu, hp, trivial⟩, by rw [ht]; exact hP, hD⟩, hS.F ht⟩) hS.2.2 dX12_back_26
  · have eb16 : r10.toInt = 0 := by rcases hr10 with ⟨q, -⟩ | ⟨q, -⟩; exact q; (exact absurd (c11) (fun w => by rw [w] at q; exact absurd q (by decide)))
    have fb16 : (x9.toInt < (0 : Int64).toInt ∨ (2 : Int64).toInt < x9.toInt) := by rcases hr10 with ⟨q, r⟩ | ⟨q, r⟩; exact r; exact absurd q (by omega)
    clear hr10
    refine lv_bipush (v := (-2)) hx hb dX12_back_12 (by decide) ?_
    exact W.iret (v := (-2)) hx hb hr (fun t ht hW => ⟨⟨(-2), u0, rfl, ⟨hu, hp, trivial⟩, by rw [ht]; exact hP, hD⟩, hS.F ht⟩) hS.2.2 dX12_back_14
