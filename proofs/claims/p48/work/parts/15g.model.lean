set_option maxHeartbeats 4000000 in
set_option maxRecDepth 100000 in
theorem t_X12_rules (l : Launch) (D : va_G) (k : Nat → ClassId) (u : PSt) (hu : WT u) (h0 : Nat) (m_h0 : h0 ∈ u.1) (k_h0 : u.2.1 h0 = 12) (p1 : Int32) : Met l yX12_rules wsX12_rules ({ frames := 1, cells := 0, slots := 0, locals := 26 }) (PreR D k (PW k u) [.ref h0, .int p1]) (vp_Si (fun r => True)) 0 0 (fun _ => False) := by
  refine Met.ofW (cc := cX12_rules) (maxL := 9) (ret := (some .int)) (by decide) rfl ?_
  intro p e s m args below meth c s₁ B hml hv
  obtain ⟨rfl, hP, hK⟩ := hv
  have hx := B.exec
  have hb := B.bytes
  have hr := B.returns
  have hts := atoms_spec (ws := wsX12_rules) B.pre
  have hown : s.vm.findClass RX12 = some m.cls := findClass_of_methodNamed B.named
  have hlocks := B.notSynchronized
  have B35 : ∀ (n35 : Nat) (ls : Array Slot) (v1 : Int32) (v2 : Int32) (v3 : Int32) (v4 : Int32) (v5 : Int32), (2147483648 - v5.toInt).toNat ≤ n35 → 0 ≤ v2.toInt ∧ v2.toInt ≤ 65535 → 1 ≤ v5.toInt ∧ v5.toInt ≤ 65536 → lv_has ls 9 [(0, .ref h0), (1, .int v1), (2, .int v2), (3, .int v3), (4, .int v4), (5, .int v5)] → W p l e (headSpec wsX12_rules ({ frames := 1, cells := 0, slots := 0, locals := 26 })).room s m ([.ref h0, .int p1] : List Value).toArray below meth c s.heap [] 0 0 (MQ below (vp_Si (fun r => True)) ([.ref h0, .int p1] : List Value).toArray s 0 0 (fun _ => False)) (F0 m 35 ls []) := by
    intro n35
    induction n35 with
    | zero =>
      intro ls v1 v2 v3 v4 v5 hn35 g_v2 g_v5 hl
      exact absurd hn35 (by have := Int32.toInt_lt v5; have := Int32.le_toInt v5; omega)
    | succ n35 ih35 =>
      intro ls v1 v2 v3 v4 v5 hn35 g_v2 g_v5 hl
      refine lv_iload hx hb dX12_rules_35 (lv_at hl 5 rfl) ?_
      refine lv_ldcw (own := RX12) (v := 65536) hx hb hown (hts (.constant RX12 470 (65536)) (by decide +kernel)) dX12_rules_37 ?_
      refine lv_icmp_ge (tgt := 145) hx hb dX12_rules_40 (by decide) (fun c1 => ?_) (fun c1 => ?_)
      · refine lv_iload_n hx hb dX12_rules_145 rfl (lv_at hl 2 rfl) ?_
        exact W.iret (v := v2) hx hb hr (fun t ht hW => ⟨v2, rfl, trivial, ht⟩) (fun q h => by cases h) dX12_rules_146
      · refine lv_iload hx hb dX12_rules_43 (lv_at hl 5 rfl) ?_
        refine psi (As := [.int v5]) (rest := []) ⟨hx, hb, hml, hown, hts⟩ (t_X12_ones l D k v5) (va_cwS 1 hts gX12_rules_X12_ones rfl rfl rfl (by decide +kernel) ⟨Nat.le_of_ble_eq_true rfl, Nat.le_of_ble_eq_true rfl⟩) hK rfl hl.1 rfl (Nat.le_of_ble_eq_true rfl) dX12_rules_45 ⟨Nat.le_of_ble_eq_true rfl, Nat.le_of_ble_eq_true rfl⟩ (fun r2 hr2 => ?_)
        refine lv_iload_n hx hb dX12_rules_48 rfl (lv_at hl 1 rfl) ?_
        refine lv_icmp_le (tgt := 55) hx hb dX12_rules_49 (by decide) (fun c3 => ?_) (fun c3 => ?_)
        · have b4 := Int32.toInt_lt r2
          have b5 := Int32.toInt_lt v1
          refine lv_aload_n hx hb dX12_rules_55 rfl (lv_at hl 0 rfl) ?_
          refine lv_iload hx hb dX12_rules_56 (lv_at hl 5 rfl) ?_
          refine lv_iconst (v := 0) hx hb dX12_rules_58 (by decide) ?_
          refine rvi (C := RX12) (As := [.int v5, .int 0]) (rest := []) ⟨hx, hb, hml, hown, hts⟩ (t_X12_heldBy l D k u hu h0 m_h0 k_h0 v5 0 (by decide)) (cwV 2 hts gX12_rules_X12_heldBy rfl rfl rfl (by decide +kernel) ⟨Nat.le_of_ble_eq_true rfl, Nat.le_of_ble_eq_true rfl⟩) hP hK (precv hK hP m_h0 (cF12 k_h0) rfl) rfl hl.1 rfl (Nat.le_of_ble_eq_true rfl) dX12_rules_59 ⟨Nat.le_of_ble_eq_true rfl, Nat.le_of_ble_eq_true rfl⟩ (fun r6 hr6 => ?_)
          refine lv_istore (lv' := [(6, .int r6), (0, .ref h0), (1, .int v1), (2, .int v2), (3, .int v3), (4, .int v4), (5, .int v5)]) hx hb dX12_rules_62 hl (by decide) rfl (fun ls hl => ?_)
          refine lv_iload hx hb dX12_rules_64 (lv_at hl 0 rfl) ?_
          refine lv_iload_n hx hb dX12_rules_66 rfl (lv_at hl 4 rfl) ?_
          refine lv_icmp_ge (tgt := 73) hx hb dX12_rules_67 (by decide) (fun c7 => ?_) (fun c7 => ?_)
          · have b8 := Int32.toInt_lt r6
            have b9 := Int32.toInt_lt v3
            refine lv_aload_n hx hb dX12_rules_73 rfl (lv_at hl 1 rfl) ?_
            refine lv_iload hx hb dX12_rules_74 (lv_at hl 6 rfl) ?_
            refine lv_iconst (v := 1) hx hb dX12_rules_76 (by decide) ?_
            refine rvi (C := RX12) (As := [.int v5, .int 1]) (rest := []) ⟨hx, hb, hml, hown, hts⟩ (t_X12_heldBy l D k u hu h0 m_h0 k_h0 v5 1 (by decide)) (cwV 2 hts gX12_rules_X12_heldBy rfl rfl rfl (by decide +kernel) ⟨Nat.le_of_ble_eq_true rfl, Nat.le_of_ble_eq_true rfl⟩) hP hK (precv hK hP m_h0 (cF12 k_h0) rfl) rfl hl.1 rfl (Nat.le_of_ble_eq_true rfl) dX12_rules_77 ⟨Nat.le_of_ble_eq_true rfl, Nat.le_of_ble_eq_true rfl⟩ (fun r10 hr10 => ?_)
            refine lv_istore (lv' := [(7, .int r10), (6, .int r6), (0, .ref h0), (1, .int v1), (2, .int v2), (3, .int v3), (4, .int v4), (5, .int v5)]) hx hb dX12_rules_80 hl (by decide) rfl (fun ls hl => ?_)
            refine lv_iload hx hb dX12_rules_82 (lv_at hl 1 rfl) ?_
            refine lv_iload_n hx hb dX12_rules_84 rfl (lv_at hl 5 rfl) ?_
            refine lv_icmp_gt (tgt := 114) hx hb dX12_rules_85 (by decide) (fun c11 => ?_) (fun c11 => ?_)
            · have b12 := Int32.toInt_lt r6
              have b13 := Int32.toInt_lt v3
              refine lv_iconst (v := 1) hx hb dX12_rules_114 (by decide) ?_
              refine lv_goto (tgt := 119) hx hb dX12_rules_115 (by decide) ?_
              refine lv_istore (lv' := [(8, .int 1), (7, .int r10), (6, .int r6), (0, .ref h0), (1, .int v1), (2, .int v2), (3, .int v3), (4, .int v4), (5, .int v5)]) hx hb dX12_rules_119 hl (by decide) rfl (fun ls hl => ?_)
              refine lv_iload hx hb dX12_rules_121 (lv_at hl 0 rfl) ?_
              refine lv_if_ne (tgt := 129) hx hb dX12_rules_123 (by decide) (fun _ => ?_) (fun h => absurd h (by (try simp only [i_lt, i_le, i_eq, Int32.toInt_toInt64, Int32.reduceToInt, Int64.reduceToInt, true_and, and_true, false_and, and_false, false_or, or_false, true_or, or_true, not_true_eq_false, not_false_eq_true, ne_eq, forall_const, true_implies, false_implies, implies_true] at g_v2 g_v5 hn35 c1 c3 b4 b5 c7 b8 b9 c11 b12 b13 ⊢) <;> omega))
              refine lv_iload hx hb dX12_rules_129 (lv_at hl 8 rfl) ?_
              refine lv_istore_n (lv' := [(2, .int v5), (8, .int 1), (7, .int r10), (6, .int r6), (0, .ref h0), (1, .int v1), (3, .int v3), (4, .int v4), (5, .int v5)]) hx hb dX12_rules_131 rfl hl (by decide) rfl (fun ls hl => ?_)
              refine lv_iload hx hb dX12_rules_132 (lv_at hl 3 rfl) ?_
              refine lv_istore_n (lv' := [(3, .int r6), (2, .int v5), (8, .int 1), (7, .int r10), (6, .int r6), (0, .ref h0), (1, .int v1), (4, .int v4), (5, .int v5)]) hx hb dX12_rules_134 rfl hl (by decide) rfl (fun ls hl => ?_)
              refine lv_iload hx hb dX12_rules_135 (lv_at hl 3 rfl) ?_
              refine lv_istore (lv' := [(4, .int r10), (3, .int r6), (2, .int v5), (8, .int 1), (7, .int r10), (6, .int r6), (0, .ref h0), (1, .int v1), (5, .int v5)]) hx hb dX12_rules_137 hl (by decide) rfl (fun ls hl => ?_)
              obtain ⟨x14, ex14⟩ : ∃ y : Int32, y = v5 + 1 := ⟨_, rfl⟩
              have tx14 : x14.toInt = v5.toInt + 1 := by rw [ex14]; exact i_add (b := 1) (by (try simp only [i_lt, i_le, i_eq, Int32.toInt_toInt64, Int32.reduceToInt, Int64.reduceToInt, true_and, and_true, false_and, and_false, false_or, or_false, true_or, or_true, not_true_eq_false, not_false_eq_true, ne_eq, forall_const, true_implies, false_implies, implies_true] at g_v2 g_v5 hn35 c1 c3 b4 b5 c7 b8 b9 c11 b12 b13 ⊢) <;> omega) (by (try simp only [i_lt, i_le, i_eq, Int32.toInt_toInt64, Int32.reduceToInt, Int64.reduceToInt, true_and, and_true, false_and, and_false, false_or, or_false, true_or, or_true, not_true_eq_false, not_false_eq_true, ne_eq, forall_const, true_implies, false_implies, implies_true] at g_v2 g_v5 hn35 c1 c3 b4 b5 c7 b8 b9 c11 b12 b13 ⊢) <;> omega)
              refine lv_iinc (v := x14) (lv' := [(5, .int x14), (4, .int r10), (3, .int r6), (2, .int v5), (8, .int 1), (7, .int r10), (6, .int r6), (0, .ref h0), (1, .int v1)]) hx hb dX12_rules_139 hl (k := 8) rfl (by rw [ex14]; rfl) (by decide) rfl (fun ls hl => ?_)
              refine lv_goto (tgt := 35) hx hb dX12_rules_142 (by decide) ?_
              exact ih35 ls v1 v5 r6 r10 x14 (by (try simp only [i_lt, i_le, i_eq, Int32.toInt_toInt64, Int32.reduceToInt, Int64.reduceToInt, true_and, and_true, false_and, and_false, false_or, or_false, true_or, or_true, not_true_eq_false, not_false_eq_true, ne_eq, forall_const, true_implies, false_implies, implies_true] at g_v2 g_v5 hn35 c1 c3 b4 b5 c7 b8 b9 c11 b12 b13 tx14 ⊢) <;> omega) (by (try simp only [i_lt, i_le, i_eq, Int32.toInt_toInt64, Int32.reduceToInt, Int64.reduceToInt, true_and, and_true, false_and, and_false, false_or, or_false, true_or, or_true, not_true_eq_false, not_false_eq_true, ne_eq, forall_const, true_implies, false_implies, implies_true] at g_v2 g_v5 hn35 c1 c3 b4 b5 c7 b8 b9 c11 b12 b13 tx14 ⊢) <;> omega) (by (try simp only [i_lt, i_le, i_eq, Int32.toInt_toInt64, Int32.reduceToInt, Int64.reduceToInt, true_and, and_true, false_and, and_false, false_or, or_false, true_or, or_true, not_true_eq_false, not_false_eq_true, ne_eq, forall_const, true_implies, false_implies, implies_true] at g_v2 g_v5 hn35 c1 c3 b4 b5 c7 b8 b9 c11 b12 b13 tx14 ⊢) <;> omega) (lv_sub hl [7, 8, 3, 2, 1, 0] rfl)
            · have b15 := Int32.toInt_lt r6
              have b16 := Int32.toInt_lt v3
              refine lv_iload hx hb dX12_rules_88 (lv_at hl 0 rfl) ?_
              refine lv_iload hx hb dX12_rules_90 (lv_at hl 6 rfl) ?_
              refine lv_icmp_lt (tgt := 114) hx hb dX12_rules_92 (by decide) (fun c17 => ?_) (fun c17 => ?_)
              · have b18 := Int32.toInt_lt r10
                have b19 := Int32.toInt_lt v4
                refine lv_iconst (v := 1) hx hb dX12_rules_114 (by decide) ?_
                refine lv_goto (tgt := 119) hx hb dX12_rules_115 (by decide) ?_
                refine lv_istore (lv' := [(8, .int 1), (7, .int r10), (6, .int r6), (0, .ref h0), (1, .int v1), (2, .int v2), (3, .int v3), (4, .int v4), (5, .int v5)]) hx hb dX12_rules_119 hl (by decide) rfl (fun ls hl => ?_)
                refine lv_iload hx hb dX12_rules_121 (lv_at hl 0 rfl) ?_
                refine lv_if_ne (tgt := 129) hx hb dX12_rules_123 (by decide) (fun _ => ?_) (fun h => absurd h (by (try simp only [i_lt, i_le, i_eq, Int32.toInt_toInt64, Int32.reduceToInt, Int64.reduceToInt, true_and, and_true, false_and, and_false, false_or, or_false, true_or, or_true, not_true_eq_false, not_false_eq_true, ne_eq, forall_const, true_implies, false_implies, implies_true] at g_v2 g_v5 hn35 c1 c3 b4 b5 c7 b8 b9 c11 b15 b16 c17 b18 b19 ⊢) <;> omega))
                refine lv_iload hx hb dX12_rules_129 (lv_at hl 8 rfl) ?_
                refine lv_istore_n (lv' := [(2, .int v5), (8, .int 1), (7, .int r10), (6, .int r6), (0, .ref h0), (1, .int v1), (3, .int v3), (4, .int v4), (5, .int v5)]) hx hb dX12_rules_131 rfl hl (by decide) rfl (fun ls hl => ?_)
                refine lv_iload hx hb dX12_rules_132 (lv_at hl 3 rfl) ?_
                refine lv_istore_n (lv' := [(3, .int r6), (2, .int v5), (8, .int 1), (7, .int r10), (6, .int r6), (0, .ref h0), (1, .int v1), (4, .int v4), (5, .int v5)]) hx hb dX12_rules_134 rfl hl (by decide) rfl (fun ls hl => ?_)
                refine lv_iload hx hb dX12_rules_135 (lv_at hl 3 rfl) ?_
                refine lv_istore (lv' := [(4, .int r10), (3, .int r6), (2, .int v5), (8, .int 1), (7, .int r10), (6, .int r6), (0, .ref h0), (1, .int v1), (5, .int v5)]) hx hb dX12_rules_137 hl (by decide) rfl (fun ls hl => ?_)
                obtain ⟨x20, ex20⟩ : ∃ y : Int32, y = v5 + 1 := ⟨_, rfl⟩
                have tx20 : x20.toInt = v5.toInt + 1 := by rw [ex20]; exact i_add (b := 1) (by (try simp only [i_lt, i_le, i_eq, Int32.toInt_toInt64, Int32.reduceToInt, Int64.reduceToInt, true_and, and_true, false_and, and_false, false_or, or_false, true_or, or_true, not_true_eq_false, not_false_eq_true, ne_eq, forall_const, true_implies, false_implies, implies_true] at g_v2 g_v5 hn35 c1 c3 b4 b5 c7 b8 b9 c11 b15 b16 c17 b18 b19 ⊢) <;> omega) (by (try simp only [i_lt, i_le, i_eq, Int32.toInt_toInt64, Int32.reduceToInt, Int64.reduceToInt, true_and, and_true, false_and, and_false, false_or, or_false, true_or, or_true, not_true_eq_false, not_false_eq_true, ne_eq, forall_const, true_implies, false_implies, implies_true] at g_v2 g_v5 hn35 c1 c3 b4 b5 c7 b8 b9 c11 b15 b16 c17 b18 b19 ⊢) <;> omega)
                refine lv_iinc (v := x20) (lv' := [(5, .int x20), (4, .int r10), (3, .int r6), (2, .int v5), (8, .int 1), (7, .int r10), (6, .int r6), (0, .ref h0), (1, .int v1)]) hx hb dX12_rules_139 hl (k := 8) rfl (by rw [ex20]; rfl) (by decide) rfl (fun ls hl => ?_)
                refine lv_goto (tgt := 35) hx hb dX12_rules_142 (by decide) ?_
                exact ih35 ls v1 v5 r6 r10 x20 (by (try simp only [i_lt, i_le, i_eq, Int32.toInt_toInt64, Int32.reduceToInt, Int64.reduceToInt, true_and, and_true, false_and, and_false, false_or, or_false, true_or, or_true, not_true_eq_false, not_false_eq_true, ne_eq, forall_const, true_implies, false_implies, implies_true] at g_v2 g_v5 hn35 c1 c3 b4 b5 c7 b8 b9 c11 b15 b16 c17 b18 b19 tx20 ⊢) <;> omega) (by (try simp only [i_lt, i_le, i_eq, Int32.toInt_toInt64, Int32.reduceToInt, Int64.reduceToInt, true_and, and_true, false_and, and_false, false_or, or_false, true_or, or_true, not_true_eq_false, not_false_eq_true, ne_eq, forall_const, true_implies, false_implies, implies_true] at g_v2 g_v5 hn35 c1 c3 b4 b5 c7 b8 b9 c11 b15 b16 c17 b18 b19 tx20 ⊢) <;> omega) (by (try simp only [i_lt, i_le, i_eq, Int32.toInt_toInt64, Int32.reduceToInt, Int64.reduceToInt, true_and, and_true, false_and, and_false, false_or, or_false, true_or, or_true, not_true_eq_false, not_false_eq_true, ne_eq, forall_const, true_implies, false_implies, implies_true] at g_v2 g_v5 hn35 c1 c3 b4 b5 c7 b8 b9 c11 b15 b16 c17 b18 b19 tx20 ⊢) <;> omega) (lv_sub hl [7, 8, 3, 2, 1, 0] rfl)
              · have b21 := Int32.toInt_lt r10
                have b22 := Int32.toInt_lt v4
                refine lv_iload hx hb dX12_rules_95 (lv_at hl 0 rfl) ?_
                refine lv_iload hx hb dX12_rules_97 (lv_at hl 6 rfl) ?_
                refine lv_icmp_ne (tgt := 118) hx hb dX12_rules_99 (by decide) (fun c23 => ?_) (fun c23 => ?_)
                · have b24 := Int32.toInt_lt r10
                  have b25 := Int32.toInt_lt v4
                  refine lv_iconst (v := 0) hx hb dX12_rules_118 (by decide) ?_
                  refine lv_istore (lv' := [(8, .int 0), (7, .int r10), (6, .int r6), (0, .ref h0), (1, .int v1), (2, .int v2), (3, .int v3), (4, .int v4), (5, .int v5)]) hx hb dX12_rules_119 hl (by decide) rfl (fun ls hl => ?_)
                  refine lv_iload hx hb dX12_rules_121 (lv_at hl 0 rfl) ?_
                  refine lv_if_ne (tgt := 129) hx hb dX12_rules_123 (by decide) (fun h => absurd (by (try simp only [i_lt, i_le, i_eq, Int32.toInt_toInt64, Int32.reduceToInt, Int64.reduceToInt, true_and, and_true, false_and, and_false, false_or, or_false, true_or, or_true, not_true_eq_false, not_false_eq_true, ne_eq, forall_const, true_implies, false_implies, implies_true] at g_v2 g_v5 hn35 c1 c3 b4 b5 c7 b8 b9 c11 b15 b16 c17 b21 b22 b24 b25 ⊢) <;> omega) h) (fun _ => ?_)
                  refine lv_goto (tgt := 139) hx hb dX12_rules_126 (by decide) ?_
                  obtain ⟨x26, ex26⟩ : ∃ y : Int32, y = v5 + 1 := ⟨_, rfl⟩
                  have tx26 : x26.toInt = v5.toInt + 1 := by rw [ex26]; exact i_add (b := 1) (by (try simp only [i_lt, i_le, i_eq, Int32.toInt_toInt64, Int32.reduceToInt, Int64.reduceToInt, true_and, and_true, false_and, and_false, false_or, or_false, true_or, or_true, not_true_eq_false, not_false_eq_true, ne_eq, forall_const, true_implies, false_implies, implies_true] at g_v2 g_v5 hn35 c1 c3 b4 b5 c7 b8 b9 c11 b15 b16 c17 b21 b22 b24 b25 ⊢) <;> omega) (by (try simp only [i_lt, i_le, i_eq, Int32.toInt_toInt64, Int32.reduceToInt, Int64.reduceToInt, true_and, and_true, false_and, and_false, false_or, or_false, true_or, or_true, not_true_eq_false, not_false_eq_true, ne_eq, forall_const, true_implies, false_implies, implies_true] at g_v2 g_v5 hn35 c1 c3 b4 b5 c7 b8 b9 c11 b15 b16 c17 b21 b22 b24 b25 ⊢) <;> omega)
                  refine lv_iinc (v := x26) (lv' := [(5, .int x26), (8, .int 0), (7, .int r10), (6, .int r6), (0, .ref h0), (1, .int v1), (2, .int v2), (3, .int v3), (4, .int v4)]) hx hb dX12_rules_139 hl (k := 8) rfl (by rw [ex26]; rfl) (by decide) rfl (fun ls hl => ?_)
                  refine lv_goto (tgt := 35) hx hb dX12_rules_142 (by decide) ?_
                  exact ih35 ls v1 v2 v3 v4 x26 (by (try simp only [i_lt, i_le, i_eq, Int32.toInt_toInt64, Int32.reduceToInt, Int64.reduceToInt, true_and, and_true, false_and, and_false, false_or, or_false, true_or, or_true, not_true_eq_false, not_false_eq_true, ne_eq, forall_const, true_implies, false_implies, implies_true] at g_v2 g_v5 hn35 c1 c3 b4 b5 c7 b8 b9 c11 b15 b16 c17 b21 b22 b24 b25 tx26 ⊢) <;> omega) (by (try simp only [i_lt, i_le, i_eq, Int32.toInt_toInt64, Int32.reduceToInt, Int64.reduceToInt, true_and, and_true, false_and, and_false, false_or, or_false, true_or, or_true, not_true_eq_false, not_false_eq_true, ne_eq, forall_const, true_implies, false_implies, implies_true] at g_v2 g_v5 hn35 c1 c3 b4 b5 c7 b8 b9 c11 b15 b16 c17 b21 b22 b24 b25 tx26 ⊢) <;> omega) (by (try simp only [i_lt, i_le, i_eq, Int32.toInt_toInt64, Int32.reduceToInt, Int64.reduceToInt, true_and, and_true, false_and, and_false, false_or, or_false, true_or, or_true, not_true_eq_false, not_false_eq_true, ne_eq, forall_const, true_implies, false_implies, implies_true] at g_v2 g_v5 hn35 c1 c3 b4 b5 c7 b8 b9 c11 b15 b16 c17 b21 b22 b24 b25 tx26 ⊢) <;> omega) (lv_sub hl [4, 5, 6, 7, 8, 0] rfl)
                · have b27 := Int32.toInt_lt r10
                  have b28 := Int32.toInt_lt v4
                  refine lv_iload hx hb dX12_rules_102 (lv_at hl 7 rfl) ?_
                  refine psi (As := [.int v5]) (rest := []) ⟨hx, hb, hml, hown, hts⟩ (t_X12_ones l D k v5) (va_cwS 1 hts gX12_rules_X12_ones rfl rfl rfl (by decide +kernel) ⟨Nat.le_of_ble_eq_true rfl, Nat.le_of_ble_eq_true rfl⟩) hK rfl hl.1 rfl (Nat.le_of_ble_eq_true rfl) dX12_rules_104 ⟨Nat.le_of_ble_eq_true rfl, Nat.le_of_ble_eq_true rfl⟩ (fun r29 hr29 => ?_)
                  refine lv_iload_n hx hb dX12_rules_107 rfl (lv_at hl 4 rfl) ?_
                  refine psi (As := [.int v2]) (rest := [.int r29]) ⟨hx, hb, hml, hown, hts⟩ (t_X12_ones l D k v2) (va_cwS 1 hts gX12_rules_X12_ones rfl rfl rfl (by decide +kernel) ⟨Nat.le_of_ble_eq_true rfl, Nat.le_of_ble_eq_true rfl⟩) hK rfl hl.1 rfl (Nat.le_of_ble_eq_true rfl) dX12_rules_108 ⟨Nat.le_of_ble_eq_true rfl, Nat.le_of_ble_eq_true rfl⟩ (fun r30 hr30 => ?_)
                  refine lv_icmp_ge (tgt := 118) hx hb dX12_rules_111 (by decide) (fun c31 => ?_) (fun c31 => ?_)
                  · have b32 := Int32.toInt_lt r29
                    have b33 := Int32.toInt_lt r30
                    refine lv_iconst (v := 0) hx hb dX12_rules_118 (by decide) ?_
                    refine lv_istore (lv' := [(8, .int 0), (7, .int r10), (6, .int r6), (0, .ref h0), (1, .int v1), (2, .int v2), (3, .int v3), (4, .int v4), (5, .int v5)]) hx hb dX12_rules_119 hl (by decide) rfl (fun ls hl => ?_)
                    refine lv_iload hx hb dX12_rules_121 (lv_at hl 0 rfl) ?_
                    refine lv_if_ne (tgt := 129) hx hb dX12_rules_123 (by decide) (fun h => absurd (by (try simp only [i_lt, i_le, i_eq, Int32.toInt_toInt64, Int32.reduceToInt, Int64.reduceToInt, true_and, and_true, false_and, and_false, false_or, or_false, true_or, or_true, not_true_eq_false, not_false_eq_true, ne_eq, forall_const, true_implies, false_implies, implies_true] at g_v2 g_v5 hn35 c1 c3 b4 b5 c7 b8 b9 c11 b15 b16 c17 b21 b22 c23 b27 b28 c31 b32 b33 ⊢) <;> omega) h) (fun _ => ?_)
                    refine lv_goto (tgt := 139) hx hb dX12_rules_126 (by decide) ?_
                    obtain ⟨x34, ex34⟩ : ∃ y : Int32, y = v5 + 1 := ⟨_, rfl⟩
                    have tx34 : x34.toInt = v5.toInt + 1 := by rw [ex34]; exact i_add (b := 1) (by (try simp only [i_lt, i_le, i_eq, Int32.toInt_toInt64, Int32.reduceToInt, Int64.reduceToInt, true_and, and_true, false_and, and_false, false_or, or_false, true_or, or_true, not_true_eq_false, not_false_eq_true, ne_eq, forall_const, true_implies, false_implies, implies_true] at g_v2 g_v5 hn35 c1 c3 b4 b5 c7 b8 b9 c11 b15 b16 c17 b21 b22 c23 b27 b28 c31 b32 b33 ⊢) <;> omega) (by (try simp only [i_lt, i_le, i_eq, Int32.toInt_toInt64, Int32.reduceToInt, Int64.reduceToInt, true_and, and_true, false_and, and_false, false_or, or_false, true_or, or_true, not_true_eq_false, not_false_eq_true, ne_eq, forall_const, true_implies, false_implies, implies_true] at g_v2 g_v5 hn35 c1 c3 b4 b5 c7 b8 b9 c11 b15 b16 c17 b21 b22 c23 b27 b28 c31 b32 b33 ⊢) <;> omega)
                    refine lv_iinc (v := x34) (lv' := [(5, .int x34), (8, .int 0), (7, .int r10), (6, .int r6), (0, .ref h0), (1, .int v1), (2, .int v2), (3, .int v3), (4, .int v4)]) hx hb dX12_rules_139 hl (k := 8) rfl (by rw [ex34]; rfl) (by decide) rfl (fun ls hl => ?_)
                    refine lv_goto (tgt := 35) hx hb dX12_rules_142 (by decide) ?_
                    exact ih35 ls v1 v2 v3 v4 x34 (by (try simp only [i_lt, i_le, i_eq, Int32.toInt_toInt64, Int32.reduceToInt, Int64.reduceToInt, true_and, and_true, false_and, and_false, false_or, or_false, true_or, or_true, not_true_eq_false, not_false_eq_true, ne_eq, forall_const, true_implies, false_implies, implies_true] at g_v2 g_v5 hn35 c1 c3 b4 b5 c7 b8 b9 c11 b15 b16 c17 b21 b22 c23 b27 b28 c31 b32 b33 tx34 ⊢) <;> omega) (by (try simp only [i_lt, i_le, i_eq, Int32.toInt_toInt64, Int32.reduceToInt, Int64.reduceToInt, true_and, and_true, false_and, and_false, false_or, or_false, true_or, or_true, not_true_eq_false, not_false_eq_true, ne_eq, forall_const, true_implies, false_implies, implies_true] at g_v2 g_v5 hn35 c1 c3 b4 b5 c7 b8 b9 c11 b15 b16 c17 b21 b22 c23 b27 b28 c31 b32 b33 tx34 ⊢) <;> omega) (by (try simp only [i_lt, i_le, i_eq, Int32.toInt_toInt64, Int32.reduceToInt, Int64.reduceToInt, true_and, and_true, false_and, and_false, false_or, or_false, true_or, or_true, not_true_eq_false, not_false_eq_true, ne_eq, forall_const, true_implies, false_implies, implies_true] at g_v2 g_v5 hn35 c1 c3 b4 b5 c7 b8 b9 c11 b15 b16 c17 b21 b22 c23 b27 b28 c31 b32 b33 tx34 ⊢) <;> omega) (lv_sub hl [4, 5, 6, 7, 8, 0] rfl)
                  · have b35 := Int32.toInt_lt r29
                    have b36 := Int32.toInt_lt r30
                    refine lv_iconst (v := 1) hx hb dX12_rules_114 (by decide) ?_
                    refine lv_goto (tgt := 119) hx hb dX12_rules_115 (by decide) ?_
                    refine lv_istore (lv' := [(8, .int 1), (7, .int r10), (6, .int r6), (0, .ref h0), (1, .int v1), (2, .int v2), (3, .int v3), (4, .int v4), (5, .int v5)]) hx hb dX12_rules_119 hl (by decide) rfl (fun ls hl => ?_)
                    refine lv_iload hx hb dX12_rules_121 (lv_at hl 0 rfl) ?_
                    refine lv_if_ne (tgt := 129) hx hb dX12_rules_123 (by decide) (fun _ => ?_) (fun h => absurd h (by (try simp only [i_lt, i_le, i_eq, Int32.toInt_toInt64, Int32.reduceToInt, Int64.reduceToInt, true_and, and_true, false_and, and_false, false_or, or_false, true_or, or_true, not_true_eq_false, not_false_eq_true, ne_eq, forall_const, true_implies, false_implies, implies_true] at g_v2 g_v5 hn35 c1 c3 b4 b5 c7 b8 b9 c11 b15 b16 c17 b21 b22 c23 b27 b28 c31 b35 b36 ⊢) <;> omega))
                    refine lv_iload hx hb dX12_rules_129 (lv_at hl 8 rfl) ?_
                    refine lv_istore_n (lv' := [(2, .int v5), (8, .int 1), (7, .int r10), (6, .int r6), (0, .ref h0), (1, .int v1), (3, .int v3), (4, .int v4), (5, .int v5)]) hx hb dX12_rules_131 rfl hl (by decide) rfl (fun ls hl => ?_)
                    refine lv_iload hx hb dX12_rules_132 (lv_at hl 3 rfl) ?_
                    refine lv_istore_n (lv' := [(3, .int r6), (2, .int v5), (8, .int 1), (7, .int r10), (6, .int r6), (0, .ref h0), (1, .int v1), (4, .int v4), (5, .int v5)]) hx hb dX12_rules_134 rfl hl (by decide) rfl (fun ls hl => ?_)
                    refine lv_iload hx hb dX12_rules_135 (lv_at hl 3 rfl) ?_
                    refine lv_istore (lv' := [(4, .int r10), (3, .int r6), (2, .int v5), (8, .int 1), (7, .int r10), (6, .int r6), (0, .ref h0), (1, .int v1), (5, .int v5)]) hx hb dX12_rules_137 hl (by decide) rfl (fun ls hl => ?_)
                    obtain ⟨x37, ex37⟩ : ∃ y : Int32, y = v5 + 1 := ⟨_, rfl⟩
                    have tx37 : x37.toInt = v5.toInt + 1 := by rw [ex37]; exact i_add (b := 1) (by (try simp only [i_lt, i_le, i_eq, Int32.toInt_toInt64, Int32.reduceToInt, Int64.reduceToInt, true_and, and_true, false_and, and_false, false_or, or_false, true_or, or_true, not_true_eq_false, not_false_eq_true, ne_eq, forall_const, true_implies, false_implies, implies_true] at g_v2 g_v5 hn35 c1 c3 b4 b5 c7 b8 b9 c11 b15 b16 c17 b21 b22 c23 b27 b28 c31 b35 b36 ⊢) <;> omega) (by (try simp only [i_lt, i_le, i_eq, Int32.toInt_toInt64, Int32.reduceToInt, Int64.reduceToInt, true_and, and_true, false_and, and_false, false_or, or_false, true_or, or_true, not_true_eq_false, not_false_eq_true, ne_eq, forall_const, true_implies, false_implies, implies_true] at g_v2 g_v5 hn35 c1 c3 b4 b5 c7 b8 b9 c11 b15 b16 c17 b21 b22 c23 b27 b28 c31 b35 b36 ⊢) <;> omega)
                    refine lv_iinc (v := x37) (lv' := [(5, .int x37), (4, .int r10), (3, .int r6), (2, .int v5), (8, .int 1), (7, .int r10), (6, .int r6), (0, .ref h0), (1, .int v1)]) hx hb dX12_rules_139 hl (k := 8) rfl (by rw [ex37]; rfl) (by decide) rfl (fun ls hl => ?_)
                    refine lv_goto (tgt := 35) hx hb dX12_rules_142 (by decide) ?_
                    exact ih35 ls v1 v5 r6 r10 x37 (by (try simp only [i_lt, i_le, i_eq, Int32.toInt_toInt64, Int32.reduceToInt, Int64.reduceToInt, true_and, and_true, false_and, and_false, false_or, or_false, true_or, or_true, not_true_eq_false, not_false_eq_true, ne_eq, forall_const, true_implies, false_implies, implies_true] at g_v2 g_v5 hn35 c1 c3 b4 b5 c7 b8 b9 c11 b15 b16 c17 b21 b22 c23 b27 b28 c31 b35 b36 tx37 ⊢) <;> omega) (by (try simp only [i_lt, i_le, i_eq, Int32.toInt_toInt64, Int32.reduceToInt, Int64.reduceToInt, true_and, and_true, false_and, and_false, false_or, or_false, true_or, or_true, not_true_eq_false, not_false_eq_true, ne_eq, forall_const, true_implies, false_implies, implies_true] at g_v2 g_v5 hn35 c1 c3 b4 b5 c7 b8 b9 c11 b15 b16 c17 b21 b22 c23 b27 b28 c31 b35 b36 tx37 ⊢) <;> omega) (by (try simp only [i_lt, i_le, i_eq, Int32.toInt_toInt64, Int32.reduceToInt, Int64.reduceToInt, true_and, and_true, false_and, and_false, false_or, or_false, true_or, or_true, not_true_eq_false, not_false_eq_true, ne_eq, forall_const, true_implies, false_implies, implies_true] at g_v2 g_v5 hn35 c1 c3 b4 b5 c7 b8 b9 c11 b15 b16 c17 b21 b22 c23 b27 b28 c31 b35 b36 tx37 ⊢) <;> omega) (lv_sub hl [7, 8, 3, 2, 1, 0] rfl)
          · have b38 := Int32.toInt_lt r6
            have b39 := Int32.toInt_lt v3
            refine lv_goto (tgt := 139) hx hb dX12_rules_70 (by decide) ?_
            obtain ⟨x40, ex40⟩ : ∃ y : Int32, y = v5 + 1 := ⟨_, rfl⟩
            have tx40 : x40.toInt = v5.toInt + 1 := by rw [ex40]; exact i_add (b := 1) (by (try simp only [i_lt, i_le, i_eq, Int32.toInt_toInt64, Int32.reduceToInt, Int64.reduceToInt, true_and, and_true, false_and, and_false, false_or, or_false, true_or, or_true, not_true_eq_false, not_false_eq_true, ne_eq, forall_const, true_implies, false_implies, implies_true] at g_v2 g_v5 hn35 c1 c3 b4 b5 c7 b38 b39 ⊢) <;> omega) (by (try simp only [i_lt, i_le, i_eq, Int32.toInt_toInt64, Int32.reduceToInt, Int64.reduceToInt, true_and, and_true, false_and, and_false, false_or, or_false, true_or, or_true, not_true_eq_false, not_false_eq_true, ne_eq, forall_const, true_implies, false_implies, implies_true] at g_v2 g_v5 hn35 c1 c3 b4 b5 c7 b38 b39 ⊢) <;> omega)
            refine lv_iinc (v := x40) (lv' := [(5, .int x40), (6, .int r6), (0, .ref h0), (1, .int v1), (2, .int v2), (3, .int v3), (4, .int v4)]) hx hb dX12_rules_139 hl (k := 6) rfl (by rw [ex40]; rfl) (by decide) rfl (fun ls hl => ?_)
            refine lv_goto (tgt := 35) hx hb dX12_rules_142 (by decide) ?_
            exact ih35 ls v1 v2 v3 v4 x40 (by (try simp only [i_lt, i_le, i_eq, Int32.toInt_toInt64, Int32.reduceToInt, Int64.reduceToInt, true_and, and_true, false_and, and_false, false_or, or_false, true_or, or_true, not_true_eq_false, not_false_eq_true, ne_eq, forall_const, true_implies, false_implies, implies_true] at g_v2 g_v5 hn35 c1 c3 b4 b5 c7 b38 b39 tx40 ⊢) <;> omega) (by (try simp only [i_lt, i_le, i_eq, Int32.toInt_toInt64, Int32.reduceToInt, Int64.reduceToInt, true_and, and_true, false_and, and_false, false_or, or_false, true_or, or_true, not_true_eq_false, not_false_eq_true, ne_eq, forall_const, true_implies, false_implies, implies_true] at g_v2 g_v5 hn35 c1 c3 b4 b5 c7 b38 b39 tx40 ⊢) <;> omega) (by (try simp only [i_lt, i_le, i_eq, Int32.toInt_toInt64, Int32.reduceToInt, Int64.reduceToInt, true_and, and_true, false_and, and_false, false_or, or_false, true_or, or_true, not_true_eq_false, not_false_eq_true, ne_eq, forall_const, true_implies, false_implies, implies_true] at g_v2 g_v5 hn35 c1 c3 b4 b5 c7 b38 b39 tx40 ⊢) <;> omega) (lv_sub hl [2, 3, 4, 5, 6, 0] rfl)
        · have b41 := Int32.toInt_lt r2
          have b42 := Int32.toInt_lt v1
          refine lv_goto (tgt := 139) hx hb dX12_rules_52 (by decide) ?_
          obtain ⟨x43, ex43⟩ : ∃ y : Int32, y = v5 + 1 := ⟨_, rfl⟩
          have tx43 : x43.toInt = v5.toInt + 1 := by rw [ex43]; exact i_add (b := 1) (by (try simp only [i_lt, i_le, i_eq, Int32.toInt_toInt64, Int32.reduceToInt, Int64.reduceToInt, true_and, and_true, false_and, and_false, false_or, or_false, true_or, or_true, not_true_eq_false, not_false_eq_true, ne_eq, forall_const, true_implies, false_implies, implies_true] at g_v2 g_v5 hn35 c1 c3 b41 b42 ⊢) <;> omega) (by (try simp only [i_lt, i_le, i_eq, Int32.toInt_toInt64, Int32.reduceToInt, Int64.reduceToInt, true_and, and_true, false_and, and_false, false_or, or_false, true_or, or_true, not_true_eq_false, not_false_eq_true, ne_eq, forall_const, true_implies, false_implies, implies_true] at g_v2 g_v5 hn35 c1 c3 b41 b42 ⊢) <;> omega)
          refine lv_iinc (v := x43) (lv' := [(5, .int x43), (0, .ref h0), (1, .int v1), (2, .int v2), (3, .int v3), (4, .int v4)]) hx hb dX12_rules_139 hl (k := 5) rfl (by rw [ex43]; rfl) (by decide) rfl (fun ls hl => ?_)
          refine lv_goto (tgt := 35) hx hb dX12_rules_142 (by decide) ?_
          exact ih35 ls v1 v2 v3 v4 x43 (by (try simp only [i_lt, i_le, i_eq, Int32.toInt_toInt64, Int32.reduceToInt, Int64.reduceToInt, true_and, and_true, false_and, and_false, false_or, or_false, true_or, or_true, not_true_eq_false, not_false_eq_true, ne_eq, forall_const, true_implies, false_implies, implies_true] at g_v2 g_v5 hn35 c1 c3 b41 b42 tx43 ⊢) <;> omega) (by (try simp only [i_lt, i_le, i_eq, Int32.toInt_toInt64, Int32.reduceToInt, Int64.reduceToInt, true_and, and_true, false_and, and_false, false_or, or_false, true_or, or_true, not_true_eq_false, not_false_eq_true, ne_eq, forall_const, true_implies, false_implies, implies_true] at g_v2 g_v5 hn35 c1 c3 b41 b42 tx43 ⊢) <;> omega) (by (try simp only [i_lt, i_le, i_eq, Int32.toInt_toInt64, Int32.reduceToInt, Int64.reduceToInt, true_and, and_true, false_and, and_false, false_or, or_false, true_or, or_true, not_true_eq_false, not_false_eq_true, ne_eq, forall_const, true_implies, false_implies, implies_true] at g_v2 g_v5 hn35 c1 c3 b41 b42 tx43 ⊢) <;> omega) (lv_sub hl [1, 2, 3, 4, 5, 0] rfl)
  have hl := lv_entry ([.ref h0, .int p1]) (n := 9) (Nat.le_of_ble_eq_true rfl)
  rw [lg_entry_eq]
  generalize (lg_sl ([.ref h0, .int p1]) ++ List.replicate (9 - (lg_sl ([.ref h0, .int p1])).length) Slot.unset).toArray = ls at hl ⊢
  have hl : lv_has ls 9 [(0, .ref h0), (1, .int p1)] := hl
  refine lv_iload_n hx hb dX12_rules_0 rfl (lv_at hl 1 rfl) ?_
  refine lv_i2l hx hb dX12_rules_1 rfl ?_
  have b44 := Int32.toInt_lt p1
  have ab44 := Int32.le_toInt p1
  refine lv_topl (fun x45 ex45 => ?_)
  have tx45 : x45.toInt = p1.toInt := by rw [ex45]; exact Int32.toInt_toInt64 _
  refine lv_lconst (v := 0) hx hb dX12_rules_2 (by decide) ?_
  refine lv_ldc2 (own := RX12) (v := 16) hx hb hown (hts (.constantLong RX12 439 (16)) (by decide +kernel)) dX12_rules_3 ?_
  refine psi (As := [.long x45, .long 0, .long 16]) (rest := []) ⟨hx, hb, hml, hown, hts⟩ (t_X12_in l D k x45 0 16) (va_cwS 3 hts gX12_rules_X12_in rfl rfl rfl (by decide +kernel) ⟨Nat.le_of_ble_eq_true rfl, Nat.le_of_ble_eq_true rfl⟩) hK rfl hl.1 rfl (Nat.le_of_ble_eq_true rfl) dX12_rules_6 ⟨Nat.le_of_ble_eq_true rfl, Nat.le_of_ble_eq_true rfl⟩ (fun r46 hr46 => ?_)
  refine lv_if_ne (tgt := 15) hx hb dX12_rules_9 (by decide) (fun c47 => ?_) (fun c47 => ?_)
  · have eb48 : r46.toInt = 1 := by rcases hr46 with ⟨q, -⟩ | ⟨q, -⟩; exact absurd (i_eq.mpr q) c47; exact q
    have fb48 : (0 : Int64).toInt ≤ x45.toInt ∧ x45.toInt ≤ (16 : Int64).toInt := by rcases hr46 with ⟨q, r⟩ | ⟨q, r⟩; exact absurd q (by omega); exact r
    clear hr46
    refine lv_iconst (v := 0) hx hb dX12_rules_15 (by decide) ?_
    refine lv_istore_n (lv' := [(2, .int 0), (0, .ref h0), (1, .int p1)]) hx hb dX12_rules_16 rfl hl (by decide) rfl (fun ls hl => ?_)
    refine lv_aload_n hx hb dX12_rules_17 rfl (lv_at hl 1 rfl) ?_
    refine lv_iconst (v := 0) hx hb dX12_rules_18 (by decide) ?_
    refine lv_iconst (v := 0) hx hb dX12_rules_19 (by decide) ?_
    refine rvi (C := RX12) (As := [.int 0, .int 0]) (rest := []) ⟨hx, hb, hml, hown, hts⟩ (t_X12_heldBy l D k u hu h0 m_h0 k_h0 0 0 (by decide)) (cwV 2 hts gX12_rules_X12_heldBy rfl rfl rfl (by decide +kernel) ⟨Nat.le_of_ble_eq_true rfl, Nat.le_of_ble_eq_true rfl⟩) hP hK (precv hK hP m_h0 (cF12 k_h0) rfl) rfl hl.1 rfl (Nat.le_of_ble_eq_true rfl) dX12_rules_20 ⟨Nat.le_of_ble_eq_true rfl, Nat.le_of_ble_eq_true rfl⟩ (fun r49 hr49 => ?_)
    refine lv_istore_n (lv' := [(3, .int r49), (2, .int 0), (0, .ref h0), (1, .int p1)]) hx hb dX12_rules_23 rfl hl (by decide) rfl (fun ls hl => ?_)
    refine lv_aload_n hx hb dX12_rules_24 rfl (lv_at hl 2 rfl) ?_
    refine lv_iconst (v := 0) hx hb dX12_rules_25 (by decide) ?_
    refine lv_iconst (v := 1) hx hb dX12_rules_26 (by decide) ?_
    refine rvi (C := RX12) (As := [.int 0, .int 1]) (rest := []) ⟨hx, hb, hml, hown, hts⟩ (t_X12_heldBy l D k u hu h0 m_h0 k_h0 0 1 (by decide)) (cwV 2 hts gX12_rules_X12_heldBy rfl rfl rfl (by decide +kernel) ⟨Nat.le_of_ble_eq_true rfl, Nat.le_of_ble_eq_true rfl⟩) hP hK (precv hK hP m_h0 (cF12 k_h0) rfl) rfl hl.1 rfl (Nat.le_of_ble_eq_true rfl) dX12_rules_27 ⟨Nat.le_of_ble_eq_true rfl, Nat.le_of_ble_eq_true rfl⟩ (fun r50 hr50 => ?_)
    refine lv_istore (lv' := [(4, .int r50), (3, .int r49), (2, .int 0), (0, .ref h0), (1, .int p1)]) hx hb dX12_rules_30 hl (by decide) rfl (fun ls hl => ?_)
    refine lv_iconst (v := 1) hx hb dX12_rules_32 (by decide) ?_
    refine lv_istore (lv' := [(5, .int 1), (4, .int r50), (3, .int r49), (2, .int 0), (0, .ref h0), (1, .int p1)]) hx hb dX12_rules_33 hl (by decide) rfl (fun ls hl => ?_)
    exact B35 _ ls p1 0 r49 r50 1 (Nat.le_refl _) (by (try simp only [i_lt, i_le, i_eq, Int32.toInt_toInt64, Int32.reduceToInt, Int64.reduceToInt, true_and, and_true, false_and, and_false, false_or, or_false, true_or, or_true, not_true_eq_false, not_false_eq_true, ne_eq, forall_const, true_implies, false_implies, implies_true] at b44 ab44 tx45 eb48 fb48 ⊢) <;> omega) (by (try simp only [i_lt, i_le, i_eq, Int32.toInt_toInt64, Int32.reduceToInt, Int64.reduceToInt, true_and, and_true, false_and, and_false, false_or, or_false, true_or, or_true, not_true_eq_false, not_false_eq_true, ne_eq, forall_const, true_implies, false_implies, implies_true] at b44 ab44 tx45 eb48 fb48 ⊢) <;> omega) (lv_sub hl [4, 5, 3, 2, 1, 0] rfl)
  · have eb51 : r46.toInt = 0 := by rcases hr46 with ⟨q, -⟩ | ⟨q, -⟩; exact q; (exact absurd (c47) (fun w => by rw [w] at q; exact absurd q (by decide)))
    have fb51 : (x45.toInt < (0 : Int64).toInt ∨ (16 : Int64).toInt < x45.toInt) := by rcases hr46 with ⟨q, r⟩ | ⟨q, r⟩; exact r; exact absurd q (by omega)
    clear hr46
    refine lv_bipush (v := (-2)) hx hb dX12_rules_12 (by decide) ?_
    exact W.iret (v := (-2)) hx hb hr (fun t ht hW => ⟨(-2), rfl, trivial, ht⟩) (fun q h => by cases h) dX12_rules_14
set_option maxHeartbeats 4000000 in
set_option maxRecDepth 100000 in
theorem t_X12_see (l : Launch) (D : va_G) (k : Nat → ClassId) (u : PSt) (hu : WT u) (h0 : Nat) (m_h0 : h0 ∈ u.1) (k_h0 : u.2.1 h0 = 12) (p1 : Int32) (g_p1 : 0 ≤ p1.toInt ∧ p1.toInt ≤ 1600) : Met l yX12_see wsX12_see ({ frames := 0, cells := 0, slots := 0, locals := 0 }) (PreR D k (PW k u) [.ref h0, .int p1]) (vp_Si (fun r => r.toInt = -1 ∨ (0 ≤ r.toInt ∧ r.toInt ≤ 255 ∧ p1.toInt ≤ 1599))) 0 0 (fun _ => False) := by
  refine Met.ofW (cc := cX12_see) (maxL := 2) (ret := (some .int)) (by decide) rfl ?_
  intro p e s m args below meth c s₁ B hml hv
  obtain ⟨rfl, hP, hK⟩ := hv
  have hx := B.exec
  have hb := B.bytes
  have hr := B.returns
  have hts := atoms_spec (ws := wsX12_see) B.pre
  have hown : s.vm.findClass RX12 = some m.cls := findClass_of_methodNamed B.named
  have hlocks := B.notSynchronized
  have i_X12 : ∀ w ∈ wsX120, w ∈ wsX12_see := by decide +kernel
  obtain ⟨a4, q0_4, m0_a4, k0_a4⟩ := (hu h0 m_h0).1 4 54 (by rw [k_h0]; rfl)
  have m_a4 := m0_a4
  have k_a4 := k0_a4
  have hl := lv_entry ([.ref h0, .int p1]) (n := 2) (Nat.le_of_ble_eq_true rfl)
  rw [lg_entry_eq]
  generalize (lg_sl ([.ref h0, .int p1]) ++ List.replicate (2 - (lg_sl ([.ref h0, .int p1])).length) Slot.unset).toArray = ls at hl ⊢
  have hl : lv_has ls 2 [(0, .ref h0), (1, .int p1)] := hl
  refine lv_iload_n hx hb dX12_see_0 rfl (lv_at hl 1 rfl) ?_
  refine lv_aload_n hx hb dX12_see_1 rfl (lv_at hl 0 rfl) ?_
  refine pget (ci := 12) (v := .int (u.2.2.1 h0 7)) (C := RX12) (T := TX12) (N := 34) hx hb hts i_X12 hown hK hP m_h0 (cF12 k_h0) rfl 7 (by decide) (hts (.fieldLink RX12 85 "BellowsRowModel" "size" "I") (by decide +kernel)) (fun _ h9 => h9) rfl dX12_see_2 ?_
  have g1 := (hu h0 m_h0).2.2.2 7
  rw [k_h0] at g1
  replace g1 : 0 ≤ (u.2.2.1 h0 7).toInt ∧ (u.2.2.1 h0 7).toInt ≤ 1600 := g1
  refine lv_icmp_ge (tgt := 21) hx hb dX12_see_5 (by decide) (fun c2 => ?_) (fun c2 => ?_)
  · refine lv_iconst (v := (-1)) hx hb dX12_see_21 (by decide) ?_
    exact W.iret (v := (-1)) hx hb hr (fun t ht hW => ⟨(-1), rfl, (show (-1 : Int) = -1 ∨ (0 ≤ (-1 : Int) ∧ (-1 : Int) ≤ 255 ∧ p1.toInt ≤ 1599) from by (try simp only [i_lt, i_le, i_eq, Int32.toInt_toInt64, Int32.reduceToInt, Int64.reduceToInt, true_and, and_true, false_and, and_false, false_or, or_false, true_or, or_true, not_true_eq_false, not_false_eq_true, ne_eq, forall_const, true_implies, false_implies, implies_true] at g_p1 g1 c2 ⊢) <;> omega), ht⟩) (fun q h => by cases h) dX12_see_22
  · refine lv_aload_n hx hb dX12_see_8 rfl (lv_at hl 0 rfl) ?_
    refine pget (ci := 12) (v := va_rf (u.2.2.2.2 h0 4)) (C := RX12) (T := TX12) (N := 34) hx hb hts i_X12 hown hK hP m_h0 (cF12 k_h0) rfl 4 (by decide) (hts (.fieldLink RX12 24 "BellowsRowModel" "tape" "[B") (by decide +kernel)) (fun _ h9 => h9) rfl dX12_see_9 ?_
    refine W.eq (g2 := F0 m 12 ls [.ref a4]) (by rw [q0_4]; rfl) ?_
    refine lv_iload_n hx hb dX12_see_12 rfl (lv_at hl 1 rfl) ?_
    refine palB hx hb hK hP m_a4 (cF54 k_a4) 0 rfl (vp_in_iff.mpr (by (try simp only [i_lt, i_le, i_eq, Int32.toInt_toInt64, Int32.reduceToInt, Int64.reduceToInt, true_and, and_true, false_and, and_false, false_or, or_false, true_or, or_true, not_true_eq_false, not_false_eq_true, ne_eq, forall_const, true_implies, false_implies, implies_true] at g_p1 g1 c2 ⊢) <;> omega)) dX12_see_13 ?_
    refine lv_topi (fun x3 ex3 => ?_)
    have tx3 : x3.toInt = (u.2.2.1 a4 (p1.toNatClampNeg)).toInt := congrArg Int32.toInt ex3
    refine lv_sipush (v := 255) hx hb dX12_see_14 (by decide) ?_
    refine lv_iand hx hb dX12_see_17 ?_
    refine lv_topi (fun x4 ex4 => ?_)
    have tx4 : 0 ≤ x4.toInt ∧ x4.toInt ≤ 255 := by rw [ex4]; exact i_and (m := 255) (b := 8) (by decide) (by decide)
    refine lv_goto (tgt := 22) hx hb dX12_see_18 (by decide) ?_
    exact W.iret (v := x4) hx hb hr (fun t ht hW => ⟨x4, rfl, (show x4.toInt = -1 ∨ (0 ≤ x4.toInt ∧ x4.toInt ≤ 255 ∧ p1.toInt ≤ 1599) from by (try simp only [i_lt, i_le, i_eq, Int32.toInt_toInt64, Int32.reduceToInt, Int64.reduceToInt, true_and, and_true, false_and, and_false, false_or, or_false, true_or, or_true, not_true_eq_false, not_false_eq_true, ne_eq, forall_const, true_implies, false_implies, implies_true] at g_p1 g1 c2 tx3 tx4 ⊢) <;> omega), ht⟩) (fun q h => by cases h) dX12_see_22
set_option maxHeartbeats 4000000 in
set_option maxRecDepth 100000 in
theorem t_X12_upOf (l : Launch) (D : va_G) (k : Nat → ClassId) (p1 : Int32) : Met l yX12_upOf wsX12_upOf ({ frames := 0, cells := 0, slots := 0, locals := 0 }) (PreR D k [] [.int p1]) (vp_Si (fun r => True)) 0 0 (fun _ => False) := by
  refine Met.ofW (cc := cX12_upOf) (maxL := 1) (ret := (some .int)) (by decide) rfl ?_
  intro p e s m args below meth c s₁ B hml hv
  obtain ⟨rfl, hP, hK⟩ := hv
  have hx := B.exec
  have hb := B.bytes
  have hr := B.returns
  have hts := atoms_spec (ws := wsX12_upOf) B.pre
  have hown : s.vm.findClass RX12 = some m.cls := findClass_of_methodNamed B.named
  have hlocks := B.notSynchronized
  have hl := lv_entry ([.int p1]) (n := 1) (Nat.le_of_ble_eq_true rfl)
  rw [lg_entry_eq]
  generalize (lg_sl ([.int p1]) ++ List.replicate (1 - (lg_sl ([.int p1])).length) Slot.unset).toArray = ls at hl ⊢
  have hl : lv_has ls 1 [(0, .int p1)] := hl
  refine lv_iload_n hx hb dX12_upOf_0 rfl (lv_at hl 0 rfl) ?_
  refine lv_iconst (v := 1) hx hb dX12_upOf_1 (by decide) ?_
  refine lv_icmp_ne (tgt := 9) hx hb dX12_upOf_2 (by decide) (fun c1 => ?_) (fun c1 => ?_)
  · refine lv_iload_n hx hb dX12_upOf_9 rfl (lv_at hl 0 rfl) ?_
    refine lv_iconst (v := 2) hx hb dX12_upOf_10 (by decide) ?_
    refine lv_icmp_ne (tgt := 18) hx hb dX12_upOf_11 (by decide) (fun c2 => ?_) (fun c2 => ?_)
    · refine lv_iconst (v := 0) hx hb dX12_upOf_18 (by decide) ?_
      exact W.iret (v := 0) hx hb hr (fun t ht hW => ⟨0, rfl, trivial, ht⟩) (fun q h => by cases h) dX12_upOf_19
    · refine lv_iconst (v := (-1)) hx hb dX12_upOf_14 (by decide) ?_
      refine lv_goto (tgt := 19) hx hb dX12_upOf_15 (by decide) ?_
      exact W.iret (v := (-1)) hx hb hr (fun t ht hW => ⟨(-1), rfl, trivial, ht⟩) (fun q h => by cases h) dX12_upOf_19
  · refine lv_iconst (v := 1) hx hb dX12_upOf_5 (by decide) ?_
    refine lv_goto (tgt := 19) hx hb dX12_upOf_6 (by decide) ?_
    exact W.iret (v := 1) hx hb hr (fun t ht hW => ⟨1, rfl, trivial, ht⟩) (fun q h => by cases h) dX12_upOf_19
set_option maxHeartbeats 4000000 in
set_option maxRecDepth 100000 in
theorem t_X12_wearIn (l : Launch) (D : va_G) (k : Nat → ClassId) (u : PSt) (hu : WT u) (h0 : Nat) (m_h0 : h0 ∈ u.1) (k_h0 : u.2.1 h0 = 12) (p1 : Int32) (g_p1 : 0 ≤ p1.toInt ∧ p1.toInt ≤ 1999) : Met l yX12_wearIn wsX12_wearIn ({ frames := 0, cells := 0, slots := 0, locals := 0 }) (PreR D k (PW k u) [.ref h0, .int p1]) (vp_Si (fun r => True)) 0 0 (fun _ => False) := by
  refine Met.ofW (cc := cX12_wearIn) (maxL := 4) (ret := (some .int)) (by decide) rfl ?_
  intro p e s m args below meth c s₁ B hml hv
  obtain ⟨rfl, hP, hK⟩ := hv
  have hx := B.exec
  have hb := B.bytes
  have hr := B.returns
  have hts := atoms_spec (ws := wsX12_wearIn) B.pre
  have hown : s.vm.findClass RX12 = some m.cls := findClass_of_methodNamed B.named
  have hlocks := B.notSynchronized
  have i_X12 : ∀ w ∈ wsX120, w ∈ wsX12_wearIn := by decide +kernel
  obtain ⟨a22, q0_22, m0_a22, k0_a22⟩ := (hu h0 m_h0).1 22 57 (by rw [k_h0]; rfl)
  obtain ⟨a24, q0_24, m0_a24, k0_a24⟩ := (hu h0 m_h0).1 24 58 (by rw [k_h0]; rfl)
  have m_a22 := m0_a22
  have m_a24 := m0_a24
  have k_a22 := k0_a22
  have k_a24 := k0_a24
  have hl := lv_entry ([.ref h0, .int p1]) (n := 4) (Nat.le_of_ble_eq_true rfl)
  rw [lg_entry_eq]
  generalize (lg_sl ([.ref h0, .int p1]) ++ List.replicate (4 - (lg_sl ([.ref h0, .int p1])).length) Slot.unset).toArray = ls at hl ⊢
  have hl : lv_has ls 4 [(0, .ref h0), (1, .int p1)] := hl
  refine lv_iload_n hx hb dX12_wearIn_0 rfl (lv_at hl 1 rfl) ?_
  refine lv_if_ne (tgt := 8) hx hb dX12_wearIn_1 (by decide) (fun c1 => ?_) (fun c1 => ?_)
  · refine lv_aload_n hx hb dX12_wearIn_8 rfl (lv_at hl 0 rfl) ?_
    refine pget (ci := 12) (v := va_rf (u.2.2.2.2 h0 22)) (C := RX12) (T := TX12) (N := 34) hx hb hts i_X12 hown hK hP m_h0 (cF12 k_h0) rfl 22 (by decide) (hts (.fieldLink RX12 49 "BellowsRowModel" "presses" "[I") (by decide +kernel)) (fun _ h9 => h9) rfl dX12_wearIn_9 ?_
    refine W.eq (g2 := F0 m 12 ls [.ref a22]) (by rw [q0_22]; rfl) ?_
    refine lv_iload_n hx hb dX12_wearIn_12 rfl (lv_at hl 1 rfl) ?_
    refine lv_iconst (v := 1) hx hb dX12_wearIn_13 (by decide) ?_
    refine lv_isub hx hb dX12_wearIn_14 ?_
    refine lv_topi (fun x2 ex2 => ?_)
    have tx2 : x2.toInt = p1.toInt - (1 : Int32).toInt := by rw [ex2]; exact i_sub (by (try simp only [i_lt, i_le, i_eq, Int32.toInt_toInt64, Int32.reduceToInt, Int64.reduceToInt, true_and, and_true, false_and, and_false, false_or, or_false, true_or, or_true, not_true_eq_false, not_false_eq_true, ne_eq, forall_const, true_implies, false_implies, implies_true] at g_p1 c1 ⊢) <;> omega) (by (try simp only [i_lt, i_le, i_eq, Int32.toInt_toInt64, Int32.reduceToInt, Int64.reduceToInt, true_and, and_true, false_and, and_false, false_or, or_false, true_or, or_true, not_true_eq_false, not_false_eq_true, ne_eq, forall_const, true_implies, false_implies, implies_true] at g_p1 c1 ⊢) <;> omega)
    refine palI hx hb hK hP m_a22 (cF57 k_a22) 1 rfl (vp_in_iff.mpr (by (try simp only [i_lt, i_le, i_eq, Int32.toInt_toInt64, Int32.reduceToInt, Int64.reduceToInt, true_and, and_true, false_and, and_false, false_or, or_false, true_or, or_true, not_true_eq_false, not_false_eq_true, ne_eq, forall_const, true_implies, false_implies, implies_true] at g_p1 c1 tx2 ⊢) <;> omega)) dX12_wearIn_15 ?_
    refine lv_topi (fun x3 ex3 => ?_)
    have tx3 : x3.toInt = (u.2.2.1 a22 (x2.toNatClampNeg)).toInt := congrArg Int32.toInt ex3
    have g4 : 0 ≤ x3.toInt ∧ x3.toInt ≤ 999 := by have g := (hu a22 m_a22).2.2.2 (x2.toNatClampNeg); rw [k_a22] at g; rw [show x3 = _ from ex3]; exact g
    refine lv_istore_n (lv' := [(2, .int x3), (0, .ref h0), (1, .int p1)]) hx hb dX12_wearIn_16 rfl hl (by decide) rfl (fun ls hl => ?_)
    refine lv_aload_n hx hb dX12_wearIn_17 rfl (lv_at hl 1 rfl) ?_
    refine pget (ci := 12) (v := va_rf (u.2.2.2.2 h0 24)) (C := RX12) (T := TX12) (N := 34) hx hb hts i_X12 hown hK hP m_h0 (cF12 k_h0) rfl 24 (by decide) (hts (.fieldLink RX12 52 "BellowsRowModel" "loads" "[I") (by decide +kernel)) (fun _ h9 => h9) rfl dX12_wearIn_18 ?_
    refine W.eq (g2 := F0 m 21 ls [.ref a24]) (by rw [q0_24]; rfl) ?_
    refine lv_aload_n hx hb dX12_wearIn_21 rfl (lv_at hl 1 rfl) ?_
    refine pget (ci := 12) (v := va_rf (u.2.2.2.2 h0 22)) (C := RX12) (T := TX12) (N := 34) hx hb hts i_X12 hown hK hP m_h0 (cF12 k_h0) rfl 22 (by decide) (hts (.fieldLink RX12 49 "BellowsRowModel" "presses" "[I") (by decide +kernel)) (fun _ h9 => h9) rfl dX12_wearIn_22 ?_
    refine W.eq (g2 := F0 m 25 ls [.ref a22, .ref a24]) (by rw [q0_22]; rfl) ?_
    refine lv_iload_n hx hb dX12_wearIn_25 rfl (lv_at hl 2 rfl) ?_
    refine palI hx hb hK hP m_a22 (cF57 k_a22) 1 rfl (vp_in_iff.mpr (by (try simp only [i_lt, i_le, i_eq, Int32.toInt_toInt64, Int32.reduceToInt, Int64.reduceToInt, true_and, and_true, false_and, and_false, false_or, or_false, true_or, or_true, not_true_eq_false, not_false_eq_true, ne_eq, forall_const, true_implies, false_implies, implies_true] at g_p1 c1 tx2 tx3 g4 ⊢) <;> omega)) dX12_wearIn_26 ?_
    refine lv_topi (fun x5 ex5 => ?_)
    have tx5 : x5.toInt = (u.2.2.1 a22 (p1.toNatClampNeg)).toInt := congrArg Int32.toInt ex5
    have g6 : 0 ≤ x5.toInt ∧ x5.toInt ≤ 999 := by have g := (hu a22 m_a22).2.2.2 (p1.toNatClampNeg); rw [k_a22] at g; rw [show x5 = _ from ex5]; exact g
    refine palI hx hb hK hP m_a24 (cF58 k_a24) 1 rfl (vp_in_iff.mpr (by (try simp only [i_lt, i_le, i_eq, Int32.toInt_toInt64, Int32.reduceToInt, Int64.reduceToInt, true_and, and_true, false_and, and_false, false_or, or_false, true_or, or_true, not_true_eq_false, not_false_eq_true, ne_eq, forall_const, true_implies, false_implies, implies_true] at g_p1 c1 tx2 tx3 g4 tx5 g6 ⊢) <;> omega)) dX12_wearIn_27 ?_
    refine lv_topi (fun x7 ex7 => ?_)
    have tx7 : x7.toInt = (u.2.2.1 a24 (x5.toNatClampNeg)).toInt := congrArg Int32.toInt ex7
    refine lv_istore_n (lv' := [(3, .int x7), (2, .int x3), (0, .ref h0), (1, .int p1)]) hx hb dX12_wearIn_28 rfl hl (by decide) rfl (fun ls hl => ?_)
    refine lv_aload_n hx hb dX12_wearIn_29 rfl (lv_at hl 2 rfl) ?_
    refine pget (ci := 12) (v := va_rf (u.2.2.2.2 h0 22)) (C := RX12) (T := TX12) (N := 34) hx hb hts i_X12 hown hK hP m_h0 (cF12 k_h0) rfl 22 (by decide) (hts (.fieldLink RX12 49 "BellowsRowModel" "presses" "[I") (by decide +kernel)) (fun _ h9 => h9) rfl dX12_wearIn_30 ?_
    refine W.eq (g2 := F0 m 33 ls [.ref a22]) (by rw [q0_22]; rfl) ?_
    refine lv_iload_n hx hb dX12_wearIn_33 rfl (lv_at hl 3 rfl) ?_
    refine palI hx hb hK hP m_a22 (cF57 k_a22) 1 rfl (vp_in_iff.mpr (by (try simp only [i_lt, i_le, i_eq, Int32.toInt_toInt64, Int32.reduceToInt, Int64.reduceToInt, true_and, and_true, false_and, and_false, false_or, or_false, true_or, or_true, not_true_eq_false, not_false_eq_true, ne_eq, forall_const, true_implies, false_implies, implies_true] at g_p1 c1 tx2 tx3 g4 tx5 g6 tx7 ⊢) <;> omega)) dX12_wearIn_34 ?_
    refine lv_topi (fun x8 ex8 => ?_)
    have tx8 : x8.toInt = (u.2.2.1 a22 (p1.toNatClampNeg)).toInt := congrArg Int32.toInt ex8
    have g9 : 0 ≤ x8.toInt ∧ x8.toInt ≤ 999 := by have g := (hu a22 m_a22).2.2.2 (p1.toNatClampNeg); rw [k_a22] at g; rw [show x8 = _ from ex8]; exact g
    refine lv_iload_n hx hb dX12_wearIn_35 rfl (lv_at hl 1 rfl) ?_
    refine lv_icmp_eq (tgt := 52) hx hb dX12_wearIn_36 (by decide) (fun c10 => ?_) (fun c10 => ?_)
    · refine lv_iconst (v := 0) hx hb dX12_wearIn_52 (by decide) ?_
      exact W.iret (v := 0) hx hb hr (fun t ht hW => ⟨0, rfl, trivial, ht⟩) (fun q h => by cases h) dX12_wearIn_53
    · refine lv_iload_n hx hb dX12_wearIn_39 rfl (lv_at hl 0 rfl) ?_
      refine lv_bipush (v := 49) hx hb dX12_wearIn_40 (by decide) ?_
      refine lv_icmp_le (tgt := 52) hx hb dX12_wearIn_42 (by decide) (fun c11 => ?_) (fun c11 => ?_)
      · refine lv_iconst (v := 0) hx hb dX12_wearIn_52 (by decide) ?_
        exact W.iret (v := 0) hx hb hr (fun t ht hW => ⟨0, rfl, trivial, ht⟩) (fun q h => by cases h) dX12_wearIn_53
      · refine lv_iload_n hx hb dX12_wearIn_45 rfl (lv_at hl 0 rfl) ?_
        refine lv_bipush (v := 49) hx hb dX12_wearIn_46 (by decide) ?_
        refine lv_isub hx hb dX12_wearIn_48 ?_
        have b12 := Int32.toInt_lt x7
        have ab12 := Int32.le_toInt x7
        refine lv_topi (fun x13 ex13 => ?_)
        have tx13 : x13.toInt = x7.toInt - (49 : Int32).toInt := by rw [ex13]; exact i_sub (by (try simp only [i_lt, i_le, i_eq, Int32.toInt_toInt64, Int32.reduceToInt, Int64.reduceToInt, true_and, and_true, false_and, and_false, false_or, or_false, true_or, or_true, not_true_eq_false, not_false_eq_true, ne_eq, forall_const, true_implies, false_implies, implies_true] at g_p1 c1 tx2 tx3 g4 tx5 g6 tx7 tx8 g9 c11 b12 ab12 ⊢) <;> omega) (by (try simp only [i_lt, i_le, i_eq, Int32.toInt_toInt64, Int32.reduceToInt, Int64.reduceToInt, true_and, and_true, false_and, and_false, false_or, or_false, true_or, or_true, not_true_eq_false, not_false_eq_true, ne_eq, forall_const, true_implies, false_implies, implies_true] at g_p1 c1 tx2 tx3 g4 tx5 g6 tx7 tx8 g9 c11 b12 ab12 ⊢) <;> omega)
        refine lv_goto (tgt := 53) hx hb dX12_wearIn_49 (by decide) ?_
        exact W.iret (v := x13) hx hb hr (fun t ht hW => ⟨x13, rfl, trivial, ht⟩) (fun q h => by cases h) dX12_wearIn_53
  · refine lv_iconst (v := 0) hx hb dX12_wearIn_4 (by decide) ?_
    refine lv_goto (tgt := 16) hx hb dX12_wearIn_5 (by decide) ?_
    refine lv_istore_n (lv' := [(2, .int 0), (0, .ref h0), (1, .int p1)]) hx hb dX12_wearIn_16 rfl hl (by decide) rfl (fun ls hl => ?_)
    refine lv_aload_n hx hb dX12_wearIn_17 rfl (lv_at hl 1 rfl) ?_
    refine pget (ci := 12) (v := va_rf (u.2.2.2.2 h0 24)) (C := RX12) (T := TX12) (N := 34) hx hb hts i_X12 hown hK hP m_h0 (cF12 k_h0) rfl 24 (by decide) (hts (.fieldLink RX12 52 "BellowsRowModel" "loads" "[I") (by decide +kernel)) (fun _ h9 => h9) rfl dX12_wearIn_18 ?_
    refine W.eq (g2 := F0 m 21 ls [.ref a24]) (by rw [q0_24]; rfl) ?_
    refine lv_aload_n hx hb dX12_wearIn_21 rfl (lv_at hl 1 rfl) ?_
    refine pget (ci := 12) (v := va_rf (u.2.2.2.2 h0 22)) (C := RX12) (T := TX12) (N := 34) hx hb hts i_X12 hown hK hP m_h0 (cF12 k_h0) rfl 22 (by decide) (hts (.fieldLink RX12 49 "BellowsRowModel" "presses" "[I") (by decide +kernel)) (fun _ h9 => h9) rfl dX12_wearIn_22 ?_
    refine W.eq (g2 := F0 m 25 ls [.ref a22, .ref a24]) (by rw [q0_22]; rfl) ?_
    refine lv_iload_n hx hb dX12_wearIn_25 rfl (lv_at hl 2 rfl) ?_
    refine palI hx hb hK hP m_a22 (cF57 k_a22) 1 rfl (vp_in_iff.mpr (by (try simp only [i_lt, i_le, i_eq, Int32.toInt_toInt64, Int32.reduceToInt, Int64.reduceToInt, true_and, and_true, false_and, and_false, false_or, or_false, true_or, or_true, not_true_eq_false, not_false_eq_true, ne_eq, forall_const, true_implies, false_implies, implies_true] at g_p1 c1 ⊢) <;> omega)) dX12_wearIn_26 ?_
    refine lv_topi (fun x14 ex14 => ?_)
    have tx14 : x14.toInt = (u.2.2.1 a22 (p1.toNatClampNeg)).toInt := congrArg Int32.toInt ex14
    have g15 : 0 ≤ x14.toInt ∧ x14.toInt ≤ 999 := by have g := (hu a22 m_a22).2.2.2 (p1.toNatClampNeg); rw [k_a22] at g; rw [show x14 = _ from ex14]; exact g
    refine palI hx hb hK hP m_a24 (cF58 k_a24) 1 rfl (vp_in_iff.mpr (by (try simp only [i_lt, i_le, i_eq, Int32.toInt_toInt64, Int32.reduceToInt, Int64.reduceToInt, true_and, and_true, false_and, and_false, false_or, or_false, true_or, or_true, not_true_eq_false, not_false_eq_true, ne_eq, forall_const, true_implies, false_implies, implies_true] at g_p1 c1 tx14 g15 ⊢) <;> omega)) dX12_wearIn_27 ?_
    refine lv_topi (fun x16 ex16 => ?_)
    have tx16 : x16.toInt = (u.2.2.1 a24 (x14.toNatClampNeg)).toInt := congrArg Int32.toInt ex16
    refine lv_istore_n (lv' := [(3, .int x16), (2, .int 0), (0, .ref h0), (1, .int p1)]) hx hb dX12_wearIn_28 rfl hl (by decide) rfl (fun ls hl => ?_)
    refine lv_aload_n hx hb dX12_wearIn_29 rfl (lv_at hl 2 rfl) ?_
    refine pget (ci := 12) (v := va_rf (u.2.2.2.2 h0 22)) (C := RX12) (T := TX12) (N := 34) hx hb hts i_X12 hown hK hP m_h0 (cF12 k_h0) rfl 22 (by decide) (hts (.fieldLink RX12 49 "BellowsRowModel" "presses" "[I") (by decide +kernel)) (fun _ h9 => h9) rfl dX12_wearIn_30 ?_
    refine W.eq (g2 := F0 m 33 ls [.ref a22]) (by rw [q0_22]; rfl) ?_
    refine lv_iload_n hx hb dX12_wearIn_33 rfl (lv_at hl 3 rfl) ?_
    refine palI hx hb hK hP m_a22 (cF57 k_a22) 1 rfl (vp_in_iff.mpr (by (try simp only [i_lt, i_le, i_eq, Int32.toInt_toInt64, Int32.reduceToInt, Int64.reduceToInt, true_and, and_true, false_and, and_false, false_or, or_false, true_or, or_true, not_true_eq_false, not_false_eq_true, ne_eq, forall_const, true_implies, false_implies, implies_true] at g_p1 c1 tx14 g15 tx16 ⊢) <;> omega)) dX12_wearIn_34 ?_
    refine lv_topi (fun x17 ex17 => ?_)
    have tx17 : x17.toInt = (u.2.2.1 a22 (p1.toNatClampNeg)).toInt := congrArg Int32.toInt ex17
    have g18 : 0 ≤ x17.toInt ∧ x17.toInt ≤ 999 := by have g := (hu a22 m_a22).2.2.2 (p1.toNatClampNeg); rw [k_a22] at g; rw [show x17 = _ from ex17]; exact g
    refine lv_iload_n hx hb dX12_wearIn_35 rfl (lv_at hl 1 rfl) ?_
    refine lv_icmp_eq (tgt := 52) hx hb dX12_wearIn_36 (by decide) (fun c19 => ?_) (fun c19 => ?_)
    · refine lv_iconst (v := 0) hx hb dX12_wearIn_52 (by decide) ?_
      exact W.iret (v := 0) hx hb hr (fun t ht hW => ⟨0, rfl, trivial, ht⟩) (fun q h => by cases h) dX12_wearIn_53
    · refine lv_iload_n hx hb dX12_wearIn_39 rfl (lv_at hl 0 rfl) ?_
      refine lv_bipush (v := 49) hx hb dX12_wearIn_40 (by decide) ?_
      refine lv_icmp_le (tgt := 52) hx hb dX12_wearIn_42 (by decide) (fun c20 => ?_) (fun c20 => ?_)
      · refine lv_iconst (v := 0) hx hb dX12_wearIn_52 (by decide) ?_
        exact W.iret (v := 0) hx hb hr (fun t ht hW => ⟨0, rfl, trivial, ht⟩) (fun q h => by cases h) dX12_wearIn_53
      · refine lv_iload_n hx hb dX12_wearIn_45 rfl (lv_at hl 0 rfl) ?_
        refine lv_bipush (v := 49) hx hb dX12_wearIn_46 (by decide) ?_
        refine lv_isub hx hb dX12_wearIn_48 ?_
        have b21 := Int32.toInt_lt x16
        have ab21 := Int32.le_toInt x16
        refine lv_topi (fun x22 ex22 => ?_)
        have tx22 : x22.toInt = x16.toInt - (49 : Int32).toInt := by rw [ex22]; exact i_sub (by (try simp only [i_lt, i_le, i_eq, Int32.toInt_toInt64, Int32.reduceToInt, Int64.reduceToInt, true_and, and_true, false_and, and_false, false_or, or_false, true_or, or_true, not_true_eq_false, not_false_eq_true, ne_eq, forall_const, true_implies, false_implies, implies_true] at g_p1 c1 tx14 g15 tx16 tx17 g18 c19 c20 b21 ab21 ⊢) <;> omega) (by (try simp only [i_lt, i_le, i_eq, Int32.toInt_toInt64, Int32.reduceToInt, Int64.reduceToInt, true_and, and_true, false_and, and_false, false_or, or_false, true_or, or_true, not_true_eq_false, not_false_eq_true, ne_eq, forall_const, true_implies, false_implies, implies_true] at g_p1 c1 tx14 g15 tx16 tx17 g18 c19 c20 b21 ab21 ⊢) <;> omega)
        refine lv_goto (tgt := 53) hx hb dX12_wearIn_49 (by decide) ?_
        exact W.iret (v := x22) hx hb hr (fun t ht hW => ⟨x22, rfl, trivial, ht⟩) (fun q h => by cases h) dX12_wearIn_53
