set_option maxHeartbeats 4000000 in
set_option maxRecDepth 100000 in
theorem t_X12_livesOf (l : Launch) (D : va_G) (k : Nat → ClassId) (u : PSt) (hu : WT u) (h0 : Nat) (m_h0 : h0 ∈ u.1) (k_h0 : u.2.1 h0 = 12) (p1 : Int32) (p2 : Int32) (g_p1 : 0 ≤ p1.toInt ∧ p1.toInt ≤ 11) (g_p2 : 0 ≤ p2.toInt ∧ p2.toInt ≤ 1999) : Met l yX12_livesOf wsX12_livesOf ({ frames := 4, cells := 0, slots := 0, locals := 101 }) (PreR D k (PW k u) [.ref h0, .int p1, .int p2]) (vp_Si (fun r => True)) 0 0 (fun _ => False) := by
  refine Met.ofW (cc := cX12_livesOf) (maxL := 7) (ret := (some .int)) (by decide) rfl ?_
  intro p e s m args below meth c s₁ B hml hv
  obtain ⟨rfl, hP, hK⟩ := hv
  have hx := B.exec
  have hb := B.bytes
  have hr := B.returns
  have hts := atoms_spec (ws := wsX12_livesOf) B.pre
  have hown : s.vm.findClass RX12 = some m.cls := findClass_of_methodNamed B.named
  have hlocks := B.notSynchronized
  have i_X12 : ∀ w ∈ wsX120, w ∈ wsX12_livesOf := by decide +kernel
  obtain ⟨a1, q0_1, m0_a1, k0_a1⟩ := (hu h0 m_h0).1 1 50 (by rw [k_h0]; rfl)
  have m_a1 := m0_a1
  have k_a1 := k0_a1
  have B48 : ∀ (n48 : Nat) (ls : Array Slot) (v3 : Int32) (v4 : Int32) (v5 : Int32) (v6 : Int32), (2147483648 - v6.toInt).toNat ≤ n48 → 0 ≤ v4.toInt ∧ v4.toInt ≤ 1 → 0 ≤ v6.toInt ∧ v6.toInt ≤ 12 → lv_has ls 7 [(0, .ref h0), (3, .int v3), (4, .int v4), (5, .int v5), (6, .int v6)] → W p l e (headSpec wsX12_livesOf ({ frames := 4, cells := 0, slots := 0, locals := 101 })).room s m ([.ref h0, .int p1, .int p2] : List Value).toArray below meth c s.heap [] 0 0 (MQ below (vp_Si (fun r => True)) ([.ref h0, .int p1, .int p2] : List Value).toArray s 0 0 (fun _ => False)) (F0 m 48 ls []) := by
    intro n48
    induction n48 with
    | zero =>
      intro ls v3 v4 v5 v6 hn48 g_v4 g_v6 hl
      exact absurd hn48 (by have := Int32.toInt_lt v6; have := Int32.le_toInt v6; omega)
    | succ n48 ih48 =>
      intro ls v3 v4 v5 v6 hn48 g_v4 g_v6 hl
      refine lv_iload hx hb dX12_livesOf_48 (lv_at hl 4 rfl) ?_
      refine lv_aload_n hx hb dX12_livesOf_50 rfl (lv_at hl 0 rfl) ?_
      refine pget (ci := 12) (v := va_rf (u.2.2.2.2 h0 1)) (C := RX12) (T := TX12) (N := 34) hx hb hts i_X12 hown hK hP m_h0 (cF12 k_h0) rfl 1 (by decide) (hts (.fieldLink RX12 13 "BellowsRowModel" "world" "[I") (by decide +kernel)) (fun _ h9 => h9) rfl dX12_livesOf_51 ?_
      refine W.eq (g2 := F0 m 54 ls [.ref a1, .int v6]) (by rw [q0_1]; rfl) ?_
      refine lv_iconst (v := 3) hx hb dX12_livesOf_54 (by decide) ?_
      refine palI hx hb hK hP m_a1 (cF50 k_a1) 1 rfl (vp_in_iff.mpr (by decide)) dX12_livesOf_55 ?_
      refine lv_topi (fun x1 ex1 => ?_)
      have tx1 : x1.toInt = (u.2.2.1 a1 3).toInt := congrArg Int32.toInt ex1
      have g2 : 0 ≤ x1.toInt ∧ x1.toInt ≤ 12 := by have g : okI (u.2.1 a1) (3) (u.2.2.1 a1 (3)) := (hu a1 m_a1).2.2.2 (3); rw [k_a1, ← (show x1 = u.2.2.1 a1 (3) from ex1)] at g; have g : okW (3) x1 := g; unfold okW at g; (try simp only [i_lt, i_le, i_eq, Int32.toInt_toInt64, Int32.reduceToInt, Int64.reduceToInt, true_and, and_true, false_and, and_false, false_or, or_false, true_or, or_true, not_true_eq_false, not_false_eq_true, ne_eq, forall_const, true_implies, false_implies, implies_true] at g_v4 g_v6 hn48 tx1 g ⊢) <;> omega
      refine lv_icmp_ge (tgt := 99) hx hb dX12_livesOf_56 (by decide) (fun c3 => ?_) (fun c3 => ?_)
      · refine lv_iload hx hb dX12_livesOf_99 (lv_at hl 3 rfl) ?_
        exact W.iret (v := v5) hx hb hr (fun t ht hW => ⟨v5, rfl, trivial, ht⟩) (fun q h => by cases h) dX12_livesOf_101
      · refine lv_iload hx hb dX12_livesOf_59 (lv_at hl 3 rfl) ?_
        refine lv_iload_n hx hb dX12_livesOf_61 rfl (lv_at hl 1 rfl) ?_
        refine lv_iload hx hb dX12_livesOf_62 (lv_at hl 4 rfl) ?_
        refine psi (As := [.int v3, .int v6]) (rest := [.int v5]) ⟨hx, hb, hml, hown, hts⟩ (t_X12_holds l D k v3 v6) (va_cwS 2 hts gX12_livesOf_X12_holds rfl rfl rfl (by decide +kernel) ⟨Nat.le_of_ble_eq_true rfl, Nat.le_of_ble_eq_true rfl⟩) hK rfl hl.1 rfl (Nat.le_of_ble_eq_true rfl) dX12_livesOf_64 ⟨Nat.le_of_ble_eq_true rfl, Nat.le_of_ble_eq_true rfl⟩ (fun r4 hr4 => ?_)
        refine lv_if_eq (tgt := 89) hx hb dX12_livesOf_67 (by decide) (fun c5 => ?_) (fun c5 => ?_)
        · refine lv_iconst (v := 0) hx hb dX12_livesOf_89 (by decide) ?_
          refine lv_iadd hx hb dX12_livesOf_90 ?_
          refine lv_topi (fun x6 ex6 => ?_)
          refine lv_istore (lv' := [(5, .int x6), (0, .ref h0), (3, .int v3), (4, .int v4), (6, .int v6)]) hx hb dX12_livesOf_91 hl (by decide) rfl (fun ls hl => ?_)
          obtain ⟨x7, ex7⟩ : ∃ y : Int32, y = v6 + 1 := ⟨_, rfl⟩
          have tx7 : x7.toInt = v6.toInt + 1 := by rw [ex7]; exact i_add (b := 1) (by (try simp only [i_lt, i_le, i_eq, Int32.toInt_toInt64, Int32.reduceToInt, Int64.reduceToInt, true_and, and_true, false_and, and_false, false_or, or_false, true_or, or_true, not_true_eq_false, not_false_eq_true, ne_eq, forall_const, true_implies, false_implies, implies_true] at g_v4 g_v6 hn48 tx1 g2 c3 hr4 c5 ⊢) <;> omega) (by (try simp only [i_lt, i_le, i_eq, Int32.toInt_toInt64, Int32.reduceToInt, Int64.reduceToInt, true_and, and_true, false_and, and_false, false_or, or_false, true_or, or_true, not_true_eq_false, not_false_eq_true, ne_eq, forall_const, true_implies, false_implies, implies_true] at g_v4 g_v6 hn48 tx1 g2 c3 hr4 c5 ⊢) <;> omega)
          refine lv_iinc (v := x7) (lv' := [(6, .int x7), (5, .int x6), (0, .ref h0), (3, .int v3), (4, .int v4)]) hx hb dX12_livesOf_93 hl (k := 4) rfl (by rw [ex7]; rfl) (by decide) rfl (fun ls hl => ?_)
          refine lv_goto (tgt := 48) hx hb dX12_livesOf_96 (by decide) ?_
          exact ih48 ls v3 v4 x6 x7 (by (try simp only [i_lt, i_le, i_eq, Int32.toInt_toInt64, Int32.reduceToInt, Int64.reduceToInt, true_and, and_true, false_and, and_false, false_or, or_false, true_or, or_true, not_true_eq_false, not_false_eq_true, ne_eq, forall_const, true_implies, false_implies, implies_true] at g_v4 g_v6 hn48 tx1 g2 c3 hr4 c5 tx7 ⊢) <;> omega) (by (try simp only [i_lt, i_le, i_eq, Int32.toInt_toInt64, Int32.reduceToInt, Int64.reduceToInt, true_and, and_true, false_and, and_false, false_or, or_false, true_or, or_true, not_true_eq_false, not_false_eq_true, ne_eq, forall_const, true_implies, false_implies, implies_true] at g_v4 g_v6 hn48 tx1 g2 c3 hr4 c5 tx7 ⊢) <;> omega) (by (try simp only [i_lt, i_le, i_eq, Int32.toInt_toInt64, Int32.reduceToInt, Int64.reduceToInt, true_and, and_true, false_and, and_false, false_or, or_false, true_or, or_true, not_true_eq_false, not_false_eq_true, ne_eq, forall_const, true_implies, false_implies, implies_true] at g_v4 g_v6 hn48 tx1 g2 c3 hr4 c5 tx7 ⊢) <;> omega) (lv_sub hl [2, 3, 4, 1, 0] rfl)
        · refine lv_aload_n hx hb dX12_livesOf_70 rfl (lv_at hl 0 rfl) ?_
          refine lv_iload hx hb dX12_livesOf_71 (lv_at hl 4 rfl) ?_
          refine lv_iload hx hb dX12_livesOf_73 (lv_at hl 2 rfl) ?_
          refine lv_if_eq (tgt := 82) hx hb dX12_livesOf_75 (by decide) (fun c8 => ?_) (fun c8 => ?_)
          · refine lv_iconst (v := 3) hx hb dX12_livesOf_82 (by decide) ?_
            refine rvi (C := RX12) (As := [.int v6, .int 3]) (rest := [.int v5]) ⟨hx, hb, hml, hown, hts⟩ (t_X12_ofRoom l D k u hu h0 m_h0 k_h0 v6 3 (by (try simp only [i_lt, i_le, i_eq, Int32.toInt_toInt64, Int32.reduceToInt, Int64.reduceToInt, true_and, and_true, false_and, and_false, false_or, or_false, true_or, or_true, not_true_eq_false, not_false_eq_true, ne_eq, forall_const, true_implies, false_implies, implies_true] at g_v4 g_v6 hn48 tx1 g2 c3 hr4 c5 c8 ⊢) <;> omega) (by decide)) (cwV 2 hts gX12_livesOf_X12_ofRoom rfl rfl rfl (by decide +kernel) ⟨Nat.le_of_ble_eq_true rfl, Nat.le_of_ble_eq_true rfl⟩) hP hK (precv hK hP m_h0 (cF12 k_h0) rfl) rfl hl.1 rfl (Nat.le_of_ble_eq_true rfl) dX12_livesOf_83 ⟨Nat.le_of_ble_eq_true rfl, Nat.le_of_ble_eq_true rfl⟩ (fun r9 hr9 => ?_)
            refine lv_goto (tgt := 90) hx hb dX12_livesOf_86 (by decide) ?_
            refine lv_iadd hx hb dX12_livesOf_90 ?_
            refine lv_topi (fun x10 ex10 => ?_)
            refine lv_istore (lv' := [(5, .int x10), (0, .ref h0), (3, .int v3), (4, .int v4), (6, .int v6)]) hx hb dX12_livesOf_91 hl (by decide) rfl (fun ls hl => ?_)
            obtain ⟨x11, ex11⟩ : ∃ y : Int32, y = v6 + 1 := ⟨_, rfl⟩
            have tx11 : x11.toInt = v6.toInt + 1 := by rw [ex11]; exact i_add (b := 1) (by (try simp only [i_lt, i_le, i_eq, Int32.toInt_toInt64, Int32.reduceToInt, Int64.reduceToInt, true_and, and_true, false_and, and_false, false_or, or_false, true_or, or_true, not_true_eq_false, not_false_eq_true, ne_eq, forall_const, true_implies, false_implies, implies_true] at g_v4 g_v6 hn48 tx1 g2 c3 hr4 c5 c8 ⊢) <;> omega) (by (try simp only [i_lt, i_le, i_eq, Int32.toInt_toInt64, Int32.reduceToInt, Int64.reduceToInt, true_and, and_true, false_and, and_false, false_or, or_false, true_or, or_true, not_true_eq_false, not_false_eq_true, ne_eq, forall_const, true_implies, false_implies, implies_true] at g_v4 g_v6 hn48 tx1 g2 c3 hr4 c5 c8 ⊢) <;> omega)
            refine lv_iinc (v := x11) (lv' := [(6, .int x11), (5, .int x10), (0, .ref h0), (3, .int v3), (4, .int v4)]) hx hb dX12_livesOf_93 hl (k := 4) rfl (by rw [ex11]; rfl) (by decide) rfl (fun ls hl => ?_)
            refine lv_goto (tgt := 48) hx hb dX12_livesOf_96 (by decide) ?_
            exact ih48 ls v3 v4 x10 x11 (by (try simp only [i_lt, i_le, i_eq, Int32.toInt_toInt64, Int32.reduceToInt, Int64.reduceToInt, true_and, and_true, false_and, and_false, false_or, or_false, true_or, or_true, not_true_eq_false, not_false_eq_true, ne_eq, forall_const, true_implies, false_implies, implies_true] at g_v4 g_v6 hn48 tx1 g2 c3 hr4 c5 c8 tx11 ⊢) <;> omega) (by (try simp only [i_lt, i_le, i_eq, Int32.toInt_toInt64, Int32.reduceToInt, Int64.reduceToInt, true_and, and_true, false_and, and_false, false_or, or_false, true_or, or_true, not_true_eq_false, not_false_eq_true, ne_eq, forall_const, true_implies, false_implies, implies_true] at g_v4 g_v6 hn48 tx1 g2 c3 hr4 c5 c8 tx11 ⊢) <;> omega) (by (try simp only [i_lt, i_le, i_eq, Int32.toInt_toInt64, Int32.reduceToInt, Int64.reduceToInt, true_and, and_true, false_and, and_false, false_or, or_false, true_or, or_true, not_true_eq_false, not_false_eq_true, ne_eq, forall_const, true_implies, false_implies, implies_true] at g_v4 g_v6 hn48 tx1 g2 c3 hr4 c5 c8 tx11 ⊢) <;> omega) (lv_sub hl [2, 3, 4, 1, 0] rfl)
          · refine lv_iconst (v := 2) hx hb dX12_livesOf_78 (by decide) ?_
            refine lv_goto (tgt := 83) hx hb dX12_livesOf_79 (by decide) ?_
            refine rvi (C := RX12) (As := [.int v6, .int 2]) (rest := [.int v5]) ⟨hx, hb, hml, hown, hts⟩ (t_X12_ofRoom l D k u hu h0 m_h0 k_h0 v6 2 (by (try simp only [i_lt, i_le, i_eq, Int32.toInt_toInt64, Int32.reduceToInt, Int64.reduceToInt, true_and, and_true, false_and, and_false, false_or, or_false, true_or, or_true, not_true_eq_false, not_false_eq_true, ne_eq, forall_const, true_implies, false_implies, implies_true] at g_v4 g_v6 hn48 tx1 g2 c3 hr4 c5 c8 ⊢) <;> omega) (by decide)) (cwV 2 hts gX12_livesOf_X12_ofRoom rfl rfl rfl (by decide +kernel) ⟨Nat.le_of_ble_eq_true rfl, Nat.le_of_ble_eq_true rfl⟩) hP hK (precv hK hP m_h0 (cF12 k_h0) rfl) rfl hl.1 rfl (Nat.le_of_ble_eq_true rfl) dX12_livesOf_83 ⟨Nat.le_of_ble_eq_true rfl, Nat.le_of_ble_eq_true rfl⟩ (fun r12 hr12 => ?_)
            refine lv_goto (tgt := 90) hx hb dX12_livesOf_86 (by decide) ?_
            refine lv_iadd hx hb dX12_livesOf_90 ?_
            refine lv_topi (fun x13 ex13 => ?_)
            refine lv_istore (lv' := [(5, .int x13), (0, .ref h0), (3, .int v3), (4, .int v4), (6, .int v6)]) hx hb dX12_livesOf_91 hl (by decide) rfl (fun ls hl => ?_)
            obtain ⟨x14, ex14⟩ : ∃ y : Int32, y = v6 + 1 := ⟨_, rfl⟩
            have tx14 : x14.toInt = v6.toInt + 1 := by rw [ex14]; exact i_add (b := 1) (by (try simp only [i_lt, i_le, i_eq, Int32.toInt_toInt64, Int32.reduceToInt, Int64.reduceToInt, true_and, and_true, false_and, and_false, false_or, or_false, true_or, or_true, not_true_eq_false, not_false_eq_true, ne_eq, forall_const, true_implies, false_implies, implies_true] at g_v4 g_v6 hn48 tx1 g2 c3 hr4 c5 c8 ⊢) <;> omega) (by (try simp only [i_lt, i_le, i_eq, Int32.toInt_toInt64, Int32.reduceToInt, Int64.reduceToInt, true_and, and_true, false_and, and_false, false_or, or_false, true_or, or_true, not_true_eq_false, not_false_eq_true, ne_eq, forall_const, true_implies, false_implies, implies_true] at g_v4 g_v6 hn48 tx1 g2 c3 hr4 c5 c8 ⊢) <;> omega)
            refine lv_iinc (v := x14) (lv' := [(6, .int x14), (5, .int x13), (0, .ref h0), (3, .int v3), (4, .int v4)]) hx hb dX12_livesOf_93 hl (k := 4) rfl (by rw [ex14]; rfl) (by decide) rfl (fun ls hl => ?_)
            refine lv_goto (tgt := 48) hx hb dX12_livesOf_96 (by decide) ?_
            exact ih48 ls v3 v4 x13 x14 (by (try simp only [i_lt, i_le, i_eq, Int32.toInt_toInt64, Int32.reduceToInt, Int64.reduceToInt, true_and, and_true, false_and, and_false, false_or, or_false, true_or, or_true, not_true_eq_false, not_false_eq_true, ne_eq, forall_const, true_implies, false_implies, implies_true] at g_v4 g_v6 hn48 tx1 g2 c3 hr4 c5 c8 tx14 ⊢) <;> omega) (by (try simp only [i_lt, i_le, i_eq, Int32.toInt_toInt64, Int32.reduceToInt, Int64.reduceToInt, true_and, and_true, false_and, and_false, false_or, or_false, true_or, or_true, not_true_eq_false, not_false_eq_true, ne_eq, forall_const, true_implies, false_implies, implies_true] at g_v4 g_v6 hn48 tx1 g2 c3 hr4 c5 c8 tx14 ⊢) <;> omega) (by (try simp only [i_lt, i_le, i_eq, Int32.toInt_toInt64, Int32.reduceToInt, Int64.reduceToInt, true_and, and_true, false_and, and_false, false_or, or_false, true_or, or_true, not_true_eq_false, not_false_eq_true, ne_eq, forall_const, true_implies, false_implies, implies_true] at g_v4 g_v6 hn48 tx1 g2 c3 hr4 c5 c8 tx14 ⊢) <;> omega) (lv_sub hl [2, 3, 4, 1, 0] rfl)
  have hl := lv_entry ([.ref h0, .int p1, .int p2]) (n := 7) (Nat.le_of_ble_eq_true rfl)
  rw [lg_entry_eq]
  generalize (lg_sl ([.ref h0, .int p1, .int p2]) ++ List.replicate (7 - (lg_sl ([.ref h0, .int p1, .int p2])).length) Slot.unset).toArray = ls at hl ⊢
  have hl : lv_has ls 7 [(0, .ref h0), (1, .int p1), (2, .int p2)] := hl
  refine lv_aload_n hx hb dX12_livesOf_0 rfl (lv_at hl 0 rfl) ?_
  refine lv_iload_n hx hb dX12_livesOf_1 rfl (lv_at hl 1 rfl) ?_
  refine lv_iload_n hx hb dX12_livesOf_2 rfl (lv_at hl 2 rfl) ?_
  refine rvi (C := RX12) (As := [.int p1, .int p2]) (rest := []) ⟨hx, hb, hml, hown, hts⟩ (t_X12_takenOf l D k u hu h0 m_h0 k_h0 p1 p2 (by (try simp only [i_lt, i_le, i_eq, Int32.toInt_toInt64, Int32.reduceToInt, Int64.reduceToInt, true_and, and_true, false_and, and_false, false_or, or_false, true_or, or_true, not_true_eq_false, not_false_eq_true, ne_eq, forall_const, true_implies, false_implies, implies_true] at g_p1 g_p2 ⊢) <;> omega) (by (try simp only [i_lt, i_le, i_eq, Int32.toInt_toInt64, Int32.reduceToInt, Int64.reduceToInt, true_and, and_true, false_and, and_false, false_or, or_false, true_or, or_true, not_true_eq_false, not_false_eq_true, ne_eq, forall_const, true_implies, false_implies, implies_true] at g_p1 g_p2 ⊢) <;> omega)) (cwV 2 hts gX12_livesOf_X12_takenOf rfl rfl rfl (by decide +kernel) ⟨Nat.le_of_ble_eq_true rfl, Nat.le_of_ble_eq_true rfl⟩) hP hK (precv hK hP m_h0 (cF12 k_h0) rfl) rfl hl.1 rfl (Nat.le_of_ble_eq_true rfl) dX12_livesOf_3 ⟨Nat.le_of_ble_eq_true rfl, Nat.le_of_ble_eq_true rfl⟩ (fun r15 hr15 => ?_)
  refine lv_istore_n (lv' := [(3, .int r15), (0, .ref h0), (1, .int p1), (2, .int p2)]) hx hb dX12_livesOf_6 rfl hl (by decide) rfl (fun ls hl => ?_)
  refine lv_iload_n hx hb dX12_livesOf_7 rfl (lv_at hl 3 rfl) ?_
  refine lv_bipush (v := 24) hx hb dX12_livesOf_8 (by decide) ?_
  refine lv_irem hx hb dX12_livesOf_10 (by decide) ?_
  refine lv_topi (fun x16 ex16 => ?_)
  have tx16 : x16.toInt = p2.toInt % 24 := by rw [ex16]; exact i_rem (d := 24) (by (try simp only [i_lt, i_le, i_eq, Int32.toInt_toInt64, Int32.reduceToInt, Int64.reduceToInt, true_and, and_true, false_and, and_false, false_or, or_false, true_or, or_true, not_true_eq_false, not_false_eq_true, ne_eq, forall_const, true_implies, false_implies, implies_true] at g_p1 g_p2 ⊢) <;> omega) (by decide) (by decide)
  refine lv_i2l hx hb dX12_livesOf_11 rfl ?_
  refine lv_topl (fun x17 ex17 => ?_)
  have tx17 : x17.toInt = x16.toInt := by rw [ex17]; exact Int32.toInt_toInt64 _
  refine lv_ldc2 (own := RX12) (v := 8) hx hb hown (hts (.constantLong RX12 406 (8)) (by decide +kernel)) dX12_livesOf_12 ?_
  refine lv_ldc2 (own := RX12) (v := 16) hx hb hown (hts (.constantLong RX12 439 (16)) (by decide +kernel)) dX12_livesOf_15 ?_
  refine psi (As := [.long x17, .long 8, .long 16]) (rest := []) ⟨hx, hb, hml, hown, hts⟩ (t_X12_in l D k x17 8 16) (va_cwS 3 hts gX12_livesOf_X12_in rfl rfl rfl (by decide +kernel) ⟨Nat.le_of_ble_eq_true rfl, Nat.le_of_ble_eq_true rfl⟩) hK rfl hl.1 rfl (Nat.le_of_ble_eq_true rfl) dX12_livesOf_18 ⟨Nat.le_of_ble_eq_true rfl, Nat.le_of_ble_eq_true rfl⟩ (fun r18 hr18 => ?_)
  refine lv_if_eq (tgt := 39) hx hb dX12_livesOf_21 (by decide) (fun c19 => ?_) (fun c19 => ?_)
  · have eb20 : r18.toInt = 0 := by rcases hr18 with ⟨q, -⟩ | ⟨q, -⟩; exact q; (exact absurd (c19) (fun w => by rw [w] at q; exact absurd q (by decide)))
    have fb20 : (x17.toInt < (8 : Int64).toInt ∨ (16 : Int64).toInt < x17.toInt) := by rcases hr18 with ⟨q, r⟩ | ⟨q, r⟩; exact r; exact absurd q (by omega)
    clear hr18
    refine lv_iconst (v := 0) hx hb dX12_livesOf_39 (by decide) ?_
    refine lv_istore (lv' := [(4, .int 0), (3, .int r15), (0, .ref h0), (1, .int p1), (2, .int p2)]) hx hb dX12_livesOf_40 hl (by decide) rfl (fun ls hl => ?_)
    refine lv_iconst (v := 0) hx hb dX12_livesOf_42 (by decide) ?_
    refine lv_istore (lv' := [(5, .int 0), (4, .int 0), (3, .int r15), (0, .ref h0), (1, .int p1), (2, .int p2)]) hx hb dX12_livesOf_43 hl (by decide) rfl (fun ls hl => ?_)
    refine lv_iconst (v := 0) hx hb dX12_livesOf_45 (by decide) ?_
    refine lv_istore (lv' := [(6, .int 0), (5, .int 0), (4, .int 0), (3, .int r15), (0, .ref h0), (1, .int p1), (2, .int p2)]) hx hb dX12_livesOf_46 hl (by decide) rfl (fun ls hl => ?_)
    exact B48 _ ls r15 0 0 0 (Nat.le_refl _) (by (try simp only [i_lt, i_le, i_eq, Int32.toInt_toInt64, Int32.reduceToInt, Int64.reduceToInt, true_and, and_true, false_and, and_false, false_or, or_false, true_or, or_true, not_true_eq_false, not_false_eq_true, ne_eq, forall_const, true_implies, false_implies, implies_true] at g_p1 g_p2 tx16 tx17 eb20 fb20 ⊢) <;> omega) (by (try simp only [i_lt, i_le, i_eq, Int32.toInt_toInt64, Int32.reduceToInt, Int64.reduceToInt, true_and, and_true, false_and, and_false, false_or, or_false, true_or, or_true, not_true_eq_false, not_false_eq_true, ne_eq, forall_const, true_implies, false_implies, implies_true] at g_p1 g_p2 tx16 tx17 eb20 fb20 ⊢) <;> omega) (lv_sub hl [4, 3, 2, 1, 0] rfl)
  · have eb21 : r18.toInt = 1 := by rcases hr18 with ⟨q, -⟩ | ⟨q, -⟩; exact absurd (i_eq.mpr q) c19; exact q
    have fb21 : (8 : Int64).toInt ≤ x17.toInt ∧ x17.toInt ≤ (16 : Int64).toInt := by rcases hr18 with ⟨q, r⟩ | ⟨q, r⟩; exact absurd q (by omega); exact r
    clear hr18
    refine lv_iload_n hx hb dX12_livesOf_24 rfl (lv_at hl 3 rfl) ?_
    refine lv_bipush (v := 24) hx hb dX12_livesOf_25 (by decide) ?_
    refine lv_idiv hx hb dX12_livesOf_27 (by decide) ?_
    refine lv_topi (fun x22 ex22 => ?_)
    have tx22 : x22.toInt = p2.toInt / 24 := by rw [ex22]; exact i_div (d := 24) (by (try simp only [i_lt, i_le, i_eq, Int32.toInt_toInt64, Int32.reduceToInt, Int64.reduceToInt, true_and, and_true, false_and, and_false, false_or, or_false, true_or, or_true, not_true_eq_false, not_false_eq_true, ne_eq, forall_const, true_implies, false_implies, implies_true] at g_p1 g_p2 tx16 tx17 eb21 fb21 ⊢) <;> omega) (by decide) (by decide)
    refine lv_bipush (v := 7) hx hb dX12_livesOf_28 (by decide) ?_
    refine lv_irem hx hb dX12_livesOf_30 (by decide) ?_
    refine lv_topi (fun x23 ex23 => ?_)
    have tx23 : x23.toInt = x22.toInt % 7 := by rw [ex23]; exact i_rem (d := 7) (by (try simp only [i_lt, i_le, i_eq, Int32.toInt_toInt64, Int32.reduceToInt, Int64.reduceToInt, true_and, and_true, false_and, and_false, false_or, or_false, true_or, or_true, not_true_eq_false, not_false_eq_true, ne_eq, forall_const, true_implies, false_implies, implies_true] at g_p1 g_p2 tx16 tx17 eb21 fb21 tx22 ⊢) <;> omega) (by decide) (by decide)
    refine lv_iconst (v := 5) hx hb dX12_livesOf_31 (by decide) ?_
    refine lv_icmp_ge (tgt := 39) hx hb dX12_livesOf_32 (by decide) (fun c24 => ?_) (fun c24 => ?_)
    · refine lv_iconst (v := 0) hx hb dX12_livesOf_39 (by decide) ?_
      refine lv_istore (lv' := [(4, .int 0), (3, .int r15), (0, .ref h0), (1, .int p1), (2, .int p2)]) hx hb dX12_livesOf_40 hl (by decide) rfl (fun ls hl => ?_)
      refine lv_iconst (v := 0) hx hb dX12_livesOf_42 (by decide) ?_
      refine lv_istore (lv' := [(5, .int 0), (4, .int 0), (3, .int r15), (0, .ref h0), (1, .int p1), (2, .int p2)]) hx hb dX12_livesOf_43 hl (by decide) rfl (fun ls hl => ?_)
      refine lv_iconst (v := 0) hx hb dX12_livesOf_45 (by decide) ?_
      refine lv_istore (lv' := [(6, .int 0), (5, .int 0), (4, .int 0), (3, .int r15), (0, .ref h0), (1, .int p1), (2, .int p2)]) hx hb dX12_livesOf_46 hl (by decide) rfl (fun ls hl => ?_)
      exact B48 _ ls r15 0 0 0 (Nat.le_refl _) (by (try simp only [i_lt, i_le, i_eq, Int32.toInt_toInt64, Int32.reduceToInt, Int64.reduceToInt, true_and, and_true, false_and, and_false, false_or, or_false, true_or, or_true, not_true_eq_false, not_false_eq_true, ne_eq, forall_const, true_implies, false_implies, implies_true] at g_p1 g_p2 tx16 tx17 eb21 fb21 tx22 tx23 c24 ⊢) <;> omega) (by (try simp only [i_lt, i_le, i_eq, Int32.toInt_toInt64, Int32.reduceToInt, Int64.reduceToInt, true_and, and_true, false_and, and_false, false_or, or_false, true_or, or_true, not_true_eq_false, not_false_eq_true, ne_eq, forall_const, true_implies, false_implies, implies_true] at g_p1 g_p2 tx16 tx17 eb21 fb21 tx22 tx23 c24 ⊢) <;> omega) (lv_sub hl [4, 3, 2, 1, 0] rfl)
    · refine lv_iconst (v := 1) hx hb dX12_livesOf_35 (by decide) ?_
      refine lv_goto (tgt := 40) hx hb dX12_livesOf_36 (by decide) ?_
      refine lv_istore (lv' := [(4, .int 1), (3, .int r15), (0, .ref h0), (1, .int p1), (2, .int p2)]) hx hb dX12_livesOf_40 hl (by decide) rfl (fun ls hl => ?_)
      refine lv_iconst (v := 0) hx hb dX12_livesOf_42 (by decide) ?_
      refine lv_istore (lv' := [(5, .int 0), (4, .int 1), (3, .int r15), (0, .ref h0), (1, .int p1), (2, .int p2)]) hx hb dX12_livesOf_43 hl (by decide) rfl (fun ls hl => ?_)
      refine lv_iconst (v := 0) hx hb dX12_livesOf_45 (by decide) ?_
      refine lv_istore (lv' := [(6, .int 0), (5, .int 0), (4, .int 1), (3, .int r15), (0, .ref h0), (1, .int p1), (2, .int p2)]) hx hb dX12_livesOf_46 hl (by decide) rfl (fun ls hl => ?_)
      exact B48 _ ls r15 1 0 0 (Nat.le_refl _) (by (try simp only [i_lt, i_le, i_eq, Int32.toInt_toInt64, Int32.reduceToInt, Int64.reduceToInt, true_and, and_true, false_and, and_false, false_or, or_false, true_or, or_true, not_true_eq_false, not_false_eq_true, ne_eq, forall_const, true_implies, false_implies, implies_true] at g_p1 g_p2 tx16 tx17 eb21 fb21 tx22 tx23 c24 ⊢) <;> omega) (by (try simp only [i_lt, i_le, i_eq, Int32.toInt_toInt64, Int32.reduceToInt, Int64.reduceToInt, true_and, and_true, false_and, and_false, false_or, or_false, true_or, or_true, not_true_eq_false, not_false_eq_true, ne_eq, forall_const, true_implies, false_implies, implies_true] at g_p1 g_p2 tx16 tx17 eb21 fb21 tx22 tx23 c24 ⊢) <;> omega) (lv_sub hl [4, 3, 2, 1, 0] rfl)
set_option maxHeartbeats 4000000 in
set_option maxRecDepth 100000 in
theorem t_X12_loadOf (l : Launch) (D : va_G) (k : Nat → ClassId) (u0 : PSt) (hu : WT u0) (h0 : Nat) (m_h0 : h0 ∈ u0.1) (k_h0 : u0.2.1 h0 = 12) (p1 : Int32) (p2 : Int32) (p3 : Int32) (g_p1 : 0 ≤ p1.toInt ∧ p1.toInt ≤ 11) (sz : Nat) : Met l yX12_loadOf wsX12_loadOf ({ frames := 4, cells := 0, slots := 0, locals := 96 }) (PreM D k sz (PW k u0) [.ref h0, .int p1, .int p2, .int p3]) (va_Qi (fun r v => WT v ∧ PX u0 v ∧ (True)) (WB D (va_A (PW k u0) sz) (PW k)) (va_A (PW k u0) sz)) 0 0 (va_A (PW k u0) sz) := by
  refine Met.ofW (cc := cX12_loadOf) (maxL := 8) (ret := (some .int)) (by decide) rfl ?_
  intro p e s m args below meth c s₁ B hml hv
  obtain ⟨rfl, hsz, hP, hK, hD0, hN⟩ := hv
  have hx := B.exec
  have hb := B.bytes
  have hr := B.returns
  have hts := atoms_spec (ws := wsX12_loadOf) B.pre
  have hown : s.vm.findClass RX12 = some m.cls := findClass_of_methodNamed B.named
  have hlocks := B.notSynchronized
  have m0_h0 := m_h0
  have k0_h0 := k_h0
  subst hsz
  have hD := hD0.self (sz := s.heap.size)
  generalize hAe : va_A (PW k u0) s.heap.size = A at hD ⊢
  have hA : ∀ q : Nat, s.heap.size ≤ q → A q := fun q h => by rw [← hAe]; exact Or.inr h
  have hS : va_S A s.heap s.heap [] := va_S.rf
  have hp : PX u0 u0 := PX.rf
  have hl := lv_entry ([.ref h0, .int p1, .int p2, .int p3]) (n := 8) (Nat.le_of_ble_eq_true rfl)
  rw [lg_entry_eq]
  generalize (lg_sl ([.ref h0, .int p1, .int p2, .int p3]) ++ List.replicate (8 - (lg_sl ([.ref h0, .int p1, .int p2, .int p3])).length) Slot.unset).toArray = ls at hl ⊢
  have hl : lv_has ls 8 [(0, .ref h0), (1, .int p1), (2, .int p2), (3, .int p3)] := hl
  refine lv_aload_n hx hb dX12_loadOf_0 rfl (lv_at hl 0 rfl) ?_
  refine lv_iload_n hx hb dX12_loadOf_1 rfl (lv_at hl 1 rfl) ?_
  refine lv_iload_n hx hb dX12_loadOf_2 rfl (lv_at hl 2 rfl) ?_
  refine wlV (C := RX12) (As := [.int p1, .int p2]) (rest := []) ⟨hx, hb, hml, hown, hts⟩ (fun sz => t_X12_needOf l D k u0 hu h0 m_h0 k_h0 p1 p2 (by (try simp only [i_lt, i_le, i_eq, Int32.toInt_toInt64, Int32.reduceToInt, Int64.reduceToInt, true_and, and_true, false_and, and_false, false_or, or_false, true_or, or_true, not_true_eq_false, not_false_eq_true, ne_eq, forall_const, true_implies, false_implies, implies_true] at g_p1 ⊢) <;> omega) sz) (cwV 2 hts gX12_loadOf_X12_needOf rfl rfl rfl (by decide +kernel) ⟨Nat.le_of_ble_eq_true rfl, Nat.le_of_ble_eq_true rfl⟩) hP hK hD hN hS hA (precv hK hP m_h0 (cF12 k_h0) rfl) rfl hl.1 rfl (Nat.le_of_ble_eq_true rfl) dX12_loadOf_3 ⟨Nat.le_of_ble_eq_true rfl, Nat.le_of_ble_eq_true rfl⟩ (fun r1 u2 H locs hqu2 hP hD hS => ?_)
  obtain ⟨hu, hxu2, hr1⟩ := hqu2
  have hp := PX.trans hp hxu2
  refine lv_lstore (lv' := [(4, .long r1), (0, .ref h0), (1, .int p1), (2, .int p2), (3, .int p3)]) hx hb dX12_loadOf_6 hl (by decide) rfl (fun ls hl => ?_)
  refine lv_ldc2 (own := RX12) (v := 100) hx hb hown (hts (.constantLong RX12 336 (100)) (by decide +kernel)) dX12_loadOf_8 ?_
  refine lv_aload_n hx hb dX12_loadOf_11 rfl (lv_at hl 1 rfl) ?_
  refine lv_iload_n hx hb dX12_loadOf_12 rfl (lv_at hl 2 rfl) ?_
  have k_h0 : u2.2.1 h0 = 12 := (hp h0 m0_h0).2.1.trans k0_h0
  have m_h0 : h0 ∈ u2.1 := (hp h0 m0_h0).1
  refine rvi (C := RX12) (As := [.int p1]) (rest := [.long 100]) ⟨hx, hb, hml, hown, hts⟩ (t_X12_holdsOf l D k u2 hu h0 m_h0 k_h0 p1 (by (try simp only [i_lt, i_le, i_eq, Int32.toInt_toInt64, Int32.reduceToInt, Int64.reduceToInt, true_and, and_true, false_and, and_false, false_or, or_false, true_or, or_true, not_true_eq_false, not_false_eq_true, ne_eq, forall_const, true_implies, false_implies, implies_true] at g_p1 ⊢) <;> omega)) (cwV 1 hts gX12_loadOf_X12_holdsOf rfl rfl rfl (by decide +kernel) ⟨Nat.le_of_ble_eq_true rfl, Nat.le_of_ble_eq_true rfl⟩) hP hK (precv hK hP m_h0 (cF12 k_h0) rfl) rfl hl.1 rfl (Nat.le_of_ble_eq_true rfl) dX12_loadOf_13 ⟨Nat.le_of_ble_eq_true rfl, Nat.le_of_ble_eq_true rfl⟩ (fun r3 hr3 => ?_)
  refine lv_iload_n hx hb dX12_loadOf_16 rfl (lv_at hl 4 rfl) ?_
  refine lv_iadd hx hb dX12_loadOf_17 ?_
  refine lv_topi (fun x4 ex4 => ?_)
  refine lv_i2l hx hb dX12_loadOf_18 rfl ?_
  have b5 := Int32.toInt_lt x4
  have ab5 := Int32.le_toInt x4
  refine lv_topl (fun x6 ex6 => ?_)
  have tx6 : x6.toInt = x4.toInt := by rw [ex6]; exact Int32.toInt_toInt64 _
  refine lv_lmul hx hb dX12_loadOf_19 ?_
  refine lv_topl (fun x7 ex7 => ?_)
  refine lv_lstore (lv' := [(6, .long x7), (4, .long r1), (0, .ref h0), (1, .int p1), (2, .int p2), (3, .int p3)]) hx hb dX12_loadOf_20 hl (by decide) rfl (fun ls hl => ?_)
  refine lv_lload hx hb dX12_loadOf_22 (lv_at hl 0 rfl) ?_
  refine lv_lconst (v := 0) hx hb dX12_loadOf_24 (by decide) ?_
  refine W.lcmp hx hb dX12_loadOf_25 ?_
  refine lv_if_ne (tgt := 44) hx hb dX12_loadOf_26 (by decide) (fun c8 => ?_) (fun c8 => ?_)
  · simp only [lg_cmp_lt, lg_cmp_gt, lg_cmp_le, lg_cmp_ge, lg_cmp_eq, Int64.lt_iff_toInt_lt, Int64.le_iff_toInt_le] at c8
    refine lv_ldc2 (own := RX12) (v := 10000) hx hb hown (hts (.constantLong RX12 342 (10000)) (by decide +kernel)) dX12_loadOf_44 ?_
    refine lv_ldc2 (own := RX12) (v := 100) hx hb hown (hts (.constantLong RX12 336 (100)) (by decide +kernel)) dX12_loadOf_47 ?_
    refine lv_lload hx hb dX12_loadOf_50 (lv_at hl 1 rfl) ?_
    refine lv_lmul hx hb dX12_loadOf_52 ?_
    refine lv_topl (fun x9 ex9 => ?_)
    refine lv_lload hx hb dX12_loadOf_53 (lv_at hl 0 rfl) ?_
    refine lv_ldiv hx hb dX12_loadOf_55 c8 ?_
    refine lv_topl (fun x10 ex10 => ?_)
    refine va_mmin_long hx hb (hml.trans hl.1.symm) hown (hts (.methodLink RX12 344 Lib.MathLoose.min_long.x) (by decide +kernel)) (hts (.static Lib.MathLoose.min_long.x) (by decide +kernel)) (hts (.initialized "java/lang/Math") (by decide +kernel)) (hts (.code Lib.MathLoose.min_long.x Lib.MathLoose.min_long.code 4 (some .long)) (by decide +kernel)) (Nat.le_of_ble_eq_true rfl) (Nat.le_of_ble_eq_true rfl) (Nat.le_of_ble_eq_true rfl) (Nat.le_of_ble_eq_true rfl) dX12_loadOf_56 ?_
    refine lv_topl (fun x11 ex11 => ?_)
    have tx11 : x11.toInt ≤ (10000 : Int64).toInt ∧ x11.toInt ≤ x10.toInt ∧ (x11.toInt = (10000 : Int64).toInt ∨ x11.toInt = x10.toInt) := by rw [ex11]; exact l_min
    refine lv_l2i hx hb dX12_loadOf_59 rfl ?_
    refine lv_topi (fun x12 ex12 => ?_)
    exact W.iret (v := x12) hx hb hr (fun t ht hW => ⟨⟨x12, u2, rfl, ⟨hu, hp, trivial⟩, by rw [ht]; exact hP, hD⟩, hS.F ht⟩) hS.2.2 dX12_loadOf_60
  · simp only [lg_cmp_lt, lg_cmp_gt, lg_cmp_le, lg_cmp_ge, lg_cmp_eq, Int64.lt_iff_toInt_lt, Int64.le_iff_toInt_le] at c8
    refine lv_lload hx hb dX12_loadOf_29 (lv_at hl 1 rfl) ?_
    refine lv_lconst (v := 0) hx hb dX12_loadOf_31 (by decide) ?_
    refine W.lcmp hx hb dX12_loadOf_32 ?_
    refine lv_if_ne (tgt := 40) hx hb dX12_loadOf_33 (by decide) (fun c13 => ?_) (fun c13 => ?_)
    · simp only [lg_cmp_lt, lg_cmp_gt, lg_cmp_le, lg_cmp_ge, lg_cmp_eq, Int64.lt_iff_toInt_lt, Int64.le_iff_toInt_le] at c13
      refine lv_sipush (v := 10000) hx hb dX12_loadOf_40 (by decide) ?_
      exact W.iret (v := 10000) hx hb hr (fun t ht hW => ⟨⟨10000, u2, rfl, ⟨hu, hp, trivial⟩, by rw [ht]; exact hP, hD⟩, hS.F ht⟩) hS.2.2 dX12_loadOf_43
    · simp only [lg_cmp_lt, lg_cmp_gt, lg_cmp_le, lg_cmp_ge, lg_cmp_eq, Int64.lt_iff_toInt_lt, Int64.le_iff_toInt_le] at c13
      refine lv_iconst (v := 0) hx hb dX12_loadOf_36 (by decide) ?_
      refine lv_goto (tgt := 43) hx hb dX12_loadOf_37 (by decide) ?_
      exact W.iret (v := 0) hx hb hr (fun t ht hW => ⟨⟨0, u2, rfl, ⟨hu, hp, trivial⟩, by rw [ht]; exact hP, hD⟩, hS.F ht⟩) hS.2.2 dX12_loadOf_43
set_option maxHeartbeats 4000000 in
set_option maxRecDepth 100000 in
theorem t_X12_moved (l : Launch) (D : va_G) (k : Nat → ClassId) (u0 : PSt) (hu : WT u0) (h0 : Nat) (m_h0 : h0 ∈ u0.1) (k_h0 : u0.2.1 h0 = 12) (p1 : Int32) (p2 : Int32) (p3 : Int32) (p4 : Int32) (p5 : Int32) (sz : Nat) : Met l yX12_moved wsX12_moved ({ frames := 5, cells := 0, slots := 0, locals := 127 }) (PreM D k sz (PW k u0) [.ref h0, .int p1, .int p2, .int p3, .int p4, .int p5]) (va_Qi (fun r v => WT v ∧ PX u0 v ∧ (True)) (WB D (va_A (PW k u0) sz) (PW k)) (va_A (PW k u0) sz)) 0 0 (va_A (PW k u0) sz) := by
  refine Met.ofW (cc := cX12_moved) (maxL := 8) (ret := (some .int)) (by decide) rfl ?_
  intro p e s m args below meth c s₁ B hml hv
  obtain ⟨rfl, hsz, hP, hK, hD0, hN⟩ := hv
  have hx := B.exec
  have hb := B.bytes
  have hr := B.returns
  have hts := atoms_spec (ws := wsX12_moved) B.pre
  have hown : s.vm.findClass RX12 = some m.cls := findClass_of_methodNamed B.named
  have hlocks := B.notSynchronized
  have i_X12 : ∀ w ∈ wsX120, w ∈ wsX12_moved := by decide +kernel
  obtain ⟨a1, q0_1, m0_a1, k0_a1⟩ := (hu h0 m_h0).1 1 50 (by rw [k_h0]; rfl)
  have m0_h0 := m_h0
  have k0_h0 := k_h0
  have m_a1 := m0_a1
  have k_a1 := k0_a1
  subst hsz
  have hD := hD0.self (sz := s.heap.size)
  generalize hAe : va_A (PW k u0) s.heap.size = A at hD ⊢
  have hA : ∀ q : Nat, s.heap.size ≤ q → A q := fun q h => by rw [← hAe]; exact Or.inr h
  have hS : va_S A s.heap s.heap [] := va_S.rf
  have hp : PX u0 u0 := PX.rf
  have hl := lv_entry ([.ref h0, .int p1, .int p2, .int p3, .int p4, .int p5]) (n := 8) (Nat.le_of_ble_eq_true rfl)
  rw [lg_entry_eq]
  generalize (lg_sl ([.ref h0, .int p1, .int p2, .int p3, .int p4, .int p5]) ++ List.replicate (8 - (lg_sl ([.ref h0, .int p1, .int p2, .int p3, .int p4, .int p5])).length) Slot.unset).toArray = ls at hl ⊢
  have hl : lv_has ls 8 [(0, .ref h0), (1, .int p1), (2, .int p2), (3, .int p3), (4, .int p4), (5, .int p5)] := hl
  refine lv_aload_n hx hb dX12_moved_0 rfl (lv_at hl 0 rfl) ?_
  refine lv_iload_n hx hb dX12_moved_1 rfl (lv_at hl 1 rfl) ?_
  refine rvi (C := RX12) (As := [.int p1]) (rest := []) ⟨hx, hb, hml, hown, hts⟩ (t_X12_isPipe l D k u0 hu h0 m_h0 k_h0 p1) (cwV 1 hts gX12_moved_X12_isPipe rfl rfl rfl (by decide +kernel) ⟨Nat.le_of_ble_eq_true rfl, Nat.le_of_ble_eq_true rfl⟩) hP hK (precv hK hP m_h0 (cF12 k_h0) rfl) rfl hl.1 rfl (Nat.le_of_ble_eq_true rfl) dX12_moved_2 ⟨Nat.le_of_ble_eq_true rfl, Nat.le_of_ble_eq_true rfl⟩ (fun r1 hr1 => ?_)
  refine lv_if_eq (tgt := 64) hx hb dX12_moved_5 (by decide) (fun c2 => ?_) (fun c2 => ?_)
  · have eb3 : r1.toInt = 0 := by rcases hr1 with q | ⟨q, -⟩; exact q; (exact absurd (c2) (fun w => by rw [w] at q; exact absurd q (by decide)))
    clear hr1
    refine lv_ldcw (own := RX12) (v := (-2000000000)) hx hb hown (hts (.constant RX12 302 (-2000000000)) (by decide +kernel)) dX12_moved_64 ?_
    exact W.iret (v := (-2000000000)) hx hb hr (fun t ht hW => ⟨⟨(-2000000000), u0, rfl, ⟨hu, hp, trivial⟩, by rw [ht]; exact hP, hD⟩, hS.F ht⟩) hS.2.2 dX12_moved_67
  · have eb4 : r1.toInt = 1 := by rcases hr1 with q | ⟨q, -⟩; exact absurd (i_eq.mpr q) c2; exact q
    have fb4 : 0 ≤ p1.toInt ∧ p1.toInt ≤ 11 := by rcases hr1 with q | ⟨q, r⟩; exact absurd q (by omega); exact r
    clear hr1
    refine lv_aload_n hx hb dX12_moved_8 rfl (lv_at hl 0 rfl) ?_
    refine lv_iload_n hx hb dX12_moved_9 rfl (lv_at hl 2 rfl) ?_
    refine rvi (C := RX12) (As := [.int p2]) (rest := []) ⟨hx, hb, hml, hown, hts⟩ (t_X12_isHour l D k u0 hu h0 m_h0 k_h0 p2) (cwV 1 hts gX12_moved_X12_isHour rfl rfl rfl (by decide +kernel) ⟨Nat.le_of_ble_eq_true rfl, Nat.le_of_ble_eq_true rfl⟩) hP hK (precv hK hP m_h0 (cF12 k_h0) rfl) rfl hl.1 rfl (Nat.le_of_ble_eq_true rfl) dX12_moved_10 ⟨Nat.le_of_ble_eq_true rfl, Nat.le_of_ble_eq_true rfl⟩ (fun r5 hr5 => ?_)
    refine lv_if_eq (tgt := 64) hx hb dX12_moved_13 (by decide) (fun c6 => ?_) (fun c6 => ?_)
    · have eb7 : r5.toInt = 0 := by rcases hr5 with q | ⟨q, -⟩; exact q; (exact absurd (c6) (fun w => by rw [w] at q; exact absurd q (by decide)))
      clear hr5
      refine lv_ldcw (own := RX12) (v := (-2000000000)) hx hb hown (hts (.constant RX12 302 (-2000000000)) (by decide +kernel)) dX12_moved_64 ?_
      exact W.iret (v := (-2000000000)) hx hb hr (fun t ht hW => ⟨⟨(-2000000000), u0, rfl, ⟨hu, hp, trivial⟩, by rw [ht]; exact hP, hD⟩, hS.F ht⟩) hS.2.2 dX12_moved_67
    · have eb8 : r5.toInt = 1 := by rcases hr5 with q | ⟨q, -⟩; exact absurd (i_eq.mpr q) c6; exact q
      have fb8 : 0 ≤ p2.toInt ∧ p2.toInt ≤ 1999 := by rcases hr5 with q | ⟨q, r⟩; exact absurd q (by omega); exact r
      clear hr5
      refine lv_iload_n hx hb dX12_moved_16 rfl (lv_at hl 3 rfl) ?_
      refine lv_i2l hx hb dX12_moved_17 rfl ?_
      have b9 := Int32.toInt_lt p3
      have ab9 := Int32.le_toInt p3
      refine lv_topl (fun x10 ex10 => ?_)
      have tx10 : x10.toInt = p3.toInt := by rw [ex10]; exact Int32.toInt_toInt64 _
      refine lv_lconst (v := 0) hx hb dX12_moved_18 (by decide) ?_
      refine lv_aload_n hx hb dX12_moved_19 rfl (lv_at hl 0 rfl) ?_
      refine pget (ci := 12) (v := va_rf (u0.2.2.2.2 h0 1)) (C := RX12) (T := TX12) (N := 34) hx hb hts i_X12 hown hK hP m_h0 (cF12 k_h0) rfl 1 (by decide) (hts (.fieldLink RX12 13 "BellowsRowModel" "world" "[I") (by decide +kernel)) (fun _ h9 => h9) rfl dX12_moved_20 ?_
      refine W.eq (g2 := F0 m 23 ls [.ref a1, .long 0, .long x10]) (by rw [(((hp h0 m0_h0).2.2.2.2.2.1 k0_h0 1).trans q0_1)]; rfl) ?_
      refine lv_iconst (v := 3) hx hb dX12_moved_23 (by decide) ?_
      refine palI hx hb hK hP m_a1 (cF50 k_a1) 1 rfl (vp_in_iff.mpr (by decide)) dX12_moved_24 ?_
      refine lv_topi (fun x11 ex11 => ?_)
      have tx11 : x11.toInt = (u0.2.2.1 a1 3).toInt := congrArg Int32.toInt ex11
      have g12 : 0 ≤ x11.toInt ∧ x11.toInt ≤ 12 := by have g : okI (u0.2.1 a1) (3) (u0.2.2.1 a1 (3)) := (hu a1 m_a1).2.2.2 (3); rw [k_a1, ← (show x11 = u0.2.2.1 a1 (3) from ex11)] at g; have g : okW (3) x11 := g; unfold okW at g; (try simp only [i_lt, i_le, i_eq, Int32.toInt_toInt64, Int32.reduceToInt, Int64.reduceToInt, true_and, and_true, false_and, and_false, false_or, or_false, true_or, or_true, not_true_eq_false, not_false_eq_true, ne_eq, forall_const, true_implies, false_implies, implies_true] at eb4 fb4 eb8 fb8 b9 ab9 tx10 tx11 g ⊢) <;> omega
      refine lv_iconst (v := 1) hx hb dX12_moved_25 (by decide) ?_
      refine lv_isub hx hb dX12_moved_26 ?_
      refine lv_topi (fun x13 ex13 => ?_)
      have tx13 : x13.toInt = x11.toInt - (1 : Int32).toInt := by rw [ex13]; exact i_sub (by (try simp only [i_lt, i_le, i_eq, Int32.toInt_toInt64, Int32.reduceToInt, Int64.reduceToInt, true_and, and_true, false_and, and_false, false_or, or_false, true_or, or_true, not_true_eq_false, not_false_eq_true, ne_eq, forall_const, true_implies, false_implies, implies_true] at eb4 fb4 eb8 fb8 b9 ab9 tx10 tx11 g12 ⊢) <;> omega) (by (try simp only [i_lt, i_le, i_eq, Int32.toInt_toInt64, Int32.reduceToInt, Int64.reduceToInt, true_and, and_true, false_and, and_false, false_or, or_false, true_or, or_true, not_true_eq_false, not_false_eq_true, ne_eq, forall_const, true_implies, false_implies, implies_true] at eb4 fb4 eb8 fb8 b9 ab9 tx10 tx11 g12 ⊢) <;> omega)
      refine lv_i2l hx hb dX12_moved_27 rfl ?_
      refine lv_topl (fun x14 ex14 => ?_)
      have tx14 : x14.toInt = x13.toInt := by rw [ex14]; exact Int32.toInt_toInt64 _
      refine psi (As := [.long x10, .long 0, .long x14]) (rest := []) ⟨hx, hb, hml, hown, hts⟩ (t_X12_in l D k x10 0 x14) (va_cwS 3 hts gX12_moved_X12_in rfl rfl rfl (by decide +kernel) ⟨Nat.le_of_ble_eq_true rfl, Nat.le_of_ble_eq_true rfl⟩) hK rfl hl.1 rfl (Nat.le_of_ble_eq_true rfl) dX12_moved_28 ⟨Nat.le_of_ble_eq_true rfl, Nat.le_of_ble_eq_true rfl⟩ (fun r15 hr15 => ?_)
      refine lv_if_eq (tgt := 64) hx hb dX12_moved_31 (by decide) (fun c16 => ?_) (fun c16 => ?_)
      · have eb17 : r15.toInt = 0 := by rcases hr15 with ⟨q, -⟩ | ⟨q, -⟩; exact q; (exact absurd (c16) (fun w => by rw [w] at q; exact absurd q (by decide)))
        have fb17 : (x10.toInt < (0 : Int64).toInt ∨ x14.toInt < x10.toInt) := by rcases hr15 with ⟨q, r⟩ | ⟨q, r⟩; exact r; exact absurd q (by omega)
        clear hr15
        refine lv_ldcw (own := RX12) (v := (-2000000000)) hx hb hown (hts (.constant RX12 302 (-2000000000)) (by decide +kernel)) dX12_moved_64 ?_
        exact W.iret (v := (-2000000000)) hx hb hr (fun t ht hW => ⟨⟨(-2000000000), u0, rfl, ⟨hu, hp, trivial⟩, by rw [ht]; exact hP, hD⟩, hS.F ht⟩) hS.2.2 dX12_moved_67
      · have eb18 : r15.toInt = 1 := by rcases hr15 with ⟨q, -⟩ | ⟨q, -⟩; exact absurd (i_eq.mpr q) c16; exact q
        have fb18 : (0 : Int64).toInt ≤ x10.toInt ∧ x10.toInt ≤ x14.toInt := by rcases hr15 with ⟨q, r⟩ | ⟨q, r⟩; exact absurd q (by omega); exact r
        clear hr15
        refine lv_iload hx hb dX12_moved_34 (lv_at hl 4 rfl) ?_
        refine lv_i2l hx hb dX12_moved_36 rfl ?_
        have b19 := Int32.toInt_lt p4
        have ab19 := Int32.le_toInt p4
        refine lv_topl (fun x20 ex20 => ?_)
        have tx20 : x20.toInt = p4.toInt := by rw [ex20]; exact Int32.toInt_toInt64 _
        refine lv_ldc2 (own := RX12) (v := (-500)) hx hb hown (hts (.constantLong RX12 449 (-500)) (by decide +kernel)) dX12_moved_37 ?_
        refine lv_ldc2 (own := RX12) (v := 999) hx hb hown (hts (.constantLong RX12 80 (999)) (by decide +kernel)) dX12_moved_40 ?_
        refine psi (As := [.long x20, .long (-500), .long 999]) (rest := []) ⟨hx, hb, hml, hown, hts⟩ (t_X12_in l D k x20 (-500) 999) (va_cwS 3 hts gX12_moved_X12_in rfl rfl rfl (by decide +kernel) ⟨Nat.le_of_ble_eq_true rfl, Nat.le_of_ble_eq_true rfl⟩) hK rfl hl.1 rfl (Nat.le_of_ble_eq_true rfl) dX12_moved_43 ⟨Nat.le_of_ble_eq_true rfl, Nat.le_of_ble_eq_true rfl⟩ (fun r21 hr21 => ?_)
        refine lv_if_eq (tgt := 64) hx hb dX12_moved_46 (by decide) (fun c22 => ?_) (fun c22 => ?_)
        · have eb23 : r21.toInt = 0 := by rcases hr21 with ⟨q, -⟩ | ⟨q, -⟩; exact q; (exact absurd (c22) (fun w => by rw [w] at q; exact absurd q (by decide)))
          have fb23 : (x20.toInt < (-500 : Int64).toInt ∨ (999 : Int64).toInt < x20.toInt) := by rcases hr21 with ⟨q, r⟩ | ⟨q, r⟩; exact r; exact absurd q (by omega)
          clear hr21
          refine lv_ldcw (own := RX12) (v := (-2000000000)) hx hb hown (hts (.constant RX12 302 (-2000000000)) (by decide +kernel)) dX12_moved_64 ?_
          exact W.iret (v := (-2000000000)) hx hb hr (fun t ht hW => ⟨⟨(-2000000000), u0, rfl, ⟨hu, hp, trivial⟩, by rw [ht]; exact hP, hD⟩, hS.F ht⟩) hS.2.2 dX12_moved_67
        · have eb24 : r21.toInt = 1 := by rcases hr21 with ⟨q, -⟩ | ⟨q, -⟩; exact absurd (i_eq.mpr q) c22; exact q
          have fb24 : (-500 : Int64).toInt ≤ x20.toInt ∧ x20.toInt ≤ (999 : Int64).toInt := by rcases hr21 with ⟨q, r⟩ | ⟨q, r⟩; exact absurd q (by omega); exact r
          clear hr21
          refine lv_iload hx hb dX12_moved_49 (lv_at hl 5 rfl) ?_
          refine lv_i2l hx hb dX12_moved_51 rfl ?_
          have b25 := Int32.toInt_lt p5
          have ab25 := Int32.le_toInt p5
          refine lv_topl (fun x26 ex26 => ?_)
          have tx26 : x26.toInt = p5.toInt := by rw [ex26]; exact Int32.toInt_toInt64 _
          refine lv_ldc2 (own := RX12) (v := (-500)) hx hb hown (hts (.constantLong RX12 449 (-500)) (by decide +kernel)) dX12_moved_52 ?_
          refine lv_ldc2 (own := RX12) (v := 999) hx hb hown (hts (.constantLong RX12 80 (999)) (by decide +kernel)) dX12_moved_55 ?_
          refine psi (As := [.long x26, .long (-500), .long 999]) (rest := []) ⟨hx, hb, hml, hown, hts⟩ (t_X12_in l D k x26 (-500) 999) (va_cwS 3 hts gX12_moved_X12_in rfl rfl rfl (by decide +kernel) ⟨Nat.le_of_ble_eq_true rfl, Nat.le_of_ble_eq_true rfl⟩) hK rfl hl.1 rfl (Nat.le_of_ble_eq_true rfl) dX12_moved_58 ⟨Nat.le_of_ble_eq_true rfl, Nat.le_of_ble_eq_true rfl⟩ (fun r27 hr27 => ?_)
          refine lv_if_ne (tgt := 68) hx hb dX12_moved_61 (by decide) (fun c28 => ?_) (fun c28 => ?_)
          · have eb29 : r27.toInt = 1 := by rcases hr27 with ⟨q, -⟩ | ⟨q, -⟩; exact absurd (i_eq.mpr q) c28; exact q
            have fb29 : (-500 : Int64).toInt ≤ x26.toInt ∧ x26.toInt ≤ (999 : Int64).toInt := by rcases hr27 with ⟨q, r⟩ | ⟨q, r⟩; exact absurd q (by omega); exact r
            clear hr27
            refine lv_aload_n hx hb dX12_moved_68 rfl (lv_at hl 0 rfl) ?_
            refine lv_iload_n hx hb dX12_moved_69 rfl (lv_at hl 1 rfl) ?_
            refine lv_iload_n hx hb dX12_moved_70 rfl (lv_at hl 2 rfl) ?_
            refine rvi (C := RX12) (As := [.int p1, .int p2]) (rest := []) ⟨hx, hb, hml, hown, hts⟩ (t_X12_livesOf l D k u0 hu h0 m_h0 k_h0 p1 p2 (by (try simp only [i_lt, i_le, i_eq, Int32.toInt_toInt64, Int32.reduceToInt, Int64.reduceToInt, true_and, and_true, false_and, and_false, false_or, or_false, true_or, or_true, not_true_eq_false, not_false_eq_true, ne_eq, forall_const, true_implies, false_implies, implies_true] at eb4 fb4 eb8 fb8 b9 ab9 tx10 tx11 g12 tx13 tx14 eb18 fb18 b19 ab19 tx20 eb24 fb24 b25 ab25 tx26 eb29 fb29 ⊢) <;> omega) (by (try simp only [i_lt, i_le, i_eq, Int32.toInt_toInt64, Int32.reduceToInt, Int64.reduceToInt, true_and, and_true, false_and, and_false, false_or, or_false, true_or, or_true, not_true_eq_false, not_false_eq_true, ne_eq, forall_const, true_implies, false_implies, implies_true] at eb4 fb4 eb8 fb8 b9 ab9 tx10 tx11 g12 tx13 tx14 eb18 fb18 b19 ab19 tx20 eb24 fb24 b25 ab25 tx26 eb29 fb29 ⊢) <;> omega)) (cwV 2 hts gX12_moved_X12_livesOf rfl rfl rfl (by decide +kernel) ⟨Nat.le_of_ble_eq_true rfl, Nat.le_of_ble_eq_true rfl⟩) hP hK (precv hK hP m_h0 (cF12 k_h0) rfl) rfl hl.1 rfl (Nat.le_of_ble_eq_true rfl) dX12_moved_71 ⟨Nat.le_of_ble_eq_true rfl, Nat.le_of_ble_eq_true rfl⟩ (fun r30 hr30 => ?_)
            refine lv_istore (lv' := [(6, .int r30), (0, .ref h0), (1, .int p1), (2, .int p2), (3, .int p3), (4, .int p4), (5, .int p5)]) hx hb dX12_moved_74 hl (by decide) rfl (fun ls hl => ?_)
            refine lv_aload_n hx hb dX12_moved_76 rfl (lv_at hl 1 rfl) ?_
            refine lv_iload_n hx hb dX12_moved_77 rfl (lv_at hl 4 rfl) ?_
            refine pput (u' := pSI u0 h0 27 p3) (ci := 12) (v := .int p3) (ty := .int) (C := RX12) (T := TX12) (N := 34) hx hb hts i_X12 tyX12 tyX12_ok nmX12 hown hK hP hD hS m_h0 (cF12 k_h0) rfl 27 (by decide) (hts (.fieldLink RX12 58 "BellowsRowModel" "movedRoom" "I") (by decide +kernel)) (fun _ h9 => h9) rfl (by decide +kernel) rfl rfl (Nat.le_of_ble_eq_true rfl) rfl (sF12_27 k_h0 p3) dX12_moved_78 (fun H locs hP hD hS => ?_)
            have hu := WT.setI (a := h0) (s := 27) (v := p3) hu (by rw [k_h0]; exact trivial)
            have hp := PX.setI (a := h0) (s := 27) (v := p3) hp (by rw [k_h0]; decide)
            obtain ⟨u31, hu31⟩ : ∃ z, z = pSI u0 h0 27 p3 := ⟨_, rfl⟩
            rw [← hu31] at hP hD hu hp
            refine lv_aload_n hx hb dX12_moved_81 rfl (lv_at hl 1 rfl) ?_
            refine lv_iload hx hb dX12_moved_82 (lv_at hl 5 rfl) ?_
            have k_h0 : u31.2.1 h0 = 12 := (hp h0 m0_h0).2.1.trans k0_h0
            have m_h0 : h0 ∈ u31.1 := (hp h0 m0_h0).1
            refine pput (u' := pSI u31 h0 28 p4) (ci := 12) (v := .int p4) (ty := .int) (C := RX12) (T := TX12) (N := 34) hx hb hts i_X12 tyX12 tyX12_ok nmX12 hown hK hP hD hS m_h0 (cF12 k_h0) rfl 28 (by decide) (hts (.fieldLink RX12 421 "BellowsRowModel" "movedX" "I") (by decide +kernel)) (fun _ h9 => h9) rfl (by decide +kernel) rfl rfl (Nat.le_of_ble_eq_true rfl) rfl (sF12_28 k_h0 p4) dX12_moved_84 (fun H locs hP hD hS => ?_)
            have hu := WT.setI (a := h0) (s := 28) (v := p4) hu (by rw [k_h0]; exact trivial)
            have hp := PX.setI (a := h0) (s := 28) (v := p4) hp (by rw [k_h0]; decide)
            obtain ⟨u32, hu32⟩ : ∃ z, z = pSI u31 h0 28 p4 := ⟨_, rfl⟩
            rw [← hu32] at hP hD hu hp
            refine lv_aload_n hx hb dX12_moved_87 rfl (lv_at hl 1 rfl) ?_
            refine lv_iload hx hb dX12_moved_88 (lv_at hl 6 rfl) ?_
            have k_h0 : u32.2.1 h0 = 12 := (hp h0 m0_h0).2.1.trans k0_h0
            have m_h0 : h0 ∈ u32.1 := (hp h0 m0_h0).1
            refine pput (u' := pSI u32 h0 29 p5) (ci := 12) (v := .int p5) (ty := .int) (C := RX12) (T := TX12) (N := 34) hx hb hts i_X12 tyX12 tyX12_ok nmX12 hown hK hP hD hS m_h0 (cF12 k_h0) rfl 29 (by decide) (hts (.fieldLink RX12 427 "BellowsRowModel" "movedY" "I") (by decide +kernel)) (fun _ h9 => h9) rfl (by decide +kernel) rfl rfl (Nat.le_of_ble_eq_true rfl) rfl (sF12_29 k_h0 p5) dX12_moved_90 (fun H locs hP hD hS => ?_)
            have hu := WT.setI (a := h0) (s := 29) (v := p5) hu (by rw [k_h0]; exact trivial)
            have hp := PX.setI (a := h0) (s := 29) (v := p5) hp (by rw [k_h0]; decide)
            obtain ⟨u33, hu33⟩ : ∃ z, z = pSI u32 h0 29 p5 := ⟨_, rfl⟩
            rw [← hu33] at hP hD hu hp
            refine lv_aload_n hx hb dX12_moved_93 rfl (lv_at hl 1 rfl) ?_
            refine lv_iload_n hx hb dX12_moved_94 rfl (lv_at hl 2 rfl) ?_
            refine lv_iload_n hx hb dX12_moved_95 rfl (lv_at hl 3 rfl) ?_
            have k_h0 : u33.2.1 h0 = 12 := (hp h0 m0_h0).2.1.trans k0_h0
            have m_h0 : h0 ∈ u33.1 := (hp h0 m0_h0).1
            refine rvi (C := RX12) (As := [.int p1, .int p2]) (rest := []) ⟨hx, hb, hml, hown, hts⟩ (t_X12_livesOf l D k u33 hu h0 m_h0 k_h0 p1 p2 (by (try simp only [i_lt, i_le, i_eq, Int32.toInt_toInt64, Int32.reduceToInt, Int64.reduceToInt, true_and, and_true, false_and, and_false, false_or, or_false, true_or, or_true, not_true_eq_false, not_false_eq_true, ne_eq, forall_const, true_implies, false_implies, implies_true] at eb4 fb4 eb8 fb8 b9 ab9 tx10 tx11 g12 tx13 tx14 eb18 fb18 b19 ab19 tx20 eb24 fb24 b25 ab25 tx26 eb29 fb29 ⊢) <;> omega) (by (try simp only [i_lt, i_le, i_eq, Int32.toInt_toInt64, Int32.reduceToInt, Int64.reduceToInt, true_and, and_true, false_and, and_false, false_or, or_false, true_or, or_true, not_true_eq_false, not_false_eq_true, ne_eq, forall_const, true_implies, false_implies, implies_true] at eb4 fb4 eb8 fb8 b9 ab9 tx10 tx11 g12 tx13 tx14 eb18 fb18 b19 ab19 tx20 eb24 fb24 b25 ab25 tx26 eb29 fb29 ⊢) <;> omega)) (cwV 2 hts gX12_moved_X12_livesOf rfl rfl rfl (by decide +kernel) ⟨Nat.le_of_ble_eq_true rfl, Nat.le_of_ble_eq_true rfl⟩) hP hK (precv hK hP m_h0 (cF12 k_h0) rfl) rfl hl.1 rfl (Nat.le_of_ble_eq_true rfl) dX12_moved_96 ⟨Nat.le_of_ble_eq_true rfl, Nat.le_of_ble_eq_true rfl⟩ (fun r34 hr34 => ?_)
            refine lv_istore (lv' := [(7, .int r34), (6, .int r30), (0, .ref h0), (1, .int p1), (2, .int p2), (3, .int p3), (4, .int p4), (5, .int p5)]) hx hb dX12_moved_99 hl (by decide) rfl (fun ls hl => ?_)
            refine lv_aload_n hx hb dX12_moved_101 rfl (lv_at hl 2 rfl) ?_
            refine lv_iconst (v := (-1)) hx hb dX12_moved_102 (by decide) ?_
            refine pput (u' := pSI u33 h0 27 (-1)) (ci := 12) (v := .int (-1)) (ty := .int) (C := RX12) (T := TX12) (N := 34) hx hb hts i_X12 tyX12 tyX12_ok nmX12 hown hK hP hD hS m_h0 (cF12 k_h0) rfl 27 (by decide) (hts (.fieldLink RX12 58 "BellowsRowModel" "movedRoom" "I") (by decide +kernel)) (fun _ h9 => h9) rfl (by decide +kernel) rfl rfl (Nat.le_of_ble_eq_true rfl) rfl (sF12_27 k_h0 (-1)) dX12_moved_103 (fun H locs hP hD hS => ?_)
            have hu := WT.setI (a := h0) (s := 27) (v := (-1)) hu (by rw [k_h0]; exact trivial)
            have hp := PX.setI (a := h0) (s := 27) (v := (-1)) hp (by rw [k_h0]; decide)
            obtain ⟨u35, hu35⟩ : ∃ z, z = pSI u33 h0 27 (-1) := ⟨_, rfl⟩
            rw [← hu35] at hP hD hu hp
            refine lv_iload hx hb dX12_moved_106 (lv_at hl 1 rfl) ?_
            refine lv_iload hx hb dX12_moved_108 (lv_at hl 0 rfl) ?_
            refine lv_isub hx hb dX12_moved_110 ?_
            refine lv_topi (fun x36 ex36 => ?_)
            exact W.iret (v := x36) hx hb hr (fun t ht hW => ⟨⟨x36, u35, rfl, ⟨hu, hp, trivial⟩, by rw [ht]; exact hP, hD⟩, hS.F ht⟩) hS.2.2 dX12_moved_111
          · have eb37 : r27.toInt = 0 := by rcases hr27 with ⟨q, -⟩ | ⟨q, -⟩; exact q; (exact absurd (c28) (fun w => by rw [w] at q; exact absurd q (by decide)))
            have fb37 : (x26.toInt < (-500 : Int64).toInt ∨ (999 : Int64).toInt < x26.toInt) := by rcases hr27 with ⟨q, r⟩ | ⟨q, r⟩; exact r; exact absurd q (by omega)
            clear hr27
            refine lv_ldcw (own := RX12) (v := (-2000000000)) hx hb hown (hts (.constant RX12 302 (-2000000000)) (by decide +kernel)) dX12_moved_64 ?_
            exact W.iret (v := (-2000000000)) hx hb hr (fun t ht hW => ⟨⟨(-2000000000), u0, rfl, ⟨hu, hp, trivial⟩, by rw [ht]; exact hP, hD⟩, hS.F ht⟩) hS.2.2 dX12_moved_67
set_option maxHeartbeats 4000000 in
set_option maxRecDepth 100000 in
theorem t_X12_need (l : Launch) (D : va_G) (k : Nat → ClassId) (u0 : PSt) (hu : WT u0) (h0 : Nat) (m_h0 : h0 ∈ u0.1) (k_h0 : u0.2.1 h0 = 12) (p1 : Int32) (p2 : Int32) (sz : Nat) : Met l yX12_need wsX12_need ({ frames := 4, cells := 0, slots := 0, locals := 96 }) (PreM D k sz (PW k u0) [.ref h0, .int p1, .int p2]) (va_Ql (fun r v => WT v ∧ PX u0 v ∧ (True)) (WB D (va_A (PW k u0) sz) (PW k)) (va_A (PW k u0) sz)) 0 0 (va_A (PW k u0) sz) := by
  refine Met.ofW (cc := cX12_need) (maxL := 3) (ret := (some .long)) (by decide) rfl ?_
  intro p e s m args below meth c s₁ B hml hv
  obtain ⟨rfl, hsz, hP, hK, hD0, hN⟩ := hv
  have hx := B.exec
  have hb := B.bytes
  have hr := B.returns
  have hts := atoms_spec (ws := wsX12_need) B.pre
  have hown : s.vm.findClass RX12 = some m.cls := findClass_of_methodNamed B.named
  have hlocks := B.notSynchronized
  have m0_h0 := m_h0
  have k0_h0 := k_h0
  subst hsz
  have hD := hD0.self (sz := s.heap.size)
  generalize hAe : va_A (PW k u0) s.heap.size = A at hD ⊢
  have hA : ∀ q : Nat, s.heap.size ≤ q → A q := fun q h => by rw [← hAe]; exact Or.inr h
  have hS : va_S A s.heap s.heap [] := va_S.rf
  have hp : PX u0 u0 := PX.rf
  have hl := lv_entry ([.ref h0, .int p1, .int p2]) (n := 3) (Nat.le_of_ble_eq_true rfl)
  rw [lg_entry_eq]
  generalize (lg_sl ([.ref h0, .int p1, .int p2]) ++ List.replicate (3 - (lg_sl ([.ref h0, .int p1, .int p2])).length) Slot.unset).toArray = ls at hl ⊢
  have hl : lv_has ls 3 [(0, .ref h0), (1, .int p1), (2, .int p2)] := hl
  refine lv_aload_n hx hb dX12_need_0 rfl (lv_at hl 0 rfl) ?_
  refine lv_iload_n hx hb dX12_need_1 rfl (lv_at hl 1 rfl) ?_
  refine rvi (C := RX12) (As := [.int p1]) (rest := []) ⟨hx, hb, hml, hown, hts⟩ (t_X12_isPipe l D k u0 hu h0 m_h0 k_h0 p1) (cwV 1 hts gX12_need_X12_isPipe rfl rfl rfl (by decide +kernel) ⟨Nat.le_of_ble_eq_true rfl, Nat.le_of_ble_eq_true rfl⟩) hP hK (precv hK hP m_h0 (cF12 k_h0) rfl) rfl hl.1 rfl (Nat.le_of_ble_eq_true rfl) dX12_need_2 ⟨Nat.le_of_ble_eq_true rfl, Nat.le_of_ble_eq_true rfl⟩ (fun r1 hr1 => ?_)
  refine lv_if_eq (tgt := 24) hx hb dX12_need_5 (by decide) (fun c2 => ?_) (fun c2 => ?_)
  · have eb3 : r1.toInt = 0 := by rcases hr1 with q | ⟨q, -⟩; exact q; (exact absurd (c2) (fun w => by rw [w] at q; exact absurd q (by decide)))
    clear hr1
    refine lv_ldc2 (own := RX12) (v := (-2)) hx hb hown (hts (.constantLong RX12 350 (-2)) (by decide +kernel)) dX12_need_24 ?_
    exact W.lret (v := (-2)) hx hb hr (fun t ht hW => ⟨⟨(-2), u0, rfl, ⟨hu, hp, trivial⟩, by rw [ht]; exact hP, hD⟩, hS.F ht⟩) hS.2.2 dX12_need_27
  · have eb4 : r1.toInt = 1 := by rcases hr1 with q | ⟨q, -⟩; exact absurd (i_eq.mpr q) c2; exact q
    have fb4 : 0 ≤ p1.toInt ∧ p1.toInt ≤ 11 := by rcases hr1 with q | ⟨q, r⟩; exact absurd q (by omega); exact r
    clear hr1
    refine lv_iload_n hx hb dX12_need_8 rfl (lv_at hl 2 rfl) ?_
    refine psi (As := [.int p2]) (rest := []) ⟨hx, hb, hml, hown, hts⟩ (t_X12_isPress l D k p2) (va_cwS 1 hts gX12_need_X12_isPress rfl rfl rfl (by decide +kernel) ⟨Nat.le_of_ble_eq_true rfl, Nat.le_of_ble_eq_true rfl⟩) hK rfl hl.1 rfl (Nat.le_of_ble_eq_true rfl) dX12_need_9 ⟨Nat.le_of_ble_eq_true rfl, Nat.le_of_ble_eq_true rfl⟩ (fun r5 hr5 => ?_)
    refine lv_if_eq (tgt := 24) hx hb dX12_need_12 (by decide) (fun c6 => ?_) (fun c6 => ?_)
    · have eb7 : r5.toInt = 0 := by rcases hr5 with ⟨q, -⟩ | ⟨q, -⟩; exact q; (exact absurd (c6) (fun w => by rw [w] at q; exact absurd q (by decide)))
      have fb7 : (p2.toInt < 0 ∨ 999 < p2.toInt) := by rcases hr5 with ⟨q, r⟩ | ⟨q, r⟩; exact r; exact absurd q (by omega)
      clear hr5
      refine lv_ldc2 (own := RX12) (v := (-2)) hx hb hown (hts (.constantLong RX12 350 (-2)) (by decide +kernel)) dX12_need_24 ?_
      exact W.lret (v := (-2)) hx hb hr (fun t ht hW => ⟨⟨(-2), u0, rfl, ⟨hu, hp, trivial⟩, by rw [ht]; exact hP, hD⟩, hS.F ht⟩) hS.2.2 dX12_need_27
    · have eb8 : r5.toInt = 1 := by rcases hr5 with ⟨q, -⟩ | ⟨q, -⟩; exact absurd (i_eq.mpr q) c6; exact q
      have fb8 : 0 ≤ p2.toInt ∧ p2.toInt ≤ 999 := by rcases hr5 with ⟨q, r⟩ | ⟨q, r⟩; exact absurd q (by omega); exact r
      clear hr5
      refine lv_aload_n hx hb dX12_need_15 rfl (lv_at hl 0 rfl) ?_
      refine lv_iload_n hx hb dX12_need_16 rfl (lv_at hl 1 rfl) ?_
      refine lv_iload_n hx hb dX12_need_17 rfl (lv_at hl 2 rfl) ?_
      refine wlV (C := RX12) (As := [.int p1, .int p2]) (rest := []) ⟨hx, hb, hml, hown, hts⟩ (fun sz => t_X12_needOf l D k u0 hu h0 m_h0 k_h0 p1 p2 (by (try simp only [i_lt, i_le, i_eq, Int32.toInt_toInt64, Int32.reduceToInt, Int64.reduceToInt, true_and, and_true, false_and, and_false, false_or, or_false, true_or, or_true, not_true_eq_false, not_false_eq_true, ne_eq, forall_const, true_implies, false_implies, implies_true] at eb4 fb4 eb8 fb8 ⊢) <;> omega) sz) (cwV 2 hts gX12_need_X12_needOf rfl rfl rfl (by decide +kernel) ⟨Nat.le_of_ble_eq_true rfl, Nat.le_of_ble_eq_true rfl⟩) hP hK hD hN hS hA (precv hK hP m_h0 (cF12 k_h0) rfl) rfl hl.1 rfl (Nat.le_of_ble_eq_true rfl) dX12_need_18 ⟨Nat.le_of_ble_eq_true rfl, Nat.le_of_ble_eq_true rfl⟩ (fun r9 u10 H locs hqu10 hP hD hS => ?_)
      obtain ⟨hu, hxu10, hr9⟩ := hqu10
      have hp := PX.trans hp hxu10
      refine lv_goto (tgt := 27) hx hb dX12_need_21 (by decide) ?_
      exact W.lret (v := r9) hx hb hr (fun t ht hW => ⟨⟨r9, u10, rfl, ⟨hu, hp, trivial⟩, by rw [ht]; exact hP, hD⟩, hS.F ht⟩) hS.2.2 dX12_need_27
