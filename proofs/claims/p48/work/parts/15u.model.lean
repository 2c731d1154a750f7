set_option maxHeartbeats 4000000 in
set_option maxRecDepth 100000 in
theorem t_X12_shows (l : Launch) (D : va_G) (k : Nat → ClassId) (u0 : PSt) (hu : WT u0) (h0 : Nat) (m_h0 : h0 ∈ u0.1) (k_h0 : u0.2.1 h0 = 12) (p1 : Int32) (sz : Nat) : Met l yX12_shows wsX12_shows ({ frames := 8, cells := 0, slots := 0, locals := 191 }) (PreM D k sz (PW k u0) [.ref h0, .int p1]) (va_Qi (fun r v => WT v ∧ PX u0 v ∧ (True)) (WB D (va_A (PW k u0) sz) (PW k)) (va_A (PW k u0) sz)) 0 0 (va_A (PW k u0) sz) := by
  refine Met.ofW (cc := cX12_shows) (maxL := 4) (ret := (some .int)) (by decide) rfl ?_
  intro p e s m args below meth c s₁ B hml hv
  obtain ⟨rfl, hsz, hP, hK, hD0, hN⟩ := hv
  have hx := B.exec
  have hb := B.bytes
  have hr := B.returns
  have hts := atoms_spec (ws := wsX12_shows) B.pre
  have hown : s.vm.findClass RX12 = some m.cls := findClass_of_methodNamed B.named
  have hlocks := B.notSynchronized
  have i_X12 : ∀ w ∈ wsX120, w ∈ wsX12_shows := by decide +kernel
  obtain ⟨a1, q0_1, m0_a1, k0_a1⟩ := (hu h0 m_h0).1 1 50 (by rw [k_h0]; rfl)
  have m0_h0 := m_h0
  have k0_h0 := k_h0
  have m_a1 := m0_a1
  have k_a1 := k0_a1
  subst hsz
  have hD := hD0.self (sz := s.heap.size)
  generalize hAe : va_A (PW k u0) s.heap.size = A at hD ⊢
  have hA : ∀ q : Nat, s.heap.size ≤ q → A q := fun q h => by rw [← hAe]; exact Or.inr h
  have hS : va_S A s.heap s.heap [] := va_S.rf
  have hp : PX u0 u0 := PX.rf
  have B4 : ∀ (n4 : Nat) (u : PSt) (H : Heap) (locs : List Loc) (ls : Array Slot) (v1 : Int32) (v2 : Int32) (v3 : Int32), WT u → PX u0 u → va_P D vwCl (PW k u) H → va_D A (PW k u) → va_S A s.heap H locs → (2147483648 - v3.toInt).toNat ≤ n4 → 0 ≤ v3.toInt ∧ v3.toInt ≤ 12 → lv_has ls 4 [(0, .ref h0), (1, .int v1), (2, .int v2), (3, .int v3)] → W p l e (headSpec wsX12_shows ({ frames := 8, cells := 0, slots := 0, locals := 191 })).room s m ([.ref h0, .int p1] : List Value).toArray below meth c H locs 0 0 (MQ below (va_Qi (fun r v => WT v ∧ PX u0 v ∧ (True)) (WB D A (PW k)) A) ([.ref h0, .int p1] : List Value).toArray s 0 0 A) (F0 m 4 ls []) := by
    intro n4
    induction n4 with
    | zero =>
      intro u H locs ls v1 v2 v3 hu hp hP hD hS hn4 g_v3 hl
      exact absurd hn4 (by have := Int32.toInt_lt v3; have := Int32.le_toInt v3; omega)
    | succ n4 ih4 =>
      intro u H locs ls v1 v2 v3 hu hp hP hD hS hn4 g_v3 hl
      refine lv_iload_n hx hb dX12_shows_4 rfl (lv_at hl 3 rfl) ?_
      refine lv_aload_n hx hb dX12_shows_5 rfl (lv_at hl 0 rfl) ?_
      have k_h0 : u.2.1 h0 = 12 := (hp h0 m0_h0).2.1.trans k0_h0
      have m_h0 : h0 ∈ u.1 := (hp h0 m0_h0).1
      have k_a1 : u.2.1 a1 = 50 := (hp a1 m0_a1).2.1.trans k0_a1
      have m_a1 : a1 ∈ u.1 := (hp a1 m0_a1).1
      refine pget (ci := 12) (v := va_rf (u.2.2.2.2 h0 1)) (C := RX12) (T := TX12) (N := 34) hx hb hts i_X12 hown hK hP m_h0 (cF12 k_h0) rfl 1 (by decide) (hts (.fieldLink RX12 13 "BellowsRowModel" "world" "[I") (by decide +kernel)) (fun _ h9 => h9) rfl dX12_shows_6 ?_
      refine W.eq (g2 := F0 m 9 ls [.ref a1, .int v3]) (by rw [(((hp h0 m0_h0).2.2.2.2.2.1 k0_h0 1).trans q0_1)]; rfl) ?_
      refine lv_iconst (v := 2) hx hb dX12_shows_9 (by decide) ?_
      refine palI hx hb hK hP m_a1 (cF50 k_a1) 1 rfl (vp_in_iff.mpr (by decide)) dX12_shows_10 ?_
      refine lv_topi (fun x1 ex1 => ?_)
      have tx1 : x1.toInt = (u.2.2.1 a1 2).toInt := congrArg Int32.toInt ex1
      have g2 : 0 ≤ x1.toInt ∧ x1.toInt ≤ 12 := by have g : okI (u.2.1 a1) (2) (u.2.2.1 a1 (2)) := (hu a1 m_a1).2.2.2 (2); rw [k_a1, ← (show x1 = u.2.2.1 a1 (2) from ex1)] at g; have g : okW (2) x1 := g; unfold okW at g; (try simp only [i_lt, i_le, i_eq, Int32.toInt_toInt64, Int32.reduceToInt, Int64.reduceToInt, true_and, and_true, false_and, and_false, false_or, or_false, true_or, or_true, not_true_eq_false, not_false_eq_true, ne_eq, forall_const, true_implies, false_implies, implies_true] at g_v3 hn4 tx1 g ⊢) <;> omega
      refine lv_icmp_ge (tgt := 52) hx hb dX12_shows_11 (by decide) (fun c3 => ?_) (fun c3 => ?_)
      · refine lv_iload_n hx hb dX12_shows_52 rfl (lv_at hl 2 rfl) ?_
        exact W.iret (v := v2) hx hb hr (fun t ht hW => ⟨⟨v2, u, rfl, ⟨hu, hp, trivial⟩, by rw [ht]; exact hP, hD⟩, hS.F ht⟩) hS.2.2 dX12_shows_53
      · refine lv_aload_n hx hb dX12_shows_14 rfl (lv_at hl 0 rfl) ?_
        refine lv_iload_n hx hb dX12_shows_15 rfl (lv_at hl 3 rfl) ?_
        refine wiV (C := RX12) (As := [.int v3]) (rest := []) ⟨hx, hb, hml, hown, hts⟩ (fun sz => t_X12_goesOf l D k u hu h0 m_h0 k_h0 v3 (by (try simp only [i_lt, i_le, i_eq, Int32.toInt_toInt64, Int32.reduceToInt, Int64.reduceToInt, true_and, and_true, false_and, and_false, false_or, or_false, true_or, or_true, not_true_eq_false, not_false_eq_true, ne_eq, forall_const, true_implies, false_implies, implies_true] at g_v3 hn4 tx1 g2 c3 ⊢) <;> omega) sz) (cwV 1 hts gX12_shows_X12_goesOf rfl rfl rfl (by decide +kernel) ⟨Nat.le_of_ble_eq_true rfl, Nat.le_of_ble_eq_true rfl⟩) hP hK hD hN hS hA (precv hK hP m_h0 (cF12 k_h0) rfl) rfl hl.1 rfl (Nat.le_of_ble_eq_true rfl) dX12_shows_16 ⟨Nat.le_of_ble_eq_true rfl, Nat.le_of_ble_eq_true rfl⟩ (fun r4 u5 H locs hqu5 hP hD hS => ?_)
        obtain ⟨hu, hxu5, hr4⟩ := hqu5
        have hp := PX.trans hp hxu5
        refine lv_iconst (v := (-1)) hx hb dX12_shows_19 (by decide) ?_
        refine lv_icmp_ne (tgt := 26) hx hb dX12_shows_20 (by decide) (fun c6 => ?_) (fun c6 => ?_)
        · refine lv_iload_n hx hb dX12_shows_26 rfl (lv_at hl 2 rfl) ?_
          refine lv_aload_n hx hb dX12_shows_27 rfl (lv_at hl 0 rfl) ?_
          refine lv_iload_n hx hb dX12_shows_28 rfl (lv_at hl 3 rfl) ?_
          refine lv_iload_n hx hb dX12_shows_29 rfl (lv_at hl 1 rfl) ?_
          refine lv_iconst (v := 0) hx hb dX12_shows_30 (by decide) ?_
          have k_h0 : u5.2.1 h0 = 12 := (hp h0 m0_h0).2.1.trans k0_h0
          have m_h0 : h0 ∈ u5.1 := (hp h0 m0_h0).1
          refine wiV (C := RX12) (As := [.int v3, .int v1, .int 0]) (rest := [.int v2]) ⟨hx, hb, hml, hown, hts⟩ (fun sz => t_X12_loadOf l D k u5 hu h0 m_h0 k_h0 v3 v1 0 (by (try simp only [i_lt, i_le, i_eq, Int32.toInt_toInt64, Int32.reduceToInt, Int64.reduceToInt, true_and, and_true, false_and, and_false, false_or, or_false, true_or, or_true, not_true_eq_false, not_false_eq_true, ne_eq, forall_const, true_implies, false_implies, implies_true] at g_v3 hn4 tx1 g2 c3 c6 ⊢) <;> omega) sz) (cwV 3 hts gX12_shows_X12_loadOf rfl rfl rfl (by decide +kernel) ⟨Nat.le_of_ble_eq_true rfl, Nat.le_of_ble_eq_true rfl⟩) hP hK hD hN hS hA (precv hK hP m_h0 (cF12 k_h0) rfl) rfl hl.1 rfl (Nat.le_of_ble_eq_true rfl) dX12_shows_31 ⟨Nat.le_of_ble_eq_true rfl, Nat.le_of_ble_eq_true rfl⟩ (fun r7 u8 H locs hqu8 hP hD hS => ?_)
          obtain ⟨hu, hxu8, hr7⟩ := hqu8
          have hp := PX.trans hp hxu8
          refine lv_bipush (v := 100) hx hb dX12_shows_34 (by decide) ?_
          refine lv_icmp_le (tgt := 43) hx hb dX12_shows_36 (by decide) (fun c9 => ?_) (fun c9 => ?_)
          · refine lv_iconst (v := 0) hx hb dX12_shows_43 (by decide) ?_
            refine lv_iadd hx hb dX12_shows_44 ?_
            refine lv_topi (fun x10 ex10 => ?_)
            refine lv_istore_n (lv' := [(2, .int x10), (0, .ref h0), (1, .int v1), (3, .int v3)]) hx hb dX12_shows_45 rfl hl (by decide) rfl (fun ls hl => ?_)
            obtain ⟨x11, ex11⟩ : ∃ y : Int32, y = v3 + 1 := ⟨_, rfl⟩
            have tx11 : x11.toInt = v3.toInt + 1 := by rw [ex11]; exact i_add (b := 1) (by (try simp only [i_lt, i_le, i_eq, Int32.toInt_toInt64, Int32.reduceToInt, Int64.reduceToInt, true_and, and_true, false_and, and_false, false_or, or_false, true_or, or_true, not_true_eq_false, not_false_eq_true, ne_eq, forall_const, true_implies, false_implies, implies_true] at g_v3 hn4 tx1 g2 c3 c6 c9 ⊢) <;> omega) (by (try simp only [i_lt, i_le, i_eq, Int32.toInt_toInt64, Int32.reduceToInt, Int64.reduceToInt, true_and, and_true, false_and, and_false, false_or, or_false, true_or, or_true, not_true_eq_false, not_false_eq_true, ne_eq, forall_const, true_implies, false_implies, implies_true] at g_v3 hn4 tx1 g2 c3 c6 c9 ⊢) <;> omega)
            refine lv_iinc (v := x11) (lv' := [(3, .int x11), (2, .int x10), (0, .ref h0), (1, .int v1)]) hx hb dX12_shows_46 hl (k := 3) rfl (by rw [ex11]; rfl) (by decide) rfl (fun ls hl => ?_)
            refine lv_goto (tgt := 4) hx hb dX12_shows_49 (by decide) ?_
            exact ih4 _ _ _ ls v1 x10 x11 hu hp hP hD hS (by (try simp only [i_lt, i_le, i_eq, Int32.toInt_toInt64, Int32.reduceToInt, Int64.reduceToInt, true_and, and_true, false_and, and_false, false_or, or_false, true_or, or_true, not_true_eq_false, not_false_eq_true, ne_eq, forall_const, true_implies, false_implies, implies_true] at g_v3 hn4 tx1 g2 c3 c6 c9 tx11 ⊢) <;> omega) (by (try simp only [i_lt, i_le, i_eq, Int32.toInt_toInt64, Int32.reduceToInt, Int64.reduceToInt, true_and, and_true, false_and, and_false, false_or, or_false, true_or, or_true, not_true_eq_false, not_false_eq_true, ne_eq, forall_const, true_implies, false_implies, implies_true] at g_v3 hn4 tx1 g2 c3 c6 c9 tx11 ⊢) <;> omega) (lv_sub hl [2, 3, 1, 0] rfl)
          · refine lv_iconst (v := 1) hx hb dX12_shows_39 (by decide) ?_
            refine lv_goto (tgt := 44) hx hb dX12_shows_40 (by decide) ?_
            refine lv_iadd hx hb dX12_shows_44 ?_
            refine lv_topi (fun x12 ex12 => ?_)
            refine lv_istore_n (lv' := [(2, .int x12), (0, .ref h0), (1, .int v1), (3, .int v3)]) hx hb dX12_shows_45 rfl hl (by decide) rfl (fun ls hl => ?_)
            obtain ⟨x13, ex13⟩ : ∃ y : Int32, y = v3 + 1 := ⟨_, rfl⟩
            have tx13 : x13.toInt = v3.toInt + 1 := by rw [ex13]; exact i_add (b := 1) (by (try simp only [i_lt, i_le, i_eq, Int32.toInt_toInt64, Int32.reduceToInt, Int64.reduceToInt, true_and, and_true, false_and, and_false, false_or, or_false, true_or, or_true, not_true_eq_false, not_false_eq_true, ne_eq, forall_const, true_implies, false_implies, implies_true] at g_v3 hn4 tx1 g2 c3 c6 c9 ⊢) <;> omega) (by (try simp only [i_lt, i_le, i_eq, Int32.toInt_toInt64, Int32.reduceToInt, Int64.reduceToInt, true_and, and_true, false_and, and_false, false_or, or_false, true_or, or_true, not_true_eq_false, not_false_eq_true, ne_eq, forall_const, true_implies, false_implies, implies_true] at g_v3 hn4 tx1 g2 c3 c6 c9 ⊢) <;> omega)
            refine lv_iinc (v := x13) (lv' := [(3, .int x13), (2, .int x12), (0, .ref h0), (1, .int v1)]) hx hb dX12_shows_46 hl (k := 3) rfl (by rw [ex13]; rfl) (by decide) rfl (fun ls hl => ?_)
            refine lv_goto (tgt := 4) hx hb dX12_shows_49 (by decide) ?_
            exact ih4 _ _ _ ls v1 x12 x13 hu hp hP hD hS (by (try simp only [i_lt, i_le, i_eq, Int32.toInt_toInt64, Int32.reduceToInt, Int64.reduceToInt, true_and, and_true, false_and, and_false, false_or, or_false, true_or, or_true, not_true_eq_false, not_false_eq_true, ne_eq, forall_const, true_implies, false_implies, implies_true] at g_v3 hn4 tx1 g2 c3 c6 c9 tx13 ⊢) <;> omega) (by (try simp only [i_lt, i_le, i_eq, Int32.toInt_toInt64, Int32.reduceToInt, Int64.reduceToInt, true_and, and_true, false_and, and_false, false_or, or_false, true_or, or_true, not_true_eq_false, not_false_eq_true, ne_eq, forall_const, true_implies, false_implies, implies_true] at g_v3 hn4 tx1 g2 c3 c6 c9 tx13 ⊢) <;> omega) (lv_sub hl [2, 3, 1, 0] rfl)
        · refine lv_goto (tgt := 46) hx hb dX12_shows_23 (by decide) ?_
          obtain ⟨x14, ex14⟩ : ∃ y : Int32, y = v3 + 1 := ⟨_, rfl⟩
          have tx14 : x14.toInt = v3.toInt + 1 := by rw [ex14]; exact i_add (b := 1) (by (try simp only [i_lt, i_le, i_eq, Int32.toInt_toInt64, Int32.reduceToInt, Int64.reduceToInt, true_and, and_true, false_and, and_false, false_or, or_false, true_or, or_true, not_true_eq_false, not_false_eq_true, ne_eq, forall_const, true_implies, false_implies, implies_true] at g_v3 hn4 tx1 g2 c3 c6 ⊢) <;> omega) (by (try simp only [i_lt, i_le, i_eq, Int32.toInt_toInt64, Int32.reduceToInt, Int64.reduceToInt, true_and, and_true, false_and, and_false, false_or, or_false, true_or, or_true, not_true_eq_false, not_false_eq_true, ne_eq, forall_const, true_implies, false_implies, implies_true] at g_v3 hn4 tx1 g2 c3 c6 ⊢) <;> omega)
          refine lv_iinc (v := x14) (lv' := [(3, .int x14), (0, .ref h0), (1, .int v1), (2, .int v2)]) hx hb dX12_shows_46 hl (k := 3) rfl (by rw [ex14]; rfl) (by decide) rfl (fun ls hl => ?_)
          refine lv_goto (tgt := 4) hx hb dX12_shows_49 (by decide) ?_
          exact ih4 _ _ _ ls v1 v2 x14 hu hp hP hD hS (by (try simp only [i_lt, i_le, i_eq, Int32.toInt_toInt64, Int32.reduceToInt, Int64.reduceToInt, true_and, and_true, false_and, and_false, false_or, or_false, true_or, or_true, not_true_eq_false, not_false_eq_true, ne_eq, forall_const, true_implies, false_implies, implies_true] at g_v3 hn4 tx1 g2 c3 c6 tx14 ⊢) <;> omega) (by (try simp only [i_lt, i_le, i_eq, Int32.toInt_toInt64, Int32.reduceToInt, Int64.reduceToInt, true_and, and_true, false_and, and_false, false_or, or_false, true_or, or_true, not_true_eq_false, not_false_eq_true, ne_eq, forall_const, true_implies, false_implies, implies_true] at g_v3 hn4 tx1 g2 c3 c6 tx14 ⊢) <;> omega) (lv_sub hl [1, 2, 3, 0] rfl)
  have hl := lv_entry ([.ref h0, .int p1]) (n := 4) (Nat.le_of_ble_eq_true rfl)
  rw [lg_entry_eq]
  generalize (lg_sl ([.ref h0, .int p1]) ++ List.replicate (4 - (lg_sl ([.ref h0, .int p1])).length) Slot.unset).toArray = ls at hl ⊢
  have hl : lv_has ls 4 [(0, .ref h0), (1, .int p1)] := hl
  refine lv_iconst (v := 0) hx hb dX12_shows_0 (by decide) ?_
  refine lv_istore_n (lv' := [(2, .int 0), (0, .ref h0), (1, .int p1)]) hx hb dX12_shows_1 rfl hl (by decide) rfl (fun ls hl => ?_)
  refine lv_iconst (v := 0) hx hb dX12_shows_2 (by decide) ?_
  refine lv_istore_n (lv' := [(3, .int 0), (2, .int 0), (0, .ref h0), (1, .int p1)]) hx hb dX12_shows_3 rfl hl (by decide) rfl (fun ls hl => ?_)
  exact B4 _ _ _ _ ls p1 0 0 hu hp hP hD hS (Nat.le_refl _) (by (try simp only [i_lt, i_le, i_eq, Int32.toInt_toInt64, Int32.reduceToInt, Int64.reduceToInt, true_and, and_true, false_and, and_false, false_or, or_false, true_or, or_true, not_true_eq_false, not_false_eq_true, ne_eq, forall_const, true_implies, false_implies, implies_true]) <;> omega) (lv_sub hl [2, 3, 1, 0] rfl)
set_option maxHeartbeats 4000000 in
set_option maxRecDepth 100000 in
theorem t_X12_stay (l : Launch) (D : va_G) (k : Nat → ClassId) (u0 : PSt) (hu : WT u0) (h0 : Nat) (m_h0 : h0 ∈ u0.1) (k_h0 : u0.2.1 h0 = 12) (p1 : Int32) (sz : Nat) : Met l yX12_stay wsX12_stay ({ frames := 7, cells := 0, slots := 0, locals := 170 }) (PreM D k sz (PW k u0) [.ref h0, .int p1]) (va_Qi (fun r v => WT v ∧ PX u0 v ∧ (True)) (WB D (va_A (PW k u0) sz) (PW k)) (va_A (PW k u0) sz)) 0 0 (va_A (PW k u0) sz) := by
  refine Met.ofW (cc := cX12_stay) (maxL := 5) (ret := (some .int)) (by decide) rfl ?_
  intro p e s m args below meth c s₁ B hml hv
  obtain ⟨rfl, hsz, hP, hK, hD0, hN⟩ := hv
  have hx := B.exec
  have hb := B.bytes
  have hr := B.returns
  have hts := atoms_spec (ws := wsX12_stay) B.pre
  have hown : s.vm.findClass RX12 = some m.cls := findClass_of_methodNamed B.named
  have hlocks := B.notSynchronized
  have m0_h0 := m_h0
  have k0_h0 := k_h0
  subst hsz
  have hD := hD0.self (sz := s.heap.size)
  generalize hAe : va_A (PW k u0) s.heap.size = A at hD ⊢
  have hA : ∀ q : Nat, s.heap.size ≤ q → A q := fun q h => by rw [← hAe]; exact Or.inr h
  have hS : va_S A s.heap s.heap [] := va_S.rf
  have hp : PX u0 u0 := PX.rf
  have B36 : ∀ (n36 : Nat) (u : PSt) (H : Heap) (locs : List Loc) (ls : Array Slot) (v1 : Int32) (v2 : Int32) (v3 : Int32), WT u → PX u0 u → va_P D vwCl (PW k u) H → va_D A (PW k u) → va_S A s.heap H locs → (v3.toInt - v2.toInt).toNat + 1 ≤ n36 → 0 ≤ v1.toInt ∧ v1.toInt ≤ 11 → 0 ≤ v2.toInt ∧ v2.toInt ≤ 30000 → 0 ≤ v3.toInt ∧ v3.toInt ≤ 30000 → lv_has ls 5 [(0, .ref h0), (1, .int v1), (2, .int v2), (3, .int v3)] → W p l e (headSpec wsX12_stay ({ frames := 7, cells := 0, slots := 0, locals := 170 })).room s m ([.ref h0, .int p1] : List Value).toArray below meth c H locs 0 0 (MQ below (va_Qi (fun r v => WT v ∧ PX u0 v ∧ (True)) (WB D A (PW k)) A) ([.ref h0, .int p1] : List Value).toArray s 0 0 A) (F0 m 36 ls []) := by
    intro n36
    induction n36 with
    | zero =>
      intro u H locs ls v1 v2 v3 hu hp hP hD hS hn36 g_v1 g_v2 g_v3 hl
      exact absurd hn36 (by omega)
    | succ n36 ih36 =>
      intro u H locs ls v1 v2 v3 hu hp hP hD hS hn36 g_v1 g_v2 g_v3 hl
      refine lv_iload_n hx hb dX12_stay_36 rfl (lv_at hl 2 rfl) ?_
      refine lv_iload_n hx hb dX12_stay_37 rfl (lv_at hl 3 rfl) ?_
      refine lv_icmp_ge (tgt := 73) hx hb dX12_stay_38 (by decide) (fun c1 => ?_) (fun c1 => ?_)
      · refine lv_iload_n hx hb dX12_stay_73 rfl (lv_at hl 2 rfl) ?_
        exact W.iret (v := v2) hx hb hr (fun t ht hW => ⟨⟨v2, u, rfl, ⟨hu, hp, trivial⟩, by rw [ht]; exact hP, hD⟩, hS.F ht⟩) hS.2.2 dX12_stay_74
      · refine lv_iload_n hx hb dX12_stay_41 rfl (lv_at hl 2 rfl) ?_
        refine lv_iload_n hx hb dX12_stay_42 rfl (lv_at hl 3 rfl) ?_
        refine lv_iadd hx hb dX12_stay_43 ?_
        refine lv_topi (fun x2 ex2 => ?_)
        have tx2 : x2.toInt = v2.toInt + v3.toInt := by rw [ex2]; exact i_add (by (try simp only [i_lt, i_le, i_eq, Int32.toInt_toInt64, Int32.reduceToInt, Int64.reduceToInt, true_and, and_true, false_and, and_false, false_or, or_false, true_or, or_true, not_true_eq_false, not_false_eq_true, ne_eq, forall_const, true_implies, false_implies, implies_true] at g_v1 g_v2 g_v3 hn36 c1 ⊢) <;> omega) (by (try simp only [i_lt, i_le, i_eq, Int32.toInt_toInt64, Int32.reduceToInt, Int64.reduceToInt, true_and, and_true, false_and, and_false, false_or, or_false, true_or, or_true, not_true_eq_false, not_false_eq_true, ne_eq, forall_const, true_implies, false_implies, implies_true] at g_v1 g_v2 g_v3 hn36 c1 ⊢) <;> omega)
        refine lv_iconst (v := 2) hx hb dX12_stay_44 (by decide) ?_
        refine lv_idiv hx hb dX12_stay_45 (by decide) ?_
        refine lv_topi (fun x3 ex3 => ?_)
        have tx3 : x3.toInt = x2.toInt / 2 := by rw [ex3]; exact i_div (d := 2) (by (try simp only [i_lt, i_le, i_eq, Int32.toInt_toInt64, Int32.reduceToInt, Int64.reduceToInt, true_and, and_true, false_and, and_false, false_or, or_false, true_or, or_true, not_true_eq_false, not_false_eq_true, ne_eq, forall_const, true_implies, false_implies, implies_true] at g_v1 g_v2 g_v3 hn36 c1 tx2 ⊢) <;> omega) (by decide) (by decide)
        refine lv_istore (lv' := [(4, .int x3), (0, .ref h0), (1, .int v1), (2, .int v2), (3, .int v3)]) hx hb dX12_stay_46 hl (by decide) rfl (fun ls hl => ?_)
        refine lv_aload_n hx hb dX12_stay_48 rfl (lv_at hl 1 rfl) ?_
        refine lv_iload_n hx hb dX12_stay_49 rfl (lv_at hl 2 rfl) ?_
        refine lv_iload hx hb dX12_stay_50 (lv_at hl 0 rfl) ?_
        have k_h0 : u.2.1 h0 = 12 := (hp h0 m0_h0).2.1.trans k0_h0
        have m_h0 : h0 ∈ u.1 := (hp h0 m0_h0).1
        refine wiV (C := RX12) (As := [.int v1, .int x3]) (rest := []) ⟨hx, hb, hml, hown, hts⟩ (fun sz => t_X12_goesBy l D k u hu h0 m_h0 k_h0 v1 x3 (by (try simp only [i_lt, i_le, i_eq, Int32.toInt_toInt64, Int32.reduceToInt, Int64.reduceToInt, true_and, and_true, false_and, and_false, false_or, or_false, true_or, or_true, not_true_eq_false, not_false_eq_true, ne_eq, forall_const, true_implies, false_implies, implies_true] at g_v1 g_v2 g_v3 hn36 c1 tx2 tx3 ⊢) <;> omega) sz) (cwV 2 hts gX12_stay_X12_goesBy rfl rfl rfl (by decide +kernel) ⟨Nat.le_of_ble_eq_true rfl, Nat.le_of_ble_eq_true rfl⟩) hP hK hD hN hS hA (precv hK hP m_h0 (cF12 k_h0) rfl) rfl hl.1 rfl (Nat.le_of_ble_eq_true rfl) dX12_stay_52 ⟨Nat.le_of_ble_eq_true rfl, Nat.le_of_ble_eq_true rfl⟩ (fun r4 u5 H locs hqu5 hP hD hS => ?_)
        obtain ⟨hu, hxu5, hr4⟩ := hqu5
        have hp := PX.trans hp hxu5
        refine lv_iconst (v := (-1)) hx hb dX12_stay_55 (by decide) ?_
        refine lv_icmp_ne (tgt := 65) hx hb dX12_stay_56 (by decide) (fun c6 => ?_) (fun c6 => ?_)
        · refine lv_iload hx hb dX12_stay_65 (lv_at hl 0 rfl) ?_
          refine lv_iconst (v := 1) hx hb dX12_stay_67 (by decide) ?_
          refine lv_iadd hx hb dX12_stay_68 ?_
          refine lv_topi (fun x7 ex7 => ?_)
          have tx7 : x7.toInt = x3.toInt + (1 : Int32).toInt := by rw [ex7]; exact i_add (by (try simp only [i_lt, i_le, i_eq, Int32.toInt_toInt64, Int32.reduceToInt, Int64.reduceToInt, true_and, and_true, false_and, and_false, false_or, or_false, true_or, or_true, not_true_eq_false, not_false_eq_true, ne_eq, forall_const, true_implies, false_implies, implies_true] at g_v1 g_v2 g_v3 hn36 c1 tx2 tx3 c6 ⊢) <;> omega) (by (try simp only [i_lt, i_le, i_eq, Int32.toInt_toInt64, Int32.reduceToInt, Int64.reduceToInt, true_and, and_true, false_and, and_false, false_or, or_false, true_or, or_true, not_true_eq_false, not_false_eq_true, ne_eq, forall_const, true_implies, false_implies, implies_true] at g_v1 g_v2 g_v3 hn36 c1 tx2 tx3 c6 ⊢) <;> omega)
          refine lv_istore_n (lv' := [(2, .int x7), (4, .int x3), (0, .ref h0), (1, .int v1), (3, .int v3)]) hx hb dX12_stay_69 rfl hl (by decide) rfl (fun ls hl => ?_)
          refine lv_goto (tgt := 36) hx hb dX12_stay_70 (by decide) ?_
          exact ih36 _ _ _ ls v1 x7 v3 hu hp hP hD hS (by (try simp only [i_lt, i_le, i_eq, Int32.toInt_toInt64, Int32.reduceToInt, Int64.reduceToInt, true_and, and_true, false_and, and_false, false_or, or_false, true_or, or_true, not_true_eq_false, not_false_eq_true, ne_eq, forall_const, true_implies, false_implies, implies_true] at g_v1 g_v2 g_v3 hn36 c1 tx2 tx3 c6 tx7 ⊢) <;> omega) (by (try simp only [i_lt, i_le, i_eq, Int32.toInt_toInt64, Int32.reduceToInt, Int64.reduceToInt, true_and, and_true, false_and, and_false, false_or, or_false, true_or, or_true, not_true_eq_false, not_false_eq_true, ne_eq, forall_const, true_implies, false_implies, implies_true] at g_v1 g_v2 g_v3 hn36 c1 tx2 tx3 c6 tx7 ⊢) <;> omega) (by (try simp only [i_lt, i_le, i_eq, Int32.toInt_toInt64, Int32.reduceToInt, Int64.reduceToInt, true_and, and_true, false_and, and_false, false_or, or_false, true_or, or_true, not_true_eq_false, not_false_eq_true, ne_eq, forall_const, true_implies, false_implies, implies_true] at g_v1 g_v2 g_v3 hn36 c1 tx2 tx3 c6 tx7 ⊢) <;> omega) (by (try simp only [i_lt, i_le, i_eq, Int32.toInt_toInt64, Int32.reduceToInt, Int64.reduceToInt, true_and, and_true, false_and, and_false, false_or, or_false, true_or, or_true, not_true_eq_false, not_false_eq_true, ne_eq, forall_const, true_implies, false_implies, implies_true] at g_v1 g_v2 g_v3 hn36 c1 tx2 tx3 c6 tx7 ⊢) <;> omega) (lv_sub hl [2, 3, 0, 4] rfl)
        · refine lv_iload hx hb dX12_stay_59 (lv_at hl 0 rfl) ?_
          refine lv_istore_n (lv' := [(3, .int x3), (4, .int x3), (0, .ref h0), (1, .int v1), (2, .int v2)]) hx hb dX12_stay_61 rfl hl (by decide) rfl (fun ls hl => ?_)
          refine lv_goto (tgt := 70) hx hb dX12_stay_62 (by decide) ?_
          refine lv_goto (tgt := 36) hx hb dX12_stay_70 (by decide) ?_
          exact ih36 _ _ _ ls v1 v2 x3 hu hp hP hD hS (by (try simp only [i_lt, i_le, i_eq, Int32.toInt_toInt64, Int32.reduceToInt, Int64.reduceToInt, true_and, and_true, false_and, and_false, false_or, or_false, true_or, or_true, not_true_eq_false, not_false_eq_true, ne_eq, forall_const, true_implies, false_implies, implies_true] at g_v1 g_v2 g_v3 hn36 c1 tx2 tx3 c6 ⊢) <;> omega) (by (try simp only [i_lt, i_le, i_eq, Int32.toInt_toInt64, Int32.reduceToInt, Int64.reduceToInt, true_and, and_true, false_and, and_false, false_or, or_false, true_or, or_true, not_true_eq_false, not_false_eq_true, ne_eq, forall_const, true_implies, false_implies, implies_true] at g_v1 g_v2 g_v3 hn36 c1 tx2 tx3 c6 ⊢) <;> omega) (by (try simp only [i_lt, i_le, i_eq, Int32.toInt_toInt64, Int32.reduceToInt, Int64.reduceToInt, true_and, and_true, false_and, and_false, false_or, or_false, true_or, or_true, not_true_eq_false, not_false_eq_true, ne_eq, forall_const, true_implies, false_implies, implies_true] at g_v1 g_v2 g_v3 hn36 c1 tx2 tx3 c6 ⊢) <;> omega) (by (try simp only [i_lt, i_le, i_eq, Int32.toInt_toInt64, Int32.reduceToInt, Int64.reduceToInt, true_and, and_true, false_and, and_false, false_or, or_false, true_or, or_true, not_true_eq_false, not_false_eq_true, ne_eq, forall_const, true_implies, false_implies, implies_true] at g_v1 g_v2 g_v3 hn36 c1 tx2 tx3 c6 ⊢) <;> omega) (lv_sub hl [2, 3, 4, 0] rfl)
  have hl := lv_entry ([.ref h0, .int p1]) (n := 5) (Nat.le_of_ble_eq_true rfl)
  rw [lg_entry_eq]
  generalize (lg_sl ([.ref h0, .int p1]) ++ List.replicate (5 - (lg_sl ([.ref h0, .int p1])).length) Slot.unset).toArray = ls at hl ⊢
  have hl : lv_has ls 5 [(0, .ref h0), (1, .int p1)] := hl
  refine lv_aload_n hx hb dX12_stay_0 rfl (lv_at hl 0 rfl) ?_
  refine lv_iload_n hx hb dX12_stay_1 rfl (lv_at hl 1 rfl) ?_
  refine rvi (C := RX12) (As := [.int p1]) (rest := []) ⟨hx, hb, hml, hown, hts⟩ (t_X12_isPipe l D k u0 hu h0 m_h0 k_h0 p1) (cwV 1 hts gX12_stay_X12_isPipe rfl rfl rfl (by decide +kernel) ⟨Nat.le_of_ble_eq_true rfl, Nat.le_of_ble_eq_true rfl⟩) hP hK (precv hK hP m_h0 (cF12 k_h0) rfl) rfl hl.1 rfl (Nat.le_of_ble_eq_true rfl) dX12_stay_2 ⟨Nat.le_of_ble_eq_true rfl, Nat.le_of_ble_eq_true rfl⟩ (fun r8 hr8 => ?_)
  refine lv_if_ne (tgt := 11) hx hb dX12_stay_5 (by decide) (fun c9 => ?_) (fun c9 => ?_)
  · have eb10 : r8.toInt = 1 := by rcases hr8 with q | ⟨q, -⟩; exact absurd (i_eq.mpr q) c9; exact q
    have fb10 : 0 ≤ p1.toInt ∧ p1.toInt ≤ 11 := by rcases hr8 with q | ⟨q, r⟩; exact absurd q (by omega); exact r
    clear hr8
    refine lv_aload_n hx hb dX12_stay_11 rfl (lv_at hl 0 rfl) ?_
    refine lv_iconst (v := 0) hx hb dX12_stay_12 (by decide) ?_
    refine wvV (C := RX12) (As := [.int 0]) (rest := []) ⟨hx, hb, hml, hown, hts⟩ (fun sz => t_X12_lays l D k u0 hu h0 m_h0 k_h0 0 sz) (cwV 1 hts gX12_stay_X12_lays rfl rfl rfl (by decide +kernel) ⟨Nat.le_of_ble_eq_true rfl, Nat.le_of_ble_eq_true rfl⟩) hP hK hD hN hS hA (precv hK hP m_h0 (cF12 k_h0) rfl) rfl hl.1 rfl (Nat.le_of_ble_eq_true rfl) dX12_stay_13 ⟨Nat.le_of_ble_eq_true rfl, Nat.le_of_ble_eq_true rfl⟩ (fun u12 H locs hqu12 hP hD hS => ?_)
    obtain ⟨hu, hxu12, hr11⟩ := hqu12
    have hp := PX.trans hp hxu12
    refine lv_aload_n hx hb dX12_stay_16 rfl (lv_at hl 0 rfl) ?_
    refine lv_iload_n hx hb dX12_stay_17 rfl (lv_at hl 1 rfl) ?_
    refine lv_sipush (v := 30000) hx hb dX12_stay_18 (by decide) ?_
    have k_h0 : u12.2.1 h0 = 12 := (hp h0 m0_h0).2.1.trans k0_h0
    have m_h0 : h0 ∈ u12.1 := (hp h0 m0_h0).1
    refine wiV (C := RX12) (As := [.int p1, .int 30000]) (rest := []) ⟨hx, hb, hml, hown, hts⟩ (fun sz => t_X12_goesBy l D k u12 hu h0 m_h0 k_h0 p1 30000 (by (try simp only [i_lt, i_le, i_eq, Int32.toInt_toInt64, Int32.reduceToInt, Int64.reduceToInt, true_and, and_true, false_and, and_false, false_or, or_false, true_or, or_true, not_true_eq_false, not_false_eq_true, ne_eq, forall_const, true_implies, false_implies, implies_true] at eb10 fb10 ⊢) <;> omega) sz) (cwV 2 hts gX12_stay_X12_goesBy rfl rfl rfl (by decide +kernel) ⟨Nat.le_of_ble_eq_true rfl, Nat.le_of_ble_eq_true rfl⟩) hP hK hD hN hS hA (precv hK hP m_h0 (cF12 k_h0) rfl) rfl hl.1 rfl (Nat.le_of_ble_eq_true rfl) dX12_stay_21 ⟨Nat.le_of_ble_eq_true rfl, Nat.le_of_ble_eq_true rfl⟩ (fun r13 u14 H locs hqu14 hP hD hS => ?_)
    obtain ⟨hu, hxu14, hr13⟩ := hqu14
    have hp := PX.trans hp hxu14
    refine lv_iconst (v := (-1)) hx hb dX12_stay_24 (by decide) ?_
    refine lv_icmp_eq (tgt := 30) hx hb dX12_stay_25 (by decide) (fun c15 => ?_) (fun c15 => ?_)
    · refine lv_iconst (v := 0) hx hb dX12_stay_30 (by decide) ?_
      refine lv_istore_n (lv' := [(2, .int 0), (0, .ref h0), (1, .int p1)]) hx hb dX12_stay_31 rfl hl (by decide) rfl (fun ls hl => ?_)
      refine lv_sipush (v := 30000) hx hb dX12_stay_32 (by decide) ?_
      refine lv_istore_n (lv' := [(3, .int 30000), (2, .int 0), (0, .ref h0), (1, .int p1)]) hx hb dX12_stay_35 rfl hl (by decide) rfl (fun ls hl => ?_)
      exact B36 _ _ _ _ ls p1 0 30000 hu hp hP hD hS (Nat.le_refl _) (by (try simp only [i_lt, i_le, i_eq, Int32.toInt_toInt64, Int32.reduceToInt, Int64.reduceToInt, true_and, and_true, false_and, and_false, false_or, or_false, true_or, or_true, not_true_eq_false, not_false_eq_true, ne_eq, forall_const, true_implies, false_implies, implies_true] at eb10 fb10 c15 ⊢) <;> omega) (by (try simp only [i_lt, i_le, i_eq, Int32.toInt_toInt64, Int32.reduceToInt, Int64.reduceToInt, true_and, and_true, false_and, and_false, false_or, or_false, true_or, or_true, not_true_eq_false, not_false_eq_true, ne_eq, forall_const, true_implies, false_implies, implies_true] at eb10 fb10 c15 ⊢) <;> omega) (by (try simp only [i_lt, i_le, i_eq, Int32.toInt_toInt64, Int32.reduceToInt, Int64.reduceToInt, true_and, and_true, false_and, and_false, false_or, or_false, true_or, or_true, not_true_eq_false, not_false_eq_true, ne_eq, forall_const, true_implies, false_implies, implies_true] at eb10 fb10 c15 ⊢) <;> omega) (lv_sub hl [2, 3, 1, 0] rfl)
    · refine lv_iconst (v := (-1)) hx hb dX12_stay_28 (by decide) ?_
      exact W.iret (v := (-1)) hx hb hr (fun t ht hW => ⟨⟨(-1), u14, rfl, ⟨hu, hp, trivial⟩, by rw [ht]; exact hP, hD⟩, hS.F ht⟩) hS.2.2 dX12_stay_29
  · have eb16 : r8.toInt = 0 := by rcases hr8 with q | ⟨q, -⟩; exact q; (exact absurd (c9) (fun w => by rw [w] at q; exact absurd q (by decide)))
    clear hr8
    refine lv_bipush (v := (-2)) hx hb dX12_stay_8 (by decide) ?_
    exact W.iret (v := (-2)) hx hb hr (fun t ht hW => ⟨⟨(-2), u0, rfl, ⟨hu, hp, trivial⟩, by rw [ht]; exact hP, hD⟩, hS.F ht⟩) hS.2.2 dX12_stay_10
set_option maxHeartbeats 4000000 in
set_option maxRecDepth 100000 in
theorem t_X12_trial (l : Launch) (D : va_G) (k : Nat → ClassId) (u0 : PSt) (hu : WT u0) (h0 : Nat) (m_h0 : h0 ∈ u0.1) (k_h0 : u0.2.1 h0 = 12) (p1 : Int32) (sz : Nat) : Met l yX12_trial wsX12_trial ({ frames := 9, cells := 0, slots := 0, locals := 214 }) (PreM D k sz (PW k u0) [.ref h0, .int p1]) (va_Qi (fun r v => WT v ∧ PX u0 v ∧ (True)) (WB D (va_A (PW k u0) sz) (PW k)) (va_A (PW k u0) sz)) 0 0 (va_A (PW k u0) sz) := by
  refine Met.ofW (cc := cX12_trial) (maxL := 2) (ret := (some .int)) (by decide) rfl ?_
  intro p e s m args below meth c s₁ B hml hv
  obtain ⟨rfl, hsz, hP, hK, hD0, hN⟩ := hv
  have hx := B.exec
  have hb := B.bytes
  have hr := B.returns
  have hts := atoms_spec (ws := wsX12_trial) B.pre
  have hown : s.vm.findClass RX12 = some m.cls := findClass_of_methodNamed B.named
  have hlocks := B.notSynchronized
  have m0_h0 := m_h0
  have k0_h0 := k_h0
  subst hsz
  have hD := hD0.self (sz := s.heap.size)
  generalize hAe : va_A (PW k u0) s.heap.size = A at hD ⊢
  have hA : ∀ q : Nat, s.heap.size ≤ q → A q := fun q h => by rw [← hAe]; exact Or.inr h
  have hS : va_S A s.heap s.heap [] := va_S.rf
  have hp : PX u0 u0 := PX.rf
  have hl := lv_entry ([.ref h0, .int p1]) (n := 2) (Nat.le_of_ble_eq_true rfl)
  rw [lg_entry_eq]
  generalize (lg_sl ([.ref h0, .int p1]) ++ List.replicate (2 - (lg_sl ([.ref h0, .int p1])).length) Slot.unset).toArray = ls at hl ⊢
  have hl : lv_has ls 2 [(0, .ref h0), (1, .int p1)] := hl
  refine lv_iload_n hx hb dX12_trial_0 rfl (lv_at hl 1 rfl) ?_
  refine psi (As := [.int p1]) (rest := []) ⟨hx, hb, hml, hown, hts⟩ (t_X12_isPress l D k p1) (va_cwS 1 hts gX12_trial_X12_isPress rfl rfl rfl (by decide +kernel) ⟨Nat.le_of_ble_eq_true rfl, Nat.le_of_ble_eq_true rfl⟩) hK rfl hl.1 rfl (Nat.le_of_ble_eq_true rfl) dX12_trial_1 ⟨Nat.le_of_ble_eq_true rfl, Nat.le_of_ble_eq_true rfl⟩ (fun r1 hr1 => ?_)
  refine lv_if_eq (tgt := 15) hx hb dX12_trial_4 (by decide) (fun c2 => ?_) (fun c2 => ?_)
  · have eb3 : r1.toInt = 0 := by rcases hr1 with ⟨q, -⟩ | ⟨q, -⟩; exact q; (exact absurd (c2) (fun w => by rw [w] at q; exact absurd q (by decide)))
    have fb3 : (p1.toInt < 0 ∨ 999 < p1.toInt) := by rcases hr1 with ⟨q, r⟩ | ⟨q, r⟩; exact r; exact absurd q (by omega)
    clear hr1
    refine lv_bipush (v := (-2)) hx hb dX12_trial_15 (by decide) ?_
    exact W.iret (v := (-2)) hx hb hr (fun t ht hW => ⟨⟨(-2), u0, rfl, ⟨hu, hp, trivial⟩, by rw [ht]; exact hP, hD⟩, hS.F ht⟩) hS.2.2 dX12_trial_17
  · have eb4 : r1.toInt = 1 := by rcases hr1 with ⟨q, -⟩ | ⟨q, -⟩; exact absurd (i_eq.mpr q) c2; exact q
    have fb4 : 0 ≤ p1.toInt ∧ p1.toInt ≤ 999 := by rcases hr1 with ⟨q, r⟩ | ⟨q, r⟩; exact absurd q (by omega); exact r
    clear hr1
    refine lv_aload_n hx hb dX12_trial_7 rfl (lv_at hl 0 rfl) ?_
    refine lv_iload_n hx hb dX12_trial_8 rfl (lv_at hl 1 rfl) ?_
    refine wiV (C := RX12) (As := [.int p1]) (rest := []) ⟨hx, hb, hml, hown, hts⟩ (fun sz => t_X12_shows l D k u0 hu h0 m_h0 k_h0 p1 sz) (cwV 1 hts gX12_trial_X12_shows rfl rfl rfl (by decide +kernel) ⟨Nat.le_of_ble_eq_true rfl, Nat.le_of_ble_eq_true rfl⟩) hP hK hD hN hS hA (precv hK hP m_h0 (cF12 k_h0) rfl) rfl hl.1 rfl (Nat.le_of_ble_eq_true rfl) dX12_trial_9 ⟨Nat.le_of_ble_eq_true rfl, Nat.le_of_ble_eq_true rfl⟩ (fun r5 u6 H locs hqu6 hP hD hS => ?_)
    obtain ⟨hu, hxu6, hr5⟩ := hqu6
    have hp := PX.trans hp hxu6
    refine lv_goto (tgt := 17) hx hb dX12_trial_12 (by decide) ?_
    exact W.iret (v := r5) hx hb hr (fun t ht hW => ⟨⟨r5, u6, rfl, ⟨hu, hp, trivial⟩, by rw [ht]; exact hP, hD⟩, hS.F ht⟩) hS.2.2 dX12_trial_17
set_option maxHeartbeats 4000000 in
set_option maxRecDepth 100000 in
theorem t_X12_under (l : Launch) (D : va_G) (k : Nat → ClassId) (u0 : PSt) (hu : WT u0) (h0 : Nat) (m_h0 : h0 ∈ u0.1) (k_h0 : u0.2.1 h0 = 12) (p1 : Int32) (p2 : Int32) (sz : Nat) : Met l yX12_under wsX12_under ({ frames := 7, cells := 0, slots := 0, locals := 170 }) (PreM D k sz (PW k u0) [.ref h0, .int p1, .int p2]) (va_Qi (fun r v => WT v ∧ PX u0 v ∧ (True)) (WB D (va_A (PW k u0) sz) (PW k)) (va_A (PW k u0) sz)) 0 0 (va_A (PW k u0) sz) := by
  refine Met.ofW (cc := cX12_under) (maxL := 3) (ret := (some .int)) (by decide) rfl ?_
  intro p e s m args below meth c s₁ B hml hv
  obtain ⟨rfl, hsz, hP, hK, hD0, hN⟩ := hv
  have hx := B.exec
  have hb := B.bytes
  have hr := B.returns
  have hts := atoms_spec (ws := wsX12_under) B.pre
  have hown : s.vm.findClass RX12 = some m.cls := findClass_of_methodNamed B.named
  have hlocks := B.notSynchronized
  have m0_h0 := m_h0
  have k0_h0 := k_h0
  subst hsz
  have hD := hD0.self (sz := s.heap.size)
  generalize hAe : va_A (PW k u0) s.heap.size = A at hD ⊢
  have hA : ∀ q : Nat, s.heap.size ≤ q → A q := fun q h => by rw [← hAe]; exact Or.inr h
  have hS : va_S A s.heap s.heap [] := va_S.rf
  have hp : PX u0 u0 := PX.rf
  have hl := lv_entry ([.ref h0, .int p1, .int p2]) (n := 3) (Nat.le_of_ble_eq_true rfl)
  rw [lg_entry_eq]
  generalize (lg_sl ([.ref h0, .int p1, .int p2]) ++ List.replicate (3 - (lg_sl ([.ref h0, .int p1, .int p2])).length) Slot.unset).toArray = ls at hl ⊢
  have hl : lv_has ls 3 [(0, .ref h0), (1, .int p1), (2, .int p2)] := hl
  refine lv_aload_n hx hb dX12_under_0 rfl (lv_at hl 0 rfl) ?_
  refine lv_iload_n hx hb dX12_under_1 rfl (lv_at hl 1 rfl) ?_
  refine rvi (C := RX12) (As := [.int p1]) (rest := []) ⟨hx, hb, hml, hown, hts⟩ (t_X12_isPipe l D k u0 hu h0 m_h0 k_h0 p1) (cwV 1 hts gX12_under_X12_isPipe rfl rfl rfl (by decide +kernel) ⟨Nat.le_of_ble_eq_true rfl, Nat.le_of_ble_eq_true rfl⟩) hP hK (precv hK hP m_h0 (cF12 k_h0) rfl) rfl hl.1 rfl (Nat.le_of_ble_eq_true rfl) dX12_under_2 ⟨Nat.le_of_ble_eq_true rfl, Nat.le_of_ble_eq_true rfl⟩ (fun r1 hr1 => ?_)
  refine lv_if_eq (tgt := 22) hx hb dX12_under_5 (by decide) (fun c2 => ?_) (fun c2 => ?_)
  · have eb3 : r1.toInt = 0 := by rcases hr1 with q | ⟨q, -⟩; exact q; (exact absurd (c2) (fun w => by rw [w] at q; exact absurd q (by decide)))
    clear hr1
    refine lv_bipush (v := (-2)) hx hb dX12_under_22 (by decide) ?_
    exact W.iret (v := (-2)) hx hb hr (fun t ht hW => ⟨⟨(-2), u0, rfl, ⟨hu, hp, trivial⟩, by rw [ht]; exact hP, hD⟩, hS.F ht⟩) hS.2.2 dX12_under_24
  · have eb4 : r1.toInt = 1 := by rcases hr1 with q | ⟨q, -⟩; exact absurd (i_eq.mpr q) c2; exact q
    have fb4 : 0 ≤ p1.toInt ∧ p1.toInt ≤ 11 := by rcases hr1 with q | ⟨q, r⟩; exact absurd q (by omega); exact r
    clear hr1
    refine lv_iload_n hx hb dX12_under_8 rfl (lv_at hl 2 rfl) ?_
    refine lv_i2l hx hb dX12_under_9 rfl ?_
    have b5 := Int32.toInt_lt p2
    have ab5 := Int32.le_toInt p2
    refine lv_topl (fun x6 ex6 => ?_)
    have tx6 : x6.toInt = p2.toInt := by rw [ex6]; exact Int32.toInt_toInt64 _
    refine lv_ldc2 (own := RX12) (v := (-999)) hx hb hown (hts (.constantLong RX12 393 (-999)) (by decide +kernel)) dX12_under_10 ?_
    refine lv_ldc2 (own := RX12) (v := 999) hx hb hown (hts (.constantLong RX12 80 (999)) (by decide +kernel)) dX12_under_13 ?_
    refine psi (As := [.long x6, .long (-999), .long 999]) (rest := []) ⟨hx, hb, hml, hown, hts⟩ (t_X12_in l D k x6 (-999) 999) (va_cwS 3 hts gX12_under_X12_in rfl rfl rfl (by decide +kernel) ⟨Nat.le_of_ble_eq_true rfl, Nat.le_of_ble_eq_true rfl⟩) hK rfl hl.1 rfl (Nat.le_of_ble_eq_true rfl) dX12_under_16 ⟨Nat.le_of_ble_eq_true rfl, Nat.le_of_ble_eq_true rfl⟩ (fun r7 hr7 => ?_)
    refine lv_if_ne (tgt := 25) hx hb dX12_under_19 (by decide) (fun c8 => ?_) (fun c8 => ?_)
    · have eb9 : r7.toInt = 1 := by rcases hr7 with ⟨q, -⟩ | ⟨q, -⟩; exact absurd (i_eq.mpr q) c8; exact q
      have fb9 : (-999 : Int64).toInt ≤ x6.toInt ∧ x6.toInt ≤ (999 : Int64).toInt := by rcases hr7 with ⟨q, r⟩ | ⟨q, r⟩; exact absurd q (by omega); exact r
      clear hr7
      refine lv_aload_n hx hb dX12_under_25 rfl (lv_at hl 0 rfl) ?_
      refine lv_iload_n hx hb dX12_under_26 rfl (lv_at hl 2 rfl) ?_
      refine wvV (C := RX12) (As := [.int p2]) (rest := []) ⟨hx, hb, hml, hown, hts⟩ (fun sz => t_X12_lays l D k u0 hu h0 m_h0 k_h0 p2 sz) (cwV 1 hts gX12_under_X12_lays rfl rfl rfl (by decide +kernel) ⟨Nat.le_of_ble_eq_true rfl, Nat.le_of_ble_eq_true rfl⟩) hP hK hD hN hS hA (precv hK hP m_h0 (cF12 k_h0) rfl) rfl hl.1 rfl (Nat.le_of_ble_eq_true rfl) dX12_under_27 ⟨Nat.le_of_ble_eq_true rfl, Nat.le_of_ble_eq_true rfl⟩ (fun u11 H locs hqu11 hP hD hS => ?_)
      obtain ⟨hu, hxu11, hr10⟩ := hqu11
      have hp := PX.trans hp hxu11
      refine lv_aload_n hx hb dX12_under_30 rfl (lv_at hl 0 rfl) ?_
      refine lv_iload_n hx hb dX12_under_31 rfl (lv_at hl 1 rfl) ?_
      refine lv_iconst (v := 0) hx hb dX12_under_32 (by decide) ?_
      have k_h0 : u11.2.1 h0 = 12 := (hp h0 m0_h0).2.1.trans k0_h0
      have m_h0 : h0 ∈ u11.1 := (hp h0 m0_h0).1
      refine wiV (C := RX12) (As := [.int p1, .int 0]) (rest := []) ⟨hx, hb, hml, hown, hts⟩ (fun sz => t_X12_goesBy l D k u11 hu h0 m_h0 k_h0 p1 0 (by (try simp only [i_lt, i_le, i_eq, Int32.toInt_toInt64, Int32.reduceToInt, Int64.reduceToInt, true_and, and_true, false_and, and_false, false_or, or_false, true_or, or_true, not_true_eq_false, not_false_eq_true, ne_eq, forall_const, true_implies, false_implies, implies_true] at eb4 fb4 b5 ab5 tx6 eb9 fb9 ⊢) <;> omega) sz) (cwV 2 hts gX12_under_X12_goesBy rfl rfl rfl (by decide +kernel) ⟨Nat.le_of_ble_eq_true rfl, Nat.le_of_ble_eq_true rfl⟩) hP hK hD hN hS hA (precv hK hP m_h0 (cF12 k_h0) rfl) rfl hl.1 rfl (Nat.le_of_ble_eq_true rfl) dX12_under_33 ⟨Nat.le_of_ble_eq_true rfl, Nat.le_of_ble_eq_true rfl⟩ (fun r12 u13 H locs hqu13 hP hD hS => ?_)
      obtain ⟨hu, hxu13, hr12⟩ := hqu13
      have hp := PX.trans hp hxu13
      exact W.iret (v := r12) hx hb hr (fun t ht hW => ⟨⟨r12, u13, rfl, ⟨hu, hp, trivial⟩, by rw [ht]; exact hP, hD⟩, hS.F ht⟩) hS.2.2 dX12_under_36
    · have eb14 : r7.toInt = 0 := by rcases hr7 with ⟨q, -⟩ | ⟨q, -⟩; exact q; (exact absurd (c8) (fun w => by rw [w] at q; exact absurd q (by decide)))
      have fb14 : (x6.toInt < (-999 : Int64).toInt ∨ (999 : Int64).toInt < x6.toInt) := by rcases hr7 with ⟨q, r⟩ | ⟨q, r⟩; exact r; exact absurd q (by omega)
      clear hr7
      refine lv_bipush (v := (-2)) hx hb dX12_under_22 (by decide) ?_
      exact W.iret (v := (-2)) hx hb hr (fun t ht hW => ⟨⟨(-2), u0, rfl, ⟨hu, hp, trivial⟩, by rw [ht]; exact hP, hD⟩, hS.F ht⟩) hS.2.2 dX12_under_24
set_option maxHeartbeats 4000000 in
set_option maxRecDepth 100000 in
theorem t_X12_why (l : Launch) (D : va_G) (k : Nat → ClassId) (u0 : PSt) (hu : WT u0) (h0 : Nat) (m_h0 : h0 ∈ u0.1) (k_h0 : u0.2.1 h0 = 12) (p1 : Int32) (sz : Nat) : Met l yX12_why wsX12_why ({ frames := 8, cells := 0, slots := 0, locals := 191 }) (PreM D k sz (PW k u0) [.ref h0, .int p1]) (va_Qi (fun r v => WT v ∧ PX u0 v ∧ (True)) (WB D (va_A (PW k u0) sz) (PW k)) (va_A (PW k u0) sz)) 0 0 (va_A (PW k u0) sz) := by
  refine Met.ofW (cc := cX12_why) (maxL := 2) (ret := (some .int)) (by decide) rfl ?_
  intro p e s m args below meth c s₁ B hml hv
  obtain ⟨rfl, hsz, hP, hK, hD0, hN⟩ := hv
  have hx := B.exec
  have hb := B.bytes
  have hr := B.returns
  have hts := atoms_spec (ws := wsX12_why) B.pre
  have hown : s.vm.findClass RX12 = some m.cls := findClass_of_methodNamed B.named
  have hlocks := B.notSynchronized
  have i_X12 : ∀ w ∈ wsX120, w ∈ wsX12_why := by decide +kernel
  have m0_h0 := m_h0
  have k0_h0 := k_h0
  subst hsz
  have hD := hD0.self (sz := s.heap.size)
  generalize hAe : va_A (PW k u0) s.heap.size = A at hD ⊢
  have hA : ∀ q : Nat, s.heap.size ≤ q → A q := fun q h => by rw [← hAe]; exact Or.inr h
  have hS : va_S A s.heap s.heap [] := va_S.rf
  have hp : PX u0 u0 := PX.rf
  have hl := lv_entry ([.ref h0, .int p1]) (n := 2) (Nat.le_of_ble_eq_true rfl)
  rw [lg_entry_eq]
  generalize (lg_sl ([.ref h0, .int p1]) ++ List.replicate (2 - (lg_sl ([.ref h0, .int p1])).length) Slot.unset).toArray = ls at hl ⊢
  have hl : lv_has ls 2 [(0, .ref h0), (1, .int p1)] := hl
  refine lv_aload_n hx hb dX12_why_0 rfl (lv_at hl 0 rfl) ?_
  refine lv_iload_n hx hb dX12_why_1 rfl (lv_at hl 1 rfl) ?_
  refine rvi (C := RX12) (As := [.int p1]) (rest := []) ⟨hx, hb, hml, hown, hts⟩ (t_X12_isPipe l D k u0 hu h0 m_h0 k_h0 p1) (cwV 1 hts gX12_why_X12_isPipe rfl rfl rfl (by decide +kernel) ⟨Nat.le_of_ble_eq_true rfl, Nat.le_of_ble_eq_true rfl⟩) hP hK (precv hK hP m_h0 (cF12 k_h0) rfl) rfl hl.1 rfl (Nat.le_of_ble_eq_true rfl) dX12_why_2 ⟨Nat.le_of_ble_eq_true rfl, Nat.le_of_ble_eq_true rfl⟩ (fun r1 hr1 => ?_)
  refine lv_if_ne (tgt := 11) hx hb dX12_why_5 (by decide) (fun c2 => ?_) (fun c2 => ?_)
  · have eb3 : r1.toInt = 1 := by rcases hr1 with q | ⟨q, -⟩; exact absurd (i_eq.mpr q) c2; exact q
    have fb3 : 0 ≤ p1.toInt ∧ p1.toInt ≤ 11 := by rcases hr1 with q | ⟨q, r⟩; exact absurd q (by omega); exact r
    clear hr1
    refine lv_aload_n hx hb dX12_why_11 rfl (lv_at hl 0 rfl) ?_
    refine lv_iload_n hx hb dX12_why_12 rfl (lv_at hl 1 rfl) ?_
    refine wiV (C := RX12) (As := [.int p1]) (rest := []) ⟨hx, hb, hml, hown, hts⟩ (fun sz => t_X12_goesOf l D k u0 hu h0 m_h0 k_h0 p1 (by (try simp only [i_lt, i_le, i_eq, Int32.toInt_toInt64, Int32.reduceToInt, Int64.reduceToInt, true_and, and_true, false_and, and_false, false_or, or_false, true_or, or_true, not_true_eq_false, not_false_eq_true, ne_eq, forall_const, true_implies, false_implies, implies_true] at eb3 fb3 ⊢) <;> omega) sz) (cwV 1 hts gX12_why_X12_goesOf rfl rfl rfl (by decide +kernel) ⟨Nat.le_of_ble_eq_true rfl, Nat.le_of_ble_eq_true rfl⟩) hP hK hD hN hS hA (precv hK hP m_h0 (cF12 k_h0) rfl) rfl hl.1 rfl (Nat.le_of_ble_eq_true rfl) dX12_why_13 ⟨Nat.le_of_ble_eq_true rfl, Nat.le_of_ble_eq_true rfl⟩ (fun r4 u5 H locs hqu5 hP hD hS => ?_)
    obtain ⟨hu, hxu5, hr4⟩ := hqu5
    have hp := PX.trans hp hxu5
    refine lv_iconst (v := (-1)) hx hb dX12_why_16 (by decide) ?_
    refine lv_icmp_ne (tgt := 24) hx hb dX12_why_17 (by decide) (fun c6 => ?_) (fun c6 => ?_)
    · refine lv_aload_n hx hb dX12_why_24 rfl (lv_at hl 0 rfl) ?_
      have k_h0 : u5.2.1 h0 = 12 := (hp h0 m0_h0).2.1.trans k0_h0
      have m_h0 : h0 ∈ u5.1 := (hp h0 m0_h0).1
      refine pget (ci := 12) (v := .int (u5.2.2.1 h0 25)) (C := RX12) (T := TX12) (N := 34) hx hb hts i_X12 hown hK hP m_h0 (cF12 k_h0) rfl 25 (by decide) (hts (.fieldLink RX12 375 "BellowsRowModel" "byWear" "I") (by decide +kernel)) (fun _ h9 => h9) rfl dX12_why_25 ?_
      exact W.iret (v := (u5.2.2.1 h0 25)) hx hb hr (fun t ht hW => ⟨⟨(u5.2.2.1 h0 25), u5, rfl, ⟨hu, hp, trivial⟩, by rw [ht]; exact hP, hD⟩, hS.F ht⟩) hS.2.2 dX12_why_28
    · refine lv_iconst (v := (-1)) hx hb dX12_why_20 (by decide) ?_
      refine lv_goto (tgt := 28) hx hb dX12_why_21 (by decide) ?_
      exact W.iret (v := (-1)) hx hb hr (fun t ht hW => ⟨⟨(-1), u5, rfl, ⟨hu, hp, trivial⟩, by rw [ht]; exact hP, hD⟩, hS.F ht⟩) hS.2.2 dX12_why_28
  · have eb7 : r1.toInt = 0 := by rcases hr1 with q | ⟨q, -⟩; exact q; (exact absurd (c2) (fun w => by rw [w] at q; exact absurd q (by decide)))
    clear hr1
    refine lv_bipush (v := (-2)) hx hb dX12_why_8 (by decide) ?_
    exact W.iret (v := (-2)) hx hb hr (fun t ht hW => ⟨⟨(-2), u0, rfl, ⟨hu, hp, trivial⟩, by rw [ht]; exact hP, hD⟩, hS.F ht⟩) hS.2.2 dX12_why_10
set_option maxHeartbeats 4000000 in
set_option maxRecDepth 100000 in
theorem t_X12_widen (l : Launch) (D : va_G) (k : Nat → ClassId) (u0 : PSt) (hu : WT u0) (h0 : Nat) (m_h0 : h0 ∈ u0.1) (k_h0 : u0.2.1 h0 = 12) (p1 : Int32) (p2 : Int32) (sz : Nat) : Met l yX12_widen wsX12_widen ({ frames := 9, cells := 0, slots := 0, locals := 216 }) (PreM D k sz (PW k u0) [.ref h0, .int p1, .int p2]) (va_Qi (fun r v => WT v ∧ PX u0 v ∧ (True)) (WB D (va_A (PW k u0) sz) (PW k)) (va_A (PW k u0) sz)) 0 0 (va_A (PW k u0) sz) := by
  refine Met.ofW (cc := cX12_widen) (maxL := 3) (ret := (some .int)) (by decide) rfl ?_
  intro p e s m args below meth c s₁ B hml hv
  obtain ⟨rfl, hsz, hP, hK, hD0, hN⟩ := hv
  have hx := B.exec
  have hb := B.bytes
  have hr := B.returns
  have hts := atoms_spec (ws := wsX12_widen) B.pre
  have hown : s.vm.findClass RX12 = some m.cls := findClass_of_methodNamed B.named
  have hlocks := B.notSynchronized
  have m0_h0 := m_h0
  have k0_h0 := k_h0
  subst hsz
  have hD := hD0.self (sz := s.heap.size)
  generalize hAe : va_A (PW k u0) s.heap.size = A at hD ⊢
  have hA : ∀ q : Nat, s.heap.size ≤ q → A q := fun q h => by rw [← hAe]; exact Or.inr h
  have hS : va_S A s.heap s.heap [] := va_S.rf
  have hp : PX u0 u0 := PX.rf
  have hl := lv_entry ([.ref h0, .int p1, .int p2]) (n := 3) (Nat.le_of_ble_eq_true rfl)
  rw [lg_entry_eq]
  generalize (lg_sl ([.ref h0, .int p1, .int p2]) ++ List.replicate (3 - (lg_sl ([.ref h0, .int p1, .int p2])).length) Slot.unset).toArray = ls at hl ⊢
  have hl : lv_has ls 3 [(0, .ref h0), (1, .int p1), (2, .int p2)] := hl
  refine lv_aload_n hx hb dX12_widen_0 rfl (lv_at hl 0 rfl) ?_
  refine lv_iload_n hx hb dX12_widen_1 rfl (lv_at hl 1 rfl) ?_
  refine rvi (C := RX12) (As := [.int p1]) (rest := []) ⟨hx, hb, hml, hown, hts⟩ (t_X12_isPipe l D k u0 hu h0 m_h0 k_h0 p1) (cwV 1 hts gX12_widen_X12_isPipe rfl rfl rfl (by decide +kernel) ⟨Nat.le_of_ble_eq_true rfl, Nat.le_of_ble_eq_true rfl⟩) hP hK (precv hK hP m_h0 (cF12 k_h0) rfl) rfl hl.1 rfl (Nat.le_of_ble_eq_true rfl) dX12_widen_2 ⟨Nat.le_of_ble_eq_true rfl, Nat.le_of_ble_eq_true rfl⟩ (fun r1 hr1 => ?_)
  refine lv_if_eq (tgt := 30) hx hb dX12_widen_5 (by decide) (fun c2 => ?_) (fun c2 => ?_)
  · have eb3 : r1.toInt = 0 := by rcases hr1 with q | ⟨q, -⟩; exact q; (exact absurd (c2) (fun w => by rw [w] at q; exact absurd q (by decide)))
    clear hr1
    refine lv_bipush (v := (-2)) hx hb dX12_widen_30 (by decide) ?_
    exact W.iret (v := (-2)) hx hb hr (fun t ht hW => ⟨⟨(-2), u0, rfl, ⟨hu, hp, trivial⟩, by rw [ht]; exact hP, hD⟩, hS.F ht⟩) hS.2.2 dX12_widen_32
  · have eb4 : r1.toInt = 1 := by rcases hr1 with q | ⟨q, -⟩; exact absurd (i_eq.mpr q) c2; exact q
    have fb4 : 0 ≤ p1.toInt ∧ p1.toInt ≤ 11 := by rcases hr1 with q | ⟨q, r⟩; exact absurd q (by omega); exact r
    clear hr1
    refine lv_iload_n hx hb dX12_widen_8 rfl (lv_at hl 2 rfl) ?_
    refine lv_i2l hx hb dX12_widen_9 rfl ?_
    have b5 := Int32.toInt_lt p2
    have ab5 := Int32.le_toInt p2
    refine lv_topl (fun x6 ex6 => ?_)
    have tx6 : x6.toInt = p2.toInt := by rw [ex6]; exact Int32.toInt_toInt64 _
    refine lv_lconst (v := 1) hx hb dX12_widen_10 (by decide) ?_
    refine lv_ldc2 (own := RX12) (v := 40) hx hb hown (hts (.constantLong RX12 401 (40)) (by decide +kernel)) dX12_widen_11 ?_
    refine psi (As := [.long x6, .long 1, .long 40]) (rest := []) ⟨hx, hb, hml, hown, hts⟩ (t_X12_in l D k x6 1 40) (va_cwS 3 hts gX12_widen_X12_in rfl rfl rfl (by decide +kernel) ⟨Nat.le_of_ble_eq_true rfl, Nat.le_of_ble_eq_true rfl⟩) hK rfl hl.1 rfl (Nat.le_of_ble_eq_true rfl) dX12_widen_14 ⟨Nat.le_of_ble_eq_true rfl, Nat.le_of_ble_eq_true rfl⟩ (fun r7 hr7 => ?_)
    refine lv_if_eq (tgt := 30) hx hb dX12_widen_17 (by decide) (fun c8 => ?_) (fun c8 => ?_)
    · have eb9 : r7.toInt = 0 := by rcases hr7 with ⟨q, -⟩ | ⟨q, -⟩; exact q; (exact absurd (c8) (fun w => by rw [w] at q; exact absurd q (by decide)))
      have fb9 : (x6.toInt < (1 : Int64).toInt ∨ (40 : Int64).toInt < x6.toInt) := by rcases hr7 with ⟨q, r⟩ | ⟨q, r⟩; exact r; exact absurd q (by omega)
      clear hr7
      refine lv_bipush (v := (-2)) hx hb dX12_widen_30 (by decide) ?_
      exact W.iret (v := (-2)) hx hb hr (fun t ht hW => ⟨⟨(-2), u0, rfl, ⟨hu, hp, trivial⟩, by rw [ht]; exact hP, hD⟩, hS.F ht⟩) hS.2.2 dX12_widen_32
    · have eb10 : r7.toInt = 1 := by rcases hr7 with ⟨q, -⟩ | ⟨q, -⟩; exact absurd (i_eq.mpr q) c8; exact q
      have fb10 : (1 : Int64).toInt ≤ x6.toInt ∧ x6.toInt ≤ (40 : Int64).toInt := by rcases hr7 with ⟨q, r⟩ | ⟨q, r⟩; exact absurd q (by omega); exact r
      clear hr7
      refine lv_aload_n hx hb dX12_widen_20 rfl (lv_at hl 0 rfl) ?_
      refine lv_iload_n hx hb dX12_widen_21 rfl (lv_at hl 1 rfl) ?_
      refine lv_iconst (v := 2) hx hb dX12_widen_22 (by decide) ?_
      refine lv_iload_n hx hb dX12_widen_23 rfl (lv_at hl 2 rfl) ?_
      refine wiV (C := RX12) (As := [.int p1, .int 2, .int p2]) (rest := []) ⟨hx, hb, hml, hown, hts⟩ (fun sz => t_X12_goesWith l D k u0 hu h0 m_h0 k_h0 p1 2 p2 (by (try simp only [i_lt, i_le, i_eq, Int32.toInt_toInt64, Int32.reduceToInt, Int64.reduceToInt, true_and, and_true, false_and, and_false, false_or, or_false, true_or, or_true, not_true_eq_false, not_false_eq_true, ne_eq, forall_const, true_implies, false_implies, implies_true] at eb4 fb4 b5 ab5 tx6 eb10 fb10 ⊢) <;> omega) (by decide) (by (try simp only [i_lt, i_le, i_eq, Int32.toInt_toInt64, Int32.reduceToInt, Int64.reduceToInt, true_and, and_true, false_and, and_false, false_or, or_false, true_or, or_true, not_true_eq_false, not_false_eq_true, ne_eq, forall_const, true_implies, false_implies, implies_true] at eb4 fb4 b5 ab5 tx6 eb10 fb10 ⊢) <;> omega) sz) (cwV 3 hts gX12_widen_X12_goesWith rfl rfl rfl (by decide +kernel) ⟨Nat.le_of_ble_eq_true rfl, Nat.le_of_ble_eq_true rfl⟩) hP hK hD hN hS hA (precv hK hP m_h0 (cF12 k_h0) rfl) rfl hl.1 rfl (Nat.le_of_ble_eq_true rfl) dX12_widen_24 ⟨Nat.le_of_ble_eq_true rfl, Nat.le_of_ble_eq_true rfl⟩ (fun r11 u12 H locs hqu12 hP hD hS => ?_)
      obtain ⟨hu, hxu12, hr11⟩ := hqu12
      have hp := PX.trans hp hxu12
      refine lv_goto (tgt := 32) hx hb dX12_widen_27 (by decide) ?_
      exact W.iret (v := r11) hx hb hr (fun t ht hW => ⟨⟨r11, u12, rfl, ⟨hu, hp, trivial⟩, by rw [ht]; exact hP, hD⟩, hS.F ht⟩) hS.2.2 dX12_widen_32
