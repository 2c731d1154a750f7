set_option maxHeartbeats 4000000 in
set_option maxRecDepth 100000 in
theorem t_X12_bursts (l : Launch) (D : va_G) (k : Nat → ClassId) (u : PSt) (hu : WT u) (h0 : Nat) (m_h0 : h0 ∈ u.1) (k_h0 : u.2.1 h0 = 12) (p1 : Int32) : Met l yX12_bursts wsX12_bursts ({ frames := 2, cells := 0, slots := 0, locals := 46 }) (PreR D k (PW k u) [.ref h0, .int p1]) (vp_Si (fun r => True)) 0 0 (fun _ => False) := by
  refine Met.ofW (cc := cX12_bursts) (maxL := 2) (ret := (some .int)) (by decide) rfl ?_
  intro p e s m args below meth c s₁ B hml hv
  obtain ⟨rfl, hP, hK⟩ := hv
  have hx := B.exec
  have hb := B.bytes
  have hr := B.returns
  have hts := atoms_spec (ws := wsX12_bursts) B.pre
  have hown : s.vm.findClass RX12 = some m.cls := findClass_of_methodNamed B.named
  have hlocks := B.notSynchronized
  have hl := lv_entry ([.ref h0, .int p1]) (n := 2) (Nat.le_of_ble_eq_true rfl)
  rw [lg_entry_eq]
  generalize (lg_sl ([.ref h0, .int p1]) ++ List.replicate (2 - (lg_sl ([.ref h0, .int p1])).length) Slot.unset).toArray = ls at hl ⊢
  have hl : lv_has ls 2 [(0, .ref h0), (1, .int p1)] := hl
  refine lv_aload_n hx hb dX12_bursts_0 rfl (lv_at hl 0 rfl) ?_
  refine lv_iload_n hx hb dX12_bursts_1 rfl (lv_at hl 1 rfl) ?_
  refine rvi (C := RX12) (As := [.int p1]) (rest := []) ⟨hx, hb, hml, hown, hts⟩ (t_X12_isPot l D k u hu h0 m_h0 k_h0 p1) (cwV 1 hts gX12_bursts_X12_isPot rfl rfl rfl (by decide +kernel) ⟨Nat.le_of_ble_eq_true rfl, Nat.le_of_ble_eq_true rfl⟩) hP hK (precv hK hP m_h0 (cF12 k_h0) rfl) rfl hl.1 rfl (Nat.le_of_ble_eq_true rfl) dX12_bursts_2 ⟨Nat.le_of_ble_eq_true rfl, Nat.le_of_ble_eq_true rfl⟩ (fun r1 hr1 => ?_)
  refine lv_if_eq (tgt := 16) hx hb dX12_bursts_5 (by decide) (fun c2 => ?_) (fun c2 => ?_)
  · have eb3 : r1.toInt = 0 := by rcases hr1 with q | ⟨q, -⟩; exact q; (exact absurd (c2) (fun w => by rw [w] at q; exact absurd q (by decide)))
    clear hr1
    refine lv_bipush (v := (-2)) hx hb dX12_bursts_16 (by decide) ?_
    exact W.iret (v := (-2)) hx hb hr (fun t ht hW => ⟨(-2), rfl, trivial, ht⟩) (fun q h => by cases h) dX12_bursts_18
  · have eb4 : r1.toInt = 1 := by rcases hr1 with q | ⟨q, -⟩; exact absurd (i_eq.mpr q) c2; exact q
    have fb4 : 0 ≤ p1.toInt ∧ p1.toInt ≤ 7 := by rcases hr1 with q | ⟨q, r⟩; exact absurd q (by omega); exact r
    clear hr1
    refine lv_aload_n hx hb dX12_bursts_8 rfl (lv_at hl 0 rfl) ?_
    refine lv_iload_n hx hb dX12_bursts_9 rfl (lv_at hl 1 rfl) ?_
    refine rvi (C := RX12) (As := [.int p1]) (rest := []) ⟨hx, hb, hml, hown, hts⟩ (t_X12_burstsOf l D k u hu h0 m_h0 k_h0 p1 (by (try simp only [i_lt, i_le, i_eq, Int32.toInt_toInt64, Int32.reduceToInt, Int64.reduceToInt, true_and, and_true, false_and, and_false, false_or, or_false, true_or, or_true, not_true_eq_false, not_false_eq_true, ne_eq, forall_const, true_implies, false_implies, implies_true] at eb4 fb4 ⊢) <;> omega)) (cwV 1 hts gX12_bursts_X12_burstsOf rfl rfl rfl (by decide +kernel) ⟨Nat.le_of_ble_eq_true rfl, Nat.le_of_ble_eq_true rfl⟩) hP hK (precv hK hP m_h0 (cF12 k_h0) rfl) rfl hl.1 rfl (Nat.le_of_ble_eq_true rfl) dX12_bursts_10 ⟨Nat.le_of_ble_eq_true rfl, Nat.le_of_ble_eq_true rfl⟩ (fun r5 hr5 => ?_)
    refine lv_goto (tgt := 18) hx hb dX12_bursts_13 (by decide) ?_
    exact W.iret (v := r5) hx hb hr (fun t ht hW => ⟨r5, rfl, trivial, ht⟩) (fun q h => by cases h) dX12_bursts_18
set_option maxHeartbeats 4000000 in
set_option maxRecDepth 100000 in
theorem t_X12_caps (l : Launch) (D : va_G) (k : Nat → ClassId) (u0 : PSt) (hu : WT u0) (h0 : Nat) (m_h0 : h0 ∈ u0.1) (k_h0 : u0.2.1 h0 = 12) (p1 : Int32) (g_p1 : 0 ≤ p1.toInt ∧ p1.toInt ≤ 999) (sz : Nat) : Met l yX12_caps wsX12_caps ({ frames := 2, cells := 0, slots := 0, locals := 41 }) (PreM D k sz (PW k u0) [.ref h0, .int p1]) (va_Qv (fun v => WT v ∧ PX u0 v ∧ (True)) (WB D (va_A (PW k u0) sz) (PW k)) (va_A (PW k u0) sz)) 0 0 (va_A (PW k u0) sz) := by
  refine Met.ofW (cc := cX12_caps) (maxL := 3) (ret := none) (by decide) rfl ?_
  intro p e s m args below meth c s₁ B hml hv
  obtain ⟨rfl, hsz, hP, hK, hD0, hN⟩ := hv
  have hx := B.exec
  have hb := B.bytes
  have hr := B.returns
  have hts := atoms_spec (ws := wsX12_caps) B.pre
  have hown : s.vm.findClass RX12 = some m.cls := findClass_of_methodNamed B.named
  have hlocks := B.notSynchronized
  have i_X12 : ∀ w ∈ wsX120, w ∈ wsX12_caps := by decide +kernel
  obtain ⟨a22, q0_22, m0_a22, k0_a22⟩ := (hu h0 m_h0).1 22 57 (by rw [k_h0]; rfl)
  have m0_h0 := m_h0
  have k0_h0 := k_h0
  have m_a22 := m0_a22
  have k_a22 := k0_a22
  subst hsz
  have hD := hD0.self (sz := s.heap.size)
  generalize hAe : va_A (PW k u0) s.heap.size = A at hD ⊢
  have hA : ∀ q : Nat, s.heap.size ≤ q → A q := fun q h => by rw [← hAe]; exact Or.inr h
  have hS : va_S A s.heap s.heap [] := va_S.rf
  have hp : PX u0 u0 := PX.rf
  have B7 : ∀ (n7 : Nat) (u : PSt) (H : Heap) (locs : List Loc) (ls : Array Slot) (v1 : Int32) (v2 : Int32), WT u → PX u0 u → va_P D vwCl (PW k u) H → va_D A (PW k u) → va_S A s.heap H locs → (2147483648 - v2.toInt).toNat ≤ n7 → 0 ≤ v1.toInt ∧ v1.toInt ≤ 999 → 0 ≤ v2.toInt ∧ v2.toInt ≤ 2000 → lv_has ls 3 [(0, .ref h0), (1, .int v1), (2, .int v2)] → W p l e (headSpec wsX12_caps ({ frames := 2, cells := 0, slots := 0, locals := 41 })).room s m ([.ref h0, .int p1] : List Value).toArray below meth c H locs 0 0 (MQ below (va_Qv (fun v => WT v ∧ PX u0 v ∧ (True)) (WB D A (PW k)) A) ([.ref h0, .int p1] : List Value).toArray s 0 0 A) (F0 m 7 ls []) := by
    intro n7
    induction n7 with
    | zero =>
      intro u H locs ls v1 v2 hu hp hP hD hS hn7 g_v1 g_v2 hl
      exact absurd hn7 (by have := Int32.toInt_lt v2; have := Int32.le_toInt v2; omega)
    | succ n7 ih7 =>
      intro u H locs ls v1 v2 hu hp hP hD hS hn7 g_v1 g_v2 hl
      refine lv_iload_n hx hb dX12_caps_7 rfl (lv_at hl 2 rfl) ?_
      refine lv_aload_n hx hb dX12_caps_8 rfl (lv_at hl 0 rfl) ?_
      have k_h0 : u.2.1 h0 = 12 := (hp h0 m0_h0).2.1.trans k0_h0
      have m_h0 : h0 ∈ u.1 := (hp h0 m0_h0).1
      refine pget (ci := 12) (v := .int (u.2.2.1 h0 23)) (C := RX12) (T := TX12) (N := 34) hx hb hts i_X12 hown hK hP m_h0 (cF12 k_h0) rfl 23 (by decide) (hts (.fieldLink RX12 362 "BellowsRowModel" "many" "I") (by decide +kernel)) (fun _ h9 => h9) rfl dX12_caps_9 ?_
      have g1 := (hu h0 m_h0).2.2.2 23
      rw [k_h0] at g1
      replace g1 : 0 ≤ (u.2.2.1 h0 23).toInt ∧ (u.2.2.1 h0 23).toInt ≤ 2000 := g1
      refine lv_icmp_ge (tgt := 37) hx hb dX12_caps_12 (by decide) (fun c2 => ?_) (fun c2 => ?_)
      · exact W.vret hx hb hr (fun t ht hW => ⟨⟨u, rfl, ⟨hu, hp, trivial⟩, by rw [ht]; exact hP, hD⟩, hS.F ht⟩) hS.2.2 dX12_caps_37
      · refine lv_aload_n hx hb dX12_caps_15 rfl (lv_at hl 0 rfl) ?_
        have k_a22 : u.2.1 a22 = 57 := (hp a22 m0_a22).2.1.trans k0_a22
        have m_a22 : a22 ∈ u.1 := (hp a22 m0_a22).1
        refine pget (ci := 12) (v := va_rf (u.2.2.2.2 h0 22)) (C := RX12) (T := TX12) (N := 34) hx hb hts i_X12 hown hK hP m_h0 (cF12 k_h0) rfl 22 (by decide) (hts (.fieldLink RX12 49 "BellowsRowModel" "presses" "[I") (by decide +kernel)) (fun _ h9 => h9) rfl dX12_caps_16 ?_
        refine W.eq (g2 := F0 m 19 ls [.ref a22]) (by rw [(((hp h0 m0_h0).2.2.2.2.2.1 k0_h0 22).trans q0_22)]; rfl) ?_
        refine lv_iload_n hx hb dX12_caps_19 rfl (lv_at hl 2 rfl) ?_
        refine lv_iload_n hx hb dX12_caps_20 rfl (lv_at hl 1 rfl) ?_
        refine lv_aload_n hx hb dX12_caps_21 rfl (lv_at hl 0 rfl) ?_
        refine pget (ci := 12) (v := va_rf (u.2.2.2.2 h0 22)) (C := RX12) (T := TX12) (N := 34) hx hb hts i_X12 hown hK hP m_h0 (cF12 k_h0) rfl 22 (by decide) (hts (.fieldLink RX12 49 "BellowsRowModel" "presses" "[I") (by decide +kernel)) (fun _ h9 => h9) rfl dX12_caps_22 ?_
        refine W.eq (g2 := F0 m 25 ls [.ref a22, .int v1, .int v2, .ref a22]) (by rw [(((hp h0 m0_h0).2.2.2.2.2.1 k0_h0 22).trans q0_22)]; rfl) ?_
        refine lv_iload_n hx hb dX12_caps_25 rfl (lv_at hl 2 rfl) ?_
        refine palI hx hb hK hP m_a22 (cF57 k_a22) 1 rfl (vp_in_iff.mpr (by (try simp only [i_lt, i_le, i_eq, Int32.toInt_toInt64, Int32.reduceToInt, Int64.reduceToInt, true_and, and_true, false_and, and_false, false_or, or_false, true_or, or_true, not_true_eq_false, not_false_eq_true, ne_eq, forall_const, true_implies, false_implies, implies_true] at g_v1 g_v2 hn7 g1 c2 ⊢) <;> omega)) dX12_caps_26 ?_
        refine lv_topi (fun x3 ex3 => ?_)
        have tx3 : x3.toInt = (u.2.2.1 a22 (v2.toNatClampNeg)).toInt := congrArg Int32.toInt ex3
        have g4 : 0 ≤ x3.toInt ∧ x3.toInt ≤ 999 := by have g := (hu a22 m_a22).2.2.2 (v2.toNatClampNeg); rw [k_a22] at g; rw [show x3 = _ from ex3]; exact g
        refine va_mmin hx hb (hml.trans hl.1.symm) hown (hts (.methodLink RX12 113 Lib.Math.min.name) (by decide +kernel)) (hts (.static Lib.Math.min.name) (by decide +kernel)) (hts (.initialized "java/lang/Math") (by decide +kernel)) (hts (.code Lib.Math.min.name Lib.Math.min.code 2 (some .int)) (by decide +kernel)) (Nat.le_of_ble_eq_true rfl) (Nat.le_of_ble_eq_true rfl) (Nat.le_of_ble_eq_true rfl) (Nat.le_of_ble_eq_true rfl) dX12_caps_27 ?_
        refine lv_topi (fun x5 ex5 => ?_)
        have tx5 : x5.toInt ≤ v1.toInt ∧ x5.toInt ≤ x3.toInt ∧ (x5.toInt = v1.toInt ∨ x5.toInt = x3.toInt) := by rw [ex5]; exact i_min
        refine pasI (u' := pSI u a22 (v2.toNatClampNeg) x5) hx hb hK hP hD hS m_a22 (cF57 k_a22) 1 rfl (vp_in_iff.mpr (by (try simp only [i_lt, i_le, i_eq, Int32.toInt_toInt64, Int32.reduceToInt, Int64.reduceToInt, true_and, and_true, false_and, and_false, false_or, or_false, true_or, or_true, not_true_eq_false, not_false_eq_true, ne_eq, forall_const, true_implies, false_implies, implies_true] at g_v1 g_v2 hn7 g1 c2 tx3 g4 tx5 ⊢) <;> omega)) rfl (sF57 k_a22 _ _) dX12_caps_30 (fun H locs hP hD hS => ?_)
        have hu := WT.setI (a := a22) (s := (v2.toNatClampNeg)) (v := x5) hu (by rw [k_a22]; exact (show 0 ≤ x5.toInt ∧ x5.toInt ≤ 999 from by (try simp only [i_lt, i_le, i_eq, Int32.toInt_toInt64, Int32.reduceToInt, Int64.reduceToInt, true_and, and_true, false_and, and_false, false_or, or_false, true_or, or_true, not_true_eq_false, not_false_eq_true, ne_eq, forall_const, true_implies, false_implies, implies_true] at g_v1 g_v2 hn7 g1 c2 tx3 g4 tx5 ⊢) <;> omega))
        have hp := PX.setI (a := a22) (s := (v2.toNatClampNeg)) (v := x5) hp (by rw [k_a22]; decide)
        obtain ⟨u6, hu6⟩ : ∃ z, z = pSI u a22 (v2.toNatClampNeg) x5 := ⟨_, rfl⟩
        rw [← hu6] at hP hD hu hp
        have w7 : (u6.2.2.1 h0 23).toInt = (u.2.2.1 h0 23).toInt := by rw [hu6]; exact congrArg Int32.toInt (if_neg (fun q => by have y := q.1; have z := k_h0; rw [y, k_a22] at z; exact absurd z (by decide)))
        obtain ⟨x8, ex8⟩ : ∃ y : Int32, y = v2 + 1 := ⟨_, rfl⟩
        have tx8 : x8.toInt = v2.toInt + 1 := by rw [ex8]; exact i_add (b := 1) (by (try simp only [i_lt, i_le, i_eq, Int32.toInt_toInt64, Int32.reduceToInt, Int64.reduceToInt, true_and, and_true, false_and, and_false, false_or, or_false, true_or, or_true, not_true_eq_false, not_false_eq_true, ne_eq, forall_const, true_implies, false_implies, implies_true] at g_v1 g_v2 hn7 g1 c2 tx3 g4 tx5 w7 ⊢) <;> omega) (by (try simp only [i_lt, i_le, i_eq, Int32.toInt_toInt64, Int32.reduceToInt, Int64.reduceToInt, true_and, and_true, false_and, and_false, false_or, or_false, true_or, or_true, not_true_eq_false, not_false_eq_true, ne_eq, forall_const, true_implies, false_implies, implies_true] at g_v1 g_v2 hn7 g1 c2 tx3 g4 tx5 w7 ⊢) <;> omega)
        refine lv_iinc (v := x8) (lv' := [(2, .int x8), (0, .ref h0), (1, .int v1)]) hx hb dX12_caps_31 hl (k := 2) rfl (by rw [ex8]; rfl) (by decide) rfl (fun ls hl => ?_)
        refine lv_goto (tgt := 7) hx hb dX12_caps_34 (by decide) ?_
        exact ih7 _ _ _ ls v1 x8 hu hp hP hD hS (by (try simp only [i_lt, i_le, i_eq, Int32.toInt_toInt64, Int32.reduceToInt, Int64.reduceToInt, true_and, and_true, false_and, and_false, false_or, or_false, true_or, or_true, not_true_eq_false, not_false_eq_true, ne_eq, forall_const, true_implies, false_implies, implies_true] at g_v1 g_v2 hn7 g1 c2 tx3 g4 tx5 w7 tx8 ⊢) <;> omega) (by (try simp only [i_lt, i_le, i_eq, Int32.toInt_toInt64, Int32.reduceToInt, Int64.reduceToInt, true_and, and_true, false_and, and_false, false_or, or_false, true_or, or_true, not_true_eq_false, not_false_eq_true, ne_eq, forall_const, true_implies, false_implies, implies_true] at g_v1 g_v2 hn7 g1 c2 tx3 g4 tx5 w7 tx8 ⊢) <;> omega) (by (try simp only [i_lt, i_le, i_eq, Int32.toInt_toInt64, Int32.reduceToInt, Int64.reduceToInt, true_and, and_true, false_and, and_false, false_or, or_false, true_or, or_true, not_true_eq_false, not_false_eq_true, ne_eq, forall_const, true_implies, false_implies, implies_true] at g_v1 g_v2 hn7 g1 c2 tx3 g4 tx5 w7 tx8 ⊢) <;> omega) (lv_sub hl [1, 2, 0] rfl)
  have hl := lv_entry ([.ref h0, .int p1]) (n := 3) (Nat.le_of_ble_eq_true rfl)
  rw [lg_entry_eq]
  generalize (lg_sl ([.ref h0, .int p1]) ++ List.replicate (3 - (lg_sl ([.ref h0, .int p1])).length) Slot.unset).toArray = ls at hl ⊢
  have hl : lv_has ls 3 [(0, .ref h0), (1, .int p1)] := hl
  refine lv_aload_n hx hb dX12_caps_0 rfl (lv_at hl 0 rfl) ?_
  refine lv_iconst (v := 0) hx hb dX12_caps_1 (by decide) ?_
  refine wvV (C := RX12) (As := [.int 0]) (rest := []) ⟨hx, hb, hml, hown, hts⟩ (fun sz => t_X12_lays l D k u0 hu h0 m_h0 k_h0 0 sz) (cwV 1 hts gX12_caps_X12_lays rfl rfl rfl (by decide +kernel) ⟨Nat.le_of_ble_eq_true rfl, Nat.le_of_ble_eq_true rfl⟩) hP hK hD hN hS hA (precv hK hP m_h0 (cF12 k_h0) rfl) rfl hl.1 rfl (Nat.le_of_ble_eq_true rfl) dX12_caps_2 ⟨Nat.le_of_ble_eq_true rfl, Nat.le_of_ble_eq_true rfl⟩ (fun u10 H locs hqu10 hP hD hS => ?_)
  obtain ⟨hu, hxu10, hr9⟩ := hqu10
  have hp := PX.trans hp hxu10
  refine lv_iconst (v := 0) hx hb dX12_caps_5 (by decide) ?_
  refine lv_istore_n (lv' := [(2, .int 0), (0, .ref h0), (1, .int p1)]) hx hb dX12_caps_6 rfl hl (by decide) rfl (fun ls hl => ?_)
  exact B7 _ _ _ _ ls p1 0 hu hp hP hD hS (Nat.le_refl _) (by (try simp only [i_lt, i_le, i_eq, Int32.toInt_toInt64, Int32.reduceToInt, Int64.reduceToInt, true_and, and_true, false_and, and_false, false_or, or_false, true_or, or_true, not_true_eq_false, not_false_eq_true, ne_eq, forall_const, true_implies, false_implies, implies_true] at g_p1 ⊢) <;> omega) (by (try simp only [i_lt, i_le, i_eq, Int32.toInt_toInt64, Int32.reduceToInt, Int64.reduceToInt, true_and, and_true, false_and, and_false, false_or, or_false, true_or, or_true, not_true_eq_false, not_false_eq_true, ne_eq, forall_const, true_implies, false_implies, implies_true] at g_p1 ⊢) <;> omega) (lv_sub hl [1, 2, 0] rfl)
set_option maxHeartbeats 4000000 in
set_option maxRecDepth 100000 in
theorem t_X12_end (l : Launch) (D : va_G) (k : Nat → ClassId) (u0 : PSt) (hu : WT u0) (h0 : Nat) (m_h0 : h0 ∈ u0.1) (k_h0 : u0.2.1 h0 = 12) (p1 : Int32) (sz : Nat) : Met l yX12_end wsX12_end ({ frames := 1, cells := 0, slots := 0, locals := 25 }) (PreM D k sz (PW k u0) [.ref h0, .int p1]) (va_Qi (fun r v => WT v ∧ PX u0 v ∧ (True)) (WB D (va_A (PW k u0) sz) (PW k)) (va_A (PW k u0) sz)) 0 0 (va_A (PW k u0) sz) := by
  refine Met.ofW (cc := cX12_end) (maxL := 2) (ret := (some .int)) (by decide) rfl ?_
  intro p e s m args below meth c s₁ B hml hv
  obtain ⟨rfl, hsz, hP, hK, hD0, hN⟩ := hv
  have hx := B.exec
  have hb := B.bytes
  have hr := B.returns
  have hts := atoms_spec (ws := wsX12_end) B.pre
  have hown : s.vm.findClass RX12 = some m.cls := findClass_of_methodNamed B.named
  have hlocks := B.notSynchronized
  have i_X12 : ∀ w ∈ wsX120, w ∈ wsX12_end := by decide +kernel
  have m0_h0 := m_h0
  have k0_h0 := k_h0
  subst hsz
  have hD := hD0.self (sz := s.heap.size)
  generalize hAe : va_A (PW k u0) s.heap.size = A at hD ⊢
  have hA : ∀ q : Nat, s.heap.size ≤ q → A q := fun q h => by rw [← hAe]; exact Or.inr h
  have hS : va_S A s.heap s.heap [] := va_S.rf
  have hp : PX u0 u0 := PX.rf
  have hl := lv_entry ([.ref h0, .int p1]) (n := 2) (Nat.le_of_ble_eq_true rfl)
  rw [lg_entry_eq]
  generalize (lg_sl ([.ref h0, .int p1]) ++ List.replicate (2 - (lg_sl ([.ref h0, .int p1])).length) Slot.unset).toArray = ls at hl ⊢
  have hl : lv_has ls 2 [(0, .ref h0), (1, .int p1)] := hl
  refine lv_iload_n hx hb dX12_end_0 rfl (lv_at hl 1 rfl) ?_
  refine lv_i2l hx hb dX12_end_1 rfl ?_
  have b1 := Int32.toInt_lt p1
  have ab1 := Int32.le_toInt p1
  refine lv_topl (fun x2 ex2 => ?_)
  have tx2 : x2.toInt = p1.toInt := by rw [ex2]; exact Int32.toInt_toInt64 _
  refine lv_lconst (v := 0) hx hb dX12_end_2 (by decide) ?_
  refine lv_aload_n hx hb dX12_end_3 rfl (lv_at hl 0 rfl) ?_
  refine pget (ci := 12) (v := .int (u0.2.2.1 h0 5)) (C := RX12) (T := TX12) (N := 34) hx hb hts i_X12 hown hK hP m_h0 (cF12 k_h0) rfl 5 (by decide) (hts (.fieldLink RX12 82 "BellowsRowModel" "taped" "I") (by decide +kernel)) (fun _ h9 => h9) rfl dX12_end_4 ?_
  have g3 := (hu h0 m_h0).2.2.2 5
  rw [k_h0] at g3
  replace g3 : 0 ≤ (u0.2.2.1 h0 5).toInt ∧ (u0.2.2.1 h0 5).toInt ≤ 1600 := g3
  refine lv_i2l hx hb dX12_end_7 rfl ?_
  refine lv_topl (fun x4 ex4 => ?_)
  have tx4 : x4.toInt = (u0.2.2.1 h0 5).toInt := by rw [ex4]; exact Int32.toInt_toInt64 _
  refine psi (As := [.long x2, .long 0, .long x4]) (rest := []) ⟨hx, hb, hml, hown, hts⟩ (t_X12_in l D k x2 0 x4) (va_cwS 3 hts gX12_end_X12_in rfl rfl rfl (by decide +kernel) ⟨Nat.le_of_ble_eq_true rfl, Nat.le_of_ble_eq_true rfl⟩) hK rfl hl.1 rfl (Nat.le_of_ble_eq_true rfl) dX12_end_8 ⟨Nat.le_of_ble_eq_true rfl, Nat.le_of_ble_eq_true rfl⟩ (fun r5 hr5 => ?_)
  refine lv_if_ne (tgt := 16) hx hb dX12_end_11 (by decide) (fun c6 => ?_) (fun c6 => ?_)
  · have eb7 : r5.toInt = 1 := by rcases hr5 with ⟨q, -⟩ | ⟨q, -⟩; exact absurd (i_eq.mpr q) c6; exact q
    have fb7 : (0 : Int64).toInt ≤ x2.toInt ∧ x2.toInt ≤ x4.toInt := by rcases hr5 with ⟨q, r⟩ | ⟨q, r⟩; exact absurd q (by omega); exact r
    clear hr5
    refine lv_aload_n hx hb dX12_end_16 rfl (lv_at hl 0 rfl) ?_
    refine lv_iload_n hx hb dX12_end_17 rfl (lv_at hl 1 rfl) ?_
    refine pput (u' := pSI u0 h0 5 p1) (ci := 12) (v := .int p1) (ty := .int) (C := RX12) (T := TX12) (N := 34) hx hb hts i_X12 tyX12 tyX12_ok nmX12 hown hK hP hD hS m_h0 (cF12 k_h0) rfl 5 (by decide) (hts (.fieldLink RX12 82 "BellowsRowModel" "taped" "I") (by decide +kernel)) (fun _ h9 => h9) rfl (by decide +kernel) rfl rfl (Nat.le_of_ble_eq_true rfl) rfl (sF12_5 k_h0 p1) dX12_end_18 (fun H locs hP hD hS => ?_)
    have hu := WT.setI (a := h0) (s := 5) (v := p1) hu (by rw [k_h0]; exact (show 0 ≤ p1.toInt ∧ p1.toInt ≤ 1600 from by (try simp only [i_lt, i_le, i_eq, Int32.toInt_toInt64, Int32.reduceToInt, Int64.reduceToInt, true_and, and_true, false_and, and_false, false_or, or_false, true_or, or_true, not_true_eq_false, not_false_eq_true, ne_eq, forall_const, true_implies, false_implies, implies_true] at b1 ab1 tx2 g3 tx4 eb7 fb7 ⊢) <;> omega))
    have hp := PX.setI (a := h0) (s := 5) (v := p1) hp (by rw [k_h0]; decide)
    obtain ⟨u8, hu8⟩ : ∃ z, z = pSI u0 h0 5 p1 := ⟨_, rfl⟩
    rw [← hu8] at hP hD hu hp
    have w9 : (u8.2.2.1 h0 5).toInt = p1.toInt := by rw [hu8]; exact congrArg Int32.toInt (if_pos ⟨rfl, rfl⟩)
    refine lv_iload_n hx hb dX12_end_21 rfl (lv_at hl 1 rfl) ?_
    exact W.iret (v := p1) hx hb hr (fun t ht hW => ⟨⟨p1, u8, rfl, ⟨hu, hp, trivial⟩, by rw [ht]; exact hP, hD⟩, hS.F ht⟩) hS.2.2 dX12_end_22
  · have eb10 : r5.toInt = 0 := by rcases hr5 with ⟨q, -⟩ | ⟨q, -⟩; exact q; (exact absurd (c6) (fun w => by rw [w] at q; exact absurd q (by decide)))
    have fb10 : (x2.toInt < (0 : Int64).toInt ∨ x4.toInt < x2.toInt) := by rcases hr5 with ⟨q, r⟩ | ⟨q, r⟩; exact r; exact absurd q (by omega)
    clear hr5
    refine lv_iconst (v := (-1)) hx hb dX12_end_14 (by decide) ?_
    exact W.iret (v := (-1)) hx hb hr (fun t ht hW => ⟨⟨(-1), u0, rfl, ⟨hu, hp, trivial⟩, by rw [ht]; exact hP, hD⟩, hS.F ht⟩) hS.2.2 dX12_end_15
set_option maxHeartbeats 4000000 in
set_option maxRecDepth 100000 in
theorem t_X12_height (l : Launch) (D : va_G) (k : Nat → ClassId) (u : PSt) (hu : WT u) (h0 : Nat) (m_h0 : h0 ∈ u.1) (k_h0 : u.2.1 h0 = 12) (p1 : Int32) : Met l yX12_height wsX12_height ({ frames := 2, cells := 0, slots := 0, locals := 46 }) (PreR D k (PW k u) [.ref h0, .int p1]) (vp_Si (fun r => True)) 0 0 (fun _ => False) := by
  refine Met.ofW (cc := cX12_height) (maxL := 2) (ret := (some .int)) (by decide) rfl ?_
  intro p e s m args below meth c s₁ B hml hv
  obtain ⟨rfl, hP, hK⟩ := hv
  have hx := B.exec
  have hb := B.bytes
  have hr := B.returns
  have hts := atoms_spec (ws := wsX12_height) B.pre
  have hown : s.vm.findClass RX12 = some m.cls := findClass_of_methodNamed B.named
  have hlocks := B.notSynchronized
  have i_X12 : ∀ w ∈ wsX120, w ∈ wsX12_height := by decide +kernel
  obtain ⟨a1, q0_1, m0_a1, k0_a1⟩ := (hu h0 m_h0).1 1 50 (by rw [k_h0]; rfl)
  have m_a1 := m0_a1
  have k_a1 := k0_a1
  have hl := lv_entry ([.ref h0, .int p1]) (n := 2) (Nat.le_of_ble_eq_true rfl)
  rw [lg_entry_eq]
  generalize (lg_sl ([.ref h0, .int p1]) ++ List.replicate (2 - (lg_sl ([.ref h0, .int p1])).length) Slot.unset).toArray = ls at hl ⊢
  have hl : lv_has ls 2 [(0, .ref h0), (1, .int p1)] := hl
  refine lv_aload_n hx hb dX12_height_0 rfl (lv_at hl 0 rfl) ?_
  refine lv_iload_n hx hb dX12_height_1 rfl (lv_at hl 1 rfl) ?_
  refine rvi (C := RX12) (As := [.int p1]) (rest := []) ⟨hx, hb, hml, hown, hts⟩ (t_X12_isPot l D k u hu h0 m_h0 k_h0 p1) (cwV 1 hts gX12_height_X12_isPot rfl rfl rfl (by decide +kernel) ⟨Nat.le_of_ble_eq_true rfl, Nat.le_of_ble_eq_true rfl⟩) hP hK (precv hK hP m_h0 (cF12 k_h0) rfl) rfl hl.1 rfl (Nat.le_of_ble_eq_true rfl) dX12_height_2 ⟨Nat.le_of_ble_eq_true rfl, Nat.le_of_ble_eq_true rfl⟩ (fun r1 hr1 => ?_)
  refine lv_if_eq (tgt := 22) hx hb dX12_height_5 (by decide) (fun c2 => ?_) (fun c2 => ?_)
  · have eb3 : r1.toInt = 0 := by rcases hr1 with q | ⟨q, -⟩; exact q; (exact absurd (c2) (fun w => by rw [w] at q; exact absurd q (by decide)))
    clear hr1
    refine lv_ldcw (own := RX12) (v := (-2000000000)) hx hb hown (hts (.constant RX12 302 (-2000000000)) (by decide +kernel)) dX12_height_22 ?_
    exact W.iret (v := (-2000000000)) hx hb hr (fun t ht hW => ⟨(-2000000000), rfl, trivial, ht⟩) (fun q h => by cases h) dX12_height_25
  · have eb4 : r1.toInt = 1 := by rcases hr1 with q | ⟨q, -⟩; exact absurd (i_eq.mpr q) c2; exact q
    have fb4 : 0 ≤ p1.toInt ∧ p1.toInt ≤ 7 := by rcases hr1 with q | ⟨q, r⟩; exact absurd q (by omega); exact r
    clear hr1
    refine lv_aload_n hx hb dX12_height_8 rfl (lv_at hl 0 rfl) ?_
    refine pget (ci := 12) (v := va_rf (u.2.2.2.2 h0 1)) (C := RX12) (T := TX12) (N := 34) hx hb hts i_X12 hown hK hP m_h0 (cF12 k_h0) rfl 1 (by decide) (hts (.fieldLink RX12 13 "BellowsRowModel" "world" "[I") (by decide +kernel)) (fun _ h9 => h9) rfl dX12_height_9 ?_
    refine W.eq (g2 := F0 m 12 ls [.ref a1]) (by rw [q0_1]; rfl) ?_
    refine lv_bipush (v := 10) hx hb dX12_height_12 (by decide) ?_
    refine lv_iconst (v := 2) hx hb dX12_height_14 (by decide) ?_
    refine lv_iload_n hx hb dX12_height_15 rfl (lv_at hl 1 rfl) ?_
    refine lv_imul hx hb dX12_height_16 ?_
    refine lv_topi (fun x5 ex5 => ?_)
    have tx5 : x5.toInt = 2 * p1.toInt := by rw [ex5]; exact i_mulc (c := 2) (by decide) ((show 0 ≤ p1.toInt ∧ p1.toInt ≤ 7 from by (try simp only [i_lt, i_le, i_eq, Int32.toInt_toInt64, Int32.reduceToInt, Int64.reduceToInt, true_and, and_true, false_and, and_false, false_or, or_false, true_or, or_true, not_true_eq_false, not_false_eq_true, ne_eq, forall_const, true_implies, false_implies, implies_true] at eb4 fb4 ⊢) <;> omega)) (by decide)
    refine lv_iadd hx hb dX12_height_17 ?_
    refine lv_topi (fun x6 ex6 => ?_)
    have tx6 : x6.toInt = (10 : Int32).toInt + x5.toInt := by rw [ex6]; exact i_add (by (try simp only [i_lt, i_le, i_eq, Int32.toInt_toInt64, Int32.reduceToInt, Int64.reduceToInt, true_and, and_true, false_and, and_false, false_or, or_false, true_or, or_true, not_true_eq_false, not_false_eq_true, ne_eq, forall_const, true_implies, false_implies, implies_true] at eb4 fb4 tx5 ⊢) <;> omega) (by (try simp only [i_lt, i_le, i_eq, Int32.toInt_toInt64, Int32.reduceToInt, Int64.reduceToInt, true_and, and_true, false_and, and_false, false_or, or_false, true_or, or_true, not_true_eq_false, not_false_eq_true, ne_eq, forall_const, true_implies, false_implies, implies_true] at eb4 fb4 tx5 ⊢) <;> omega)
    refine palI hx hb hK hP m_a1 (cF50 k_a1) 1 rfl (vp_in_iff.mpr (by (try simp only [i_lt, i_le, i_eq, Int32.toInt_toInt64, Int32.reduceToInt, Int64.reduceToInt, true_and, and_true, false_and, and_false, false_or, or_false, true_or, or_true, not_true_eq_false, not_false_eq_true, ne_eq, forall_const, true_implies, false_implies, implies_true] at eb4 fb4 tx5 tx6 ⊢) <;> omega)) dX12_height_18 ?_
    refine lv_topi (fun x7 ex7 => ?_)
    have tx7 : x7.toInt = (u.2.2.1 a1 (x6.toNatClampNeg)).toInt := congrArg Int32.toInt ex7
    refine lv_goto (tgt := 25) hx hb dX12_height_19 (by decide) ?_
    exact W.iret (v := x7) hx hb hr (fun t ht hW => ⟨x7, rfl, trivial, ht⟩) (fun q h => by cases h) dX12_height_25
set_option maxHeartbeats 4000000 in
set_option maxRecDepth 100000 in
theorem t_X12_held (l : Launch) (D : va_G) (k : Nat → ClassId) (u : PSt) (hu : WT u) (h0 : Nat) (m_h0 : h0 ∈ u.1) (k_h0 : u.2.1 h0 = 12) (p1 : Int32) (p2 : Int32) (g_p2 : 0 ≤ p2.toInt ∧ p2.toInt ≤ 1) : Met l yX12_held wsX12_held ({ frames := 1, cells := 0, slots := 0, locals := 26 }) (PreR D k (PW k u) [.ref h0, .int p1, .int p2]) (vp_Si (fun r => True)) 0 0 (fun _ => False) := by
  refine Met.ofW (cc := cX12_held) (maxL := 3) (ret := (some .int)) (by decide) rfl ?_
  intro p e s m args below meth c s₁ B hml hv
  obtain ⟨rfl, hP, hK⟩ := hv
  have hx := B.exec
  have hb := B.bytes
  have hr := B.returns
  have hts := atoms_spec (ws := wsX12_held) B.pre
  have hown : s.vm.findClass RX12 = some m.cls := findClass_of_methodNamed B.named
  have hlocks := B.notSynchronized
  have hl := lv_entry ([.ref h0, .int p1, .int p2]) (n := 3) (Nat.le_of_ble_eq_true rfl)
  rw [lg_entry_eq]
  generalize (lg_sl ([.ref h0, .int p1, .int p2]) ++ List.replicate (3 - (lg_sl ([.ref h0, .int p1, .int p2])).length) Slot.unset).toArray = ls at hl ⊢
  have hl : lv_has ls 3 [(0, .ref h0), (1, .int p1), (2, .int p2)] := hl
  refine lv_iload_n hx hb dX12_held_0 rfl (lv_at hl 1 rfl) ?_
  refine lv_i2l hx hb dX12_held_1 rfl ?_
  have b1 := Int32.toInt_lt p1
  have ab1 := Int32.le_toInt p1
  refine lv_topl (fun x2 ex2 => ?_)
  have tx2 : x2.toInt = p1.toInt := by rw [ex2]; exact Int32.toInt_toInt64 _
  refine lv_lconst (v := 0) hx hb dX12_held_2 (by decide) ?_
  refine lv_ldc2 (own := RX12) (v := 65535) hx hb hown (hts (.constantLong RX12 474 (65535)) (by decide +kernel)) dX12_held_3 ?_
  refine psi (As := [.long x2, .long 0, .long 65535]) (rest := []) ⟨hx, hb, hml, hown, hts⟩ (t_X12_in l D k x2 0 65535) (va_cwS 3 hts gX12_held_X12_in rfl rfl rfl (by decide +kernel) ⟨Nat.le_of_ble_eq_true rfl, Nat.le_of_ble_eq_true rfl⟩) hK rfl hl.1 rfl (Nat.le_of_ble_eq_true rfl) dX12_held_6 ⟨Nat.le_of_ble_eq_true rfl, Nat.le_of_ble_eq_true rfl⟩ (fun r3 hr3 => ?_)
  refine lv_if_eq (tgt := 21) hx hb dX12_held_9 (by decide) (fun c4 => ?_) (fun c4 => ?_)
  · have eb5 : r3.toInt = 0 := by rcases hr3 with ⟨q, -⟩ | ⟨q, -⟩; exact q; (exact absurd (c4) (fun w => by rw [w] at q; exact absurd q (by decide)))
    have fb5 : (x2.toInt < (0 : Int64).toInt ∨ (65535 : Int64).toInt < x2.toInt) := by rcases hr3 with ⟨q, r⟩ | ⟨q, r⟩; exact r; exact absurd q (by omega)
    clear hr3
    refine lv_bipush (v := (-2)) hx hb dX12_held_21 (by decide) ?_
    exact W.iret (v := (-2)) hx hb hr (fun t ht hW => ⟨(-2), rfl, trivial, ht⟩) (fun q h => by cases h) dX12_held_23
  · have eb6 : r3.toInt = 1 := by rcases hr3 with ⟨q, -⟩ | ⟨q, -⟩; exact absurd (i_eq.mpr q) c4; exact q
    have fb6 : (0 : Int64).toInt ≤ x2.toInt ∧ x2.toInt ≤ (65535 : Int64).toInt := by rcases hr3 with ⟨q, r⟩ | ⟨q, r⟩; exact absurd q (by omega); exact r
    clear hr3
    refine lv_aload_n hx hb dX12_held_12 rfl (lv_at hl 0 rfl) ?_
    refine lv_iload_n hx hb dX12_held_13 rfl (lv_at hl 1 rfl) ?_
    refine lv_iload_n hx hb dX12_held_14 rfl (lv_at hl 2 rfl) ?_
    refine rvi (C := RX12) (As := [.int p1, .int p2]) (rest := []) ⟨hx, hb, hml, hown, hts⟩ (t_X12_heldBy l D k u hu h0 m_h0 k_h0 p1 p2 (by (try simp only [i_lt, i_le, i_eq, Int32.toInt_toInt64, Int32.reduceToInt, Int64.reduceToInt, true_and, and_true, false_and, and_false, false_or, or_false, true_or, or_true, not_true_eq_false, not_false_eq_true, ne_eq, forall_const, true_implies, false_implies, implies_true] at g_p2 b1 ab1 tx2 eb6 fb6 ⊢) <;> omega)) (cwV 2 hts gX12_held_X12_heldBy rfl rfl rfl (by decide +kernel) ⟨Nat.le_of_ble_eq_true rfl, Nat.le_of_ble_eq_true rfl⟩) hP hK (precv hK hP m_h0 (cF12 k_h0) rfl) rfl hl.1 rfl (Nat.le_of_ble_eq_true rfl) dX12_held_15 ⟨Nat.le_of_ble_eq_true rfl, Nat.le_of_ble_eq_true rfl⟩ (fun r7 hr7 => ?_)
    refine lv_goto (tgt := 23) hx hb dX12_held_18 (by decide) ?_
    exact W.iret (v := r7) hx hb hr (fun t ht hW => ⟨r7, rfl, trivial, ht⟩) (fun q h => by cases h) dX12_held_23
set_option maxHeartbeats 4000000 in
set_option maxRecDepth 100000 in
theorem t_X12_holdsOf (l : Launch) (D : va_G) (k : Nat → ClassId) (u : PSt) (hu : WT u) (h0 : Nat) (m_h0 : h0 ∈ u.1) (k_h0 : u.2.1 h0 = 12) (p1 : Int32) (g_p1 : 0 ≤ p1.toInt ∧ p1.toInt ≤ 11) : Met l yX12_holdsOf wsX12_holdsOf ({ frames := 1, cells := 0, slots := 0, locals := 22 }) (PreR D k (PW k u) [.ref h0, .int p1]) (vp_Si (fun r => True)) 0 0 (fun _ => False) := by
  refine Met.ofW (cc := cX12_holdsOf) (maxL := 2) (ret := (some .int)) (by decide) rfl ?_
  intro p e s m args below meth c s₁ B hml hv
  obtain ⟨rfl, hP, hK⟩ := hv
  have hx := B.exec
  have hb := B.bytes
  have hr := B.returns
  have hts := atoms_spec (ws := wsX12_holdsOf) B.pre
  have hown : s.vm.findClass RX12 = some m.cls := findClass_of_methodNamed B.named
  have hlocks := B.notSynchronized
  have hl := lv_entry ([.ref h0, .int p1]) (n := 2) (Nat.le_of_ble_eq_true rfl)
  rw [lg_entry_eq]
  generalize (lg_sl ([.ref h0, .int p1]) ++ List.replicate (2 - (lg_sl ([.ref h0, .int p1])).length) Slot.unset).toArray = ls at hl ⊢
  have hl : lv_has ls 2 [(0, .ref h0), (1, .int p1)] := hl
  refine lv_aload_n hx hb dX12_holdsOf_0 rfl (lv_at hl 0 rfl) ?_
  refine lv_iload_n hx hb dX12_holdsOf_1 rfl (lv_at hl 1 rfl) ?_
  refine lv_iconst (v := 4) hx hb dX12_holdsOf_2 (by decide) ?_
  refine rvi (C := RX12) (As := [.int p1, .int 4]) (rest := []) ⟨hx, hb, hml, hown, hts⟩ (t_X12_ofPipe l D k u hu h0 m_h0 k_h0 p1 4 (by (try simp only [i_lt, i_le, i_eq, Int32.toInt_toInt64, Int32.reduceToInt, Int64.reduceToInt, true_and, and_true, false_and, and_false, false_or, or_false, true_or, or_true, not_true_eq_false, not_false_eq_true, ne_eq, forall_const, true_implies, false_implies, implies_true] at g_p1 ⊢) <;> omega) (by decide)) (cwV 2 hts gX12_holdsOf_X12_ofPipe rfl rfl rfl (by decide +kernel) ⟨Nat.le_of_ble_eq_true rfl, Nat.le_of_ble_eq_true rfl⟩) hP hK (precv hK hP m_h0 (cF12 k_h0) rfl) rfl hl.1 rfl (Nat.le_of_ble_eq_true rfl) dX12_holdsOf_3 ⟨Nat.le_of_ble_eq_true rfl, Nat.le_of_ble_eq_true rfl⟩ (fun r1 hr1 => ?_)
  clear hr1
  refine lv_aload_n hx hb dX12_holdsOf_6 rfl (lv_at hl 0 rfl) ?_
  refine lv_iload_n hx hb dX12_holdsOf_7 rfl (lv_at hl 1 rfl) ?_
  refine lv_bipush (v := 7) hx hb dX12_holdsOf_8 (by decide) ?_
  refine rvi (C := RX12) (As := [.int p1, .int 7]) (rest := [.int r1]) ⟨hx, hb, hml, hown, hts⟩ (t_X12_ofPipe l D k u hu h0 m_h0 k_h0 p1 7 (by (try simp only [i_lt, i_le, i_eq, Int32.toInt_toInt64, Int32.reduceToInt, Int64.reduceToInt, true_and, and_true, false_and, and_false, false_or, or_false, true_or, or_true, not_true_eq_false, not_false_eq_true, ne_eq, forall_const, true_implies, false_implies, implies_true] at g_p1 ⊢) <;> omega) (by decide)) (cwV 2 hts gX12_holdsOf_X12_ofPipe rfl rfl rfl (by decide +kernel) ⟨Nat.le_of_ble_eq_true rfl, Nat.le_of_ble_eq_true rfl⟩) hP hK (precv hK hP m_h0 (cF12 k_h0) rfl) rfl hl.1 rfl (Nat.le_of_ble_eq_true rfl) dX12_holdsOf_10 ⟨Nat.le_of_ble_eq_true rfl, Nat.le_of_ble_eq_true rfl⟩ (fun r2 hr2 => ?_)
  clear hr2
  refine lv_iadd hx hb dX12_holdsOf_13 ?_
  refine lv_topi (fun x3 ex3 => ?_)
  exact W.iret (v := x3) hx hb hr (fun t ht hW => ⟨x3, rfl, trivial, ht⟩) (fun q h => by cases h) dX12_holdsOf_14
set_option maxHeartbeats 4000000 in
set_option maxRecDepth 100000 in
theorem t_X12_leverOf (l : Launch) (D : va_G) (k : Nat → ClassId) (u0 : PSt) (hu : WT u0) (h0 : Nat) (m_h0 : h0 ∈ u0.1) (k_h0 : u0.2.1 h0 = 12) (p1 : Int32) (g_p1 : 0 ≤ p1.toInt ∧ p1.toInt ≤ 11) (sz : Nat) : Met l yX12_leverOf wsX12_leverOf ({ frames := 2, cells := 0, slots := 0, locals := 49 }) (PreM D k sz (PW k u0) [.ref h0, .int p1]) (va_Qi (fun r v => WT v ∧ PX u0 v ∧ (True)) (WB D (va_A (PW k u0) sz) (PW k)) (va_A (PW k u0) sz)) 0 0 (va_A (PW k u0) sz) := by
  refine Met.ofW (cc := cX12_leverOf) (maxL := 4) (ret := (some .int)) (by decide) rfl ?_
  intro p e s m args below meth c s₁ B hml hv
  obtain ⟨rfl, hsz, hP, hK, hD0, hN⟩ := hv
  have hx := B.exec
  have hb := B.bytes
  have hr := B.returns
  have hts := atoms_spec (ws := wsX12_leverOf) B.pre
  have hown : s.vm.findClass RX12 = some m.cls := findClass_of_methodNamed B.named
  have hlocks := B.notSynchronized
  have i_X12 : ∀ w ∈ wsX120, w ∈ wsX12_leverOf := by decide +kernel
  obtain ⟨a17, q0_17, m0_a17, k0_a17⟩ := (hu h0 m_h0).1 17 56 (by rw [k_h0]; rfl)
  obtain ⟨a18, q0_18, m0_a18, k0_a18⟩ := (hu h0 m_h0).1 18 56 (by rw [k_h0]; rfl)
  obtain ⟨a19, q0_19, m0_a19, k0_a19⟩ := (hu h0 m_h0).1 19 56 (by rw [k_h0]; rfl)
  obtain ⟨a20, q0_20, m0_a20, k0_a20⟩ := (hu h0 m_h0).1 20 56 (by rw [k_h0]; rfl)
  have m0_h0 := m_h0
  have k0_h0 := k_h0
  have m_a17 := m0_a17
  have m_a18 := m0_a18
  have m_a19 := m0_a19
  have m_a20 := m0_a20
  have k_a17 := k0_a17
  have k_a18 := k0_a18
  have k_a19 := k0_a19
  have k_a20 := k0_a20
  subst hsz
  have hD := hD0.self (sz := s.heap.size)
  generalize hAe : va_A (PW k u0) s.heap.size = A at hD ⊢
  have hA : ∀ q : Nat, s.heap.size ≤ q → A q := fun q h => by rw [← hAe]; exact Or.inr h
  have hS : va_S A s.heap s.heap [] := va_S.rf
  have hp : PX u0 u0 := PX.rf
  have B9 : ∀ (n9 : Nat) (u : PSt) (H : Heap) (locs : List Loc) (ls : Array Slot) (v2 : Int32) (v3 : Int32), WT u → PX u0 u → va_P D vwCl (PW k u) H → va_D A (PW k u) → va_S A s.heap H locs → (2147483648 - v3.toInt).toNat ≤ n9 → 0 ≤ v3.toInt ∧ v3.toInt ≤ 8 → lv_has ls 4 [(0, .ref h0), (2, .int v2), (3, .int v3)] → W p l e (headSpec wsX12_leverOf ({ frames := 2, cells := 0, slots := 0, locals := 49 })).room s m ([.ref h0, .int p1] : List Value).toArray below meth c H locs 0 0 (MQ below (va_Qi (fun r v => WT v ∧ PX u0 v ∧ (True)) (WB D A (PW k)) A) ([.ref h0, .int p1] : List Value).toArray s 0 0 A) (F0 m 9 ls []) := by
    intro n9
    induction n9 with
    | zero =>
      intro u H locs ls v2 v3 hu hp hP hD hS hn9 g_v3 hl
      exact absurd hn9 (by have := Int32.toInt_lt v3; have := Int32.le_toInt v3; omega)
    | succ n9 ih9 =>
      intro u H locs ls v2 v3 hu hp hP hD hS hn9 g_v3 hl
      refine lv_iload_n hx hb dX12_leverOf_9 rfl (lv_at hl 2 rfl) ?_
      refine lv_aload_n hx hb dX12_leverOf_10 rfl (lv_at hl 0 rfl) ?_
      have k_h0 : u.2.1 h0 = 12 := (hp h0 m0_h0).2.1.trans k0_h0
      have m_h0 : h0 ∈ u.1 := (hp h0 m0_h0).1
      refine pget (ci := 12) (v := .int (u.2.2.1 h0 16)) (C := RX12) (T := TX12) (N := 34) hx hb hts i_X12 hown hK hP m_h0 (cF12 k_h0) rfl 16 (by decide) (hts (.fieldLink RX12 303 "BellowsRowModel" "bendMany" "I") (by decide +kernel)) (fun _ h9 => h9) rfl dX12_leverOf_11 ?_
      have g1 := (hu h0 m_h0).2.2.2 16
      rw [k_h0] at g1
      replace g1 : 0 ≤ (u.2.2.1 h0 16).toInt ∧ (u.2.2.1 h0 16).toInt ≤ 8 := g1
      refine lv_icmp_ge (tgt := 53) hx hb dX12_leverOf_14 (by decide) (fun c2 => ?_) (fun c2 => ?_)
      · refine lv_iload_n hx hb dX12_leverOf_53 rfl (lv_at hl 1 rfl) ?_
        refine va_mabs hx hb (hml.trans hl.1.symm) hown (hts (.methodLink RX12 317 Lib.Math.abs.name) (by decide +kernel)) (hts (.static Lib.Math.abs.name) (by decide +kernel)) (hts (.initialized "java/lang/Math") (by decide +kernel)) (hts (.code Lib.Math.abs.name Lib.Math.abs.code 1 (some .int)) (by decide +kernel)) (Nat.le_of_ble_eq_true rfl) (Nat.le_of_ble_eq_true rfl) (Nat.le_of_ble_eq_true rfl) (Nat.le_of_ble_eq_true rfl) dX12_leverOf_54 ?_
        refine lv_topi (fun x3 ex3 => ?_)
        exact W.iret (v := x3) hx hb hr (fun t ht hW => ⟨⟨x3, u, rfl, ⟨hu, hp, trivial⟩, by rw [ht]; exact hP, hD⟩, hS.F ht⟩) hS.2.2 dX12_leverOf_57
      · refine lv_iload_n hx hb dX12_leverOf_17 rfl (lv_at hl 1 rfl) ?_
        refine lv_aload_n hx hb dX12_leverOf_18 rfl (lv_at hl 0 rfl) ?_
        have k_a17 : u.2.1 a17 = 56 := (hp a17 m0_a17).2.1.trans k0_a17
        have m_a17 : a17 ∈ u.1 := (hp a17 m0_a17).1
        refine pget (ci := 12) (v := va_rf (u.2.2.2.2 h0 17)) (C := RX12) (T := TX12) (N := 34) hx hb hts i_X12 hown hK hP m_h0 (cF12 k_h0) rfl 17 (by decide) (hts (.fieldLink RX12 37 "BellowsRowModel" "bendX" "[I") (by decide +kernel)) (fun _ h9 => h9) rfl dX12_leverOf_19 ?_
        refine W.eq (g2 := F0 m 22 ls [.ref a17, .int v2]) (by rw [(((hp h0 m0_h0).2.2.2.2.2.1 k0_h0 17).trans q0_17)]; rfl) ?_
        refine lv_iload_n hx hb dX12_leverOf_22 rfl (lv_at hl 2 rfl) ?_
        refine palI hx hb hK hP m_a17 (cF56 k_a17) 1 rfl (vp_in_iff.mpr (by (try simp only [i_lt, i_le, i_eq, Int32.toInt_toInt64, Int32.reduceToInt, Int64.reduceToInt, true_and, and_true, false_and, and_false, false_or, or_false, true_or, or_true, not_true_eq_false, not_false_eq_true, ne_eq, forall_const, true_implies, false_implies, implies_true] at g_v3 hn9 g1 c2 ⊢) <;> omega)) dX12_leverOf_23 ?_
        refine lv_topi (fun x4 ex4 => ?_)
        have tx4 : x4.toInt = (u.2.2.1 a17 (v3.toNatClampNeg)).toInt := congrArg Int32.toInt ex4
        refine lv_aload_n hx hb dX12_leverOf_24 rfl (lv_at hl 0 rfl) ?_
        have k_a20 : u.2.1 a20 = 56 := (hp a20 m0_a20).2.1.trans k0_a20
        have m_a20 : a20 ∈ u.1 := (hp a20 m0_a20).1
        refine pget (ci := 12) (v := va_rf (u.2.2.2.2 h0 20)) (C := RX12) (T := TX12) (N := 34) hx hb hts i_X12 hown hK hP m_h0 (cF12 k_h0) rfl 20 (by decide) (hts (.fieldLink RX12 46 "BellowsRowModel" "across" "[I") (by decide +kernel)) (fun _ h9 => h9) rfl dX12_leverOf_25 ?_
        refine W.eq (g2 := F0 m 28 ls [.ref a20, .int x4, .int v2]) (by rw [(((hp h0 m0_h0).2.2.2.2.2.1 k0_h0 20).trans q0_20)]; rfl) ?_
        refine lv_iload_n hx hb dX12_leverOf_28 rfl (lv_at hl 2 rfl) ?_
        refine palI hx hb hK hP m_a20 (cF56 k_a20) 1 rfl (vp_in_iff.mpr (by (try simp only [i_lt, i_le, i_eq, Int32.toInt_toInt64, Int32.reduceToInt, Int64.reduceToInt, true_and, and_true, false_and, and_false, false_or, or_false, true_or, or_true, not_true_eq_false, not_false_eq_true, ne_eq, forall_const, true_implies, false_implies, implies_true] at g_v3 hn9 g1 c2 tx4 ⊢) <;> omega)) dX12_leverOf_29 ?_
        refine lv_topi (fun x5 ex5 => ?_)
        have tx5 : x5.toInt = (u.2.2.1 a20 (v3.toNatClampNeg)).toInt := congrArg Int32.toInt ex5
        refine lv_imul hx hb dX12_leverOf_30 ?_
        refine lv_topi (fun x6 ex6 => ?_)
        refine lv_aload_n hx hb dX12_leverOf_31 rfl (lv_at hl 0 rfl) ?_
        have k_a18 : u.2.1 a18 = 56 := (hp a18 m0_a18).2.1.trans k0_a18
        have m_a18 : a18 ∈ u.1 := (hp a18 m0_a18).1
        refine pget (ci := 12) (v := va_rf (u.2.2.2.2 h0 18)) (C := RX12) (T := TX12) (N := 34) hx hb hts i_X12 hown hK hP m_h0 (cF12 k_h0) rfl 18 (by decide) (hts (.fieldLink RX12 40 "BellowsRowModel" "bendY" "[I") (by decide +kernel)) (fun _ h9 => h9) rfl dX12_leverOf_32 ?_
        refine W.eq (g2 := F0 m 35 ls [.ref a18, .int x6, .int v2]) (by rw [(((hp h0 m0_h0).2.2.2.2.2.1 k0_h0 18).trans q0_18)]; rfl) ?_
        refine lv_iload_n hx hb dX12_leverOf_35 rfl (lv_at hl 2 rfl) ?_
        refine palI hx hb hK hP m_a18 (cF56 k_a18) 1 rfl (vp_in_iff.mpr (by (try simp only [i_lt, i_le, i_eq, Int32.toInt_toInt64, Int32.reduceToInt, Int64.reduceToInt, true_and, and_true, false_and, and_false, false_or, or_false, true_or, or_true, not_true_eq_false, not_false_eq_true, ne_eq, forall_const, true_implies, false_implies, implies_true] at g_v3 hn9 g1 c2 tx4 tx5 ⊢) <;> omega)) dX12_leverOf_36 ?_
        refine lv_topi (fun x7 ex7 => ?_)
        have tx7 : x7.toInt = (u.2.2.1 a18 (v3.toNatClampNeg)).toInt := congrArg Int32.toInt ex7
        refine lv_aload_n hx hb dX12_leverOf_37 rfl (lv_at hl 0 rfl) ?_
        have k_a19 : u.2.1 a19 = 56 := (hp a19 m0_a19).2.1.trans k0_a19
        have m_a19 : a19 ∈ u.1 := (hp a19 m0_a19).1
        refine pget (ci := 12) (v := va_rf (u.2.2.2.2 h0 19)) (C := RX12) (T := TX12) (N := 34) hx hb hts i_X12 hown hK hP m_h0 (cF12 k_h0) rfl 19 (by decide) (hts (.fieldLink RX12 43 "BellowsRowModel" "along" "[I") (by decide +kernel)) (fun _ h9 => h9) rfl dX12_leverOf_38 ?_
        refine W.eq (g2 := F0 m 41 ls [.ref a19, .int x7, .int x6, .int v2]) (by rw [(((hp h0 m0_h0).2.2.2.2.2.1 k0_h0 19).trans q0_19)]; rfl) ?_
        refine lv_iload_n hx hb dX12_leverOf_41 rfl (lv_at hl 2 rfl) ?_
        refine palI hx hb hK hP m_a19 (cF56 k_a19) 1 rfl (vp_in_iff.mpr (by (try simp only [i_lt, i_le, i_eq, Int32.toInt_toInt64, Int32.reduceToInt, Int64.reduceToInt, true_and, and_true, false_and, and_false, false_or, or_false, true_or, or_true, not_true_eq_false, not_false_eq_true, ne_eq, forall_const, true_implies, false_implies, implies_true] at g_v3 hn9 g1 c2 tx4 tx5 tx7 ⊢) <;> omega)) dX12_leverOf_42 ?_
        refine lv_topi (fun x8 ex8 => ?_)
        have tx8 : x8.toInt = (u.2.2.1 a19 (v3.toNatClampNeg)).toInt := congrArg Int32.toInt ex8
        refine lv_imul hx hb dX12_leverOf_43 ?_
        refine lv_topi (fun x9 ex9 => ?_)
        refine lv_isub hx hb dX12_leverOf_44 ?_
        refine lv_topi (fun x10 ex10 => ?_)
        refine lv_iadd hx hb dX12_leverOf_45 ?_
        refine lv_topi (fun x11 ex11 => ?_)
        refine lv_istore_n (lv' := [(2, .int x11), (0, .ref h0), (3, .int v3)]) hx hb dX12_leverOf_46 rfl hl (by decide) rfl (fun ls hl => ?_)
        obtain ⟨x12, ex12⟩ : ∃ y : Int32, y = v3 + 1 := ⟨_, rfl⟩
        have tx12 : x12.toInt = v3.toInt + 1 := by rw [ex12]; exact i_add (b := 1) (by (try simp only [i_lt, i_le, i_eq, Int32.toInt_toInt64, Int32.reduceToInt, Int64.reduceToInt, true_and, and_true, false_and, and_false, false_or, or_false, true_or, or_true, not_true_eq_false, not_false_eq_true, ne_eq, forall_const, true_implies, false_implies, implies_true] at g_v3 hn9 g1 c2 tx4 tx5 tx7 tx8 ⊢) <;> omega) (by (try simp only [i_lt, i_le, i_eq, Int32.toInt_toInt64, Int32.reduceToInt, Int64.reduceToInt, true_and, and_true, false_and, and_false, false_or, or_false, true_or, or_true, not_true_eq_false, not_false_eq_true, ne_eq, forall_const, true_implies, false_implies, implies_true] at g_v3 hn9 g1 c2 tx4 tx5 tx7 tx8 ⊢) <;> omega)
        refine lv_iinc (v := x12) (lv' := [(3, .int x12), (2, .int x11), (0, .ref h0)]) hx hb dX12_leverOf_47 hl (k := 2) rfl (by rw [ex12]; rfl) (by decide) rfl (fun ls hl => ?_)
        refine lv_goto (tgt := 9) hx hb dX12_leverOf_50 (by decide) ?_
        exact ih9 _ _ _ ls x11 x12 hu hp hP hD hS (by (try simp only [i_lt, i_le, i_eq, Int32.toInt_toInt64, Int32.reduceToInt, Int64.reduceToInt, true_and, and_true, false_and, and_false, false_or, or_false, true_or, or_true, not_true_eq_false, not_false_eq_true, ne_eq, forall_const, true_implies, false_implies, implies_true] at g_v3 hn9 g1 c2 tx4 tx5 tx7 tx8 tx12 ⊢) <;> omega) (by (try simp only [i_lt, i_le, i_eq, Int32.toInt_toInt64, Int32.reduceToInt, Int64.reduceToInt, true_and, and_true, false_and, and_false, false_or, or_false, true_or, or_true, not_true_eq_false, not_false_eq_true, ne_eq, forall_const, true_implies, false_implies, implies_true] at g_v3 hn9 g1 c2 tx4 tx5 tx7 tx8 tx12 ⊢) <;> omega) (lv_sub hl [2, 1, 0] rfl)
  have hl := lv_entry ([.ref h0, .int p1]) (n := 4) (Nat.le_of_ble_eq_true rfl)
  rw [lg_entry_eq]
  generalize (lg_sl ([.ref h0, .int p1]) ++ List.replicate (4 - (lg_sl ([.ref h0, .int p1])).length) Slot.unset).toArray = ls at hl ⊢
  have hl : lv_has ls 4 [(0, .ref h0), (1, .int p1)] := hl
  refine lv_aload_n hx hb dX12_leverOf_0 rfl (lv_at hl 0 rfl) ?_
  refine lv_iload_n hx hb dX12_leverOf_1 rfl (lv_at hl 1 rfl) ?_
  refine wvV (C := RX12) (As := [.int p1]) (rest := []) ⟨hx, hb, hml, hown, hts⟩ (fun sz => t_X12_bends l D k u0 hu h0 m_h0 k_h0 p1 (by (try simp only [i_lt, i_le, i_eq, Int32.toInt_toInt64, Int32.reduceToInt, Int64.reduceToInt, true_and, and_true, false_and, and_false, false_or, or_false, true_or, or_true, not_true_eq_false, not_false_eq_true, ne_eq, forall_const, true_implies, false_implies, implies_true] at g_p1 ⊢) <;> omega) sz) (cwV 1 hts gX12_leverOf_X12_bends rfl rfl rfl (by decide +kernel) ⟨Nat.le_of_ble_eq_true rfl, Nat.le_of_ble_eq_true rfl⟩) hP hK hD hN hS hA (precv hK hP m_h0 (cF12 k_h0) rfl) rfl hl.1 rfl (Nat.le_of_ble_eq_true rfl) dX12_leverOf_2 ⟨Nat.le_of_ble_eq_true rfl, Nat.le_of_ble_eq_true rfl⟩ (fun u14 H locs hqu14 hP hD hS => ?_)
  obtain ⟨hu, hxu14, hr13⟩ := hqu14
  have hp := PX.trans hp hxu14
  refine lv_iconst (v := 0) hx hb dX12_leverOf_5 (by decide) ?_
  refine lv_istore_n (lv' := [(2, .int 0), (0, .ref h0), (1, .int p1)]) hx hb dX12_leverOf_6 rfl hl (by decide) rfl (fun ls hl => ?_)
  refine lv_iconst (v := 0) hx hb dX12_leverOf_7 (by decide) ?_
  refine lv_istore_n (lv' := [(3, .int 0), (2, .int 0), (0, .ref h0), (1, .int p1)]) hx hb dX12_leverOf_8 rfl hl (by decide) rfl (fun ls hl => ?_)
  exact B9 _ _ _ _ ls 0 0 hu hp hP hD hS (Nat.le_refl _) (by (try simp only [i_lt, i_le, i_eq, Int32.toInt_toInt64, Int32.reduceToInt, Int64.reduceToInt, true_and, and_true, false_and, and_false, false_or, or_false, true_or, or_true, not_true_eq_false, not_false_eq_true, ne_eq, forall_const, true_implies, false_implies, implies_true] at g_p1 ⊢) <;> omega) (lv_sub hl [2, 1, 0] rfl)
set_option maxHeartbeats 4000000 in
set_option maxRecDepth 100000 in
theorem t_X12_reachOf (l : Launch) (D : va_G) (k : Nat → ClassId) (u : PSt) (hu : WT u) (h0 : Nat) (m_h0 : h0 ∈ u.1) (k_h0 : u.2.1 h0 = 12) (p1 : Int32) (p2 : Int32) (p3 : Int32) (g_p1 : 0 ≤ p1.toInt ∧ p1.toInt ≤ 11) (g_p2 : 0 ≤ p2.toInt ∧ p2.toInt ≤ 1999) (g_p3 : 0 ≤ p3.toInt ∧ p3.toInt ≤ 60) : Met l yX12_reachOf wsX12_reachOf ({ frames := 1, cells := 0, slots := 0, locals := 22 }) (PreR D k (PW k u) [.ref h0, .int p1, .int p2, .int p3]) (vp_Si (fun r => True)) 0 0 (fun _ => False) := by
  refine Met.ofW (cc := cX12_reachOf) (maxL := 4) (ret := (some .int)) (by decide) rfl ?_
  intro p e s m args below meth c s₁ B hml hv
  obtain ⟨rfl, hP, hK⟩ := hv
  have hx := B.exec
  have hb := B.bytes
  have hr := B.returns
  have hts := atoms_spec (ws := wsX12_reachOf) B.pre
  have hown : s.vm.findClass RX12 = some m.cls := findClass_of_methodNamed B.named
  have hlocks := B.notSynchronized
  have i_X12 : ∀ w ∈ wsX120, w ∈ wsX12_reachOf := by decide +kernel
  obtain ⟨a1, q0_1, m0_a1, k0_a1⟩ := (hu h0 m_h0).1 1 50 (by rw [k_h0]; rfl)
  have m_a1 := m0_a1
  have k_a1 := k0_a1
  have hl := lv_entry ([.ref h0, .int p1, .int p2, .int p3]) (n := 4) (Nat.le_of_ble_eq_true rfl)
  rw [lg_entry_eq]
  generalize (lg_sl ([.ref h0, .int p1, .int p2, .int p3]) ++ List.replicate (4 - (lg_sl ([.ref h0, .int p1, .int p2, .int p3])).length) Slot.unset).toArray = ls at hl ⊢
  have hl : lv_has ls 4 [(0, .ref h0), (1, .int p1), (2, .int p2), (3, .int p3)] := hl
  refine lv_aload_n hx hb dX12_reachOf_0 rfl (lv_at hl 0 rfl) ?_
  refine pget (ci := 12) (v := va_rf (u.2.2.2.2 h0 1)) (C := RX12) (T := TX12) (N := 34) hx hb hts i_X12 hown hK hP m_h0 (cF12 k_h0) rfl 1 (by decide) (hts (.fieldLink RX12 13 "BellowsRowModel" "world" "[I") (by decide +kernel)) (fun _ h9 => h9) rfl dX12_reachOf_1 ?_
  refine W.eq (g2 := F0 m 4 ls [.ref a1]) (by rw [q0_1]; rfl) ?_
  refine lv_sipush (v := 482) hx hb dX12_reachOf_4 (by decide) ?_
  refine lv_iload_n hx hb dX12_reachOf_7 rfl (lv_at hl 2 rfl) ?_
  refine lv_iadd hx hb dX12_reachOf_8 ?_
  refine lv_topi (fun x1 ex1 => ?_)
  have tx1 : x1.toInt = (482 : Int32).toInt + p2.toInt := by rw [ex1]; exact i_add (by (try simp only [i_lt, i_le, i_eq, Int32.toInt_toInt64, Int32.reduceToInt, Int64.reduceToInt, true_and, and_true, false_and, and_false, false_or, or_false, true_or, or_true, not_true_eq_false, not_false_eq_true, ne_eq, forall_const, true_implies, false_implies, implies_true] at g_p1 g_p2 g_p3 ⊢) <;> omega) (by (try simp only [i_lt, i_le, i_eq, Int32.toInt_toInt64, Int32.reduceToInt, Int64.reduceToInt, true_and, and_true, false_and, and_false, false_or, or_false, true_or, or_true, not_true_eq_false, not_false_eq_true, ne_eq, forall_const, true_implies, false_implies, implies_true] at g_p1 g_p2 g_p3 ⊢) <;> omega)
  refine palI hx hb hK hP m_a1 (cF50 k_a1) 1 rfl (vp_in_iff.mpr (by (try simp only [i_lt, i_le, i_eq, Int32.toInt_toInt64, Int32.reduceToInt, Int64.reduceToInt, true_and, and_true, false_and, and_false, false_or, or_false, true_or, or_true, not_true_eq_false, not_false_eq_true, ne_eq, forall_const, true_implies, false_implies, implies_true] at g_p1 g_p2 g_p3 tx1 ⊢) <;> omega)) dX12_reachOf_9 ?_
  refine lv_topi (fun x2 ex2 => ?_)
  have tx2 : x2.toInt = (u.2.2.1 a1 (x1.toNatClampNeg)).toInt := congrArg Int32.toInt ex2
  have g3 : 0 ≤ x2.toInt ∧ x2.toInt ≤ 999 := by have g : okI (u.2.1 a1) (x1.toNatClampNeg) (u.2.2.1 a1 (x1.toNatClampNeg)) := (hu a1 m_a1).2.2.2 (x1.toNatClampNeg); rw [k_a1, ← (show x2 = u.2.2.1 a1 (x1.toNatClampNeg) from ex2)] at g; have g : okW (x1.toNatClampNeg) x2 := g; unfold okW at g; have z := cl_int (x := x1) (by (try simp only [i_lt, i_le, i_eq, Int32.toInt_toInt64, Int32.reduceToInt, Int64.reduceToInt, true_and, and_true, false_and, and_false, false_or, or_false, true_or, or_true, not_true_eq_false, not_false_eq_true, ne_eq, forall_const, true_implies, false_implies, implies_true] at g_p1 g_p2 g_p3 tx1 tx2 ⊢) <;> omega); (try simp only [i_lt, i_le, i_eq, Int32.toInt_toInt64, Int32.reduceToInt, Int64.reduceToInt, true_and, and_true, false_and, and_false, false_or, or_false, true_or, or_true, not_true_eq_false, not_false_eq_true, ne_eq, forall_const, true_implies, false_implies, implies_true] at g_p1 g_p2 g_p3 tx1 tx2 g z ⊢) <;> omega
  refine lv_aload_n hx hb dX12_reachOf_10 rfl (lv_at hl 0 rfl) ?_
  refine lv_iload_n hx hb dX12_reachOf_11 rfl (lv_at hl 1 rfl) ?_
  refine lv_iconst (v := 2) hx hb dX12_reachOf_12 (by decide) ?_
  refine rvi (C := RX12) (As := [.int p1, .int 2]) (rest := [.int x2]) ⟨hx, hb, hml, hown, hts⟩ (t_X12_ofPipe l D k u hu h0 m_h0 k_h0 p1 2 (by (try simp only [i_lt, i_le, i_eq, Int32.toInt_toInt64, Int32.reduceToInt, Int64.reduceToInt, true_and, and_true, false_and, and_false, false_or, or_false, true_or, or_true, not_true_eq_false, not_false_eq_true, ne_eq, forall_const, true_implies, false_implies, implies_true] at g_p1 g_p2 g_p3 tx1 tx2 g3 ⊢) <;> omega) (by decide)) (cwV 2 hts gX12_reachOf_X12_ofPipe rfl rfl rfl (by decide +kernel) ⟨Nat.le_of_ble_eq_true rfl, Nat.le_of_ble_eq_true rfl⟩) hP hK (precv hK hP m_h0 (cF12 k_h0) rfl) rfl hl.1 rfl (Nat.le_of_ble_eq_true rfl) dX12_reachOf_13 ⟨Nat.le_of_ble_eq_true rfl, Nat.le_of_ble_eq_true rfl⟩ (fun r4 hr4 => ?_)
  replace hr4 : 0 ≤ r4.toInt ∧ r4.toInt ≤ 40 := by have h := hr4.1; clear hr4; (simp only [i_lt, i_le, i_eq, Int32.toInt_toInt64, Int32.reduceToInt, Int64.reduceToInt, true_and, and_true, false_and, and_false, false_or, or_false, true_or, or_true, not_true_eq_false, not_false_eq_true, ne_eq, forall_const, true_implies, false_implies, implies_true] at h) <;> omega
  refine lv_imul hx hb dX12_reachOf_16 ?_
  refine lv_topi (fun x5 ex5 => ?_)
  have tx5 : 0 ≤ x5.toInt ∧ x5.toInt ≤ 39960 := by rw [ex5]; exact i_mulb (A := 999) (B := 40) (C := 39960) ((show 0 ≤ x2.toInt ∧ x2.toInt ≤ 999 from by (try simp only [i_lt, i_le, i_eq, Int32.toInt_toInt64, Int32.reduceToInt, Int64.reduceToInt, true_and, and_true, false_and, and_false, false_or, or_false, true_or, or_true, not_true_eq_false, not_false_eq_true, ne_eq, forall_const, true_implies, false_implies, implies_true] at g_p1 g_p2 g_p3 tx1 tx2 g3 hr4 ⊢) <;> omega)) ((show 0 ≤ r4.toInt ∧ r4.toInt ≤ 40 from by (try simp only [i_lt, i_le, i_eq, Int32.toInt_toInt64, Int32.reduceToInt, Int64.reduceToInt, true_and, and_true, false_and, and_false, false_or, or_false, true_or, or_true, not_true_eq_false, not_false_eq_true, ne_eq, forall_const, true_implies, false_implies, implies_true] at g_p1 g_p2 g_p3 tx1 tx2 g3 hr4 ⊢) <;> omega)) (by decide)
  refine lv_iload_n hx hb dX12_reachOf_17 rfl (lv_at hl 3 rfl) ?_
  refine lv_imul hx hb dX12_reachOf_18 ?_
  refine lv_topi (fun x6 ex6 => ?_)
  have tx6 : 0 ≤ x6.toInt ∧ x6.toInt ≤ 2397600 := by rw [ex6]; exact i_mulb (A := 39960) (B := 60) (C := 2397600) ((show 0 ≤ x5.toInt ∧ x5.toInt ≤ 39960 from by (try simp only [i_lt, i_le, i_eq, Int32.toInt_toInt64, Int32.reduceToInt, Int64.reduceToInt, true_and, and_true, false_and, and_false, false_or, or_false, true_or, or_true, not_true_eq_false, not_false_eq_true, ne_eq, forall_const, true_implies, false_implies, implies_true] at g_p1 g_p2 g_p3 tx1 tx2 g3 hr4 tx5 ⊢) <;> omega)) ((show 0 ≤ p3.toInt ∧ p3.toInt ≤ 60 from by (try simp only [i_lt, i_le, i_eq, Int32.toInt_toInt64, Int32.reduceToInt, Int64.reduceToInt, true_and, and_true, false_and, and_false, false_or, or_false, true_or, or_true, not_true_eq_false, not_false_eq_true, ne_eq, forall_const, true_implies, false_implies, implies_true] at g_p1 g_p2 g_p3 tx1 tx2 g3 hr4 tx5 ⊢) <;> omega)) (by decide)
  refine psi (As := [.int x6]) (rest := []) ⟨hx, hb, hml, hown, hts⟩ (t_X12_rootOf l D k x6 (by (try simp only [i_lt, i_le, i_eq, Int32.toInt_toInt64, Int32.reduceToInt, Int64.reduceToInt, true_and, and_true, false_and, and_false, false_or, or_false, true_or, or_true, not_true_eq_false, not_false_eq_true, ne_eq, forall_const, true_implies, false_implies, implies_true] at g_p1 g_p2 g_p3 tx1 tx2 g3 hr4 tx5 tx6 ⊢) <;> omega)) (va_cwS 1 hts gX12_reachOf_X12_rootOf rfl rfl rfl (by decide +kernel) ⟨Nat.le_of_ble_eq_true rfl, Nat.le_of_ble_eq_true rfl⟩) hK rfl hl.1 rfl (Nat.le_of_ble_eq_true rfl) dX12_reachOf_19 ⟨Nat.le_of_ble_eq_true rfl, Nat.le_of_ble_eq_true rfl⟩ (fun r7 hr7 => ?_)
  exact W.iret (v := r7) hx hb hr (fun t ht hW => ⟨r7, rfl, trivial, ht⟩) (fun q h => by cases h) dX12_reachOf_22
set_option maxHeartbeats 4000000 in
set_option maxRecDepth 100000 in
theorem t_X12_weightOf (l : Launch) (D : va_G) (k : Nat → ClassId) (u0 : PSt) (hu : WT u0) (h0 : Nat) (m_h0 : h0 ∈ u0.1) (k_h0 : u0.2.1 h0 = 12) (p1 : Int32) (g_p1 : 0 ≤ p1.toInt ∧ p1.toInt ≤ 11) (sz : Nat) : Met l yX12_weightOf wsX12_weightOf ({ frames := 2, cells := 0, slots := 0, locals := 49 }) (PreM D k sz (PW k u0) [.ref h0, .int p1]) (va_Qi (fun r v => WT v ∧ PX u0 v ∧ (True)) (WB D (va_A (PW k u0) sz) (PW k)) (va_A (PW k u0) sz)) 0 0 (va_A (PW k u0) sz) := by
  refine Met.ofW (cc := cX12_weightOf) (maxL := 2) (ret := (some .int)) (by decide) rfl ?_
  intro p e s m args below meth c s₁ B hml hv
  obtain ⟨rfl, hsz, hP, hK, hD0, hN⟩ := hv
  have hx := B.exec
  have hb := B.bytes
  have hr := B.returns
  have hts := atoms_spec (ws := wsX12_weightOf) B.pre
  have hown : s.vm.findClass RX12 = some m.cls := findClass_of_methodNamed B.named
  have hlocks := B.notSynchronized
  have i_X12 : ∀ w ∈ wsX120, w ∈ wsX12_weightOf := by decide +kernel
  have m0_h0 := m_h0
  have k0_h0 := k_h0
  subst hsz
  have hD := hD0.self (sz := s.heap.size)
  generalize hAe : va_A (PW k u0) s.heap.size = A at hD ⊢
  have hA : ∀ q : Nat, s.heap.size ≤ q → A q := fun q h => by rw [← hAe]; exact Or.inr h
  have hS : va_S A s.heap s.heap [] := va_S.rf
  have hp : PX u0 u0 := PX.rf
  have hl := lv_entry ([.ref h0, .int p1]) (n := 2) (Nat.le_of_ble_eq_true rfl)
  rw [lg_entry_eq]
  generalize (lg_sl ([.ref h0, .int p1]) ++ List.replicate (2 - (lg_sl ([.ref h0, .int p1])).length) Slot.unset).toArray = ls at hl ⊢
  have hl : lv_has ls 2 [(0, .ref h0), (1, .int p1)] := hl
  refine lv_aload_n hx hb dX12_weightOf_0 rfl (lv_at hl 0 rfl) ?_
  refine lv_iload_n hx hb dX12_weightOf_1 rfl (lv_at hl 1 rfl) ?_
  refine wvV (C := RX12) (As := [.int p1]) (rest := []) ⟨hx, hb, hml, hown, hts⟩ (fun sz => t_X12_bends l D k u0 hu h0 m_h0 k_h0 p1 (by (try simp only [i_lt, i_le, i_eq, Int32.toInt_toInt64, Int32.reduceToInt, Int64.reduceToInt, true_and, and_true, false_and, and_false, false_or, or_false, true_or, or_true, not_true_eq_false, not_false_eq_true, ne_eq, forall_const, true_implies, false_implies, implies_true] at g_p1 ⊢) <;> omega) sz) (cwV 1 hts gX12_weightOf_X12_bends rfl rfl rfl (by decide +kernel) ⟨Nat.le_of_ble_eq_true rfl, Nat.le_of_ble_eq_true rfl⟩) hP hK hD hN hS hA (precv hK hP m_h0 (cF12 k_h0) rfl) rfl hl.1 rfl (Nat.le_of_ble_eq_true rfl) dX12_weightOf_2 ⟨Nat.le_of_ble_eq_true rfl, Nat.le_of_ble_eq_true rfl⟩ (fun u2 H locs hqu2 hP hD hS => ?_)
  obtain ⟨hu, hxu2, hr1⟩ := hqu2
  have hp := PX.trans hp hxu2
  refine lv_aload_n hx hb dX12_weightOf_5 rfl (lv_at hl 0 rfl) ?_
  have k_h0 : u2.2.1 h0 = 12 := (hp h0 m0_h0).2.1.trans k0_h0
  have m_h0 : h0 ∈ u2.1 := (hp h0 m0_h0).1
  refine pget (ci := 12) (v := .int (u2.2.2.1 h0 21)) (C := RX12) (T := TX12) (N := 34) hx hb hts i_X12 hown hK hP m_h0 (cF12 k_h0) rfl 21 (by decide) (hts (.fieldLink RX12 306 "BellowsRowModel" "length" "I") (by decide +kernel)) (fun _ h9 => h9) rfl dX12_weightOf_6 ?_
  refine lv_aload_n hx hb dX12_weightOf_9 rfl (lv_at hl 0 rfl) ?_
  refine lv_iload_n hx hb dX12_weightOf_10 rfl (lv_at hl 1 rfl) ?_
  refine lv_iconst (v := 2) hx hb dX12_weightOf_11 (by decide) ?_
  refine rvi (C := RX12) (As := [.int p1, .int 2]) (rest := [.int (u2.2.2.1 h0 21)]) ⟨hx, hb, hml, hown, hts⟩ (t_X12_ofPipe l D k u2 hu h0 m_h0 k_h0 p1 2 (by (try simp only [i_lt, i_le, i_eq, Int32.toInt_toInt64, Int32.reduceToInt, Int64.reduceToInt, true_and, and_true, false_and, and_false, false_or, or_false, true_or, or_true, not_true_eq_false, not_false_eq_true, ne_eq, forall_const, true_implies, false_implies, implies_true] at g_p1 ⊢) <;> omega) (by decide)) (cwV 2 hts gX12_weightOf_X12_ofPipe rfl rfl rfl (by decide +kernel) ⟨Nat.le_of_ble_eq_true rfl, Nat.le_of_ble_eq_true rfl⟩) hP hK (precv hK hP m_h0 (cF12 k_h0) rfl) rfl hl.1 rfl (Nat.le_of_ble_eq_true rfl) dX12_weightOf_12 ⟨Nat.le_of_ble_eq_true rfl, Nat.le_of_ble_eq_true rfl⟩ (fun r3 hr3 => ?_)
  replace hr3 : 0 ≤ r3.toInt ∧ r3.toInt ≤ 40 := by have h := hr3.1; clear hr3; (simp only [i_lt, i_le, i_eq, Int32.toInt_toInt64, Int32.reduceToInt, Int64.reduceToInt, true_and, and_true, false_and, and_false, false_or, or_false, true_or, or_true, not_true_eq_false, not_false_eq_true, ne_eq, forall_const, true_implies, false_implies, implies_true] at h) <;> omega
  refine lv_imul hx hb dX12_weightOf_15 ?_
  refine lv_topi (fun x4 ex4 => ?_)
  exact W.iret (v := x4) hx hb hr (fun t ht hW => ⟨⟨x4, u2, rfl, ⟨hu, hp, trivial⟩, by rw [ht]; exact hP, hD⟩, hS.F ht⟩) hS.2.2 dX12_weightOf_16
