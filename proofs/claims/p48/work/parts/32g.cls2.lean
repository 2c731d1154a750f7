set_option maxHeartbeats 4000000 in
set_option maxRecDepth 100000 in
theorem t2_X11_slotAt (l : Launch) (D : va_G) (k : Nat → ClassId) (u : PSt) (hu : WT u) (h0 : Nat) (m_h0 : h0 ∈ u.1) (k_h0 : u.2.1 h0 = 11) (p1 : Int32) : Met l yX11_slotAt wsX11_slotAt ({ frames := 0, cells := 0, slots := 0, locals := 0 }) (PreR D k (PW k u) [.ref h0, .int p1]) (va_Sq (fun r => (∀ y, r = some y → y ∈ u.1 ∧ u.2.1 y = 7) ∧ (match r with | none => p1.toInt < 0 ∨ 3 < p1.toInt | some _ => 0 ≤ p1.toInt ∧ p1.toInt ≤ 3) ∧ ∀ y, r = some y → RwO u h0 p1.toNatClampNeg = some y)) 0 0 (fun _ => False) := by
  refine Met.ofW (cc := cX11_slotAt) (maxL := 2) (ret := (some (.object "BellowsRow$Row"))) (by decide) rfl ?_
  intro p e s m args below meth c s₁ B hml hv
  obtain ⟨rfl, hP, hK⟩ := hv
  have hx := B.exec
  have hb := B.bytes
  have hr := B.returns
  have hts := atoms_spec (ws := wsX11_slotAt) B.pre
  have hown : s.vm.findClass RX11 = some m.cls := findClass_of_methodNamed B.named
  have hlocks := B.notSynchronized
  have i_X11 : ∀ w ∈ wsX110, w ∈ wsX11_slotAt := by decide +kernel
  have hl := lv_entry ([.ref h0, .int p1]) (n := 2) (Nat.le_of_ble_eq_true rfl)
  rw [lg_entry_eq]
  generalize (lg_sl ([.ref h0, .int p1]) ++ List.replicate (2 - (lg_sl ([.ref h0, .int p1])).length) Slot.unset).toArray = ls at hl ⊢
  have hl : lv_has ls 2 [(0, .ref h0), (1, .int p1)] := hl
  refine lv_iload_n hx hb dX11_slotAt_0 rfl (lv_at hl 1 rfl) ?_
  refine lv_if_lt (tgt := 13) hx hb dX11_slotAt_1 (by decide) (fun c1 => ?_) (fun c1 => ?_)
  · refine lv_null hx hb dX11_slotAt_13 ?_
    refine lv_goto (tgt := 23) hx hb dX11_slotAt_14 (by decide) ?_
    exact W.aret (v := .null) hx hb hr (Or.inl ⟨_, rfl⟩) (Or.inl rfl) (fun t ht hW => ⟨none, rfl, ⟨(fun y h => by cases h), (by show p1.toInt < 0 ∨ 3 < p1.toInt; (try simp only [i_lt, i_le, i_eq, Int32.toInt_toInt64, Int32.reduceToInt, Int64.reduceToInt, true_and, and_true, false_and, and_false, false_or, or_false, true_or, or_true, not_true_eq_false, not_false_eq_true, ne_eq, forall_const, true_implies, false_implies, implies_true] at c1 ⊢) <;> omega), fun y h => by cases h⟩, ht⟩) (fun q h => by cases h) dX11_slotAt_23
  · refine lv_iload_n hx hb dX11_slotAt_4 rfl (lv_at hl 1 rfl) ?_
    refine lv_aload_n hx hb dX11_slotAt_5 rfl (lv_at hl 0 rfl) ?_
    refine pget (ci := 11) (v := va_rf (u.2.2.2.2 h0 2)) (C := RX11) (T := TX11) (N := 11) hx hb hts i_X11 hown hK hP m_h0 (cF11 k_h0) rfl 2 (by decide) (hts (.fieldLink RX11 25 "BellowsRow" "slots" "[LBellowsRow$Row;") (by decide +kernel)) (fun _ h9 => h9) rfl dX11_slotAt_6 ?_
    obtain ⟨y2, qy2, m_y2, k_y2⟩ := (hu h0 m_h0).1 2 41 (by rw [k_h0]; rfl)
    refine W.eq (g2 := F0 m 9 ls [.ref y2, .int p1]) (by rw [qy2]; rfl) ?_
    refine palen (v := 4) hx hb hK hP m_y2 (cF41 k_y2) 4 rfl rfl dX11_slotAt_9 ?_
    refine lv_icmp_lt (tgt := 17) hx hb dX11_slotAt_10 (by decide) (fun c3 => ?_) (fun c3 => ?_)
    · refine lv_aload_n hx hb dX11_slotAt_17 rfl (lv_at hl 0 rfl) ?_
      refine pget (ci := 11) (v := va_rf (u.2.2.2.2 h0 2)) (C := RX11) (T := TX11) (N := 11) hx hb hts i_X11 hown hK hP m_h0 (cF11 k_h0) rfl 2 (by decide) (hts (.fieldLink RX11 25 "BellowsRow" "slots" "[LBellowsRow$Row;") (by decide +kernel)) (fun _ h9 => h9) rfl dX11_slotAt_18 ?_
      obtain ⟨y4, qy4, m_y4, k_y4⟩ := (hu h0 m_h0).1 2 41 (by rw [k_h0]; rfl)
      refine W.eq (g2 := F0 m 21 ls [.ref y4]) (by rw [qy4]; rfl) ?_
      refine lv_iload_n hx hb dX11_slotAt_21 rfl (lv_at hl 1 rfl) ?_
      refine palQ hx hb hK hP m_y4 (cF41 k_y4) 4 rfl (vp_in_iff.mpr (by (try simp only [i_lt, i_le, i_eq, Int32.toInt_toInt64, Int32.reduceToInt, Int64.reduceToInt, true_and, and_true, false_and, and_false, false_or, or_false, true_or, or_true, not_true_eq_false, not_false_eq_true, ne_eq, forall_const, true_implies, false_implies, implies_true] at c1 c3 ⊢) <;> omega)) dX11_slotAt_22 ?_
      obtain ⟨y5, qy5, m_y5, k_y5⟩ := (hu y4 m_y4).2.2.1 k_y4 (p1).toNatClampNeg (cl_lt (vp_in_iff.mpr (by (try simp only [i_lt, i_le, i_eq, Int32.toInt_toInt64, Int32.reduceToInt, Int64.reduceToInt, true_and, and_true, false_and, and_false, false_or, or_false, true_or, or_true, not_true_eq_false, not_false_eq_true, ne_eq, forall_const, true_implies, false_implies, implies_true] at c1 c3 ⊢) <;> omega)))
      refine W.eq (g2 := F0 m 23 ls [.ref y5]) (by rw [qy5]; rfl) ?_
      exact W.aret (v := .ref y5) hx hb hr (Or.inl ⟨_, rfl⟩) (Or.inr ⟨_, rfl⟩) (fun t ht hW => ⟨(some y5), rfl, ⟨(fun y h => by cases h; exact ⟨m_y5, k_y5⟩), (by show 0 ≤ p1.toInt ∧ p1.toInt ≤ 3; (try simp only [i_lt, i_le, i_eq, Int32.toInt_toInt64, Int32.reduceToInt, Int64.reduceToInt, true_and, and_true, false_and, and_false, false_or, or_false, true_or, or_true, not_true_eq_false, not_false_eq_true, ne_eq, forall_const, true_implies, false_implies, implies_true] at c1 c3 ⊢) <;> omega), fun y h => by cases h; exact RwO_mk qy4 qy5⟩, ht⟩) (fun q h => by cases h) dX11_slotAt_23
    · refine lv_null hx hb dX11_slotAt_13 ?_
      refine lv_goto (tgt := 23) hx hb dX11_slotAt_14 (by decide) ?_
      exact W.aret (v := .null) hx hb hr (Or.inl ⟨_, rfl⟩) (Or.inl rfl) (fun t ht hW => ⟨none, rfl, ⟨(fun y h => by cases h), (by show p1.toInt < 0 ∨ 3 < p1.toInt; (try simp only [i_lt, i_le, i_eq, Int32.toInt_toInt64, Int32.reduceToInt, Int64.reduceToInt, true_and, and_true, false_and, and_false, false_or, or_false, true_or, or_true, not_true_eq_false, not_false_eq_true, ne_eq, forall_const, true_implies, false_implies, implies_true] at c1 c3 ⊢) <;> omega), fun y h => by cases h⟩, ht⟩) (fun q h => by cases h) dX11_slotAt_23
set_option maxHeartbeats 4000000 in
set_option maxRecDepth 100000 in
theorem t2_X7_begin (l : Launch) (D : va_G) (k : Nat → ClassId) (u0 : PSt) (hu : WT u0) (h0 : Nat) (m_h0 : h0 ∈ u0.1) (k_h0 : u0.2.1 h0 = 7) (p1 : Int32) (g_p1 : 0 ≤ p1.toInt ∧ p1.toInt ≤ 3) (p2 : Int32) (g_p2 : 0 ≤ p2.toInt ∧ p2.toInt ≤ 60) (sz : Nat) : Met l yX7_begin wsX7_begin ({ frames := 1, cells := 0, slots := 0, locals := 17 }) (PreM D k sz (PW k u0) [.ref h0, .int p1, .int p2]) (va_Qv (fun v => WT v ∧ PY u0 v ∧ BG h0 p1 p2 u0 v) (WB D (va_A (PW k u0) sz) (PW k)) (va_A (PW k u0) sz)) 0 0 (va_A (PW k u0) sz) := by
  refine Met.ofW (cc := cX7_begin) (maxL := 4) (ret := none) (by decide) rfl ?_
  intro p e s m args below meth c s₁ B hml hv
  obtain ⟨rfl, hsz, hP, hK, hD0, hN⟩ := hv
  have k0_h0 := k_h0
  have hx := B.exec
  have hb := B.bytes
  have hr := B.returns
  have hts := atoms_spec (ws := wsX7_begin) B.pre
  have hown : s.vm.findClass RX7 = some m.cls := findClass_of_methodNamed B.named
  have hlocks := B.notSynchronized
  have i_X7 : ∀ w ∈ wsX70, w ∈ wsX7_begin := by decide +kernel
  subst hsz
  have hD := hD0.self (sz := s.heap.size)
  generalize hAe : va_A (PW k u0) s.heap.size = A at hD ⊢
  have hA : ∀ q : Nat, s.heap.size ≤ q → A q := fun q h => by rw [← hAe]; exact Or.inr h
  have hS : va_S A s.heap s.heap [] := va_S.rf
  have hp : PY u0 u0 := PY.rf
  have B26 : ∀ (n26 : Nat) (u : PSt) (H : Heap) (locs : List Loc) (ls : Array Slot) (v0 : Nat) (v3 : Int32), WT u → PY u0 u → BG h0 p1 p2 u0 u → va_P D vwCl (PW k u) H → va_D A (PW k u) → va_S A s.heap H locs → (2147483648 - v3.toInt).toNat ≤ n26 → v0 ∈ u.1 → u.2.1 v0 = 7 → 0 ≤ v3.toInt ∧ v3.toInt ≤ 60 → lv_has ls 4 [(0, .ref v0), (3, .int v3)] → W p l e (headSpec wsX7_begin ({ frames := 1, cells := 0, slots := 0, locals := 17 })).room s m ([.ref h0, .int p1, .int p2] : List Value).toArray below meth c H locs 0 0 (MQ below (va_Qv (fun v => WT v ∧ PY u0 v ∧ BG h0 p1 p2 u0 v) (WB D A (PW k)) A) ([.ref h0, .int p1, .int p2] : List Value).toArray s 0 0 A) (F0 m 26 ls []) := by
    intro n26
    induction n26 with
    | zero =>
      intro u H locs ls v0 v3 hu hp hz hP hD hS hn26 m_v0 k_v0 g_v3 hl
      exact absurd hn26 (by have := Int32.toInt_lt v3; have := Int32.le_toInt v3; omega)
    | succ n26 ih26 =>
      intro u H locs ls v0 v3 hu hp hz hP hD hS hn26 m_v0 k_v0 g_v3 hl
      refine lv_iload_n hx hb dX7_begin_26 rfl (lv_at hl 1 rfl) ?_
      refine lv_aload_n hx hb dX7_begin_27 rfl (lv_at hl 0 rfl) ?_
      refine pget (ci := 7) (v := va_rf (u.2.2.2.2 v0 3)) (C := RX7) (T := TX7) (N := 4) hx hb hts i_X7 hown hK hP m_v0 (cF7 k_v0) rfl 3 (by decide) (hts (.fieldLink RX7 22 "BellowsRow$Row" "numbers" "[J") (by decide +kernel)) (fun _ h9 => h9) rfl dX7_begin_28 ?_
      obtain ⟨y1, qy1, m_y1, k_y1⟩ := (hu v0 m_v0).1 3 30 (by rw [k_v0]; rfl)
      refine W.eq (g2 := F0 m 31 ls [.ref y1, .int v3]) (by rw [qy1]; rfl) ?_
      refine palen (v := 60) hx hb hK hP m_y1 (cF30 k_y1) 2 rfl rfl dX7_begin_31 ?_
      refine lv_icmp_ge (tgt := 48) hx hb dX7_begin_32 (by decide) (fun c2 => ?_) (fun c2 => ?_)
      · exact W.vret hx hb hr (fun t ht hW => ⟨⟨u, rfl, ⟨hu, hp, hz⟩, by rw [ht]; exact hP, hD⟩, hS.F ht⟩) hS.2.2 dX7_begin_48
      · refine lv_aload_n hx hb dX7_begin_35 rfl (lv_at hl 0 rfl) ?_
        refine pget (ci := 7) (v := va_rf (u.2.2.2.2 v0 3)) (C := RX7) (T := TX7) (N := 4) hx hb hts i_X7 hown hK hP m_v0 (cF7 k_v0) rfl 3 (by decide) (hts (.fieldLink RX7 22 "BellowsRow$Row" "numbers" "[J") (by decide +kernel)) (fun _ h9 => h9) rfl dX7_begin_36 ?_
        obtain ⟨y3, qy3, m_y3, k_y3⟩ := (hu v0 m_v0).1 3 30 (by rw [k_v0]; rfl)
        refine W.eq (g2 := F0 m 39 ls [.ref y3]) (by rw [qy3]; rfl) ?_
        refine lv_iload_n hx hb dX7_begin_39 rfl (lv_at hl 1 rfl) ?_
        refine lv_lconst (v := 0) hx hb dX7_begin_40 (by decide) ?_
        refine pasJ (u' := pSJ u y3 (v3).toNatClampNeg 0) hx hb hK hP hD hS m_y3 (cF30 k_y3) 2 rfl (vp_in_iff.mpr (by (try simp only [i_lt, i_le, i_eq, Int32.toInt_toInt64, Int32.reduceToInt, Int64.reduceToInt, true_and, and_true, false_and, and_false, false_or, or_false, true_or, or_true, not_true_eq_false, not_false_eq_true, ne_eq, forall_const, true_implies, false_implies, implies_true] at g_v3 hn26 c2 ⊢) <;> omega)) rfl (sF30 k_y3 _ _) dX7_begin_41 (fun H locs hP hD hS => ?_)
        have hu := WT.setJ (a := y3) (s := (v3).toNatClampNeg) (v := 0) hu
        have hp := PY.setJ (a := y3) (s := (v3).toNatClampNeg) (v := 0) hp
        have hz : BG h0 p1 p2 u0 (pSJ u y3 (v3).toNatClampNeg 0) := hz
        obtain ⟨u4, hu4⟩ : ∃ z, z = pSJ u y3 (v3).toNatClampNeg 0 := ⟨_, rfl⟩
        rw [← hu4] at hP hD hu hp hz
        have m_v0 : v0 ∈ u4.1 := by rw [hu4]; exact m_v0
        have k_v0 : u4.2.1 v0 = 7 := by rw [hu4]; exact k_v0
        obtain ⟨x5, ex5⟩ : ∃ y : Int32, y = v3 + 1 := ⟨_, rfl⟩
        have tx5 : x5.toInt = v3.toInt + 1 := by rw [ex5]; exact i_add (b := 1) (by (try simp only [i_lt, i_le, i_eq, Int32.toInt_toInt64, Int32.reduceToInt, Int64.reduceToInt, true_and, and_true, false_and, and_false, false_or, or_false, true_or, or_true, not_true_eq_false, not_false_eq_true, ne_eq, forall_const, true_implies, false_implies, implies_true] at g_v3 hn26 c2 ⊢) <;> omega) (by (try simp only [i_lt, i_le, i_eq, Int32.toInt_toInt64, Int32.reduceToInt, Int64.reduceToInt, true_and, and_true, false_and, and_false, false_or, or_false, true_or, or_true, not_true_eq_false, not_false_eq_true, ne_eq, forall_const, true_implies, false_implies, implies_true] at g_v3 hn26 c2 ⊢) <;> omega)
        refine lv_iinc (v := x5) (lv' := [(3, .int x5), (0, .ref v0)]) hx hb dX7_begin_42 hl (k := 1) rfl (by rw [ex5]; rfl) (by decide) rfl (fun ls hl => ?_)
        refine lv_goto (tgt := 26) hx hb dX7_begin_45 (by decide) ?_
        exact ih26 _ _ _ ls v0 x5 hu hp hz hP hD hS (by (try simp only [i_lt, i_le, i_eq, Int32.toInt_toInt64, Int32.reduceToInt, Int64.reduceToInt, true_and, and_true, false_and, and_false, false_or, or_false, true_or, or_true, not_true_eq_false, not_false_eq_true, ne_eq, forall_const, true_implies, false_implies, implies_true] at g_v3 hn26 c2 tx5 ⊢) <;> omega) m_v0 k_v0 (by (try simp only [i_lt, i_le, i_eq, Int32.toInt_toInt64, Int32.reduceToInt, Int64.reduceToInt, true_and, and_true, false_and, and_false, false_or, or_false, true_or, or_true, not_true_eq_false, not_false_eq_true, ne_eq, forall_const, true_implies, false_implies, implies_true] at g_v3 hn26 c2 tx5 ⊢) <;> omega) (lv_sub hl [1, 0] rfl)
  have hl := lv_entry ([.ref h0, .int p1, .int p2]) (n := 4) (Nat.le_of_ble_eq_true rfl)
  rw [lg_entry_eq]
  generalize (lg_sl ([.ref h0, .int p1, .int p2]) ++ List.replicate (4 - (lg_sl ([.ref h0, .int p1, .int p2])).length) Slot.unset).toArray = ls at hl ⊢
  have hl : lv_has ls 4 [(0, .ref h0), (1, .int p1), (2, .int p2)] := hl
  refine lv_aload_n hx hb dX7_begin_0 rfl (lv_at hl 0 rfl) ?_
  refine lv_iconst (v := 1) hx hb dX7_begin_1 (by decide) ?_
  refine pput (u' := pSI u0 h0 0 1) (ci := 7) (v := .int 1) (ty := .boolean) (C := RX7) (T := TX7) (N := 4) hx hb hts i_X7 tyX7 tyX7_ok nmX7 hown hK hP hD hS m_h0 (cF7 k_h0) rfl 0 (by decide) (hts (.fieldLink RX7 9 "BellowsRow$Row" "is" "Z") (by decide +kernel)) (fun _ h9 => h9) rfl (by decide +kernel) rfl rfl (Nat.le_of_ble_eq_true rfl) rfl (sF7_0 k_h0 1) dX7_begin_2 (fun H locs hP hD hS => ?_)
  have hu := WT.setI (a := h0) (s := 0) (v := 1) hu (by rw [k_h0]; exact (show 0 ≤ (1 : Int32).toInt ∧ (1 : Int32).toInt ≤ 1 from by decide))
  have hp := PY.setI (a := h0) (s := 0) (v := 1) hp
  obtain ⟨u6, hu6⟩ : ∃ z, z = pSI u0 h0 0 1 := ⟨_, rfl⟩
  rw [← hu6] at hP hD hu hp
  have m_h0 : h0 ∈ u6.1 := by rw [hu6]; exact m_h0
  have k_h0 : u6.2.1 h0 = 7 := by rw [hu6]; exact k_h0
  refine lv_aload_n hx hb dX7_begin_5 rfl (lv_at hl 0 rfl) ?_
  refine lv_iload_n hx hb dX7_begin_6 rfl (lv_at hl 1 rfl) ?_
  refine pput (u' := pSI u6 h0 1 p1) (ci := 7) (v := .int p1) (ty := .int) (C := RX7) (T := TX7) (N := 4) hx hb hts i_X7 tyX7 tyX7_ok nmX7 hown hK hP hD hS m_h0 (cF7 k_h0) rfl 1 (by decide) (hts (.fieldLink RX7 15 "BellowsRow$Row" "width" "I") (by decide +kernel)) (fun _ h9 => h9) rfl (by decide +kernel) rfl rfl (Nat.le_of_ble_eq_true rfl) rfl (sF7_1 k_h0 p1) dX7_begin_7 (fun H locs hP hD hS => ?_)
  have hu := WT.setI (a := h0) (s := 1) (v := p1) hu (by rw [k_h0]; exact (show 0 ≤ p1.toInt ∧ p1.toInt ≤ 3 from by (try simp only [i_lt, i_le, i_eq, Int32.toInt_toInt64, Int32.reduceToInt, Int64.reduceToInt, true_and, and_true, false_and, and_false, false_or, or_false, true_or, or_true, not_true_eq_false, not_false_eq_true, ne_eq, forall_const, true_implies, false_implies, implies_true] at g_p1 g_p2 ⊢) <;> omega))
  have hp := PY.setI (a := h0) (s := 1) (v := p1) hp
  obtain ⟨u7, hu7⟩ : ∃ z, z = pSI u6 h0 1 p1 := ⟨_, rfl⟩
  rw [← hu7] at hP hD hu hp
  have m_h0 : h0 ∈ u7.1 := by rw [hu7]; exact m_h0
  have k_h0 : u7.2.1 h0 = 7 := by rw [hu7]; exact k_h0
  refine lv_aload_n hx hb dX7_begin_10 rfl (lv_at hl 0 rfl) ?_
  refine lv_iconst (v := 0) hx hb dX7_begin_11 (by decide) ?_
  refine lv_iload_n hx hb dX7_begin_12 rfl (lv_at hl 2 rfl) ?_
  refine lv_bipush (v := 60) hx hb dX7_begin_13 (by decide) ?_
  refine va_mmin hx hb (hml.trans hl.1.symm) hown (hts (.methodLink RX7 26 Lib.Math.min.name) (by decide +kernel)) (hts (.static Lib.Math.min.name) (by decide +kernel)) (hts (.initialized "java/lang/Math") (by decide +kernel)) (hts (.code Lib.Math.min.name Lib.Math.min.code 2 (some .int)) (by decide +kernel)) (Nat.le_of_ble_eq_true rfl) (Nat.le_of_ble_eq_true rfl) (Nat.le_of_ble_eq_true rfl) (Nat.le_of_ble_eq_true rfl) dX7_begin_15 ?_
  refine lv_topi (fun x8 ex8 => ?_)
  have tx8 : x8.toInt ≤ p2.toInt ∧ x8.toInt ≤ (60 : Int32).toInt ∧ (x8.toInt = p2.toInt ∨ x8.toInt = (60 : Int32).toInt) := by rw [ex8]; exact i_min
  refine va_mmax hx hb (hml.trans hl.1.symm) hown (hts (.methodLink RX7 32 Lib.Math.max.name) (by decide +kernel)) (hts (.static Lib.Math.max.name) (by decide +kernel)) (hts (.initialized "java/lang/Math") (by decide +kernel)) (hts (.code Lib.Math.max.name Lib.Math.max.code 2 (some .int)) (by decide +kernel)) (Nat.le_of_ble_eq_true rfl) (Nat.le_of_ble_eq_true rfl) (Nat.le_of_ble_eq_true rfl) (Nat.le_of_ble_eq_true rfl) dX7_begin_18 ?_
  refine lv_topi (fun x9 ex9 => ?_)
  have tx9 : (0 : Int32).toInt ≤ x9.toInt ∧ x8.toInt ≤ x9.toInt ∧ (x9.toInt = (0 : Int32).toInt ∨ x9.toInt = x8.toInt) := by rw [ex9]; exact i_max
  refine pput (u' := pSI u7 h0 2 x9) (ci := 7) (v := .int x9) (ty := .int) (C := RX7) (T := TX7) (N := 4) hx hb hts i_X7 tyX7 tyX7_ok nmX7 hown hK hP hD hS m_h0 (cF7 k_h0) rfl 2 (by decide) (hts (.fieldLink RX7 19 "BellowsRow$Row" "size" "I") (by decide +kernel)) (fun _ h9 => h9) rfl (by decide +kernel) rfl rfl (Nat.le_of_ble_eq_true rfl) rfl (sF7_2 k_h0 x9) dX7_begin_21 (fun H locs hP hD hS => ?_)
  have hu := WT.setI (a := h0) (s := 2) (v := x9) hu (by rw [k_h0]; exact (show 0 ≤ x9.toInt ∧ x9.toInt ≤ 60 from by (try simp only [i_lt, i_le, i_eq, Int32.toInt_toInt64, Int32.reduceToInt, Int64.reduceToInt, true_and, and_true, false_and, and_false, false_or, or_false, true_or, or_true, not_true_eq_false, not_false_eq_true, ne_eq, forall_const, true_implies, false_implies, implies_true] at g_p1 g_p2 tx8 tx9 ⊢) <;> omega))
  have hp := PY.setI (a := h0) (s := 2) (v := x9) hp
  obtain ⟨u10, hu10⟩ : ∃ z, z = pSI u7 h0 2 x9 := ⟨_, rfl⟩
  rw [← hu10] at hP hD hu hp
  have m_h0 : h0 ∈ u10.1 := by rw [hu10]; exact m_h0
  have k_h0 : u10.2.1 h0 = 7 := by rw [hu10]; exact k_h0
  refine lv_iconst (v := 0) hx hb dX7_begin_24 (by decide) ?_
  refine lv_istore_n (lv' := [(3, .int 0), (0, .ref h0), (1, .int p1), (2, .int p2)]) hx hb dX7_begin_25 rfl hl (by decide) rfl (fun ls hl => ?_)
  have e9 : x9 = p2 := Int32.toInt_inj.mp (by ((try simp only [i_lt, i_le, i_eq, Int32.toInt_toInt64, Int32.reduceToInt, Int64.reduceToInt, true_and, and_true, false_and, and_false, false_or, or_false, true_or, or_true, not_true_eq_false, not_false_eq_true, ne_eq, forall_const, true_implies, false_implies, implies_true] at g_p1 g_p2 tx8 tx9 ⊢) <;> omega))
  exact B26 _ _ _ _ ls h0 0 hu hp (by rw [hu10, hu7, hu6, e9]; exact BG_mk k0_h0) hP hD hS (Nat.le_refl _) m_h0 k_h0 (by (try simp only [i_lt, i_le, i_eq, Int32.toInt_toInt64, Int32.reduceToInt, Int64.reduceToInt, true_and, and_true, false_and, and_false, false_or, or_false, true_or, or_true, not_true_eq_false, not_false_eq_true, ne_eq, forall_const, true_implies, false_implies, implies_true] at g_p1 g_p2 tx8 tx9 ⊢) <;> omega) (lv_sub hl [1, 0] rfl)
set_option maxHeartbeats 4000000 in
set_option maxRecDepth 100000 in
theorem t2_X7_set (l : Launch) (D : va_G) (k : Nat → ClassId) (u0 : PSt) (hu : WT u0) (h0 : Nat) (m_h0 : h0 ∈ u0.1) (k_h0 : u0.2.1 h0 = 7) (p1 : Int32) (p2 : Int64) (sz : Nat) : Met l yX7_set wsX7_set ({ frames := 1, cells := 0, slots := 0, locals := 22 }) (PreM D k sz (PW k u0) [.ref h0, .int p1, .long p2]) (va_Qv (fun v => WT v ∧ PX u0 v ∧ True) (WB D (va_A (PW k u0) sz) (PW k)) (va_A (PW k u0) sz)) 0 0 (va_A (PW k u0) sz) := by
  refine Met.ofW (cc := cX7_set) (maxL := 4) (ret := none) (by decide) rfl ?_
  intro p e s m args below meth c s₁ B hml hv
  obtain ⟨rfl, hsz, hP, hK, hD0, hN⟩ := hv
  have hx := B.exec
  have hb := B.bytes
  have hr := B.returns
  have hts := atoms_spec (ws := wsX7_set) B.pre
  have hown : s.vm.findClass RX7 = some m.cls := findClass_of_methodNamed B.named
  have hlocks := B.notSynchronized
  have i_X7 : ∀ w ∈ wsX70, w ∈ wsX7_set := by decide +kernel
  subst hsz
  have hD := hD0.self (sz := s.heap.size)
  generalize hAe : va_A (PW k u0) s.heap.size = A at hD ⊢
  have hA : ∀ q : Nat, s.heap.size ≤ q → A q := fun q h => by rw [← hAe]; exact Or.inr h
  have hS : va_S A s.heap s.heap [] := va_S.rf
  have hp : PX u0 u0 := PX.rf
  have B21 : ∀ (u : PSt) (H : Heap) (locs : List Loc) (ls : Array Slot), WT u → PX u0 u → va_P D vwCl (PW k u) H → va_D A (PW k u) → va_S A s.heap H locs → lv_has ls 4 [] → W p l e (headSpec wsX7_set ({ frames := 1, cells := 0, slots := 0, locals := 22 })).room s m ([.ref h0, .int p1, .long p2] : List Value).toArray below meth c H locs 0 0 (MQ below (va_Qv (fun v => WT v ∧ PX u0 v ∧ True) (WB D A (PW k)) A) ([.ref h0, .int p1, .long p2] : List Value).toArray s 0 0 A) (F0 m 21 ls []) := by
    intro u H locs ls  hu hp hP hD hS  hl
    exact W.vret hx hb hr (fun t ht hW => ⟨⟨u, rfl, ⟨hu, hp, trivial⟩, by rw [ht]; exact hP, hD⟩, hS.F ht⟩) hS.2.2 dX7_set_21
  have hl := lv_entry ([.ref h0, .int p1, .long p2]) (n := 4) (Nat.le_of_ble_eq_true rfl)
  rw [lg_entry_eq]
  generalize (lg_sl ([.ref h0, .int p1, .long p2]) ++ List.replicate (4 - (lg_sl ([.ref h0, .int p1, .long p2])).length) Slot.unset).toArray = ls at hl ⊢
  have hl : lv_has ls 4 [(0, .ref h0), (1, .int p1), (2, .long p2)] := hl
  refine lv_iload_n hx hb dX7_set_0 rfl (lv_at hl 1 rfl) ?_
  refine lv_if_lt (tgt := 21) hx hb dX7_set_1 (by decide) (fun c1 => ?_) (fun c1 => ?_)
  · exact B21 _ _ _ ls hu hp hP hD hS (lv_sub hl [] rfl)
  · refine lv_iload_n hx hb dX7_set_4 rfl (lv_at hl 1 rfl) ?_
    refine lv_bipush (v := 60) hx hb dX7_set_5 (by decide) ?_
    refine lv_icmp_ge (tgt := 21) hx hb dX7_set_7 (by decide) (fun c2 => ?_) (fun c2 => ?_)
    · exact B21 _ _ _ ls hu hp hP hD hS (lv_sub hl [] rfl)
    · refine lv_aload_n hx hb dX7_set_10 rfl (lv_at hl 0 rfl) ?_
      refine pget (ci := 7) (v := va_rf (u0.2.2.2.2 h0 3)) (C := RX7) (T := TX7) (N := 4) hx hb hts i_X7 hown hK hP m_h0 (cF7 k_h0) rfl 3 (by decide) (hts (.fieldLink RX7 22 "BellowsRow$Row" "numbers" "[J") (by decide +kernel)) (fun _ h9 => h9) rfl dX7_set_11 ?_
      obtain ⟨y3, qy3, m_y3, k_y3⟩ := (hu h0 m_h0).1 3 30 (by rw [k_h0]; rfl)
      refine W.eq (g2 := F0 m 14 ls [.ref y3]) (by rw [qy3]; rfl) ?_
      refine lv_iload_n hx hb dX7_set_14 rfl (lv_at hl 1 rfl) ?_
      refine lv_aload_n hx hb dX7_set_15 rfl (lv_at hl 0 rfl) ?_
      refine lv_lload_n hx hb dX7_set_16 rfl (lv_at hl 2 rfl) ?_
      refine rvl (C := RX7) (As := [.long p2]) (rest := [.int p1, .ref y3]) ⟨hx, hb, hml, hown, hts⟩ (t_X7_cut l D k u0 hu h0 m_h0 k_h0 p2) (cwV 1 hts gX7_set_X7_cut rfl rfl rfl (by decide +kernel) ⟨Nat.le_of_ble_eq_true rfl, Nat.le_of_ble_eq_true rfl⟩) hP hK (precv hK hP m_h0 (cF7 k_h0) rfl) rfl hl.1 rfl (Nat.le_of_ble_eq_true rfl) dX7_set_17 ⟨Nat.le_of_ble_eq_true rfl, Nat.le_of_ble_eq_true rfl⟩ (fun r4 hr4 => ?_)
      refine pasJ (u' := pSJ u0 y3 (p1).toNatClampNeg r4) hx hb hK hP hD hS m_y3 (cF30 k_y3) 2 rfl (vp_in_iff.mpr (by (try simp only [i_lt, i_le, i_eq, Int32.toInt_toInt64, Int32.reduceToInt, Int64.reduceToInt, true_and, and_true, false_and, and_false, false_or, or_false, true_or, or_true, not_true_eq_false, not_false_eq_true, ne_eq, forall_const, true_implies, false_implies, implies_true] at c1 c2 ⊢) <;> omega)) rfl (sF30 k_y3 _ _) dX7_set_20 (fun H locs hP hD hS => ?_)
      have hu := WT.setJ (a := y3) (s := (p1).toNatClampNeg) (v := r4) hu
      have hp := PX.setJ (a := y3) (s := (p1).toNatClampNeg) (v := r4) hp
      obtain ⟨u5, hu5⟩ : ∃ z, z = pSJ u0 y3 (p1).toNatClampNeg r4 := ⟨_, rfl⟩
      rw [← hu5] at hP hD hu hp
      have m_h0 : h0 ∈ u5.1 := by rw [hu5]; exact m_h0
      have k_h0 : u5.2.1 h0 = 7 := by rw [hu5]; exact k_h0
      exact B21 _ _ _ ls hu hp hP hD hS (lv_sub hl [] rfl)
set_option maxHeartbeats 4000000 in
set_option maxRecDepth 100000 in
theorem t2_X7_hasSpan (l : Launch) (D : va_G) (k : Nat → ClassId) (u : PSt) (hu : WT u) (h0 : Nat) (m_h0 : h0 ∈ u.1) (k_h0 : u.2.1 h0 = 7) (p1 : Int32) (p2 : Int32) : Met l yX7_hasSpan wsX7_hasSpan ({ frames := 0, cells := 0, slots := 0, locals := 0 }) (PreR D k (PW k u) [.ref h0, .int p1, .int p2]) (vp_Si (fun r => (r.toInt = 0 ∧ (p1.toInt < 0 ∨ p2.toInt < 0 ∨ (u.2.2.1 h0 2).toInt < p1.toInt + p2.toInt)) ∨ (r.toInt = 1 ∧ 0 ≤ p1.toInt ∧ 0 ≤ p2.toInt ∧ p1.toInt + p2.toInt ≤ (u.2.2.1 h0 2).toInt))) 0 0 (fun _ => False) := by
  refine Met.ofW (cc := cX7_hasSpan) (maxL := 3) (ret := (some .boolean)) (by decide) rfl ?_
  intro p e s m args below meth c s₁ B hml hv
  obtain ⟨rfl, hP, hK⟩ := hv
  have hx := B.exec
  have hb := B.bytes
  have hr := B.returns
  have hts := atoms_spec (ws := wsX7_hasSpan) B.pre
  have hown : s.vm.findClass RX7 = some m.cls := findClass_of_methodNamed B.named
  have hlocks := B.notSynchronized
  have i_X7 : ∀ w ∈ wsX70, w ∈ wsX7_hasSpan := by decide +kernel
  have hl := lv_entry ([.ref h0, .int p1, .int p2]) (n := 3) (Nat.le_of_ble_eq_true rfl)
  rw [lg_entry_eq]
  generalize (lg_sl ([.ref h0, .int p1, .int p2]) ++ List.replicate (3 - (lg_sl ([.ref h0, .int p1, .int p2])).length) Slot.unset).toArray = ls at hl ⊢
  have hl : lv_has ls 3 [(0, .ref h0), (1, .int p1), (2, .int p2)] := hl
  have no : (p1.toInt < 0 ∨ p2.toInt < 0 ∨ (u.2.2.1 h0 2).toInt < p1.toInt + p2.toInt) → W p l e (headSpec wsX7_hasSpan ({ frames := 0, cells := 0, slots := 0, locals := 0 })).room s m ([.ref h0, .int p1, .int p2] : List Value).toArray below meth c s.heap [] 0 0 (MQ below (vp_Si (fun r => (r.toInt = 0 ∧ (p1.toInt < 0 ∨ p2.toInt < 0 ∨ (u.2.2.1 h0 2).toInt < p1.toInt + p2.toInt)) ∨ (r.toInt = 1 ∧ 0 ≤ p1.toInt ∧ 0 ≤ p2.toInt ∧ p1.toInt + p2.toInt ≤ (u.2.2.1 h0 2).toInt))) ([.ref h0, .int p1, .int p2] : List Value).toArray s 0 0 (fun _ => False)) (F0 m 26 ls []) := by
    intro hno
    refine lv_iconst (v := 0) hx hb dX7_hasSpan_26 (by decide) ?_
    exact W.zret (v := 0) hx hb hr rfl (fun t ht hW => ⟨0, rfl, Or.inl ⟨rfl, hno⟩, ht⟩) (fun q h => by cases h) dX7_hasSpan_27
  refine lv_iload_n hx hb dX7_hasSpan_0 rfl (lv_at hl 1 rfl) ?_
  refine lv_if_lt (tgt := 26) hx hb dX7_hasSpan_1 (by decide) (fun c => no (Or.inl (by rw [i_lt] at c; exact c))) (fun c1 => ?_)
  refine lv_iload_n hx hb dX7_hasSpan_4 rfl (lv_at hl 2 rfl) ?_
  refine lv_if_lt (tgt := 26) hx hb dX7_hasSpan_5 (by decide) (fun c => no (Or.inr (Or.inl (by rw [i_lt] at c; exact c)))) (fun c2 => ?_)
  rw [i_lt] at c1 c2
  have c1 : ¬ p1.toInt < 0 := c1
  have c2 : ¬ p2.toInt < 0 := c2
  refine lv_iload_n hx hb dX7_hasSpan_8 rfl (lv_at hl 1 rfl) ?_
  refine lv_i2l hx hb dX7_hasSpan_9 rfl ?_
  refine lv_iload_n hx hb dX7_hasSpan_10 rfl (lv_at hl 2 rfl) ?_
  refine lv_i2l hx hb dX7_hasSpan_11 rfl ?_
  refine lv_ladd hx hb dX7_hasSpan_12 ?_
  refine lv_topl (fun x ex => ?_)
  have b1 := Int32.toInt_lt p1
  have b2 := Int32.toInt_lt p2
  have tx : x.toInt = p1.toInt + p2.toInt := by
    rw [ex, Int64.toInt_add, Int32.toInt_toInt64, Int32.toInt_toInt64]
    exact Int.bmod_eq_of_le (by omega) (by omega)
  refine lv_aload_n hx hb dX7_hasSpan_13 rfl (lv_at hl 0 rfl) ?_
  refine pget (ci := 7) (v := .int (u.2.2.1 h0 2)) (C := RX7) (T := TX7) (N := 4) hx hb hts i_X7 hown hK hP m_h0 (cF7 k_h0) rfl 2 (by decide) (hts (.fieldLink RX7 19 "BellowsRow$Row" "size" "I") (by decide +kernel)) (fun _ h9 => h9) rfl dX7_hasSpan_14 ?_
  refine lv_i2l hx hb dX7_hasSpan_17 rfl ?_
  refine W.lcmp hx hb dX7_hasSpan_18 ?_
  refine lv_if_gt (tgt := 26) hx hb dX7_hasSpan_19 (by decide) (fun c3 => no (Or.inr (Or.inr (by simp only [lg_cmp_lt, lg_cmp_gt, lg_cmp_le, lg_cmp_ge, Int64.lt_iff_toInt_lt, Int64.le_iff_toInt_le, Int32.toInt_toInt64] at c3; omega)))) (fun c3 => ?_)
  simp only [lg_cmp_lt, lg_cmp_gt, lg_cmp_le, lg_cmp_ge, Int64.lt_iff_toInt_lt, Int64.le_iff_toInt_le, Int32.toInt_toInt64] at c3
  refine lv_iconst (v := 1) hx hb dX7_hasSpan_22 (by decide) ?_
  refine lv_goto (tgt := 27) hx hb dX7_hasSpan_23 (by decide) ?_
  exact W.zret (v := 1) hx hb hr rfl (fun t ht hW => ⟨1, rfl, Or.inr ⟨rfl, by omega, by omega, by omega⟩, ht⟩) (fun q h => by cases h) dX7_hasSpan_27
set_option maxHeartbeats 4000000 in
set_option maxRecDepth 100000 in
theorem t2_X11_row (l : Launch) (D : va_G) (k : Nat → ClassId) (u0 : PSt) (hu : WT u0) (h0 : Nat) (m_h0 : h0 ∈ u0.1) (k_h0 : u0.2.1 h0 = 11) (p1 : Int32) (p2 : Int32) (p3 : Int32) (sz : Nat) : Met l yX11_row wsX11_row ({ frames := 2, cells := 0, slots := 0, locals := 40 }) (PreM D k sz (PW k u0) [.ref h0, .int p1, .int p2, .int p3]) (va_Qi (fun r v => WT v ∧ PY u0 v ∧ ((((p1.toInt < 0 ∨ 3 < p1.toInt ∨ p2.toInt < 0 ∨ 3 < p2.toInt ∨ 60 < p3.toInt) ∧ r.toInt = -2) ∨ (0 ≤ p1.toInt ∧ p1.toInt ≤ 3 ∧ 0 ≤ p2.toInt ∧ p2.toInt ≤ 3 ∧ p3.toInt ≤ 60 ∧ p3.toInt < 0 ∧ r.toInt = -3) ∨ (0 ≤ p1.toInt ∧ p1.toInt ≤ 3 ∧ 0 ≤ p2.toInt ∧ p2.toInt ≤ 3 ∧ 0 ≤ p3.toInt ∧ p3.toInt ≤ 60 ∧ r.toInt = 0)) ∧ (r.toInt ≠ 0 → v = u0) ∧ (r.toInt = 0 → ∃ y, RwO u0 h0 p1.toNatClampNeg = some y ∧ BG y p2 p3 u0 v))) (WB D (va_A (PW k u0) sz) (PW k)) (va_A (PW k u0) sz)) 0 0 (va_A (PW k u0) sz) := by
  refine Met.ofW (cc := cX11_row) (maxL := 5) (ret := (some .int)) (by decide) rfl ?_
  intro p e s m args below meth c s₁ B hml hv
  obtain ⟨rfl, hsz, hP, hK, hD0, hN⟩ := hv
  have hx := B.exec
  have hb := B.bytes
  have hr := B.returns
  have hts := atoms_spec (ws := wsX11_row) B.pre
  have hown : s.vm.findClass RX11 = some m.cls := findClass_of_methodNamed B.named
  have hlocks := B.notSynchronized
  subst hsz
  have hD := hD0.self (sz := s.heap.size)
  generalize hAe : va_A (PW k u0) s.heap.size = A at hD ⊢
  have hA : ∀ q : Nat, s.heap.size ≤ q → A q := fun q h => by rw [← hAe]; exact Or.inr h
  have hS : va_S A s.heap s.heap [] := va_S.rf
  have hp : PY u0 u0 := PY.rf
  have hl := lv_entry ([.ref h0, .int p1, .int p2, .int p3]) (n := 5) (Nat.le_of_ble_eq_true rfl)
  rw [lg_entry_eq]
  generalize (lg_sl ([.ref h0, .int p1, .int p2, .int p3]) ++ List.replicate (5 - (lg_sl ([.ref h0, .int p1, .int p2, .int p3])).length) Slot.unset).toArray = ls at hl ⊢
  have hl : lv_has ls 5 [(0, .ref h0), (1, .int p1), (2, .int p2), (3, .int p3)] := hl
  refine lv_aload_n hx hb dX11_row_0 rfl (lv_at hl 0 rfl) ?_
  refine lv_iload_n hx hb dX11_row_1 rfl (lv_at hl 1 rfl) ?_
  refine rvq (C := RX11) (As := [.int p1]) (rest := []) ⟨hx, hb, hml, hown, hts⟩ (t2_X11_slotAt l D k u0 hu h0 m_h0 k_h0 p1) (cwV 1 hts gX11_row_X11_slotAt rfl rfl rfl (by decide +kernel) ⟨Nat.le_of_ble_eq_true rfl, Nat.le_of_ble_eq_true rfl⟩) hP hK (precv hK hP m_h0 (cF11 k_h0) rfl) rfl hl.1 rfl (Nat.le_of_ble_eq_true rfl) dX11_row_2 ⟨Nat.le_of_ble_eq_true rfl, Nat.le_of_ble_eq_true rfl⟩ (fun r1 hr1 => ?_)
  have o_r1 := hr1.1
  have z_r1 := hr1.2.1
  rcases hqy2 : r1 with _ | y2
  · have f3 : p1.toInt < 0 ∨ 3 < p1.toInt := by have z := z_r1; rw [hqy2] at z; exact z
    have hl : lv_has ls 5 [(0, .ref h0), (1, .int p1), (2, .int p2), (3, .int p3)] := by first | exact hl | (rw [hqy2] at hl; exact hl)
    refine W.eq (g2 := F0 m 5 ls [.null]) (by first | rfl | (rw [hqy2]; rfl)) ?_
    refine lv_astoreN (lv' := [(4, .null), (0, .ref h0), (1, .int p1), (2, .int p2), (3, .int p3)]) hx hb dX11_row_5 hl (by decide) rfl (fun ls hl => ?_)
    refine lv_aloadN hx hb dX11_row_7 (lv_at hl 0 rfl) ?_
    refine lv_ifnullN (tgt := 27) hx hb dX11_row_9 (by decide) ?_
    refine lv_bipush (v := (-2)) hx hb dX11_row_27 (by decide) ?_
    exact W.iret (v := (-2)) hx hb hr (fun t ht hW => ⟨⟨(-2), u0, rfl, ⟨hu, hp, (show ((p1.toInt < 0 ∨ 3 < p1.toInt ∨ p2.toInt < 0 ∨ 3 < p2.toInt ∨ 60 < p3.toInt) ∧ (-2 : Int) = -2) ∨ (0 ≤ p1.toInt ∧ p1.toInt ≤ 3 ∧ 0 ≤ p2.toInt ∧ p2.toInt ≤ 3 ∧ p3.toInt ≤ 60 ∧ p3.toInt < 0 ∧ (-2 : Int) = -3) ∨ (0 ≤ p1.toInt ∧ p1.toInt ≤ 3 ∧ 0 ≤ p2.toInt ∧ p2.toInt ≤ 3 ∧ 0 ≤ p3.toInt ∧ p3.toInt ≤ 60 ∧ (-2 : Int) = 0) from by (try simp only [i_lt, i_le, i_eq, Int32.toInt_toInt64, Int32.reduceToInt, Int64.reduceToInt, true_and, and_true, false_and, and_false, false_or, or_false, true_or, or_true, not_true_eq_false, not_false_eq_true, ne_eq, forall_const, true_implies, false_implies, implies_true] at f3 ⊢) <;> omega), ⟨fun _ => rfl, fun h => absurd h (by decide)⟩⟩, by rw [ht]; exact hP, hD⟩, hS.F ht⟩) hS.2.2 dX11_row_29
  · have f4 : 0 ≤ p1.toInt ∧ p1.toInt ≤ 3 := by have z := z_r1; rw [hqy2] at z; exact z
    obtain ⟨m_y2, k_y2⟩ := o_r1 y2 hqy2
    have n_y2 := (hr1.2.2) y2 hqy2
    have hl : lv_has ls 5 [(0, .ref h0), (1, .int p1), (2, .int p2), (3, .int p3)] := by first | exact hl | (rw [hqy2] at hl; exact hl)
    refine W.eq (g2 := F0 m 5 ls [.ref y2]) (by first | rfl | (rw [hqy2]; rfl)) ?_
    refine lv_astore (lv' := [(4, .ref y2), (0, .ref h0), (1, .int p1), (2, .int p2), (3, .int p3)]) hx hb dX11_row_5 hl (by decide) rfl (fun ls hl => ?_)
    refine lv_aload hx hb dX11_row_7 (lv_at hl 0 rfl) ?_
    refine lv_ifnull hx hb dX11_row_9 ?_
    refine lv_iload_n hx hb dX11_row_12 rfl (lv_at hl 3 rfl) ?_
    refine lv_if_lt (tgt := 27) hx hb dX11_row_13 (by decide) (fun c5 => ?_) (fun c5 => ?_)
    · refine lv_bipush (v := (-2)) hx hb dX11_row_27 (by decide) ?_
      exact W.iret (v := (-2)) hx hb hr (fun t ht hW => ⟨⟨(-2), u0, rfl, ⟨hu, hp, (show ((p1.toInt < 0 ∨ 3 < p1.toInt ∨ p2.toInt < 0 ∨ 3 < p2.toInt ∨ 60 < p3.toInt) ∧ (-2 : Int) = -2) ∨ (0 ≤ p1.toInt ∧ p1.toInt ≤ 3 ∧ 0 ≤ p2.toInt ∧ p2.toInt ≤ 3 ∧ p3.toInt ≤ 60 ∧ p3.toInt < 0 ∧ (-2 : Int) = -3) ∨ (0 ≤ p1.toInt ∧ p1.toInt ≤ 3 ∧ 0 ≤ p2.toInt ∧ p2.toInt ≤ 3 ∧ 0 ≤ p3.toInt ∧ p3.toInt ≤ 60 ∧ (-2 : Int) = 0) from by (try simp only [i_lt, i_le, i_eq, Int32.toInt_toInt64, Int32.reduceToInt, Int64.reduceToInt, true_and, and_true, false_and, and_false, false_or, or_false, true_or, or_true, not_true_eq_false, not_false_eq_true, ne_eq, forall_const, true_implies, false_implies, implies_true] at f4 c5 ⊢) <;> omega), ⟨fun _ => rfl, fun h => absurd h (by decide)⟩⟩, by rw [ht]; exact hP, hD⟩, hS.F ht⟩) hS.2.2 dX11_row_29
    · refine lv_iload_n hx hb dX11_row_16 rfl (lv_at hl 3 rfl) ?_
      refine lv_iconst (v := 3) hx hb dX11_row_17 (by decide) ?_
      refine lv_icmp_gt (tgt := 27) hx hb dX11_row_18 (by decide) (fun c6 => ?_) (fun c6 => ?_)
      · refine lv_bipush (v := (-2)) hx hb dX11_row_27 (by decide) ?_
        exact W.iret (v := (-2)) hx hb hr (fun t ht hW => ⟨⟨(-2), u0, rfl, ⟨hu, hp, (show ((p1.toInt < 0 ∨ 3 < p1.toInt ∨ p2.toInt < 0 ∨ 3 < p2.toInt ∨ 60 < p3.toInt) ∧ (-2 : Int) = -2) ∨ (0 ≤ p1.toInt ∧ p1.toInt ≤ 3 ∧ 0 ≤ p2.toInt ∧ p2.toInt ≤ 3 ∧ p3.toInt ≤ 60 ∧ p3.toInt < 0 ∧ (-2 : Int) = -3) ∨ (0 ≤ p1.toInt ∧ p1.toInt ≤ 3 ∧ 0 ≤ p2.toInt ∧ p2.toInt ≤ 3 ∧ 0 ≤ p3.toInt ∧ p3.toInt ≤ 60 ∧ (-2 : Int) = 0) from by (try simp only [i_lt, i_le, i_eq, Int32.toInt_toInt64, Int32.reduceToInt, Int64.reduceToInt, true_and, and_true, false_and, and_false, false_or, or_false, true_or, or_true, not_true_eq_false, not_false_eq_true, ne_eq, forall_const, true_implies, false_implies, implies_true] at f4 c5 c6 ⊢) <;> omega), ⟨fun _ => rfl, fun h => absurd h (by decide)⟩⟩, by rw [ht]; exact hP, hD⟩, hS.F ht⟩) hS.2.2 dX11_row_29
      · refine lv_iload_n hx hb dX11_row_21 rfl (lv_at hl 4 rfl) ?_
        refine lv_bipush (v := 60) hx hb dX11_row_22 (by decide) ?_
        refine lv_icmp_le (tgt := 30) hx hb dX11_row_24 (by decide) (fun c7 => ?_) (fun c7 => ?_)
        · refine lv_iload_n hx hb dX11_row_30 rfl (lv_at hl 4 rfl) ?_
          refine lv_if_ge (tgt := 37) hx hb dX11_row_31 (by decide) (fun c8 => ?_) (fun c8 => ?_)
          · refine lv_aload hx hb dX11_row_37 (lv_at hl 0 rfl) ?_
            refine lv_iload_n hx hb dX11_row_39 rfl (lv_at hl 3 rfl) ?_
            refine lv_iload_n hx hb dX11_row_40 rfl (lv_at hl 4 rfl) ?_
            refine wvV (C := RX7) (As := [.int p2, .int p3]) (rest := []) ⟨hx, hb, hml, hown, hts⟩ (fun sz => t2_X7_begin l D k u0 hu y2 m_y2 k_y2 p2 (by (try simp only [i_lt, i_le, i_eq, Int32.toInt_toInt64, Int32.reduceToInt, Int64.reduceToInt, true_and, and_true, false_and, and_false, false_or, or_false, true_or, or_true, not_true_eq_false, not_false_eq_true, ne_eq, forall_const, true_implies, false_implies, implies_true] at f4 c5 c6 c7 c8 ⊢) <;> omega) p3 (by (try simp only [i_lt, i_le, i_eq, Int32.toInt_toInt64, Int32.reduceToInt, Int64.reduceToInt, true_and, and_true, false_and, and_false, false_or, or_false, true_or, or_true, not_true_eq_false, not_false_eq_true, ne_eq, forall_const, true_implies, false_implies, implies_true] at f4 c5 c6 c7 c8 ⊢) <;> omega) sz) (cwV 2 hts gX11_row_X7_begin rfl rfl rfl (by decide +kernel) ⟨Nat.le_of_ble_eq_true rfl, Nat.le_of_ble_eq_true rfl⟩) hP hK hD hN hS hA (precv hK hP m_y2 (cF7 k_y2) rfl) rfl hl.1 rfl (Nat.le_of_ble_eq_true rfl) dX11_row_41 ⟨Nat.le_of_ble_eq_true rfl, Nat.le_of_ble_eq_true rfl⟩ (fun u9 H locs hq hP hD hS => ?_)
            obtain ⟨hu, hxu9, hru9⟩ := hq
            have k_y2 : u9.2.1 y2 = 7 := (hxu9 y2 m_y2).2.trans k_y2
            have m_y2 : y2 ∈ u9.1 := (hxu9 y2 m_y2).1
            have k_h0 : u9.2.1 h0 = 11 := (hxu9 h0 m_h0).2.trans k_h0
            have m_h0 : h0 ∈ u9.1 := (hxu9 h0 m_h0).1
            have hp := PY.trans hp hxu9
            refine lv_iconst (v := 0) hx hb dX11_row_44 (by decide) ?_
            exact W.iret (v := 0) hx hb hr (fun t ht hW => ⟨⟨0, u9, rfl, ⟨hu, hp, (show ((p1.toInt < 0 ∨ 3 < p1.toInt ∨ p2.toInt < 0 ∨ 3 < p2.toInt ∨ 60 < p3.toInt) ∧ (0 : Int) = -2) ∨ (0 ≤ p1.toInt ∧ p1.toInt ≤ 3 ∧ 0 ≤ p2.toInt ∧ p2.toInt ≤ 3 ∧ p3.toInt ≤ 60 ∧ p3.toInt < 0 ∧ (0 : Int) = -3) ∨ (0 ≤ p1.toInt ∧ p1.toInt ≤ 3 ∧ 0 ≤ p2.toInt ∧ p2.toInt ≤ 3 ∧ 0 ≤ p3.toInt ∧ p3.toInt ≤ 60 ∧ (0 : Int) = 0) from by (try simp only [i_lt, i_le, i_eq, Int32.toInt_toInt64, Int32.reduceToInt, Int64.reduceToInt, true_and, and_true, false_and, and_false, false_or, or_false, true_or, or_true, not_true_eq_false, not_false_eq_true, ne_eq, forall_const, true_implies, false_implies, implies_true] at f4 c5 c6 c7 c8 ⊢) <;> omega), ⟨fun h => absurd (by decide) h, fun _ => ⟨y2, n_y2, hru9⟩⟩⟩, by rw [ht]; exact hP, hD⟩, hS.F ht⟩) hS.2.2 dX11_row_45
          · refine lv_bipush (v := (-3)) hx hb dX11_row_34 (by decide) ?_
            exact W.iret (v := (-3)) hx hb hr (fun t ht hW => ⟨⟨(-3), u0, rfl, ⟨hu, hp, (show ((p1.toInt < 0 ∨ 3 < p1.toInt ∨ p2.toInt < 0 ∨ 3 < p2.toInt ∨ 60 < p3.toInt) ∧ (-3 : Int) = -2) ∨ (0 ≤ p1.toInt ∧ p1.toInt ≤ 3 ∧ 0 ≤ p2.toInt ∧ p2.toInt ≤ 3 ∧ p3.toInt ≤ 60 ∧ p3.toInt < 0 ∧ (-3 : Int) = -3) ∨ (0 ≤ p1.toInt ∧ p1.toInt ≤ 3 ∧ 0 ≤ p2.toInt ∧ p2.toInt ≤ 3 ∧ 0 ≤ p3.toInt ∧ p3.toInt ≤ 60 ∧ (-3 : Int) = 0) from by (try simp only [i_lt, i_le, i_eq, Int32.toInt_toInt64, Int32.reduceToInt, Int64.reduceToInt, true_and, and_true, false_and, and_false, false_or, or_false, true_or, or_true, not_true_eq_false, not_false_eq_true, ne_eq, forall_const, true_implies, false_implies, implies_true] at f4 c5 c6 c7 c8 ⊢) <;> omega), ⟨fun _ => rfl, fun h => absurd h (by decide)⟩⟩, by rw [ht]; exact hP, hD⟩, hS.F ht⟩) hS.2.2 dX11_row_36
        · refine lv_bipush (v := (-2)) hx hb dX11_row_27 (by decide) ?_
          exact W.iret (v := (-2)) hx hb hr (fun t ht hW => ⟨⟨(-2), u0, rfl, ⟨hu, hp, (show ((p1.toInt < 0 ∨ 3 < p1.toInt ∨ p2.toInt < 0 ∨ 3 < p2.toInt ∨ 60 < p3.toInt) ∧ (-2 : Int) = -2) ∨ (0 ≤ p1.toInt ∧ p1.toInt ≤ 3 ∧ 0 ≤ p2.toInt ∧ p2.toInt ≤ 3 ∧ p3.toInt ≤ 60 ∧ p3.toInt < 0 ∧ (-2 : Int) = -3) ∨ (0 ≤ p1.toInt ∧ p1.toInt ≤ 3 ∧ 0 ≤ p2.toInt ∧ p2.toInt ≤ 3 ∧ 0 ≤ p3.toInt ∧ p3.toInt ≤ 60 ∧ (-2 : Int) = 0) from by (try simp only [i_lt, i_le, i_eq, Int32.toInt_toInt64, Int32.reduceToInt, Int64.reduceToInt, true_and, and_true, false_and, and_false, false_or, or_false, true_or, or_true, not_true_eq_false, not_false_eq_true, ne_eq, forall_const, true_implies, false_implies, implies_true] at f4 c5 c6 c7 ⊢) <;> omega), ⟨fun _ => rfl, fun h => absurd h (by decide)⟩⟩, by rw [ht]; exact hP, hD⟩, hS.F ht⟩) hS.2.2 dX11_row_29
set_option maxHeartbeats 4000000 in
set_option maxRecDepth 100000 in
theorem t2_X11_keep (l : Launch) (D : va_G) (k : Nat → ClassId) (u0 : PSt) (hu : WT u0) (h0 : Nat) (m_h0 : h0 ∈ u0.1) (k_h0 : u0.2.1 h0 = 11) (p1 : Int32) (sz : Nat) : Met l yX11_keep wsX11_keep ({ frames := 0, cells := 0, slots := 0, locals := 0 }) (PreM D k sz (PW k u0) [.ref h0, .int p1]) (va_Qi (fun r v => WT v ∧ PY u0 v ∧ ((((p1.toInt < 0 ∨ 2 < p1.toInt) ∧ r.toInt = -2) ∨ (0 ≤ p1.toInt ∧ p1.toInt ≤ 2 ∧ r.toInt = 0)) ∧ (r.toInt ≠ 0 → v = u0) ∧ (r.toInt = 0 → ∃ im, u0.2.2.2.2 h0 1 = some im ∧ KG im p1.toNatClampNeg u0 v))) (WB D (va_A (PW k u0) sz) (PW k)) (va_A (PW k u0) sz)) 0 0 (va_A (PW k u0) sz) := by
  refine Met.ofW (cc := cX11_keep) (maxL := 2) (ret := (some .int)) (by decide) rfl ?_
  intro p e s m args below meth c s₁ B hml hv
  obtain ⟨rfl, hsz, hP, hK, hD0, hN⟩ := hv
  have hx := B.exec
  have hb := B.bytes
  have hr := B.returns
  have hts := atoms_spec (ws := wsX11_keep) B.pre
  have hown : s.vm.findClass RX11 = some m.cls := findClass_of_methodNamed B.named
  have hlocks := B.notSynchronized
  have i_X11 : ∀ w ∈ wsX110, w ∈ wsX11_keep := by decide +kernel
  subst hsz
  have hD := hD0.self (sz := s.heap.size)
  generalize hAe : va_A (PW k u0) s.heap.size = A at hD ⊢
  have hA : ∀ q : Nat, s.heap.size ≤ q → A q := fun q h => by rw [← hAe]; exact Or.inr h
  have hS : va_S A s.heap s.heap [] := va_S.rf
  have hp : PY u0 u0 := PY.rf
  have hl := lv_entry ([.ref h0, .int p1]) (n := 2) (Nat.le_of_ble_eq_true rfl)
  rw [lg_entry_eq]
  generalize (lg_sl ([.ref h0, .int p1]) ++ List.replicate (2 - (lg_sl ([.ref h0, .int p1])).length) Slot.unset).toArray = ls at hl ⊢
  have hl : lv_has ls 2 [(0, .ref h0), (1, .int p1)] := hl
  refine lv_iload_n hx hb dX11_keep_0 rfl (lv_at hl 1 rfl) ?_
  refine lv_if_lt (tgt := 13) hx hb dX11_keep_1 (by decide) (fun c1 => ?_) (fun c1 => ?_)
  · refine lv_bipush (v := (-2)) hx hb dX11_keep_13 (by decide) ?_
    exact W.iret (v := (-2)) hx hb hr (fun t ht hW => ⟨⟨(-2), u0, rfl, ⟨hu, hp, (show ((p1.toInt < 0 ∨ 2 < p1.toInt) ∧ (-2 : Int) = -2) ∨ (0 ≤ p1.toInt ∧ p1.toInt ≤ 2 ∧ (-2 : Int) = 0) from by (try simp only [i_lt, i_le, i_eq, Int32.toInt_toInt64, Int32.reduceToInt, Int64.reduceToInt, true_and, and_true, false_and, and_false, false_or, or_false, true_or, or_true, not_true_eq_false, not_false_eq_true, ne_eq, forall_const, true_implies, false_implies, implies_true] at c1 ⊢) <;> omega), ⟨fun _ => rfl, fun h => absurd h (by decide)⟩⟩, by rw [ht]; exact hP, hD⟩, hS.F ht⟩) hS.2.2 dX11_keep_15
  · refine lv_iload_n hx hb dX11_keep_4 rfl (lv_at hl 1 rfl) ?_
    refine lv_aload_n hx hb dX11_keep_5 rfl (lv_at hl 0 rfl) ?_
    refine pget (ci := 11) (v := va_rf (u0.2.2.2.2 h0 1)) (C := RX11) (T := TX11) (N := 11) hx hb hts i_X11 hown hK hP m_h0 (cF11 k_h0) rfl 1 (by decide) (hts (.fieldLink RX11 18 "BellowsRow" "images" "[LBellowsRow$Works;") (by decide +kernel)) (fun _ h9 => h9) rfl dX11_keep_6 ?_
    obtain ⟨y2, qy2, m_y2, k_y2⟩ := (hu h0 m_h0).1 1 40 (by rw [k_h0]; rfl)
    refine W.eq (g2 := F0 m 9 ls [.ref y2, .int p1]) (by rw [qy2]; rfl) ?_
    refine palen (v := 3) hx hb hK hP m_y2 (cF40 k_y2) 5 rfl rfl dX11_keep_9 ?_
    refine lv_icmp_lt (tgt := 16) hx hb dX11_keep_10 (by decide) (fun c3 => ?_) (fun c3 => ?_)
    · refine lv_aload_n hx hb dX11_keep_16 rfl (lv_at hl 0 rfl) ?_
      refine pget (ci := 11) (v := va_rf (u0.2.2.2.2 h0 1)) (C := RX11) (T := TX11) (N := 11) hx hb hts i_X11 hown hK hP m_h0 (cF11 k_h0) rfl 1 (by decide) (hts (.fieldLink RX11 18 "BellowsRow" "images" "[LBellowsRow$Works;") (by decide +kernel)) (fun _ h9 => h9) rfl dX11_keep_17 ?_
      obtain ⟨y4, qy4, m_y4, k_y4⟩ := (hu h0 m_h0).1 1 40 (by rw [k_h0]; rfl)
      refine W.eq (g2 := F0 m 20 ls [.ref y4]) (by rw [qy4]; rfl) ?_
      refine lv_iload_n hx hb dX11_keep_20 rfl (lv_at hl 1 rfl) ?_
      refine lv_aload_n hx hb dX11_keep_21 rfl (lv_at hl 0 rfl) ?_
      refine pget (ci := 11) (v := va_rf (u0.2.2.2.2 h0 8)) (C := RX11) (T := TX11) (N := 11) hx hb hts i_X11 hown hK hP m_h0 (cF11 k_h0) rfl 8 (by decide) (hts (.fieldLink RX11 62 "BellowsRow" "now" "LBellowsRow$Works;") (by decide +kernel)) (fun _ h9 => h9) rfl dX11_keep_22 ?_
      obtain ⟨y5, qy5, m_y5, k_y5⟩ := (hu h0 m_h0).1 8 10 (by rw [k_h0]; rfl)
      refine W.eq (g2 := F0 m 25 ls [.ref y5, .int p1, .ref y4]) (by rw [qy5]; rfl) ?_
      refine pasQ (u' := pSR u0 y4 (p1).toNatClampNeg (some y5)) hx hb hK hP hD hS m_y4 (cF40 k_y4) 5 rfl m_y5 (cF10 k_y5) rfl (vp_in_iff.mpr (by (try simp only [i_lt, i_le, i_eq, Int32.toInt_toInt64, Int32.reduceToInt, Int64.reduceToInt, true_and, and_true, false_and, and_false, false_or, or_false, true_or, or_true, not_true_eq_false, not_false_eq_true, ne_eq, forall_const, true_implies, false_implies, implies_true] at c1 c3 ⊢) <;> omega)) rfl (sF40 k_y4 _ _) dX11_keep_25 (fun H locs hP hD hS => ?_)
      have hu := WT.setR (a := y4) (s := (p1).toNatClampNeg) (y := y5) (kd := 10) hu (by rw [k_y4]; exact Or.inr ⟨rfl, rfl⟩) (by rw [k_y4]; decide) m_y5 k_y5
      have hp := PY.setR (a := y4) (s := (p1).toNatClampNeg) (v := some y5) hp
      obtain ⟨u6, hu6⟩ : ∃ z, z = pSR u0 y4 (p1).toNatClampNeg (some y5) := ⟨_, rfl⟩
      rw [← hu6] at hP hD hu hp
      have m_h0 : h0 ∈ u6.1 := by rw [hu6]; exact m_h0
      have k_h0 : u6.2.1 h0 = 11 := by rw [hu6]; exact k_h0
      refine lv_iconst (v := 0) hx hb dX11_keep_26 (by decide) ?_
      exact W.iret (v := 0) hx hb hr (fun t ht hW => ⟨⟨0, u6, rfl, ⟨hu, hp, (show ((p1.toInt < 0 ∨ 2 < p1.toInt) ∧ (0 : Int) = -2) ∨ (0 ≤ p1.toInt ∧ p1.toInt ≤ 2 ∧ (0 : Int) = 0) from by (try simp only [i_lt, i_le, i_eq, Int32.toInt_toInt64, Int32.reduceToInt, Int64.reduceToInt, true_and, and_true, false_and, and_false, false_or, or_false, true_or, or_true, not_true_eq_false, not_false_eq_true, ne_eq, forall_const, true_implies, false_implies, implies_true] at c1 c3 ⊢) <;> omega), ⟨fun h => absurd (by decide) h, fun _ => ⟨y4, qy4, by rw [hu6]; exact KG_mk k_y4⟩⟩⟩, by rw [ht]; exact hP, hD⟩, hS.F ht⟩) hS.2.2 dX11_keep_27
    · refine lv_bipush (v := (-2)) hx hb dX11_keep_13 (by decide) ?_
      exact W.iret (v := (-2)) hx hb hr (fun t ht hW => ⟨⟨(-2), u0, rfl, ⟨hu, hp, (show ((p1.toInt < 0 ∨ 2 < p1.toInt) ∧ (-2 : Int) = -2) ∨ (0 ≤ p1.toInt ∧ p1.toInt ≤ 2 ∧ (-2 : Int) = 0) from by (try simp only [i_lt, i_le, i_eq, Int32.toInt_toInt64, Int32.reduceToInt, Int64.reduceToInt, true_and, and_true, false_and, and_false, false_or, or_false, true_or, or_true, not_true_eq_false, not_false_eq_true, ne_eq, forall_const, true_implies, false_implies, implies_true] at c1 c3 ⊢) <;> omega), ⟨fun _ => rfl, fun h => absurd h (by decide)⟩⟩, by rw [ht]; exact hP, hD⟩, hS.F ht⟩) hS.2.2 dX11_keep_15
set_option maxHeartbeats 4000000 in
set_option maxRecDepth 100000 in
theorem t2_X11_back (l : Launch) (D : va_G) (k : Nat → ClassId) (u0 : PSt) (hu : WT u0) (h0 : Nat) (m_h0 : h0 ∈ u0.1) (k_h0 : u0.2.1 h0 = 11) (p1 : Int32) (sz : Nat) : Met l yX11_back wsX11_back ({ frames := 0, cells := 0, slots := 0, locals := 0 }) (PreM D k sz (PW k u0) [.ref h0, .int p1]) (va_Qi (fun r v => WT v ∧ PX u0 v ∧ CBk u0 h0 p1 r.toInt) (WB D (va_A (PW k u0) sz) (PW k)) (va_A (PW k u0) sz)) 0 0 (va_A (PW k u0) sz) := by
  refine Met.ofW (cc := cX11_back) (maxL := 3) (ret := (some .int)) (by decide) rfl ?_
  intro p e s m args below meth c s₁ B hml hv
  obtain ⟨rfl, hsz, hP, hK, hD0, hN⟩ := hv
  have hx := B.exec
  have hb := B.bytes
  have hr := B.returns
  have hts := atoms_spec (ws := wsX11_back) B.pre
  have hown : s.vm.findClass RX11 = some m.cls := findClass_of_methodNamed B.named
  have hlocks := B.notSynchronized
  have i_X11 : ∀ w ∈ wsX110, w ∈ wsX11_back := by decide +kernel
  subst hsz
  have hD := hD0.self (sz := s.heap.size)
  generalize hAe : va_A (PW k u0) s.heap.size = A at hD ⊢
  have hA : ∀ q : Nat, s.heap.size ≤ q → A q := fun q h => by rw [← hAe]; exact Or.inr h
  have hS : va_S A s.heap s.heap [] := va_S.rf
  have hp : PX u0 u0 := PX.rf
  have hl := lv_entry ([.ref h0, .int p1]) (n := 3) (Nat.le_of_ble_eq_true rfl)
  rw [lg_entry_eq]
  generalize (lg_sl ([.ref h0, .int p1]) ++ List.replicate (3 - (lg_sl ([.ref h0, .int p1])).length) Slot.unset).toArray = ls at hl ⊢
  have hl : lv_has ls 3 [(0, .ref h0), (1, .int p1)] := hl
  refine lv_iload_n hx hb dX11_back_0 rfl (lv_at hl 1 rfl) ?_
  refine lv_if_lt (tgt := 13) hx hb dX11_back_1 (by decide) (fun c1 => ?_) (fun c1 => ?_)
  · refine lv_bipush (v := (-2)) hx hb dX11_back_13 (by decide) ?_
    exact W.iret (v := (-2)) hx hb hr (fun t ht hW => ⟨⟨(-2), u0, rfl, ⟨hu, hp, Or.inl ⟨(by ((try simp only [i_lt, i_le, i_eq, Int32.toInt_toInt64, Int32.reduceToInt, Int64.reduceToInt, true_and, and_true, false_and, and_false, false_or, or_false, true_or, or_true, not_true_eq_false, not_false_eq_true, ne_eq, forall_const, true_implies, false_implies, implies_true] at c1 ⊢) <;> omega)), by decide⟩⟩, by rw [ht]; exact hP, hD⟩, hS.F ht⟩) hS.2.2 dX11_back_15
  · refine lv_iload_n hx hb dX11_back_4 rfl (lv_at hl 1 rfl) ?_
    refine lv_aload_n hx hb dX11_back_5 rfl (lv_at hl 0 rfl) ?_
    refine pget (ci := 11) (v := va_rf (u0.2.2.2.2 h0 1)) (C := RX11) (T := TX11) (N := 11) hx hb hts i_X11 hown hK hP m_h0 (cF11 k_h0) rfl 1 (by decide) (hts (.fieldLink RX11 18 "BellowsRow" "images" "[LBellowsRow$Works;") (by decide +kernel)) (fun _ h9 => h9) rfl dX11_back_6 ?_
    obtain ⟨y2, qy2, m_y2, k_y2⟩ := (hu h0 m_h0).1 1 40 (by rw [k_h0]; rfl)
    refine W.eq (g2 := F0 m 9 ls [.ref y2, .int p1]) (by rw [qy2]; rfl) ?_
    refine palen (v := 3) hx hb hK hP m_y2 (cF40 k_y2) 5 rfl rfl dX11_back_9 ?_
    refine lv_icmp_lt (tgt := 16) hx hb dX11_back_10 (by decide) (fun c3 => ?_) (fun c3 => ?_)
    · refine lv_aload_n hx hb dX11_back_16 rfl (lv_at hl 0 rfl) ?_
      refine pget (ci := 11) (v := va_rf (u0.2.2.2.2 h0 1)) (C := RX11) (T := TX11) (N := 11) hx hb hts i_X11 hown hK hP m_h0 (cF11 k_h0) rfl 1 (by decide) (hts (.fieldLink RX11 18 "BellowsRow" "images" "[LBellowsRow$Works;") (by decide +kernel)) (fun _ h9 => h9) rfl dX11_back_17 ?_
      obtain ⟨y4, qy4, m_y4, k_y4⟩ := (hu h0 m_h0).1 1 40 (by rw [k_h0]; rfl)
      refine W.eq (g2 := F0 m 20 ls [.ref y4]) (by rw [qy4]; rfl) ?_
      refine lv_iload_n hx hb dX11_back_20 rfl (lv_at hl 1 rfl) ?_
      refine palQ hx hb hK hP m_y4 (cF40 k_y4) 5 rfl (vp_in_iff.mpr (by (try simp only [i_lt, i_le, i_eq, Int32.toInt_toInt64, Int32.reduceToInt, Int64.reduceToInt, true_and, and_true, false_and, and_false, false_or, or_false, true_or, or_true, not_true_eq_false, not_false_eq_true, ne_eq, forall_const, true_implies, false_implies, implies_true] at c1 c3 ⊢) <;> omega)) dX11_back_21 ?_
      rcases (hu y4 m_y4).2.1 (p1).toNatClampNeg 10 (by rw [k_y4]; rfl) with qy5 | ⟨y5, qy5, m_y5, k_y5⟩
      · refine W.eq (g2 := F0 m 22 ls [.null]) (by rw [qy5]; rfl) ?_
        refine lv_astore_nN (lv' := [(2, .null), (0, .ref h0), (1, .int p1)]) hx hb dX11_back_22 rfl hl (by decide) rfl (fun ls hl => ?_)
        refine lv_aload_nN hx hb dX11_back_23 rfl (lv_at hl 0 rfl) ?_
        refine lv_ifnonnullN hx hb dX11_back_24 ?_
        refine lv_bipush (v := (-6)) hx hb dX11_back_27 (by decide) ?_
        exact W.iret (v := (-6)) hx hb hr (fun t ht hW => ⟨⟨(-6), u0, rfl, ⟨hu, hp, Or.inr ⟨(by ((try simp only [i_lt, i_le, i_eq, Int32.toInt_toInt64, Int32.reduceToInt, Int64.reduceToInt, true_and, and_true, false_and, and_false, false_or, or_false, true_or, or_true, not_true_eq_false, not_false_eq_true, ne_eq, forall_const, true_implies, false_implies, implies_true] at c1 c3 ⊢) <;> omega)), (by ((try simp only [i_lt, i_le, i_eq, Int32.toInt_toInt64, Int32.reduceToInt, Int64.reduceToInt, true_and, and_true, false_and, and_false, false_or, or_false, true_or, or_true, not_true_eq_false, not_false_eq_true, ne_eq, forall_const, true_implies, false_implies, implies_true] at c1 c3 ⊢) <;> omega)), y4, qy4, Or.inl ⟨qy5, by decide⟩⟩⟩, by rw [ht]; exact hP, hD⟩, hS.F ht⟩) hS.2.2 dX11_back_29
      · refine W.eq (g2 := F0 m 22 ls [.ref y5]) (by rw [qy5]; rfl) ?_
        refine lv_astore_n (lv' := [(2, .ref y5), (0, .ref h0), (1, .int p1)]) hx hb dX11_back_22 rfl hl (by decide) rfl (fun ls hl => ?_)
        refine lv_aload_n hx hb dX11_back_23 rfl (lv_at hl 0 rfl) ?_
        refine lv_ifnonnull (tgt := 30) hx hb dX11_back_24 (by decide) ?_
        refine lv_aload_n hx hb dX11_back_30 rfl (lv_at hl 1 rfl) ?_
        refine lv_aload_n hx hb dX11_back_31 rfl (lv_at hl 0 rfl) ?_
        refine pput (u' := pSR u0 h0 8 (some y5)) (ci := 11) (v := .ref y5) (ty := .object "BellowsRow$Works") (C := RX11) (T := TX11) (N := 11) hx hb hts i_X11 tyX11 tyX11_ok nmX11 hown hK hP hD hS m_h0 (cF11 k_h0) rfl 8 (by decide) (hts (.fieldLink RX11 62 "BellowsRow" "now" "LBellowsRow$Works;") (by decide +kernel)) (fun _ h9 => h9) rfl (by decide +kernel) rfl rfl (Nat.le_of_ble_eq_true rfl) rfl (sF11_8 k_h0 (some y5)) dX11_back_32 (fun H locs hP hD hS => ?_)
        have hu := WT.setR (a := h0) (s := 8) (y := y5) (kd := 10) hu (by rw [k_h0]; exact Or.inl rfl) (by rw [k_h0]; decide) m_y5 k_y5
        have hp := PX.setR (a := h0) (s := 8) (v := some y5) hp (by rw [k_h0]; decide) (by rw [k_h0]; decide) (by rw [k_h0]; decide) (fun _ => Nat.le_refl _)
        obtain ⟨u6, hu6⟩ : ∃ z, z = pSR u0 h0 8 (some y5) := ⟨_, rfl⟩
        rw [← hu6] at hP hD hu hp
        have m_y5 : y5 ∈ u6.1 := by rw [hu6]; exact m_y5
        have k_y5 : u6.2.1 y5 = 10 := by rw [hu6]; exact k_y5
        have m_h0 : h0 ∈ u6.1 := by rw [hu6]; exact m_h0
        have k_h0 : u6.2.1 h0 = 11 := by rw [hu6]; exact k_h0
        refine lv_iconst (v := 0) hx hb dX11_back_35 (by decide) ?_
        exact W.iret (v := 0) hx hb hr (fun t ht hW => ⟨⟨0, u6, rfl, ⟨hu, hp, Or.inr ⟨(by ((try simp only [i_lt, i_le, i_eq, Int32.toInt_toInt64, Int32.reduceToInt, Int64.reduceToInt, true_and, and_true, false_and, and_false, false_or, or_false, true_or, or_true, not_true_eq_false, not_false_eq_true, ne_eq, forall_const, true_implies, false_implies, implies_true] at c1 c3 ⊢) <;> omega)), (by ((try simp only [i_lt, i_le, i_eq, Int32.toInt_toInt64, Int32.reduceToInt, Int64.reduceToInt, true_and, and_true, false_and, and_false, false_or, or_false, true_or, or_true, not_true_eq_false, not_false_eq_true, ne_eq, forall_const, true_implies, false_implies, implies_true] at c1 c3 ⊢) <;> omega)), y4, qy4, Or.inr ⟨(fun h => by rw [qy5] at h; cases h), by decide⟩⟩⟩, by rw [ht]; exact hP, hD⟩, hS.F ht⟩) hS.2.2 dX11_back_36
    · refine lv_bipush (v := (-2)) hx hb dX11_back_13 (by decide) ?_
      exact W.iret (v := (-2)) hx hb hr (fun t ht hW => ⟨⟨(-2), u0, rfl, ⟨hu, hp, Or.inl ⟨(by ((try simp only [i_lt, i_le, i_eq, Int32.toInt_toInt64, Int32.reduceToInt, Int64.reduceToInt, true_and, and_true, false_and, and_false, false_or, or_false, true_or, or_true, not_true_eq_false, not_false_eq_true, ne_eq, forall_const, true_implies, false_implies, implies_true] at c1 c3 ⊢) <;> omega)), by decide⟩⟩, by rw [ht]; exact hP, hD⟩, hS.F ht⟩) hS.2.2 dX11_back_15
set_option maxHeartbeats 4000000 in
set_option maxRecDepth 100000 in
theorem t2_X11_write (l : Launch) (D : va_G) (k : Nat → ClassId) (u0 : PSt) (hu : WT u0) (h0 : Nat) (m_h0 : h0 ∈ u0.1) (k_h0 : u0.2.1 h0 = 11) (p1 : Int32) (p2 : Int32) (p3 : Int64) (sz : Nat) : Met l yX11_write wsX11_write ({ frames := 2, cells := 0, slots := 0, locals := 45 }) (PreM D k sz (PW k u0) [.ref h0, .int p1, .int p2, .long p3]) (va_Qi (fun r v => WT v ∧ PX u0 v ∧ CWr u0 h0 p1 p2 r.toInt) (WB D (va_A (PW k u0) sz) (PW k)) (va_A (PW k u0) sz)) 0 0 (va_A (PW k u0) sz) := by
  refine Met.ofW (cc := cX11_write) (maxL := 6) (ret := (some .int)) (by decide) rfl ?_
  intro p e s m args below meth c s₁ B hml hv
  obtain ⟨rfl, hsz, hP, hK, hD0, hN⟩ := hv
  have hx := B.exec
  have hb := B.bytes
  have hr := B.returns
  have hts := atoms_spec (ws := wsX11_write) B.pre
  have hown : s.vm.findClass RX11 = some m.cls := findClass_of_methodNamed B.named
  have hlocks := B.notSynchronized
  have i_X7 : ∀ w ∈ wsX70, w ∈ wsX11_write := by decide +kernel
  subst hsz
  have hD := hD0.self (sz := s.heap.size)
  generalize hAe : va_A (PW k u0) s.heap.size = A at hD ⊢
  have hA : ∀ q : Nat, s.heap.size ≤ q → A q := fun q h => by rw [← hAe]; exact Or.inr h
  have hS : va_S A s.heap s.heap [] := va_S.rf
  have hp : PX u0 u0 := PX.rf
  have hl := lv_entry ([.ref h0, .int p1, .int p2, .long p3]) (n := 6) (Nat.le_of_ble_eq_true rfl)
  rw [lg_entry_eq]
  generalize (lg_sl ([.ref h0, .int p1, .int p2, .long p3]) ++ List.replicate (6 - (lg_sl ([.ref h0, .int p1, .int p2, .long p3])).length) Slot.unset).toArray = ls at hl ⊢
  have hl : lv_has ls 6 [(0, .ref h0), (1, .int p1), (2, .int p2), (3, .long p3)] := hl
  refine lv_aload_n hx hb dX11_write_0 rfl (lv_at hl 0 rfl) ?_
  refine lv_iload_n hx hb dX11_write_1 rfl (lv_at hl 1 rfl) ?_
  refine rvq (C := RX11) (As := [.int p1]) (rest := []) ⟨hx, hb, hml, hown, hts⟩ (t2_X11_slotAt l D k u0 hu h0 m_h0 k_h0 p1) (cwV 1 hts gX11_write_X11_slotAt rfl rfl rfl (by decide +kernel) ⟨Nat.le_of_ble_eq_true rfl, Nat.le_of_ble_eq_true rfl⟩) hP hK (precv hK hP m_h0 (cF11 k_h0) rfl) rfl hl.1 rfl (Nat.le_of_ble_eq_true rfl) dX11_write_2 ⟨Nat.le_of_ble_eq_true rfl, Nat.le_of_ble_eq_true rfl⟩ (fun r1 hr1 => ?_)
  have o_r1 := hr1.1
  have z_r1 := hr1.2.1
  rcases hqy2 : r1 with _ | y2
  · have f3 : p1.toInt < 0 ∨ 3 < p1.toInt := by have z := z_r1; rw [hqy2] at z; exact z
    have hl : lv_has ls 6 [(0, .ref h0), (1, .int p1), (2, .int p2), (3, .long p3)] := by first | exact hl | (rw [hqy2] at hl; exact hl)
    refine W.eq (g2 := F0 m 5 ls [.null]) (by first | rfl | (rw [hqy2]; rfl)) ?_
    refine lv_astoreN (lv' := [(5, .null), (0, .ref h0), (1, .int p1), (2, .int p2), (3, .long p3)]) hx hb dX11_write_5 hl (by decide) rfl (fun ls hl => ?_)
    refine lv_aloadN hx hb dX11_write_7 (lv_at hl 0 rfl) ?_
    refine lv_ifnonnullN hx hb dX11_write_9 ?_
    refine lv_bipush (v := (-2)) hx hb dX11_write_12 (by decide) ?_
    exact W.iret (v := (-2)) hx hb hr (fun t ht hW => ⟨⟨(-2), u0, rfl, ⟨hu, hp, Or.inl ⟨(by ((try simp only [i_lt, i_le, i_eq, Int32.toInt_toInt64, Int32.reduceToInt, Int64.reduceToInt, true_and, and_true, false_and, and_false, false_or, or_false, true_or, or_true, not_true_eq_false, not_false_eq_true, ne_eq, forall_const, true_implies, false_implies, implies_true] at f3 ⊢) <;> omega)), by decide⟩⟩, by rw [ht]; exact hP, hD⟩, hS.F ht⟩) hS.2.2 dX11_write_14
  · have f4 : 0 ≤ p1.toInt ∧ p1.toInt ≤ 3 := by have z := z_r1; rw [hqy2] at z; exact z
    obtain ⟨m_y2, k_y2⟩ := o_r1 y2 hqy2
    have n_y2 := (hr1.2.2) y2 hqy2
    have hl : lv_has ls 6 [(0, .ref h0), (1, .int p1), (2, .int p2), (3, .long p3)] := by first | exact hl | (rw [hqy2] at hl; exact hl)
    refine W.eq (g2 := F0 m 5 ls [.ref y2]) (by first | rfl | (rw [hqy2]; rfl)) ?_
    refine lv_astore (lv' := [(5, .ref y2), (0, .ref h0), (1, .int p1), (2, .int p2), (3, .long p3)]) hx hb dX11_write_5 hl (by decide) rfl (fun ls hl => ?_)
    refine lv_aload hx hb dX11_write_7 (lv_at hl 0 rfl) ?_
    refine lv_ifnonnull (tgt := 15) hx hb dX11_write_9 (by decide) ?_
    refine lv_aload hx hb dX11_write_15 (lv_at hl 0 rfl) ?_
    refine pget (ci := 7) (v := .int (u0.2.2.1 y2 0)) (C := RX7) (T := TX7) (N := 4) hx hb hts i_X7 hown hK hP m_y2 (cF7 k_y2) rfl 0 (by decide) (hts (.fieldLink RX11 211 "BellowsRow$Row" "is" "Z") (by decide +kernel)) (fun _ h9 => h9) rfl dX11_write_17 ?_
    have g5 := (hu y2 m_y2).2.2.2 0
    rw [k_y2] at g5
    replace g5 : 0 ≤ (u0.2.2.1 y2 0).toInt ∧ (u0.2.2.1 y2 0).toInt ≤ 1 := g5
    refine lv_if_ne (tgt := 26) hx hb dX11_write_20 (by decide) (fun c6 => ?_) (fun c6 => ?_)
    · refine lv_iload_n hx hb dX11_write_26 rfl (lv_at hl 3 rfl) ?_
      refine lv_if_lt (tgt := 39) hx hb dX11_write_27 (by decide) (fun c7 => ?_) (fun c7 => ?_)
      · refine lv_bipush (v := (-7)) hx hb dX11_write_39 (by decide) ?_
        exact W.iret (v := (-7)) hx hb hr (fun t ht hW => ⟨⟨(-7), u0, rfl, ⟨hu, hp, Or.inr ⟨(by ((try simp only [i_lt, i_le, i_eq, Int32.toInt_toInt64, Int32.reduceToInt, Int64.reduceToInt, true_and, and_true, false_and, and_false, false_or, or_false, true_or, or_true, not_true_eq_false, not_false_eq_true, ne_eq, forall_const, true_implies, false_implies, implies_true] at f4 g5 c6 c7 ⊢) <;> omega)), (by ((try simp only [i_lt, i_le, i_eq, Int32.toInt_toInt64, Int32.reduceToInt, Int64.reduceToInt, true_and, and_true, false_and, and_false, false_or, or_false, true_or, or_true, not_true_eq_false, not_false_eq_true, ne_eq, forall_const, true_implies, false_implies, implies_true] at f4 g5 c6 c7 ⊢) <;> omega)), y2, n_y2, (by unfold AWr; ((try simp only [i_lt, i_le, i_eq, Int32.toInt_toInt64, Int32.reduceToInt, Int64.reduceToInt, true_and, and_true, false_and, and_false, false_or, or_false, true_or, or_true, not_true_eq_false, not_false_eq_true, ne_eq, forall_const, true_implies, false_implies, implies_true] at f4 g5 c6 c7 ⊢) <;> omega))⟩⟩, by rw [ht]; exact hP, hD⟩, hS.F ht⟩) hS.2.2 dX11_write_41
      · refine lv_iload_n hx hb dX11_write_30 rfl (lv_at hl 3 rfl) ?_
        refine lv_aload hx hb dX11_write_31 (lv_at hl 0 rfl) ?_
        refine pget (ci := 7) (v := .int (u0.2.2.1 y2 2)) (C := RX7) (T := TX7) (N := 4) hx hb hts i_X7 hown hK hP m_y2 (cF7 k_y2) rfl 2 (by decide) (hts (.fieldLink RX11 328 "BellowsRow$Row" "size" "I") (by decide +kernel)) (fun _ h9 => h9) rfl dX11_write_33 ?_
        have g8 := (hu y2 m_y2).2.2.2 2
        rw [k_y2] at g8
        replace g8 : 0 ≤ (u0.2.2.1 y2 2).toInt ∧ (u0.2.2.1 y2 2).toInt ≤ 60 := g8
        refine lv_icmp_lt (tgt := 42) hx hb dX11_write_36 (by decide) (fun c9 => ?_) (fun c9 => ?_)
        · have b10 := Int32.toInt_lt p2
          have ab10 := Int32.le_toInt p2
          refine lv_aload hx hb dX11_write_42 (lv_at hl 0 rfl) ?_
          refine lv_iload_n hx hb dX11_write_44 rfl (lv_at hl 3 rfl) ?_
          refine lv_lload_n hx hb dX11_write_45 rfl (lv_at hl 4 rfl) ?_
          refine wvV (C := RX7) (As := [.int p2, .long p3]) (rest := []) ⟨hx, hb, hml, hown, hts⟩ (fun sz => t2_X7_set l D k u0 hu y2 m_y2 k_y2 p2 p3 sz) (cwV 2 hts gX11_write_X7_set rfl rfl rfl (by decide +kernel) ⟨Nat.le_of_ble_eq_true rfl, Nat.le_of_ble_eq_true rfl⟩) hP hK hD hN hS hA (precv hK hP m_y2 (cF7 k_y2) rfl) rfl hl.1 rfl (Nat.le_of_ble_eq_true rfl) dX11_write_46 ⟨Nat.le_of_ble_eq_true rfl, Nat.le_of_ble_eq_true rfl⟩ (fun u11 H locs hq hP hD hS => ?_)
          obtain ⟨hu, hxu11, hru11⟩ := hq
          have k_y2 : u11.2.1 y2 = 7 := (hxu11 y2 m_y2).2.1.trans k_y2
          have m_y2 : y2 ∈ u11.1 := (hxu11 y2 m_y2).1
          have k_h0 : u11.2.1 h0 = 11 := (hxu11 h0 m_h0).2.1.trans k_h0
          have m_h0 : h0 ∈ u11.1 := (hxu11 h0 m_h0).1
          have hp := PX.trans hp hxu11
          refine lv_iconst (v := 0) hx hb dX11_write_49 (by decide) ?_
          exact W.iret (v := 0) hx hb hr (fun t ht hW => ⟨⟨0, u11, rfl, ⟨hu, hp, Or.inr ⟨(by ((try simp only [i_lt, i_le, i_eq, Int32.toInt_toInt64, Int32.reduceToInt, Int64.reduceToInt, true_and, and_true, false_and, and_false, false_or, or_false, true_or, or_true, not_true_eq_false, not_false_eq_true, ne_eq, forall_const, true_implies, false_implies, implies_true] at f4 g5 c6 c7 g8 c9 b10 ab10 ⊢) <;> omega)), (by ((try simp only [i_lt, i_le, i_eq, Int32.toInt_toInt64, Int32.reduceToInt, Int64.reduceToInt, true_and, and_true, false_and, and_false, false_or, or_false, true_or, or_true, not_true_eq_false, not_false_eq_true, ne_eq, forall_const, true_implies, false_implies, implies_true] at f4 g5 c6 c7 g8 c9 b10 ab10 ⊢) <;> omega)), y2, n_y2, (by unfold AWr; ((try simp only [i_lt, i_le, i_eq, Int32.toInt_toInt64, Int32.reduceToInt, Int64.reduceToInt, true_and, and_true, false_and, and_false, false_or, or_false, true_or, or_true, not_true_eq_false, not_false_eq_true, ne_eq, forall_const, true_implies, false_implies, implies_true] at f4 g5 c6 c7 g8 c9 b10 ab10 ⊢) <;> omega))⟩⟩, by rw [ht]; exact hP, hD⟩, hS.F ht⟩) hS.2.2 dX11_write_50
        · have b12 := Int32.toInt_lt p2
          have ab12 := Int32.le_toInt p2
          refine lv_bipush (v := (-7)) hx hb dX11_write_39 (by decide) ?_
          exact W.iret (v := (-7)) hx hb hr (fun t ht hW => ⟨⟨(-7), u0, rfl, ⟨hu, hp, Or.inr ⟨(by ((try simp only [i_lt, i_le, i_eq, Int32.toInt_toInt64, Int32.reduceToInt, Int64.reduceToInt, true_and, and_true, false_and, and_false, false_or, or_false, true_or, or_true, not_true_eq_false, not_false_eq_true, ne_eq, forall_const, true_implies, false_implies, implies_true] at f4 g5 c6 c7 g8 c9 b12 ab12 ⊢) <;> omega)), (by ((try simp only [i_lt, i_le, i_eq, Int32.toInt_toInt64, Int32.reduceToInt, Int64.reduceToInt, true_and, and_true, false_and, and_false, false_or, or_false, true_or, or_true, not_true_eq_false, not_false_eq_true, ne_eq, forall_const, true_implies, false_implies, implies_true] at f4 g5 c6 c7 g8 c9 b12 ab12 ⊢) <;> omega)), y2, n_y2, (by unfold AWr; ((try simp only [i_lt, i_le, i_eq, Int32.toInt_toInt64, Int32.reduceToInt, Int64.reduceToInt, true_and, and_true, false_and, and_false, false_or, or_false, true_or, or_true, not_true_eq_false, not_false_eq_true, ne_eq, forall_const, true_implies, false_implies, implies_true] at f4 g5 c6 c7 g8 c9 b12 ab12 ⊢) <;> omega))⟩⟩, by rw [ht]; exact hP, hD⟩, hS.F ht⟩) hS.2.2 dX11_write_41
    · refine lv_bipush (v := (-6)) hx hb dX11_write_23 (by decide) ?_
      exact W.iret (v := (-6)) hx hb hr (fun t ht hW => ⟨⟨(-6), u0, rfl, ⟨hu, hp, Or.inr ⟨(by ((try simp only [i_lt, i_le, i_eq, Int32.toInt_toInt64, Int32.reduceToInt, Int64.reduceToInt, true_and, and_true, false_and, and_false, false_or, or_false, true_or, or_true, not_true_eq_false, not_false_eq_true, ne_eq, forall_const, true_implies, false_implies, implies_true] at f4 g5 c6 ⊢) <;> omega)), (by ((try simp only [i_lt, i_le, i_eq, Int32.toInt_toInt64, Int32.reduceToInt, Int64.reduceToInt, true_and, and_true, false_and, and_false, false_or, or_false, true_or, or_true, not_true_eq_false, not_false_eq_true, ne_eq, forall_const, true_implies, false_implies, implies_true] at f4 g5 c6 ⊢) <;> omega)), y2, n_y2, (by unfold AWr; ((try simp only [i_lt, i_le, i_eq, Int32.toInt_toInt64, Int32.reduceToInt, Int64.reduceToInt, true_and, and_true, false_and, and_false, false_or, or_false, true_or, or_true, not_true_eq_false, not_false_eq_true, ne_eq, forall_const, true_implies, false_implies, implies_true] at f4 g5 c6 ⊢) <;> omega))⟩⟩, by rw [ht]; exact hP, hD⟩, hS.F ht⟩) hS.2.2 dX11_write_25
set_option maxHeartbeats 4000000 in
set_option maxRecDepth 100000 in
theorem t2_X11_paste (l : Launch) (D : va_G) (k : Nat → ClassId) (u0 : PSt) (hu : WT u0) (h0 : Nat) (m_h0 : h0 ∈ u0.1) (k_h0 : u0.2.1 h0 = 11) (p1 : Int32) (p2 : Int32) (p3 : Int32) (p4 : Int32) (p5 : Int32) (sz : Nat) : Met l yX11_paste wsX11_paste ({ frames := 1, cells := 0, slots := 0, locals := 60 }) (PreM D k sz (PW k u0) [.ref h0, .int p1, .int p2, .int p3, .int p4, .int p5]) (va_Qi (fun r v => WT v ∧ PX u0 v ∧ CPa u0 h0 p1 p2 p3 p4 p5 r.toInt) (WB D (va_A (PW k u0) sz) (PW k)) (va_A (PW k u0) sz)) 0 0 (va_A (PW k u0) sz) := by
  refine Met.ofW (cc := cX11_paste) (maxL := 8) (ret := (some .int)) (by decide) rfl ?_
  intro p e s m args below meth c s₁ B hml hv
  obtain ⟨rfl, hsz, hP, hK, hD0, hN⟩ := hv
  have hx := B.exec
  have hb := B.bytes
  have hr := B.returns
  have hts := atoms_spec (ws := wsX11_paste) B.pre
  have hown : s.vm.findClass RX11 = some m.cls := findClass_of_methodNamed B.named
  have hlocks := B.notSynchronized
  have i_X7 : ∀ w ∈ wsX70, w ∈ wsX11_paste := by decide +kernel
  subst hsz
  have hD := hD0.self (sz := s.heap.size)
  generalize hAe : va_A (PW k u0) s.heap.size = A at hD ⊢
  have hA : ∀ q : Nat, s.heap.size ≤ q → A q := fun q h => by rw [← hAe]; exact Or.inr h
  have hS : va_S A s.heap s.heap [] := va_S.rf
  have hp : PX u0 u0 := PX.rf
  have hl := lv_entry ([.ref h0, .int p1, .int p2, .int p3, .int p4, .int p5]) (n := 8) (Nat.le_of_ble_eq_true rfl)
  rw [lg_entry_eq]
  generalize (lg_sl ([.ref h0, .int p1, .int p2, .int p3, .int p4, .int p5]) ++ List.replicate (8 - (lg_sl ([.ref h0, .int p1, .int p2, .int p3, .int p4, .int p5])).length) Slot.unset).toArray = ls at hl ⊢
  have hl : lv_has ls 8 [(0, .ref h0), (1, .int p1), (2, .int p2), (3, .int p3), (4, .int p4), (5, .int p5)] := hl
  refine lv_aload_n hx hb dX11_paste_0 rfl (lv_at hl 0 rfl) ?_
  refine lv_iload_n hx hb dX11_paste_1 rfl (lv_at hl 1 rfl) ?_
  refine rvq (C := RX11) (As := [.int p1]) (rest := []) ⟨hx, hb, hml, hown, hts⟩ (t2_X11_slotAt l D k u0 hu h0 m_h0 k_h0 p1) (cwV 1 hts gX11_paste_X11_slotAt rfl rfl rfl (by decide +kernel) ⟨Nat.le_of_ble_eq_true rfl, Nat.le_of_ble_eq_true rfl⟩) hP hK (precv hK hP m_h0 (cF11 k_h0) rfl) rfl hl.1 rfl (Nat.le_of_ble_eq_true rfl) dX11_paste_2 ⟨Nat.le_of_ble_eq_true rfl, Nat.le_of_ble_eq_true rfl⟩ (fun r1 hr1 => ?_)
  have o_r1 := hr1.1
  have z_r1 := hr1.2.1
  rcases hqy2 : r1 with _ | y2
  · have f3 : p1.toInt < 0 ∨ 3 < p1.toInt := by have z := z_r1; rw [hqy2] at z; exact z
    have hl : lv_has ls 8 [(0, .ref h0), (1, .int p1), (2, .int p2), (3, .int p3), (4, .int p4), (5, .int p5)] := by first | exact hl | (rw [hqy2] at hl; exact hl)
    refine W.eq (g2 := F0 m 5 ls [.null]) (by first | rfl | (rw [hqy2]; rfl)) ?_
    refine lv_astoreN (lv' := [(6, .null), (0, .ref h0), (1, .int p1), (2, .int p2), (3, .int p3), (4, .int p4), (5, .int p5)]) hx hb dX11_paste_5 hl (by decide) rfl (fun ls hl => ?_)
    refine lv_aload_n hx hb dX11_paste_7 rfl (lv_at hl 1 rfl) ?_
    refine lv_iload_n hx hb dX11_paste_8 rfl (lv_at hl 4 rfl) ?_
    refine rvq (C := RX11) (As := [.int p3]) (rest := []) ⟨hx, hb, hml, hown, hts⟩ (t2_X11_slotAt l D k u0 hu h0 m_h0 k_h0 p3) (cwV 1 hts gX11_paste_X11_slotAt rfl rfl rfl (by decide +kernel) ⟨Nat.le_of_ble_eq_true rfl, Nat.le_of_ble_eq_true rfl⟩) hP hK (precv hK hP m_h0 (cF11 k_h0) rfl) rfl hl.1 rfl (Nat.le_of_ble_eq_true rfl) dX11_paste_9 ⟨Nat.le_of_ble_eq_true rfl, Nat.le_of_ble_eq_true rfl⟩ (fun r4 hr4 => ?_)
    have o_r4 := hr4.1
    have z_r4 := hr4.2.1
    rcases hqy5 : r4 with _ | y5
    · have f6 : p3.toInt < 0 ∨ 3 < p3.toInt := by have z := z_r4; rw [hqy5] at z; exact z
      have hl : lv_has ls 8 [(6, .null), (0, .ref h0), (1, .int p1), (2, .int p2), (3, .int p3), (4, .int p4), (5, .int p5)] := by first | exact hl | (rw [hqy5] at hl; exact hl)
      refine W.eq (g2 := F0 m 12 ls [.null]) (by first | rfl | (rw [hqy5]; rfl)) ?_
      refine lv_astoreN (lv' := [(7, .null), (6, .null), (0, .ref h0), (1, .int p1), (2, .int p2), (3, .int p3), (4, .int p4), (5, .int p5)]) hx hb dX11_paste_12 hl (by decide) rfl (fun ls hl => ?_)
      refine lv_aloadN hx hb dX11_paste_14 (lv_at hl 1 rfl) ?_
      refine lv_ifnullN (tgt := 24) hx hb dX11_paste_16 (by decide) ?_
      refine lv_bipush (v := (-2)) hx hb dX11_paste_24 (by decide) ?_
      exact W.iret (v := (-2)) hx hb hr (fun t ht hW => ⟨⟨(-2), u0, rfl, ⟨hu, hp, Or.inl ⟨(by ((try simp only [i_lt, i_le, i_eq, Int32.toInt_toInt64, Int32.reduceToInt, Int64.reduceToInt, true_and, and_true, false_and, and_false, false_or, or_false, true_or, or_true, not_true_eq_false, not_false_eq_true, ne_eq, forall_const, true_implies, false_implies, implies_true] at f3 f6 ⊢) <;> omega)), by decide⟩⟩, by rw [ht]; exact hP, hD⟩, hS.F ht⟩) hS.2.2 dX11_paste_26
    · have f7 : 0 ≤ p3.toInt ∧ p3.toInt ≤ 3 := by have z := z_r4; rw [hqy5] at z; exact z
      obtain ⟨m_y5, k_y5⟩ := o_r4 y5 hqy5
      have n_y5 := (hr4.2.2) y5 hqy5
      have hl : lv_has ls 8 [(6, .null), (0, .ref h0), (1, .int p1), (2, .int p2), (3, .int p3), (4, .int p4), (5, .int p5)] := by first | exact hl | (rw [hqy5] at hl; exact hl)
      refine W.eq (g2 := F0 m 12 ls [.ref y5]) (by first | rfl | (rw [hqy5]; rfl)) ?_
      refine lv_astore (lv' := [(7, .ref y5), (6, .null), (0, .ref h0), (1, .int p1), (2, .int p2), (3, .int p3), (4, .int p4), (5, .int p5)]) hx hb dX11_paste_12 hl (by decide) rfl (fun ls hl => ?_)
      refine lv_aloadN hx hb dX11_paste_14 (lv_at hl 1 rfl) ?_
      refine lv_ifnullN (tgt := 24) hx hb dX11_paste_16 (by decide) ?_
      refine lv_bipush (v := (-2)) hx hb dX11_paste_24 (by decide) ?_
      exact W.iret (v := (-2)) hx hb hr (fun t ht hW => ⟨⟨(-2), u0, rfl, ⟨hu, hp, Or.inl ⟨(by ((try simp only [i_lt, i_le, i_eq, Int32.toInt_toInt64, Int32.reduceToInt, Int64.reduceToInt, true_and, and_true, false_and, and_false, false_or, or_false, true_or, or_true, not_true_eq_false, not_false_eq_true, ne_eq, forall_const, true_implies, false_implies, implies_true] at f3 f7 ⊢) <;> omega)), by decide⟩⟩, by rw [ht]; exact hP, hD⟩, hS.F ht⟩) hS.2.2 dX11_paste_26
  · have f8 : 0 ≤ p1.toInt ∧ p1.toInt ≤ 3 := by have z := z_r1; rw [hqy2] at z; exact z
    obtain ⟨m_y2, k_y2⟩ := o_r1 y2 hqy2
    have n_y2 := (hr1.2.2) y2 hqy2
    have hl : lv_has ls 8 [(0, .ref h0), (1, .int p1), (2, .int p2), (3, .int p3), (4, .int p4), (5, .int p5)] := by first | exact hl | (rw [hqy2] at hl; exact hl)
    refine W.eq (g2 := F0 m 5 ls [.ref y2]) (by first | rfl | (rw [hqy2]; rfl)) ?_
    refine lv_astore (lv' := [(6, .ref y2), (0, .ref h0), (1, .int p1), (2, .int p2), (3, .int p3), (4, .int p4), (5, .int p5)]) hx hb dX11_paste_5 hl (by decide) rfl (fun ls hl => ?_)
    refine lv_aload_n hx hb dX11_paste_7 rfl (lv_at hl 1 rfl) ?_
    refine lv_iload_n hx hb dX11_paste_8 rfl (lv_at hl 4 rfl) ?_
    refine rvq (C := RX11) (As := [.int p3]) (rest := []) ⟨hx, hb, hml, hown, hts⟩ (t2_X11_slotAt l D k u0 hu h0 m_h0 k_h0 p3) (cwV 1 hts gX11_paste_X11_slotAt rfl rfl rfl (by decide +kernel) ⟨Nat.le_of_ble_eq_true rfl, Nat.le_of_ble_eq_true rfl⟩) hP hK (precv hK hP m_h0 (cF11 k_h0) rfl) rfl hl.1 rfl (Nat.le_of_ble_eq_true rfl) dX11_paste_9 ⟨Nat.le_of_ble_eq_true rfl, Nat.le_of_ble_eq_true rfl⟩ (fun r9 hr9 => ?_)
    have o_r9 := hr9.1
    have z_r9 := hr9.2.1
    rcases hqy10 : r9 with _ | y10
    · have f11 : p3.toInt < 0 ∨ 3 < p3.toInt := by have z := z_r9; rw [hqy10] at z; exact z
      have hl : lv_has ls 8 [(6, .ref y2), (0, .ref h0), (1, .int p1), (2, .int p2), (3, .int p3), (4, .int p4), (5, .int p5)] := by first | exact hl | (rw [hqy10] at hl; exact hl)
      refine W.eq (g2 := F0 m 12 ls [.null]) (by first | rfl | (rw [hqy10]; rfl)) ?_
      refine lv_astoreN (lv' := [(7, .null), (6, .ref y2), (0, .ref h0), (1, .int p1), (2, .int p2), (3, .int p3), (4, .int p4), (5, .int p5)]) hx hb dX11_paste_12 hl (by decide) rfl (fun ls hl => ?_)
      refine lv_aload hx hb dX11_paste_14 (lv_at hl 1 rfl) ?_
      refine lv_ifnull hx hb dX11_paste_16 ?_
      refine lv_aloadN hx hb dX11_paste_19 (lv_at hl 0 rfl) ?_
      refine lv_ifnonnullN hx hb dX11_paste_21 ?_
      refine lv_bipush (v := (-2)) hx hb dX11_paste_24 (by decide) ?_
      exact W.iret (v := (-2)) hx hb hr (fun t ht hW => ⟨⟨(-2), u0, rfl, ⟨hu, hp, Or.inl ⟨(by ((try simp only [i_lt, i_le, i_eq, Int32.toInt_toInt64, Int32.reduceToInt, Int64.reduceToInt, true_and, and_true, false_and, and_false, false_or, or_false, true_or, or_true, not_true_eq_false, not_false_eq_true, ne_eq, forall_const, true_implies, false_implies, implies_true] at f8 f11 ⊢) <;> omega)), by decide⟩⟩, by rw [ht]; exact hP, hD⟩, hS.F ht⟩) hS.2.2 dX11_paste_26
    · have f12 : 0 ≤ p3.toInt ∧ p3.toInt ≤ 3 := by have z := z_r9; rw [hqy10] at z; exact z
      obtain ⟨m_y10, k_y10⟩ := o_r9 y10 hqy10
      have n_y10 := (hr9.2.2) y10 hqy10
      have hl : lv_has ls 8 [(6, .ref y2), (0, .ref h0), (1, .int p1), (2, .int p2), (3, .int p3), (4, .int p4), (5, .int p5)] := by first | exact hl | (rw [hqy10] at hl; exact hl)
      refine W.eq (g2 := F0 m 12 ls [.ref y10]) (by first | rfl | (rw [hqy10]; rfl)) ?_
      refine lv_astore (lv' := [(7, .ref y10), (6, .ref y2), (0, .ref h0), (1, .int p1), (2, .int p2), (3, .int p3), (4, .int p4), (5, .int p5)]) hx hb dX11_paste_12 hl (by decide) rfl (fun ls hl => ?_)
      refine lv_aload hx hb dX11_paste_14 (lv_at hl 1 rfl) ?_
      refine lv_ifnull hx hb dX11_paste_16 ?_
      refine lv_aload hx hb dX11_paste_19 (lv_at hl 0 rfl) ?_
      refine lv_ifnonnull (tgt := 27) hx hb dX11_paste_21 (by decide) ?_
      refine lv_aload hx hb dX11_paste_27 (lv_at hl 1 rfl) ?_
      refine pget (ci := 7) (v := .int (u0.2.2.1 y2 0)) (C := RX7) (T := TX7) (N := 4) hx hb hts i_X7 hown hK hP m_y2 (cF7 k_y2) rfl 0 (by decide) (hts (.fieldLink RX11 211 "BellowsRow$Row" "is" "Z") (by decide +kernel)) (fun _ h9 => h9) rfl dX11_paste_29 ?_
      have g13 := (hu y2 m_y2).2.2.2 0
      rw [k_y2] at g13
      replace g13 : 0 ≤ (u0.2.2.1 y2 0).toInt ∧ (u0.2.2.1 y2 0).toInt ≤ 1 := g13
      refine lv_if_eq (tgt := 43) hx hb dX11_paste_32 (by decide) (fun c14 => ?_) (fun c14 => ?_)
      · refine lv_bipush (v := (-6)) hx hb dX11_paste_43 (by decide) ?_
        exact W.iret (v := (-6)) hx hb hr (fun t ht hW => ⟨⟨(-6), u0, rfl, ⟨hu, hp, Or.inr ⟨(by ((try simp only [i_lt, i_le, i_eq, Int32.toInt_toInt64, Int32.reduceToInt, Int64.reduceToInt, true_and, and_true, false_and, and_false, false_or, or_false, true_or, or_true, not_true_eq_false, not_false_eq_true, ne_eq, forall_const, true_implies, false_implies, implies_true] at f8 f12 g13 c14 ⊢) <;> omega)), (by ((try simp only [i_lt, i_le, i_eq, Int32.toInt_toInt64, Int32.reduceToInt, Int64.reduceToInt, true_and, and_true, false_and, and_false, false_or, or_false, true_or, or_true, not_true_eq_false, not_false_eq_true, ne_eq, forall_const, true_implies, false_implies, implies_true] at f8 f12 g13 c14 ⊢) <;> omega)), (by ((try simp only [i_lt, i_le, i_eq, Int32.toInt_toInt64, Int32.reduceToInt, Int64.reduceToInt, true_and, and_true, false_and, and_false, false_or, or_false, true_or, or_true, not_true_eq_false, not_false_eq_true, ne_eq, forall_const, true_implies, false_implies, implies_true] at f8 f12 g13 c14 ⊢) <;> omega)), (by ((try simp only [i_lt, i_le, i_eq, Int32.toInt_toInt64, Int32.reduceToInt, Int64.reduceToInt, true_and, and_true, false_and, and_false, false_or, or_false, true_or, or_true, not_true_eq_false, not_false_eq_true, ne_eq, forall_const, true_implies, false_implies, implies_true] at f8 f12 g13 c14 ⊢) <;> omega)), y2, y10, n_y2, n_y10, (by unfold APa; ((try simp only [i_lt, i_le, i_eq, Int32.toInt_toInt64, Int32.reduceToInt, Int64.reduceToInt, true_and, and_true, false_and, and_false, false_or, or_false, true_or, or_true, not_true_eq_false, not_false_eq_true, ne_eq, forall_const, true_implies, false_implies, implies_true] at f8 f12 g13 c14 ⊢) <;> omega))⟩⟩, by rw [ht]; exact hP, hD⟩, hS.F ht⟩) hS.2.2 dX11_paste_45
      · refine lv_aload hx hb dX11_paste_35 (lv_at hl 0 rfl) ?_
        refine pget (ci := 7) (v := .int (u0.2.2.1 y10 0)) (C := RX7) (T := TX7) (N := 4) hx hb hts i_X7 hown hK hP m_y10 (cF7 k_y10) rfl 0 (by decide) (hts (.fieldLink RX11 211 "BellowsRow$Row" "is" "Z") (by decide +kernel)) (fun _ h9 => h9) rfl dX11_paste_37 ?_
        have g15 := (hu y10 m_y10).2.2.2 0
        rw [k_y10] at g15
        replace g15 : 0 ≤ (u0.2.2.1 y10 0).toInt ∧ (u0.2.2.1 y10 0).toInt ≤ 1 := g15
        refine lv_if_ne (tgt := 46) hx hb dX11_paste_40 (by decide) (fun c16 => ?_) (fun c16 => ?_)
        · refine lv_aload hx hb dX11_paste_46 (lv_at hl 1 rfl) ?_
          refine pget (ci := 7) (v := .int (u0.2.2.1 y2 1)) (C := RX7) (T := TX7) (N := 4) hx hb hts i_X7 hown hK hP m_y2 (cF7 k_y2) rfl 1 (by decide) (hts (.fieldLink RX11 344 "BellowsRow$Row" "width" "I") (by decide +kernel)) (fun _ h9 => h9) rfl dX11_paste_48 ?_
          have g17 := (hu y2 m_y2).2.2.2 1
          rw [k_y2] at g17
          replace g17 : 0 ≤ (u0.2.2.1 y2 1).toInt ∧ (u0.2.2.1 y2 1).toInt ≤ 3 := g17
          refine lv_aload hx hb dX11_paste_51 (lv_at hl 0 rfl) ?_
          refine pget (ci := 7) (v := .int (u0.2.2.1 y10 1)) (C := RX7) (T := TX7) (N := 4) hx hb hts i_X7 hown hK hP m_y10 (cF7 k_y10) rfl 1 (by decide) (hts (.fieldLink RX11 344 "BellowsRow$Row" "width" "I") (by decide +kernel)) (fun _ h9 => h9) rfl dX11_paste_53 ?_
          have g18 := (hu y10 m_y10).2.2.2 1
          rw [k_y10] at g18
          replace g18 : 0 ≤ (u0.2.2.1 y10 1).toInt ∧ (u0.2.2.1 y10 1).toInt ≤ 3 := g18
          refine lv_icmp_eq (tgt := 62) hx hb dX11_paste_56 (by decide) (fun c19 => ?_) (fun c19 => ?_)
          · refine lv_aload hx hb dX11_paste_62 (lv_at hl 1 rfl) ?_
            refine lv_iload_n hx hb dX11_paste_64 rfl (lv_at hl 4 rfl) ?_
            refine lv_iload hx hb dX11_paste_65 (lv_at hl 7 rfl) ?_
            refine rvi (C := RX7) (As := [.int p2, .int p5]) (rest := []) ⟨hx, hb, hml, hown, hts⟩ (t2_X7_hasSpan l D k u0 hu y2 m_y2 k_y2 p2 p5) (cwV 2 hts gX11_paste_X7_hasSpan rfl rfl rfl (by decide +kernel) ⟨Nat.le_of_ble_eq_true rfl, Nat.le_of_ble_eq_true rfl⟩) hP hK (precv hK hP m_y2 (cF7 k_y2) rfl) rfl hl.1 rfl (Nat.le_of_ble_eq_true rfl) dX11_paste_67 ⟨Nat.le_of_ble_eq_true rfl, Nat.le_of_ble_eq_true rfl⟩ (fun r20 hr20 => ?_)
            have g21 := (hu y2 m_y2).2.2.2 2
            rw [k_y2] at g21
            replace g21 : 0 ≤ (u0.2.2.1 y2 2).toInt ∧ (u0.2.2.1 y2 2).toInt ≤ 60 := g21
            refine lv_if_eq (tgt := 85) hx hb dX11_paste_70 (by decide) (fun c22 => ?_) (fun c22 => ?_)
            · refine lv_bipush (v := (-7)) hx hb dX11_paste_85 (by decide) ?_
              exact W.iret (v := (-7)) hx hb hr (fun t ht hW => ⟨⟨(-7), u0, rfl, ⟨hu, hp, Or.inr ⟨(by ((try simp only [i_lt, i_le, i_eq, Int32.toInt_toInt64, Int32.reduceToInt, Int64.reduceToInt, true_and, and_true, false_and, and_false, false_or, or_false, true_or, or_true, not_true_eq_false, not_false_eq_true, ne_eq, forall_const, true_implies, false_implies, implies_true] at f8 f12 g13 c14 g15 c16 g17 g18 c19 hr20 g21 c22 ⊢) <;> omega)), (by ((try simp only [i_lt, i_le, i_eq, Int32.toInt_toInt64, Int32.reduceToInt, Int64.reduceToInt, true_and, and_true, false_and, and_false, false_or, or_false, true_or, or_true, not_true_eq_false, not_false_eq_true, ne_eq, forall_const, true_implies, false_implies, implies_true] at f8 f12 g13 c14 g15 c16 g17 g18 c19 hr20 g21 c22 ⊢) <;> omega)), (by ((try simp only [i_lt, i_le, i_eq, Int32.toInt_toInt64, Int32.reduceToInt, Int64.reduceToInt, true_and, and_true, false_and, and_false, false_or, or_false, true_or, or_true, not_true_eq_false, not_false_eq_true, ne_eq, forall_const, true_implies, false_implies, implies_true] at f8 f12 g13 c14 g15 c16 g17 g18 c19 hr20 g21 c22 ⊢) <;> omega)), (by ((try simp only [i_lt, i_le, i_eq, Int32.toInt_toInt64, Int32.reduceToInt, Int64.reduceToInt, true_and, and_true, false_and, and_false, false_or, or_false, true_or, or_true, not_true_eq_false, not_false_eq_true, ne_eq, forall_const, true_implies, false_implies, implies_true] at f8 f12 g13 c14 g15 c16 g17 g18 c19 hr20 g21 c22 ⊢) <;> omega)), y2, y10, n_y2, n_y10, (by unfold APa; ((try simp only [i_lt, i_le, i_eq, Int32.toInt_toInt64, Int32.reduceToInt, Int64.reduceToInt, true_and, and_true, false_and, and_false, false_or, or_false, true_or, or_true, not_true_eq_false, not_false_eq_true, ne_eq, forall_const, true_implies, false_implies, implies_true] at f8 f12 g13 c14 g15 c16 g17 g18 c19 hr20 g21 c22 ⊢) <;> omega))⟩⟩, by rw [ht]; exact hP, hD⟩, hS.F ht⟩) hS.2.2 dX11_paste_87
            · refine lv_aload hx hb dX11_paste_73 (lv_at hl 0 rfl) ?_
              refine lv_iload hx hb dX11_paste_75 (lv_at hl 6 rfl) ?_
              refine lv_iload hx hb dX11_paste_77 (lv_at hl 7 rfl) ?_
              refine rvi (C := RX7) (As := [.int p4, .int p5]) (rest := []) ⟨hx, hb, hml, hown, hts⟩ (t2_X7_hasSpan l D k u0 hu y10 m_y10 k_y10 p4 p5) (cwV 2 hts gX11_paste_X7_hasSpan rfl rfl rfl (by decide +kernel) ⟨Nat.le_of_ble_eq_true rfl, Nat.le_of_ble_eq_true rfl⟩) hP hK (precv hK hP m_y10 (cF7 k_y10) rfl) rfl hl.1 rfl (Nat.le_of_ble_eq_true rfl) dX11_paste_79 ⟨Nat.le_of_ble_eq_true rfl, Nat.le_of_ble_eq_true rfl⟩ (fun r23 hr23 => ?_)
              have g24 := (hu y10 m_y10).2.2.2 2
              rw [k_y10] at g24
              replace g24 : 0 ≤ (u0.2.2.1 y10 2).toInt ∧ (u0.2.2.1 y10 2).toInt ≤ 60 := g24
              refine lv_if_ne (tgt := 88) hx hb dX11_paste_82 (by decide) (fun c25 => ?_) (fun c25 => ?_)
              · refine lv_aload hx hb dX11_paste_88 (lv_at hl 1 rfl) ?_
                refine pget (ci := 7) (v := va_rf (u0.2.2.2.2 y2 3)) (C := RX7) (T := TX7) (N := 4) hx hb hts i_X7 hown hK hP m_y2 (cF7 k_y2) rfl 3 (by decide) (hts (.fieldLink RX11 350 "BellowsRow$Row" "numbers" "[J") (by decide +kernel)) (fun _ h9 => h9) rfl dX11_paste_90 ?_
                obtain ⟨y26, qy26, m_y26, k_y26⟩ := (hu y2 m_y2).1 3 30 (by rw [k_y2]; rfl)
                refine W.eq (g2 := F0 m 93 ls [.ref y26]) (by rw [qy26]; rfl) ?_
                refine lv_iload_n hx hb dX11_paste_93 rfl (lv_at hl 4 rfl) ?_
                refine lv_aload hx hb dX11_paste_94 (lv_at hl 0 rfl) ?_
                refine pget (ci := 7) (v := va_rf (u0.2.2.2.2 y10 3)) (C := RX7) (T := TX7) (N := 4) hx hb hts i_X7 hown hK hP m_y10 (cF7 k_y10) rfl 3 (by decide) (hts (.fieldLink RX11 350 "BellowsRow$Row" "numbers" "[J") (by decide +kernel)) (fun _ h9 => h9) rfl dX11_paste_96 ?_
                obtain ⟨y27, qy27, m_y27, k_y27⟩ := (hu y10 m_y10).1 3 30 (by rw [k_y10]; rfl)
                refine W.eq (g2 := F0 m 99 ls [.ref y27, .int p2, .ref y26]) (by rw [qy27]; rfl) ?_
                refine lv_iload hx hb dX11_paste_99 (lv_at hl 6 rfl) ?_
                refine lv_iload hx hb dX11_paste_101 (lv_at hl 7 rfl) ?_
                refine pcpJ hx hb (hml.trans hl.1.symm) hown (hts (.methodLink RX11 354 arraycopyName) (by decide +kernel)) (hts (.native arraycopyName) (by decide +kernel)) (hts (.static arraycopyName) (by decide +kernel)) (hts (.initialized "java/lang/System") (by decide +kernel)) hK hP hD hS m_y26 k_y26 m_y27 k_y27 (by (try simp only [i_lt, i_le, i_eq, Int32.toInt_toInt64, Int32.reduceToInt, Int64.reduceToInt, true_and, and_true, false_and, and_false, false_or, or_false, true_or, or_true, not_true_eq_false, not_false_eq_true, ne_eq, forall_const, true_implies, false_implies, implies_true] at f8 f12 g13 c14 g15 c16 g17 g18 c19 hr20 g21 c22 hr23 g24 c25 ⊢) <;> omega) (Nat.le_of_ble_eq_true rfl) (Nat.le_of_ble_eq_true rfl) dX11_paste_103 (fun H locs hc hP hD hS => ?_)
                obtain ⟨u28, hu28⟩ : ∃ z, z = pCJ u0 y27 hc := ⟨_, rfl⟩
                have hu : WT (pCJ u0 y27 hc) := hu
                have hp : PX u0 (pCJ u0 y27 hc) := hp
                rw [← hu28] at hP hD hu hp
                have m_y10 : y10 ∈ u28.1 := by rw [hu28]; exact m_y10
                have k_y10 : u28.2.1 y10 = 7 := by rw [hu28]; exact k_y10
                have m_y2 : y2 ∈ u28.1 := by rw [hu28]; exact m_y2
                have k_y2 : u28.2.1 y2 = 7 := by rw [hu28]; exact k_y2
                have m_h0 : h0 ∈ u28.1 := by rw [hu28]; exact m_h0
                have k_h0 : u28.2.1 h0 = 11 := by rw [hu28]; exact k_h0
                refine lv_iconst (v := 0) hx hb dX11_paste_106 (by decide) ?_
                exact W.iret (v := 0) hx hb hr (fun t ht hW => ⟨⟨0, u28, rfl, ⟨hu, hp, Or.inr ⟨(by ((try simp only [i_lt, i_le, i_eq, Int32.toInt_toInt64, Int32.reduceToInt, Int64.reduceToInt, true_and, and_true, false_and, and_false, false_or, or_false, true_or, or_true, not_true_eq_false, not_false_eq_true, ne_eq, forall_const, true_implies, false_implies, implies_true] at f8 f12 g13 c14 g15 c16 g17 g18 c19 hr20 g21 c22 hr23 g24 c25 ⊢) <;> omega)), (by ((try simp only [i_lt, i_le, i_eq, Int32.toInt_toInt64, Int32.reduceToInt, Int64.reduceToInt, true_and, and_true, false_and, and_false, false_or, or_false, true_or, or_true, not_true_eq_false, not_false_eq_true, ne_eq, forall_const, true_implies, false_implies, implies_true] at f8 f12 g13 c14 g15 c16 g17 g18 c19 hr20 g21 c22 hr23 g24 c25 ⊢) <;> omega)), (by ((try simp only [i_lt, i_le, i_eq, Int32.toInt_toInt64, Int32.reduceToInt, Int64.reduceToInt, true_and, and_true, false_and, and_false, false_or, or_false, true_or, or_true, not_true_eq_false, not_false_eq_true, ne_eq, forall_const, true_implies, false_implies, implies_true] at f8 f12 g13 c14 g15 c16 g17 g18 c19 hr20 g21 c22 hr23 g24 c25 ⊢) <;> omega)), (by ((try simp only [i_lt, i_le, i_eq, Int32.toInt_toInt64, Int32.reduceToInt, Int64.reduceToInt, true_and, and_true, false_and, and_false, false_or, or_false, true_or, or_true, not_true_eq_false, not_false_eq_true, ne_eq, forall_const, true_implies, false_implies, implies_true] at f8 f12 g13 c14 g15 c16 g17 g18 c19 hr20 g21 c22 hr23 g24 c25 ⊢) <;> omega)), y2, y10, n_y2, n_y10, (by unfold APa; ((try simp only [i_lt, i_le, i_eq, Int32.toInt_toInt64, Int32.reduceToInt, Int64.reduceToInt, true_and, and_true, false_and, and_false, false_or, or_false, true_or, or_true, not_true_eq_false, not_false_eq_true, ne_eq, forall_const, true_implies, false_implies, implies_true] at f8 f12 g13 c14 g15 c16 g17 g18 c19 hr20 g21 c22 hr23 g24 c25 ⊢) <;> omega))⟩⟩, by rw [ht]; exact hP, hD⟩, hS.F ht⟩) hS.2.2 dX11_paste_107
              · refine lv_bipush (v := (-7)) hx hb dX11_paste_85 (by decide) ?_
                exact W.iret (v := (-7)) hx hb hr (fun t ht hW => ⟨⟨(-7), u0, rfl, ⟨hu, hp, Or.inr ⟨(by ((try simp only [i_lt, i_le, i_eq, Int32.toInt_toInt64, Int32.reduceToInt, Int64.reduceToInt, true_and, and_true, false_and, and_false, false_or, or_false, true_or, or_true, not_true_eq_false, not_false_eq_true, ne_eq, forall_const, true_implies, false_implies, implies_true] at f8 f12 g13 c14 g15 c16 g17 g18 c19 hr20 g21 c22 hr23 g24 c25 ⊢) <;> omega)), (by ((try simp only [i_lt, i_le, i_eq, Int32.toInt_toInt64, Int32.reduceToInt, Int64.reduceToInt, true_and, and_true, false_and, and_false, false_or, or_false, true_or, or_true, not_true_eq_false, not_false_eq_true, ne_eq, forall_const, true_implies, false_implies, implies_true] at f8 f12 g13 c14 g15 c16 g17 g18 c19 hr20 g21 c22 hr23 g24 c25 ⊢) <;> omega)), (by ((try simp only [i_lt, i_le, i_eq, Int32.toInt_toInt64, Int32.reduceToInt, Int64.reduceToInt, true_and, and_true, false_and, and_false, false_or, or_false, true_or, or_true, not_true_eq_false, not_false_eq_true, ne_eq, forall_const, true_implies, false_implies, implies_true] at f8 f12 g13 c14 g15 c16 g17 g18 c19 hr20 g21 c22 hr23 g24 c25 ⊢) <;> omega)), (by ((try simp only [i_lt, i_le, i_eq, Int32.toInt_toInt64, Int32.reduceToInt, Int64.reduceToInt, true_and, and_true, false_and, and_false, false_or, or_false, true_or, or_true, not_true_eq_false, not_false_eq_true, ne_eq, forall_const, true_implies, false_implies, implies_true] at f8 f12 g13 c14 g15 c16 g17 g18 c19 hr20 g21 c22 hr23 g24 c25 ⊢) <;> omega)), y2, y10, n_y2, n_y10, (by unfold APa; ((try simp only [i_lt, i_le, i_eq, Int32.toInt_toInt64, Int32.reduceToInt, Int64.reduceToInt, true_and, and_true, false_and, and_false, false_or, or_false, true_or, or_true, not_true_eq_false, not_false_eq_true, ne_eq, forall_const, true_implies, false_implies, implies_true] at f8 f12 g13 c14 g15 c16 g17 g18 c19 hr20 g21 c22 hr23 g24 c25 ⊢) <;> omega))⟩⟩, by rw [ht]; exact hP, hD⟩, hS.F ht⟩) hS.2.2 dX11_paste_87
          · refine lv_bipush (v := (-8)) hx hb dX11_paste_59 (by decide) ?_
            exact W.iret (v := (-8)) hx hb hr (fun t ht hW => ⟨⟨(-8), u0, rfl, ⟨hu, hp, Or.inr ⟨(by ((try simp only [i_lt, i_le, i_eq, Int32.toInt_toInt64, Int32.reduceToInt, Int64.reduceToInt, true_and, and_true, false_and, and_false, false_or, or_false, true_or, or_true, not_true_eq_false, not_false_eq_true, ne_eq, forall_const, true_implies, false_implies, implies_true] at f8 f12 g13 c14 g15 c16 g17 g18 c19 ⊢) <;> omega)), (by ((try simp only [i_lt, i_le, i_eq, Int32.toInt_toInt64, Int32.reduceToInt, Int64.reduceToInt, true_and, and_true, false_and, and_false, false_or, or_false, true_or, or_true, not_true_eq_false, not_false_eq_true, ne_eq, forall_const, true_implies, false_implies, implies_true] at f8 f12 g13 c14 g15 c16 g17 g18 c19 ⊢) <;> omega)), (by ((try simp only [i_lt, i_le, i_eq, Int32.toInt_toInt64, Int32.reduceToInt, Int64.reduceToInt, true_and, and_true, false_and, and_false, false_or, or_false, true_or, or_true, not_true_eq_false, not_false_eq_true, ne_eq, forall_const, true_implies, false_implies, implies_true] at f8 f12 g13 c14 g15 c16 g17 g18 c19 ⊢) <;> omega)), (by ((try simp only [i_lt, i_le, i_eq, Int32.toInt_toInt64, Int32.reduceToInt, Int64.reduceToInt, true_and, and_true, false_and, and_false, false_or, or_false, true_or, or_true, not_true_eq_false, not_false_eq_true, ne_eq, forall_const, true_implies, false_implies, implies_true] at f8 f12 g13 c14 g15 c16 g17 g18 c19 ⊢) <;> omega)), y2, y10, n_y2, n_y10, (by unfold APa; ((try simp only [i_lt, i_le, i_eq, Int32.toInt_toInt64, Int32.reduceToInt, Int64.reduceToInt, true_and, and_true, false_and, and_false, false_or, or_false, true_or, or_true, not_true_eq_false, not_false_eq_true, ne_eq, forall_const, true_implies, false_implies, implies_true] at f8 f12 g13 c14 g15 c16 g17 g18 c19 ⊢) <;> omega))⟩⟩, by rw [ht]; exact hP, hD⟩, hS.F ht⟩) hS.2.2 dX11_paste_61
        · refine lv_bipush (v := (-6)) hx hb dX11_paste_43 (by decide) ?_
          exact W.iret (v := (-6)) hx hb hr (fun t ht hW => ⟨⟨(-6), u0, rfl, ⟨hu, hp, Or.inr ⟨(by ((try simp only [i_lt, i_le, i_eq, Int32.toInt_toInt64, Int32.reduceToInt, Int64.reduceToInt, true_and, and_true, false_and, and_false, false_or, or_false, true_or, or_true, not_true_eq_false, not_false_eq_true, ne_eq, forall_const, true_implies, false_implies, implies_true] at f8 f12 g13 c14 g15 c16 ⊢) <;> omega)), (by ((try simp only [i_lt, i_le, i_eq, Int32.toInt_toInt64, Int32.reduceToInt, Int64.reduceToInt, true_and, and_true, false_and, and_false, false_or, or_false, true_or, or_true, not_true_eq_false, not_false_eq_true, ne_eq, forall_const, true_implies, false_implies, implies_true] at f8 f12 g13 c14 g15 c16 ⊢) <;> omega)), (by ((try simp only [i_lt, i_le, i_eq, Int32.toInt_toInt64, Int32.reduceToInt, Int64.reduceToInt, true_and, and_true, false_and, and_false, false_or, or_false, true_or, or_true, not_true_eq_false, not_false_eq_true, ne_eq, forall_const, true_implies, false_implies, implies_true] at f8 f12 g13 c14 g15 c16 ⊢) <;> omega)), (by ((try simp only [i_lt, i_le, i_eq, Int32.toInt_toInt64, Int32.reduceToInt, Int64.reduceToInt, true_and, and_true, false_and, and_false, false_or, or_false, true_or, or_true, not_true_eq_false, not_false_eq_true, ne_eq, forall_const, true_implies, false_implies, implies_true] at f8 f12 g13 c14 g15 c16 ⊢) <;> omega)), y2, y10, n_y2, n_y10, (by unfold APa; ((try simp only [i_lt, i_le, i_eq, Int32.toInt_toInt64, Int32.reduceToInt, Int64.reduceToInt, true_and, and_true, false_and, and_false, false_or, or_false, true_or, or_true, not_true_eq_false, not_false_eq_true, ne_eq, forall_const, true_implies, false_implies, implies_true] at f8 f12 g13 c14 g15 c16 ⊢) <;> omega))⟩⟩, by rw [ht]; exact hP, hD⟩, hS.F ht⟩) hS.2.2 dX11_paste_45
