set_option maxHeartbeats 4000000 in
set_option maxRecDepth 100000 in
theorem t_X12_rootOf (l : Launch) (D : va_G) (k : Nat → ClassId) (p1 : Int32) (g_p1 : p1.toInt ≤ 2397600) : Met l yX12_rootOf wsX12_rootOf ({ frames := 0, cells := 0, slots := 0, locals := 0 }) (PreR D k [] [.int p1]) (vp_Si (fun r => True)) 0 0 (fun _ => False) := by
  refine Met.ofW (cc := cX12_rootOf) (maxL := 2) (ret := (some .int)) (by decide) rfl ?_
  intro p e s m args below meth c s₁ B hml hv
  obtain ⟨rfl, hP, hK⟩ := hv
  have hx := B.exec
  have hb := B.bytes
  have hr := B.returns
  have hts := atoms_spec (ws := wsX12_rootOf) B.pre
  have hown : s.vm.findClass RX12 = some m.cls := findClass_of_methodNamed B.named
  have hlocks := B.notSynchronized
  have B2 : ∀ (n2 : Nat) (ls : Array Slot) (v0 : Int32) (v1 : Int32), (2147483648 - v1.toInt).toNat ≤ n2 → v0.toInt ≤ 2397600 → 0 ≤ v1.toInt ∧ v1.toInt ≤ 1548 → lv_has ls 2 [(0, .int v0), (1, .int v1)] → W p l e (headSpec wsX12_rootOf ({ frames := 0, cells := 0, slots := 0, locals := 0 })).room s m ([.int p1] : List Value).toArray below meth c s.heap [] 0 0 (MQ below (vp_Si (fun r => True)) ([.int p1] : List Value).toArray s 0 0 (fun _ => False)) (F0 m 2 ls []) := by
    intro n2
    induction n2 with
    | zero =>
      intro ls v0 v1 hn2 g_v0 g_v1 hl
      exact absurd hn2 (by have := Int32.toInt_lt v1; have := Int32.le_toInt v1; omega)
    | succ n2 ih2 =>
      intro ls v0 v1 hn2 g_v0 g_v1 hl
      refine lv_iload_n hx hb dX12_rootOf_2 rfl (lv_at hl 1 rfl) ?_
      refine lv_iconst (v := 1) hx hb dX12_rootOf_3 (by decide) ?_
      refine lv_iadd hx hb dX12_rootOf_4 ?_
      refine lv_topi (fun x1 ex1 => ?_)
      have tx1 : x1.toInt = v1.toInt + (1 : Int32).toInt := by rw [ex1]; exact i_add (by (try simp only [i_lt, i_le, i_eq, Int32.toInt_toInt64, Int32.reduceToInt, Int64.reduceToInt, true_and, and_true, false_and, and_false, false_or, or_false, true_or, or_true, not_true_eq_false, not_false_eq_true, ne_eq, forall_const, true_implies, false_implies, implies_true] at g_v0 g_v1 hn2 ⊢) <;> omega) (by (try simp only [i_lt, i_le, i_eq, Int32.toInt_toInt64, Int32.reduceToInt, Int64.reduceToInt, true_and, and_true, false_and, and_false, false_or, or_false, true_or, or_true, not_true_eq_false, not_false_eq_true, ne_eq, forall_const, true_implies, false_implies, implies_true] at g_v0 g_v1 hn2 ⊢) <;> omega)
      refine lv_iload_n hx hb dX12_rootOf_5 rfl (lv_at hl 1 rfl) ?_
      refine lv_iconst (v := 1) hx hb dX12_rootOf_6 (by decide) ?_
      refine lv_iadd hx hb dX12_rootOf_7 ?_
      refine lv_topi (fun x2 ex2 => ?_)
      have tx2 : x2.toInt = v1.toInt + (1 : Int32).toInt := by rw [ex2]; exact i_add (by (try simp only [i_lt, i_le, i_eq, Int32.toInt_toInt64, Int32.reduceToInt, Int64.reduceToInt, true_and, and_true, false_and, and_false, false_or, or_false, true_or, or_true, not_true_eq_false, not_false_eq_true, ne_eq, forall_const, true_implies, false_implies, implies_true] at g_v0 g_v1 hn2 tx1 ⊢) <;> omega) (by (try simp only [i_lt, i_le, i_eq, Int32.toInt_toInt64, Int32.reduceToInt, Int64.reduceToInt, true_and, and_true, false_and, and_false, false_or, or_false, true_or, or_true, not_true_eq_false, not_false_eq_true, ne_eq, forall_const, true_implies, false_implies, implies_true] at g_v0 g_v1 hn2 tx1 ⊢) <;> omega)
      refine lv_imul hx hb dX12_rootOf_8 ?_
      refine lv_topi (fun x3 ex3 => ?_)
      have sx3 : x1.toInt ≤ 1548 ∨ 2397600 < x3.toInt := by rw [ex3]; exact i_sq (by (try simp only [i_lt, i_le, i_eq, Int32.toInt_toInt64, Int32.reduceToInt, Int64.reduceToInt, true_and, and_true, false_and, and_false, false_or, or_false, true_or, or_true, not_true_eq_false, not_false_eq_true, ne_eq, forall_const, true_implies, false_implies, implies_true] at g_v0 g_v1 hn2 tx1 tx2 ⊢) <;> omega) (by (try simp only [i_lt, i_le, i_eq, Int32.toInt_toInt64, Int32.reduceToInt, Int64.reduceToInt, true_and, and_true, false_and, and_false, false_or, or_false, true_or, or_true, not_true_eq_false, not_false_eq_true, ne_eq, forall_const, true_implies, false_implies, implies_true] at g_v0 g_v1 hn2 tx1 tx2 ⊢) <;> omega)
      have tx3 : 0 ≤ x3.toInt ∧ x3.toInt ≤ 2399401 := by rw [ex3]; exact i_mulb (A := 1549) (B := 1549) (C := 2399401) ((show 0 ≤ x1.toInt ∧ x1.toInt ≤ 1549 from by (try simp only [i_lt, i_le, i_eq, Int32.toInt_toInt64, Int32.reduceToInt, Int64.reduceToInt, true_and, and_true, false_and, and_false, false_or, or_false, true_or, or_true, not_true_eq_false, not_false_eq_true, ne_eq, forall_const, true_implies, false_implies, implies_true] at g_v0 g_v1 hn2 tx1 tx2 sx3 ⊢) <;> omega)) ((show 0 ≤ x2.toInt ∧ x2.toInt ≤ 1549 from by (try simp only [i_lt, i_le, i_eq, Int32.toInt_toInt64, Int32.reduceToInt, Int64.reduceToInt, true_and, and_true, false_and, and_false, false_or, or_false, true_or, or_true, not_true_eq_false, not_false_eq_true, ne_eq, forall_const, true_implies, false_implies, implies_true] at g_v0 g_v1 hn2 tx1 tx2 sx3 ⊢) <;> omega)) (by decide)
      refine lv_iload_n hx hb dX12_rootOf_9 rfl (lv_at hl 0 rfl) ?_
      refine lv_icmp_gt (tgt := 19) hx hb dX12_rootOf_10 (by decide) (fun c4 => ?_) (fun c4 => ?_)
      · refine lv_iload_n hx hb dX12_rootOf_19 rfl (lv_at hl 1 rfl) ?_
        exact W.iret (v := v1) hx hb hr (fun t ht hW => ⟨v1, rfl, trivial, ht⟩) (fun q h => by cases h) dX12_rootOf_20
      · obtain ⟨x5, ex5⟩ : ∃ y : Int32, y = v1 + 1 := ⟨_, rfl⟩
        have tx5 : x5.toInt = v1.toInt + 1 := by rw [ex5]; exact i_add (b := 1) (by (try simp only [i_lt, i_le, i_eq, Int32.toInt_toInt64, Int32.reduceToInt, Int64.reduceToInt, true_and, and_true, false_and, and_false, false_or, or_false, true_or, or_true, not_true_eq_false, not_false_eq_true, ne_eq, forall_const, true_implies, false_implies, implies_true] at g_v0 g_v1 hn2 tx1 tx2 sx3 tx3 c4 ⊢) <;> omega) (by (try simp only [i_lt, i_le, i_eq, Int32.toInt_toInt64, Int32.reduceToInt, Int64.reduceToInt, true_and, and_true, false_and, and_false, false_or, or_false, true_or, or_true, not_true_eq_false, not_false_eq_true, ne_eq, forall_const, true_implies, false_implies, implies_true] at g_v0 g_v1 hn2 tx1 tx2 sx3 tx3 c4 ⊢) <;> omega)
        refine lv_iinc (v := x5) (lv' := [(1, .int x5), (0, .int v0)]) hx hb dX12_rootOf_13 hl (k := 1) rfl (by rw [ex5]; rfl) (by decide) rfl (fun ls hl => ?_)
        refine lv_goto (tgt := 2) hx hb dX12_rootOf_16 (by decide) ?_
        exact ih2 ls v0 x5 (by (try simp only [i_lt, i_le, i_eq, Int32.toInt_toInt64, Int32.reduceToInt, Int64.reduceToInt, true_and, and_true, false_and, and_false, false_or, or_false, true_or, or_true, not_true_eq_false, not_false_eq_true, ne_eq, forall_const, true_implies, false_implies, implies_true] at g_v0 g_v1 hn2 tx1 tx2 sx3 tx3 c4 tx5 ⊢) <;> omega) (by (try simp only [i_lt, i_le, i_eq, Int32.toInt_toInt64, Int32.reduceToInt, Int64.reduceToInt, true_and, and_true, false_and, and_false, false_or, or_false, true_or, or_true, not_true_eq_false, not_false_eq_true, ne_eq, forall_const, true_implies, false_implies, implies_true] at g_v0 g_v1 hn2 tx1 tx2 sx3 tx3 c4 tx5 ⊢) <;> omega) (by (try simp only [i_lt, i_le, i_eq, Int32.toInt_toInt64, Int32.reduceToInt, Int64.reduceToInt, true_and, and_true, false_and, and_false, false_or, or_false, true_or, or_true, not_true_eq_false, not_false_eq_true, ne_eq, forall_const, true_implies, false_implies, implies_true] at g_v0 g_v1 hn2 tx1 tx2 sx3 tx3 c4 tx5 ⊢) <;> omega) (lv_sub hl [1, 0] rfl)
  have hl := lv_entry ([.int p1]) (n := 2) (Nat.le_of_ble_eq_true rfl)
  rw [lg_entry_eq]
  generalize (lg_sl ([.int p1]) ++ List.replicate (2 - (lg_sl ([.int p1])).length) Slot.unset).toArray = ls at hl ⊢
  have hl : lv_has ls 2 [(0, .int p1)] := hl
  refine lv_iconst (v := 0) hx hb dX12_rootOf_0 (by decide) ?_
  refine lv_istore_n (lv' := [(1, .int 0), (0, .int p1)]) hx hb dX12_rootOf_1 rfl hl (by decide) rfl (fun ls hl => ?_)
  exact B2 _ ls p1 0 (Nat.le_refl _) (by (try simp only [i_lt, i_le, i_eq, Int32.toInt_toInt64, Int32.reduceToInt, Int64.reduceToInt, true_and, and_true, false_and, and_false, false_or, or_false, true_or, or_true, not_true_eq_false, not_false_eq_true, ne_eq, forall_const, true_implies, false_implies, implies_true] at g_p1 ⊢) <;> omega) (by (try simp only [i_lt, i_le, i_eq, Int32.toInt_toInt64, Int32.reduceToInt, Int64.reduceToInt, true_and, and_true, false_and, and_false, false_or, or_false, true_or, or_true, not_true_eq_false, not_false_eq_true, ne_eq, forall_const, true_implies, false_implies, implies_true] at g_p1 ⊢) <;> omega) (lv_sub hl [1, 0] rfl)
set_option maxHeartbeats 4000000 in
set_option maxRecDepth 100000 in
theorem t_X12_row (l : Launch) (D : va_G) (k : Nat → ClassId) (u0 : PSt) (hu : WT u0) (h0 : Nat) (m_h0 : h0 ∈ u0.1) (k_h0 : u0.2.1 h0 = 12) (p1 : Int32) (p2 : Int32) (p3 : Int32) (sz : Nat) : Met l yX12_row wsX12_row ({ frames := 2, cells := 0, slots := 0, locals := 45 }) (PreM D k sz (PW k u0) [.ref h0, .int p1, .int p2, .int p3]) (va_Qi (fun r v => WT v ∧ MY u0 v ∧ (((p1.toInt < 0 ∨ 3 < p1.toInt ∨ p2.toInt < 0 ∨ 3 < p2.toInt ∨ 60 < p3.toInt) ∧ r.toInt = -2) ∨ (0 ≤ p1.toInt ∧ p1.toInt ≤ 3 ∧ 0 ≤ p2.toInt ∧ p2.toInt ≤ 3 ∧ p3.toInt ≤ 60 ∧ p3.toInt < 0 ∧ r.toInt = -3) ∨ (0 ≤ p1.toInt ∧ p1.toInt ≤ 3 ∧ 0 ≤ p2.toInt ∧ p2.toInt ≤ 3 ∧ 0 ≤ p3.toInt ∧ p3.toInt ≤ 60 ∧ r.toInt = 0))) (WB D (va_A (PW k u0) sz) (PW k)) (va_A (PW k u0) sz)) 0 0 (va_A (PW k u0) sz) := by
  refine Met.ofW (cc := cX12_row) (maxL := 5) (ret := (some .int)) (by decide) rfl ?_
  intro p e s m args below meth c s₁ B hml hv
  obtain ⟨rfl, hsz, hP, hK, hD0, hN⟩ := hv
  have hx := B.exec
  have hb := B.bytes
  have hr := B.returns
  have hts := atoms_spec (ws := wsX12_row) B.pre
  have hown : s.vm.findClass RX12 = some m.cls := findClass_of_methodNamed B.named
  have hlocks := B.notSynchronized
  have i_X12 : ∀ w ∈ wsX120, w ∈ wsX12_row := by decide +kernel
  obtain ⟨a30, q0_30, m0_a30, k0_a30⟩ := (hu h0 m_h0).1 30 60 (by rw [k_h0]; rfl)
  obtain ⟨a31, q0_31, m0_a31, k0_a31⟩ := (hu h0 m_h0).1 31 61 (by rw [k_h0]; rfl)
  obtain ⟨a32, q0_32, m0_a32, k0_a32⟩ := (hu h0 m_h0).1 32 62 (by rw [k_h0]; rfl)
  have m0_h0 := m_h0
  have k0_h0 := k_h0
  have m_a30 := m0_a30
  have m_a31 := m0_a31
  have m_a32 := m0_a32
  have k_a30 := k0_a30
  have k_a31 := k0_a31
  have k_a32 := k0_a32
  subst hsz
  have hD := hD0.self (sz := s.heap.size)
  generalize hAe : va_A (PW k u0) s.heap.size = A at hD ⊢
  have hA : ∀ q : Nat, s.heap.size ≤ q → A q := fun q h => by rw [← hAe]; exact Or.inr h
  have hS : va_S A s.heap s.heap [] := va_S.rf
  have hp : MY u0 u0 := MY.rf
  have B52 : ∀ (n52 : Nat) (u : PSt) (H : Heap) (locs : List Loc) (ls : Array Slot) (v1 : Int32) (v4 : Int32), WT u → MY u0 u → va_P D vwCl (PW k u) H → va_D A (PW k u) → va_S A s.heap H locs → (2147483648 - v4.toInt).toNat ≤ n52 → 0 ≤ v1.toInt ∧ v1.toInt ≤ 3 → 0 ≤ v4.toInt ∧ v4.toInt ≤ 60 → (v1.toInt = p1.toInt) → (0 ≤ p2.toInt ∧ p2.toInt ≤ 3) → (0 ≤ p3.toInt ∧ p3.toInt ≤ 60) → lv_has ls 5 [(0, .ref h0), (1, .int v1), (4, .int v4)] → W p l e (headSpec wsX12_row ({ frames := 2, cells := 0, slots := 0, locals := 45 })).room s m ([.ref h0, .int p1, .int p2, .int p3] : List Value).toArray below meth c H locs 0 0 (MQ below (va_Qi (fun r v => WT v ∧ MY u0 v ∧ (((p1.toInt < 0 ∨ 3 < p1.toInt ∨ p2.toInt < 0 ∨ 3 < p2.toInt ∨ 60 < p3.toInt) ∧ r.toInt = -2) ∨ (0 ≤ p1.toInt ∧ p1.toInt ≤ 3 ∧ 0 ≤ p2.toInt ∧ p2.toInt ≤ 3 ∧ p3.toInt ≤ 60 ∧ p3.toInt < 0 ∧ r.toInt = -3) ∨ (0 ≤ p1.toInt ∧ p1.toInt ≤ 3 ∧ 0 ≤ p2.toInt ∧ p2.toInt ≤ 3 ∧ 0 ≤ p3.toInt ∧ p3.toInt ≤ 60 ∧ r.toInt = 0))) (WB D A (PW k)) A) ([.ref h0, .int p1, .int p2, .int p3] : List Value).toArray s 0 0 A) (F0 m 52 ls []) := by
    intro n52
    induction n52 with
    | zero =>
      intro u H locs ls v1 v4 hu hp hP hD hS hn52 g_v1 g_v4 ex0 ex1 ex2 hl
      exact absurd hn52 (by have := Int32.toInt_lt v4; have := Int32.le_toInt v4; omega)
    | succ n52 ih52 =>
      intro u H locs ls v1 v4 hu hp hP hD hS hn52 g_v1 g_v4 ex0 ex1 ex2 hl
      refine lv_iload hx hb dX12_row_52 (lv_at hl 2 rfl) ?_
      refine lv_bipush (v := 60) hx hb dX12_row_54 (by decide) ?_
      refine lv_icmp_ge (tgt := 78) hx hb dX12_row_56 (by decide) (fun c1 => ?_) (fun c1 => ?_)
      · refine lv_iconst (v := 0) hx hb dX12_row_78 (by decide) ?_
        exact W.iret (v := 0) hx hb hr (fun t ht hW => ⟨⟨0, u, rfl, ⟨hu, hp, (show ((p1.toInt < 0 ∨ 3 < p1.toInt ∨ p2.toInt < 0 ∨ 3 < p2.toInt ∨ 60 < p3.toInt) ∧ (0 : Int) = -2) ∨ (0 ≤ p1.toInt ∧ p1.toInt ≤ 3 ∧ 0 ≤ p2.toInt ∧ p2.toInt ≤ 3 ∧ p3.toInt ≤ 60 ∧ p3.toInt < 0 ∧ (0 : Int) = -3) ∨ (0 ≤ p1.toInt ∧ p1.toInt ≤ 3 ∧ 0 ≤ p2.toInt ∧ p2.toInt ≤ 3 ∧ 0 ≤ p3.toInt ∧ p3.toInt ≤ 60 ∧ (0 : Int) = 0) from by (try simp only [i_lt, i_le, i_eq, Int32.toInt_toInt64, Int32.reduceToInt, Int64.reduceToInt, true_and, and_true, false_and, and_false, false_or, or_false, true_or, or_true, not_true_eq_false, not_false_eq_true, ne_eq, forall_const, true_implies, false_implies, implies_true] at g_v1 g_v4 ex0 ex1 ex2 hn52 c1 ⊢) <;> omega)⟩, by rw [ht]; exact hP, hD⟩, hS.F ht⟩) hS.2.2 dX12_row_79
      · refine lv_aload_n hx hb dX12_row_59 rfl (lv_at hl 0 rfl) ?_
        have k_h0 : u.2.1 h0 = 12 := (hp h0 m0_h0).2.1.trans k0_h0
        have m_h0 : h0 ∈ u.1 := (hp h0 m0_h0).1
        have k_a32 : u.2.1 a32 = 62 := (hp a32 m0_a32).2.1.trans k0_a32
        have m_a32 : a32 ∈ u.1 := (hp a32 m0_a32).1
        refine pget (ci := 12) (v := va_rf (u.2.2.2.2 h0 32)) (C := RX12) (T := TX12) (N := 34) hx hb hts i_X12 hown hK hP m_h0 (cF12 k_h0) rfl 32 (by decide) (hts (.fieldLink RX12 67 "BellowsRowModel" "numbers" "[J") (by decide +kernel)) (fun _ h9 => h9) rfl dX12_row_60 ?_
        refine W.eq (g2 := F0 m 63 ls [.ref a32]) (by rw [(((hp h0 m0_h0).2.2.2.2.2.1 k0_h0 32).trans q0_32)]; rfl) ?_
        refine lv_bipush (v := 60) hx hb dX12_row_63 (by decide) ?_
        refine lv_iload_n hx hb dX12_row_65 rfl (lv_at hl 1 rfl) ?_
        refine lv_imul hx hb dX12_row_66 ?_
        refine lv_topi (fun x2 ex2 => ?_)
        have tx2 : x2.toInt = 60 * v1.toInt := by rw [ex2]; exact i_mulc (c := 60) (by decide) ((show 0 ≤ v1.toInt ∧ v1.toInt ≤ 3 from by (try simp only [i_lt, i_le, i_eq, Int32.toInt_toInt64, Int32.reduceToInt, Int64.reduceToInt, true_and, and_true, false_and, and_false, false_or, or_false, true_or, or_true, not_true_eq_false, not_false_eq_true, ne_eq, forall_const, true_implies, false_implies, implies_true] at g_v1 g_v4 ex0 ex1 ex2 hn52 c1 ⊢) <;> omega)) (by decide)
        refine lv_iload hx hb dX12_row_67 (lv_at hl 2 rfl) ?_
        refine lv_iadd hx hb dX12_row_69 ?_
        refine lv_topi (fun x3 ex3 => ?_)
        have tx3 : x3.toInt = x2.toInt + v4.toInt := by rw [ex3]; exact i_add (by (try simp only [i_lt, i_le, i_eq, Int32.toInt_toInt64, Int32.reduceToInt, Int64.reduceToInt, true_and, and_true, false_and, and_false, false_or, or_false, true_or, or_true, not_true_eq_false, not_false_eq_true, ne_eq, forall_const, true_implies, false_implies, implies_true] at g_v1 g_v4 ex0 ex1 ex2 hn52 c1 tx2 ⊢) <;> omega) (by (try simp only [i_lt, i_le, i_eq, Int32.toInt_toInt64, Int32.reduceToInt, Int64.reduceToInt, true_and, and_true, false_and, and_false, false_or, or_false, true_or, or_true, not_true_eq_false, not_false_eq_true, ne_eq, forall_const, true_implies, false_implies, implies_true] at g_v1 g_v4 ex0 ex1 ex2 hn52 c1 tx2 ⊢) <;> omega)
        refine lv_lconst (v := 0) hx hb dX12_row_70 (by decide) ?_
        refine pasJ (u' := pSJ u a32 (x3.toNatClampNeg) 0) hx hb hK hP hD hS m_a32 (cF62 k_a32) 2 rfl (vp_in_iff.mpr (by (try simp only [i_lt, i_le, i_eq, Int32.toInt_toInt64, Int32.reduceToInt, Int64.reduceToInt, true_and, and_true, false_and, and_false, false_or, or_false, true_or, or_true, not_true_eq_false, not_false_eq_true, ne_eq, forall_const, true_implies, false_implies, implies_true] at g_v1 g_v4 ex0 ex1 ex2 hn52 c1 tx2 tx3 ⊢) <;> omega)) rfl (sF62 k_a32 _ _) dX12_row_71 (fun H locs hP hD hS => ?_)
        have hu := WT.setJ (a := a32) (s := (x3.toNatClampNeg)) (v := 0) hu
        have hp := MY.setJ (a := a32) (s := (x3.toNatClampNeg)) (v := 0) hp
        obtain ⟨u4, hu4⟩ : ∃ z, z = pSJ u a32 (x3.toNatClampNeg) 0 := ⟨_, rfl⟩
        rw [← hu4] at hP hD hu hp
        obtain ⟨x5, ex5⟩ : ∃ y : Int32, y = v4 + 1 := ⟨_, rfl⟩
        have tx5 : x5.toInt = v4.toInt + 1 := by rw [ex5]; exact i_add (b := 1) (by (try simp only [i_lt, i_le, i_eq, Int32.toInt_toInt64, Int32.reduceToInt, Int64.reduceToInt, true_and, and_true, false_and, and_false, false_or, or_false, true_or, or_true, not_true_eq_false, not_false_eq_true, ne_eq, forall_const, true_implies, false_implies, implies_true] at g_v1 g_v4 ex0 ex1 ex2 hn52 c1 tx2 tx3 ⊢) <;> omega) (by (try simp only [i_lt, i_le, i_eq, Int32.toInt_toInt64, Int32.reduceToInt, Int64.reduceToInt, true_and, and_true, false_and, and_false, false_or, or_false, true_or, or_true, not_true_eq_false, not_false_eq_true, ne_eq, forall_const, true_implies, false_implies, implies_true] at g_v1 g_v4 ex0 ex1 ex2 hn52 c1 tx2 tx3 ⊢) <;> omega)
        refine lv_iinc (v := x5) (lv' := [(4, .int x5), (0, .ref h0), (1, .int v1)]) hx hb dX12_row_72 hl (k := 2) rfl (by rw [ex5]; rfl) (by decide) rfl (fun ls hl => ?_)
        refine lv_goto (tgt := 52) hx hb dX12_row_75 (by decide) ?_
        exact ih52 _ _ _ ls v1 x5 hu hp hP hD hS (by (try simp only [i_lt, i_le, i_eq, Int32.toInt_toInt64, Int32.reduceToInt, Int64.reduceToInt, true_and, and_true, false_and, and_false, false_or, or_false, true_or, or_true, not_true_eq_false, not_false_eq_true, ne_eq, forall_const, true_implies, false_implies, implies_true] at g_v1 g_v4 ex0 ex1 ex2 hn52 c1 tx2 tx3 tx5 ⊢) <;> omega) (by (try simp only [i_lt, i_le, i_eq, Int32.toInt_toInt64, Int32.reduceToInt, Int64.reduceToInt, true_and, and_true, false_and, and_false, false_or, or_false, true_or, or_true, not_true_eq_false, not_false_eq_true, ne_eq, forall_const, true_implies, false_implies, implies_true] at g_v1 g_v4 ex0 ex1 ex2 hn52 c1 tx2 tx3 tx5 ⊢) <;> omega) (by (try simp only [i_lt, i_le, i_eq, Int32.toInt_toInt64, Int32.reduceToInt, Int64.reduceToInt, true_and, and_true, false_and, and_false, false_or, or_false, true_or, or_true, not_true_eq_false, not_false_eq_true, ne_eq, forall_const, true_implies, false_implies, implies_true] at g_v1 g_v4 ex0 ex1 ex2 hn52 c1 tx2 tx3 tx5 ⊢) <;> omega) (by (try simp only [i_lt, i_le, i_eq, Int32.toInt_toInt64, Int32.reduceToInt, Int64.reduceToInt, true_and, and_true, false_and, and_false, false_or, or_false, true_or, or_true, not_true_eq_false, not_false_eq_true, ne_eq, forall_const, true_implies, false_implies, implies_true] at g_v1 g_v4 ex0 ex1 ex2 hn52 c1 tx2 tx3 tx5 ⊢) <;> omega) (by (try simp only [i_lt, i_le, i_eq, Int32.toInt_toInt64, Int32.reduceToInt, Int64.reduceToInt, true_and, and_true, false_and, and_false, false_or, or_false, true_or, or_true, not_true_eq_false, not_false_eq_true, ne_eq, forall_const, true_implies, false_implies, implies_true] at g_v1 g_v4 ex0 ex1 ex2 hn52 c1 tx2 tx3 tx5 ⊢) <;> omega) (by (try simp only [i_lt, i_le, i_eq, Int32.toInt_toInt64, Int32.reduceToInt, Int64.reduceToInt, true_and, and_true, false_and, and_false, false_or, or_false, true_or, or_true, not_true_eq_false, not_false_eq_true, ne_eq, forall_const, true_implies, false_implies, implies_true] at g_v1 g_v4 ex0 ex1 ex2 hn52 c1 tx2 tx3 tx5 ⊢) <;> omega) (lv_sub hl [1, 2, 0] rfl)
  have hl := lv_entry ([.ref h0, .int p1, .int p2, .int p3]) (n := 5) (Nat.le_of_ble_eq_true rfl)
  rw [lg_entry_eq]
  generalize (lg_sl ([.ref h0, .int p1, .int p2, .int p3]) ++ List.replicate (5 - (lg_sl ([.ref h0, .int p1, .int p2, .int p3])).length) Slot.unset).toArray = ls at hl ⊢
  have hl : lv_has ls 5 [(0, .ref h0), (1, .int p1), (2, .int p2), (3, .int p3)] := hl
  refine lv_iload_n hx hb dX12_row_0 rfl (lv_at hl 1 rfl) ?_
  refine psi (As := [.int p1]) (rest := []) ⟨hx, hb, hml, hown, hts⟩ (t_X12_isSlot l D k p1) (va_cwS 1 hts gX12_row_X12_isSlot rfl rfl rfl (by decide +kernel) ⟨Nat.le_of_ble_eq_true rfl, Nat.le_of_ble_eq_true rfl⟩) hK rfl hl.1 rfl (Nat.le_of_ble_eq_true rfl) dX12_row_1 ⟨Nat.le_of_ble_eq_true rfl, Nat.le_of_ble_eq_true rfl⟩ (fun r6 hr6 => ?_)
  refine lv_if_eq (tgt := 25) hx hb dX12_row_4 (by decide) (fun c7 => ?_) (fun c7 => ?_)
  · have eb8 : r6.toInt = 0 := by rcases hr6 with ⟨q, -⟩ | ⟨q, -⟩; exact q; (exact absurd (c7) (fun w => by rw [w] at q; exact absurd q (by decide)))
    have fb8 : (p1.toInt < 0 ∨ 3 < p1.toInt) := by rcases hr6 with ⟨q, r⟩ | ⟨q, r⟩; exact r; exact absurd q (by omega)
    clear hr6
    refine lv_bipush (v := (-2)) hx hb dX12_row_25 (by decide) ?_
    exact W.iret (v := (-2)) hx hb hr (fun t ht hW => ⟨⟨(-2), u0, rfl, ⟨hu, hp, (show ((p1.toInt < 0 ∨ 3 < p1.toInt ∨ p2.toInt < 0 ∨ 3 < p2.toInt ∨ 60 < p3.toInt) ∧ (-2 : Int) = -2) ∨ (0 ≤ p1.toInt ∧ p1.toInt ≤ 3 ∧ 0 ≤ p2.toInt ∧ p2.toInt ≤ 3 ∧ p3.toInt ≤ 60 ∧ p3.toInt < 0 ∧ (-2 : Int) = -3) ∨ (0 ≤ p1.toInt ∧ p1.toInt ≤ 3 ∧ 0 ≤ p2.toInt ∧ p2.toInt ≤ 3 ∧ 0 ≤ p3.toInt ∧ p3.toInt ≤ 60 ∧ (-2 : Int) = 0) from by (try simp only [i_lt, i_le, i_eq, Int32.toInt_toInt64, Int32.reduceToInt, Int64.reduceToInt, true_and, and_true, false_and, and_false, false_or, or_false, true_or, or_true, not_true_eq_false, not_false_eq_true, ne_eq, forall_const, true_implies, false_implies, implies_true] at eb8 fb8 ⊢) <;> omega)⟩, by rw [ht]; exact hP, hD⟩, hS.F ht⟩) hS.2.2 dX12_row_27
  · have eb9 : r6.toInt = 1 := by rcases hr6 with ⟨q, -⟩ | ⟨q, -⟩; exact absurd (i_eq.mpr q) c7; exact q
    have fb9 : 0 ≤ p1.toInt ∧ p1.toInt ≤ 3 := by rcases hr6 with ⟨q, r⟩ | ⟨q, r⟩; exact absurd q (by omega); exact r
    clear hr6
    refine lv_iload_n hx hb dX12_row_7 rfl (lv_at hl 2 rfl) ?_
    refine lv_i2l hx hb dX12_row_8 rfl ?_
    have b10 := Int32.toInt_lt p2
    have ab10 := Int32.le_toInt p2
    refine lv_topl (fun x11 ex11 => ?_)
    have tx11 : x11.toInt = p2.toInt := by rw [ex11]; exact Int32.toInt_toInt64 _
    refine lv_lconst (v := 0) hx hb dX12_row_9 (by decide) ?_
    refine lv_ldc2 (own := RX12) (v := 3) hx hb hown (hts (.constantLong RX12 334 (3)) (by decide +kernel)) dX12_row_10 ?_
    refine psi (As := [.long x11, .long 0, .long 3]) (rest := []) ⟨hx, hb, hml, hown, hts⟩ (t_X12_in l D k x11 0 3) (va_cwS 3 hts gX12_row_X12_in rfl rfl rfl (by decide +kernel) ⟨Nat.le_of_ble_eq_true rfl, Nat.le_of_ble_eq_true rfl⟩) hK rfl hl.1 rfl (Nat.le_of_ble_eq_true rfl) dX12_row_13 ⟨Nat.le_of_ble_eq_true rfl, Nat.le_of_ble_eq_true rfl⟩ (fun r12 hr12 => ?_)
    refine lv_if_eq (tgt := 25) hx hb dX12_row_16 (by decide) (fun c13 => ?_) (fun c13 => ?_)
    · have eb14 : r12.toInt = 0 := by rcases hr12 with ⟨q, -⟩ | ⟨q, -⟩; exact q; (exact absurd (c13) (fun w => by rw [w] at q; exact absurd q (by decide)))
      have fb14 : (x11.toInt < (0 : Int64).toInt ∨ (3 : Int64).toInt < x11.toInt) := by rcases hr12 with ⟨q, r⟩ | ⟨q, r⟩; exact r; exact absurd q (by omega)
      clear hr12
      refine lv_bipush (v := (-2)) hx hb dX12_row_25 (by decide) ?_
      exact W.iret (v := (-2)) hx hb hr (fun t ht hW => ⟨⟨(-2), u0, rfl, ⟨hu, hp, (show ((p1.toInt < 0 ∨ 3 < p1.toInt ∨ p2.toInt < 0 ∨ 3 < p2.toInt ∨ 60 < p3.toInt) ∧ (-2 : Int) = -2) ∨ (0 ≤ p1.toInt ∧ p1.toInt ≤ 3 ∧ 0 ≤ p2.toInt ∧ p2.toInt ≤ 3 ∧ p3.toInt ≤ 60 ∧ p3.toInt < 0 ∧ (-2 : Int) = -3) ∨ (0 ≤ p1.toInt ∧ p1.toInt ≤ 3 ∧ 0 ≤ p2.toInt ∧ p2.toInt ≤ 3 ∧ 0 ≤ p3.toInt ∧ p3.toInt ≤ 60 ∧ (-2 : Int) = 0) from by (try simp only [i_lt, i_le, i_eq, Int32.toInt_toInt64, Int32.reduceToInt, Int64.reduceToInt, true_and, and_true, false_and, and_false, false_or, or_false, true_or, or_true, not_true_eq_false, not_false_eq_true, ne_eq, forall_const, true_implies, false_implies, implies_true] at eb9 fb9 b10 ab10 tx11 eb14 fb14 ⊢) <;> omega)⟩, by rw [ht]; exact hP, hD⟩, hS.F ht⟩) hS.2.2 dX12_row_27
    · have eb15 : r12.toInt = 1 := by rcases hr12 with ⟨q, -⟩ | ⟨q, -⟩; exact absurd (i_eq.mpr q) c13; exact q
      have fb15 : (0 : Int64).toInt ≤ x11.toInt ∧ x11.toInt ≤ (3 : Int64).toInt := by rcases hr12 with ⟨q, r⟩ | ⟨q, r⟩; exact absurd q (by omega); exact r
      clear hr12
      refine lv_iload_n hx hb dX12_row_19 rfl (lv_at hl 3 rfl) ?_
      refine lv_bipush (v := 60) hx hb dX12_row_20 (by decide) ?_
      refine lv_icmp_le (tgt := 28) hx hb dX12_row_22 (by decide) (fun c16 => ?_) (fun c16 => ?_)
      · refine lv_iload_n hx hb dX12_row_28 rfl (lv_at hl 3 rfl) ?_
        refine lv_if_ge (tgt := 35) hx hb dX12_row_29 (by decide) (fun c17 => ?_) (fun c17 => ?_)
        · refine lv_aload_n hx hb dX12_row_35 rfl (lv_at hl 0 rfl) ?_
          refine pget (ci := 12) (v := va_rf (u0.2.2.2.2 h0 30)) (C := RX12) (T := TX12) (N := 34) hx hb hts i_X12 hown hK hP m_h0 (cF12 k_h0) rfl 30 (by decide) (hts (.fieldLink RX12 61 "BellowsRowModel" "slotMany" "[I") (by decide +kernel)) (fun _ h9 => h9) rfl dX12_row_36 ?_
          refine W.eq (g2 := F0 m 39 ls [.ref a30]) (by rw [(((hp h0 m0_h0).2.2.2.2.2.1 k0_h0 30).trans q0_30)]; rfl) ?_
          refine lv_iload_n hx hb dX12_row_39 rfl (lv_at hl 1 rfl) ?_
          refine lv_iload_n hx hb dX12_row_40 rfl (lv_at hl 3 rfl) ?_
          refine pasI (u' := pSI u0 a30 (p1.toNatClampNeg) p3) hx hb hK hP hD hS m_a30 (cF60 k_a30) 1 rfl (vp_in_iff.mpr (by (try simp only [i_lt, i_le, i_eq, Int32.toInt_toInt64, Int32.reduceToInt, Int64.reduceToInt, true_and, and_true, false_and, and_false, false_or, or_false, true_or, or_true, not_true_eq_false, not_false_eq_true, ne_eq, forall_const, true_implies, false_implies, implies_true] at eb9 fb9 b10 ab10 tx11 eb15 fb15 c16 c17 ⊢) <;> omega)) rfl (sF60 k_a30 _ _) dX12_row_41 (fun H locs hP hD hS => ?_)
          have hu := WT.setI (a := a30) (s := (p1.toNatClampNeg)) (v := p3) hu (by rw [k_a30]; exact (show -1 ≤ p3.toInt ∧ p3.toInt ≤ 60 from by (try simp only [i_lt, i_le, i_eq, Int32.toInt_toInt64, Int32.reduceToInt, Int64.reduceToInt, true_and, and_true, false_and, and_false, false_or, or_false, true_or, or_true, not_true_eq_false, not_false_eq_true, ne_eq, forall_const, true_implies, false_implies, implies_true] at eb9 fb9 b10 ab10 tx11 eb15 fb15 c16 c17 ⊢) <;> omega))
          have hp := MY.setI (a := a30) (s := (p1.toNatClampNeg)) (v := p3) hp (by rw [k_a30]; decide)
          obtain ⟨u18, hu18⟩ : ∃ z, z = pSI u0 a30 (p1.toNatClampNeg) p3 := ⟨_, rfl⟩
          rw [← hu18] at hP hD hu hp
          refine lv_aload_n hx hb dX12_row_42 rfl (lv_at hl 0 rfl) ?_
          have k_h0 : u18.2.1 h0 = 12 := (hp h0 m0_h0).2.1.trans k0_h0
          have m_h0 : h0 ∈ u18.1 := (hp h0 m0_h0).1
          have k_a31 : u18.2.1 a31 = 61 := (hp a31 m0_a31).2.1.trans k0_a31
          have m_a31 : a31 ∈ u18.1 := (hp a31 m0_a31).1
          refine pget (ci := 12) (v := va_rf (u18.2.2.2.2 h0 31)) (C := RX12) (T := TX12) (N := 34) hx hb hts i_X12 hown hK hP m_h0 (cF12 k_h0) rfl 31 (by decide) (hts (.fieldLink RX12 64 "BellowsRowModel" "width" "[I") (by decide +kernel)) (fun _ h9 => h9) rfl dX12_row_43 ?_
          refine W.eq (g2 := F0 m 46 ls [.ref a31]) (by rw [(((hp h0 m0_h0).2.2.2.2.2.1 k0_h0 31).trans q0_31)]; rfl) ?_
          refine lv_iload_n hx hb dX12_row_46 rfl (lv_at hl 1 rfl) ?_
          refine lv_iload_n hx hb dX12_row_47 rfl (lv_at hl 2 rfl) ?_
          refine pasI (u' := pSI u18 a31 (p1.toNatClampNeg) p2) hx hb hK hP hD hS m_a31 (cF61 k_a31) 1 rfl (vp_in_iff.mpr (by (try simp only [i_lt, i_le, i_eq, Int32.toInt_toInt64, Int32.reduceToInt, Int64.reduceToInt, true_and, and_true, false_and, and_false, false_or, or_false, true_or, or_true, not_true_eq_false, not_false_eq_true, ne_eq, forall_const, true_implies, false_implies, implies_true] at eb9 fb9 b10 ab10 tx11 eb15 fb15 c16 c17 ⊢) <;> omega)) rfl (sF61 k_a31 _ _) dX12_row_48 (fun H locs hP hD hS => ?_)
          have hu := WT.setI (a := a31) (s := (p1.toNatClampNeg)) (v := p2) hu (by rw [k_a31]; exact (show 0 ≤ p2.toInt ∧ p2.toInt ≤ 3 from by (try simp only [i_lt, i_le, i_eq, Int32.toInt_toInt64, Int32.reduceToInt, Int64.reduceToInt, true_and, and_true, false_and, and_false, false_or, or_false, true_or, or_true, not_true_eq_false, not_false_eq_true, ne_eq, forall_const, true_implies, false_implies, implies_true] at eb9 fb9 b10 ab10 tx11 eb15 fb15 c16 c17 ⊢) <;> omega))
          have hp := MY.setI (a := a31) (s := (p1.toNatClampNeg)) (v := p2) hp (by rw [k_a31]; decide)
          obtain ⟨u19, hu19⟩ : ∃ z, z = pSI u18 a31 (p1.toNatClampNeg) p2 := ⟨_, rfl⟩
          rw [← hu19] at hP hD hu hp
          refine lv_iconst (v := 0) hx hb dX12_row_49 (by decide) ?_
          refine lv_istore (lv' := [(4, .int 0), (0, .ref h0), (1, .int p1), (2, .int p2), (3, .int p3)]) hx hb dX12_row_50 hl (by decide) rfl (fun ls hl => ?_)
          exact B52 _ _ _ _ ls p1 0 hu hp hP hD hS (Nat.le_refl _) (by (try simp only [i_lt, i_le, i_eq, Int32.toInt_toInt64, Int32.reduceToInt, Int64.reduceToInt, true_and, and_true, false_and, and_false, false_or, or_false, true_or, or_true, not_true_eq_false, not_false_eq_true, ne_eq, forall_const, true_implies, false_implies, implies_true] at eb9 fb9 b10 ab10 tx11 eb15 fb15 c16 c17 ⊢) <;> omega) (by (try simp only [i_lt, i_le, i_eq, Int32.toInt_toInt64, Int32.reduceToInt, Int64.reduceToInt, true_and, and_true, false_and, and_false, false_or, or_false, true_or, or_true, not_true_eq_false, not_false_eq_true, ne_eq, forall_const, true_implies, false_implies, implies_true] at eb9 fb9 b10 ab10 tx11 eb15 fb15 c16 c17 ⊢) <;> omega) (by (try simp only [i_lt, i_le, i_eq, Int32.toInt_toInt64, Int32.reduceToInt, Int64.reduceToInt, true_and, and_true, false_and, and_false, false_or, or_false, true_or, or_true, not_true_eq_false, not_false_eq_true, ne_eq, forall_const, true_implies, false_implies, implies_true] at eb9 fb9 b10 ab10 tx11 eb15 fb15 c16 c17 ⊢) <;> omega) (by (try simp only [i_lt, i_le, i_eq, Int32.toInt_toInt64, Int32.reduceToInt, Int64.reduceToInt, true_and, and_true, false_and, and_false, false_or, or_false, true_or, or_true, not_true_eq_false, not_false_eq_true, ne_eq, forall_const, true_implies, false_implies, implies_true] at eb9 fb9 b10 ab10 tx11 eb15 fb15 c16 c17 ⊢) <;> omega) (by (try simp only [i_lt, i_le, i_eq, Int32.toInt_toInt64, Int32.reduceToInt, Int64.reduceToInt, true_and, and_true, false_and, and_false, false_or, or_false, true_or, or_true, not_true_eq_false, not_false_eq_true, ne_eq, forall_const, true_implies, false_implies, implies_true] at eb9 fb9 b10 ab10 tx11 eb15 fb15 c16 c17 ⊢) <;> omega) (lv_sub hl [1, 2, 0] rfl)
        · refine lv_bipush (v := (-3)) hx hb dX12_row_32 (by decide) ?_
          exact W.iret (v := (-3)) hx hb hr (fun t ht hW => ⟨⟨(-3), u0, rfl, ⟨hu, hp, (show ((p1.toInt < 0 ∨ 3 < p1.toInt ∨ p2.toInt < 0 ∨ 3 < p2.toInt ∨ 60 < p3.toInt) ∧ (-3 : Int) = -2) ∨ (0 ≤ p1.toInt ∧ p1.toInt ≤ 3 ∧ 0 ≤ p2.toInt ∧ p2.toInt ≤ 3 ∧ p3.toInt ≤ 60 ∧ p3.toInt < 0 ∧ (-3 : Int) = -3) ∨ (0 ≤ p1.toInt ∧ p1.toInt ≤ 3 ∧ 0 ≤ p2.toInt ∧ p2.toInt ≤ 3 ∧ 0 ≤ p3.toInt ∧ p3.toInt ≤ 60 ∧ (-3 : Int) = 0) from by (try simp only [i_lt, i_le, i_eq, Int32.toInt_toInt64, Int32.reduceToInt, Int64.reduceToInt, true_and, and_true, false_and, and_false, false_or, or_false, true_or, or_true, not_true_eq_false, not_false_eq_true, ne_eq, forall_const, true_implies, false_implies, implies_true] at eb9 fb9 b10 ab10 tx11 eb15 fb15 c16 c17 ⊢) <;> omega)⟩, by rw [ht]; exact hP, hD⟩, hS.F ht⟩) hS.2.2 dX12_row_34
      · refine lv_bipush (v := (-2)) hx hb dX12_row_25 (by decide) ?_
        exact W.iret (v := (-2)) hx hb hr (fun t ht hW => ⟨⟨(-2), u0, rfl, ⟨hu, hp, (show ((p1.toInt < 0 ∨ 3 < p1.toInt ∨ p2.toInt < 0 ∨ 3 < p2.toInt ∨ 60 < p3.toInt) ∧ (-2 : Int) = -2) ∨ (0 ≤ p1.toInt ∧ p1.toInt ≤ 3 ∧ 0 ≤ p2.toInt ∧ p2.toInt ≤ 3 ∧ p3.toInt ≤ 60 ∧ p3.toInt < 0 ∧ (-2 : Int) = -3) ∨ (0 ≤ p1.toInt ∧ p1.toInt ≤ 3 ∧ 0 ≤ p2.toInt ∧ p2.toInt ≤ 3 ∧ 0 ≤ p3.toInt ∧ p3.toInt ≤ 60 ∧ (-2 : Int) = 0) from by (try simp only [i_lt, i_le, i_eq, Int32.toInt_toInt64, Int32.reduceToInt, Int64.reduceToInt, true_and, and_true, false_and, and_false, false_or, or_false, true_or, or_true, not_true_eq_false, not_false_eq_true, ne_eq, forall_const, true_implies, false_implies, implies_true] at eb9 fb9 b10 ab10 tx11 eb15 fb15 c16 ⊢) <;> omega)⟩, by rw [ht]; exact hP, hD⟩, hS.F ht⟩) hS.2.2 dX12_row_27
