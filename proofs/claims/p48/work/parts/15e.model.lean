set_option maxHeartbeats 4000000 in
set_option maxRecDepth 100000 in
theorem t_X12_paste (l : Launch) (D : va_G) (k : Nat → ClassId) (u0 : PSt) (hu : WT u0) (h0 : Nat) (m_h0 : h0 ∈ u0.1) (k_h0 : u0.2.1 h0 = 12) (p1 : Int32) (p2 : Int32) (p3 : Int32) (p4 : Int32) (p5 : Int32) (sz : Nat) : Met l yX12_paste wsX12_paste ({ frames := 2, cells := 0, slots := 0, locals := 45 }) (PreM D k sz (PW k u0) [.ref h0, .int p1, .int p2, .int p3, .int p4, .int p5]) (va_Qi (fun r v => WT v ∧ PX u0 v ∧ (True)) (WB D (va_A (PW k u0) sz) (PW k)) (va_A (PW k u0) sz)) 0 0 (va_A (PW k u0) sz) := by
  refine Met.ofW (cc := cX12_paste) (maxL := 7) (ret := (some .int)) (by decide) rfl ?_
  intro p e s m args below meth c s₁ B hml hv
  obtain ⟨rfl, hsz, hP, hK, hD0, hN⟩ := hv
  have hx := B.exec
  have hb := B.bytes
  have hr := B.returns
  have hts := atoms_spec (ws := wsX12_paste) B.pre
  have hown : s.vm.findClass RX12 = some m.cls := findClass_of_methodNamed B.named
  have hlocks := B.notSynchronized
  have i_X12 : ∀ w ∈ wsX120, w ∈ wsX12_paste := by decide +kernel
  obtain ⟨a30, q0_30, m0_a30, k0_a30⟩ := (hu h0 m_h0).1 30 60 (by rw [k_h0]; rfl)
  obtain ⟨a31, q0_31, m0_a31, k0_a31⟩ := (hu h0 m_h0).1 31 61 (by rw [k_h0]; rfl)
  obtain ⟨a32, q0_32, m0_a32, k0_a32⟩ := (hu h0 m_h0).1 32 62 (by rw [k_h0]; rfl)
  obtain ⟨a33, q0_33, m0_a33, k0_a33⟩ := (hu h0 m_h0).1 33 63 (by rw [k_h0]; rfl)
  have m0_h0 := m_h0
  have k0_h0 := k_h0
  have m_a30 := m0_a30
  have m_a31 := m0_a31
  have m_a32 := m0_a32
  have m_a33 := m0_a33
  have k_a30 := k0_a30
  have k_a31 := k0_a31
  have k_a32 := k0_a32
  have k_a33 := k0_a33
  subst hsz
  have hD := hD0.self (sz := s.heap.size)
  generalize hAe : va_A (PW k u0) s.heap.size = A at hD ⊢
  have hA : ∀ q : Nat, s.heap.size ≤ q → A q := fun q h => by rw [← hAe]; exact Or.inr h
  have hS : va_S A s.heap s.heap [] := va_S.rf
  have hp : PX u0 u0 := PX.rf
  have B150 : ∀ (n150 : Nat) (u : PSt) (H : Heap) (locs : List Loc) (ls : Array Slot) (v3 : Int32) (v4 : Int32) (v5 : Int32) (v6 : Int32), WT u → PX u0 u → va_P D vwCl (PW k u) H → va_D A (PW k u) → va_S A s.heap H locs → (2147483648 - v6.toInt).toNat ≤ n150 → 0 ≤ v3.toInt ∧ v3.toInt ≤ 3 → 0 ≤ v4.toInt ∧ v4.toInt ≤ 60 → 0 ≤ v5.toInt ∧ v5.toInt ≤ 60 → 0 ≤ v6.toInt ∧ v6.toInt ≤ 60 → (v4.toInt + v5.toInt ≤ 60) → lv_has ls 7 [(0, .ref h0), (3, .int v3), (4, .int v4), (5, .int v5), (6, .int v6)] → W p l e (headSpec wsX12_paste ({ frames := 2, cells := 0, slots := 0, locals := 45 })).room s m ([.ref h0, .int p1, .int p2, .int p3, .int p4, .int p5] : List Value).toArray below meth c H locs 0 0 (MQ below (va_Qi (fun r v => WT v ∧ PX u0 v ∧ (True)) (WB D A (PW k)) A) ([.ref h0, .int p1, .int p2, .int p3, .int p4, .int p5] : List Value).toArray s 0 0 A) (F0 m 150 ls []) := by
    intro n150
    induction n150 with
    | zero =>
      intro u H locs ls v3 v4 v5 v6 hu hp hP hD hS hn150 g_v3 g_v4 g_v5 g_v6 ex0 hl
      exact absurd hn150 (by have := Int32.toInt_lt v6; have := Int32.le_toInt v6; omega)
    | succ n150 ih150 =>
      intro u H locs ls v3 v4 v5 v6 hu hp hP hD hS hn150 g_v3 g_v4 g_v5 g_v6 ex0 hl
      refine lv_iload hx hb dX12_paste_150 (lv_at hl 4 rfl) ?_
      refine lv_iload hx hb dX12_paste_152 (lv_at hl 3 rfl) ?_
      refine lv_icmp_ge (tgt := 185) hx hb dX12_paste_154 (by decide) (fun c1 => ?_) (fun c1 => ?_)
      · refine lv_iconst (v := 0) hx hb dX12_paste_185 (by decide) ?_
        exact W.iret (v := 0) hx hb hr (fun t ht hW => ⟨⟨0, u, rfl, ⟨hu, hp, trivial⟩, by rw [ht]; exact hP, hD⟩, hS.F ht⟩) hS.2.2 dX12_paste_186
      · refine lv_aload_n hx hb dX12_paste_157 rfl (lv_at hl 0 rfl) ?_
        have k_h0 : u.2.1 h0 = 12 := (hp h0 m0_h0).2.1.trans k0_h0
        have m_h0 : h0 ∈ u.1 := (hp h0 m0_h0).1
        have k_a32 : u.2.1 a32 = 62 := (hp a32 m0_a32).2.1.trans k0_a32
        have m_a32 : a32 ∈ u.1 := (hp a32 m0_a32).1
        refine pget (ci := 12) (v := va_rf (u.2.2.2.2 h0 32)) (C := RX12) (T := TX12) (N := 34) hx hb hts i_X12 hown hK hP m_h0 (cF12 k_h0) rfl 32 (by decide) (hts (.fieldLink RX12 67 "BellowsRowModel" "numbers" "[J") (by decide +kernel)) (fun _ h9 => h9) rfl dX12_paste_158 ?_
        refine W.eq (g2 := F0 m 161 ls [.ref a32]) (by rw [(((hp h0 m0_h0).2.2.2.2.2.1 k0_h0 32).trans q0_32)]; rfl) ?_
        refine lv_bipush (v := 60) hx hb dX12_paste_161 (by decide) ?_
        refine lv_iload_n hx hb dX12_paste_163 rfl (lv_at hl 1 rfl) ?_
        refine lv_imul hx hb dX12_paste_164 ?_
        refine lv_topi (fun x2 ex2 => ?_)
        have tx2 : x2.toInt = 60 * v3.toInt := by rw [ex2]; exact i_mulc (c := 60) (by decide) ((show 0 ≤ v3.toInt ∧ v3.toInt ≤ 3 from by (try simp only [i_lt, i_le, i_eq, Int32.toInt_toInt64, Int32.reduceToInt, Int64.reduceToInt, true_and, and_true, false_and, and_false, false_or, or_false, true_or, or_true, not_true_eq_false, not_false_eq_true, ne_eq, forall_const, true_implies, false_implies, implies_true] at g_v3 g_v4 g_v5 g_v6 ex0 hn150 c1 ⊢) <;> omega)) (by decide)
        refine lv_iload hx hb dX12_paste_165 (lv_at hl 2 rfl) ?_
        refine lv_iadd hx hb dX12_paste_167 ?_
        refine lv_topi (fun x3 ex3 => ?_)
        have tx3 : x3.toInt = x2.toInt + v4.toInt := by rw [ex3]; exact i_add (by (try simp only [i_lt, i_le, i_eq, Int32.toInt_toInt64, Int32.reduceToInt, Int64.reduceToInt, true_and, and_true, false_and, and_false, false_or, or_false, true_or, or_true, not_true_eq_false, not_false_eq_true, ne_eq, forall_const, true_implies, false_implies, implies_true] at g_v3 g_v4 g_v5 g_v6 ex0 hn150 c1 tx2 ⊢) <;> omega) (by (try simp only [i_lt, i_le, i_eq, Int32.toInt_toInt64, Int32.reduceToInt, Int64.reduceToInt, true_and, and_true, false_and, and_false, false_or, or_false, true_or, or_true, not_true_eq_false, not_false_eq_true, ne_eq, forall_const, true_implies, false_implies, implies_true] at g_v3 g_v4 g_v5 g_v6 ex0 hn150 c1 tx2 ⊢) <;> omega)
        refine lv_iload hx hb dX12_paste_168 (lv_at hl 4 rfl) ?_
        refine lv_iadd hx hb dX12_paste_170 ?_
        refine lv_topi (fun x4 ex4 => ?_)
        have tx4 : x4.toInt = x3.toInt + v6.toInt := by rw [ex4]; exact i_add (by (try simp only [i_lt, i_le, i_eq, Int32.toInt_toInt64, Int32.reduceToInt, Int64.reduceToInt, true_and, and_true, false_and, and_false, false_or, or_false, true_or, or_true, not_true_eq_false, not_false_eq_true, ne_eq, forall_const, true_implies, false_implies, implies_true] at g_v3 g_v4 g_v5 g_v6 ex0 hn150 c1 tx2 tx3 ⊢) <;> omega) (by (try simp only [i_lt, i_le, i_eq, Int32.toInt_toInt64, Int32.reduceToInt, Int64.reduceToInt, true_and, and_true, false_and, and_false, false_or, or_false, true_or, or_true, not_true_eq_false, not_false_eq_true, ne_eq, forall_const, true_implies, false_implies, implies_true] at g_v3 g_v4 g_v5 g_v6 ex0 hn150 c1 tx2 tx3 ⊢) <;> omega)
        refine lv_aload_n hx hb dX12_paste_171 rfl (lv_at hl 0 rfl) ?_
        have k_a33 : u.2.1 a33 = 63 := (hp a33 m0_a33).2.1.trans k0_a33
        have m_a33 : a33 ∈ u.1 := (hp a33 m0_a33).1
        refine pget (ci := 12) (v := va_rf (u.2.2.2.2 h0 33)) (C := RX12) (T := TX12) (N := 34) hx hb hts i_X12 hown hK hP m_h0 (cF12 k_h0) rfl 33 (by decide) (hts (.fieldLink RX12 71 "BellowsRowModel" "moving" "[J") (by decide +kernel)) (fun _ h9 => h9) rfl dX12_paste_172 ?_
        refine W.eq (g2 := F0 m 175 ls [.ref a33, .int x4, .ref a32]) (by rw [(((hp h0 m0_h0).2.2.2.2.2.1 k0_h0 33).trans q0_33)]; rfl) ?_
        refine lv_iload hx hb dX12_paste_175 (lv_at hl 4 rfl) ?_
        refine palJ hx hb hK hP m_a33 (cF63 k_a33) 2 rfl (vp_in_iff.mpr (by (try simp only [i_lt, i_le, i_eq, Int32.toInt_toInt64, Int32.reduceToInt, Int64.reduceToInt, true_and, and_true, false_and, and_false, false_or, or_false, true_or, or_true, not_true_eq_false, not_false_eq_true, ne_eq, forall_const, true_implies, false_implies, implies_true] at g_v3 g_v4 g_v5 g_v6 ex0 hn150 c1 tx2 tx3 tx4 ⊢) <;> omega)) dX12_paste_177 ?_
        refine lv_topl (fun x5 ex5 => ?_)
        refine pasJ (u' := pSJ u a32 (x4.toNatClampNeg) x5) hx hb hK hP hD hS m_a32 (cF62 k_a32) 2 rfl (vp_in_iff.mpr (by (try simp only [i_lt, i_le, i_eq, Int32.toInt_toInt64, Int32.reduceToInt, Int64.reduceToInt, true_and, and_true, false_and, and_false, false_or, or_false, true_or, or_true, not_true_eq_false, not_false_eq_true, ne_eq, forall_const, true_implies, false_implies, implies_true] at g_v3 g_v4 g_v5 g_v6 ex0 hn150 c1 tx2 tx3 tx4 ⊢) <;> omega)) rfl (sF62 k_a32 _ _) dX12_paste_178 (fun H locs hP hD hS => ?_)
        have hu := WT.setJ (a := a32) (s := (x4.toNatClampNeg)) (v := x5) hu
        have hp := PX.setJ (a := a32) (s := (x4.toNatClampNeg)) (v := x5) hp
        obtain ⟨u6, hu6⟩ : ∃ z, z = pSJ u a32 (x4.toNatClampNeg) x5 := ⟨_, rfl⟩
        rw [← hu6] at hP hD hu hp
        obtain ⟨x7, ex7⟩ : ∃ y : Int32, y = v6 + 1 := ⟨_, rfl⟩
        have tx7 : x7.toInt = v6.toInt + 1 := by rw [ex7]; exact i_add (b := 1) (by (try simp only [i_lt, i_le, i_eq, Int32.toInt_toInt64, Int32.reduceToInt, Int64.reduceToInt, true_and, and_true, false_and, and_false, false_or, or_false, true_or, or_true, not_true_eq_false, not_false_eq_true, ne_eq, forall_const, true_implies, false_implies, implies_true] at g_v3 g_v4 g_v5 g_v6 ex0 hn150 c1 tx2 tx3 tx4 ⊢) <;> omega) (by (try simp only [i_lt, i_le, i_eq, Int32.toInt_toInt64, Int32.reduceToInt, Int64.reduceToInt, true_and, and_true, false_and, and_false, false_or, or_false, true_or, or_true, not_true_eq_false, not_false_eq_true, ne_eq, forall_const, true_implies, false_implies, implies_true] at g_v3 g_v4 g_v5 g_v6 ex0 hn150 c1 tx2 tx3 tx4 ⊢) <;> omega)
        refine lv_iinc (v := x7) (lv' := [(6, .int x7), (0, .ref h0), (3, .int v3), (4, .int v4), (5, .int v5)]) hx hb dX12_paste_179 hl (k := 4) rfl (by rw [ex7]; rfl) (by decide) rfl (fun ls hl => ?_)
        refine lv_goto (tgt := 150) hx hb dX12_paste_182 (by decide) ?_
        exact ih150 _ _ _ ls v3 v4 v5 x7 hu hp hP hD hS (by (try simp only [i_lt, i_le, i_eq, Int32.toInt_toInt64, Int32.reduceToInt, Int64.reduceToInt, true_and, and_true, false_and, and_false, false_or, or_false, true_or, or_true, not_true_eq_false, not_false_eq_true, ne_eq, forall_const, true_implies, false_implies, implies_true] at g_v3 g_v4 g_v5 g_v6 ex0 hn150 c1 tx2 tx3 tx4 tx7 ⊢) <;> omega) (by (try simp only [i_lt, i_le, i_eq, Int32.toInt_toInt64, Int32.reduceToInt, Int64.reduceToInt, true_and, and_true, false_and, and_false, false_or, or_false, true_or, or_true, not_true_eq_false, not_false_eq_true, ne_eq, forall_const, true_implies, false_implies, implies_true] at g_v3 g_v4 g_v5 g_v6 ex0 hn150 c1 tx2 tx3 tx4 tx7 ⊢) <;> omega) (by (try simp only [i_lt, i_le, i_eq, Int32.toInt_toInt64, Int32.reduceToInt, Int64.reduceToInt, true_and, and_true, false_and, and_false, false_or, or_false, true_or, or_true, not_true_eq_false, not_false_eq_true, ne_eq, forall_const, true_implies, false_implies, implies_true] at g_v3 g_v4 g_v5 g_v6 ex0 hn150 c1 tx2 tx3 tx4 tx7 ⊢) <;> omega) (by (try simp only [i_lt, i_le, i_eq, Int32.toInt_toInt64, Int32.reduceToInt, Int64.reduceToInt, true_and, and_true, false_and, and_false, false_or, or_false, true_or, or_true, not_true_eq_false, not_false_eq_true, ne_eq, forall_const, true_implies, false_implies, implies_true] at g_v3 g_v4 g_v5 g_v6 ex0 hn150 c1 tx2 tx3 tx4 tx7 ⊢) <;> omega) (by (try simp only [i_lt, i_le, i_eq, Int32.toInt_toInt64, Int32.reduceToInt, Int64.reduceToInt, true_and, and_true, false_and, and_false, false_or, or_false, true_or, or_true, not_true_eq_false, not_false_eq_true, ne_eq, forall_const, true_implies, false_implies, implies_true] at g_v3 g_v4 g_v5 g_v6 ex0 hn150 c1 tx2 tx3 tx4 tx7 ⊢) <;> omega) (by (try simp only [i_lt, i_le, i_eq, Int32.toInt_toInt64, Int32.reduceToInt, Int64.reduceToInt, true_and, and_true, false_and, and_false, false_or, or_false, true_or, or_true, not_true_eq_false, not_false_eq_true, ne_eq, forall_const, true_implies, false_implies, implies_true] at g_v3 g_v4 g_v5 g_v6 ex0 hn150 c1 tx2 tx3 tx4 tx7 ⊢) <;> omega) (lv_sub hl [1, 2, 3, 4, 0] rfl)
  have B113 : ∀ (n113 : Nat) (u : PSt) (H : Heap) (locs : List Loc) (ls : Array Slot) (v1 : Int32) (v2 : Int32) (v3 : Int32) (v4 : Int32) (v5 : Int32) (v6 : Int32), WT u → PX u0 u → va_P D vwCl (PW k u) H → va_D A (PW k u) → va_S A s.heap H locs → (2147483648 - v6.toInt).toNat ≤ n113 → 0 ≤ v1.toInt ∧ v1.toInt ≤ 3 → 0 ≤ v2.toInt ∧ v2.toInt ≤ 60 → 0 ≤ v3.toInt ∧ v3.toInt ≤ 3 → 0 ≤ v4.toInt ∧ v4.toInt ≤ 60 → 0 ≤ v5.toInt ∧ v5.toInt ≤ 60 → 0 ≤ v6.toInt ∧ v6.toInt ≤ 60 → (v2.toInt + v5.toInt ≤ 60) → (v4.toInt + v5.toInt ≤ 60) → lv_has ls 7 [(0, .ref h0), (1, .int v1), (2, .int v2), (3, .int v3), (4, .int v4), (5, .int v5), (6, .int v6)] → W p l e (headSpec wsX12_paste ({ frames := 2, cells := 0, slots := 0, locals := 45 })).room s m ([.ref h0, .int p1, .int p2, .int p3, .int p4, .int p5] : List Value).toArray below meth c H locs 0 0 (MQ below (va_Qi (fun r v => WT v ∧ PX u0 v ∧ (True)) (WB D A (PW k)) A) ([.ref h0, .int p1, .int p2, .int p3, .int p4, .int p5] : List Value).toArray s 0 0 A) (F0 m 113 ls []) := by
    intro n113
    induction n113 with
    | zero =>
      intro u H locs ls v1 v2 v3 v4 v5 v6 hu hp hP hD hS hn113 g_v1 g_v2 g_v3 g_v4 g_v5 g_v6 ex0 ex1 hl
      exact absurd hn113 (by have := Int32.toInt_lt v6; have := Int32.le_toInt v6; omega)
    | succ n113 ih113 =>
      intro u H locs ls v1 v2 v3 v4 v5 v6 hu hp hP hD hS hn113 g_v1 g_v2 g_v3 g_v4 g_v5 g_v6 ex0 ex1 hl
      refine lv_iload hx hb dX12_paste_113 (lv_at hl 6 rfl) ?_
      refine lv_iload hx hb dX12_paste_115 (lv_at hl 5 rfl) ?_
      refine lv_icmp_ge (tgt := 147) hx hb dX12_paste_117 (by decide) (fun c8 => ?_) (fun c8 => ?_)
      · refine lv_iconst (v := 0) hx hb dX12_paste_147 (by decide) ?_
        refine lv_istore (lv' := [(6, .int 0), (0, .ref h0), (1, .int v1), (2, .int v2), (3, .int v3), (4, .int v4), (5, .int v5)]) hx hb dX12_paste_148 hl (by decide) rfl (fun ls hl => ?_)
        exact B150 _ _ _ _ ls v3 v4 v5 0 hu hp hP hD hS (Nat.le_refl _) (by (try simp only [i_lt, i_le, i_eq, Int32.toInt_toInt64, Int32.reduceToInt, Int64.reduceToInt, true_and, and_true, false_and, and_false, false_or, or_false, true_or, or_true, not_true_eq_false, not_false_eq_true, ne_eq, forall_const, true_implies, false_implies, implies_true] at g_v1 g_v2 g_v3 g_v4 g_v5 g_v6 ex0 ex1 hn113 c8 ⊢) <;> omega) (by (try simp only [i_lt, i_le, i_eq, Int32.toInt_toInt64, Int32.reduceToInt, Int64.reduceToInt, true_and, and_true, false_and, and_false, false_or, or_false, true_or, or_true, not_true_eq_false, not_false_eq_true, ne_eq, forall_const, true_implies, false_implies, implies_true] at g_v1 g_v2 g_v3 g_v4 g_v5 g_v6 ex0 ex1 hn113 c8 ⊢) <;> omega) (by (try simp only [i_lt, i_le, i_eq, Int32.toInt_toInt64, Int32.reduceToInt, Int64.reduceToInt, true_and, and_true, false_and, and_false, false_or, or_false, true_or, or_true, not_true_eq_false, not_false_eq_true, ne_eq, forall_const, true_implies, false_implies, implies_true] at g_v1 g_v2 g_v3 g_v4 g_v5 g_v6 ex0 ex1 hn113 c8 ⊢) <;> omega) (by (try simp only [i_lt, i_le, i_eq, Int32.toInt_toInt64, Int32.reduceToInt, Int64.reduceToInt, true_and, and_true, false_and, and_false, false_or, or_false, true_or, or_true, not_true_eq_false, not_false_eq_true, ne_eq, forall_const, true_implies, false_implies, implies_true] at g_v1 g_v2 g_v3 g_v4 g_v5 g_v6 ex0 ex1 hn113 c8 ⊢) <;> omega) (by (try simp only [i_lt, i_le, i_eq, Int32.toInt_toInt64, Int32.reduceToInt, Int64.reduceToInt, true_and, and_true, false_and, and_false, false_or, or_false, true_or, or_true, not_true_eq_false, not_false_eq_true, ne_eq, forall_const, true_implies, false_implies, implies_true] at g_v1 g_v2 g_v3 g_v4 g_v5 g_v6 ex0 ex1 hn113 c8 ⊢) <;> omega) (lv_sub hl [1, 4, 5, 6, 0] rfl)
      · refine lv_aload_n hx hb dX12_paste_120 rfl (lv_at hl 0 rfl) ?_
        have k_h0 : u.2.1 h0 = 12 := (hp h0 m0_h0).2.1.trans k0_h0
        have m_h0 : h0 ∈ u.1 := (hp h0 m0_h0).1
        have k_a33 : u.2.1 a33 = 63 := (hp a33 m0_a33).2.1.trans k0_a33
        have m_a33 : a33 ∈ u.1 := (hp a33 m0_a33).1
        refine pget (ci := 12) (v := va_rf (u.2.2.2.2 h0 33)) (C := RX12) (T := TX12) (N := 34) hx hb hts i_X12 hown hK hP m_h0 (cF12 k_h0) rfl 33 (by decide) (hts (.fieldLink RX12 71 "BellowsRowModel" "moving" "[J") (by decide +kernel)) (fun _ h9 => h9) rfl dX12_paste_121 ?_
        refine W.eq (g2 := F0 m 124 ls [.ref a33]) (by rw [(((hp h0 m0_h0).2.2.2.2.2.1 k0_h0 33).trans q0_33)]; rfl) ?_
        refine lv_iload hx hb dX12_paste_124 (lv_at hl 6 rfl) ?_
        refine lv_aload_n hx hb dX12_paste_126 rfl (lv_at hl 0 rfl) ?_
        have k_a32 : u.2.1 a32 = 62 := (hp a32 m0_a32).2.1.trans k0_a32
        have m_a32 : a32 ∈ u.1 := (hp a32 m0_a32).1
        refine pget (ci := 12) (v := va_rf (u.2.2.2.2 h0 32)) (C := RX12) (T := TX12) (N := 34) hx hb hts i_X12 hown hK hP m_h0 (cF12 k_h0) rfl 32 (by decide) (hts (.fieldLink RX12 67 "BellowsRowModel" "numbers" "[J") (by decide +kernel)) (fun _ h9 => h9) rfl dX12_paste_127 ?_
        refine W.eq (g2 := F0 m 130 ls [.ref a32, .int v6, .ref a33]) (by rw [(((hp h0 m0_h0).2.2.2.2.2.1 k0_h0 32).trans q0_32)]; rfl) ?_
        refine lv_bipush (v := 60) hx hb dX12_paste_130 (by decide) ?_
        refine lv_iload_n hx hb dX12_paste_132 rfl (lv_at hl 1 rfl) ?_
        refine lv_imul hx hb dX12_paste_133 ?_
        refine lv_topi (fun x9 ex9 => ?_)
        have tx9 : x9.toInt = 60 * v1.toInt := by rw [ex9]; exact i_mulc (c := 60) (by decide) ((show 0 ≤ v1.toInt ∧ v1.toInt ≤ 3 from by (try simp only [i_lt, i_le, i_eq, Int32.toInt_toInt64, Int32.reduceToInt, Int64.reduceToInt, true_and, and_true, false_and, and_false, false_or, or_false, true_or, or_true, not_true_eq_false, not_false_eq_true, ne_eq, forall_const, true_implies, false_implies, implies_true] at g_v1 g_v2 g_v3 g_v4 g_v5 g_v6 ex0 ex1 hn113 c8 ⊢) <;> omega)) (by decide)
        refine lv_iload_n hx hb dX12_paste_134 rfl (lv_at hl 2 rfl) ?_
        refine lv_iadd hx hb dX12_paste_135 ?_
        refine lv_topi (fun x10 ex10 => ?_)
        have tx10 : x10.toInt = x9.toInt + v2.toInt := by rw [ex10]; exact i_add (by (try simp only [i_lt, i_le, i_eq, Int32.toInt_toInt64, Int32.reduceToInt, Int64.reduceToInt, true_and, and_true, false_and, and_false, false_or, or_false, true_or, or_true, not_true_eq_false, not_false_eq_true, ne_eq, forall_const, true_implies, false_implies, implies_true] at g_v1 g_v2 g_v3 g_v4 g_v5 g_v6 ex0 ex1 hn113 c8 tx9 ⊢) <;> omega) (by (try simp only [i_lt, i_le, i_eq, Int32.toInt_toInt64, Int32.reduceToInt, Int64.reduceToInt, true_and, and_true, false_and, and_false, false_or, or_false, true_or, or_true, not_true_eq_false, not_false_eq_true, ne_eq, forall_const, true_implies, false_implies, implies_true] at g_v1 g_v2 g_v3 g_v4 g_v5 g_v6 ex0 ex1 hn113 c8 tx9 ⊢) <;> omega)
        refine lv_iload hx hb dX12_paste_136 (lv_at hl 6 rfl) ?_
        refine lv_iadd hx hb dX12_paste_138 ?_
        refine lv_topi (fun x11 ex11 => ?_)
        have tx11 : x11.toInt = x10.toInt + v6.toInt := by rw [ex11]; exact i_add (by (try simp only [i_lt, i_le, i_eq, Int32.toInt_toInt64, Int32.reduceToInt, Int64.reduceToInt, true_and, and_true, false_and, and_false, false_or, or_false, true_or, or_true, not_true_eq_false, not_false_eq_true, ne_eq, forall_const, true_implies, false_implies, implies_true] at g_v1 g_v2 g_v3 g_v4 g_v5 g_v6 ex0 ex1 hn113 c8 tx9 tx10 ⊢) <;> omega) (by (try simp only [i_lt, i_le, i_eq, Int32.toInt_toInt64, Int32.reduceToInt, Int64.reduceToInt, true_and, and_true, false_and, and_false, false_or, or_false, true_or, or_true, not_true_eq_false, not_false_eq_true, ne_eq, forall_const, true_implies, false_implies, implies_true] at g_v1 g_v2 g_v3 g_v4 g_v5 g_v6 ex0 ex1 hn113 c8 tx9 tx10 ⊢) <;> omega)
        refine palJ hx hb hK hP m_a32 (cF62 k_a32) 2 rfl (vp_in_iff.mpr (by (try simp only [i_lt, i_le, i_eq, Int32.toInt_toInt64, Int32.reduceToInt, Int64.reduceToInt, true_and, and_true, false_and, and_false, false_or, or_false, true_or, or_true, not_true_eq_false, not_false_eq_true, ne_eq, forall_const, true_implies, false_implies, implies_true] at g_v1 g_v2 g_v3 g_v4 g_v5 g_v6 ex0 ex1 hn113 c8 tx9 tx10 tx11 ⊢) <;> omega)) dX12_paste_139 ?_
        refine lv_topl (fun x12 ex12 => ?_)
        refine pasJ (u' := pSJ u a33 (v6.toNatClampNeg) x12) hx hb hK hP hD hS m_a33 (cF63 k_a33) 2 rfl (vp_in_iff.mpr (by (try simp only [i_lt, i_le, i_eq, Int32.toInt_toInt64, Int32.reduceToInt, Int64.reduceToInt, true_and, and_true, false_and, and_false, false_or, or_false, true_or, or_true, not_true_eq_false, not_false_eq_true, ne_eq, forall_const, true_implies, false_implies, implies_true] at g_v1 g_v2 g_v3 g_v4 g_v5 g_v6 ex0 ex1 hn113 c8 tx9 tx10 tx11 ⊢) <;> omega)) rfl (sF63 k_a33 _ _) dX12_paste_140 (fun H locs hP hD hS => ?_)
        have hu := WT.setJ (a := a33) (s := (v6.toNatClampNeg)) (v := x12) hu
        have hp := PX.setJ (a := a33) (s := (v6.toNatClampNeg)) (v := x12) hp
        obtain ⟨u13, hu13⟩ : ∃ z, z = pSJ u a33 (v6.toNatClampNeg) x12 := ⟨_, rfl⟩
        rw [← hu13] at hP hD hu hp
        obtain ⟨x14, ex14⟩ : ∃ y : Int32, y = v6 + 1 := ⟨_, rfl⟩
        have tx14 : x14.toInt = v6.toInt + 1 := by rw [ex14]; exact i_add (b := 1) (by (try simp only [i_lt, i_le, i_eq, Int32.toInt_toInt64, Int32.reduceToInt, Int64.reduceToInt, true_and, and_true, false_and, and_false, false_or, or_false, true_or, or_true, not_true_eq_false, not_false_eq_true, ne_eq, forall_const, true_implies, false_implies, implies_true] at g_v1 g_v2 g_v3 g_v4 g_v5 g_v6 ex0 ex1 hn113 c8 tx9 tx10 tx11 ⊢) <;> omega) (by (try simp only [i_lt, i_le, i_eq, Int32.toInt_toInt64, Int32.reduceToInt, Int64.reduceToInt, true_and, and_true, false_and, and_false, false_or, or_false, true_or, or_true, not_true_eq_false, not_false_eq_true, ne_eq, forall_const, true_implies, false_implies, implies_true] at g_v1 g_v2 g_v3 g_v4 g_v5 g_v6 ex0 ex1 hn113 c8 tx9 tx10 tx11 ⊢) <;> omega)
        refine lv_iinc (v := x14) (lv' := [(6, .int x14), (0, .ref h0), (1, .int v1), (2, .int v2), (3, .int v3), (4, .int v4), (5, .int v5)]) hx hb dX12_paste_141 hl (k := 6) rfl (by rw [ex14]; rfl) (by decide) rfl (fun ls hl => ?_)
        refine lv_goto (tgt := 113) hx hb dX12_paste_144 (by decide) ?_
        exact ih113 _ _ _ ls v1 v2 v3 v4 v5 x14 hu hp hP hD hS (by (try simp only [i_lt, i_le, i_eq, Int32.toInt_toInt64, Int32.reduceToInt, Int64.reduceToInt, true_and, and_true, false_and, and_false, false_or, or_false, true_or, or_true, not_true_eq_false, not_false_eq_true, ne_eq, forall_const, true_implies, false_implies, implies_true] at g_v1 g_v2 g_v3 g_v4 g_v5 g_v6 ex0 ex1 hn113 c8 tx9 tx10 tx11 tx14 ⊢) <;> omega) (by (try simp only [i_lt, i_le, i_eq, Int32.toInt_toInt64, Int32.reduceToInt, Int64.reduceToInt, true_and, and_true, false_and, and_false, false_or, or_false, true_or, or_true, not_true_eq_false, not_false_eq_true, ne_eq, forall_const, true_implies, false_implies, implies_true] at g_v1 g_v2 g_v3 g_v4 g_v5 g_v6 ex0 ex1 hn113 c8 tx9 tx10 tx11 tx14 ⊢) <;> omega) (by (try simp only [i_lt, i_le, i_eq, Int32.toInt_toInt64, Int32.reduceToInt, Int64.reduceToInt, true_and, and_true, false_and, and_false, false_or, or_false, true_or, or_true, not_true_eq_false, not_false_eq_true, ne_eq, forall_const, true_implies, false_implies, implies_true] at g_v1 g_v2 g_v3 g_v4 g_v5 g_v6 ex0 ex1 hn113 c8 tx9 tx10 tx11 tx14 ⊢) <;> omega) (by (try simp only [i_lt, i_le, i_eq, Int32.toInt_toInt64, Int32.reduceToInt, Int64.reduceToInt, true_and, and_true, false_and, and_false, false_or, or_false, true_or, or_true, not_true_eq_false, not_false_eq_true, ne_eq, forall_const, true_implies, false_implies, implies_true] at g_v1 g_v2 g_v3 g_v4 g_v5 g_v6 ex0 ex1 hn113 c8 tx9 tx10 tx11 tx14 ⊢) <;> omega) (by (try simp only [i_lt, i_le, i_eq, Int32.toInt_toInt64, Int32.reduceToInt, Int64.reduceToInt, true_and, and_true, false_and, and_false, false_or, or_false, true_or, or_true, not_true_eq_false, not_false_eq_true, ne_eq, forall_const, true_implies, false_implies, implies_true] at g_v1 g_v2 g_v3 g_v4 g_v5 g_v6 ex0 ex1 hn113 c8 tx9 tx10 tx11 tx14 ⊢) <;> omega) (by (try simp only [i_lt, i_le, i_eq, Int32.toInt_toInt64, Int32.reduceToInt, Int64.reduceToInt, true_and, and_true, false_and, and_false, false_or, or_false, true_or, or_true, not_true_eq_false, not_false_eq_true, ne_eq, forall_const, true_implies, false_implies, implies_true] at g_v1 g_v2 g_v3 g_v4 g_v5 g_v6 ex0 ex1 hn113 c8 tx9 tx10 tx11 tx14 ⊢) <;> omega) (by (try simp only [i_lt, i_le, i_eq, Int32.toInt_toInt64, Int32.reduceToInt, Int64.reduceToInt, true_and, and_true, false_and, and_false, false_or, or_false, true_or, or_true, not_true_eq_false, not_false_eq_true, ne_eq, forall_const, true_implies, false_implies, implies_true] at g_v1 g_v2 g_v3 g_v4 g_v5 g_v6 ex0 ex1 hn113 c8 tx9 tx10 tx11 tx14 ⊢) <;> omega) (by (try simp only [i_lt, i_le, i_eq, Int32.toInt_toInt64, Int32.reduceToInt, Int64.reduceToInt, true_and, and_true, false_and, and_false, false_or, or_false, true_or, or_true, not_true_eq_false, not_false_eq_true, ne_eq, forall_const, true_implies, false_implies, implies_true] at g_v1 g_v2 g_v3 g_v4 g_v5 g_v6 ex0 ex1 hn113 c8 tx9 tx10 tx11 tx14 ⊢) <;> omega) (by (try simp only [i_lt, i_le, i_eq, Int32.toInt_toInt64, Int32.reduceToInt, Int64.reduceToInt, true_and, and_true, false_and, and_false, false_or, or_false, true_or, or_true, not_true_eq_false, not_false_eq_true, ne_eq, forall_const, true_implies, false_implies, implies_true] at g_v1 g_v2 g_v3 g_v4 g_v5 g_v6 ex0 ex1 hn113 c8 tx9 tx10 tx11 tx14 ⊢) <;> omega) (lv_sub hl [1, 2, 3, 4, 5, 6, 0] rfl)
  have hl := lv_entry ([.ref h0, .int p1, .int p2, .int p3, .int p4, .int p5]) (n := 7) (Nat.le_of_ble_eq_true rfl)
  rw [lg_entry_eq]
  generalize (lg_sl ([.ref h0, .int p1, .int p2, .int p3, .int p4, .int p5]) ++ List.replicate (7 - (lg_sl ([.ref h0, .int p1, .int p2, .int p3, .int p4, .int p5])).length) Slot.unset).toArray = ls at hl ⊢
  have hl : lv_has ls 7 [(0, .ref h0), (1, .int p1), (2, .int p2), (3, .int p3), (4, .int p4), (5, .int p5)] := hl
  refine lv_iload_n hx hb dX12_paste_0 rfl (lv_at hl 1 rfl) ?_
  refine psi (As := [.int p1]) (rest := []) ⟨hx, hb, hml, hown, hts⟩ (t_X12_isSlot l D k p1) (va_cwS 1 hts gX12_paste_X12_isSlot rfl rfl rfl (by decide +kernel) ⟨Nat.le_of_ble_eq_true rfl, Nat.le_of_ble_eq_true rfl⟩) hK rfl hl.1 rfl (Nat.le_of_ble_eq_true rfl) dX12_paste_1 ⟨Nat.le_of_ble_eq_true rfl, Nat.le_of_ble_eq_true rfl⟩ (fun r15 hr15 => ?_)
  refine lv_if_eq (tgt := 14) hx hb dX12_paste_4 (by decide) (fun c16 => ?_) (fun c16 => ?_)
  · have eb17 : r15.toInt = 0 := by rcases hr15 with ⟨q, -⟩ | ⟨q, -⟩; exact q; (exact absurd (c16) (fun w => by rw [w] at q; exact absurd q (by decide)))
    have fb17 : (p1.toInt < 0 ∨ 3 < p1.toInt) := by rcases hr15 with ⟨q, r⟩ | ⟨q, r⟩; exact r; exact absurd q (by omega)
    clear hr15
    refine lv_bipush (v := (-2)) hx hb dX12_paste_14 (by decide) ?_
    exact W.iret (v := (-2)) hx hb hr (fun t ht hW => ⟨⟨(-2), u0, rfl, ⟨hu, hp, trivial⟩, by rw [ht]; exact hP, hD⟩, hS.F ht⟩) hS.2.2 dX12_paste_16
  · have eb18 : r15.toInt = 1 := by rcases hr15 with ⟨q, -⟩ | ⟨q, -⟩; exact absurd (i_eq.mpr q) c16; exact q
    have fb18 : 0 ≤ p1.toInt ∧ p1.toInt ≤ 3 := by rcases hr15 with ⟨q, r⟩ | ⟨q, r⟩; exact absurd q (by omega); exact r
    clear hr15
    refine lv_iload_n hx hb dX12_paste_7 rfl (lv_at hl 3 rfl) ?_
    refine psi (As := [.int p3]) (rest := []) ⟨hx, hb, hml, hown, hts⟩ (t_X12_isSlot l D k p3) (va_cwS 1 hts gX12_paste_X12_isSlot rfl rfl rfl (by decide +kernel) ⟨Nat.le_of_ble_eq_true rfl, Nat.le_of_ble_eq_true rfl⟩) hK rfl hl.1 rfl (Nat.le_of_ble_eq_true rfl) dX12_paste_8 ⟨Nat.le_of_ble_eq_true rfl, Nat.le_of_ble_eq_true rfl⟩ (fun r19 hr19 => ?_)
    refine lv_if_ne (tgt := 17) hx hb dX12_paste_11 (by decide) (fun c20 => ?_) (fun c20 => ?_)
    · have eb21 : r19.toInt = 1 := by rcases hr19 with ⟨q, -⟩ | ⟨q, -⟩; exact absurd (i_eq.mpr q) c20; exact q
      have fb21 : 0 ≤ p3.toInt ∧ p3.toInt ≤ 3 := by rcases hr19 with ⟨q, r⟩ | ⟨q, r⟩; exact absurd q (by omega); exact r
      clear hr19
      refine lv_aload_n hx hb dX12_paste_17 rfl (lv_at hl 0 rfl) ?_
      refine pget (ci := 12) (v := va_rf (u0.2.2.2.2 h0 30)) (C := RX12) (T := TX12) (N := 34) hx hb hts i_X12 hown hK hP m_h0 (cF12 k_h0) rfl 30 (by decide) (hts (.fieldLink RX12 61 "BellowsRowModel" "slotMany" "[I") (by decide +kernel)) (fun _ h9 => h9) rfl dX12_paste_18 ?_
      refine W.eq (g2 := F0 m 21 ls [.ref a30]) (by rw [(((hp h0 m0_h0).2.2.2.2.2.1 k0_h0 30).trans q0_30)]; rfl) ?_
      refine lv_iload_n hx hb dX12_paste_21 rfl (lv_at hl 1 rfl) ?_
      refine palI hx hb hK hP m_a30 (cF60 k_a30) 1 rfl (vp_in_iff.mpr (by (try simp only [i_lt, i_le, i_eq, Int32.toInt_toInt64, Int32.reduceToInt, Int64.reduceToInt, true_and, and_true, false_and, and_false, false_or, or_false, true_or, or_true, not_true_eq_false, not_false_eq_true, ne_eq, forall_const, true_implies, false_implies, implies_true] at eb18 fb18 eb21 fb21 ⊢) <;> omega)) dX12_paste_22 ?_
      refine lv_topi (fun x22 ex22 => ?_)
      have tx22 : x22.toInt = (u0.2.2.1 a30 (p1.toNatClampNeg)).toInt := congrArg Int32.toInt ex22
      have g23 : -1 ≤ x22.toInt ∧ x22.toInt ≤ 60 := by have g := (hu a30 m_a30).2.2.2 (p1.toNatClampNeg); rw [k_a30] at g; rw [show x22 = _ from ex22]; exact g
      refine lv_iconst (v := (-1)) hx hb dX12_paste_23 (by decide) ?_
      refine lv_icmp_eq (tgt := 37) hx hb dX12_paste_24 (by decide) (fun c24 => ?_) (fun c24 => ?_)
      · refine lv_bipush (v := (-6)) hx hb dX12_paste_37 (by decide) ?_
        exact W.iret (v := (-6)) hx hb hr (fun t ht hW => ⟨⟨(-6), u0, rfl, ⟨hu, hp, trivial⟩, by rw [ht]; exact hP, hD⟩, hS.F ht⟩) hS.2.2 dX12_paste_39
      · refine lv_aload_n hx hb dX12_paste_27 rfl (lv_at hl 0 rfl) ?_
        refine pget (ci := 12) (v := va_rf (u0.2.2.2.2 h0 30)) (C := RX12) (T := TX12) (N := 34) hx hb hts i_X12 hown hK hP m_h0 (cF12 k_h0) rfl 30 (by decide) (hts (.fieldLink RX12 61 "BellowsRowModel" "slotMany" "[I") (by decide +kernel)) (fun _ h9 => h9) rfl dX12_paste_28 ?_
        refine W.eq (g2 := F0 m 31 ls [.ref a30]) (by rw [(((hp h0 m0_h0).2.2.2.2.2.1 k0_h0 30).trans q0_30)]; rfl) ?_
        refine lv_iload_n hx hb dX12_paste_31 rfl (lv_at hl 3 rfl) ?_
        refine palI hx hb hK hP m_a30 (cF60 k_a30) 1 rfl (vp_in_iff.mpr (by (try simp only [i_lt, i_le, i_eq, Int32.toInt_toInt64, Int32.reduceToInt, Int64.reduceToInt, true_and, and_true, false_and, and_false, false_or, or_false, true_or, or_true, not_true_eq_false, not_false_eq_true, ne_eq, forall_const, true_implies, false_implies, implies_true] at eb18 fb18 eb21 fb21 tx22 g23 c24 ⊢) <;> omega)) dX12_paste_32 ?_
        refine lv_topi (fun x25 ex25 => ?_)
        have tx25 : x25.toInt = (u0.2.2.1 a30 (p3.toNatClampNeg)).toInt := congrArg Int32.toInt ex25
        have g26 : -1 ≤ x25.toInt ∧ x25.toInt ≤ 60 := by have g := (hu a30 m_a30).2.2.2 (p3.toNatClampNeg); rw [k_a30] at g; rw [show x25 = _ from ex25]; exact g
        refine lv_iconst (v := (-1)) hx hb dX12_paste_33 (by decide) ?_
        refine lv_icmp_ne (tgt := 40) hx hb dX12_paste_34 (by decide) (fun c27 => ?_) (fun c27 => ?_)
        · refine lv_aload_n hx hb dX12_paste_40 rfl (lv_at hl 0 rfl) ?_
          refine pget (ci := 12) (v := va_rf (u0.2.2.2.2 h0 31)) (C := RX12) (T := TX12) (N := 34) hx hb hts i_X12 hown hK hP m_h0 (cF12 k_h0) rfl 31 (by decide) (hts (.fieldLink RX12 64 "BellowsRowModel" "width" "[I") (by decide +kernel)) (fun _ h9 => h9) rfl dX12_paste_41 ?_
          refine W.eq (g2 := F0 m 44 ls [.ref a31]) (by rw [(((hp h0 m0_h0).2.2.2.2.2.1 k0_h0 31).trans q0_31)]; rfl) ?_
          refine lv_iload_n hx hb dX12_paste_44 rfl (lv_at hl 1 rfl) ?_
          refine palI hx hb hK hP m_a31 (cF61 k_a31) 1 rfl (vp_in_iff.mpr (by (try simp only [i_lt, i_le, i_eq, Int32.toInt_toInt64, Int32.reduceToInt, Int64.reduceToInt, true_and, and_true, false_and, and_false, false_or, or_false, true_or, or_true, not_true_eq_false, not_false_eq_true, ne_eq, forall_const, true_implies, false_implies, implies_true] at eb18 fb18 eb21 fb21 tx22 g23 c24 tx25 g26 c27 ⊢) <;> omega)) dX12_paste_45 ?_
          refine lv_topi (fun x28 ex28 => ?_)
          have tx28 : x28.toInt = (u0.2.2.1 a31 (p1.toNatClampNeg)).toInt := congrArg Int32.toInt ex28
          have g29 : 0 ≤ x28.toInt ∧ x28.toInt ≤ 3 := by have g := (hu a31 m_a31).2.2.2 (p1.toNatClampNeg); rw [k_a31] at g; rw [show x28 = _ from ex28]; exact g
          refine lv_aload_n hx hb dX12_paste_46 rfl (lv_at hl 0 rfl) ?_
          refine pget (ci := 12) (v := va_rf (u0.2.2.2.2 h0 31)) (C := RX12) (T := TX12) (N := 34) hx hb hts i_X12 hown hK hP m_h0 (cF12 k_h0) rfl 31 (by decide) (hts (.fieldLink RX12 64 "BellowsRowModel" "width" "[I") (by decide +kernel)) (fun _ h9 => h9) rfl dX12_paste_47 ?_
          refine W.eq (g2 := F0 m 50 ls [.ref a31, .int x28]) (by rw [(((hp h0 m0_h0).2.2.2.2.2.1 k0_h0 31).trans q0_31)]; rfl) ?_
          refine lv_iload_n hx hb dX12_paste_50 rfl (lv_at hl 3 rfl) ?_
          refine palI hx hb hK hP m_a31 (cF61 k_a31) 1 rfl (vp_in_iff.mpr (by (try simp only [i_lt, i_le, i_eq, Int32.toInt_toInt64, Int32.reduceToInt, Int64.reduceToInt, true_and, and_true, false_and, and_false, false_or, or_false, true_or, or_true, not_true_eq_false, not_false_eq_true, ne_eq, forall_const, true_implies, false_implies, implies_true] at eb18 fb18 eb21 fb21 tx22 g23 c24 tx25 g26 c27 tx28 g29 ⊢) <;> omega)) dX12_paste_51 ?_
          refine lv_topi (fun x30 ex30 => ?_)
          have tx30 : x30.toInt = (u0.2.2.1 a31 (p3.toNatClampNeg)).toInt := congrArg Int32.toInt ex30
          have g31 : 0 ≤ x30.toInt ∧ x30.toInt ≤ 3 := by have g := (hu a31 m_a31).2.2.2 (p3.toNatClampNeg); rw [k_a31] at g; rw [show x30 = _ from ex30]; exact g
          refine lv_icmp_eq (tgt := 58) hx hb dX12_paste_52 (by decide) (fun c32 => ?_) (fun c32 => ?_)
          · refine lv_iload_n hx hb dX12_paste_58 rfl (lv_at hl 2 rfl) ?_
            refine lv_if_lt (tgt := 107) hx hb dX12_paste_59 (by decide) (fun c33 => ?_) (fun c33 => ?_)
            · refine lv_bipush (v := (-7)) hx hb dX12_paste_107 (by decide) ?_
              exact W.iret (v := (-7)) hx hb hr (fun t ht hW => ⟨⟨(-7), u0, rfl, ⟨hu, hp, trivial⟩, by rw [ht]; exact hP, hD⟩, hS.F ht⟩) hS.2.2 dX12_paste_109
            · refine lv_iload hx hb dX12_paste_62 (lv_at hl 4 rfl) ?_
              refine lv_if_lt (tgt := 107) hx hb dX12_paste_64 (by decide) (fun c34 => ?_) (fun c34 => ?_)
              · refine lv_bipush (v := (-7)) hx hb dX12_paste_107 (by decide) ?_
                exact W.iret (v := (-7)) hx hb hr (fun t ht hW => ⟨⟨(-7), u0, rfl, ⟨hu, hp, trivial⟩, by rw [ht]; exact hP, hD⟩, hS.F ht⟩) hS.2.2 dX12_paste_109
              · refine lv_iload hx hb dX12_paste_67 (lv_at hl 5 rfl) ?_
                refine lv_if_lt (tgt := 107) hx hb dX12_paste_69 (by decide) (fun c35 => ?_) (fun c35 => ?_)
                · refine lv_bipush (v := (-7)) hx hb dX12_paste_107 (by decide) ?_
                  exact W.iret (v := (-7)) hx hb hr (fun t ht hW => ⟨⟨(-7), u0, rfl, ⟨hu, hp, trivial⟩, by rw [ht]; exact hP, hD⟩, hS.F ht⟩) hS.2.2 dX12_paste_109
                · refine lv_iload_n hx hb dX12_paste_72 rfl (lv_at hl 2 rfl) ?_
                  refine lv_i2l hx hb dX12_paste_73 rfl ?_
                  have b36 := Int32.toInt_lt p2
                  have ab36 := Int32.le_toInt p2
                  refine lv_topl (fun x37 ex37 => ?_)
                  have tx37 : x37.toInt = p2.toInt := by rw [ex37]; exact Int32.toInt_toInt64 _
                  refine lv_iload hx hb dX12_paste_74 (lv_at hl 5 rfl) ?_
                  refine lv_i2l hx hb dX12_paste_76 rfl ?_
                  have b38 := Int32.toInt_lt p5
                  have ab38 := Int32.le_toInt p5
                  refine lv_topl (fun x39 ex39 => ?_)
                  have tx39 : x39.toInt = p5.toInt := by rw [ex39]; exact Int32.toInt_toInt64 _
                  refine lv_ladd hx hb dX12_paste_77 ?_
                  refine lv_topl (fun x40 ex40 => ?_)
                  have tx40 : x40.toInt = x37.toInt + x39.toInt := by rw [ex40]; exact l_add (by (try simp only [i_lt, i_le, i_eq, Int32.toInt_toInt64, Int32.reduceToInt, Int64.reduceToInt, true_and, and_true, false_and, and_false, false_or, or_false, true_or, or_true, not_true_eq_false, not_false_eq_true, ne_eq, forall_const, true_implies, false_implies, implies_true] at eb18 fb18 eb21 fb21 tx22 g23 c24 tx25 g26 c27 tx28 g29 tx30 g31 c32 c33 c34 c35 b36 ab36 tx37 b38 ab38 tx39 ⊢) <;> omega) (by (try simp only [i_lt, i_le, i_eq, Int32.toInt_toInt64, Int32.reduceToInt, Int64.reduceToInt, true_and, and_true, false_and, and_false, false_or, or_false, true_or, or_true, not_true_eq_false, not_false_eq_true, ne_eq, forall_const, true_implies, false_implies, implies_true] at eb18 fb18 eb21 fb21 tx22 g23 c24 tx25 g26 c27 tx28 g29 tx30 g31 c32 c33 c34 c35 b36 ab36 tx37 b38 ab38 tx39 ⊢) <;> omega)
                  refine lv_aload_n hx hb dX12_paste_78 rfl (lv_at hl 0 rfl) ?_
                  refine pget (ci := 12) (v := va_rf (u0.2.2.2.2 h0 30)) (C := RX12) (T := TX12) (N := 34) hx hb hts i_X12 hown hK hP m_h0 (cF12 k_h0) rfl 30 (by decide) (hts (.fieldLink RX12 61 "BellowsRowModel" "slotMany" "[I") (by decide +kernel)) (fun _ h9 => h9) rfl dX12_paste_79 ?_
                  refine W.eq (g2 := F0 m 82 ls [.ref a30, .long x40]) (by rw [(((hp h0 m0_h0).2.2.2.2.2.1 k0_h0 30).trans q0_30)]; rfl) ?_
                  refine lv_iload_n hx hb dX12_paste_82 rfl (lv_at hl 1 rfl) ?_
                  refine palI hx hb hK hP m_a30 (cF60 k_a30) 1 rfl (vp_in_iff.mpr (by (try simp only [i_lt, i_le, i_eq, Int32.toInt_toInt64, Int32.reduceToInt, Int64.reduceToInt, true_and, and_true, false_and, and_false, false_or, or_false, true_or, or_true, not_true_eq_false, not_false_eq_true, ne_eq, forall_const, true_implies, false_implies, implies_true] at eb18 fb18 eb21 fb21 tx22 g23 c24 tx25 g26 c27 tx28 g29 tx30 g31 c32 c33 c34 c35 b36 ab36 tx37 b38 ab38 tx39 tx40 ⊢) <;> omega)) dX12_paste_83 ?_
                  refine lv_topi (fun x41 ex41 => ?_)
                  have tx41 : x41.toInt = (u0.2.2.1 a30 (p1.toNatClampNeg)).toInt := congrArg Int32.toInt ex41
                  have g42 : -1 ≤ x41.toInt ∧ x41.toInt ≤ 60 := by have g := (hu a30 m_a30).2.2.2 (p1.toNatClampNeg); rw [k_a30] at g; rw [show x41 = _ from ex41]; exact g
                  refine lv_i2l hx hb dX12_paste_84 rfl ?_
                  refine lv_topl (fun x43 ex43 => ?_)
                  have tx43 : x43.toInt = x41.toInt := by rw [ex43]; exact Int32.toInt_toInt64 _
                  refine W.lcmp hx hb dX12_paste_85 ?_
                  refine lv_if_gt (tgt := 107) hx hb dX12_paste_86 (by decide) (fun c44 => ?_) (fun c44 => ?_)
                  · simp only [lg_cmp_lt, lg_cmp_gt, lg_cmp_le, lg_cmp_ge, lg_cmp_eq, Int64.lt_iff_toInt_lt, Int64.le_iff_toInt_le] at c44
                    refine lv_bipush (v := (-7)) hx hb dX12_paste_107 (by decide) ?_
                    exact W.iret (v := (-7)) hx hb hr (fun t ht hW => ⟨⟨(-7), u0, rfl, ⟨hu, hp, trivial⟩, by rw [ht]; exact hP, hD⟩, hS.F ht⟩) hS.2.2 dX12_paste_109
                  · simp only [lg_cmp_lt, lg_cmp_gt, lg_cmp_le, lg_cmp_ge, lg_cmp_eq, Int64.lt_iff_toInt_lt, Int64.le_iff_toInt_le] at c44
                    refine lv_iload hx hb dX12_paste_89 (lv_at hl 4 rfl) ?_
                    refine lv_i2l hx hb dX12_paste_91 rfl ?_
                    have b45 := Int32.toInt_lt p4
                    have ab45 := Int32.le_toInt p4
                    refine lv_topl (fun x46 ex46 => ?_)
                    have tx46 : x46.toInt = p4.toInt := by rw [ex46]; exact Int32.toInt_toInt64 _
                    refine lv_iload hx hb dX12_paste_92 (lv_at hl 5 rfl) ?_
                    refine lv_i2l hx hb dX12_paste_94 rfl ?_
                    have b47 := Int32.toInt_lt p5
                    have ab47 := Int32.le_toInt p5
                    refine lv_topl (fun x48 ex48 => ?_)
                    have tx48 : x48.toInt = p5.toInt := by rw [ex48]; exact Int32.toInt_toInt64 _
                    refine lv_ladd hx hb dX12_paste_95 ?_
                    refine lv_topl (fun x49 ex49 => ?_)
                    have tx49 : x49.toInt = x46.toInt + x48.toInt := by rw [ex49]; exact l_add (by (try simp only [i_lt, i_le, i_eq, Int32.toInt_toInt64, Int32.reduceToInt, Int64.reduceToInt, true_and, and_true, false_and, and_false, false_or, or_false, true_or, or_true, not_true_eq_false, not_false_eq_true, ne_eq, forall_const, true_implies, false_implies, implies_true] at eb18 fb18 eb21 fb21 tx22 g23 c24 tx25 g26 c27 tx28 g29 tx30 g31 c32 c33 c34 c35 b36 ab36 tx37 b38 ab38 tx39 tx40 tx41 g42 tx43 c44 b45 ab45 tx46 b47 ab47 tx48 ⊢) <;> omega) (by (try simp only [i_lt, i_le, i_eq, Int32.toInt_toInt64, Int32.reduceToInt, Int64.reduceToInt, true_and, and_true, false_and, and_false, false_or, or_false, true_or, or_true, not_true_eq_false, not_false_eq_true, ne_eq, forall_const, true_implies, false_implies, implies_true] at eb18 fb18 eb21 fb21 tx22 g23 c24 tx25 g26 c27 tx28 g29 tx30 g31 c32 c33 c34 c35 b36 ab36 tx37 b38 ab38 tx39 tx40 tx41 g42 tx43 c44 b45 ab45 tx46 b47 ab47 tx48 ⊢) <;> omega)
                    refine lv_aload_n hx hb dX12_paste_96 rfl (lv_at hl 0 rfl) ?_
                    refine pget (ci := 12) (v := va_rf (u0.2.2.2.2 h0 30)) (C := RX12) (T := TX12) (N := 34) hx hb hts i_X12 hown hK hP m_h0 (cF12 k_h0) rfl 30 (by decide) (hts (.fieldLink RX12 61 "BellowsRowModel" "slotMany" "[I") (by decide +kernel)) (fun _ h9 => h9) rfl dX12_paste_97 ?_
                    refine W.eq (g2 := F0 m 100 ls [.ref a30, .long x49]) (by rw [(((hp h0 m0_h0).2.2.2.2.2.1 k0_h0 30).trans q0_30)]; rfl) ?_
                    refine lv_iload_n hx hb dX12_paste_100 rfl (lv_at hl 3 rfl) ?_
                    refine palI hx hb hK hP m_a30 (cF60 k_a30) 1 rfl (vp_in_iff.mpr (by (try simp only [i_lt, i_le, i_eq, Int32.toInt_toInt64, Int32.reduceToInt, Int64.reduceToInt, true_and, and_true, false_and, and_false, false_or, or_false, true_or, or_true, not_true_eq_false, not_false_eq_true, ne_eq, forall_const, true_implies, false_implies, implies_true] at eb18 fb18 eb21 fb21 tx22 g23 c24 tx25 g26 c27 tx28 g29 tx30 g31 c32 c33 c34 c35 b36 ab36 tx37 b38 ab38 tx39 tx40 tx41 g42 tx43 c44 b45 ab45 tx46 b47 ab47 tx48 tx49 ⊢) <;> omega)) dX12_paste_101 ?_
                    refine lv_topi (fun x50 ex50 => ?_)
                    have tx50 : x50.toInt = (u0.2.2.1 a30 (p3.toNatClampNeg)).toInt := congrArg Int32.toInt ex50
                    have g51 : -1 ≤ x50.toInt ∧ x50.toInt ≤ 60 := by have g := (hu a30 m_a30).2.2.2 (p3.toNatClampNeg); rw [k_a30] at g; rw [show x50 = _ from ex50]; exact g
                    refine lv_i2l hx hb dX12_paste_102 rfl ?_
                    refine lv_topl (fun x52 ex52 => ?_)
                    have tx52 : x52.toInt = x50.toInt := by rw [ex52]; exact Int32.toInt_toInt64 _
                    refine W.lcmp hx hb dX12_paste_103 ?_
                    refine lv_if_le (tgt := 110) hx hb dX12_paste_104 (by decide) (fun c53 => ?_) (fun c53 => ?_)
                    · simp only [lg_cmp_lt, lg_cmp_gt, lg_cmp_le, lg_cmp_ge, lg_cmp_eq, Int64.lt_iff_toInt_lt, Int64.le_iff_toInt_le] at c53
                      refine lv_iconst (v := 0) hx hb dX12_paste_110 (by decide) ?_
                      refine lv_istore (lv' := [(6, .int 0), (0, .ref h0), (1, .int p1), (2, .int p2), (3, .int p3), (4, .int p4), (5, .int p5)]) hx hb dX12_paste_111 hl (by decide) rfl (fun ls hl => ?_)
                      exact B113 _ _ _ _ ls p1 p2 p3 p4 p5 0 hu hp hP hD hS (Nat.le_refl _) (by (try simp only [i_lt, i_le, i_eq, Int32.toInt_toInt64, Int32.reduceToInt, Int64.reduceToInt, true_and, and_true, false_and, and_false, false_or, or_false, true_or, or_true, not_true_eq_false, not_false_eq_true, ne_eq, forall_const, true_implies, false_implies, implies_true] at eb18 fb18 eb21 fb21 tx22 g23 c24 tx25 g26 c27 tx28 g29 tx30 g31 c32 c33 c34 c35 b36 ab36 tx37 b38 ab38 tx39 tx40 tx41 g42 tx43 c44 b45 ab45 tx46 b47 ab47 tx48 tx49 tx50 g51 tx52 c53 ⊢) <;> omega) (by (try simp only [i_lt, i_le, i_eq, Int32.toInt_toInt64, Int32.reduceToInt, Int64.reduceToInt, true_and, and_true, false_and, and_false, false_or, or_false, true_or, or_true, not_true_eq_false, not_false_eq_true, ne_eq, forall_const, true_implies, false_implies, implies_true] at eb18 fb18 eb21 fb21 tx22 g23 c24 tx25 g26 c27 tx28 g29 tx30 g31 c32 c33 c34 c35 b36 ab36 tx37 b38 ab38 tx39 tx40 tx41 g42 tx43 c44 b45 ab45 tx46 b47 ab47 tx48 tx49 tx50 g51 tx52 c53 ⊢) <;> omega) (by (try simp only [i_lt, i_le, i_eq, Int32.toInt_toInt64, Int32.reduceToInt, Int64.reduceToInt, true_and, and_true, false_and, and_false, false_or, or_false, true_or, or_true, not_true_eq_false, not_false_eq_true, ne_eq, forall_const, true_implies, false_implies, implies_true] at eb18 fb18 eb21 fb21 tx22 g23 c24 tx25 g26 c27 tx28 g29 tx30 g31 c32 c33 c34 c35 b36 ab36 tx37 b38 ab38 tx39 tx40 tx41 g42 tx43 c44 b45 ab45 tx46 b47 ab47 tx48 tx49 tx50 g51 tx52 c53 ⊢) <;> omega) (by (try simp only [i_lt, i_le, i_eq, Int32.toInt_toInt64, Int32.reduceToInt, Int64.reduceToInt, true_and, and_true, false_and, and_false, false_or, or_false, true_or, or_true, not_true_eq_false, not_false_eq_true, ne_eq, forall_const, true_implies, false_implies, implies_true] at eb18 fb18 eb21 fb21 tx22 g23 c24 tx25 g26 c27 tx28 g29 tx30 g31 c32 c33 c34 c35 b36 ab36 tx37 b38 ab38 tx39 tx40 tx41 g42 tx43 c44 b45 ab45 tx46 b47 ab47 tx48 tx49 tx50 g51 tx52 c53 ⊢) <;> omega) (by (try simp only [i_lt, i_le, i_eq, Int32.toInt_toInt64, Int32.reduceToInt, Int64.reduceToInt, true_and, and_true, false_and, and_false, false_or, or_false, true_or, or_true, not_true_eq_false, not_false_eq_true, ne_eq, forall_const, true_implies, false_implies, implies_true] at eb18 fb18 eb21 fb21 tx22 g23 c24 tx25 g26 c27 tx28 g29 tx30 g31 c32 c33 c34 c35 b36 ab36 tx37 b38 ab38 tx39 tx40 tx41 g42 tx43 c44 b45 ab45 tx46 b47 ab47 tx48 tx49 tx50 g51 tx52 c53 ⊢) <;> omega) (by (try simp only [i_lt, i_le, i_eq, Int32.toInt_toInt64, Int32.reduceToInt, Int64.reduceToInt, true_and, and_true, false_and, and_false, false_or, or_false, true_or, or_true, not_true_eq_false, not_false_eq_true, ne_eq, forall_const, true_implies, false_implies, implies_true] at eb18 fb18 eb21 fb21 tx22 g23 c24 tx25 g26 c27 tx28 g29 tx30 g31 c32 c33 c34 c35 b36 ab36 tx37 b38 ab38 tx39 tx40 tx41 g42 tx43 c44 b45 ab45 tx46 b47 ab47 tx48 tx49 tx50 g51 tx52 c53 ⊢) <;> omega) (by (try simp only [i_lt, i_le, i_eq, Int32.toInt_toInt64, Int32.reduceToInt, Int64.reduceToInt, true_and, and_true, false_and, and_false, false_or, or_false, true_or, or_true, not_true_eq_false, not_false_eq_true, ne_eq, forall_const, true_implies, false_implies, implies_true] at eb18 fb18 eb21 fb21 tx22 g23 c24 tx25 g26 c27 tx28 g29 tx30 g31 c32 c33 c34 c35 b36 ab36 tx37 b38 ab38 tx39 tx40 tx41 g42 tx43 c44 b45 ab45 tx46 b47 ab47 tx48 tx49 tx50 g51 tx52 c53 ⊢) <;> omega) (by (try simp only [i_lt, i_le, i_eq, Int32.toInt_toInt64, Int32.reduceToInt, Int64.reduceToInt, true_and, and_true, false_and, and_false, false_or, or_false, true_or, or_true, not_true_eq_false, not_false_eq_true, ne_eq, forall_const, true_implies, false_implies, implies_true] at eb18 fb18 eb21 fb21 tx22 g23 c24 tx25 g26 c27 tx28 g29 tx30 g31 c32 c33 c34 c35 b36 ab36 tx37 b38 ab38 tx39 tx40 tx41 g42 tx43 c44 b45 ab45 tx46 b47 ab47 tx48 tx49 tx50 g51 tx52 c53 ⊢) <;> omega) (lv_sub hl [1, 2, 3, 4, 5, 6, 0] rfl)
                    · simp only [lg_cmp_lt, lg_cmp_gt, lg_cmp_le, lg_cmp_ge, lg_cmp_eq, Int64.lt_iff_toInt_lt, Int64.le_iff_toInt_le] at c53
                      refine lv_bipush (v := (-7)) hx hb dX12_paste_107 (by decide) ?_
                      exact W.iret (v := (-7)) hx hb hr (fun t ht hW => ⟨⟨(-7), u0, rfl, ⟨hu, hp, trivial⟩, by rw [ht]; exact hP, hD⟩, hS.F ht⟩) hS.2.2 dX12_paste_109
          · refine lv_bipush (v := (-8)) hx hb dX12_paste_55 (by decide) ?_
            exact W.iret (v := (-8)) hx hb hr (fun t ht hW => ⟨⟨(-8), u0, rfl, ⟨hu, hp, trivial⟩, by rw [ht]; exact hP, hD⟩, hS.F ht⟩) hS.2.2 dX12_paste_57
        · refine lv_bipush (v := (-6)) hx hb dX12_paste_37 (by decide) ?_
          exact W.iret (v := (-6)) hx hb hr (fun t ht hW => ⟨⟨(-6), u0, rfl, ⟨hu, hp, trivial⟩, by rw [ht]; exact hP, hD⟩, hS.F ht⟩) hS.2.2 dX12_paste_39
    · have eb54 : r19.toInt = 0 := by rcases hr19 with ⟨q, -⟩ | ⟨q, -⟩; exact q; (exact absurd (c20) (fun w => by rw [w] at q; exact absurd q (by decide)))
      have fb54 : (p3.toInt < 0 ∨ 3 < p3.toInt) := by rcases hr19 with ⟨q, r⟩ | ⟨q, r⟩; exact r; exact absurd q (by omega)
      clear hr19
      refine lv_bipush (v := (-2)) hx hb dX12_paste_14 (by decide) ?_
      exact W.iret (v := (-2)) hx hb hr (fun t ht hW => ⟨⟨(-2), u0, rfl, ⟨hu, hp, trivial⟩, by rw [ht]; exact hP, hD⟩, hS.F ht⟩) hS.2.2 dX12_paste_16
set_option maxHeartbeats 4000000 in
set_option maxRecDepth 100000 in
theorem t_X12_press (l : Launch) (D : va_G) (k : Nat → ClassId) (u : PSt) (hu : WT u) (h0 : Nat) (m_h0 : h0 ∈ u.1) (k_h0 : u.2.1 h0 = 12) (p1 : Int32) : Met l yX12_press wsX12_press ({ frames := 2, cells := 0, slots := 0, locals := 46 }) (PreR D k (PW k u) [.ref h0, .int p1]) (vp_Si (fun r => True)) 0 0 (fun _ => False) := by
  refine Met.ofW (cc := cX12_press) (maxL := 2) (ret := (some .int)) (by decide) rfl ?_
  intro p e s m args below meth c s₁ B hml hv
  obtain ⟨rfl, hP, hK⟩ := hv
  have hx := B.exec
  have hb := B.bytes
  have hr := B.returns
  have hts := atoms_spec (ws := wsX12_press) B.pre
  have hown : s.vm.findClass RX12 = some m.cls := findClass_of_methodNamed B.named
  have hlocks := B.notSynchronized
  have i_X12 : ∀ w ∈ wsX120, w ∈ wsX12_press := by decide +kernel
  obtain ⟨a1, q0_1, m0_a1, k0_a1⟩ := (hu h0 m_h0).1 1 50 (by rw [k_h0]; rfl)
  have m_a1 := m0_a1
  have k_a1 := k0_a1
  have hl := lv_entry ([.ref h0, .int p1]) (n := 2) (Nat.le_of_ble_eq_true rfl)
  rw [lg_entry_eq]
  generalize (lg_sl ([.ref h0, .int p1]) ++ List.replicate (2 - (lg_sl ([.ref h0, .int p1])).length) Slot.unset).toArray = ls at hl ⊢
  have hl : lv_has ls 2 [(0, .ref h0), (1, .int p1)] := hl
  refine lv_aload_n hx hb dX12_press_0 rfl (lv_at hl 0 rfl) ?_
  refine lv_iload_n hx hb dX12_press_1 rfl (lv_at hl 1 rfl) ?_
  refine rvi (C := RX12) (As := [.int p1]) (rest := []) ⟨hx, hb, hml, hown, hts⟩ (t_X12_isHour l D k u hu h0 m_h0 k_h0 p1) (cwV 1 hts gX12_press_X12_isHour rfl rfl rfl (by decide +kernel) ⟨Nat.le_of_ble_eq_true rfl, Nat.le_of_ble_eq_true rfl⟩) hP hK (precv hK hP m_h0 (cF12 k_h0) rfl) rfl hl.1 rfl (Nat.le_of_ble_eq_true rfl) dX12_press_2 ⟨Nat.le_of_ble_eq_true rfl, Nat.le_of_ble_eq_true rfl⟩ (fun r1 hr1 => ?_)
  refine lv_if_eq (tgt := 21) hx hb dX12_press_5 (by decide) (fun c2 => ?_) (fun c2 => ?_)
  · have eb3 : r1.toInt = 0 := by rcases hr1 with q | ⟨q, -⟩; exact q; (exact absurd (c2) (fun w => by rw [w] at q; exact absurd q (by decide)))
    clear hr1
    refine lv_bipush (v := (-2)) hx hb dX12_press_21 (by decide) ?_
    exact W.iret (v := (-2)) hx hb hr (fun t ht hW => ⟨(-2), rfl, trivial, ht⟩) (fun q h => by cases h) dX12_press_23
  · have eb4 : r1.toInt = 1 := by rcases hr1 with q | ⟨q, -⟩; exact absurd (i_eq.mpr q) c2; exact q
    have fb4 : 0 ≤ p1.toInt ∧ p1.toInt ≤ 1999 := by rcases hr1 with q | ⟨q, r⟩; exact absurd q (by omega); exact r
    clear hr1
    refine lv_aload_n hx hb dX12_press_8 rfl (lv_at hl 0 rfl) ?_
    refine pget (ci := 12) (v := va_rf (u.2.2.2.2 h0 1)) (C := RX12) (T := TX12) (N := 34) hx hb hts i_X12 hown hK hP m_h0 (cF12 k_h0) rfl 1 (by decide) (hts (.fieldLink RX12 13 "BellowsRowModel" "world" "[I") (by decide +kernel)) (fun _ h9 => h9) rfl dX12_press_9 ?_
    refine W.eq (g2 := F0 m 12 ls [.ref a1]) (by rw [q0_1]; rfl) ?_
    refine lv_sipush (v := 482) hx hb dX12_press_12 (by decide) ?_
    refine lv_iload_n hx hb dX12_press_15 rfl (lv_at hl 1 rfl) ?_
    refine lv_iadd hx hb dX12_press_16 ?_
    refine lv_topi (fun x5 ex5 => ?_)
    have tx5 : x5.toInt = (482 : Int32).toInt + p1.toInt := by rw [ex5]; exact i_add (by (try simp only [i_lt, i_le, i_eq, Int32.toInt_toInt64, Int32.reduceToInt, Int64.reduceToInt, true_and, and_true, false_and, and_false, false_or, or_false, true_or, or_true, not_true_eq_false, not_false_eq_true, ne_eq, forall_const, true_implies, false_implies, implies_true] at eb4 fb4 ⊢) <;> omega) (by (try simp only [i_lt, i_le, i_eq, Int32.toInt_toInt64, Int32.reduceToInt, Int64.reduceToInt, true_and, and_true, false_and, and_false, false_or, or_false, true_or, or_true, not_true_eq_false, not_false_eq_true, ne_eq, forall_const, true_implies, false_implies, implies_true] at eb4 fb4 ⊢) <;> omega)
    refine palI hx hb hK hP m_a1 (cF50 k_a1) 1 rfl (vp_in_iff.mpr (by (try simp only [i_lt, i_le, i_eq, Int32.toInt_toInt64, Int32.reduceToInt, Int64.reduceToInt, true_and, and_true, false_and, and_false, false_or, or_false, true_or, or_true, not_true_eq_false, not_false_eq_true, ne_eq, forall_const, true_implies, false_implies, implies_true] at eb4 fb4 tx5 ⊢) <;> omega)) dX12_press_17 ?_
    refine lv_topi (fun x6 ex6 => ?_)
    have tx6 : x6.toInt = (u.2.2.1 a1 (x5.toNatClampNeg)).toInt := congrArg Int32.toInt ex6
    have g7 : 0 ≤ x6.toInt ∧ x6.toInt ≤ 999 := by have g : okI (u.2.1 a1) (x5.toNatClampNeg) (u.2.2.1 a1 (x5.toNatClampNeg)) := (hu a1 m_a1).2.2.2 (x5.toNatClampNeg); rw [k_a1, ← (show x6 = u.2.2.1 a1 (x5.toNatClampNeg) from ex6)] at g; have g : okW (x5.toNatClampNeg) x6 := g; unfold okW at g; have z := cl_int (x := x5) (by (try simp only [i_lt, i_le, i_eq, Int32.toInt_toInt64, Int32.reduceToInt, Int64.reduceToInt, true_and, and_true, false_and, and_false, false_or, or_false, true_or, or_true, not_true_eq_false, not_false_eq_true, ne_eq, forall_const, true_implies, false_implies, implies_true] at eb4 fb4 tx5 tx6 ⊢) <;> omega); (try simp only [i_lt, i_le, i_eq, Int32.toInt_toInt64, Int32.reduceToInt, Int64.reduceToInt, true_and, and_true, false_and, and_false, false_or, or_false, true_or, or_true, not_true_eq_false, not_false_eq_true, ne_eq, forall_const, true_implies, false_implies, implies_true] at eb4 fb4 tx5 tx6 g z ⊢) <;> omega
    refine lv_goto (tgt := 23) hx hb dX12_press_18 (by decide) ?_
    exact W.iret (v := x6) hx hb hr (fun t ht hW => ⟨x6, rfl, trivial, ht⟩) (fun q h => by cases h) dX12_press_23
