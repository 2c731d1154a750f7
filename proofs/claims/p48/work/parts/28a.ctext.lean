set_option maxHeartbeats 4000000 in
set_option maxRecDepth 100000 in
theorem t_X9_isAt (l : Launch) (D : va_G) (k : Nat → ClassId) (tt : TT) (u0 : PSt) (hu : WT u0) (h0 : Nat) (m_h0 : h0 ∈ u0.1) (k_h0 : u0.2.1 h0 = 9) (w1 : Nat) (hw_w1 : w1 < nTX) (sz : Nat) : Met l yX9_isAt wsX9_isAt ({ frames := 4, cells := 0, slots := 0, locals := 85 }) (PreT D k tt sz (PW k u0) [.ref h0, .ref (tt.1 w1)]) (va_Qi (fun r v => WT v ∧ PX u0 v ∧ 0 ≤ r.toInt ∧ r.toInt ≤ 1) (WB D (va_A (PW k u0) sz) (PW k)) (va_A (PW k u0) sz)) 0 0 (va_A (PW k u0) sz) := by
  refine Met.ofW (cc := cX9_isAt) (maxL := 3) (ret := (some .boolean)) (by decide) rfl ?_
  intro p e s m args below meth c s₁ B hml hv
  obtain ⟨rfl, hsz, hP, hK, hD0, hN, hE0⟩ := hv
  have hx := B.exec
  have hb := B.bytes
  have hr := B.returns
  have hts := atoms_spec (ws := wsX9_isAt) B.pre
  have hown : s.vm.findClass RX9 = some m.cls := findClass_of_methodNamed B.named
  have hlocks := B.notSynchronized
  have i_X9 : ∀ w ∈ wsX90, w ∈ wsX9_isAt := by decide +kernel
  subst hsz
  have hD := hD0.self (sz := s.heap.size)
  have hE := hE0
  generalize hAe : va_A (PW k u0) s.heap.size = A at hD hE ⊢
  have hA : ∀ q : Nat, s.heap.size ≤ q → A q := fun q h => by rw [← hAe]; exact Or.inr h
  have hS : va_S A s.heap s.heap [] := va_S.rf
  have hp : PX u0 u0 := PX.rf
  have B31 : ∀ (u : PSt) (H : Heap) (locs : List Loc) (ls : Array Slot), WT u → PX u0 u → va_P D vwCl (PW k u) H → va_D A (PW k u) → va_S A s.heap H locs → lv_has ls 3 [] → W p l e (headSpec wsX9_isAt ({ frames := 4, cells := 0, slots := 0, locals := 85 })).room s m ([.ref h0, .ref (tt.1 w1)] : List Value).toArray below meth c H locs 0 0 (MQ below (va_Qi (fun r v => WT v ∧ PX u0 v ∧ 0 ≤ r.toInt ∧ r.toInt ≤ 1) (WB D A (PW k)) A) ([.ref h0, .ref (tt.1 w1)] : List Value).toArray s 0 0 A) (F0 m 31 ls []) := by
    intro u H locs ls  hu hp hP hD hS  hl
    refine lv_iconst (v := 0) hx hb dX9_isAt_31 (by decide) ?_
    exact W.zret (v := 0) hx hb hr rfl (fun t ht hW => ⟨⟨0, u, rfl, ⟨hu, hp, (by decide)⟩, by rw [ht]; exact hP, hD⟩, hS.F ht⟩) hS.2.2 dX9_isAt_32
  have B83 : ∀ (u : PSt) (H : Heap) (locs : List Loc) (ls : Array Slot), WT u → PX u0 u → va_P D vwCl (PW k u) H → va_D A (PW k u) → va_S A s.heap H locs → lv_has ls 3 [] → W p l e (headSpec wsX9_isAt ({ frames := 4, cells := 0, slots := 0, locals := 85 })).room s m ([.ref h0, .ref (tt.1 w1)] : List Value).toArray below meth c H locs 0 0 (MQ below (va_Qi (fun r v => WT v ∧ PX u0 v ∧ 0 ≤ r.toInt ∧ r.toInt ≤ 1) (WB D A (PW k)) A) ([.ref h0, .ref (tt.1 w1)] : List Value).toArray s 0 0 A) (F0 m 83 ls []) := by
    intro u H locs ls  hu hp hP hD hS  hl
    refine lv_iconst (v := 1) hx hb dX9_isAt_83 (by decide) ?_
    exact W.zret (v := 1) hx hb hr rfl (fun t ht hW => ⟨⟨1, u, rfl, ⟨hu, hp, (by decide)⟩, by rw [ht]; exact hP, hD⟩, hS.F ht⟩) hS.2.2 dX9_isAt_84
  have B35 : ∀ (n35 : Nat) (u : PSt) (H : Heap) (locs : List Loc) (ls : Array Slot) (v0 : Nat) (v2 : Int32), WT u → PX u0 u → va_P D vwCl (PW k u) H → va_D A (PW k u) → va_S A s.heap H locs → (2147483648 - v2.toInt).toNat ≤ n35 → v0 ∈ u.1 → u.2.1 v0 = 9 → 0 ≤ v2.toInt ∧ v2.toInt ≤ 7 → lv_has ls 3 [(0, .ref v0), (1, .ref (tt.1 w1)), (2, .int v2)] → W p l e (headSpec wsX9_isAt ({ frames := 4, cells := 0, slots := 0, locals := 85 })).room s m ([.ref h0, .ref (tt.1 w1)] : List Value).toArray below meth c H locs 0 0 (MQ below (va_Qi (fun r v => WT v ∧ PX u0 v ∧ 0 ≤ r.toInt ∧ r.toInt ≤ 1) (WB D A (PW k)) A) ([.ref h0, .ref (tt.1 w1)] : List Value).toArray s 0 0 A) (F0 m 35 ls []) := by
    intro n35
    induction n35 with
    | zero =>
      intro u H locs ls v0 v2 hu hp hP hD hS hn35 m_v0 k_v0 g_v2 hl
      exact absurd hn35 (by have := Int32.toInt_lt v2; have := Int32.le_toInt v2; omega)
    | succ n35 ih35 =>
      intro u H locs ls v0 v2 hu hp hP hD hS hn35 m_v0 k_v0 g_v2 hl
      refine lv_iload_n hx hb dX9_isAt_35 rfl (lv_at hl 2 rfl) ?_
      refine lv_aload_n hx hb dX9_isAt_36 rfl (lv_at hl 1 rfl) ?_
      refine jvi (C := RJ0) (As := []) (rest := [.int v2]) ⟨hx, hb, hml, hown, hts⟩ (t_J0_length_8abf5 l tt w1 hw_w1) (cwV 0 hts gX9_isAt_J0_length_8abf5 rfl rfl rfl (by decide +kernel) ⟨Nat.le_of_ble_eq_true rfl, Nat.le_of_ble_eq_true rfl⟩) hE hS (str_recv hE hw_w1 hS) rfl hl.1 rfl (Nat.le_of_ble_eq_true rfl) dX9_isAt_37 ⟨Nat.le_of_ble_eq_true rfl, Nat.le_of_ble_eq_true rfl⟩ (fun r1 hr1 => ?_)
      have lr1 := tx_len w1 hw_w1
      have nr1 : r1.toInt = (lenTX.getD w1 0 : Nat) := by rw [hr1]; exact nI_toInt (by omega)
      replace lr1 := lr1.2
      refine lv_icmp_ge (tgt := 83) hx hb dX9_isAt_40 (by decide) (fun c2 => ?_) (fun c2 => ?_)
      · exact B83 _ _ _ ls hu hp hP hD hS (lv_sub hl [] rfl)
      · refine lv_aload_n hx hb dX9_isAt_43 rfl (lv_at hl 0 rfl) ?_
        refine pget (ci := 9) (v := .int (u.2.2.1 v0 5)) (C := RX9) (T := TX9) (N := 8) hx hb hts i_X9 hown hK hP m_v0 (cF9 k_v0) rfl 5 (by decide) (hts (.fieldLink RX9 28 "BellowsRow$Tape" "from" "I") (by decide +kernel)) (fun _ h9 => h9) rfl dX9_isAt_44 ?_
        have g3 := (hu v0 m_v0).2.2.2 5
        rw [k_v0] at g3
        replace g3 : 0 ≤ (u.2.2.1 v0 5).toInt ∧ (u.2.2.1 v0 5).toInt ≤ 1601 := g3
        refine lv_iload_n hx hb dX9_isAt_47 rfl (lv_at hl 2 rfl) ?_
        refine lv_iadd hx hb dX9_isAt_48 ?_
        refine lv_topi (fun x4 ex4 => ?_)
        have tx4 : x4.toInt = (u.2.2.1 v0 5).toInt + v2.toInt := by rw [ex4]; exact i_add (by (try simp only [i_lt, i_le, i_eq, Int32.toInt_toInt64, Int32.reduceToInt, Int64.reduceToInt, true_and, and_true, false_and, and_false, false_or, or_false, true_or, or_true, not_true_eq_false, not_false_eq_true, ne_eq, forall_const, true_implies, false_implies, implies_true] at g_v2 hn35 nr1 lr1 c2 g3 ⊢) <;> omega) (by (try simp only [i_lt, i_le, i_eq, Int32.toInt_toInt64, Int32.reduceToInt, Int64.reduceToInt, true_and, and_true, false_and, and_false, false_or, or_false, true_or, or_true, not_true_eq_false, not_false_eq_true, ne_eq, forall_const, true_implies, false_implies, implies_true] at g_v2 hn35 nr1 lr1 c2 g3 ⊢) <;> omega)
        refine lv_aload_n hx hb dX9_isAt_49 rfl (lv_at hl 0 rfl) ?_
        refine pget (ci := 9) (v := .int (u.2.2.1 v0 1)) (C := RX9) (T := TX9) (N := 8) hx hb hts i_X9 hown hK hP m_v0 (cF9 k_v0) rfl 1 (by decide) (hts (.fieldLink RX9 15 "BellowsRow$Tape" "size" "I") (by decide +kernel)) (fun _ h9 => h9) rfl dX9_isAt_50 ?_
        have g5 := (hu v0 m_v0).2.2.2 1
        rw [k_v0] at g5
        replace g5 : 0 ≤ (u.2.2.1 v0 1).toInt ∧ (u.2.2.1 v0 1).toInt ≤ 1600 := g5
        refine lv_icmp_ge (tgt := 83) hx hb dX9_isAt_53 (by decide) (fun c6 => ?_) (fun c6 => ?_)
        · exact B83 _ _ _ ls hu hp hP hD hS (lv_sub hl [] rfl)
        · refine lv_aload_n hx hb dX9_isAt_56 rfl (lv_at hl 0 rfl) ?_
          refine pget (ci := 9) (v := va_rf (u.2.2.2.2 v0 0)) (C := RX9) (T := TX9) (N := 8) hx hb hts i_X9 hown hK hP m_v0 (cF9 k_v0) rfl 0 (by decide) (hts (.fieldLink RX9 9 "BellowsRow$Tape" "bytes" "[B") (by decide +kernel)) (fun _ h9 => h9) rfl dX9_isAt_57 ?_
          obtain ⟨y7, qy7, m_y7, k_y7⟩ := (hu v0 m_v0).1 0 20 (by rw [k_v0]; rfl)
          refine W.eq (g2 := F0 m 60 ls [.ref y7]) (by rw [qy7]; rfl) ?_
          refine lv_aload_n hx hb dX9_isAt_60 rfl (lv_at hl 0 rfl) ?_
          refine pget (ci := 9) (v := .int (u.2.2.1 v0 5)) (C := RX9) (T := TX9) (N := 8) hx hb hts i_X9 hown hK hP m_v0 (cF9 k_v0) rfl 5 (by decide) (hts (.fieldLink RX9 28 "BellowsRow$Tape" "from" "I") (by decide +kernel)) (fun _ h9 => h9) rfl dX9_isAt_61 ?_
          have g8 := (hu v0 m_v0).2.2.2 5
          rw [k_v0] at g8
          replace g8 : 0 ≤ (u.2.2.1 v0 5).toInt ∧ (u.2.2.1 v0 5).toInt ≤ 1601 := g8
          refine lv_iload_n hx hb dX9_isAt_64 rfl (lv_at hl 2 rfl) ?_
          refine lv_iadd hx hb dX9_isAt_65 ?_
          refine lv_topi (fun x9 ex9 => ?_)
          have tx9 : x9.toInt = (u.2.2.1 v0 5).toInt + v2.toInt := by rw [ex9]; exact i_add (by (try simp only [i_lt, i_le, i_eq, Int32.toInt_toInt64, Int32.reduceToInt, Int64.reduceToInt, true_and, and_true, false_and, and_false, false_or, or_false, true_or, or_true, not_true_eq_false, not_false_eq_true, ne_eq, forall_const, true_implies, false_implies, implies_true] at g_v2 hn35 nr1 lr1 c2 g3 tx4 g5 c6 g8 ⊢) <;> omega) (by (try simp only [i_lt, i_le, i_eq, Int32.toInt_toInt64, Int32.reduceToInt, Int64.reduceToInt, true_and, and_true, false_and, and_false, false_or, or_false, true_or, or_true, not_true_eq_false, not_false_eq_true, ne_eq, forall_const, true_implies, false_implies, implies_true] at g_v2 hn35 nr1 lr1 c2 g3 tx4 g5 c6 g8 ⊢) <;> omega)
          refine palB hx hb hK hP m_y7 (cF20 k_y7) 0 rfl (vp_in_iff.mpr (by (try simp only [i_lt, i_le, i_eq, Int32.toInt_toInt64, Int32.reduceToInt, Int64.reduceToInt, true_and, and_true, false_and, and_false, false_or, or_false, true_or, or_true, not_true_eq_false, not_false_eq_true, ne_eq, forall_const, true_implies, false_implies, implies_true] at g_v2 hn35 nr1 lr1 c2 g3 tx4 g5 c6 g8 tx9 ⊢) <;> omega)) dX9_isAt_66 ?_
          refine lv_topi (fun x10 ex10 => ?_)
          refine lv_aload_n hx hb dX9_isAt_67 rfl (lv_at hl 1 rfl) ?_
          refine lv_iload_n hx hb dX9_isAt_68 rfl (lv_at hl 2 rfl) ?_
          refine jvi (C := RJ0) (As := [.int v2]) (rest := [.int x10]) ⟨hx, hb, hml, hown, hts⟩ (t_J0_charAt_5068e l tt w1 hw_w1 v2 (by (try simp only [i_lt, i_le, i_eq, Int32.toInt_toInt64, Int32.reduceToInt, Int64.reduceToInt, true_and, and_true, false_and, and_false, false_or, or_false, true_or, or_true, not_true_eq_false, not_false_eq_true, ne_eq, forall_const, true_implies, false_implies, implies_true] at g_v2 hn35 nr1 lr1 c2 g3 tx4 g5 c6 g8 tx9 ⊢) <;> omega)) (cwV 1 hts gX9_isAt_J0_charAt_5068e rfl rfl rfl (by decide +kernel) ⟨Nat.le_of_ble_eq_true rfl, Nat.le_of_ble_eq_true rfl⟩) hE hS (str_recv hE hw_w1 hS) rfl hl.1 rfl (Nat.le_of_ble_eq_true rfl) dX9_isAt_69 ⟨Nat.le_of_ble_eq_true rfl, Nat.le_of_ble_eq_true rfl⟩ (fun r11 hr11 => ?_)
          refine lv_icmp_eq (tgt := 77) hx hb dX9_isAt_72 (by decide) (fun c12 => ?_) (fun c12 => ?_)
          · have b13 := Int32.toInt_lt x10
            have ab13 := Int32.le_toInt x10
            have b14 := Int32.toInt_lt r11
            have ab14 := Int32.le_toInt r11
            obtain ⟨x15, ex15⟩ : ∃ y : Int32, y = v2 + 1 := ⟨_, rfl⟩
            have tx15 : x15.toInt = v2.toInt + 1 := by rw [ex15]; exact i_add (b := 1) (by (try simp only [i_lt, i_le, i_eq, Int32.toInt_toInt64, Int32.reduceToInt, Int64.reduceToInt, true_and, and_true, false_and, and_false, false_or, or_false, true_or, or_true, not_true_eq_false, not_false_eq_true, ne_eq, forall_const, true_implies, false_implies, implies_true] at g_v2 hn35 nr1 lr1 c2 g3 tx4 g5 c6 g8 tx9 c12 b13 ab13 b14 ab14 ⊢) <;> omega) (by (try simp only [i_lt, i_le, i_eq, Int32.toInt_toInt64, Int32.reduceToInt, Int64.reduceToInt, true_and, and_true, false_and, and_false, false_or, or_false, true_or, or_true, not_true_eq_false, not_false_eq_true, ne_eq, forall_const, true_implies, false_implies, implies_true] at g_v2 hn35 nr1 lr1 c2 g3 tx4 g5 c6 g8 tx9 c12 b13 ab13 b14 ab14 ⊢) <;> omega)
            refine lv_iinc (v := x15) (lv' := [(2, .int x15), (0, .ref v0), (1, .ref (tt.1 w1))]) hx hb dX9_isAt_77 hl (k := 2) rfl (by rw [ex15]; rfl) (by decide) rfl (fun ls hl => ?_)
            refine lv_goto (tgt := 35) hx hb dX9_isAt_80 (by decide) ?_
            exact ih35 _ _ _ ls v0 x15 hu hp hP hD hS (by (try simp only [i_lt, i_le, i_eq, Int32.toInt_toInt64, Int32.reduceToInt, Int64.reduceToInt, true_and, and_true, false_and, and_false, false_or, or_false, true_or, or_true, not_true_eq_false, not_false_eq_true, ne_eq, forall_const, true_implies, false_implies, implies_true] at g_v2 hn35 nr1 lr1 c2 g3 tx4 g5 c6 g8 tx9 c12 b13 ab13 b14 ab14 tx15 ⊢) <;> omega) m_v0 k_v0 (by (try simp only [i_lt, i_le, i_eq, Int32.toInt_toInt64, Int32.reduceToInt, Int64.reduceToInt, true_and, and_true, false_and, and_false, false_or, or_false, true_or, or_true, not_true_eq_false, not_false_eq_true, ne_eq, forall_const, true_implies, false_implies, implies_true] at g_v2 hn35 nr1 lr1 c2 g3 tx4 g5 c6 g8 tx9 c12 b13 ab13 b14 ab14 tx15 ⊢) <;> omega) (lv_sub hl [1, 2, 0] rfl)
          · have b16 := Int32.toInt_lt x10
            have ab16 := Int32.le_toInt x10
            have b17 := Int32.toInt_lt r11
            have ab17 := Int32.le_toInt r11
            refine lv_iconst (v := 0) hx hb dX9_isAt_75 (by decide) ?_
            exact W.zret (v := 0) hx hb hr rfl (fun t ht hW => ⟨⟨0, u, rfl, ⟨hu, hp, (by decide)⟩, by rw [ht]; exact hP, hD⟩, hS.F ht⟩) hS.2.2 dX9_isAt_76
  have hl := lv_entry ([.ref h0, .ref (tt.1 w1)]) (n := 3) (Nat.le_of_ble_eq_true rfl)
  rw [lg_entry_eq]
  generalize (lg_sl ([.ref h0, .ref (tt.1 w1)]) ++ List.replicate (3 - (lg_sl ([.ref h0, .ref (tt.1 w1)])).length) Slot.unset).toArray = ls at hl ⊢
  have hl : lv_has ls 3 [(0, .ref h0), (1, .ref (tt.1 w1))] := hl
  refine lv_aload_n hx hb dX9_isAt_0 rfl (lv_at hl 0 rfl) ?_
  refine pget (ci := 9) (v := .int (u0.2.2.1 h0 3)) (C := RX9) (T := TX9) (N := 8) hx hb hts i_X9 hown hK hP m_h0 (cF9 k_h0) rfl 3 (by decide) (hts (.fieldLink RX9 22 "BellowsRow$Tape" "fault" "I") (by decide +kernel)) (fun _ h9 => h9) rfl dX9_isAt_1 ?_
  refine lv_if_ne (tgt := 31) hx hb dX9_isAt_4 (by decide) (fun c18 => ?_) (fun c18 => ?_)
  · exact B31 _ _ _ ls hu hp hP hD hS (lv_sub hl [] rfl)
  · refine lv_aload_n hx hb dX9_isAt_7 rfl (lv_at hl 0 rfl) ?_
    refine pget (ci := 9) (v := .int (u0.2.2.1 h0 2)) (C := RX9) (T := TX9) (N := 8) hx hb hts i_X9 hown hK hP m_h0 (cF9 k_h0) rfl 2 (by decide) (hts (.fieldLink RX9 19 "BellowsRow$Tape" "kind" "I") (by decide +kernel)) (fun _ h9 => h9) rfl dX9_isAt_8 ?_
    refine lv_iconst (v := 1) hx hb dX9_isAt_11 (by decide) ?_
    refine lv_icmp_ne (tgt := 31) hx hb dX9_isAt_12 (by decide) (fun c19 => ?_) (fun c19 => ?_)
    · exact B31 _ _ _ ls hu hp hP hD hS (lv_sub hl [] rfl)
    · refine lv_aload_n hx hb dX9_isAt_15 rfl (lv_at hl 0 rfl) ?_
      refine pget (ci := 9) (v := .int (u0.2.2.1 h0 6)) (C := RX9) (T := TX9) (N := 8) hx hb hts i_X9 hown hK hP m_h0 (cF9 k_h0) rfl 6 (by decide) (hts (.fieldLink RX9 31 "BellowsRow$Tape" "past" "I") (by decide +kernel)) (fun _ h9 => h9) rfl dX9_isAt_16 ?_
      have g20 := (hu h0 m_h0).2.2.2 6
      rw [k_h0] at g20
      replace g20 : 0 ≤ (u0.2.2.1 h0 6).toInt ∧ (u0.2.2.1 h0 6).toInt ≤ 1601 := g20
      refine lv_aload_n hx hb dX9_isAt_19 rfl (lv_at hl 0 rfl) ?_
      refine pget (ci := 9) (v := .int (u0.2.2.1 h0 5)) (C := RX9) (T := TX9) (N := 8) hx hb hts i_X9 hown hK hP m_h0 (cF9 k_h0) rfl 5 (by decide) (hts (.fieldLink RX9 28 "BellowsRow$Tape" "from" "I") (by decide +kernel)) (fun _ h9 => h9) rfl dX9_isAt_20 ?_
      have g21 := (hu h0 m_h0).2.2.2 5
      rw [k_h0] at g21
      replace g21 : 0 ≤ (u0.2.2.1 h0 5).toInt ∧ (u0.2.2.1 h0 5).toInt ≤ 1601 := g21
      refine lv_isub hx hb dX9_isAt_23 ?_
      refine lv_topi (fun x22 ex22 => ?_)
      have tx22 : x22.toInt = (u0.2.2.1 h0 6).toInt - (u0.2.2.1 h0 5).toInt := by rw [ex22]; exact i_sub (by (try simp only [i_lt, i_le, i_eq, Int32.toInt_toInt64, Int32.reduceToInt, Int64.reduceToInt, true_and, and_true, false_and, and_false, false_or, or_false, true_or, or_true, not_true_eq_false, not_false_eq_true, ne_eq, forall_const, true_implies, false_implies, implies_true] at c18 c19 g20 g21 ⊢) <;> omega) (by (try simp only [i_lt, i_le, i_eq, Int32.toInt_toInt64, Int32.reduceToInt, Int64.reduceToInt, true_and, and_true, false_and, and_false, false_or, or_false, true_or, or_true, not_true_eq_false, not_false_eq_true, ne_eq, forall_const, true_implies, false_implies, implies_true] at c18 c19 g20 g21 ⊢) <;> omega)
      refine lv_aload_n hx hb dX9_isAt_24 rfl (lv_at hl 1 rfl) ?_
      refine jvi (C := RJ0) (As := []) (rest := [.int x22]) ⟨hx, hb, hml, hown, hts⟩ (t_J0_length_8abf5 l tt w1 hw_w1) (cwV 0 hts gX9_isAt_J0_length_8abf5 rfl rfl rfl (by decide +kernel) ⟨Nat.le_of_ble_eq_true rfl, Nat.le_of_ble_eq_true rfl⟩) hE hS (str_recv hE hw_w1 hS) rfl hl.1 rfl (Nat.le_of_ble_eq_true rfl) dX9_isAt_25 ⟨Nat.le_of_ble_eq_true rfl, Nat.le_of_ble_eq_true rfl⟩ (fun r23 hr23 => ?_)
      have lr23 := tx_len w1 hw_w1
      have nr23 : r23.toInt = (lenTX.getD w1 0 : Nat) := by rw [hr23]; exact nI_toInt (by omega)
      replace lr23 := lr23.2
      refine lv_icmp_eq (tgt := 33) hx hb dX9_isAt_28 (by decide) (fun c24 => ?_) (fun c24 => ?_)
      · refine lv_iconst (v := 0) hx hb dX9_isAt_33 (by decide) ?_
        refine lv_istore_n (lv' := [(2, .int 0), (0, .ref h0), (1, .ref (tt.1 w1))]) hx hb dX9_isAt_34 rfl hl (by decide) rfl (fun ls hl => ?_)
        exact B35 _ _ _ _ ls h0 0 hu hp hP hD hS (Nat.le_refl _) m_h0 k_h0 (by (try simp only [i_lt, i_le, i_eq, Int32.toInt_toInt64, Int32.reduceToInt, Int64.reduceToInt, true_and, and_true, false_and, and_false, false_or, or_false, true_or, or_true, not_true_eq_false, not_false_eq_true, ne_eq, forall_const, true_implies, false_implies, implies_true] at c18 c19 g20 g21 tx22 nr23 lr23 c24 ⊢) <;> omega) (lv_sub hl [1, 2, 0] rfl)
      · exact B31 _ _ _ ls hu hp hP hD hS (lv_sub hl [] rfl)
set_option maxHeartbeats 4000000 in
set_option maxRecDepth 100000 in
theorem t_X9_passes (l : Launch) (D : va_G) (k : Nat → ClassId) (tt : TT) (u0 : PSt) (hu : WT u0) (h0 : Nat) (m_h0 : h0 ∈ u0.1) (k_h0 : u0.2.1 h0 = 9) (w1 : Nat) (hw_w1 : w1 < nTX) (sz : Nat) : Met l yX9_passes wsX9_passes ({ frames := 5, cells := 0, slots := 0, locals := 107 }) (PreT D k tt sz (PW k u0) [.ref h0, .ref (tt.1 w1)]) (va_Qi (fun r v => WT v ∧ PX u0 v ∧ 0 ≤ r.toInt ∧ r.toInt ≤ 1) (WB D (va_A (PW k u0) sz) (PW k)) (va_A (PW k u0) sz)) 0 0 (va_A (PW k u0) sz) := by
  refine Met.ofW (cc := cX9_passes) (maxL := 2) (ret := (some .boolean)) (by decide) rfl ?_
  intro p e s m args below meth c s₁ B hml hv
  obtain ⟨rfl, hsz, hP, hK, hD0, hN, hE0⟩ := hv
  have hx := B.exec
  have hb := B.bytes
  have hr := B.returns
  have hts := atoms_spec (ws := wsX9_passes) B.pre
  have hown : s.vm.findClass RX9 = some m.cls := findClass_of_methodNamed B.named
  have hlocks := B.notSynchronized
  subst hsz
  have hD := hD0.self (sz := s.heap.size)
  have hE := hE0
  generalize hAe : va_A (PW k u0) s.heap.size = A at hD hE ⊢
  have hA : ∀ q : Nat, s.heap.size ≤ q → A q := fun q h => by rw [← hAe]; exact Or.inr h
  have hS : va_S A s.heap s.heap [] := va_S.rf
  have hp : PX u0 u0 := PX.rf
  have hl := lv_entry ([.ref h0, .ref (tt.1 w1)]) (n := 2) (Nat.le_of_ble_eq_true rfl)
  rw [lg_entry_eq]
  generalize (lg_sl ([.ref h0, .ref (tt.1 w1)]) ++ List.replicate (2 - (lg_sl ([.ref h0, .ref (tt.1 w1)])).length) Slot.unset).toArray = ls at hl ⊢
  have hl : lv_has ls 2 [(0, .ref h0), (1, .ref (tt.1 w1))] := hl
  refine lv_aload_n hx hb dX9_passes_0 rfl (lv_at hl 0 rfl) ?_
  refine lv_aload_n hx hb dX9_passes_1 rfl (lv_at hl 1 rfl) ?_
  refine xiV (C := RX9) (As := [.ref (tt.1 w1)]) (rest := []) ⟨hx, hb, hml, hown, hts⟩ (fun sz => t_X9_isAt l D k tt u0 hu h0 m_h0 k_h0 w1 hw_w1 sz) (cwV 1 hts gX9_passes_X9_isAt rfl rfl rfl (by decide +kernel) ⟨Nat.le_of_ble_eq_true rfl, Nat.le_of_ble_eq_true rfl⟩) hP hK hD hN hE hS hA (precv hK hP m_h0 (cF9 k_h0) rfl) rfl hl.1 rfl (Nat.le_of_ble_eq_true rfl) dX9_passes_2 ⟨Nat.le_of_ble_eq_true rfl, Nat.le_of_ble_eq_true rfl⟩ (fun ru1 u1 H locs hq hP hD hS => ?_)
  obtain ⟨hu, hxu1, hru1⟩ := hq
  have k_h0 : u1.2.1 h0 = 9 := (hxu1 h0 m_h0).2.1.trans k_h0
  have m_h0 : h0 ∈ u1.1 := (hxu1 h0 m_h0).1
  have hp := PX.trans hp hxu1
  refine lv_if_ne (tgt := 10) hx hb dX9_passes_5 (by decide) (fun c2 => ?_) (fun c2 => ?_)
  · refine lv_aload_n hx hb dX9_passes_10 rfl (lv_at hl 0 rfl) ?_
    refine wvV (C := RX9) (As := []) (rest := []) ⟨hx, hb, hml, hown, hts⟩ (fun sz => t_X9_step l D k u1 hu h0 m_h0 k_h0  sz) (cwV 0 hts gX9_passes_X9_step rfl rfl rfl (by decide +kernel) ⟨Nat.le_of_ble_eq_true rfl, Nat.le_of_ble_eq_true rfl⟩) hP hK hD hN hS hA (precv hK hP m_h0 (cF9 k_h0) rfl) rfl hl.1 rfl (Nat.le_of_ble_eq_true rfl) dX9_passes_11 ⟨Nat.le_of_ble_eq_true rfl, Nat.le_of_ble_eq_true rfl⟩ (fun u3 H locs hq hP hD hS => ?_)
    obtain ⟨hu, hxu3, hru3⟩ := hq
    have k_h0 : u3.2.1 h0 = 9 := (hxu3 h0 m_h0).2.1.trans k_h0
    have m_h0 : h0 ∈ u3.1 := (hxu3 h0 m_h0).1
    have hp := PX.trans hp hxu3
    refine lv_iconst (v := 1) hx hb dX9_passes_14 (by decide) ?_
    exact W.zret (v := 1) hx hb hr rfl (fun t ht hW => ⟨⟨1, u3, rfl, ⟨hu, hp, (by decide)⟩, by rw [ht]; exact hP, hD⟩, hS.F ht⟩) hS.2.2 dX9_passes_15
  · refine lv_iconst (v := 0) hx hb dX9_passes_8 (by decide) ?_
    exact W.zret (v := 0) hx hb hr rfl (fun t ht hW => ⟨⟨0, u1, rfl, ⟨hu, hp, (by decide)⟩, by rw [ht]; exact hP, hD⟩, hS.F ht⟩) hS.2.2 dX9_passes_9
set_option maxHeartbeats 4000000 in
set_option maxRecDepth 100000 in
theorem t_X9_expect (l : Launch) (D : va_G) (k : Nat → ClassId) (tt : TT) (u0 : PSt) (hu : WT u0) (h0 : Nat) (m_h0 : h0 ∈ u0.1) (k_h0 : u0.2.1 h0 = 9) (w1 : Nat) (hw_w1 : w1 < nTX) (sz : Nat) : Met l yX9_expect wsX9_expect ({ frames := 6, cells := 0, slots := 0, locals := 128 }) (PreT D k tt sz (PW k u0) [.ref h0, .ref (tt.1 w1)]) (va_Qv (fun v => WT v ∧ PX u0 v ∧ True) (WB D (va_A (PW k u0) sz) (PW k)) (va_A (PW k u0) sz)) 0 0 (va_A (PW k u0) sz) := by
  refine Met.ofW (cc := cX9_expect) (maxL := 2) (ret := none) (by decide) rfl ?_
  intro p e s m args below meth c s₁ B hml hv
  obtain ⟨rfl, hsz, hP, hK, hD0, hN, hE0⟩ := hv
  have hx := B.exec
  have hb := B.bytes
  have hr := B.returns
  have hts := atoms_spec (ws := wsX9_expect) B.pre
  have hown : s.vm.findClass RX9 = some m.cls := findClass_of_methodNamed B.named
  have hlocks := B.notSynchronized
  subst hsz
  have hD := hD0.self (sz := s.heap.size)
  have hE := hE0
  generalize hAe : va_A (PW k u0) s.heap.size = A at hD hE ⊢
  have hA : ∀ q : Nat, s.heap.size ≤ q → A q := fun q h => by rw [← hAe]; exact Or.inr h
  have hS : va_S A s.heap s.heap [] := va_S.rf
  have hp : PX u0 u0 := PX.rf
  have B13 : ∀ (u : PSt) (H : Heap) (locs : List Loc) (ls : Array Slot), WT u → PX u0 u → va_P D vwCl (PW k u) H → va_D A (PW k u) → va_S A s.heap H locs → lv_has ls 2 [] → W p l e (headSpec wsX9_expect ({ frames := 6, cells := 0, slots := 0, locals := 128 })).room s m ([.ref h0, .ref (tt.1 w1)] : List Value).toArray below meth c H locs 0 0 (MQ below (va_Qv (fun v => WT v ∧ PX u0 v ∧ True) (WB D A (PW k)) A) ([.ref h0, .ref (tt.1 w1)] : List Value).toArray s 0 0 A) (F0 m 13 ls []) := by
    intro u H locs ls  hu hp hP hD hS  hl
    exact W.vret hx hb hr (fun t ht hW => ⟨⟨u, rfl, ⟨hu, hp, trivial⟩, by rw [ht]; exact hP, hD⟩, hS.F ht⟩) hS.2.2 dX9_expect_13
  have hl := lv_entry ([.ref h0, .ref (tt.1 w1)]) (n := 2) (Nat.le_of_ble_eq_true rfl)
  rw [lg_entry_eq]
  generalize (lg_sl ([.ref h0, .ref (tt.1 w1)]) ++ List.replicate (2 - (lg_sl ([.ref h0, .ref (tt.1 w1)])).length) Slot.unset).toArray = ls at hl ⊢
  have hl : lv_has ls 2 [(0, .ref h0), (1, .ref (tt.1 w1))] := hl
  refine lv_aload_n hx hb dX9_expect_0 rfl (lv_at hl 0 rfl) ?_
  refine lv_aload_n hx hb dX9_expect_1 rfl (lv_at hl 1 rfl) ?_
  refine xiV (C := RX9) (As := [.ref (tt.1 w1)]) (rest := []) ⟨hx, hb, hml, hown, hts⟩ (fun sz => t_X9_passes l D k tt u0 hu h0 m_h0 k_h0 w1 hw_w1 sz) (cwV 1 hts gX9_expect_X9_passes rfl rfl rfl (by decide +kernel) ⟨Nat.le_of_ble_eq_true rfl, Nat.le_of_ble_eq_true rfl⟩) hP hK hD hN hE hS hA (precv hK hP m_h0 (cF9 k_h0) rfl) rfl hl.1 rfl (Nat.le_of_ble_eq_true rfl) dX9_expect_2 ⟨Nat.le_of_ble_eq_true rfl, Nat.le_of_ble_eq_true rfl⟩ (fun ru1 u1 H locs hq hP hD hS => ?_)
  obtain ⟨hu, hxu1, hru1⟩ := hq
  have k_h0 : u1.2.1 h0 = 9 := (hxu1 h0 m_h0).2.1.trans k_h0
  have m_h0 : h0 ∈ u1.1 := (hxu1 h0 m_h0).1
  have hp := PX.trans hp hxu1
  refine lv_if_ne (tgt := 13) hx hb dX9_expect_5 (by decide) (fun c2 => ?_) (fun c2 => ?_)
  · exact B13 _ _ _ ls hu hp hP hD hS (lv_sub hl [] rfl)
  · refine lv_aload_n hx hb dX9_expect_8 rfl (lv_at hl 0 rfl) ?_
    refine lv_iconst (v := 1) hx hb dX9_expect_9 (by decide) ?_
    refine wvV (C := RX9) (As := [.int 1]) (rest := []) ⟨hx, hb, hml, hown, hts⟩ (fun sz => t_X9_fail l D k u1 hu h0 m_h0 k_h0 1 sz) (cwV 1 hts gX9_expect_X9_fail rfl rfl rfl (by decide +kernel) ⟨Nat.le_of_ble_eq_true rfl, Nat.le_of_ble_eq_true rfl⟩) hP hK hD hN hS hA (precv hK hP m_h0 (cF9 k_h0) rfl) rfl hl.1 rfl (Nat.le_of_ble_eq_true rfl) dX9_expect_10 ⟨Nat.le_of_ble_eq_true rfl, Nat.le_of_ble_eq_true rfl⟩ (fun u3 H locs hq hP hD hS => ?_)
    obtain ⟨hu, hxu3, hru3⟩ := hq
    have k_h0 : u3.2.1 h0 = 9 := (hxu3 h0 m_h0).2.1.trans k_h0
    have m_h0 : h0 ∈ u3.1 := (hxu3 h0 m_h0).1
    have hp := PX.trans hp hxu3
    exact B13 _ _ _ ls hu hp hP hD hS (lv_sub hl [] rfl)
set_option maxHeartbeats 4000000 in
set_option maxRecDepth 100000 in
theorem t_X2_kindOfLine (l : Launch) (D : va_G) (k : Nat → ClassId) (tt : TT) (u0 : PSt) (hu : WT u0) (h0 : Nat) (m_h0 : h0 ∈ u0.1) (k_h0 : u0.2.1 h0 = 2) (sz : Nat) : Met l yX2_kindOfLine wsX2_kindOfLine ({ frames := 5, cells := 0, slots := 0, locals := 107 }) (PreT D k tt sz (PW k u0) [.ref h0]) (va_Qi (fun r v => WT v ∧ PX u0 v ∧ True) (WB D (va_A (PW k u0) sz) (PW k)) (va_A (PW k u0) sz)) 0 0 (va_A (PW k u0) sz) := by
  refine Met.ofW (cc := cX2_kindOfLine) (maxL := 1) (ret := (some .int)) (by decide) rfl ?_
  intro p e s m args below meth c s₁ B hml hv
  obtain ⟨rfl, hsz, hP, hK, hD0, hN, hE0⟩ := hv
  have hx := B.exec
  have hb := B.bytes
  have hr := B.returns
  have hts := atoms_spec (ws := wsX2_kindOfLine) B.pre
  have hown : s.vm.findClass RX2 = some m.cls := findClass_of_methodNamed B.named
  have hlocks := B.notSynchronized
  have i_X2 : ∀ w ∈ wsX20, w ∈ wsX2_kindOfLine := by decide +kernel
  subst hsz
  have hD := hD0.self (sz := s.heap.size)
  have hE := hE0
  generalize hAe : va_A (PW k u0) s.heap.size = A at hD hE ⊢
  have hA : ∀ q : Nat, s.heap.size ≤ q → A q := fun q h => by rw [← hAe]; exact Or.inr h
  have hS : va_S A s.heap s.heap [] := va_S.rf
  have hp : PX u0 u0 := PX.rf
  have B148 : ∀ (u : PSt) (H : Heap) (locs : List Loc) (ls : Array Slot) (sk0 : Int32), WT u → PX u0 u → va_P D vwCl (PW k u) H → va_D A (PW k u) → va_S A s.heap H locs → -1 ≤ sk0.toInt ∧ sk0.toInt ≤ 8 → lv_has ls 1 [] → W p l e (headSpec wsX2_kindOfLine ({ frames := 5, cells := 0, slots := 0, locals := 107 })).room s m ([.ref h0] : List Value).toArray below meth c H locs 0 0 (MQ below (va_Qi (fun r v => WT v ∧ PX u0 v ∧ True) (WB D A (PW k)) A) ([.ref h0] : List Value).toArray s 0 0 A) (F0 m 148 ls [.int sk0]) := by
    intro u H locs ls sk0 hu hp hP hD hS g_sk0 hl
    exact W.iret (v := sk0) hx hb hr (fun t ht hW => ⟨⟨sk0, u, rfl, ⟨hu, hp, trivial⟩, by rw [ht]; exact hP, hD⟩, hS.F ht⟩) hS.2.2 dX2_kindOfLine_148
  have hl := lv_entry ([.ref h0]) (n := 1) (Nat.le_of_ble_eq_true rfl)
  rw [lg_entry_eq]
  generalize (lg_sl ([.ref h0]) ++ List.replicate (1 - (lg_sl ([.ref h0])).length) Slot.unset).toArray = ls at hl ⊢
  have hl : lv_has ls 1 [(0, .ref h0)] := hl
  refine lv_aload_n hx hb dX2_kindOfLine_0 rfl (lv_at hl 0 rfl) ?_
  refine pget (ci := 2) (v := va_rf (u0.2.2.2.2 h0 0)) (C := RX2) (T := TX2) (N := 2) hx hb hts i_X2 hown hK hP m_h0 (cF2 k_h0) rfl 0 (by decide) (hts (.fieldLink RX2 18 "BellowsRow$Parser" "tape" "LBellowsRow$Tape;") (by decide +kernel)) (fun _ h9 => h9) rfl dX2_kindOfLine_1 ?_
  obtain ⟨y1, qy1, m_y1, k_y1⟩ := (hu h0 m_h0).1 0 9 (by rw [k_h0]; rfl)
  refine W.eq (g2 := F0 m 4 ls [.ref y1]) (by rw [qy1]; rfl) ?_
  refine va_ldcS (own := RX2) (tx := "pot") (q := tt.1 0) hx hb hown (hE.2.1 (RX2, 90, "pot", 0) (by decide +kernel)) dX2_kindOfLine_4 ?_
  refine xiV (C := RX9) (As := [.ref (tt.1 0)]) (rest := []) ⟨hx, hb, hml, hown, hts⟩ (fun sz => t_X9_isAt l D k tt u0 hu y1 m_y1 k_y1 0 (by decide) sz) (cwV 1 hts gX2_kindOfLine_X9_isAt rfl rfl rfl (by decide +kernel) ⟨Nat.le_of_ble_eq_true rfl, Nat.le_of_ble_eq_true rfl⟩) hP hK hD hN hE hS hA (precv hK hP m_y1 (cF9 k_y1) rfl) rfl hl.1 rfl (Nat.le_of_ble_eq_true rfl) dX2_kindOfLine_6 ⟨Nat.le_of_ble_eq_true rfl, Nat.le_of_ble_eq_true rfl⟩ (fun ru2 u2 H locs hq hP hD hS => ?_)
  obtain ⟨hu, hxu2, hru2⟩ := hq
  have k_h0 : u2.2.1 h0 = 2 := (hxu2 h0 m_h0).2.1.trans k_h0
  have m_h0 : h0 ∈ u2.1 := (hxu2 h0 m_h0).1
  have hp := PX.trans hp hxu2
  refine lv_if_eq (tgt := 16) hx hb dX2_kindOfLine_9 (by decide) (fun c3 => ?_) (fun c3 => ?_)
  · refine lv_aload_n hx hb dX2_kindOfLine_16 rfl (lv_at hl 0 rfl) ?_
    refine pget (ci := 2) (v := va_rf (u2.2.2.2.2 h0 0)) (C := RX2) (T := TX2) (N := 2) hx hb hts i_X2 hown hK hP m_h0 (cF2 k_h0) rfl 0 (by decide) (hts (.fieldLink RX2 18 "BellowsRow$Parser" "tape" "LBellowsRow$Tape;") (by decide +kernel)) (fun _ h9 => h9) rfl dX2_kindOfLine_17 ?_
    obtain ⟨y4, qy4, m_y4, k_y4⟩ := (hu h0 m_h0).1 0 9 (by rw [k_h0]; rfl)
    refine W.eq (g2 := F0 m 20 ls [.ref y4]) (by rw [qy4]; rfl) ?_
    refine va_ldcS (own := RX2) (tx := "pipe") (q := tt.1 1) hx hb hown (hE.2.1 (RX2, 96, "pipe", 1) (by decide +kernel)) dX2_kindOfLine_20 ?_
    refine xiV (C := RX9) (As := [.ref (tt.1 1)]) (rest := []) ⟨hx, hb, hml, hown, hts⟩ (fun sz => t_X9_isAt l D k tt u2 hu y4 m_y4 k_y4 1 (by decide) sz) (cwV 1 hts gX2_kindOfLine_X9_isAt rfl rfl rfl (by decide +kernel) ⟨Nat.le_of_ble_eq_true rfl, Nat.le_of_ble_eq_true rfl⟩) hP hK hD hN hE hS hA (precv hK hP m_y4 (cF9 k_y4) rfl) rfl hl.1 rfl (Nat.le_of_ble_eq_true rfl) dX2_kindOfLine_22 ⟨Nat.le_of_ble_eq_true rfl, Nat.le_of_ble_eq_true rfl⟩ (fun ru5 u5 H locs hq hP hD hS => ?_)
    obtain ⟨hu, hxu5, hru5⟩ := hq
    have k_h0 : u5.2.1 h0 = 2 := (hxu5 h0 m_h0).2.1.trans k_h0
    have m_h0 : h0 ∈ u5.1 := (hxu5 h0 m_h0).1
    have hp := PX.trans hp hxu5
    refine lv_if_eq (tgt := 32) hx hb dX2_kindOfLine_25 (by decide) (fun c6 => ?_) (fun c6 => ?_)
    · refine lv_aload_n hx hb dX2_kindOfLine_32 rfl (lv_at hl 0 rfl) ?_
      refine pget (ci := 2) (v := va_rf (u5.2.2.2.2 h0 0)) (C := RX2) (T := TX2) (N := 2) hx hb hts i_X2 hown hK hP m_h0 (cF2 k_h0) rfl 0 (by decide) (hts (.fieldLink RX2 18 "BellowsRow$Parser" "tape" "LBellowsRow$Tape;") (by decide +kernel)) (fun _ h9 => h9) rfl dX2_kindOfLine_33 ?_
      obtain ⟨y7, qy7, m_y7, k_y7⟩ := (hu h0 m_h0).1 0 9 (by rw [k_h0]; rfl)
      refine W.eq (g2 := F0 m 36 ls [.ref y7]) (by rw [qy7]; rfl) ?_
      refine va_ldcS (own := RX2) (tx := "run") (q := tt.1 2) hx hb hown (hE.2.1 (RX2, 98, "run", 2) (by decide +kernel)) dX2_kindOfLine_36 ?_
      refine xiV (C := RX9) (As := [.ref (tt.1 2)]) (rest := []) ⟨hx, hb, hml, hown, hts⟩ (fun sz => t_X9_isAt l D k tt u5 hu y7 m_y7 k_y7 2 (by decide) sz) (cwV 1 hts gX2_kindOfLine_X9_isAt rfl rfl rfl (by decide +kernel) ⟨Nat.le_of_ble_eq_true rfl, Nat.le_of_ble_eq_true rfl⟩) hP hK hD hN hE hS hA (precv hK hP m_y7 (cF9 k_y7) rfl) rfl hl.1 rfl (Nat.le_of_ble_eq_true rfl) dX2_kindOfLine_38 ⟨Nat.le_of_ble_eq_true rfl, Nat.le_of_ble_eq_true rfl⟩ (fun ru8 u8 H locs hq hP hD hS => ?_)
      obtain ⟨hu, hxu8, hru8⟩ := hq
      have k_h0 : u8.2.1 h0 = 2 := (hxu8 h0 m_h0).2.1.trans k_h0
      have m_h0 : h0 ∈ u8.1 := (hxu8 h0 m_h0).1
      have hp := PX.trans hp hxu8
      refine lv_if_eq (tgt := 48) hx hb dX2_kindOfLine_41 (by decide) (fun c9 => ?_) (fun c9 => ?_)
      · refine lv_aload_n hx hb dX2_kindOfLine_48 rfl (lv_at hl 0 rfl) ?_
        refine pget (ci := 2) (v := va_rf (u8.2.2.2.2 h0 0)) (C := RX2) (T := TX2) (N := 2) hx hb hts i_X2 hown hK hP m_h0 (cF2 k_h0) rfl 0 (by decide) (hts (.fieldLink RX2 18 "BellowsRow$Parser" "tape" "LBellowsRow$Tape;") (by decide +kernel)) (fun _ h9 => h9) rfl dX2_kindOfLine_49 ?_
        obtain ⟨y10, qy10, m_y10, k_y10⟩ := (hu h0 m_h0).1 0 9 (by rw [k_h0]; rfl)
        refine W.eq (g2 := F0 m 52 ls [.ref y10]) (by rw [qy10]; rfl) ?_
        refine va_ldcS (own := RX2) (tx := "swing") (q := tt.1 3) hx hb hown (hE.2.1 (RX2, 100, "swing", 3) (by decide +kernel)) dX2_kindOfLine_52 ?_
        refine xiV (C := RX9) (As := [.ref (tt.1 3)]) (rest := []) ⟨hx, hb, hml, hown, hts⟩ (fun sz => t_X9_isAt l D k tt u8 hu y10 m_y10 k_y10 3 (by decide) sz) (cwV 1 hts gX2_kindOfLine_X9_isAt rfl rfl rfl (by decide +kernel) ⟨Nat.le_of_ble_eq_true rfl, Nat.le_of_ble_eq_true rfl⟩) hP hK hD hN hE hS hA (precv hK hP m_y10 (cF9 k_y10) rfl) rfl hl.1 rfl (Nat.le_of_ble_eq_true rfl) dX2_kindOfLine_54 ⟨Nat.le_of_ble_eq_true rfl, Nat.le_of_ble_eq_true rfl⟩ (fun ru11 u11 H locs hq hP hD hS => ?_)
        obtain ⟨hu, hxu11, hru11⟩ := hq
        have k_h0 : u11.2.1 h0 = 2 := (hxu11 h0 m_h0).2.1.trans k_h0
        have m_h0 : h0 ∈ u11.1 := (hxu11 h0 m_h0).1
        have hp := PX.trans hp hxu11
        refine lv_if_eq (tgt := 64) hx hb dX2_kindOfLine_57 (by decide) (fun c12 => ?_) (fun c12 => ?_)
        · refine lv_aload_n hx hb dX2_kindOfLine_64 rfl (lv_at hl 0 rfl) ?_
          refine pget (ci := 2) (v := va_rf (u11.2.2.2.2 h0 0)) (C := RX2) (T := TX2) (N := 2) hx hb hts i_X2 hown hK hP m_h0 (cF2 k_h0) rfl 0 (by decide) (hts (.fieldLink RX2 18 "BellowsRow$Parser" "tape" "LBellowsRow$Tape;") (by decide +kernel)) (fun _ h9 => h9) rfl dX2_kindOfLine_65 ?_
          obtain ⟨y13, qy13, m_y13, k_y13⟩ := (hu h0 m_h0).1 0 9 (by rw [k_h0]; rfl)
          refine W.eq (g2 := F0 m 68 ls [.ref y13]) (by rw [qy13]; rfl) ?_
          refine va_ldcS (own := RX2) (tx := "wind") (q := tt.1 4) hx hb hown (hE.2.1 (RX2, 102, "wind", 4) (by decide +kernel)) dX2_kindOfLine_68 ?_
          refine xiV (C := RX9) (As := [.ref (tt.1 4)]) (rest := []) ⟨hx, hb, hml, hown, hts⟩ (fun sz => t_X9_isAt l D k tt u11 hu y13 m_y13 k_y13 4 (by decide) sz) (cwV 1 hts gX2_kindOfLine_X9_isAt rfl rfl rfl (by decide +kernel) ⟨Nat.le_of_ble_eq_true rfl, Nat.le_of_ble_eq_true rfl⟩) hP hK hD hN hE hS hA (precv hK hP m_y13 (cF9 k_y13) rfl) rfl hl.1 rfl (Nat.le_of_ble_eq_true rfl) dX2_kindOfLine_70 ⟨Nat.le_of_ble_eq_true rfl, Nat.le_of_ble_eq_true rfl⟩ (fun ru14 u14 H locs hq hP hD hS => ?_)
          obtain ⟨hu, hxu14, hru14⟩ := hq
          have k_h0 : u14.2.1 h0 = 2 := (hxu14 h0 m_h0).2.1.trans k_h0
          have m_h0 : h0 ∈ u14.1 := (hxu14 h0 m_h0).1
          have hp := PX.trans hp hxu14
          refine lv_if_eq (tgt := 80) hx hb dX2_kindOfLine_73 (by decide) (fun c15 => ?_) (fun c15 => ?_)
          · refine lv_aload_n hx hb dX2_kindOfLine_80 rfl (lv_at hl 0 rfl) ?_
            refine pget (ci := 2) (v := va_rf (u14.2.2.2.2 h0 0)) (C := RX2) (T := TX2) (N := 2) hx hb hts i_X2 hown hK hP m_h0 (cF2 k_h0) rfl 0 (by decide) (hts (.fieldLink RX2 18 "BellowsRow$Parser" "tape" "LBellowsRow$Tape;") (by decide +kernel)) (fun _ h9 => h9) rfl dX2_kindOfLine_81 ?_
            obtain ⟨y16, qy16, m_y16, k_y16⟩ := (hu h0 m_h0).1 0 9 (by rw [k_h0]; rfl)
            refine W.eq (g2 := F0 m 84 ls [.ref y16]) (by rw [qy16]; rfl) ?_
            refine va_ldcS (own := RX2) (tx := "room") (q := tt.1 5) hx hb hown (hE.2.1 (RX2, 104, "room", 5) (by decide +kernel)) dX2_kindOfLine_84 ?_
            refine xiV (C := RX9) (As := [.ref (tt.1 5)]) (rest := []) ⟨hx, hb, hml, hown, hts⟩ (fun sz => t_X9_isAt l D k tt u14 hu y16 m_y16 k_y16 5 (by decide) sz) (cwV 1 hts gX2_kindOfLine_X9_isAt rfl rfl rfl (by decide +kernel) ⟨Nat.le_of_ble_eq_true rfl, Nat.le_of_ble_eq_true rfl⟩) hP hK hD hN hE hS hA (precv hK hP m_y16 (cF9 k_y16) rfl) rfl hl.1 rfl (Nat.le_of_ble_eq_true rfl) dX2_kindOfLine_86 ⟨Nat.le_of_ble_eq_true rfl, Nat.le_of_ble_eq_true rfl⟩ (fun ru17 u17 H locs hq hP hD hS => ?_)
            obtain ⟨hu, hxu17, hru17⟩ := hq
            have k_h0 : u17.2.1 h0 = 2 := (hxu17 h0 m_h0).2.1.trans k_h0
            have m_h0 : h0 ∈ u17.1 := (hxu17 h0 m_h0).1
            have hp := PX.trans hp hxu17
            refine lv_if_eq (tgt := 96) hx hb dX2_kindOfLine_89 (by decide) (fun c18 => ?_) (fun c18 => ?_)
            · refine lv_aload_n hx hb dX2_kindOfLine_96 rfl (lv_at hl 0 rfl) ?_
              refine pget (ci := 2) (v := va_rf (u17.2.2.2.2 h0 0)) (C := RX2) (T := TX2) (N := 2) hx hb hts i_X2 hown hK hP m_h0 (cF2 k_h0) rfl 0 (by decide) (hts (.fieldLink RX2 18 "BellowsRow$Parser" "tape" "LBellowsRow$Tape;") (by decide +kernel)) (fun _ h9 => h9) rfl dX2_kindOfLine_97 ?_
              obtain ⟨y19, qy19, m_y19, k_y19⟩ := (hu h0 m_h0).1 0 9 (by rw [k_h0]; rfl)
              refine W.eq (g2 := F0 m 100 ls [.ref y19]) (by rw [qy19]; rfl) ?_
              refine va_ldcS (own := RX2) (tx := "person") (q := tt.1 6) hx hb hown (hE.2.1 (RX2, 106, "person", 6) (by decide +kernel)) dX2_kindOfLine_100 ?_
              refine xiV (C := RX9) (As := [.ref (tt.1 6)]) (rest := []) ⟨hx, hb, hml, hown, hts⟩ (fun sz => t_X9_isAt l D k tt u17 hu y19 m_y19 k_y19 6 (by decide) sz) (cwV 1 hts gX2_kindOfLine_X9_isAt rfl rfl rfl (by decide +kernel) ⟨Nat.le_of_ble_eq_true rfl, Nat.le_of_ble_eq_true rfl⟩) hP hK hD hN hE hS hA (precv hK hP m_y19 (cF9 k_y19) rfl) rfl hl.1 rfl (Nat.le_of_ble_eq_true rfl) dX2_kindOfLine_102 ⟨Nat.le_of_ble_eq_true rfl, Nat.le_of_ble_eq_true rfl⟩ (fun ru20 u20 H locs hq hP hD hS => ?_)
              obtain ⟨hu, hxu20, hru20⟩ := hq
              have k_h0 : u20.2.1 h0 = 2 := (hxu20 h0 m_h0).2.1.trans k_h0
              have m_h0 : h0 ∈ u20.1 := (hxu20 h0 m_h0).1
              have hp := PX.trans hp hxu20
              refine lv_if_eq (tgt := 113) hx hb dX2_kindOfLine_105 (by decide) (fun c21 => ?_) (fun c21 => ?_)
              · refine lv_aload_n hx hb dX2_kindOfLine_113 rfl (lv_at hl 0 rfl) ?_
                refine pget (ci := 2) (v := va_rf (u20.2.2.2.2 h0 0)) (C := RX2) (T := TX2) (N := 2) hx hb hts i_X2 hown hK hP m_h0 (cF2 k_h0) rfl 0 (by decide) (hts (.fieldLink RX2 18 "BellowsRow$Parser" "tape" "LBellowsRow$Tape;") (by decide +kernel)) (fun _ h9 => h9) rfl dX2_kindOfLine_114 ?_
                obtain ⟨y22, qy22, m_y22, k_y22⟩ := (hu h0 m_h0).1 0 9 (by rw [k_h0]; rfl)
                refine W.eq (g2 := F0 m 117 ls [.ref y22]) (by rw [qy22]; rfl) ?_
                refine va_ldcS (own := RX2) (tx := "rule") (q := tt.1 7) hx hb hown (hE.2.1 (RX2, 108, "rule", 7) (by decide +kernel)) dX2_kindOfLine_117 ?_
                refine xiV (C := RX9) (As := [.ref (tt.1 7)]) (rest := []) ⟨hx, hb, hml, hown, hts⟩ (fun sz => t_X9_isAt l D k tt u20 hu y22 m_y22 k_y22 7 (by decide) sz) (cwV 1 hts gX2_kindOfLine_X9_isAt rfl rfl rfl (by decide +kernel) ⟨Nat.le_of_ble_eq_true rfl, Nat.le_of_ble_eq_true rfl⟩) hP hK hD hN hE hS hA (precv hK hP m_y22 (cF9 k_y22) rfl) rfl hl.1 rfl (Nat.le_of_ble_eq_true rfl) dX2_kindOfLine_119 ⟨Nat.le_of_ble_eq_true rfl, Nat.le_of_ble_eq_true rfl⟩ (fun ru23 u23 H locs hq hP hD hS => ?_)
                obtain ⟨hu, hxu23, hru23⟩ := hq
                have k_h0 : u23.2.1 h0 = 2 := (hxu23 h0 m_h0).2.1.trans k_h0
                have m_h0 : h0 ∈ u23.1 := (hxu23 h0 m_h0).1
                have hp := PX.trans hp hxu23
                refine lv_if_eq (tgt := 130) hx hb dX2_kindOfLine_122 (by decide) (fun c24 => ?_) (fun c24 => ?_)
                · refine lv_aload_n hx hb dX2_kindOfLine_130 rfl (lv_at hl 0 rfl) ?_
                  refine pget (ci := 2) (v := va_rf (u23.2.2.2.2 h0 0)) (C := RX2) (T := TX2) (N := 2) hx hb hts i_X2 hown hK hP m_h0 (cF2 k_h0) rfl 0 (by decide) (hts (.fieldLink RX2 18 "BellowsRow$Parser" "tape" "LBellowsRow$Tape;") (by decide +kernel)) (fun _ h9 => h9) rfl dX2_kindOfLine_131 ?_
                  obtain ⟨y25, qy25, m_y25, k_y25⟩ := (hu h0 m_h0).1 0 9 (by rw [k_h0]; rfl)
                  refine W.eq (g2 := F0 m 134 ls [.ref y25]) (by rw [qy25]; rfl) ?_
                  refine va_ldcS (own := RX2) (tx := "change") (q := tt.1 8) hx hb hown (hE.2.1 (RX2, 110, "change", 8) (by decide +kernel)) dX2_kindOfLine_134 ?_
                  refine xiV (C := RX9) (As := [.ref (tt.1 8)]) (rest := []) ⟨hx, hb, hml, hown, hts⟩ (fun sz => t_X9_isAt l D k tt u23 hu y25 m_y25 k_y25 8 (by decide) sz) (cwV 1 hts gX2_kindOfLine_X9_isAt rfl rfl rfl (by decide +kernel) ⟨Nat.le_of_ble_eq_true rfl, Nat.le_of_ble_eq_true rfl⟩) hP hK hD hN hE hS hA (precv hK hP m_y25 (cF9 k_y25) rfl) rfl hl.1 rfl (Nat.le_of_ble_eq_true rfl) dX2_kindOfLine_136 ⟨Nat.le_of_ble_eq_true rfl, Nat.le_of_ble_eq_true rfl⟩ (fun ru26 u26 H locs hq hP hD hS => ?_)
                  obtain ⟨hu, hxu26, hru26⟩ := hq
                  have k_h0 : u26.2.1 h0 = 2 := (hxu26 h0 m_h0).2.1.trans k_h0
                  have m_h0 : h0 ∈ u26.1 := (hxu26 h0 m_h0).1
                  have hp := PX.trans hp hxu26
                  refine lv_if_eq (tgt := 147) hx hb dX2_kindOfLine_139 (by decide) (fun c27 => ?_) (fun c27 => ?_)
                  · refine lv_iconst (v := (-1)) hx hb dX2_kindOfLine_147 (by decide) ?_
                    exact B148 _ _ _ ls (-1) hu hp hP hD hS (by (try simp only [i_lt, i_le, i_eq, Int32.toInt_toInt64, Int32.reduceToInt, Int64.reduceToInt, true_and, and_true, false_and, and_false, false_or, or_false, true_or, or_true, not_true_eq_false, not_false_eq_true, ne_eq, forall_const, true_implies, false_implies, implies_true] at hru2 c3 hru5 c6 hru8 c9 hru11 c12 hru14 c15 hru17 c18 hru20 c21 hru23 c24 hru26 c27 ⊢) <;> omega) (lv_sub hl [] rfl)
                  · refine lv_bipush (v := 8) hx hb dX2_kindOfLine_142 (by decide) ?_
                    refine lv_goto (tgt := 148) hx hb dX2_kindOfLine_144 (by decide) ?_
                    exact B148 _ _ _ ls 8 hu hp hP hD hS (by (try simp only [i_lt, i_le, i_eq, Int32.toInt_toInt64, Int32.reduceToInt, Int64.reduceToInt, true_and, and_true, false_and, and_false, false_or, or_false, true_or, or_true, not_true_eq_false, not_false_eq_true, ne_eq, forall_const, true_implies, false_implies, implies_true] at hru2 c3 hru5 c6 hru8 c9 hru11 c12 hru14 c15 hru17 c18 hru20 c21 hru23 c24 hru26 c27 ⊢) <;> omega) (lv_sub hl [] rfl)
                · refine lv_bipush (v := 7) hx hb dX2_kindOfLine_125 (by decide) ?_
                  refine lv_goto (tgt := 148) hx hb dX2_kindOfLine_127 (by decide) ?_
                  exact B148 _ _ _ ls 7 hu hp hP hD hS (by (try simp only [i_lt, i_le, i_eq, Int32.toInt_toInt64, Int32.reduceToInt, Int64.reduceToInt, true_and, and_true, false_and, and_false, false_or, or_false, true_or, or_true, not_true_eq_false, not_false_eq_true, ne_eq, forall_const, true_implies, false_implies, implies_true] at hru2 c3 hru5 c6 hru8 c9 hru11 c12 hru14 c15 hru17 c18 hru20 c21 hru23 c24 ⊢) <;> omega) (lv_sub hl [] rfl)
              · refine lv_bipush (v := 6) hx hb dX2_kindOfLine_108 (by decide) ?_
                refine lv_goto (tgt := 148) hx hb dX2_kindOfLine_110 (by decide) ?_
                exact B148 _ _ _ ls 6 hu hp hP hD hS (by (try simp only [i_lt, i_le, i_eq, Int32.toInt_toInt64, Int32.reduceToInt, Int64.reduceToInt, true_and, and_true, false_and, and_false, false_or, or_false, true_or, or_true, not_true_eq_false, not_false_eq_true, ne_eq, forall_const, true_implies, false_implies, implies_true] at hru2 c3 hru5 c6 hru8 c9 hru11 c12 hru14 c15 hru17 c18 hru20 c21 ⊢) <;> omega) (lv_sub hl [] rfl)
            · refine lv_iconst (v := 5) hx hb dX2_kindOfLine_92 (by decide) ?_
              refine lv_goto (tgt := 148) hx hb dX2_kindOfLine_93 (by decide) ?_
              exact B148 _ _ _ ls 5 hu hp hP hD hS (by (try simp only [i_lt, i_le, i_eq, Int32.toInt_toInt64, Int32.reduceToInt, Int64.reduceToInt, true_and, and_true, false_and, and_false, false_or, or_false, true_or, or_true, not_true_eq_false, not_false_eq_true, ne_eq, forall_const, true_implies, false_implies, implies_true] at hru2 c3 hru5 c6 hru8 c9 hru11 c12 hru14 c15 hru17 c18 ⊢) <;> omega) (lv_sub hl [] rfl)
          · refine lv_iconst (v := 4) hx hb dX2_kindOfLine_76 (by decide) ?_
            refine lv_goto (tgt := 148) hx hb dX2_kindOfLine_77 (by decide) ?_
            exact B148 _ _ _ ls 4 hu hp hP hD hS (by (try simp only [i_lt, i_le, i_eq, Int32.toInt_toInt64, Int32.reduceToInt, Int64.reduceToInt, true_and, and_true, false_and, and_false, false_or, or_false, true_or, or_true, not_true_eq_false, not_false_eq_true, ne_eq, forall_const, true_implies, false_implies, implies_true] at hru2 c3 hru5 c6 hru8 c9 hru11 c12 hru14 c15 ⊢) <;> omega) (lv_sub hl [] rfl)
        · refine lv_iconst (v := 3) hx hb dX2_kindOfLine_60 (by decide) ?_
          refine lv_goto (tgt := 148) hx hb dX2_kindOfLine_61 (by decide) ?_
          exact B148 _ _ _ ls 3 hu hp hP hD hS (by (try simp only [i_lt, i_le, i_eq, Int32.toInt_toInt64, Int32.reduceToInt, Int64.reduceToInt, true_and, and_true, false_and, and_false, false_or, or_false, true_or, or_true, not_true_eq_false, not_false_eq_true, ne_eq, forall_const, true_implies, false_implies, implies_true] at hru2 c3 hru5 c6 hru8 c9 hru11 c12 ⊢) <;> omega) (lv_sub hl [] rfl)
      · refine lv_iconst (v := 2) hx hb dX2_kindOfLine_44 (by decide) ?_
        refine lv_goto (tgt := 148) hx hb dX2_kindOfLine_45 (by decide) ?_
        exact B148 _ _ _ ls 2 hu hp hP hD hS (by (try simp only [i_lt, i_le, i_eq, Int32.toInt_toInt64, Int32.reduceToInt, Int64.reduceToInt, true_and, and_true, false_and, and_false, false_or, or_false, true_or, or_true, not_true_eq_false, not_false_eq_true, ne_eq, forall_const, true_implies, false_implies, implies_true] at hru2 c3 hru5 c6 hru8 c9 ⊢) <;> omega) (lv_sub hl [] rfl)
    · refine lv_iconst (v := 1) hx hb dX2_kindOfLine_28 (by decide) ?_
      refine lv_goto (tgt := 148) hx hb dX2_kindOfLine_29 (by decide) ?_
      exact B148 _ _ _ ls 1 hu hp hP hD hS (by (try simp only [i_lt, i_le, i_eq, Int32.toInt_toInt64, Int32.reduceToInt, Int64.reduceToInt, true_and, and_true, false_and, and_false, false_or, or_false, true_or, or_true, not_true_eq_false, not_false_eq_true, ne_eq, forall_const, true_implies, false_implies, implies_true] at hru2 c3 hru5 c6 ⊢) <;> omega) (lv_sub hl [] rfl)
  · refine lv_iconst (v := 0) hx hb dX2_kindOfLine_12 (by decide) ?_
    refine lv_goto (tgt := 148) hx hb dX2_kindOfLine_13 (by decide) ?_
    exact B148 _ _ _ ls 0 hu hp hP hD hS (by (try simp only [i_lt, i_le, i_eq, Int32.toInt_toInt64, Int32.reduceToInt, Int64.reduceToInt, true_and, and_true, false_and, and_false, false_or, or_false, true_or, or_true, not_true_eq_false, not_false_eq_true, ne_eq, forall_const, true_implies, false_implies, implies_true] at hru2 c3 ⊢) <;> omega) (lv_sub hl [] rfl)
set_option maxHeartbeats 4000000 in
set_option maxRecDepth 100000 in
theorem t_X2_expectKind (l : Launch) (D : va_G) (k : Nat → ClassId) (tt : TT) (u0 : PSt) (hu : WT u0) (h0 : Nat) (m_h0 : h0 ∈ u0.1) (k_h0 : u0.2.1 h0 = 2) (sz : Nat) : Met l yX2_expectKind wsX2_expectKind ({ frames := 6, cells := 0, slots := 0, locals := 128 }) (PreT D k tt sz (PW k u0) [.ref h0]) (va_Qi (fun r v => WT v ∧ PX u0 v ∧ True) (WB D (va_A (PW k u0) sz) (PW k)) (va_A (PW k u0) sz)) 0 0 (va_A (PW k u0) sz) := by
  refine Met.ofW (cc := cX2_expectKind) (maxL := 1) (ret := (some .int)) (by decide) rfl ?_
  intro p e s m args below meth c s₁ B hml hv
  obtain ⟨rfl, hsz, hP, hK, hD0, hN, hE0⟩ := hv
  have hx := B.exec
  have hb := B.bytes
  have hr := B.returns
  have hts := atoms_spec (ws := wsX2_expectKind) B.pre
  have hown : s.vm.findClass RX2 = some m.cls := findClass_of_methodNamed B.named
  have hlocks := B.notSynchronized
  have i_X2 : ∀ w ∈ wsX20, w ∈ wsX2_expectKind := by decide +kernel
  subst hsz
  have hD := hD0.self (sz := s.heap.size)
  have hE := hE0
  generalize hAe : va_A (PW k u0) s.heap.size = A at hD hE ⊢
  have hA : ∀ q : Nat, s.heap.size ≤ q → A q := fun q h => by rw [← hAe]; exact Or.inr h
  have hS : va_S A s.heap s.heap [] := va_S.rf
  have hp : PX u0 u0 := PX.rf
  have B63 : ∀ (u : PSt) (H : Heap) (locs : List Loc) (ls : Array Slot), WT u → PX u0 u → va_P D vwCl (PW k u) H → va_D A (PW k u) → va_S A s.heap H locs → lv_has ls 1 [] → W p l e (headSpec wsX2_expectKind ({ frames := 6, cells := 0, slots := 0, locals := 128 })).room s m ([.ref h0] : List Value).toArray below meth c H locs 0 0 (MQ below (va_Qi (fun r v => WT v ∧ PX u0 v ∧ True) (WB D A (PW k)) A) ([.ref h0] : List Value).toArray s 0 0 A) (F0 m 63 ls []) := by
    intro u H locs ls  hu hp hP hD hS  hl
    refine lv_iconst (v := 3) hx hb dX2_expectKind_63 (by decide) ?_
    exact W.iret (v := 3) hx hb hr (fun t ht hW => ⟨⟨3, u, rfl, ⟨hu, hp, trivial⟩, by rw [ht]; exact hP, hD⟩, hS.F ht⟩) hS.2.2 dX2_expectKind_64
  have hl := lv_entry ([.ref h0]) (n := 1) (Nat.le_of_ble_eq_true rfl)
  rw [lg_entry_eq]
  generalize (lg_sl ([.ref h0]) ++ List.replicate (1 - (lg_sl ([.ref h0])).length) Slot.unset).toArray = ls at hl ⊢
  have hl : lv_has ls 1 [(0, .ref h0)] := hl
  refine lv_aload_n hx hb dX2_expectKind_0 rfl (lv_at hl 0 rfl) ?_
  refine pget (ci := 2) (v := va_rf (u0.2.2.2.2 h0 0)) (C := RX2) (T := TX2) (N := 2) hx hb hts i_X2 hown hK hP m_h0 (cF2 k_h0) rfl 0 (by decide) (hts (.fieldLink RX2 18 "BellowsRow$Parser" "tape" "LBellowsRow$Tape;") (by decide +kernel)) (fun _ h9 => h9) rfl dX2_expectKind_1 ?_
  obtain ⟨y1, qy1, m_y1, k_y1⟩ := (hu h0 m_h0).1 0 9 (by rw [k_h0]; rfl)
  refine W.eq (g2 := F0 m 4 ls [.ref y1]) (by rw [qy1]; rfl) ?_
  refine va_ldcS (own := RX2) (tx := "pot") (q := tt.1 0) hx hb hown (hE.2.1 (RX2, 90, "pot", 0) (by decide +kernel)) dX2_expectKind_4 ?_
  refine xiV (C := RX9) (As := [.ref (tt.1 0)]) (rest := []) ⟨hx, hb, hml, hown, hts⟩ (fun sz => t_X9_passes l D k tt u0 hu y1 m_y1 k_y1 0 (by decide) sz) (cwV 1 hts gX2_expectKind_X9_passes rfl rfl rfl (by decide +kernel) ⟨Nat.le_of_ble_eq_true rfl, Nat.le_of_ble_eq_true rfl⟩) hP hK hD hN hE hS hA (precv hK hP m_y1 (cF9 k_y1) rfl) rfl hl.1 rfl (Nat.le_of_ble_eq_true rfl) dX2_expectKind_6 ⟨Nat.le_of_ble_eq_true rfl, Nat.le_of_ble_eq_true rfl⟩ (fun ru2 u2 H locs hq hP hD hS => ?_)
  obtain ⟨hu, hxu2, hru2⟩ := hq
  have k_h0 : u2.2.1 h0 = 2 := (hxu2 h0 m_h0).2.1.trans k_h0
  have m_h0 : h0 ∈ u2.1 := (hxu2 h0 m_h0).1
  have hp := PX.trans hp hxu2
  refine lv_if_eq (tgt := 14) hx hb dX2_expectKind_9 (by decide) (fun c3 => ?_) (fun c3 => ?_)
  · refine lv_aload_n hx hb dX2_expectKind_14 rfl (lv_at hl 0 rfl) ?_
    refine pget (ci := 2) (v := va_rf (u2.2.2.2.2 h0 0)) (C := RX2) (T := TX2) (N := 2) hx hb hts i_X2 hown hK hP m_h0 (cF2 k_h0) rfl 0 (by decide) (hts (.fieldLink RX2 18 "BellowsRow$Parser" "tape" "LBellowsRow$Tape;") (by decide +kernel)) (fun _ h9 => h9) rfl dX2_expectKind_15 ?_
    obtain ⟨y4, qy4, m_y4, k_y4⟩ := (hu h0 m_h0).1 0 9 (by rw [k_h0]; rfl)
    refine W.eq (g2 := F0 m 18 ls [.ref y4]) (by rw [qy4]; rfl) ?_
    refine va_ldcS (own := RX2) (tx := "pipe") (q := tt.1 1) hx hb hown (hE.2.1 (RX2, 96, "pipe", 1) (by decide +kernel)) dX2_expectKind_18 ?_
    refine xiV (C := RX9) (As := [.ref (tt.1 1)]) (rest := []) ⟨hx, hb, hml, hown, hts⟩ (fun sz => t_X9_passes l D k tt u2 hu y4 m_y4 k_y4 1 (by decide) sz) (cwV 1 hts gX2_expectKind_X9_passes rfl rfl rfl (by decide +kernel) ⟨Nat.le_of_ble_eq_true rfl, Nat.le_of_ble_eq_true rfl⟩) hP hK hD hN hE hS hA (precv hK hP m_y4 (cF9 k_y4) rfl) rfl hl.1 rfl (Nat.le_of_ble_eq_true rfl) dX2_expectKind_20 ⟨Nat.le_of_ble_eq_true rfl, Nat.le_of_ble_eq_true rfl⟩ (fun ru5 u5 H locs hq hP hD hS => ?_)
    obtain ⟨hu, hxu5, hru5⟩ := hq
    have k_h0 : u5.2.1 h0 = 2 := (hxu5 h0 m_h0).2.1.trans k_h0
    have m_h0 : h0 ∈ u5.1 := (hxu5 h0 m_h0).1
    have hp := PX.trans hp hxu5
    refine lv_if_eq (tgt := 28) hx hb dX2_expectKind_23 (by decide) (fun c6 => ?_) (fun c6 => ?_)
    · refine lv_aload_n hx hb dX2_expectKind_28 rfl (lv_at hl 0 rfl) ?_
      refine pget (ci := 2) (v := va_rf (u5.2.2.2.2 h0 0)) (C := RX2) (T := TX2) (N := 2) hx hb hts i_X2 hown hK hP m_h0 (cF2 k_h0) rfl 0 (by decide) (hts (.fieldLink RX2 18 "BellowsRow$Parser" "tape" "LBellowsRow$Tape;") (by decide +kernel)) (fun _ h9 => h9) rfl dX2_expectKind_29 ?_
      obtain ⟨y7, qy7, m_y7, k_y7⟩ := (hu h0 m_h0).1 0 9 (by rw [k_h0]; rfl)
      refine W.eq (g2 := F0 m 32 ls [.ref y7]) (by rw [qy7]; rfl) ?_
      refine va_ldcS (own := RX2) (tx := "prop") (q := tt.1 16) hx hb hown (hE.2.1 (RX2, 175, "prop", 16) (by decide +kernel)) dX2_expectKind_32 ?_
      refine xiV (C := RX9) (As := [.ref (tt.1 16)]) (rest := []) ⟨hx, hb, hml, hown, hts⟩ (fun sz => t_X9_passes l D k tt u5 hu y7 m_y7 k_y7 16 (by decide) sz) (cwV 1 hts gX2_expectKind_X9_passes rfl rfl rfl (by decide +kernel) ⟨Nat.le_of_ble_eq_true rfl, Nat.le_of_ble_eq_true rfl⟩) hP hK hD hN hE hS hA (precv hK hP m_y7 (cF9 k_y7) rfl) rfl hl.1 rfl (Nat.le_of_ble_eq_true rfl) dX2_expectKind_34 ⟨Nat.le_of_ble_eq_true rfl, Nat.le_of_ble_eq_true rfl⟩ (fun ru8 u8 H locs hq hP hD hS => ?_)
      obtain ⟨hu, hxu8, hru8⟩ := hq
      have k_h0 : u8.2.1 h0 = 2 := (hxu8 h0 m_h0).2.1.trans k_h0
      have m_h0 : h0 ∈ u8.1 := (hxu8 h0 m_h0).1
      have hp := PX.trans hp hxu8
      refine lv_if_eq (tgt := 42) hx hb dX2_expectKind_37 (by decide) (fun c9 => ?_) (fun c9 => ?_)
      · refine lv_aload_n hx hb dX2_expectKind_42 rfl (lv_at hl 0 rfl) ?_
        refine pget (ci := 2) (v := va_rf (u8.2.2.2.2 h0 0)) (C := RX2) (T := TX2) (N := 2) hx hb hts i_X2 hown hK hP m_h0 (cF2 k_h0) rfl 0 (by decide) (hts (.fieldLink RX2 18 "BellowsRow$Parser" "tape" "LBellowsRow$Tape;") (by decide +kernel)) (fun _ h9 => h9) rfl dX2_expectKind_43 ?_
        obtain ⟨y10, qy10, m_y10, k_y10⟩ := (hu h0 m_h0).1 0 9 (by rw [k_h0]; rfl)
        refine W.eq (g2 := F0 m 46 ls [.ref y10]) (by rw [qy10]; rfl) ?_
        refine va_ldcSw (own := RX2) (tx := "press") (q := tt.1 32) hx hb hown (hE.2.1 (RX2, 269, "press", 32) (by decide +kernel)) dX2_expectKind_46 ?_
        refine xiV (C := RX9) (As := [.ref (tt.1 32)]) (rest := []) ⟨hx, hb, hml, hown, hts⟩ (fun sz => t_X9_passes l D k tt u8 hu y10 m_y10 k_y10 32 (by decide) sz) (cwV 1 hts gX2_expectKind_X9_passes rfl rfl rfl (by decide +kernel) ⟨Nat.le_of_ble_eq_true rfl, Nat.le_of_ble_eq_true rfl⟩) hP hK hD hN hE hS hA (precv hK hP m_y10 (cF9 k_y10) rfl) rfl hl.1 rfl (Nat.le_of_ble_eq_true rfl) dX2_expectKind_49 ⟨Nat.le_of_ble_eq_true rfl, Nat.le_of_ble_eq_true rfl⟩ (fun ru11 u11 H locs hq hP hD hS => ?_)
        obtain ⟨hu, hxu11, hru11⟩ := hq
        have k_h0 : u11.2.1 h0 = 2 := (hxu11 h0 m_h0).2.1.trans k_h0
        have m_h0 : h0 ∈ u11.1 := (hxu11 h0 m_h0).1
        have hp := PX.trans hp hxu11
        refine lv_if_ne (tgt := 63) hx hb dX2_expectKind_52 (by decide) (fun c12 => ?_) (fun c12 => ?_)
        · exact B63 _ _ _ ls hu hp hP hD hS (lv_sub hl [] rfl)
        · refine lv_aload_n hx hb dX2_expectKind_55 rfl (lv_at hl 0 rfl) ?_
          refine pget (ci := 2) (v := va_rf (u11.2.2.2.2 h0 0)) (C := RX2) (T := TX2) (N := 2) hx hb hts i_X2 hown hK hP m_h0 (cF2 k_h0) rfl 0 (by decide) (hts (.fieldLink RX2 18 "BellowsRow$Parser" "tape" "LBellowsRow$Tape;") (by decide +kernel)) (fun _ h9 => h9) rfl dX2_expectKind_56 ?_
          obtain ⟨y13, qy13, m_y13, k_y13⟩ := (hu h0 m_h0).1 0 9 (by rw [k_h0]; rfl)
          refine W.eq (g2 := F0 m 59 ls [.ref y13]) (by rw [qy13]; rfl) ?_
          refine lv_iconst (v := 1) hx hb dX2_expectKind_59 (by decide) ?_
          refine wvV (C := RX9) (As := [.int 1]) (rest := []) ⟨hx, hb, hml, hown, hts⟩ (fun sz => t_X9_fail l D k u11 hu y13 m_y13 k_y13 1 sz) (cwV 1 hts gX2_expectKind_X9_fail rfl rfl rfl (by decide +kernel) ⟨Nat.le_of_ble_eq_true rfl, Nat.le_of_ble_eq_true rfl⟩) hP hK hD hN hS hA (precv hK hP m_y13 (cF9 k_y13) rfl) rfl hl.1 rfl (Nat.le_of_ble_eq_true rfl) dX2_expectKind_60 ⟨Nat.le_of_ble_eq_true rfl, Nat.le_of_ble_eq_true rfl⟩ (fun u14 H locs hq hP hD hS => ?_)
          obtain ⟨hu, hxu14, hru14⟩ := hq
          have k_h0 : u14.2.1 h0 = 2 := (hxu14 h0 m_h0).2.1.trans k_h0
          have m_h0 : h0 ∈ u14.1 := (hxu14 h0 m_h0).1
          have hp := PX.trans hp hxu14
          exact B63 _ _ _ ls hu hp hP hD hS (lv_sub hl [] rfl)
      · refine lv_iconst (v := 2) hx hb dX2_expectKind_40 (by decide) ?_
        exact W.iret (v := 2) hx hb hr (fun t ht hW => ⟨⟨2, u8, rfl, ⟨hu, hp, trivial⟩, by rw [ht]; exact hP, hD⟩, hS.F ht⟩) hS.2.2 dX2_expectKind_41
    · refine lv_iconst (v := 1) hx hb dX2_expectKind_26 (by decide) ?_
      exact W.iret (v := 1) hx hb hr (fun t ht hW => ⟨⟨1, u5, rfl, ⟨hu, hp, trivial⟩, by rw [ht]; exact hP, hD⟩, hS.F ht⟩) hS.2.2 dX2_expectKind_27
  · refine lv_iconst (v := 0) hx hb dX2_expectKind_12 (by decide) ?_
    exact W.iret (v := 0) hx hb hr (fun t ht hW => ⟨⟨0, u2, rfl, ⟨hu, hp, trivial⟩, by rw [ht]; exact hP, hD⟩, hS.F ht⟩) hS.2.2 dX2_expectKind_13
set_option maxHeartbeats 4000000 in
set_option maxRecDepth 100000 in
theorem t_X2_expectSubjects (l : Launch) (D : va_G) (k : Nat → ClassId) (tt : TT) (u0 : PSt) (hu : WT u0) (h0 : Nat) (m_h0 : h0 ∈ u0.1) (k_h0 : u0.2.1 h0 = 2) (sz : Nat) : Met l yX2_expectSubjects wsX2_expectSubjects ({ frames := 6, cells := 0, slots := 0, locals := 128 }) (PreT D k tt sz (PW k u0) [.ref h0]) (va_Qi (fun r v => WT v ∧ PX u0 v ∧ True) (WB D (va_A (PW k u0) sz) (PW k)) (va_A (PW k u0) sz)) 0 0 (va_A (PW k u0) sz) := by
  refine Met.ofW (cc := cX2_expectSubjects) (maxL := 4) (ret := (some .int)) (by decide) rfl ?_
  intro p e s m args below meth c s₁ B hml hv
  obtain ⟨rfl, hsz, hP, hK, hD0, hN, hE0⟩ := hv
  have hx := B.exec
  have hb := B.bytes
  have hr := B.returns
  have hts := atoms_spec (ws := wsX2_expectSubjects) B.pre
  have hown : s.vm.findClass RX2 = some m.cls := findClass_of_methodNamed B.named
  have hlocks := B.notSynchronized
  have i_X2 : ∀ w ∈ wsX20, w ∈ wsX2_expectSubjects := by decide +kernel
  have i_X9 : ∀ w ∈ wsX90, w ∈ wsX2_expectSubjects := by decide +kernel
  subst hsz
  have hD := hD0.self (sz := s.heap.size)
  have hE := hE0
  generalize hAe : va_A (PW k u0) s.heap.size = A at hD hE ⊢
  have hA : ∀ q : Nat, s.heap.size ≤ q → A q := fun q h => by rw [← hAe]; exact Or.inr h
  have hS : va_S A s.heap s.heap [] := va_S.rf
  have hp : PX u0 u0 := PX.rf
  have B118 : ∀ (u : PSt) (H : Heap) (locs : List Loc) (ls : Array Slot) (v1 : Int32), WT u → PX u0 u → va_P D vwCl (PW k u) H → va_D A (PW k u) → va_S A s.heap H locs → lv_has ls 4 [(1, .int v1)] → W p l e (headSpec wsX2_expectSubjects ({ frames := 6, cells := 0, slots := 0, locals := 128 })).room s m ([.ref h0] : List Value).toArray below meth c H locs 0 0 (MQ below (va_Qi (fun r v => WT v ∧ PX u0 v ∧ True) (WB D A (PW k)) A) ([.ref h0] : List Value).toArray s 0 0 A) (F0 m 118 ls []) := by
    intro u H locs ls v1 hu hp hP hD hS  hl
    refine lv_iload_n hx hb dX2_expectSubjects_118 rfl (lv_at hl 0 rfl) ?_
    exact W.iret (v := v1) hx hb hr (fun t ht hW => ⟨⟨v1, u, rfl, ⟨hu, hp, trivial⟩, by rw [ht]; exact hP, hD⟩, hS.F ht⟩) hS.2.2 dX2_expectSubjects_119
  have B106 : ∀ (u : PSt) (H : Heap) (locs : List Loc) (ls : Array Slot) (v0 : Nat) (v1 : Int32), WT u → PX u0 u → va_P D vwCl (PW k u) H → va_D A (PW k u) → va_S A s.heap H locs → v0 ∈ u.1 → u.2.1 v0 = 2 → lv_has ls 4 [(0, .ref v0), (1, .int v1)] → W p l e (headSpec wsX2_expectSubjects ({ frames := 6, cells := 0, slots := 0, locals := 128 })).room s m ([.ref h0] : List Value).toArray below meth c H locs 0 0 (MQ below (va_Qi (fun r v => WT v ∧ PX u0 v ∧ True) (WB D A (PW k)) A) ([.ref h0] : List Value).toArray s 0 0 A) (F0 m 106 ls []) := by
    intro u H locs ls v0 v1 hu hp hP hD hS m_v0 k_v0 hl
    refine lv_iload_n hx hb dX2_expectSubjects_106 rfl (lv_at hl 1 rfl) ?_
    refine lv_if_ne (tgt := 118) hx hb dX2_expectSubjects_107 (by decide) (fun c1 => ?_) (fun c1 => ?_)
    · exact B118 _ _ _ ls v1 hu hp hP hD hS (lv_sub hl [1] rfl)
    · refine lv_aload_n hx hb dX2_expectSubjects_110 rfl (lv_at hl 0 rfl) ?_
      refine pget (ci := 2) (v := va_rf (u.2.2.2.2 v0 0)) (C := RX2) (T := TX2) (N := 2) hx hb hts i_X2 hown hK hP m_v0 (cF2 k_v0) rfl 0 (by decide) (hts (.fieldLink RX2 18 "BellowsRow$Parser" "tape" "LBellowsRow$Tape;") (by decide +kernel)) (fun _ h9 => h9) rfl dX2_expectSubjects_111 ?_
      obtain ⟨y2, qy2, m_y2, k_y2⟩ := (hu v0 m_v0).1 0 9 (by rw [k_v0]; rfl)
      refine W.eq (g2 := F0 m 114 ls [.ref y2]) (by rw [qy2]; rfl) ?_
      refine lv_iconst (v := 1) hx hb dX2_expectSubjects_114 (by decide) ?_
      refine wvV (C := RX9) (As := [.int 1]) (rest := []) ⟨hx, hb, hml, hown, hts⟩ (fun sz => t_X9_fail l D k u hu y2 m_y2 k_y2 1 sz) (cwV 1 hts gX2_expectSubjects_X9_fail rfl rfl rfl (by decide +kernel) ⟨Nat.le_of_ble_eq_true rfl, Nat.le_of_ble_eq_true rfl⟩) hP hK hD hN hS hA (precv hK hP m_y2 (cF9 k_y2) rfl) rfl hl.1 rfl (Nat.le_of_ble_eq_true rfl) dX2_expectSubjects_115 ⟨Nat.le_of_ble_eq_true rfl, Nat.le_of_ble_eq_true rfl⟩ (fun u3 H locs hq hP hD hS => ?_)
      obtain ⟨hu, hxu3, hru3⟩ := hq
      have k_v0 : u3.2.1 v0 = 2 := (hxu3 v0 m_v0).2.1.trans k_v0
      have m_v0 : v0 ∈ u3.1 := (hxu3 v0 m_v0).1
      have hp := PX.trans hp hxu3
      exact B118 _ _ _ ls v1 hu hp hP hD hS (lv_sub hl [1] rfl)
  have B4 : ∀ (n4 : Nat) (u : PSt) (H : Heap) (locs : List Loc) (ls : Array Slot) (v0 : Nat) (v1 : Int32) (v2 : Int32), WT u → PX u0 u → va_P D vwCl (PW k u) H → va_D A (PW k u) → va_S A s.heap H locs → (2147483648 - v2.toInt).toNat ≤ n4 → v0 ∈ u.1 → u.2.1 v0 = 2 → 0 ≤ v2.toInt ∧ v2.toInt ≤ 1601 → lv_has ls 4 [(0, .ref v0), (1, .int v1), (2, .int v2)] → W p l e (headSpec wsX2_expectSubjects ({ frames := 6, cells := 0, slots := 0, locals := 128 })).room s m ([.ref h0] : List Value).toArray below meth c H locs 0 0 (MQ below (va_Qi (fun r v => WT v ∧ PX u0 v ∧ True) (WB D A (PW k)) A) ([.ref h0] : List Value).toArray s 0 0 A) (F0 m 4 ls []) := by
    intro n4
    induction n4 with
    | zero =>
      intro u H locs ls v0 v1 v2 hu hp hP hD hS hn4 m_v0 k_v0 g_v2 hl
      exact absurd hn4 (by have := Int32.toInt_lt v2; have := Int32.le_toInt v2; omega)
    | succ n4 ih4 =>
      intro u H locs ls v0 v1 v2 hu hp hP hD hS hn4 m_v0 k_v0 g_v2 hl
      have B85 : ∀ (u : PSt) (H : Heap) (locs : List Loc) (ls : Array Slot) (v0 : Nat) (v1 : Int32) (v2 : Int32) (sk0 : Int32), WT u → PX u0 u → va_P D vwCl (PW k u) H → va_D A (PW k u) → va_S A s.heap H locs → v0 ∈ u.1 → u.2.1 v0 = 2 → 0 ≤ v2.toInt ∧ v2.toInt ≤ 1600 → -1 ≤ sk0.toInt ∧ sk0.toInt ≤ 3 → (2147483648 - v2.toInt).toNat ≤ n4 + 1 → lv_has ls 4 [(0, .ref v0), (1, .int v1), (2, .int v2)] → W p l e (headSpec wsX2_expectSubjects ({ frames := 6, cells := 0, slots := 0, locals := 128 })).room s m ([.ref h0] : List Value).toArray below meth c H locs 0 0 (MQ below (va_Qi (fun r v => WT v ∧ PX u0 v ∧ True) (WB D A (PW k)) A) ([.ref h0] : List Value).toArray s 0 0 A) (F0 m 85 ls [.int sk0]) := by
        intro u H locs ls v0 v1 v2 sk0 hu hp hP hD hS m_v0 k_v0 g_v2 g_sk0 hn4 hl
        refine lv_istore_n (lv' := [(3, .int sk0), (0, .ref v0), (1, .int v1), (2, .int v2)]) hx hb dX2_expectSubjects_85 rfl hl (by decide) rfl (fun ls hl => ?_)
        refine lv_iload_n hx hb dX2_expectSubjects_86 rfl (lv_at hl 0 rfl) ?_
        refine lv_iconst (v := (-1)) hx hb dX2_expectSubjects_87 (by decide) ?_
        refine lv_icmp_ne (tgt := 94) hx hb dX2_expectSubjects_88 (by decide) (fun c4 => ?_) (fun c4 => ?_)
        · refine lv_iload_n hx hb dX2_expectSubjects_94 rfl (lv_at hl 2 rfl) ?_
          refine lv_iconst (v := 1) hx hb dX2_expectSubjects_95 (by decide) ?_
          refine lv_iload_n hx hb dX2_expectSubjects_96 rfl (lv_at hl 0 rfl) ?_
          refine lv_ishl hx hb dX2_expectSubjects_97 ?_
          refine lv_topi (fun x5 ex5 => ?_)
          refine lv_ior hx hb dX2_expectSubjects_98 ?_
          refine lv_topi (fun x6 ex6 => ?_)
          refine lv_istore_n (lv' := [(1, .int x6), (3, .int sk0), (0, .ref v0), (2, .int v2)]) hx hb dX2_expectSubjects_99 rfl hl (by decide) rfl (fun ls hl => ?_)
          obtain ⟨x7, ex7⟩ : ∃ y : Int32, y = v2 + 1 := ⟨_, rfl⟩
          have tx7 : x7.toInt = v2.toInt + 1 := by rw [ex7]; exact i_add (b := 1) (by (try simp only [i_lt, i_le, i_eq, Int32.toInt_toInt64, Int32.reduceToInt, Int64.reduceToInt, true_and, and_true, false_and, and_false, false_or, or_false, true_or, or_true, not_true_eq_false, not_false_eq_true, ne_eq, forall_const, true_implies, false_implies, implies_true] at g_v2 g_sk0 hn4 c4 ⊢) <;> omega) (by (try simp only [i_lt, i_le, i_eq, Int32.toInt_toInt64, Int32.reduceToInt, Int64.reduceToInt, true_and, and_true, false_and, and_false, false_or, or_false, true_or, or_true, not_true_eq_false, not_false_eq_true, ne_eq, forall_const, true_implies, false_implies, implies_true] at g_v2 g_sk0 hn4 c4 ⊢) <;> omega)
          refine lv_iinc (v := x7) (lv' := [(2, .int x7), (1, .int x6), (3, .int sk0), (0, .ref v0)]) hx hb dX2_expectSubjects_100 hl (k := 3) rfl (by rw [ex7]; rfl) (by decide) rfl (fun ls hl => ?_)
          refine lv_goto (tgt := 4) hx hb dX2_expectSubjects_103 (by decide) ?_
          exact ih4 _ _ _ ls v0 x6 x7 hu hp hP hD hS (by (try simp only [i_lt, i_le, i_eq, Int32.toInt_toInt64, Int32.reduceToInt, Int64.reduceToInt, true_and, and_true, false_and, and_false, false_or, or_false, true_or, or_true, not_true_eq_false, not_false_eq_true, ne_eq, forall_const, true_implies, false_implies, implies_true] at g_v2 g_sk0 hn4 c4 tx7 ⊢) <;> omega) m_v0 k_v0 (by (try simp only [i_lt, i_le, i_eq, Int32.toInt_toInt64, Int32.reduceToInt, Int64.reduceToInt, true_and, and_true, false_and, and_false, false_or, or_false, true_or, or_true, not_true_eq_false, not_false_eq_true, ne_eq, forall_const, true_implies, false_implies, implies_true] at g_v2 g_sk0 hn4 c4 tx7 ⊢) <;> omega) (lv_sub hl [3, 1, 0] rfl)
        · refine lv_goto (tgt := 106) hx hb dX2_expectSubjects_91 (by decide) ?_
          exact B106 _ _ _ ls v0 v1 hu hp hP hD hS m_v0 k_v0 (lv_sub hl [1, 2] rfl)
      refine lv_iload_n hx hb dX2_expectSubjects_4 rfl (lv_at hl 2 rfl) ?_
      refine lv_aload_n hx hb dX2_expectSubjects_5 rfl (lv_at hl 0 rfl) ?_
      refine pget (ci := 2) (v := va_rf (u.2.2.2.2 v0 0)) (C := RX2) (T := TX2) (N := 2) hx hb hts i_X2 hown hK hP m_v0 (cF2 k_v0) rfl 0 (by decide) (hts (.fieldLink RX2 18 "BellowsRow$Parser" "tape" "LBellowsRow$Tape;") (by decide +kernel)) (fun _ h9 => h9) rfl dX2_expectSubjects_6 ?_
      obtain ⟨y8, qy8, m_y8, k_y8⟩ := (hu v0 m_v0).1 0 9 (by rw [k_v0]; rfl)
      refine W.eq (g2 := F0 m 9 ls [.ref y8, .int v2]) (by rw [qy8]; rfl) ?_
      refine pget (ci := 9) (v := va_rf (u.2.2.2.2 y8 0)) (C := RX9) (T := TX9) (N := 8) hx hb hts i_X9 hown hK hP m_y8 (cF9 k_y8) rfl 0 (by decide) (hts (.fieldLink RX2 271 "BellowsRow$Tape" "bytes" "[B") (by decide +kernel)) (fun _ h9 => h9) rfl dX2_expectSubjects_9 ?_
      obtain ⟨y9, qy9, m_y9, k_y9⟩ := (hu y8 m_y8).1 0 20 (by rw [k_y8]; rfl)
      refine W.eq (g2 := F0 m 12 ls [.ref y9, .int v2]) (by rw [qy9]; rfl) ?_
      refine palen (v := 1600) hx hb hK hP m_y9 (cF20 k_y9) 0 rfl rfl dX2_expectSubjects_12 ?_
      refine lv_icmp_ge (tgt := 106) hx hb dX2_expectSubjects_13 (by decide) (fun c10 => ?_) (fun c10 => ?_)
      · exact B106 _ _ _ ls v0 v1 hu hp hP hD hS m_v0 k_v0 (lv_sub hl [0, 1] rfl)
      · refine lv_aload_n hx hb dX2_expectSubjects_16 rfl (lv_at hl 0 rfl) ?_
        refine pget (ci := 2) (v := va_rf (u.2.2.2.2 v0 0)) (C := RX2) (T := TX2) (N := 2) hx hb hts i_X2 hown hK hP m_v0 (cF2 k_v0) rfl 0 (by decide) (hts (.fieldLink RX2 18 "BellowsRow$Parser" "tape" "LBellowsRow$Tape;") (by decide +kernel)) (fun _ h9 => h9) rfl dX2_expectSubjects_17 ?_
        obtain ⟨y11, qy11, m_y11, k_y11⟩ := (hu v0 m_v0).1 0 9 (by rw [k_v0]; rfl)
        refine W.eq (g2 := F0 m 20 ls [.ref y11]) (by rw [qy11]; rfl) ?_
        refine va_ldcSw (own := RX2) (tx := "draw") (q := tt.1 33) hx hb hown (hE.2.1 (RX2, 275, "draw", 33) (by decide +kernel)) dX2_expectSubjects_20 ?_
        refine xiV (C := RX9) (As := [.ref (tt.1 33)]) (rest := []) ⟨hx, hb, hml, hown, hts⟩ (fun sz => t_X9_passes l D k tt u hu y11 m_y11 k_y11 33 (by decide) sz) (cwV 1 hts gX2_expectSubjects_X9_passes rfl rfl rfl (by decide +kernel) ⟨Nat.le_of_ble_eq_true rfl, Nat.le_of_ble_eq_true rfl⟩) hP hK hD hN hE hS hA (precv hK hP m_y11 (cF9 k_y11) rfl) rfl hl.1 rfl (Nat.le_of_ble_eq_true rfl) dX2_expectSubjects_23 ⟨Nat.le_of_ble_eq_true rfl, Nat.le_of_ble_eq_true rfl⟩ (fun ru12 u12 H locs hq hP hD hS => ?_)
        obtain ⟨hu, hxu12, hru12⟩ := hq
        have k_v0 : u12.2.1 v0 = 2 := (hxu12 v0 m_v0).2.1.trans k_v0
        have m_v0 : v0 ∈ u12.1 := (hxu12 v0 m_v0).1
        have hp := PX.trans hp hxu12
        refine lv_if_eq (tgt := 33) hx hb dX2_expectSubjects_26 (by decide) (fun c13 => ?_) (fun c13 => ?_)
        · refine lv_aload_n hx hb dX2_expectSubjects_33 rfl (lv_at hl 0 rfl) ?_
          refine pget (ci := 2) (v := va_rf (u12.2.2.2.2 v0 0)) (C := RX2) (T := TX2) (N := 2) hx hb hts i_X2 hown hK hP m_v0 (cF2 k_v0) rfl 0 (by decide) (hts (.fieldLink RX2 18 "BellowsRow$Parser" "tape" "LBellowsRow$Tape;") (by decide +kernel)) (fun _ h9 => h9) rfl dX2_expectSubjects_34 ?_
          obtain ⟨y14, qy14, m_y14, k_y14⟩ := (hu v0 m_v0).1 0 9 (by rw [k_v0]; rfl)
          refine W.eq (g2 := F0 m 37 ls [.ref y14]) (by rw [qy14]; rfl) ?_
          refine va_ldcSw (own := RX2) (tx := "push") (q := tt.1 34) hx hb hown (hE.2.1 (RX2, 277, "push", 34) (by decide +kernel)) dX2_expectSubjects_37 ?_
          refine xiV (C := RX9) (As := [.ref (tt.1 34)]) (rest := []) ⟨hx, hb, hml, hown, hts⟩ (fun sz => t_X9_passes l D k tt u12 hu y14 m_y14 k_y14 34 (by decide) sz) (cwV 1 hts gX2_expectSubjects_X9_passes rfl rfl rfl (by decide +kernel) ⟨Nat.le_of_ble_eq_true rfl, Nat.le_of_ble_eq_true rfl⟩) hP hK hD hN hE hS hA (precv hK hP m_y14 (cF9 k_y14) rfl) rfl hl.1 rfl (Nat.le_of_ble_eq_true rfl) dX2_expectSubjects_40 ⟨Nat.le_of_ble_eq_true rfl, Nat.le_of_ble_eq_true rfl⟩ (fun ru15 u15 H locs hq hP hD hS => ?_)
          obtain ⟨hu, hxu15, hru15⟩ := hq
          have k_v0 : u15.2.1 v0 = 2 := (hxu15 v0 m_v0).2.1.trans k_v0
          have m_v0 : v0 ∈ u15.1 := (hxu15 v0 m_v0).1
          have hp := PX.trans hp hxu15
          refine lv_if_eq (tgt := 50) hx hb dX2_expectSubjects_43 (by decide) (fun c16 => ?_) (fun c16 => ?_)
          · refine lv_aload_n hx hb dX2_expectSubjects_50 rfl (lv_at hl 0 rfl) ?_
            refine pget (ci := 2) (v := va_rf (u15.2.2.2.2 v0 0)) (C := RX2) (T := TX2) (N := 2) hx hb hts i_X2 hown hK hP m_v0 (cF2 k_v0) rfl 0 (by decide) (hts (.fieldLink RX2 18 "BellowsRow$Parser" "tape" "LBellowsRow$Tape;") (by decide +kernel)) (fun _ h9 => h9) rfl dX2_expectSubjects_51 ?_
            obtain ⟨y17, qy17, m_y17, k_y17⟩ := (hu v0 m_v0).1 0 9 (by rw [k_v0]; rfl)
            refine W.eq (g2 := F0 m 54 ls [.ref y17]) (by rw [qy17]; rfl) ?_
            refine va_ldcSw (own := RX2) (tx := "metal") (q := tt.1 35) hx hb hown (hE.2.1 (RX2, 279, "metal", 35) (by decide +kernel)) dX2_expectSubjects_54 ?_
            refine xiV (C := RX9) (As := [.ref (tt.1 35)]) (rest := []) ⟨hx, hb, hml, hown, hts⟩ (fun sz => t_X9_passes l D k tt u15 hu y17 m_y17 k_y17 35 (by decide) sz) (cwV 1 hts gX2_expectSubjects_X9_passes rfl rfl rfl (by decide +kernel) ⟨Nat.le_of_ble_eq_true rfl, Nat.le_of_ble_eq_true rfl⟩) hP hK hD hN hE hS hA (precv hK hP m_y17 (cF9 k_y17) rfl) rfl hl.1 rfl (Nat.le_of_ble_eq_true rfl) dX2_expectSubjects_57 ⟨Nat.le_of_ble_eq_true rfl, Nat.le_of_ble_eq_true rfl⟩ (fun ru18 u18 H locs hq hP hD hS => ?_)
            obtain ⟨hu, hxu18, hru18⟩ := hq
            have k_v0 : u18.2.1 v0 = 2 := (hxu18 v0 m_v0).2.1.trans k_v0
            have m_v0 : v0 ∈ u18.1 := (hxu18 v0 m_v0).1
            have hp := PX.trans hp hxu18
            refine lv_if_eq (tgt := 67) hx hb dX2_expectSubjects_60 (by decide) (fun c19 => ?_) (fun c19 => ?_)
            · refine lv_aload_n hx hb dX2_expectSubjects_67 rfl (lv_at hl 0 rfl) ?_
              refine pget (ci := 2) (v := va_rf (u18.2.2.2.2 v0 0)) (C := RX2) (T := TX2) (N := 2) hx hb hts i_X2 hown hK hP m_v0 (cF2 k_v0) rfl 0 (by decide) (hts (.fieldLink RX2 18 "BellowsRow$Parser" "tape" "LBellowsRow$Tape;") (by decide +kernel)) (fun _ h9 => h9) rfl dX2_expectSubjects_68 ?_
              obtain ⟨y20, qy20, m_y20, k_y20⟩ := (hu v0 m_v0).1 0 9 (by rw [k_v0]; rfl)
              refine W.eq (g2 := F0 m 71 ls [.ref y20]) (by rw [qy20]; rfl) ?_
              refine va_ldcSw (own := RX2) (tx := "gas") (q := tt.1 36) hx hb hown (hE.2.1 (RX2, 281, "gas", 36) (by decide +kernel)) dX2_expectSubjects_71 ?_
              refine xiV (C := RX9) (As := [.ref (tt.1 36)]) (rest := []) ⟨hx, hb, hml, hown, hts⟩ (fun sz => t_X9_passes l D k tt u18 hu y20 m_y20 k_y20 36 (by decide) sz) (cwV 1 hts gX2_expectSubjects_X9_passes rfl rfl rfl (by decide +kernel) ⟨Nat.le_of_ble_eq_true rfl, Nat.le_of_ble_eq_true rfl⟩) hP hK hD hN hE hS hA (precv hK hP m_y20 (cF9 k_y20) rfl) rfl hl.1 rfl (Nat.le_of_ble_eq_true rfl) dX2_expectSubjects_74 ⟨Nat.le_of_ble_eq_true rfl, Nat.le_of_ble_eq_true rfl⟩ (fun ru21 u21 H locs hq hP hD hS => ?_)
              obtain ⟨hu, hxu21, hru21⟩ := hq
              have k_v0 : u21.2.1 v0 = 2 := (hxu21 v0 m_v0).2.1.trans k_v0
              have m_v0 : v0 ∈ u21.1 := (hxu21 v0 m_v0).1
              have hp := PX.trans hp hxu21
              refine lv_if_eq (tgt := 84) hx hb dX2_expectSubjects_77 (by decide) (fun c22 => ?_) (fun c22 => ?_)
              · refine lv_iconst (v := (-1)) hx hb dX2_expectSubjects_84 (by decide) ?_
                exact B85 _ _ _ ls v0 v1 v2 (-1) hu hp hP hD hS m_v0 k_v0 (by (try simp only [i_lt, i_le, i_eq, Int32.toInt_toInt64, Int32.reduceToInt, Int64.reduceToInt, true_and, and_true, false_and, and_false, false_or, or_false, true_or, or_true, not_true_eq_false, not_false_eq_true, ne_eq, forall_const, true_implies, false_implies, implies_true] at g_v2 hn4 c10 hru12 c13 hru15 c16 hru18 c19 hru21 c22 ⊢) <;> omega) (by (try simp only [i_lt, i_le, i_eq, Int32.toInt_toInt64, Int32.reduceToInt, Int64.reduceToInt, true_and, and_true, false_and, and_false, false_or, or_false, true_or, or_true, not_true_eq_false, not_false_eq_true, ne_eq, forall_const, true_implies, false_implies, implies_true] at g_v2 hn4 c10 hru12 c13 hru15 c16 hru18 c19 hru21 c22 ⊢) <;> omega) (by (try simp only [i_lt, i_le, i_eq, Int32.toInt_toInt64, Int32.reduceToInt, Int64.reduceToInt, true_and, and_true, false_and, and_false, false_or, or_false, true_or, or_true, not_true_eq_false, not_false_eq_true, ne_eq, forall_const, true_implies, false_implies, implies_true] at g_v2 hn4 c10 hru12 c13 hru15 c16 hru18 c19 hru21 c22 ⊢) <;> omega) (lv_sub hl [0, 1, 2] rfl)
              · refine lv_iconst (v := 3) hx hb dX2_expectSubjects_80 (by decide) ?_
                refine lv_goto (tgt := 85) hx hb dX2_expectSubjects_81 (by decide) ?_
                exact B85 _ _ _ ls v0 v1 v2 3 hu hp hP hD hS m_v0 k_v0 (by (try simp only [i_lt, i_le, i_eq, Int32.toInt_toInt64, Int32.reduceToInt, Int64.reduceToInt, true_and, and_true, false_and, and_false, false_or, or_false, true_or, or_true, not_true_eq_false, not_false_eq_true, ne_eq, forall_const, true_implies, false_implies, implies_true] at g_v2 hn4 c10 hru12 c13 hru15 c16 hru18 c19 hru21 c22 ⊢) <;> omega) (by (try simp only [i_lt, i_le, i_eq, Int32.toInt_toInt64, Int32.reduceToInt, Int64.reduceToInt, true_and, and_true, false_and, and_false, false_or, or_false, true_or, or_true, not_true_eq_false, not_false_eq_true, ne_eq, forall_const, true_implies, false_implies, implies_true] at g_v2 hn4 c10 hru12 c13 hru15 c16 hru18 c19 hru21 c22 ⊢) <;> omega) (by (try simp only [i_lt, i_le, i_eq, Int32.toInt_toInt64, Int32.reduceToInt, Int64.reduceToInt, true_and, and_true, false_and, and_false, false_or, or_false, true_or, or_true, not_true_eq_false, not_false_eq_true, ne_eq, forall_const, true_implies, false_implies, implies_true] at g_v2 hn4 c10 hru12 c13 hru15 c16 hru18 c19 hru21 c22 ⊢) <;> omega) (lv_sub hl [0, 1, 2] rfl)
            · refine lv_iconst (v := 2) hx hb dX2_expectSubjects_63 (by decide) ?_
              refine lv_goto (tgt := 85) hx hb dX2_expectSubjects_64 (by decide) ?_
              exact B85 _ _ _ ls v0 v1 v2 2 hu hp hP hD hS m_v0 k_v0 (by (try simp only [i_lt, i_le, i_eq, Int32.toInt_toInt64, Int32.reduceToInt, Int64.reduceToInt, true_and, and_true, false_and, and_false, false_or, or_false, true_or, or_true, not_true_eq_false, not_false_eq_true, ne_eq, forall_const, true_implies, false_implies, implies_true] at g_v2 hn4 c10 hru12 c13 hru15 c16 hru18 c19 ⊢) <;> omega) (by (try simp only [i_lt, i_le, i_eq, Int32.toInt_toInt64, Int32.reduceToInt, Int64.reduceToInt, true_and, and_true, false_and, and_false, false_or, or_false, true_or, or_true, not_true_eq_false, not_false_eq_true, ne_eq, forall_const, true_implies, false_implies, implies_true] at g_v2 hn4 c10 hru12 c13 hru15 c16 hru18 c19 ⊢) <;> omega) (by (try simp only [i_lt, i_le, i_eq, Int32.toInt_toInt64, Int32.reduceToInt, Int64.reduceToInt, true_and, and_true, false_and, and_false, false_or, or_false, true_or, or_true, not_true_eq_false, not_false_eq_true, ne_eq, forall_const, true_implies, false_implies, implies_true] at g_v2 hn4 c10 hru12 c13 hru15 c16 hru18 c19 ⊢) <;> omega) (lv_sub hl [0, 1, 2] rfl)
          · refine lv_iconst (v := 1) hx hb dX2_expectSubjects_46 (by decide) ?_
            refine lv_goto (tgt := 85) hx hb dX2_expectSubjects_47 (by decide) ?_
            exact B85 _ _ _ ls v0 v1 v2 1 hu hp hP hD hS m_v0 k_v0 (by (try simp only [i_lt, i_le, i_eq, Int32.toInt_toInt64, Int32.reduceToInt, Int64.reduceToInt, true_and, and_true, false_and, and_false, false_or, or_false, true_or, or_true, not_true_eq_false, not_false_eq_true, ne_eq, forall_const, true_implies, false_implies, implies_true] at g_v2 hn4 c10 hru12 c13 hru15 c16 ⊢) <;> omega) (by (try simp only [i_lt, i_le, i_eq, Int32.toInt_toInt64, Int32.reduceToInt, Int64.reduceToInt, true_and, and_true, false_and, and_false, false_or, or_false, true_or, or_true, not_true_eq_false, not_false_eq_true, ne_eq, forall_const, true_implies, false_implies, implies_true] at g_v2 hn4 c10 hru12 c13 hru15 c16 ⊢) <;> omega) (by (try simp only [i_lt, i_le, i_eq, Int32.toInt_toInt64, Int32.reduceToInt, Int64.reduceToInt, true_and, and_true, false_and, and_false, false_or, or_false, true_or, or_true, not_true_eq_false, not_false_eq_true, ne_eq, forall_const, true_implies, false_implies, implies_true] at g_v2 hn4 c10 hru12 c13 hru15 c16 ⊢) <;> omega) (lv_sub hl [0, 1, 2] rfl)
        · refine lv_iconst (v := 0) hx hb dX2_expectSubjects_29 (by decide) ?_
          refine lv_goto (tgt := 85) hx hb dX2_expectSubjects_30 (by decide) ?_
          exact B85 _ _ _ ls v0 v1 v2 0 hu hp hP hD hS m_v0 k_v0 (by (try simp only [i_lt, i_le, i_eq, Int32.toInt_toInt64, Int32.reduceToInt, Int64.reduceToInt, true_and, and_true, false_and, and_false, false_or, or_false, true_or, or_true, not_true_eq_false, not_false_eq_true, ne_eq, forall_const, true_implies, false_implies, implies_true] at g_v2 hn4 c10 hru12 c13 ⊢) <;> omega) (by (try simp only [i_lt, i_le, i_eq, Int32.toInt_toInt64, Int32.reduceToInt, Int64.reduceToInt, true_and, and_true, false_and, and_false, false_or, or_false, true_or, or_true, not_true_eq_false, not_false_eq_true, ne_eq, forall_const, true_implies, false_implies, implies_true] at g_v2 hn4 c10 hru12 c13 ⊢) <;> omega) (by (try simp only [i_lt, i_le, i_eq, Int32.toInt_toInt64, Int32.reduceToInt, Int64.reduceToInt, true_and, and_true, false_and, and_false, false_or, or_false, true_or, or_true, not_true_eq_false, not_false_eq_true, ne_eq, forall_const, true_implies, false_implies, implies_true] at g_v2 hn4 c10 hru12 c13 ⊢) <;> omega) (lv_sub hl [0, 1, 2] rfl)
  have hl := lv_entry ([.ref h0]) (n := 4) (Nat.le_of_ble_eq_true rfl)
  rw [lg_entry_eq]
  generalize (lg_sl ([.ref h0]) ++ List.replicate (4 - (lg_sl ([.ref h0])).length) Slot.unset).toArray = ls at hl ⊢
  have hl : lv_has ls 4 [(0, .ref h0)] := hl
  refine lv_iconst (v := 0) hx hb dX2_expectSubjects_0 (by decide) ?_
  refine lv_istore_n (lv' := [(1, .int 0), (0, .ref h0)]) hx hb dX2_expectSubjects_1 rfl hl (by decide) rfl (fun ls hl => ?_)
  refine lv_iconst (v := 0) hx hb dX2_expectSubjects_2 (by decide) ?_
  refine lv_istore_n (lv' := [(2, .int 0), (1, .int 0), (0, .ref h0)]) hx hb dX2_expectSubjects_3 rfl hl (by decide) rfl (fun ls hl => ?_)
  exact B4 _ _ _ _ ls h0 0 0 hu hp hP hD hS (Nat.le_refl _) m_h0 k_h0 (by (try simp only [i_lt, i_le, i_eq, Int32.toInt_toInt64, Int32.reduceToInt, Int64.reduceToInt, true_and, and_true, false_and, and_false, false_or, or_false, true_or, or_true, not_true_eq_false, not_false_eq_true, ne_eq, forall_const, true_implies, false_implies, implies_true]) <;> omega) (lv_sub hl [2, 1, 0] rfl)
set_option maxHeartbeats 4000000 in
set_option maxRecDepth 100000 in
theorem t_X2_readPot (l : Launch) (D : va_G) (k : Nat → ClassId) (tt : TT) (u0 : PSt) (hu : WT u0) (h0 : Nat) (m_h0 : h0 ∈ u0.1) (k_h0 : u0.2.1 h0 = 2) (sz : Nat) : Met l yX2_readPot wsX2_readPot ({ frames := 7, cells := 0, slots := 0, locals := 149 }) (PreT D k tt sz (PW k u0) [.ref h0]) (va_Qv (fun v => WT v ∧ PX u0 v ∧ True) (WB D (va_A (PW k u0) sz) (PW k)) (va_A (PW k u0) sz)) 0 0 (va_A (PW k u0) sz) := by
  refine Met.ofW (cc := cX2_readPot) (maxL := 3) (ret := none) (by decide) rfl ?_
  intro p e s m args below meth c s₁ B hml hv
  obtain ⟨rfl, hsz, hP, hK, hD0, hN, hE0⟩ := hv
  have hx := B.exec
  have hb := B.bytes
  have hr := B.returns
  have hts := atoms_spec (ws := wsX2_readPot) B.pre
  have hown : s.vm.findClass RX2 = some m.cls := findClass_of_methodNamed B.named
  have hlocks := B.notSynchronized
  have i_X2 : ∀ w ∈ wsX20, w ∈ wsX2_readPot := by decide +kernel
  subst hsz
  have hD := hD0.self (sz := s.heap.size)
  have hE := hE0
  generalize hAe : va_A (PW k u0) s.heap.size = A at hD hE ⊢
  have hA : ∀ q : Nat, s.heap.size ≤ q → A q := fun q h => by rw [← hAe]; exact Or.inr h
  have hS : va_S A s.heap s.heap [] := va_S.rf
  have hp : PX u0 u0 := PX.rf
  have hl := lv_entry ([.ref h0]) (n := 3) (Nat.le_of_ble_eq_true rfl)
  rw [lg_entry_eq]
  generalize (lg_sl ([.ref h0]) ++ List.replicate (3 - (lg_sl ([.ref h0])).length) Slot.unset).toArray = ls at hl ⊢
  have hl : lv_has ls 3 [(0, .ref h0)] := hl
  refine lv_aload_n hx hb dX2_readPot_0 rfl (lv_at hl 0 rfl) ?_
  refine pget (ci := 2) (v := va_rf (u0.2.2.2.2 h0 0)) (C := RX2) (T := TX2) (N := 2) hx hb hts i_X2 hown hK hP m_h0 (cF2 k_h0) rfl 0 (by decide) (hts (.fieldLink RX2 18 "BellowsRow$Parser" "tape" "LBellowsRow$Tape;") (by decide +kernel)) (fun _ h9 => h9) rfl dX2_readPot_1 ?_
  obtain ⟨y1, qy1, m_y1, k_y1⟩ := (hu h0 m_h0).1 0 9 (by rw [k_h0]; rfl)
  refine W.eq (g2 := F0 m 4 ls [.ref y1]) (by rw [qy1]; rfl) ?_
  refine va_ldcS (own := RX2) (tx := "step") (q := tt.1 9) hx hb hown (hE.2.1 (RX2, 139, "step", 9) (by decide +kernel)) dX2_readPot_4 ?_
  refine xvV (C := RX9) (As := [.ref (tt.1 9)]) (rest := []) ⟨hx, hb, hml, hown, hts⟩ (fun sz => t_X9_expect l D k tt u0 hu y1 m_y1 k_y1 9 (by decide) sz) (cwV 1 hts gX2_readPot_X9_expect rfl rfl rfl (by decide +kernel) ⟨Nat.le_of_ble_eq_true rfl, Nat.le_of_ble_eq_true rfl⟩) hP hK hD hN hE hS hA (precv hK hP m_y1 (cF9 k_y1) rfl) rfl hl.1 rfl (Nat.le_of_ble_eq_true rfl) dX2_readPot_6 ⟨Nat.le_of_ble_eq_true rfl, Nat.le_of_ble_eq_true rfl⟩ (fun u2 H locs hq hP hD hS => ?_)
  obtain ⟨hu, hxu2, hru2⟩ := hq
  have k_h0 : u2.2.1 h0 = 2 := (hxu2 h0 m_h0).2.1.trans k_h0
  have m_h0 : h0 ∈ u2.1 := (hxu2 h0 m_h0).1
  have hp := PX.trans hp hxu2
  refine lv_aload_n hx hb dX2_readPot_9 rfl (lv_at hl 0 rfl) ?_
  refine pget (ci := 2) (v := va_rf (u2.2.2.2.2 h0 0)) (C := RX2) (T := TX2) (N := 2) hx hb hts i_X2 hown hK hP m_h0 (cF2 k_h0) rfl 0 (by decide) (hts (.fieldLink RX2 18 "BellowsRow$Parser" "tape" "LBellowsRow$Tape;") (by decide +kernel)) (fun _ h9 => h9) rfl dX2_readPot_10 ?_
  obtain ⟨y3, qy3, m_y3, k_y3⟩ := (hu h0 m_h0).1 0 9 (by rw [k_h0]; rfl)
  refine W.eq (g2 := F0 m 13 ls [.ref y3]) (by rw [qy3]; rfl) ?_
  refine lv_iconst (v := 0) hx hb dX2_readPot_13 (by decide) ?_
  refine lv_bipush (v := 99) hx hb dX2_readPot_14 (by decide) ?_
  refine wiV (C := RX9) (As := [.int 0, .int 99]) (rest := []) ⟨hx, hb, hml, hown, hts⟩ (fun sz => t_X9_expectNumber l D k u2 hu y3 m_y3 k_y3 0 99 sz) (cwV 2 hts gX2_readPot_X9_expectNumber rfl rfl rfl (by decide +kernel) ⟨Nat.le_of_ble_eq_true rfl, Nat.le_of_ble_eq_true rfl⟩) hP hK hD hN hS hA (precv hK hP m_y3 (cF9 k_y3) rfl) rfl hl.1 rfl (Nat.le_of_ble_eq_true rfl) dX2_readPot_16 ⟨Nat.le_of_ble_eq_true rfl, Nat.le_of_ble_eq_true rfl⟩ (fun ru4 u4 H locs hq hP hD hS => ?_)
  obtain ⟨hu, hxu4, hru4⟩ := hq
  have k_h0 : u4.2.1 h0 = 2 := (hxu4 h0 m_h0).2.1.trans k_h0
  have m_h0 : h0 ∈ u4.1 := (hxu4 h0 m_h0).1
  have hp := PX.trans hp hxu4
  refine lv_istore_n (lv' := [(1, .int ru4), (0, .ref h0)]) hx hb dX2_readPot_19 rfl hl (by decide) rfl (fun ls hl => ?_)
  refine lv_aload_n hx hb dX2_readPot_20 rfl (lv_at hl 1 rfl) ?_
  refine pget (ci := 2) (v := va_rf (u4.2.2.2.2 h0 0)) (C := RX2) (T := TX2) (N := 2) hx hb hts i_X2 hown hK hP m_h0 (cF2 k_h0) rfl 0 (by decide) (hts (.fieldLink RX2 18 "BellowsRow$Parser" "tape" "LBellowsRow$Tape;") (by decide +kernel)) (fun _ h9 => h9) rfl dX2_readPot_21 ?_
  obtain ⟨y5, qy5, m_y5, k_y5⟩ := (hu h0 m_h0).1 0 9 (by rw [k_h0]; rfl)
  refine W.eq (g2 := F0 m 24 ls [.ref y5]) (by rw [qy5]; rfl) ?_
  refine va_ldcS (own := RX2) (tx := "holds") (q := tt.1 10) hx hb hown (hE.2.1 (RX2, 148, "holds", 10) (by decide +kernel)) dX2_readPot_24 ?_
  refine xvV (C := RX9) (As := [.ref (tt.1 10)]) (rest := []) ⟨hx, hb, hml, hown, hts⟩ (fun sz => t_X9_expect l D k tt u4 hu y5 m_y5 k_y5 10 (by decide) sz) (cwV 1 hts gX2_readPot_X9_expect rfl rfl rfl (by decide +kernel) ⟨Nat.le_of_ble_eq_true rfl, Nat.le_of_ble_eq_true rfl⟩) hP hK hD hN hE hS hA (precv hK hP m_y5 (cF9 k_y5) rfl) rfl hl.1 rfl (Nat.le_of_ble_eq_true rfl) dX2_readPot_26 ⟨Nat.le_of_ble_eq_true rfl, Nat.le_of_ble_eq_true rfl⟩ (fun u6 H locs hq hP hD hS => ?_)
  obtain ⟨hu, hxu6, hru6⟩ := hq
  have k_h0 : u6.2.1 h0 = 2 := (hxu6 h0 m_h0).2.1.trans k_h0
  have m_h0 : h0 ∈ u6.1 := (hxu6 h0 m_h0).1
  have hp := PX.trans hp hxu6
  refine lv_aload_n hx hb dX2_readPot_29 rfl (lv_at hl 1 rfl) ?_
  refine pget (ci := 2) (v := va_rf (u6.2.2.2.2 h0 0)) (C := RX2) (T := TX2) (N := 2) hx hb hts i_X2 hown hK hP m_h0 (cF2 k_h0) rfl 0 (by decide) (hts (.fieldLink RX2 18 "BellowsRow$Parser" "tape" "LBellowsRow$Tape;") (by decide +kernel)) (fun _ h9 => h9) rfl dX2_readPot_30 ?_
  obtain ⟨y7, qy7, m_y7, k_y7⟩ := (hu h0 m_h0).1 0 9 (by rw [k_h0]; rfl)
  refine W.eq (g2 := F0 m 33 ls [.ref y7]) (by rw [qy7]; rfl) ?_
  refine lv_iconst (v := 0) hx hb dX2_readPot_33 (by decide) ?_
  refine lv_sipush (v := 999) hx hb dX2_readPot_34 (by decide) ?_
  refine wiV (C := RX9) (As := [.int 0, .int 999]) (rest := []) ⟨hx, hb, hml, hown, hts⟩ (fun sz => t_X9_expectNumber l D k u6 hu y7 m_y7 k_y7 0 999 sz) (cwV 2 hts gX2_readPot_X9_expectNumber rfl rfl rfl (by decide +kernel) ⟨Nat.le_of_ble_eq_true rfl, Nat.le_of_ble_eq_true rfl⟩) hP hK hD hN hS hA (precv hK hP m_y7 (cF9 k_y7) rfl) rfl hl.1 rfl (Nat.le_of_ble_eq_true rfl) dX2_readPot_37 ⟨Nat.le_of_ble_eq_true rfl, Nat.le_of_ble_eq_true rfl⟩ (fun ru8 u8 H locs hq hP hD hS => ?_)
  obtain ⟨hu, hxu8, hru8⟩ := hq
  have k_h0 : u8.2.1 h0 = 2 := (hxu8 h0 m_h0).2.1.trans k_h0
  have m_h0 : h0 ∈ u8.1 := (hxu8 h0 m_h0).1
  have hp := PX.trans hp hxu8
  refine lv_istore_n (lv' := [(2, .int ru8), (1, .int ru4), (0, .ref h0)]) hx hb dX2_readPot_40 rfl hl (by decide) rfl (fun ls hl => ?_)
  refine lv_aload_n hx hb dX2_readPot_41 rfl (lv_at hl 2 rfl) ?_
  refine pget (ci := 2) (v := va_rf (u8.2.2.2.2 h0 1)) (C := RX2) (T := TX2) (N := 2) hx hb hts i_X2 hown hK hP m_h0 (cF2 k_h0) rfl 1 (by decide) (hts (.fieldLink RX2 12 "BellowsRow$Parser" "works" "LBellowsRow$Works;") (by decide +kernel)) (fun _ h9 => h9) rfl dX2_readPot_42 ?_
  obtain ⟨y9, qy9, m_y9, k_y9⟩ := (hu h0 m_h0).1 1 10 (by rw [k_h0]; rfl)
  refine W.eq (g2 := F0 m 45 ls [.ref y9]) (by rw [qy9]; rfl) ?_
  refine lv_iload_n hx hb dX2_readPot_45 rfl (lv_at hl 1 rfl) ?_
  refine lv_iload_n hx hb dX2_readPot_46 rfl (lv_at hl 0 rfl) ?_
  refine wvV (C := RX10) (As := [.int ru4, .int ru8]) (rest := []) ⟨hx, hb, hml, hown, hts⟩ (fun sz => t_X10_addPot l D k u8 hu y9 m_y9 k_y9 ru4 ru8 sz) (cwV 2 hts gX2_readPot_X10_addPot rfl rfl rfl (by decide +kernel) ⟨Nat.le_of_ble_eq_true rfl, Nat.le_of_ble_eq_true rfl⟩) hP hK hD hN hS hA (precv hK hP m_y9 (cF10 k_y9) rfl) rfl hl.1 rfl (Nat.le_of_ble_eq_true rfl) dX2_readPot_47 ⟨Nat.le_of_ble_eq_true rfl, Nat.le_of_ble_eq_true rfl⟩ (fun u10 H locs hq hP hD hS => ?_)
  obtain ⟨hu, hxu10, hru10⟩ := hq
  have k_h0 : u10.2.1 h0 = 2 := (hxu10 h0 m_h0).2.1.trans k_h0
  have m_h0 : h0 ∈ u10.1 := (hxu10 h0 m_h0).1
  have hp := PX.trans hp hxu10
  exact W.vret hx hb hr (fun t ht hW => ⟨⟨u10, rfl, ⟨hu, hp, trivial⟩, by rw [ht]; exact hP, hD⟩, hS.F ht⟩) hS.2.2 dX2_readPot_50
set_option maxHeartbeats 4000000 in
set_option maxRecDepth 100000 in
theorem t_X2_readMoves (l : Launch) (D : va_G) (k : Nat → ClassId) (tt : TT) (u0 : PSt) (hu : WT u0) (h0 : Nat) (m_h0 : h0 ∈ u0.1) (k_h0 : u0.2.1 h0 = 2) (p1 : Nat) (m_p1 : p1 ∈ u0.1) (k_p1 : u0.2.1 p1 = 3) (sz : Nat) : Met l yX2_readMoves wsX2_readMoves ({ frames := 5, cells := 0, slots := 0, locals := 107 }) (PreT D k tt sz (PW k u0) [.ref h0, .ref p1]) (va_Qv (fun v => WT v ∧ PX u0 v ∧ True) (WB D (va_A (PW k u0) sz) (PW k)) (va_A (PW k u0) sz)) 0 0 (va_A (PW k u0) sz) := by
  refine Met.ofW (cc := cX2_readMoves) (maxL := 4) (ret := none) (by decide) rfl ?_
  intro p e s m args below meth c s₁ B hml hv
  obtain ⟨rfl, hsz, hP, hK, hD0, hN, hE0⟩ := hv
  have hx := B.exec
  have hb := B.bytes
  have hr := B.returns
  have hts := atoms_spec (ws := wsX2_readMoves) B.pre
  have hown : s.vm.findClass RX2 = some m.cls := findClass_of_methodNamed B.named
  have hlocks := B.notSynchronized
  have i_X2 : ∀ w ∈ wsX20, w ∈ wsX2_readMoves := by decide +kernel
  have i_X3 : ∀ w ∈ wsX30, w ∈ wsX2_readMoves := by decide +kernel
  subst hsz
  have hD := hD0.self (sz := s.heap.size)
  have hE := hE0
  generalize hAe : va_A (PW k u0) s.heap.size = A at hD hE ⊢
  have hA : ∀ q : Nat, s.heap.size ≤ q → A q := fun q h => by rw [← hAe]; exact Or.inr h
  have hS : va_S A s.heap s.heap [] := va_S.rf
  have hp : PX u0 u0 := PX.rf
  have B125 : ∀ (u : PSt) (H : Heap) (locs : List Loc) (ls : Array Slot), WT u → PX u0 u → va_P D vwCl (PW k u) H → va_D A (PW k u) → va_S A s.heap H locs → lv_has ls 4 [] → W p l e (headSpec wsX2_readMoves ({ frames := 5, cells := 0, slots := 0, locals := 107 })).room s m ([.ref h0, .ref p1] : List Value).toArray below meth c H locs 0 0 (MQ below (va_Qv (fun v => WT v ∧ PX u0 v ∧ True) (WB D A (PW k)) A) ([.ref h0, .ref p1] : List Value).toArray s 0 0 A) (F0 m 125 ls []) := by
    intro u H locs ls  hu hp hP hD hS  hl
    exact W.vret hx hb hr (fun t ht hW => ⟨⟨u, rfl, ⟨hu, hp, trivial⟩, by rw [ht]; exact hP, hD⟩, hS.F ht⟩) hS.2.2 dX2_readMoves_125
  have B2 : ∀ (n2 : Nat) (u : PSt) (H : Heap) (locs : List Loc) (ls : Array Slot) (v0 : Nat) (v1 : Nat) (v2 : Int32), WT u → PX u0 u → va_P D vwCl (PW k u) H → va_D A (PW k u) → va_S A s.heap H locs → (2147483648 - v2.toInt).toNat ≤ n2 → v0 ∈ u.1 → u.2.1 v0 = 2 → v1 ∈ u.1 → u.2.1 v1 = 3 → 0 ≤ v2.toInt ∧ v2.toInt ≤ 8 → lv_has ls 4 [(0, .ref v0), (1, .ref v1), (2, .int v2)] → W p l e (headSpec wsX2_readMoves ({ frames := 5, cells := 0, slots := 0, locals := 107 })).room s m ([.ref h0, .ref p1] : List Value).toArray below meth c H locs 0 0 (MQ below (va_Qv (fun v => WT v ∧ PX u0 v ∧ True) (WB D A (PW k)) A) ([.ref h0, .ref p1] : List Value).toArray s 0 0 A) (F0 m 2 ls []) := by
    intro n2
    induction n2 with
    | zero =>
      intro u H locs ls v0 v1 v2 hu hp hP hD hS hn2 m_v0 k_v0 m_v1 k_v1 g_v2 hl
      exact absurd hn2 (by have := Int32.toInt_lt v2; have := Int32.le_toInt v2; omega)
    | succ n2 ih2 =>
      intro u H locs ls v0 v1 v2 hu hp hP hD hS hn2 m_v0 k_v0 m_v1 k_v1 g_v2 hl
      have B57 : ∀ (u : PSt) (H : Heap) (locs : List Loc) (ls : Array Slot) (v0 : Nat) (v1 : Nat) (v2 : Int32) (sk0 : Int32), WT u → PX u0 u → va_P D vwCl (PW k u) H → va_D A (PW k u) → va_S A s.heap H locs → v0 ∈ u.1 → u.2.1 v0 = 2 → v1 ∈ u.1 → u.2.1 v1 = 3 → 0 ≤ v2.toInt ∧ v2.toInt ≤ 8 → -1 ≤ sk0.toInt ∧ sk0.toInt ≤ 2 → (2147483648 - v2.toInt).toNat ≤ n2 + 1 → lv_has ls 4 [(0, .ref v0), (1, .ref v1), (2, .int v2)] → W p l e (headSpec wsX2_readMoves ({ frames := 5, cells := 0, slots := 0, locals := 107 })).room s m ([.ref h0, .ref p1] : List Value).toArray below meth c H locs 0 0 (MQ below (va_Qv (fun v => WT v ∧ PX u0 v ∧ True) (WB D A (PW k)) A) ([.ref h0, .ref p1] : List Value).toArray s 0 0 A) (F0 m 57 ls [.int sk0]) := by
        intro u H locs ls v0 v1 v2 sk0 hu hp hP hD hS m_v0 k_v0 m_v1 k_v1 g_v2 g_sk0 hn2 hl
        refine lv_istore_n (lv' := [(3, .int sk0), (0, .ref v0), (1, .ref v1), (2, .int v2)]) hx hb dX2_readMoves_57 rfl hl (by decide) rfl (fun ls hl => ?_)
        refine lv_iload_n hx hb dX2_readMoves_58 rfl (lv_at hl 0 rfl) ?_
        refine lv_iconst (v := (-1)) hx hb dX2_readMoves_59 (by decide) ?_
        refine lv_icmp_ne (tgt := 66) hx hb dX2_readMoves_60 (by decide) (fun c1 => ?_) (fun c1 => ?_)
        · refine lv_iload_n hx hb dX2_readMoves_66 rfl (lv_at hl 3 rfl) ?_
          refine lv_bipush (v := 8) hx hb dX2_readMoves_67 (by decide) ?_
          refine lv_icmp_ne (tgt := 81) hx hb dX2_readMoves_69 (by decide) (fun c2 => ?_) (fun c2 => ?_)
          · refine lv_aload_n hx hb dX2_readMoves_81 rfl (lv_at hl 1 rfl) ?_
            refine pget (ci := 2) (v := va_rf (u.2.2.2.2 v0 0)) (C := RX2) (T := TX2) (N := 2) hx hb hts i_X2 hown hK hP m_v0 (cF2 k_v0) rfl 0 (by decide) (hts (.fieldLink RX2 18 "BellowsRow$Parser" "tape" "LBellowsRow$Tape;") (by decide +kernel)) (fun _ h9 => h9) rfl dX2_readMoves_82 ?_
            obtain ⟨y3, qy3, m_y3, k_y3⟩ := (hu v0 m_v0).1 0 9 (by rw [k_v0]; rfl)
            refine W.eq (g2 := F0 m 85 ls [.ref y3]) (by rw [qy3]; rfl) ?_
            refine wvV (C := RX9) (As := []) (rest := []) ⟨hx, hb, hml, hown, hts⟩ (fun sz => t_X9_step l D k u hu y3 m_y3 k_y3  sz) (cwV 0 hts gX2_readMoves_X9_step rfl rfl rfl (by decide +kernel) ⟨Nat.le_of_ble_eq_true rfl, Nat.le_of_ble_eq_true rfl⟩) hP hK hD hN hS hA (precv hK hP m_y3 (cF9 k_y3) rfl) rfl hl.1 rfl (Nat.le_of_ble_eq_true rfl) dX2_readMoves_85 ⟨Nat.le_of_ble_eq_true rfl, Nat.le_of_ble_eq_true rfl⟩ (fun u4 H locs hq hP hD hS => ?_)
            obtain ⟨hu, hxu4, hru4⟩ := hq
            have k_v0 : u4.2.1 v0 = 2 := (hxu4 v0 m_v0).2.1.trans k_v0
            have m_v0 : v0 ∈ u4.1 := (hxu4 v0 m_v0).1
            have k_v1 : u4.2.1 v1 = 3 := (hxu4 v1 m_v1).2.1.trans k_v1
            have m_v1 : v1 ∈ u4.1 := (hxu4 v1 m_v1).1
            have hp := PX.trans hp hxu4
            refine lv_aload_n hx hb dX2_readMoves_88 rfl (lv_at hl 2 rfl) ?_
            refine lv_iload_n hx hb dX2_readMoves_89 rfl (lv_at hl 0 rfl) ?_
            refine lv_aload_n hx hb dX2_readMoves_90 rfl (lv_at hl 1 rfl) ?_
            refine pget (ci := 2) (v := va_rf (u4.2.2.2.2 v0 0)) (C := RX2) (T := TX2) (N := 2) hx hb hts i_X2 hown hK hP m_v0 (cF2 k_v0) rfl 0 (by decide) (hts (.fieldLink RX2 18 "BellowsRow$Parser" "tape" "LBellowsRow$Tape;") (by decide +kernel)) (fun _ h9 => h9) rfl dX2_readMoves_91 ?_
            obtain ⟨y5, qy5, m_y5, k_y5⟩ := (hu v0 m_v0).1 0 9 (by rw [k_v0]; rfl)
            refine W.eq (g2 := F0 m 94 ls [.ref y5, .int sk0, .ref v1]) (by rw [qy5]; rfl) ?_
            refine lv_iconst (v := 1) hx hb dX2_readMoves_94 (by decide) ?_
            refine lv_sipush (v := 900) hx hb dX2_readMoves_95 (by decide) ?_
            refine wiV (C := RX9) (As := [.int 1, .int 900]) (rest := [.int sk0, .ref v1]) ⟨hx, hb, hml, hown, hts⟩ (fun sz => t_X9_expectNumber l D k u4 hu y5 m_y5 k_y5 1 900 sz) (cwV 2 hts gX2_readMoves_X9_expectNumber rfl rfl rfl (by decide +kernel) ⟨Nat.le_of_ble_eq_true rfl, Nat.le_of_ble_eq_true rfl⟩) hP hK hD hN hS hA (precv hK hP m_y5 (cF9 k_y5) rfl) rfl hl.1 rfl (Nat.le_of_ble_eq_true rfl) dX2_readMoves_98 ⟨Nat.le_of_ble_eq_true rfl, Nat.le_of_ble_eq_true rfl⟩ (fun ru6 u6 H locs hq hP hD hS => ?_)
            obtain ⟨hu, hxu6, hru6⟩ := hq
            have k_v0 : u6.2.1 v0 = 2 := (hxu6 v0 m_v0).2.1.trans k_v0
            have m_v0 : v0 ∈ u6.1 := (hxu6 v0 m_v0).1
            have k_v1 : u6.2.1 v1 = 3 := (hxu6 v1 m_v1).2.1.trans k_v1
            have m_v1 : v1 ∈ u6.1 := (hxu6 v1 m_v1).1
            have hp := PX.trans hp hxu6
            refine wvV (C := RX3) (As := [.int sk0, .int ru6]) (rest := []) ⟨hx, hb, hml, hown, hts⟩ (fun sz => t_X3_add l D k u6 hu v1 m_v1 k_v1 sk0 ru6 sz) (cwV 2 hts gX2_readMoves_X3_add rfl rfl rfl (by decide +kernel) ⟨Nat.le_of_ble_eq_true rfl, Nat.le_of_ble_eq_true rfl⟩) hP hK hD hN hS hA (precv hK hP m_v1 (cF3 k_v1) rfl) rfl hl.1 rfl (Nat.le_of_ble_eq_true rfl) dX2_readMoves_101 ⟨Nat.le_of_ble_eq_true rfl, Nat.le_of_ble_eq_true rfl⟩ (fun u7 H locs hq hP hD hS => ?_)
            obtain ⟨hu, hxu7, hru7⟩ := hq
            have k_v0 : u7.2.1 v0 = 2 := (hxu7 v0 m_v0).2.1.trans k_v0
            have m_v0 : v0 ∈ u7.1 := (hxu7 v0 m_v0).1
            have k_v1 : u7.2.1 v1 = 3 := (hxu7 v1 m_v1).2.1.trans k_v1
            have m_v1 : v1 ∈ u7.1 := (hxu7 v1 m_v1).1
            have hp := PX.trans hp hxu7
            obtain ⟨x8, ex8⟩ : ∃ y : Int32, y = v2 + 1 := ⟨_, rfl⟩
            have tx8 : x8.toInt = v2.toInt + 1 := by rw [ex8]; exact i_add (b := 1) (by (try simp only [i_lt, i_le, i_eq, Int32.toInt_toInt64, Int32.reduceToInt, Int64.reduceToInt, true_and, and_true, false_and, and_false, false_or, or_false, true_or, or_true, not_true_eq_false, not_false_eq_true, ne_eq, forall_const, true_implies, false_implies, implies_true] at g_v2 g_sk0 hn2 c1 c2 ⊢) <;> omega) (by (try simp only [i_lt, i_le, i_eq, Int32.toInt_toInt64, Int32.reduceToInt, Int64.reduceToInt, true_and, and_true, false_and, and_false, false_or, or_false, true_or, or_true, not_true_eq_false, not_false_eq_true, ne_eq, forall_const, true_implies, false_implies, implies_true] at g_v2 g_sk0 hn2 c1 c2 ⊢) <;> omega)
            refine lv_iinc (v := x8) (lv' := [(2, .int x8), (3, .int sk0), (0, .ref v0), (1, .ref v1)]) hx hb dX2_readMoves_104 hl (k := 3) rfl (by rw [ex8]; rfl) (by decide) rfl (fun ls hl => ?_)
            refine lv_goto (tgt := 2) hx hb dX2_readMoves_107 (by decide) ?_
            exact ih2 _ _ _ ls v0 v1 x8 hu hp hP hD hS (by (try simp only [i_lt, i_le, i_eq, Int32.toInt_toInt64, Int32.reduceToInt, Int64.reduceToInt, true_and, and_true, false_and, and_false, false_or, or_false, true_or, or_true, not_true_eq_false, not_false_eq_true, ne_eq, forall_const, true_implies, false_implies, implies_true] at g_v2 g_sk0 hn2 c1 c2 tx8 ⊢) <;> omega) m_v0 k_v0 m_v1 k_v1 (by (try simp only [i_lt, i_le, i_eq, Int32.toInt_toInt64, Int32.reduceToInt, Int64.reduceToInt, true_and, and_true, false_and, and_false, false_or, or_false, true_or, or_true, not_true_eq_false, not_false_eq_true, ne_eq, forall_const, true_implies, false_implies, implies_true] at g_v2 g_sk0 hn2 c1 c2 tx8 ⊢) <;> omega) (lv_sub hl [2, 3, 0] rfl)
          · refine lv_aload_n hx hb dX2_readMoves_72 rfl (lv_at hl 1 rfl) ?_
            refine pget (ci := 2) (v := va_rf (u.2.2.2.2 v0 0)) (C := RX2) (T := TX2) (N := 2) hx hb hts i_X2 hown hK hP m_v0 (cF2 k_v0) rfl 0 (by decide) (hts (.fieldLink RX2 18 "BellowsRow$Parser" "tape" "LBellowsRow$Tape;") (by decide +kernel)) (fun _ h9 => h9) rfl dX2_readMoves_73 ?_
            obtain ⟨y9, qy9, m_y9, k_y9⟩ := (hu v0 m_v0).1 0 9 (by rw [k_v0]; rfl)
            refine W.eq (g2 := F0 m 76 ls [.ref y9]) (by rw [qy9]; rfl) ?_
            refine lv_iconst (v := 3) hx hb dX2_readMoves_76 (by decide) ?_
            refine wvV (C := RX9) (As := [.int 3]) (rest := []) ⟨hx, hb, hml, hown, hts⟩ (fun sz => t_X9_fail l D k u hu y9 m_y9 k_y9 3 sz) (cwV 1 hts gX2_readMoves_X9_fail rfl rfl rfl (by decide +kernel) ⟨Nat.le_of_ble_eq_true rfl, Nat.le_of_ble_eq_true rfl⟩) hP hK hD hN hS hA (precv hK hP m_y9 (cF9 k_y9) rfl) rfl hl.1 rfl (Nat.le_of_ble_eq_true rfl) dX2_readMoves_77 ⟨Nat.le_of_ble_eq_true rfl, Nat.le_of_ble_eq_true rfl⟩ (fun u10 H locs hq hP hD hS => ?_)
            obtain ⟨hu, hxu10, hru10⟩ := hq
            have k_v0 : u10.2.1 v0 = 2 := (hxu10 v0 m_v0).2.1.trans k_v0
            have m_v0 : v0 ∈ u10.1 := (hxu10 v0 m_v0).1
            have k_v1 : u10.2.1 v1 = 3 := (hxu10 v1 m_v1).2.1.trans k_v1
            have m_v1 : v1 ∈ u10.1 := (hxu10 v1 m_v1).1
            have hp := PX.trans hp hxu10
            exact W.vret hx hb hr (fun t ht hW => ⟨⟨u10, rfl, ⟨hu, hp, trivial⟩, by rw [ht]; exact hP, hD⟩, hS.F ht⟩) hS.2.2 dX2_readMoves_80
        · refine lv_goto (tgt := 110) hx hb dX2_readMoves_63 (by decide) ?_
          refine lv_aload_n hx hb dX2_readMoves_110 rfl (lv_at hl 2 rfl) ?_
          refine pget (ci := 3) (v := .int (u.2.2.1 v1 0)) (C := RX3) (T := TX3) (N := 11) hx hb hts i_X3 hown hK hP m_v1 (cF3 k_v1) rfl 0 (by decide) (hts (.fieldLink RX2 200 "BellowsRow$Path" "moves" "I") (by decide +kernel)) (fun _ h9 => h9) rfl dX2_readMoves_111 ?_
          refine lv_if_ne (tgt := 125) hx hb dX2_readMoves_114 (by decide) (fun c11 => ?_) (fun c11 => ?_)
          · exact B125 _ _ _ ls hu hp hP hD hS (lv_sub hl [] rfl)
          · refine lv_aload_n hx hb dX2_readMoves_117 rfl (lv_at hl 1 rfl) ?_
            refine pget (ci := 2) (v := va_rf (u.2.2.2.2 v0 0)) (C := RX2) (T := TX2) (N := 2) hx hb hts i_X2 hown hK hP m_v0 (cF2 k_v0) rfl 0 (by decide) (hts (.fieldLink RX2 18 "BellowsRow$Parser" "tape" "LBellowsRow$Tape;") (by decide +kernel)) (fun _ h9 => h9) rfl dX2_readMoves_118 ?_
            obtain ⟨y12, qy12, m_y12, k_y12⟩ := (hu v0 m_v0).1 0 9 (by rw [k_v0]; rfl)
            refine W.eq (g2 := F0 m 121 ls [.ref y12]) (by rw [qy12]; rfl) ?_
            refine lv_iconst (v := 1) hx hb dX2_readMoves_121 (by decide) ?_
            refine wvV (C := RX9) (As := [.int 1]) (rest := []) ⟨hx, hb, hml, hown, hts⟩ (fun sz => t_X9_fail l D k u hu y12 m_y12 k_y12 1 sz) (cwV 1 hts gX2_readMoves_X9_fail rfl rfl rfl (by decide +kernel) ⟨Nat.le_of_ble_eq_true rfl, Nat.le_of_ble_eq_true rfl⟩) hP hK hD hN hS hA (precv hK hP m_y12 (cF9 k_y12) rfl) rfl hl.1 rfl (Nat.le_of_ble_eq_true rfl) dX2_readMoves_122 ⟨Nat.le_of_ble_eq_true rfl, Nat.le_of_ble_eq_true rfl⟩ (fun u13 H locs hq hP hD hS => ?_)
            obtain ⟨hu, hxu13, hru13⟩ := hq
            have k_v0 : u13.2.1 v0 = 2 := (hxu13 v0 m_v0).2.1.trans k_v0
            have m_v0 : v0 ∈ u13.1 := (hxu13 v0 m_v0).1
            have k_v1 : u13.2.1 v1 = 3 := (hxu13 v1 m_v1).2.1.trans k_v1
            have m_v1 : v1 ∈ u13.1 := (hxu13 v1 m_v1).1
            have hp := PX.trans hp hxu13
            exact B125 _ _ _ ls hu hp hP hD hS (lv_sub hl [] rfl)
      refine lv_iload_n hx hb dX2_readMoves_2 rfl (lv_at hl 2 rfl) ?_
      refine lv_bipush (v := 8) hx hb dX2_readMoves_3 (by decide) ?_
      refine lv_icmp_gt (tgt := 110) hx hb dX2_readMoves_5 (by decide) (fun h => absurd h (by (try simp only [i_lt, i_le, i_eq, Int32.toInt_toInt64, Int32.reduceToInt, Int64.reduceToInt, true_and, and_true, false_and, and_false, false_or, or_false, true_or, or_true, not_true_eq_false, not_false_eq_true, ne_eq, forall_const, true_implies, false_implies, implies_true] at g_v2 hn2 ⊢) <;> omega)) (fun _ => ?_)
      refine lv_aload_n hx hb dX2_readMoves_8 rfl (lv_at hl 0 rfl) ?_
      refine pget (ci := 2) (v := va_rf (u.2.2.2.2 v0 0)) (C := RX2) (T := TX2) (N := 2) hx hb hts i_X2 hown hK hP m_v0 (cF2 k_v0) rfl 0 (by decide) (hts (.fieldLink RX2 18 "BellowsRow$Parser" "tape" "LBellowsRow$Tape;") (by decide +kernel)) (fun _ h9 => h9) rfl dX2_readMoves_9 ?_
      obtain ⟨y14, qy14, m_y14, k_y14⟩ := (hu v0 m_v0).1 0 9 (by rw [k_v0]; rfl)
      refine W.eq (g2 := F0 m 12 ls [.ref y14]) (by rw [qy14]; rfl) ?_
      refine va_ldcS (own := RX2) (tx := "right") (q := tt.1 18) hx hb hown (hE.2.1 (RX2, 191, "right", 18) (by decide +kernel)) dX2_readMoves_12 ?_
      refine xiV (C := RX9) (As := [.ref (tt.1 18)]) (rest := []) ⟨hx, hb, hml, hown, hts⟩ (fun sz => t_X9_isAt l D k tt u hu y14 m_y14 k_y14 18 (by decide) sz) (cwV 1 hts gX2_readMoves_X9_isAt rfl rfl rfl (by decide +kernel) ⟨Nat.le_of_ble_eq_true rfl, Nat.le_of_ble_eq_true rfl⟩) hP hK hD hN hE hS hA (precv hK hP m_y14 (cF9 k_y14) rfl) rfl hl.1 rfl (Nat.le_of_ble_eq_true rfl) dX2_readMoves_14 ⟨Nat.le_of_ble_eq_true rfl, Nat.le_of_ble_eq_true rfl⟩ (fun ru15 u15 H locs hq hP hD hS => ?_)
      obtain ⟨hu, hxu15, hru15⟩ := hq
      have k_v0 : u15.2.1 v0 = 2 := (hxu15 v0 m_v0).2.1.trans k_v0
      have m_v0 : v0 ∈ u15.1 := (hxu15 v0 m_v0).1
      have k_v1 : u15.2.1 v1 = 3 := (hxu15 v1 m_v1).2.1.trans k_v1
      have m_v1 : v1 ∈ u15.1 := (hxu15 v1 m_v1).1
      have hp := PX.trans hp hxu15
      refine lv_if_eq (tgt := 24) hx hb dX2_readMoves_17 (by decide) (fun c16 => ?_) (fun c16 => ?_)
      · refine lv_aload_n hx hb dX2_readMoves_24 rfl (lv_at hl 0 rfl) ?_
        refine pget (ci := 2) (v := va_rf (u15.2.2.2.2 v0 0)) (C := RX2) (T := TX2) (N := 2) hx hb hts i_X2 hown hK hP m_v0 (cF2 k_v0) rfl 0 (by decide) (hts (.fieldLink RX2 18 "BellowsRow$Parser" "tape" "LBellowsRow$Tape;") (by decide +kernel)) (fun _ h9 => h9) rfl dX2_readMoves_25 ?_
        obtain ⟨y17, qy17, m_y17, k_y17⟩ := (hu v0 m_v0).1 0 9 (by rw [k_v0]; rfl)
        refine W.eq (g2 := F0 m 28 ls [.ref y17]) (by rw [qy17]; rfl) ?_
        refine va_ldcS (own := RX2) (tx := "up") (q := tt.1 19) hx hb hown (hE.2.1 (RX2, 193, "up", 19) (by decide +kernel)) dX2_readMoves_28 ?_
        refine xiV (C := RX9) (As := [.ref (tt.1 19)]) (rest := []) ⟨hx, hb, hml, hown, hts⟩ (fun sz => t_X9_isAt l D k tt u15 hu y17 m_y17 k_y17 19 (by decide) sz) (cwV 1 hts gX2_readMoves_X9_isAt rfl rfl rfl (by decide +kernel) ⟨Nat.le_of_ble_eq_true rfl, Nat.le_of_ble_eq_true rfl⟩) hP hK hD hN hE hS hA (precv hK hP m_y17 (cF9 k_y17) rfl) rfl hl.1 rfl (Nat.le_of_ble_eq_true rfl) dX2_readMoves_30 ⟨Nat.le_of_ble_eq_true rfl, Nat.le_of_ble_eq_true rfl⟩ (fun ru18 u18 H locs hq hP hD hS => ?_)
        obtain ⟨hu, hxu18, hru18⟩ := hq
        have k_v0 : u18.2.1 v0 = 2 := (hxu18 v0 m_v0).2.1.trans k_v0
        have m_v0 : v0 ∈ u18.1 := (hxu18 v0 m_v0).1
        have k_v1 : u18.2.1 v1 = 3 := (hxu18 v1 m_v1).2.1.trans k_v1
        have m_v1 : v1 ∈ u18.1 := (hxu18 v1 m_v1).1
        have hp := PX.trans hp hxu18
        refine lv_if_eq (tgt := 40) hx hb dX2_readMoves_33 (by decide) (fun c19 => ?_) (fun c19 => ?_)
        · refine lv_aload_n hx hb dX2_readMoves_40 rfl (lv_at hl 0 rfl) ?_
          refine pget (ci := 2) (v := va_rf (u18.2.2.2.2 v0 0)) (C := RX2) (T := TX2) (N := 2) hx hb hts i_X2 hown hK hP m_v0 (cF2 k_v0) rfl 0 (by decide) (hts (.fieldLink RX2 18 "BellowsRow$Parser" "tape" "LBellowsRow$Tape;") (by decide +kernel)) (fun _ h9 => h9) rfl dX2_readMoves_41 ?_
          obtain ⟨y20, qy20, m_y20, k_y20⟩ := (hu v0 m_v0).1 0 9 (by rw [k_v0]; rfl)
          refine W.eq (g2 := F0 m 44 ls [.ref y20]) (by rw [qy20]; rfl) ?_
          refine va_ldcS (own := RX2) (tx := "down") (q := tt.1 20) hx hb hown (hE.2.1 (RX2, 195, "down", 20) (by decide +kernel)) dX2_readMoves_44 ?_
          refine xiV (C := RX9) (As := [.ref (tt.1 20)]) (rest := []) ⟨hx, hb, hml, hown, hts⟩ (fun sz => t_X9_isAt l D k tt u18 hu y20 m_y20 k_y20 20 (by decide) sz) (cwV 1 hts gX2_readMoves_X9_isAt rfl rfl rfl (by decide +kernel) ⟨Nat.le_of_ble_eq_true rfl, Nat.le_of_ble_eq_true rfl⟩) hP hK hD hN hE hS hA (precv hK hP m_y20 (cF9 k_y20) rfl) rfl hl.1 rfl (Nat.le_of_ble_eq_true rfl) dX2_readMoves_46 ⟨Nat.le_of_ble_eq_true rfl, Nat.le_of_ble_eq_true rfl⟩ (fun ru21 u21 H locs hq hP hD hS => ?_)
          obtain ⟨hu, hxu21, hru21⟩ := hq
          have k_v0 : u21.2.1 v0 = 2 := (hxu21 v0 m_v0).2.1.trans k_v0
          have m_v0 : v0 ∈ u21.1 := (hxu21 v0 m_v0).1
          have k_v1 : u21.2.1 v1 = 3 := (hxu21 v1 m_v1).2.1.trans k_v1
          have m_v1 : v1 ∈ u21.1 := (hxu21 v1 m_v1).1
          have hp := PX.trans hp hxu21
          refine lv_if_eq (tgt := 56) hx hb dX2_readMoves_49 (by decide) (fun c22 => ?_) (fun c22 => ?_)
          · refine lv_iconst (v := (-1)) hx hb dX2_readMoves_56 (by decide) ?_
            exact B57 _ _ _ ls v0 v1 v2 (-1) hu hp hP hD hS m_v0 k_v0 m_v1 k_v1 (by (try simp only [i_lt, i_le, i_eq, Int32.toInt_toInt64, Int32.reduceToInt, Int64.reduceToInt, true_and, and_true, false_and, and_false, false_or, or_false, true_or, or_true, not_true_eq_false, not_false_eq_true, ne_eq, forall_const, true_implies, false_implies, implies_true] at g_v2 hn2 hru15 c16 hru18 c19 hru21 c22 ⊢) <;> omega) (by (try simp only [i_lt, i_le, i_eq, Int32.toInt_toInt64, Int32.reduceToInt, Int64.reduceToInt, true_and, and_true, false_and, and_false, false_or, or_false, true_or, or_true, not_true_eq_false, not_false_eq_true, ne_eq, forall_const, true_implies, false_implies, implies_true] at g_v2 hn2 hru15 c16 hru18 c19 hru21 c22 ⊢) <;> omega) (by (try simp only [i_lt, i_le, i_eq, Int32.toInt_toInt64, Int32.reduceToInt, Int64.reduceToInt, true_and, and_true, false_and, and_false, false_or, or_false, true_or, or_true, not_true_eq_false, not_false_eq_true, ne_eq, forall_const, true_implies, false_implies, implies_true] at g_v2 hn2 hru15 c16 hru18 c19 hru21 c22 ⊢) <;> omega) (lv_sub hl [0, 1, 2] rfl)
          · refine lv_iconst (v := 2) hx hb dX2_readMoves_52 (by decide) ?_
            refine lv_goto (tgt := 57) hx hb dX2_readMoves_53 (by decide) ?_
            exact B57 _ _ _ ls v0 v1 v2 2 hu hp hP hD hS m_v0 k_v0 m_v1 k_v1 (by (try simp only [i_lt, i_le, i_eq, Int32.toInt_toInt64, Int32.reduceToInt, Int64.reduceToInt, true_and, and_true, false_and, and_false, false_or, or_false, true_or, or_true, not_true_eq_false, not_false_eq_true, ne_eq, forall_const, true_implies, false_implies, implies_true] at g_v2 hn2 hru15 c16 hru18 c19 hru21 c22 ⊢) <;> omega) (by (try simp only [i_lt, i_le, i_eq, Int32.toInt_toInt64, Int32.reduceToInt, Int64.reduceToInt, true_and, and_true, false_and, and_false, false_or, or_false, true_or, or_true, not_true_eq_false, not_false_eq_true, ne_eq, forall_const, true_implies, false_implies, implies_true] at g_v2 hn2 hru15 c16 hru18 c19 hru21 c22 ⊢) <;> omega) (by (try simp only [i_lt, i_le, i_eq, Int32.toInt_toInt64, Int32.reduceToInt, Int64.reduceToInt, true_and, and_true, false_and, and_false, false_or, or_false, true_or, or_true, not_true_eq_false, not_false_eq_true, ne_eq, forall_const, true_implies, false_implies, implies_true] at g_v2 hn2 hru15 c16 hru18 c19 hru21 c22 ⊢) <;> omega) (lv_sub hl [0, 1, 2] rfl)
        · refine lv_iconst (v := 1) hx hb dX2_readMoves_36 (by decide) ?_
          refine lv_goto (tgt := 57) hx hb dX2_readMoves_37 (by decide) ?_
          exact B57 _ _ _ ls v0 v1 v2 1 hu hp hP hD hS m_v0 k_v0 m_v1 k_v1 (by (try simp only [i_lt, i_le, i_eq, Int32.toInt_toInt64, Int32.reduceToInt, Int64.reduceToInt, true_and, and_true, false_and, and_false, false_or, or_false, true_or, or_true, not_true_eq_false, not_false_eq_true, ne_eq, forall_const, true_implies, false_implies, implies_true] at g_v2 hn2 hru15 c16 hru18 c19 ⊢) <;> omega) (by (try simp only [i_lt, i_le, i_eq, Int32.toInt_toInt64, Int32.reduceToInt, Int64.reduceToInt, true_and, and_true, false_and, and_false, false_or, or_false, true_or, or_true, not_true_eq_false, not_false_eq_true, ne_eq, forall_const, true_implies, false_implies, implies_true] at g_v2 hn2 hru15 c16 hru18 c19 ⊢) <;> omega) (by (try simp only [i_lt, i_le, i_eq, Int32.toInt_toInt64, Int32.reduceToInt, Int64.reduceToInt, true_and, and_true, false_and, and_false, false_or, or_false, true_or, or_true, not_true_eq_false, not_false_eq_true, ne_eq, forall_const, true_implies, false_implies, implies_true] at g_v2 hn2 hru15 c16 hru18 c19 ⊢) <;> omega) (lv_sub hl [0, 1, 2] rfl)
      · refine lv_iconst (v := 0) hx hb dX2_readMoves_20 (by decide) ?_
        refine lv_goto (tgt := 57) hx hb dX2_readMoves_21 (by decide) ?_
        exact B57 _ _ _ ls v0 v1 v2 0 hu hp hP hD hS m_v0 k_v0 m_v1 k_v1 (by (try simp only [i_lt, i_le, i_eq, Int32.toInt_toInt64, Int32.reduceToInt, Int64.reduceToInt, true_and, and_true, false_and, and_false, false_or, or_false, true_or, or_true, not_true_eq_false, not_false_eq_true, ne_eq, forall_const, true_implies, false_implies, implies_true] at g_v2 hn2 hru15 c16 ⊢) <;> omega) (by (try simp only [i_lt, i_le, i_eq, Int32.toInt_toInt64, Int32.reduceToInt, Int64.reduceToInt, true_and, and_true, false_and, and_false, false_or, or_false, true_or, or_true, not_true_eq_false, not_false_eq_true, ne_eq, forall_const, true_implies, false_implies, implies_true] at g_v2 hn2 hru15 c16 ⊢) <;> omega) (by (try simp only [i_lt, i_le, i_eq, Int32.toInt_toInt64, Int32.reduceToInt, Int64.reduceToInt, true_and, and_true, false_and, and_false, false_or, or_false, true_or, or_true, not_true_eq_false, not_false_eq_true, ne_eq, forall_const, true_implies, false_implies, implies_true] at g_v2 hn2 hru15 c16 ⊢) <;> omega) (lv_sub hl [0, 1, 2] rfl)
  have hl := lv_entry ([.ref h0, .ref p1]) (n := 4) (Nat.le_of_ble_eq_true rfl)
  rw [lg_entry_eq]
  generalize (lg_sl ([.ref h0, .ref p1]) ++ List.replicate (4 - (lg_sl ([.ref h0, .ref p1])).length) Slot.unset).toArray = ls at hl ⊢
  have hl : lv_has ls 4 [(0, .ref h0), (1, .ref p1)] := hl
  refine lv_iconst (v := 0) hx hb dX2_readMoves_0 (by decide) ?_
  refine lv_istore_n (lv' := [(2, .int 0), (0, .ref h0), (1, .ref p1)]) hx hb dX2_readMoves_1 rfl hl (by decide) rfl (fun ls hl => ?_)
  exact B2 _ _ _ _ ls h0 p1 0 hu hp hP hD hS (Nat.le_refl _) m_h0 k_h0 m_p1 k_p1 (by (try simp only [i_lt, i_le, i_eq, Int32.toInt_toInt64, Int32.reduceToInt, Int64.reduceToInt, true_and, and_true, false_and, and_false, false_or, or_false, true_or, or_true, not_true_eq_false, not_false_eq_true, ne_eq, forall_const, true_implies, false_implies, implies_true]) <;> omega) (lv_sub hl [1, 2, 0] rfl)
set_option maxHeartbeats 4000000 in
set_option maxRecDepth 100000 in
theorem t_X2_readRun (l : Launch) (D : va_G) (k : Nat → ClassId) (tt : TT) (u0 : PSt) (hu : WT u0) (h0 : Nat) (m_h0 : h0 ∈ u0.1) (k_h0 : u0.2.1 h0 = 2) (sz : Nat) : Met l yX2_readRun wsX2_readRun ({ frames := 7, cells := 0, slots := 0, locals := 149 }) (PreT D k tt sz (PW k u0) [.ref h0]) (va_Qv (fun v => WT v ∧ PX u0 v ∧ True) (WB D (va_A (PW k u0) sz) (PW k)) (va_A (PW k u0) sz)) 0 0 (va_A (PW k u0) sz) := by
  refine Met.ofW (cc := cX2_readRun) (maxL := 3) (ret := none) (by decide) rfl ?_
  intro p e s m args below meth c s₁ B hml hv
  obtain ⟨rfl, hsz, hP, hK, hD0, hN, hE0⟩ := hv
  have hx := B.exec
  have hb := B.bytes
  have hr := B.returns
  have hts := atoms_spec (ws := wsX2_readRun) B.pre
  have hown : s.vm.findClass RX2 = some m.cls := findClass_of_methodNamed B.named
  have hlocks := B.notSynchronized
  have i_X10 : ∀ w ∈ wsX100, w ∈ wsX2_readRun := by decide +kernel
  have i_X2 : ∀ w ∈ wsX20, w ∈ wsX2_readRun := by decide +kernel
  subst hsz
  have hD := hD0.self (sz := s.heap.size)
  have hE := hE0
  generalize hAe : va_A (PW k u0) s.heap.size = A at hD hE ⊢
  have hA : ∀ q : Nat, s.heap.size ≤ q → A q := fun q h => by rw [← hAe]; exact Or.inr h
  have hS : va_S A s.heap s.heap [] := va_S.rf
  have hp : PX u0 u0 := PX.rf
  have hl := lv_entry ([.ref h0]) (n := 3) (Nat.le_of_ble_eq_true rfl)
  rw [lg_entry_eq]
  generalize (lg_sl ([.ref h0]) ++ List.replicate (3 - (lg_sl ([.ref h0])).length) Slot.unset).toArray = ls at hl ⊢
  have hl : lv_has ls 3 [(0, .ref h0)] := hl
  refine lv_aload_n hx hb dX2_readRun_0 rfl (lv_at hl 0 rfl) ?_
  refine wiV (C := RX2) (As := []) (rest := []) ⟨hx, hb, hml, hown, hts⟩ (fun sz => t_X2_expectHours l D k u0 hu h0 m_h0 k_h0  sz) (cwV 0 hts gX2_readRun_X2_expectHours rfl rfl rfl (by decide +kernel) ⟨Nat.le_of_ble_eq_true rfl, Nat.le_of_ble_eq_true rfl⟩) hP hK hD hN hS hA (precv hK hP m_h0 (cF2 k_h0) rfl) rfl hl.1 rfl (Nat.le_of_ble_eq_true rfl) dX2_readRun_1 ⟨Nat.le_of_ble_eq_true rfl, Nat.le_of_ble_eq_true rfl⟩ (fun ru1 u1 H locs hq hP hD hS => ?_)
  obtain ⟨hu, hxu1, hru1⟩ := hq
  have k_h0 : u1.2.1 h0 = 2 := (hxu1 h0 m_h0).2.1.trans k_h0
  have m_h0 : h0 ∈ u1.1 := (hxu1 h0 m_h0).1
  have hp := PX.trans hp hxu1
  refine lv_istore_n (lv' := [(1, .int ru1), (0, .ref h0)]) hx hb dX2_readRun_4 rfl hl (by decide) rfl (fun ls hl => ?_)
  refine lv_aload_n hx hb dX2_readRun_5 rfl (lv_at hl 1 rfl) ?_
  refine pget (ci := 2) (v := va_rf (u1.2.2.2.2 h0 0)) (C := RX2) (T := TX2) (N := 2) hx hb hts i_X2 hown hK hP m_h0 (cF2 k_h0) rfl 0 (by decide) (hts (.fieldLink RX2 18 "BellowsRow$Parser" "tape" "LBellowsRow$Tape;") (by decide +kernel)) (fun _ h9 => h9) rfl dX2_readRun_6 ?_
  obtain ⟨y2, qy2, m_y2, k_y2⟩ := (hu h0 m_h0).1 0 9 (by rw [k_h0]; rfl)
  refine W.eq (g2 := F0 m 9 ls [.ref y2]) (by rw [qy2]; rfl) ?_
  refine va_ldcS (own := RX2) (tx := "at") (q := tt.1 21) hx hb hown (hE.2.1 (RX2, 220, "at", 21) (by decide +kernel)) dX2_readRun_9 ?_
  refine xvV (C := RX9) (As := [.ref (tt.1 21)]) (rest := []) ⟨hx, hb, hml, hown, hts⟩ (fun sz => t_X9_expect l D k tt u1 hu y2 m_y2 k_y2 21 (by decide) sz) (cwV 1 hts gX2_readRun_X9_expect rfl rfl rfl (by decide +kernel) ⟨Nat.le_of_ble_eq_true rfl, Nat.le_of_ble_eq_true rfl⟩) hP hK hD hN hE hS hA (precv hK hP m_y2 (cF9 k_y2) rfl) rfl hl.1 rfl (Nat.le_of_ble_eq_true rfl) dX2_readRun_11 ⟨Nat.le_of_ble_eq_true rfl, Nat.le_of_ble_eq_true rfl⟩ (fun u3 H locs hq hP hD hS => ?_)
  obtain ⟨hu, hxu3, hru3⟩ := hq
  have k_h0 : u3.2.1 h0 = 2 := (hxu3 h0 m_h0).2.1.trans k_h0
  have m_h0 : h0 ∈ u3.1 := (hxu3 h0 m_h0).1
  have hp := PX.trans hp hxu3
  refine lv_aload_n hx hb dX2_readRun_14 rfl (lv_at hl 1 rfl) ?_
  refine pget (ci := 2) (v := va_rf (u3.2.2.2.2 h0 0)) (C := RX2) (T := TX2) (N := 2) hx hb hts i_X2 hown hK hP m_h0 (cF2 k_h0) rfl 0 (by decide) (hts (.fieldLink RX2 18 "BellowsRow$Parser" "tape" "LBellowsRow$Tape;") (by decide +kernel)) (fun _ h9 => h9) rfl dX2_readRun_15 ?_
  obtain ⟨y4, qy4, m_y4, k_y4⟩ := (hu h0 m_h0).1 0 9 (by rw [k_h0]; rfl)
  refine W.eq (g2 := F0 m 18 ls [.ref y4]) (by rw [qy4]; rfl) ?_
  refine lv_iconst (v := 0) hx hb dX2_readRun_18 (by decide) ?_
  refine lv_sipush (v := 999) hx hb dX2_readRun_19 (by decide) ?_
  refine wiV (C := RX9) (As := [.int 0, .int 999]) (rest := []) ⟨hx, hb, hml, hown, hts⟩ (fun sz => t_X9_expectNumber l D k u3 hu y4 m_y4 k_y4 0 999 sz) (cwV 2 hts gX2_readRun_X9_expectNumber rfl rfl rfl (by decide +kernel) ⟨Nat.le_of_ble_eq_true rfl, Nat.le_of_ble_eq_true rfl⟩) hP hK hD hN hS hA (precv hK hP m_y4 (cF9 k_y4) rfl) rfl hl.1 rfl (Nat.le_of_ble_eq_true rfl) dX2_readRun_22 ⟨Nat.le_of_ble_eq_true rfl, Nat.le_of_ble_eq_true rfl⟩ (fun ru5 u5 H locs hq hP hD hS => ?_)
  obtain ⟨hu, hxu5, hru5⟩ := hq
  have k_h0 : u5.2.1 h0 = 2 := (hxu5 h0 m_h0).2.1.trans k_h0
  have m_h0 : h0 ∈ u5.1 := (hxu5 h0 m_h0).1
  have hp := PX.trans hp hxu5
  refine lv_istore_n (lv' := [(2, .int ru5), (1, .int ru1), (0, .ref h0)]) hx hb dX2_readRun_25 rfl hl (by decide) rfl (fun ls hl => ?_)
  refine lv_aload_n hx hb dX2_readRun_26 rfl (lv_at hl 2 rfl) ?_
  refine pget (ci := 2) (v := va_rf (u5.2.2.2.2 h0 1)) (C := RX2) (T := TX2) (N := 2) hx hb hts i_X2 hown hK hP m_h0 (cF2 k_h0) rfl 1 (by decide) (hts (.fieldLink RX2 12 "BellowsRow$Parser" "works" "LBellowsRow$Works;") (by decide +kernel)) (fun _ h9 => h9) rfl dX2_readRun_27 ?_
  obtain ⟨y6, qy6, m_y6, k_y6⟩ := (hu h0 m_h0).1 1 10 (by rw [k_h0]; rfl)
  refine W.eq (g2 := F0 m 30 ls [.ref y6]) (by rw [qy6]; rfl) ?_
  refine pget (ci := 10) (v := va_rf (u5.2.2.2.2 y6 0)) (C := RX10) (T := TX10) (N := 12) hx hb hts i_X10 hown hK hP m_y6 (cF10 k_y6) rfl 0 (by decide) (hts (.fieldLink RX2 205 "BellowsRow$Works" "hours" "LBellowsRow$Hours;") (by decide +kernel)) (fun _ h9 => h9) rfl dX2_readRun_30 ?_
  obtain ⟨y7, qy7, m_y7, k_y7⟩ := (hu y6 m_y6).1 0 1 (by rw [k_y6]; rfl)
  refine W.eq (g2 := F0 m 33 ls [.ref y7]) (by rw [qy7]; rfl) ?_
  refine lv_iload_n hx hb dX2_readRun_33 rfl (lv_at hl 1 rfl) ?_
  refine lv_iload_n hx hb dX2_readRun_34 rfl (lv_at hl 0 rfl) ?_
  refine lv_iload_n hx hb dX2_readRun_35 rfl (lv_at hl 0 rfl) ?_
  refine wvV (C := RX1) (As := [.int ru1, .int ru5, .int ru5]) (rest := []) ⟨hx, hb, hml, hown, hts⟩ (fun sz => t_X1_add l D k u5 hu y7 m_y7 k_y7 ru1 ru5 ru5 sz) (cwV 3 hts gX2_readRun_X1_add rfl rfl rfl (by decide +kernel) ⟨Nat.le_of_ble_eq_true rfl, Nat.le_of_ble_eq_true rfl⟩) hP hK hD hN hS hA (precv hK hP m_y7 (cF1 k_y7) rfl) rfl hl.1 rfl (Nat.le_of_ble_eq_true rfl) dX2_readRun_36 ⟨Nat.le_of_ble_eq_true rfl, Nat.le_of_ble_eq_true rfl⟩ (fun u8 H locs hq hP hD hS => ?_)
  obtain ⟨hu, hxu8, hru8⟩ := hq
  have k_h0 : u8.2.1 h0 = 2 := (hxu8 h0 m_h0).2.1.trans k_h0
  have m_h0 : h0 ∈ u8.1 := (hxu8 h0 m_h0).1
  have hp := PX.trans hp hxu8
  exact W.vret hx hb hr (fun t ht hW => ⟨⟨u8, rfl, ⟨hu, hp, trivial⟩, by rw [ht]; exact hP, hD⟩, hS.F ht⟩) hS.2.2 dX2_readRun_39
set_option maxHeartbeats 4000000 in
set_option maxRecDepth 100000 in
theorem t_X2_readSwing (l : Launch) (D : va_G) (k : Nat → ClassId) (tt : TT) (u0 : PSt) (hu : WT u0) (h0 : Nat) (m_h0 : h0 ∈ u0.1) (k_h0 : u0.2.1 h0 = 2) (sz : Nat) : Met l yX2_readSwing wsX2_readSwing ({ frames := 7, cells := 0, slots := 0, locals := 149 }) (PreT D k tt sz (PW k u0) [.ref h0]) (va_Qv (fun v => WT v ∧ PX u0 v ∧ True) (WB D (va_A (PW k u0) sz) (PW k)) (va_A (PW k u0) sz)) 0 0 (va_A (PW k u0) sz) := by
  refine Met.ofW (cc := cX2_readSwing) (maxL := 3) (ret := none) (by decide) rfl ?_
  intro p e s m args below meth c s₁ B hml hv
  obtain ⟨rfl, hsz, hP, hK, hD0, hN, hE0⟩ := hv
  have hx := B.exec
  have hb := B.bytes
  have hr := B.returns
  have hts := atoms_spec (ws := wsX2_readSwing) B.pre
  have hown : s.vm.findClass RX2 = some m.cls := findClass_of_methodNamed B.named
  have hlocks := B.notSynchronized
  have i_X10 : ∀ w ∈ wsX100, w ∈ wsX2_readSwing := by decide +kernel
  have i_X2 : ∀ w ∈ wsX20, w ∈ wsX2_readSwing := by decide +kernel
  subst hsz
  have hD := hD0.self (sz := s.heap.size)
  have hE := hE0
  generalize hAe : va_A (PW k u0) s.heap.size = A at hD hE ⊢
  have hA : ∀ q : Nat, s.heap.size ≤ q → A q := fun q h => by rw [← hAe]; exact Or.inr h
  have hS : va_S A s.heap s.heap [] := va_S.rf
  have hp : PX u0 u0 := PX.rf
  have hl := lv_entry ([.ref h0]) (n := 3) (Nat.le_of_ble_eq_true rfl)
  rw [lg_entry_eq]
  generalize (lg_sl ([.ref h0]) ++ List.replicate (3 - (lg_sl ([.ref h0])).length) Slot.unset).toArray = ls at hl ⊢
  have hl : lv_has ls 3 [(0, .ref h0)] := hl
  refine lv_aload_n hx hb dX2_readSwing_0 rfl (lv_at hl 0 rfl) ?_
  refine pget (ci := 2) (v := va_rf (u0.2.2.2.2 h0 0)) (C := RX2) (T := TX2) (N := 2) hx hb hts i_X2 hown hK hP m_h0 (cF2 k_h0) rfl 0 (by decide) (hts (.fieldLink RX2 18 "BellowsRow$Parser" "tape" "LBellowsRow$Tape;") (by decide +kernel)) (fun _ h9 => h9) rfl dX2_readSwing_1 ?_
  obtain ⟨y1, qy1, m_y1, k_y1⟩ := (hu h0 m_h0).1 0 9 (by rw [k_h0]; rfl)
  refine W.eq (g2 := F0 m 4 ls [.ref y1]) (by rw [qy1]; rfl) ?_
  refine lv_iconst (v := 0) hx hb dX2_readSwing_4 (by decide) ?_
  refine lv_sipush (v := 999) hx hb dX2_readSwing_5 (by decide) ?_
  refine wiV (C := RX9) (As := [.int 0, .int 999]) (rest := []) ⟨hx, hb, hml, hown, hts⟩ (fun sz => t_X9_expectNumber l D k u0 hu y1 m_y1 k_y1 0 999 sz) (cwV 2 hts gX2_readSwing_X9_expectNumber rfl rfl rfl (by decide +kernel) ⟨Nat.le_of_ble_eq_true rfl, Nat.le_of_ble_eq_true rfl⟩) hP hK hD hN hS hA (precv hK hP m_y1 (cF9 k_y1) rfl) rfl hl.1 rfl (Nat.le_of_ble_eq_true rfl) dX2_readSwing_8 ⟨Nat.le_of_ble_eq_true rfl, Nat.le_of_ble_eq_true rfl⟩ (fun ru2 u2 H locs hq hP hD hS => ?_)
  obtain ⟨hu, hxu2, hru2⟩ := hq
  have k_h0 : u2.2.1 h0 = 2 := (hxu2 h0 m_h0).2.1.trans k_h0
  have m_h0 : h0 ∈ u2.1 := (hxu2 h0 m_h0).1
  have hp := PX.trans hp hxu2
  refine lv_istore_n (lv' := [(1, .int ru2), (0, .ref h0)]) hx hb dX2_readSwing_11 rfl hl (by decide) rfl (fun ls hl => ?_)
  refine lv_aload_n hx hb dX2_readSwing_12 rfl (lv_at hl 1 rfl) ?_
  refine pget (ci := 2) (v := va_rf (u2.2.2.2.2 h0 0)) (C := RX2) (T := TX2) (N := 2) hx hb hts i_X2 hown hK hP m_h0 (cF2 k_h0) rfl 0 (by decide) (hts (.fieldLink RX2 18 "BellowsRow$Parser" "tape" "LBellowsRow$Tape;") (by decide +kernel)) (fun _ h9 => h9) rfl dX2_readSwing_13 ?_
  obtain ⟨y3, qy3, m_y3, k_y3⟩ := (hu h0 m_h0).1 0 9 (by rw [k_h0]; rfl)
  refine W.eq (g2 := F0 m 16 ls [.ref y3]) (by rw [qy3]; rfl) ?_
  refine va_ldcS (own := RX2) (tx := "and") (q := tt.1 22) hx hb hown (hE.2.1 (RX2, 225, "and", 22) (by decide +kernel)) dX2_readSwing_16 ?_
  refine xvV (C := RX9) (As := [.ref (tt.1 22)]) (rest := []) ⟨hx, hb, hml, hown, hts⟩ (fun sz => t_X9_expect l D k tt u2 hu y3 m_y3 k_y3 22 (by decide) sz) (cwV 1 hts gX2_readSwing_X9_expect rfl rfl rfl (by decide +kernel) ⟨Nat.le_of_ble_eq_true rfl, Nat.le_of_ble_eq_true rfl⟩) hP hK hD hN hE hS hA (precv hK hP m_y3 (cF9 k_y3) rfl) rfl hl.1 rfl (Nat.le_of_ble_eq_true rfl) dX2_readSwing_18 ⟨Nat.le_of_ble_eq_true rfl, Nat.le_of_ble_eq_true rfl⟩ (fun u4 H locs hq hP hD hS => ?_)
  obtain ⟨hu, hxu4, hru4⟩ := hq
  have k_h0 : u4.2.1 h0 = 2 := (hxu4 h0 m_h0).2.1.trans k_h0
  have m_h0 : h0 ∈ u4.1 := (hxu4 h0 m_h0).1
  have hp := PX.trans hp hxu4
  refine lv_aload_n hx hb dX2_readSwing_21 rfl (lv_at hl 1 rfl) ?_
  refine pget (ci := 2) (v := va_rf (u4.2.2.2.2 h0 0)) (C := RX2) (T := TX2) (N := 2) hx hb hts i_X2 hown hK hP m_h0 (cF2 k_h0) rfl 0 (by decide) (hts (.fieldLink RX2 18 "BellowsRow$Parser" "tape" "LBellowsRow$Tape;") (by decide +kernel)) (fun _ h9 => h9) rfl dX2_readSwing_22 ?_
  obtain ⟨y5, qy5, m_y5, k_y5⟩ := (hu h0 m_h0).1 0 9 (by rw [k_h0]; rfl)
  refine W.eq (g2 := F0 m 25 ls [.ref y5]) (by rw [qy5]; rfl) ?_
  refine lv_iconst (v := 0) hx hb dX2_readSwing_25 (by decide) ?_
  refine lv_sipush (v := 999) hx hb dX2_readSwing_26 (by decide) ?_
  refine wiV (C := RX9) (As := [.int 0, .int 999]) (rest := []) ⟨hx, hb, hml, hown, hts⟩ (fun sz => t_X9_expectNumber l D k u4 hu y5 m_y5 k_y5 0 999 sz) (cwV 2 hts gX2_readSwing_X9_expectNumber rfl rfl rfl (by decide +kernel) ⟨Nat.le_of_ble_eq_true rfl, Nat.le_of_ble_eq_true rfl⟩) hP hK hD hN hS hA (precv hK hP m_y5 (cF9 k_y5) rfl) rfl hl.1 rfl (Nat.le_of_ble_eq_true rfl) dX2_readSwing_29 ⟨Nat.le_of_ble_eq_true rfl, Nat.le_of_ble_eq_true rfl⟩ (fun ru6 u6 H locs hq hP hD hS => ?_)
  obtain ⟨hu, hxu6, hru6⟩ := hq
  have k_h0 : u6.2.1 h0 = 2 := (hxu6 h0 m_h0).2.1.trans k_h0
  have m_h0 : h0 ∈ u6.1 := (hxu6 h0 m_h0).1
  have hp := PX.trans hp hxu6
  refine lv_istore_n (lv' := [(2, .int ru6), (1, .int ru2), (0, .ref h0)]) hx hb dX2_readSwing_32 rfl hl (by decide) rfl (fun ls hl => ?_)
  refine lv_aload_n hx hb dX2_readSwing_33 rfl (lv_at hl 2 rfl) ?_
  refine pget (ci := 2) (v := va_rf (u6.2.2.2.2 h0 0)) (C := RX2) (T := TX2) (N := 2) hx hb hts i_X2 hown hK hP m_h0 (cF2 k_h0) rfl 0 (by decide) (hts (.fieldLink RX2 18 "BellowsRow$Parser" "tape" "LBellowsRow$Tape;") (by decide +kernel)) (fun _ h9 => h9) rfl dX2_readSwing_34 ?_
  obtain ⟨y7, qy7, m_y7, k_y7⟩ := (hu h0 m_h0).1 0 9 (by rw [k_h0]; rfl)
  refine W.eq (g2 := F0 m 37 ls [.ref y7]) (by rw [qy7]; rfl) ?_
  refine va_ldcS (own := RX2) (tx := "for") (q := tt.1 23) hx hb hown (hE.2.1 (RX2, 227, "for", 23) (by decide +kernel)) dX2_readSwing_37 ?_
  refine xvV (C := RX9) (As := [.ref (tt.1 23)]) (rest := []) ⟨hx, hb, hml, hown, hts⟩ (fun sz => t_X9_expect l D k tt u6 hu y7 m_y7 k_y7 23 (by decide) sz) (cwV 1 hts gX2_readSwing_X9_expect rfl rfl rfl (by decide +kernel) ⟨Nat.le_of_ble_eq_true rfl, Nat.le_of_ble_eq_true rfl⟩) hP hK hD hN hE hS hA (precv hK hP m_y7 (cF9 k_y7) rfl) rfl hl.1 rfl (Nat.le_of_ble_eq_true rfl) dX2_readSwing_39 ⟨Nat.le_of_ble_eq_true rfl, Nat.le_of_ble_eq_true rfl⟩ (fun u8 H locs hq hP hD hS => ?_)
  obtain ⟨hu, hxu8, hru8⟩ := hq
  have k_h0 : u8.2.1 h0 = 2 := (hxu8 h0 m_h0).2.1.trans k_h0
  have m_h0 : h0 ∈ u8.1 := (hxu8 h0 m_h0).1
  have hp := PX.trans hp hxu8
  refine lv_aload_n hx hb dX2_readSwing_42 rfl (lv_at hl 2 rfl) ?_
  refine pget (ci := 2) (v := va_rf (u8.2.2.2.2 h0 1)) (C := RX2) (T := TX2) (N := 2) hx hb hts i_X2 hown hK hP m_h0 (cF2 k_h0) rfl 1 (by decide) (hts (.fieldLink RX2 12 "BellowsRow$Parser" "works" "LBellowsRow$Works;") (by decide +kernel)) (fun _ h9 => h9) rfl dX2_readSwing_43 ?_
  obtain ⟨y9, qy9, m_y9, k_y9⟩ := (hu h0 m_h0).1 1 10 (by rw [k_h0]; rfl)
  refine W.eq (g2 := F0 m 46 ls [.ref y9]) (by rw [qy9]; rfl) ?_
  refine pget (ci := 10) (v := va_rf (u8.2.2.2.2 y9 0)) (C := RX10) (T := TX10) (N := 12) hx hb hts i_X10 hown hK hP m_y9 (cF10 k_y9) rfl 0 (by decide) (hts (.fieldLink RX2 205 "BellowsRow$Works" "hours" "LBellowsRow$Hours;") (by decide +kernel)) (fun _ h9 => h9) rfl dX2_readSwing_46 ?_
  obtain ⟨y10, qy10, m_y10, k_y10⟩ := (hu y9 m_y9).1 0 1 (by rw [k_y9]; rfl)
  refine W.eq (g2 := F0 m 49 ls [.ref y10]) (by rw [qy10]; rfl) ?_
  refine lv_aload_n hx hb dX2_readSwing_49 rfl (lv_at hl 2 rfl) ?_
  refine wiV (C := RX2) (As := []) (rest := [.ref y10]) ⟨hx, hb, hml, hown, hts⟩ (fun sz => t_X2_expectHours l D k u8 hu h0 m_h0 k_h0  sz) (cwV 0 hts gX2_readSwing_X2_expectHours rfl rfl rfl (by decide +kernel) ⟨Nat.le_of_ble_eq_true rfl, Nat.le_of_ble_eq_true rfl⟩) hP hK hD hN hS hA (precv hK hP m_h0 (cF2 k_h0) rfl) rfl hl.1 rfl (Nat.le_of_ble_eq_true rfl) dX2_readSwing_50 ⟨Nat.le_of_ble_eq_true rfl, Nat.le_of_ble_eq_true rfl⟩ (fun ru11 u11 H locs hq hP hD hS => ?_)
  obtain ⟨hu, hxu11, hru11⟩ := hq
  have k_h0 : u11.2.1 h0 = 2 := (hxu11 h0 m_h0).2.1.trans k_h0
  have m_h0 : h0 ∈ u11.1 := (hxu11 h0 m_h0).1
  have k_y10 : u11.2.1 y10 = 1 := (hxu11 y10 m_y10).2.1.trans k_y10
  have m_y10 : y10 ∈ u11.1 := (hxu11 y10 m_y10).1
  have hp := PX.trans hp hxu11
  refine lv_iload_n hx hb dX2_readSwing_53 rfl (lv_at hl 1 rfl) ?_
  refine lv_iload_n hx hb dX2_readSwing_54 rfl (lv_at hl 0 rfl) ?_
  refine wvV (C := RX1) (As := [.int ru11, .int ru2, .int ru6]) (rest := []) ⟨hx, hb, hml, hown, hts⟩ (fun sz => t_X1_add l D k u11 hu y10 m_y10 k_y10 ru11 ru2 ru6 sz) (cwV 3 hts gX2_readSwing_X1_add rfl rfl rfl (by decide +kernel) ⟨Nat.le_of_ble_eq_true rfl, Nat.le_of_ble_eq_true rfl⟩) hP hK hD hN hS hA (precv hK hP m_y10 (cF1 k_y10) rfl) rfl hl.1 rfl (Nat.le_of_ble_eq_true rfl) dX2_readSwing_55 ⟨Nat.le_of_ble_eq_true rfl, Nat.le_of_ble_eq_true rfl⟩ (fun u12 H locs hq hP hD hS => ?_)
  obtain ⟨hu, hxu12, hru12⟩ := hq
  have k_h0 : u12.2.1 h0 = 2 := (hxu12 h0 m_h0).2.1.trans k_h0
  have m_h0 : h0 ∈ u12.1 := (hxu12 h0 m_h0).1
  have hp := PX.trans hp hxu12
  exact W.vret hx hb hr (fun t ht hW => ⟨⟨u12, rfl, ⟨hu, hp, trivial⟩, by rw [ht]; exact hP, hD⟩, hS.F ht⟩) hS.2.2 dX2_readSwing_58
set_option maxHeartbeats 4000000 in
set_option maxRecDepth 100000 in
theorem t_X2_readWind (l : Launch) (D : va_G) (k : Nat → ClassId) (tt : TT) (u0 : PSt) (hu : WT u0) (h0 : Nat) (m_h0 : h0 ∈ u0.1) (k_h0 : u0.2.1 h0 = 2) (sz : Nat) : Met l yX2_readWind wsX2_readWind ({ frames := 7, cells := 0, slots := 0, locals := 149 }) (PreT D k tt sz (PW k u0) [.ref h0]) (va_Qv (fun v => WT v ∧ PX u0 v ∧ True) (WB D (va_A (PW k u0) sz) (PW k)) (va_A (PW k u0) sz)) 0 0 (va_A (PW k u0) sz) := by
  refine Met.ofW (cc := cX2_readWind) (maxL := 4) (ret := none) (by decide) rfl ?_
  intro p e s m args below meth c s₁ B hml hv
  obtain ⟨rfl, hsz, hP, hK, hD0, hN, hE0⟩ := hv
  have hx := B.exec
  have hb := B.bytes
  have hr := B.returns
  have hts := atoms_spec (ws := wsX2_readWind) B.pre
  have hown : s.vm.findClass RX2 = some m.cls := findClass_of_methodNamed B.named
  have hlocks := B.notSynchronized
  have i_X10 : ∀ w ∈ wsX100, w ∈ wsX2_readWind := by decide +kernel
  have i_X2 : ∀ w ∈ wsX20, w ∈ wsX2_readWind := by decide +kernel
  subst hsz
  have hD := hD0.self (sz := s.heap.size)
  have hE := hE0
  generalize hAe : va_A (PW k u0) s.heap.size = A at hD hE ⊢
  have hA : ∀ q : Nat, s.heap.size ≤ q → A q := fun q h => by rw [← hAe]; exact Or.inr h
  have hS : va_S A s.heap s.heap [] := va_S.rf
  have hp : PX u0 u0 := PX.rf
  have B66 : ∀ (u : PSt) (H : Heap) (locs : List Loc) (ls : Array Slot) (v0 : Nat) (v1 : Int32) (v2 : Int32), WT u → PX u0 u → va_P D vwCl (PW k u) H → va_D A (PW k u) → va_S A s.heap H locs → v0 ∈ u.1 → u.2.1 v0 = 2 → -1 ≤ v1.toInt ∧ v1.toInt ≤ 1 → -1 ≤ v2.toInt ∧ v2.toInt ≤ 1 → lv_has ls 4 [(0, .ref v0), (1, .int v1), (2, .int v2)] → W p l e (headSpec wsX2_readWind ({ frames := 7, cells := 0, slots := 0, locals := 149 })).room s m ([.ref h0] : List Value).toArray below meth c H locs 0 0 (MQ below (va_Qv (fun v => WT v ∧ PX u0 v ∧ True) (WB D A (PW k)) A) ([.ref h0] : List Value).toArray s 0 0 A) (F0 m 66 ls []) := by
    intro u H locs ls v0 v1 v2 hu hp hP hD hS m_v0 k_v0 g_v1 g_v2 hl
    refine lv_aload_n hx hb dX2_readWind_66 rfl (lv_at hl 0 rfl) ?_
    refine pget (ci := 2) (v := va_rf (u.2.2.2.2 v0 0)) (C := RX2) (T := TX2) (N := 2) hx hb hts i_X2 hown hK hP m_v0 (cF2 k_v0) rfl 0 (by decide) (hts (.fieldLink RX2 18 "BellowsRow$Parser" "tape" "LBellowsRow$Tape;") (by decide +kernel)) (fun _ h9 => h9) rfl dX2_readWind_67 ?_
    obtain ⟨y1, qy1, m_y1, k_y1⟩ := (hu v0 m_v0).1 0 9 (by rw [k_v0]; rfl)
    refine W.eq (g2 := F0 m 70 ls [.ref y1]) (by rw [qy1]; rfl) ?_
    refine lv_iconst (v := 0) hx hb dX2_readWind_70 (by decide) ?_
    refine lv_bipush (v := 50) hx hb dX2_readWind_71 (by decide) ?_
    refine wiV (C := RX9) (As := [.int 0, .int 50]) (rest := []) ⟨hx, hb, hml, hown, hts⟩ (fun sz => t_X9_expectNumber l D k u hu y1 m_y1 k_y1 0 50 sz) (cwV 2 hts gX2_readWind_X9_expectNumber rfl rfl rfl (by decide +kernel) ⟨Nat.le_of_ble_eq_true rfl, Nat.le_of_ble_eq_true rfl⟩) hP hK hD hN hS hA (precv hK hP m_y1 (cF9 k_y1) rfl) rfl hl.1 rfl (Nat.le_of_ble_eq_true rfl) dX2_readWind_73 ⟨Nat.le_of_ble_eq_true rfl, Nat.le_of_ble_eq_true rfl⟩ (fun ru2 u2 H locs hq hP hD hS => ?_)
    obtain ⟨hu, hxu2, hru2⟩ := hq
    have k_v0 : u2.2.1 v0 = 2 := (hxu2 v0 m_v0).2.1.trans k_v0
    have m_v0 : v0 ∈ u2.1 := (hxu2 v0 m_v0).1
    have hp := PX.trans hp hxu2
    refine lv_istore_n (lv' := [(3, .int ru2), (0, .ref v0), (1, .int v1), (2, .int v2)]) hx hb dX2_readWind_76 rfl hl (by decide) rfl (fun ls hl => ?_)
    refine lv_aload_n hx hb dX2_readWind_77 rfl (lv_at hl 1 rfl) ?_
    refine pget (ci := 2) (v := va_rf (u2.2.2.2.2 v0 1)) (C := RX2) (T := TX2) (N := 2) hx hb hts i_X2 hown hK hP m_v0 (cF2 k_v0) rfl 1 (by decide) (hts (.fieldLink RX2 12 "BellowsRow$Parser" "works" "LBellowsRow$Works;") (by decide +kernel)) (fun _ h9 => h9) rfl dX2_readWind_78 ?_
    obtain ⟨y3, qy3, m_y3, k_y3⟩ := (hu v0 m_v0).1 1 10 (by rw [k_v0]; rfl)
    refine W.eq (g2 := F0 m 81 ls [.ref y3]) (by rw [qy3]; rfl) ?_
    refine lv_iconst (v := 1) hx hb dX2_readWind_81 (by decide) ?_
    refine pput (u' := pSI u2 y3 6 1) (ci := 10) (v := .int 1) (ty := .boolean) (C := RX10) (T := TX10) (N := 12) hx hb hts i_X10 tyX10 tyX10_ok nmX10 hown hK hP hD hS m_y3 (cF10 k_y3) rfl 6 (by decide) (hts (.fieldLink RX2 42 "BellowsRow$Works" "windTold" "Z") (by decide +kernel)) (fun _ h9 => h9) rfl (by decide +kernel) rfl rfl (Nat.le_of_ble_eq_true rfl) rfl (sF10_6 k_y3 1) dX2_readWind_82 (fun H locs hP hD hS => ?_)
    have hu := WT.setI (a := y3) (s := 6) (v := 1) hu (by rw [k_y3]; exact (show 0 ≤ (1 : Int32).toInt ∧ (1 : Int32).toInt ≤ 1 from by decide))
    have hp := PX.setI (a := y3) (s := 6) (v := 1) hp (by rw [k_y3]; decide)
    obtain ⟨u4, hu4⟩ : ∃ z, z = pSI u2 y3 6 1 := ⟨_, rfl⟩
    rw [← hu4] at hP hD hu hp
    have m_v0 : v0 ∈ u4.1 := by rw [hu4]; exact m_v0
    have k_v0 : u4.2.1 v0 = 2 := by rw [hu4]; exact k_v0
    refine lv_aload_n hx hb dX2_readWind_85 rfl (lv_at hl 1 rfl) ?_
    refine pget (ci := 2) (v := va_rf (u4.2.2.2.2 v0 1)) (C := RX2) (T := TX2) (N := 2) hx hb hts i_X2 hown hK hP m_v0 (cF2 k_v0) rfl 1 (by decide) (hts (.fieldLink RX2 12 "BellowsRow$Parser" "works" "LBellowsRow$Works;") (by decide +kernel)) (fun _ h9 => h9) rfl dX2_readWind_86 ?_
    obtain ⟨y5, qy5, m_y5, k_y5⟩ := (hu v0 m_v0).1 1 10 (by rw [k_v0]; rfl)
    refine W.eq (g2 := F0 m 89 ls [.ref y5]) (by rw [qy5]; rfl) ?_
    refine lv_iload_n hx hb dX2_readWind_89 rfl (lv_at hl 2 rfl) ?_
    refine lv_iload_n hx hb dX2_readWind_90 rfl (lv_at hl 0 rfl) ?_
    refine lv_imul hx hb dX2_readWind_91 ?_
    refine lv_topi (fun x6 ex6 => ?_)
    refine pput (u' := pSI u4 y5 7 x6) (ci := 10) (v := .int x6) (ty := .int) (C := RX10) (T := TX10) (N := 12) hx hb hts i_X10 tyX10 tyX10_ok nmX10 hown hK hP hD hS m_y5 (cF10 k_y5) rfl 7 (by decide) (hts (.fieldLink RX2 231 "BellowsRow$Works" "windX" "I") (by decide +kernel)) (fun _ h9 => h9) rfl (by decide +kernel) rfl rfl (Nat.le_of_ble_eq_true rfl) rfl (sF10_7 k_y5 x6) dX2_readWind_92 (fun H locs hP hD hS => ?_)
    have hu := WT.setI (a := y5) (s := 7) (v := x6) hu (by rw [k_y5]; exact trivial)
    have hp := PX.setI (a := y5) (s := 7) (v := x6) hp (by rw [k_y5]; decide)
    obtain ⟨u7, hu7⟩ : ∃ z, z = pSI u4 y5 7 x6 := ⟨_, rfl⟩
    rw [← hu7] at hP hD hu hp
    have m_v0 : v0 ∈ u7.1 := by rw [hu7]; exact m_v0
    have k_v0 : u7.2.1 v0 = 2 := by rw [hu7]; exact k_v0
    refine lv_aload_n hx hb dX2_readWind_95 rfl (lv_at hl 1 rfl) ?_
    refine pget (ci := 2) (v := va_rf (u7.2.2.2.2 v0 1)) (C := RX2) (T := TX2) (N := 2) hx hb hts i_X2 hown hK hP m_v0 (cF2 k_v0) rfl 1 (by decide) (hts (.fieldLink RX2 12 "BellowsRow$Parser" "works" "LBellowsRow$Works;") (by decide +kernel)) (fun _ h9 => h9) rfl dX2_readWind_96 ?_
    obtain ⟨y8, qy8, m_y8, k_y8⟩ := (hu v0 m_v0).1 1 10 (by rw [k_v0]; rfl)
    refine W.eq (g2 := F0 m 99 ls [.ref y8]) (by rw [qy8]; rfl) ?_
    refine lv_iload_n hx hb dX2_readWind_99 rfl (lv_at hl 3 rfl) ?_
    refine lv_iload_n hx hb dX2_readWind_100 rfl (lv_at hl 0 rfl) ?_
    refine lv_imul hx hb dX2_readWind_101 ?_
    refine lv_topi (fun x9 ex9 => ?_)
    refine pput (u' := pSI u7 y8 8 x9) (ci := 10) (v := .int x9) (ty := .int) (C := RX10) (T := TX10) (N := 12) hx hb hts i_X10 tyX10 tyX10_ok nmX10 hown hK hP hD hS m_y8 (cF10 k_y8) rfl 8 (by decide) (hts (.fieldLink RX2 234 "BellowsRow$Works" "windY" "I") (by decide +kernel)) (fun _ h9 => h9) rfl (by decide +kernel) rfl rfl (Nat.le_of_ble_eq_true rfl) rfl (sF10_8 k_y8 x9) dX2_readWind_102 (fun H locs hP hD hS => ?_)
    have hu := WT.setI (a := y8) (s := 8) (v := x9) hu (by rw [k_y8]; exact trivial)
    have hp := PX.setI (a := y8) (s := 8) (v := x9) hp (by rw [k_y8]; decide)
    obtain ⟨u10, hu10⟩ : ∃ z, z = pSI u7 y8 8 x9 := ⟨_, rfl⟩
    rw [← hu10] at hP hD hu hp
    have m_v0 : v0 ∈ u10.1 := by rw [hu10]; exact m_v0
    have k_v0 : u10.2.1 v0 = 2 := by rw [hu10]; exact k_v0
    exact W.vret hx hb hr (fun t ht hW => ⟨⟨u10, rfl, ⟨hu, hp, trivial⟩, by rw [ht]; exact hP, hD⟩, hS.F ht⟩) hS.2.2 dX2_readWind_105
  have hl := lv_entry ([.ref h0]) (n := 4) (Nat.le_of_ble_eq_true rfl)
  rw [lg_entry_eq]
  generalize (lg_sl ([.ref h0]) ++ List.replicate (4 - (lg_sl ([.ref h0])).length) Slot.unset).toArray = ls at hl ⊢
  have hl : lv_has ls 4 [(0, .ref h0)] := hl
  refine lv_iconst (v := 0) hx hb dX2_readWind_0 (by decide) ?_
  refine lv_istore_n (lv' := [(1, .int 0), (0, .ref h0)]) hx hb dX2_readWind_1 rfl hl (by decide) rfl (fun ls hl => ?_)
  refine lv_iconst (v := 0) hx hb dX2_readWind_2 (by decide) ?_
  refine lv_istore_n (lv' := [(2, .int 0), (1, .int 0), (0, .ref h0)]) hx hb dX2_readWind_3 rfl hl (by decide) rfl (fun ls hl => ?_)
  refine lv_aload_n hx hb dX2_readWind_4 rfl (lv_at hl 2 rfl) ?_
  refine pget (ci := 2) (v := va_rf (u0.2.2.2.2 h0 0)) (C := RX2) (T := TX2) (N := 2) hx hb hts i_X2 hown hK hP m_h0 (cF2 k_h0) rfl 0 (by decide) (hts (.fieldLink RX2 18 "BellowsRow$Parser" "tape" "LBellowsRow$Tape;") (by decide +kernel)) (fun _ h9 => h9) rfl dX2_readWind_5 ?_
  obtain ⟨y11, qy11, m_y11, k_y11⟩ := (hu h0 m_h0).1 0 9 (by rw [k_h0]; rfl)
  refine W.eq (g2 := F0 m 8 ls [.ref y11]) (by rw [qy11]; rfl) ?_
  refine va_ldcS (own := RX2) (tx := "left") (q := tt.1 24) hx hb hown (hE.2.1 (RX2, 229, "left", 24) (by decide +kernel)) dX2_readWind_8 ?_
  refine xiV (C := RX9) (As := [.ref (tt.1 24)]) (rest := []) ⟨hx, hb, hml, hown, hts⟩ (fun sz => t_X9_passes l D k tt u0 hu y11 m_y11 k_y11 24 (by decide) sz) (cwV 1 hts gX2_readWind_X9_passes rfl rfl rfl (by decide +kernel) ⟨Nat.le_of_ble_eq_true rfl, Nat.le_of_ble_eq_true rfl⟩) hP hK hD hN hE hS hA (precv hK hP m_y11 (cF9 k_y11) rfl) rfl hl.1 rfl (Nat.le_of_ble_eq_true rfl) dX2_readWind_10 ⟨Nat.le_of_ble_eq_true rfl, Nat.le_of_ble_eq_true rfl⟩ (fun ru12 u12 H locs hq hP hD hS => ?_)
  obtain ⟨hu, hxu12, hru12⟩ := hq
  have k_h0 : u12.2.1 h0 = 2 := (hxu12 h0 m_h0).2.1.trans k_h0
  have m_h0 : h0 ∈ u12.1 := (hxu12 h0 m_h0).1
  have hp := PX.trans hp hxu12
  refine lv_if_eq (tgt := 21) hx hb dX2_readWind_13 (by decide) (fun c13 => ?_) (fun c13 => ?_)
  · refine lv_aload_n hx hb dX2_readWind_21 rfl (lv_at hl 2 rfl) ?_
    refine pget (ci := 2) (v := va_rf (u12.2.2.2.2 h0 0)) (C := RX2) (T := TX2) (N := 2) hx hb hts i_X2 hown hK hP m_h0 (cF2 k_h0) rfl 0 (by decide) (hts (.fieldLink RX2 18 "BellowsRow$Parser" "tape" "LBellowsRow$Tape;") (by decide +kernel)) (fun _ h9 => h9) rfl dX2_readWind_22 ?_
    obtain ⟨y14, qy14, m_y14, k_y14⟩ := (hu h0 m_h0).1 0 9 (by rw [k_h0]; rfl)
    refine W.eq (g2 := F0 m 25 ls [.ref y14]) (by rw [qy14]; rfl) ?_
    refine va_ldcS (own := RX2) (tx := "right") (q := tt.1 18) hx hb hown (hE.2.1 (RX2, 191, "right", 18) (by decide +kernel)) dX2_readWind_25 ?_
    refine xiV (C := RX9) (As := [.ref (tt.1 18)]) (rest := []) ⟨hx, hb, hml, hown, hts⟩ (fun sz => t_X9_passes l D k tt u12 hu y14 m_y14 k_y14 18 (by decide) sz) (cwV 1 hts gX2_readWind_X9_passes rfl rfl rfl (by decide +kernel) ⟨Nat.le_of_ble_eq_true rfl, Nat.le_of_ble_eq_true rfl⟩) hP hK hD hN hE hS hA (precv hK hP m_y14 (cF9 k_y14) rfl) rfl hl.1 rfl (Nat.le_of_ble_eq_true rfl) dX2_readWind_27 ⟨Nat.le_of_ble_eq_true rfl, Nat.le_of_ble_eq_true rfl⟩ (fun ru15 u15 H locs hq hP hD hS => ?_)
    obtain ⟨hu, hxu15, hru15⟩ := hq
    have k_h0 : u15.2.1 h0 = 2 := (hxu15 h0 m_h0).2.1.trans k_h0
    have m_h0 : h0 ∈ u15.1 := (hxu15 h0 m_h0).1
    have hp := PX.trans hp hxu15
    refine lv_if_eq (tgt := 38) hx hb dX2_readWind_30 (by decide) (fun c16 => ?_) (fun c16 => ?_)
    · refine lv_aload_n hx hb dX2_readWind_38 rfl (lv_at hl 2 rfl) ?_
      refine pget (ci := 2) (v := va_rf (u15.2.2.2.2 h0 0)) (C := RX2) (T := TX2) (N := 2) hx hb hts i_X2 hown hK hP m_h0 (cF2 k_h0) rfl 0 (by decide) (hts (.fieldLink RX2 18 "BellowsRow$Parser" "tape" "LBellowsRow$Tape;") (by decide +kernel)) (fun _ h9 => h9) rfl dX2_readWind_39 ?_
      obtain ⟨y17, qy17, m_y17, k_y17⟩ := (hu h0 m_h0).1 0 9 (by rw [k_h0]; rfl)
      refine W.eq (g2 := F0 m 42 ls [.ref y17]) (by rw [qy17]; rfl) ?_
      refine va_ldcS (own := RX2) (tx := "up") (q := tt.1 19) hx hb hown (hE.2.1 (RX2, 193, "up", 19) (by decide +kernel)) dX2_readWind_42 ?_
      refine xiV (C := RX9) (As := [.ref (tt.1 19)]) (rest := []) ⟨hx, hb, hml, hown, hts⟩ (fun sz => t_X9_passes l D k tt u15 hu y17 m_y17 k_y17 19 (by decide) sz) (cwV 1 hts gX2_readWind_X9_passes rfl rfl rfl (by decide +kernel) ⟨Nat.le_of_ble_eq_true rfl, Nat.le_of_ble_eq_true rfl⟩) hP hK hD hN hE hS hA (precv hK hP m_y17 (cF9 k_y17) rfl) rfl hl.1 rfl (Nat.le_of_ble_eq_true rfl) dX2_readWind_44 ⟨Nat.le_of_ble_eq_true rfl, Nat.le_of_ble_eq_true rfl⟩ (fun ru18 u18 H locs hq hP hD hS => ?_)
      obtain ⟨hu, hxu18, hru18⟩ := hq
      have k_h0 : u18.2.1 h0 = 2 := (hxu18 h0 m_h0).2.1.trans k_h0
      have m_h0 : h0 ∈ u18.1 := (hxu18 h0 m_h0).1
      have hp := PX.trans hp hxu18
      refine lv_if_eq (tgt := 55) hx hb dX2_readWind_47 (by decide) (fun c19 => ?_) (fun c19 => ?_)
      · refine lv_aload_n hx hb dX2_readWind_55 rfl (lv_at hl 2 rfl) ?_
        refine pget (ci := 2) (v := va_rf (u18.2.2.2.2 h0 0)) (C := RX2) (T := TX2) (N := 2) hx hb hts i_X2 hown hK hP m_h0 (cF2 k_h0) rfl 0 (by decide) (hts (.fieldLink RX2 18 "BellowsRow$Parser" "tape" "LBellowsRow$Tape;") (by decide +kernel)) (fun _ h9 => h9) rfl dX2_readWind_56 ?_
        obtain ⟨y20, qy20, m_y20, k_y20⟩ := (hu h0 m_h0).1 0 9 (by rw [k_h0]; rfl)
        refine W.eq (g2 := F0 m 59 ls [.ref y20]) (by rw [qy20]; rfl) ?_
        refine va_ldcS (own := RX2) (tx := "down") (q := tt.1 20) hx hb hown (hE.2.1 (RX2, 195, "down", 20) (by decide +kernel)) dX2_readWind_59 ?_
        refine xvV (C := RX9) (As := [.ref (tt.1 20)]) (rest := []) ⟨hx, hb, hml, hown, hts⟩ (fun sz => t_X9_expect l D k tt u18 hu y20 m_y20 k_y20 20 (by decide) sz) (cwV 1 hts gX2_readWind_X9_expect rfl rfl rfl (by decide +kernel) ⟨Nat.le_of_ble_eq_true rfl, Nat.le_of_ble_eq_true rfl⟩) hP hK hD hN hE hS hA (precv hK hP m_y20 (cF9 k_y20) rfl) rfl hl.1 rfl (Nat.le_of_ble_eq_true rfl) dX2_readWind_61 ⟨Nat.le_of_ble_eq_true rfl, Nat.le_of_ble_eq_true rfl⟩ (fun u21 H locs hq hP hD hS => ?_)
        obtain ⟨hu, hxu21, hru21⟩ := hq
        have k_h0 : u21.2.1 h0 = 2 := (hxu21 h0 m_h0).2.1.trans k_h0
        have m_h0 : h0 ∈ u21.1 := (hxu21 h0 m_h0).1
        have hp := PX.trans hp hxu21
        refine lv_iconst (v := (-1)) hx hb dX2_readWind_64 (by decide) ?_
        refine lv_istore_n (lv' := [(2, .int (-1)), (1, .int 0), (0, .ref h0)]) hx hb dX2_readWind_65 rfl hl (by decide) rfl (fun ls hl => ?_)
        exact B66 _ _ _ ls h0 0 (-1) hu hp hP hD hS m_h0 k_h0 (by (try simp only [i_lt, i_le, i_eq, Int32.toInt_toInt64, Int32.reduceToInt, Int64.reduceToInt, true_and, and_true, false_and, and_false, false_or, or_false, true_or, or_true, not_true_eq_false, not_false_eq_true, ne_eq, forall_const, true_implies, false_implies, implies_true] at hru12 c13 hru15 c16 hru18 c19 ⊢) <;> omega) (by (try simp only [i_lt, i_le, i_eq, Int32.toInt_toInt64, Int32.reduceToInt, Int64.reduceToInt, true_and, and_true, false_and, and_false, false_or, or_false, true_or, or_true, not_true_eq_false, not_false_eq_true, ne_eq, forall_const, true_implies, false_implies, implies_true] at hru12 c13 hru15 c16 hru18 c19 ⊢) <;> omega) (lv_sub hl [2, 1, 0] rfl)
      · refine lv_iconst (v := 1) hx hb dX2_readWind_50 (by decide) ?_
        refine lv_istore_n (lv' := [(2, .int 1), (1, .int 0), (0, .ref h0)]) hx hb dX2_readWind_51 rfl hl (by decide) rfl (fun ls hl => ?_)
        refine lv_goto (tgt := 66) hx hb dX2_readWind_52 (by decide) ?_
        exact B66 _ _ _ ls h0 0 1 hu hp hP hD hS m_h0 k_h0 (by (try simp only [i_lt, i_le, i_eq, Int32.toInt_toInt64, Int32.reduceToInt, Int64.reduceToInt, true_and, and_true, false_and, and_false, false_or, or_false, true_or, or_true, not_true_eq_false, not_false_eq_true, ne_eq, forall_const, true_implies, false_implies, implies_true] at hru12 c13 hru15 c16 hru18 c19 ⊢) <;> omega) (by (try simp only [i_lt, i_le, i_eq, Int32.toInt_toInt64, Int32.reduceToInt, Int64.reduceToInt, true_and, and_true, false_and, and_false, false_or, or_false, true_or, or_true, not_true_eq_false, not_false_eq_true, ne_eq, forall_const, true_implies, false_implies, implies_true] at hru12 c13 hru15 c16 hru18 c19 ⊢) <;> omega) (lv_sub hl [2, 1, 0] rfl)
    · refine lv_iconst (v := 1) hx hb dX2_readWind_33 (by decide) ?_
      refine lv_istore_n (lv' := [(1, .int 1), (2, .int 0), (0, .ref h0)]) hx hb dX2_readWind_34 rfl hl (by decide) rfl (fun ls hl => ?_)
      refine lv_goto (tgt := 66) hx hb dX2_readWind_35 (by decide) ?_
      exact B66 _ _ _ ls h0 1 0 hu hp hP hD hS m_h0 k_h0 (by (try simp only [i_lt, i_le, i_eq, Int32.toInt_toInt64, Int32.reduceToInt, Int64.reduceToInt, true_and, and_true, false_and, and_false, false_or, or_false, true_or, or_true, not_true_eq_false, not_false_eq_true, ne_eq, forall_const, true_implies, false_implies, implies_true] at hru12 c13 hru15 c16 ⊢) <;> omega) (by (try simp only [i_lt, i_le, i_eq, Int32.toInt_toInt64, Int32.reduceToInt, Int64.reduceToInt, true_and, and_true, false_and, and_false, false_or, or_false, true_or, or_true, not_true_eq_false, not_false_eq_true, ne_eq, forall_const, true_implies, false_implies, implies_true] at hru12 c13 hru15 c16 ⊢) <;> omega) (lv_sub hl [2, 0, 1] rfl)
  · refine lv_iconst (v := (-1)) hx hb dX2_readWind_16 (by decide) ?_
    refine lv_istore_n (lv' := [(1, .int (-1)), (2, .int 0), (0, .ref h0)]) hx hb dX2_readWind_17 rfl hl (by decide) rfl (fun ls hl => ?_)
    refine lv_goto (tgt := 66) hx hb dX2_readWind_18 (by decide) ?_
    exact B66 _ _ _ ls h0 (-1) 0 hu hp hP hD hS m_h0 k_h0 (by (try simp only [i_lt, i_le, i_eq, Int32.toInt_toInt64, Int32.reduceToInt, Int64.reduceToInt, true_and, and_true, false_and, and_false, false_or, or_false, true_or, or_true, not_true_eq_false, not_false_eq_true, ne_eq, forall_const, true_implies, false_implies, implies_true] at hru12 c13 ⊢) <;> omega) (by (try simp only [i_lt, i_le, i_eq, Int32.toInt_toInt64, Int32.reduceToInt, Int64.reduceToInt, true_and, and_true, false_and, and_false, false_or, or_false, true_or, or_true, not_true_eq_false, not_false_eq_true, ne_eq, forall_const, true_implies, false_implies, implies_true] at hru12 c13 ⊢) <;> omega) (lv_sub hl [2, 0, 1] rfl)
set_option maxHeartbeats 4000000 in
set_option maxRecDepth 100000 in
theorem t_X2_readRoom (l : Launch) (D : va_G) (k : Nat → ClassId) (tt : TT) (u0 : PSt) (hu : WT u0) (h0 : Nat) (m_h0 : h0 ∈ u0.1) (k_h0 : u0.2.1 h0 = 2) (sz : Nat) : Met l yX2_readRoom wsX2_readRoom ({ frames := 7, cells := 0, slots := 0, locals := 149 }) (PreT D k tt sz (PW k u0) [.ref h0]) (va_Qv (fun v => WT v ∧ PX u0 v ∧ True) (WB D (va_A (PW k u0) sz) (PW k)) (va_A (PW k u0) sz)) 0 0 (va_A (PW k u0) sz) := by
  refine Met.ofW (cc := cX2_readRoom) (maxL := 5) (ret := none) (by decide) rfl ?_
  intro p e s m args below meth c s₁ B hml hv
  obtain ⟨rfl, hsz, hP, hK, hD0, hN, hE0⟩ := hv
  have hx := B.exec
  have hb := B.bytes
  have hr := B.returns
  have hts := atoms_spec (ws := wsX2_readRoom) B.pre
  have hown : s.vm.findClass RX2 = some m.cls := findClass_of_methodNamed B.named
  have hlocks := B.notSynchronized
  have i_X10 : ∀ w ∈ wsX100, w ∈ wsX2_readRoom := by decide +kernel
  have i_X2 : ∀ w ∈ wsX20, w ∈ wsX2_readRoom := by decide +kernel
  subst hsz
  have hD := hD0.self (sz := s.heap.size)
  have hE := hE0
  generalize hAe : va_A (PW k u0) s.heap.size = A at hD hE ⊢
  have hA : ∀ q : Nat, s.heap.size ≤ q → A q := fun q h => by rw [← hAe]; exact Or.inr h
  have hS : va_S A s.heap s.heap [] := va_S.rf
  have hp : PX u0 u0 := PX.rf
  have hl := lv_entry ([.ref h0]) (n := 5) (Nat.le_of_ble_eq_true rfl)
  rw [lg_entry_eq]
  generalize (lg_sl ([.ref h0]) ++ List.replicate (5 - (lg_sl ([.ref h0])).length) Slot.unset).toArray = ls at hl ⊢
  have hl : lv_has ls 5 [(0, .ref h0)] := hl
  refine lv_aload_n hx hb dX2_readRoom_0 rfl (lv_at hl 0 rfl) ?_
  refine pget (ci := 2) (v := va_rf (u0.2.2.2.2 h0 0)) (C := RX2) (T := TX2) (N := 2) hx hb hts i_X2 hown hK hP m_h0 (cF2 k_h0) rfl 0 (by decide) (hts (.fieldLink RX2 18 "BellowsRow$Parser" "tape" "LBellowsRow$Tape;") (by decide +kernel)) (fun _ h9 => h9) rfl dX2_readRoom_1 ?_
  obtain ⟨y1, qy1, m_y1, k_y1⟩ := (hu h0 m_h0).1 0 9 (by rw [k_h0]; rfl)
  refine W.eq (g2 := F0 m 4 ls [.ref y1]) (by rw [qy1]; rfl) ?_
  refine va_ldcS (own := RX2) (tx := "at") (q := tt.1 21) hx hb hown (hE.2.1 (RX2, 220, "at", 21) (by decide +kernel)) dX2_readRoom_4 ?_
  refine xvV (C := RX9) (As := [.ref (tt.1 21)]) (rest := []) ⟨hx, hb, hml, hown, hts⟩ (fun sz => t_X9_expect l D k tt u0 hu y1 m_y1 k_y1 21 (by decide) sz) (cwV 1 hts gX2_readRoom_X9_expect rfl rfl rfl (by decide +kernel) ⟨Nat.le_of_ble_eq_true rfl, Nat.le_of_ble_eq_true rfl⟩) hP hK hD hN hE hS hA (precv hK hP m_y1 (cF9 k_y1) rfl) rfl hl.1 rfl (Nat.le_of_ble_eq_true rfl) dX2_readRoom_6 ⟨Nat.le_of_ble_eq_true rfl, Nat.le_of_ble_eq_true rfl⟩ (fun u2 H locs hq hP hD hS => ?_)
  obtain ⟨hu, hxu2, hru2⟩ := hq
  have k_h0 : u2.2.1 h0 = 2 := (hxu2 h0 m_h0).2.1.trans k_h0
  have m_h0 : h0 ∈ u2.1 := (hxu2 h0 m_h0).1
  have hp := PX.trans hp hxu2
  refine lv_aload_n hx hb dX2_readRoom_9 rfl (lv_at hl 0 rfl) ?_
  refine pget (ci := 2) (v := va_rf (u2.2.2.2.2 h0 0)) (C := RX2) (T := TX2) (N := 2) hx hb hts i_X2 hown hK hP m_h0 (cF2 k_h0) rfl 0 (by decide) (hts (.fieldLink RX2 18 "BellowsRow$Parser" "tape" "LBellowsRow$Tape;") (by decide +kernel)) (fun _ h9 => h9) rfl dX2_readRoom_10 ?_
  obtain ⟨y3, qy3, m_y3, k_y3⟩ := (hu h0 m_h0).1 0 9 (by rw [k_h0]; rfl)
  refine W.eq (g2 := F0 m 13 ls [.ref y3]) (by rw [qy3]; rfl) ?_
  refine lv_iconst (v := 0) hx hb dX2_readRoom_13 (by decide) ?_
  refine lv_sipush (v := 999) hx hb dX2_readRoom_14 (by decide) ?_
  refine wiV (C := RX9) (As := [.int 0, .int 999]) (rest := []) ⟨hx, hb, hml, hown, hts⟩ (fun sz => t_X9_expectNumber l D k u2 hu y3 m_y3 k_y3 0 999 sz) (cwV 2 hts gX2_readRoom_X9_expectNumber rfl rfl rfl (by decide +kernel) ⟨Nat.le_of_ble_eq_true rfl, Nat.le_of_ble_eq_true rfl⟩) hP hK hD hN hS hA (precv hK hP m_y3 (cF9 k_y3) rfl) rfl hl.1 rfl (Nat.le_of_ble_eq_true rfl) dX2_readRoom_17 ⟨Nat.le_of_ble_eq_true rfl, Nat.le_of_ble_eq_true rfl⟩ (fun ru4 u4 H locs hq hP hD hS => ?_)
  obtain ⟨hu, hxu4, hru4⟩ := hq
  have k_h0 : u4.2.1 h0 = 2 := (hxu4 h0 m_h0).2.1.trans k_h0
  have m_h0 : h0 ∈ u4.1 := (hxu4 h0 m_h0).1
  have hp := PX.trans hp hxu4
  refine lv_istore_n (lv' := [(1, .int ru4), (0, .ref h0)]) hx hb dX2_readRoom_20 rfl hl (by decide) rfl (fun ls hl => ?_)
  refine lv_aload_n hx hb dX2_readRoom_21 rfl (lv_at hl 1 rfl) ?_
  refine pget (ci := 2) (v := va_rf (u4.2.2.2.2 h0 0)) (C := RX2) (T := TX2) (N := 2) hx hb hts i_X2 hown hK hP m_h0 (cF2 k_h0) rfl 0 (by decide) (hts (.fieldLink RX2 18 "BellowsRow$Parser" "tape" "LBellowsRow$Tape;") (by decide +kernel)) (fun _ h9 => h9) rfl dX2_readRoom_22 ?_
  obtain ⟨y5, qy5, m_y5, k_y5⟩ := (hu h0 m_h0).1 0 9 (by rw [k_h0]; rfl)
  refine W.eq (g2 := F0 m 25 ls [.ref y5]) (by rw [qy5]; rfl) ?_
  refine lv_iconst (v := 0) hx hb dX2_readRoom_25 (by decide) ?_
  refine lv_sipush (v := 500) hx hb dX2_readRoom_26 (by decide) ?_
  refine wiV (C := RX9) (As := [.int 0, .int 500]) (rest := []) ⟨hx, hb, hml, hown, hts⟩ (fun sz => t_X9_expectNumber l D k u4 hu y5 m_y5 k_y5 0 500 sz) (cwV 2 hts gX2_readRoom_X9_expectNumber rfl rfl rfl (by decide +kernel) ⟨Nat.le_of_ble_eq_true rfl, Nat.le_of_ble_eq_true rfl⟩) hP hK hD hN hS hA (precv hK hP m_y5 (cF9 k_y5) rfl) rfl hl.1 rfl (Nat.le_of_ble_eq_true rfl) dX2_readRoom_29 ⟨Nat.le_of_ble_eq_true rfl, Nat.le_of_ble_eq_true rfl⟩ (fun ru6 u6 H locs hq hP hD hS => ?_)
  obtain ⟨hu, hxu6, hru6⟩ := hq
  have k_h0 : u6.2.1 h0 = 2 := (hxu6 h0 m_h0).2.1.trans k_h0
  have m_h0 : h0 ∈ u6.1 := (hxu6 h0 m_h0).1
  have hp := PX.trans hp hxu6
  refine lv_istore_n (lv' := [(2, .int ru6), (1, .int ru4), (0, .ref h0)]) hx hb dX2_readRoom_32 rfl hl (by decide) rfl (fun ls hl => ?_)
  refine lv_aload_n hx hb dX2_readRoom_33 rfl (lv_at hl 2 rfl) ?_
  refine pget (ci := 2) (v := va_rf (u6.2.2.2.2 h0 0)) (C := RX2) (T := TX2) (N := 2) hx hb hts i_X2 hown hK hP m_h0 (cF2 k_h0) rfl 0 (by decide) (hts (.fieldLink RX2 18 "BellowsRow$Parser" "tape" "LBellowsRow$Tape;") (by decide +kernel)) (fun _ h9 => h9) rfl dX2_readRoom_34 ?_
  obtain ⟨y7, qy7, m_y7, k_y7⟩ := (hu h0 m_h0).1 0 9 (by rw [k_h0]; rfl)
  refine W.eq (g2 := F0 m 37 ls [.ref y7]) (by rw [qy7]; rfl) ?_
  refine va_ldcS (own := RX2) (tx := "day") (q := tt.1 25) hx hb hown (hE.2.1 (RX2, 237, "day", 25) (by decide +kernel)) dX2_readRoom_37 ?_
  refine xvV (C := RX9) (As := [.ref (tt.1 25)]) (rest := []) ⟨hx, hb, hml, hown, hts⟩ (fun sz => t_X9_expect l D k tt u6 hu y7 m_y7 k_y7 25 (by decide) sz) (cwV 1 hts gX2_readRoom_X9_expect rfl rfl rfl (by decide +kernel) ⟨Nat.le_of_ble_eq_true rfl, Nat.le_of_ble_eq_true rfl⟩) hP hK hD hN hE hS hA (precv hK hP m_y7 (cF9 k_y7) rfl) rfl hl.1 rfl (Nat.le_of_ble_eq_true rfl) dX2_readRoom_39 ⟨Nat.le_of_ble_eq_true rfl, Nat.le_of_ble_eq_true rfl⟩ (fun u8 H locs hq hP hD hS => ?_)
  obtain ⟨hu, hxu8, hru8⟩ := hq
  have k_h0 : u8.2.1 h0 = 2 := (hxu8 h0 m_h0).2.1.trans k_h0
  have m_h0 : h0 ∈ u8.1 := (hxu8 h0 m_h0).1
  have hp := PX.trans hp hxu8
  refine lv_aload_n hx hb dX2_readRoom_42 rfl (lv_at hl 2 rfl) ?_
  refine pget (ci := 2) (v := va_rf (u8.2.2.2.2 h0 0)) (C := RX2) (T := TX2) (N := 2) hx hb hts i_X2 hown hK hP m_h0 (cF2 k_h0) rfl 0 (by decide) (hts (.fieldLink RX2 18 "BellowsRow$Parser" "tape" "LBellowsRow$Tape;") (by decide +kernel)) (fun _ h9 => h9) rfl dX2_readRoom_43 ?_
  obtain ⟨y9, qy9, m_y9, k_y9⟩ := (hu h0 m_h0).1 0 9 (by rw [k_h0]; rfl)
  refine W.eq (g2 := F0 m 46 ls [.ref y9]) (by rw [qy9]; rfl) ?_
  refine lv_iconst (v := 0) hx hb dX2_readRoom_46 (by decide) ?_
  refine lv_sipush (v := 999) hx hb dX2_readRoom_47 (by decide) ?_
  refine wiV (C := RX9) (As := [.int 0, .int 999]) (rest := []) ⟨hx, hb, hml, hown, hts⟩ (fun sz => t_X9_expectNumber l D k u8 hu y9 m_y9 k_y9 0 999 sz) (cwV 2 hts gX2_readRoom_X9_expectNumber rfl rfl rfl (by decide +kernel) ⟨Nat.le_of_ble_eq_true rfl, Nat.le_of_ble_eq_true rfl⟩) hP hK hD hN hS hA (precv hK hP m_y9 (cF9 k_y9) rfl) rfl hl.1 rfl (Nat.le_of_ble_eq_true rfl) dX2_readRoom_50 ⟨Nat.le_of_ble_eq_true rfl, Nat.le_of_ble_eq_true rfl⟩ (fun ru10 u10 H locs hq hP hD hS => ?_)
  obtain ⟨hu, hxu10, hru10⟩ := hq
  have k_h0 : u10.2.1 h0 = 2 := (hxu10 h0 m_h0).2.1.trans k_h0
  have m_h0 : h0 ∈ u10.1 := (hxu10 h0 m_h0).1
  have hp := PX.trans hp hxu10
  refine lv_istore_n (lv' := [(3, .int ru10), (2, .int ru6), (1, .int ru4), (0, .ref h0)]) hx hb dX2_readRoom_53 rfl hl (by decide) rfl (fun ls hl => ?_)
  refine lv_aload_n hx hb dX2_readRoom_54 rfl (lv_at hl 3 rfl) ?_
  refine pget (ci := 2) (v := va_rf (u10.2.2.2.2 h0 0)) (C := RX2) (T := TX2) (N := 2) hx hb hts i_X2 hown hK hP m_h0 (cF2 k_h0) rfl 0 (by decide) (hts (.fieldLink RX2 18 "BellowsRow$Parser" "tape" "LBellowsRow$Tape;") (by decide +kernel)) (fun _ h9 => h9) rfl dX2_readRoom_55 ?_
  obtain ⟨y11, qy11, m_y11, k_y11⟩ := (hu h0 m_h0).1 0 9 (by rw [k_h0]; rfl)
  refine W.eq (g2 := F0 m 58 ls [.ref y11]) (by rw [qy11]; rfl) ?_
  refine va_ldcS (own := RX2) (tx := "night") (q := tt.1 26) hx hb hown (hE.2.1 (RX2, 239, "night", 26) (by decide +kernel)) dX2_readRoom_58 ?_
  refine xvV (C := RX9) (As := [.ref (tt.1 26)]) (rest := []) ⟨hx, hb, hml, hown, hts⟩ (fun sz => t_X9_expect l D k tt u10 hu y11 m_y11 k_y11 26 (by decide) sz) (cwV 1 hts gX2_readRoom_X9_expect rfl rfl rfl (by decide +kernel) ⟨Nat.le_of_ble_eq_true rfl, Nat.le_of_ble_eq_true rfl⟩) hP hK hD hN hE hS hA (precv hK hP m_y11 (cF9 k_y11) rfl) rfl hl.1 rfl (Nat.le_of_ble_eq_true rfl) dX2_readRoom_60 ⟨Nat.le_of_ble_eq_true rfl, Nat.le_of_ble_eq_true rfl⟩ (fun u12 H locs hq hP hD hS => ?_)
  obtain ⟨hu, hxu12, hru12⟩ := hq
  have k_h0 : u12.2.1 h0 = 2 := (hxu12 h0 m_h0).2.1.trans k_h0
  have m_h0 : h0 ∈ u12.1 := (hxu12 h0 m_h0).1
  have hp := PX.trans hp hxu12
  refine lv_aload_n hx hb dX2_readRoom_63 rfl (lv_at hl 3 rfl) ?_
  refine pget (ci := 2) (v := va_rf (u12.2.2.2.2 h0 0)) (C := RX2) (T := TX2) (N := 2) hx hb hts i_X2 hown hK hP m_h0 (cF2 k_h0) rfl 0 (by decide) (hts (.fieldLink RX2 18 "BellowsRow$Parser" "tape" "LBellowsRow$Tape;") (by decide +kernel)) (fun _ h9 => h9) rfl dX2_readRoom_64 ?_
  obtain ⟨y13, qy13, m_y13, k_y13⟩ := (hu h0 m_h0).1 0 9 (by rw [k_h0]; rfl)
  refine W.eq (g2 := F0 m 67 ls [.ref y13]) (by rw [qy13]; rfl) ?_
  refine lv_iconst (v := 0) hx hb dX2_readRoom_67 (by decide) ?_
  refine lv_sipush (v := 999) hx hb dX2_readRoom_68 (by decide) ?_
  refine wiV (C := RX9) (As := [.int 0, .int 999]) (rest := []) ⟨hx, hb, hml, hown, hts⟩ (fun sz => t_X9_expectNumber l D k u12 hu y13 m_y13 k_y13 0 999 sz) (cwV 2 hts gX2_readRoom_X9_expectNumber rfl rfl rfl (by decide +kernel) ⟨Nat.le_of_ble_eq_true rfl, Nat.le_of_ble_eq_true rfl⟩) hP hK hD hN hS hA (precv hK hP m_y13 (cF9 k_y13) rfl) rfl hl.1 rfl (Nat.le_of_ble_eq_true rfl) dX2_readRoom_71 ⟨Nat.le_of_ble_eq_true rfl, Nat.le_of_ble_eq_true rfl⟩ (fun ru14 u14 H locs hq hP hD hS => ?_)
  obtain ⟨hu, hxu14, hru14⟩ := hq
  have k_h0 : u14.2.1 h0 = 2 := (hxu14 h0 m_h0).2.1.trans k_h0
  have m_h0 : h0 ∈ u14.1 := (hxu14 h0 m_h0).1
  have hp := PX.trans hp hxu14
  refine lv_istore (lv' := [(4, .int ru14), (3, .int ru10), (2, .int ru6), (1, .int ru4), (0, .ref h0)]) hx hb dX2_readRoom_74 hl (by decide) rfl (fun ls hl => ?_)
  refine lv_aload_n hx hb dX2_readRoom_76 rfl (lv_at hl 4 rfl) ?_
  refine pget (ci := 2) (v := va_rf (u14.2.2.2.2 h0 1)) (C := RX2) (T := TX2) (N := 2) hx hb hts i_X2 hown hK hP m_h0 (cF2 k_h0) rfl 1 (by decide) (hts (.fieldLink RX2 12 "BellowsRow$Parser" "works" "LBellowsRow$Works;") (by decide +kernel)) (fun _ h9 => h9) rfl dX2_readRoom_77 ?_
  obtain ⟨y15, qy15, m_y15, k_y15⟩ := (hu h0 m_h0).1 1 10 (by rw [k_h0]; rfl)
  refine W.eq (g2 := F0 m 80 ls [.ref y15]) (by rw [qy15]; rfl) ?_
  refine pget (ci := 10) (v := va_rf (u14.2.2.2.2 y15 1)) (C := RX10) (T := TX10) (N := 12) hx hb hts i_X10 hown hK hP m_y15 (cF10 k_y15) rfl 1 (by decide) (hts (.fieldLink RX2 118 "BellowsRow$Works" "rooms" "LBellowsRow$Rooms;") (by decide +kernel)) (fun _ h9 => h9) rfl dX2_readRoom_80 ?_
  obtain ⟨y16, qy16, m_y16, k_y16⟩ := (hu y15 m_y15).1 1 6 (by rw [k_y15]; rfl)
  refine W.eq (g2 := F0 m 83 ls [.ref y16]) (by rw [qy16]; rfl) ?_
  refine lv_iload_n hx hb dX2_readRoom_83 rfl (lv_at hl 3 rfl) ?_
  refine lv_iload_n hx hb dX2_readRoom_84 rfl (lv_at hl 2 rfl) ?_
  refine lv_iload_n hx hb dX2_readRoom_85 rfl (lv_at hl 1 rfl) ?_
  refine lv_iload hx hb dX2_readRoom_86 (lv_at hl 0 rfl) ?_
  refine lv_aload_n hx hb dX2_readRoom_88 rfl (lv_at hl 4 rfl) ?_
  refine pget (ci := 2) (v := va_rf (u14.2.2.2.2 h0 0)) (C := RX2) (T := TX2) (N := 2) hx hb hts i_X2 hown hK hP m_h0 (cF2 k_h0) rfl 0 (by decide) (hts (.fieldLink RX2 18 "BellowsRow$Parser" "tape" "LBellowsRow$Tape;") (by decide +kernel)) (fun _ h9 => h9) rfl dX2_readRoom_89 ?_
  obtain ⟨y17, qy17, m_y17, k_y17⟩ := (hu h0 m_h0).1 0 9 (by rw [k_h0]; rfl)
  refine W.eq (g2 := F0 m 92 ls [.ref y17, .int ru14, .int ru10, .int ru6, .int ru4, .ref y16]) (by rw [qy17]; rfl) ?_
  refine va_ldcS (own := RX2) (tx := "flame") (q := tt.1 27) hx hb hown (hE.2.1 (RX2, 241, "flame", 27) (by decide +kernel)) dX2_readRoom_92 ?_
  refine xiV (C := RX9) (As := [.ref (tt.1 27)]) (rest := [.int ru14, .int ru10, .int ru6, .int ru4, .ref y16]) ⟨hx, hb, hml, hown, hts⟩ (fun sz => t_X9_passes l D k tt u14 hu y17 m_y17 k_y17 27 (by decide) sz) (cwV 1 hts gX2_readRoom_X9_passes rfl rfl rfl (by decide +kernel) ⟨Nat.le_of_ble_eq_true rfl, Nat.le_of_ble_eq_true rfl⟩) hP hK hD hN hE hS hA (precv hK hP m_y17 (cF9 k_y17) rfl) rfl hl.1 rfl (Nat.le_of_ble_eq_true rfl) dX2_readRoom_94 ⟨Nat.le_of_ble_eq_true rfl, Nat.le_of_ble_eq_true rfl⟩ (fun ru18 u18 H locs hq hP hD hS => ?_)
  obtain ⟨hu, hxu18, hru18⟩ := hq
  have k_h0 : u18.2.1 h0 = 2 := (hxu18 h0 m_h0).2.1.trans k_h0
  have m_h0 : h0 ∈ u18.1 := (hxu18 h0 m_h0).1
  have k_y16 : u18.2.1 y16 = 6 := (hxu18 y16 m_y16).2.1.trans k_y16
  have m_y16 : y16 ∈ u18.1 := (hxu18 y16 m_y16).1
  have hp := PX.trans hp hxu18
  refine wvV (C := RX6) (As := [.int ru4, .int ru6, .int ru10, .int ru14, .int ru18]) (rest := []) ⟨hx, hb, hml, hown, hts⟩ (fun sz => t_X6_add l D k u18 hu y16 m_y16 k_y16 ru4 ru6 ru10 ru14 ru18 (by (try simp only [i_lt, i_le, i_eq, Int32.toInt_toInt64, Int32.reduceToInt, Int64.reduceToInt, true_and, and_true, false_and, and_false, false_or, or_false, true_or, or_true, not_true_eq_false, not_false_eq_true, ne_eq, forall_const, true_implies, false_implies, implies_true] at hru18 ⊢) <;> omega) sz) (cwV 5 hts gX2_readRoom_X6_add rfl rfl rfl (by decide +kernel) ⟨Nat.le_of_ble_eq_true rfl, Nat.le_of_ble_eq_true rfl⟩) hP hK hD hN hS hA (precv hK hP m_y16 (cF6 k_y16) rfl) rfl hl.1 rfl (Nat.le_of_ble_eq_true rfl) dX2_readRoom_97 ⟨Nat.le_of_ble_eq_true rfl, Nat.le_of_ble_eq_true rfl⟩ (fun u19 H locs hq hP hD hS => ?_)
  obtain ⟨hu, hxu19, hru19⟩ := hq
  have k_h0 : u19.2.1 h0 = 2 := (hxu19 h0 m_h0).2.1.trans k_h0
  have m_h0 : h0 ∈ u19.1 := (hxu19 h0 m_h0).1
  have hp := PX.trans hp hxu19
  exact W.vret hx hb hr (fun t ht hW => ⟨⟨u19, rfl, ⟨hu, hp, trivial⟩, by rw [ht]; exact hP, hD⟩, hS.F ht⟩) hS.2.2 dX2_readRoom_100
set_option maxHeartbeats 4000000 in
set_option maxRecDepth 100000 in
theorem t_X2_readPerson (l : Launch) (D : va_G) (k : Nat → ClassId) (tt : TT) (u0 : PSt) (hu : WT u0) (h0 : Nat) (m_h0 : h0 ∈ u0.1) (k_h0 : u0.2.1 h0 = 2) (sz : Nat) : Met l yX2_readPerson wsX2_readPerson ({ frames := 7, cells := 0, slots := 0, locals := 151 }) (PreT D k tt sz (PW k u0) [.ref h0]) (va_Qv (fun v => WT v ∧ PX u0 v ∧ True) (WB D (va_A (PW k u0) sz) (PW k)) (va_A (PW k u0) sz)) 0 0 (va_A (PW k u0) sz) := by
  refine Met.ofW (cc := cX2_readPerson) (maxL := 4) (ret := none) (by decide) rfl ?_
  intro p e s m args below meth c s₁ B hml hv
  obtain ⟨rfl, hsz, hP, hK, hD0, hN, hE0⟩ := hv
  have hx := B.exec
  have hb := B.bytes
  have hr := B.returns
  have hts := atoms_spec (ws := wsX2_readPerson) B.pre
  have hown : s.vm.findClass RX2 = some m.cls := findClass_of_methodNamed B.named
  have hlocks := B.notSynchronized
  have i_X10 : ∀ w ∈ wsX100, w ∈ wsX2_readPerson := by decide +kernel
  have i_X2 : ∀ w ∈ wsX20, w ∈ wsX2_readPerson := by decide +kernel
  subst hsz
  have hD := hD0.self (sz := s.heap.size)
  have hE := hE0
  generalize hAe : va_A (PW k u0) s.heap.size = A at hD hE ⊢
  have hA : ∀ q : Nat, s.heap.size ≤ q → A q := fun q h => by rw [← hAe]; exact Or.inr h
  have hS : va_S A s.heap s.heap [] := va_S.rf
  have hp : PX u0 u0 := PX.rf
  have B63 : ∀ (u : PSt) (H : Heap) (locs : List Loc) (ls : Array Slot) (v0 : Nat) (v1 : Int32) (v2 : Int32) (v3 : Int32), WT u → PX u0 u → va_P D vwCl (PW k u) H → va_D A (PW k u) → va_S A s.heap H locs → v0 ∈ u.1 → u.2.1 v0 = 2 → lv_has ls 4 [(0, .ref v0), (1, .int v1), (2, .int v2), (3, .int v3)] → W p l e (headSpec wsX2_readPerson ({ frames := 7, cells := 0, slots := 0, locals := 151 })).room s m ([.ref h0] : List Value).toArray below meth c H locs 0 0 (MQ below (va_Qv (fun v => WT v ∧ PX u0 v ∧ True) (WB D A (PW k)) A) ([.ref h0] : List Value).toArray s 0 0 A) (F0 m 63 ls []) := by
    intro u H locs ls v0 v1 v2 v3 hu hp hP hD hS m_v0 k_v0 hl
    refine lv_aload_n hx hb dX2_readPerson_63 rfl (lv_at hl 0 rfl) ?_
    refine pget (ci := 2) (v := va_rf (u.2.2.2.2 v0 1)) (C := RX2) (T := TX2) (N := 2) hx hb hts i_X2 hown hK hP m_v0 (cF2 k_v0) rfl 1 (by decide) (hts (.fieldLink RX2 12 "BellowsRow$Parser" "works" "LBellowsRow$Works;") (by decide +kernel)) (fun _ h9 => h9) rfl dX2_readPerson_64 ?_
    obtain ⟨y1, qy1, m_y1, k_y1⟩ := (hu v0 m_v0).1 1 10 (by rw [k_v0]; rfl)
    refine W.eq (g2 := F0 m 67 ls [.ref y1]) (by rw [qy1]; rfl) ?_
    refine pget (ci := 10) (v := va_rf (u.2.2.2.2 y1 2)) (C := RX10) (T := TX10) (N := 12) hx hb hts i_X10 hown hK hP m_y1 (cF10 k_y1) rfl 2 (by decide) (hts (.fieldLink RX2 127 "BellowsRow$Works" "people" "LBellowsRow$People;") (by decide +kernel)) (fun _ h9 => h9) rfl dX2_readPerson_67 ?_
    obtain ⟨y2, qy2, m_y2, k_y2⟩ := (hu y1 m_y1).1 2 4 (by rw [k_y1]; rfl)
    refine W.eq (g2 := F0 m 70 ls [.ref y2]) (by rw [qy2]; rfl) ?_
    refine lv_iload_n hx hb dX2_readPerson_70 rfl (lv_at hl 1 rfl) ?_
    refine lv_iload_n hx hb dX2_readPerson_71 rfl (lv_at hl 2 rfl) ?_
    refine lv_iload_n hx hb dX2_readPerson_72 rfl (lv_at hl 3 rfl) ?_
    refine wvV (C := RX4) (As := [.int v1, .int v2, .int v3]) (rest := []) ⟨hx, hb, hml, hown, hts⟩ (fun sz => t_X4_addPerson l D k u hu y2 m_y2 k_y2 v1 v2 v3 sz) (cwV 3 hts gX2_readPerson_X4_addPerson rfl rfl rfl (by decide +kernel) ⟨Nat.le_of_ble_eq_true rfl, Nat.le_of_ble_eq_true rfl⟩) hP hK hD hN hS hA (precv hK hP m_y2 (cF4 k_y2) rfl) rfl hl.1 rfl (Nat.le_of_ble_eq_true rfl) dX2_readPerson_73 ⟨Nat.le_of_ble_eq_true rfl, Nat.le_of_ble_eq_true rfl⟩ (fun u3 H locs hq hP hD hS => ?_)
    obtain ⟨hu, hxu3, hru3⟩ := hq
    have k_v0 : u3.2.1 v0 = 2 := (hxu3 v0 m_v0).2.1.trans k_v0
    have m_v0 : v0 ∈ u3.1 := (hxu3 v0 m_v0).1
    have hp := PX.trans hp hxu3
    exact W.vret hx hb hr (fun t ht hW => ⟨⟨u3, rfl, ⟨hu, hp, trivial⟩, by rw [ht]; exact hP, hD⟩, hS.F ht⟩) hS.2.2 dX2_readPerson_76
  have hl := lv_entry ([.ref h0]) (n := 4) (Nat.le_of_ble_eq_true rfl)
  rw [lg_entry_eq]
  generalize (lg_sl ([.ref h0]) ++ List.replicate (4 - (lg_sl ([.ref h0])).length) Slot.unset).toArray = ls at hl ⊢
  have hl : lv_has ls 4 [(0, .ref h0)] := hl
  refine lv_aload_n hx hb dX2_readPerson_0 rfl (lv_at hl 0 rfl) ?_
  refine pget (ci := 2) (v := va_rf (u0.2.2.2.2 h0 0)) (C := RX2) (T := TX2) (N := 2) hx hb hts i_X2 hown hK hP m_h0 (cF2 k_h0) rfl 0 (by decide) (hts (.fieldLink RX2 18 "BellowsRow$Parser" "tape" "LBellowsRow$Tape;") (by decide +kernel)) (fun _ h9 => h9) rfl dX2_readPerson_1 ?_
  obtain ⟨y4, qy4, m_y4, k_y4⟩ := (hu h0 m_h0).1 0 9 (by rw [k_h0]; rfl)
  refine W.eq (g2 := F0 m 4 ls [.ref y4]) (by rw [qy4]; rfl) ?_
  refine va_ldcS (own := RX2) (tx := "knows") (q := tt.1 28) hx hb hown (hE.2.1 (RX2, 246, "knows", 28) (by decide +kernel)) dX2_readPerson_4 ?_
  refine xvV (C := RX9) (As := [.ref (tt.1 28)]) (rest := []) ⟨hx, hb, hml, hown, hts⟩ (fun sz => t_X9_expect l D k tt u0 hu y4 m_y4 k_y4 28 (by decide) sz) (cwV 1 hts gX2_readPerson_X9_expect rfl rfl rfl (by decide +kernel) ⟨Nat.le_of_ble_eq_true rfl, Nat.le_of_ble_eq_true rfl⟩) hP hK hD hN hE hS hA (precv hK hP m_y4 (cF9 k_y4) rfl) rfl hl.1 rfl (Nat.le_of_ble_eq_true rfl) dX2_readPerson_6 ⟨Nat.le_of_ble_eq_true rfl, Nat.le_of_ble_eq_true rfl⟩ (fun u5 H locs hq hP hD hS => ?_)
  obtain ⟨hu, hxu5, hru5⟩ := hq
  have k_h0 : u5.2.1 h0 = 2 := (hxu5 h0 m_h0).2.1.trans k_h0
  have m_h0 : h0 ∈ u5.1 := (hxu5 h0 m_h0).1
  have hp := PX.trans hp hxu5
  refine lv_aload_n hx hb dX2_readPerson_9 rfl (lv_at hl 0 rfl) ?_
  refine xiV (C := RX2) (As := []) (rest := []) ⟨hx, hb, hml, hown, hts⟩ (fun sz => t_X2_expectSubjects l D k tt u5 hu h0 m_h0 k_h0  sz) (cwV 0 hts gX2_readPerson_X2_expectSubjects rfl rfl rfl (by decide +kernel) ⟨Nat.le_of_ble_eq_true rfl, Nat.le_of_ble_eq_true rfl⟩) hP hK hD hN hE hS hA (precv hK hP m_h0 (cF2 k_h0) rfl) rfl hl.1 rfl (Nat.le_of_ble_eq_true rfl) dX2_readPerson_10 ⟨Nat.le_of_ble_eq_true rfl, Nat.le_of_ble_eq_true rfl⟩ (fun ru6 u6 H locs hq hP hD hS => ?_)
  obtain ⟨hu, hxu6, hru6⟩ := hq
  have k_h0 : u6.2.1 h0 = 2 := (hxu6 h0 m_h0).2.1.trans k_h0
  have m_h0 : h0 ∈ u6.1 := (hxu6 h0 m_h0).1
  have hp := PX.trans hp hxu6
  refine lv_istore_n (lv' := [(1, .int ru6), (0, .ref h0)]) hx hb dX2_readPerson_13 rfl hl (by decide) rfl (fun ls hl => ?_)
  refine lv_iconst (v := 1) hx hb dX2_readPerson_14 (by decide) ?_
  refine lv_istore_n (lv' := [(2, .int 1), (1, .int ru6), (0, .ref h0)]) hx hb dX2_readPerson_15 rfl hl (by decide) rfl (fun ls hl => ?_)
  refine lv_iconst (v := 0) hx hb dX2_readPerson_16 (by decide) ?_
  refine lv_istore_n (lv' := [(3, .int 0), (2, .int 1), (1, .int ru6), (0, .ref h0)]) hx hb dX2_readPerson_17 rfl hl (by decide) rfl (fun ls hl => ?_)
  refine lv_aload_n hx hb dX2_readPerson_18 rfl (lv_at hl 3 rfl) ?_
  refine pget (ci := 2) (v := va_rf (u6.2.2.2.2 h0 0)) (C := RX2) (T := TX2) (N := 2) hx hb hts i_X2 hown hK hP m_h0 (cF2 k_h0) rfl 0 (by decide) (hts (.fieldLink RX2 18 "BellowsRow$Parser" "tape" "LBellowsRow$Tape;") (by decide +kernel)) (fun _ h9 => h9) rfl dX2_readPerson_19 ?_
  obtain ⟨y7, qy7, m_y7, k_y7⟩ := (hu h0 m_h0).1 0 9 (by rw [k_h0]; rfl)
  refine W.eq (g2 := F0 m 22 ls [.ref y7]) (by rw [qy7]; rfl) ?_
  refine va_ldcS (own := RX2) (tx := "away") (q := tt.1 29) hx hb hown (hE.2.1 (RX2, 251, "away", 29) (by decide +kernel)) dX2_readPerson_22 ?_
  refine xiV (C := RX9) (As := [.ref (tt.1 29)]) (rest := []) ⟨hx, hb, hml, hown, hts⟩ (fun sz => t_X9_passes l D k tt u6 hu y7 m_y7 k_y7 29 (by decide) sz) (cwV 1 hts gX2_readPerson_X9_passes rfl rfl rfl (by decide +kernel) ⟨Nat.le_of_ble_eq_true rfl, Nat.le_of_ble_eq_true rfl⟩) hP hK hD hN hE hS hA (precv hK hP m_y7 (cF9 k_y7) rfl) rfl hl.1 rfl (Nat.le_of_ble_eq_true rfl) dX2_readPerson_24 ⟨Nat.le_of_ble_eq_true rfl, Nat.le_of_ble_eq_true rfl⟩ (fun ru8 u8 H locs hq hP hD hS => ?_)
  obtain ⟨hu, hxu8, hru8⟩ := hq
  have k_h0 : u8.2.1 h0 = 2 := (hxu8 h0 m_h0).2.1.trans k_h0
  have m_h0 : h0 ∈ u8.1 := (hxu8 h0 m_h0).1
  have hp := PX.trans hp hxu8
  refine lv_if_eq (tgt := 63) hx hb dX2_readPerson_27 (by decide) (fun c9 => ?_) (fun c9 => ?_)
  · exact B63 _ _ _ ls h0 ru6 1 0 hu hp hP hD hS m_h0 k_h0 (lv_sub hl [3, 2, 1, 0] rfl)
  · refine lv_aload_n hx hb dX2_readPerson_30 rfl (lv_at hl 3 rfl) ?_
    refine pget (ci := 2) (v := va_rf (u8.2.2.2.2 h0 0)) (C := RX2) (T := TX2) (N := 2) hx hb hts i_X2 hown hK hP m_h0 (cF2 k_h0) rfl 0 (by decide) (hts (.fieldLink RX2 18 "BellowsRow$Parser" "tape" "LBellowsRow$Tape;") (by decide +kernel)) (fun _ h9 => h9) rfl dX2_readPerson_31 ?_
    obtain ⟨y10, qy10, m_y10, k_y10⟩ := (hu h0 m_h0).1 0 9 (by rw [k_h0]; rfl)
    refine W.eq (g2 := F0 m 34 ls [.ref y10]) (by rw [qy10]; rfl) ?_
    refine lv_iconst (v := 0) hx hb dX2_readPerson_34 (by decide) ?_
    refine lv_sipush (v := 999) hx hb dX2_readPerson_35 (by decide) ?_
    refine wiV (C := RX9) (As := [.int 0, .int 999]) (rest := []) ⟨hx, hb, hml, hown, hts⟩ (fun sz => t_X9_expectNumber l D k u8 hu y10 m_y10 k_y10 0 999 sz) (cwV 2 hts gX2_readPerson_X9_expectNumber rfl rfl rfl (by decide +kernel) ⟨Nat.le_of_ble_eq_true rfl, Nat.le_of_ble_eq_true rfl⟩) hP hK hD hN hS hA (precv hK hP m_y10 (cF9 k_y10) rfl) rfl hl.1 rfl (Nat.le_of_ble_eq_true rfl) dX2_readPerson_38 ⟨Nat.le_of_ble_eq_true rfl, Nat.le_of_ble_eq_true rfl⟩ (fun ru11 u11 H locs hq hP hD hS => ?_)
    obtain ⟨hu, hxu11, hru11⟩ := hq
    have k_h0 : u11.2.1 h0 = 2 := (hxu11 h0 m_h0).2.1.trans k_h0
    have m_h0 : h0 ∈ u11.1 := (hxu11 h0 m_h0).1
    have hp := PX.trans hp hxu11
    refine lv_istore_n (lv' := [(2, .int ru11), (3, .int 0), (1, .int ru6), (0, .ref h0)]) hx hb dX2_readPerson_41 rfl hl (by decide) rfl (fun ls hl => ?_)
    refine lv_aload_n hx hb dX2_readPerson_42 rfl (lv_at hl 3 rfl) ?_
    refine pget (ci := 2) (v := va_rf (u11.2.2.2.2 h0 0)) (C := RX2) (T := TX2) (N := 2) hx hb hts i_X2 hown hK hP m_h0 (cF2 k_h0) rfl 0 (by decide) (hts (.fieldLink RX2 18 "BellowsRow$Parser" "tape" "LBellowsRow$Tape;") (by decide +kernel)) (fun _ h9 => h9) rfl dX2_readPerson_43 ?_
    obtain ⟨y12, qy12, m_y12, k_y12⟩ := (hu h0 m_h0).1 0 9 (by rw [k_h0]; rfl)
    refine W.eq (g2 := F0 m 46 ls [.ref y12]) (by rw [qy12]; rfl) ?_
    refine va_ldcS (own := RX2) (tx := "to") (q := tt.1 11) hx hb hown (hE.2.1 (RX2, 154, "to", 11) (by decide +kernel)) dX2_readPerson_46 ?_
    refine xvV (C := RX9) (As := [.ref (tt.1 11)]) (rest := []) ⟨hx, hb, hml, hown, hts⟩ (fun sz => t_X9_expect l D k tt u11 hu y12 m_y12 k_y12 11 (by decide) sz) (cwV 1 hts gX2_readPerson_X9_expect rfl rfl rfl (by decide +kernel) ⟨Nat.le_of_ble_eq_true rfl, Nat.le_of_ble_eq_true rfl⟩) hP hK hD hN hE hS hA (precv hK hP m_y12 (cF9 k_y12) rfl) rfl hl.1 rfl (Nat.le_of_ble_eq_true rfl) dX2_readPerson_48 ⟨Nat.le_of_ble_eq_true rfl, Nat.le_of_ble_eq_true rfl⟩ (fun u13 H locs hq hP hD hS => ?_)
    obtain ⟨hu, hxu13, hru13⟩ := hq
    have k_h0 : u13.2.1 h0 = 2 := (hxu13 h0 m_h0).2.1.trans k_h0
    have m_h0 : h0 ∈ u13.1 := (hxu13 h0 m_h0).1
    have hp := PX.trans hp hxu13
    refine lv_aload_n hx hb dX2_readPerson_51 rfl (lv_at hl 3 rfl) ?_
    refine pget (ci := 2) (v := va_rf (u13.2.2.2.2 h0 0)) (C := RX2) (T := TX2) (N := 2) hx hb hts i_X2 hown hK hP m_h0 (cF2 k_h0) rfl 0 (by decide) (hts (.fieldLink RX2 18 "BellowsRow$Parser" "tape" "LBellowsRow$Tape;") (by decide +kernel)) (fun _ h9 => h9) rfl dX2_readPerson_52 ?_
    obtain ⟨y14, qy14, m_y14, k_y14⟩ := (hu h0 m_h0).1 0 9 (by rw [k_h0]; rfl)
    refine W.eq (g2 := F0 m 55 ls [.ref y14]) (by rw [qy14]; rfl) ?_
    refine lv_iload_n hx hb dX2_readPerson_55 rfl (lv_at hl 0 rfl) ?_
    refine lv_sipush (v := 999) hx hb dX2_readPerson_56 (by decide) ?_
    refine wiV (C := RX9) (As := [.int ru11, .int 999]) (rest := []) ⟨hx, hb, hml, hown, hts⟩ (fun sz => t_X9_expectNumber l D k u13 hu y14 m_y14 k_y14 ru11 999 sz) (cwV 2 hts gX2_readPerson_X9_expectNumber rfl rfl rfl (by decide +kernel) ⟨Nat.le_of_ble_eq_true rfl, Nat.le_of_ble_eq_true rfl⟩) hP hK hD hN hS hA (precv hK hP m_y14 (cF9 k_y14) rfl) rfl hl.1 rfl (Nat.le_of_ble_eq_true rfl) dX2_readPerson_59 ⟨Nat.le_of_ble_eq_true rfl, Nat.le_of_ble_eq_true rfl⟩ (fun ru15 u15 H locs hq hP hD hS => ?_)
    obtain ⟨hu, hxu15, hru15⟩ := hq
    have k_h0 : u15.2.1 h0 = 2 := (hxu15 h0 m_h0).2.1.trans k_h0
    have m_h0 : h0 ∈ u15.1 := (hxu15 h0 m_h0).1
    have hp := PX.trans hp hxu15
    refine lv_istore_n (lv' := [(3, .int ru15), (2, .int ru11), (1, .int ru6), (0, .ref h0)]) hx hb dX2_readPerson_62 rfl hl (by decide) rfl (fun ls hl => ?_)
    exact B63 _ _ _ ls h0 ru6 ru11 ru15 hu hp hP hD hS m_h0 k_h0 (lv_sub hl [3, 2, 1, 0] rfl)
set_option maxHeartbeats 4000000 in
set_option maxRecDepth 100000 in
theorem t_X2_readRule (l : Launch) (D : va_G) (k : Nat → ClassId) (tt : TT) (u0 : PSt) (hu : WT u0) (h0 : Nat) (m_h0 : h0 ∈ u0.1) (k_h0 : u0.2.1 h0 = 2) (sz : Nat) : Met l yX2_readRule wsX2_readRule ({ frames := 7, cells := 0, slots := 0, locals := 151 }) (PreT D k tt sz (PW k u0) [.ref h0]) (va_Qv (fun v => WT v ∧ PX u0 v ∧ True) (WB D (va_A (PW k u0) sz) (PW k)) (va_A (PW k u0) sz)) 0 0 (va_A (PW k u0) sz) := by
  refine Met.ofW (cc := cX2_readRule) (maxL := 2) (ret := none) (by decide) rfl ?_
  intro p e s m args below meth c s₁ B hml hv
  obtain ⟨rfl, hsz, hP, hK, hD0, hN, hE0⟩ := hv
  have hx := B.exec
  have hb := B.bytes
  have hr := B.returns
  have hts := atoms_spec (ws := wsX2_readRule) B.pre
  have hown : s.vm.findClass RX2 = some m.cls := findClass_of_methodNamed B.named
  have hlocks := B.notSynchronized
  have i_X10 : ∀ w ∈ wsX100, w ∈ wsX2_readRule := by decide +kernel
  have i_X2 : ∀ w ∈ wsX20, w ∈ wsX2_readRule := by decide +kernel
  subst hsz
  have hD := hD0.self (sz := s.heap.size)
  have hE := hE0
  generalize hAe : va_A (PW k u0) s.heap.size = A at hD hE ⊢
  have hA : ∀ q : Nat, s.heap.size ≤ q → A q := fun q h => by rw [← hAe]; exact Or.inr h
  have hS : va_S A s.heap s.heap [] := va_S.rf
  have hp : PX u0 u0 := PX.rf
  have hl := lv_entry ([.ref h0]) (n := 2) (Nat.le_of_ble_eq_true rfl)
  rw [lg_entry_eq]
  generalize (lg_sl ([.ref h0]) ++ List.replicate (2 - (lg_sl ([.ref h0])).length) Slot.unset).toArray = ls at hl ⊢
  have hl : lv_has ls 2 [(0, .ref h0)] := hl
  refine lv_aload_n hx hb dX2_readRule_0 rfl (lv_at hl 0 rfl) ?_
  refine xiV (C := RX2) (As := []) (rest := []) ⟨hx, hb, hml, hown, hts⟩ (fun sz => t_X2_expectKind l D k tt u0 hu h0 m_h0 k_h0  sz) (cwV 0 hts gX2_readRule_X2_expectKind rfl rfl rfl (by decide +kernel) ⟨Nat.le_of_ble_eq_true rfl, Nat.le_of_ble_eq_true rfl⟩) hP hK hD hN hE hS hA (precv hK hP m_h0 (cF2 k_h0) rfl) rfl hl.1 rfl (Nat.le_of_ble_eq_true rfl) dX2_readRule_1 ⟨Nat.le_of_ble_eq_true rfl, Nat.le_of_ble_eq_true rfl⟩ (fun ru1 u1 H locs hq hP hD hS => ?_)
  obtain ⟨hu, hxu1, hru1⟩ := hq
  have k_h0 : u1.2.1 h0 = 2 := (hxu1 h0 m_h0).2.1.trans k_h0
  have m_h0 : h0 ∈ u1.1 := (hxu1 h0 m_h0).1
  have hp := PX.trans hp hxu1
  refine lv_istore_n (lv' := [(1, .int ru1), (0, .ref h0)]) hx hb dX2_readRule_4 rfl hl (by decide) rfl (fun ls hl => ?_)
  refine lv_aload_n hx hb dX2_readRule_5 rfl (lv_at hl 1 rfl) ?_
  refine pget (ci := 2) (v := va_rf (u1.2.2.2.2 h0 0)) (C := RX2) (T := TX2) (N := 2) hx hb hts i_X2 hown hK hP m_h0 (cF2 k_h0) rfl 0 (by decide) (hts (.fieldLink RX2 18 "BellowsRow$Parser" "tape" "LBellowsRow$Tape;") (by decide +kernel)) (fun _ h9 => h9) rfl dX2_readRule_6 ?_
  obtain ⟨y2, qy2, m_y2, k_y2⟩ := (hu h0 m_h0).1 0 9 (by rw [k_h0]; rfl)
  refine W.eq (g2 := F0 m 9 ls [.ref y2]) (by rw [qy2]; rfl) ?_
  refine va_ldcSw (own := RX2) (tx := "asks") (q := tt.1 30) hx hb hown (hE.2.1 (RX2, 259, "asks", 30) (by decide +kernel)) dX2_readRule_9 ?_
  refine xvV (C := RX9) (As := [.ref (tt.1 30)]) (rest := []) ⟨hx, hb, hml, hown, hts⟩ (fun sz => t_X9_expect l D k tt u1 hu y2 m_y2 k_y2 30 (by decide) sz) (cwV 1 hts gX2_readRule_X9_expect rfl rfl rfl (by decide +kernel) ⟨Nat.le_of_ble_eq_true rfl, Nat.le_of_ble_eq_true rfl⟩) hP hK hD hN hE hS hA (precv hK hP m_y2 (cF9 k_y2) rfl) rfl hl.1 rfl (Nat.le_of_ble_eq_true rfl) dX2_readRule_12 ⟨Nat.le_of_ble_eq_true rfl, Nat.le_of_ble_eq_true rfl⟩ (fun u3 H locs hq hP hD hS => ?_)
  obtain ⟨hu, hxu3, hru3⟩ := hq
  have k_h0 : u3.2.1 h0 = 2 := (hxu3 h0 m_h0).2.1.trans k_h0
  have m_h0 : h0 ∈ u3.1 := (hxu3 h0 m_h0).1
  have hp := PX.trans hp hxu3
  refine lv_aload_n hx hb dX2_readRule_15 rfl (lv_at hl 1 rfl) ?_
  refine pget (ci := 2) (v := va_rf (u3.2.2.2.2 h0 1)) (C := RX2) (T := TX2) (N := 2) hx hb hts i_X2 hown hK hP m_h0 (cF2 k_h0) rfl 1 (by decide) (hts (.fieldLink RX2 12 "BellowsRow$Parser" "works" "LBellowsRow$Works;") (by decide +kernel)) (fun _ h9 => h9) rfl dX2_readRule_16 ?_
  obtain ⟨y4, qy4, m_y4, k_y4⟩ := (hu h0 m_h0).1 1 10 (by rw [k_h0]; rfl)
  refine W.eq (g2 := F0 m 19 ls [.ref y4]) (by rw [qy4]; rfl) ?_
  refine pget (ci := 10) (v := va_rf (u3.2.2.2.2 y4 2)) (C := RX10) (T := TX10) (N := 12) hx hb hts i_X10 hown hK hP m_y4 (cF10 k_y4) rfl 2 (by decide) (hts (.fieldLink RX2 127 "BellowsRow$Works" "people" "LBellowsRow$People;") (by decide +kernel)) (fun _ h9 => h9) rfl dX2_readRule_19 ?_
  obtain ⟨y5, qy5, m_y5, k_y5⟩ := (hu y4 m_y4).1 2 4 (by rw [k_y4]; rfl)
  refine W.eq (g2 := F0 m 22 ls [.ref y5]) (by rw [qy5]; rfl) ?_
  refine lv_iload_n hx hb dX2_readRule_22 rfl (lv_at hl 0 rfl) ?_
  refine lv_aload_n hx hb dX2_readRule_23 rfl (lv_at hl 1 rfl) ?_
  refine xiV (C := RX2) (As := []) (rest := [.int ru1, .ref y5]) ⟨hx, hb, hml, hown, hts⟩ (fun sz => t_X2_expectSubjects l D k tt u3 hu h0 m_h0 k_h0  sz) (cwV 0 hts gX2_readRule_X2_expectSubjects rfl rfl rfl (by decide +kernel) ⟨Nat.le_of_ble_eq_true rfl, Nat.le_of_ble_eq_true rfl⟩) hP hK hD hN hE hS hA (precv hK hP m_h0 (cF2 k_h0) rfl) rfl hl.1 rfl (Nat.le_of_ble_eq_true rfl) dX2_readRule_24 ⟨Nat.le_of_ble_eq_true rfl, Nat.le_of_ble_eq_true rfl⟩ (fun ru6 u6 H locs hq hP hD hS => ?_)
  obtain ⟨hu, hxu6, hru6⟩ := hq
  have k_h0 : u6.2.1 h0 = 2 := (hxu6 h0 m_h0).2.1.trans k_h0
  have m_h0 : h0 ∈ u6.1 := (hxu6 h0 m_h0).1
  have k_y5 : u6.2.1 y5 = 4 := (hxu6 y5 m_y5).2.1.trans k_y5
  have m_y5 : y5 ∈ u6.1 := (hxu6 y5 m_y5).1
  have hp := PX.trans hp hxu6
  refine wvV (C := RX4) (As := [.int ru1, .int ru6]) (rest := []) ⟨hx, hb, hml, hown, hts⟩ (fun sz => t_X4_addRule l D k u6 hu y5 m_y5 k_y5 ru1 ru6 sz) (cwV 2 hts gX2_readRule_X4_addRule rfl rfl rfl (by decide +kernel) ⟨Nat.le_of_ble_eq_true rfl, Nat.le_of_ble_eq_true rfl⟩) hP hK hD hN hS hA (precv hK hP m_y5 (cF4 k_y5) rfl) rfl hl.1 rfl (Nat.le_of_ble_eq_true rfl) dX2_readRule_27 ⟨Nat.le_of_ble_eq_true rfl, Nat.le_of_ble_eq_true rfl⟩ (fun u7 H locs hq hP hD hS => ?_)
  obtain ⟨hu, hxu7, hru7⟩ := hq
  have k_h0 : u7.2.1 h0 = 2 := (hxu7 h0 m_h0).2.1.trans k_h0
  have m_h0 : h0 ∈ u7.1 := (hxu7 h0 m_h0).1
  have hp := PX.trans hp hxu7
  exact W.vret hx hb hr (fun t ht hW => ⟨⟨u7, rfl, ⟨hu, hp, trivial⟩, by rw [ht]; exact hP, hD⟩, hS.F ht⟩) hS.2.2 dX2_readRule_30
set_option maxHeartbeats 4000000 in
set_option maxRecDepth 100000 in
theorem t_X2_readChange (l : Launch) (D : va_G) (k : Nat → ClassId) (tt : TT) (u0 : PSt) (hu : WT u0) (h0 : Nat) (m_h0 : h0 ∈ u0.1) (k_h0 : u0.2.1 h0 = 2) (sz : Nat) : Met l yX2_readChange wsX2_readChange ({ frames := 7, cells := 0, slots := 0, locals := 151 }) (PreT D k tt sz (PW k u0) [.ref h0]) (va_Qv (fun v => WT v ∧ PX u0 v ∧ True) (WB D (va_A (PW k u0) sz) (PW k)) (va_A (PW k u0) sz)) 0 0 (va_A (PW k u0) sz) := by
  refine Met.ofW (cc := cX2_readChange) (maxL := 3) (ret := none) (by decide) rfl ?_
  intro p e s m args below meth c s₁ B hml hv
  obtain ⟨rfl, hsz, hP, hK, hD0, hN, hE0⟩ := hv
  have hx := B.exec
  have hb := B.bytes
  have hr := B.returns
  have hts := atoms_spec (ws := wsX2_readChange) B.pre
  have hown : s.vm.findClass RX2 = some m.cls := findClass_of_methodNamed B.named
  have hlocks := B.notSynchronized
  have i_X10 : ∀ w ∈ wsX100, w ∈ wsX2_readChange := by decide +kernel
  have i_X2 : ∀ w ∈ wsX20, w ∈ wsX2_readChange := by decide +kernel
  subst hsz
  have hD := hD0.self (sz := s.heap.size)
  have hE := hE0
  generalize hAe : va_A (PW k u0) s.heap.size = A at hD hE ⊢
  have hA : ∀ q : Nat, s.heap.size ≤ q → A q := fun q h => by rw [← hAe]; exact Or.inr h
  have hS : va_S A s.heap s.heap [] := va_S.rf
  have hp : PX u0 u0 := PX.rf
  have hl := lv_entry ([.ref h0]) (n := 3) (Nat.le_of_ble_eq_true rfl)
  rw [lg_entry_eq]
  generalize (lg_sl ([.ref h0]) ++ List.replicate (3 - (lg_sl ([.ref h0])).length) Slot.unset).toArray = ls at hl ⊢
  have hl : lv_has ls 3 [(0, .ref h0)] := hl
  refine lv_aload_n hx hb dX2_readChange_0 rfl (lv_at hl 0 rfl) ?_
  refine xiV (C := RX2) (As := []) (rest := []) ⟨hx, hb, hml, hown, hts⟩ (fun sz => t_X2_expectKind l D k tt u0 hu h0 m_h0 k_h0  sz) (cwV 0 hts gX2_readChange_X2_expectKind rfl rfl rfl (by decide +kernel) ⟨Nat.le_of_ble_eq_true rfl, Nat.le_of_ble_eq_true rfl⟩) hP hK hD hN hE hS hA (precv hK hP m_h0 (cF2 k_h0) rfl) rfl hl.1 rfl (Nat.le_of_ble_eq_true rfl) dX2_readChange_1 ⟨Nat.le_of_ble_eq_true rfl, Nat.le_of_ble_eq_true rfl⟩ (fun ru1 u1 H locs hq hP hD hS => ?_)
  obtain ⟨hu, hxu1, hru1⟩ := hq
  have k_h0 : u1.2.1 h0 = 2 := (hxu1 h0 m_h0).2.1.trans k_h0
  have m_h0 : h0 ∈ u1.1 := (hxu1 h0 m_h0).1
  have hp := PX.trans hp hxu1
  refine lv_istore_n (lv' := [(1, .int ru1), (0, .ref h0)]) hx hb dX2_readChange_4 rfl hl (by decide) rfl (fun ls hl => ?_)
  refine lv_aload_n hx hb dX2_readChange_5 rfl (lv_at hl 1 rfl) ?_
  refine pget (ci := 2) (v := va_rf (u1.2.2.2.2 h0 0)) (C := RX2) (T := TX2) (N := 2) hx hb hts i_X2 hown hK hP m_h0 (cF2 k_h0) rfl 0 (by decide) (hts (.fieldLink RX2 18 "BellowsRow$Parser" "tape" "LBellowsRow$Tape;") (by decide +kernel)) (fun _ h9 => h9) rfl dX2_readChange_6 ?_
  obtain ⟨y2, qy2, m_y2, k_y2⟩ := (hu h0 m_h0).1 0 9 (by rw [k_h0]; rfl)
  refine W.eq (g2 := F0 m 9 ls [.ref y2]) (by rw [qy2]; rfl) ?_
  refine va_ldcS (own := RX2) (tx := "day") (q := tt.1 25) hx hb hown (hE.2.1 (RX2, 237, "day", 25) (by decide +kernel)) dX2_readChange_9 ?_
  refine xvV (C := RX9) (As := [.ref (tt.1 25)]) (rest := []) ⟨hx, hb, hml, hown, hts⟩ (fun sz => t_X9_expect l D k tt u1 hu y2 m_y2 k_y2 25 (by decide) sz) (cwV 1 hts gX2_readChange_X9_expect rfl rfl rfl (by decide +kernel) ⟨Nat.le_of_ble_eq_true rfl, Nat.le_of_ble_eq_true rfl⟩) hP hK hD hN hE hS hA (precv hK hP m_y2 (cF9 k_y2) rfl) rfl hl.1 rfl (Nat.le_of_ble_eq_true rfl) dX2_readChange_11 ⟨Nat.le_of_ble_eq_true rfl, Nat.le_of_ble_eq_true rfl⟩ (fun u3 H locs hq hP hD hS => ?_)
  obtain ⟨hu, hxu3, hru3⟩ := hq
  have k_h0 : u3.2.1 h0 = 2 := (hxu3 h0 m_h0).2.1.trans k_h0
  have m_h0 : h0 ∈ u3.1 := (hxu3 h0 m_h0).1
  have hp := PX.trans hp hxu3
  refine lv_aload_n hx hb dX2_readChange_14 rfl (lv_at hl 1 rfl) ?_
  refine pget (ci := 2) (v := va_rf (u3.2.2.2.2 h0 0)) (C := RX2) (T := TX2) (N := 2) hx hb hts i_X2 hown hK hP m_h0 (cF2 k_h0) rfl 0 (by decide) (hts (.fieldLink RX2 18 "BellowsRow$Parser" "tape" "LBellowsRow$Tape;") (by decide +kernel)) (fun _ h9 => h9) rfl dX2_readChange_15 ?_
  obtain ⟨y4, qy4, m_y4, k_y4⟩ := (hu h0 m_h0).1 0 9 (by rw [k_h0]; rfl)
  refine W.eq (g2 := F0 m 18 ls [.ref y4]) (by rw [qy4]; rfl) ?_
  refine lv_iconst (v := 0) hx hb dX2_readChange_18 (by decide) ?_
  refine lv_sipush (v := 999) hx hb dX2_readChange_19 (by decide) ?_
  refine wiV (C := RX9) (As := [.int 0, .int 999]) (rest := []) ⟨hx, hb, hml, hown, hts⟩ (fun sz => t_X9_expectNumber l D k u3 hu y4 m_y4 k_y4 0 999 sz) (cwV 2 hts gX2_readChange_X9_expectNumber rfl rfl rfl (by decide +kernel) ⟨Nat.le_of_ble_eq_true rfl, Nat.le_of_ble_eq_true rfl⟩) hP hK hD hN hS hA (precv hK hP m_y4 (cF9 k_y4) rfl) rfl hl.1 rfl (Nat.le_of_ble_eq_true rfl) dX2_readChange_22 ⟨Nat.le_of_ble_eq_true rfl, Nat.le_of_ble_eq_true rfl⟩ (fun ru5 u5 H locs hq hP hD hS => ?_)
  obtain ⟨hu, hxu5, hru5⟩ := hq
  have k_h0 : u5.2.1 h0 = 2 := (hxu5 h0 m_h0).2.1.trans k_h0
  have m_h0 : h0 ∈ u5.1 := (hxu5 h0 m_h0).1
  have hp := PX.trans hp hxu5
  refine lv_istore_n (lv' := [(2, .int ru5), (1, .int ru1), (0, .ref h0)]) hx hb dX2_readChange_25 rfl hl (by decide) rfl (fun ls hl => ?_)
  refine lv_aload_n hx hb dX2_readChange_26 rfl (lv_at hl 2 rfl) ?_
  refine pget (ci := 2) (v := va_rf (u5.2.2.2.2 h0 0)) (C := RX2) (T := TX2) (N := 2) hx hb hts i_X2 hown hK hP m_h0 (cF2 k_h0) rfl 0 (by decide) (hts (.fieldLink RX2 18 "BellowsRow$Parser" "tape" "LBellowsRow$Tape;") (by decide +kernel)) (fun _ h9 => h9) rfl dX2_readChange_27 ?_
  obtain ⟨y6, qy6, m_y6, k_y6⟩ := (hu h0 m_h0).1 0 9 (by rw [k_h0]; rfl)
  refine W.eq (g2 := F0 m 30 ls [.ref y6]) (by rw [qy6]; rfl) ?_
  refine va_ldcSw (own := RX2) (tx := "needs") (q := tt.1 31) hx hb hown (hE.2.1 (RX2, 264, "needs", 31) (by decide +kernel)) dX2_readChange_30 ?_
  refine xvV (C := RX9) (As := [.ref (tt.1 31)]) (rest := []) ⟨hx, hb, hml, hown, hts⟩ (fun sz => t_X9_expect l D k tt u5 hu y6 m_y6 k_y6 31 (by decide) sz) (cwV 1 hts gX2_readChange_X9_expect rfl rfl rfl (by decide +kernel) ⟨Nat.le_of_ble_eq_true rfl, Nat.le_of_ble_eq_true rfl⟩) hP hK hD hN hE hS hA (precv hK hP m_y6 (cF9 k_y6) rfl) rfl hl.1 rfl (Nat.le_of_ble_eq_true rfl) dX2_readChange_33 ⟨Nat.le_of_ble_eq_true rfl, Nat.le_of_ble_eq_true rfl⟩ (fun u7 H locs hq hP hD hS => ?_)
  obtain ⟨hu, hxu7, hru7⟩ := hq
  have k_h0 : u7.2.1 h0 = 2 := (hxu7 h0 m_h0).2.1.trans k_h0
  have m_h0 : h0 ∈ u7.1 := (hxu7 h0 m_h0).1
  have hp := PX.trans hp hxu7
  refine lv_aload_n hx hb dX2_readChange_36 rfl (lv_at hl 2 rfl) ?_
  refine pget (ci := 2) (v := va_rf (u7.2.2.2.2 h0 1)) (C := RX2) (T := TX2) (N := 2) hx hb hts i_X2 hown hK hP m_h0 (cF2 k_h0) rfl 1 (by decide) (hts (.fieldLink RX2 12 "BellowsRow$Parser" "works" "LBellowsRow$Works;") (by decide +kernel)) (fun _ h9 => h9) rfl dX2_readChange_37 ?_
  obtain ⟨y8, qy8, m_y8, k_y8⟩ := (hu h0 m_h0).1 1 10 (by rw [k_h0]; rfl)
  refine W.eq (g2 := F0 m 40 ls [.ref y8]) (by rw [qy8]; rfl) ?_
  refine pget (ci := 10) (v := va_rf (u7.2.2.2.2 y8 2)) (C := RX10) (T := TX10) (N := 12) hx hb hts i_X10 hown hK hP m_y8 (cF10 k_y8) rfl 2 (by decide) (hts (.fieldLink RX2 127 "BellowsRow$Works" "people" "LBellowsRow$People;") (by decide +kernel)) (fun _ h9 => h9) rfl dX2_readChange_40 ?_
  obtain ⟨y9, qy9, m_y9, k_y9⟩ := (hu y8 m_y8).1 2 4 (by rw [k_y8]; rfl)
  refine W.eq (g2 := F0 m 43 ls [.ref y9]) (by rw [qy9]; rfl) ?_
  refine lv_iload_n hx hb dX2_readChange_43 rfl (lv_at hl 1 rfl) ?_
  refine lv_iload_n hx hb dX2_readChange_44 rfl (lv_at hl 0 rfl) ?_
  refine lv_aload_n hx hb dX2_readChange_45 rfl (lv_at hl 2 rfl) ?_
  refine xiV (C := RX2) (As := []) (rest := [.int ru5, .int ru1, .ref y9]) ⟨hx, hb, hml, hown, hts⟩ (fun sz => t_X2_expectSubjects l D k tt u7 hu h0 m_h0 k_h0  sz) (cwV 0 hts gX2_readChange_X2_expectSubjects rfl rfl rfl (by decide +kernel) ⟨Nat.le_of_ble_eq_true rfl, Nat.le_of_ble_eq_true rfl⟩) hP hK hD hN hE hS hA (precv hK hP m_h0 (cF2 k_h0) rfl) rfl hl.1 rfl (Nat.le_of_ble_eq_true rfl) dX2_readChange_46 ⟨Nat.le_of_ble_eq_true rfl, Nat.le_of_ble_eq_true rfl⟩ (fun ru10 u10 H locs hq hP hD hS => ?_)
  obtain ⟨hu, hxu10, hru10⟩ := hq
  have k_h0 : u10.2.1 h0 = 2 := (hxu10 h0 m_h0).2.1.trans k_h0
  have m_h0 : h0 ∈ u10.1 := (hxu10 h0 m_h0).1
  have k_y9 : u10.2.1 y9 = 4 := (hxu10 y9 m_y9).2.1.trans k_y9
  have m_y9 : y9 ∈ u10.1 := (hxu10 y9 m_y9).1
  have hp := PX.trans hp hxu10
  refine wvV (C := RX4) (As := [.int ru1, .int ru5, .int ru10]) (rest := []) ⟨hx, hb, hml, hown, hts⟩ (fun sz => t_X4_addChange l D k u10 hu y9 m_y9 k_y9 ru1 ru5 ru10 sz) (cwV 3 hts gX2_readChange_X4_addChange rfl rfl rfl (by decide +kernel) ⟨Nat.le_of_ble_eq_true rfl, Nat.le_of_ble_eq_true rfl⟩) hP hK hD hN hS hA (precv hK hP m_y9 (cF4 k_y9) rfl) rfl hl.1 rfl (Nat.le_of_ble_eq_true rfl) dX2_readChange_49 ⟨Nat.le_of_ble_eq_true rfl, Nat.le_of_ble_eq_true rfl⟩ (fun u11 H locs hq hP hD hS => ?_)
  obtain ⟨hu, hxu11, hru11⟩ := hq
  have k_h0 : u11.2.1 h0 = 2 := (hxu11 h0 m_h0).2.1.trans k_h0
  have m_h0 : h0 ∈ u11.1 := (hxu11 h0 m_h0).1
  have hp := PX.trans hp hxu11
  exact W.vret hx hb hr (fun t ht hW => ⟨⟨u11, rfl, ⟨hu, hp, trivial⟩, by rw [ht]; exact hP, hD⟩, hS.F ht⟩) hS.2.2 dX2_readChange_52
