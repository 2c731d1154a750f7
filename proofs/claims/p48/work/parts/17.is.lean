def isQ (u : PSt) (h0 w n : Nat) : Prop := (u.2.2.1 h0 12).toInt = 0 ∧ (u.2.2.1 h0 10).toInt = 1 ∧ (u.2.2.1 h0 8).toInt - (u.2.2.1 h0 9).toInt = (lenTX.getD w 0 : Nat) ∧ ∀ j : Nat, j < n → u.2.2.1 (ar u h0 4) ((u.2.2.1 h0 9).toInt.toNat + j) = chTX w j
def isP (u : PSt) (h0 w : Nat) : Prop := isQ u h0 w (lenTX.getD w 0)
set_option maxHeartbeats 4000000 in
set_option maxRecDepth 100000 in
theorem t_X12_is (l : Launch) (D : va_G) (k : Nat → ClassId) (tt : TT) (u0 : PSt) (hu : WT u0) (h0 : Nat) (m_h0 : h0 ∈ u0.1) (k_h0 : u0.2.1 h0 = 12) (w : Nat) (hw : w < nTX) (sz : Nat) : Met l yX12_is wsX12_is ({ frames := 4, cells := 0, slots := 0, locals := 85 }) (PreT D k tt sz (PW k u0) [.ref h0, .ref (tt.1 w)]) (va_Qi (fun r v => WT v ∧ PX u0 v ∧ v = u0 ∧ ((r.toInt = 0 ∧ ¬ isP u0 h0 w) ∨ (r.toInt = 1 ∧ isP u0 h0 w ∧ (u0.2.2.1 h0 12).toInt = 0 ∧ (u0.2.2.1 h0 9).toInt < (u0.2.2.1 h0 8).toInt ∧ (u0.2.2.1 h0 8).toInt ≤ 1600))) (WB D (va_A (PW k u0) sz) (PW k)) (va_A (PW k u0) sz)) 0 0 (va_A (PW k u0) sz) := by
  refine Met.ofW (cc := cX12_is) (maxL := 4) (ret := (some .boolean)) (by decide) rfl ?_
  intro p e s m args below meth c s₁ B hml hv
  obtain ⟨rfl, hsz, hP, hK, hD0, hN, hE0⟩ := hv
  have hx := B.exec
  have hb := B.bytes
  have hr := B.returns
  have hts := atoms_spec (ws := wsX12_is) B.pre
  have hown : s.vm.findClass RX12 = some m.cls := findClass_of_methodNamed B.named
  have hlocks := B.notSynchronized
  have i_X12 : ∀ w ∈ wsX120, w ∈ wsX12_is := by decide +kernel
  obtain ⟨a4, q0_4, m_a4, k_a4⟩ := (hu h0 m_h0).1 4 54 (by rw [k_h0]; rfl)
  subst hsz
  have hD := hD0.self (sz := s.heap.size)
  have hE := hE0
  generalize hAe : va_A (PW k u0) s.heap.size = A at hD hE ⊢
  have hS : va_S A s.heap s.heap [] := va_S.rf
  have hp : PX u0 u0 := PX.rf
  have hlen := tx_len w hw
  have hN9 : (nI (lenTX.getD w 0)).toInt = lenTX.getD w 0 := nI_toInt (by omega)
  have g8 := (hu h0 m_h0).2.2.2 8
  rw [k_h0] at g8
  replace g8 : 0 ≤ (u0.2.2.1 h0 8).toInt ∧ (u0.2.2.1 h0 8).toInt ≤ 1600 := g8
  have g9 := (hu h0 m_h0).2.2.2 9
  rw [k_h0] at g9
  replace g9 : 0 ≤ (u0.2.2.1 h0 9).toInt ∧ (u0.2.2.1 h0 9).toInt ≤ 1600 := g9
  have B39 : ∀ (n : Nat) (ls : Array Slot) (v2 v3 : Int32), (8 - v3.toInt).toNat ≤ n → 0 ≤ v3.toInt → v3.toInt ≤ lenTX.getD w 0 → ((v2.toInt = 0 ∧ ¬ isP u0 h0 w) ∨ (v2.toInt = 1 ∧ isQ u0 h0 w v3.toInt.toNat)) → lv_has ls 4 [(0, .ref h0), (1, .ref (tt.1 w)), (2, .int v2), (3, .int v3)] → W p l e (headSpec wsX12_is ({ frames := 4, cells := 0, slots := 0, locals := 85 })).room s m ([.ref h0, .ref (tt.1 w)] : List Value).toArray below meth c s.heap [] 0 0 (MQ below (va_Qi (fun r v => WT v ∧ PX u0 v ∧ v = u0 ∧ ((r.toInt = 0 ∧ ¬ isP u0 h0 w) ∨ (r.toInt = 1 ∧ isP u0 h0 w ∧ (u0.2.2.1 h0 12).toInt = 0 ∧ (u0.2.2.1 h0 9).toInt < (u0.2.2.1 h0 8).toInt ∧ (u0.2.2.1 h0 8).toInt ≤ 1600))) (WB D A (PW k)) A) ([.ref h0, .ref (tt.1 w)] : List Value).toArray s 0 0 A) (F0 m 39 ls []) := by
    intro n
    induction n with
    | zero =>
      intro ls v2 v3 hn h3 h3l hi hl
      exact absurd hn (by omega)
    | succ n ih =>
      intro ls v2 v3 hn h3 h3l hi hl
      have fin : ((v2.toInt = 0 ∧ ¬ isP u0 h0 w) ∨ (v2.toInt = 1 ∧ isP u0 h0 w ∧ (u0.2.2.1 h0 12).toInt = 0 ∧ (u0.2.2.1 h0 9).toInt < (u0.2.2.1 h0 8).toInt ∧ (u0.2.2.1 h0 8).toInt ≤ 1600)) → W p l e (headSpec wsX12_is ({ frames := 4, cells := 0, slots := 0, locals := 85 })).room s m ([.ref h0, .ref (tt.1 w)] : List Value).toArray below meth c s.heap [] 0 0 (MQ below (va_Qi (fun r v => WT v ∧ PX u0 v ∧ v = u0 ∧ ((r.toInt = 0 ∧ ¬ isP u0 h0 w) ∨ (r.toInt = 1 ∧ isP u0 h0 w ∧ (u0.2.2.1 h0 12).toInt = 0 ∧ (u0.2.2.1 h0 9).toInt < (u0.2.2.1 h0 8).toInt ∧ (u0.2.2.1 h0 8).toInt ≤ 1600))) (WB D A (PW k)) A) ([.ref h0, .ref (tt.1 w)] : List Value).toArray s 0 0 A) (F0 m 82 ls []) := by
        intro hq
        refine lv_iload_n hx hb dX12_is_82 rfl (lv_at hl 2 rfl) ?_
        exact W.zret (v := v2) hx hb hr (z_nar (by rcases hq with q | q <;> omega)) (fun t ht hW => ⟨⟨v2, u0, rfl, ⟨hu, hp, rfl, hq⟩, by rw [ht]; exact hP, hD⟩, hS.F ht⟩) hS.2.2 dX12_is_83
      refine lv_iload_n hx hb dX12_is_39 rfl (lv_at hl 3 rfl) ?_
      refine lv_aload_n hx hb dX12_is_40 rfl (lv_at hl 1 rfl) ?_
      refine jvi (C := RJ0) (As := []) (rest := [.int v3]) ⟨hx, hb, hml, hown, hts⟩ (t_J0_length_8abf5 l tt w hw) (cwV 0 hts gX12_is_J0_length_8abf5 rfl rfl rfl (by decide +kernel) ⟨Nat.le_of_ble_eq_true rfl, Nat.le_of_ble_eq_true rfl⟩) hE hS (str_recv hE hw hS) rfl hl.1 rfl (Nat.le_of_ble_eq_true rfl) dX12_is_41 ⟨Nat.le_of_ble_eq_true rfl, Nat.le_of_ble_eq_true rfl⟩ (fun r hr9 => ?_)
      subst hr9
      refine lv_icmp_ge (tgt := 82) hx hb dX12_is_44 (by decide) (fun c1 => ?_) (fun c1 => ?_)
      · refine fin ?_
        rw [i_le] at c1
        rcases hi with hi | hi
        · exact Or.inl hi
        · have e3 : v3.toInt.toNat = lenTX.getD w 0 := by omega
          rw [e3] at hi
          exact Or.inr ⟨hi.1, hi.2, hi.2.1, by have := hi.2.2.2.1; omega, g8.2⟩
      · rw [i_le] at c1
        refine lv_iload_n hx hb dX12_is_47 rfl (lv_at hl 2 rfl) ?_
        refine lv_if_eq (tgt := 82) hx hb dX12_is_48 (by decide) (fun c2 => ?_) (fun c2 => ?_)
        · refine fin ?_
          rcases hi with hi | hi
          · exact Or.inl hi
          · rw [c2] at hi; exact absurd hi.1 (by decide)
        · rcases hi with hi | ⟨h2, hi⟩
          · exact absurd (i_eq.mpr hi.1) c2
          · refine lv_aload_n hx hb dX12_is_51 rfl (lv_at hl 0 rfl) ?_
            refine pget (ci := 12) (v := va_rf (u0.2.2.2.2 h0 4)) (C := RX12) (T := TX12) (N := 34) hx hb hts i_X12 hown hK hP m_h0 (cF12 k_h0) rfl 4 (by decide) (hts (.fieldLink RX12 24 "BellowsRowModel" "tape" "[B") (by decide +kernel)) (fun _ h9 => h9) rfl dX12_is_52 ?_
            refine W.eq (g2 := F0 m 55 ls [.ref a4]) (by rw [q0_4]; rfl) ?_
            refine lv_aload_n hx hb dX12_is_55 rfl (lv_at hl 0 rfl) ?_
            refine pget (ci := 12) (v := .int (u0.2.2.1 h0 9)) (C := RX12) (T := TX12) (N := 34) hx hb hts i_X12 hown hK hP m_h0 (cF12 k_h0) rfl 9 (by decide) (hts (.fieldLink RX12 95 "BellowsRowModel" "from" "I") (by decide +kernel)) (fun _ h9 => h9) rfl dX12_is_56 ?_
            refine lv_iload_n hx hb dX12_is_59 rfl (lv_at hl 3 rfl) ?_
            refine lv_iadd hx hb dX12_is_60 ?_
            refine lv_topi (fun x ex => ?_)
            have h9 := hi.2.2.1
            have tx : x.toInt = (u0.2.2.1 h0 9).toInt + v3.toInt := by rw [ex]; exact i_add (by omega) (by omega)
            refine palB hx hb hK hP m_a4 (cF54 k_a4) 0 rfl (vp_in_iff.mpr (by omega)) dX12_is_61 ?_
            refine lv_topi (fun y ey => ?_)
            refine lv_aload_n hx hb dX12_is_62 rfl (lv_at hl 1 rfl) ?_
            refine lv_iload_n hx hb dX12_is_63 rfl (lv_at hl 3 rfl) ?_
            refine jvi (C := RJ0) (As := [.int v3]) (rest := [.int y]) ⟨hx, hb, hml, hown, hts⟩ (t_J0_charAt_5068e l tt w hw v3 (by omega)) (cwV 1 hts gX12_is_J0_charAt_5068e rfl rfl rfl (by decide +kernel) ⟨Nat.le_of_ble_eq_true rfl, Nat.le_of_ble_eq_true rfl⟩) hE hS (str_recv hE hw hS) rfl hl.1 rfl (Nat.le_of_ble_eq_true rfl) dX12_is_64 ⟨Nat.le_of_ble_eq_true rfl, Nat.le_of_ble_eq_true rfl⟩ (fun r hr9 => ?_)
            subst hr9
            have ex4 : x.toNatClampNeg = (u0.2.2.1 h0 9).toInt.toNat + v3.toInt.toNat := by have := cl_int (x := x) (by omega); omega
            have ev3 : v3.toNatClampNeg = v3.toInt.toNat := rfl
            rw [ex4, ← ar_eq q0_4] at ey
            rw [ev3]
            have nx : ∀ (v2' : Int32), ((v2'.toInt = 0 ∧ ¬ isP u0 h0 w) ∨ (v2'.toInt = 1 ∧ isQ u0 h0 w (v3.toInt.toNat + 1))) → W p l e (headSpec wsX12_is ({ frames := 4, cells := 0, slots := 0, locals := 85 })).room s m ([.ref h0, .ref (tt.1 w)] : List Value).toArray below meth c s.heap [] 0 0 (MQ below (va_Qi (fun r v => WT v ∧ PX u0 v ∧ v = u0 ∧ ((r.toInt = 0 ∧ ¬ isP u0 h0 w) ∨ (r.toInt = 1 ∧ isP u0 h0 w ∧ (u0.2.2.1 h0 12).toInt = 0 ∧ (u0.2.2.1 h0 9).toInt < (u0.2.2.1 h0 8).toInt ∧ (u0.2.2.1 h0 8).toInt ≤ 1600))) (WB D A (PW k)) A) ([.ref h0, .ref (tt.1 w)] : List Value).toArray s 0 0 A) (F0 m 75 ls [.int v2']) := by
              intro v2' hq
              refine lv_istore_n (lv' := [(2, .int v2'), (0, .ref h0), (1, .ref (tt.1 w)), (3, .int v3)]) hx hb dX12_is_75 rfl hl (by decide) rfl (fun ls hl => ?_)
              obtain ⟨z, ez⟩ : ∃ y : Int32, y = v3 + 1 := ⟨_, rfl⟩
              have tz : z.toInt = v3.toInt + 1 := by rw [ez]; exact i_add (b := 1) (by show -2147483648 ≤ v3.toInt + 1; omega) (by show v3.toInt + 1 ≤ 2147483647; omega)
              refine lv_iinc (v := z) (lv' := [(3, .int z), (2, .int v2'), (0, .ref h0), (1, .ref (tt.1 w))]) hx hb dX12_is_76 hl (k := 3) rfl (by rw [ez]; rfl) (by decide) rfl (fun ls hl => ?_)
              refine lv_goto (tgt := 39) hx hb dX12_is_79 (by decide) ?_
              exact ih ls v2' z (by omega) (by omega) (by omega) (by rw [show z.toInt.toNat = v3.toInt.toNat + 1 by omega]; exact hq) (lv_sub hl [2, 3, 1, 0] rfl)
            refine lv_icmp_ne (tgt := 74) hx hb dX12_is_67 (by decide) (fun c3 => ?_) (fun c3 => ?_)
            · refine lv_iconst (v := 0) hx hb dX12_is_74 (by decide) ?_
              exact nx 0 (Or.inl ⟨rfl, fun q => c3 (by rw [ey]; exact q.2.2.2 v3.toInt.toNat (by omega))⟩)
            · refine lv_iconst (v := 1) hx hb dX12_is_70 (by decide) ?_
              refine lv_goto (tgt := 75) hx hb dX12_is_71 (by decide) ?_
              refine nx 1 (Or.inr ⟨rfl, hi.1, hi.2.1, hi.2.2.1, fun j hj => ?_⟩)
              by_cases hj2 : j = v3.toInt.toNat
              · rw [hj2, ← ey]; exact c3
              · exact hi.2.2.2 j (by omega)
  have H36 : ∀ (ls : Array Slot) (v2 : Int32), ((v2.toInt = 0 ∧ ¬ isP u0 h0 w) ∨ (v2.toInt = 1 ∧ isQ u0 h0 w 0)) → lv_has ls 4 [(0, .ref h0), (1, .ref (tt.1 w))] → W p l e (headSpec wsX12_is ({ frames := 4, cells := 0, slots := 0, locals := 85 })).room s m ([.ref h0, .ref (tt.1 w)] : List Value).toArray below meth c s.heap [] 0 0 (MQ below (va_Qi (fun r v => WT v ∧ PX u0 v ∧ v = u0 ∧ ((r.toInt = 0 ∧ ¬ isP u0 h0 w) ∨ (r.toInt = 1 ∧ isP u0 h0 w ∧ (u0.2.2.1 h0 12).toInt = 0 ∧ (u0.2.2.1 h0 9).toInt < (u0.2.2.1 h0 8).toInt ∧ (u0.2.2.1 h0 8).toInt ≤ 1600))) (WB D A (PW k)) A) ([.ref h0, .ref (tt.1 w)] : List Value).toArray s 0 0 A) (F0 m 36 ls [.int v2]) := by
    intro ls v2 hq hl
    refine lv_istore_n (lv' := [(2, .int v2), (0, .ref h0), (1, .ref (tt.1 w))]) hx hb dX12_is_36 rfl hl (by decide) rfl (fun ls hl => ?_)
    refine lv_iconst (v := 0) hx hb dX12_is_37 (by decide) ?_
    refine lv_istore_n (lv' := [(3, .int 0), (2, .int v2), (0, .ref h0), (1, .ref (tt.1 w))]) hx hb dX12_is_38 rfl hl (by decide) rfl (fun ls hl => ?_)
    exact B39 _ ls v2 0 (Nat.le_refl _) (by decide) (by show (0 : Int) ≤ _; omega) hq (lv_sub hl [2, 3, 1, 0] rfl)
  have hl := lv_entry ([.ref h0, .ref (tt.1 w)]) (n := 4) (Nat.le_of_ble_eq_true rfl)
  rw [lg_entry_eq]
  generalize (lg_sl ([.ref h0, .ref (tt.1 w)]) ++ List.replicate (4 - (lg_sl ([.ref h0, .ref (tt.1 w)])).length) Slot.unset).toArray = ls at hl ⊢
  have hl : lv_has ls 4 [(0, .ref h0), (1, .ref (tt.1 w))] := hl
  refine lv_aload_n hx hb dX12_is_0 rfl (lv_at hl 0 rfl) ?_
  refine rvi (C := RX12) (As := []) (rest := []) ⟨hx, hb, hml, hown, hts⟩ (t_X12_good l D k u0 hu h0 m_h0 k_h0 ) (cwV 0 hts gX12_is_X12_good rfl rfl rfl (by decide +kernel) ⟨Nat.le_of_ble_eq_true rfl, Nat.le_of_ble_eq_true rfl⟩) hP hK (precv hK hP m_h0 (cF12 k_h0) rfl) rfl hl.1 rfl (Nat.le_of_ble_eq_true rfl) dX12_is_1 ⟨Nat.le_of_ble_eq_true rfl, Nat.le_of_ble_eq_true rfl⟩ (fun r1 hr1 => ?_)
  refine lv_if_eq (tgt := 35) hx hb dX12_is_4 (by decide) (fun c1 => ?_) (fun c1 => ?_)
  · refine lv_iconst (v := 0) hx hb dX12_is_35 (by decide) ?_
    refine H36 ls 0 (Or.inl ⟨rfl, fun q => ?_⟩) hl
    rcases hr1 with z | z
    · exact z.2 q.1
    · rw [c1] at z; exact absurd z.1 (by decide)
  · have f1 : (u0.2.2.1 h0 12).toInt = 0 := by
      rcases hr1 with z | z
      · exact absurd (i_eq.mpr z.1) c1
      · exact z.2
    refine lv_aload_n hx hb dX12_is_7 rfl (lv_at hl 0 rfl) ?_
    refine pget (ci := 12) (v := .int (u0.2.2.1 h0 10)) (C := RX12) (T := TX12) (N := 34) hx hb hts i_X12 hown hK hP m_h0 (cF12 k_h0) rfl 10 (by decide) (hts (.fieldLink RX12 98 "BellowsRowModel" "token" "I") (by decide +kernel)) (fun _ h9 => h9) rfl dX12_is_8 ?_
    refine lv_iconst (v := 1) hx hb dX12_is_11 (by decide) ?_
    refine lv_icmp_ne (tgt := 35) hx hb dX12_is_12 (by decide) (fun c2 => ?_) (fun c2 => ?_)
    · refine lv_iconst (v := 0) hx hb dX12_is_35 (by decide) ?_
      exact H36 ls 0 (Or.inl ⟨rfl, fun q => c2 (i_eq.mpr q.2.1)⟩) hl
    · refine lv_aload_n hx hb dX12_is_15 rfl (lv_at hl 0 rfl) ?_
      refine pget (ci := 12) (v := .int (u0.2.2.1 h0 8)) (C := RX12) (T := TX12) (N := 34) hx hb hts i_X12 hown hK hP m_h0 (cF12 k_h0) rfl 8 (by decide) (hts (.fieldLink RX12 88 "BellowsRowModel" "at" "I") (by decide +kernel)) (fun _ h9 => h9) rfl dX12_is_16 ?_
      refine lv_aload_n hx hb dX12_is_19 rfl (lv_at hl 0 rfl) ?_
      refine pget (ci := 12) (v := .int (u0.2.2.1 h0 9)) (C := RX12) (T := TX12) (N := 34) hx hb hts i_X12 hown hK hP m_h0 (cF12 k_h0) rfl 9 (by decide) (hts (.fieldLink RX12 95 "BellowsRowModel" "from" "I") (by decide +kernel)) (fun _ h9 => h9) rfl dX12_is_20 ?_
      refine lv_isub hx hb dX12_is_23 ?_
      refine lv_topi (fun x ex => ?_)
      have tx : x.toInt = (u0.2.2.1 h0 8).toInt - (u0.2.2.1 h0 9).toInt := by rw [ex]; exact i_sub (by omega) (by omega)
      refine lv_aload_n hx hb dX12_is_24 rfl (lv_at hl 1 rfl) ?_
      refine jvi (C := RJ0) (As := []) (rest := [.int x]) ⟨hx, hb, hml, hown, hts⟩ (t_J0_length_8abf5 l tt w hw) (cwV 0 hts gX12_is_J0_length_8abf5 rfl rfl rfl (by decide +kernel) ⟨Nat.le_of_ble_eq_true rfl, Nat.le_of_ble_eq_true rfl⟩) hE hS (str_recv hE hw hS) rfl hl.1 rfl (Nat.le_of_ble_eq_true rfl) dX12_is_25 ⟨Nat.le_of_ble_eq_true rfl, Nat.le_of_ble_eq_true rfl⟩ (fun r hr9 => ?_)
      subst hr9
      refine lv_icmp_ne (tgt := 35) hx hb dX12_is_28 (by decide) (fun c3 => ?_) (fun c3 => ?_)
      · refine lv_iconst (v := 0) hx hb dX12_is_35 (by decide) ?_
        exact H36 ls 0 (Or.inl ⟨rfl, fun q => c3 (i_eq.mpr (by have := q.2.2.1; omega))⟩) hl
      · refine lv_iconst (v := 1) hx hb dX12_is_31 (by decide) ?_
        refine lv_goto (tgt := 36) hx hb dX12_is_32 (by decide) ?_
        have c3 := i_eq.mp c3
        exact H36 ls 1 (Or.inr ⟨rfl, f1, i_eq.mp c2, by omega, fun j hj => absurd hj (Nat.not_lt_zero j)⟩) hl
