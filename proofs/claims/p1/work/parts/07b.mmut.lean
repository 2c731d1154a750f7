set_option maxHeartbeats 4000000 in
set_option maxRecDepth 100000 in
theorem c_X12_feed (l : Launch) (D : va_G) (k : Nat → ClassId) (b : Nat → Nat) (p1 : Int32) (p2 : Int32) (p3 : Int32) (p4 : Int32) (p5 : Int32) (sz : Nat) : Met l yX12_feed wsX12_feed ({ frames := 0, cells := 0, slots := 0, locals := 0 }) (PreM D k sz [m0 k b, m4 k b, m5 k b] [.ref (b 0), .int p1, .int p2, .int p3, .int p4, .int p5]) (va_Qi (fun r (_ : Unit) => r = 20) (WB D (va_A [m0 k b, m4 k b, m5 k b] sz) (fun (_ : Unit) => ([] : va_W))) (va_A [m0 k b, m4 k b, m5 k b] sz)) 0 0 (va_A [m0 k b, m4 k b, m5 k b] sz) := by
  refine Met.ofW (cc := cX12_feed) (maxL := 7) (ret := (some .int)) (by decide) rfl ?_
  intro p e s m args below meth c s₁ B hml hv
  obtain ⟨rfl, hsz, hP, hK, hD0, hN⟩ := hv
  have hx := B.exec
  have hb := B.bytes
  have hr := B.returns
  have hts := atoms_spec (ws := wsX12_feed) B.pre
  have hown : s.vm.findClass RX12 = some m.cls := findClass_of_methodNamed B.named
  have hlocks := B.notSynchronized
  have i_X12 : ∀ w ∈ wsX120, w ∈ wsX12_feed := by decide +kernel
  subst hsz
  have hD := hD0.self (sz := s.heap.size)
  generalize hAe : va_A [m0 k b, m4 k b, m5 k b] s.heap.size = A at hD ⊢
  have hA : ∀ q : Nat, s.heap.size ≤ q → A q := fun q h => by rw [← hAe]; exact Or.inr h
  have hS : va_S A s.heap s.heap [] := va_S.rf
  have hP : va_P D vwCl [m0 k b, m4 k b, m5 k b] s.heap := hP
  have hl := lv_entry ([.ref (b 0), .int p1, .int p2, .int p3, .int p4, .int p5]) (n := 7) (Nat.le_of_ble_eq_true rfl)
  rw [lg_entry_eq]
  generalize (lg_sl ([.ref (b 0), .int p1, .int p2, .int p3, .int p4, .int p5]) ++ List.replicate (7 - (lg_sl ([.ref (b 0), .int p1, .int p2, .int p3, .int p4, .int p5])).length) Slot.unset).toArray = ls at hl ⊢
  have hl : lv_has ls 7 [(0, .ref (b 0)), (1, .int p1), (2, .int p2), (3, .int p3), (4, .int p4), (5, .int p5)] := hl
  refine lv_aload_n hx hb dX12_feed_0 rfl (lv_at hl 0 rfl) ?_
  refine va_get (D := D) (ci := 12) (v := .int 0) (C := RX12) (T := TX12) (N := 34) hx hb hts i_X12 hown hK hP 0 rfl rfl 5 (by decide) (hts (.fieldLink RX12 82 "BellowsRowModel" "taped" "I") (by decide +kernel)) (fun _ h9 => h9) rfl dX12_feed_1 ?_
  refine lv_bipush (v := 20) hx hb dX12_feed_4 (by decide) ?_
  refine lv_iadd hx hb dX12_feed_6 ?_
  refine lv_topi (fun x1 ex1 => ?_)
  obtain rfl : x1 = 20 := ex1.trans (by decide)
  refine lv_sipush (v := 1600) hx hb dX12_feed_7 (by decide) ?_
  refine lv_icmp_le (tgt := 15) hx hb dX12_feed_10 (by decide) (fun _ => ?_) (fun h => absurd (by decide) h)
  refine lv_aload_n hx hb dX12_feed_15 rfl (lv_at hl 0 rfl) ?_
  refine va_get (D := D) (ci := 12) (v := .ref (b 5)) (C := RX12) (T := TX12) (N := 34) hx hb hts i_X12 hown hK hP 0 rfl rfl 6 (by decide) (hts (.fieldLink RX12 28 "BellowsRowModel" "five" "[I") (by decide +kernel)) (fun _ h9 => h9) rfl dX12_feed_16 ?_
  refine lv_iconst (v := 0) hx hb dX12_feed_19 (by decide) ?_
  refine lv_iload_n hx hb dX12_feed_20 rfl (lv_at hl 1 rfl) ?_
  refine va_iast hx hb hK hP hD hS 2 1 rfl rfl (vp_in_iff.mpr (by decide)) dX12_feed_21 (fun H locs hP hD hS => ?_)
  have hP : va_P D vwCl [m0 k b, m4 k b, ((b 5), .inl (k 1, 5, .inl (upd (fun _ => 0) 0 p1)))] H := hP
  have hD : va_D A [m0 k b, m4 k b, ((b 5), .inl (k 1, 5, .inl (upd (fun _ => 0) 0 p1)))] := hD
  refine lv_aload_n hx hb dX12_feed_22 rfl (lv_at hl 0 rfl) ?_
  refine va_get (D := D) (ci := 12) (v := .ref (b 5)) (C := RX12) (T := TX12) (N := 34) hx hb hts i_X12 hown hK hP 0 rfl rfl 6 (by decide) (hts (.fieldLink RX12 28 "BellowsRowModel" "five" "[I") (by decide +kernel)) (fun _ h9 => h9) rfl dX12_feed_23 ?_
  refine lv_iconst (v := 1) hx hb dX12_feed_26 (by decide) ?_
  refine lv_iload_n hx hb dX12_feed_27 rfl (lv_at hl 2 rfl) ?_
  refine va_iast hx hb hK hP hD hS 2 1 rfl rfl (vp_in_iff.mpr (by decide)) dX12_feed_28 (fun H locs hP hD hS => ?_)
  have hP : va_P D vwCl [m0 k b, m4 k b, ((b 5), .inl (k 1, 5, .inl (upd (upd (fun _ => 0) 0 p1) 1 p2)))] H := hP
  have hD : va_D A [m0 k b, m4 k b, ((b 5), .inl (k 1, 5, .inl (upd (upd (fun _ => 0) 0 p1) 1 p2)))] := hD
  refine lv_aload_n hx hb dX12_feed_29 rfl (lv_at hl 0 rfl) ?_
  refine va_get (D := D) (ci := 12) (v := .ref (b 5)) (C := RX12) (T := TX12) (N := 34) hx hb hts i_X12 hown hK hP 0 rfl rfl 6 (by decide) (hts (.fieldLink RX12 28 "BellowsRowModel" "five" "[I") (by decide +kernel)) (fun _ h9 => h9) rfl dX12_feed_30 ?_
  refine lv_iconst (v := 2) hx hb dX12_feed_33 (by decide) ?_
  refine lv_iload_n hx hb dX12_feed_34 rfl (lv_at hl 3 rfl) ?_
  refine va_iast hx hb hK hP hD hS 2 1 rfl rfl (vp_in_iff.mpr (by decide)) dX12_feed_35 (fun H locs hP hD hS => ?_)
  have hP : va_P D vwCl [m0 k b, m4 k b, ((b 5), .inl (k 1, 5, .inl (upd (upd (upd (fun _ => 0) 0 p1) 1 p2) 2 p3)))] H := hP
  have hD : va_D A [m0 k b, m4 k b, ((b 5), .inl (k 1, 5, .inl (upd (upd (upd (fun _ => 0) 0 p1) 1 p2) 2 p3)))] := hD
  refine lv_aload_n hx hb dX12_feed_36 rfl (lv_at hl 0 rfl) ?_
  refine va_get (D := D) (ci := 12) (v := .ref (b 5)) (C := RX12) (T := TX12) (N := 34) hx hb hts i_X12 hown hK hP 0 rfl rfl 6 (by decide) (hts (.fieldLink RX12 28 "BellowsRowModel" "five" "[I") (by decide +kernel)) (fun _ h9 => h9) rfl dX12_feed_37 ?_
  refine lv_iconst (v := 3) hx hb dX12_feed_40 (by decide) ?_
  refine lv_iload hx hb dX12_feed_41 (lv_at hl 4 rfl) ?_
  refine va_iast hx hb hK hP hD hS 2 1 rfl rfl (vp_in_iff.mpr (by decide)) dX12_feed_43 (fun H locs hP hD hS => ?_)
  have hP : va_P D vwCl [m0 k b, m4 k b, ((b 5), .inl (k 1, 5, .inl (upd (upd (upd (upd (fun _ => 0) 0 p1) 1 p2) 2 p3) 3 p4)))] H := hP
  have hD : va_D A [m0 k b, m4 k b, ((b 5), .inl (k 1, 5, .inl (upd (upd (upd (upd (fun _ => 0) 0 p1) 1 p2) 2 p3) 3 p4)))] := hD
  refine lv_aload_n hx hb dX12_feed_44 rfl (lv_at hl 0 rfl) ?_
  refine va_get (D := D) (ci := 12) (v := .ref (b 5)) (C := RX12) (T := TX12) (N := 34) hx hb hts i_X12 hown hK hP 0 rfl rfl 6 (by decide) (hts (.fieldLink RX12 28 "BellowsRowModel" "five" "[I") (by decide +kernel)) (fun _ h9 => h9) rfl dX12_feed_45 ?_
  refine lv_iconst (v := 4) hx hb dX12_feed_48 (by decide) ?_
  refine lv_iload hx hb dX12_feed_49 (lv_at hl 5 rfl) ?_
  refine va_iast hx hb hK hP hD hS 2 1 rfl rfl (vp_in_iff.mpr (by decide)) dX12_feed_51 (fun H locs hP hD hS => ?_)
  have hP : va_P D vwCl [m0 k b, m4 k b, ((b 5), .inl (k 1, 5, .inl (upd (upd (upd (upd (upd (fun _ => 0) 0 p1) 1 p2) 2 p3) 3 p4) 4 p5)))] H := hP
  have hD : va_D A [m0 k b, m4 k b, ((b 5), .inl (k 1, 5, .inl (upd (upd (upd (upd (upd (fun _ => 0) 0 p1) 1 p2) 2 p3) 3 p4) 4 p5)))] := hD
  generalize upd (upd (upd (upd (upd (fun _ => 0) 0 p1) 1 p2) 2 p3) 3 p4) 4 p5 = f2 at hP hD
  refine lv_iconst (v := 0) hx hb dX12_feed_52 (by decide) ?_
  refine lv_istore (lv' := [(6, .int 0), (0, .ref (b 0)), (1, .int p1), (2, .int p2), (3, .int p3), (4, .int p4), (5, .int p5)]) hx hb dX12_feed_53 hl (by decide) rfl (fun ls hl => ?_)
  have lp1 : ∀ (n3 j4 : Nat) (f5 : Nat → Int32) (H : Heap) (locs : List Loc) (ls : Array Slot), j4 + n3 = 20 → 0 ≤ j4 → True → va_P D vwCl [m0 k b, ((b 4), .inl (k 0, 1600, .inl f5)), ((b 5), .inl (k 1, 5, .inl f2))] H → va_D A [m0 k b, ((b 4), .inl (k 0, 1600, .inl f5)), ((b 5), .inl (k 1, 5, .inl f2))] → va_S A s.heap H locs → lv_has ls 7 [(6, .int (nI j4)), (0, .ref (b 0))] → W p l e (headSpec wsX12_feed ({ frames := 0, cells := 0, slots := 0, locals := 0 })).room s m ([.ref (b 0), .int p1, .int p2, .int p3, .int p4, .int p5] : List Value).toArray below meth c H locs 0 0 (MQ below (va_Qi (fun r (_ : Unit) => r = 20) (WB D A (fun (_ : Unit) => ([] : va_W))) A) ([.ref (b 0), .int p1, .int p2, .int p3, .int p4, .int p5] : List Value).toArray s 0 0 A) (F0 m 55 ls []) := by
    intro n3
    induction n3 with
    | zero =>
      intro j4 f5 H locs ls hjlp1 hlolp1 hIlp1 hP hD hS hl
      obtain rfl : j4 = 20 := by omega
      have hl : lv_has ls 7 [(6, .int 20), (0, .ref (b 0))] := hl
      refine lv_iload hx hb dX12_feed_55 (lv_at hl 0 rfl) ?_
      refine lv_bipush (v := 20) hx hb dX12_feed_57 (by decide) ?_
      refine lv_icmp_ge (tgt := 101) hx hb dX12_feed_59 (by decide) (fun _ => ?_) (fun h => absurd (by decide) h)
      refine lv_aload_n hx hb dX12_feed_101 rfl (lv_at hl 1 rfl) ?_
      refine lv_dup hx hb dX12_feed_102 rfl ?_
      refine va_get (D := D) (ci := 12) (v := .int 0) (C := RX12) (T := TX12) (N := 34) hx hb hts i_X12 hown hK hP 0 rfl rfl 5 (by decide) (hts (.fieldLink RX12 82 "BellowsRowModel" "taped" "I") (by decide +kernel)) (fun _ h9 => h9) rfl dX12_feed_103 ?_
      refine lv_bipush (v := 20) hx hb dX12_feed_106 (by decide) ?_
      refine lv_iadd hx hb dX12_feed_108 ?_
      refine lv_topi (fun x6 ex6 => ?_)
      obtain rfl : x6 = 20 := ex6.trans (by decide)
      refine va_put (D := D) (ci := 12) (v := .int 20) (ty := .int) (C := RX12) (T := TX12) (N := 34) hx hb hts i_X12 tyX12 tyX12_ok nmX12 hown hK hP hD hS 0 rfl rfl 5 (by decide) (hts (.fieldLink RX12 82 "BellowsRowModel" "taped" "I") (by decide +kernel)) (fun _ h9 => h9) rfl (by decide +kernel) rfl rfl (Nat.le_of_ble_eq_true rfl) dX12_feed_109 (fun H locs hP hD hS => ?_)
      have hP : va_P D vwCl [((b 0), .inr (12, [.int 0, .ref (b 1), .ref (b 2), .ref (b 3), .ref (b 4), .int 20, .ref (b 5), .int 0, .int 0, .int 0, .int 0, .int 0, .int 0, .int (-1), .ref (b 6), .int 0, .int 0, .ref (b 7), .ref (b 8), .ref (b 9), .ref (b 10), .int 0, .ref (b 11), .int 0, .ref (b 12), .int 0, .ref (b 13), .int (-1), .int 0, .int 0, .ref (b 14), .ref (b 15), .ref (b 16), .ref (b 17)])), ((b 4), .inl (k 0, 1600, .inl f5)), ((b 5), .inl (k 1, 5, .inl f2))] H := hP
      have hD : va_D A [((b 0), .inr (12, [.int 0, .ref (b 1), .ref (b 2), .ref (b 3), .ref (b 4), .int 20, .ref (b 5), .int 0, .int 0, .int 0, .int 0, .int 0, .int 0, .int (-1), .ref (b 6), .int 0, .int 0, .ref (b 7), .ref (b 8), .ref (b 9), .ref (b 10), .int 0, .ref (b 11), .int 0, .ref (b 12), .int 0, .ref (b 13), .int (-1), .int 0, .int 0, .ref (b 14), .ref (b 15), .ref (b 16), .ref (b 17)])), ((b 4), .inl (k 0, 1600, .inl f5)), ((b 5), .inl (k 1, 5, .inl f2))] := hD
      refine lv_aload_n hx hb dX12_feed_112 rfl (lv_at hl 1 rfl) ?_
      refine va_get (D := D) (ci := 12) (v := .int 20) (C := RX12) (T := TX12) (N := 34) hx hb hts i_X12 hown hK hP 0 rfl rfl 5 (by decide) (hts (.fieldLink RX12 82 "BellowsRowModel" "taped" "I") (by decide +kernel)) (fun _ h9 => h9) rfl dX12_feed_113 ?_
      have hP9 := hP.sub (ws' := []) [] rfl
      have hD9 := hD.sub (ws' := []) [] (by decide) rfl
      refine W.widen (k := 0) (n := 0) (Nat.le_of_ble_eq_true rfl) (Nat.le_of_ble_eq_true rfl) ?_
      exact W.iret (v := 20) hx hb hr (fun t ht hW => ⟨⟨20, (), rfl, rfl, by rw [ht]; exact hP9, hD9⟩, hS.F ht⟩) hS.2.2 dX12_feed_116
    | succ n3 ih =>
      intro j4 f5 H locs ls hjlp1 hlolp1 hIlp1 hP hD hS hl
      have hj : j4 < 20 := by omega
      refine lv_iload hx hb dX12_feed_55 (lv_at hl 0 rfl) ?_
      refine lv_bipush (v := 20) hx hb dX12_feed_57 (by decide) ?_
      refine lv_icmp_ge (tgt := 101) hx hb dX12_feed_59 (by decide) (fun h => absurd h (nI_ge (a := j4) (b := 20) (by omega) (by decide))) (fun _ => ?_)
      refine lv_aload_n hx hb dX12_feed_62 rfl (lv_at hl 1 rfl) ?_
      refine va_get (D := D) (ci := 12) (v := .ref (b 4)) (C := RX12) (T := TX12) (N := 34) hx hb hts i_X12 hown hK hP 0 rfl rfl 4 (by decide) (hts (.fieldLink RX12 24 "BellowsRowModel" "tape" "[B") (by decide +kernel)) (fun _ h9 => h9) rfl dX12_feed_63 ?_
      refine lv_aload_n hx hb dX12_feed_66 rfl (lv_at hl 1 rfl) ?_
      refine va_get (D := D) (ci := 12) (v := .int 0) (C := RX12) (T := TX12) (N := 34) hx hb hts i_X12 hown hK hP 0 rfl rfl 5 (by decide) (hts (.fieldLink RX12 82 "BellowsRowModel" "taped" "I") (by decide +kernel)) (fun _ h9 => h9) rfl dX12_feed_67 ?_
      refine lv_iload hx hb dX12_feed_70 (lv_at hl 0 rfl) ?_
      refine lv_iadd hx hb dX12_feed_72 ?_
      refine lv_topi (fun x7 ex7 => ?_)
      refine lv_aload_n hx hb dX12_feed_73 rfl (lv_at hl 1 rfl) ?_
      refine va_get (D := D) (ci := 12) (v := .ref (b 5)) (C := RX12) (T := TX12) (N := 34) hx hb hts i_X12 hown hK hP 0 rfl rfl 6 (by decide) (hts (.fieldLink RX12 28 "BellowsRowModel" "five" "[I") (by decide +kernel)) (fun _ h9 => h9) rfl dX12_feed_74 ?_
      refine lv_iload hx hb dX12_feed_77 (lv_at hl 0 rfl) ?_
      refine lv_iconst (v := 4) hx hb dX12_feed_79 (by decide) ?_
      refine lv_idiv hx hb dX12_feed_80 (by decide) ?_
      refine lv_topi (fun x8 ex8 => ?_)
      refine va_iald hx hb hK hP 2 1 rfl rfl (by rw [ex8, show nI j4 / 4 = nI (j4 / 4) from pk_div (by omega) (by decide) (by decide)]; exact vp_in_nI (by omega) (by decide)) dX12_feed_81 ?_
      refine lv_topi (fun x9 ex9 => ?_)
      refine lv_bipush (v := 24) hx hb dX12_feed_82 (by decide) ?_
      refine lv_bipush (v := 8) hx hb dX12_feed_84 (by decide) ?_
      refine lv_iload hx hb dX12_feed_86 (lv_at hl 0 rfl) ?_
      refine lv_iconst (v := 4) hx hb dX12_feed_88 (by decide) ?_
      refine lv_irem hx hb dX12_feed_89 (by decide) ?_
      refine lv_topi (fun x10 ex10 => ?_)
      refine lv_imul hx hb dX12_feed_90 ?_
      refine lv_topi (fun x11 ex11 => ?_)
      refine lv_isub hx hb dX12_feed_91 ?_
      refine lv_topi (fun x12 ex12 => ?_)
      refine lv_ishr hx hb dX12_feed_92 ?_
      refine lv_topi (fun x13 ex13 => ?_)
      refine lv_i2b hx hb dX12_feed_93 rfl ?_
      refine va_bast hx hb hK hP hD hS 1 0 rfl rfl (by rw [ex7, Int32.zero_add]; exact vp_in_nI (by omega) (by decide)) dX12_feed_94 (fun H locs hP hD hS => ?_)
      have hP : va_P D vwCl [m0 k b, ((b 4), .inl (k 0, 1600, .inl (upd f5 (x7).toNatClampNeg (vp_nar .byte x13.toInt8.toInt32)))), ((b 5), .inl (k 1, 5, .inl f2))] H := hP
      have hD : va_D A [m0 k b, ((b 4), .inl (k 0, 1600, .inl (upd f5 (x7).toNatClampNeg (vp_nar .byte x13.toInt8.toInt32)))), ((b 5), .inl (k 1, 5, .inl f2))] := hD
      obtain ⟨x14, ex14⟩ : ∃ y : Int32, y = nI j4 + 1 := ⟨_, rfl⟩
      refine lv_iinc (v := x14) (lv' := [(6, .int x14), (0, .ref (b 0))]) hx hb dX12_feed_95 hl (k := 0) rfl (by rw [ex14]; rfl) (by decide) rfl (fun ls hl => ?_)
      refine lv_goto (tgt := 55) hx hb dX12_feed_98 (by decide) ?_
      obtain rfl : x14 = nI (j4 + 1) := ex14.trans (nI_1 j4)
      exact ih (j4 + 1) _ _ _ _ (by omega) (by omega) trivial hP hD hS (lv_sub hl [0, 1] rfl)
  exact lp1 (20) (0) _ _ _ _ (by decide) (by decide) trivial hP hD hS (lv_sub hl [0, 1] rfl)
set_option maxHeartbeats 4000000 in
set_option maxRecDepth 100000 in
theorem c_X12_end (l : Launch) (D : va_G) (k : Nat → ClassId) (b : Nat → Nat) (p1 : Int32) (sz : Nat) : Met l yX12_end wsX12_end ({ frames := 1, cells := 0, slots := 0, locals := 25 }) (PreM D k sz [m0 k b] [.ref (b 0), .int p1]) (va_Qi (fun r (_ : Unit) => ((p1.toInt = 0) ∧ r = 0) ∨ (¬ (p1.toInt = 0) ∧ r = (-1))) (WB D (va_A [m0 k b] sz) (fun (_ : Unit) => ([] : va_W))) (va_A [m0 k b] sz)) 0 0 (va_A [m0 k b] sz) := by
  refine Met.ofW (cc := cX12_end) (maxL := 2) (ret := (some .int)) (by decide) rfl ?_
  intro p e s m args below meth c s₁ B hml hv
  obtain ⟨rfl, hsz, hP, hK, hD0, hN⟩ := hv
  have hx := B.exec
  have hb := B.bytes
  have hr := B.returns
  have hts := atoms_spec (ws := wsX12_end) B.pre
  have hown : s.vm.findClass RX12 = some m.cls := findClass_of_methodNamed B.named
  have hlocks := B.notSynchronized
  have i_X12 : ∀ w ∈ wsX120, w ∈ wsX12_end := by decide +kernel
  subst hsz
  have hD := hD0.self (sz := s.heap.size)
  generalize hAe : va_A [m0 k b] s.heap.size = A at hD ⊢
  have hA : ∀ q : Nat, s.heap.size ≤ q → A q := fun q h => by rw [← hAe]; exact Or.inr h
  have hS : va_S A s.heap s.heap [] := va_S.rf
  have hP : va_P D vwCl [m0 k b] s.heap := hP
  have hl := lv_entry ([.ref (b 0), .int p1]) (n := 2) (Nat.le_of_ble_eq_true rfl)
  rw [lg_entry_eq]
  generalize (lg_sl ([.ref (b 0), .int p1]) ++ List.replicate (2 - (lg_sl ([.ref (b 0), .int p1])).length) Slot.unset).toArray = ls at hl ⊢
  have hl : lv_has ls 2 [(0, .ref (b 0)), (1, .int p1)] := hl
  refine lv_iload_n hx hb dX12_end_0 rfl (lv_at hl 1 rfl) ?_
  refine lv_i2l hx hb dX12_end_1 rfl ?_
  refine lv_lconst (v := 0) hx hb dX12_end_2 (by decide) ?_
  refine lv_aload_n hx hb dX12_end_3 rfl (lv_at hl 0 rfl) ?_
  refine va_get (D := D) (ci := 12) (v := .int 0) (C := RX12) (T := TX12) (N := 34) hx hb hts i_X12 hown hK hP 0 rfl rfl 5 (by decide) (hts (.fieldLink RX12 82 "BellowsRowModel" "taped" "I") (by decide +kernel)) (fun _ h9 => h9) rfl dX12_end_4 ?_
  refine lv_i2l (v := 0) hx hb dX12_end_7 (by decide) ?_
  refine psi (As := [.long p1.toInt64, .long 0, .long 0]) (rest := []) ⟨hx, hb, hml, hown, hts⟩ (c_X12_in l D k p1.toInt64 (0 : Int64) (0 : Int64)) (va_cwS 3 hts gX12_end_X12_in rfl rfl rfl (by decide +kernel) ⟨Nat.le_of_ble_eq_true rfl, Nat.le_of_ble_eq_true rfl⟩) hK rfl hl.1 rfl (Nat.le_of_ble_eq_true rfl) dX12_end_8 ⟨Nat.le_of_ble_eq_true rfl, Nat.le_of_ble_eq_true rfl⟩ (fun r1 hr1 => ?_)
  rcases hr1 with ⟨g2, rfl⟩ | ⟨g2, rfl⟩
  · refine lv_if_ne (tgt := 16) hx hb dX12_end_11 (by decide) (fun _ => ?_) (fun h => absurd h (by decide))
    refine lv_aload_n hx hb dX12_end_16 rfl (lv_at hl 0 rfl) ?_
    refine lv_iload_n hx hb dX12_end_17 rfl (lv_at hl 1 rfl) ?_
    refine va_put (D := D) (ci := 12) (v := .int p1) (ty := .int) (C := RX12) (T := TX12) (N := 34) hx hb hts i_X12 tyX12 tyX12_ok nmX12 hown hK hP hD hS 0 rfl rfl 5 (by decide) (hts (.fieldLink RX12 82 "BellowsRowModel" "taped" "I") (by decide +kernel)) (fun _ h9 => h9) rfl (by decide +kernel) rfl rfl (Nat.le_of_ble_eq_true rfl) dX12_end_18 (fun H locs hP hD hS => ?_)
    have hP : va_P D vwCl [((b 0), .inr (12, [.int 0, .ref (b 1), .ref (b 2), .ref (b 3), .ref (b 4), .int p1, .ref (b 5), .int 0, .int 0, .int 0, .int 0, .int 0, .int 0, .int (-1), .ref (b 6), .int 0, .int 0, .ref (b 7), .ref (b 8), .ref (b 9), .ref (b 10), .int 0, .ref (b 11), .int 0, .ref (b 12), .int 0, .ref (b 13), .int (-1), .int 0, .int 0, .ref (b 14), .ref (b 15), .ref (b 16), .ref (b 17)]))] H := hP
    have hD : va_D A [((b 0), .inr (12, [.int 0, .ref (b 1), .ref (b 2), .ref (b 3), .ref (b 4), .int p1, .ref (b 5), .int 0, .int 0, .int 0, .int 0, .int 0, .int 0, .int (-1), .ref (b 6), .int 0, .int 0, .ref (b 7), .ref (b 8), .ref (b 9), .ref (b 10), .int 0, .ref (b 11), .int 0, .ref (b 12), .int 0, .ref (b 13), .int (-1), .int 0, .int 0, .ref (b 14), .ref (b 15), .ref (b 16), .ref (b 17)]))] := hD
    refine lv_iload_n hx hb dX12_end_21 rfl (lv_at hl 1 rfl) ?_
    have hP9 := hP.sub (ws' := []) [] rfl
    have hD9 := hD.sub (ws' := []) [] (by decide) rfl
    refine W.widen (k := 0) (n := 0) (Nat.le_of_ble_eq_true rfl) (Nat.le_of_ble_eq_true rfl) ?_
    exact W.iret (v := p1) hx hb hr (fun t ht hW => ⟨⟨p1, (), rfl, Or.inl ⟨by (try simp only [i_lt, i_le, i_eq, Int32.toInt_toInt64, Int32.reduceToInt, Int64.reduceToInt] at g2 ⊢); omega, i_eq.mpr (by (try simp only [i_lt, i_le, i_eq, Int32.toInt_toInt64, Int32.reduceToInt, Int64.reduceToInt] at g2 ⊢); omega)⟩, by rw [ht]; exact hP9, hD9⟩, hS.F ht⟩) hS.2.2 dX12_end_22
  · refine lv_if_ne (tgt := 16) hx hb dX12_end_11 (by decide) (fun h => absurd (by decide) h) (fun _ => ?_)
    refine lv_iconst (v := (-1)) hx hb dX12_end_14 (by decide) ?_
    have hP9 := hP.sub (ws' := []) [] rfl
    have hD9 := hD.sub (ws' := []) [] (by decide) rfl
    refine W.widen (k := 0) (n := 0) (Nat.le_of_ble_eq_true rfl) (Nat.le_of_ble_eq_true rfl) ?_
    exact W.iret (v := (-1)) hx hb hr (fun t ht hW => ⟨⟨(-1), (), rfl, Or.inr ⟨by (try simp only [i_lt, i_le, i_eq, Int32.toInt_toInt64, Int32.reduceToInt, Int64.reduceToInt] at g2 ⊢); omega, rfl⟩, by rw [ht]; exact hP9, hD9⟩, hS.F ht⟩) hS.2.2 dX12_end_15
set_option maxHeartbeats 4000000 in
set_option maxRecDepth 100000 in
theorem c_X12_keep (l : Launch) (D : va_G) (k : Nat → ClassId) (b : Nat → Nat) (p1 : Int32) (sz : Nat) : Met l yX12_keep wsX12_keep ({ frames := 1, cells := 0, slots := 0, locals := 25 }) (PreM D k sz [m0 k b, m1 k b, m2 k b, m3 k b] [.ref (b 0), .int p1]) (va_Qi (fun r (_ : Unit) => ((0 ≤ p1.toInt ∧ p1.toInt ≤ 2) ∧ r = 0) ∨ (¬ (0 ≤ p1.toInt ∧ p1.toInt ≤ 2) ∧ r = (-2))) (WB D (va_A [m0 k b, m1 k b, m2 k b, m3 k b] sz) (fun (_ : Unit) => ([] : va_W))) (va_A [m0 k b, m1 k b, m2 k b, m3 k b] sz)) 0 0 (va_A [m0 k b, m1 k b, m2 k b, m3 k b] sz) := by
  refine Met.ofW (cc := cX12_keep) (maxL := 3) (ret := (some .int)) (by decide) rfl ?_
  intro p e s m args below meth c s₁ B hml hv
  obtain ⟨rfl, hsz, hP, hK, hD0, hN⟩ := hv
  have hx := B.exec
  have hb := B.bytes
  have hr := B.returns
  have hts := atoms_spec (ws := wsX12_keep) B.pre
  have hown : s.vm.findClass RX12 = some m.cls := findClass_of_methodNamed B.named
  have hlocks := B.notSynchronized
  have i_X12 : ∀ w ∈ wsX120, w ∈ wsX12_keep := by decide +kernel
  subst hsz
  have hD := hD0.self (sz := s.heap.size)
  generalize hAe : va_A [m0 k b, m1 k b, m2 k b, m3 k b] s.heap.size = A at hD ⊢
  have hA : ∀ q : Nat, s.heap.size ≤ q → A q := fun q h => by rw [← hAe]; exact Or.inr h
  have hS : va_S A s.heap s.heap [] := va_S.rf
  have hP : va_P D vwCl [m0 k b, m1 k b, m2 k b, m3 k b] s.heap := hP
  have hl := lv_entry ([.ref (b 0), .int p1]) (n := 3) (Nat.le_of_ble_eq_true rfl)
  rw [lg_entry_eq]
  generalize (lg_sl ([.ref (b 0), .int p1]) ++ List.replicate (3 - (lg_sl ([.ref (b 0), .int p1])).length) Slot.unset).toArray = ls at hl ⊢
  have hl : lv_has ls 3 [(0, .ref (b 0)), (1, .int p1)] := hl
  refine lv_iload_n hx hb dX12_keep_0 rfl (lv_at hl 1 rfl) ?_
  refine lv_i2l hx hb dX12_keep_1 rfl ?_
  refine lv_lconst (v := 0) hx hb dX12_keep_2 (by decide) ?_
  refine lv_ldc2 (own := RX12) (v := 2) hx hb hown (hts (.constantLong RX12 74 (2)) (by decide +kernel)) dX12_keep_3 ?_
  refine psi (As := [.long p1.toInt64, .long 0, .long 2]) (rest := []) ⟨hx, hb, hml, hown, hts⟩ (c_X12_in l D k p1.toInt64 (0 : Int64) (2 : Int64)) (va_cwS 3 hts gX12_keep_X12_in rfl rfl rfl (by decide +kernel) ⟨Nat.le_of_ble_eq_true rfl, Nat.le_of_ble_eq_true rfl⟩) hK rfl hl.1 rfl (Nat.le_of_ble_eq_true rfl) dX12_keep_6 ⟨Nat.le_of_ble_eq_true rfl, Nat.le_of_ble_eq_true rfl⟩ (fun r1 hr1 => ?_)
  rcases hr1 with ⟨g2, rfl⟩ | ⟨g2, rfl⟩
  · refine lv_if_ne (tgt := 15) hx hb dX12_keep_9 (by decide) (fun _ => ?_) (fun h => absurd h (by decide))
    refine lv_iconst (v := 0) hx hb dX12_keep_15 (by decide) ?_
    refine lv_istore_n (lv' := [(2, .int 0), (0, .ref (b 0)), (1, .int p1)]) hx hb dX12_keep_16 rfl hl (by decide) rfl (fun ls hl => ?_)
    have lp1 : ∀ (n3 j4 : Nat) (H : Heap) (locs : List Loc) (ls : Array Slot), j4 + n3 = 2482 → 0 ≤ j4 → True → va_P D vwCl [m0 k b, m1 k b, m2 k b, m3 k b] H → va_D A [m0 k b, m1 k b, m2 k b, m3 k b] → va_S A s.heap H locs → lv_has ls 3 [(2, .int (nI j4)), (0, .ref (b 0)), (1, .int p1)] → W p l e (headSpec wsX12_keep ({ frames := 1, cells := 0, slots := 0, locals := 25 })).room s m ([.ref (b 0), .int p1] : List Value).toArray below meth c H locs 0 0 (MQ below (va_Qi (fun r (_ : Unit) => ((0 ≤ p1.toInt ∧ p1.toInt ≤ 2) ∧ r = 0) ∨ (¬ (0 ≤ p1.toInt ∧ p1.toInt ≤ 2) ∧ r = (-2))) (WB D A (fun (_ : Unit) => ([] : va_W))) A) ([.ref (b 0), .int p1] : List Value).toArray s 0 0 A) (F0 m 17 ls []) := by
      intro n3
      induction n3 with
      | zero =>
        intro j4 H locs ls hjlp1 hlolp1 hIlp1 hP hD hS hl
        obtain rfl : j4 = 2482 := by omega
        have hl : lv_has ls 3 [(2, .int 2482), (0, .ref (b 0)), (1, .int p1)] := hl
        refine lv_iload_n hx hb dX12_keep_17 rfl (lv_at hl 0 rfl) ?_
        refine lv_sipush (v := 2482) hx hb dX12_keep_18 (by decide) ?_
        refine lv_icmp_ge (tgt := 48) hx hb dX12_keep_21 (by decide) (fun _ => ?_) (fun h => absurd (by decide) h)
        refine lv_aload_n hx hb dX12_keep_48 rfl (lv_at hl 1 rfl) ?_
        refine va_get (D := D) (ci := 12) (v := .ref (b 3)) (C := RX12) (T := TX12) (N := 34) hx hb hts i_X12 hown hK hP 0 rfl rfl 3 (by decide) (hts (.fieldLink RX12 20 "BellowsRowModel" "hasImage" "[Z") (by decide +kernel)) (fun _ h9 => h9) rfl dX12_keep_49 ?_
        refine lv_iload_n hx hb dX12_keep_52 rfl (lv_at hl 2 rfl) ?_
        refine lv_iconst (v := 1) hx hb dX12_keep_53 (by decide) ?_
        refine va_zast hx hb hK hP hD hS 3 3 rfl rfl (vp_in_iff.mpr (by (try simp only [i_lt, i_le, i_eq, Int32.toInt_toInt64, Int32.reduceToInt, Int64.reduceToInt] at g2 ⊢); omega)) dX12_keep_54 (fun H locs hP hD hS => ?_)
        have hP : va_P D vwCl [m0 k b, m1 k b, m2 k b, ((b 3), .inl (k 3, 3, .inl (upd (fun _ => 0) (p1).toNatClampNeg (vp_nar .boolean 1))))] H := hP
        have hD : va_D A [m0 k b, m1 k b, m2 k b, ((b 3), .inl (k 3, 3, .inl (upd (fun _ => 0) (p1).toNatClampNeg (vp_nar .boolean 1))))] := hD
        refine lv_iconst (v := 0) hx hb dX12_keep_55 (by decide) ?_
        have hP9 := hP.sub (ws' := []) [] rfl
        have hD9 := hD.sub (ws' := []) [] (by decide) rfl
        refine W.widen (k := 0) (n := 0) (Nat.le_of_ble_eq_true rfl) (Nat.le_of_ble_eq_true rfl) ?_
        exact W.iret (v := 0) hx hb hr (fun t ht hW => ⟨⟨0, (), rfl, Or.inl ⟨by (try simp only [i_lt, i_le, i_eq, Int32.toInt_toInt64, Int32.reduceToInt, Int64.reduceToInt] at g2 ⊢); omega, rfl⟩, by rw [ht]; exact hP9, hD9⟩, hS.F ht⟩) hS.2.2 dX12_keep_56
      | succ n3 ih =>
        intro j4 H locs ls hjlp1 hlolp1 hIlp1 hP hD hS hl
        have hj : j4 < 2482 := by omega
        refine lv_iload_n hx hb dX12_keep_17 rfl (lv_at hl 0 rfl) ?_
        refine lv_sipush (v := 2482) hx hb dX12_keep_18 (by decide) ?_
        refine lv_icmp_ge (tgt := 48) hx hb dX12_keep_21 (by decide) (fun h => absurd h (nI_ge (a := j4) (b := 2482) (by omega) (by decide))) (fun _ => ?_)
        refine lv_aload_n hx hb dX12_keep_24 rfl (lv_at hl 1 rfl) ?_
        refine va_get (D := D) (ci := 12) (v := .ref (b 2)) (C := RX12) (T := TX12) (N := 34) hx hb hts i_X12 hown hK hP 0 rfl rfl 2 (by decide) (hts (.fieldLink RX12 17 "BellowsRowModel" "images" "[I") (by decide +kernel)) (fun _ h9 => h9) rfl dX12_keep_25 ?_
        refine lv_sipush (v := 2482) hx hb dX12_keep_28 (by decide) ?_
        refine lv_iload_n hx hb dX12_keep_31 rfl (lv_at hl 2 rfl) ?_
        refine lv_imul hx hb dX12_keep_32 ?_
        refine lv_topi (fun x5 ex5 => ?_)
        refine lv_iload_n hx hb dX12_keep_33 rfl (lv_at hl 0 rfl) ?_
        refine lv_iadd hx hb dX12_keep_34 ?_
        refine lv_topi (fun x6 ex6 => ?_)
        refine lv_aload_n hx hb dX12_keep_35 rfl (lv_at hl 1 rfl) ?_
        refine va_get (D := D) (ci := 12) (v := .ref (b 1)) (C := RX12) (T := TX12) (N := 34) hx hb hts i_X12 hown hK hP 0 rfl rfl 1 (by decide) (hts (.fieldLink RX12 13 "BellowsRowModel" "world" "[I") (by decide +kernel)) (fun _ h9 => h9) rfl dX12_keep_36 ?_
        refine lv_iload_n hx hb dX12_keep_39 rfl (lv_at hl 0 rfl) ?_
        refine va_iald hx hb hK hP 1 1 rfl rfl (vp_in_nI (by omega) (by decide)) dX12_keep_40 ?_
        refine W.eq (g2 := F0 m 41 ls [.int 0, .int x6, .ref (b 2)]) rfl ?_
        refine va_iast hx hb hK hP hD hS 2 1 rfl rfl (by obtain ⟨c9, hc9, rfl⟩ := vp_in_of (vp_in_iff.mpr (by (try simp only [i_lt, i_le, i_eq, Int32.toInt_toInt64, Int32.reduceToInt, Int64.reduceToInt] at g2 ex5 ex6 ⊢); omega) : vp_in p1 3) (by decide); rw [ex6, ex5, show (2482 : Int32) * nI c9 + nI j4 = nI (2482 * c9 + j4) from by rw [show (2482 : Int32) * nI c9 = nI (2482 * c9) from pk_mul 2482 c9, nI_add]]; exact vp_in_nI (by omega) (by decide)) dX12_keep_41 (fun H locs hP hD hS => ?_)
        have hP : va_P D vwCl [m0 k b, m1 k b, ((b 2), .inl (k 1, 7446, .inl (upd (fun _ => 0) (x6).toNatClampNeg 0))), m3 k b] H := hP
        have hD : va_D A [m0 k b, m1 k b, ((b 2), .inl (k 1, 7446, .inl (upd (fun _ => 0) (x6).toNatClampNeg 0))), m3 k b] := hD
        rw [upd_zero] at hP hD
        obtain ⟨x7, ex7⟩ : ∃ y : Int32, y = nI j4 + 1 := ⟨_, rfl⟩
        refine lv_iinc (v := x7) (lv' := [(2, .int x7), (0, .ref (b 0)), (1, .int p1)]) hx hb dX12_keep_42 hl (k := 0) rfl (by rw [ex7]; rfl) (by decide) rfl (fun ls hl => ?_)
        refine lv_goto (tgt := 17) hx hb dX12_keep_45 (by decide) ?_
        obtain rfl : x7 = nI (j4 + 1) := ex7.trans (nI_1 j4)
        exact ih (j4 + 1) _ _ _ (by omega) (by omega) trivial hP hD hS (lv_sub hl [0, 1, 2] rfl)
    exact lp1 (2482) (0) _ _ _ (by decide) (by decide) trivial hP hD hS (lv_sub hl [0, 1, 2] rfl)
  · refine lv_if_ne (tgt := 15) hx hb dX12_keep_9 (by decide) (fun h => absurd (by decide) h) (fun _ => ?_)
    refine lv_bipush (v := (-2)) hx hb dX12_keep_12 (by decide) ?_
    have hP9 := hP.sub (ws' := []) [] rfl
    have hD9 := hD.sub (ws' := []) [] (by decide) rfl
    refine W.widen (k := 0) (n := 0) (Nat.le_of_ble_eq_true rfl) (Nat.le_of_ble_eq_true rfl) ?_
    exact W.iret (v := (-2)) hx hb hr (fun t ht hW => ⟨⟨(-2), (), rfl, Or.inr ⟨by (try simp only [i_lt, i_le, i_eq, Int32.toInt_toInt64, Int32.reduceToInt, Int64.reduceToInt] at g2 ⊢); omega, rfl⟩, by rw [ht]; exact hP9, hD9⟩, hS.F ht⟩) hS.2.2 dX12_keep_14
set_option maxHeartbeats 4000000 in
set_option maxRecDepth 100000 in
theorem c_X12_row (l : Launch) (D : va_G) (k : Nat → ClassId) (b : Nat → Nat) (p1 : Int32) (p2 : Int32) (p3 : Int32) (sz : Nat) : Met l yX12_row wsX12_row ({ frames := 2, cells := 0, slots := 0, locals := 45 }) (PreM D k sz [m0 k b, m14 k b, m15 k b, m16 k b] [.ref (b 0), .int p1, .int p2, .int p3]) (va_Qi (fun r (_ : Unit) => ((0 ≤ p1.toInt ∧ p1.toInt ≤ 3 ∧ 0 ≤ p2.toInt ∧ p2.toInt ≤ 3 ∧ p3.toInt ≤ 60) ∧ 0 ≤ p3.toInt ∧ r = 0) ∨ ((0 ≤ p1.toInt ∧ p1.toInt ≤ 3 ∧ 0 ≤ p2.toInt ∧ p2.toInt ≤ 3 ∧ p3.toInt ≤ 60) ∧ p3.toInt < 0 ∧ r = -3) ∨ (¬ (0 ≤ p1.toInt ∧ p1.toInt ≤ 3 ∧ 0 ≤ p2.toInt ∧ p2.toInt ≤ 3 ∧ p3.toInt ≤ 60) ∧ r = -2)) (WB D (va_A [m0 k b, m14 k b, m15 k b, m16 k b] sz) (fun (_ : Unit) => ([] : va_W))) (va_A [m0 k b, m14 k b, m15 k b, m16 k b] sz)) 0 0 (va_A [m0 k b, m14 k b, m15 k b, m16 k b] sz) := by
  refine Met.ofW (cc := cX12_row) (maxL := 5) (ret := (some .int)) (by decide) rfl ?_
  intro p e s m args below meth c s₁ B hml hv
  obtain ⟨rfl, hsz, hP, hK, hD0, hN⟩ := hv
  have hx := B.exec
  have hb := B.bytes
  have hr := B.returns
  have hts := atoms_spec (ws := wsX12_row) B.pre
  have hown : s.vm.findClass RX12 = some m.cls := findClass_of_methodNamed B.named
  have hlocks := B.notSynchronized
  have i_X12 : ∀ w ∈ wsX120, w ∈ wsX12_row := by decide +kernel
  subst hsz
  have hD := hD0.self (sz := s.heap.size)
  generalize hAe : va_A [m0 k b, m14 k b, m15 k b, m16 k b] s.heap.size = A at hD ⊢
  have hA : ∀ q : Nat, s.heap.size ≤ q → A q := fun q h => by rw [← hAe]; exact Or.inr h
  have hS : va_S A s.heap s.heap [] := va_S.rf
  have hP : va_P D vwCl [m0 k b, m14 k b, m15 k b, m16 k b] s.heap := hP
  have hl := lv_entry ([.ref (b 0), .int p1, .int p2, .int p3]) (n := 5) (Nat.le_of_ble_eq_true rfl)
  rw [lg_entry_eq]
  generalize (lg_sl ([.ref (b 0), .int p1, .int p2, .int p3]) ++ List.replicate (5 - (lg_sl ([.ref (b 0), .int p1, .int p2, .int p3])).length) Slot.unset).toArray = ls at hl ⊢
  have hl : lv_has ls 5 [(0, .ref (b 0)), (1, .int p1), (2, .int p2), (3, .int p3)] := hl
  refine lv_iload_n hx hb dX12_row_0 rfl (lv_at hl 1 rfl) ?_
  refine psi (As := [.int p1]) (rest := []) ⟨hx, hb, hml, hown, hts⟩ (c_X12_isSlot l D k p1) (va_cwS 1 hts gX12_row_X12_isSlot rfl rfl rfl (by decide +kernel) ⟨Nat.le_of_ble_eq_true rfl, Nat.le_of_ble_eq_true rfl⟩) hK rfl hl.1 rfl (Nat.le_of_ble_eq_true rfl) dX12_row_1 ⟨Nat.le_of_ble_eq_true rfl, Nat.le_of_ble_eq_true rfl⟩ (fun r1 hr1 => ?_)
  rcases hr1 with ⟨g2, rfl⟩ | ⟨g2, rfl⟩
  · refine lv_if_eq (tgt := 25) hx hb dX12_row_4 (by decide) (fun h => absurd h (by decide)) (fun _ => ?_)
    refine lv_iload_n hx hb dX12_row_7 rfl (lv_at hl 2 rfl) ?_
    refine lv_i2l hx hb dX12_row_8 rfl ?_
    refine lv_lconst (v := 0) hx hb dX12_row_9 (by decide) ?_
    refine lv_ldc2 (own := RX12) (v := 3) hx hb hown (hts (.constantLong RX12 334 (3)) (by decide +kernel)) dX12_row_10 ?_
    refine psi (As := [.long p2.toInt64, .long 0, .long 3]) (rest := []) ⟨hx, hb, hml, hown, hts⟩ (c_X12_in l D k p2.toInt64 (0 : Int64) (3 : Int64)) (va_cwS 3 hts gX12_row_X12_in rfl rfl rfl (by decide +kernel) ⟨Nat.le_of_ble_eq_true rfl, Nat.le_of_ble_eq_true rfl⟩) hK rfl hl.1 rfl (Nat.le_of_ble_eq_true rfl) dX12_row_13 ⟨Nat.le_of_ble_eq_true rfl, Nat.le_of_ble_eq_true rfl⟩ (fun r3 hr3 => ?_)
    rcases hr3 with ⟨g4, rfl⟩ | ⟨g4, rfl⟩
    · refine lv_if_eq (tgt := 25) hx hb dX12_row_16 (by decide) (fun h => absurd h (by decide)) (fun _ => ?_)
      refine lv_iload_n hx hb dX12_row_19 rfl (lv_at hl 3 rfl) ?_
      refine lv_bipush (v := 60) hx hb dX12_row_20 (by decide) ?_
      refine lv_icmp_le (tgt := 28) hx hb dX12_row_22 (by decide) (fun c5 => ?_) (fun c5 => ?_)
      · refine lv_iload_n hx hb dX12_row_28 rfl (lv_at hl 3 rfl) ?_
        refine lv_if_ge (tgt := 35) hx hb dX12_row_29 (by decide) (fun c6 => ?_) (fun c6 => ?_)
        · refine lv_aload_n hx hb dX12_row_35 rfl (lv_at hl 0 rfl) ?_
          refine va_get (D := D) (ci := 12) (v := .ref (b 14)) (C := RX12) (T := TX12) (N := 34) hx hb hts i_X12 hown hK hP 0 rfl rfl 30 (by decide) (hts (.fieldLink RX12 61 "BellowsRowModel" "slotMany" "[I") (by decide +kernel)) (fun _ h9 => h9) rfl dX12_row_36 ?_
          refine lv_iload_n hx hb dX12_row_39 rfl (lv_at hl 1 rfl) ?_
          refine lv_iload_n hx hb dX12_row_40 rfl (lv_at hl 3 rfl) ?_
          refine va_iast hx hb hK hP hD hS 1 1 rfl rfl (vp_in_iff.mpr (by (try simp only [i_lt, i_le, i_eq, Int32.toInt_toInt64, Int32.reduceToInt, Int64.reduceToInt] at g2 g4 c5 c6 ⊢); omega)) dX12_row_41 (fun H locs hP hD hS => ?_)
          have hP : va_P D vwCl [m0 k b, ((b 14), .inl (k 1, 4, .inl (upd sm0 (p1).toNatClampNeg p3))), m15 k b, m16 k b] H := hP
          have hD : va_D A [m0 k b, ((b 14), .inl (k 1, 4, .inl (upd sm0 (p1).toNatClampNeg p3))), m15 k b, m16 k b] := hD
          refine lv_aload_n hx hb dX12_row_42 rfl (lv_at hl 0 rfl) ?_
          refine va_get (D := D) (ci := 12) (v := .ref (b 15)) (C := RX12) (T := TX12) (N := 34) hx hb hts i_X12 hown hK hP 0 rfl rfl 31 (by decide) (hts (.fieldLink RX12 64 "BellowsRowModel" "width" "[I") (by decide +kernel)) (fun _ h9 => h9) rfl dX12_row_43 ?_
          refine lv_iload_n hx hb dX12_row_46 rfl (lv_at hl 1 rfl) ?_
          refine lv_iload_n hx hb dX12_row_47 rfl (lv_at hl 2 rfl) ?_
          refine va_iast hx hb hK hP hD hS 2 1 rfl rfl (vp_in_iff.mpr (by (try simp only [i_lt, i_le, i_eq, Int32.toInt_toInt64, Int32.reduceToInt, Int64.reduceToInt] at g2 g4 c5 c6 ⊢); omega)) dX12_row_48 (fun H locs hP hD hS => ?_)
          have hP : va_P D vwCl [m0 k b, ((b 14), .inl (k 1, 4, .inl (upd sm0 (p1).toNatClampNeg p3))), ((b 15), .inl (k 1, 4, .inl (upd (fun _ => 0) (p1).toNatClampNeg p2))), m16 k b] H := hP
          have hD : va_D A [m0 k b, ((b 14), .inl (k 1, 4, .inl (upd sm0 (p1).toNatClampNeg p3))), ((b 15), .inl (k 1, 4, .inl (upd (fun _ => 0) (p1).toNatClampNeg p2))), m16 k b] := hD
          refine lv_iconst (v := 0) hx hb dX12_row_49 (by decide) ?_
          refine lv_istore (lv' := [(4, .int 0), (0, .ref (b 0)), (1, .int p1), (2, .int p2), (3, .int p3)]) hx hb dX12_row_50 hl (by decide) rfl (fun ls hl => ?_)
          have lp1 : ∀ (n7 j8 : Nat) (H : Heap) (locs : List Loc) (ls : Array Slot), j8 + n7 = 60 → 0 ≤ j8 → True → va_P D vwCl [m0 k b, ((b 14), .inl (k 1, 4, .inl (upd sm0 (p1).toNatClampNeg p3))), ((b 15), .inl (k 1, 4, .inl (upd (fun _ => 0) (p1).toNatClampNeg p2))), m16 k b] H → va_D A [m0 k b, ((b 14), .inl (k 1, 4, .inl (upd sm0 (p1).toNatClampNeg p3))), ((b 15), .inl (k 1, 4, .inl (upd (fun _ => 0) (p1).toNatClampNeg p2))), m16 k b] → va_S A s.heap H locs → lv_has ls 5 [(4, .int (nI j8)), (0, .ref (b 0)), (1, .int p1), (2, .int p2), (3, .int p3)] → W p l e (headSpec wsX12_row ({ frames := 2, cells := 0, slots := 0, locals := 45 })).room s m ([.ref (b 0), .int p1, .int p2, .int p3] : List Value).toArray below meth c H locs 0 0 (MQ below (va_Qi (fun r (_ : Unit) => ((0 ≤ p1.toInt ∧ p1.toInt ≤ 3 ∧ 0 ≤ p2.toInt ∧ p2.toInt ≤ 3 ∧ p3.toInt ≤ 60) ∧ 0 ≤ p3.toInt ∧ r = 0) ∨ ((0 ≤ p1.toInt ∧ p1.toInt ≤ 3 ∧ 0 ≤ p2.toInt ∧ p2.toInt ≤ 3 ∧ p3.toInt ≤ 60) ∧ p3.toInt < 0 ∧ r = -3) ∨ (¬ (0 ≤ p1.toInt ∧ p1.toInt ≤ 3 ∧ 0 ≤ p2.toInt ∧ p2.toInt ≤ 3 ∧ p3.toInt ≤ 60) ∧ r = -2)) (WB D A (fun (_ : Unit) => ([] : va_W))) A) ([.ref (b 0), .int p1, .int p2, .int p3] : List Value).toArray s 0 0 A) (F0 m 52 ls []) := by
            intro n7
            induction n7 with
            | zero =>
              intro j8 H locs ls hjlp1 hlolp1 hIlp1 hP hD hS hl
              obtain rfl : j8 = 60 := by omega
              have hl : lv_has ls 5 [(4, .int 60), (0, .ref (b 0)), (1, .int p1), (2, .int p2), (3, .int p3)] := hl
              refine lv_iload hx hb dX12_row_52 (lv_at hl 0 rfl) ?_
              refine lv_bipush (v := 60) hx hb dX12_row_54 (by decide) ?_
              refine lv_icmp_ge (tgt := 78) hx hb dX12_row_56 (by decide) (fun _ => ?_) (fun h => absurd (by decide) h)
              refine lv_iconst (v := 0) hx hb dX12_row_78 (by decide) ?_
              have hP9 := hP.sub (ws' := []) [] rfl
              have hD9 := hD.sub (ws' := []) [] (by decide) rfl
              refine W.widen (k := 0) (n := 0) (Nat.le_of_ble_eq_true rfl) (Nat.le_of_ble_eq_true rfl) ?_
              exact W.iret (v := 0) hx hb hr (fun t ht hW => ⟨⟨0, (), rfl, Or.inl ⟨by (try simp only [i_lt, i_le, i_eq, Int32.toInt_toInt64, Int32.reduceToInt, Int64.reduceToInt] at g2 g4 c5 c6 ⊢); omega, by (try simp only [i_lt, i_le, i_eq, Int32.toInt_toInt64, Int32.reduceToInt, Int64.reduceToInt] at g2 g4 c5 c6 ⊢); omega, rfl⟩, by rw [ht]; exact hP9, hD9⟩, hS.F ht⟩) hS.2.2 dX12_row_79
            | succ n7 ih =>
              intro j8 H locs ls hjlp1 hlolp1 hIlp1 hP hD hS hl
              have hj : j8 < 60 := by omega
              refine lv_iload hx hb dX12_row_52 (lv_at hl 0 rfl) ?_
              refine lv_bipush (v := 60) hx hb dX12_row_54 (by decide) ?_
              refine lv_icmp_ge (tgt := 78) hx hb dX12_row_56 (by decide) (fun h => absurd h (nI_ge (a := j8) (b := 60) (by omega) (by decide))) (fun _ => ?_)
              refine lv_aload_n hx hb dX12_row_59 rfl (lv_at hl 1 rfl) ?_
              refine va_get (D := D) (ci := 12) (v := .ref (b 16)) (C := RX12) (T := TX12) (N := 34) hx hb hts i_X12 hown hK hP 0 rfl rfl 32 (by decide) (hts (.fieldLink RX12 67 "BellowsRowModel" "numbers" "[J") (by decide +kernel)) (fun _ h9 => h9) rfl dX12_row_60 ?_
              refine lv_bipush (v := 60) hx hb dX12_row_63 (by decide) ?_
              refine lv_iload_n hx hb dX12_row_65 rfl (lv_at hl 2 rfl) ?_
              refine lv_imul hx hb dX12_row_66 ?_
              refine lv_topi (fun x9 ex9 => ?_)
              refine lv_iload hx hb dX12_row_67 (lv_at hl 0 rfl) ?_
              refine lv_iadd hx hb dX12_row_69 ?_
              refine lv_topi (fun x10 ex10 => ?_)
              refine lv_lconst (v := 0) hx hb dX12_row_70 (by decide) ?_
              refine va_last hx hb hK hP hD hS 3 2 rfl rfl (by obtain ⟨c9, hc9, rfl⟩ := vp_in_of (vp_in_iff.mpr (by (try simp only [i_lt, i_le, i_eq, Int32.toInt_toInt64, Int32.reduceToInt, Int64.reduceToInt] at g2 g4 c5 c6 ex9 ex10 ⊢); omega) : vp_in p1 4) (by decide); rw [ex10, ex9, show (60 : Int32) * nI c9 + nI j8 = nI (60 * c9 + j8) from by rw [show (60 : Int32) * nI c9 = nI (60 * c9) from pk_mul 60 c9, nI_add]]; exact vp_in_nI (by omega) (by decide)) dX12_row_71 (fun H locs hP hD hS => ?_)
              have hP : va_P D vwCl [m0 k b, ((b 14), .inl (k 1, 4, .inl (upd sm0 (p1).toNatClampNeg p3))), ((b 15), .inl (k 1, 4, .inl (upd (fun _ => 0) (p1).toNatClampNeg p2))), ((b 16), .inl (k 2, 240, .inr (.inl (vp_updL (fun _ => 0) (x10).toNatClampNeg 0))))] H := hP
              have hD : va_D A [m0 k b, ((b 14), .inl (k 1, 4, .inl (upd sm0 (p1).toNatClampNeg p3))), ((b 15), .inl (k 1, 4, .inl (upd (fun _ => 0) (p1).toNatClampNeg p2))), ((b 16), .inl (k 2, 240, .inr (.inl (vp_updL (fun _ => 0) (x10).toNatClampNeg 0))))] := hD
              rw [updL_zero] at hP hD
              obtain ⟨x11, ex11⟩ : ∃ y : Int32, y = nI j8 + 1 := ⟨_, rfl⟩
              refine lv_iinc (v := x11) (lv' := [(4, .int x11), (0, .ref (b 0)), (1, .int p1), (2, .int p2), (3, .int p3)]) hx hb dX12_row_72 hl (k := 0) rfl (by rw [ex11]; rfl) (by decide) rfl (fun ls hl => ?_)
              refine lv_goto (tgt := 52) hx hb dX12_row_75 (by decide) ?_
              obtain rfl : x11 = nI (j8 + 1) := ex11.trans (nI_1 j8)
              exact ih (j8 + 1) _ _ _ (by omega) (by omega) trivial hP hD hS (lv_sub hl [0, 1, 2, 3, 4] rfl)
          exact lp1 (60) (0) _ _ _ (by decide) (by decide) trivial hP hD hS (lv_sub hl [0, 1, 2, 3, 4] rfl)
        · refine lv_bipush (v := (-3)) hx hb dX12_row_32 (by decide) ?_
          have hP9 := hP.sub (ws' := []) [] rfl
          have hD9 := hD.sub (ws' := []) [] (by decide) rfl
          refine W.widen (k := 0) (n := 0) (Nat.le_of_ble_eq_true rfl) (Nat.le_of_ble_eq_true rfl) ?_
          exact W.iret (v := (-3)) hx hb hr (fun t ht hW => ⟨⟨(-3), (), rfl, Or.inr (Or.inl ⟨by (try simp only [i_lt, i_le, i_eq, Int32.toInt_toInt64, Int32.reduceToInt, Int64.reduceToInt] at g2 g4 c5 c6 ⊢); omega, by (try simp only [i_lt, i_le, i_eq, Int32.toInt_toInt64, Int32.reduceToInt, Int64.reduceToInt] at g2 g4 c5 c6 ⊢); omega, rfl⟩), by rw [ht]; exact hP9, hD9⟩, hS.F ht⟩) hS.2.2 dX12_row_34
      · refine lv_bipush (v := (-2)) hx hb dX12_row_25 (by decide) ?_
        have hP9 := hP.sub (ws' := []) [] rfl
        have hD9 := hD.sub (ws' := []) [] (by decide) rfl
        refine W.widen (k := 0) (n := 0) (Nat.le_of_ble_eq_true rfl) (Nat.le_of_ble_eq_true rfl) ?_
        exact W.iret (v := (-2)) hx hb hr (fun t ht hW => ⟨⟨(-2), (), rfl, Or.inr (Or.inr ⟨by (try simp only [i_lt, i_le, i_eq, Int32.toInt_toInt64, Int32.reduceToInt, Int64.reduceToInt] at g2 g4 c5 ⊢); omega, rfl⟩), by rw [ht]; exact hP9, hD9⟩, hS.F ht⟩) hS.2.2 dX12_row_27
    · refine lv_if_eq (tgt := 25) hx hb dX12_row_16 (by decide) (fun _ => ?_) (fun h => absurd (by decide) h)
      refine lv_bipush (v := (-2)) hx hb dX12_row_25 (by decide) ?_
      have hP9 := hP.sub (ws' := []) [] rfl
      have hD9 := hD.sub (ws' := []) [] (by decide) rfl
      refine W.widen (k := 0) (n := 0) (Nat.le_of_ble_eq_true rfl) (Nat.le_of_ble_eq_true rfl) ?_
      exact W.iret (v := (-2)) hx hb hr (fun t ht hW => ⟨⟨(-2), (), rfl, Or.inr (Or.inr ⟨by (try simp only [i_lt, i_le, i_eq, Int32.toInt_toInt64, Int32.reduceToInt, Int64.reduceToInt] at g2 g4 ⊢); omega, rfl⟩), by rw [ht]; exact hP9, hD9⟩, hS.F ht⟩) hS.2.2 dX12_row_27
  · refine lv_if_eq (tgt := 25) hx hb dX12_row_4 (by decide) (fun _ => ?_) (fun h => absurd (by decide) h)
    refine lv_bipush (v := (-2)) hx hb dX12_row_25 (by decide) ?_
    have hP9 := hP.sub (ws' := []) [] rfl
    have hD9 := hD.sub (ws' := []) [] (by decide) rfl
    refine W.widen (k := 0) (n := 0) (Nat.le_of_ble_eq_true rfl) (Nat.le_of_ble_eq_true rfl) ?_
    exact W.iret (v := (-2)) hx hb hr (fun t ht hW => ⟨⟨(-2), (), rfl, Or.inr (Or.inr ⟨by (try simp only [i_lt, i_le, i_eq, Int32.toInt_toInt64, Int32.reduceToInt, Int64.reduceToInt] at g2 ⊢); omega, rfl⟩), by rw [ht]; exact hP9, hD9⟩, hS.F ht⟩) hS.2.2 dX12_row_27
set_option maxHeartbeats 4000000 in
set_option maxRecDepth 100000 in
theorem c_X12_see (l : Launch) (D : va_G) (k : Nat → ClassId) (b : Nat → Nat) : Met l yX12_see wsX12_see ({ frames := 0, cells := 0, slots := 0, locals := 0 }) (PreR D k [m0 k b] [.ref (b 0), .int 0]) (vp_Si (fun r => r = (-1))) 0 0 (fun _ => False) := by
  refine Met.ofW (cc := cX12_see) (maxL := 2) (ret := (some .int)) (by decide) rfl ?_
  intro p e s m args below meth c s₁ B hml hv
  obtain ⟨rfl, hP, hK⟩ := hv
  have hx := B.exec
  have hb := B.bytes
  have hr := B.returns
  have hts := atoms_spec (ws := wsX12_see) B.pre
  have hown : s.vm.findClass RX12 = some m.cls := findClass_of_methodNamed B.named
  have hlocks := B.notSynchronized
  have i_X12 : ∀ w ∈ wsX120, w ∈ wsX12_see := by decide +kernel
  have hl := lv_entry ([.ref (b 0), .int 0]) (n := 2) (Nat.le_of_ble_eq_true rfl)
  rw [lg_entry_eq]
  generalize (lg_sl ([.ref (b 0), .int 0]) ++ List.replicate (2 - (lg_sl ([.ref (b 0), .int 0])).length) Slot.unset).toArray = ls at hl ⊢
  have hl : lv_has ls 2 [(0, .ref (b 0)), (1, .int 0)] := hl
  refine lv_iload_n hx hb dX12_see_0 rfl (lv_at hl 1 rfl) ?_
  refine lv_aload_n hx hb dX12_see_1 rfl (lv_at hl 0 rfl) ?_
  refine va_get (D := D) (ci := 12) (v := .int 0) (C := RX12) (T := TX12) (N := 34) hx hb hts i_X12 hown hK hP 0 rfl rfl 7 (by decide) (hts (.fieldLink RX12 85 "BellowsRowModel" "size" "I") (by decide +kernel)) (fun _ h9 => h9) rfl dX12_see_2 ?_
  refine lv_icmp_ge (tgt := 21) hx hb dX12_see_5 (by decide) (fun _ => ?_) (fun h => absurd (by decide) h)
  refine lv_iconst (v := (-1)) hx hb dX12_see_21 (by decide) ?_
  exact W.iret (v := (-1)) hx hb hr (fun t ht hW => ⟨(-1), rfl, rfl, ht⟩) (fun q h => by cases h) dX12_see_22
set_option maxHeartbeats 4000000 in
set_option maxRecDepth 100000 in
theorem c_X12_good (l : Launch) (D : va_G) (k : Nat → ClassId) (b : Nat → Nat) : Met l yX12_good wsX12_good ({ frames := 0, cells := 0, slots := 0, locals := 0 }) (PreR D k [m0 k b] [.ref (b 0)]) (vp_Si (fun r => r = 1)) 0 0 (fun _ => False) := by
  refine Met.ofW (cc := cX12_good) (maxL := 1) (ret := (some .boolean)) (by decide) rfl ?_
  intro p e s m args below meth c s₁ B hml hv
  obtain ⟨rfl, hP, hK⟩ := hv
  have hx := B.exec
  have hb := B.bytes
  have hr := B.returns
  have hts := atoms_spec (ws := wsX12_good) B.pre
  have hown : s.vm.findClass RX12 = some m.cls := findClass_of_methodNamed B.named
  have hlocks := B.notSynchronized
  have i_X12 : ∀ w ∈ wsX120, w ∈ wsX12_good := by decide +kernel
  have hl := lv_entry ([.ref (b 0)]) (n := 1) (Nat.le_of_ble_eq_true rfl)
  rw [lg_entry_eq]
  generalize (lg_sl ([.ref (b 0)]) ++ List.replicate (1 - (lg_sl ([.ref (b 0)])).length) Slot.unset).toArray = ls at hl ⊢
  have hl : lv_has ls 1 [(0, .ref (b 0))] := hl
  refine lv_aload_n hx hb dX12_good_0 rfl (lv_at hl 0 rfl) ?_
  refine va_get (D := D) (ci := 12) (v := .int 0) (C := RX12) (T := TX12) (N := 34) hx hb hts i_X12 hown hK hP 0 rfl rfl 12 (by decide) (hts (.fieldLink RX12 119 "BellowsRowModel" "faultKind" "I") (by decide +kernel)) (fun _ h9 => h9) rfl dX12_good_1 ?_
  refine lv_if_ne (tgt := 11) hx hb dX12_good_4 (by decide) (fun h => absurd (by decide) h) (fun _ => ?_)
  refine lv_iconst (v := 1) hx hb dX12_good_7 (by decide) ?_
  refine lv_goto (tgt := 12) hx hb dX12_good_8 (by decide) ?_
  exact W.zret (v := 1) hx hb hr rfl (fun t ht hW => ⟨1, rfl, rfl, ht⟩) (fun q h => by cases h) dX12_good_12
set_option maxHeartbeats 4000000 in
set_option maxRecDepth 100000 in
theorem c_X12_advance (l : Launch) (D : va_G) (k : Nat → ClassId) (b : Nat → Nat) (sz : Nat) : Met l yX12_advance wsX12_advance ({ frames := 1, cells := 0, slots := 0, locals := 21 }) (PreM D k sz [m0 k b] [.ref (b 0)]) (va_Qv (fun (_ : Unit) => True) (WB D (va_A [m0 k b] sz) (fun (_ : Unit) => [m0 k b])) (va_A [m0 k b] sz)) 0 0 (va_A [m0 k b] sz) := by
  refine Met.ofW (cc := cX12_advance) (maxL := 2) (ret := none) (by decide) rfl ?_
  intro p e s m args below meth c s₁ B hml hv
  obtain ⟨rfl, hsz, hP, hK, hD0, hN⟩ := hv
  have hx := B.exec
  have hb := B.bytes
  have hr := B.returns
  have hts := atoms_spec (ws := wsX12_advance) B.pre
  have hown : s.vm.findClass RX12 = some m.cls := findClass_of_methodNamed B.named
  have hlocks := B.notSynchronized
  have i_X12 : ∀ w ∈ wsX120, w ∈ wsX12_advance := by decide +kernel
  subst hsz
  have hD := hD0.self (sz := s.heap.size)
  generalize hAe : va_A [m0 k b] s.heap.size = A at hD ⊢
  have hA : ∀ q : Nat, s.heap.size ≤ q → A q := fun q h => by rw [← hAe]; exact Or.inr h
  have hS : va_S A s.heap s.heap [] := va_S.rf
  have hP : va_P D vwCl [m0 k b] s.heap := hP
  have hl := lv_entry ([.ref (b 0)]) (n := 2) (Nat.le_of_ble_eq_true rfl)
  rw [lg_entry_eq]
  generalize (lg_sl ([.ref (b 0)]) ++ List.replicate (2 - (lg_sl ([.ref (b 0)])).length) Slot.unset).toArray = ls at hl ⊢
  have hl : lv_has ls 2 [(0, .ref (b 0))] := hl
  refine lv_aload_n hx hb dX12_advance_0 rfl (lv_at hl 0 rfl) ?_
  refine lv_aload_n hx hb dX12_advance_1 rfl (lv_at hl 0 rfl) ?_
  refine va_get (D := D) (ci := 12) (v := .int 0) (C := RX12) (T := TX12) (N := 34) hx hb hts i_X12 hown hK hP 0 rfl rfl 8 (by decide) (hts (.fieldLink RX12 88 "BellowsRowModel" "at" "I") (by decide +kernel)) (fun _ h9 => h9) rfl dX12_advance_2 ?_
  refine pvi (C := RX12) (As := [.int 0]) (rest := []) (wc := [m0 k b]) ⟨hx, hb, hml, hown, hts⟩ (c_X12_see l D k b) (cwV 1 hts gX12_advance_X12_see rfl rfl rfl (by decide +kernel) ⟨Nat.le_of_ble_eq_true rfl, Nat.le_of_ble_eq_true rfl⟩) hP hK [0] rfl 0 rfl rfl rfl rfl hl.1 rfl (Nat.le_of_ble_eq_true rfl) dX12_advance_5 ⟨Nat.le_of_ble_eq_true rfl, Nat.le_of_ble_eq_true rfl⟩ (fun r1 hr1 => ?_)
  obtain rfl := hr1
  refine lv_bipush (v := 32) hx hb dX12_advance_8 (by decide) ?_
  refine lv_icmp_eq (tgt := 26) hx hb dX12_advance_10 (by decide) (fun h => absurd h (by decide)) (fun _ => ?_)
  refine lv_aload_n hx hb dX12_advance_13 rfl (lv_at hl 0 rfl) ?_
  refine lv_aload_n hx hb dX12_advance_14 rfl (lv_at hl 0 rfl) ?_
  refine va_get (D := D) (ci := 12) (v := .int 0) (C := RX12) (T := TX12) (N := 34) hx hb hts i_X12 hown hK hP 0 rfl rfl 8 (by decide) (hts (.fieldLink RX12 88 "BellowsRowModel" "at" "I") (by decide +kernel)) (fun _ h9 => h9) rfl dX12_advance_15 ?_
  refine pvi (C := RX12) (As := [.int 0]) (rest := []) (wc := [m0 k b]) ⟨hx, hb, hml, hown, hts⟩ (c_X12_see l D k b) (cwV 1 hts gX12_advance_X12_see rfl rfl rfl (by decide +kernel) ⟨Nat.le_of_ble_eq_true rfl, Nat.le_of_ble_eq_true rfl⟩) hP hK [0] rfl 0 rfl rfl rfl rfl hl.1 rfl (Nat.le_of_ble_eq_true rfl) dX12_advance_18 ⟨Nat.le_of_ble_eq_true rfl, Nat.le_of_ble_eq_true rfl⟩ (fun r2 hr2 => ?_)
  obtain rfl := hr2
  refine lv_bipush (v := 10) hx hb dX12_advance_21 (by decide) ?_
  refine lv_icmp_ne (tgt := 39) hx hb dX12_advance_23 (by decide) (fun _ => ?_) (fun h => absurd h (by decide))
  refine lv_aload_n hx hb dX12_advance_39 rfl (lv_at hl 0 rfl) ?_
  refine lv_aload_n hx hb dX12_advance_40 rfl (lv_at hl 0 rfl) ?_
  refine va_get (D := D) (ci := 12) (v := .int 0) (C := RX12) (T := TX12) (N := 34) hx hb hts i_X12 hown hK hP 0 rfl rfl 8 (by decide) (hts (.fieldLink RX12 88 "BellowsRowModel" "at" "I") (by decide +kernel)) (fun _ h9 => h9) rfl dX12_advance_41 ?_
  refine va_put (D := D) (ci := 12) (v := .int 0) (ty := .int) (C := RX12) (T := TX12) (N := 34) hx hb hts i_X12 tyX12 tyX12_ok nmX12 hown hK hP hD hS 0 rfl rfl 9 (by decide) (hts (.fieldLink RX12 95 "BellowsRowModel" "from" "I") (by decide +kernel)) (fun _ h9 => h9) rfl (by decide +kernel) rfl rfl (Nat.le_of_ble_eq_true rfl) dX12_advance_44 (fun H locs hP hD hS => ?_)
  have hP : va_P D vwCl [((b 0), .inr (12, [.int 0, .ref (b 1), .ref (b 2), .ref (b 3), .ref (b 4), .int 0, .ref (b 5), .int 0, .int 0, .int 0, .int 0, .int 0, .int 0, .int (-1), .ref (b 6), .int 0, .int 0, .ref (b 7), .ref (b 8), .ref (b 9), .ref (b 10), .int 0, .ref (b 11), .int 0, .ref (b 12), .int 0, .ref (b 13), .int (-1), .int 0, .int 0, .ref (b 14), .ref (b 15), .ref (b 16), .ref (b 17)]))] H := hP
  have hD : va_D A [((b 0), .inr (12, [.int 0, .ref (b 1), .ref (b 2), .ref (b 3), .ref (b 4), .int 0, .ref (b 5), .int 0, .int 0, .int 0, .int 0, .int 0, .int 0, .int (-1), .ref (b 6), .int 0, .int 0, .ref (b 7), .ref (b 8), .ref (b 9), .ref (b 10), .int 0, .ref (b 11), .int 0, .ref (b 12), .int 0, .ref (b 13), .int (-1), .int 0, .int 0, .ref (b 14), .ref (b 15), .ref (b 16), .ref (b 17)]))] := hD
  refine lv_aload_n hx hb dX12_advance_47 rfl (lv_at hl 0 rfl) ?_
  refine lv_aload_n hx hb dX12_advance_48 rfl (lv_at hl 0 rfl) ?_
  refine va_get (D := D) (ci := 12) (v := .int 0) (C := RX12) (T := TX12) (N := 34) hx hb hts i_X12 hown hK hP 0 rfl rfl 8 (by decide) (hts (.fieldLink RX12 88 "BellowsRowModel" "at" "I") (by decide +kernel)) (fun _ h9 => h9) rfl dX12_advance_49 ?_
  refine pvi (C := RX12) (As := [.int 0]) (rest := []) (wc := [m0 k b]) ⟨hx, hb, hml, hown, hts⟩ (c_X12_see l D k b) (cwV 1 hts gX12_advance_X12_see rfl rfl rfl (by decide +kernel) ⟨Nat.le_of_ble_eq_true rfl, Nat.le_of_ble_eq_true rfl⟩) hP hK [0] rfl 0 rfl rfl rfl rfl hl.1 rfl (Nat.le_of_ble_eq_true rfl) dX12_advance_52 ⟨Nat.le_of_ble_eq_true rfl, Nat.le_of_ble_eq_true rfl⟩ (fun r3 hr3 => ?_)
  obtain rfl := hr3
  refine lv_istore_n (lv' := [(1, .int (-1)), (0, .ref (b 0))]) hx hb dX12_advance_55 rfl hl (by decide) rfl (fun ls hl => ?_)
  refine lv_iload_n hx hb dX12_advance_56 rfl (lv_at hl 0 rfl) ?_
  refine lv_iconst (v := (-1)) hx hb dX12_advance_57 (by decide) ?_
  refine lv_icmp_ne (tgt := 69) hx hb dX12_advance_58 (by decide) (fun h => absurd (by decide) h) (fun _ => ?_)
  refine lv_aload_n hx hb dX12_advance_61 rfl (lv_at hl 1 rfl) ?_
  refine lv_iconst (v := 0) hx hb dX12_advance_62 (by decide) ?_
  refine va_put (D := D) (ci := 12) (v := .int 0) (ty := .int) (C := RX12) (T := TX12) (N := 34) hx hb hts i_X12 tyX12 tyX12_ok nmX12 hown hK hP hD hS 0 rfl rfl 10 (by decide) (hts (.fieldLink RX12 98 "BellowsRowModel" "token" "I") (by decide +kernel)) (fun _ h9 => h9) rfl (by decide +kernel) rfl rfl (Nat.le_of_ble_eq_true rfl) dX12_advance_63 (fun H locs hP hD hS => ?_)
  have hP : va_P D vwCl [((b 0), .inr (12, [.int 0, .ref (b 1), .ref (b 2), .ref (b 3), .ref (b 4), .int 0, .ref (b 5), .int 0, .int 0, .int 0, .int 0, .int 0, .int 0, .int (-1), .ref (b 6), .int 0, .int 0, .ref (b 7), .ref (b 8), .ref (b 9), .ref (b 10), .int 0, .ref (b 11), .int 0, .ref (b 12), .int 0, .ref (b 13), .int (-1), .int 0, .int 0, .ref (b 14), .ref (b 15), .ref (b 16), .ref (b 17)]))] H := hP
  have hD : va_D A [((b 0), .inr (12, [.int 0, .ref (b 1), .ref (b 2), .ref (b 3), .ref (b 4), .int 0, .ref (b 5), .int 0, .int 0, .int 0, .int 0, .int 0, .int 0, .int (-1), .ref (b 6), .int 0, .int 0, .ref (b 7), .ref (b 8), .ref (b 9), .ref (b 10), .int 0, .ref (b 11), .int 0, .ref (b 12), .int 0, .ref (b 13), .int (-1), .int 0, .int 0, .ref (b 14), .ref (b 15), .ref (b 16), .ref (b 17)]))] := hD
  refine lv_goto (tgt := 239) hx hb dX12_advance_66 (by decide) ?_
  have hP9 := hP.sub (ws' := [((b 0), .inr (12, [.int 0, .ref (b 1), .ref (b 2), .ref (b 3), .ref (b 4), .int 0, .ref (b 5), .int 0, .int 0, .int 0, .int 0, .int 0, .int 0, .int (-1), .ref (b 6), .int 0, .int 0, .ref (b 7), .ref (b 8), .ref (b 9), .ref (b 10), .int 0, .ref (b 11), .int 0, .ref (b 12), .int 0, .ref (b 13), .int (-1), .int 0, .int 0, .ref (b 14), .ref (b 15), .ref (b 16), .ref (b 17)]))]) [0] rfl
  have hD9 := hD.sub (ws' := [((b 0), .inr (12, [.int 0, .ref (b 1), .ref (b 2), .ref (b 3), .ref (b 4), .int 0, .ref (b 5), .int 0, .int 0, .int 0, .int 0, .int 0, .int 0, .int (-1), .ref (b 6), .int 0, .int 0, .ref (b 7), .ref (b 8), .ref (b 9), .ref (b 10), .int 0, .ref (b 11), .int 0, .ref (b 12), .int 0, .ref (b 13), .int (-1), .int 0, .int 0, .ref (b 14), .ref (b 15), .ref (b 16), .ref (b 17)]))]) [0] (by decide) rfl
  refine W.widen (k := 0) (n := 0) (Nat.le_of_ble_eq_true rfl) (Nat.le_of_ble_eq_true rfl) ?_
  exact W.vret hx hb hr (fun t ht hW => ⟨⟨(), rfl, trivial, by rw [ht]; exact hP9, hD9⟩, hS.F ht⟩) hS.2.2 dX12_advance_239
def wsP_X12_works : List Cond := .code yX12_works cX12_works 2 (some .int) :: ([.fieldLink RX12 82 "BellowsRowModel" "taped" "I", .fieldLink RX12 85 "BellowsRowModel" "size" "I", .fieldLink RX12 88 "BellowsRowModel" "at" "I", .fieldLink RX12 119 "BellowsRowModel" "faultKind" "I", .fieldLink RX12 31 "BellowsRowModel" "faultPlace" "I", .fieldLink RX12 251 "BellowsRowModel" "windTold" "Z", .fieldLink RX12 98 "BellowsRowModel" "token" "I", .fieldLink RX12 13 "BellowsRowModel" "world" "[I", .fieldLink RX12 34 "BellowsRowModel" "fresh" "[I"] ++ wsX120 ++ (wsV RX12 140 RX12 yX12_advance wsX12_advance) ++ (wsV RX12 122 RX12 yX12_good wsX12_good))
set_option maxRecDepth 20000 in
theorem gP_X12_works_X12_advance : GoodIn wsP_X12_works (wsV RX12 140 RX12 yX12_advance wsX12_advance) := goodIn_of _ (by decide +kernel)
set_option maxRecDepth 20000 in
theorem gP_X12_works_X12_good : GoodIn wsP_X12_works (wsV RX12 122 RX12 yX12_good wsX12_good) := goodIn_of _ (by decide +kernel)
set_option maxHeartbeats 4000000 in
set_option maxRecDepth 100000 in
theorem c_X12_works (l : Launch) (D : va_G) (k : Nat → ClassId) (b : Nat → Nat) (sz : Nat) : Met l yX12_works wsP_X12_works ({ frames := 2, cells := 0, slots := 0, locals := 42 }) (PreM D k sz [m0 k b, m1 k b, m6 k b] [.ref (b 0)]) (va_Qi (fun r (_ : Unit) => r = 0) (WB D (va_A [m0 k b, m1 k b, m6 k b] sz) (fun (_ : Unit) => ([] : va_W))) (va_A [m0 k b, m1 k b, m6 k b] sz)) 0 0 (va_A [m0 k b, m1 k b, m6 k b] sz) := by
  refine Met.ofW (cc := cX12_works) (maxL := 2) (ret := (some .int)) (by decide) rfl ?_
  intro p e s m args below meth c s₁ B hml hv
  obtain ⟨rfl, hsz, hP, hK, hD0, hN⟩ := hv
  have hx := B.exec
  have hb := B.bytes
  have hr := B.returns
  have hts := atoms_spec (ws := wsP_X12_works) B.pre
  have hown : s.vm.findClass RX12 = some m.cls := findClass_of_methodNamed B.named
  have hlocks := B.notSynchronized
  have i_X12 : ∀ w ∈ wsX120, w ∈ wsP_X12_works := by decide +kernel
  subst hsz
  have hD := hD0.self (sz := s.heap.size)
  generalize hAe : va_A [m0 k b, m1 k b, m6 k b] s.heap.size = A at hD ⊢
  have hA : ∀ q : Nat, s.heap.size ≤ q → A q := fun q h => by rw [← hAe]; exact Or.inr h
  have hS : va_S A s.heap s.heap [] := va_S.rf
  have hP : va_P D vwCl [m0 k b, m1 k b, m6 k b] s.heap := hP
  have hl := lv_entry ([.ref (b 0)]) (n := 2) (Nat.le_of_ble_eq_true rfl)
  rw [lg_entry_eq]
  generalize (lg_sl ([.ref (b 0)]) ++ List.replicate (2 - (lg_sl ([.ref (b 0)])).length) Slot.unset).toArray = ls at hl ⊢
  have hl : lv_has ls 2 [(0, .ref (b 0))] := hl
  refine lv_aload_n hx hb dX12_works_0 rfl (lv_at hl 0 rfl) ?_
  refine lv_aload_n hx hb dX12_works_1 rfl (lv_at hl 0 rfl) ?_
  refine va_get (D := D) (ci := 12) (v := .int 0) (C := RX12) (T := TX12) (N := 34) hx hb hts i_X12 hown hK hP 0 rfl rfl 5 (by decide) (hts (.fieldLink RX12 82 "BellowsRowModel" "taped" "I") (by decide +kernel)) (fun _ h9 => h9) rfl dX12_works_2 ?_
  refine va_put (D := D) (ci := 12) (v := .int 0) (ty := .int) (C := RX12) (T := TX12) (N := 34) hx hb hts i_X12 tyX12 tyX12_ok nmX12 hown hK hP hD hS 0 rfl rfl 7 (by decide) (hts (.fieldLink RX12 85 "BellowsRowModel" "size" "I") (by decide +kernel)) (fun _ h9 => h9) rfl (by decide +kernel) rfl rfl (Nat.le_of_ble_eq_true rfl) dX12_works_5 (fun H locs hP hD hS => ?_)
  have hP : va_P D vwCl [((b 0), .inr (12, [.int 0, .ref (b 1), .ref (b 2), .ref (b 3), .ref (b 4), .int 0, .ref (b 5), .int 0, .int 0, .int 0, .int 0, .int 0, .int 0, .int (-1), .ref (b 6), .int 0, .int 0, .ref (b 7), .ref (b 8), .ref (b 9), .ref (b 10), .int 0, .ref (b 11), .int 0, .ref (b 12), .int 0, .ref (b 13), .int (-1), .int 0, .int 0, .ref (b 14), .ref (b 15), .ref (b 16), .ref (b 17)])), m1 k b, m6 k b] H := hP
  have hD : va_D A [((b 0), .inr (12, [.int 0, .ref (b 1), .ref (b 2), .ref (b 3), .ref (b 4), .int 0, .ref (b 5), .int 0, .int 0, .int 0, .int 0, .int 0, .int 0, .int (-1), .ref (b 6), .int 0, .int 0, .ref (b 7), .ref (b 8), .ref (b 9), .ref (b 10), .int 0, .ref (b 11), .int 0, .ref (b 12), .int 0, .ref (b 13), .int (-1), .int 0, .int 0, .ref (b 14), .ref (b 15), .ref (b 16), .ref (b 17)])), m1 k b, m6 k b] := hD
  refine lv_aload_n hx hb dX12_works_8 rfl (lv_at hl 0 rfl) ?_
  refine lv_iconst (v := 0) hx hb dX12_works_9 (by decide) ?_
  refine va_put (D := D) (ci := 12) (v := .int 0) (ty := .int) (C := RX12) (T := TX12) (N := 34) hx hb hts i_X12 tyX12 tyX12_ok nmX12 hown hK hP hD hS 0 rfl rfl 5 (by decide) (hts (.fieldLink RX12 82 "BellowsRowModel" "taped" "I") (by decide +kernel)) (fun _ h9 => h9) rfl (by decide +kernel) rfl rfl (Nat.le_of_ble_eq_true rfl) dX12_works_10 (fun H locs hP hD hS => ?_)
  have hP : va_P D vwCl [((b 0), .inr (12, [.int 0, .ref (b 1), .ref (b 2), .ref (b 3), .ref (b 4), .int 0, .ref (b 5), .int 0, .int 0, .int 0, .int 0, .int 0, .int 0, .int (-1), .ref (b 6), .int 0, .int 0, .ref (b 7), .ref (b 8), .ref (b 9), .ref (b 10), .int 0, .ref (b 11), .int 0, .ref (b 12), .int 0, .ref (b 13), .int (-1), .int 0, .int 0, .ref (b 14), .ref (b 15), .ref (b 16), .ref (b 17)])), m1 k b, m6 k b] H := hP
  have hD : va_D A [((b 0), .inr (12, [.int 0, .ref (b 1), .ref (b 2), .ref (b 3), .ref (b 4), .int 0, .ref (b 5), .int 0, .int 0, .int 0, .int 0, .int 0, .int 0, .int (-1), .ref (b 6), .int 0, .int 0, .ref (b 7), .ref (b 8), .ref (b 9), .ref (b 10), .int 0, .ref (b 11), .int 0, .ref (b 12), .int 0, .ref (b 13), .int (-1), .int 0, .int 0, .ref (b 14), .ref (b 15), .ref (b 16), .ref (b 17)])), m1 k b, m6 k b] := hD
  refine lv_aload_n hx hb dX12_works_13 rfl (lv_at hl 0 rfl) ?_
  refine lv_iconst (v := 0) hx hb dX12_works_14 (by decide) ?_
  refine va_put (D := D) (ci := 12) (v := .int 0) (ty := .int) (C := RX12) (T := TX12) (N := 34) hx hb hts i_X12 tyX12 tyX12_ok nmX12 hown hK hP hD hS 0 rfl rfl 8 (by decide) (hts (.fieldLink RX12 88 "BellowsRowModel" "at" "I") (by decide +kernel)) (fun _ h9 => h9) rfl (by decide +kernel) rfl rfl (Nat.le_of_ble_eq_true rfl) dX12_works_15 (fun H locs hP hD hS => ?_)
  have hP : va_P D vwCl [((b 0), .inr (12, [.int 0, .ref (b 1), .ref (b 2), .ref (b 3), .ref (b 4), .int 0, .ref (b 5), .int 0, .int 0, .int 0, .int 0, .int 0, .int 0, .int (-1), .ref (b 6), .int 0, .int 0, .ref (b 7), .ref (b 8), .ref (b 9), .ref (b 10), .int 0, .ref (b 11), .int 0, .ref (b 12), .int 0, .ref (b 13), .int (-1), .int 0, .int 0, .ref (b 14), .ref (b 15), .ref (b 16), .ref (b 17)])), m1 k b, m6 k b] H := hP
  have hD : va_D A [((b 0), .inr (12, [.int 0, .ref (b 1), .ref (b 2), .ref (b 3), .ref (b 4), .int 0, .ref (b 5), .int 0, .int 0, .int 0, .int 0, .int 0, .int 0, .int (-1), .ref (b 6), .int 0, .int 0, .ref (b 7), .ref (b 8), .ref (b 9), .ref (b 10), .int 0, .ref (b 11), .int 0, .ref (b 12), .int 0, .ref (b 13), .int (-1), .int 0, .int 0, .ref (b 14), .ref (b 15), .ref (b 16), .ref (b 17)])), m1 k b, m6 k b] := hD
  refine lv_aload_n hx hb dX12_works_18 rfl (lv_at hl 0 rfl) ?_
  refine lv_iconst (v := 0) hx hb dX12_works_19 (by decide) ?_
  refine va_put (D := D) (ci := 12) (v := .int 0) (ty := .int) (C := RX12) (T := TX12) (N := 34) hx hb hts i_X12 tyX12 tyX12_ok nmX12 hown hK hP hD hS 0 rfl rfl 12 (by decide) (hts (.fieldLink RX12 119 "BellowsRowModel" "faultKind" "I") (by decide +kernel)) (fun _ h9 => h9) rfl (by decide +kernel) rfl rfl (Nat.le_of_ble_eq_true rfl) dX12_works_20 (fun H locs hP hD hS => ?_)
  have hP : va_P D vwCl [((b 0), .inr (12, [.int 0, .ref (b 1), .ref (b 2), .ref (b 3), .ref (b 4), .int 0, .ref (b 5), .int 0, .int 0, .int 0, .int 0, .int 0, .int 0, .int (-1), .ref (b 6), .int 0, .int 0, .ref (b 7), .ref (b 8), .ref (b 9), .ref (b 10), .int 0, .ref (b 11), .int 0, .ref (b 12), .int 0, .ref (b 13), .int (-1), .int 0, .int 0, .ref (b 14), .ref (b 15), .ref (b 16), .ref (b 17)])), m1 k b, m6 k b] H := hP
  have hD : va_D A [((b 0), .inr (12, [.int 0, .ref (b 1), .ref (b 2), .ref (b 3), .ref (b 4), .int 0, .ref (b 5), .int 0, .int 0, .int 0, .int 0, .int 0, .int 0, .int (-1), .ref (b 6), .int 0, .int 0, .ref (b 7), .ref (b 8), .ref (b 9), .ref (b 10), .int 0, .ref (b 11), .int 0, .ref (b 12), .int 0, .ref (b 13), .int (-1), .int 0, .int 0, .ref (b 14), .ref (b 15), .ref (b 16), .ref (b 17)])), m1 k b, m6 k b] := hD
  refine lv_aload_n hx hb dX12_works_23 rfl (lv_at hl 0 rfl) ?_
  refine lv_iconst (v := (-1)) hx hb dX12_works_24 (by decide) ?_
  refine va_put (D := D) (ci := 12) (v := .int (-1)) (ty := .int) (C := RX12) (T := TX12) (N := 34) hx hb hts i_X12 tyX12 tyX12_ok nmX12 hown hK hP hD hS 0 rfl rfl 13 (by decide) (hts (.fieldLink RX12 31 "BellowsRowModel" "faultPlace" "I") (by decide +kernel)) (fun _ h9 => h9) rfl (by decide +kernel) rfl rfl (Nat.le_of_ble_eq_true rfl) dX12_works_25 (fun H locs hP hD hS => ?_)
  have hP : va_P D vwCl [((b 0), .inr (12, [.int 0, .ref (b 1), .ref (b 2), .ref (b 3), .ref (b 4), .int 0, .ref (b 5), .int 0, .int 0, .int 0, .int 0, .int 0, .int 0, .int (-1), .ref (b 6), .int 0, .int 0, .ref (b 7), .ref (b 8), .ref (b 9), .ref (b 10), .int 0, .ref (b 11), .int 0, .ref (b 12), .int 0, .ref (b 13), .int (-1), .int 0, .int 0, .ref (b 14), .ref (b 15), .ref (b 16), .ref (b 17)])), m1 k b, m6 k b] H := hP
  have hD : va_D A [((b 0), .inr (12, [.int 0, .ref (b 1), .ref (b 2), .ref (b 3), .ref (b 4), .int 0, .ref (b 5), .int 0, .int 0, .int 0, .int 0, .int 0, .int 0, .int (-1), .ref (b 6), .int 0, .int 0, .ref (b 7), .ref (b 8), .ref (b 9), .ref (b 10), .int 0, .ref (b 11), .int 0, .ref (b 12), .int 0, .ref (b 13), .int (-1), .int 0, .int 0, .ref (b 14), .ref (b 15), .ref (b 16), .ref (b 17)])), m1 k b, m6 k b] := hD
  refine lv_iconst (v := 0) hx hb dX12_works_28 (by decide) ?_
  refine lv_istore_n (lv' := [(1, .int 0), (0, .ref (b 0))]) hx hb dX12_works_29 rfl hl (by decide) rfl (fun ls hl => ?_)
  have lp1 : ∀ (n1 j2 : Nat) (H : Heap) (locs : List Loc) (ls : Array Slot), j2 + n1 = 2482 → 0 ≤ j2 → True → va_P D vwCl [((b 0), .inr (12, [.int 0, .ref (b 1), .ref (b 2), .ref (b 3), .ref (b 4), .int 0, .ref (b 5), .int 0, .int 0, .int 0, .int 0, .int 0, .int 0, .int (-1), .ref (b 6), .int 0, .int 0, .ref (b 7), .ref (b 8), .ref (b 9), .ref (b 10), .int 0, .ref (b 11), .int 0, .ref (b 12), .int 0, .ref (b 13), .int (-1), .int 0, .int 0, .ref (b 14), .ref (b 15), .ref (b 16), .ref (b 17)])), m1 k b, m6 k b] H → va_D A [((b 0), .inr (12, [.int 0, .ref (b 1), .ref (b 2), .ref (b 3), .ref (b 4), .int 0, .ref (b 5), .int 0, .int 0, .int 0, .int 0, .int 0, .int 0, .int (-1), .ref (b 6), .int 0, .int 0, .ref (b 7), .ref (b 8), .ref (b 9), .ref (b 10), .int 0, .ref (b 11), .int 0, .ref (b 12), .int 0, .ref (b 13), .int (-1), .int 0, .int 0, .ref (b 14), .ref (b 15), .ref (b 16), .ref (b 17)])), m1 k b, m6 k b] → va_S A s.heap H locs → lv_has ls 2 [(1, .int (nI j2)), (0, .ref (b 0))] → W p l e (headSpec wsP_X12_works ({ frames := 2, cells := 0, slots := 0, locals := 42 })).room s m ([.ref (b 0)] : List Value).toArray below meth c H locs 0 0 (MQ below (va_Qi (fun r (_ : Unit) => r = 0) (WB D A (fun (_ : Unit) => ([] : va_W))) A) ([.ref (b 0)] : List Value).toArray s 0 0 A) (F0 m 30 ls []) := by
    intro n1
    induction n1 with
    | zero =>
      intro j2 H locs ls hjlp1 hlolp1 hIlp1 hP hD hS hl
      obtain rfl : j2 = 2482 := by omega
      have hl : lv_has ls 2 [(1, .int 2482), (0, .ref (b 0))] := hl
      refine lv_iload_n hx hb dX12_works_30 rfl (lv_at hl 0 rfl) ?_
      refine lv_sipush (v := 2482) hx hb dX12_works_31 (by decide) ?_
      refine lv_icmp_ge (tgt := 50) hx hb dX12_works_34 (by decide) (fun _ => ?_) (fun h => absurd (by decide) h)
      refine lv_aload_n hx hb dX12_works_50 rfl (lv_at hl 1 rfl) ?_
      refine lv_iconst (v := 0) hx hb dX12_works_51 (by decide) ?_
      refine va_put (D := D) (ci := 12) (v := .int 0) (ty := .boolean) (C := RX12) (T := TX12) (N := 34) hx hb hts i_X12 tyX12 tyX12_ok nmX12 hown hK hP hD hS 0 rfl rfl 15 (by decide) (hts (.fieldLink RX12 251 "BellowsRowModel" "windTold" "Z") (by decide +kernel)) (fun _ h9 => h9) rfl (by decide +kernel) rfl rfl (Nat.le_of_ble_eq_true rfl) dX12_works_52 (fun H locs hP hD hS => ?_)
      have hP : va_P D vwCl [((b 0), .inr (12, [.int 0, .ref (b 1), .ref (b 2), .ref (b 3), .ref (b 4), .int 0, .ref (b 5), .int 0, .int 0, .int 0, .int 0, .int 0, .int 0, .int (-1), .ref (b 6), .int 0, .int 0, .ref (b 7), .ref (b 8), .ref (b 9), .ref (b 10), .int 0, .ref (b 11), .int 0, .ref (b 12), .int 0, .ref (b 13), .int (-1), .int 0, .int 0, .ref (b 14), .ref (b 15), .ref (b 16), .ref (b 17)])), m1 k b, m6 k b] H := hP
      have hD : va_D A [((b 0), .inr (12, [.int 0, .ref (b 1), .ref (b 2), .ref (b 3), .ref (b 4), .int 0, .ref (b 5), .int 0, .int 0, .int 0, .int 0, .int 0, .int 0, .int (-1), .ref (b 6), .int 0, .int 0, .ref (b 7), .ref (b 8), .ref (b 9), .ref (b 10), .int 0, .ref (b 11), .int 0, .ref (b 12), .int 0, .ref (b 13), .int (-1), .int 0, .int 0, .ref (b 14), .ref (b 15), .ref (b 16), .ref (b 17)])), m1 k b, m6 k b] := hD
      refine lv_aload_n hx hb dX12_works_55 rfl (lv_at hl 1 rfl) ?_
      refine mvv (C := RX12) (As := []) (rest := []) (wc := [m0 k b]) (wr := [m1 k b, m6 k b]) ⟨hx, hb, hml, hown, hts⟩ (fun sz => c_X12_advance l D k b  sz) (cwV 0 hts gP_X12_works_X12_advance rfl rfl rfl (by decide +kernel) ⟨Nat.le_of_ble_eq_true rfl, Nat.le_of_ble_eq_true rfl⟩) hP hK hD hN hS hA [0] [1, 2] rfl rfl (by decide) rfl (by decide) (by decide) 0 rfl rfl rfl rfl hl.1 rfl (Nat.le_of_ble_eq_true rfl) dX12_works_56 ⟨Nat.le_of_ble_eq_true rfl, Nat.le_of_ble_eq_true rfl⟩ (fun u3 H locs hu3 hP hD hS => ?_)
      have hP : va_P D vwCl [m1 k b, m6 k b, m0 k b] H := hP
      have hD : va_D A [m1 k b, m6 k b, m0 k b] := hD
      refine W.widen (k := 0) (n := 0) (Nat.le_of_ble_eq_true rfl) (Nat.le_of_ble_eq_true rfl) ?_
      refine lv_aload_n hx hb dX12_works_59 rfl (lv_at hl 1 rfl) ?_
      refine pvi (C := RX12) (As := []) (rest := []) (wc := [m0 k b]) ⟨hx, hb, hml, hown, hts⟩ (c_X12_good l D k b ) (cwV 0 hts gP_X12_works_X12_good rfl rfl rfl (by decide +kernel) ⟨Nat.le_of_ble_eq_true rfl, Nat.le_of_ble_eq_true rfl⟩) hP hK [2] rfl 2 rfl rfl rfl rfl hl.1 rfl (Nat.le_of_ble_eq_true rfl) dX12_works_60 ⟨Nat.le_of_ble_eq_true rfl, Nat.le_of_ble_eq_true rfl⟩ (fun r4 hr4 => ?_)
      obtain rfl := hr4
      refine lv_if_eq (tgt := 80) hx hb dX12_works_63 (by decide) (fun h => absurd h (by decide)) (fun _ => ?_)
      refine lv_aload_n hx hb dX12_works_66 rfl (lv_at hl 1 rfl) ?_
      refine va_get (D := D) (ci := 12) (v := .int 0) (C := RX12) (T := TX12) (N := 34) hx hb hts i_X12 hown hK hP 2 rfl rfl 10 (by decide) (hts (.fieldLink RX12 98 "BellowsRowModel" "token" "I") (by decide +kernel)) (fun _ h9 => h9) rfl dX12_works_67 ?_
      refine lv_if_eq (tgt := 80) hx hb dX12_works_70 (by decide) (fun _ => ?_) (fun h => absurd (by decide) h)
      refine lv_aload_n hx hb dX12_works_80 rfl (lv_at hl 1 rfl) ?_
      refine pvi (C := RX12) (As := []) (rest := []) (wc := [m0 k b]) ⟨hx, hb, hml, hown, hts⟩ (c_X12_good l D k b ) (cwV 0 hts gP_X12_works_X12_good rfl rfl rfl (by decide +kernel) ⟨Nat.le_of_ble_eq_true rfl, Nat.le_of_ble_eq_true rfl⟩) hP hK [2] rfl 2 rfl rfl rfl rfl hl.1 rfl (Nat.le_of_ble_eq_true rfl) dX12_works_81 ⟨Nat.le_of_ble_eq_true rfl, Nat.le_of_ble_eq_true rfl⟩ (fun r5 hr5 => ?_)
      obtain rfl := hr5
      refine lv_if_ne (tgt := 90) hx hb dX12_works_84 (by decide) (fun _ => ?_) (fun h => absurd h (by decide))
      refine lv_iconst (v := 0) hx hb dX12_works_90 (by decide) ?_
      refine lv_istore_n (lv' := [(1, .int 0), (0, .ref (b 0))]) hx hb dX12_works_91 rfl hl (by decide) rfl (fun ls hl => ?_)
      have lp2 : ∀ (n6 j7 : Nat) (H : Heap) (locs : List Loc) (ls : Array Slot), j7 + n6 = 2482 → 0 ≤ j7 → True → va_P D vwCl [m1 k b, m6 k b, m0 k b] H → va_D A [m1 k b, m6 k b, m0 k b] → va_S A s.heap H locs → lv_has ls 2 [(1, .int (nI j7)), (0, .ref (b 0))] → W p l e (headSpec wsP_X12_works ({ frames := 2, cells := 0, slots := 0, locals := 42 })).room s m ([.ref (b 0)] : List Value).toArray below meth c H locs 0 0 (MQ below (va_Qi (fun r (_ : Unit) => r = 0) (WB D A (fun (_ : Unit) => ([] : va_W))) A) ([.ref (b 0)] : List Value).toArray s 0 0 A) (F0 m 92 ls []) := by
        intro n6
        induction n6 with
        | zero =>
          intro j7 H locs ls hjlp2 hlolp2 hIlp2 hP hD hS hl
          obtain rfl : j7 = 2482 := by omega
          have hl : lv_has ls 2 [(1, .int 2482), (0, .ref (b 0))] := hl
          refine lv_iload_n hx hb dX12_works_92 rfl (lv_at hl 0 rfl) ?_
          refine lv_sipush (v := 2482) hx hb dX12_works_93 (by decide) ?_
          refine lv_icmp_ge (tgt := 117) hx hb dX12_works_96 (by decide) (fun _ => ?_) (fun h => absurd (by decide) h)
          refine lv_aload_n hx hb dX12_works_117 rfl (lv_at hl 1 rfl) ?_
          refine va_get (D := D) (ci := 12) (v := .ref (b 1)) (C := RX12) (T := TX12) (N := 34) hx hb hts i_X12 hown hK hP 2 rfl rfl 1 (by decide) (hts (.fieldLink RX12 13 "BellowsRowModel" "world" "[I") (by decide +kernel)) (fun _ h9 => h9) rfl dX12_works_118 ?_
          refine lv_iconst (v := 0) hx hb dX12_works_121 (by decide) ?_
          refine va_iald hx hb hK hP 0 1 rfl rfl (vp_in_iff.mpr (by decide)) dX12_works_122 ?_
          refine W.eq (g2 := F0 m 123 ls [.int 0]) rfl ?_
          have hP9 := hP.sub (ws' := []) [] rfl
          have hD9 := hD.sub (ws' := []) [] (by decide) rfl
          refine W.widen (k := 0) (n := 0) (Nat.le_of_ble_eq_true rfl) (Nat.le_of_ble_eq_true rfl) ?_
          exact W.iret (v := 0) hx hb hr (fun t ht hW => ⟨⟨0, (), rfl, rfl, by rw [ht]; exact hP9, hD9⟩, hS.F ht⟩) hS.2.2 dX12_works_123
        | succ n6 ih =>
          intro j7 H locs ls hjlp2 hlolp2 hIlp2 hP hD hS hl
          have hj : j7 < 2482 := by omega
          refine lv_iload_n hx hb dX12_works_92 rfl (lv_at hl 0 rfl) ?_
          refine lv_sipush (v := 2482) hx hb dX12_works_93 (by decide) ?_
          refine lv_icmp_ge (tgt := 117) hx hb dX12_works_96 (by decide) (fun h => absurd h (nI_ge (a := j7) (b := 2482) (by omega) (by decide))) (fun _ => ?_)
          refine lv_aload_n hx hb dX12_works_99 rfl (lv_at hl 1 rfl) ?_
          refine va_get (D := D) (ci := 12) (v := .ref (b 1)) (C := RX12) (T := TX12) (N := 34) hx hb hts i_X12 hown hK hP 2 rfl rfl 1 (by decide) (hts (.fieldLink RX12 13 "BellowsRowModel" "world" "[I") (by decide +kernel)) (fun _ h9 => h9) rfl dX12_works_100 ?_
          refine lv_iload_n hx hb dX12_works_103 rfl (lv_at hl 0 rfl) ?_
          refine lv_aload_n hx hb dX12_works_104 rfl (lv_at hl 1 rfl) ?_
          refine va_get (D := D) (ci := 12) (v := .ref (b 6)) (C := RX12) (T := TX12) (N := 34) hx hb hts i_X12 hown hK hP 2 rfl rfl 14 (by decide) (hts (.fieldLink RX12 34 "BellowsRowModel" "fresh" "[I") (by decide +kernel)) (fun _ h9 => h9) rfl dX12_works_105 ?_
          refine lv_iload_n hx hb dX12_works_108 rfl (lv_at hl 0 rfl) ?_
          refine va_iald hx hb hK hP 1 1 rfl rfl (vp_in_nI (by omega) (by decide)) dX12_works_109 ?_
          refine W.eq (g2 := F0 m 110 ls [.int 0, .int (nI j7), .ref (b 1)]) rfl ?_
          refine va_iast hx hb hK hP hD hS 0 1 rfl rfl (vp_in_nI (by omega) (by decide)) dX12_works_110 (fun H locs hP hD hS => ?_)
          have hP : va_P D vwCl [((b 1), .inl (k 1, 2482, .inl (upd (fun _ => 0) (nI j7).toNatClampNeg 0))), m6 k b, m0 k b] H := hP
          have hD : va_D A [((b 1), .inl (k 1, 2482, .inl (upd (fun _ => 0) (nI j7).toNatClampNeg 0))), m6 k b, m0 k b] := hD
          rw [upd_zero] at hP hD
          obtain ⟨x8, ex8⟩ : ∃ y : Int32, y = nI j7 + 1 := ⟨_, rfl⟩
          refine lv_iinc (v := x8) (lv' := [(1, .int x8), (0, .ref (b 0))]) hx hb dX12_works_111 hl (k := 0) rfl (by rw [ex8]; rfl) (by decide) rfl (fun ls hl => ?_)
          refine lv_goto (tgt := 92) hx hb dX12_works_114 (by decide) ?_
          obtain rfl : x8 = nI (j7 + 1) := ex8.trans (nI_1 j7)
          exact ih (j7 + 1) _ _ _ (by omega) (by omega) trivial hP hD hS (lv_sub hl [0, 1] rfl)
      exact lp2 (2482) (0) _ _ _ (by decide) (by decide) trivial hP hD hS (lv_sub hl [0, 1] rfl)
    | succ n1 ih =>
      intro j2 H locs ls hjlp1 hlolp1 hIlp1 hP hD hS hl
      have hj : j2 < 2482 := by omega
      refine lv_iload_n hx hb dX12_works_30 rfl (lv_at hl 0 rfl) ?_
      refine lv_sipush (v := 2482) hx hb dX12_works_31 (by decide) ?_
      refine lv_icmp_ge (tgt := 50) hx hb dX12_works_34 (by decide) (fun h => absurd h (nI_ge (a := j2) (b := 2482) (by omega) (by decide))) (fun _ => ?_)
      refine lv_aload_n hx hb dX12_works_37 rfl (lv_at hl 1 rfl) ?_
      refine va_get (D := D) (ci := 12) (v := .ref (b 6)) (C := RX12) (T := TX12) (N := 34) hx hb hts i_X12 hown hK hP 0 rfl rfl 14 (by decide) (hts (.fieldLink RX12 34 "BellowsRowModel" "fresh" "[I") (by decide +kernel)) (fun _ h9 => h9) rfl dX12_works_38 ?_
      refine lv_iload_n hx hb dX12_works_41 rfl (lv_at hl 0 rfl) ?_
      refine lv_iconst (v := 0) hx hb dX12_works_42 (by decide) ?_
      refine va_iast hx hb hK hP hD hS 2 1 rfl rfl (vp_in_nI (by omega) (by decide)) dX12_works_43 (fun H locs hP hD hS => ?_)
      have hP : va_P D vwCl [((b 0), .inr (12, [.int 0, .ref (b 1), .ref (b 2), .ref (b 3), .ref (b 4), .int 0, .ref (b 5), .int 0, .int 0, .int 0, .int 0, .int 0, .int 0, .int (-1), .ref (b 6), .int 0, .int 0, .ref (b 7), .ref (b 8), .ref (b 9), .ref (b 10), .int 0, .ref (b 11), .int 0, .ref (b 12), .int 0, .ref (b 13), .int (-1), .int 0, .int 0, .ref (b 14), .ref (b 15), .ref (b 16), .ref (b 17)])), m1 k b, ((b 6), .inl (k 1, 2482, .inl (upd (fun _ => 0) (nI j2).toNatClampNeg 0)))] H := hP
      have hD : va_D A [((b 0), .inr (12, [.int 0, .ref (b 1), .ref (b 2), .ref (b 3), .ref (b 4), .int 0, .ref (b 5), .int 0, .int 0, .int 0, .int 0, .int 0, .int 0, .int (-1), .ref (b 6), .int 0, .int 0, .ref (b 7), .ref (b 8), .ref (b 9), .ref (b 10), .int 0, .ref (b 11), .int 0, .ref (b 12), .int 0, .ref (b 13), .int (-1), .int 0, .int 0, .ref (b 14), .ref (b 15), .ref (b 16), .ref (b 17)])), m1 k b, ((b 6), .inl (k 1, 2482, .inl (upd (fun _ => 0) (nI j2).toNatClampNeg 0)))] := hD
      rw [upd_zero] at hP hD
      obtain ⟨x9, ex9⟩ : ∃ y : Int32, y = nI j2 + 1 := ⟨_, rfl⟩
      refine lv_iinc (v := x9) (lv' := [(1, .int x9), (0, .ref (b 0))]) hx hb dX12_works_44 hl (k := 0) rfl (by rw [ex9]; rfl) (by decide) rfl (fun ls hl => ?_)
      refine lv_goto (tgt := 30) hx hb dX12_works_47 (by decide) ?_
      obtain rfl : x9 = nI (j2 + 1) := ex9.trans (nI_1 j2)
      exact ih (j2 + 1) _ _ _ (by omega) (by omega) trivial hP hD hS (lv_sub hl [0, 1] rfl)
  exact lp1 (2482) (0) _ _ _ (by decide) (by decide) trivial hP hD hS (lv_sub hl [0, 1] rfl)
