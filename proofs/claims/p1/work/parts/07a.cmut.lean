theorem upd_zero (i : Nat) : upd (fun _ => (0 : Int32)) i 0 = (fun _ => 0) := by funext j; simp [upd]
theorem updL_zero (i : Nat) : vp_updL (fun _ => (0 : Int64)) i 0 = (fun _ => 0) := by funext j; simp [vp_updL]
set_option maxHeartbeats 4000000 in
set_option maxRecDepth 100000 in
theorem c_X9_put_0 (l : Launch) (D : va_G) (k : Nat → ClassId) (a : Nat → Nat) (f : Nat → Int32) (p1 : Int32) (sz : Nat) : Met l yX9_put wsX9_put ({ frames := 0, cells := 0, slots := 0, locals := 0 }) (PreM D k sz [e1 k a, ((a 2), .inl (k 0, 1600, .inl f))] [.ref (a 1), .int p1]) (va_Qv (fun _ => True) (WB D (va_A [e1 k a, ((a 2), .inl (k 0, 1600, .inl f))] sz) (fun u => [((a 1), .inr (9, [.ref (a 2), .int 4, .int 0, .int 0, .int (-1), .int 0, .int 0, .int 0])), ((a 2), .inl (k 0, 1600, .inl u))])) (va_A [e1 k a, ((a 2), .inl (k 0, 1600, .inl f))] sz)) 0 0 (va_A [e1 k a, ((a 2), .inl (k 0, 1600, .inl f))] sz) := by
  refine Met.ofW (cc := cX9_put) (maxL := 3) (ret := none) (by decide) rfl ?_
  intro p e s m args below meth c s₁ B hml hv
  obtain ⟨rfl, hsz, hP, hK, hD0, hN⟩ := hv
  have hx := B.exec
  have hb := B.bytes
  have hr := B.returns
  have hts := atoms_spec (ws := wsX9_put) B.pre
  have hown : s.vm.findClass RX9 = some m.cls := findClass_of_methodNamed B.named
  have hlocks := B.notSynchronized
  have i_X9 : ∀ w ∈ wsX90, w ∈ wsX9_put := by decide +kernel
  subst hsz
  have hD := hD0.self (sz := s.heap.size)
  generalize hAe : va_A [e1 k a, ((a 2), .inl (k 0, 1600, .inl f))] s.heap.size = A at hD ⊢
  have hA : ∀ q : Nat, s.heap.size ≤ q → A q := fun q h => by rw [← hAe]; exact Or.inr h
  have hS : va_S A s.heap s.heap [] := va_S.rf
  have hP : va_P D vwCl [e1 k a, ((a 2), .inl (k 0, 1600, .inl f))] s.heap := hP
  have hl := lv_entry ([.ref (a 1), .int p1]) (n := 3) (Nat.le_of_ble_eq_true rfl)
  rw [lg_entry_eq]
  generalize (lg_sl ([.ref (a 1), .int p1]) ++ List.replicate (3 - (lg_sl ([.ref (a 1), .int p1])).length) Slot.unset).toArray = ls at hl ⊢
  have hl : lv_has ls 3 [(0, .ref (a 1)), (1, .int p1)] := hl
  refine lv_bipush (v := 24) hx hb dX9_put_0 (by decide) ?_
  refine lv_istore_n (lv' := [(2, .int 24), (0, .ref (a 1)), (1, .int p1)]) hx hb dX9_put_2 rfl hl (by decide) rfl (fun ls hl => ?_)
  refine lv_iload_n hx hb dX9_put_3 rfl (lv_at hl 0 rfl) ?_
  refine lv_if_lt (tgt := 48) hx hb dX9_put_4 (by decide) (fun h => absurd h (by decide)) (fun _ => ?_)
  refine lv_aload_n hx hb dX9_put_7 rfl (lv_at hl 1 rfl) ?_
  refine va_get (D := D) (ci := 9) (v := .int 0) (C := RX9) (T := TX9) (N := 8) hx hb hts i_X9 hown hK hP 0 rfl rfl 1 (by decide) (hts (.fieldLink RX9 15 "BellowsRow$Tape" "size" "I") (by decide +kernel)) (fun _ h9 => h9) rfl dX9_put_8 ?_
  refine lv_aload_n hx hb dX9_put_11 rfl (lv_at hl 1 rfl) ?_
  refine va_get (D := D) (ci := 9) (v := .ref (a 2)) (C := RX9) (T := TX9) (N := 8) hx hb hts i_X9 hown hK hP 0 rfl rfl 0 (by decide) (hts (.fieldLink RX9 9 "BellowsRow$Tape" "bytes" "[B") (by decide +kernel)) (fun _ h9 => h9) rfl dX9_put_12 ?_
  refine va_alen (v := 1600) hx hb hK hP 1 0 rfl rfl rfl dX9_put_15 ?_
  refine lv_icmp_ge (tgt := 48) hx hb dX9_put_16 (by decide) (fun h => absurd h (by decide)) (fun _ => ?_)
  refine lv_aload_n hx hb dX9_put_19 rfl (lv_at hl 1 rfl) ?_
  refine va_get (D := D) (ci := 9) (v := .ref (a 2)) (C := RX9) (T := TX9) (N := 8) hx hb hts i_X9 hown hK hP 0 rfl rfl 0 (by decide) (hts (.fieldLink RX9 9 "BellowsRow$Tape" "bytes" "[B") (by decide +kernel)) (fun _ h9 => h9) rfl dX9_put_20 ?_
  refine lv_aload_n hx hb dX9_put_23 rfl (lv_at hl 1 rfl) ?_
  refine va_get (D := D) (ci := 9) (v := .int 0) (C := RX9) (T := TX9) (N := 8) hx hb hts i_X9 hown hK hP 0 rfl rfl 1 (by decide) (hts (.fieldLink RX9 15 "BellowsRow$Tape" "size" "I") (by decide +kernel)) (fun _ h9 => h9) rfl dX9_put_24 ?_
  refine lv_iload_n hx hb dX9_put_27 rfl (lv_at hl 2 rfl) ?_
  refine lv_iload_n hx hb dX9_put_28 rfl (lv_at hl 0 rfl) ?_
  refine lv_ishr hx hb dX9_put_29 ?_
  refine lv_topi (fun x1 ex1 => ?_)
  refine lv_i2b hx hb dX9_put_30 rfl ?_
  refine va_bast hx hb hK hP hD hS 1 0 rfl rfl (vp_in_iff.mpr (by decide)) dX9_put_31 (fun H locs hP hD hS => ?_)
  have hP : va_P D vwCl [e1 k a, ((a 2), .inl (k 0, 1600, .inl (upd f 0 (vp_nar .byte x1.toInt8.toInt32))))] H := hP
  have hD : va_D A [e1 k a, ((a 2), .inl (k 0, 1600, .inl (upd f 0 (vp_nar .byte x1.toInt8.toInt32))))] := hD
  refine lv_aload_n hx hb dX9_put_32 rfl (lv_at hl 1 rfl) ?_
  refine lv_dup hx hb dX9_put_33 rfl ?_
  refine va_get (D := D) (ci := 9) (v := .int 0) (C := RX9) (T := TX9) (N := 8) hx hb hts i_X9 hown hK hP 0 rfl rfl 1 (by decide) (hts (.fieldLink RX9 15 "BellowsRow$Tape" "size" "I") (by decide +kernel)) (fun _ h9 => h9) rfl dX9_put_34 ?_
  refine lv_iconst (v := 1) hx hb dX9_put_37 (by decide) ?_
  refine lv_iadd hx hb dX9_put_38 ?_
  refine lv_topi (fun x2 ex2 => ?_)
  obtain rfl : x2 = 1 := ex2.trans (by decide)
  refine va_put (D := D) (ci := 9) (v := .int 1) (ty := .int) (C := RX9) (T := TX9) (N := 8) hx hb hts i_X9 tyX9 tyX9_ok nmX9 hown hK hP hD hS 0 rfl rfl 1 (by decide) (hts (.fieldLink RX9 15 "BellowsRow$Tape" "size" "I") (by decide +kernel)) (fun _ h9 => h9) rfl (by decide +kernel) rfl rfl (Nat.le_of_ble_eq_true rfl) dX9_put_39 (fun H locs hP hD hS => ?_)
  have hP : va_P D vwCl [((a 1), .inr (9, [.ref (a 2), .int 1, .int 0, .int 0, .int (-1), .int 0, .int 0, .int 0])), ((a 2), .inl (k 0, 1600, .inl (upd f 0 (vp_nar .byte x1.toInt8.toInt32))))] H := hP
  have hD : va_D A [((a 1), .inr (9, [.ref (a 2), .int 1, .int 0, .int 0, .int (-1), .int 0, .int 0, .int 0])), ((a 2), .inl (k 0, 1600, .inl (upd f 0 (vp_nar .byte x1.toInt8.toInt32))))] := hD
  refine lv_iinc (v := 16) (lv' := [(2, .int 16), (0, .ref (a 1)), (1, .int p1)]) hx hb dX9_put_42 hl (k := 0) rfl (by decide) (by decide) rfl (fun ls hl => ?_)
  refine lv_goto (tgt := 3) hx hb dX9_put_45 (by decide) ?_
  refine lv_iload_n hx hb dX9_put_3 rfl (lv_at hl 0 rfl) ?_
  refine lv_if_lt (tgt := 48) hx hb dX9_put_4 (by decide) (fun h => absurd h (by decide)) (fun _ => ?_)
  refine lv_aload_n hx hb dX9_put_7 rfl (lv_at hl 1 rfl) ?_
  refine va_get (D := D) (ci := 9) (v := .int 1) (C := RX9) (T := TX9) (N := 8) hx hb hts i_X9 hown hK hP 0 rfl rfl 1 (by decide) (hts (.fieldLink RX9 15 "BellowsRow$Tape" "size" "I") (by decide +kernel)) (fun _ h9 => h9) rfl dX9_put_8 ?_
  refine lv_aload_n hx hb dX9_put_11 rfl (lv_at hl 1 rfl) ?_
  refine va_get (D := D) (ci := 9) (v := .ref (a 2)) (C := RX9) (T := TX9) (N := 8) hx hb hts i_X9 hown hK hP 0 rfl rfl 0 (by decide) (hts (.fieldLink RX9 9 "BellowsRow$Tape" "bytes" "[B") (by decide +kernel)) (fun _ h9 => h9) rfl dX9_put_12 ?_
  refine va_alen (v := 1600) hx hb hK hP 1 0 rfl rfl rfl dX9_put_15 ?_
  refine lv_icmp_ge (tgt := 48) hx hb dX9_put_16 (by decide) (fun h => absurd h (by decide)) (fun _ => ?_)
  refine lv_aload_n hx hb dX9_put_19 rfl (lv_at hl 1 rfl) ?_
  refine va_get (D := D) (ci := 9) (v := .ref (a 2)) (C := RX9) (T := TX9) (N := 8) hx hb hts i_X9 hown hK hP 0 rfl rfl 0 (by decide) (hts (.fieldLink RX9 9 "BellowsRow$Tape" "bytes" "[B") (by decide +kernel)) (fun _ h9 => h9) rfl dX9_put_20 ?_
  refine lv_aload_n hx hb dX9_put_23 rfl (lv_at hl 1 rfl) ?_
  refine va_get (D := D) (ci := 9) (v := .int 1) (C := RX9) (T := TX9) (N := 8) hx hb hts i_X9 hown hK hP 0 rfl rfl 1 (by decide) (hts (.fieldLink RX9 15 "BellowsRow$Tape" "size" "I") (by decide +kernel)) (fun _ h9 => h9) rfl dX9_put_24 ?_
  refine lv_iload_n hx hb dX9_put_27 rfl (lv_at hl 2 rfl) ?_
  refine lv_iload_n hx hb dX9_put_28 rfl (lv_at hl 0 rfl) ?_
  refine lv_ishr hx hb dX9_put_29 ?_
  refine lv_topi (fun x3 ex3 => ?_)
  refine lv_i2b hx hb dX9_put_30 rfl ?_
  refine va_bast hx hb hK hP hD hS 1 0 rfl rfl (vp_in_iff.mpr (by decide)) dX9_put_31 (fun H locs hP hD hS => ?_)
  have hP : va_P D vwCl [((a 1), .inr (9, [.ref (a 2), .int 1, .int 0, .int 0, .int (-1), .int 0, .int 0, .int 0])), ((a 2), .inl (k 0, 1600, .inl (upd (upd f 0 (vp_nar .byte x1.toInt8.toInt32)) 1 (vp_nar .byte x3.toInt8.toInt32))))] H := hP
  have hD : va_D A [((a 1), .inr (9, [.ref (a 2), .int 1, .int 0, .int 0, .int (-1), .int 0, .int 0, .int 0])), ((a 2), .inl (k 0, 1600, .inl (upd (upd f 0 (vp_nar .byte x1.toInt8.toInt32)) 1 (vp_nar .byte x3.toInt8.toInt32))))] := hD
  refine lv_aload_n hx hb dX9_put_32 rfl (lv_at hl 1 rfl) ?_
  refine lv_dup hx hb dX9_put_33 rfl ?_
  refine va_get (D := D) (ci := 9) (v := .int 1) (C := RX9) (T := TX9) (N := 8) hx hb hts i_X9 hown hK hP 0 rfl rfl 1 (by decide) (hts (.fieldLink RX9 15 "BellowsRow$Tape" "size" "I") (by decide +kernel)) (fun _ h9 => h9) rfl dX9_put_34 ?_
  refine lv_iconst (v := 1) hx hb dX9_put_37 (by decide) ?_
  refine lv_iadd hx hb dX9_put_38 ?_
  refine lv_topi (fun x4 ex4 => ?_)
  obtain rfl : x4 = 2 := ex4.trans (by decide)
  refine va_put (D := D) (ci := 9) (v := .int 2) (ty := .int) (C := RX9) (T := TX9) (N := 8) hx hb hts i_X9 tyX9 tyX9_ok nmX9 hown hK hP hD hS 0 rfl rfl 1 (by decide) (hts (.fieldLink RX9 15 "BellowsRow$Tape" "size" "I") (by decide +kernel)) (fun _ h9 => h9) rfl (by decide +kernel) rfl rfl (Nat.le_of_ble_eq_true rfl) dX9_put_39 (fun H locs hP hD hS => ?_)
  have hP : va_P D vwCl [((a 1), .inr (9, [.ref (a 2), .int 2, .int 0, .int 0, .int (-1), .int 0, .int 0, .int 0])), ((a 2), .inl (k 0, 1600, .inl (upd (upd f 0 (vp_nar .byte x1.toInt8.toInt32)) 1 (vp_nar .byte x3.toInt8.toInt32))))] H := hP
  have hD : va_D A [((a 1), .inr (9, [.ref (a 2), .int 2, .int 0, .int 0, .int (-1), .int 0, .int 0, .int 0])), ((a 2), .inl (k 0, 1600, .inl (upd (upd f 0 (vp_nar .byte x1.toInt8.toInt32)) 1 (vp_nar .byte x3.toInt8.toInt32))))] := hD
  refine lv_iinc (v := 8) (lv' := [(2, .int 8), (0, .ref (a 1)), (1, .int p1)]) hx hb dX9_put_42 hl (k := 0) rfl (by decide) (by decide) rfl (fun ls hl => ?_)
  refine lv_goto (tgt := 3) hx hb dX9_put_45 (by decide) ?_
  refine lv_iload_n hx hb dX9_put_3 rfl (lv_at hl 0 rfl) ?_
  refine lv_if_lt (tgt := 48) hx hb dX9_put_4 (by decide) (fun h => absurd h (by decide)) (fun _ => ?_)
  refine lv_aload_n hx hb dX9_put_7 rfl (lv_at hl 1 rfl) ?_
  refine va_get (D := D) (ci := 9) (v := .int 2) (C := RX9) (T := TX9) (N := 8) hx hb hts i_X9 hown hK hP 0 rfl rfl 1 (by decide) (hts (.fieldLink RX9 15 "BellowsRow$Tape" "size" "I") (by decide +kernel)) (fun _ h9 => h9) rfl dX9_put_8 ?_
  refine lv_aload_n hx hb dX9_put_11 rfl (lv_at hl 1 rfl) ?_
  refine va_get (D := D) (ci := 9) (v := .ref (a 2)) (C := RX9) (T := TX9) (N := 8) hx hb hts i_X9 hown hK hP 0 rfl rfl 0 (by decide) (hts (.fieldLink RX9 9 "BellowsRow$Tape" "bytes" "[B") (by decide +kernel)) (fun _ h9 => h9) rfl dX9_put_12 ?_
  refine va_alen (v := 1600) hx hb hK hP 1 0 rfl rfl rfl dX9_put_15 ?_
  refine lv_icmp_ge (tgt := 48) hx hb dX9_put_16 (by decide) (fun h => absurd h (by decide)) (fun _ => ?_)
  refine lv_aload_n hx hb dX9_put_19 rfl (lv_at hl 1 rfl) ?_
  refine va_get (D := D) (ci := 9) (v := .ref (a 2)) (C := RX9) (T := TX9) (N := 8) hx hb hts i_X9 hown hK hP 0 rfl rfl 0 (by decide) (hts (.fieldLink RX9 9 "BellowsRow$Tape" "bytes" "[B") (by decide +kernel)) (fun _ h9 => h9) rfl dX9_put_20 ?_
  refine lv_aload_n hx hb dX9_put_23 rfl (lv_at hl 1 rfl) ?_
  refine va_get (D := D) (ci := 9) (v := .int 2) (C := RX9) (T := TX9) (N := 8) hx hb hts i_X9 hown hK hP 0 rfl rfl 1 (by decide) (hts (.fieldLink RX9 15 "BellowsRow$Tape" "size" "I") (by decide +kernel)) (fun _ h9 => h9) rfl dX9_put_24 ?_
  refine lv_iload_n hx hb dX9_put_27 rfl (lv_at hl 2 rfl) ?_
  refine lv_iload_n hx hb dX9_put_28 rfl (lv_at hl 0 rfl) ?_
  refine lv_ishr hx hb dX9_put_29 ?_
  refine lv_topi (fun x5 ex5 => ?_)
  refine lv_i2b hx hb dX9_put_30 rfl ?_
  refine va_bast hx hb hK hP hD hS 1 0 rfl rfl (vp_in_iff.mpr (by decide)) dX9_put_31 (fun H locs hP hD hS => ?_)
  have hP : va_P D vwCl [((a 1), .inr (9, [.ref (a 2), .int 2, .int 0, .int 0, .int (-1), .int 0, .int 0, .int 0])), ((a 2), .inl (k 0, 1600, .inl (upd (upd (upd f 0 (vp_nar .byte x1.toInt8.toInt32)) 1 (vp_nar .byte x3.toInt8.toInt32)) 2 (vp_nar .byte x5.toInt8.toInt32))))] H := hP
  have hD : va_D A [((a 1), .inr (9, [.ref (a 2), .int 2, .int 0, .int 0, .int (-1), .int 0, .int 0, .int 0])), ((a 2), .inl (k 0, 1600, .inl (upd (upd (upd f 0 (vp_nar .byte x1.toInt8.toInt32)) 1 (vp_nar .byte x3.toInt8.toInt32)) 2 (vp_nar .byte x5.toInt8.toInt32))))] := hD
  refine lv_aload_n hx hb dX9_put_32 rfl (lv_at hl 1 rfl) ?_
  refine lv_dup hx hb dX9_put_33 rfl ?_
  refine va_get (D := D) (ci := 9) (v := .int 2) (C := RX9) (T := TX9) (N := 8) hx hb hts i_X9 hown hK hP 0 rfl rfl 1 (by decide) (hts (.fieldLink RX9 15 "BellowsRow$Tape" "size" "I") (by decide +kernel)) (fun _ h9 => h9) rfl dX9_put_34 ?_
  refine lv_iconst (v := 1) hx hb dX9_put_37 (by decide) ?_
  refine lv_iadd hx hb dX9_put_38 ?_
  refine lv_topi (fun x6 ex6 => ?_)
  obtain rfl : x6 = 3 := ex6.trans (by decide)
  refine va_put (D := D) (ci := 9) (v := .int 3) (ty := .int) (C := RX9) (T := TX9) (N := 8) hx hb hts i_X9 tyX9 tyX9_ok nmX9 hown hK hP hD hS 0 rfl rfl 1 (by decide) (hts (.fieldLink RX9 15 "BellowsRow$Tape" "size" "I") (by decide +kernel)) (fun _ h9 => h9) rfl (by decide +kernel) rfl rfl (Nat.le_of_ble_eq_true rfl) dX9_put_39 (fun H locs hP hD hS => ?_)
  have hP : va_P D vwCl [((a 1), .inr (9, [.ref (a 2), .int 3, .int 0, .int 0, .int (-1), .int 0, .int 0, .int 0])), ((a 2), .inl (k 0, 1600, .inl (upd (upd (upd f 0 (vp_nar .byte x1.toInt8.toInt32)) 1 (vp_nar .byte x3.toInt8.toInt32)) 2 (vp_nar .byte x5.toInt8.toInt32))))] H := hP
  have hD : va_D A [((a 1), .inr (9, [.ref (a 2), .int 3, .int 0, .int 0, .int (-1), .int 0, .int 0, .int 0])), ((a 2), .inl (k 0, 1600, .inl (upd (upd (upd f 0 (vp_nar .byte x1.toInt8.toInt32)) 1 (vp_nar .byte x3.toInt8.toInt32)) 2 (vp_nar .byte x5.toInt8.toInt32))))] := hD
  refine lv_iinc (v := 0) (lv' := [(2, .int 0), (0, .ref (a 1)), (1, .int p1)]) hx hb dX9_put_42 hl (k := 0) rfl (by decide) (by decide) rfl (fun ls hl => ?_)
  refine lv_goto (tgt := 3) hx hb dX9_put_45 (by decide) ?_
  refine lv_iload_n hx hb dX9_put_3 rfl (lv_at hl 0 rfl) ?_
  refine lv_if_lt (tgt := 48) hx hb dX9_put_4 (by decide) (fun h => absurd h (by decide)) (fun _ => ?_)
  refine lv_aload_n hx hb dX9_put_7 rfl (lv_at hl 1 rfl) ?_
  refine va_get (D := D) (ci := 9) (v := .int 3) (C := RX9) (T := TX9) (N := 8) hx hb hts i_X9 hown hK hP 0 rfl rfl 1 (by decide) (hts (.fieldLink RX9 15 "BellowsRow$Tape" "size" "I") (by decide +kernel)) (fun _ h9 => h9) rfl dX9_put_8 ?_
  refine lv_aload_n hx hb dX9_put_11 rfl (lv_at hl 1 rfl) ?_
  refine va_get (D := D) (ci := 9) (v := .ref (a 2)) (C := RX9) (T := TX9) (N := 8) hx hb hts i_X9 hown hK hP 0 rfl rfl 0 (by decide) (hts (.fieldLink RX9 9 "BellowsRow$Tape" "bytes" "[B") (by decide +kernel)) (fun _ h9 => h9) rfl dX9_put_12 ?_
  refine va_alen (v := 1600) hx hb hK hP 1 0 rfl rfl rfl dX9_put_15 ?_
  refine lv_icmp_ge (tgt := 48) hx hb dX9_put_16 (by decide) (fun h => absurd h (by decide)) (fun _ => ?_)
  refine lv_aload_n hx hb dX9_put_19 rfl (lv_at hl 1 rfl) ?_
  refine va_get (D := D) (ci := 9) (v := .ref (a 2)) (C := RX9) (T := TX9) (N := 8) hx hb hts i_X9 hown hK hP 0 rfl rfl 0 (by decide) (hts (.fieldLink RX9 9 "BellowsRow$Tape" "bytes" "[B") (by decide +kernel)) (fun _ h9 => h9) rfl dX9_put_20 ?_
  refine lv_aload_n hx hb dX9_put_23 rfl (lv_at hl 1 rfl) ?_
  refine va_get (D := D) (ci := 9) (v := .int 3) (C := RX9) (T := TX9) (N := 8) hx hb hts i_X9 hown hK hP 0 rfl rfl 1 (by decide) (hts (.fieldLink RX9 15 "BellowsRow$Tape" "size" "I") (by decide +kernel)) (fun _ h9 => h9) rfl dX9_put_24 ?_
  refine lv_iload_n hx hb dX9_put_27 rfl (lv_at hl 2 rfl) ?_
  refine lv_iload_n hx hb dX9_put_28 rfl (lv_at hl 0 rfl) ?_
  refine lv_ishr hx hb dX9_put_29 ?_
  refine lv_topi (fun x7 ex7 => ?_)
  refine lv_i2b hx hb dX9_put_30 rfl ?_
  refine va_bast hx hb hK hP hD hS 1 0 rfl rfl (vp_in_iff.mpr (by decide)) dX9_put_31 (fun H locs hP hD hS => ?_)
  have hP : va_P D vwCl [((a 1), .inr (9, [.ref (a 2), .int 3, .int 0, .int 0, .int (-1), .int 0, .int 0, .int 0])), ((a 2), .inl (k 0, 1600, .inl (upd (upd (upd (upd f 0 (vp_nar .byte x1.toInt8.toInt32)) 1 (vp_nar .byte x3.toInt8.toInt32)) 2 (vp_nar .byte x5.toInt8.toInt32)) 3 (vp_nar .byte x7.toInt8.toInt32))))] H := hP
  have hD : va_D A [((a 1), .inr (9, [.ref (a 2), .int 3, .int 0, .int 0, .int (-1), .int 0, .int 0, .int 0])), ((a 2), .inl (k 0, 1600, .inl (upd (upd (upd (upd f 0 (vp_nar .byte x1.toInt8.toInt32)) 1 (vp_nar .byte x3.toInt8.toInt32)) 2 (vp_nar .byte x5.toInt8.toInt32)) 3 (vp_nar .byte x7.toInt8.toInt32))))] := hD
  refine lv_aload_n hx hb dX9_put_32 rfl (lv_at hl 1 rfl) ?_
  refine lv_dup hx hb dX9_put_33 rfl ?_
  refine va_get (D := D) (ci := 9) (v := .int 3) (C := RX9) (T := TX9) (N := 8) hx hb hts i_X9 hown hK hP 0 rfl rfl 1 (by decide) (hts (.fieldLink RX9 15 "BellowsRow$Tape" "size" "I") (by decide +kernel)) (fun _ h9 => h9) rfl dX9_put_34 ?_
  refine lv_iconst (v := 1) hx hb dX9_put_37 (by decide) ?_
  refine lv_iadd hx hb dX9_put_38 ?_
  refine lv_topi (fun x8 ex8 => ?_)
  obtain rfl : x8 = 4 := ex8.trans (by decide)
  refine va_put (D := D) (ci := 9) (v := .int 4) (ty := .int) (C := RX9) (T := TX9) (N := 8) hx hb hts i_X9 tyX9 tyX9_ok nmX9 hown hK hP hD hS 0 rfl rfl 1 (by decide) (hts (.fieldLink RX9 15 "BellowsRow$Tape" "size" "I") (by decide +kernel)) (fun _ h9 => h9) rfl (by decide +kernel) rfl rfl (Nat.le_of_ble_eq_true rfl) dX9_put_39 (fun H locs hP hD hS => ?_)
  have hP : va_P D vwCl [((a 1), .inr (9, [.ref (a 2), .int 4, .int 0, .int 0, .int (-1), .int 0, .int 0, .int 0])), ((a 2), .inl (k 0, 1600, .inl (upd (upd (upd (upd f 0 (vp_nar .byte x1.toInt8.toInt32)) 1 (vp_nar .byte x3.toInt8.toInt32)) 2 (vp_nar .byte x5.toInt8.toInt32)) 3 (vp_nar .byte x7.toInt8.toInt32))))] H := hP
  have hD : va_D A [((a 1), .inr (9, [.ref (a 2), .int 4, .int 0, .int 0, .int (-1), .int 0, .int 0, .int 0])), ((a 2), .inl (k 0, 1600, .inl (upd (upd (upd (upd f 0 (vp_nar .byte x1.toInt8.toInt32)) 1 (vp_nar .byte x3.toInt8.toInt32)) 2 (vp_nar .byte x5.toInt8.toInt32)) 3 (vp_nar .byte x7.toInt8.toInt32))))] := hD
  refine lv_iinc (v := (-8)) (lv' := [(2, .int (-8)), (0, .ref (a 1)), (1, .int p1)]) hx hb dX9_put_42 hl (k := 0) rfl (by decide) (by decide) rfl (fun ls hl => ?_)
  refine lv_goto (tgt := 3) hx hb dX9_put_45 (by decide) ?_
  refine lv_iload_n hx hb dX9_put_3 rfl (lv_at hl 0 rfl) ?_
  refine lv_if_lt (tgt := 48) hx hb dX9_put_4 (by decide) (fun _ => ?_) (fun h => absurd (by decide) h)
  have hP9 := hP.sub (ws' := [((a 1), .inr (9, [.ref (a 2), .int 4, .int 0, .int 0, .int (-1), .int 0, .int 0, .int 0])), ((a 2), .inl (k 0, 1600, .inl (upd (upd (upd (upd f 0 (vp_nar .byte x1.toInt8.toInt32)) 1 (vp_nar .byte x3.toInt8.toInt32)) 2 (vp_nar .byte x5.toInt8.toInt32)) 3 (vp_nar .byte x7.toInt8.toInt32))))]) [0, 1] rfl
  have hD9 := hD.sub (ws' := [((a 1), .inr (9, [.ref (a 2), .int 4, .int 0, .int 0, .int (-1), .int 0, .int 0, .int 0])), ((a 2), .inl (k 0, 1600, .inl (upd (upd (upd (upd f 0 (vp_nar .byte x1.toInt8.toInt32)) 1 (vp_nar .byte x3.toInt8.toInt32)) 2 (vp_nar .byte x5.toInt8.toInt32)) 3 (vp_nar .byte x7.toInt8.toInt32))))]) [0, 1] (by decide) rfl
  refine W.widen (k := 0) (n := 0) (Nat.le_of_ble_eq_true rfl) (Nat.le_of_ble_eq_true rfl) ?_
  exact W.vret hx hb hr (fun t ht hW => ⟨⟨(upd (upd (upd (upd f 0 (vp_nar .byte x1.toInt8.toInt32)) 1 (vp_nar .byte x3.toInt8.toInt32)) 2 (vp_nar .byte x5.toInt8.toInt32)) 3 (vp_nar .byte x7.toInt8.toInt32)), rfl, trivial, by rw [ht]; exact hP9, hD9⟩, hS.F ht⟩) hS.2.2 dX9_put_48
set_option maxHeartbeats 4000000 in
set_option maxRecDepth 100000 in
theorem c_X9_put_4 (l : Launch) (D : va_G) (k : Nat → ClassId) (a : Nat → Nat) (f : Nat → Int32) (p1 : Int32) (sz : Nat) : Met l yX9_put wsX9_put ({ frames := 0, cells := 0, slots := 0, locals := 0 }) (PreM D k sz [((a 1), .inr (9, [.ref (a 2), .int 4, .int 0, .int 0, .int (-1), .int 0, .int 0, .int 0])), ((a 2), .inl (k 0, 1600, .inl f))] [.ref (a 1), .int p1]) (va_Qv (fun _ => True) (WB D (va_A [((a 1), .inr (9, [.ref (a 2), .int 4, .int 0, .int 0, .int (-1), .int 0, .int 0, .int 0])), ((a 2), .inl (k 0, 1600, .inl f))] sz) (fun u => [((a 1), .inr (9, [.ref (a 2), .int 8, .int 0, .int 0, .int (-1), .int 0, .int 0, .int 0])), ((a 2), .inl (k 0, 1600, .inl u))])) (va_A [((a 1), .inr (9, [.ref (a 2), .int 4, .int 0, .int 0, .int (-1), .int 0, .int 0, .int 0])), ((a 2), .inl (k 0, 1600, .inl f))] sz)) 0 0 (va_A [((a 1), .inr (9, [.ref (a 2), .int 4, .int 0, .int 0, .int (-1), .int 0, .int 0, .int 0])), ((a 2), .inl (k 0, 1600, .inl f))] sz) := by
  refine Met.ofW (cc := cX9_put) (maxL := 3) (ret := none) (by decide) rfl ?_
  intro p e s m args below meth c s₁ B hml hv
  obtain ⟨rfl, hsz, hP, hK, hD0, hN⟩ := hv
  have hx := B.exec
  have hb := B.bytes
  have hr := B.returns
  have hts := atoms_spec (ws := wsX9_put) B.pre
  have hown : s.vm.findClass RX9 = some m.cls := findClass_of_methodNamed B.named
  have hlocks := B.notSynchronized
  have i_X9 : ∀ w ∈ wsX90, w ∈ wsX9_put := by decide +kernel
  subst hsz
  have hD := hD0.self (sz := s.heap.size)
  generalize hAe : va_A [((a 1), .inr (9, [.ref (a 2), .int 4, .int 0, .int 0, .int (-1), .int 0, .int 0, .int 0])), ((a 2), .inl (k 0, 1600, .inl f))] s.heap.size = A at hD ⊢
  have hA : ∀ q : Nat, s.heap.size ≤ q → A q := fun q h => by rw [← hAe]; exact Or.inr h
  have hS : va_S A s.heap s.heap [] := va_S.rf
  have hP : va_P D vwCl [((a 1), .inr (9, [.ref (a 2), .int 4, .int 0, .int 0, .int (-1), .int 0, .int 0, .int 0])), ((a 2), .inl (k 0, 1600, .inl f))] s.heap := hP
  have hl := lv_entry ([.ref (a 1), .int p1]) (n := 3) (Nat.le_of_ble_eq_true rfl)
  rw [lg_entry_eq]
  generalize (lg_sl ([.ref (a 1), .int p1]) ++ List.replicate (3 - (lg_sl ([.ref (a 1), .int p1])).length) Slot.unset).toArray = ls at hl ⊢
  have hl : lv_has ls 3 [(0, .ref (a 1)), (1, .int p1)] := hl
  refine lv_bipush (v := 24) hx hb dX9_put_0 (by decide) ?_
  refine lv_istore_n (lv' := [(2, .int 24), (0, .ref (a 1)), (1, .int p1)]) hx hb dX9_put_2 rfl hl (by decide) rfl (fun ls hl => ?_)
  refine lv_iload_n hx hb dX9_put_3 rfl (lv_at hl 0 rfl) ?_
  refine lv_if_lt (tgt := 48) hx hb dX9_put_4 (by decide) (fun h => absurd h (by decide)) (fun _ => ?_)
  refine lv_aload_n hx hb dX9_put_7 rfl (lv_at hl 1 rfl) ?_
  refine va_get (D := D) (ci := 9) (v := .int 4) (C := RX9) (T := TX9) (N := 8) hx hb hts i_X9 hown hK hP 0 rfl rfl 1 (by decide) (hts (.fieldLink RX9 15 "BellowsRow$Tape" "size" "I") (by decide +kernel)) (fun _ h9 => h9) rfl dX9_put_8 ?_
  refine lv_aload_n hx hb dX9_put_11 rfl (lv_at hl 1 rfl) ?_
  refine va_get (D := D) (ci := 9) (v := .ref (a 2)) (C := RX9) (T := TX9) (N := 8) hx hb hts i_X9 hown hK hP 0 rfl rfl 0 (by decide) (hts (.fieldLink RX9 9 "BellowsRow$Tape" "bytes" "[B") (by decide +kernel)) (fun _ h9 => h9) rfl dX9_put_12 ?_
  refine va_alen (v := 1600) hx hb hK hP 1 0 rfl rfl rfl dX9_put_15 ?_
  refine lv_icmp_ge (tgt := 48) hx hb dX9_put_16 (by decide) (fun h => absurd h (by decide)) (fun _ => ?_)
  refine lv_aload_n hx hb dX9_put_19 rfl (lv_at hl 1 rfl) ?_
  refine va_get (D := D) (ci := 9) (v := .ref (a 2)) (C := RX9) (T := TX9) (N := 8) hx hb hts i_X9 hown hK hP 0 rfl rfl 0 (by decide) (hts (.fieldLink RX9 9 "BellowsRow$Tape" "bytes" "[B") (by decide +kernel)) (fun _ h9 => h9) rfl dX9_put_20 ?_
  refine lv_aload_n hx hb dX9_put_23 rfl (lv_at hl 1 rfl) ?_
  refine va_get (D := D) (ci := 9) (v := .int 4) (C := RX9) (T := TX9) (N := 8) hx hb hts i_X9 hown hK hP 0 rfl rfl 1 (by decide) (hts (.fieldLink RX9 15 "BellowsRow$Tape" "size" "I") (by decide +kernel)) (fun _ h9 => h9) rfl dX9_put_24 ?_
  refine lv_iload_n hx hb dX9_put_27 rfl (lv_at hl 2 rfl) ?_
  refine lv_iload_n hx hb dX9_put_28 rfl (lv_at hl 0 rfl) ?_
  refine lv_ishr hx hb dX9_put_29 ?_
  refine lv_topi (fun x1 ex1 => ?_)
  refine lv_i2b hx hb dX9_put_30 rfl ?_
  refine va_bast hx hb hK hP hD hS 1 0 rfl rfl (vp_in_iff.mpr (by decide)) dX9_put_31 (fun H locs hP hD hS => ?_)
  have hP : va_P D vwCl [((a 1), .inr (9, [.ref (a 2), .int 4, .int 0, .int 0, .int (-1), .int 0, .int 0, .int 0])), ((a 2), .inl (k 0, 1600, .inl (upd f 4 (vp_nar .byte x1.toInt8.toInt32))))] H := hP
  have hD : va_D A [((a 1), .inr (9, [.ref (a 2), .int 4, .int 0, .int 0, .int (-1), .int 0, .int 0, .int 0])), ((a 2), .inl (k 0, 1600, .inl (upd f 4 (vp_nar .byte x1.toInt8.toInt32))))] := hD
  refine lv_aload_n hx hb dX9_put_32 rfl (lv_at hl 1 rfl) ?_
  refine lv_dup hx hb dX9_put_33 rfl ?_
  refine va_get (D := D) (ci := 9) (v := .int 4) (C := RX9) (T := TX9) (N := 8) hx hb hts i_X9 hown hK hP 0 rfl rfl 1 (by decide) (hts (.fieldLink RX9 15 "BellowsRow$Tape" "size" "I") (by decide +kernel)) (fun _ h9 => h9) rfl dX9_put_34 ?_
  refine lv_iconst (v := 1) hx hb dX9_put_37 (by decide) ?_
  refine lv_iadd hx hb dX9_put_38 ?_
  refine lv_topi (fun x2 ex2 => ?_)
  obtain rfl : x2 = 5 := ex2.trans (by decide)
  refine va_put (D := D) (ci := 9) (v := .int 5) (ty := .int) (C := RX9) (T := TX9) (N := 8) hx hb hts i_X9 tyX9 tyX9_ok nmX9 hown hK hP hD hS 0 rfl rfl 1 (by decide) (hts (.fieldLink RX9 15 "BellowsRow$Tape" "size" "I") (by decide +kernel)) (fun _ h9 => h9) rfl (by decide +kernel) rfl rfl (Nat.le_of_ble_eq_true rfl) dX9_put_39 (fun H locs hP hD hS => ?_)
  have hP : va_P D vwCl [((a 1), .inr (9, [.ref (a 2), .int 5, .int 0, .int 0, .int (-1), .int 0, .int 0, .int 0])), ((a 2), .inl (k 0, 1600, .inl (upd f 4 (vp_nar .byte x1.toInt8.toInt32))))] H := hP
  have hD : va_D A [((a 1), .inr (9, [.ref (a 2), .int 5, .int 0, .int 0, .int (-1), .int 0, .int 0, .int 0])), ((a 2), .inl (k 0, 1600, .inl (upd f 4 (vp_nar .byte x1.toInt8.toInt32))))] := hD
  refine lv_iinc (v := 16) (lv' := [(2, .int 16), (0, .ref (a 1)), (1, .int p1)]) hx hb dX9_put_42 hl (k := 0) rfl (by decide) (by decide) rfl (fun ls hl => ?_)
  refine lv_goto (tgt := 3) hx hb dX9_put_45 (by decide) ?_
  refine lv_iload_n hx hb dX9_put_3 rfl (lv_at hl 0 rfl) ?_
  refine lv_if_lt (tgt := 48) hx hb dX9_put_4 (by decide) (fun h => absurd h (by decide)) (fun _ => ?_)
  refine lv_aload_n hx hb dX9_put_7 rfl (lv_at hl 1 rfl) ?_
  refine va_get (D := D) (ci := 9) (v := .int 5) (C := RX9) (T := TX9) (N := 8) hx hb hts i_X9 hown hK hP 0 rfl rfl 1 (by decide) (hts (.fieldLink RX9 15 "BellowsRow$Tape" "size" "I") (by decide +kernel)) (fun _ h9 => h9) rfl dX9_put_8 ?_
  refine lv_aload_n hx hb dX9_put_11 rfl (lv_at hl 1 rfl) ?_
  refine va_get (D := D) (ci := 9) (v := .ref (a 2)) (C := RX9) (T := TX9) (N := 8) hx hb hts i_X9 hown hK hP 0 rfl rfl 0 (by decide) (hts (.fieldLink RX9 9 "BellowsRow$Tape" "bytes" "[B") (by decide +kernel)) (fun _ h9 => h9) rfl dX9_put_12 ?_
  refine va_alen (v := 1600) hx hb hK hP 1 0 rfl rfl rfl dX9_put_15 ?_
  refine lv_icmp_ge (tgt := 48) hx hb dX9_put_16 (by decide) (fun h => absurd h (by decide)) (fun _ => ?_)
  refine lv_aload_n hx hb dX9_put_19 rfl (lv_at hl 1 rfl) ?_
  refine va_get (D := D) (ci := 9) (v := .ref (a 2)) (C := RX9) (T := TX9) (N := 8) hx hb hts i_X9 hown hK hP 0 rfl rfl 0 (by decide) (hts (.fieldLink RX9 9 "BellowsRow$Tape" "bytes" "[B") (by decide +kernel)) (fun _ h9 => h9) rfl dX9_put_20 ?_
  refine lv_aload_n hx hb dX9_put_23 rfl (lv_at hl 1 rfl) ?_
  refine va_get (D := D) (ci := 9) (v := .int 5) (C := RX9) (T := TX9) (N := 8) hx hb hts i_X9 hown hK hP 0 rfl rfl 1 (by decide) (hts (.fieldLink RX9 15 "BellowsRow$Tape" "size" "I") (by decide +kernel)) (fun _ h9 => h9) rfl dX9_put_24 ?_
  refine lv_iload_n hx hb dX9_put_27 rfl (lv_at hl 2 rfl) ?_
  refine lv_iload_n hx hb dX9_put_28 rfl (lv_at hl 0 rfl) ?_
  refine lv_ishr hx hb dX9_put_29 ?_
  refine lv_topi (fun x3 ex3 => ?_)
  refine lv_i2b hx hb dX9_put_30 rfl ?_
  refine va_bast hx hb hK hP hD hS 1 0 rfl rfl (vp_in_iff.mpr (by decide)) dX9_put_31 (fun H locs hP hD hS => ?_)
  have hP : va_P D vwCl [((a 1), .inr (9, [.ref (a 2), .int 5, .int 0, .int 0, .int (-1), .int 0, .int 0, .int 0])), ((a 2), .inl (k 0, 1600, .inl (upd (upd f 4 (vp_nar .byte x1.toInt8.toInt32)) 5 (vp_nar .byte x3.toInt8.toInt32))))] H := hP
  have hD : va_D A [((a 1), .inr (9, [.ref (a 2), .int 5, .int 0, .int 0, .int (-1), .int 0, .int 0, .int 0])), ((a 2), .inl (k 0, 1600, .inl (upd (upd f 4 (vp_nar .byte x1.toInt8.toInt32)) 5 (vp_nar .byte x3.toInt8.toInt32))))] := hD
  refine lv_aload_n hx hb dX9_put_32 rfl (lv_at hl 1 rfl) ?_
  refine lv_dup hx hb dX9_put_33 rfl ?_
  refine va_get (D := D) (ci := 9) (v := .int 5) (C := RX9) (T := TX9) (N := 8) hx hb hts i_X9 hown hK hP 0 rfl rfl 1 (by decide) (hts (.fieldLink RX9 15 "BellowsRow$Tape" "size" "I") (by decide +kernel)) (fun _ h9 => h9) rfl dX9_put_34 ?_
  refine lv_iconst (v := 1) hx hb dX9_put_37 (by decide) ?_
  refine lv_iadd hx hb dX9_put_38 ?_
  refine lv_topi (fun x4 ex4 => ?_)
  obtain rfl : x4 = 6 := ex4.trans (by decide)
  refine va_put (D := D) (ci := 9) (v := .int 6) (ty := .int) (C := RX9) (T := TX9) (N := 8) hx hb hts i_X9 tyX9 tyX9_ok nmX9 hown hK hP hD hS 0 rfl rfl 1 (by decide) (hts (.fieldLink RX9 15 "BellowsRow$Tape" "size" "I") (by decide +kernel)) (fun _ h9 => h9) rfl (by decide +kernel) rfl rfl (Nat.le_of_ble_eq_true rfl) dX9_put_39 (fun H locs hP hD hS => ?_)
  have hP : va_P D vwCl [((a 1), .inr (9, [.ref (a 2), .int 6, .int 0, .int 0, .int (-1), .int 0, .int 0, .int 0])), ((a 2), .inl (k 0, 1600, .inl (upd (upd f 4 (vp_nar .byte x1.toInt8.toInt32)) 5 (vp_nar .byte x3.toInt8.toInt32))))] H := hP
  have hD : va_D A [((a 1), .inr (9, [.ref (a 2), .int 6, .int 0, .int 0, .int (-1), .int 0, .int 0, .int 0])), ((a 2), .inl (k 0, 1600, .inl (upd (upd f 4 (vp_nar .byte x1.toInt8.toInt32)) 5 (vp_nar .byte x3.toInt8.toInt32))))] := hD
  refine lv_iinc (v := 8) (lv' := [(2, .int 8), (0, .ref (a 1)), (1, .int p1)]) hx hb dX9_put_42 hl (k := 0) rfl (by decide) (by decide) rfl (fun ls hl => ?_)
  refine lv_goto (tgt := 3) hx hb dX9_put_45 (by decide) ?_
  refine lv_iload_n hx hb dX9_put_3 rfl (lv_at hl 0 rfl) ?_
  refine lv_if_lt (tgt := 48) hx hb dX9_put_4 (by decide) (fun h => absurd h (by decide)) (fun _ => ?_)
  refine lv_aload_n hx hb dX9_put_7 rfl (lv_at hl 1 rfl) ?_
  refine va_get (D := D) (ci := 9) (v := .int 6) (C := RX9) (T := TX9) (N := 8) hx hb hts i_X9 hown hK hP 0 rfl rfl 1 (by decide) (hts (.fieldLink RX9 15 "BellowsRow$Tape" "size" "I") (by decide +kernel)) (fun _ h9 => h9) rfl dX9_put_8 ?_
  refine lv_aload_n hx hb dX9_put_11 rfl (lv_at hl 1 rfl) ?_
  refine va_get (D := D) (ci := 9) (v := .ref (a 2)) (C := RX9) (T := TX9) (N := 8) hx hb hts i_X9 hown hK hP 0 rfl rfl 0 (by decide) (hts (.fieldLink RX9 9 "BellowsRow$Tape" "bytes" "[B") (by decide +kernel)) (fun _ h9 => h9) rfl dX9_put_12 ?_
  refine va_alen (v := 1600) hx hb hK hP 1 0 rfl rfl rfl dX9_put_15 ?_
  refine lv_icmp_ge (tgt := 48) hx hb dX9_put_16 (by decide) (fun h => absurd h (by decide)) (fun _ => ?_)
  refine lv_aload_n hx hb dX9_put_19 rfl (lv_at hl 1 rfl) ?_
  refine va_get (D := D) (ci := 9) (v := .ref (a 2)) (C := RX9) (T := TX9) (N := 8) hx hb hts i_X9 hown hK hP 0 rfl rfl 0 (by decide) (hts (.fieldLink RX9 9 "BellowsRow$Tape" "bytes" "[B") (by decide +kernel)) (fun _ h9 => h9) rfl dX9_put_20 ?_
  refine lv_aload_n hx hb dX9_put_23 rfl (lv_at hl 1 rfl) ?_
  refine va_get (D := D) (ci := 9) (v := .int 6) (C := RX9) (T := TX9) (N := 8) hx hb hts i_X9 hown hK hP 0 rfl rfl 1 (by decide) (hts (.fieldLink RX9 15 "BellowsRow$Tape" "size" "I") (by decide +kernel)) (fun _ h9 => h9) rfl dX9_put_24 ?_
  refine lv_iload_n hx hb dX9_put_27 rfl (lv_at hl 2 rfl) ?_
  refine lv_iload_n hx hb dX9_put_28 rfl (lv_at hl 0 rfl) ?_
  refine lv_ishr hx hb dX9_put_29 ?_
  refine lv_topi (fun x5 ex5 => ?_)
  refine lv_i2b hx hb dX9_put_30 rfl ?_
  refine va_bast hx hb hK hP hD hS 1 0 rfl rfl (vp_in_iff.mpr (by decide)) dX9_put_31 (fun H locs hP hD hS => ?_)
  have hP : va_P D vwCl [((a 1), .inr (9, [.ref (a 2), .int 6, .int 0, .int 0, .int (-1), .int 0, .int 0, .int 0])), ((a 2), .inl (k 0, 1600, .inl (upd (upd (upd f 4 (vp_nar .byte x1.toInt8.toInt32)) 5 (vp_nar .byte x3.toInt8.toInt32)) 6 (vp_nar .byte x5.toInt8.toInt32))))] H := hP
  have hD : va_D A [((a 1), .inr (9, [.ref (a 2), .int 6, .int 0, .int 0, .int (-1), .int 0, .int 0, .int 0])), ((a 2), .inl (k 0, 1600, .inl (upd (upd (upd f 4 (vp_nar .byte x1.toInt8.toInt32)) 5 (vp_nar .byte x3.toInt8.toInt32)) 6 (vp_nar .byte x5.toInt8.toInt32))))] := hD
  refine lv_aload_n hx hb dX9_put_32 rfl (lv_at hl 1 rfl) ?_
  refine lv_dup hx hb dX9_put_33 rfl ?_
  refine va_get (D := D) (ci := 9) (v := .int 6) (C := RX9) (T := TX9) (N := 8) hx hb hts i_X9 hown hK hP 0 rfl rfl 1 (by decide) (hts (.fieldLink RX9 15 "BellowsRow$Tape" "size" "I") (by decide +kernel)) (fun _ h9 => h9) rfl dX9_put_34 ?_
  refine lv_iconst (v := 1) hx hb dX9_put_37 (by decide) ?_
  refine lv_iadd hx hb dX9_put_38 ?_
  refine lv_topi (fun x6 ex6 => ?_)
  obtain rfl : x6 = 7 := ex6.trans (by decide)
  refine va_put (D := D) (ci := 9) (v := .int 7) (ty := .int) (C := RX9) (T := TX9) (N := 8) hx hb hts i_X9 tyX9 tyX9_ok nmX9 hown hK hP hD hS 0 rfl rfl 1 (by decide) (hts (.fieldLink RX9 15 "BellowsRow$Tape" "size" "I") (by decide +kernel)) (fun _ h9 => h9) rfl (by decide +kernel) rfl rfl (Nat.le_of_ble_eq_true rfl) dX9_put_39 (fun H locs hP hD hS => ?_)
  have hP : va_P D vwCl [((a 1), .inr (9, [.ref (a 2), .int 7, .int 0, .int 0, .int (-1), .int 0, .int 0, .int 0])), ((a 2), .inl (k 0, 1600, .inl (upd (upd (upd f 4 (vp_nar .byte x1.toInt8.toInt32)) 5 (vp_nar .byte x3.toInt8.toInt32)) 6 (vp_nar .byte x5.toInt8.toInt32))))] H := hP
  have hD : va_D A [((a 1), .inr (9, [.ref (a 2), .int 7, .int 0, .int 0, .int (-1), .int 0, .int 0, .int 0])), ((a 2), .inl (k 0, 1600, .inl (upd (upd (upd f 4 (vp_nar .byte x1.toInt8.toInt32)) 5 (vp_nar .byte x3.toInt8.toInt32)) 6 (vp_nar .byte x5.toInt8.toInt32))))] := hD
  refine lv_iinc (v := 0) (lv' := [(2, .int 0), (0, .ref (a 1)), (1, .int p1)]) hx hb dX9_put_42 hl (k := 0) rfl (by decide) (by decide) rfl (fun ls hl => ?_)
  refine lv_goto (tgt := 3) hx hb dX9_put_45 (by decide) ?_
  refine lv_iload_n hx hb dX9_put_3 rfl (lv_at hl 0 rfl) ?_
  refine lv_if_lt (tgt := 48) hx hb dX9_put_4 (by decide) (fun h => absurd h (by decide)) (fun _ => ?_)
  refine lv_aload_n hx hb dX9_put_7 rfl (lv_at hl 1 rfl) ?_
  refine va_get (D := D) (ci := 9) (v := .int 7) (C := RX9) (T := TX9) (N := 8) hx hb hts i_X9 hown hK hP 0 rfl rfl 1 (by decide) (hts (.fieldLink RX9 15 "BellowsRow$Tape" "size" "I") (by decide +kernel)) (fun _ h9 => h9) rfl dX9_put_8 ?_
  refine lv_aload_n hx hb dX9_put_11 rfl (lv_at hl 1 rfl) ?_
  refine va_get (D := D) (ci := 9) (v := .ref (a 2)) (C := RX9) (T := TX9) (N := 8) hx hb hts i_X9 hown hK hP 0 rfl rfl 0 (by decide) (hts (.fieldLink RX9 9 "BellowsRow$Tape" "bytes" "[B") (by decide +kernel)) (fun _ h9 => h9) rfl dX9_put_12 ?_
  refine va_alen (v := 1600) hx hb hK hP 1 0 rfl rfl rfl dX9_put_15 ?_
  refine lv_icmp_ge (tgt := 48) hx hb dX9_put_16 (by decide) (fun h => absurd h (by decide)) (fun _ => ?_)
  refine lv_aload_n hx hb dX9_put_19 rfl (lv_at hl 1 rfl) ?_
  refine va_get (D := D) (ci := 9) (v := .ref (a 2)) (C := RX9) (T := TX9) (N := 8) hx hb hts i_X9 hown hK hP 0 rfl rfl 0 (by decide) (hts (.fieldLink RX9 9 "BellowsRow$Tape" "bytes" "[B") (by decide +kernel)) (fun _ h9 => h9) rfl dX9_put_20 ?_
  refine lv_aload_n hx hb dX9_put_23 rfl (lv_at hl 1 rfl) ?_
  refine va_get (D := D) (ci := 9) (v := .int 7) (C := RX9) (T := TX9) (N := 8) hx hb hts i_X9 hown hK hP 0 rfl rfl 1 (by decide) (hts (.fieldLink RX9 15 "BellowsRow$Tape" "size" "I") (by decide +kernel)) (fun _ h9 => h9) rfl dX9_put_24 ?_
  refine lv_iload_n hx hb dX9_put_27 rfl (lv_at hl 2 rfl) ?_
  refine lv_iload_n hx hb dX9_put_28 rfl (lv_at hl 0 rfl) ?_
  refine lv_ishr hx hb dX9_put_29 ?_
  refine lv_topi (fun x7 ex7 => ?_)
  refine lv_i2b hx hb dX9_put_30 rfl ?_
  refine va_bast hx hb hK hP hD hS 1 0 rfl rfl (vp_in_iff.mpr (by decide)) dX9_put_31 (fun H locs hP hD hS => ?_)
  have hP : va_P D vwCl [((a 1), .inr (9, [.ref (a 2), .int 7, .int 0, .int 0, .int (-1), .int 0, .int 0, .int 0])), ((a 2), .inl (k 0, 1600, .inl (upd (upd (upd (upd f 4 (vp_nar .byte x1.toInt8.toInt32)) 5 (vp_nar .byte x3.toInt8.toInt32)) 6 (vp_nar .byte x5.toInt8.toInt32)) 7 (vp_nar .byte x7.toInt8.toInt32))))] H := hP
  have hD : va_D A [((a 1), .inr (9, [.ref (a 2), .int 7, .int 0, .int 0, .int (-1), .int 0, .int 0, .int 0])), ((a 2), .inl (k 0, 1600, .inl (upd (upd (upd (upd f 4 (vp_nar .byte x1.toInt8.toInt32)) 5 (vp_nar .byte x3.toInt8.toInt32)) 6 (vp_nar .byte x5.toInt8.toInt32)) 7 (vp_nar .byte x7.toInt8.toInt32))))] := hD
  refine lv_aload_n hx hb dX9_put_32 rfl (lv_at hl 1 rfl) ?_
  refine lv_dup hx hb dX9_put_33 rfl ?_
  refine va_get (D := D) (ci := 9) (v := .int 7) (C := RX9) (T := TX9) (N := 8) hx hb hts i_X9 hown hK hP 0 rfl rfl 1 (by decide) (hts (.fieldLink RX9 15 "BellowsRow$Tape" "size" "I") (by decide +kernel)) (fun _ h9 => h9) rfl dX9_put_34 ?_
  refine lv_iconst (v := 1) hx hb dX9_put_37 (by decide) ?_
  refine lv_iadd hx hb dX9_put_38 ?_
  refine lv_topi (fun x8 ex8 => ?_)
  obtain rfl : x8 = 8 := ex8.trans (by decide)
  refine va_put (D := D) (ci := 9) (v := .int 8) (ty := .int) (C := RX9) (T := TX9) (N := 8) hx hb hts i_X9 tyX9 tyX9_ok nmX9 hown hK hP hD hS 0 rfl rfl 1 (by decide) (hts (.fieldLink RX9 15 "BellowsRow$Tape" "size" "I") (by decide +kernel)) (fun _ h9 => h9) rfl (by decide +kernel) rfl rfl (Nat.le_of_ble_eq_true rfl) dX9_put_39 (fun H locs hP hD hS => ?_)
  have hP : va_P D vwCl [((a 1), .inr (9, [.ref (a 2), .int 8, .int 0, .int 0, .int (-1), .int 0, .int 0, .int 0])), ((a 2), .inl (k 0, 1600, .inl (upd (upd (upd (upd f 4 (vp_nar .byte x1.toInt8.toInt32)) 5 (vp_nar .byte x3.toInt8.toInt32)) 6 (vp_nar .byte x5.toInt8.toInt32)) 7 (vp_nar .byte x7.toInt8.toInt32))))] H := hP
  have hD : va_D A [((a 1), .inr (9, [.ref (a 2), .int 8, .int 0, .int 0, .int (-1), .int 0, .int 0, .int 0])), ((a 2), .inl (k 0, 1600, .inl (upd (upd (upd (upd f 4 (vp_nar .byte x1.toInt8.toInt32)) 5 (vp_nar .byte x3.toInt8.toInt32)) 6 (vp_nar .byte x5.toInt8.toInt32)) 7 (vp_nar .byte x7.toInt8.toInt32))))] := hD
  refine lv_iinc (v := (-8)) (lv' := [(2, .int (-8)), (0, .ref (a 1)), (1, .int p1)]) hx hb dX9_put_42 hl (k := 0) rfl (by decide) (by decide) rfl (fun ls hl => ?_)
  refine lv_goto (tgt := 3) hx hb dX9_put_45 (by decide) ?_
  refine lv_iload_n hx hb dX9_put_3 rfl (lv_at hl 0 rfl) ?_
  refine lv_if_lt (tgt := 48) hx hb dX9_put_4 (by decide) (fun _ => ?_) (fun h => absurd (by decide) h)
  have hP9 := hP.sub (ws' := [((a 1), .inr (9, [.ref (a 2), .int 8, .int 0, .int 0, .int (-1), .int 0, .int 0, .int 0])), ((a 2), .inl (k 0, 1600, .inl (upd (upd (upd (upd f 4 (vp_nar .byte x1.toInt8.toInt32)) 5 (vp_nar .byte x3.toInt8.toInt32)) 6 (vp_nar .byte x5.toInt8.toInt32)) 7 (vp_nar .byte x7.toInt8.toInt32))))]) [0, 1] rfl
  have hD9 := hD.sub (ws' := [((a 1), .inr (9, [.ref (a 2), .int 8, .int 0, .int 0, .int (-1), .int 0, .int 0, .int 0])), ((a 2), .inl (k 0, 1600, .inl (upd (upd (upd (upd f 4 (vp_nar .byte x1.toInt8.toInt32)) 5 (vp_nar .byte x3.toInt8.toInt32)) 6 (vp_nar .byte x5.toInt8.toInt32)) 7 (vp_nar .byte x7.toInt8.toInt32))))]) [0, 1] (by decide) rfl
  refine W.widen (k := 0) (n := 0) (Nat.le_of_ble_eq_true rfl) (Nat.le_of_ble_eq_true rfl) ?_
  exact W.vret hx hb hr (fun t ht hW => ⟨⟨(upd (upd (upd (upd f 4 (vp_nar .byte x1.toInt8.toInt32)) 5 (vp_nar .byte x3.toInt8.toInt32)) 6 (vp_nar .byte x5.toInt8.toInt32)) 7 (vp_nar .byte x7.toInt8.toInt32)), rfl, trivial, by rw [ht]; exact hP9, hD9⟩, hS.F ht⟩) hS.2.2 dX9_put_48
set_option maxHeartbeats 4000000 in
set_option maxRecDepth 100000 in
theorem c_X9_put_8 (l : Launch) (D : va_G) (k : Nat → ClassId) (a : Nat → Nat) (f : Nat → Int32) (p1 : Int32) (sz : Nat) : Met l yX9_put wsX9_put ({ frames := 0, cells := 0, slots := 0, locals := 0 }) (PreM D k sz [((a 1), .inr (9, [.ref (a 2), .int 8, .int 0, .int 0, .int (-1), .int 0, .int 0, .int 0])), ((a 2), .inl (k 0, 1600, .inl f))] [.ref (a 1), .int p1]) (va_Qv (fun _ => True) (WB D (va_A [((a 1), .inr (9, [.ref (a 2), .int 8, .int 0, .int 0, .int (-1), .int 0, .int 0, .int 0])), ((a 2), .inl (k 0, 1600, .inl f))] sz) (fun u => [((a 1), .inr (9, [.ref (a 2), .int 12, .int 0, .int 0, .int (-1), .int 0, .int 0, .int 0])), ((a 2), .inl (k 0, 1600, .inl u))])) (va_A [((a 1), .inr (9, [.ref (a 2), .int 8, .int 0, .int 0, .int (-1), .int 0, .int 0, .int 0])), ((a 2), .inl (k 0, 1600, .inl f))] sz)) 0 0 (va_A [((a 1), .inr (9, [.ref (a 2), .int 8, .int 0, .int 0, .int (-1), .int 0, .int 0, .int 0])), ((a 2), .inl (k 0, 1600, .inl f))] sz) := by
  refine Met.ofW (cc := cX9_put) (maxL := 3) (ret := none) (by decide) rfl ?_
  intro p e s m args below meth c s₁ B hml hv
  obtain ⟨rfl, hsz, hP, hK, hD0, hN⟩ := hv
  have hx := B.exec
  have hb := B.bytes
  have hr := B.returns
  have hts := atoms_spec (ws := wsX9_put) B.pre
  have hown : s.vm.findClass RX9 = some m.cls := findClass_of_methodNamed B.named
  have hlocks := B.notSynchronized
  have i_X9 : ∀ w ∈ wsX90, w ∈ wsX9_put := by decide +kernel
  subst hsz
  have hD := hD0.self (sz := s.heap.size)
  generalize hAe : va_A [((a 1), .inr (9, [.ref (a 2), .int 8, .int 0, .int 0, .int (-1), .int 0, .int 0, .int 0])), ((a 2), .inl (k 0, 1600, .inl f))] s.heap.size = A at hD ⊢
  have hA : ∀ q : Nat, s.heap.size ≤ q → A q := fun q h => by rw [← hAe]; exact Or.inr h
  have hS : va_S A s.heap s.heap [] := va_S.rf
  have hP : va_P D vwCl [((a 1), .inr (9, [.ref (a 2), .int 8, .int 0, .int 0, .int (-1), .int 0, .int 0, .int 0])), ((a 2), .inl (k 0, 1600, .inl f))] s.heap := hP
  have hl := lv_entry ([.ref (a 1), .int p1]) (n := 3) (Nat.le_of_ble_eq_true rfl)
  rw [lg_entry_eq]
  generalize (lg_sl ([.ref (a 1), .int p1]) ++ List.replicate (3 - (lg_sl ([.ref (a 1), .int p1])).length) Slot.unset).toArray = ls at hl ⊢
  have hl : lv_has ls 3 [(0, .ref (a 1)), (1, .int p1)] := hl
  refine lv_bipush (v := 24) hx hb dX9_put_0 (by decide) ?_
  refine lv_istore_n (lv' := [(2, .int 24), (0, .ref (a 1)), (1, .int p1)]) hx hb dX9_put_2 rfl hl (by decide) rfl (fun ls hl => ?_)
  refine lv_iload_n hx hb dX9_put_3 rfl (lv_at hl 0 rfl) ?_
  refine lv_if_lt (tgt := 48) hx hb dX9_put_4 (by decide) (fun h => absurd h (by decide)) (fun _ => ?_)
  refine lv_aload_n hx hb dX9_put_7 rfl (lv_at hl 1 rfl) ?_
  refine va_get (D := D) (ci := 9) (v := .int 8) (C := RX9) (T := TX9) (N := 8) hx hb hts i_X9 hown hK hP 0 rfl rfl 1 (by decide) (hts (.fieldLink RX9 15 "BellowsRow$Tape" "size" "I") (by decide +kernel)) (fun _ h9 => h9) rfl dX9_put_8 ?_
  refine lv_aload_n hx hb dX9_put_11 rfl (lv_at hl 1 rfl) ?_
  refine va_get (D := D) (ci := 9) (v := .ref (a 2)) (C := RX9) (T := TX9) (N := 8) hx hb hts i_X9 hown hK hP 0 rfl rfl 0 (by decide) (hts (.fieldLink RX9 9 "BellowsRow$Tape" "bytes" "[B") (by decide +kernel)) (fun _ h9 => h9) rfl dX9_put_12 ?_
  refine va_alen (v := 1600) hx hb hK hP 1 0 rfl rfl rfl dX9_put_15 ?_
  refine lv_icmp_ge (tgt := 48) hx hb dX9_put_16 (by decide) (fun h => absurd h (by decide)) (fun _ => ?_)
  refine lv_aload_n hx hb dX9_put_19 rfl (lv_at hl 1 rfl) ?_
  refine va_get (D := D) (ci := 9) (v := .ref (a 2)) (C := RX9) (T := TX9) (N := 8) hx hb hts i_X9 hown hK hP 0 rfl rfl 0 (by decide) (hts (.fieldLink RX9 9 "BellowsRow$Tape" "bytes" "[B") (by decide +kernel)) (fun _ h9 => h9) rfl dX9_put_20 ?_
  refine lv_aload_n hx hb dX9_put_23 rfl (lv_at hl 1 rfl) ?_
  refine va_get (D := D) (ci := 9) (v := .int 8) (C := RX9) (T := TX9) (N := 8) hx hb hts i_X9 hown hK hP 0 rfl rfl 1 (by decide) (hts (.fieldLink RX9 15 "BellowsRow$Tape" "size" "I") (by decide +kernel)) (fun _ h9 => h9) rfl dX9_put_24 ?_
  refine lv_iload_n hx hb dX9_put_27 rfl (lv_at hl 2 rfl) ?_
  refine lv_iload_n hx hb dX9_put_28 rfl (lv_at hl 0 rfl) ?_
  refine lv_ishr hx hb dX9_put_29 ?_
  refine lv_topi (fun x1 ex1 => ?_)
  refine lv_i2b hx hb dX9_put_30 rfl ?_
  refine va_bast hx hb hK hP hD hS 1 0 rfl rfl (vp_in_iff.mpr (by decide)) dX9_put_31 (fun H locs hP hD hS => ?_)
  have hP : va_P D vwCl [((a 1), .inr (9, [.ref (a 2), .int 8, .int 0, .int 0, .int (-1), .int 0, .int 0, .int 0])), ((a 2), .inl (k 0, 1600, .inl (upd f 8 (vp_nar .byte x1.toInt8.toInt32))))] H := hP
  have hD : va_D A [((a 1), .inr (9, [.ref (a 2), .int 8, .int 0, .int 0, .int (-1), .int 0, .int 0, .int 0])), ((a 2), .inl (k 0, 1600, .inl (upd f 8 (vp_nar .byte x1.toInt8.toInt32))))] := hD
  refine lv_aload_n hx hb dX9_put_32 rfl (lv_at hl 1 rfl) ?_
  refine lv_dup hx hb dX9_put_33 rfl ?_
  refine va_get (D := D) (ci := 9) (v := .int 8) (C := RX9) (T := TX9) (N := 8) hx hb hts i_X9 hown hK hP 0 rfl rfl 1 (by decide) (hts (.fieldLink RX9 15 "BellowsRow$Tape" "size" "I") (by decide +kernel)) (fun _ h9 => h9) rfl dX9_put_34 ?_
  refine lv_iconst (v := 1) hx hb dX9_put_37 (by decide) ?_
  refine lv_iadd hx hb dX9_put_38 ?_
  refine lv_topi (fun x2 ex2 => ?_)
  obtain rfl : x2 = 9 := ex2.trans (by decide)
  refine va_put (D := D) (ci := 9) (v := .int 9) (ty := .int) (C := RX9) (T := TX9) (N := 8) hx hb hts i_X9 tyX9 tyX9_ok nmX9 hown hK hP hD hS 0 rfl rfl 1 (by decide) (hts (.fieldLink RX9 15 "BellowsRow$Tape" "size" "I") (by decide +kernel)) (fun _ h9 => h9) rfl (by decide +kernel) rfl rfl (Nat.le_of_ble_eq_true rfl) dX9_put_39 (fun H locs hP hD hS => ?_)
  have hP : va_P D vwCl [((a 1), .inr (9, [.ref (a 2), .int 9, .int 0, .int 0, .int (-1), .int 0, .int 0, .int 0])), ((a 2), .inl (k 0, 1600, .inl (upd f 8 (vp_nar .byte x1.toInt8.toInt32))))] H := hP
  have hD : va_D A [((a 1), .inr (9, [.ref (a 2), .int 9, .int 0, .int 0, .int (-1), .int 0, .int 0, .int 0])), ((a 2), .inl (k 0, 1600, .inl (upd f 8 (vp_nar .byte x1.toInt8.toInt32))))] := hD
  refine lv_iinc (v := 16) (lv' := [(2, .int 16), (0, .ref (a 1)), (1, .int p1)]) hx hb dX9_put_42 hl (k := 0) rfl (by decide) (by decide) rfl (fun ls hl => ?_)
  refine lv_goto (tgt := 3) hx hb dX9_put_45 (by decide) ?_
  refine lv_iload_n hx hb dX9_put_3 rfl (lv_at hl 0 rfl) ?_
  refine lv_if_lt (tgt := 48) hx hb dX9_put_4 (by decide) (fun h => absurd h (by decide)) (fun _ => ?_)
  refine lv_aload_n hx hb dX9_put_7 rfl (lv_at hl 1 rfl) ?_
  refine va_get (D := D) (ci := 9) (v := .int 9) (C := RX9) (T := TX9) (N := 8) hx hb hts i_X9 hown hK hP 0 rfl rfl 1 (by decide) (hts (.fieldLink RX9 15 "BellowsRow$Tape" "size" "I") (by decide +kernel)) (fun _ h9 => h9) rfl dX9_put_8 ?_
  refine lv_aload_n hx hb dX9_put_11 rfl (lv_at hl 1 rfl) ?_
  refine va_get (D := D) (ci := 9) (v := .ref (a 2)) (C := RX9) (T := TX9) (N := 8) hx hb hts i_X9 hown hK hP 0 rfl rfl 0 (by decide) (hts (.fieldLink RX9 9 "BellowsRow$Tape" "bytes" "[B") (by decide +kernel)) (fun _ h9 => h9) rfl dX9_put_12 ?_
  refine va_alen (v := 1600) hx hb hK hP 1 0 rfl rfl rfl dX9_put_15 ?_
  refine lv_icmp_ge (tgt := 48) hx hb dX9_put_16 (by decide) (fun h => absurd h (by decide)) (fun _ => ?_)
  refine lv_aload_n hx hb dX9_put_19 rfl (lv_at hl 1 rfl) ?_
  refine va_get (D := D) (ci := 9) (v := .ref (a 2)) (C := RX9) (T := TX9) (N := 8) hx hb hts i_X9 hown hK hP 0 rfl rfl 0 (by decide) (hts (.fieldLink RX9 9 "BellowsRow$Tape" "bytes" "[B") (by decide +kernel)) (fun _ h9 => h9) rfl dX9_put_20 ?_
  refine lv_aload_n hx hb dX9_put_23 rfl (lv_at hl 1 rfl) ?_
  refine va_get (D := D) (ci := 9) (v := .int 9) (C := RX9) (T := TX9) (N := 8) hx hb hts i_X9 hown hK hP 0 rfl rfl 1 (by decide) (hts (.fieldLink RX9 15 "BellowsRow$Tape" "size" "I") (by decide +kernel)) (fun _ h9 => h9) rfl dX9_put_24 ?_
  refine lv_iload_n hx hb dX9_put_27 rfl (lv_at hl 2 rfl) ?_
  refine lv_iload_n hx hb dX9_put_28 rfl (lv_at hl 0 rfl) ?_
  refine lv_ishr hx hb dX9_put_29 ?_
  refine lv_topi (fun x3 ex3 => ?_)
  refine lv_i2b hx hb dX9_put_30 rfl ?_
  refine va_bast hx hb hK hP hD hS 1 0 rfl rfl (vp_in_iff.mpr (by decide)) dX9_put_31 (fun H locs hP hD hS => ?_)
  have hP : va_P D vwCl [((a 1), .inr (9, [.ref (a 2), .int 9, .int 0, .int 0, .int (-1), .int 0, .int 0, .int 0])), ((a 2), .inl (k 0, 1600, .inl (upd (upd f 8 (vp_nar .byte x1.toInt8.toInt32)) 9 (vp_nar .byte x3.toInt8.toInt32))))] H := hP
  have hD : va_D A [((a 1), .inr (9, [.ref (a 2), .int 9, .int 0, .int 0, .int (-1), .int 0, .int 0, .int 0])), ((a 2), .inl (k 0, 1600, .inl (upd (upd f 8 (vp_nar .byte x1.toInt8.toInt32)) 9 (vp_nar .byte x3.toInt8.toInt32))))] := hD
  refine lv_aload_n hx hb dX9_put_32 rfl (lv_at hl 1 rfl) ?_
  refine lv_dup hx hb dX9_put_33 rfl ?_
  refine va_get (D := D) (ci := 9) (v := .int 9) (C := RX9) (T := TX9) (N := 8) hx hb hts i_X9 hown hK hP 0 rfl rfl 1 (by decide) (hts (.fieldLink RX9 15 "BellowsRow$Tape" "size" "I") (by decide +kernel)) (fun _ h9 => h9) rfl dX9_put_34 ?_
  refine lv_iconst (v := 1) hx hb dX9_put_37 (by decide) ?_
  refine lv_iadd hx hb dX9_put_38 ?_
  refine lv_topi (fun x4 ex4 => ?_)
  obtain rfl : x4 = 10 := ex4.trans (by decide)
  refine va_put (D := D) (ci := 9) (v := .int 10) (ty := .int) (C := RX9) (T := TX9) (N := 8) hx hb hts i_X9 tyX9 tyX9_ok nmX9 hown hK hP hD hS 0 rfl rfl 1 (by decide) (hts (.fieldLink RX9 15 "BellowsRow$Tape" "size" "I") (by decide +kernel)) (fun _ h9 => h9) rfl (by decide +kernel) rfl rfl (Nat.le_of_ble_eq_true rfl) dX9_put_39 (fun H locs hP hD hS => ?_)
  have hP : va_P D vwCl [((a 1), .inr (9, [.ref (a 2), .int 10, .int 0, .int 0, .int (-1), .int 0, .int 0, .int 0])), ((a 2), .inl (k 0, 1600, .inl (upd (upd f 8 (vp_nar .byte x1.toInt8.toInt32)) 9 (vp_nar .byte x3.toInt8.toInt32))))] H := hP
  have hD : va_D A [((a 1), .inr (9, [.ref (a 2), .int 10, .int 0, .int 0, .int (-1), .int 0, .int 0, .int 0])), ((a 2), .inl (k 0, 1600, .inl (upd (upd f 8 (vp_nar .byte x1.toInt8.toInt32)) 9 (vp_nar .byte x3.toInt8.toInt32))))] := hD
  refine lv_iinc (v := 8) (lv' := [(2, .int 8), (0, .ref (a 1)), (1, .int p1)]) hx hb dX9_put_42 hl (k := 0) rfl (by decide) (by decide) rfl (fun ls hl => ?_)
  refine lv_goto (tgt := 3) hx hb dX9_put_45 (by decide) ?_
  refine lv_iload_n hx hb dX9_put_3 rfl (lv_at hl 0 rfl) ?_
  refine lv_if_lt (tgt := 48) hx hb dX9_put_4 (by decide) (fun h => absurd h (by decide)) (fun _ => ?_)
  refine lv_aload_n hx hb dX9_put_7 rfl (lv_at hl 1 rfl) ?_
  refine va_get (D := D) (ci := 9) (v := .int 10) (C := RX9) (T := TX9) (N := 8) hx hb hts i_X9 hown hK hP 0 rfl rfl 1 (by decide) (hts (.fieldLink RX9 15 "BellowsRow$Tape" "size" "I") (by decide +kernel)) (fun _ h9 => h9) rfl dX9_put_8 ?_
  refine lv_aload_n hx hb dX9_put_11 rfl (lv_at hl 1 rfl) ?_
  refine va_get (D := D) (ci := 9) (v := .ref (a 2)) (C := RX9) (T := TX9) (N := 8) hx hb hts i_X9 hown hK hP 0 rfl rfl 0 (by decide) (hts (.fieldLink RX9 9 "BellowsRow$Tape" "bytes" "[B") (by decide +kernel)) (fun _ h9 => h9) rfl dX9_put_12 ?_
  refine va_alen (v := 1600) hx hb hK hP 1 0 rfl rfl rfl dX9_put_15 ?_
  refine lv_icmp_ge (tgt := 48) hx hb dX9_put_16 (by decide) (fun h => absurd h (by decide)) (fun _ => ?_)
  refine lv_aload_n hx hb dX9_put_19 rfl (lv_at hl 1 rfl) ?_
  refine va_get (D := D) (ci := 9) (v := .ref (a 2)) (C := RX9) (T := TX9) (N := 8) hx hb hts i_X9 hown hK hP 0 rfl rfl 0 (by decide) (hts (.fieldLink RX9 9 "BellowsRow$Tape" "bytes" "[B") (by decide +kernel)) (fun _ h9 => h9) rfl dX9_put_20 ?_
  refine lv_aload_n hx hb dX9_put_23 rfl (lv_at hl 1 rfl) ?_
  refine va_get (D := D) (ci := 9) (v := .int 10) (C := RX9) (T := TX9) (N := 8) hx hb hts i_X9 hown hK hP 0 rfl rfl 1 (by decide) (hts (.fieldLink RX9 15 "BellowsRow$Tape" "size" "I") (by decide +kernel)) (fun _ h9 => h9) rfl dX9_put_24 ?_
  refine lv_iload_n hx hb dX9_put_27 rfl (lv_at hl 2 rfl) ?_
  refine lv_iload_n hx hb dX9_put_28 rfl (lv_at hl 0 rfl) ?_
  refine lv_ishr hx hb dX9_put_29 ?_
  refine lv_topi (fun x5 ex5 => ?_)
  refine lv_i2b hx hb dX9_put_30 rfl ?_
  refine va_bast hx hb hK hP hD hS 1 0 rfl rfl (vp_in_iff.mpr (by decide)) dX9_put_31 (fun H locs hP hD hS => ?_)
  have hP : va_P D vwCl [((a 1), .inr (9, [.ref (a 2), .int 10, .int 0, .int 0, .int (-1), .int 0, .int 0, .int 0])), ((a 2), .inl (k 0, 1600, .inl (upd (upd (upd f 8 (vp_nar .byte x1.toInt8.toInt32)) 9 (vp_nar .byte x3.toInt8.toInt32)) 10 (vp_nar .byte x5.toInt8.toInt32))))] H := hP
  have hD : va_D A [((a 1), .inr (9, [.ref (a 2), .int 10, .int 0, .int 0, .int (-1), .int 0, .int 0, .int 0])), ((a 2), .inl (k 0, 1600, .inl (upd (upd (upd f 8 (vp_nar .byte x1.toInt8.toInt32)) 9 (vp_nar .byte x3.toInt8.toInt32)) 10 (vp_nar .byte x5.toInt8.toInt32))))] := hD
  refine lv_aload_n hx hb dX9_put_32 rfl (lv_at hl 1 rfl) ?_
  refine lv_dup hx hb dX9_put_33 rfl ?_
  refine va_get (D := D) (ci := 9) (v := .int 10) (C := RX9) (T := TX9) (N := 8) hx hb hts i_X9 hown hK hP 0 rfl rfl 1 (by decide) (hts (.fieldLink RX9 15 "BellowsRow$Tape" "size" "I") (by decide +kernel)) (fun _ h9 => h9) rfl dX9_put_34 ?_
  refine lv_iconst (v := 1) hx hb dX9_put_37 (by decide) ?_
  refine lv_iadd hx hb dX9_put_38 ?_
  refine lv_topi (fun x6 ex6 => ?_)
  obtain rfl : x6 = 11 := ex6.trans (by decide)
  refine va_put (D := D) (ci := 9) (v := .int 11) (ty := .int) (C := RX9) (T := TX9) (N := 8) hx hb hts i_X9 tyX9 tyX9_ok nmX9 hown hK hP hD hS 0 rfl rfl 1 (by decide) (hts (.fieldLink RX9 15 "BellowsRow$Tape" "size" "I") (by decide +kernel)) (fun _ h9 => h9) rfl (by decide +kernel) rfl rfl (Nat.le_of_ble_eq_true rfl) dX9_put_39 (fun H locs hP hD hS => ?_)
  have hP : va_P D vwCl [((a 1), .inr (9, [.ref (a 2), .int 11, .int 0, .int 0, .int (-1), .int 0, .int 0, .int 0])), ((a 2), .inl (k 0, 1600, .inl (upd (upd (upd f 8 (vp_nar .byte x1.toInt8.toInt32)) 9 (vp_nar .byte x3.toInt8.toInt32)) 10 (vp_nar .byte x5.toInt8.toInt32))))] H := hP
  have hD : va_D A [((a 1), .inr (9, [.ref (a 2), .int 11, .int 0, .int 0, .int (-1), .int 0, .int 0, .int 0])), ((a 2), .inl (k 0, 1600, .inl (upd (upd (upd f 8 (vp_nar .byte x1.toInt8.toInt32)) 9 (vp_nar .byte x3.toInt8.toInt32)) 10 (vp_nar .byte x5.toInt8.toInt32))))] := hD
  refine lv_iinc (v := 0) (lv' := [(2, .int 0), (0, .ref (a 1)), (1, .int p1)]) hx hb dX9_put_42 hl (k := 0) rfl (by decide) (by decide) rfl (fun ls hl => ?_)
  refine lv_goto (tgt := 3) hx hb dX9_put_45 (by decide) ?_
  refine lv_iload_n hx hb dX9_put_3 rfl (lv_at hl 0 rfl) ?_
  refine lv_if_lt (tgt := 48) hx hb dX9_put_4 (by decide) (fun h => absurd h (by decide)) (fun _ => ?_)
  refine lv_aload_n hx hb dX9_put_7 rfl (lv_at hl 1 rfl) ?_
  refine va_get (D := D) (ci := 9) (v := .int 11) (C := RX9) (T := TX9) (N := 8) hx hb hts i_X9 hown hK hP 0 rfl rfl 1 (by decide) (hts (.fieldLink RX9 15 "BellowsRow$Tape" "size" "I") (by decide +kernel)) (fun _ h9 => h9) rfl dX9_put_8 ?_
  refine lv_aload_n hx hb dX9_put_11 rfl (lv_at hl 1 rfl) ?_
  refine va_get (D := D) (ci := 9) (v := .ref (a 2)) (C := RX9) (T := TX9) (N := 8) hx hb hts i_X9 hown hK hP 0 rfl rfl 0 (by decide) (hts (.fieldLink RX9 9 "BellowsRow$Tape" "bytes" "[B") (by decide +kernel)) (fun _ h9 => h9) rfl dX9_put_12 ?_
  refine va_alen (v := 1600) hx hb hK hP 1 0 rfl rfl rfl dX9_put_15 ?_
  refine lv_icmp_ge (tgt := 48) hx hb dX9_put_16 (by decide) (fun h => absurd h (by decide)) (fun _ => ?_)
  refine lv_aload_n hx hb dX9_put_19 rfl (lv_at hl 1 rfl) ?_
  refine va_get (D := D) (ci := 9) (v := .ref (a 2)) (C := RX9) (T := TX9) (N := 8) hx hb hts i_X9 hown hK hP 0 rfl rfl 0 (by decide) (hts (.fieldLink RX9 9 "BellowsRow$Tape" "bytes" "[B") (by decide +kernel)) (fun _ h9 => h9) rfl dX9_put_20 ?_
  refine lv_aload_n hx hb dX9_put_23 rfl (lv_at hl 1 rfl) ?_
  refine va_get (D := D) (ci := 9) (v := .int 11) (C := RX9) (T := TX9) (N := 8) hx hb hts i_X9 hown hK hP 0 rfl rfl 1 (by decide) (hts (.fieldLink RX9 15 "BellowsRow$Tape" "size" "I") (by decide +kernel)) (fun _ h9 => h9) rfl dX9_put_24 ?_
  refine lv_iload_n hx hb dX9_put_27 rfl (lv_at hl 2 rfl) ?_
  refine lv_iload_n hx hb dX9_put_28 rfl (lv_at hl 0 rfl) ?_
  refine lv_ishr hx hb dX9_put_29 ?_
  refine lv_topi (fun x7 ex7 => ?_)
  refine lv_i2b hx hb dX9_put_30 rfl ?_
  refine va_bast hx hb hK hP hD hS 1 0 rfl rfl (vp_in_iff.mpr (by decide)) dX9_put_31 (fun H locs hP hD hS => ?_)
  have hP : va_P D vwCl [((a 1), .inr (9, [.ref (a 2), .int 11, .int 0, .int 0, .int (-1), .int 0, .int 0, .int 0])), ((a 2), .inl (k 0, 1600, .inl (upd (upd (upd (upd f 8 (vp_nar .byte x1.toInt8.toInt32)) 9 (vp_nar .byte x3.toInt8.toInt32)) 10 (vp_nar .byte x5.toInt8.toInt32)) 11 (vp_nar .byte x7.toInt8.toInt32))))] H := hP
  have hD : va_D A [((a 1), .inr (9, [.ref (a 2), .int 11, .int 0, .int 0, .int (-1), .int 0, .int 0, .int 0])), ((a 2), .inl (k 0, 1600, .inl (upd (upd (upd (upd f 8 (vp_nar .byte x1.toInt8.toInt32)) 9 (vp_nar .byte x3.toInt8.toInt32)) 10 (vp_nar .byte x5.toInt8.toInt32)) 11 (vp_nar .byte x7.toInt8.toInt32))))] := hD
  refine lv_aload_n hx hb dX9_put_32 rfl (lv_at hl 1 rfl) ?_
  refine lv_dup hx hb dX9_put_33 rfl ?_
  refine va_get (D := D) (ci := 9) (v := .int 11) (C := RX9) (T := TX9) (N := 8) hx hb hts i_X9 hown hK hP 0 rfl rfl 1 (by decide) (hts (.fieldLink RX9 15 "BellowsRow$Tape" "size" "I") (by decide +kernel)) (fun _ h9 => h9) rfl dX9_put_34 ?_
  refine lv_iconst (v := 1) hx hb dX9_put_37 (by decide) ?_
  refine lv_iadd hx hb dX9_put_38 ?_
  refine lv_topi (fun x8 ex8 => ?_)
  obtain rfl : x8 = 12 := ex8.trans (by decide)
  refine va_put (D := D) (ci := 9) (v := .int 12) (ty := .int) (C := RX9) (T := TX9) (N := 8) hx hb hts i_X9 tyX9 tyX9_ok nmX9 hown hK hP hD hS 0 rfl rfl 1 (by decide) (hts (.fieldLink RX9 15 "BellowsRow$Tape" "size" "I") (by decide +kernel)) (fun _ h9 => h9) rfl (by decide +kernel) rfl rfl (Nat.le_of_ble_eq_true rfl) dX9_put_39 (fun H locs hP hD hS => ?_)
  have hP : va_P D vwCl [((a 1), .inr (9, [.ref (a 2), .int 12, .int 0, .int 0, .int (-1), .int 0, .int 0, .int 0])), ((a 2), .inl (k 0, 1600, .inl (upd (upd (upd (upd f 8 (vp_nar .byte x1.toInt8.toInt32)) 9 (vp_nar .byte x3.toInt8.toInt32)) 10 (vp_nar .byte x5.toInt8.toInt32)) 11 (vp_nar .byte x7.toInt8.toInt32))))] H := hP
  have hD : va_D A [((a 1), .inr (9, [.ref (a 2), .int 12, .int 0, .int 0, .int (-1), .int 0, .int 0, .int 0])), ((a 2), .inl (k 0, 1600, .inl (upd (upd (upd (upd f 8 (vp_nar .byte x1.toInt8.toInt32)) 9 (vp_nar .byte x3.toInt8.toInt32)) 10 (vp_nar .byte x5.toInt8.toInt32)) 11 (vp_nar .byte x7.toInt8.toInt32))))] := hD
  refine lv_iinc (v := (-8)) (lv' := [(2, .int (-8)), (0, .ref (a 1)), (1, .int p1)]) hx hb dX9_put_42 hl (k := 0) rfl (by decide) (by decide) rfl (fun ls hl => ?_)
  refine lv_goto (tgt := 3) hx hb dX9_put_45 (by decide) ?_
  refine lv_iload_n hx hb dX9_put_3 rfl (lv_at hl 0 rfl) ?_
  refine lv_if_lt (tgt := 48) hx hb dX9_put_4 (by decide) (fun _ => ?_) (fun h => absurd (by decide) h)
  have hP9 := hP.sub (ws' := [((a 1), .inr (9, [.ref (a 2), .int 12, .int 0, .int 0, .int (-1), .int 0, .int 0, .int 0])), ((a 2), .inl (k 0, 1600, .inl (upd (upd (upd (upd f 8 (vp_nar .byte x1.toInt8.toInt32)) 9 (vp_nar .byte x3.toInt8.toInt32)) 10 (vp_nar .byte x5.toInt8.toInt32)) 11 (vp_nar .byte x7.toInt8.toInt32))))]) [0, 1] rfl
  have hD9 := hD.sub (ws' := [((a 1), .inr (9, [.ref (a 2), .int 12, .int 0, .int 0, .int (-1), .int 0, .int 0, .int 0])), ((a 2), .inl (k 0, 1600, .inl (upd (upd (upd (upd f 8 (vp_nar .byte x1.toInt8.toInt32)) 9 (vp_nar .byte x3.toInt8.toInt32)) 10 (vp_nar .byte x5.toInt8.toInt32)) 11 (vp_nar .byte x7.toInt8.toInt32))))]) [0, 1] (by decide) rfl
  refine W.widen (k := 0) (n := 0) (Nat.le_of_ble_eq_true rfl) (Nat.le_of_ble_eq_true rfl) ?_
  exact W.vret hx hb hr (fun t ht hW => ⟨⟨(upd (upd (upd (upd f 8 (vp_nar .byte x1.toInt8.toInt32)) 9 (vp_nar .byte x3.toInt8.toInt32)) 10 (vp_nar .byte x5.toInt8.toInt32)) 11 (vp_nar .byte x7.toInt8.toInt32)), rfl, trivial, by rw [ht]; exact hP9, hD9⟩, hS.F ht⟩) hS.2.2 dX9_put_48
set_option maxHeartbeats 4000000 in
set_option maxRecDepth 100000 in
theorem c_X9_put_12 (l : Launch) (D : va_G) (k : Nat → ClassId) (a : Nat → Nat) (f : Nat → Int32) (p1 : Int32) (sz : Nat) : Met l yX9_put wsX9_put ({ frames := 0, cells := 0, slots := 0, locals := 0 }) (PreM D k sz [((a 1), .inr (9, [.ref (a 2), .int 12, .int 0, .int 0, .int (-1), .int 0, .int 0, .int 0])), ((a 2), .inl (k 0, 1600, .inl f))] [.ref (a 1), .int p1]) (va_Qv (fun _ => True) (WB D (va_A [((a 1), .inr (9, [.ref (a 2), .int 12, .int 0, .int 0, .int (-1), .int 0, .int 0, .int 0])), ((a 2), .inl (k 0, 1600, .inl f))] sz) (fun u => [((a 1), .inr (9, [.ref (a 2), .int 16, .int 0, .int 0, .int (-1), .int 0, .int 0, .int 0])), ((a 2), .inl (k 0, 1600, .inl u))])) (va_A [((a 1), .inr (9, [.ref (a 2), .int 12, .int 0, .int 0, .int (-1), .int 0, .int 0, .int 0])), ((a 2), .inl (k 0, 1600, .inl f))] sz)) 0 0 (va_A [((a 1), .inr (9, [.ref (a 2), .int 12, .int 0, .int 0, .int (-1), .int 0, .int 0, .int 0])), ((a 2), .inl (k 0, 1600, .inl f))] sz) := by
  refine Met.ofW (cc := cX9_put) (maxL := 3) (ret := none) (by decide) rfl ?_
  intro p e s m args below meth c s₁ B hml hv
  obtain ⟨rfl, hsz, hP, hK, hD0, hN⟩ := hv
  have hx := B.exec
  have hb := B.bytes
  have hr := B.returns
  have hts := atoms_spec (ws := wsX9_put) B.pre
  have hown : s.vm.findClass RX9 = some m.cls := findClass_of_methodNamed B.named
  have hlocks := B.notSynchronized
  have i_X9 : ∀ w ∈ wsX90, w ∈ wsX9_put := by decide +kernel
  subst hsz
  have hD := hD0.self (sz := s.heap.size)
  generalize hAe : va_A [((a 1), .inr (9, [.ref (a 2), .int 12, .int 0, .int 0, .int (-1), .int 0, .int 0, .int 0])), ((a 2), .inl (k 0, 1600, .inl f))] s.heap.size = A at hD ⊢
  have hA : ∀ q : Nat, s.heap.size ≤ q → A q := fun q h => by rw [← hAe]; exact Or.inr h
  have hS : va_S A s.heap s.heap [] := va_S.rf
  have hP : va_P D vwCl [((a 1), .inr (9, [.ref (a 2), .int 12, .int 0, .int 0, .int (-1), .int 0, .int 0, .int 0])), ((a 2), .inl (k 0, 1600, .inl f))] s.heap := hP
  have hl := lv_entry ([.ref (a 1), .int p1]) (n := 3) (Nat.le_of_ble_eq_true rfl)
  rw [lg_entry_eq]
  generalize (lg_sl ([.ref (a 1), .int p1]) ++ List.replicate (3 - (lg_sl ([.ref (a 1), .int p1])).length) Slot.unset).toArray = ls at hl ⊢
  have hl : lv_has ls 3 [(0, .ref (a 1)), (1, .int p1)] := hl
  refine lv_bipush (v := 24) hx hb dX9_put_0 (by decide) ?_
  refine lv_istore_n (lv' := [(2, .int 24), (0, .ref (a 1)), (1, .int p1)]) hx hb dX9_put_2 rfl hl (by decide) rfl (fun ls hl => ?_)
  refine lv_iload_n hx hb dX9_put_3 rfl (lv_at hl 0 rfl) ?_
  refine lv_if_lt (tgt := 48) hx hb dX9_put_4 (by decide) (fun h => absurd h (by decide)) (fun _ => ?_)
  refine lv_aload_n hx hb dX9_put_7 rfl (lv_at hl 1 rfl) ?_
  refine va_get (D := D) (ci := 9) (v := .int 12) (C := RX9) (T := TX9) (N := 8) hx hb hts i_X9 hown hK hP 0 rfl rfl 1 (by decide) (hts (.fieldLink RX9 15 "BellowsRow$Tape" "size" "I") (by decide +kernel)) (fun _ h9 => h9) rfl dX9_put_8 ?_
  refine lv_aload_n hx hb dX9_put_11 rfl (lv_at hl 1 rfl) ?_
  refine va_get (D := D) (ci := 9) (v := .ref (a 2)) (C := RX9) (T := TX9) (N := 8) hx hb hts i_X9 hown hK hP 0 rfl rfl 0 (by decide) (hts (.fieldLink RX9 9 "BellowsRow$Tape" "bytes" "[B") (by decide +kernel)) (fun _ h9 => h9) rfl dX9_put_12 ?_
  refine va_alen (v := 1600) hx hb hK hP 1 0 rfl rfl rfl dX9_put_15 ?_
  refine lv_icmp_ge (tgt := 48) hx hb dX9_put_16 (by decide) (fun h => absurd h (by decide)) (fun _ => ?_)
  refine lv_aload_n hx hb dX9_put_19 rfl (lv_at hl 1 rfl) ?_
  refine va_get (D := D) (ci := 9) (v := .ref (a 2)) (C := RX9) (T := TX9) (N := 8) hx hb hts i_X9 hown hK hP 0 rfl rfl 0 (by decide) (hts (.fieldLink RX9 9 "BellowsRow$Tape" "bytes" "[B") (by decide +kernel)) (fun _ h9 => h9) rfl dX9_put_20 ?_
  refine lv_aload_n hx hb dX9_put_23 rfl (lv_at hl 1 rfl) ?_
  refine va_get (D := D) (ci := 9) (v := .int 12) (C := RX9) (T := TX9) (N := 8) hx hb hts i_X9 hown hK hP 0 rfl rfl 1 (by decide) (hts (.fieldLink RX9 15 "BellowsRow$Tape" "size" "I") (by decide +kernel)) (fun _ h9 => h9) rfl dX9_put_24 ?_
  refine lv_iload_n hx hb dX9_put_27 rfl (lv_at hl 2 rfl) ?_
  refine lv_iload_n hx hb dX9_put_28 rfl (lv_at hl 0 rfl) ?_
  refine lv_ishr hx hb dX9_put_29 ?_
  refine lv_topi (fun x1 ex1 => ?_)
  refine lv_i2b hx hb dX9_put_30 rfl ?_
  refine va_bast hx hb hK hP hD hS 1 0 rfl rfl (vp_in_iff.mpr (by decide)) dX9_put_31 (fun H locs hP hD hS => ?_)
  have hP : va_P D vwCl [((a 1), .inr (9, [.ref (a 2), .int 12, .int 0, .int 0, .int (-1), .int 0, .int 0, .int 0])), ((a 2), .inl (k 0, 1600, .inl (upd f 12 (vp_nar .byte x1.toInt8.toInt32))))] H := hP
  have hD : va_D A [((a 1), .inr (9, [.ref (a 2), .int 12, .int 0, .int 0, .int (-1), .int 0, .int 0, .int 0])), ((a 2), .inl (k 0, 1600, .inl (upd f 12 (vp_nar .byte x1.toInt8.toInt32))))] := hD
  refine lv_aload_n hx hb dX9_put_32 rfl (lv_at hl 1 rfl) ?_
  refine lv_dup hx hb dX9_put_33 rfl ?_
  refine va_get (D := D) (ci := 9) (v := .int 12) (C := RX9) (T := TX9) (N := 8) hx hb hts i_X9 hown hK hP 0 rfl rfl 1 (by decide) (hts (.fieldLink RX9 15 "BellowsRow$Tape" "size" "I") (by decide +kernel)) (fun _ h9 => h9) rfl dX9_put_34 ?_
  refine lv_iconst (v := 1) hx hb dX9_put_37 (by decide) ?_
  refine lv_iadd hx hb dX9_put_38 ?_
  refine lv_topi (fun x2 ex2 => ?_)
  obtain rfl : x2 = 13 := ex2.trans (by decide)
  refine va_put (D := D) (ci := 9) (v := .int 13) (ty := .int) (C := RX9) (T := TX9) (N := 8) hx hb hts i_X9 tyX9 tyX9_ok nmX9 hown hK hP hD hS 0 rfl rfl 1 (by decide) (hts (.fieldLink RX9 15 "BellowsRow$Tape" "size" "I") (by decide +kernel)) (fun _ h9 => h9) rfl (by decide +kernel) rfl rfl (Nat.le_of_ble_eq_true rfl) dX9_put_39 (fun H locs hP hD hS => ?_)
  have hP : va_P D vwCl [((a 1), .inr (9, [.ref (a 2), .int 13, .int 0, .int 0, .int (-1), .int 0, .int 0, .int 0])), ((a 2), .inl (k 0, 1600, .inl (upd f 12 (vp_nar .byte x1.toInt8.toInt32))))] H := hP
  have hD : va_D A [((a 1), .inr (9, [.ref (a 2), .int 13, .int 0, .int 0, .int (-1), .int 0, .int 0, .int 0])), ((a 2), .inl (k 0, 1600, .inl (upd f 12 (vp_nar .byte x1.toInt8.toInt32))))] := hD
  refine lv_iinc (v := 16) (lv' := [(2, .int 16), (0, .ref (a 1)), (1, .int p1)]) hx hb dX9_put_42 hl (k := 0) rfl (by decide) (by decide) rfl (fun ls hl => ?_)
  refine lv_goto (tgt := 3) hx hb dX9_put_45 (by decide) ?_
  refine lv_iload_n hx hb dX9_put_3 rfl (lv_at hl 0 rfl) ?_
  refine lv_if_lt (tgt := 48) hx hb dX9_put_4 (by decide) (fun h => absurd h (by decide)) (fun _ => ?_)
  refine lv_aload_n hx hb dX9_put_7 rfl (lv_at hl 1 rfl) ?_
  refine va_get (D := D) (ci := 9) (v := .int 13) (C := RX9) (T := TX9) (N := 8) hx hb hts i_X9 hown hK hP 0 rfl rfl 1 (by decide) (hts (.fieldLink RX9 15 "BellowsRow$Tape" "size" "I") (by decide +kernel)) (fun _ h9 => h9) rfl dX9_put_8 ?_
  refine lv_aload_n hx hb dX9_put_11 rfl (lv_at hl 1 rfl) ?_
  refine va_get (D := D) (ci := 9) (v := .ref (a 2)) (C := RX9) (T := TX9) (N := 8) hx hb hts i_X9 hown hK hP 0 rfl rfl 0 (by decide) (hts (.fieldLink RX9 9 "BellowsRow$Tape" "bytes" "[B") (by decide +kernel)) (fun _ h9 => h9) rfl dX9_put_12 ?_
  refine va_alen (v := 1600) hx hb hK hP 1 0 rfl rfl rfl dX9_put_15 ?_
  refine lv_icmp_ge (tgt := 48) hx hb dX9_put_16 (by decide) (fun h => absurd h (by decide)) (fun _ => ?_)
  refine lv_aload_n hx hb dX9_put_19 rfl (lv_at hl 1 rfl) ?_
  refine va_get (D := D) (ci := 9) (v := .ref (a 2)) (C := RX9) (T := TX9) (N := 8) hx hb hts i_X9 hown hK hP 0 rfl rfl 0 (by decide) (hts (.fieldLink RX9 9 "BellowsRow$Tape" "bytes" "[B") (by decide +kernel)) (fun _ h9 => h9) rfl dX9_put_20 ?_
  refine lv_aload_n hx hb dX9_put_23 rfl (lv_at hl 1 rfl) ?_
  refine va_get (D := D) (ci := 9) (v := .int 13) (C := RX9) (T := TX9) (N := 8) hx hb hts i_X9 hown hK hP 0 rfl rfl 1 (by decide) (hts (.fieldLink RX9 15 "BellowsRow$Tape" "size" "I") (by decide +kernel)) (fun _ h9 => h9) rfl dX9_put_24 ?_
  refine lv_iload_n hx hb dX9_put_27 rfl (lv_at hl 2 rfl) ?_
  refine lv_iload_n hx hb dX9_put_28 rfl (lv_at hl 0 rfl) ?_
  refine lv_ishr hx hb dX9_put_29 ?_
  refine lv_topi (fun x3 ex3 => ?_)
  refine lv_i2b hx hb dX9_put_30 rfl ?_
  refine va_bast hx hb hK hP hD hS 1 0 rfl rfl (vp_in_iff.mpr (by decide)) dX9_put_31 (fun H locs hP hD hS => ?_)
  have hP : va_P D vwCl [((a 1), .inr (9, [.ref (a 2), .int 13, .int 0, .int 0, .int (-1), .int 0, .int 0, .int 0])), ((a 2), .inl (k 0, 1600, .inl (upd (upd f 12 (vp_nar .byte x1.toInt8.toInt32)) 13 (vp_nar .byte x3.toInt8.toInt32))))] H := hP
  have hD : va_D A [((a 1), .inr (9, [.ref (a 2), .int 13, .int 0, .int 0, .int (-1), .int 0, .int 0, .int 0])), ((a 2), .inl (k 0, 1600, .inl (upd (upd f 12 (vp_nar .byte x1.toInt8.toInt32)) 13 (vp_nar .byte x3.toInt8.toInt32))))] := hD
  refine lv_aload_n hx hb dX9_put_32 rfl (lv_at hl 1 rfl) ?_
  refine lv_dup hx hb dX9_put_33 rfl ?_
  refine va_get (D := D) (ci := 9) (v := .int 13) (C := RX9) (T := TX9) (N := 8) hx hb hts i_X9 hown hK hP 0 rfl rfl 1 (by decide) (hts (.fieldLink RX9 15 "BellowsRow$Tape" "size" "I") (by decide +kernel)) (fun _ h9 => h9) rfl dX9_put_34 ?_
  refine lv_iconst (v := 1) hx hb dX9_put_37 (by decide) ?_
  refine lv_iadd hx hb dX9_put_38 ?_
  refine lv_topi (fun x4 ex4 => ?_)
  obtain rfl : x4 = 14 := ex4.trans (by decide)
  refine va_put (D := D) (ci := 9) (v := .int 14) (ty := .int) (C := RX9) (T := TX9) (N := 8) hx hb hts i_X9 tyX9 tyX9_ok nmX9 hown hK hP hD hS 0 rfl rfl 1 (by decide) (hts (.fieldLink RX9 15 "BellowsRow$Tape" "size" "I") (by decide +kernel)) (fun _ h9 => h9) rfl (by decide +kernel) rfl rfl (Nat.le_of_ble_eq_true rfl) dX9_put_39 (fun H locs hP hD hS => ?_)
  have hP : va_P D vwCl [((a 1), .inr (9, [.ref (a 2), .int 14, .int 0, .int 0, .int (-1), .int 0, .int 0, .int 0])), ((a 2), .inl (k 0, 1600, .inl (upd (upd f 12 (vp_nar .byte x1.toInt8.toInt32)) 13 (vp_nar .byte x3.toInt8.toInt32))))] H := hP
  have hD : va_D A [((a 1), .inr (9, [.ref (a 2), .int 14, .int 0, .int 0, .int (-1), .int 0, .int 0, .int 0])), ((a 2), .inl (k 0, 1600, .inl (upd (upd f 12 (vp_nar .byte x1.toInt8.toInt32)) 13 (vp_nar .byte x3.toInt8.toInt32))))] := hD
  refine lv_iinc (v := 8) (lv' := [(2, .int 8), (0, .ref (a 1)), (1, .int p1)]) hx hb dX9_put_42 hl (k := 0) rfl (by decide) (by decide) rfl (fun ls hl => ?_)
  refine lv_goto (tgt := 3) hx hb dX9_put_45 (by decide) ?_
  refine lv_iload_n hx hb dX9_put_3 rfl (lv_at hl 0 rfl) ?_
  refine lv_if_lt (tgt := 48) hx hb dX9_put_4 (by decide) (fun h => absurd h (by decide)) (fun _ => ?_)
  refine lv_aload_n hx hb dX9_put_7 rfl (lv_at hl 1 rfl) ?_
  refine va_get (D := D) (ci := 9) (v := .int 14) (C := RX9) (T := TX9) (N := 8) hx hb hts i_X9 hown hK hP 0 rfl rfl 1 (by decide) (hts (.fieldLink RX9 15 "BellowsRow$Tape" "size" "I") (by decide +kernel)) (fun _ h9 => h9) rfl dX9_put_8 ?_
  refine lv_aload_n hx hb dX9_put_11 rfl (lv_at hl 1 rfl) ?_
  refine va_get (D := D) (ci := 9) (v := .ref (a 2)) (C := RX9) (T := TX9) (N := 8) hx hb hts i_X9 hown hK hP 0 rfl rfl 0 (by decide) (hts (.fieldLink RX9 9 "BellowsRow$Tape" "bytes" "[B") (by decide +kernel)) (fun _ h9 => h9) rfl dX9_put_12 ?_
  refine va_alen (v := 1600) hx hb hK hP 1 0 rfl rfl rfl dX9_put_15 ?_
  refine lv_icmp_ge (tgt := 48) hx hb dX9_put_16 (by decide) (fun h => absurd h (by decide)) (fun _ => ?_)
  refine lv_aload_n hx hb dX9_put_19 rfl (lv_at hl 1 rfl) ?_
  refine va_get (D := D) (ci := 9) (v := .ref (a 2)) (C := RX9) (T := TX9) (N := 8) hx hb hts i_X9 hown hK hP 0 rfl rfl 0 (by decide) (hts (.fieldLink RX9 9 "BellowsRow$Tape" "bytes" "[B") (by decide +kernel)) (fun _ h9 => h9) rfl dX9_put_20 ?_
  refine lv_aload_n hx hb dX9_put_23 rfl (lv_at hl 1 rfl) ?_
  refine va_get (D := D) (ci := 9) (v := .int 14) (C := RX9) (T := TX9) (N := 8) hx hb hts i_X9 hown hK hP 0 rfl rfl 1 (by decide) (hts (.fieldLink RX9 15 "BellowsRow$Tape" "size" "I") (by decide +kernel)) (fun _ h9 => h9) rfl dX9_put_24 ?_
  refine lv_iload_n hx hb dX9_put_27 rfl (lv_at hl 2 rfl) ?_
  refine lv_iload_n hx hb dX9_put_28 rfl (lv_at hl 0 rfl) ?_
  refine lv_ishr hx hb dX9_put_29 ?_
  refine lv_topi (fun x5 ex5 => ?_)
  refine lv_i2b hx hb dX9_put_30 rfl ?_
  refine va_bast hx hb hK hP hD hS 1 0 rfl rfl (vp_in_iff.mpr (by decide)) dX9_put_31 (fun H locs hP hD hS => ?_)
  have hP : va_P D vwCl [((a 1), .inr (9, [.ref (a 2), .int 14, .int 0, .int 0, .int (-1), .int 0, .int 0, .int 0])), ((a 2), .inl (k 0, 1600, .inl (upd (upd (upd f 12 (vp_nar .byte x1.toInt8.toInt32)) 13 (vp_nar .byte x3.toInt8.toInt32)) 14 (vp_nar .byte x5.toInt8.toInt32))))] H := hP
  have hD : va_D A [((a 1), .inr (9, [.ref (a 2), .int 14, .int 0, .int 0, .int (-1), .int 0, .int 0, .int 0])), ((a 2), .inl (k 0, 1600, .inl (upd (upd (upd f 12 (vp_nar .byte x1.toInt8.toInt32)) 13 (vp_nar .byte x3.toInt8.toInt32)) 14 (vp_nar .byte x5.toInt8.toInt32))))] := hD
  refine lv_aload_n hx hb dX9_put_32 rfl (lv_at hl 1 rfl) ?_
  refine lv_dup hx hb dX9_put_33 rfl ?_
  refine va_get (D := D) (ci := 9) (v := .int 14) (C := RX9) (T := TX9) (N := 8) hx hb hts i_X9 hown hK hP 0 rfl rfl 1 (by decide) (hts (.fieldLink RX9 15 "BellowsRow$Tape" "size" "I") (by decide +kernel)) (fun _ h9 => h9) rfl dX9_put_34 ?_
  refine lv_iconst (v := 1) hx hb dX9_put_37 (by decide) ?_
  refine lv_iadd hx hb dX9_put_38 ?_
  refine lv_topi (fun x6 ex6 => ?_)
  obtain rfl : x6 = 15 := ex6.trans (by decide)
  refine va_put (D := D) (ci := 9) (v := .int 15) (ty := .int) (C := RX9) (T := TX9) (N := 8) hx hb hts i_X9 tyX9 tyX9_ok nmX9 hown hK hP hD hS 0 rfl rfl 1 (by decide) (hts (.fieldLink RX9 15 "BellowsRow$Tape" "size" "I") (by decide +kernel)) (fun _ h9 => h9) rfl (by decide +kernel) rfl rfl (Nat.le_of_ble_eq_true rfl) dX9_put_39 (fun H locs hP hD hS => ?_)
  have hP : va_P D vwCl [((a 1), .inr (9, [.ref (a 2), .int 15, .int 0, .int 0, .int (-1), .int 0, .int 0, .int 0])), ((a 2), .inl (k 0, 1600, .inl (upd (upd (upd f 12 (vp_nar .byte x1.toInt8.toInt32)) 13 (vp_nar .byte x3.toInt8.toInt32)) 14 (vp_nar .byte x5.toInt8.toInt32))))] H := hP
  have hD : va_D A [((a 1), .inr (9, [.ref (a 2), .int 15, .int 0, .int 0, .int (-1), .int 0, .int 0, .int 0])), ((a 2), .inl (k 0, 1600, .inl (upd (upd (upd f 12 (vp_nar .byte x1.toInt8.toInt32)) 13 (vp_nar .byte x3.toInt8.toInt32)) 14 (vp_nar .byte x5.toInt8.toInt32))))] := hD
  refine lv_iinc (v := 0) (lv' := [(2, .int 0), (0, .ref (a 1)), (1, .int p1)]) hx hb dX9_put_42 hl (k := 0) rfl (by decide) (by decide) rfl (fun ls hl => ?_)
  refine lv_goto (tgt := 3) hx hb dX9_put_45 (by decide) ?_
  refine lv_iload_n hx hb dX9_put_3 rfl (lv_at hl 0 rfl) ?_
  refine lv_if_lt (tgt := 48) hx hb dX9_put_4 (by decide) (fun h => absurd h (by decide)) (fun _ => ?_)
  refine lv_aload_n hx hb dX9_put_7 rfl (lv_at hl 1 rfl) ?_
  refine va_get (D := D) (ci := 9) (v := .int 15) (C := RX9) (T := TX9) (N := 8) hx hb hts i_X9 hown hK hP 0 rfl rfl 1 (by decide) (hts (.fieldLink RX9 15 "BellowsRow$Tape" "size" "I") (by decide +kernel)) (fun _ h9 => h9) rfl dX9_put_8 ?_
  refine lv_aload_n hx hb dX9_put_11 rfl (lv_at hl 1 rfl) ?_
  refine va_get (D := D) (ci := 9) (v := .ref (a 2)) (C := RX9) (T := TX9) (N := 8) hx hb hts i_X9 hown hK hP 0 rfl rfl 0 (by decide) (hts (.fieldLink RX9 9 "BellowsRow$Tape" "bytes" "[B") (by decide +kernel)) (fun _ h9 => h9) rfl dX9_put_12 ?_
  refine va_alen (v := 1600) hx hb hK hP 1 0 rfl rfl rfl dX9_put_15 ?_
  refine lv_icmp_ge (tgt := 48) hx hb dX9_put_16 (by decide) (fun h => absurd h (by decide)) (fun _ => ?_)
  refine lv_aload_n hx hb dX9_put_19 rfl (lv_at hl 1 rfl) ?_
  refine va_get (D := D) (ci := 9) (v := .ref (a 2)) (C := RX9) (T := TX9) (N := 8) hx hb hts i_X9 hown hK hP 0 rfl rfl 0 (by decide) (hts (.fieldLink RX9 9 "BellowsRow$Tape" "bytes" "[B") (by decide +kernel)) (fun _ h9 => h9) rfl dX9_put_20 ?_
  refine lv_aload_n hx hb dX9_put_23 rfl (lv_at hl 1 rfl) ?_
  refine va_get (D := D) (ci := 9) (v := .int 15) (C := RX9) (T := TX9) (N := 8) hx hb hts i_X9 hown hK hP 0 rfl rfl 1 (by decide) (hts (.fieldLink RX9 15 "BellowsRow$Tape" "size" "I") (by decide +kernel)) (fun _ h9 => h9) rfl dX9_put_24 ?_
  refine lv_iload_n hx hb dX9_put_27 rfl (lv_at hl 2 rfl) ?_
  refine lv_iload_n hx hb dX9_put_28 rfl (lv_at hl 0 rfl) ?_
  refine lv_ishr hx hb dX9_put_29 ?_
  refine lv_topi (fun x7 ex7 => ?_)
  refine lv_i2b hx hb dX9_put_30 rfl ?_
  refine va_bast hx hb hK hP hD hS 1 0 rfl rfl (vp_in_iff.mpr (by decide)) dX9_put_31 (fun H locs hP hD hS => ?_)
  have hP : va_P D vwCl [((a 1), .inr (9, [.ref (a 2), .int 15, .int 0, .int 0, .int (-1), .int 0, .int 0, .int 0])), ((a 2), .inl (k 0, 1600, .inl (upd (upd (upd (upd f 12 (vp_nar .byte x1.toInt8.toInt32)) 13 (vp_nar .byte x3.toInt8.toInt32)) 14 (vp_nar .byte x5.toInt8.toInt32)) 15 (vp_nar .byte x7.toInt8.toInt32))))] H := hP
  have hD : va_D A [((a 1), .inr (9, [.ref (a 2), .int 15, .int 0, .int 0, .int (-1), .int 0, .int 0, .int 0])), ((a 2), .inl (k 0, 1600, .inl (upd (upd (upd (upd f 12 (vp_nar .byte x1.toInt8.toInt32)) 13 (vp_nar .byte x3.toInt8.toInt32)) 14 (vp_nar .byte x5.toInt8.toInt32)) 15 (vp_nar .byte x7.toInt8.toInt32))))] := hD
  refine lv_aload_n hx hb dX9_put_32 rfl (lv_at hl 1 rfl) ?_
  refine lv_dup hx hb dX9_put_33 rfl ?_
  refine va_get (D := D) (ci := 9) (v := .int 15) (C := RX9) (T := TX9) (N := 8) hx hb hts i_X9 hown hK hP 0 rfl rfl 1 (by decide) (hts (.fieldLink RX9 15 "BellowsRow$Tape" "size" "I") (by decide +kernel)) (fun _ h9 => h9) rfl dX9_put_34 ?_
  refine lv_iconst (v := 1) hx hb dX9_put_37 (by decide) ?_
  refine lv_iadd hx hb dX9_put_38 ?_
  refine lv_topi (fun x8 ex8 => ?_)
  obtain rfl : x8 = 16 := ex8.trans (by decide)
  refine va_put (D := D) (ci := 9) (v := .int 16) (ty := .int) (C := RX9) (T := TX9) (N := 8) hx hb hts i_X9 tyX9 tyX9_ok nmX9 hown hK hP hD hS 0 rfl rfl 1 (by decide) (hts (.fieldLink RX9 15 "BellowsRow$Tape" "size" "I") (by decide +kernel)) (fun _ h9 => h9) rfl (by decide +kernel) rfl rfl (Nat.le_of_ble_eq_true rfl) dX9_put_39 (fun H locs hP hD hS => ?_)
  have hP : va_P D vwCl [((a 1), .inr (9, [.ref (a 2), .int 16, .int 0, .int 0, .int (-1), .int 0, .int 0, .int 0])), ((a 2), .inl (k 0, 1600, .inl (upd (upd (upd (upd f 12 (vp_nar .byte x1.toInt8.toInt32)) 13 (vp_nar .byte x3.toInt8.toInt32)) 14 (vp_nar .byte x5.toInt8.toInt32)) 15 (vp_nar .byte x7.toInt8.toInt32))))] H := hP
  have hD : va_D A [((a 1), .inr (9, [.ref (a 2), .int 16, .int 0, .int 0, .int (-1), .int 0, .int 0, .int 0])), ((a 2), .inl (k 0, 1600, .inl (upd (upd (upd (upd f 12 (vp_nar .byte x1.toInt8.toInt32)) 13 (vp_nar .byte x3.toInt8.toInt32)) 14 (vp_nar .byte x5.toInt8.toInt32)) 15 (vp_nar .byte x7.toInt8.toInt32))))] := hD
  refine lv_iinc (v := (-8)) (lv' := [(2, .int (-8)), (0, .ref (a 1)), (1, .int p1)]) hx hb dX9_put_42 hl (k := 0) rfl (by decide) (by decide) rfl (fun ls hl => ?_)
  refine lv_goto (tgt := 3) hx hb dX9_put_45 (by decide) ?_
  refine lv_iload_n hx hb dX9_put_3 rfl (lv_at hl 0 rfl) ?_
  refine lv_if_lt (tgt := 48) hx hb dX9_put_4 (by decide) (fun _ => ?_) (fun h => absurd (by decide) h)
  have hP9 := hP.sub (ws' := [((a 1), .inr (9, [.ref (a 2), .int 16, .int 0, .int 0, .int (-1), .int 0, .int 0, .int 0])), ((a 2), .inl (k 0, 1600, .inl (upd (upd (upd (upd f 12 (vp_nar .byte x1.toInt8.toInt32)) 13 (vp_nar .byte x3.toInt8.toInt32)) 14 (vp_nar .byte x5.toInt8.toInt32)) 15 (vp_nar .byte x7.toInt8.toInt32))))]) [0, 1] rfl
  have hD9 := hD.sub (ws' := [((a 1), .inr (9, [.ref (a 2), .int 16, .int 0, .int 0, .int (-1), .int 0, .int 0, .int 0])), ((a 2), .inl (k 0, 1600, .inl (upd (upd (upd (upd f 12 (vp_nar .byte x1.toInt8.toInt32)) 13 (vp_nar .byte x3.toInt8.toInt32)) 14 (vp_nar .byte x5.toInt8.toInt32)) 15 (vp_nar .byte x7.toInt8.toInt32))))]) [0, 1] (by decide) rfl
  refine W.widen (k := 0) (n := 0) (Nat.le_of_ble_eq_true rfl) (Nat.le_of_ble_eq_true rfl) ?_
  exact W.vret hx hb hr (fun t ht hW => ⟨⟨(upd (upd (upd (upd f 12 (vp_nar .byte x1.toInt8.toInt32)) 13 (vp_nar .byte x3.toInt8.toInt32)) 14 (vp_nar .byte x5.toInt8.toInt32)) 15 (vp_nar .byte x7.toInt8.toInt32)), rfl, trivial, by rw [ht]; exact hP9, hD9⟩, hS.F ht⟩) hS.2.2 dX9_put_48
set_option maxHeartbeats 4000000 in
set_option maxRecDepth 100000 in
theorem c_X9_put_16 (l : Launch) (D : va_G) (k : Nat → ClassId) (a : Nat → Nat) (f : Nat → Int32) (p1 : Int32) (sz : Nat) : Met l yX9_put wsX9_put ({ frames := 0, cells := 0, slots := 0, locals := 0 }) (PreM D k sz [((a 1), .inr (9, [.ref (a 2), .int 16, .int 0, .int 0, .int (-1), .int 0, .int 0, .int 0])), ((a 2), .inl (k 0, 1600, .inl f))] [.ref (a 1), .int p1]) (va_Qv (fun _ => True) (WB D (va_A [((a 1), .inr (9, [.ref (a 2), .int 16, .int 0, .int 0, .int (-1), .int 0, .int 0, .int 0])), ((a 2), .inl (k 0, 1600, .inl f))] sz) (fun u => [((a 1), .inr (9, [.ref (a 2), .int 20, .int 0, .int 0, .int (-1), .int 0, .int 0, .int 0])), ((a 2), .inl (k 0, 1600, .inl u))])) (va_A [((a 1), .inr (9, [.ref (a 2), .int 16, .int 0, .int 0, .int (-1), .int 0, .int 0, .int 0])), ((a 2), .inl (k 0, 1600, .inl f))] sz)) 0 0 (va_A [((a 1), .inr (9, [.ref (a 2), .int 16, .int 0, .int 0, .int (-1), .int 0, .int 0, .int 0])), ((a 2), .inl (k 0, 1600, .inl f))] sz) := by
  refine Met.ofW (cc := cX9_put) (maxL := 3) (ret := none) (by decide) rfl ?_
  intro p e s m args below meth c s₁ B hml hv
  obtain ⟨rfl, hsz, hP, hK, hD0, hN⟩ := hv
  have hx := B.exec
  have hb := B.bytes
  have hr := B.returns
  have hts := atoms_spec (ws := wsX9_put) B.pre
  have hown : s.vm.findClass RX9 = some m.cls := findClass_of_methodNamed B.named
  have hlocks := B.notSynchronized
  have i_X9 : ∀ w ∈ wsX90, w ∈ wsX9_put := by decide +kernel
  subst hsz
  have hD := hD0.self (sz := s.heap.size)
  generalize hAe : va_A [((a 1), .inr (9, [.ref (a 2), .int 16, .int 0, .int 0, .int (-1), .int 0, .int 0, .int 0])), ((a 2), .inl (k 0, 1600, .inl f))] s.heap.size = A at hD ⊢
  have hA : ∀ q : Nat, s.heap.size ≤ q → A q := fun q h => by rw [← hAe]; exact Or.inr h
  have hS : va_S A s.heap s.heap [] := va_S.rf
  have hP : va_P D vwCl [((a 1), .inr (9, [.ref (a 2), .int 16, .int 0, .int 0, .int (-1), .int 0, .int 0, .int 0])), ((a 2), .inl (k 0, 1600, .inl f))] s.heap := hP
  have hl := lv_entry ([.ref (a 1), .int p1]) (n := 3) (Nat.le_of_ble_eq_true rfl)
  rw [lg_entry_eq]
  generalize (lg_sl ([.ref (a 1), .int p1]) ++ List.replicate (3 - (lg_sl ([.ref (a 1), .int p1])).length) Slot.unset).toArray = ls at hl ⊢
  have hl : lv_has ls 3 [(0, .ref (a 1)), (1, .int p1)] := hl
  refine lv_bipush (v := 24) hx hb dX9_put_0 (by decide) ?_
  refine lv_istore_n (lv' := [(2, .int 24), (0, .ref (a 1)), (1, .int p1)]) hx hb dX9_put_2 rfl hl (by decide) rfl (fun ls hl => ?_)
  refine lv_iload_n hx hb dX9_put_3 rfl (lv_at hl 0 rfl) ?_
  refine lv_if_lt (tgt := 48) hx hb dX9_put_4 (by decide) (fun h => absurd h (by decide)) (fun _ => ?_)
  refine lv_aload_n hx hb dX9_put_7 rfl (lv_at hl 1 rfl) ?_
  refine va_get (D := D) (ci := 9) (v := .int 16) (C := RX9) (T := TX9) (N := 8) hx hb hts i_X9 hown hK hP 0 rfl rfl 1 (by decide) (hts (.fieldLink RX9 15 "BellowsRow$Tape" "size" "I") (by decide +kernel)) (fun _ h9 => h9) rfl dX9_put_8 ?_
  refine lv_aload_n hx hb dX9_put_11 rfl (lv_at hl 1 rfl) ?_
  refine va_get (D := D) (ci := 9) (v := .ref (a 2)) (C := RX9) (T := TX9) (N := 8) hx hb hts i_X9 hown hK hP 0 rfl rfl 0 (by decide) (hts (.fieldLink RX9 9 "BellowsRow$Tape" "bytes" "[B") (by decide +kernel)) (fun _ h9 => h9) rfl dX9_put_12 ?_
  refine va_alen (v := 1600) hx hb hK hP 1 0 rfl rfl rfl dX9_put_15 ?_
  refine lv_icmp_ge (tgt := 48) hx hb dX9_put_16 (by decide) (fun h => absurd h (by decide)) (fun _ => ?_)
  refine lv_aload_n hx hb dX9_put_19 rfl (lv_at hl 1 rfl) ?_
  refine va_get (D := D) (ci := 9) (v := .ref (a 2)) (C := RX9) (T := TX9) (N := 8) hx hb hts i_X9 hown hK hP 0 rfl rfl 0 (by decide) (hts (.fieldLink RX9 9 "BellowsRow$Tape" "bytes" "[B") (by decide +kernel)) (fun _ h9 => h9) rfl dX9_put_20 ?_
  refine lv_aload_n hx hb dX9_put_23 rfl (lv_at hl 1 rfl) ?_
  refine va_get (D := D) (ci := 9) (v := .int 16) (C := RX9) (T := TX9) (N := 8) hx hb hts i_X9 hown hK hP 0 rfl rfl 1 (by decide) (hts (.fieldLink RX9 15 "BellowsRow$Tape" "size" "I") (by decide +kernel)) (fun _ h9 => h9) rfl dX9_put_24 ?_
  refine lv_iload_n hx hb dX9_put_27 rfl (lv_at hl 2 rfl) ?_
  refine lv_iload_n hx hb dX9_put_28 rfl (lv_at hl 0 rfl) ?_
  refine lv_ishr hx hb dX9_put_29 ?_
  refine lv_topi (fun x1 ex1 => ?_)
  refine lv_i2b hx hb dX9_put_30 rfl ?_
  refine va_bast hx hb hK hP hD hS 1 0 rfl rfl (vp_in_iff.mpr (by decide)) dX9_put_31 (fun H locs hP hD hS => ?_)
  have hP : va_P D vwCl [((a 1), .inr (9, [.ref (a 2), .int 16, .int 0, .int 0, .int (-1), .int 0, .int 0, .int 0])), ((a 2), .inl (k 0, 1600, .inl (upd f 16 (vp_nar .byte x1.toInt8.toInt32))))] H := hP
  have hD : va_D A [((a 1), .inr (9, [.ref (a 2), .int 16, .int 0, .int 0, .int (-1), .int 0, .int 0, .int 0])), ((a 2), .inl (k 0, 1600, .inl (upd f 16 (vp_nar .byte x1.toInt8.toInt32))))] := hD
  refine lv_aload_n hx hb dX9_put_32 rfl (lv_at hl 1 rfl) ?_
  refine lv_dup hx hb dX9_put_33 rfl ?_
  refine va_get (D := D) (ci := 9) (v := .int 16) (C := RX9) (T := TX9) (N := 8) hx hb hts i_X9 hown hK hP 0 rfl rfl 1 (by decide) (hts (.fieldLink RX9 15 "BellowsRow$Tape" "size" "I") (by decide +kernel)) (fun _ h9 => h9) rfl dX9_put_34 ?_
  refine lv_iconst (v := 1) hx hb dX9_put_37 (by decide) ?_
  refine lv_iadd hx hb dX9_put_38 ?_
  refine lv_topi (fun x2 ex2 => ?_)
  obtain rfl : x2 = 17 := ex2.trans (by decide)
  refine va_put (D := D) (ci := 9) (v := .int 17) (ty := .int) (C := RX9) (T := TX9) (N := 8) hx hb hts i_X9 tyX9 tyX9_ok nmX9 hown hK hP hD hS 0 rfl rfl 1 (by decide) (hts (.fieldLink RX9 15 "BellowsRow$Tape" "size" "I") (by decide +kernel)) (fun _ h9 => h9) rfl (by decide +kernel) rfl rfl (Nat.le_of_ble_eq_true rfl) dX9_put_39 (fun H locs hP hD hS => ?_)
  have hP : va_P D vwCl [((a 1), .inr (9, [.ref (a 2), .int 17, .int 0, .int 0, .int (-1), .int 0, .int 0, .int 0])), ((a 2), .inl (k 0, 1600, .inl (upd f 16 (vp_nar .byte x1.toInt8.toInt32))))] H := hP
  have hD : va_D A [((a 1), .inr (9, [.ref (a 2), .int 17, .int 0, .int 0, .int (-1), .int 0, .int 0, .int 0])), ((a 2), .inl (k 0, 1600, .inl (upd f 16 (vp_nar .byte x1.toInt8.toInt32))))] := hD
  refine lv_iinc (v := 16) (lv' := [(2, .int 16), (0, .ref (a 1)), (1, .int p1)]) hx hb dX9_put_42 hl (k := 0) rfl (by decide) (by decide) rfl (fun ls hl => ?_)
  refine lv_goto (tgt := 3) hx hb dX9_put_45 (by decide) ?_
  refine lv_iload_n hx hb dX9_put_3 rfl (lv_at hl 0 rfl) ?_
  refine lv_if_lt (tgt := 48) hx hb dX9_put_4 (by decide) (fun h => absurd h (by decide)) (fun _ => ?_)
  refine lv_aload_n hx hb dX9_put_7 rfl (lv_at hl 1 rfl) ?_
  refine va_get (D := D) (ci := 9) (v := .int 17) (C := RX9) (T := TX9) (N := 8) hx hb hts i_X9 hown hK hP 0 rfl rfl 1 (by decide) (hts (.fieldLink RX9 15 "BellowsRow$Tape" "size" "I") (by decide +kernel)) (fun _ h9 => h9) rfl dX9_put_8 ?_
  refine lv_aload_n hx hb dX9_put_11 rfl (lv_at hl 1 rfl) ?_
  refine va_get (D := D) (ci := 9) (v := .ref (a 2)) (C := RX9) (T := TX9) (N := 8) hx hb hts i_X9 hown hK hP 0 rfl rfl 0 (by decide) (hts (.fieldLink RX9 9 "BellowsRow$Tape" "bytes" "[B") (by decide +kernel)) (fun _ h9 => h9) rfl dX9_put_12 ?_
  refine va_alen (v := 1600) hx hb hK hP 1 0 rfl rfl rfl dX9_put_15 ?_
  refine lv_icmp_ge (tgt := 48) hx hb dX9_put_16 (by decide) (fun h => absurd h (by decide)) (fun _ => ?_)
  refine lv_aload_n hx hb dX9_put_19 rfl (lv_at hl 1 rfl) ?_
  refine va_get (D := D) (ci := 9) (v := .ref (a 2)) (C := RX9) (T := TX9) (N := 8) hx hb hts i_X9 hown hK hP 0 rfl rfl 0 (by decide) (hts (.fieldLink RX9 9 "BellowsRow$Tape" "bytes" "[B") (by decide +kernel)) (fun _ h9 => h9) rfl dX9_put_20 ?_
  refine lv_aload_n hx hb dX9_put_23 rfl (lv_at hl 1 rfl) ?_
  refine va_get (D := D) (ci := 9) (v := .int 17) (C := RX9) (T := TX9) (N := 8) hx hb hts i_X9 hown hK hP 0 rfl rfl 1 (by decide) (hts (.fieldLink RX9 15 "BellowsRow$Tape" "size" "I") (by decide +kernel)) (fun _ h9 => h9) rfl dX9_put_24 ?_
  refine lv_iload_n hx hb dX9_put_27 rfl (lv_at hl 2 rfl) ?_
  refine lv_iload_n hx hb dX9_put_28 rfl (lv_at hl 0 rfl) ?_
  refine lv_ishr hx hb dX9_put_29 ?_
  refine lv_topi (fun x3 ex3 => ?_)
  refine lv_i2b hx hb dX9_put_30 rfl ?_
  refine va_bast hx hb hK hP hD hS 1 0 rfl rfl (vp_in_iff.mpr (by decide)) dX9_put_31 (fun H locs hP hD hS => ?_)
  have hP : va_P D vwCl [((a 1), .inr (9, [.ref (a 2), .int 17, .int 0, .int 0, .int (-1), .int 0, .int 0, .int 0])), ((a 2), .inl (k 0, 1600, .inl (upd (upd f 16 (vp_nar .byte x1.toInt8.toInt32)) 17 (vp_nar .byte x3.toInt8.toInt32))))] H := hP
  have hD : va_D A [((a 1), .inr (9, [.ref (a 2), .int 17, .int 0, .int 0, .int (-1), .int 0, .int 0, .int 0])), ((a 2), .inl (k 0, 1600, .inl (upd (upd f 16 (vp_nar .byte x1.toInt8.toInt32)) 17 (vp_nar .byte x3.toInt8.toInt32))))] := hD
  refine lv_aload_n hx hb dX9_put_32 rfl (lv_at hl 1 rfl) ?_
  refine lv_dup hx hb dX9_put_33 rfl ?_
  refine va_get (D := D) (ci := 9) (v := .int 17) (C := RX9) (T := TX9) (N := 8) hx hb hts i_X9 hown hK hP 0 rfl rfl 1 (by decide) (hts (.fieldLink RX9 15 "BellowsRow$Tape" "size" "I") (by decide +kernel)) (fun _ h9 => h9) rfl dX9_put_34 ?_
  refine lv_iconst (v := 1) hx hb dX9_put_37 (by decide) ?_
  refine lv_iadd hx hb dX9_put_38 ?_
  refine lv_topi (fun x4 ex4 => ?_)
  obtain rfl : x4 = 18 := ex4.trans (by decide)
  refine va_put (D := D) (ci := 9) (v := .int 18) (ty := .int) (C := RX9) (T := TX9) (N := 8) hx hb hts i_X9 tyX9 tyX9_ok nmX9 hown hK hP hD hS 0 rfl rfl 1 (by decide) (hts (.fieldLink RX9 15 "BellowsRow$Tape" "size" "I") (by decide +kernel)) (fun _ h9 => h9) rfl (by decide +kernel) rfl rfl (Nat.le_of_ble_eq_true rfl) dX9_put_39 (fun H locs hP hD hS => ?_)
  have hP : va_P D vwCl [((a 1), .inr (9, [.ref (a 2), .int 18, .int 0, .int 0, .int (-1), .int 0, .int 0, .int 0])), ((a 2), .inl (k 0, 1600, .inl (upd (upd f 16 (vp_nar .byte x1.toInt8.toInt32)) 17 (vp_nar .byte x3.toInt8.toInt32))))] H := hP
  have hD : va_D A [((a 1), .inr (9, [.ref (a 2), .int 18, .int 0, .int 0, .int (-1), .int 0, .int 0, .int 0])), ((a 2), .inl (k 0, 1600, .inl (upd (upd f 16 (vp_nar .byte x1.toInt8.toInt32)) 17 (vp_nar .byte x3.toInt8.toInt32))))] := hD
  refine lv_iinc (v := 8) (lv' := [(2, .int 8), (0, .ref (a 1)), (1, .int p1)]) hx hb dX9_put_42 hl (k := 0) rfl (by decide) (by decide) rfl (fun ls hl => ?_)
  refine lv_goto (tgt := 3) hx hb dX9_put_45 (by decide) ?_
  refine lv_iload_n hx hb dX9_put_3 rfl (lv_at hl 0 rfl) ?_
  refine lv_if_lt (tgt := 48) hx hb dX9_put_4 (by decide) (fun h => absurd h (by decide)) (fun _ => ?_)
  refine lv_aload_n hx hb dX9_put_7 rfl (lv_at hl 1 rfl) ?_
  refine va_get (D := D) (ci := 9) (v := .int 18) (C := RX9) (T := TX9) (N := 8) hx hb hts i_X9 hown hK hP 0 rfl rfl 1 (by decide) (hts (.fieldLink RX9 15 "BellowsRow$Tape" "size" "I") (by decide +kernel)) (fun _ h9 => h9) rfl dX9_put_8 ?_
  refine lv_aload_n hx hb dX9_put_11 rfl (lv_at hl 1 rfl) ?_
  refine va_get (D := D) (ci := 9) (v := .ref (a 2)) (C := RX9) (T := TX9) (N := 8) hx hb hts i_X9 hown hK hP 0 rfl rfl 0 (by decide) (hts (.fieldLink RX9 9 "BellowsRow$Tape" "bytes" "[B") (by decide +kernel)) (fun _ h9 => h9) rfl dX9_put_12 ?_
  refine va_alen (v := 1600) hx hb hK hP 1 0 rfl rfl rfl dX9_put_15 ?_
  refine lv_icmp_ge (tgt := 48) hx hb dX9_put_16 (by decide) (fun h => absurd h (by decide)) (fun _ => ?_)
  refine lv_aload_n hx hb dX9_put_19 rfl (lv_at hl 1 rfl) ?_
  refine va_get (D := D) (ci := 9) (v := .ref (a 2)) (C := RX9) (T := TX9) (N := 8) hx hb hts i_X9 hown hK hP 0 rfl rfl 0 (by decide) (hts (.fieldLink RX9 9 "BellowsRow$Tape" "bytes" "[B") (by decide +kernel)) (fun _ h9 => h9) rfl dX9_put_20 ?_
  refine lv_aload_n hx hb dX9_put_23 rfl (lv_at hl 1 rfl) ?_
  refine va_get (D := D) (ci := 9) (v := .int 18) (C := RX9) (T := TX9) (N := 8) hx hb hts i_X9 hown hK hP 0 rfl rfl 1 (by decide) (hts (.fieldLink RX9 15 "BellowsRow$Tape" "size" "I") (by decide +kernel)) (fun _ h9 => h9) rfl dX9_put_24 ?_
  refine lv_iload_n hx hb dX9_put_27 rfl (lv_at hl 2 rfl) ?_
  refine lv_iload_n hx hb dX9_put_28 rfl (lv_at hl 0 rfl) ?_
  refine lv_ishr hx hb dX9_put_29 ?_
  refine lv_topi (fun x5 ex5 => ?_)
  refine lv_i2b hx hb dX9_put_30 rfl ?_
  refine va_bast hx hb hK hP hD hS 1 0 rfl rfl (vp_in_iff.mpr (by decide)) dX9_put_31 (fun H locs hP hD hS => ?_)
  have hP : va_P D vwCl [((a 1), .inr (9, [.ref (a 2), .int 18, .int 0, .int 0, .int (-1), .int 0, .int 0, .int 0])), ((a 2), .inl (k 0, 1600, .inl (upd (upd (upd f 16 (vp_nar .byte x1.toInt8.toInt32)) 17 (vp_nar .byte x3.toInt8.toInt32)) 18 (vp_nar .byte x5.toInt8.toInt32))))] H := hP
  have hD : va_D A [((a 1), .inr (9, [.ref (a 2), .int 18, .int 0, .int 0, .int (-1), .int 0, .int 0, .int 0])), ((a 2), .inl (k 0, 1600, .inl (upd (upd (upd f 16 (vp_nar .byte x1.toInt8.toInt32)) 17 (vp_nar .byte x3.toInt8.toInt32)) 18 (vp_nar .byte x5.toInt8.toInt32))))] := hD
  refine lv_aload_n hx hb dX9_put_32 rfl (lv_at hl 1 rfl) ?_
  refine lv_dup hx hb dX9_put_33 rfl ?_
  refine va_get (D := D) (ci := 9) (v := .int 18) (C := RX9) (T := TX9) (N := 8) hx hb hts i_X9 hown hK hP 0 rfl rfl 1 (by decide) (hts (.fieldLink RX9 15 "BellowsRow$Tape" "size" "I") (by decide +kernel)) (fun _ h9 => h9) rfl dX9_put_34 ?_
  refine lv_iconst (v := 1) hx hb dX9_put_37 (by decide) ?_
  refine lv_iadd hx hb dX9_put_38 ?_
  refine lv_topi (fun x6 ex6 => ?_)
  obtain rfl : x6 = 19 := ex6.trans (by decide)
  refine va_put (D := D) (ci := 9) (v := .int 19) (ty := .int) (C := RX9) (T := TX9) (N := 8) hx hb hts i_X9 tyX9 tyX9_ok nmX9 hown hK hP hD hS 0 rfl rfl 1 (by decide) (hts (.fieldLink RX9 15 "BellowsRow$Tape" "size" "I") (by decide +kernel)) (fun _ h9 => h9) rfl (by decide +kernel) rfl rfl (Nat.le_of_ble_eq_true rfl) dX9_put_39 (fun H locs hP hD hS => ?_)
  have hP : va_P D vwCl [((a 1), .inr (9, [.ref (a 2), .int 19, .int 0, .int 0, .int (-1), .int 0, .int 0, .int 0])), ((a 2), .inl (k 0, 1600, .inl (upd (upd (upd f 16 (vp_nar .byte x1.toInt8.toInt32)) 17 (vp_nar .byte x3.toInt8.toInt32)) 18 (vp_nar .byte x5.toInt8.toInt32))))] H := hP
  have hD : va_D A [((a 1), .inr (9, [.ref (a 2), .int 19, .int 0, .int 0, .int (-1), .int 0, .int 0, .int 0])), ((a 2), .inl (k 0, 1600, .inl (upd (upd (upd f 16 (vp_nar .byte x1.toInt8.toInt32)) 17 (vp_nar .byte x3.toInt8.toInt32)) 18 (vp_nar .byte x5.toInt8.toInt32))))] := hD
  refine lv_iinc (v := 0) (lv' := [(2, .int 0), (0, .ref (a 1)), (1, .int p1)]) hx hb dX9_put_42 hl (k := 0) rfl (by decide) (by decide) rfl (fun ls hl => ?_)
  refine lv_goto (tgt := 3) hx hb dX9_put_45 (by decide) ?_
  refine lv_iload_n hx hb dX9_put_3 rfl (lv_at hl 0 rfl) ?_
  refine lv_if_lt (tgt := 48) hx hb dX9_put_4 (by decide) (fun h => absurd h (by decide)) (fun _ => ?_)
  refine lv_aload_n hx hb dX9_put_7 rfl (lv_at hl 1 rfl) ?_
  refine va_get (D := D) (ci := 9) (v := .int 19) (C := RX9) (T := TX9) (N := 8) hx hb hts i_X9 hown hK hP 0 rfl rfl 1 (by decide) (hts (.fieldLink RX9 15 "BellowsRow$Tape" "size" "I") (by decide +kernel)) (fun _ h9 => h9) rfl dX9_put_8 ?_
  refine lv_aload_n hx hb dX9_put_11 rfl (lv_at hl 1 rfl) ?_
  refine va_get (D := D) (ci := 9) (v := .ref (a 2)) (C := RX9) (T := TX9) (N := 8) hx hb hts i_X9 hown hK hP 0 rfl rfl 0 (by decide) (hts (.fieldLink RX9 9 "BellowsRow$Tape" "bytes" "[B") (by decide +kernel)) (fun _ h9 => h9) rfl dX9_put_12 ?_
  refine va_alen (v := 1600) hx hb hK hP 1 0 rfl rfl rfl dX9_put_15 ?_
  refine lv_icmp_ge (tgt := 48) hx hb dX9_put_16 (by decide) (fun h => absurd h (by decide)) (fun _ => ?_)
  refine lv_aload_n hx hb dX9_put_19 rfl (lv_at hl 1 rfl) ?_
  refine va_get (D := D) (ci := 9) (v := .ref (a 2)) (C := RX9) (T := TX9) (N := 8) hx hb hts i_X9 hown hK hP 0 rfl rfl 0 (by decide) (hts (.fieldLink RX9 9 "BellowsRow$Tape" "bytes" "[B") (by decide +kernel)) (fun _ h9 => h9) rfl dX9_put_20 ?_
  refine lv_aload_n hx hb dX9_put_23 rfl (lv_at hl 1 rfl) ?_
  refine va_get (D := D) (ci := 9) (v := .int 19) (C := RX9) (T := TX9) (N := 8) hx hb hts i_X9 hown hK hP 0 rfl rfl 1 (by decide) (hts (.fieldLink RX9 15 "BellowsRow$Tape" "size" "I") (by decide +kernel)) (fun _ h9 => h9) rfl dX9_put_24 ?_
  refine lv_iload_n hx hb dX9_put_27 rfl (lv_at hl 2 rfl) ?_
  refine lv_iload_n hx hb dX9_put_28 rfl (lv_at hl 0 rfl) ?_
  refine lv_ishr hx hb dX9_put_29 ?_
  refine lv_topi (fun x7 ex7 => ?_)
  refine lv_i2b hx hb dX9_put_30 rfl ?_
  refine va_bast hx hb hK hP hD hS 1 0 rfl rfl (vp_in_iff.mpr (by decide)) dX9_put_31 (fun H locs hP hD hS => ?_)
  have hP : va_P D vwCl [((a 1), .inr (9, [.ref (a 2), .int 19, .int 0, .int 0, .int (-1), .int 0, .int 0, .int 0])), ((a 2), .inl (k 0, 1600, .inl (upd (upd (upd (upd f 16 (vp_nar .byte x1.toInt8.toInt32)) 17 (vp_nar .byte x3.toInt8.toInt32)) 18 (vp_nar .byte x5.toInt8.toInt32)) 19 (vp_nar .byte x7.toInt8.toInt32))))] H := hP
  have hD : va_D A [((a 1), .inr (9, [.ref (a 2), .int 19, .int 0, .int 0, .int (-1), .int 0, .int 0, .int 0])), ((a 2), .inl (k 0, 1600, .inl (upd (upd (upd (upd f 16 (vp_nar .byte x1.toInt8.toInt32)) 17 (vp_nar .byte x3.toInt8.toInt32)) 18 (vp_nar .byte x5.toInt8.toInt32)) 19 (vp_nar .byte x7.toInt8.toInt32))))] := hD
  refine lv_aload_n hx hb dX9_put_32 rfl (lv_at hl 1 rfl) ?_
  refine lv_dup hx hb dX9_put_33 rfl ?_
  refine va_get (D := D) (ci := 9) (v := .int 19) (C := RX9) (T := TX9) (N := 8) hx hb hts i_X9 hown hK hP 0 rfl rfl 1 (by decide) (hts (.fieldLink RX9 15 "BellowsRow$Tape" "size" "I") (by decide +kernel)) (fun _ h9 => h9) rfl dX9_put_34 ?_
  refine lv_iconst (v := 1) hx hb dX9_put_37 (by decide) ?_
  refine lv_iadd hx hb dX9_put_38 ?_
  refine lv_topi (fun x8 ex8 => ?_)
  obtain rfl : x8 = 20 := ex8.trans (by decide)
  refine va_put (D := D) (ci := 9) (v := .int 20) (ty := .int) (C := RX9) (T := TX9) (N := 8) hx hb hts i_X9 tyX9 tyX9_ok nmX9 hown hK hP hD hS 0 rfl rfl 1 (by decide) (hts (.fieldLink RX9 15 "BellowsRow$Tape" "size" "I") (by decide +kernel)) (fun _ h9 => h9) rfl (by decide +kernel) rfl rfl (Nat.le_of_ble_eq_true rfl) dX9_put_39 (fun H locs hP hD hS => ?_)
  have hP : va_P D vwCl [((a 1), .inr (9, [.ref (a 2), .int 20, .int 0, .int 0, .int (-1), .int 0, .int 0, .int 0])), ((a 2), .inl (k 0, 1600, .inl (upd (upd (upd (upd f 16 (vp_nar .byte x1.toInt8.toInt32)) 17 (vp_nar .byte x3.toInt8.toInt32)) 18 (vp_nar .byte x5.toInt8.toInt32)) 19 (vp_nar .byte x7.toInt8.toInt32))))] H := hP
  have hD : va_D A [((a 1), .inr (9, [.ref (a 2), .int 20, .int 0, .int 0, .int (-1), .int 0, .int 0, .int 0])), ((a 2), .inl (k 0, 1600, .inl (upd (upd (upd (upd f 16 (vp_nar .byte x1.toInt8.toInt32)) 17 (vp_nar .byte x3.toInt8.toInt32)) 18 (vp_nar .byte x5.toInt8.toInt32)) 19 (vp_nar .byte x7.toInt8.toInt32))))] := hD
  refine lv_iinc (v := (-8)) (lv' := [(2, .int (-8)), (0, .ref (a 1)), (1, .int p1)]) hx hb dX9_put_42 hl (k := 0) rfl (by decide) (by decide) rfl (fun ls hl => ?_)
  refine lv_goto (tgt := 3) hx hb dX9_put_45 (by decide) ?_
  refine lv_iload_n hx hb dX9_put_3 rfl (lv_at hl 0 rfl) ?_
  refine lv_if_lt (tgt := 48) hx hb dX9_put_4 (by decide) (fun _ => ?_) (fun h => absurd (by decide) h)
  have hP9 := hP.sub (ws' := [((a 1), .inr (9, [.ref (a 2), .int 20, .int 0, .int 0, .int (-1), .int 0, .int 0, .int 0])), ((a 2), .inl (k 0, 1600, .inl (upd (upd (upd (upd f 16 (vp_nar .byte x1.toInt8.toInt32)) 17 (vp_nar .byte x3.toInt8.toInt32)) 18 (vp_nar .byte x5.toInt8.toInt32)) 19 (vp_nar .byte x7.toInt8.toInt32))))]) [0, 1] rfl
  have hD9 := hD.sub (ws' := [((a 1), .inr (9, [.ref (a 2), .int 20, .int 0, .int 0, .int (-1), .int 0, .int 0, .int 0])), ((a 2), .inl (k 0, 1600, .inl (upd (upd (upd (upd f 16 (vp_nar .byte x1.toInt8.toInt32)) 17 (vp_nar .byte x3.toInt8.toInt32)) 18 (vp_nar .byte x5.toInt8.toInt32)) 19 (vp_nar .byte x7.toInt8.toInt32))))]) [0, 1] (by decide) rfl
  refine W.widen (k := 0) (n := 0) (Nat.le_of_ble_eq_true rfl) (Nat.le_of_ble_eq_true rfl) ?_
  exact W.vret hx hb hr (fun t ht hW => ⟨⟨(upd (upd (upd (upd f 16 (vp_nar .byte x1.toInt8.toInt32)) 17 (vp_nar .byte x3.toInt8.toInt32)) 18 (vp_nar .byte x5.toInt8.toInt32)) 19 (vp_nar .byte x7.toInt8.toInt32)), rfl, trivial, by rw [ht]; exact hP9, hD9⟩, hS.F ht⟩) hS.2.2 dX9_put_48
set_option maxHeartbeats 4000000 in
set_option maxRecDepth 100000 in
theorem c_X11_feed (l : Launch) (D : va_G) (k : Nat → ClassId) (a : Nat → Nat) (p1 : Int32) (p2 : Int32) (p3 : Int32) (p4 : Int32) (p5 : Int32) (sz : Nat) : Met l yX11_feed wsX11_feed ({ frames := 1, cells := 0, slots := 0, locals := 22 }) (PreM D k sz [e0 k a, e1 k a, e2 k a] [.ref (a 0), .int p1, .int p2, .int p3, .int p4, .int p5]) (va_Qi (fun r (_ : Unit) => r = 20) (WB D (va_A [e0 k a, e1 k a, e2 k a] sz) (fun (_ : Unit) => ([] : va_W))) (va_A [e0 k a, e1 k a, e2 k a] sz)) 0 0 (va_A [e0 k a, e1 k a, e2 k a] sz) := by
  refine Met.ofW (cc := cX11_feed) (maxL := 6) (ret := (some .int)) (by decide) rfl ?_
  intro p e s m args below meth c s₁ B hml hv
  obtain ⟨rfl, hsz, hP, hK, hD0, hN⟩ := hv
  have hx := B.exec
  have hb := B.bytes
  have hr := B.returns
  have hts := atoms_spec (ws := wsX11_feed) B.pre
  have hown : s.vm.findClass RX11 = some m.cls := findClass_of_methodNamed B.named
  have hlocks := B.notSynchronized
  have i_X11 : ∀ w ∈ wsX110, w ∈ wsX11_feed := by decide +kernel
  have i_X9 : ∀ w ∈ wsX90, w ∈ wsX11_feed := by decide +kernel
  subst hsz
  have hD := hD0.self (sz := s.heap.size)
  generalize hAe : va_A [e0 k a, e1 k a, e2 k a] s.heap.size = A at hD ⊢
  have hA : ∀ q : Nat, s.heap.size ≤ q → A q := fun q h => by rw [← hAe]; exact Or.inr h
  have hS : va_S A s.heap s.heap [] := va_S.rf
  have hP : va_P D vwCl [e0 k a, e1 k a, e2 k a] s.heap := hP
  have hl := lv_entry ([.ref (a 0), .int p1, .int p2, .int p3, .int p4, .int p5]) (n := 6) (Nat.le_of_ble_eq_true rfl)
  rw [lg_entry_eq]
  generalize (lg_sl ([.ref (a 0), .int p1, .int p2, .int p3, .int p4, .int p5]) ++ List.replicate (6 - (lg_sl ([.ref (a 0), .int p1, .int p2, .int p3, .int p4, .int p5])).length) Slot.unset).toArray = ls at hl ⊢
  have hl : lv_has ls 6 [(0, .ref (a 0)), (1, .int p1), (2, .int p2), (3, .int p3), (4, .int p4), (5, .int p5)] := hl
  refine lv_aload_n hx hb dX11_feed_0 rfl (lv_at hl 0 rfl) ?_
  refine va_get (D := D) (ci := 11) (v := .ref (a 1)) (C := RX11) (T := TX11) (N := 11) hx hb hts i_X11 hown hK hP 0 rfl rfl 0 (by decide) (hts (.fieldLink RX11 10 "BellowsRow" "tape" "LBellowsRow$Tape;") (by decide +kernel)) (fun _ h9 => h9) rfl dX11_feed_1 ?_
  refine lv_bipush (v := 20) hx hb dX11_feed_4 (by decide) ?_
  refine pvi (C := RX9) (As := [.int 20]) (rest := []) (wc := [e1 k a, e2 k a]) ⟨hx, hb, hml, hown, hts⟩ (c_X9_hasSpace l D k a) (cwV 1 hts gX11_feed_X9_hasSpace rfl rfl rfl (by decide +kernel) ⟨Nat.le_of_ble_eq_true rfl, Nat.le_of_ble_eq_true rfl⟩) hP hK [1, 2] rfl 1 rfl rfl rfl rfl hl.1 rfl (Nat.le_of_ble_eq_true rfl) dX11_feed_6 ⟨Nat.le_of_ble_eq_true rfl, Nat.le_of_ble_eq_true rfl⟩ (fun r1 hr1 => ?_)
  obtain rfl := hr1
  refine lv_if_ne (tgt := 14) hx hb dX11_feed_9 (by decide) (fun _ => ?_) (fun h => absurd h (by decide))
  refine lv_aload_n hx hb dX11_feed_14 rfl (lv_at hl 0 rfl) ?_
  refine va_get (D := D) (ci := 11) (v := .ref (a 1)) (C := RX11) (T := TX11) (N := 11) hx hb hts i_X11 hown hK hP 0 rfl rfl 0 (by decide) (hts (.fieldLink RX11 10 "BellowsRow" "tape" "LBellowsRow$Tape;") (by decide +kernel)) (fun _ h9 => h9) rfl dX11_feed_15 ?_
  refine lv_iload_n hx hb dX11_feed_18 rfl (lv_at hl 1 rfl) ?_
  refine mvv (C := RX9) (As := [.int p1]) (rest := []) (wc := [e1 k a, e2 k a]) (wr := [e0 k a]) ⟨hx, hb, hml, hown, hts⟩ (fun sz => c_X9_put_0 l D k a (fun _ => 0) p1 sz) (cwV 1 hts gX11_feed_X9_put rfl rfl rfl (by decide +kernel) ⟨Nat.le_of_ble_eq_true rfl, Nat.le_of_ble_eq_true rfl⟩) hP hK hD hN hS hA [1, 2] [0] rfl rfl (by decide) rfl (by decide) (by decide) 1 rfl rfl rfl rfl hl.1 rfl (Nat.le_of_ble_eq_true rfl) dX11_feed_19 ⟨Nat.le_of_ble_eq_true rfl, Nat.le_of_ble_eq_true rfl⟩ (fun u2 H locs hu2 hP hD hS => ?_)
  have hP : va_P D vwCl [e0 k a, ((a 1), .inr (9, [.ref (a 2), .int 4, .int 0, .int 0, .int (-1), .int 0, .int 0, .int 0])), ((a 2), .inl (k 0, 1600, .inl u2))] H := hP
  have hD : va_D A [e0 k a, ((a 1), .inr (9, [.ref (a 2), .int 4, .int 0, .int 0, .int (-1), .int 0, .int 0, .int 0])), ((a 2), .inl (k 0, 1600, .inl u2))] := hD
  refine W.widen (k := 0) (n := 0) (Nat.le_of_ble_eq_true rfl) (Nat.le_of_ble_eq_true rfl) ?_
  refine lv_aload_n hx hb dX11_feed_22 rfl (lv_at hl 0 rfl) ?_
  refine va_get (D := D) (ci := 11) (v := .ref (a 1)) (C := RX11) (T := TX11) (N := 11) hx hb hts i_X11 hown hK hP 0 rfl rfl 0 (by decide) (hts (.fieldLink RX11 10 "BellowsRow" "tape" "LBellowsRow$Tape;") (by decide +kernel)) (fun _ h9 => h9) rfl dX11_feed_23 ?_
  refine lv_iload_n hx hb dX11_feed_26 rfl (lv_at hl 2 rfl) ?_
  refine mvv (C := RX9) (As := [.int p2]) (rest := []) (wc := [((a 1), .inr (9, [.ref (a 2), .int 4, .int 0, .int 0, .int (-1), .int 0, .int 0, .int 0])), ((a 2), .inl (k 0, 1600, .inl u2))]) (wr := [e0 k a]) ⟨hx, hb, hml, hown, hts⟩ (fun sz => c_X9_put_4 l D k a u2 p2 sz) (cwV 1 hts gX11_feed_X9_put rfl rfl rfl (by decide +kernel) ⟨Nat.le_of_ble_eq_true rfl, Nat.le_of_ble_eq_true rfl⟩) hP hK hD hN hS hA [1, 2] [0] rfl rfl (by decide) rfl (by decide) (by decide) 1 rfl rfl rfl rfl hl.1 rfl (Nat.le_of_ble_eq_true rfl) dX11_feed_27 ⟨Nat.le_of_ble_eq_true rfl, Nat.le_of_ble_eq_true rfl⟩ (fun u3 H locs hu3 hP hD hS => ?_)
  have hP : va_P D vwCl [e0 k a, ((a 1), .inr (9, [.ref (a 2), .int 8, .int 0, .int 0, .int (-1), .int 0, .int 0, .int 0])), ((a 2), .inl (k 0, 1600, .inl u3))] H := hP
  have hD : va_D A [e0 k a, ((a 1), .inr (9, [.ref (a 2), .int 8, .int 0, .int 0, .int (-1), .int 0, .int 0, .int 0])), ((a 2), .inl (k 0, 1600, .inl u3))] := hD
  refine W.widen (k := 0) (n := 0) (Nat.le_of_ble_eq_true rfl) (Nat.le_of_ble_eq_true rfl) ?_
  refine lv_aload_n hx hb dX11_feed_30 rfl (lv_at hl 0 rfl) ?_
  refine va_get (D := D) (ci := 11) (v := .ref (a 1)) (C := RX11) (T := TX11) (N := 11) hx hb hts i_X11 hown hK hP 0 rfl rfl 0 (by decide) (hts (.fieldLink RX11 10 "BellowsRow" "tape" "LBellowsRow$Tape;") (by decide +kernel)) (fun _ h9 => h9) rfl dX11_feed_31 ?_
  refine lv_iload_n hx hb dX11_feed_34 rfl (lv_at hl 3 rfl) ?_
  refine mvv (C := RX9) (As := [.int p3]) (rest := []) (wc := [((a 1), .inr (9, [.ref (a 2), .int 8, .int 0, .int 0, .int (-1), .int 0, .int 0, .int 0])), ((a 2), .inl (k 0, 1600, .inl u3))]) (wr := [e0 k a]) ⟨hx, hb, hml, hown, hts⟩ (fun sz => c_X9_put_8 l D k a u3 p3 sz) (cwV 1 hts gX11_feed_X9_put rfl rfl rfl (by decide +kernel) ⟨Nat.le_of_ble_eq_true rfl, Nat.le_of_ble_eq_true rfl⟩) hP hK hD hN hS hA [1, 2] [0] rfl rfl (by decide) rfl (by decide) (by decide) 1 rfl rfl rfl rfl hl.1 rfl (Nat.le_of_ble_eq_true rfl) dX11_feed_35 ⟨Nat.le_of_ble_eq_true rfl, Nat.le_of_ble_eq_true rfl⟩ (fun u4 H locs hu4 hP hD hS => ?_)
  have hP : va_P D vwCl [e0 k a, ((a 1), .inr (9, [.ref (a 2), .int 12, .int 0, .int 0, .int (-1), .int 0, .int 0, .int 0])), ((a 2), .inl (k 0, 1600, .inl u4))] H := hP
  have hD : va_D A [e0 k a, ((a 1), .inr (9, [.ref (a 2), .int 12, .int 0, .int 0, .int (-1), .int 0, .int 0, .int 0])), ((a 2), .inl (k 0, 1600, .inl u4))] := hD
  refine W.widen (k := 0) (n := 0) (Nat.le_of_ble_eq_true rfl) (Nat.le_of_ble_eq_true rfl) ?_
  refine lv_aload_n hx hb dX11_feed_38 rfl (lv_at hl 0 rfl) ?_
  refine va_get (D := D) (ci := 11) (v := .ref (a 1)) (C := RX11) (T := TX11) (N := 11) hx hb hts i_X11 hown hK hP 0 rfl rfl 0 (by decide) (hts (.fieldLink RX11 10 "BellowsRow" "tape" "LBellowsRow$Tape;") (by decide +kernel)) (fun _ h9 => h9) rfl dX11_feed_39 ?_
  refine lv_iload hx hb dX11_feed_42 (lv_at hl 4 rfl) ?_
  refine mvv (C := RX9) (As := [.int p4]) (rest := []) (wc := [((a 1), .inr (9, [.ref (a 2), .int 12, .int 0, .int 0, .int (-1), .int 0, .int 0, .int 0])), ((a 2), .inl (k 0, 1600, .inl u4))]) (wr := [e0 k a]) ⟨hx, hb, hml, hown, hts⟩ (fun sz => c_X9_put_12 l D k a u4 p4 sz) (cwV 1 hts gX11_feed_X9_put rfl rfl rfl (by decide +kernel) ⟨Nat.le_of_ble_eq_true rfl, Nat.le_of_ble_eq_true rfl⟩) hP hK hD hN hS hA [1, 2] [0] rfl rfl (by decide) rfl (by decide) (by decide) 1 rfl rfl rfl rfl hl.1 rfl (Nat.le_of_ble_eq_true rfl) dX11_feed_44 ⟨Nat.le_of_ble_eq_true rfl, Nat.le_of_ble_eq_true rfl⟩ (fun u5 H locs hu5 hP hD hS => ?_)
  have hP : va_P D vwCl [e0 k a, ((a 1), .inr (9, [.ref (a 2), .int 16, .int 0, .int 0, .int (-1), .int 0, .int 0, .int 0])), ((a 2), .inl (k 0, 1600, .inl u5))] H := hP
  have hD : va_D A [e0 k a, ((a 1), .inr (9, [.ref (a 2), .int 16, .int 0, .int 0, .int (-1), .int 0, .int 0, .int 0])), ((a 2), .inl (k 0, 1600, .inl u5))] := hD
  refine W.widen (k := 0) (n := 0) (Nat.le_of_ble_eq_true rfl) (Nat.le_of_ble_eq_true rfl) ?_
  refine lv_aload_n hx hb dX11_feed_47 rfl (lv_at hl 0 rfl) ?_
  refine va_get (D := D) (ci := 11) (v := .ref (a 1)) (C := RX11) (T := TX11) (N := 11) hx hb hts i_X11 hown hK hP 0 rfl rfl 0 (by decide) (hts (.fieldLink RX11 10 "BellowsRow" "tape" "LBellowsRow$Tape;") (by decide +kernel)) (fun _ h9 => h9) rfl dX11_feed_48 ?_
  refine lv_iload hx hb dX11_feed_51 (lv_at hl 5 rfl) ?_
  refine mvv (C := RX9) (As := [.int p5]) (rest := []) (wc := [((a 1), .inr (9, [.ref (a 2), .int 16, .int 0, .int 0, .int (-1), .int 0, .int 0, .int 0])), ((a 2), .inl (k 0, 1600, .inl u5))]) (wr := [e0 k a]) ⟨hx, hb, hml, hown, hts⟩ (fun sz => c_X9_put_16 l D k a u5 p5 sz) (cwV 1 hts gX11_feed_X9_put rfl rfl rfl (by decide +kernel) ⟨Nat.le_of_ble_eq_true rfl, Nat.le_of_ble_eq_true rfl⟩) hP hK hD hN hS hA [1, 2] [0] rfl rfl (by decide) rfl (by decide) (by decide) 1 rfl rfl rfl rfl hl.1 rfl (Nat.le_of_ble_eq_true rfl) dX11_feed_53 ⟨Nat.le_of_ble_eq_true rfl, Nat.le_of_ble_eq_true rfl⟩ (fun u6 H locs hu6 hP hD hS => ?_)
  have hP : va_P D vwCl [e0 k a, ((a 1), .inr (9, [.ref (a 2), .int 20, .int 0, .int 0, .int (-1), .int 0, .int 0, .int 0])), ((a 2), .inl (k 0, 1600, .inl u6))] H := hP
  have hD : va_D A [e0 k a, ((a 1), .inr (9, [.ref (a 2), .int 20, .int 0, .int 0, .int (-1), .int 0, .int 0, .int 0])), ((a 2), .inl (k 0, 1600, .inl u6))] := hD
  refine W.widen (k := 0) (n := 0) (Nat.le_of_ble_eq_true rfl) (Nat.le_of_ble_eq_true rfl) ?_
  refine lv_aload_n hx hb dX11_feed_56 rfl (lv_at hl 0 rfl) ?_
  refine va_get (D := D) (ci := 11) (v := .ref (a 1)) (C := RX11) (T := TX11) (N := 11) hx hb hts i_X11 hown hK hP 0 rfl rfl 0 (by decide) (hts (.fieldLink RX11 10 "BellowsRow" "tape" "LBellowsRow$Tape;") (by decide +kernel)) (fun _ h9 => h9) rfl dX11_feed_57 ?_
  refine va_get (D := D) (ci := 9) (v := .int 20) (C := RX9) (T := TX9) (N := 8) hx hb hts i_X9 hown hK hP 1 rfl rfl 1 (by decide) (hts (.fieldLink RX11 81 "BellowsRow$Tape" "size" "I") (by decide +kernel)) (fun _ h9 => h9) rfl dX11_feed_60 ?_
  have hP9 := hP.sub (ws' := []) [] rfl
  have hD9 := hD.sub (ws' := []) [] (by decide) rfl
  refine W.widen (k := 0) (n := 0) (Nat.le_of_ble_eq_true rfl) (Nat.le_of_ble_eq_true rfl) ?_
  exact W.iret (v := 20) hx hb hr (fun t ht hW => ⟨⟨20, (), rfl, rfl, by rw [ht]; exact hP9, hD9⟩, hS.F ht⟩) hS.2.2 dX11_feed_63
set_option maxHeartbeats 4000000 in
set_option maxRecDepth 100000 in
theorem c_X11_end (l : Launch) (D : va_G) (k : Nat → ClassId) (a : Nat → Nat) (p1 : Int32) (sz : Nat) : Met l yX11_end wsX11_end ({ frames := 0, cells := 0, slots := 0, locals := 0 }) (PreM D k sz [e0 k a, e1 k a] [.ref (a 0), .int p1]) (va_Qi (fun r (_ : Unit) => ((p1.toInt = 0) ∧ r = 0) ∨ (¬ (p1.toInt = 0) ∧ r = (-1))) (WB D (va_A [e0 k a, e1 k a] sz) (fun (_ : Unit) => ([] : va_W))) (va_A [e0 k a, e1 k a] sz)) 0 0 (va_A [e0 k a, e1 k a] sz) := by
  refine Met.ofW (cc := cX11_end) (maxL := 2) (ret := (some .int)) (by decide) rfl ?_
  intro p e s m args below meth c s₁ B hml hv
  obtain ⟨rfl, hsz, hP, hK, hD0, hN⟩ := hv
  have hx := B.exec
  have hb := B.bytes
  have hr := B.returns
  have hts := atoms_spec (ws := wsX11_end) B.pre
  have hown : s.vm.findClass RX11 = some m.cls := findClass_of_methodNamed B.named
  have hlocks := B.notSynchronized
  have i_X11 : ∀ w ∈ wsX110, w ∈ wsX11_end := by decide +kernel
  have i_X9 : ∀ w ∈ wsX90, w ∈ wsX11_end := by decide +kernel
  subst hsz
  have hD := hD0.self (sz := s.heap.size)
  generalize hAe : va_A [e0 k a, e1 k a] s.heap.size = A at hD ⊢
  have hA : ∀ q : Nat, s.heap.size ≤ q → A q := fun q h => by rw [← hAe]; exact Or.inr h
  have hS : va_S A s.heap s.heap [] := va_S.rf
  have hP : va_P D vwCl [e0 k a, e1 k a] s.heap := hP
  have hl := lv_entry ([.ref (a 0), .int p1]) (n := 2) (Nat.le_of_ble_eq_true rfl)
  rw [lg_entry_eq]
  generalize (lg_sl ([.ref (a 0), .int p1]) ++ List.replicate (2 - (lg_sl ([.ref (a 0), .int p1])).length) Slot.unset).toArray = ls at hl ⊢
  have hl : lv_has ls 2 [(0, .ref (a 0)), (1, .int p1)] := hl
  refine lv_iload_n hx hb dX11_end_0 rfl (lv_at hl 1 rfl) ?_
  refine lv_if_lt (tgt := 15) hx hb dX11_end_1 (by decide) (fun c1 => ?_) (fun c1 => ?_)
  · refine lv_iconst (v := (-1)) hx hb dX11_end_15 (by decide) ?_
    have hP9 := hP.sub (ws' := []) [] rfl
    have hD9 := hD.sub (ws' := []) [] (by decide) rfl
    refine W.widen (k := 0) (n := 0) (Nat.le_of_ble_eq_true rfl) (Nat.le_of_ble_eq_true rfl) ?_
    exact W.iret (v := (-1)) hx hb hr (fun t ht hW => ⟨⟨(-1), (), rfl, Or.inr ⟨by (try simp only [i_lt, i_le, i_eq, Int32.toInt_toInt64, Int32.reduceToInt, Int64.reduceToInt] at c1 ⊢); omega, rfl⟩, by rw [ht]; exact hP9, hD9⟩, hS.F ht⟩) hS.2.2 dX11_end_16
  · refine lv_iload_n hx hb dX11_end_4 rfl (lv_at hl 1 rfl) ?_
    refine lv_aload_n hx hb dX11_end_5 rfl (lv_at hl 0 rfl) ?_
    refine va_get (D := D) (ci := 11) (v := .ref (a 1)) (C := RX11) (T := TX11) (N := 11) hx hb hts i_X11 hown hK hP 0 rfl rfl 0 (by decide) (hts (.fieldLink RX11 10 "BellowsRow" "tape" "LBellowsRow$Tape;") (by decide +kernel)) (fun _ h9 => h9) rfl dX11_end_6 ?_
    refine va_get (D := D) (ci := 9) (v := .int 0) (C := RX9) (T := TX9) (N := 8) hx hb hts i_X9 hown hK hP 1 rfl rfl 1 (by decide) (hts (.fieldLink RX11 81 "BellowsRow$Tape" "size" "I") (by decide +kernel)) (fun _ h9 => h9) rfl dX11_end_9 ?_
    refine lv_icmp_le (tgt := 17) hx hb dX11_end_12 (by decide) (fun c2 => ?_) (fun c2 => ?_)
    · refine lv_aload_n hx hb dX11_end_17 rfl (lv_at hl 0 rfl) ?_
      refine va_get (D := D) (ci := 11) (v := .ref (a 1)) (C := RX11) (T := TX11) (N := 11) hx hb hts i_X11 hown hK hP 0 rfl rfl 0 (by decide) (hts (.fieldLink RX11 10 "BellowsRow" "tape" "LBellowsRow$Tape;") (by decide +kernel)) (fun _ h9 => h9) rfl dX11_end_18 ?_
      refine lv_iload_n hx hb dX11_end_21 rfl (lv_at hl 1 rfl) ?_
      refine va_put (D := D) (ci := 9) (v := .int p1) (ty := .int) (C := RX9) (T := TX9) (N := 8) hx hb hts i_X9 tyX9 tyX9_ok nmX9 hown hK hP hD hS 1 rfl rfl 1 (by decide) (hts (.fieldLink RX11 81 "BellowsRow$Tape" "size" "I") (by decide +kernel)) (fun _ h9 => h9) rfl (by decide +kernel) rfl rfl (Nat.le_of_ble_eq_true rfl) dX11_end_22 (fun H locs hP hD hS => ?_)
      have hP : va_P D vwCl [e0 k a, ((a 1), .inr (9, [.ref (a 2), .int p1, .int 0, .int 0, .int (-1), .int 0, .int 0, .int 0]))] H := hP
      have hD : va_D A [e0 k a, ((a 1), .inr (9, [.ref (a 2), .int p1, .int 0, .int 0, .int (-1), .int 0, .int 0, .int 0]))] := hD
      refine lv_iload_n hx hb dX11_end_25 rfl (lv_at hl 1 rfl) ?_
      have hP9 := hP.sub (ws' := []) [] rfl
      have hD9 := hD.sub (ws' := []) [] (by decide) rfl
      refine W.widen (k := 0) (n := 0) (Nat.le_of_ble_eq_true rfl) (Nat.le_of_ble_eq_true rfl) ?_
      exact W.iret (v := p1) hx hb hr (fun t ht hW => ⟨⟨p1, (), rfl, Or.inl ⟨by (try simp only [i_lt, i_le, i_eq, Int32.toInt_toInt64, Int32.reduceToInt, Int64.reduceToInt] at c1 c2 ⊢); omega, i_eq.mpr (by (try simp only [i_lt, i_le, i_eq, Int32.toInt_toInt64, Int32.reduceToInt, Int64.reduceToInt] at c1 c2 ⊢); omega)⟩, by rw [ht]; exact hP9, hD9⟩, hS.F ht⟩) hS.2.2 dX11_end_26
    · refine lv_iconst (v := (-1)) hx hb dX11_end_15 (by decide) ?_
      have hP9 := hP.sub (ws' := []) [] rfl
      have hD9 := hD.sub (ws' := []) [] (by decide) rfl
      refine W.widen (k := 0) (n := 0) (Nat.le_of_ble_eq_true rfl) (Nat.le_of_ble_eq_true rfl) ?_
      exact W.iret (v := (-1)) hx hb hr (fun t ht hW => ⟨⟨(-1), (), rfl, Or.inr ⟨by (try simp only [i_lt, i_le, i_eq, Int32.toInt_toInt64, Int32.reduceToInt, Int64.reduceToInt] at c1 c2 ⊢); omega, rfl⟩, by rw [ht]; exact hP9, hD9⟩, hS.F ht⟩) hS.2.2 dX11_end_16
set_option maxHeartbeats 4000000 in
set_option maxRecDepth 100000 in
theorem c_X11_keep (l : Launch) (D : va_G) (k : Nat → ClassId) (a : Nat → Nat) (p1 : Int32) (sz : Nat) : Met l yX11_keep wsX11_keep ({ frames := 0, cells := 0, slots := 0, locals := 0 }) (PreM D k sz [e0 k a, e3 k a, e26 k a] [.ref (a 0), .int p1]) (va_Qi (fun r (_ : Unit) => ((0 ≤ p1.toInt ∧ p1.toInt ≤ 2) ∧ r = 0) ∨ (¬ (0 ≤ p1.toInt ∧ p1.toInt ≤ 2) ∧ r = (-2))) (WB D (va_A [e0 k a, e3 k a, e26 k a] sz) (fun (_ : Unit) => ([] : va_W))) (va_A [e0 k a, e3 k a, e26 k a] sz)) 0 0 (va_A [e0 k a, e3 k a, e26 k a] sz) := by
  refine Met.ofW (cc := cX11_keep) (maxL := 2) (ret := (some .int)) (by decide) rfl ?_
  intro p e s m args below meth c s₁ B hml hv
  obtain ⟨rfl, hsz, hP, hK, hD0, hN⟩ := hv
  have hx := B.exec
  have hb := B.bytes
  have hr := B.returns
  have hts := atoms_spec (ws := wsX11_keep) B.pre
  have hown : s.vm.findClass RX11 = some m.cls := findClass_of_methodNamed B.named
  have hlocks := B.notSynchronized
  have i_X11 : ∀ w ∈ wsX110, w ∈ wsX11_keep := by decide +kernel
  subst hsz
  have hD := hD0.self (sz := s.heap.size)
  generalize hAe : va_A [e0 k a, e3 k a, e26 k a] s.heap.size = A at hD ⊢
  have hA : ∀ q : Nat, s.heap.size ≤ q → A q := fun q h => by rw [← hAe]; exact Or.inr h
  have hS : va_S A s.heap s.heap [] := va_S.rf
  have hP : va_P D vwCl [e0 k a, e3 k a, e26 k a] s.heap := hP
  have hl := lv_entry ([.ref (a 0), .int p1]) (n := 2) (Nat.le_of_ble_eq_true rfl)
  rw [lg_entry_eq]
  generalize (lg_sl ([.ref (a 0), .int p1]) ++ List.replicate (2 - (lg_sl ([.ref (a 0), .int p1])).length) Slot.unset).toArray = ls at hl ⊢
  have hl : lv_has ls 2 [(0, .ref (a 0)), (1, .int p1)] := hl
  refine lv_iload_n hx hb dX11_keep_0 rfl (lv_at hl 1 rfl) ?_
  refine lv_if_lt (tgt := 13) hx hb dX11_keep_1 (by decide) (fun c1 => ?_) (fun c1 => ?_)
  · refine lv_bipush (v := (-2)) hx hb dX11_keep_13 (by decide) ?_
    have hP9 := hP.sub (ws' := []) [] rfl
    have hD9 := hD.sub (ws' := []) [] (by decide) rfl
    refine W.widen (k := 0) (n := 0) (Nat.le_of_ble_eq_true rfl) (Nat.le_of_ble_eq_true rfl) ?_
    exact W.iret (v := (-2)) hx hb hr (fun t ht hW => ⟨⟨(-2), (), rfl, Or.inr ⟨by (try simp only [i_lt, i_le, i_eq, Int32.toInt_toInt64, Int32.reduceToInt, Int64.reduceToInt] at c1 ⊢); omega, rfl⟩, by rw [ht]; exact hP9, hD9⟩, hS.F ht⟩) hS.2.2 dX11_keep_15
  · refine lv_iload_n hx hb dX11_keep_4 rfl (lv_at hl 1 rfl) ?_
    refine lv_aload_n hx hb dX11_keep_5 rfl (lv_at hl 0 rfl) ?_
    refine va_get (D := D) (ci := 11) (v := .ref (a 3)) (C := RX11) (T := TX11) (N := 11) hx hb hts i_X11 hown hK hP 0 rfl rfl 1 (by decide) (hts (.fieldLink RX11 18 "BellowsRow" "images" "[LBellowsRow$Works;") (by decide +kernel)) (fun _ h9 => h9) rfl dX11_keep_6 ?_
    refine va_alen (v := 3) hx hb hK hP 1 5 rfl rfl rfl dX11_keep_9 ?_
    refine lv_icmp_lt (tgt := 16) hx hb dX11_keep_10 (by decide) (fun c2 => ?_) (fun c2 => ?_)
    · refine lv_aload_n hx hb dX11_keep_16 rfl (lv_at hl 0 rfl) ?_
      refine va_get (D := D) (ci := 11) (v := .ref (a 3)) (C := RX11) (T := TX11) (N := 11) hx hb hts i_X11 hown hK hP 0 rfl rfl 1 (by decide) (hts (.fieldLink RX11 18 "BellowsRow" "images" "[LBellowsRow$Works;") (by decide +kernel)) (fun _ h9 => h9) rfl dX11_keep_17 ?_
      refine lv_iload_n hx hb dX11_keep_20 rfl (lv_at hl 1 rfl) ?_
      refine lv_aload_n hx hb dX11_keep_21 rfl (lv_at hl 0 rfl) ?_
      refine va_get (D := D) (ci := 11) (v := .ref (a 26)) (C := RX11) (T := TX11) (N := 11) hx hb hts i_X11 hown hK hP 0 rfl rfl 8 (by decide) (hts (.fieldLink RX11 62 "BellowsRow" "now" "LBellowsRow$Works;") (by decide +kernel)) (fun _ h9 => h9) rfl dX11_keep_22 ?_
      refine va_astq hx hb hK hP hD hS 1 5 2 10 rfl rfl rfl rfl (vp_in_iff.mpr (by (try simp only [i_lt, i_le, i_eq, Int32.toInt_toInt64, Int32.reduceToInt, Int64.reduceToInt] at c1 c2 ⊢); omega)) dX11_keep_25 (fun H locs hP hD hS => ?_)
      have hP : va_P D vwCl [e0 k a, ((a 3), .inl (k 5, 3, .inr (.inr (.inr (.inr (va_up (fun _ => none) (p1).toNatClampNeg (some (a 26)))))))), e26 k a] H := hP
      have hD : va_D A [e0 k a, ((a 3), .inl (k 5, 3, .inr (.inr (.inr (.inr (va_up (fun _ => none) (p1).toNatClampNeg (some (a 26)))))))), e26 k a] := hD
      refine lv_iconst (v := 0) hx hb dX11_keep_26 (by decide) ?_
      have hP9 := hP.sub (ws' := []) [] rfl
      have hD9 := hD.sub (ws' := []) [] (by decide) rfl
      refine W.widen (k := 0) (n := 0) (Nat.le_of_ble_eq_true rfl) (Nat.le_of_ble_eq_true rfl) ?_
      exact W.iret (v := 0) hx hb hr (fun t ht hW => ⟨⟨0, (), rfl, Or.inl ⟨by (try simp only [i_lt, i_le, i_eq, Int32.toInt_toInt64, Int32.reduceToInt, Int64.reduceToInt] at c1 c2 ⊢); omega, rfl⟩, by rw [ht]; exact hP9, hD9⟩, hS.F ht⟩) hS.2.2 dX11_keep_27
    · refine lv_bipush (v := (-2)) hx hb dX11_keep_13 (by decide) ?_
      have hP9 := hP.sub (ws' := []) [] rfl
      have hD9 := hD.sub (ws' := []) [] (by decide) rfl
      refine W.widen (k := 0) (n := 0) (Nat.le_of_ble_eq_true rfl) (Nat.le_of_ble_eq_true rfl) ?_
      exact W.iret (v := (-2)) hx hb hr (fun t ht hW => ⟨⟨(-2), (), rfl, Or.inr ⟨by (try simp only [i_lt, i_le, i_eq, Int32.toInt_toInt64, Int32.reduceToInt, Int64.reduceToInt] at c1 c2 ⊢); omega, rfl⟩, by rw [ht]; exact hP9, hD9⟩, hS.F ht⟩) hS.2.2 dX11_keep_15
set_option maxHeartbeats 4000000 in
set_option maxRecDepth 100000 in
theorem c_X9_step (l : Launch) (D : va_G) (k : Nat → ClassId) (a : Nat → Nat) (sz : Nat) : Met l yX9_step wsX9_step ({ frames := 0, cells := 0, slots := 0, locals := 0 }) (PreM D k sz [e1 k a] [.ref (a 1)]) (va_Qv (fun (_ : Unit) => True) (WB D (va_A [e1 k a] sz) (fun (_ : Unit) => [e1 k a])) (va_A [e1 k a] sz)) 0 0 (va_A [e1 k a] sz) := by
  refine Met.ofW (cc := cX9_step) (maxL := 2) (ret := none) (by decide) rfl ?_
  intro p e s m args below meth c s₁ B hml hv
  obtain ⟨rfl, hsz, hP, hK, hD0, hN⟩ := hv
  have hx := B.exec
  have hb := B.bytes
  have hr := B.returns
  have hts := atoms_spec (ws := wsX9_step) B.pre
  have hown : s.vm.findClass RX9 = some m.cls := findClass_of_methodNamed B.named
  have hlocks := B.notSynchronized
  have i_X9 : ∀ w ∈ wsX90, w ∈ wsX9_step := by decide +kernel
  subst hsz
  have hD := hD0.self (sz := s.heap.size)
  generalize hAe : va_A [e1 k a] s.heap.size = A at hD ⊢
  have hA : ∀ q : Nat, s.heap.size ≤ q → A q := fun q h => by rw [← hAe]; exact Or.inr h
  have hS : va_S A s.heap s.heap [] := va_S.rf
  have hP : va_P D vwCl [e1 k a] s.heap := hP
  have hl := lv_entry ([.ref (a 1)]) (n := 2) (Nat.le_of_ble_eq_true rfl)
  rw [lg_entry_eq]
  generalize (lg_sl ([.ref (a 1)]) ++ List.replicate (2 - (lg_sl ([.ref (a 1)])).length) Slot.unset).toArray = ls at hl ⊢
  have hl : lv_has ls 2 [(0, .ref (a 1))] := hl
  refine lv_aload_n hx hb dX9_step_0 rfl (lv_at hl 0 rfl) ?_
  refine va_get (D := D) (ci := 9) (v := .int 0) (C := RX9) (T := TX9) (N := 8) hx hb hts i_X9 hown hK hP 0 rfl rfl 6 (by decide) (hts (.fieldLink RX9 31 "BellowsRow$Tape" "past" "I") (by decide +kernel)) (fun _ h9 => h9) rfl dX9_step_1 ?_
  refine lv_istore_n (lv' := [(1, .int 0), (0, .ref (a 1))]) hx hb dX9_step_4 rfl hl (by decide) rfl (fun ls hl => ?_)
  refine lv_iload_n hx hb dX9_step_5 rfl (lv_at hl 0 rfl) ?_
  refine lv_aload_n hx hb dX9_step_6 rfl (lv_at hl 1 rfl) ?_
  refine va_get (D := D) (ci := 9) (v := .int 0) (C := RX9) (T := TX9) (N := 8) hx hb hts i_X9 hown hK hP 0 rfl rfl 1 (by decide) (hts (.fieldLink RX9 15 "BellowsRow$Tape" "size" "I") (by decide +kernel)) (fun _ h9 => h9) rfl dX9_step_7 ?_
  refine lv_icmp_ge (tgt := 41) hx hb dX9_step_10 (by decide) (fun _ => ?_) (fun h => absurd (by decide) h)
  refine lv_aload_n hx hb dX9_step_41 rfl (lv_at hl 1 rfl) ?_
  refine lv_iload_n hx hb dX9_step_42 rfl (lv_at hl 0 rfl) ?_
  refine va_put (D := D) (ci := 9) (v := .int 0) (ty := .int) (C := RX9) (T := TX9) (N := 8) hx hb hts i_X9 tyX9 tyX9_ok nmX9 hown hK hP hD hS 0 rfl rfl 5 (by decide) (hts (.fieldLink RX9 28 "BellowsRow$Tape" "from" "I") (by decide +kernel)) (fun _ h9 => h9) rfl (by decide +kernel) rfl rfl (Nat.le_of_ble_eq_true rfl) dX9_step_43 (fun H locs hP hD hS => ?_)
  have hP : va_P D vwCl [((a 1), .inr (9, [.ref (a 2), .int 0, .int 0, .int 0, .int (-1), .int 0, .int 0, .int 0]))] H := hP
  have hD : va_D A [((a 1), .inr (9, [.ref (a 2), .int 0, .int 0, .int 0, .int (-1), .int 0, .int 0, .int 0]))] := hD
  refine lv_aload_n hx hb dX9_step_46 rfl (lv_at hl 1 rfl) ?_
  refine lv_iconst (v := 0) hx hb dX9_step_47 (by decide) ?_
  refine va_put (D := D) (ci := 9) (v := .int 0) (ty := .int) (C := RX9) (T := TX9) (N := 8) hx hb hts i_X9 tyX9 tyX9_ok nmX9 hown hK hP hD hS 0 rfl rfl 7 (by decide) (hts (.fieldLink RX9 34 "BellowsRow$Tape" "value" "I") (by decide +kernel)) (fun _ h9 => h9) rfl (by decide +kernel) rfl rfl (Nat.le_of_ble_eq_true rfl) dX9_step_48 (fun H locs hP hD hS => ?_)
  have hP : va_P D vwCl [((a 1), .inr (9, [.ref (a 2), .int 0, .int 0, .int 0, .int (-1), .int 0, .int 0, .int 0]))] H := hP
  have hD : va_D A [((a 1), .inr (9, [.ref (a 2), .int 0, .int 0, .int 0, .int (-1), .int 0, .int 0, .int 0]))] := hD
  refine lv_iload_n hx hb dX9_step_51 rfl (lv_at hl 0 rfl) ?_
  refine lv_aload_n hx hb dX9_step_52 rfl (lv_at hl 1 rfl) ?_
  refine va_get (D := D) (ci := 9) (v := .int 0) (C := RX9) (T := TX9) (N := 8) hx hb hts i_X9 hown hK hP 0 rfl rfl 1 (by decide) (hts (.fieldLink RX9 15 "BellowsRow$Tape" "size" "I") (by decide +kernel)) (fun _ h9 => h9) rfl dX9_step_53 ?_
  refine lv_icmp_ge (tgt := 87) hx hb dX9_step_56 (by decide) (fun _ => ?_) (fun h => absurd (by decide) h)
  refine lv_aload_n hx hb dX9_step_87 rfl (lv_at hl 1 rfl) ?_
  refine lv_iload_n hx hb dX9_step_88 rfl (lv_at hl 0 rfl) ?_
  refine va_put (D := D) (ci := 9) (v := .int 0) (ty := .int) (C := RX9) (T := TX9) (N := 8) hx hb hts i_X9 tyX9 tyX9_ok nmX9 hown hK hP hD hS 0 rfl rfl 6 (by decide) (hts (.fieldLink RX9 31 "BellowsRow$Tape" "past" "I") (by decide +kernel)) (fun _ h9 => h9) rfl (by decide +kernel) rfl rfl (Nat.le_of_ble_eq_true rfl) dX9_step_89 (fun H locs hP hD hS => ?_)
  have hP : va_P D vwCl [((a 1), .inr (9, [.ref (a 2), .int 0, .int 0, .int 0, .int (-1), .int 0, .int 0, .int 0]))] H := hP
  have hD : va_D A [((a 1), .inr (9, [.ref (a 2), .int 0, .int 0, .int 0, .int (-1), .int 0, .int 0, .int 0]))] := hD
  refine lv_iload_n hx hb dX9_step_92 rfl (lv_at hl 0 rfl) ?_
  refine lv_aload_n hx hb dX9_step_93 rfl (lv_at hl 1 rfl) ?_
  refine va_get (D := D) (ci := 9) (v := .int 0) (C := RX9) (T := TX9) (N := 8) hx hb hts i_X9 hown hK hP 0 rfl rfl 5 (by decide) (hts (.fieldLink RX9 28 "BellowsRow$Tape" "from" "I") (by decide +kernel)) (fun _ h9 => h9) rfl dX9_step_94 ?_
  refine lv_icmp_le (tgt := 106) hx hb dX9_step_97 (by decide) (fun _ => ?_) (fun h => absurd (by decide) h)
  refine lv_iload_n hx hb dX9_step_106 rfl (lv_at hl 0 rfl) ?_
  refine lv_aload_n hx hb dX9_step_107 rfl (lv_at hl 1 rfl) ?_
  refine va_get (D := D) (ci := 9) (v := .int 0) (C := RX9) (T := TX9) (N := 8) hx hb hts i_X9 hown hK hP 0 rfl rfl 1 (by decide) (hts (.fieldLink RX9 15 "BellowsRow$Tape" "size" "I") (by decide +kernel)) (fun _ h9 => h9) rfl dX9_step_108 ?_
  refine lv_icmp_ge (tgt := 179) hx hb dX9_step_111 (by decide) (fun _ => ?_) (fun h => absurd (by decide) h)
  refine lv_aload_n hx hb dX9_step_179 rfl (lv_at hl 1 rfl) ?_
  refine lv_iload_n hx hb dX9_step_180 rfl (lv_at hl 0 rfl) ?_
  refine va_put (D := D) (ci := 9) (v := .int 0) (ty := .int) (C := RX9) (T := TX9) (N := 8) hx hb hts i_X9 tyX9 tyX9_ok nmX9 hown hK hP hD hS 0 rfl rfl 6 (by decide) (hts (.fieldLink RX9 31 "BellowsRow$Tape" "past" "I") (by decide +kernel)) (fun _ h9 => h9) rfl (by decide +kernel) rfl rfl (Nat.le_of_ble_eq_true rfl) dX9_step_181 (fun H locs hP hD hS => ?_)
  have hP : va_P D vwCl [((a 1), .inr (9, [.ref (a 2), .int 0, .int 0, .int 0, .int (-1), .int 0, .int 0, .int 0]))] H := hP
  have hD : va_D A [((a 1), .inr (9, [.ref (a 2), .int 0, .int 0, .int 0, .int (-1), .int 0, .int 0, .int 0]))] := hD
  refine lv_iload_n hx hb dX9_step_184 rfl (lv_at hl 0 rfl) ?_
  refine lv_aload_n hx hb dX9_step_185 rfl (lv_at hl 1 rfl) ?_
  refine va_get (D := D) (ci := 9) (v := .int 0) (C := RX9) (T := TX9) (N := 8) hx hb hts i_X9 hown hK hP 0 rfl rfl 5 (by decide) (hts (.fieldLink RX9 28 "BellowsRow$Tape" "from" "I") (by decide +kernel)) (fun _ h9 => h9) rfl dX9_step_186 ?_
  refine lv_icmp_le (tgt := 200) hx hb dX9_step_189 (by decide) (fun _ => ?_) (fun h => absurd (by decide) h)
  refine lv_iload_n hx hb dX9_step_200 rfl (lv_at hl 0 rfl) ?_
  refine lv_aload_n hx hb dX9_step_201 rfl (lv_at hl 1 rfl) ?_
  refine va_get (D := D) (ci := 9) (v := .int 0) (C := RX9) (T := TX9) (N := 8) hx hb hts i_X9 hown hK hP 0 rfl rfl 1 (by decide) (hts (.fieldLink RX9 15 "BellowsRow$Tape" "size" "I") (by decide +kernel)) (fun _ h9 => h9) rfl dX9_step_202 ?_
  refine lv_icmp_lt (tgt := 216) hx hb dX9_step_205 (by decide) (fun h => absurd h (by decide)) (fun _ => ?_)
  refine lv_aload_n hx hb dX9_step_208 rfl (lv_at hl 1 rfl) ?_
  refine lv_iconst (v := 0) hx hb dX9_step_209 (by decide) ?_
  refine va_put (D := D) (ci := 9) (v := .int 0) (ty := .int) (C := RX9) (T := TX9) (N := 8) hx hb hts i_X9 tyX9 tyX9_ok nmX9 hown hK hP hD hS 0 rfl rfl 2 (by decide) (hts (.fieldLink RX9 19 "BellowsRow$Tape" "kind" "I") (by decide +kernel)) (fun _ h9 => h9) rfl (by decide +kernel) rfl rfl (Nat.le_of_ble_eq_true rfl) dX9_step_210 (fun H locs hP hD hS => ?_)
  have hP : va_P D vwCl [((a 1), .inr (9, [.ref (a 2), .int 0, .int 0, .int 0, .int (-1), .int 0, .int 0, .int 0]))] H := hP
  have hD : va_D A [((a 1), .inr (9, [.ref (a 2), .int 0, .int 0, .int 0, .int (-1), .int 0, .int 0, .int 0]))] := hD
  refine lv_goto (tgt := 243) hx hb dX9_step_213 (by decide) ?_
  have hP9 := hP.sub (ws' := [((a 1), .inr (9, [.ref (a 2), .int 0, .int 0, .int 0, .int (-1), .int 0, .int 0, .int 0]))]) [0] rfl
  have hD9 := hD.sub (ws' := [((a 1), .inr (9, [.ref (a 2), .int 0, .int 0, .int 0, .int (-1), .int 0, .int 0, .int 0]))]) [0] (by decide) rfl
  refine W.widen (k := 0) (n := 0) (Nat.le_of_ble_eq_true rfl) (Nat.le_of_ble_eq_true rfl) ?_
  exact W.vret hx hb hr (fun t ht hW => ⟨⟨(), rfl, trivial, by rw [ht]; exact hP9, hD9⟩, hS.F ht⟩) hS.2.2 dX9_step_243
set_option maxHeartbeats 4000000 in
set_option maxRecDepth 100000 in
theorem c_X9_begin (l : Launch) (D : va_G) (k : Nat → ClassId) (a : Nat → Nat) (sz : Nat) : Met l yX9_begin wsX9_begin ({ frames := 1, cells := 0, slots := 0, locals := 21 }) (PreM D k sz [e1 k a] [.ref (a 1)]) (va_Qv (fun (_ : Unit) => True) (WB D (va_A [e1 k a] sz) (fun (_ : Unit) => [e1 k a])) (va_A [e1 k a] sz)) 0 0 (va_A [e1 k a] sz) := by
  refine Met.ofW (cc := cX9_begin) (maxL := 1) (ret := none) (by decide) rfl ?_
  intro p e s m args below meth c s₁ B hml hv
  obtain ⟨rfl, hsz, hP, hK, hD0, hN⟩ := hv
  have hx := B.exec
  have hb := B.bytes
  have hr := B.returns
  have hts := atoms_spec (ws := wsX9_begin) B.pre
  have hown : s.vm.findClass RX9 = some m.cls := findClass_of_methodNamed B.named
  have hlocks := B.notSynchronized
  have i_X9 : ∀ w ∈ wsX90, w ∈ wsX9_begin := by decide +kernel
  subst hsz
  have hD := hD0.self (sz := s.heap.size)
  generalize hAe : va_A [e1 k a] s.heap.size = A at hD ⊢
  have hA : ∀ q : Nat, s.heap.size ≤ q → A q := fun q h => by rw [← hAe]; exact Or.inr h
  have hS : va_S A s.heap s.heap [] := va_S.rf
  have hP : va_P D vwCl [e1 k a] s.heap := hP
  have hl := lv_entry ([.ref (a 1)]) (n := 1) (Nat.le_of_ble_eq_true rfl)
  rw [lg_entry_eq]
  generalize (lg_sl ([.ref (a 1)]) ++ List.replicate (1 - (lg_sl ([.ref (a 1)])).length) Slot.unset).toArray = ls at hl ⊢
  have hl : lv_has ls 1 [(0, .ref (a 1))] := hl
  refine lv_aload_n hx hb dX9_begin_0 rfl (lv_at hl 0 rfl) ?_
  refine lv_iconst (v := 0) hx hb dX9_begin_1 (by decide) ?_
  refine va_put (D := D) (ci := 9) (v := .int 0) (ty := .int) (C := RX9) (T := TX9) (N := 8) hx hb hts i_X9 tyX9 tyX9_ok nmX9 hown hK hP hD hS 0 rfl rfl 6 (by decide) (hts (.fieldLink RX9 31 "BellowsRow$Tape" "past" "I") (by decide +kernel)) (fun _ h9 => h9) rfl (by decide +kernel) rfl rfl (Nat.le_of_ble_eq_true rfl) dX9_begin_2 (fun H locs hP hD hS => ?_)
  have hP : va_P D vwCl [((a 1), .inr (9, [.ref (a 2), .int 0, .int 0, .int 0, .int (-1), .int 0, .int 0, .int 0]))] H := hP
  have hD : va_D A [((a 1), .inr (9, [.ref (a 2), .int 0, .int 0, .int 0, .int (-1), .int 0, .int 0, .int 0]))] := hD
  refine lv_aload_n hx hb dX9_begin_5 rfl (lv_at hl 0 rfl) ?_
  refine lv_iconst (v := 0) hx hb dX9_begin_6 (by decide) ?_
  refine va_put (D := D) (ci := 9) (v := .int 0) (ty := .int) (C := RX9) (T := TX9) (N := 8) hx hb hts i_X9 tyX9 tyX9_ok nmX9 hown hK hP hD hS 0 rfl rfl 3 (by decide) (hts (.fieldLink RX9 22 "BellowsRow$Tape" "fault" "I") (by decide +kernel)) (fun _ h9 => h9) rfl (by decide +kernel) rfl rfl (Nat.le_of_ble_eq_true rfl) dX9_begin_7 (fun H locs hP hD hS => ?_)
  have hP : va_P D vwCl [((a 1), .inr (9, [.ref (a 2), .int 0, .int 0, .int 0, .int (-1), .int 0, .int 0, .int 0]))] H := hP
  have hD : va_D A [((a 1), .inr (9, [.ref (a 2), .int 0, .int 0, .int 0, .int (-1), .int 0, .int 0, .int 0]))] := hD
  refine lv_aload_n hx hb dX9_begin_10 rfl (lv_at hl 0 rfl) ?_
  refine lv_iconst (v := (-1)) hx hb dX9_begin_11 (by decide) ?_
  refine va_put (D := D) (ci := 9) (v := .int (-1)) (ty := .int) (C := RX9) (T := TX9) (N := 8) hx hb hts i_X9 tyX9 tyX9_ok nmX9 hown hK hP hD hS 0 rfl rfl 4 (by decide) (hts (.fieldLink RX9 25 "BellowsRow$Tape" "place" "I") (by decide +kernel)) (fun _ h9 => h9) rfl (by decide +kernel) rfl rfl (Nat.le_of_ble_eq_true rfl) dX9_begin_12 (fun H locs hP hD hS => ?_)
  have hP : va_P D vwCl [((a 1), .inr (9, [.ref (a 2), .int 0, .int 0, .int 0, .int (-1), .int 0, .int 0, .int 0]))] H := hP
  have hD : va_D A [((a 1), .inr (9, [.ref (a 2), .int 0, .int 0, .int 0, .int (-1), .int 0, .int 0, .int 0]))] := hD
  refine lv_aload_n hx hb dX9_begin_15 rfl (lv_at hl 0 rfl) ?_
  refine mvv (C := RX9) (As := []) (rest := []) (wc := [e1 k a]) (wr := []) ⟨hx, hb, hml, hown, hts⟩ (fun sz => c_X9_step l D k a  sz) (cwV 0 hts gX9_begin_X9_step rfl rfl rfl (by decide +kernel) ⟨Nat.le_of_ble_eq_true rfl, Nat.le_of_ble_eq_true rfl⟩) hP hK hD hN hS hA [0] [] rfl rfl (by decide) rfl (by decide) (by decide) 0 rfl rfl rfl rfl hl.1 rfl (Nat.le_of_ble_eq_true rfl) dX9_begin_16 ⟨Nat.le_of_ble_eq_true rfl, Nat.le_of_ble_eq_true rfl⟩ (fun u1 H locs hu1 hP hD hS => ?_)
  have hP : va_P D vwCl [e1 k a] H := hP
  have hD : va_D A [e1 k a] := hD
  refine W.widen (k := 0) (n := 0) (Nat.le_of_ble_eq_true rfl) (Nat.le_of_ble_eq_true rfl) ?_
  have hP9 := hP.sub (ws' := [e1 k a]) [0] rfl
  have hD9 := hD.sub (ws' := [e1 k a]) [0] (by decide) rfl
  refine W.widen (k := 0) (n := 0) (Nat.le_of_ble_eq_true rfl) (Nat.le_of_ble_eq_true rfl) ?_
  exact W.vret hx hb hr (fun t ht hW => ⟨⟨(), rfl, trivial, by rw [ht]; exact hP9, hD9⟩, hS.F ht⟩) hS.2.2 dX9_begin_19
set_option maxHeartbeats 4000000 in
set_option maxRecDepth 100000 in
theorem c_X9_goesOn (l : Launch) (D : va_G) (k : Nat → ClassId) (a : Nat → Nat) : Met l yX9_goesOn wsX9_goesOn ({ frames := 0, cells := 0, slots := 0, locals := 0 }) (PreR D k [e1 k a] [.ref (a 1)]) (vp_Si (fun r => r = 0)) 0 0 (fun _ => False) := by
  refine Met.ofW (cc := cX9_goesOn) (maxL := 1) (ret := (some .boolean)) (by decide) rfl ?_
  intro p e s m args below meth c s₁ B hml hv
  obtain ⟨rfl, hP, hK⟩ := hv
  have hx := B.exec
  have hb := B.bytes
  have hr := B.returns
  have hts := atoms_spec (ws := wsX9_goesOn) B.pre
  have hown : s.vm.findClass RX9 = some m.cls := findClass_of_methodNamed B.named
  have hlocks := B.notSynchronized
  have i_X9 : ∀ w ∈ wsX90, w ∈ wsX9_goesOn := by decide +kernel
  have hl := lv_entry ([.ref (a 1)]) (n := 1) (Nat.le_of_ble_eq_true rfl)
  rw [lg_entry_eq]
  generalize (lg_sl ([.ref (a 1)]) ++ List.replicate (1 - (lg_sl ([.ref (a 1)])).length) Slot.unset).toArray = ls at hl ⊢
  have hl : lv_has ls 1 [(0, .ref (a 1))] := hl
  refine lv_aload_n hx hb dX9_goesOn_0 rfl (lv_at hl 0 rfl) ?_
  refine va_get (D := D) (ci := 9) (v := .int 0) (C := RX9) (T := TX9) (N := 8) hx hb hts i_X9 hown hK hP 0 rfl rfl 3 (by decide) (hts (.fieldLink RX9 22 "BellowsRow$Tape" "fault" "I") (by decide +kernel)) (fun _ h9 => h9) rfl dX9_goesOn_1 ?_
  refine lv_if_ne (tgt := 18) hx hb dX9_goesOn_4 (by decide) (fun h => absurd (by decide) h) (fun _ => ?_)
  refine lv_aload_n hx hb dX9_goesOn_7 rfl (lv_at hl 0 rfl) ?_
  refine va_get (D := D) (ci := 9) (v := .int 0) (C := RX9) (T := TX9) (N := 8) hx hb hts i_X9 hown hK hP 0 rfl rfl 2 (by decide) (hts (.fieldLink RX9 19 "BellowsRow$Tape" "kind" "I") (by decide +kernel)) (fun _ h9 => h9) rfl dX9_goesOn_8 ?_
  refine lv_if_eq (tgt := 18) hx hb dX9_goesOn_11 (by decide) (fun _ => ?_) (fun h => absurd (by decide) h)
  refine lv_iconst (v := 0) hx hb dX9_goesOn_18 (by decide) ?_
  exact W.zret (v := 0) hx hb hr rfl (fun t ht hW => ⟨0, rfl, rfl, ht⟩) (fun q h => by cases h) dX9_goesOn_19
def wsP_X2_readWorks : List Cond := .code yX2_readWorks cX2_readWorks 2 (some (.object "BellowsRow$Works")) :: ([.fieldLink RX2 18 "BellowsRow$Parser" "tape" "LBellowsRow$Tape;", .fieldLink RX2 12 "BellowsRow$Parser" "works" "LBellowsRow$Works;"] ++ wsX20 ++ (wsV RX2 22 RX9 yX9_begin wsX9_begin) ++ (wsV RX2 27 RX9 yX9_goesOn wsX9_goesOn))
set_option maxRecDepth 20000 in
theorem gP_X2_readWorks_X9_begin : GoodIn wsP_X2_readWorks (wsV RX2 22 RX9 yX9_begin wsX9_begin) := goodIn_of _ (by decide +kernel)
set_option maxRecDepth 20000 in
theorem gP_X2_readWorks_X9_goesOn : GoodIn wsP_X2_readWorks (wsV RX2 27 RX9 yX9_goesOn wsX9_goesOn) := goodIn_of _ (by decide +kernel)
set_option maxHeartbeats 4000000 in
set_option maxRecDepth 100000 in
theorem c_X2_readWorks (l : Launch) (D : va_G) (k : Nat → ClassId) (a : Nat → Nat) (wk : Nat) (h0 : Nat) (sz : Nat) : Met l yX2_readWorks wsP_X2_readWorks ({ frames := 2, cells := 0, slots := 0, locals := 41 }) (PreM D k sz [(h0, .inr (2, [.ref (a 1), .ref wk])), e1 k a] [.ref h0]) (va_Qq (fun r (_ : Unit) => r = some wk) (WB D (va_A [(h0, .inr (2, [.ref (a 1), .ref wk])), e1 k a] sz) (fun (_ : Unit) => [e1 k a])) (va_A [(h0, .inr (2, [.ref (a 1), .ref wk])), e1 k a] sz)) 0 0 (va_A [(h0, .inr (2, [.ref (a 1), .ref wk])), e1 k a] sz) := by
  refine Met.ofW (cc := cX2_readWorks) (maxL := 2) (ret := (some (.object "BellowsRow$Works"))) (by decide) rfl ?_
  intro p e s m args below meth c s₁ B hml hv
  obtain ⟨rfl, hsz, hP, hK, hD0, hN⟩ := hv
  have hx := B.exec
  have hb := B.bytes
  have hr := B.returns
  have hts := atoms_spec (ws := wsP_X2_readWorks) B.pre
  have hown : s.vm.findClass RX2 = some m.cls := findClass_of_methodNamed B.named
  have hlocks := B.notSynchronized
  have i_X2 : ∀ w ∈ wsX20, w ∈ wsP_X2_readWorks := by decide +kernel
  subst hsz
  have hD := hD0.self (sz := s.heap.size)
  generalize hAe : va_A [(h0, .inr (2, [.ref (a 1), .ref wk])), e1 k a] s.heap.size = A at hD ⊢
  have hA : ∀ q : Nat, s.heap.size ≤ q → A q := fun q h => by rw [← hAe]; exact Or.inr h
  have hS : va_S A s.heap s.heap [] := va_S.rf
  have hP : va_P D vwCl [(h0, .inr (2, [.ref (a 1), .ref wk])), e1 k a] s.heap := hP
  have hl := lv_entry ([.ref h0]) (n := 2) (Nat.le_of_ble_eq_true rfl)
  rw [lg_entry_eq]
  generalize (lg_sl ([.ref h0]) ++ List.replicate (2 - (lg_sl ([.ref h0])).length) Slot.unset).toArray = ls at hl ⊢
  have hl : lv_has ls 2 [(0, .ref h0)] := hl
  refine lv_aload_n hx hb dX2_readWorks_0 rfl (lv_at hl 0 rfl) ?_
  refine va_get (D := D) (ci := 2) (v := .ref (a 1)) (C := RX2) (T := TX2) (N := 2) hx hb hts i_X2 hown hK hP 0 rfl rfl 0 (by decide) (hts (.fieldLink RX2 18 "BellowsRow$Parser" "tape" "LBellowsRow$Tape;") (by decide +kernel)) (fun _ h9 => h9) rfl dX2_readWorks_1 ?_
  refine mvv (C := RX9) (As := []) (rest := []) (wc := [e1 k a]) (wr := [(h0, .inr (2, [.ref (a 1), .ref wk]))]) ⟨hx, hb, hml, hown, hts⟩ (fun sz => c_X9_begin l D k a  sz) (cwV 0 hts gP_X2_readWorks_X9_begin rfl rfl rfl (by decide +kernel) ⟨Nat.le_of_ble_eq_true rfl, Nat.le_of_ble_eq_true rfl⟩) hP hK hD hN hS hA [1] [0] rfl rfl (by decide) rfl (by decide) (by decide) 1 rfl rfl rfl rfl hl.1 rfl (Nat.le_of_ble_eq_true rfl) dX2_readWorks_4 ⟨Nat.le_of_ble_eq_true rfl, Nat.le_of_ble_eq_true rfl⟩ (fun u1 H locs hu1 hP hD hS => ?_)
  have hP : va_P D vwCl [(h0, .inr (2, [.ref (a 1), .ref wk])), e1 k a] H := hP
  have hD : va_D A [(h0, .inr (2, [.ref (a 1), .ref wk])), e1 k a] := hD
  refine W.widen (k := 0) (n := 0) (Nat.le_of_ble_eq_true rfl) (Nat.le_of_ble_eq_true rfl) ?_
  refine lv_iconst (v := 0) hx hb dX2_readWorks_7 (by decide) ?_
  refine lv_istore_n (lv' := [(1, .int 0), (0, .ref h0)]) hx hb dX2_readWorks_8 rfl hl (by decide) rfl (fun ls hl => ?_)
  refine lv_iload_n hx hb dX2_readWorks_9 rfl (lv_at hl 0 rfl) ?_
  refine lv_bipush (v := 60) hx hb dX2_readWorks_10 (by decide) ?_
  refine lv_icmp_gt (tgt := 36) hx hb dX2_readWorks_12 (by decide) (fun h => absurd h (by decide)) (fun _ => ?_)
  refine lv_aload_n hx hb dX2_readWorks_15 rfl (lv_at hl 1 rfl) ?_
  refine va_get (D := D) (ci := 2) (v := .ref (a 1)) (C := RX2) (T := TX2) (N := 2) hx hb hts i_X2 hown hK hP 0 rfl rfl 0 (by decide) (hts (.fieldLink RX2 18 "BellowsRow$Parser" "tape" "LBellowsRow$Tape;") (by decide +kernel)) (fun _ h9 => h9) rfl dX2_readWorks_16 ?_
  refine pvi (C := RX9) (As := []) (rest := []) (wc := [e1 k a]) ⟨hx, hb, hml, hown, hts⟩ (c_X9_goesOn l D k a ) (cwV 0 hts gP_X2_readWorks_X9_goesOn rfl rfl rfl (by decide +kernel) ⟨Nat.le_of_ble_eq_true rfl, Nat.le_of_ble_eq_true rfl⟩) hP hK [1] rfl 1 rfl rfl rfl rfl hl.1 rfl (Nat.le_of_ble_eq_true rfl) dX2_readWorks_19 ⟨Nat.le_of_ble_eq_true rfl, Nat.le_of_ble_eq_true rfl⟩ (fun r2 hr2 => ?_)
  obtain rfl := hr2
  refine lv_if_eq (tgt := 36) hx hb dX2_readWorks_22 (by decide) (fun _ => ?_) (fun h => absurd (by decide) h)
  refine lv_aload_n hx hb dX2_readWorks_36 rfl (lv_at hl 1 rfl) ?_
  refine va_get (D := D) (ci := 2) (v := .ref wk) (C := RX2) (T := TX2) (N := 2) hx hb hts i_X2 hown hK hP 0 rfl rfl 1 (by decide) (hts (.fieldLink RX2 12 "BellowsRow$Parser" "works" "LBellowsRow$Works;") (by decide +kernel)) (fun _ h9 => h9) rfl dX2_readWorks_37 ?_
  have hP9 := hP.sub (ws' := [e1 k a]) [1] rfl
  have hD9 := hD.sub (ws' := [e1 k a]) [1] (by decide) rfl
  refine W.widen (k := 0) (n := 0) (Nat.le_of_ble_eq_true rfl) (Nat.le_of_ble_eq_true rfl) ?_
  exact W.aret (v := .ref wk) hx hb hr (Or.inl ⟨_, rfl⟩) (Or.inr ⟨_, rfl⟩) (fun t ht hW => ⟨⟨(some wk), (), rfl, rfl, by rw [ht]; exact hP9, hD9⟩, hS.F ht⟩) hS.2.2 dX2_readWorks_40
def wsP_X11_works : List Cond := .code yX11_works cX11_works 2 (some .int) :: ([.classLink RX11 84 RX2, .instantiable RX2 2, .initialized RX2, .fieldLink RX11 10 "BellowsRow" "tape" "LBellowsRow$Tape;", .methodLink RX11 86 yX2_init, .instanceMethod yX2_init, .fieldLink RX11 93 "BellowsRow$Tape" "fault" "I", .fieldLink RX11 66 "BellowsRow" "latestFault" "I", .fieldLink RX11 96 "BellowsRow$Tape" "place" "I", .fieldLink RX11 70 "BellowsRow" "latestPlace" "I", .fieldLink RX11 81 "BellowsRow$Tape" "size" "I", .fieldLink RX11 62 "BellowsRow" "now" "LBellowsRow$Works;", .fieldLink RX11 99 "BellowsRow$Works" "lines" "I"] ++ wsX100 ++ wsX110 ++ wsX20 ++ wsX90 ++ (wsX2_init) ++ (wsV RX11 89 RX2 yX2_readWorks wsP_X2_readWorks))
set_option maxRecDepth 20000 in
theorem gP_X11_works_X2_init : GoodIn wsP_X11_works (wsX2_init) := goodIn_of _ (by decide +kernel)
set_option maxRecDepth 20000 in
theorem gP_X11_works_X2_readWorks : GoodIn wsP_X11_works (wsV RX11 89 RX2 yX2_readWorks wsP_X2_readWorks) := goodIn_of _ (by decide +kernel)
set_option maxHeartbeats 4000000 in
set_option maxRecDepth 100000 in
theorem c_X11_works (l : Launch) (D : va_G) (k : Nat → ClassId) (a : Nat → Nat) (sz : Nat) : Met l yX11_works wsP_X11_works ({ frames := 4, cells := 23, slots := 421, locals := 73 }) (PreM D k sz [e0 k a, e1 k a] [.ref (a 0)]) (va_Qi (fun r (_ : Unit) => r = 0) (WB D (va_A [e0 k a, e1 k a] sz) (fun (_ : Unit) => ([] : va_W))) (va_A [e0 k a, e1 k a] sz)) 23 421 (va_A [e0 k a, e1 k a] sz) := by
  refine Met.ofW (cc := cX11_works) (maxL := 2) (ret := (some .int)) (by decide) rfl ?_
  intro p e s m args below meth c s₁ B hml hv
  obtain ⟨rfl, hsz, hP, hK, hD0, hN⟩ := hv
  have hx := B.exec
  have hb := B.bytes
  have hr := B.returns
  have hts := atoms_spec (ws := wsP_X11_works) B.pre
  have hown : s.vm.findClass RX11 = some m.cls := findClass_of_methodNamed B.named
  have hlocks := B.notSynchronized
  have i_X10 : ∀ w ∈ wsX100, w ∈ wsP_X11_works := by decide +kernel
  have i_X11 : ∀ w ∈ wsX110, w ∈ wsP_X11_works := by decide +kernel
  have i_X2 : ∀ w ∈ wsX20, w ∈ wsP_X11_works := by decide +kernel
  have i_X9 : ∀ w ∈ wsX90, w ∈ wsP_X11_works := by decide +kernel
  subst hsz
  have hD := hD0.self (sz := s.heap.size)
  generalize hAe : va_A [e0 k a, e1 k a] s.heap.size = A at hD ⊢
  have hA : ∀ q : Nat, s.heap.size ≤ q → A q := fun q h => by rw [← hAe]; exact Or.inr h
  have hS : va_S A s.heap s.heap [] := va_S.rf
  have hP : va_P D vwCl [e0 k a, e1 k a] s.heap := hP
  have hl := lv_entry ([.ref (a 0)]) (n := 2) (Nat.le_of_ble_eq_true rfl)
  rw [lg_entry_eq]
  generalize (lg_sl ([.ref (a 0)]) ++ List.replicate (2 - (lg_sl ([.ref (a 0)])).length) Slot.unset).toArray = ls at hl ⊢
  have hl : lv_has ls 2 [(0, .ref (a 0))] := hl
  refine va_new (ci := 2) (fs := [.null, .null]) (C := RX2) (T := TX2) (N := 2) hx hb hts i_X2 tyX2 tyX2_ok hown (hts (.classLink RX11 84 RX2) (by decide +kernel)) (hts (.instantiable RX2 2) (by decide +kernel)) (hts (.initialized RX2) (by decide +kernel)) hK hP hD hS hA rfl (fun j hj => by rcases (show j = 0 ∨ j = 1 by omega) with rfl | rfl <;> rfl) (Nat.le_of_ble_eq_true rfl) (Nat.le_of_ble_eq_true rfl) dX11_works_0 (fun q1 H hP hD hS => ?_)
  have hP : va_P D vwCl [e0 k a, e1 k a, (q1, .inr (2, [.null, .null]))] H := hP
  have hD : va_D A [e0 k a, e1 k a, (q1, .inr (2, [.null, .null]))] := hD
  refine W.widen (k := 1) (n := 2) (Nat.le_of_ble_eq_true rfl) (Nat.le_of_ble_eq_true rfl) ?_
  refine lv_dup hx hb dX11_works_3 rfl ?_
  refine lv_aload_n hx hb dX11_works_4 rfl (lv_at hl 0 rfl) ?_
  refine va_get (D := D) (ci := 11) (v := .ref (a 1)) (C := RX11) (T := TX11) (N := 11) hx hb hts i_X11 hown hK hP 0 rfl rfl 0 (by decide) (hts (.fieldLink RX11 10 "BellowsRow" "tape" "LBellowsRow$Tape;") (by decide +kernel)) (fun _ h9 => h9) rfl dX11_works_5 ?_
  refine mIv (As := [.ref (a 1)]) (rest := [.ref q1]) (wc := [(q1, .inr (2, [.null, .null]))]) (wr := [e0 k a, e1 k a]) ⟨hx, hb, hml, hown, hts⟩ (fun sz => c_X2_init l D k (a 1) q1 sz) (cwI 1 hts gP_X11_works_X2_init rfl rfl rfl (hts (.initialized RX2) (by decide +kernel)) (hts (.methodLink RX11 86 yX2_init) (by decide +kernel)) (hts (.instanceMethod yX2_init) (by decide +kernel)) rfl (by decide +kernel) ⟨Nat.le_of_ble_eq_true rfl, Nat.le_of_ble_eq_true rfl⟩) hP hK hD hN hS hA [2] [0, 1] rfl rfl (by decide) rfl (by decide) (by decide) rfl hl.1 rfl (Nat.le_of_ble_eq_true rfl) dX11_works_8 ⟨Nat.le_of_ble_eq_true rfl, Nat.le_of_ble_eq_true rfl⟩ (fun u2 H locs hu2 hP hD hS => ?_)
  have hP : va_P D vwCl [e0 k a, e1 k a, (q1, .inr (2, [.ref (a 1), .ref (u2 0)])), ((u2 0), .inr (10, [.ref (u2 1), .ref (u2 5), .ref (u2 10), .int 0, .int 0, .int 0, .int 0, .int 0, .int 0, .ref (u2 19), .ref (u2 20), .ref (u2 21)])), ((u2 1), .inr (1, [.int 0, .int 0, .ref (u2 2), .ref (u2 3), .ref (u2 4)])), ((u2 2), .inl (k 1, 60, .inl (fun _ => 0))), ((u2 3), .inl (k 1, 60, .inl (fun _ => 0))), ((u2 4), .inl (k 1, 60, .inl (fun _ => 0))), ((u2 5), .inr (6, [.int 0, .int 0, .ref (u2 6), .ref (u2 7), .ref (u2 8), .ref (u2 9)])), ((u2 6), .inl (k 1, 12, .inl (fun _ => 0))), ((u2 7), .inl (k 1, 12, .inl (fun _ => 0))), ((u2 8), .inl (k 1, 12, .inl (fun _ => 0))), ((u2 9), .inl (k 1, 12, .inl (fun _ => 0))), ((u2 10), .inr (4, [.int 0, .int 0, .int 0, .ref (u2 11), .ref (u2 12), .ref (u2 13), .ref (u2 14), .ref (u2 15), .ref (u2 16), .ref (u2 17), .ref (u2 18)])), ((u2 11), .inl (k 1, 12, .inl (fun _ => 0))), ((u2 12), .inl (k 1, 12, .inl (fun _ => 0))), ((u2 13), .inl (k 1, 12, .inl (fun _ => 0))), ((u2 14), .inl (k 1, 20, .inl (fun _ => 0))), ((u2 15), .inl (k 1, 20, .inl (fun _ => 0))), ((u2 16), .inl (k 1, 20, .inl (fun _ => 0))), ((u2 17), .inl (k 2, 17, .inr (.inl (fun _ => 0)))), ((u2 18), .inl (k 2, 16, .inr (.inl (fun _ => 0)))), ((u2 19), .inl (k 1, 8, .inl (fun _ => 0))), ((u2 20), .inl (k 1, 8, .inl (fun _ => 0))), ((u2 21), .inl (k 6, 12, .inr (.inr (.inr (.inr (fun _ => none))))))] H := hP
  have hD : va_D A [e0 k a, e1 k a, (q1, .inr (2, [.ref (a 1), .ref (u2 0)])), ((u2 0), .inr (10, [.ref (u2 1), .ref (u2 5), .ref (u2 10), .int 0, .int 0, .int 0, .int 0, .int 0, .int 0, .ref (u2 19), .ref (u2 20), .ref (u2 21)])), ((u2 1), .inr (1, [.int 0, .int 0, .ref (u2 2), .ref (u2 3), .ref (u2 4)])), ((u2 2), .inl (k 1, 60, .inl (fun _ => 0))), ((u2 3), .inl (k 1, 60, .inl (fun _ => 0))), ((u2 4), .inl (k 1, 60, .inl (fun _ => 0))), ((u2 5), .inr (6, [.int 0, .int 0, .ref (u2 6), .ref (u2 7), .ref (u2 8), .ref (u2 9)])), ((u2 6), .inl (k 1, 12, .inl (fun _ => 0))), ((u2 7), .inl (k 1, 12, .inl (fun _ => 0))), ((u2 8), .inl (k 1, 12, .inl (fun _ => 0))), ((u2 9), .inl (k 1, 12, .inl (fun _ => 0))), ((u2 10), .inr (4, [.int 0, .int 0, .int 0, .ref (u2 11), .ref (u2 12), .ref (u2 13), .ref (u2 14), .ref (u2 15), .ref (u2 16), .ref (u2 17), .ref (u2 18)])), ((u2 11), .inl (k 1, 12, .inl (fun _ => 0))), ((u2 12), .inl (k 1, 12, .inl (fun _ => 0))), ((u2 13), .inl (k 1, 12, .inl (fun _ => 0))), ((u2 14), .inl (k 1, 20, .inl (fun _ => 0))), ((u2 15), .inl (k 1, 20, .inl (fun _ => 0))), ((u2 16), .inl (k 1, 20, .inl (fun _ => 0))), ((u2 17), .inl (k 2, 17, .inr (.inl (fun _ => 0)))), ((u2 18), .inl (k 2, 16, .inr (.inl (fun _ => 0)))), ((u2 19), .inl (k 1, 8, .inl (fun _ => 0))), ((u2 20), .inl (k 1, 8, .inl (fun _ => 0))), ((u2 21), .inl (k 6, 12, .inr (.inr (.inr (.inr (fun _ => none))))))] := hD
  refine W.widen (k := 23) (n := 421) (Nat.le_of_ble_eq_true rfl) (Nat.le_of_ble_eq_true rfl) ?_
  refine mvq (C := RX2) (As := []) (rest := []) (wc := [(q1, .inr (2, [.ref (a 1), .ref (u2 0)])), e1 k a]) (wr := [e0 k a, ((u2 0), .inr (10, [.ref (u2 1), .ref (u2 5), .ref (u2 10), .int 0, .int 0, .int 0, .int 0, .int 0, .int 0, .ref (u2 19), .ref (u2 20), .ref (u2 21)])), ((u2 1), .inr (1, [.int 0, .int 0, .ref (u2 2), .ref (u2 3), .ref (u2 4)])), ((u2 2), .inl (k 1, 60, .inl (fun _ => 0))), ((u2 3), .inl (k 1, 60, .inl (fun _ => 0))), ((u2 4), .inl (k 1, 60, .inl (fun _ => 0))), ((u2 5), .inr (6, [.int 0, .int 0, .ref (u2 6), .ref (u2 7), .ref (u2 8), .ref (u2 9)])), ((u2 6), .inl (k 1, 12, .inl (fun _ => 0))), ((u2 7), .inl (k 1, 12, .inl (fun _ => 0))), ((u2 8), .inl (k 1, 12, .inl (fun _ => 0))), ((u2 9), .inl (k 1, 12, .inl (fun _ => 0))), ((u2 10), .inr (4, [.int 0, .int 0, .int 0, .ref (u2 11), .ref (u2 12), .ref (u2 13), .ref (u2 14), .ref (u2 15), .ref (u2 16), .ref (u2 17), .ref (u2 18)])), ((u2 11), .inl (k 1, 12, .inl (fun _ => 0))), ((u2 12), .inl (k 1, 12, .inl (fun _ => 0))), ((u2 13), .inl (k 1, 12, .inl (fun _ => 0))), ((u2 14), .inl (k 1, 20, .inl (fun _ => 0))), ((u2 15), .inl (k 1, 20, .inl (fun _ => 0))), ((u2 16), .inl (k 1, 20, .inl (fun _ => 0))), ((u2 17), .inl (k 2, 17, .inr (.inl (fun _ => 0)))), ((u2 18), .inl (k 2, 16, .inr (.inl (fun _ => 0)))), ((u2 19), .inl (k 1, 8, .inl (fun _ => 0))), ((u2 20), .inl (k 1, 8, .inl (fun _ => 0))), ((u2 21), .inl (k 6, 12, .inr (.inr (.inr (.inr (fun _ => none))))))]) ⟨hx, hb, hml, hown, hts⟩ (fun sz => c_X2_readWorks l D k a (u2 0) q1 sz) (cwV 0 hts gP_X11_works_X2_readWorks rfl rfl rfl (by decide +kernel) ⟨Nat.le_of_ble_eq_true rfl, Nat.le_of_ble_eq_true rfl⟩) hP hK hD hN hS hA [2, 1] [0, 3, 4, 5, 6, 7, 8, 9, 10, 11, 12, 13, 14, 15, 16, 17, 18, 19, 20, 21, 22, 23, 24] rfl rfl (by decide) rfl (by decide) (by decide) 2 rfl rfl rfl rfl hl.1 rfl (Nat.le_of_ble_eq_true rfl) dX11_works_11 ⟨Nat.le_of_ble_eq_true rfl, Nat.le_of_ble_eq_true rfl⟩ (fun ru3 u3 H locs hu3 hP hD hS => ?_)
  have hP : va_P D vwCl [e0 k a, ((u2 0), .inr (10, [.ref (u2 1), .ref (u2 5), .ref (u2 10), .int 0, .int 0, .int 0, .int 0, .int 0, .int 0, .ref (u2 19), .ref (u2 20), .ref (u2 21)])), ((u2 1), .inr (1, [.int 0, .int 0, .ref (u2 2), .ref (u2 3), .ref (u2 4)])), ((u2 2), .inl (k 1, 60, .inl (fun _ => 0))), ((u2 3), .inl (k 1, 60, .inl (fun _ => 0))), ((u2 4), .inl (k 1, 60, .inl (fun _ => 0))), ((u2 5), .inr (6, [.int 0, .int 0, .ref (u2 6), .ref (u2 7), .ref (u2 8), .ref (u2 9)])), ((u2 6), .inl (k 1, 12, .inl (fun _ => 0))), ((u2 7), .inl (k 1, 12, .inl (fun _ => 0))), ((u2 8), .inl (k 1, 12, .inl (fun _ => 0))), ((u2 9), .inl (k 1, 12, .inl (fun _ => 0))), ((u2 10), .inr (4, [.int 0, .int 0, .int 0, .ref (u2 11), .ref (u2 12), .ref (u2 13), .ref (u2 14), .ref (u2 15), .ref (u2 16), .ref (u2 17), .ref (u2 18)])), ((u2 11), .inl (k 1, 12, .inl (fun _ => 0))), ((u2 12), .inl (k 1, 12, .inl (fun _ => 0))), ((u2 13), .inl (k 1, 12, .inl (fun _ => 0))), ((u2 14), .inl (k 1, 20, .inl (fun _ => 0))), ((u2 15), .inl (k 1, 20, .inl (fun _ => 0))), ((u2 16), .inl (k 1, 20, .inl (fun _ => 0))), ((u2 17), .inl (k 2, 17, .inr (.inl (fun _ => 0)))), ((u2 18), .inl (k 2, 16, .inr (.inl (fun _ => 0)))), ((u2 19), .inl (k 1, 8, .inl (fun _ => 0))), ((u2 20), .inl (k 1, 8, .inl (fun _ => 0))), ((u2 21), .inl (k 6, 12, .inr (.inr (.inr (.inr (fun _ => none)))))), e1 k a] H := hP
  have hD : va_D A [e0 k a, ((u2 0), .inr (10, [.ref (u2 1), .ref (u2 5), .ref (u2 10), .int 0, .int 0, .int 0, .int 0, .int 0, .int 0, .ref (u2 19), .ref (u2 20), .ref (u2 21)])), ((u2 1), .inr (1, [.int 0, .int 0, .ref (u2 2), .ref (u2 3), .ref (u2 4)])), ((u2 2), .inl (k 1, 60, .inl (fun _ => 0))), ((u2 3), .inl (k 1, 60, .inl (fun _ => 0))), ((u2 4), .inl (k 1, 60, .inl (fun _ => 0))), ((u2 5), .inr (6, [.int 0, .int 0, .ref (u2 6), .ref (u2 7), .ref (u2 8), .ref (u2 9)])), ((u2 6), .inl (k 1, 12, .inl (fun _ => 0))), ((u2 7), .inl (k 1, 12, .inl (fun _ => 0))), ((u2 8), .inl (k 1, 12, .inl (fun _ => 0))), ((u2 9), .inl (k 1, 12, .inl (fun _ => 0))), ((u2 10), .inr (4, [.int 0, .int 0, .int 0, .ref (u2 11), .ref (u2 12), .ref (u2 13), .ref (u2 14), .ref (u2 15), .ref (u2 16), .ref (u2 17), .ref (u2 18)])), ((u2 11), .inl (k 1, 12, .inl (fun _ => 0))), ((u2 12), .inl (k 1, 12, .inl (fun _ => 0))), ((u2 13), .inl (k 1, 12, .inl (fun _ => 0))), ((u2 14), .inl (k 1, 20, .inl (fun _ => 0))), ((u2 15), .inl (k 1, 20, .inl (fun _ => 0))), ((u2 16), .inl (k 1, 20, .inl (fun _ => 0))), ((u2 17), .inl (k 2, 17, .inr (.inl (fun _ => 0)))), ((u2 18), .inl (k 2, 16, .inr (.inl (fun _ => 0)))), ((u2 19), .inl (k 1, 8, .inl (fun _ => 0))), ((u2 20), .inl (k 1, 8, .inl (fun _ => 0))), ((u2 21), .inl (k 6, 12, .inr (.inr (.inr (.inr (fun _ => none)))))), e1 k a] := hD
  refine W.widen (k := 23) (n := 421) (Nat.le_of_ble_eq_true rfl) (Nat.le_of_ble_eq_true rfl) ?_
  obtain rfl := hu3
  refine W.eq (g2 := F0 m 14 ls [.ref (u2 0)]) rfl ?_
  refine lv_astore_n (lv' := [(1, .ref (u2 0)), (0, .ref (a 0))]) hx hb dX11_works_14 rfl hl (by decide) rfl (fun ls hl => ?_)
  refine lv_aload_n hx hb dX11_works_15 rfl (lv_at hl 1 rfl) ?_
  refine lv_aload_n hx hb dX11_works_16 rfl (lv_at hl 1 rfl) ?_
  refine va_get (D := D) (ci := 11) (v := .ref (a 1)) (C := RX11) (T := TX11) (N := 11) hx hb hts i_X11 hown hK hP 0 rfl rfl 0 (by decide) (hts (.fieldLink RX11 10 "BellowsRow" "tape" "LBellowsRow$Tape;") (by decide +kernel)) (fun _ h9 => h9) rfl dX11_works_17 ?_
  refine va_get (D := D) (ci := 9) (v := .int 0) (C := RX9) (T := TX9) (N := 8) hx hb hts i_X9 hown hK hP 23 rfl rfl 3 (by decide) (hts (.fieldLink RX11 93 "BellowsRow$Tape" "fault" "I") (by decide +kernel)) (fun _ h9 => h9) rfl dX11_works_20 ?_
  refine va_put (D := D) (ci := 11) (v := .int 0) (ty := .int) (C := RX11) (T := TX11) (N := 11) hx hb hts i_X11 tyX11 tyX11_ok nmX11 hown hK hP hD hS 0 rfl rfl 9 (by decide) (hts (.fieldLink RX11 66 "BellowsRow" "latestFault" "I") (by decide +kernel)) (fun _ h9 => h9) rfl (by decide +kernel) rfl rfl (Nat.le_of_ble_eq_true rfl) dX11_works_23 (fun H locs hP hD hS => ?_)
  have hP : va_P D vwCl [((a 0), .inr (11, [.ref (a 1), .ref (a 3), .ref (a 4), .ref (a 13), .ref (a 14), .ref (a 18), .ref (a 23), .ref (a 25), .ref (a 26), .int 0, .int (-1)])), ((u2 0), .inr (10, [.ref (u2 1), .ref (u2 5), .ref (u2 10), .int 0, .int 0, .int 0, .int 0, .int 0, .int 0, .ref (u2 19), .ref (u2 20), .ref (u2 21)])), ((u2 1), .inr (1, [.int 0, .int 0, .ref (u2 2), .ref (u2 3), .ref (u2 4)])), ((u2 2), .inl (k 1, 60, .inl (fun _ => 0))), ((u2 3), .inl (k 1, 60, .inl (fun _ => 0))), ((u2 4), .inl (k 1, 60, .inl (fun _ => 0))), ((u2 5), .inr (6, [.int 0, .int 0, .ref (u2 6), .ref (u2 7), .ref (u2 8), .ref (u2 9)])), ((u2 6), .inl (k 1, 12, .inl (fun _ => 0))), ((u2 7), .inl (k 1, 12, .inl (fun _ => 0))), ((u2 8), .inl (k 1, 12, .inl (fun _ => 0))), ((u2 9), .inl (k 1, 12, .inl (fun _ => 0))), ((u2 10), .inr (4, [.int 0, .int 0, .int 0, .ref (u2 11), .ref (u2 12), .ref (u2 13), .ref (u2 14), .ref (u2 15), .ref (u2 16), .ref (u2 17), .ref (u2 18)])), ((u2 11), .inl (k 1, 12, .inl (fun _ => 0))), ((u2 12), .inl (k 1, 12, .inl (fun _ => 0))), ((u2 13), .inl (k 1, 12, .inl (fun _ => 0))), ((u2 14), .inl (k 1, 20, .inl (fun _ => 0))), ((u2 15), .inl (k 1, 20, .inl (fun _ => 0))), ((u2 16), .inl (k 1, 20, .inl (fun _ => 0))), ((u2 17), .inl (k 2, 17, .inr (.inl (fun _ => 0)))), ((u2 18), .inl (k 2, 16, .inr (.inl (fun _ => 0)))), ((u2 19), .inl (k 1, 8, .inl (fun _ => 0))), ((u2 20), .inl (k 1, 8, .inl (fun _ => 0))), ((u2 21), .inl (k 6, 12, .inr (.inr (.inr (.inr (fun _ => none)))))), e1 k a] H := hP
  have hD : va_D A [((a 0), .inr (11, [.ref (a 1), .ref (a 3), .ref (a 4), .ref (a 13), .ref (a 14), .ref (a 18), .ref (a 23), .ref (a 25), .ref (a 26), .int 0, .int (-1)])), ((u2 0), .inr (10, [.ref (u2 1), .ref (u2 5), .ref (u2 10), .int 0, .int 0, .int 0, .int 0, .int 0, .int 0, .ref (u2 19), .ref (u2 20), .ref (u2 21)])), ((u2 1), .inr (1, [.int 0, .int 0, .ref (u2 2), .ref (u2 3), .ref (u2 4)])), ((u2 2), .inl (k 1, 60, .inl (fun _ => 0))), ((u2 3), .inl (k 1, 60, .inl (fun _ => 0))), ((u2 4), .inl (k 1, 60, .inl (fun _ => 0))), ((u2 5), .inr (6, [.int 0, .int 0, .ref (u2 6), .ref (u2 7), .ref (u2 8), .ref (u2 9)])), ((u2 6), .inl (k 1, 12, .inl (fun _ => 0))), ((u2 7), .inl (k 1, 12, .inl (fun _ => 0))), ((u2 8), .inl (k 1, 12, .inl (fun _ => 0))), ((u2 9), .inl (k 1, 12, .inl (fun _ => 0))), ((u2 10), .inr (4, [.int 0, .int 0, .int 0, .ref (u2 11), .ref (u2 12), .ref (u2 13), .ref (u2 14), .ref (u2 15), .ref (u2 16), .ref (u2 17), .ref (u2 18)])), ((u2 11), .inl (k 1, 12, .inl (fun _ => 0))), ((u2 12), .inl (k 1, 12, .inl (fun _ => 0))), ((u2 13), .inl (k 1, 12, .inl (fun _ => 0))), ((u2 14), .inl (k 1, 20, .inl (fun _ => 0))), ((u2 15), .inl (k 1, 20, .inl (fun _ => 0))), ((u2 16), .inl (k 1, 20, .inl (fun _ => 0))), ((u2 17), .inl (k 2, 17, .inr (.inl (fun _ => 0)))), ((u2 18), .inl (k 2, 16, .inr (.inl (fun _ => 0)))), ((u2 19), .inl (k 1, 8, .inl (fun _ => 0))), ((u2 20), .inl (k 1, 8, .inl (fun _ => 0))), ((u2 21), .inl (k 6, 12, .inr (.inr (.inr (.inr (fun _ => none)))))), e1 k a] := hD
  refine lv_aload_n hx hb dX11_works_26 rfl (lv_at hl 1 rfl) ?_
  refine lv_aload_n hx hb dX11_works_27 rfl (lv_at hl 1 rfl) ?_
  refine va_get (D := D) (ci := 11) (v := .ref (a 1)) (C := RX11) (T := TX11) (N := 11) hx hb hts i_X11 hown hK hP 0 rfl rfl 0 (by decide) (hts (.fieldLink RX11 10 "BellowsRow" "tape" "LBellowsRow$Tape;") (by decide +kernel)) (fun _ h9 => h9) rfl dX11_works_28 ?_
  refine va_get (D := D) (ci := 9) (v := .int (-1)) (C := RX9) (T := TX9) (N := 8) hx hb hts i_X9 hown hK hP 23 rfl rfl 4 (by decide) (hts (.fieldLink RX11 96 "BellowsRow$Tape" "place" "I") (by decide +kernel)) (fun _ h9 => h9) rfl dX11_works_31 ?_
  refine va_put (D := D) (ci := 11) (v := .int (-1)) (ty := .int) (C := RX11) (T := TX11) (N := 11) hx hb hts i_X11 tyX11 tyX11_ok nmX11 hown hK hP hD hS 0 rfl rfl 10 (by decide) (hts (.fieldLink RX11 70 "BellowsRow" "latestPlace" "I") (by decide +kernel)) (fun _ h9 => h9) rfl (by decide +kernel) rfl rfl (Nat.le_of_ble_eq_true rfl) dX11_works_34 (fun H locs hP hD hS => ?_)
  have hP : va_P D vwCl [((a 0), .inr (11, [.ref (a 1), .ref (a 3), .ref (a 4), .ref (a 13), .ref (a 14), .ref (a 18), .ref (a 23), .ref (a 25), .ref (a 26), .int 0, .int (-1)])), ((u2 0), .inr (10, [.ref (u2 1), .ref (u2 5), .ref (u2 10), .int 0, .int 0, .int 0, .int 0, .int 0, .int 0, .ref (u2 19), .ref (u2 20), .ref (u2 21)])), ((u2 1), .inr (1, [.int 0, .int 0, .ref (u2 2), .ref (u2 3), .ref (u2 4)])), ((u2 2), .inl (k 1, 60, .inl (fun _ => 0))), ((u2 3), .inl (k 1, 60, .inl (fun _ => 0))), ((u2 4), .inl (k 1, 60, .inl (fun _ => 0))), ((u2 5), .inr (6, [.int 0, .int 0, .ref (u2 6), .ref (u2 7), .ref (u2 8), .ref (u2 9)])), ((u2 6), .inl (k 1, 12, .inl (fun _ => 0))), ((u2 7), .inl (k 1, 12, .inl (fun _ => 0))), ((u2 8), .inl (k 1, 12, .inl (fun _ => 0))), ((u2 9), .inl (k 1, 12, .inl (fun _ => 0))), ((u2 10), .inr (4, [.int 0, .int 0, .int 0, .ref (u2 11), .ref (u2 12), .ref (u2 13), .ref (u2 14), .ref (u2 15), .ref (u2 16), .ref (u2 17), .ref (u2 18)])), ((u2 11), .inl (k 1, 12, .inl (fun _ => 0))), ((u2 12), .inl (k 1, 12, .inl (fun _ => 0))), ((u2 13), .inl (k 1, 12, .inl (fun _ => 0))), ((u2 14), .inl (k 1, 20, .inl (fun _ => 0))), ((u2 15), .inl (k 1, 20, .inl (fun _ => 0))), ((u2 16), .inl (k 1, 20, .inl (fun _ => 0))), ((u2 17), .inl (k 2, 17, .inr (.inl (fun _ => 0)))), ((u2 18), .inl (k 2, 16, .inr (.inl (fun _ => 0)))), ((u2 19), .inl (k 1, 8, .inl (fun _ => 0))), ((u2 20), .inl (k 1, 8, .inl (fun _ => 0))), ((u2 21), .inl (k 6, 12, .inr (.inr (.inr (.inr (fun _ => none)))))), e1 k a] H := hP
  have hD : va_D A [((a 0), .inr (11, [.ref (a 1), .ref (a 3), .ref (a 4), .ref (a 13), .ref (a 14), .ref (a 18), .ref (a 23), .ref (a 25), .ref (a 26), .int 0, .int (-1)])), ((u2 0), .inr (10, [.ref (u2 1), .ref (u2 5), .ref (u2 10), .int 0, .int 0, .int 0, .int 0, .int 0, .int 0, .ref (u2 19), .ref (u2 20), .ref (u2 21)])), ((u2 1), .inr (1, [.int 0, .int 0, .ref (u2 2), .ref (u2 3), .ref (u2 4)])), ((u2 2), .inl (k 1, 60, .inl (fun _ => 0))), ((u2 3), .inl (k 1, 60, .inl (fun _ => 0))), ((u2 4), .inl (k 1, 60, .inl (fun _ => 0))), ((u2 5), .inr (6, [.int 0, .int 0, .ref (u2 6), .ref (u2 7), .ref (u2 8), .ref (u2 9)])), ((u2 6), .inl (k 1, 12, .inl (fun _ => 0))), ((u2 7), .inl (k 1, 12, .inl (fun _ => 0))), ((u2 8), .inl (k 1, 12, .inl (fun _ => 0))), ((u2 9), .inl (k 1, 12, .inl (fun _ => 0))), ((u2 10), .inr (4, [.int 0, .int 0, .int 0, .ref (u2 11), .ref (u2 12), .ref (u2 13), .ref (u2 14), .ref (u2 15), .ref (u2 16), .ref (u2 17), .ref (u2 18)])), ((u2 11), .inl (k 1, 12, .inl (fun _ => 0))), ((u2 12), .inl (k 1, 12, .inl (fun _ => 0))), ((u2 13), .inl (k 1, 12, .inl (fun _ => 0))), ((u2 14), .inl (k 1, 20, .inl (fun _ => 0))), ((u2 15), .inl (k 1, 20, .inl (fun _ => 0))), ((u2 16), .inl (k 1, 20, .inl (fun _ => 0))), ((u2 17), .inl (k 2, 17, .inr (.inl (fun _ => 0)))), ((u2 18), .inl (k 2, 16, .inr (.inl (fun _ => 0)))), ((u2 19), .inl (k 1, 8, .inl (fun _ => 0))), ((u2 20), .inl (k 1, 8, .inl (fun _ => 0))), ((u2 21), .inl (k 6, 12, .inr (.inr (.inr (.inr (fun _ => none)))))), e1 k a] := hD
  refine lv_aload_n hx hb dX11_works_37 rfl (lv_at hl 1 rfl) ?_
  refine va_get (D := D) (ci := 11) (v := .int 0) (C := RX11) (T := TX11) (N := 11) hx hb hts i_X11 hown hK hP 0 rfl rfl 9 (by decide) (hts (.fieldLink RX11 66 "BellowsRow" "latestFault" "I") (by decide +kernel)) (fun _ h9 => h9) rfl dX11_works_38 ?_
  refine lv_if_eq (tgt := 47) hx hb dX11_works_41 (by decide) (fun _ => ?_) (fun h => absurd (by decide) h)
  refine lv_aload_n hx hb dX11_works_47 rfl (lv_at hl 1 rfl) ?_
  refine va_get (D := D) (ci := 11) (v := .ref (a 1)) (C := RX11) (T := TX11) (N := 11) hx hb hts i_X11 hown hK hP 0 rfl rfl 0 (by decide) (hts (.fieldLink RX11 10 "BellowsRow" "tape" "LBellowsRow$Tape;") (by decide +kernel)) (fun _ h9 => h9) rfl dX11_works_48 ?_
  refine lv_iconst (v := 0) hx hb dX11_works_51 (by decide) ?_
  refine va_put (D := D) (ci := 9) (v := .int 0) (ty := .int) (C := RX9) (T := TX9) (N := 8) hx hb hts i_X9 tyX9 tyX9_ok nmX9 hown hK hP hD hS 23 rfl rfl 1 (by decide) (hts (.fieldLink RX11 81 "BellowsRow$Tape" "size" "I") (by decide +kernel)) (fun _ h9 => h9) rfl (by decide +kernel) rfl rfl (Nat.le_of_ble_eq_true rfl) dX11_works_52 (fun H locs hP hD hS => ?_)
  have hP : va_P D vwCl [((a 0), .inr (11, [.ref (a 1), .ref (a 3), .ref (a 4), .ref (a 13), .ref (a 14), .ref (a 18), .ref (a 23), .ref (a 25), .ref (a 26), .int 0, .int (-1)])), ((u2 0), .inr (10, [.ref (u2 1), .ref (u2 5), .ref (u2 10), .int 0, .int 0, .int 0, .int 0, .int 0, .int 0, .ref (u2 19), .ref (u2 20), .ref (u2 21)])), ((u2 1), .inr (1, [.int 0, .int 0, .ref (u2 2), .ref (u2 3), .ref (u2 4)])), ((u2 2), .inl (k 1, 60, .inl (fun _ => 0))), ((u2 3), .inl (k 1, 60, .inl (fun _ => 0))), ((u2 4), .inl (k 1, 60, .inl (fun _ => 0))), ((u2 5), .inr (6, [.int 0, .int 0, .ref (u2 6), .ref (u2 7), .ref (u2 8), .ref (u2 9)])), ((u2 6), .inl (k 1, 12, .inl (fun _ => 0))), ((u2 7), .inl (k 1, 12, .inl (fun _ => 0))), ((u2 8), .inl (k 1, 12, .inl (fun _ => 0))), ((u2 9), .inl (k 1, 12, .inl (fun _ => 0))), ((u2 10), .inr (4, [.int 0, .int 0, .int 0, .ref (u2 11), .ref (u2 12), .ref (u2 13), .ref (u2 14), .ref (u2 15), .ref (u2 16), .ref (u2 17), .ref (u2 18)])), ((u2 11), .inl (k 1, 12, .inl (fun _ => 0))), ((u2 12), .inl (k 1, 12, .inl (fun _ => 0))), ((u2 13), .inl (k 1, 12, .inl (fun _ => 0))), ((u2 14), .inl (k 1, 20, .inl (fun _ => 0))), ((u2 15), .inl (k 1, 20, .inl (fun _ => 0))), ((u2 16), .inl (k 1, 20, .inl (fun _ => 0))), ((u2 17), .inl (k 2, 17, .inr (.inl (fun _ => 0)))), ((u2 18), .inl (k 2, 16, .inr (.inl (fun _ => 0)))), ((u2 19), .inl (k 1, 8, .inl (fun _ => 0))), ((u2 20), .inl (k 1, 8, .inl (fun _ => 0))), ((u2 21), .inl (k 6, 12, .inr (.inr (.inr (.inr (fun _ => none)))))), ((a 1), .inr (9, [.ref (a 2), .int 0, .int 0, .int 0, .int (-1), .int 0, .int 0, .int 0]))] H := hP
  have hD : va_D A [((a 0), .inr (11, [.ref (a 1), .ref (a 3), .ref (a 4), .ref (a 13), .ref (a 14), .ref (a 18), .ref (a 23), .ref (a 25), .ref (a 26), .int 0, .int (-1)])), ((u2 0), .inr (10, [.ref (u2 1), .ref (u2 5), .ref (u2 10), .int 0, .int 0, .int 0, .int 0, .int 0, .int 0, .ref (u2 19), .ref (u2 20), .ref (u2 21)])), ((u2 1), .inr (1, [.int 0, .int 0, .ref (u2 2), .ref (u2 3), .ref (u2 4)])), ((u2 2), .inl (k 1, 60, .inl (fun _ => 0))), ((u2 3), .inl (k 1, 60, .inl (fun _ => 0))), ((u2 4), .inl (k 1, 60, .inl (fun _ => 0))), ((u2 5), .inr (6, [.int 0, .int 0, .ref (u2 6), .ref (u2 7), .ref (u2 8), .ref (u2 9)])), ((u2 6), .inl (k 1, 12, .inl (fun _ => 0))), ((u2 7), .inl (k 1, 12, .inl (fun _ => 0))), ((u2 8), .inl (k 1, 12, .inl (fun _ => 0))), ((u2 9), .inl (k 1, 12, .inl (fun _ => 0))), ((u2 10), .inr (4, [.int 0, .int 0, .int 0, .ref (u2 11), .ref (u2 12), .ref (u2 13), .ref (u2 14), .ref (u2 15), .ref (u2 16), .ref (u2 17), .ref (u2 18)])), ((u2 11), .inl (k 1, 12, .inl (fun _ => 0))), ((u2 12), .inl (k 1, 12, .inl (fun _ => 0))), ((u2 13), .inl (k 1, 12, .inl (fun _ => 0))), ((u2 14), .inl (k 1, 20, .inl (fun _ => 0))), ((u2 15), .inl (k 1, 20, .inl (fun _ => 0))), ((u2 16), .inl (k 1, 20, .inl (fun _ => 0))), ((u2 17), .inl (k 2, 17, .inr (.inl (fun _ => 0)))), ((u2 18), .inl (k 2, 16, .inr (.inl (fun _ => 0)))), ((u2 19), .inl (k 1, 8, .inl (fun _ => 0))), ((u2 20), .inl (k 1, 8, .inl (fun _ => 0))), ((u2 21), .inl (k 6, 12, .inr (.inr (.inr (.inr (fun _ => none)))))), ((a 1), .inr (9, [.ref (a 2), .int 0, .int 0, .int 0, .int (-1), .int 0, .int 0, .int 0]))] := hD
  refine lv_aload_n hx hb dX11_works_55 rfl (lv_at hl 1 rfl) ?_
  refine lv_aload_n hx hb dX11_works_56 rfl (lv_at hl 0 rfl) ?_
  refine va_put (D := D) (ci := 11) (v := .ref (u2 0)) (ty := .object "BellowsRow$Works") (C := RX11) (T := TX11) (N := 11) hx hb hts i_X11 tyX11 tyX11_ok nmX11 hown hK hP hD hS 0 rfl rfl 8 (by decide) (hts (.fieldLink RX11 62 "BellowsRow" "now" "LBellowsRow$Works;") (by decide +kernel)) (fun _ h9 => h9) rfl (by decide +kernel) rfl rfl (Nat.le_of_ble_eq_true rfl) dX11_works_57 (fun H locs hP hD hS => ?_)
  have hP : va_P D vwCl [((a 0), .inr (11, [.ref (a 1), .ref (a 3), .ref (a 4), .ref (a 13), .ref (a 14), .ref (a 18), .ref (a 23), .ref (a 25), .ref (u2 0), .int 0, .int (-1)])), ((u2 0), .inr (10, [.ref (u2 1), .ref (u2 5), .ref (u2 10), .int 0, .int 0, .int 0, .int 0, .int 0, .int 0, .ref (u2 19), .ref (u2 20), .ref (u2 21)])), ((u2 1), .inr (1, [.int 0, .int 0, .ref (u2 2), .ref (u2 3), .ref (u2 4)])), ((u2 2), .inl (k 1, 60, .inl (fun _ => 0))), ((u2 3), .inl (k 1, 60, .inl (fun _ => 0))), ((u2 4), .inl (k 1, 60, .inl (fun _ => 0))), ((u2 5), .inr (6, [.int 0, .int 0, .ref (u2 6), .ref (u2 7), .ref (u2 8), .ref (u2 9)])), ((u2 6), .inl (k 1, 12, .inl (fun _ => 0))), ((u2 7), .inl (k 1, 12, .inl (fun _ => 0))), ((u2 8), .inl (k 1, 12, .inl (fun _ => 0))), ((u2 9), .inl (k 1, 12, .inl (fun _ => 0))), ((u2 10), .inr (4, [.int 0, .int 0, .int 0, .ref (u2 11), .ref (u2 12), .ref (u2 13), .ref (u2 14), .ref (u2 15), .ref (u2 16), .ref (u2 17), .ref (u2 18)])), ((u2 11), .inl (k 1, 12, .inl (fun _ => 0))), ((u2 12), .inl (k 1, 12, .inl (fun _ => 0))), ((u2 13), .inl (k 1, 12, .inl (fun _ => 0))), ((u2 14), .inl (k 1, 20, .inl (fun _ => 0))), ((u2 15), .inl (k 1, 20, .inl (fun _ => 0))), ((u2 16), .inl (k 1, 20, .inl (fun _ => 0))), ((u2 17), .inl (k 2, 17, .inr (.inl (fun _ => 0)))), ((u2 18), .inl (k 2, 16, .inr (.inl (fun _ => 0)))), ((u2 19), .inl (k 1, 8, .inl (fun _ => 0))), ((u2 20), .inl (k 1, 8, .inl (fun _ => 0))), ((u2 21), .inl (k 6, 12, .inr (.inr (.inr (.inr (fun _ => none)))))), ((a 1), .inr (9, [.ref (a 2), .int 0, .int 0, .int 0, .int (-1), .int 0, .int 0, .int 0]))] H := hP
  have hD : va_D A [((a 0), .inr (11, [.ref (a 1), .ref (a 3), .ref (a 4), .ref (a 13), .ref (a 14), .ref (a 18), .ref (a 23), .ref (a 25), .ref (u2 0), .int 0, .int (-1)])), ((u2 0), .inr (10, [.ref (u2 1), .ref (u2 5), .ref (u2 10), .int 0, .int 0, .int 0, .int 0, .int 0, .int 0, .ref (u2 19), .ref (u2 20), .ref (u2 21)])), ((u2 1), .inr (1, [.int 0, .int 0, .ref (u2 2), .ref (u2 3), .ref (u2 4)])), ((u2 2), .inl (k 1, 60, .inl (fun _ => 0))), ((u2 3), .inl (k 1, 60, .inl (fun _ => 0))), ((u2 4), .inl (k 1, 60, .inl (fun _ => 0))), ((u2 5), .inr (6, [.int 0, .int 0, .ref (u2 6), .ref (u2 7), .ref (u2 8), .ref (u2 9)])), ((u2 6), .inl (k 1, 12, .inl (fun _ => 0))), ((u2 7), .inl (k 1, 12, .inl (fun _ => 0))), ((u2 8), .inl (k 1, 12, .inl (fun _ => 0))), ((u2 9), .inl (k 1, 12, .inl (fun _ => 0))), ((u2 10), .inr (4, [.int 0, .int 0, .int 0, .ref (u2 11), .ref (u2 12), .ref (u2 13), .ref (u2 14), .ref (u2 15), .ref (u2 16), .ref (u2 17), .ref (u2 18)])), ((u2 11), .inl (k 1, 12, .inl (fun _ => 0))), ((u2 12), .inl (k 1, 12, .inl (fun _ => 0))), ((u2 13), .inl (k 1, 12, .inl (fun _ => 0))), ((u2 14), .inl (k 1, 20, .inl (fun _ => 0))), ((u2 15), .inl (k 1, 20, .inl (fun _ => 0))), ((u2 16), .inl (k 1, 20, .inl (fun _ => 0))), ((u2 17), .inl (k 2, 17, .inr (.inl (fun _ => 0)))), ((u2 18), .inl (k 2, 16, .inr (.inl (fun _ => 0)))), ((u2 19), .inl (k 1, 8, .inl (fun _ => 0))), ((u2 20), .inl (k 1, 8, .inl (fun _ => 0))), ((u2 21), .inl (k 6, 12, .inr (.inr (.inr (.inr (fun _ => none)))))), ((a 1), .inr (9, [.ref (a 2), .int 0, .int 0, .int 0, .int (-1), .int 0, .int 0, .int 0]))] := hD
  refine lv_aload_n hx hb dX11_works_60 rfl (lv_at hl 1 rfl) ?_
  refine va_get (D := D) (ci := 11) (v := .ref (u2 0)) (C := RX11) (T := TX11) (N := 11) hx hb hts i_X11 hown hK hP 0 rfl rfl 8 (by decide) (hts (.fieldLink RX11 62 "BellowsRow" "now" "LBellowsRow$Works;") (by decide +kernel)) (fun _ h9 => h9) rfl dX11_works_61 ?_
  refine va_get (D := D) (ci := 10) (v := .int 0) (C := RX10) (T := TX10) (N := 12) hx hb hts i_X10 hown hK hP 1 rfl rfl 3 (by decide) (hts (.fieldLink RX11 99 "BellowsRow$Works" "lines" "I") (by decide +kernel)) (fun _ h9 => h9) rfl dX11_works_64 ?_
  have hP9 := hP.sub (ws' := []) [] rfl
  have hD9 := hD.sub (ws' := []) [] (by decide) rfl
  refine W.widen (k := 23) (n := 421) (Nat.le_of_ble_eq_true rfl) (Nat.le_of_ble_eq_true rfl) ?_
  exact W.iret (v := 0) hx hb hr (fun t ht hW => ⟨⟨0, (), rfl, rfl, by rw [ht]; exact hP9, hD9⟩, hS.F ht⟩) hS.2.2 dX11_works_67
theorem sl0_at4 {a : Nat → Nat} {x : Int32} (h : 0 ≤ x.toInt ∧ x.toInt ≤ 3) : (x.toInt = 0 ∧ sl0 a x.toNatClampNeg = some (a 5)) ∨ (x.toInt = 1 ∧ sl0 a x.toNatClampNeg = some (a 6)) ∨ (x.toInt = 2 ∧ sl0 a x.toNatClampNeg = some (a 7)) ∨ (x.toInt = 3 ∧ sl0 a x.toNatClampNeg = some (a 8)) ∨ (¬ (0 ≤ x.toInt ∧ x.toInt ≤ 3) ∧ sl0 a x.toNatClampNeg = none) := by
  obtain ⟨j, hj, rfl⟩ := vp_in_of (vp_in_iff.mpr ⟨h.1, by omega⟩ : vp_in x 4) (by decide)
  rw [nI_clamp (by omega), nI_toInt (by omega)]
  rcases (show j = 0 ∨ j = 1 ∨ j = 2 ∨ j = 3 by omega) with rfl | rfl | rfl | rfl
  · exact Or.inl ⟨rfl, rfl⟩
  · exact Or.inr (Or.inl ⟨rfl, rfl⟩)
  · exact Or.inr (Or.inr (Or.inl ⟨rfl, rfl⟩))
  · exact Or.inr (Or.inr (Or.inr (Or.inl ⟨rfl, rfl⟩)))
set_option maxHeartbeats 4000000 in
set_option maxRecDepth 100000 in
theorem c_X11_slotAt4 (l : Launch) (D : va_G) (k : Nat → ClassId) (a : Nat → Nat) (p1 : Int32) : Met l yX11_slotAt wsX11_slotAt ({ frames := 0, cells := 0, slots := 0, locals := 0 }) (PreR D k [e0 k a, e4 k a] [.ref (a 0), .int p1]) (va_Sq (fun r => (p1.toInt = 0 ∧ r = some (a 5)) ∨ (p1.toInt = 1 ∧ r = some (a 6)) ∨ (p1.toInt = 2 ∧ r = some (a 7)) ∨ (p1.toInt = 3 ∧ r = some (a 8)) ∨ (¬ (0 ≤ p1.toInt ∧ p1.toInt ≤ 3) ∧ r = none))) 0 0 (fun _ => False) := by
  refine Met.ofW (cc := cX11_slotAt) (maxL := 2) (ret := (some (.object "BellowsRow$Row"))) (by decide) rfl ?_
  intro p e s m args below meth c s₁ B hml hv
  obtain ⟨rfl, hP, hK⟩ := hv
  have hx := B.exec
  have hb := B.bytes
  have hr := B.returns
  have hts := atoms_spec (ws := wsX11_slotAt) B.pre
  have hown : s.vm.findClass RX11 = some m.cls := findClass_of_methodNamed B.named
  have hlocks := B.notSynchronized
  have i_X11 : ∀ w ∈ wsX110, w ∈ wsX11_slotAt := by decide +kernel
  have hl := lv_entry ([.ref (a 0), .int p1]) (n := 2) (Nat.le_of_ble_eq_true rfl)
  rw [lg_entry_eq]
  generalize (lg_sl ([.ref (a 0), .int p1]) ++ List.replicate (2 - (lg_sl ([.ref (a 0), .int p1])).length) Slot.unset).toArray = ls at hl ⊢
  have hl : lv_has ls 2 [(0, .ref (a 0)), (1, .int p1)] := hl
  refine lv_iload_n hx hb dX11_slotAt_0 rfl (lv_at hl 1 rfl) ?_
  refine lv_if_lt (tgt := 13) hx hb dX11_slotAt_1 (by decide) (fun c1 => ?_) (fun c1 => ?_)
  · refine lv_null hx hb dX11_slotAt_13 ?_
    refine lv_goto (tgt := 23) hx hb dX11_slotAt_14 (by decide) ?_
    exact W.aret (v := .null) hx hb hr (Or.inl ⟨_, rfl⟩) (Or.inl rfl) (fun t ht hW => ⟨none, rfl, Or.inr (Or.inr (Or.inr (Or.inr ⟨by (try simp only [i_lt, i_le, i_eq, Int32.toInt_toInt64, Int32.reduceToInt, Int64.reduceToInt] at c1 ⊢); omega, rfl⟩))), ht⟩) (fun q h => by cases h) dX11_slotAt_23
  · refine lv_iload_n hx hb dX11_slotAt_4 rfl (lv_at hl 1 rfl) ?_
    refine lv_aload_n hx hb dX11_slotAt_5 rfl (lv_at hl 0 rfl) ?_
    refine va_get (D := D) (ci := 11) (v := .ref (a 4)) (C := RX11) (T := TX11) (N := 11) hx hb hts i_X11 hown hK hP 0 rfl rfl 2 (by decide) (hts (.fieldLink RX11 25 "BellowsRow" "slots" "[LBellowsRow$Row;") (by decide +kernel)) (fun _ h9 => h9) rfl dX11_slotAt_6 ?_
    refine va_alen (v := 4) hx hb hK hP 1 4 rfl rfl rfl dX11_slotAt_9 ?_
    refine lv_icmp_lt (tgt := 17) hx hb dX11_slotAt_10 (by decide) (fun c2 => ?_) (fun c2 => ?_)
    · refine lv_aload_n hx hb dX11_slotAt_17 rfl (lv_at hl 0 rfl) ?_
      refine va_get (D := D) (ci := 11) (v := .ref (a 4)) (C := RX11) (T := TX11) (N := 11) hx hb hts i_X11 hown hK hP 0 rfl rfl 2 (by decide) (hts (.fieldLink RX11 25 "BellowsRow" "slots" "[LBellowsRow$Row;") (by decide +kernel)) (fun _ h9 => h9) rfl dX11_slotAt_18 ?_
      refine lv_iload_n hx hb dX11_slotAt_21 rfl (lv_at hl 1 rfl) ?_
      refine va_aldq hx hb hK hP 1 4 rfl rfl (vp_in_iff.mpr (by (try simp only [i_lt, i_le, i_eq, Int32.toInt_toInt64, Int32.reduceToInt, Int64.reduceToInt] at c1 c2 ⊢); omega)) dX11_slotAt_22 ?_
      exact W.aret (v := va_rf (sl0 a (p1).toNatClampNeg)) hx hb hr (Or.inl ⟨_, rfl⟩) (va_rf_or _) (fun t ht hW => ⟨(sl0 a (p1).toNatClampNeg), rfl, sl0_at4 (by (try simp only [i_lt, i_le, i_eq, Int32.toInt_toInt64, Int32.reduceToInt, Int64.reduceToInt] at c1 c2 ⊢); omega), ht⟩) (fun q h => by cases h) dX11_slotAt_23
    · refine lv_null hx hb dX11_slotAt_13 ?_
      refine lv_goto (tgt := 23) hx hb dX11_slotAt_14 (by decide) ?_
      exact W.aret (v := .null) hx hb hr (Or.inl ⟨_, rfl⟩) (Or.inl rfl) (fun t ht hW => ⟨none, rfl, Or.inr (Or.inr (Or.inr (Or.inr ⟨by (try simp only [i_lt, i_le, i_eq, Int32.toInt_toInt64, Int32.reduceToInt, Int64.reduceToInt] at c1 c2 ⊢); omega, rfl⟩))), ht⟩) (fun q h => by cases h) dX11_slotAt_23
set_option maxHeartbeats 4000000 in
set_option maxRecDepth 100000 in
theorem c_X7_begin (l : Launch) (D : va_G) (k : Nat → ClassId) (h0 h1 : Nat) (p1 : Int32) (p2 : Int32) (sz : Nat) : Met l yX7_begin wsX7_begin ({ frames := 1, cells := 0, slots := 0, locals := 17 }) (PreM D k sz [(h0, .inr (7, [.int 0, .int 0, .int 0, .ref h1])), (h1, .inl (k 2, 60, .inr (.inl (fun _ => 0))))] [.ref h0, .int p1, .int p2]) (va_Qv (fun (_ : Unit) => True) (WB D (va_A [(h0, .inr (7, [.int 0, .int 0, .int 0, .ref h1])), (h1, .inl (k 2, 60, .inr (.inl (fun _ => 0))))] sz) (fun (_ : Unit) => ([] : va_W))) (va_A [(h0, .inr (7, [.int 0, .int 0, .int 0, .ref h1])), (h1, .inl (k 2, 60, .inr (.inl (fun _ => 0))))] sz)) 0 0 (va_A [(h0, .inr (7, [.int 0, .int 0, .int 0, .ref h1])), (h1, .inl (k 2, 60, .inr (.inl (fun _ => 0))))] sz) := by
  refine Met.ofW (cc := cX7_begin) (maxL := 4) (ret := none) (by decide) rfl ?_
  intro p e s m args below meth c s₁ B hml hv
  obtain ⟨rfl, hsz, hP, hK, hD0, hN⟩ := hv
  have hx := B.exec
  have hb := B.bytes
  have hr := B.returns
  have hts := atoms_spec (ws := wsX7_begin) B.pre
  have hown : s.vm.findClass RX7 = some m.cls := findClass_of_methodNamed B.named
  have hlocks := B.notSynchronized
  have i_X7 : ∀ w ∈ wsX70, w ∈ wsX7_begin := by decide +kernel
  subst hsz
  have hD := hD0.self (sz := s.heap.size)
  generalize hAe : va_A [(h0, .inr (7, [.int 0, .int 0, .int 0, .ref h1])), (h1, .inl (k 2, 60, .inr (.inl (fun _ => 0))))] s.heap.size = A at hD ⊢
  have hA : ∀ q : Nat, s.heap.size ≤ q → A q := fun q h => by rw [← hAe]; exact Or.inr h
  have hS : va_S A s.heap s.heap [] := va_S.rf
  have hP : va_P D vwCl [(h0, .inr (7, [.int 0, .int 0, .int 0, .ref h1])), (h1, .inl (k 2, 60, .inr (.inl (fun _ => 0))))] s.heap := hP
  have hl := lv_entry ([.ref h0, .int p1, .int p2]) (n := 4) (Nat.le_of_ble_eq_true rfl)
  rw [lg_entry_eq]
  generalize (lg_sl ([.ref h0, .int p1, .int p2]) ++ List.replicate (4 - (lg_sl ([.ref h0, .int p1, .int p2])).length) Slot.unset).toArray = ls at hl ⊢
  have hl : lv_has ls 4 [(0, .ref h0), (1, .int p1), (2, .int p2)] := hl
  refine lv_aload_n hx hb dX7_begin_0 rfl (lv_at hl 0 rfl) ?_
  refine lv_iconst (v := 1) hx hb dX7_begin_1 (by decide) ?_
  refine va_put (D := D) (ci := 7) (v := .int 1) (ty := .boolean) (C := RX7) (T := TX7) (N := 4) hx hb hts i_X7 tyX7 tyX7_ok nmX7 hown hK hP hD hS 0 rfl rfl 0 (by decide) (hts (.fieldLink RX7 9 "BellowsRow$Row" "is" "Z") (by decide +kernel)) (fun _ h9 => h9) rfl (by decide +kernel) rfl rfl (Nat.le_of_ble_eq_true rfl) dX7_begin_2 (fun H locs hP hD hS => ?_)
  have hP : va_P D vwCl [(h0, .inr (7, [.int 1, .int 0, .int 0, .ref h1])), (h1, .inl (k 2, 60, .inr (.inl (fun _ => 0))))] H := hP
  have hD : va_D A [(h0, .inr (7, [.int 1, .int 0, .int 0, .ref h1])), (h1, .inl (k 2, 60, .inr (.inl (fun _ => 0))))] := hD
  refine lv_aload_n hx hb dX7_begin_5 rfl (lv_at hl 0 rfl) ?_
  refine lv_iload_n hx hb dX7_begin_6 rfl (lv_at hl 1 rfl) ?_
  refine va_put (D := D) (ci := 7) (v := .int p1) (ty := .int) (C := RX7) (T := TX7) (N := 4) hx hb hts i_X7 tyX7 tyX7_ok nmX7 hown hK hP hD hS 0 rfl rfl 1 (by decide) (hts (.fieldLink RX7 15 "BellowsRow$Row" "width" "I") (by decide +kernel)) (fun _ h9 => h9) rfl (by decide +kernel) rfl rfl (Nat.le_of_ble_eq_true rfl) dX7_begin_7 (fun H locs hP hD hS => ?_)
  have hP : va_P D vwCl [(h0, .inr (7, [.int 1, .int p1, .int 0, .ref h1])), (h1, .inl (k 2, 60, .inr (.inl (fun _ => 0))))] H := hP
  have hD : va_D A [(h0, .inr (7, [.int 1, .int p1, .int 0, .ref h1])), (h1, .inl (k 2, 60, .inr (.inl (fun _ => 0))))] := hD
  refine lv_aload_n hx hb dX7_begin_10 rfl (lv_at hl 0 rfl) ?_
  refine lv_iconst (v := 0) hx hb dX7_begin_11 (by decide) ?_
  refine lv_iload_n hx hb dX7_begin_12 rfl (lv_at hl 2 rfl) ?_
  refine lv_bipush (v := 60) hx hb dX7_begin_13 (by decide) ?_
  refine va_mmin hx hb (hml.trans hl.1.symm) hown (hts (.methodLink RX7 26 Lib.Math.min.name) (by decide +kernel)) (hts (.static Lib.Math.min.name) (by decide +kernel)) (hts (.initialized "java/lang/Math") (by decide +kernel)) (hts (.code Lib.Math.min.name Lib.Math.min.code 2 (some .int)) (by decide +kernel)) (Nat.le_of_ble_eq_true rfl) (Nat.le_of_ble_eq_true rfl) (Nat.le_of_ble_eq_true rfl) (Nat.le_of_ble_eq_true rfl) dX7_begin_15 ?_
  refine lv_topi (fun x1 ex1 => ?_)
  refine va_mmax hx hb (hml.trans hl.1.symm) hown (hts (.methodLink RX7 32 Lib.Math.max.name) (by decide +kernel)) (hts (.static Lib.Math.max.name) (by decide +kernel)) (hts (.initialized "java/lang/Math") (by decide +kernel)) (hts (.code Lib.Math.max.name Lib.Math.max.code 2 (some .int)) (by decide +kernel)) (Nat.le_of_ble_eq_true rfl) (Nat.le_of_ble_eq_true rfl) (Nat.le_of_ble_eq_true rfl) (Nat.le_of_ble_eq_true rfl) dX7_begin_18 ?_
  refine lv_topi (fun x2 ex2 => ?_)
  refine va_put (D := D) (ci := 7) (v := .int x2) (ty := .int) (C := RX7) (T := TX7) (N := 4) hx hb hts i_X7 tyX7 tyX7_ok nmX7 hown hK hP hD hS 0 rfl rfl 2 (by decide) (hts (.fieldLink RX7 19 "BellowsRow$Row" "size" "I") (by decide +kernel)) (fun _ h9 => h9) rfl (by decide +kernel) rfl rfl (Nat.le_of_ble_eq_true rfl) dX7_begin_21 (fun H locs hP hD hS => ?_)
  have hP : va_P D vwCl [(h0, .inr (7, [.int 1, .int p1, .int x2, .ref h1])), (h1, .inl (k 2, 60, .inr (.inl (fun _ => 0))))] H := hP
  have hD : va_D A [(h0, .inr (7, [.int 1, .int p1, .int x2, .ref h1])), (h1, .inl (k 2, 60, .inr (.inl (fun _ => 0))))] := hD
  refine lv_iconst (v := 0) hx hb dX7_begin_24 (by decide) ?_
  refine lv_istore_n (lv' := [(3, .int 0), (0, .ref h0), (1, .int p1), (2, .int p2)]) hx hb dX7_begin_25 rfl hl (by decide) rfl (fun ls hl => ?_)
  have lp1 : ∀ (n3 j4 : Nat) (H : Heap) (locs : List Loc) (ls : Array Slot), j4 + n3 = 60 → 0 ≤ j4 → True → va_P D vwCl [(h0, .inr (7, [.int 1, .int p1, .int x2, .ref h1])), (h1, .inl (k 2, 60, .inr (.inl (fun _ => 0))))] H → va_D A [(h0, .inr (7, [.int 1, .int p1, .int x2, .ref h1])), (h1, .inl (k 2, 60, .inr (.inl (fun _ => 0))))] → va_S A s.heap H locs → lv_has ls 4 [(3, .int (nI j4)), (0, .ref h0)] → W p l e (headSpec wsX7_begin ({ frames := 1, cells := 0, slots := 0, locals := 17 })).room s m ([.ref h0, .int p1, .int p2] : List Value).toArray below meth c H locs 0 0 (MQ below (va_Qv (fun (_ : Unit) => True) (WB D A (fun (_ : Unit) => ([] : va_W))) A) ([.ref h0, .int p1, .int p2] : List Value).toArray s 0 0 A) (F0 m 26 ls []) := by
    intro n3
    induction n3 with
    | zero =>
      intro j4 H locs ls hjlp1 hlolp1 hIlp1 hP hD hS hl
      obtain rfl : j4 = 60 := by omega
      have hl : lv_has ls 4 [(3, .int 60), (0, .ref h0)] := hl
      refine lv_iload_n hx hb dX7_begin_26 rfl (lv_at hl 0 rfl) ?_
      refine lv_aload_n hx hb dX7_begin_27 rfl (lv_at hl 1 rfl) ?_
      refine va_get (D := D) (ci := 7) (v := .ref h1) (C := RX7) (T := TX7) (N := 4) hx hb hts i_X7 hown hK hP 0 rfl rfl 3 (by decide) (hts (.fieldLink RX7 22 "BellowsRow$Row" "numbers" "[J") (by decide +kernel)) (fun _ h9 => h9) rfl dX7_begin_28 ?_
      refine va_alen (v := 60) hx hb hK hP 1 2 rfl rfl rfl dX7_begin_31 ?_
      refine lv_icmp_ge (tgt := 48) hx hb dX7_begin_32 (by decide) (fun _ => ?_) (fun h => absurd (by decide) h)
      have hP9 := hP.sub (ws' := []) [] rfl
      have hD9 := hD.sub (ws' := []) [] (by decide) rfl
      refine W.widen (k := 0) (n := 0) (Nat.le_of_ble_eq_true rfl) (Nat.le_of_ble_eq_true rfl) ?_
      exact W.vret hx hb hr (fun t ht hW => ⟨⟨(), rfl, trivial, by rw [ht]; exact hP9, hD9⟩, hS.F ht⟩) hS.2.2 dX7_begin_48
    | succ n3 ih =>
      intro j4 H locs ls hjlp1 hlolp1 hIlp1 hP hD hS hl
      have hj : j4 < 60 := by omega
      refine lv_iload_n hx hb dX7_begin_26 rfl (lv_at hl 0 rfl) ?_
      refine lv_aload_n hx hb dX7_begin_27 rfl (lv_at hl 1 rfl) ?_
      refine va_get (D := D) (ci := 7) (v := .ref h1) (C := RX7) (T := TX7) (N := 4) hx hb hts i_X7 hown hK hP 0 rfl rfl 3 (by decide) (hts (.fieldLink RX7 22 "BellowsRow$Row" "numbers" "[J") (by decide +kernel)) (fun _ h9 => h9) rfl dX7_begin_28 ?_
      refine va_alen (v := 60) hx hb hK hP 1 2 rfl rfl rfl dX7_begin_31 ?_
      refine lv_icmp_ge (tgt := 48) hx hb dX7_begin_32 (by decide) (fun h => absurd h (nI_ge (a := j4) (b := 60) (by omega) (by decide))) (fun _ => ?_)
      refine lv_aload_n hx hb dX7_begin_35 rfl (lv_at hl 1 rfl) ?_
      refine va_get (D := D) (ci := 7) (v := .ref h1) (C := RX7) (T := TX7) (N := 4) hx hb hts i_X7 hown hK hP 0 rfl rfl 3 (by decide) (hts (.fieldLink RX7 22 "BellowsRow$Row" "numbers" "[J") (by decide +kernel)) (fun _ h9 => h9) rfl dX7_begin_36 ?_
      refine lv_iload_n hx hb dX7_begin_39 rfl (lv_at hl 0 rfl) ?_
      refine lv_lconst (v := 0) hx hb dX7_begin_40 (by decide) ?_
      refine va_last hx hb hK hP hD hS 1 2 rfl rfl (vp_in_nI (by omega) (by decide)) dX7_begin_41 (fun H locs hP hD hS => ?_)
      have hP : va_P D vwCl [(h0, .inr (7, [.int 1, .int p1, .int x2, .ref h1])), (h1, .inl (k 2, 60, .inr (.inl (vp_updL (fun _ => 0) (nI j4).toNatClampNeg 0))))] H := hP
      have hD : va_D A [(h0, .inr (7, [.int 1, .int p1, .int x2, .ref h1])), (h1, .inl (k 2, 60, .inr (.inl (vp_updL (fun _ => 0) (nI j4).toNatClampNeg 0))))] := hD
      rw [updL_zero] at hP hD
      obtain ⟨x5, ex5⟩ : ∃ y : Int32, y = nI j4 + 1 := ⟨_, rfl⟩
      refine lv_iinc (v := x5) (lv' := [(3, .int x5), (0, .ref h0)]) hx hb dX7_begin_42 hl (k := 0) rfl (by rw [ex5]; rfl) (by decide) rfl (fun ls hl => ?_)
      refine lv_goto (tgt := 26) hx hb dX7_begin_45 (by decide) ?_
      obtain rfl : x5 = nI (j4 + 1) := ex5.trans (nI_1 j4)
      exact ih (j4 + 1) _ _ _ (by omega) (by omega) trivial hP hD hS (lv_sub hl [0, 1] rfl)
  exact lp1 (60) (0) _ _ _ (by decide) (by decide) trivial hP hD hS (lv_sub hl [0, 1] rfl)
set_option maxHeartbeats 4000000 in
set_option maxRecDepth 100000 in
theorem c_X11_row (l : Launch) (D : va_G) (k : Nat → ClassId) (a : Nat → Nat) (p1 : Int32) (p2 : Int32) (p3 : Int32) (sz : Nat) : Met l yX11_row wsX11_row ({ frames := 2, cells := 0, slots := 0, locals := 40 }) (PreM D k sz [e0 k a, e4 k a, e5 k a, e6 k a, e7 k a, e8 k a, e9 k a, e10 k a, e11 k a, e12 k a] [.ref (a 0), .int p1, .int p2, .int p3]) (va_Qi (fun r (_ : Unit) => ((0 ≤ p1.toInt ∧ p1.toInt ≤ 3 ∧ 0 ≤ p2.toInt ∧ p2.toInt ≤ 3 ∧ p3.toInt ≤ 60) ∧ 0 ≤ p3.toInt ∧ r = 0) ∨ ((0 ≤ p1.toInt ∧ p1.toInt ≤ 3 ∧ 0 ≤ p2.toInt ∧ p2.toInt ≤ 3 ∧ p3.toInt ≤ 60) ∧ p3.toInt < 0 ∧ r = -3) ∨ (¬ (0 ≤ p1.toInt ∧ p1.toInt ≤ 3 ∧ 0 ≤ p2.toInt ∧ p2.toInt ≤ 3 ∧ p3.toInt ≤ 60) ∧ r = -2)) (WB D (va_A [e0 k a, e4 k a, e5 k a, e6 k a, e7 k a, e8 k a, e9 k a, e10 k a, e11 k a, e12 k a] sz) (fun (_ : Unit) => ([] : va_W))) (va_A [e0 k a, e4 k a, e5 k a, e6 k a, e7 k a, e8 k a, e9 k a, e10 k a, e11 k a, e12 k a] sz)) 0 0 (va_A [e0 k a, e4 k a, e5 k a, e6 k a, e7 k a, e8 k a, e9 k a, e10 k a, e11 k a, e12 k a] sz) := by
  refine Met.ofW (cc := cX11_row) (maxL := 5) (ret := (some .int)) (by decide) rfl ?_
  intro p e s m args below meth c s₁ B hml hv
  obtain ⟨rfl, hsz, hP, hK, hD0, hN⟩ := hv
  have hx := B.exec
  have hb := B.bytes
  have hr := B.returns
  have hts := atoms_spec (ws := wsX11_row) B.pre
  have hown : s.vm.findClass RX11 = some m.cls := findClass_of_methodNamed B.named
  have hlocks := B.notSynchronized
  subst hsz
  have hD := hD0.self (sz := s.heap.size)
  generalize hAe : va_A [e0 k a, e4 k a, e5 k a, e6 k a, e7 k a, e8 k a, e9 k a, e10 k a, e11 k a, e12 k a] s.heap.size = A at hD ⊢
  have hA : ∀ q : Nat, s.heap.size ≤ q → A q := fun q h => by rw [← hAe]; exact Or.inr h
  have hS : va_S A s.heap s.heap [] := va_S.rf
  have hP : va_P D vwCl [e0 k a, e4 k a, e5 k a, e6 k a, e7 k a, e8 k a, e9 k a, e10 k a, e11 k a, e12 k a] s.heap := hP
  have hl := lv_entry ([.ref (a 0), .int p1, .int p2, .int p3]) (n := 5) (Nat.le_of_ble_eq_true rfl)
  rw [lg_entry_eq]
  generalize (lg_sl ([.ref (a 0), .int p1, .int p2, .int p3]) ++ List.replicate (5 - (lg_sl ([.ref (a 0), .int p1, .int p2, .int p3])).length) Slot.unset).toArray = ls at hl ⊢
  have hl : lv_has ls 5 [(0, .ref (a 0)), (1, .int p1), (2, .int p2), (3, .int p3)] := hl
  refine lv_aload_n hx hb dX11_row_0 rfl (lv_at hl 0 rfl) ?_
  refine lv_iload_n hx hb dX11_row_1 rfl (lv_at hl 1 rfl) ?_
  refine pvq (C := RX11) (As := [.int p1]) (rest := []) (wc := [e0 k a, e4 k a]) ⟨hx, hb, hml, hown, hts⟩ (c_X11_slotAt4 l D k a p1) (cwV 1 hts gX11_row_X11_slotAt rfl rfl rfl (by decide +kernel) ⟨Nat.le_of_ble_eq_true rfl, Nat.le_of_ble_eq_true rfl⟩) hP hK [0, 1] rfl 0 rfl rfl rfl rfl hl.1 rfl (Nat.le_of_ble_eq_true rfl) dX11_row_2 ⟨Nat.le_of_ble_eq_true rfl, Nat.le_of_ble_eq_true rfl⟩ (fun r1 hr1 => ?_)
  rcases hr1 with ⟨g2, rfl⟩ | ⟨g2, rfl⟩ | ⟨g2, rfl⟩ | ⟨g2, rfl⟩ | ⟨g2, rfl⟩
  · refine W.eq (g2 := F0 m 5 ls [.ref (a 5)]) rfl ?_
    refine lv_astore (lv' := [(4, .ref (a 5)), (0, .ref (a 0)), (1, .int p1), (2, .int p2), (3, .int p3)]) hx hb dX11_row_5 hl (by decide) rfl (fun ls hl => ?_)
    refine lv_aload hx hb dX11_row_7 (lv_at hl 0 rfl) ?_
    refine lv_ifnull hx hb dX11_row_9 ?_
    refine lv_iload_n hx hb dX11_row_12 rfl (lv_at hl 3 rfl) ?_
    refine lv_if_lt (tgt := 27) hx hb dX11_row_13 (by decide) (fun c3 => ?_) (fun c3 => ?_)
    · refine lv_bipush (v := (-2)) hx hb dX11_row_27 (by decide) ?_
      have hP9 := hP.sub (ws' := []) [] rfl
      have hD9 := hD.sub (ws' := []) [] (by decide) rfl
      refine W.widen (k := 0) (n := 0) (Nat.le_of_ble_eq_true rfl) (Nat.le_of_ble_eq_true rfl) ?_
      exact W.iret (v := (-2)) hx hb hr (fun t ht hW => ⟨⟨(-2), (), rfl, Or.inr (Or.inr ⟨by (try simp only [i_lt, i_le, i_eq, Int32.toInt_toInt64, Int32.reduceToInt, Int64.reduceToInt] at g2 c3 ⊢); omega, rfl⟩), by rw [ht]; exact hP9, hD9⟩, hS.F ht⟩) hS.2.2 dX11_row_29
    · refine lv_iload_n hx hb dX11_row_16 rfl (lv_at hl 3 rfl) ?_
      refine lv_iconst (v := 3) hx hb dX11_row_17 (by decide) ?_
      refine lv_icmp_gt (tgt := 27) hx hb dX11_row_18 (by decide) (fun c4 => ?_) (fun c4 => ?_)
      · refine lv_bipush (v := (-2)) hx hb dX11_row_27 (by decide) ?_
        have hP9 := hP.sub (ws' := []) [] rfl
        have hD9 := hD.sub (ws' := []) [] (by decide) rfl
        refine W.widen (k := 0) (n := 0) (Nat.le_of_ble_eq_true rfl) (Nat.le_of_ble_eq_true rfl) ?_
        exact W.iret (v := (-2)) hx hb hr (fun t ht hW => ⟨⟨(-2), (), rfl, Or.inr (Or.inr ⟨by (try simp only [i_lt, i_le, i_eq, Int32.toInt_toInt64, Int32.reduceToInt, Int64.reduceToInt] at g2 c3 c4 ⊢); omega, rfl⟩), by rw [ht]; exact hP9, hD9⟩, hS.F ht⟩) hS.2.2 dX11_row_29
      · refine lv_iload_n hx hb dX11_row_21 rfl (lv_at hl 4 rfl) ?_
        refine lv_bipush (v := 60) hx hb dX11_row_22 (by decide) ?_
        refine lv_icmp_le (tgt := 30) hx hb dX11_row_24 (by decide) (fun c5 => ?_) (fun c5 => ?_)
        · refine lv_iload_n hx hb dX11_row_30 rfl (lv_at hl 4 rfl) ?_
          refine lv_if_ge (tgt := 37) hx hb dX11_row_31 (by decide) (fun c6 => ?_) (fun c6 => ?_)
          · refine lv_aload hx hb dX11_row_37 (lv_at hl 0 rfl) ?_
            refine lv_iload_n hx hb dX11_row_39 rfl (lv_at hl 3 rfl) ?_
            refine lv_iload_n hx hb dX11_row_40 rfl (lv_at hl 4 rfl) ?_
            refine mvv (C := RX7) (As := [.int p2, .int p3]) (rest := []) (wc := [e5 k a, e9 k a]) (wr := [e0 k a, e4 k a, e6 k a, e7 k a, e8 k a, e10 k a, e11 k a, e12 k a]) ⟨hx, hb, hml, hown, hts⟩ (fun sz => c_X7_begin l D k (a 5) (a 9) p2 p3 sz) (cwV 2 hts gX11_row_X7_begin rfl rfl rfl (by decide +kernel) ⟨Nat.le_of_ble_eq_true rfl, Nat.le_of_ble_eq_true rfl⟩) hP hK hD hN hS hA [2, 6] [0, 1, 3, 4, 5, 7, 8, 9] rfl rfl (by decide) rfl (by decide) (by decide) 2 rfl rfl rfl rfl hl.1 rfl (Nat.le_of_ble_eq_true rfl) dX11_row_41 ⟨Nat.le_of_ble_eq_true rfl, Nat.le_of_ble_eq_true rfl⟩ (fun u7 H locs hu7 hP hD hS => ?_)
            have hP : va_P D vwCl [e0 k a, e4 k a, e6 k a, e7 k a, e8 k a, e10 k a, e11 k a, e12 k a] H := hP
            have hD : va_D A [e0 k a, e4 k a, e6 k a, e7 k a, e8 k a, e10 k a, e11 k a, e12 k a] := hD
            refine W.widen (k := 0) (n := 0) (Nat.le_of_ble_eq_true rfl) (Nat.le_of_ble_eq_true rfl) ?_
            refine lv_iconst (v := 0) hx hb dX11_row_44 (by decide) ?_
            have hP9 := hP.sub (ws' := []) [] rfl
            have hD9 := hD.sub (ws' := []) [] (by decide) rfl
            refine W.widen (k := 0) (n := 0) (Nat.le_of_ble_eq_true rfl) (Nat.le_of_ble_eq_true rfl) ?_
            exact W.iret (v := 0) hx hb hr (fun t ht hW => ⟨⟨0, (), rfl, Or.inl ⟨by (try simp only [i_lt, i_le, i_eq, Int32.toInt_toInt64, Int32.reduceToInt, Int64.reduceToInt] at g2 c3 c4 c5 c6 ⊢); omega, by (try simp only [i_lt, i_le, i_eq, Int32.toInt_toInt64, Int32.reduceToInt, Int64.reduceToInt] at g2 c3 c4 c5 c6 ⊢); omega, rfl⟩, by rw [ht]; exact hP9, hD9⟩, hS.F ht⟩) hS.2.2 dX11_row_45
          · refine lv_bipush (v := (-3)) hx hb dX11_row_34 (by decide) ?_
            have hP9 := hP.sub (ws' := []) [] rfl
            have hD9 := hD.sub (ws' := []) [] (by decide) rfl
            refine W.widen (k := 0) (n := 0) (Nat.le_of_ble_eq_true rfl) (Nat.le_of_ble_eq_true rfl) ?_
            exact W.iret (v := (-3)) hx hb hr (fun t ht hW => ⟨⟨(-3), (), rfl, Or.inr (Or.inl ⟨by (try simp only [i_lt, i_le, i_eq, Int32.toInt_toInt64, Int32.reduceToInt, Int64.reduceToInt] at g2 c3 c4 c5 c6 ⊢); omega, by (try simp only [i_lt, i_le, i_eq, Int32.toInt_toInt64, Int32.reduceToInt, Int64.reduceToInt] at g2 c3 c4 c5 c6 ⊢); omega, rfl⟩), by rw [ht]; exact hP9, hD9⟩, hS.F ht⟩) hS.2.2 dX11_row_36
        · refine lv_bipush (v := (-2)) hx hb dX11_row_27 (by decide) ?_
          have hP9 := hP.sub (ws' := []) [] rfl
          have hD9 := hD.sub (ws' := []) [] (by decide) rfl
          refine W.widen (k := 0) (n := 0) (Nat.le_of_ble_eq_true rfl) (Nat.le_of_ble_eq_true rfl) ?_
          exact W.iret (v := (-2)) hx hb hr (fun t ht hW => ⟨⟨(-2), (), rfl, Or.inr (Or.inr ⟨by (try simp only [i_lt, i_le, i_eq, Int32.toInt_toInt64, Int32.reduceToInt, Int64.reduceToInt] at g2 c3 c4 c5 ⊢); omega, rfl⟩), by rw [ht]; exact hP9, hD9⟩, hS.F ht⟩) hS.2.2 dX11_row_29
  · refine W.eq (g2 := F0 m 5 ls [.ref (a 6)]) rfl ?_
    refine lv_astore (lv' := [(4, .ref (a 6)), (0, .ref (a 0)), (1, .int p1), (2, .int p2), (3, .int p3)]) hx hb dX11_row_5 hl (by decide) rfl (fun ls hl => ?_)
    refine lv_aload hx hb dX11_row_7 (lv_at hl 0 rfl) ?_
    refine lv_ifnull hx hb dX11_row_9 ?_
    refine lv_iload_n hx hb dX11_row_12 rfl (lv_at hl 3 rfl) ?_
    refine lv_if_lt (tgt := 27) hx hb dX11_row_13 (by decide) (fun c8 => ?_) (fun c8 => ?_)
    · refine lv_bipush (v := (-2)) hx hb dX11_row_27 (by decide) ?_
      have hP9 := hP.sub (ws' := []) [] rfl
      have hD9 := hD.sub (ws' := []) [] (by decide) rfl
      refine W.widen (k := 0) (n := 0) (Nat.le_of_ble_eq_true rfl) (Nat.le_of_ble_eq_true rfl) ?_
      exact W.iret (v := (-2)) hx hb hr (fun t ht hW => ⟨⟨(-2), (), rfl, Or.inr (Or.inr ⟨by (try simp only [i_lt, i_le, i_eq, Int32.toInt_toInt64, Int32.reduceToInt, Int64.reduceToInt] at g2 c8 ⊢); omega, rfl⟩), by rw [ht]; exact hP9, hD9⟩, hS.F ht⟩) hS.2.2 dX11_row_29
    · refine lv_iload_n hx hb dX11_row_16 rfl (lv_at hl 3 rfl) ?_
      refine lv_iconst (v := 3) hx hb dX11_row_17 (by decide) ?_
      refine lv_icmp_gt (tgt := 27) hx hb dX11_row_18 (by decide) (fun c9 => ?_) (fun c9 => ?_)
      · refine lv_bipush (v := (-2)) hx hb dX11_row_27 (by decide) ?_
        have hP9 := hP.sub (ws' := []) [] rfl
        have hD9 := hD.sub (ws' := []) [] (by decide) rfl
        refine W.widen (k := 0) (n := 0) (Nat.le_of_ble_eq_true rfl) (Nat.le_of_ble_eq_true rfl) ?_
        exact W.iret (v := (-2)) hx hb hr (fun t ht hW => ⟨⟨(-2), (), rfl, Or.inr (Or.inr ⟨by (try simp only [i_lt, i_le, i_eq, Int32.toInt_toInt64, Int32.reduceToInt, Int64.reduceToInt] at g2 c8 c9 ⊢); omega, rfl⟩), by rw [ht]; exact hP9, hD9⟩, hS.F ht⟩) hS.2.2 dX11_row_29
      · refine lv_iload_n hx hb dX11_row_21 rfl (lv_at hl 4 rfl) ?_
        refine lv_bipush (v := 60) hx hb dX11_row_22 (by decide) ?_
        refine lv_icmp_le (tgt := 30) hx hb dX11_row_24 (by decide) (fun c10 => ?_) (fun c10 => ?_)
        · refine lv_iload_n hx hb dX11_row_30 rfl (lv_at hl 4 rfl) ?_
          refine lv_if_ge (tgt := 37) hx hb dX11_row_31 (by decide) (fun c11 => ?_) (fun c11 => ?_)
          · refine lv_aload hx hb dX11_row_37 (lv_at hl 0 rfl) ?_
            refine lv_iload_n hx hb dX11_row_39 rfl (lv_at hl 3 rfl) ?_
            refine lv_iload_n hx hb dX11_row_40 rfl (lv_at hl 4 rfl) ?_
            refine mvv (C := RX7) (As := [.int p2, .int p3]) (rest := []) (wc := [e6 k a, e10 k a]) (wr := [e0 k a, e4 k a, e5 k a, e7 k a, e8 k a, e9 k a, e11 k a, e12 k a]) ⟨hx, hb, hml, hown, hts⟩ (fun sz => c_X7_begin l D k (a 6) (a 10) p2 p3 sz) (cwV 2 hts gX11_row_X7_begin rfl rfl rfl (by decide +kernel) ⟨Nat.le_of_ble_eq_true rfl, Nat.le_of_ble_eq_true rfl⟩) hP hK hD hN hS hA [3, 7] [0, 1, 2, 4, 5, 6, 8, 9] rfl rfl (by decide) rfl (by decide) (by decide) 3 rfl rfl rfl rfl hl.1 rfl (Nat.le_of_ble_eq_true rfl) dX11_row_41 ⟨Nat.le_of_ble_eq_true rfl, Nat.le_of_ble_eq_true rfl⟩ (fun u12 H locs hu12 hP hD hS => ?_)
            have hP : va_P D vwCl [e0 k a, e4 k a, e5 k a, e7 k a, e8 k a, e9 k a, e11 k a, e12 k a] H := hP
            have hD : va_D A [e0 k a, e4 k a, e5 k a, e7 k a, e8 k a, e9 k a, e11 k a, e12 k a] := hD
            refine W.widen (k := 0) (n := 0) (Nat.le_of_ble_eq_true rfl) (Nat.le_of_ble_eq_true rfl) ?_
            refine lv_iconst (v := 0) hx hb dX11_row_44 (by decide) ?_
            have hP9 := hP.sub (ws' := []) [] rfl
            have hD9 := hD.sub (ws' := []) [] (by decide) rfl
            refine W.widen (k := 0) (n := 0) (Nat.le_of_ble_eq_true rfl) (Nat.le_of_ble_eq_true rfl) ?_
            exact W.iret (v := 0) hx hb hr (fun t ht hW => ⟨⟨0, (), rfl, Or.inl ⟨by (try simp only [i_lt, i_le, i_eq, Int32.toInt_toInt64, Int32.reduceToInt, Int64.reduceToInt] at g2 c8 c9 c10 c11 ⊢); omega, by (try simp only [i_lt, i_le, i_eq, Int32.toInt_toInt64, Int32.reduceToInt, Int64.reduceToInt] at g2 c8 c9 c10 c11 ⊢); omega, rfl⟩, by rw [ht]; exact hP9, hD9⟩, hS.F ht⟩) hS.2.2 dX11_row_45
          · refine lv_bipush (v := (-3)) hx hb dX11_row_34 (by decide) ?_
            have hP9 := hP.sub (ws' := []) [] rfl
            have hD9 := hD.sub (ws' := []) [] (by decide) rfl
            refine W.widen (k := 0) (n := 0) (Nat.le_of_ble_eq_true rfl) (Nat.le_of_ble_eq_true rfl) ?_
            exact W.iret (v := (-3)) hx hb hr (fun t ht hW => ⟨⟨(-3), (), rfl, Or.inr (Or.inl ⟨by (try simp only [i_lt, i_le, i_eq, Int32.toInt_toInt64, Int32.reduceToInt, Int64.reduceToInt] at g2 c8 c9 c10 c11 ⊢); omega, by (try simp only [i_lt, i_le, i_eq, Int32.toInt_toInt64, Int32.reduceToInt, Int64.reduceToInt] at g2 c8 c9 c10 c11 ⊢); omega, rfl⟩), by rw [ht]; exact hP9, hD9⟩, hS.F ht⟩) hS.2.2 dX11_row_36
        · refine lv_bipush (v := (-2)) hx hb dX11_row_27 (by decide) ?_
          have hP9 := hP.sub (ws' := []) [] rfl
          have hD9 := hD.sub (ws' := []) [] (by decide) rfl
          refine W.widen (k := 0) (n := 0) (Nat.le_of_ble_eq_true rfl) (Nat.le_of_ble_eq_true rfl) ?_
          exact W.iret (v := (-2)) hx hb hr (fun t ht hW => ⟨⟨(-2), (), rfl, Or.inr (Or.inr ⟨by (try simp only [i_lt, i_le, i_eq, Int32.toInt_toInt64, Int32.reduceToInt, Int64.reduceToInt] at g2 c8 c9 c10 ⊢); omega, rfl⟩), by rw [ht]; exact hP9, hD9⟩, hS.F ht⟩) hS.2.2 dX11_row_29
  · refine W.eq (g2 := F0 m 5 ls [.ref (a 7)]) rfl ?_
    refine lv_astore (lv' := [(4, .ref (a 7)), (0, .ref (a 0)), (1, .int p1), (2, .int p2), (3, .int p3)]) hx hb dX11_row_5 hl (by decide) rfl (fun ls hl => ?_)
    refine lv_aload hx hb dX11_row_7 (lv_at hl 0 rfl) ?_
    refine lv_ifnull hx hb dX11_row_9 ?_
    refine lv_iload_n hx hb dX11_row_12 rfl (lv_at hl 3 rfl) ?_
    refine lv_if_lt (tgt := 27) hx hb dX11_row_13 (by decide) (fun c13 => ?_) (fun c13 => ?_)
    · refine lv_bipush (v := (-2)) hx hb dX11_row_27 (by decide) ?_
      have hP9 := hP.sub (ws' := []) [] rfl
      have hD9 := hD.sub (ws' := []) [] (by decide) rfl
      refine W.widen (k := 0) (n := 0) (Nat.le_of_ble_eq_true rfl) (Nat.le_of_ble_eq_true rfl) ?_
      exact W.iret (v := (-2)) hx hb hr (fun t ht hW => ⟨⟨(-2), (), rfl, Or.inr (Or.inr ⟨by (try simp only [i_lt, i_le, i_eq, Int32.toInt_toInt64, Int32.reduceToInt, Int64.reduceToInt] at g2 c13 ⊢); omega, rfl⟩), by rw [ht]; exact hP9, hD9⟩, hS.F ht⟩) hS.2.2 dX11_row_29
    · refine lv_iload_n hx hb dX11_row_16 rfl (lv_at hl 3 rfl) ?_
      refine lv_iconst (v := 3) hx hb dX11_row_17 (by decide) ?_
      refine lv_icmp_gt (tgt := 27) hx hb dX11_row_18 (by decide) (fun c14 => ?_) (fun c14 => ?_)
      · refine lv_bipush (v := (-2)) hx hb dX11_row_27 (by decide) ?_
        have hP9 := hP.sub (ws' := []) [] rfl
        have hD9 := hD.sub (ws' := []) [] (by decide) rfl
        refine W.widen (k := 0) (n := 0) (Nat.le_of_ble_eq_true rfl) (Nat.le_of_ble_eq_true rfl) ?_
        exact W.iret (v := (-2)) hx hb hr (fun t ht hW => ⟨⟨(-2), (), rfl, Or.inr (Or.inr ⟨by (try simp only [i_lt, i_le, i_eq, Int32.toInt_toInt64, Int32.reduceToInt, Int64.reduceToInt] at g2 c13 c14 ⊢); omega, rfl⟩), by rw [ht]; exact hP9, hD9⟩, hS.F ht⟩) hS.2.2 dX11_row_29
      · refine lv_iload_n hx hb dX11_row_21 rfl (lv_at hl 4 rfl) ?_
        refine lv_bipush (v := 60) hx hb dX11_row_22 (by decide) ?_
        refine lv_icmp_le (tgt := 30) hx hb dX11_row_24 (by decide) (fun c15 => ?_) (fun c15 => ?_)
        · refine lv_iload_n hx hb dX11_row_30 rfl (lv_at hl 4 rfl) ?_
          refine lv_if_ge (tgt := 37) hx hb dX11_row_31 (by decide) (fun c16 => ?_) (fun c16 => ?_)
          · refine lv_aload hx hb dX11_row_37 (lv_at hl 0 rfl) ?_
            refine lv_iload_n hx hb dX11_row_39 rfl (lv_at hl 3 rfl) ?_
            refine lv_iload_n hx hb dX11_row_40 rfl (lv_at hl 4 rfl) ?_
            refine mvv (C := RX7) (As := [.int p2, .int p3]) (rest := []) (wc := [e7 k a, e11 k a]) (wr := [e0 k a, e4 k a, e5 k a, e6 k a, e8 k a, e9 k a, e10 k a, e12 k a]) ⟨hx, hb, hml, hown, hts⟩ (fun sz => c_X7_begin l D k (a 7) (a 11) p2 p3 sz) (cwV 2 hts gX11_row_X7_begin rfl rfl rfl (by decide +kernel) ⟨Nat.le_of_ble_eq_true rfl, Nat.le_of_ble_eq_true rfl⟩) hP hK hD hN hS hA [4, 8] [0, 1, 2, 3, 5, 6, 7, 9] rfl rfl (by decide) rfl (by decide) (by decide) 4 rfl rfl rfl rfl hl.1 rfl (Nat.le_of_ble_eq_true rfl) dX11_row_41 ⟨Nat.le_of_ble_eq_true rfl, Nat.le_of_ble_eq_true rfl⟩ (fun u17 H locs hu17 hP hD hS => ?_)
            have hP : va_P D vwCl [e0 k a, e4 k a, e5 k a, e6 k a, e8 k a, e9 k a, e10 k a, e12 k a] H := hP
            have hD : va_D A [e0 k a, e4 k a, e5 k a, e6 k a, e8 k a, e9 k a, e10 k a, e12 k a] := hD
            refine W.widen (k := 0) (n := 0) (Nat.le_of_ble_eq_true rfl) (Nat.le_of_ble_eq_true rfl) ?_
            refine lv_iconst (v := 0) hx hb dX11_row_44 (by decide) ?_
            have hP9 := hP.sub (ws' := []) [] rfl
            have hD9 := hD.sub (ws' := []) [] (by decide) rfl
            refine W.widen (k := 0) (n := 0) (Nat.le_of_ble_eq_true rfl) (Nat.le_of_ble_eq_true rfl) ?_
            exact W.iret (v := 0) hx hb hr (fun t ht hW => ⟨⟨0, (), rfl, Or.inl ⟨by (try simp only [i_lt, i_le, i_eq, Int32.toInt_toInt64, Int32.reduceToInt, Int64.reduceToInt] at g2 c13 c14 c15 c16 ⊢); omega, by (try simp only [i_lt, i_le, i_eq, Int32.toInt_toInt64, Int32.reduceToInt, Int64.reduceToInt] at g2 c13 c14 c15 c16 ⊢); omega, rfl⟩, by rw [ht]; exact hP9, hD9⟩, hS.F ht⟩) hS.2.2 dX11_row_45
          · refine lv_bipush (v := (-3)) hx hb dX11_row_34 (by decide) ?_
            have hP9 := hP.sub (ws' := []) [] rfl
            have hD9 := hD.sub (ws' := []) [] (by decide) rfl
            refine W.widen (k := 0) (n := 0) (Nat.le_of_ble_eq_true rfl) (Nat.le_of_ble_eq_true rfl) ?_
            exact W.iret (v := (-3)) hx hb hr (fun t ht hW => ⟨⟨(-3), (), rfl, Or.inr (Or.inl ⟨by (try simp only [i_lt, i_le, i_eq, Int32.toInt_toInt64, Int32.reduceToInt, Int64.reduceToInt] at g2 c13 c14 c15 c16 ⊢); omega, by (try simp only [i_lt, i_le, i_eq, Int32.toInt_toInt64, Int32.reduceToInt, Int64.reduceToInt] at g2 c13 c14 c15 c16 ⊢); omega, rfl⟩), by rw [ht]; exact hP9, hD9⟩, hS.F ht⟩) hS.2.2 dX11_row_36
        · refine lv_bipush (v := (-2)) hx hb dX11_row_27 (by decide) ?_
          have hP9 := hP.sub (ws' := []) [] rfl
          have hD9 := hD.sub (ws' := []) [] (by decide) rfl
          refine W.widen (k := 0) (n := 0) (Nat.le_of_ble_eq_true rfl) (Nat.le_of_ble_eq_true rfl) ?_
          exact W.iret (v := (-2)) hx hb hr (fun t ht hW => ⟨⟨(-2), (), rfl, Or.inr (Or.inr ⟨by (try simp only [i_lt, i_le, i_eq, Int32.toInt_toInt64, Int32.reduceToInt, Int64.reduceToInt] at g2 c13 c14 c15 ⊢); omega, rfl⟩), by rw [ht]; exact hP9, hD9⟩, hS.F ht⟩) hS.2.2 dX11_row_29
  · refine W.eq (g2 := F0 m 5 ls [.ref (a 8)]) rfl ?_
    refine lv_astore (lv' := [(4, .ref (a 8)), (0, .ref (a 0)), (1, .int p1), (2, .int p2), (3, .int p3)]) hx hb dX11_row_5 hl (by decide) rfl (fun ls hl => ?_)
    refine lv_aload hx hb dX11_row_7 (lv_at hl 0 rfl) ?_
    refine lv_ifnull hx hb dX11_row_9 ?_
    refine lv_iload_n hx hb dX11_row_12 rfl (lv_at hl 3 rfl) ?_
    refine lv_if_lt (tgt := 27) hx hb dX11_row_13 (by decide) (fun c18 => ?_) (fun c18 => ?_)
    · refine lv_bipush (v := (-2)) hx hb dX11_row_27 (by decide) ?_
      have hP9 := hP.sub (ws' := []) [] rfl
      have hD9 := hD.sub (ws' := []) [] (by decide) rfl
      refine W.widen (k := 0) (n := 0) (Nat.le_of_ble_eq_true rfl) (Nat.le_of_ble_eq_true rfl) ?_
      exact W.iret (v := (-2)) hx hb hr (fun t ht hW => ⟨⟨(-2), (), rfl, Or.inr (Or.inr ⟨by (try simp only [i_lt, i_le, i_eq, Int32.toInt_toInt64, Int32.reduceToInt, Int64.reduceToInt] at g2 c18 ⊢); omega, rfl⟩), by rw [ht]; exact hP9, hD9⟩, hS.F ht⟩) hS.2.2 dX11_row_29
    · refine lv_iload_n hx hb dX11_row_16 rfl (lv_at hl 3 rfl) ?_
      refine lv_iconst (v := 3) hx hb dX11_row_17 (by decide) ?_
      refine lv_icmp_gt (tgt := 27) hx hb dX11_row_18 (by decide) (fun c19 => ?_) (fun c19 => ?_)
      · refine lv_bipush (v := (-2)) hx hb dX11_row_27 (by decide) ?_
        have hP9 := hP.sub (ws' := []) [] rfl
        have hD9 := hD.sub (ws' := []) [] (by decide) rfl
        refine W.widen (k := 0) (n := 0) (Nat.le_of_ble_eq_true rfl) (Nat.le_of_ble_eq_true rfl) ?_
        exact W.iret (v := (-2)) hx hb hr (fun t ht hW => ⟨⟨(-2), (), rfl, Or.inr (Or.inr ⟨by (try simp only [i_lt, i_le, i_eq, Int32.toInt_toInt64, Int32.reduceToInt, Int64.reduceToInt] at g2 c18 c19 ⊢); omega, rfl⟩), by rw [ht]; exact hP9, hD9⟩, hS.F ht⟩) hS.2.2 dX11_row_29
      · refine lv_iload_n hx hb dX11_row_21 rfl (lv_at hl 4 rfl) ?_
        refine lv_bipush (v := 60) hx hb dX11_row_22 (by decide) ?_
        refine lv_icmp_le (tgt := 30) hx hb dX11_row_24 (by decide) (fun c20 => ?_) (fun c20 => ?_)
        · refine lv_iload_n hx hb dX11_row_30 rfl (lv_at hl 4 rfl) ?_
          refine lv_if_ge (tgt := 37) hx hb dX11_row_31 (by decide) (fun c21 => ?_) (fun c21 => ?_)
          · refine lv_aload hx hb dX11_row_37 (lv_at hl 0 rfl) ?_
            refine lv_iload_n hx hb dX11_row_39 rfl (lv_at hl 3 rfl) ?_
            refine lv_iload_n hx hb dX11_row_40 rfl (lv_at hl 4 rfl) ?_
            refine mvv (C := RX7) (As := [.int p2, .int p3]) (rest := []) (wc := [e8 k a, e12 k a]) (wr := [e0 k a, e4 k a, e5 k a, e6 k a, e7 k a, e9 k a, e10 k a, e11 k a]) ⟨hx, hb, hml, hown, hts⟩ (fun sz => c_X7_begin l D k (a 8) (a 12) p2 p3 sz) (cwV 2 hts gX11_row_X7_begin rfl rfl rfl (by decide +kernel) ⟨Nat.le_of_ble_eq_true rfl, Nat.le_of_ble_eq_true rfl⟩) hP hK hD hN hS hA [5, 9] [0, 1, 2, 3, 4, 6, 7, 8] rfl rfl (by decide) rfl (by decide) (by decide) 5 rfl rfl rfl rfl hl.1 rfl (Nat.le_of_ble_eq_true rfl) dX11_row_41 ⟨Nat.le_of_ble_eq_true rfl, Nat.le_of_ble_eq_true rfl⟩ (fun u22 H locs hu22 hP hD hS => ?_)
            have hP : va_P D vwCl [e0 k a, e4 k a, e5 k a, e6 k a, e7 k a, e9 k a, e10 k a, e11 k a] H := hP
            have hD : va_D A [e0 k a, e4 k a, e5 k a, e6 k a, e7 k a, e9 k a, e10 k a, e11 k a] := hD
            refine W.widen (k := 0) (n := 0) (Nat.le_of_ble_eq_true rfl) (Nat.le_of_ble_eq_true rfl) ?_
            refine lv_iconst (v := 0) hx hb dX11_row_44 (by decide) ?_
            have hP9 := hP.sub (ws' := []) [] rfl
            have hD9 := hD.sub (ws' := []) [] (by decide) rfl
            refine W.widen (k := 0) (n := 0) (Nat.le_of_ble_eq_true rfl) (Nat.le_of_ble_eq_true rfl) ?_
            exact W.iret (v := 0) hx hb hr (fun t ht hW => ⟨⟨0, (), rfl, Or.inl ⟨by (try simp only [i_lt, i_le, i_eq, Int32.toInt_toInt64, Int32.reduceToInt, Int64.reduceToInt] at g2 c18 c19 c20 c21 ⊢); omega, by (try simp only [i_lt, i_le, i_eq, Int32.toInt_toInt64, Int32.reduceToInt, Int64.reduceToInt] at g2 c18 c19 c20 c21 ⊢); omega, rfl⟩, by rw [ht]; exact hP9, hD9⟩, hS.F ht⟩) hS.2.2 dX11_row_45
          · refine lv_bipush (v := (-3)) hx hb dX11_row_34 (by decide) ?_
            have hP9 := hP.sub (ws' := []) [] rfl
            have hD9 := hD.sub (ws' := []) [] (by decide) rfl
            refine W.widen (k := 0) (n := 0) (Nat.le_of_ble_eq_true rfl) (Nat.le_of_ble_eq_true rfl) ?_
            exact W.iret (v := (-3)) hx hb hr (fun t ht hW => ⟨⟨(-3), (), rfl, Or.inr (Or.inl ⟨by (try simp only [i_lt, i_le, i_eq, Int32.toInt_toInt64, Int32.reduceToInt, Int64.reduceToInt] at g2 c18 c19 c20 c21 ⊢); omega, by (try simp only [i_lt, i_le, i_eq, Int32.toInt_toInt64, Int32.reduceToInt, Int64.reduceToInt] at g2 c18 c19 c20 c21 ⊢); omega, rfl⟩), by rw [ht]; exact hP9, hD9⟩, hS.F ht⟩) hS.2.2 dX11_row_36
        · refine lv_bipush (v := (-2)) hx hb dX11_row_27 (by decide) ?_
          have hP9 := hP.sub (ws' := []) [] rfl
          have hD9 := hD.sub (ws' := []) [] (by decide) rfl
          refine W.widen (k := 0) (n := 0) (Nat.le_of_ble_eq_true rfl) (Nat.le_of_ble_eq_true rfl) ?_
          exact W.iret (v := (-2)) hx hb hr (fun t ht hW => ⟨⟨(-2), (), rfl, Or.inr (Or.inr ⟨by (try simp only [i_lt, i_le, i_eq, Int32.toInt_toInt64, Int32.reduceToInt, Int64.reduceToInt] at g2 c18 c19 c20 ⊢); omega, rfl⟩), by rw [ht]; exact hP9, hD9⟩, hS.F ht⟩) hS.2.2 dX11_row_29
  · refine W.eq (g2 := F0 m 5 ls [.null]) rfl ?_
    refine lv_astoreN (lv' := [(4, .null), (0, .ref (a 0)), (1, .int p1), (2, .int p2), (3, .int p3)]) hx hb dX11_row_5 hl (by decide) rfl (fun ls hl => ?_)
    refine lv_aloadN hx hb dX11_row_7 (lv_at hl 0 rfl) ?_
    refine lv_ifnullN (tgt := 27) hx hb dX11_row_9 (by decide) ?_
    refine lv_bipush (v := (-2)) hx hb dX11_row_27 (by decide) ?_
    have hP9 := hP.sub (ws' := []) [] rfl
    have hD9 := hD.sub (ws' := []) [] (by decide) rfl
    refine W.widen (k := 0) (n := 0) (Nat.le_of_ble_eq_true rfl) (Nat.le_of_ble_eq_true rfl) ?_
    exact W.iret (v := (-2)) hx hb hr (fun t ht hW => ⟨⟨(-2), (), rfl, Or.inr (Or.inr ⟨by (try simp only [i_lt, i_le, i_eq, Int32.toInt_toInt64, Int32.reduceToInt, Int64.reduceToInt] at g2 ⊢); omega, rfl⟩), by rw [ht]; exact hP9, hD9⟩, hS.F ht⟩) hS.2.2 dX11_row_29
