set_option maxHeartbeats 4000000 in
set_option maxRecDepth 100000 in
theorem c_X12_ones (l : Launch) (D : va_G) (k : Nat → ClassId) (p1 : Int32) : Met l yX12_ones wsX12_ones ({ frames := 0, cells := 0, slots := 0, locals := 0 }) (PreR D k [] [.int p1]) (vp_Si (fun r => 0 ≤ r.toInt ∧ (p1 = 0 → r = 0))) 0 0 (fun _ => False) := by
  refine Met.ofW (cc := cX12_ones) (maxL := 3) (ret := (some .int)) (by decide) rfl ?_
  intro p e s m args below meth c s₁ B hml hv
  obtain ⟨rfl, hP, hK⟩ := hv
  have hx := B.exec
  have hb := B.bytes
  have hr := B.returns
  have hts := atoms_spec (ws := wsX12_ones) B.pre
  have hown : s.vm.findClass RX12 = some m.cls := findClass_of_methodNamed B.named
  have hlocks := B.notSynchronized
  have hl := lv_entry ([.int p1]) (n := 3) (Nat.le_of_ble_eq_true rfl)
  rw [lg_entry_eq]
  generalize (lg_sl ([.int p1]) ++ List.replicate (3 - (lg_sl ([.int p1])).length) Slot.unset).toArray = ls at hl ⊢
  have hl : lv_has ls 3 [(0, .int p1)] := hl
  refine lv_iconst (v := 0) hx hb dX12_ones_0 (by decide) ?_
  refine lv_istore_n (lv' := [(1, .int 0), (0, .int p1)]) hx hb dX12_ones_1 rfl hl (by decide) rfl (fun ls hl => ?_)
  refine lv_iconst (v := 0) hx hb dX12_ones_2 (by decide) ?_
  refine lv_istore_n (lv' := [(2, .int 0), (1, .int 0), (0, .int p1)]) hx hb dX12_ones_3 rfl hl (by decide) rfl (fun ls hl => ?_)
  have lp1 : ∀ (n1 j2 : Nat) (g0 : Int32) (ls : Array Slot), j2 + n1 = 16 → 0 ≤ j2 → (∃ c9 : Nat, c9 ≤ j2 ∧ g0 = nI c9 ∧ (p1 = 0 → c9 = 0)) → lv_has ls 3 [(2, .int (nI j2)), (1, .int g0), (0, .int p1)] → W p l e (headSpec wsX12_ones ({ frames := 0, cells := 0, slots := 0, locals := 0 })).room s m ([.int p1] : List Value).toArray below meth c s.heap [] 0 0 (MQ below (vp_Si (fun r => 0 ≤ r.toInt ∧ (p1 = 0 → r = 0))) ([.int p1] : List Value).toArray s 0 0 (fun _ => False)) (F0 m 4 ls []) := by
    intro n1
    induction n1 with
    | zero =>
      intro j2 g0 ls hjlp1 hlolp1 hIlp1 hl
      obtain rfl : j2 = 16 := by omega
      have hl : lv_has ls 3 [(2, .int 16), (1, .int g0), (0, .int p1)] := hl
      refine lv_iload_n hx hb dX12_ones_4 rfl (lv_at hl 0 rfl) ?_
      refine lv_bipush (v := 16) hx hb dX12_ones_5 (by decide) ?_
      refine lv_icmp_ge (tgt := 24) hx hb dX12_ones_7 (by decide) (fun _ => ?_) (fun h => absurd (by decide) h)
      refine lv_iload_n hx hb dX12_ones_24 rfl (lv_at hl 1 rfl) ?_
      exact W.iret (v := g0) hx hb hr (fun t ht hW => ⟨g0, rfl, (by
        obtain ⟨c9, h1, h2, h3⟩ := hIlp1
        exact ⟨by rw [h2, nI_toInt (by omega)]; omega, fun h => by rw [h2, h3 h]; rfl⟩), ht⟩) (fun q h => by cases h) dX12_ones_25
    | succ n1 ihlp1 =>
      intro j2 g0 ls hjlp1 hlolp1 hIlp1 hl
      have hj : j2 < 16 := by omega
      refine lv_iload_n hx hb dX12_ones_4 rfl (lv_at hl 0 rfl) ?_
      refine lv_bipush (v := 16) hx hb dX12_ones_5 (by decide) ?_
      refine lv_icmp_ge (tgt := 24) hx hb dX12_ones_7 (by decide) (fun h => absurd h (nI_ge (a := j2) (b := 16) (by omega) (by decide))) (fun _ => ?_)
      refine lv_iload_n hx hb dX12_ones_10 rfl (lv_at hl 1 rfl) ?_
      refine lv_iload_n hx hb dX12_ones_11 rfl (lv_at hl 2 rfl) ?_
      refine lv_iload_n hx hb dX12_ones_12 rfl (lv_at hl 0 rfl) ?_
      refine lv_ishr hx hb dX12_ones_13 ?_
      refine lv_topi (fun x3 ex3 => ?_)
      refine lv_iconst (v := 1) hx hb dX12_ones_14 (by decide) ?_
      refine lv_iand hx hb dX12_ones_15 ?_
      refine lv_topi (fun x4 ex4 => ?_)
      refine lv_iadd hx hb dX12_ones_16 ?_
      refine lv_topi (fun x5 ex5 => ?_)
      refine lv_istore_n (lv' := [(1, .int x5), (2, .int (nI j2)), (0, .int p1)]) hx hb dX12_ones_17 rfl hl (by decide) rfl (fun ls hl => ?_)
      obtain ⟨x6, ex6⟩ : ∃ y : Int32, y = nI j2 + 1 := ⟨_, rfl⟩
      refine lv_iinc (v := x6) (lv' := [(2, .int x6), (1, .int x5), (0, .int p1)]) hx hb dX12_ones_18 hl (k := 1) rfl (by rw [ex6]; rfl) (by decide) rfl (fun ls hl => ?_)
      refine lv_goto (tgt := 4) hx hb dX12_ones_21 (by decide) ?_
      obtain rfl : x6 = nI (j2 + 1) := ex6.trans (nI_1 j2)
      exact ihlp1 (j2 + 1) x5 _ (by omega) (by omega) (by
        obtain ⟨c9, h1, h2, h3⟩ := hIlp1
        obtain ⟨d9, hd, e9⟩ := pk_andE x3 (m := 1) 1 (by decide)
        refine ⟨c9 + d9, by omega, by rw [ex5, ex4, h2, e9, nI_add], fun h => ?_⟩
        have hc := h3 h
        have q : nI 0 = nI d9 := by rw [← e9, ex3, h, Int32.zero_shiftRight, Int32.zero_and]; rfl
        have := (nI_eq (a := 0) (b := d9) (by decide) (by omega)).mp q
        omega) (lv_sub hl [0, 1, 2] rfl)
  exact lp1 (16) (0) 0 _ (by decide) (by decide) ⟨0, by decide, rfl, fun _ => rfl⟩ (lv_sub hl [0, 1, 2] rfl)
set_option maxHeartbeats 4000000 in
set_option maxRecDepth 100000 in
theorem c_X12_rules (l : Launch) (D : va_G) (k : Nat → ClassId) (b : Nat → Nat) (p1 : Int32) : Met l yX12_rules wsX12_rules ({ frames := 1, cells := 0, slots := 0, locals := 26 }) (PreR D k [m0 k b, m1 k b] [.ref (b 0), .int p1]) (vp_Si (fun r => ((0 ≤ p1.toInt ∧ p1.toInt ≤ 16) ∧ r = 0) ∨ (¬ (0 ≤ p1.toInt ∧ p1.toInt ≤ 16) ∧ r = (-2)))) 0 0 (fun _ => False) := by
  refine Met.ofW (cc := cX12_rules) (maxL := 9) (ret := (some .int)) (by decide) rfl ?_
  intro p e s m args below meth c s₁ B hml hv
  obtain ⟨rfl, hP, hK⟩ := hv
  have hx := B.exec
  have hb := B.bytes
  have hr := B.returns
  have hts := atoms_spec (ws := wsX12_rules) B.pre
  have hown : s.vm.findClass RX12 = some m.cls := findClass_of_methodNamed B.named
  have hlocks := B.notSynchronized
  have hl := lv_entry ([.ref (b 0), .int p1]) (n := 9) (Nat.le_of_ble_eq_true rfl)
  rw [lg_entry_eq]
  generalize (lg_sl ([.ref (b 0), .int p1]) ++ List.replicate (9 - (lg_sl ([.ref (b 0), .int p1])).length) Slot.unset).toArray = ls at hl ⊢
  have hl : lv_has ls 9 [(0, .ref (b 0)), (1, .int p1)] := hl
  refine lv_iload_n hx hb dX12_rules_0 rfl (lv_at hl 1 rfl) ?_
  refine lv_i2l hx hb dX12_rules_1 rfl ?_
  refine lv_lconst (v := 0) hx hb dX12_rules_2 (by decide) ?_
  refine lv_ldc2 (own := RX12) (v := 16) hx hb hown (hts (.constantLong RX12 439 (16)) (by decide +kernel)) dX12_rules_3 ?_
  refine psi (As := [.long p1.toInt64, .long 0, .long 16]) (rest := []) ⟨hx, hb, hml, hown, hts⟩ (c_X12_in l D k p1.toInt64 (0 : Int64) (16 : Int64)) (va_cwS 3 hts gX12_rules_X12_in rfl rfl rfl (by decide +kernel) ⟨Nat.le_of_ble_eq_true rfl, Nat.le_of_ble_eq_true rfl⟩) hK rfl hl.1 rfl (Nat.le_of_ble_eq_true rfl) dX12_rules_6 ⟨Nat.le_of_ble_eq_true rfl, Nat.le_of_ble_eq_true rfl⟩ (fun r1 hr1 => ?_)
  rcases hr1 with ⟨g2, rfl⟩ | ⟨g2, rfl⟩
  · refine lv_if_ne (tgt := 15) hx hb dX12_rules_9 (by decide) (fun _ => ?_) (fun h => absurd h (by decide))
    refine lv_iconst (v := 0) hx hb dX12_rules_15 (by decide) ?_
    refine lv_istore_n (lv' := [(2, .int 0), (0, .ref (b 0)), (1, .int p1)]) hx hb dX12_rules_16 rfl hl (by decide) rfl (fun ls hl => ?_)
    refine lv_aload_n hx hb dX12_rules_17 rfl (lv_at hl 1 rfl) ?_
    refine lv_iconst (v := 0) hx hb dX12_rules_18 (by decide) ?_
    refine lv_iconst (v := 0) hx hb dX12_rules_19 (by decide) ?_
    refine pvi (C := RX12) (As := [.int 0, .int 0]) (rest := []) (wc := [m0 k b, m1 k b]) ⟨hx, hb, hml, hown, hts⟩ (c_X12_heldBy l D k b 0 0) (cwV 2 hts gX12_rules_X12_heldBy rfl rfl rfl (by decide +kernel) ⟨Nat.le_of_ble_eq_true rfl, Nat.le_of_ble_eq_true rfl⟩) hP hK [0, 1] rfl 0 rfl rfl rfl rfl hl.1 rfl (Nat.le_of_ble_eq_true rfl) dX12_rules_20 ⟨Nat.le_of_ble_eq_true rfl, Nat.le_of_ble_eq_true rfl⟩ (fun r3 hr3 => ?_)
    obtain rfl := hr3
    refine lv_istore_n (lv' := [(3, .int 0), (2, .int 0), (0, .ref (b 0)), (1, .int p1)]) hx hb dX12_rules_23 rfl hl (by decide) rfl (fun ls hl => ?_)
    refine lv_aload_n hx hb dX12_rules_24 rfl (lv_at hl 2 rfl) ?_
    refine lv_iconst (v := 0) hx hb dX12_rules_25 (by decide) ?_
    refine lv_iconst (v := 1) hx hb dX12_rules_26 (by decide) ?_
    refine pvi (C := RX12) (As := [.int 0, .int 1]) (rest := []) (wc := [m0 k b, m1 k b]) ⟨hx, hb, hml, hown, hts⟩ (c_X12_heldBy l D k b 0 1) (cwV 2 hts gX12_rules_X12_heldBy rfl rfl rfl (by decide +kernel) ⟨Nat.le_of_ble_eq_true rfl, Nat.le_of_ble_eq_true rfl⟩) hP hK [0, 1] rfl 0 rfl rfl rfl rfl hl.1 rfl (Nat.le_of_ble_eq_true rfl) dX12_rules_27 ⟨Nat.le_of_ble_eq_true rfl, Nat.le_of_ble_eq_true rfl⟩ (fun r4 hr4 => ?_)
    obtain rfl := hr4
    refine lv_istore (lv' := [(4, .int 0), (3, .int 0), (2, .int 0), (0, .ref (b 0)), (1, .int p1)]) hx hb dX12_rules_30 hl (by decide) rfl (fun ls hl => ?_)
    refine lv_iconst (v := 1) hx hb dX12_rules_32 (by decide) ?_
    refine lv_istore (lv' := [(5, .int 1), (4, .int 0), (3, .int 0), (2, .int 0), (0, .ref (b 0)), (1, .int p1)]) hx hb dX12_rules_33 hl (by decide) rfl (fun ls hl => ?_)
    have lp1 : ∀ (n5 j6 : Nat) (ls : Array Slot), j6 + n5 = 65536 → 1 ≤ j6 → True → lv_has ls 9 [(5, .int (nI j6)), (4, .int 0), (3, .int 0), (2, .int 0), (0, .ref (b 0)), (1, .int p1)] → W p l e (headSpec wsX12_rules ({ frames := 1, cells := 0, slots := 0, locals := 26 })).room s m ([.ref (b 0), .int p1] : List Value).toArray below meth c s.heap [] 0 0 (MQ below (vp_Si (fun r => ((0 ≤ p1.toInt ∧ p1.toInt ≤ 16) ∧ r = 0) ∨ (¬ (0 ≤ p1.toInt ∧ p1.toInt ≤ 16) ∧ r = (-2)))) ([.ref (b 0), .int p1] : List Value).toArray s 0 0 (fun _ => False)) (F0 m 35 ls []) := by
      intro n5
      induction n5 with
      | zero =>
        intro j6 ls hjlp1 hlolp1 hIlp1 hl
        obtain rfl : j6 = 65536 := by omega
        have hl : lv_has ls 9 [(5, .int 65536), (4, .int 0), (3, .int 0), (2, .int 0), (0, .ref (b 0)), (1, .int p1)] := hl
        refine lv_iload hx hb dX12_rules_35 (lv_at hl 0 rfl) ?_
        refine lv_ldcw (own := RX12) (v := 65536) hx hb hown (hts (.constant RX12 470 (65536)) (by decide +kernel)) dX12_rules_37 ?_
        refine lv_icmp_ge (tgt := 145) hx hb dX12_rules_40 (by decide) (fun _ => ?_) (fun h => absurd (by decide) h)
        refine lv_iload_n hx hb dX12_rules_145 rfl (lv_at hl 3 rfl) ?_
        exact W.iret (v := 0) hx hb hr (fun t ht hW => ⟨0, rfl, Or.inl ⟨by (try simp only [i_lt, i_le, i_eq, Int32.toInt_toInt64, Int32.reduceToInt, Int64.reduceToInt] at g2 ⊢); omega, rfl⟩, ht⟩) (fun q h => by cases h) dX12_rules_146
      | succ n5 ihlp1 =>
        intro j6 ls hjlp1 hlolp1 hIlp1 hl
        have hj : j6 < 65536 := by omega
        refine lv_iload hx hb dX12_rules_35 (lv_at hl 0 rfl) ?_
        refine lv_ldcw (own := RX12) (v := 65536) hx hb hown (hts (.constant RX12 470 (65536)) (by decide +kernel)) dX12_rules_37 ?_
        refine lv_icmp_ge (tgt := 145) hx hb dX12_rules_40 (by decide) (fun h => absurd h (nI_ge (a := j6) (b := 65536) (by omega) (by decide))) (fun _ => ?_)
        refine lv_iload hx hb dX12_rules_43 (lv_at hl 0 rfl) ?_
        refine psi (As := [.int (nI j6)]) (rest := []) ⟨hx, hb, hml, hown, hts⟩ (c_X12_ones l D k (nI j6)) (va_cwS 1 hts gX12_rules_X12_ones rfl rfl rfl (by decide +kernel) ⟨Nat.le_of_ble_eq_true rfl, Nat.le_of_ble_eq_true rfl⟩) hK rfl hl.1 rfl (Nat.le_of_ble_eq_true rfl) dX12_rules_45 ⟨Nat.le_of_ble_eq_true rfl, Nat.le_of_ble_eq_true rfl⟩ (fun r7 hr7 => ?_)
        have nr7 := hr7.1
        refine lv_iload_n hx hb dX12_rules_48 rfl (lv_at hl 5 rfl) ?_
        refine lv_icmp_le (tgt := 55) hx hb dX12_rules_49 (by decide) (fun c8 => ?_) (fun c8 => ?_)
        · refine lv_aload_n hx hb dX12_rules_55 rfl (lv_at hl 4 rfl) ?_
          refine lv_iload hx hb dX12_rules_56 (lv_at hl 0 rfl) ?_
          refine lv_iconst (v := 0) hx hb dX12_rules_58 (by decide) ?_
          refine pvi (C := RX12) (As := [.int (nI j6), .int 0]) (rest := []) (wc := [m0 k b, m1 k b]) ⟨hx, hb, hml, hown, hts⟩ (c_X12_heldBy l D k b (nI j6) 0) (cwV 2 hts gX12_rules_X12_heldBy rfl rfl rfl (by decide +kernel) ⟨Nat.le_of_ble_eq_true rfl, Nat.le_of_ble_eq_true rfl⟩) hP hK [0, 1] rfl 0 rfl rfl rfl rfl hl.1 rfl (Nat.le_of_ble_eq_true rfl) dX12_rules_59 ⟨Nat.le_of_ble_eq_true rfl, Nat.le_of_ble_eq_true rfl⟩ (fun r9 hr9 => ?_)
          obtain rfl := hr9
          refine lv_istore (lv' := [(6, .int 0), (5, .int (nI j6)), (4, .int 0), (3, .int 0), (2, .int 0), (0, .ref (b 0)), (1, .int p1)]) hx hb dX12_rules_62 hl (by decide) rfl (fun ls hl => ?_)
          refine lv_iload hx hb dX12_rules_64 (lv_at hl 0 rfl) ?_
          refine lv_iload_n hx hb dX12_rules_66 rfl (lv_at hl 3 rfl) ?_
          refine lv_icmp_ge (tgt := 73) hx hb dX12_rules_67 (by decide) (fun _ => ?_) (fun h => absurd (by decide) h)
          refine lv_aload_n hx hb dX12_rules_73 rfl (lv_at hl 5 rfl) ?_
          refine lv_iload hx hb dX12_rules_74 (lv_at hl 1 rfl) ?_
          refine lv_iconst (v := 1) hx hb dX12_rules_76 (by decide) ?_
          refine pvi (C := RX12) (As := [.int (nI j6), .int 1]) (rest := []) (wc := [m0 k b, m1 k b]) ⟨hx, hb, hml, hown, hts⟩ (c_X12_heldBy l D k b (nI j6) 1) (cwV 2 hts gX12_rules_X12_heldBy rfl rfl rfl (by decide +kernel) ⟨Nat.le_of_ble_eq_true rfl, Nat.le_of_ble_eq_true rfl⟩) hP hK [0, 1] rfl 0 rfl rfl rfl rfl hl.1 rfl (Nat.le_of_ble_eq_true rfl) dX12_rules_77 ⟨Nat.le_of_ble_eq_true rfl, Nat.le_of_ble_eq_true rfl⟩ (fun r10 hr10 => ?_)
          obtain rfl := hr10
          refine lv_istore (lv' := [(7, .int 0), (6, .int 0), (5, .int (nI j6)), (4, .int 0), (3, .int 0), (2, .int 0), (0, .ref (b 0)), (1, .int p1)]) hx hb dX12_rules_80 hl (by decide) rfl (fun ls hl => ?_)
          refine lv_iload hx hb dX12_rules_82 (lv_at hl 1 rfl) ?_
          refine lv_iload_n hx hb dX12_rules_84 rfl (lv_at hl 4 rfl) ?_
          refine lv_icmp_gt (tgt := 114) hx hb dX12_rules_85 (by decide) (fun h => absurd h (by decide)) (fun _ => ?_)
          refine lv_iload hx hb dX12_rules_88 (lv_at hl 0 rfl) ?_
          refine lv_iload hx hb dX12_rules_90 (lv_at hl 3 rfl) ?_
          refine lv_icmp_lt (tgt := 114) hx hb dX12_rules_92 (by decide) (fun h => absurd h (by decide)) (fun _ => ?_)
          refine lv_iload hx hb dX12_rules_95 (lv_at hl 0 rfl) ?_
          refine lv_iload hx hb dX12_rules_97 (lv_at hl 3 rfl) ?_
          refine lv_icmp_ne (tgt := 118) hx hb dX12_rules_99 (by decide) (fun h => absurd (by decide) h) (fun _ => ?_)
          refine lv_iload hx hb dX12_rules_102 (lv_at hl 2 rfl) ?_
          refine psi (As := [.int (nI j6)]) (rest := []) ⟨hx, hb, hml, hown, hts⟩ (c_X12_ones l D k (nI j6)) (va_cwS 1 hts gX12_rules_X12_ones rfl rfl rfl (by decide +kernel) ⟨Nat.le_of_ble_eq_true rfl, Nat.le_of_ble_eq_true rfl⟩) hK rfl hl.1 rfl (Nat.le_of_ble_eq_true rfl) dX12_rules_104 ⟨Nat.le_of_ble_eq_true rfl, Nat.le_of_ble_eq_true rfl⟩ (fun r11 hr11 => ?_)
          have nr11 := hr11.1
          refine lv_iload_n hx hb dX12_rules_107 rfl (lv_at hl 5 rfl) ?_
          refine psi (As := [.int 0]) (rest := [.int r11]) ⟨hx, hb, hml, hown, hts⟩ (c_X12_ones l D k 0) (va_cwS 1 hts gX12_rules_X12_ones rfl rfl rfl (by decide +kernel) ⟨Nat.le_of_ble_eq_true rfl, Nat.le_of_ble_eq_true rfl⟩) hK rfl hl.1 rfl (Nat.le_of_ble_eq_true rfl) dX12_rules_108 ⟨Nat.le_of_ble_eq_true rfl, Nat.le_of_ble_eq_true rfl⟩ (fun r12 hr12 => ?_)
          obtain rfl := hr12.2 rfl
          refine lv_icmp_ge (tgt := 118) hx hb dX12_rules_111 (by decide) (fun _ => ?_) (fun h => absurd (by (try simp only [i_lt, i_le, i_eq, Int32.toInt_toInt64, Int32.reduceToInt, Int64.reduceToInt] at g2 nr7 c8 nr11 ⊢); omega) h)
          refine lv_iconst (v := 0) hx hb dX12_rules_118 (by decide) ?_
          refine lv_istore (lv' := [(8, .int 0), (7, .int 0), (6, .int 0), (5, .int (nI j6)), (4, .int 0), (3, .int 0), (2, .int 0), (0, .ref (b 0)), (1, .int p1)]) hx hb dX12_rules_119 hl (by decide) rfl (fun ls hl => ?_)
          refine lv_iload hx hb dX12_rules_121 (lv_at hl 0 rfl) ?_
          refine lv_if_ne (tgt := 129) hx hb dX12_rules_123 (by decide) (fun h => absurd (by decide) h) (fun _ => ?_)
          refine lv_goto (tgt := 139) hx hb dX12_rules_126 (by decide) ?_
          obtain ⟨x13, ex13⟩ : ∃ y : Int32, y = nI j6 + 1 := ⟨_, rfl⟩
          refine lv_iinc (v := x13) (lv' := [(5, .int x13), (8, .int 0), (7, .int 0), (6, .int 0), (4, .int 0), (3, .int 0), (2, .int 0), (0, .ref (b 0)), (1, .int p1)]) hx hb dX12_rules_139 hl (k := 3) rfl (by rw [ex13]; rfl) (by decide) rfl (fun ls hl => ?_)
          refine lv_goto (tgt := 35) hx hb dX12_rules_142 (by decide) ?_
          obtain rfl : x13 = nI (j6 + 1) := ex13.trans (nI_1 j6)
          exact ihlp1 (j6 + 1) _ (by omega) (by omega) trivial (lv_sub hl [0, 4, 5, 6, 7, 8] rfl)
        · refine lv_goto (tgt := 139) hx hb dX12_rules_52 (by decide) ?_
          obtain ⟨x14, ex14⟩ : ∃ y : Int32, y = nI j6 + 1 := ⟨_, rfl⟩
          refine lv_iinc (v := x14) (lv' := [(5, .int x14), (4, .int 0), (3, .int 0), (2, .int 0), (0, .ref (b 0)), (1, .int p1)]) hx hb dX12_rules_139 hl (k := 0) rfl (by rw [ex14]; rfl) (by decide) rfl (fun ls hl => ?_)
          refine lv_goto (tgt := 35) hx hb dX12_rules_142 (by decide) ?_
          obtain rfl : x14 = nI (j6 + 1) := ex14.trans (nI_1 j6)
          exact ihlp1 (j6 + 1) _ (by omega) (by omega) trivial (lv_sub hl [0, 1, 2, 3, 4, 5] rfl)
    exact lp1 (65535) (1) _ (by decide) (by decide) trivial (lv_sub hl [0, 1, 2, 3, 4, 5] rfl)
  · refine lv_if_ne (tgt := 15) hx hb dX12_rules_9 (by decide) (fun h => absurd (by decide) h) (fun _ => ?_)
    refine lv_bipush (v := (-2)) hx hb dX12_rules_12 (by decide) ?_
    exact W.iret (v := (-2)) hx hb hr (fun t ht hW => ⟨(-2), rfl, Or.inr ⟨by (try simp only [i_lt, i_le, i_eq, Int32.toInt_toInt64, Int32.reduceToInt, Int64.reduceToInt] at g2 ⊢); omega, rfl⟩, ht⟩) (fun q h => by cases h) dX12_rules_14
