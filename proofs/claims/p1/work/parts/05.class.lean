set_option maxHeartbeats 4000000 in
set_option maxRecDepth 100000 in
theorem c_X10_hasPot (l : Launch) (D : va_G) (k : Nat → ClassId) (a : Nat → Nat) (p1 : Int32) : Met l yX10_hasPot wsX10_hasPot ({ frames := 0, cells := 0, slots := 0, locals := 0 }) (PreR D k [e26 k a] [.ref (a 26), .int p1]) (vp_Si (fun r => r = 0)) 0 0 (fun _ => False) := by
  refine Met.ofW (cc := cX10_hasPot) (maxL := 2) (ret := (some .boolean)) (by decide) rfl ?_
  intro p e s m args below meth c s₁ B hml hv
  obtain ⟨rfl, hP, hK⟩ := hv
  have hx := B.exec
  have hb := B.bytes
  have hr := B.returns
  have hts := atoms_spec (ws := wsX10_hasPot) B.pre
  have hown : s.vm.findClass RX10 = some m.cls := findClass_of_methodNamed B.named
  have hlocks := B.notSynchronized
  have i_X10 : ∀ w ∈ wsX100, w ∈ wsX10_hasPot := by decide +kernel
  have hl := lv_entry ([.ref (a 26), .int p1]) (n := 2) (Nat.le_of_ble_eq_true rfl)
  rw [lg_entry_eq]
  generalize (lg_sl ([.ref (a 26), .int p1]) ++ List.replicate (2 - (lg_sl ([.ref (a 26), .int p1])).length) Slot.unset).toArray = ls at hl ⊢
  have hl : lv_has ls 2 [(0, .ref (a 26)), (1, .int p1)] := hl
  refine lv_iload_n hx hb dX10_hasPot_0 rfl (lv_at hl 1 rfl) ?_
  refine lv_if_lt (tgt := 16) hx hb dX10_hasPot_1 (by decide) (fun c1 => ?_) (fun c1 => ?_)
  · refine lv_iconst (v := 0) hx hb dX10_hasPot_16 (by decide) ?_
    exact W.zret (v := 0) hx hb hr rfl (fun t ht hW => ⟨0, rfl, rfl, ht⟩) (fun q h => by cases h) dX10_hasPot_17
  · refine lv_iload_n hx hb dX10_hasPot_4 rfl (lv_at hl 1 rfl) ?_
    refine lv_aload_n hx hb dX10_hasPot_5 rfl (lv_at hl 0 rfl) ?_
    refine va_get (D := D) (ci := 10) (v := .int 0) (C := RX10) (T := TX10) (N := 12) hx hb hts i_X10 hown hK hP 0 rfl rfl 4 (by decide) (hts (.fieldLink RX10 36 "BellowsRow$Works" "potCount" "I") (by decide +kernel)) (fun _ h9 => h9) rfl dX10_hasPot_6 ?_
    refine lv_icmp_ge (tgt := 16) hx hb dX10_hasPot_9 (by decide) (fun _ => ?_) (fun h => absurd (by (try simp only [i_lt, i_le, i_eq, Int32.toInt_toInt64, Int32.reduceToInt, Int64.reduceToInt] at c1 ⊢); omega) h)
    refine lv_iconst (v := 0) hx hb dX10_hasPot_16 (by decide) ?_
    exact W.zret (v := 0) hx hb hr rfl (fun t ht hW => ⟨0, rfl, rfl, ht⟩) (fun q h => by cases h) dX10_hasPot_17
set_option maxHeartbeats 4000000 in
set_option maxRecDepth 100000 in
theorem c_X10_pipeAt (l : Launch) (D : va_G) (k : Nat → ClassId) (a : Nat → Nat) (p1 : Int32) : Met l yX10_pipeAt wsX10_pipeAt ({ frames := 0, cells := 0, slots := 0, locals := 0 }) (PreR D k [e26 k a] [.ref (a 26), .int p1]) (va_Sq (fun r => r = none)) 0 0 (fun _ => False) := by
  refine Met.ofW (cc := cX10_pipeAt) (maxL := 2) (ret := (some (.object "BellowsRow$Pipe"))) (by decide) rfl ?_
  intro p e s m args below meth c s₁ B hml hv
  obtain ⟨rfl, hP, hK⟩ := hv
  have hx := B.exec
  have hb := B.bytes
  have hr := B.returns
  have hts := atoms_spec (ws := wsX10_pipeAt) B.pre
  have hown : s.vm.findClass RX10 = some m.cls := findClass_of_methodNamed B.named
  have hlocks := B.notSynchronized
  have i_X10 : ∀ w ∈ wsX100, w ∈ wsX10_pipeAt := by decide +kernel
  have hl := lv_entry ([.ref (a 26), .int p1]) (n := 2) (Nat.le_of_ble_eq_true rfl)
  rw [lg_entry_eq]
  generalize (lg_sl ([.ref (a 26), .int p1]) ++ List.replicate (2 - (lg_sl ([.ref (a 26), .int p1])).length) Slot.unset).toArray = ls at hl ⊢
  have hl : lv_has ls 2 [(0, .ref (a 26)), (1, .int p1)] := hl
  refine lv_iload_n hx hb dX10_pipeAt_0 rfl (lv_at hl 1 rfl) ?_
  refine lv_if_lt (tgt := 27) hx hb dX10_pipeAt_1 (by decide) (fun c1 => ?_) (fun c1 => ?_)
  · refine lv_null hx hb dX10_pipeAt_27 ?_
    exact W.aret (v := .null) hx hb hr (Or.inl ⟨_, rfl⟩) (Or.inl rfl) (fun t ht hW => ⟨none, rfl, rfl, ht⟩) (fun q h => by cases h) dX10_pipeAt_28
  · refine lv_iload_n hx hb dX10_pipeAt_4 rfl (lv_at hl 1 rfl) ?_
    refine lv_aload_n hx hb dX10_pipeAt_5 rfl (lv_at hl 0 rfl) ?_
    refine va_get (D := D) (ci := 10) (v := .int 0) (C := RX10) (T := TX10) (N := 12) hx hb hts i_X10 hown hK hP 0 rfl rfl 5 (by decide) (hts (.fieldLink RX10 39 "BellowsRow$Works" "pipeCount" "I") (by decide +kernel)) (fun _ h9 => h9) rfl dX10_pipeAt_6 ?_
    refine lv_icmp_ge (tgt := 27) hx hb dX10_pipeAt_9 (by decide) (fun _ => ?_) (fun h => absurd (by (try simp only [i_lt, i_le, i_eq, Int32.toInt_toInt64, Int32.reduceToInt, Int64.reduceToInt] at c1 ⊢); omega) h)
    refine lv_null hx hb dX10_pipeAt_27 ?_
    exact W.aret (v := .null) hx hb hr (Or.inl ⟨_, rfl⟩) (Or.inl rfl) (fun t ht hW => ⟨none, rfl, rfl, ht⟩) (fun q h => by cases h) dX10_pipeAt_28
set_option maxHeartbeats 4000000 in
set_option maxRecDepth 100000 in
theorem c_X1_has (l : Launch) (D : va_G) (k : Nat → ClassId) (a : Nat → Nat) (p1 : Int32) : Met l yX1_has wsX1_has ({ frames := 0, cells := 0, slots := 0, locals := 0 }) (PreR D k [e27 k a] [.ref (a 27), .int p1]) (vp_Si (fun r => r = 0)) 0 0 (fun _ => False) := by
  refine Met.ofW (cc := cX1_has) (maxL := 2) (ret := (some .boolean)) (by decide) rfl ?_
  intro p e s m args below meth c s₁ B hml hv
  obtain ⟨rfl, hP, hK⟩ := hv
  have hx := B.exec
  have hb := B.bytes
  have hr := B.returns
  have hts := atoms_spec (ws := wsX1_has) B.pre
  have hown : s.vm.findClass RX1 = some m.cls := findClass_of_methodNamed B.named
  have hlocks := B.notSynchronized
  have i_X1 : ∀ w ∈ wsX10, w ∈ wsX1_has := by decide +kernel
  have hl := lv_entry ([.ref (a 27), .int p1]) (n := 2) (Nat.le_of_ble_eq_true rfl)
  rw [lg_entry_eq]
  generalize (lg_sl ([.ref (a 27), .int p1]) ++ List.replicate (2 - (lg_sl ([.ref (a 27), .int p1])).length) Slot.unset).toArray = ls at hl ⊢
  have hl : lv_has ls 2 [(0, .ref (a 27)), (1, .int p1)] := hl
  refine lv_iload_n hx hb dX1_has_0 rfl (lv_at hl 1 rfl) ?_
  refine lv_if_lt (tgt := 16) hx hb dX1_has_1 (by decide) (fun c1 => ?_) (fun c1 => ?_)
  · refine lv_iconst (v := 0) hx hb dX1_has_16 (by decide) ?_
    exact W.zret (v := 0) hx hb hr rfl (fun t ht hW => ⟨0, rfl, rfl, ht⟩) (fun q h => by cases h) dX1_has_17
  · refine lv_iload_n hx hb dX1_has_4 rfl (lv_at hl 1 rfl) ?_
    refine lv_aload_n hx hb dX1_has_5 rfl (lv_at hl 0 rfl) ?_
    refine va_get (D := D) (ci := 1) (v := .int 0) (C := RX1) (T := TX1) (N := 5) hx hb hts i_X1 hown hK hP 0 rfl rfl 0 (by decide) (hts (.fieldLink RX1 9 "BellowsRow$Hours" "total" "I") (by decide +kernel)) (fun _ h9 => h9) rfl dX1_has_6 ?_
    refine lv_icmp_ge (tgt := 16) hx hb dX1_has_9 (by decide) (fun _ => ?_) (fun h => absurd (by (try simp only [i_lt, i_le, i_eq, Int32.toInt_toInt64, Int32.reduceToInt, Int64.reduceToInt] at c1 ⊢); omega) h)
    refine lv_iconst (v := 0) hx hb dX1_has_16 (by decide) ?_
    exact W.zret (v := 0) hx hb hr rfl (fun t ht hW => ⟨0, rfl, rfl, ht⟩) (fun q h => by cases h) dX1_has_17
set_option maxHeartbeats 4000000 in
set_option maxRecDepth 100000 in
theorem c_X6_has (l : Launch) (D : va_G) (k : Nat → ClassId) (a : Nat → Nat) (p1 : Int32) : Met l yX6_has wsX6_has ({ frames := 0, cells := 0, slots := 0, locals := 0 }) (PreR D k [e31 k a] [.ref (a 31), .int p1]) (vp_Si (fun r => r = 0)) 0 0 (fun _ => False) := by
  refine Met.ofW (cc := cX6_has) (maxL := 2) (ret := (some .boolean)) (by decide) rfl ?_
  intro p e s m args below meth c s₁ B hml hv
  obtain ⟨rfl, hP, hK⟩ := hv
  have hx := B.exec
  have hb := B.bytes
  have hr := B.returns
  have hts := atoms_spec (ws := wsX6_has) B.pre
  have hown : s.vm.findClass RX6 = some m.cls := findClass_of_methodNamed B.named
  have hlocks := B.notSynchronized
  have i_X6 : ∀ w ∈ wsX60, w ∈ wsX6_has := by decide +kernel
  have hl := lv_entry ([.ref (a 31), .int p1]) (n := 2) (Nat.le_of_ble_eq_true rfl)
  rw [lg_entry_eq]
  generalize (lg_sl ([.ref (a 31), .int p1]) ++ List.replicate (2 - (lg_sl ([.ref (a 31), .int p1])).length) Slot.unset).toArray = ls at hl ⊢
  have hl : lv_has ls 2 [(0, .ref (a 31)), (1, .int p1)] := hl
  refine lv_iload_n hx hb dX6_has_0 rfl (lv_at hl 1 rfl) ?_
  refine lv_if_lt (tgt := 16) hx hb dX6_has_1 (by decide) (fun c1 => ?_) (fun c1 => ?_)
  · refine lv_iconst (v := 0) hx hb dX6_has_16 (by decide) ?_
    exact W.zret (v := 0) hx hb hr rfl (fun t ht hW => ⟨0, rfl, rfl, ht⟩) (fun q h => by cases h) dX6_has_17
  · refine lv_iload_n hx hb dX6_has_4 rfl (lv_at hl 1 rfl) ?_
    refine lv_aload_n hx hb dX6_has_5 rfl (lv_at hl 0 rfl) ?_
    refine va_get (D := D) (ci := 6) (v := .int 0) (C := RX6) (T := TX6) (N := 6) hx hb hts i_X6 hown hK hP 0 rfl rfl 0 (by decide) (hts (.fieldLink RX6 7 "BellowsRow$Rooms" "count" "I") (by decide +kernel)) (fun _ h9 => h9) rfl dX6_has_6 ?_
    refine lv_icmp_ge (tgt := 16) hx hb dX6_has_9 (by decide) (fun _ => ?_) (fun h => absurd (by (try simp only [i_lt, i_le, i_eq, Int32.toInt_toInt64, Int32.reduceToInt, Int64.reduceToInt] at c1 ⊢); omega) h)
    refine lv_iconst (v := 0) hx hb dX6_has_16 (by decide) ?_
    exact W.zret (v := 0) hx hb hr rfl (fun t ht hW => ⟨0, rfl, rfl, ht⟩) (fun q h => by cases h) dX6_has_17
set_option maxHeartbeats 4000000 in
set_option maxRecDepth 100000 in
theorem c_X4_hasPerson (l : Launch) (D : va_G) (k : Nat → ClassId) (a : Nat → Nat) (p1 : Int32) : Met l yX4_hasPerson wsX4_hasPerson ({ frames := 0, cells := 0, slots := 0, locals := 0 }) (PreR D k [e36 k a] [.ref (a 36), .int p1]) (vp_Si (fun r => r = 0)) 0 0 (fun _ => False) := by
  refine Met.ofW (cc := cX4_hasPerson) (maxL := 2) (ret := (some .boolean)) (by decide) rfl ?_
  intro p e s m args below meth c s₁ B hml hv
  obtain ⟨rfl, hP, hK⟩ := hv
  have hx := B.exec
  have hb := B.bytes
  have hr := B.returns
  have hts := atoms_spec (ws := wsX4_hasPerson) B.pre
  have hown : s.vm.findClass RX4 = some m.cls := findClass_of_methodNamed B.named
  have hlocks := B.notSynchronized
  have i_X4 : ∀ w ∈ wsX40, w ∈ wsX4_hasPerson := by decide +kernel
  have hl := lv_entry ([.ref (a 36), .int p1]) (n := 2) (Nat.le_of_ble_eq_true rfl)
  rw [lg_entry_eq]
  generalize (lg_sl ([.ref (a 36), .int p1]) ++ List.replicate (2 - (lg_sl ([.ref (a 36), .int p1])).length) Slot.unset).toArray = ls at hl ⊢
  have hl : lv_has ls 2 [(0, .ref (a 36)), (1, .int p1)] := hl
  refine lv_iload_n hx hb dX4_hasPerson_0 rfl (lv_at hl 1 rfl) ?_
  refine lv_if_lt (tgt := 16) hx hb dX4_hasPerson_1 (by decide) (fun c1 => ?_) (fun c1 => ?_)
  · refine lv_iconst (v := 0) hx hb dX4_hasPerson_16 (by decide) ?_
    exact W.zret (v := 0) hx hb hr rfl (fun t ht hW => ⟨0, rfl, rfl, ht⟩) (fun q h => by cases h) dX4_hasPerson_17
  · refine lv_iload_n hx hb dX4_hasPerson_4 rfl (lv_at hl 1 rfl) ?_
    refine lv_aload_n hx hb dX4_hasPerson_5 rfl (lv_at hl 0 rfl) ?_
    refine va_get (D := D) (ci := 4) (v := .int 0) (C := RX4) (T := TX4) (N := 11) hx hb hts i_X4 hown hK hP 0 rfl rfl 0 (by decide) (hts (.fieldLink RX4 9 "BellowsRow$People" "persons" "I") (by decide +kernel)) (fun _ h9 => h9) rfl dX4_hasPerson_6 ?_
    refine lv_icmp_ge (tgt := 16) hx hb dX4_hasPerson_9 (by decide) (fun _ => ?_) (fun h => absurd (by (try simp only [i_lt, i_le, i_eq, Int32.toInt_toInt64, Int32.reduceToInt, Int64.reduceToInt] at c1 ⊢); omega) h)
    refine lv_iconst (v := 0) hx hb dX4_hasPerson_16 (by decide) ?_
    exact W.zret (v := 0) hx hb hr rfl (fun t ht hW => ⟨0, rfl, rfl, ht⟩) (fun q h => by cases h) dX4_hasPerson_17
set_option maxHeartbeats 4000000 in
set_option maxRecDepth 100000 in
theorem c_X4_hasChange (l : Launch) (D : va_G) (k : Nat → ClassId) (a : Nat → Nat) (p1 : Int32) : Met l yX4_hasChange wsX4_hasChange ({ frames := 0, cells := 0, slots := 0, locals := 0 }) (PreR D k [e36 k a] [.ref (a 36), .int p1]) (vp_Si (fun r => r = 0)) 0 0 (fun _ => False) := by
  refine Met.ofW (cc := cX4_hasChange) (maxL := 2) (ret := (some .boolean)) (by decide) rfl ?_
  intro p e s m args below meth c s₁ B hml hv
  obtain ⟨rfl, hP, hK⟩ := hv
  have hx := B.exec
  have hb := B.bytes
  have hr := B.returns
  have hts := atoms_spec (ws := wsX4_hasChange) B.pre
  have hown : s.vm.findClass RX4 = some m.cls := findClass_of_methodNamed B.named
  have hlocks := B.notSynchronized
  have i_X4 : ∀ w ∈ wsX40, w ∈ wsX4_hasChange := by decide +kernel
  have hl := lv_entry ([.ref (a 36), .int p1]) (n := 2) (Nat.le_of_ble_eq_true rfl)
  rw [lg_entry_eq]
  generalize (lg_sl ([.ref (a 36), .int p1]) ++ List.replicate (2 - (lg_sl ([.ref (a 36), .int p1])).length) Slot.unset).toArray = ls at hl ⊢
  have hl : lv_has ls 2 [(0, .ref (a 36)), (1, .int p1)] := hl
  refine lv_iload_n hx hb dX4_hasChange_0 rfl (lv_at hl 1 rfl) ?_
  refine lv_if_lt (tgt := 16) hx hb dX4_hasChange_1 (by decide) (fun c1 => ?_) (fun c1 => ?_)
  · refine lv_iconst (v := 0) hx hb dX4_hasChange_16 (by decide) ?_
    exact W.zret (v := 0) hx hb hr rfl (fun t ht hW => ⟨0, rfl, rfl, ht⟩) (fun q h => by cases h) dX4_hasChange_17
  · refine lv_iload_n hx hb dX4_hasChange_4 rfl (lv_at hl 1 rfl) ?_
    refine lv_aload_n hx hb dX4_hasChange_5 rfl (lv_at hl 0 rfl) ?_
    refine va_get (D := D) (ci := 4) (v := .int 0) (C := RX4) (T := TX4) (N := 11) hx hb hts i_X4 hown hK hP 0 rfl rfl 1 (by decide) (hts (.fieldLink RX4 15 "BellowsRow$People" "changes" "I") (by decide +kernel)) (fun _ h9 => h9) rfl dX4_hasChange_6 ?_
    refine lv_icmp_ge (tgt := 16) hx hb dX4_hasChange_9 (by decide) (fun _ => ?_) (fun h => absurd (by (try simp only [i_lt, i_le, i_eq, Int32.toInt_toInt64, Int32.reduceToInt, Int64.reduceToInt] at c1 ⊢); omega) h)
    refine lv_iconst (v := 0) hx hb dX4_hasChange_16 (by decide) ?_
    exact W.zret (v := 0) hx hb hr rfl (fun t ht hW => ⟨0, rfl, rfl, ht⟩) (fun q h => by cases h) dX4_hasChange_17
set_option maxHeartbeats 4000000 in
set_option maxRecDepth 100000 in
theorem c_X4_firstKnowing (l : Launch) (D : va_G) (k : Nat → ClassId) (a : Nat → Nat) (p1 : Int32) (p2 : Int32) : Met l yX4_firstKnowing wsX4_firstKnowing ({ frames := 0, cells := 0, slots := 0, locals := 0 }) (PreR D k [e36 k a] [.ref (a 36), .int p1, .int p2]) (vp_Si (fun r => r = (-1))) 0 0 (fun _ => False) := by
  refine Met.ofW (cc := cX4_firstKnowing) (maxL := 4) (ret := (some .int)) (by decide) rfl ?_
  intro p e s m args below meth c s₁ B hml hv
  obtain ⟨rfl, hP, hK⟩ := hv
  have hx := B.exec
  have hb := B.bytes
  have hr := B.returns
  have hts := atoms_spec (ws := wsX4_firstKnowing) B.pre
  have hown : s.vm.findClass RX4 = some m.cls := findClass_of_methodNamed B.named
  have hlocks := B.notSynchronized
  have i_X4 : ∀ w ∈ wsX40, w ∈ wsX4_firstKnowing := by decide +kernel
  have hl := lv_entry ([.ref (a 36), .int p1, .int p2]) (n := 4) (Nat.le_of_ble_eq_true rfl)
  rw [lg_entry_eq]
  generalize (lg_sl ([.ref (a 36), .int p1, .int p2]) ++ List.replicate (4 - (lg_sl ([.ref (a 36), .int p1, .int p2])).length) Slot.unset).toArray = ls at hl ⊢
  have hl : lv_has ls 4 [(0, .ref (a 36)), (1, .int p1), (2, .int p2)] := hl
  refine lv_iconst (v := 0) hx hb dX4_firstKnowing_0 (by decide) ?_
  refine lv_istore_n (lv' := [(3, .int 0), (0, .ref (a 36)), (1, .int p1), (2, .int p2)]) hx hb dX4_firstKnowing_1 rfl hl (by decide) rfl (fun ls hl => ?_)
  refine lv_iload_n hx hb dX4_firstKnowing_2 rfl (lv_at hl 0 rfl) ?_
  refine lv_aload_n hx hb dX4_firstKnowing_3 rfl (lv_at hl 1 rfl) ?_
  refine va_get (D := D) (ci := 4) (v := .int 0) (C := RX4) (T := TX4) (N := 11) hx hb hts i_X4 hown hK hP 0 rfl rfl 0 (by decide) (hts (.fieldLink RX4 9 "BellowsRow$People" "persons" "I") (by decide +kernel)) (fun _ h9 => h9) rfl dX4_firstKnowing_4 ?_
  refine lv_icmp_ge (tgt := 46) hx hb dX4_firstKnowing_7 (by decide) (fun _ => ?_) (fun h => absurd (by decide) h)
  refine lv_iconst (v := (-1)) hx hb dX4_firstKnowing_46 (by decide) ?_
  exact W.iret (v := (-1)) hx hb hr (fun t ht hW => ⟨(-1), rfl, rfl, ht⟩) (fun q h => by cases h) dX4_firstKnowing_47
set_option maxHeartbeats 4000000 in
set_option maxRecDepth 100000 in
theorem c_X4_wholeChanges (l : Launch) (D : va_G) (k : Nat → ClassId) (a : Nat → Nat) (p1 : Int32) : Met l yX4_wholeChanges wsX4_wholeChanges ({ frames := 0, cells := 0, slots := 0, locals := 0 }) (PreR D k [e36 k a] [.ref (a 36), .int p1]) (vp_Si (fun r => r = 0)) 0 0 (fun _ => False) := by
  refine Met.ofW (cc := cX4_wholeChanges) (maxL := 5) (ret := (some .int)) (by decide) rfl ?_
  intro p e s m args below meth c s₁ B hml hv
  obtain ⟨rfl, hP, hK⟩ := hv
  have hx := B.exec
  have hb := B.bytes
  have hr := B.returns
  have hts := atoms_spec (ws := wsX4_wholeChanges) B.pre
  have hown : s.vm.findClass RX4 = some m.cls := findClass_of_methodNamed B.named
  have hlocks := B.notSynchronized
  have i_X4 : ∀ w ∈ wsX40, w ∈ wsX4_wholeChanges := by decide +kernel
  have hl := lv_entry ([.ref (a 36), .int p1]) (n := 5) (Nat.le_of_ble_eq_true rfl)
  rw [lg_entry_eq]
  generalize (lg_sl ([.ref (a 36), .int p1]) ++ List.replicate (5 - (lg_sl ([.ref (a 36), .int p1])).length) Slot.unset).toArray = ls at hl ⊢
  have hl : lv_has ls 5 [(0, .ref (a 36)), (1, .int p1)] := hl
  refine lv_iconst (v := 0) hx hb dX4_wholeChanges_0 (by decide) ?_
  refine lv_istore_n (lv' := [(2, .int 0), (0, .ref (a 36)), (1, .int p1)]) hx hb dX4_wholeChanges_1 rfl hl (by decide) rfl (fun ls hl => ?_)
  refine lv_iconst (v := 0) hx hb dX4_wholeChanges_2 (by decide) ?_
  refine lv_istore_n (lv' := [(3, .int 0), (2, .int 0), (0, .ref (a 36)), (1, .int p1)]) hx hb dX4_wholeChanges_3 rfl hl (by decide) rfl (fun ls hl => ?_)
  refine lv_iload_n hx hb dX4_wholeChanges_4 rfl (lv_at hl 0 rfl) ?_
  refine lv_aload_n hx hb dX4_wholeChanges_5 rfl (lv_at hl 2 rfl) ?_
  refine va_get (D := D) (ci := 4) (v := .int 0) (C := RX4) (T := TX4) (N := 11) hx hb hts i_X4 hown hK hP 0 rfl rfl 1 (by decide) (hts (.fieldLink RX4 15 "BellowsRow$People" "changes" "I") (by decide +kernel)) (fun _ h9 => h9) rfl dX4_wholeChanges_6 ?_
  refine lv_icmp_ge (tgt := 71) hx hb dX4_wholeChanges_9 (by decide) (fun _ => ?_) (fun h => absurd (by decide) h)
  refine lv_iload_n hx hb dX4_wholeChanges_71 rfl (lv_at hl 1 rfl) ?_
  exact W.iret (v := 0) hx hb hr (fun t ht hW => ⟨0, rfl, rfl, ht⟩) (fun q h => by cases h) dX4_wholeChanges_72
set_option maxHeartbeats 4000000 in
set_option maxRecDepth 100000 in
theorem c_X4_askedAll (l : Launch) (D : va_G) (k : Nat → ClassId) (a : Nat → Nat) (p1 : Int32) (p2 : Int32) : Met l yX4_askedAll wsX4_askedAll ({ frames := 0, cells := 0, slots := 0, locals := 0 }) (PreR D k [e36 k a] [.ref (a 36), .int p1, .int p2]) (vp_Si (fun r => r = 0)) 0 0 (fun _ => False) := by
  refine Met.ofW (cc := cX4_askedAll) (maxL := 5) (ret := (some .int)) (by decide) rfl ?_
  intro p e s m args below meth c s₁ B hml hv
  obtain ⟨rfl, hP, hK⟩ := hv
  have hx := B.exec
  have hb := B.bytes
  have hr := B.returns
  have hts := atoms_spec (ws := wsX4_askedAll) B.pre
  have hown : s.vm.findClass RX4 = some m.cls := findClass_of_methodNamed B.named
  have hlocks := B.notSynchronized
  have i_X4 : ∀ w ∈ wsX40, w ∈ wsX4_askedAll := by decide +kernel
  have hl := lv_entry ([.ref (a 36), .int p1, .int p2]) (n := 5) (Nat.le_of_ble_eq_true rfl)
  rw [lg_entry_eq]
  generalize (lg_sl ([.ref (a 36), .int p1, .int p2]) ++ List.replicate (5 - (lg_sl ([.ref (a 36), .int p1, .int p2])).length) Slot.unset).toArray = ls at hl ⊢
  have hl : lv_has ls 5 [(0, .ref (a 36)), (1, .int p1), (2, .int p2)] := hl
  refine lv_iconst (v := 0) hx hb dX4_askedAll_0 (by decide) ?_
  refine lv_istore_n (lv' := [(3, .int 0), (0, .ref (a 36)), (1, .int p1), (2, .int p2)]) hx hb dX4_askedAll_1 rfl hl (by decide) rfl (fun ls hl => ?_)
  refine lv_iconst (v := 0) hx hb dX4_askedAll_2 (by decide) ?_
  refine lv_istore (lv' := [(4, .int 0), (3, .int 0), (0, .ref (a 36)), (1, .int p1), (2, .int p2)]) hx hb dX4_askedAll_3 hl (by decide) rfl (fun ls hl => ?_)
  refine lv_iload hx hb dX4_askedAll_5 (lv_at hl 0 rfl) ?_
  refine lv_aload_n hx hb dX4_askedAll_7 rfl (lv_at hl 2 rfl) ?_
  refine va_get (D := D) (ci := 4) (v := .int 0) (C := RX4) (T := TX4) (N := 11) hx hb hts i_X4 hown hK hP 0 rfl rfl 1 (by decide) (hts (.fieldLink RX4 15 "BellowsRow$People" "changes" "I") (by decide +kernel)) (fun _ h9 => h9) rfl dX4_askedAll_8 ?_
  refine lv_icmp_ge (tgt := 55) hx hb dX4_askedAll_11 (by decide) (fun _ => ?_) (fun h => absurd (by decide) h)
  refine lv_iload_n hx hb dX4_askedAll_55 rfl (lv_at hl 1 rfl) ?_
  exact W.iret (v := 0) hx hb hr (fun t ht hW => ⟨0, rfl, rfl, ht⟩) (fun q h => by cases h) dX4_askedAll_56
set_option maxHeartbeats 4000000 in
set_option maxRecDepth 100000 in
theorem c_X4_askedInVain (l : Launch) (D : va_G) (k : Nat → ClassId) (a : Nat → Nat) (p1 : Int32) (p2 : Int32) : Met l yX4_askedInVain wsX4_askedInVain ({ frames := 0, cells := 0, slots := 0, locals := 0 }) (PreR D k [e36 k a] [.ref (a 36), .int p1, .int p2]) (vp_Si (fun r => r = 0)) 0 0 (fun _ => False) := by
  refine Met.ofW (cc := cX4_askedInVain) (maxL := 5) (ret := (some .int)) (by decide) rfl ?_
  intro p e s m args below meth c s₁ B hml hv
  obtain ⟨rfl, hP, hK⟩ := hv
  have hx := B.exec
  have hb := B.bytes
  have hr := B.returns
  have hts := atoms_spec (ws := wsX4_askedInVain) B.pre
  have hown : s.vm.findClass RX4 = some m.cls := findClass_of_methodNamed B.named
  have hlocks := B.notSynchronized
  have i_X4 : ∀ w ∈ wsX40, w ∈ wsX4_askedInVain := by decide +kernel
  have hl := lv_entry ([.ref (a 36), .int p1, .int p2]) (n := 5) (Nat.le_of_ble_eq_true rfl)
  rw [lg_entry_eq]
  generalize (lg_sl ([.ref (a 36), .int p1, .int p2]) ++ List.replicate (5 - (lg_sl ([.ref (a 36), .int p1, .int p2])).length) Slot.unset).toArray = ls at hl ⊢
  have hl : lv_has ls 5 [(0, .ref (a 36)), (1, .int p1), (2, .int p2)] := hl
  refine lv_iconst (v := 0) hx hb dX4_askedInVain_0 (by decide) ?_
  refine lv_istore_n (lv' := [(3, .int 0), (0, .ref (a 36)), (1, .int p1), (2, .int p2)]) hx hb dX4_askedInVain_1 rfl hl (by decide) rfl (fun ls hl => ?_)
  refine lv_iconst (v := 0) hx hb dX4_askedInVain_2 (by decide) ?_
  refine lv_istore (lv' := [(4, .int 0), (3, .int 0), (0, .ref (a 36)), (1, .int p1), (2, .int p2)]) hx hb dX4_askedInVain_3 hl (by decide) rfl (fun ls hl => ?_)
  refine lv_iload hx hb dX4_askedInVain_5 (lv_at hl 0 rfl) ?_
  refine lv_aload_n hx hb dX4_askedInVain_7 rfl (lv_at hl 2 rfl) ?_
  refine va_get (D := D) (ci := 4) (v := .int 0) (C := RX4) (T := TX4) (N := 11) hx hb hts i_X4 hown hK hP 0 rfl rfl 1 (by decide) (hts (.fieldLink RX4 15 "BellowsRow$People" "changes" "I") (by decide +kernel)) (fun _ h9 => h9) rfl dX4_askedInVain_8 ?_
  refine lv_icmp_ge (tgt := 55) hx hb dX4_askedInVain_11 (by decide) (fun _ => ?_) (fun h => absurd (by decide) h)
  refine lv_iload_n hx hb dX4_askedInVain_55 rfl (lv_at hl 1 rfl) ?_
  exact W.iret (v := 0) hx hb hr (fun t ht hW => ⟨0, rfl, rfl, ht⟩) (fun q h => by cases h) dX4_askedInVain_56
set_option maxHeartbeats 4000000 in
set_option maxRecDepth 100000 in
theorem c_X9_hasSpace (l : Launch) (D : va_G) (k : Nat → ClassId) (a : Nat → Nat) : Met l yX9_hasSpace wsX9_hasSpace ({ frames := 0, cells := 0, slots := 0, locals := 0 }) (PreR D k [e1 k a, e2 k a] [.ref (a 1), .int 20]) (vp_Si (fun r => r = 1)) 0 0 (fun _ => False) := by
  refine Met.ofW (cc := cX9_hasSpace) (maxL := 2) (ret := (some .boolean)) (by decide) rfl ?_
  intro p e s m args below meth c s₁ B hml hv
  obtain ⟨rfl, hP, hK⟩ := hv
  have hx := B.exec
  have hb := B.bytes
  have hr := B.returns
  have hts := atoms_spec (ws := wsX9_hasSpace) B.pre
  have hown : s.vm.findClass RX9 = some m.cls := findClass_of_methodNamed B.named
  have hlocks := B.notSynchronized
  have i_X9 : ∀ w ∈ wsX90, w ∈ wsX9_hasSpace := by decide +kernel
  have hl := lv_entry ([.ref (a 1), .int 20]) (n := 2) (Nat.le_of_ble_eq_true rfl)
  rw [lg_entry_eq]
  generalize (lg_sl ([.ref (a 1), .int 20]) ++ List.replicate (2 - (lg_sl ([.ref (a 1), .int 20])).length) Slot.unset).toArray = ls at hl ⊢
  have hl : lv_has ls 2 [(0, .ref (a 1)), (1, .int 20)] := hl
  refine lv_aload_n hx hb dX9_hasSpace_0 rfl (lv_at hl 0 rfl) ?_
  refine va_get (D := D) (ci := 9) (v := .int 0) (C := RX9) (T := TX9) (N := 8) hx hb hts i_X9 hown hK hP 0 rfl rfl 1 (by decide) (hts (.fieldLink RX9 15 "BellowsRow$Tape" "size" "I") (by decide +kernel)) (fun _ h9 => h9) rfl dX9_hasSpace_1 ?_
  refine lv_iload_n hx hb dX9_hasSpace_4 rfl (lv_at hl 1 rfl) ?_
  refine lv_iadd hx hb dX9_hasSpace_5 ?_
  refine lv_topi (fun x1 ex1 => ?_)
  obtain rfl : x1 = 20 := ex1.trans (by decide)
  refine lv_aload_n hx hb dX9_hasSpace_6 rfl (lv_at hl 0 rfl) ?_
  refine va_get (D := D) (ci := 9) (v := .ref (a 2)) (C := RX9) (T := TX9) (N := 8) hx hb hts i_X9 hown hK hP 0 rfl rfl 0 (by decide) (hts (.fieldLink RX9 9 "BellowsRow$Tape" "bytes" "[B") (by decide +kernel)) (fun _ h9 => h9) rfl dX9_hasSpace_7 ?_
  refine va_alen (v := 1600) hx hb hK hP 1 0 rfl rfl rfl dX9_hasSpace_10 ?_
  refine lv_icmp_gt (tgt := 18) hx hb dX9_hasSpace_11 (by decide) (fun h => absurd h (by decide)) (fun _ => ?_)
  refine lv_iconst (v := 1) hx hb dX9_hasSpace_14 (by decide) ?_
  refine lv_goto (tgt := 19) hx hb dX9_hasSpace_15 (by decide) ?_
  exact W.zret (v := 1) hx hb hr rfl (fun t ht hW => ⟨1, rfl, rfl, ht⟩) (fun q h => by cases h) dX9_hasSpace_19
set_option maxHeartbeats 4000000 in
set_option maxRecDepth 100000 in
theorem c_X11_isPress (l : Launch) (D : va_G) (k : Nat → ClassId) (p1 : Int32) : Met l yX11_isPress wsX11_isPress ({ frames := 0, cells := 0, slots := 0, locals := 0 }) (PreR D k [] [.int p1]) (vp_Si (fun r => ((0 ≤ p1.toInt ∧ p1.toInt ≤ 999) ∧ r = 1) ∨ (¬ (0 ≤ p1.toInt ∧ p1.toInt ≤ 999) ∧ r = 0))) 0 0 (fun _ => False) := by
  refine Met.ofW (cc := cX11_isPress) (maxL := 1) (ret := (some .boolean)) (by decide) rfl ?_
  intro p e s m args below meth c s₁ B hml hv
  obtain ⟨rfl, hP, hK⟩ := hv
  have hx := B.exec
  have hb := B.bytes
  have hr := B.returns
  have hts := atoms_spec (ws := wsX11_isPress) B.pre
  have hown : s.vm.findClass RX11 = some m.cls := findClass_of_methodNamed B.named
  have hlocks := B.notSynchronized
  have hl := lv_entry ([.int p1]) (n := 1) (Nat.le_of_ble_eq_true rfl)
  rw [lg_entry_eq]
  generalize (lg_sl ([.int p1]) ++ List.replicate (1 - (lg_sl ([.int p1])).length) Slot.unset).toArray = ls at hl ⊢
  have hl : lv_has ls 1 [(0, .int p1)] := hl
  refine lv_iload_n hx hb dX11_isPress_0 rfl (lv_at hl 0 rfl) ?_
  refine lv_if_lt (tgt := 15) hx hb dX11_isPress_1 (by decide) (fun c1 => ?_) (fun c1 => ?_)
  · refine lv_iconst (v := 0) hx hb dX11_isPress_15 (by decide) ?_
    exact W.zret (v := 0) hx hb hr rfl (fun t ht hW => ⟨0, rfl, Or.inr ⟨by (try simp only [i_lt, i_le, i_eq, Int32.toInt_toInt64, Int32.reduceToInt, Int64.reduceToInt] at c1 ⊢); omega, rfl⟩, ht⟩) (fun q h => by cases h) dX11_isPress_16
  · refine lv_iload_n hx hb dX11_isPress_4 rfl (lv_at hl 0 rfl) ?_
    refine lv_sipush (v := 999) hx hb dX11_isPress_5 (by decide) ?_
    refine lv_icmp_gt (tgt := 15) hx hb dX11_isPress_8 (by decide) (fun c2 => ?_) (fun c2 => ?_)
    · refine lv_iconst (v := 0) hx hb dX11_isPress_15 (by decide) ?_
      exact W.zret (v := 0) hx hb hr rfl (fun t ht hW => ⟨0, rfl, Or.inr ⟨by (try simp only [i_lt, i_le, i_eq, Int32.toInt_toInt64, Int32.reduceToInt, Int64.reduceToInt] at c1 c2 ⊢); omega, rfl⟩, ht⟩) (fun q h => by cases h) dX11_isPress_16
    · refine lv_iconst (v := 1) hx hb dX11_isPress_11 (by decide) ?_
      refine lv_goto (tgt := 16) hx hb dX11_isPress_12 (by decide) ?_
      exact W.zret (v := 1) hx hb hr rfl (fun t ht hW => ⟨1, rfl, Or.inl ⟨by (try simp only [i_lt, i_le, i_eq, Int32.toInt_toInt64, Int32.reduceToInt, Int64.reduceToInt] at c1 c2 ⊢); omega, rfl⟩, ht⟩) (fun q h => by cases h) dX11_isPress_16
set_option maxHeartbeats 4000000 in
set_option maxRecDepth 100000 in
theorem c_X11_isStrained (l : Launch) (D : va_G) (k : Nat → ClassId) (a : Nat → Nat) (p1 : Int32) : Met l yX11_isStrained wsX11_isStrained ({ frames := 1, cells := 0, slots := 0, locals := 21 }) (PreR D k [e0 k a, e26 k a] [.ref (a 0), .int p1]) (vp_Si (fun r => r = 0)) 0 0 (fun _ => False) := by
  refine Met.ofW (cc := cX11_isStrained) (maxL := 3) (ret := (some .boolean)) (by decide) rfl ?_
  intro p e s m args below meth c s₁ B hml hv
  obtain ⟨rfl, hP, hK⟩ := hv
  have hx := B.exec
  have hb := B.bytes
  have hr := B.returns
  have hts := atoms_spec (ws := wsX11_isStrained) B.pre
  have hown : s.vm.findClass RX11 = some m.cls := findClass_of_methodNamed B.named
  have hlocks := B.notSynchronized
  have i_X11 : ∀ w ∈ wsX110, w ∈ wsX11_isStrained := by decide +kernel
  have hl := lv_entry ([.ref (a 0), .int p1]) (n := 3) (Nat.le_of_ble_eq_true rfl)
  rw [lg_entry_eq]
  generalize (lg_sl ([.ref (a 0), .int p1]) ++ List.replicate (3 - (lg_sl ([.ref (a 0), .int p1])).length) Slot.unset).toArray = ls at hl ⊢
  have hl : lv_has ls 3 [(0, .ref (a 0)), (1, .int p1)] := hl
  refine lv_aload_n hx hb dX11_isStrained_0 rfl (lv_at hl 0 rfl) ?_
  refine va_get (D := D) (ci := 11) (v := .ref (a 26)) (C := RX11) (T := TX11) (N := 11) hx hb hts i_X11 hown hK hP 0 rfl rfl 8 (by decide) (hts (.fieldLink RX11 62 "BellowsRow" "now" "LBellowsRow$Works;") (by decide +kernel)) (fun _ h9 => h9) rfl dX11_isStrained_1 ?_
  refine lv_iload_n hx hb dX11_isStrained_4 rfl (lv_at hl 1 rfl) ?_
  refine pvq (C := RX10) (As := [.int p1]) (rest := []) (wc := [e26 k a]) ⟨hx, hb, hml, hown, hts⟩ (c_X10_pipeAt l D k a p1) (cwV 1 hts gX11_isStrained_X10_pipeAt rfl rfl rfl (by decide +kernel) ⟨Nat.le_of_ble_eq_true rfl, Nat.le_of_ble_eq_true rfl⟩) hP hK [1] rfl 1 rfl rfl rfl rfl hl.1 rfl (Nat.le_of_ble_eq_true rfl) dX11_isStrained_5 ⟨Nat.le_of_ble_eq_true rfl, Nat.le_of_ble_eq_true rfl⟩ (fun r1 hr1 => ?_)
  obtain rfl := hr1
  refine W.eq (g2 := F0 m 8 ls [.null]) rfl ?_
  refine lv_astore_nN (lv' := [(2, .null), (0, .ref (a 0)), (1, .int p1)]) hx hb dX11_isStrained_8 rfl hl (by decide) rfl (fun ls hl => ?_)
  refine lv_aload_nN hx hb dX11_isStrained_9 rfl (lv_at hl 0 rfl) ?_
  refine lv_ifnonnullN hx hb dX11_isStrained_10 ?_
  refine lv_iconst (v := 0) hx hb dX11_isStrained_13 (by decide) ?_
  exact W.zret (v := 0) hx hb hr rfl (fun t ht hW => ⟨0, rfl, rfl, ht⟩) (fun q h => by cases h) dX11_isStrained_14
set_option maxHeartbeats 4000000 in
set_option maxRecDepth 100000 in
theorem c_X11_isClouded (l : Launch) (D : va_G) (k : Nat → ClassId) (a : Nat → Nat) (p1 : Int32) (p2 : Int32) : Met l yX11_isClouded wsX11_isClouded ({ frames := 1, cells := 0, slots := 0, locals := 21 }) (PreR D k [e0 k a, e26 k a] [.ref (a 0), .int p1, .int p2]) (vp_Si (fun r => r = 0)) 0 0 (fun _ => False) := by
  refine Met.ofW (cc := cX11_isClouded) (maxL := 4) (ret := (some .boolean)) (by decide) rfl ?_
  intro p e s m args below meth c s₁ B hml hv
  obtain ⟨rfl, hP, hK⟩ := hv
  have hx := B.exec
  have hb := B.bytes
  have hr := B.returns
  have hts := atoms_spec (ws := wsX11_isClouded) B.pre
  have hown : s.vm.findClass RX11 = some m.cls := findClass_of_methodNamed B.named
  have hlocks := B.notSynchronized
  have i_X11 : ∀ w ∈ wsX110, w ∈ wsX11_isClouded := by decide +kernel
  have hl := lv_entry ([.ref (a 0), .int p1, .int p2]) (n := 4) (Nat.le_of_ble_eq_true rfl)
  rw [lg_entry_eq]
  generalize (lg_sl ([.ref (a 0), .int p1, .int p2]) ++ List.replicate (4 - (lg_sl ([.ref (a 0), .int p1, .int p2])).length) Slot.unset).toArray = ls at hl ⊢
  have hl : lv_has ls 4 [(0, .ref (a 0)), (1, .int p1), (2, .int p2)] := hl
  refine lv_aload_n hx hb dX11_isClouded_0 rfl (lv_at hl 0 rfl) ?_
  refine va_get (D := D) (ci := 11) (v := .ref (a 26)) (C := RX11) (T := TX11) (N := 11) hx hb hts i_X11 hown hK hP 0 rfl rfl 8 (by decide) (hts (.fieldLink RX11 62 "BellowsRow" "now" "LBellowsRow$Works;") (by decide +kernel)) (fun _ h9 => h9) rfl dX11_isClouded_1 ?_
  refine lv_iload_n hx hb dX11_isClouded_4 rfl (lv_at hl 1 rfl) ?_
  refine pvq (C := RX10) (As := [.int p1]) (rest := []) (wc := [e26 k a]) ⟨hx, hb, hml, hown, hts⟩ (c_X10_pipeAt l D k a p1) (cwV 1 hts gX11_isClouded_X10_pipeAt rfl rfl rfl (by decide +kernel) ⟨Nat.le_of_ble_eq_true rfl, Nat.le_of_ble_eq_true rfl⟩) hP hK [1] rfl 1 rfl rfl rfl rfl hl.1 rfl (Nat.le_of_ble_eq_true rfl) dX11_isClouded_5 ⟨Nat.le_of_ble_eq_true rfl, Nat.le_of_ble_eq_true rfl⟩ (fun r1 hr1 => ?_)
  obtain rfl := hr1
  refine W.eq (g2 := F0 m 8 ls [.null]) rfl ?_
  refine lv_astore_nN (lv' := [(3, .null), (0, .ref (a 0)), (1, .int p1), (2, .int p2)]) hx hb dX11_isClouded_8 rfl hl (by decide) rfl (fun ls hl => ?_)
  refine lv_aload_nN hx hb dX11_isClouded_9 rfl (lv_at hl 0 rfl) ?_
  refine lv_ifnullN (tgt := 27) hx hb dX11_isClouded_10 (by decide) ?_
  refine lv_iconst (v := 0) hx hb dX11_isClouded_27 (by decide) ?_
  exact W.zret (v := 0) hx hb hr rfl (fun t ht hW => ⟨0, rfl, rfl, ht⟩) (fun q h => by cases h) dX11_isClouded_28
set_option maxHeartbeats 4000000 in
set_option maxRecDepth 100000 in
theorem c_X11_slotAt (l : Launch) (D : va_G) (k : Nat → ClassId) (a : Nat → Nat) (p1 : Int32) : Met l yX11_slotAt wsX11_slotAt ({ frames := 0, cells := 0, slots := 0, locals := 0 }) (PreR D k [e0 k a, e4 k a] [.ref (a 0), .int p1]) (va_Sq (fun r => ((0 ≤ p1.toInt ∧ p1.toInt ≤ 3) ∧ ∃ z q n : Nat, r = some z ∧ ([e5 k a, e6 k a, e7 k a, e8 k a] : va_W)[q]? = some (z, .inr (7, [.int 0, .int 0, .int 0, .ref n]))) ∨ (¬ (0 ≤ p1.toInt ∧ p1.toInt ≤ 3) ∧ r = none))) 0 0 (fun _ => False) := by
  refine Met.ofW (cc := cX11_slotAt) (maxL := 2) (ret := (some (.object "BellowsRow$Row"))) (by decide) rfl ?_
  intro p e s m args below meth c s₁ B hml hv
  obtain ⟨rfl, hP, hK⟩ := hv
  have hx := B.exec
  have hb := B.bytes
  have hr := B.returns
  have hts := atoms_spec (ws := wsX11_slotAt) B.pre
  have hown : s.vm.findClass RX11 = some m.cls := findClass_of_methodNamed B.named
  have hlocks := B.notSynchronized
  have i_X11 : ∀ w ∈ wsX110, w ∈ wsX11_slotAt := by decide +kernel
  have hl := lv_entry ([.ref (a 0), .int p1]) (n := 2) (Nat.le_of_ble_eq_true rfl)
  rw [lg_entry_eq]
  generalize (lg_sl ([.ref (a 0), .int p1]) ++ List.replicate (2 - (lg_sl ([.ref (a 0), .int p1])).length) Slot.unset).toArray = ls at hl ⊢
  have hl : lv_has ls 2 [(0, .ref (a 0)), (1, .int p1)] := hl
  refine lv_iload_n hx hb dX11_slotAt_0 rfl (lv_at hl 1 rfl) ?_
  refine lv_if_lt (tgt := 13) hx hb dX11_slotAt_1 (by decide) (fun c1 => ?_) (fun c1 => ?_)
  · refine lv_null hx hb dX11_slotAt_13 ?_
    refine lv_goto (tgt := 23) hx hb dX11_slotAt_14 (by decide) ?_
    exact W.aret (v := .null) hx hb hr (Or.inl ⟨_, rfl⟩) (Or.inl rfl) (fun t ht hW => ⟨none, rfl, Or.inr ⟨by (try simp only [i_lt, i_le, i_eq, Int32.toInt_toInt64, Int32.reduceToInt, Int64.reduceToInt] at c1 ⊢); omega, rfl⟩, ht⟩) (fun q h => by cases h) dX11_slotAt_23
  · refine lv_iload_n hx hb dX11_slotAt_4 rfl (lv_at hl 1 rfl) ?_
    refine lv_aload_n hx hb dX11_slotAt_5 rfl (lv_at hl 0 rfl) ?_
    refine va_get (D := D) (ci := 11) (v := .ref (a 4)) (C := RX11) (T := TX11) (N := 11) hx hb hts i_X11 hown hK hP 0 rfl rfl 2 (by decide) (hts (.fieldLink RX11 25 "BellowsRow" "slots" "[LBellowsRow$Row;") (by decide +kernel)) (fun _ h9 => h9) rfl dX11_slotAt_6 ?_
    refine va_alen (v := 4) hx hb hK hP 1 4 rfl rfl rfl dX11_slotAt_9 ?_
    refine lv_icmp_lt (tgt := 17) hx hb dX11_slotAt_10 (by decide) (fun c2 => ?_) (fun c2 => ?_)
    · refine lv_aload_n hx hb dX11_slotAt_17 rfl (lv_at hl 0 rfl) ?_
      refine va_get (D := D) (ci := 11) (v := .ref (a 4)) (C := RX11) (T := TX11) (N := 11) hx hb hts i_X11 hown hK hP 0 rfl rfl 2 (by decide) (hts (.fieldLink RX11 25 "BellowsRow" "slots" "[LBellowsRow$Row;") (by decide +kernel)) (fun _ h9 => h9) rfl dX11_slotAt_18 ?_
      refine lv_iload_n hx hb dX11_slotAt_21 rfl (lv_at hl 1 rfl) ?_
      refine va_aldq hx hb hK hP 1 4 rfl rfl (vp_in_iff.mpr (by (try simp only [i_lt, i_le, i_eq, Int32.toInt_toInt64, Int32.reduceToInt, Int64.reduceToInt] at c1 c2 ⊢); omega)) dX11_slotAt_22 ?_
      exact W.aret (v := va_rf (sl0 a (p1).toNatClampNeg)) hx hb hr (Or.inl ⟨_, rfl⟩) (va_rf_or _) (fun t ht hW => ⟨(sl0 a (p1).toNatClampNeg), rfl, sl0_at (by (try simp only [i_lt, i_le, i_eq, Int32.toInt_toInt64, Int32.reduceToInt, Int64.reduceToInt] at c1 c2 ⊢); omega), ht⟩) (fun q h => by cases h) dX11_slotAt_23
    · refine lv_null hx hb dX11_slotAt_13 ?_
      refine lv_goto (tgt := 23) hx hb dX11_slotAt_14 (by decide) ?_
      exact W.aret (v := .null) hx hb hr (Or.inl ⟨_, rfl⟩) (Or.inl rfl) (fun t ht hW => ⟨none, rfl, Or.inr ⟨by (try simp only [i_lt, i_le, i_eq, Int32.toInt_toInt64, Int32.reduceToInt, Int64.reduceToInt] at c1 c2 ⊢); omega, rfl⟩, ht⟩) (fun q h => by cases h) dX11_slotAt_23
set_option maxHeartbeats 4000000 in
set_option maxRecDepth 100000 in
theorem c_X11_slotsWithRow (l : Launch) (D : va_G) (k : Nat → ClassId) (a : Nat → Nat) : Met l yX11_slotsWithRow wsX11_slotsWithRow ({ frames := 0, cells := 0, slots := 0, locals := 0 }) (PreR D k [e0 k a, e4 k a, e5 k a, e6 k a, e7 k a, e8 k a] [.ref (a 0)]) (vp_Si (fun r => r = 0)) 0 0 (fun _ => False) := by
  refine Met.ofW (cc := cX11_slotsWithRow) (maxL := 6) (ret := (some .int)) (by decide) rfl ?_
  intro p e s m args below meth c s₁ B hml hv
  obtain ⟨rfl, hP, hK⟩ := hv
  have hx := B.exec
  have hb := B.bytes
  have hr := B.returns
  have hts := atoms_spec (ws := wsX11_slotsWithRow) B.pre
  have hown : s.vm.findClass RX11 = some m.cls := findClass_of_methodNamed B.named
  have hlocks := B.notSynchronized
  have i_X11 : ∀ w ∈ wsX110, w ∈ wsX11_slotsWithRow := by decide +kernel
  have i_X7 : ∀ w ∈ wsX70, w ∈ wsX11_slotsWithRow := by decide +kernel
  have hl := lv_entry ([.ref (a 0)]) (n := 6) (Nat.le_of_ble_eq_true rfl)
  rw [lg_entry_eq]
  generalize (lg_sl ([.ref (a 0)]) ++ List.replicate (6 - (lg_sl ([.ref (a 0)])).length) Slot.unset).toArray = ls at hl ⊢
  have hl : lv_has ls 6 [(0, .ref (a 0))] := hl
  refine lv_iconst (v := 0) hx hb dX11_slotsWithRow_0 (by decide) ?_
  refine lv_istore_n (lv' := [(1, .int 0), (0, .ref (a 0))]) hx hb dX11_slotsWithRow_1 rfl hl (by decide) rfl (fun ls hl => ?_)
  refine lv_aload_n hx hb dX11_slotsWithRow_2 rfl (lv_at hl 1 rfl) ?_
  refine va_get (D := D) (ci := 11) (v := .ref (a 4)) (C := RX11) (T := TX11) (N := 11) hx hb hts i_X11 hown hK hP 0 rfl rfl 2 (by decide) (hts (.fieldLink RX11 25 "BellowsRow" "slots" "[LBellowsRow$Row;") (by decide +kernel)) (fun _ h9 => h9) rfl dX11_slotsWithRow_3 ?_
  refine lv_astore_n (lv' := [(2, .ref (a 4)), (1, .int 0), (0, .ref (a 0))]) hx hb dX11_slotsWithRow_6 rfl hl (by decide) rfl (fun ls hl => ?_)
  refine lv_aload_n hx hb dX11_slotsWithRow_7 rfl (lv_at hl 0 rfl) ?_
  refine va_alen (v := 4) hx hb hK hP 1 4 rfl rfl rfl dX11_slotsWithRow_8 ?_
  refine lv_istore_n (lv' := [(3, .int 4), (2, .ref (a 4)), (1, .int 0), (0, .ref (a 0))]) hx hb dX11_slotsWithRow_9 rfl hl (by decide) rfl (fun ls hl => ?_)
  refine lv_iconst (v := 0) hx hb dX11_slotsWithRow_10 (by decide) ?_
  refine lv_istore (lv' := [(4, .int 0), (3, .int 4), (2, .ref (a 4)), (1, .int 0), (0, .ref (a 0))]) hx hb dX11_slotsWithRow_11 hl (by decide) rfl (fun ls hl => ?_)
  refine lv_iload hx hb dX11_slotsWithRow_13 (lv_at hl 0 rfl) ?_
  refine lv_iload_n hx hb dX11_slotsWithRow_15 rfl (lv_at hl 1 rfl) ?_
  refine lv_icmp_ge (tgt := 47) hx hb dX11_slotsWithRow_16 (by decide) (fun h => absurd h (by decide)) (fun _ => ?_)
  refine lv_aload_n hx hb dX11_slotsWithRow_19 rfl (lv_at hl 2 rfl) ?_
  refine lv_iload hx hb dX11_slotsWithRow_20 (lv_at hl 0 rfl) ?_
  refine va_aldq hx hb hK hP 1 4 rfl rfl (vp_in_iff.mpr (by decide)) dX11_slotsWithRow_22 ?_
  refine W.eq (g2 := F0 m 23 ls [.ref (a 5)]) rfl ?_
  refine lv_astore (lv' := [(5, .ref (a 5)), (4, .int 0), (3, .int 4), (2, .ref (a 4)), (1, .int 0), (0, .ref (a 0))]) hx hb dX11_slotsWithRow_23 hl (by decide) rfl (fun ls hl => ?_)
  refine lv_aload hx hb dX11_slotsWithRow_25 (lv_at hl 0 rfl) ?_
  refine lv_ifnull hx hb dX11_slotsWithRow_27 ?_
  refine lv_aload hx hb dX11_slotsWithRow_30 (lv_at hl 0 rfl) ?_
  refine va_get (D := D) (ci := 7) (v := .int 0) (C := RX7) (T := TX7) (N := 4) hx hb hts i_X7 hown hK hP 2 rfl rfl 0 (by decide) (hts (.fieldLink RX11 211 "BellowsRow$Row" "is" "Z") (by decide +kernel)) (fun _ h9 => h9) rfl dX11_slotsWithRow_32 ?_
  refine lv_if_eq (tgt := 41) hx hb dX11_slotsWithRow_35 (by decide) (fun _ => ?_) (fun h => absurd (by decide) h)
  refine lv_iinc (v := 1) (lv' := [(4, .int 1), (5, .ref (a 5)), (3, .int 4), (2, .ref (a 4)), (1, .int 0), (0, .ref (a 0))]) hx hb dX11_slotsWithRow_41 hl (k := 1) rfl (by decide) (by decide) rfl (fun ls hl => ?_)
  refine lv_goto (tgt := 13) hx hb dX11_slotsWithRow_44 (by decide) ?_
  refine lv_iload hx hb dX11_slotsWithRow_13 (lv_at hl 0 rfl) ?_
  refine lv_iload_n hx hb dX11_slotsWithRow_15 rfl (lv_at hl 2 rfl) ?_
  refine lv_icmp_ge (tgt := 47) hx hb dX11_slotsWithRow_16 (by decide) (fun h => absurd h (by decide)) (fun _ => ?_)
  refine lv_aload_n hx hb dX11_slotsWithRow_19 rfl (lv_at hl 3 rfl) ?_
  refine lv_iload hx hb dX11_slotsWithRow_20 (lv_at hl 0 rfl) ?_
  refine va_aldq hx hb hK hP 1 4 rfl rfl (vp_in_iff.mpr (by decide)) dX11_slotsWithRow_22 ?_
  refine W.eq (g2 := F0 m 23 ls [.ref (a 6)]) rfl ?_
  refine lv_astore (lv' := [(5, .ref (a 6)), (4, .int 1), (3, .int 4), (2, .ref (a 4)), (1, .int 0), (0, .ref (a 0))]) hx hb dX11_slotsWithRow_23 hl (by decide) rfl (fun ls hl => ?_)
  refine lv_aload hx hb dX11_slotsWithRow_25 (lv_at hl 0 rfl) ?_
  refine lv_ifnull hx hb dX11_slotsWithRow_27 ?_
  refine lv_aload hx hb dX11_slotsWithRow_30 (lv_at hl 0 rfl) ?_
  refine va_get (D := D) (ci := 7) (v := .int 0) (C := RX7) (T := TX7) (N := 4) hx hb hts i_X7 hown hK hP 3 rfl rfl 0 (by decide) (hts (.fieldLink RX11 211 "BellowsRow$Row" "is" "Z") (by decide +kernel)) (fun _ h9 => h9) rfl dX11_slotsWithRow_32 ?_
  refine lv_if_eq (tgt := 41) hx hb dX11_slotsWithRow_35 (by decide) (fun _ => ?_) (fun h => absurd (by decide) h)
  refine lv_iinc (v := 2) (lv' := [(4, .int 2), (5, .ref (a 6)), (3, .int 4), (2, .ref (a 4)), (1, .int 0), (0, .ref (a 0))]) hx hb dX11_slotsWithRow_41 hl (k := 1) rfl (by decide) (by decide) rfl (fun ls hl => ?_)
  refine lv_goto (tgt := 13) hx hb dX11_slotsWithRow_44 (by decide) ?_
  refine lv_iload hx hb dX11_slotsWithRow_13 (lv_at hl 0 rfl) ?_
  refine lv_iload_n hx hb dX11_slotsWithRow_15 rfl (lv_at hl 2 rfl) ?_
  refine lv_icmp_ge (tgt := 47) hx hb dX11_slotsWithRow_16 (by decide) (fun h => absurd h (by decide)) (fun _ => ?_)
  refine lv_aload_n hx hb dX11_slotsWithRow_19 rfl (lv_at hl 3 rfl) ?_
  refine lv_iload hx hb dX11_slotsWithRow_20 (lv_at hl 0 rfl) ?_
  refine va_aldq hx hb hK hP 1 4 rfl rfl (vp_in_iff.mpr (by decide)) dX11_slotsWithRow_22 ?_
  refine W.eq (g2 := F0 m 23 ls [.ref (a 7)]) rfl ?_
  refine lv_astore (lv' := [(5, .ref (a 7)), (4, .int 2), (3, .int 4), (2, .ref (a 4)), (1, .int 0), (0, .ref (a 0))]) hx hb dX11_slotsWithRow_23 hl (by decide) rfl (fun ls hl => ?_)
  refine lv_aload hx hb dX11_slotsWithRow_25 (lv_at hl 0 rfl) ?_
  refine lv_ifnull hx hb dX11_slotsWithRow_27 ?_
  refine lv_aload hx hb dX11_slotsWithRow_30 (lv_at hl 0 rfl) ?_
  refine va_get (D := D) (ci := 7) (v := .int 0) (C := RX7) (T := TX7) (N := 4) hx hb hts i_X7 hown hK hP 4 rfl rfl 0 (by decide) (hts (.fieldLink RX11 211 "BellowsRow$Row" "is" "Z") (by decide +kernel)) (fun _ h9 => h9) rfl dX11_slotsWithRow_32 ?_
  refine lv_if_eq (tgt := 41) hx hb dX11_slotsWithRow_35 (by decide) (fun _ => ?_) (fun h => absurd (by decide) h)
  refine lv_iinc (v := 3) (lv' := [(4, .int 3), (5, .ref (a 7)), (3, .int 4), (2, .ref (a 4)), (1, .int 0), (0, .ref (a 0))]) hx hb dX11_slotsWithRow_41 hl (k := 1) rfl (by decide) (by decide) rfl (fun ls hl => ?_)
  refine lv_goto (tgt := 13) hx hb dX11_slotsWithRow_44 (by decide) ?_
  refine lv_iload hx hb dX11_slotsWithRow_13 (lv_at hl 0 rfl) ?_
  refine lv_iload_n hx hb dX11_slotsWithRow_15 rfl (lv_at hl 2 rfl) ?_
  refine lv_icmp_ge (tgt := 47) hx hb dX11_slotsWithRow_16 (by decide) (fun h => absurd h (by decide)) (fun _ => ?_)
  refine lv_aload_n hx hb dX11_slotsWithRow_19 rfl (lv_at hl 3 rfl) ?_
  refine lv_iload hx hb dX11_slotsWithRow_20 (lv_at hl 0 rfl) ?_
  refine va_aldq hx hb hK hP 1 4 rfl rfl (vp_in_iff.mpr (by decide)) dX11_slotsWithRow_22 ?_
  refine W.eq (g2 := F0 m 23 ls [.ref (a 8)]) rfl ?_
  refine lv_astore (lv' := [(5, .ref (a 8)), (4, .int 3), (3, .int 4), (2, .ref (a 4)), (1, .int 0), (0, .ref (a 0))]) hx hb dX11_slotsWithRow_23 hl (by decide) rfl (fun ls hl => ?_)
  refine lv_aload hx hb dX11_slotsWithRow_25 (lv_at hl 0 rfl) ?_
  refine lv_ifnull hx hb dX11_slotsWithRow_27 ?_
  refine lv_aload hx hb dX11_slotsWithRow_30 (lv_at hl 0 rfl) ?_
  refine va_get (D := D) (ci := 7) (v := .int 0) (C := RX7) (T := TX7) (N := 4) hx hb hts i_X7 hown hK hP 5 rfl rfl 0 (by decide) (hts (.fieldLink RX11 211 "BellowsRow$Row" "is" "Z") (by decide +kernel)) (fun _ h9 => h9) rfl dX11_slotsWithRow_32 ?_
  refine lv_if_eq (tgt := 41) hx hb dX11_slotsWithRow_35 (by decide) (fun _ => ?_) (fun h => absurd (by decide) h)
  refine lv_iinc (v := 4) (lv' := [(4, .int 4), (5, .ref (a 8)), (3, .int 4), (2, .ref (a 4)), (1, .int 0), (0, .ref (a 0))]) hx hb dX11_slotsWithRow_41 hl (k := 1) rfl (by decide) (by decide) rfl (fun ls hl => ?_)
  refine lv_goto (tgt := 13) hx hb dX11_slotsWithRow_44 (by decide) ?_
  refine lv_iload hx hb dX11_slotsWithRow_13 (lv_at hl 0 rfl) ?_
  refine lv_iload_n hx hb dX11_slotsWithRow_15 rfl (lv_at hl 2 rfl) ?_
  refine lv_icmp_ge (tgt := 47) hx hb dX11_slotsWithRow_16 (by decide) (fun _ => ?_) (fun h => absurd (by decide) h)
  refine lv_iload_n hx hb dX11_slotsWithRow_47 rfl (lv_at hl 4 rfl) ?_
  exact W.iret (v := 0) hx hb hr (fun t ht hW => ⟨0, rfl, rfl, ht⟩) (fun q h => by cases h) dX11_slotsWithRow_48
set_option maxHeartbeats 4000000 in
set_option maxRecDepth 100000 in
theorem c_X11_fault (l : Launch) (D : va_G) (k : Nat → ClassId) (a : Nat → Nat) (p1 : Int32) : Met l yX11_fault wsX11_fault ({ frames := 0, cells := 0, slots := 0, locals := 0 }) (PreR D k [e0 k a] [.ref (a 0), .int p1]) (vp_Si (fun r => ((p1.toInt = 0) ∧ r = 0) ∨ (¬ (p1.toInt = 0) ∧ r = (-1)))) 0 0 (fun _ => False) := by
  refine Met.ofW (cc := cX11_fault) (maxL := 2) (ret := (some .int)) (by decide) rfl ?_
  intro p e s m args below meth c s₁ B hml hv
  obtain ⟨rfl, hP, hK⟩ := hv
  have hx := B.exec
  have hb := B.bytes
  have hr := B.returns
  have hts := atoms_spec (ws := wsX11_fault) B.pre
  have hown : s.vm.findClass RX11 = some m.cls := findClass_of_methodNamed B.named
  have hlocks := B.notSynchronized
  have i_X11 : ∀ w ∈ wsX110, w ∈ wsX11_fault := by decide +kernel
  have hl := lv_entry ([.ref (a 0), .int p1]) (n := 2) (Nat.le_of_ble_eq_true rfl)
  rw [lg_entry_eq]
  generalize (lg_sl ([.ref (a 0), .int p1]) ++ List.replicate (2 - (lg_sl ([.ref (a 0), .int p1])).length) Slot.unset).toArray = ls at hl ⊢
  have hl : lv_has ls 2 [(0, .ref (a 0)), (1, .int p1)] := hl
  refine lv_iload_n hx hb dX11_fault_0 rfl (lv_at hl 1 rfl) ?_
  by_cases k1 : p1 = 0
  · refine lv_lookup (tgt := 28) hx hb dX11_fault_1 (by decide) (by rw [k1]) (by decide) ?_
    refine lv_aload_n hx hb dX11_fault_28 rfl (lv_at hl 0 rfl) ?_
    refine va_get (D := D) (ci := 11) (v := .int 0) (C := RX11) (T := TX11) (N := 11) hx hb hts i_X11 hown hK hP 0 rfl rfl 9 (by decide) (hts (.fieldLink RX11 66 "BellowsRow" "latestFault" "I") (by decide +kernel)) (fun _ h9 => h9) rfl dX11_fault_29 ?_
    exact W.iret (v := 0) hx hb hr (fun t ht hW => ⟨0, rfl, Or.inl ⟨by (try simp only [i_lt, i_le, i_eq, Int32.toInt_toInt64, Int32.reduceToInt, Int64.reduceToInt] at k1 ⊢); omega, rfl⟩, ht⟩) (fun q h => by cases h) dX11_fault_32
  by_cases k2 : p1 = 1
  · refine lv_lookup (tgt := 33) hx hb dX11_fault_1 (by decide) (by rw [k2]) (by decide) ?_
    refine lv_aload_n hx hb dX11_fault_33 rfl (lv_at hl 0 rfl) ?_
    refine va_get (D := D) (ci := 11) (v := .int (-1)) (C := RX11) (T := TX11) (N := 11) hx hb hts i_X11 hown hK hP 0 rfl rfl 10 (by decide) (hts (.fieldLink RX11 70 "BellowsRow" "latestPlace" "I") (by decide +kernel)) (fun _ h9 => h9) rfl dX11_fault_34 ?_
    exact W.iret (v := (-1)) hx hb hr (fun t ht hW => ⟨(-1), rfl, Or.inr ⟨by (try simp only [i_lt, i_le, i_eq, Int32.toInt_toInt64, Int32.reduceToInt, Int64.reduceToInt] at k2 ⊢); omega, rfl⟩, ht⟩) (fun q h => by cases h) dX11_fault_37
  refine lv_lookup (tgt := 38) hx hb dX11_fault_1 (by decide) (by show Op.lookupswitch.offset [(0, 27), (1, 32)] _ _ = 37; rw [lv_osw (a := 0) k1 (by decide), lv_osw (a := 1) k2 (by decide)]; rfl) (by decide) ?_
  refine lv_iconst (v := (-1)) hx hb dX11_fault_38 (by decide) ?_
  exact W.iret (v := (-1)) hx hb hr (fun t ht hW => ⟨(-1), rfl, Or.inr ⟨by (try simp only [i_lt, i_le, i_eq, Int32.toInt_toInt64, Int32.reduceToInt, Int64.reduceToInt] at k1 k2 ⊢); omega, rfl⟩, ht⟩) (fun q h => by cases h) dX11_fault_39
set_option maxHeartbeats 4000000 in
set_option maxRecDepth 100000 in
theorem c_X11_height (l : Launch) (D : va_G) (k : Nat → ClassId) (a : Nat → Nat) (p1 : Int32) : Met l yX11_height wsX11_height ({ frames := 1, cells := 0, slots := 0, locals := 21 }) (PreR D k [e0 k a, e26 k a] [.ref (a 0), .int p1]) (vp_Si (fun r => r = (-2000000000))) 0 0 (fun _ => False) := by
  refine Met.ofW (cc := cX11_height) (maxL := 2) (ret := (some .int)) (by decide) rfl ?_
  intro p e s m args below meth c s₁ B hml hv
  obtain ⟨rfl, hP, hK⟩ := hv
  have hx := B.exec
  have hb := B.bytes
  have hr := B.returns
  have hts := atoms_spec (ws := wsX11_height) B.pre
  have hown : s.vm.findClass RX11 = some m.cls := findClass_of_methodNamed B.named
  have hlocks := B.notSynchronized
  have i_X11 : ∀ w ∈ wsX110, w ∈ wsX11_height := by decide +kernel
  have hl := lv_entry ([.ref (a 0), .int p1]) (n := 2) (Nat.le_of_ble_eq_true rfl)
  rw [lg_entry_eq]
  generalize (lg_sl ([.ref (a 0), .int p1]) ++ List.replicate (2 - (lg_sl ([.ref (a 0), .int p1])).length) Slot.unset).toArray = ls at hl ⊢
  have hl : lv_has ls 2 [(0, .ref (a 0)), (1, .int p1)] := hl
  refine lv_aload_n hx hb dX11_height_0 rfl (lv_at hl 0 rfl) ?_
  refine va_get (D := D) (ci := 11) (v := .ref (a 26)) (C := RX11) (T := TX11) (N := 11) hx hb hts i_X11 hown hK hP 0 rfl rfl 8 (by decide) (hts (.fieldLink RX11 62 "BellowsRow" "now" "LBellowsRow$Works;") (by decide +kernel)) (fun _ h9 => h9) rfl dX11_height_1 ?_
  refine lv_iload_n hx hb dX11_height_4 rfl (lv_at hl 1 rfl) ?_
  refine pvi (C := RX10) (As := [.int p1]) (rest := []) (wc := [e26 k a]) ⟨hx, hb, hml, hown, hts⟩ (c_X10_hasPot l D k a p1) (cwV 1 hts gX11_height_X10_hasPot rfl rfl rfl (by decide +kernel) ⟨Nat.le_of_ble_eq_true rfl, Nat.le_of_ble_eq_true rfl⟩) hP hK [1] rfl 1 rfl rfl rfl rfl hl.1 rfl (Nat.le_of_ble_eq_true rfl) dX11_height_5 ⟨Nat.le_of_ble_eq_true rfl, Nat.le_of_ble_eq_true rfl⟩ (fun r1 hr1 => ?_)
  obtain rfl := hr1
  refine lv_if_eq (tgt := 22) hx hb dX11_height_8 (by decide) (fun _ => ?_) (fun h => absurd (by decide) h)
  refine lv_ldc (own := RX11) (v := (-2000000000)) hx hb hown (hts (.constant RX11 109 (-2000000000)) (by decide +kernel)) dX11_height_22 ?_
  exact W.iret (v := (-2000000000)) hx hb hr (fun t ht hW => ⟨(-2000000000), rfl, rfl, ht⟩) (fun q h => by cases h) dX11_height_24
set_option maxHeartbeats 4000000 in
set_option maxRecDepth 100000 in
theorem c_X11_pipe (l : Launch) (D : va_G) (k : Nat → ClassId) (a : Nat → Nat) (p1 : Int32) (p2 : Int32) : Met l yX11_pipe wsX11_pipe ({ frames := 1, cells := 0, slots := 0, locals := 21 }) (PreR D k [e0 k a, e26 k a] [.ref (a 0), .int p1, .int p2]) (vp_Si (fun r => r = (-2000000000))) 0 0 (fun _ => False) := by
  refine Met.ofW (cc := cX11_pipe) (maxL := 4) (ret := (some .int)) (by decide) rfl ?_
  intro p e s m args below meth c s₁ B hml hv
  obtain ⟨rfl, hP, hK⟩ := hv
  have hx := B.exec
  have hb := B.bytes
  have hr := B.returns
  have hts := atoms_spec (ws := wsX11_pipe) B.pre
  have hown : s.vm.findClass RX11 = some m.cls := findClass_of_methodNamed B.named
  have hlocks := B.notSynchronized
  have i_X11 : ∀ w ∈ wsX110, w ∈ wsX11_pipe := by decide +kernel
  have hl := lv_entry ([.ref (a 0), .int p1, .int p2]) (n := 4) (Nat.le_of_ble_eq_true rfl)
  rw [lg_entry_eq]
  generalize (lg_sl ([.ref (a 0), .int p1, .int p2]) ++ List.replicate (4 - (lg_sl ([.ref (a 0), .int p1, .int p2])).length) Slot.unset).toArray = ls at hl ⊢
  have hl : lv_has ls 4 [(0, .ref (a 0)), (1, .int p1), (2, .int p2)] := hl
  refine lv_aload_n hx hb dX11_pipe_0 rfl (lv_at hl 0 rfl) ?_
  refine va_get (D := D) (ci := 11) (v := .ref (a 26)) (C := RX11) (T := TX11) (N := 11) hx hb hts i_X11 hown hK hP 0 rfl rfl 8 (by decide) (hts (.fieldLink RX11 62 "BellowsRow" "now" "LBellowsRow$Works;") (by decide +kernel)) (fun _ h9 => h9) rfl dX11_pipe_1 ?_
  refine lv_iload_n hx hb dX11_pipe_4 rfl (lv_at hl 1 rfl) ?_
  refine pvq (C := RX10) (As := [.int p1]) (rest := []) (wc := [e26 k a]) ⟨hx, hb, hml, hown, hts⟩ (c_X10_pipeAt l D k a p1) (cwV 1 hts gX11_pipe_X10_pipeAt rfl rfl rfl (by decide +kernel) ⟨Nat.le_of_ble_eq_true rfl, Nat.le_of_ble_eq_true rfl⟩) hP hK [1] rfl 1 rfl rfl rfl rfl hl.1 rfl (Nat.le_of_ble_eq_true rfl) dX11_pipe_5 ⟨Nat.le_of_ble_eq_true rfl, Nat.le_of_ble_eq_true rfl⟩ (fun r1 hr1 => ?_)
  obtain rfl := hr1
  refine W.eq (g2 := F0 m 8 ls [.null]) rfl ?_
  refine lv_astore_nN (lv' := [(3, .null), (0, .ref (a 0)), (1, .int p1), (2, .int p2)]) hx hb dX11_pipe_8 rfl hl (by decide) rfl (fun ls hl => ?_)
  refine lv_aload_nN hx hb dX11_pipe_9 rfl (lv_at hl 0 rfl) ?_
  refine lv_ifnonnullN hx hb dX11_pipe_10 ?_
  refine lv_ldc (own := RX11) (v := (-2000000000)) hx hb hown (hts (.constant RX11 109 (-2000000000)) (by decide +kernel)) dX11_pipe_13 ?_
  exact W.iret (v := (-2000000000)) hx hb hr (fun t ht hW => ⟨(-2000000000), rfl, rfl, ht⟩) (fun q h => by cases h) dX11_pipe_15
set_option maxHeartbeats 4000000 in
set_option maxRecDepth 100000 in
theorem c_X11_bend (l : Launch) (D : va_G) (k : Nat → ClassId) (a : Nat → Nat) (p1 : Int32) (p2 : Int32) (p3 : Int32) : Met l yX11_bend wsX11_bend ({ frames := 1, cells := 0, slots := 0, locals := 21 }) (PreR D k [e0 k a, e26 k a] [.ref (a 0), .int p1, .int p2, .int p3]) (vp_Si (fun r => r = (-2000000000))) 0 0 (fun _ => False) := by
  refine Met.ofW (cc := cX11_bend) (maxL := 5) (ret := (some .int)) (by decide) rfl ?_
  intro p e s m args below meth c s₁ B hml hv
  obtain ⟨rfl, hP, hK⟩ := hv
  have hx := B.exec
  have hb := B.bytes
  have hr := B.returns
  have hts := atoms_spec (ws := wsX11_bend) B.pre
  have hown : s.vm.findClass RX11 = some m.cls := findClass_of_methodNamed B.named
  have hlocks := B.notSynchronized
  have i_X11 : ∀ w ∈ wsX110, w ∈ wsX11_bend := by decide +kernel
  have hl := lv_entry ([.ref (a 0), .int p1, .int p2, .int p3]) (n := 5) (Nat.le_of_ble_eq_true rfl)
  rw [lg_entry_eq]
  generalize (lg_sl ([.ref (a 0), .int p1, .int p2, .int p3]) ++ List.replicate (5 - (lg_sl ([.ref (a 0), .int p1, .int p2, .int p3])).length) Slot.unset).toArray = ls at hl ⊢
  have hl : lv_has ls 5 [(0, .ref (a 0)), (1, .int p1), (2, .int p2), (3, .int p3)] := hl
  refine lv_aload_n hx hb dX11_bend_0 rfl (lv_at hl 0 rfl) ?_
  refine va_get (D := D) (ci := 11) (v := .ref (a 26)) (C := RX11) (T := TX11) (N := 11) hx hb hts i_X11 hown hK hP 0 rfl rfl 8 (by decide) (hts (.fieldLink RX11 62 "BellowsRow" "now" "LBellowsRow$Works;") (by decide +kernel)) (fun _ h9 => h9) rfl dX11_bend_1 ?_
  refine lv_iload_n hx hb dX11_bend_4 rfl (lv_at hl 1 rfl) ?_
  refine pvq (C := RX10) (As := [.int p1]) (rest := []) (wc := [e26 k a]) ⟨hx, hb, hml, hown, hts⟩ (c_X10_pipeAt l D k a p1) (cwV 1 hts gX11_bend_X10_pipeAt rfl rfl rfl (by decide +kernel) ⟨Nat.le_of_ble_eq_true rfl, Nat.le_of_ble_eq_true rfl⟩) hP hK [1] rfl 1 rfl rfl rfl rfl hl.1 rfl (Nat.le_of_ble_eq_true rfl) dX11_bend_5 ⟨Nat.le_of_ble_eq_true rfl, Nat.le_of_ble_eq_true rfl⟩ (fun r1 hr1 => ?_)
  obtain rfl := hr1
  refine W.eq (g2 := F0 m 8 ls [.null]) rfl ?_
  refine lv_astoreN (lv' := [(4, .null), (0, .ref (a 0)), (1, .int p1), (2, .int p2), (3, .int p3)]) hx hb dX11_bend_8 hl (by decide) rfl (fun ls hl => ?_)
  refine lv_aloadN hx hb dX11_bend_10 (lv_at hl 0 rfl) ?_
  refine lv_ifnonnullN hx hb dX11_bend_12 ?_
  refine lv_ldc (own := RX11) (v := (-2000000000)) hx hb hown (hts (.constant RX11 109 (-2000000000)) (by decide +kernel)) dX11_bend_15 ?_
  refine lv_goto (tgt := 30) hx hb dX11_bend_17 (by decide) ?_
  exact W.iret (v := (-2000000000)) hx hb hr (fun t ht hW => ⟨(-2000000000), rfl, rfl, ht⟩) (fun q h => by cases h) dX11_bend_30
set_option maxHeartbeats 4000000 in
set_option maxRecDepth 100000 in
theorem c_X11_need (l : Launch) (D : va_G) (k : Nat → ClassId) (a : Nat → Nat) (p1 : Int32) (p2 : Int32) : Met l yX11_need wsX11_need ({ frames := 2, cells := 0, slots := 0, locals := 43 }) (PreR D k [e0 k a, e26 k a] [.ref (a 0), .int p1, .int p2]) (vp_Sl (fun r => r = (-2))) 0 0 (fun _ => False) := by
  refine Met.ofW (cc := cX11_need) (maxL := 3) (ret := (some .long)) (by decide) rfl ?_
  intro p e s m args below meth c s₁ B hml hv
  obtain ⟨rfl, hP, hK⟩ := hv
  have hx := B.exec
  have hb := B.bytes
  have hr := B.returns
  have hts := atoms_spec (ws := wsX11_need) B.pre
  have hown : s.vm.findClass RX11 = some m.cls := findClass_of_methodNamed B.named
  have hlocks := B.notSynchronized
  have hl := lv_entry ([.ref (a 0), .int p1, .int p2]) (n := 3) (Nat.le_of_ble_eq_true rfl)
  rw [lg_entry_eq]
  generalize (lg_sl ([.ref (a 0), .int p1, .int p2]) ++ List.replicate (3 - (lg_sl ([.ref (a 0), .int p1, .int p2])).length) Slot.unset).toArray = ls at hl ⊢
  have hl : lv_has ls 3 [(0, .ref (a 0)), (1, .int p1), (2, .int p2)] := hl
  refine lv_aload_n hx hb dX11_need_0 rfl (lv_at hl 0 rfl) ?_
  refine lv_iload_n hx hb dX11_need_1 rfl (lv_at hl 1 rfl) ?_
  refine pvi (C := RX11) (As := [.int p1]) (rest := []) (wc := [e0 k a, e26 k a]) ⟨hx, hb, hml, hown, hts⟩ (c_X11_isStrained l D k a p1) (cwV 1 hts gX11_need_X11_isStrained rfl rfl rfl (by decide +kernel) ⟨Nat.le_of_ble_eq_true rfl, Nat.le_of_ble_eq_true rfl⟩) hP hK [0, 1] rfl 0 rfl rfl rfl rfl hl.1 rfl (Nat.le_of_ble_eq_true rfl) dX11_need_2 ⟨Nat.le_of_ble_eq_true rfl, Nat.le_of_ble_eq_true rfl⟩ (fun r1 hr1 => ?_)
  obtain rfl := hr1
  refine lv_if_eq (tgt := 26) hx hb dX11_need_5 (by decide) (fun _ => ?_) (fun h => absurd (by decide) h)
  refine lv_ldc2 (own := RX11) (v := (-2)) hx hb hown (hts (.constantLong RX11 155 (-2)) (by decide +kernel)) dX11_need_26 ?_
  exact W.lret (v := (-2)) hx hb hr (fun t ht hW => ⟨(-2), rfl, rfl, ht⟩) (fun q h => by cases h) dX11_need_29
set_option maxHeartbeats 4000000 in
set_option maxRecDepth 100000 in
theorem c_X11_load (l : Launch) (D : va_G) (k : Nat → ClassId) (a : Nat → Nat) (p1 : Int32) (p2 : Int32) : Met l yX11_load wsX11_load ({ frames := 2, cells := 0, slots := 0, locals := 43 }) (PreR D k [e0 k a, e26 k a] [.ref (a 0), .int p1, .int p2]) (vp_Si (fun r => r = (-2))) 0 0 (fun _ => False) := by
  refine Met.ofW (cc := cX11_load) (maxL := 3) (ret := (some .int)) (by decide) rfl ?_
  intro p e s m args below meth c s₁ B hml hv
  obtain ⟨rfl, hP, hK⟩ := hv
  have hx := B.exec
  have hb := B.bytes
  have hr := B.returns
  have hts := atoms_spec (ws := wsX11_load) B.pre
  have hown : s.vm.findClass RX11 = some m.cls := findClass_of_methodNamed B.named
  have hlocks := B.notSynchronized
  have hl := lv_entry ([.ref (a 0), .int p1, .int p2]) (n := 3) (Nat.le_of_ble_eq_true rfl)
  rw [lg_entry_eq]
  generalize (lg_sl ([.ref (a 0), .int p1, .int p2]) ++ List.replicate (3 - (lg_sl ([.ref (a 0), .int p1, .int p2])).length) Slot.unset).toArray = ls at hl ⊢
  have hl : lv_has ls 3 [(0, .ref (a 0)), (1, .int p1), (2, .int p2)] := hl
  refine lv_aload_n hx hb dX11_load_0 rfl (lv_at hl 0 rfl) ?_
  refine lv_iload_n hx hb dX11_load_1 rfl (lv_at hl 1 rfl) ?_
  refine pvi (C := RX11) (As := [.int p1]) (rest := []) (wc := [e0 k a, e26 k a]) ⟨hx, hb, hml, hown, hts⟩ (c_X11_isStrained l D k a p1) (cwV 1 hts gX11_load_X11_isStrained rfl rfl rfl (by decide +kernel) ⟨Nat.le_of_ble_eq_true rfl, Nat.le_of_ble_eq_true rfl⟩) hP hK [0, 1] rfl 0 rfl rfl rfl rfl hl.1 rfl (Nat.le_of_ble_eq_true rfl) dX11_load_2 ⟨Nat.le_of_ble_eq_true rfl, Nat.le_of_ble_eq_true rfl⟩ (fun r1 hr1 => ?_)
  obtain rfl := hr1
  refine lv_if_eq (tgt := 26) hx hb dX11_load_5 (by decide) (fun _ => ?_) (fun h => absurd (by decide) h)
  refine lv_bipush (v := (-2)) hx hb dX11_load_26 (by decide) ?_
  exact W.iret (v := (-2)) hx hb hr (fun t ht hW => ⟨(-2), rfl, rfl, ht⟩) (fun q h => by cases h) dX11_load_28
set_option maxHeartbeats 4000000 in
set_option maxRecDepth 100000 in
theorem c_X11_bows (l : Launch) (D : va_G) (k : Nat → ClassId) (a : Nat → Nat) (p1 : Int32) : Met l yX11_bows wsX11_bows ({ frames := 2, cells := 0, slots := 0, locals := 43 }) (PreR D k [e0 k a, e26 k a] [.ref (a 0), .int p1]) (vp_Si (fun r => r = (-2))) 0 0 (fun _ => False) := by
  refine Met.ofW (cc := cX11_bows) (maxL := 2) (ret := (some .int)) (by decide) rfl ?_
  intro p e s m args below meth c s₁ B hml hv
  obtain ⟨rfl, hP, hK⟩ := hv
  have hx := B.exec
  have hb := B.bytes
  have hr := B.returns
  have hts := atoms_spec (ws := wsX11_bows) B.pre
  have hown : s.vm.findClass RX11 = some m.cls := findClass_of_methodNamed B.named
  have hlocks := B.notSynchronized
  have hl := lv_entry ([.ref (a 0), .int p1]) (n := 2) (Nat.le_of_ble_eq_true rfl)
  rw [lg_entry_eq]
  generalize (lg_sl ([.ref (a 0), .int p1]) ++ List.replicate (2 - (lg_sl ([.ref (a 0), .int p1])).length) Slot.unset).toArray = ls at hl ⊢
  have hl : lv_has ls 2 [(0, .ref (a 0)), (1, .int p1)] := hl
  refine lv_aload_n hx hb dX11_bows_0 rfl (lv_at hl 0 rfl) ?_
  refine lv_iload_n hx hb dX11_bows_1 rfl (lv_at hl 1 rfl) ?_
  refine pvi (C := RX11) (As := [.int p1]) (rest := []) (wc := [e0 k a, e26 k a]) ⟨hx, hb, hml, hown, hts⟩ (c_X11_isStrained l D k a p1) (cwV 1 hts gX11_bows_X11_isStrained rfl rfl rfl (by decide +kernel) ⟨Nat.le_of_ble_eq_true rfl, Nat.le_of_ble_eq_true rfl⟩) hP hK [0, 1] rfl 0 rfl rfl rfl rfl hl.1 rfl (Nat.le_of_ble_eq_true rfl) dX11_bows_2 ⟨Nat.le_of_ble_eq_true rfl, Nat.le_of_ble_eq_true rfl⟩ (fun r1 hr1 => ?_)
  obtain rfl := hr1
  refine lv_if_eq (tgt := 18) hx hb dX11_bows_5 (by decide) (fun _ => ?_) (fun h => absurd (by decide) h)
  refine lv_bipush (v := (-2)) hx hb dX11_bows_18 (by decide) ?_
  exact W.iret (v := (-2)) hx hb hr (fun t ht hW => ⟨(-2), rfl, rfl, ht⟩) (fun q h => by cases h) dX11_bows_20
set_option maxHeartbeats 4000000 in
set_option maxRecDepth 100000 in
theorem c_X11_goes (l : Launch) (D : va_G) (k : Nat → ClassId) (a : Nat → Nat) (p1 : Int32) : Met l yX11_goes wsX11_goes ({ frames := 2, cells := 0, slots := 0, locals := 43 }) (PreR D k [e0 k a, e26 k a] [.ref (a 0), .int p1]) (vp_Si (fun r => r = (-2))) 0 0 (fun _ => False) := by
  refine Met.ofW (cc := cX11_goes) (maxL := 2) (ret := (some .int)) (by decide) rfl ?_
  intro p e s m args below meth c s₁ B hml hv
  obtain ⟨rfl, hP, hK⟩ := hv
  have hx := B.exec
  have hb := B.bytes
  have hr := B.returns
  have hts := atoms_spec (ws := wsX11_goes) B.pre
  have hown : s.vm.findClass RX11 = some m.cls := findClass_of_methodNamed B.named
  have hlocks := B.notSynchronized
  have hl := lv_entry ([.ref (a 0), .int p1]) (n := 2) (Nat.le_of_ble_eq_true rfl)
  rw [lg_entry_eq]
  generalize (lg_sl ([.ref (a 0), .int p1]) ++ List.replicate (2 - (lg_sl ([.ref (a 0), .int p1])).length) Slot.unset).toArray = ls at hl ⊢
  have hl : lv_has ls 2 [(0, .ref (a 0)), (1, .int p1)] := hl
  refine lv_aload_n hx hb dX11_goes_0 rfl (lv_at hl 0 rfl) ?_
  refine lv_iload_n hx hb dX11_goes_1 rfl (lv_at hl 1 rfl) ?_
  refine pvi (C := RX11) (As := [.int p1]) (rest := []) (wc := [e0 k a, e26 k a]) ⟨hx, hb, hml, hown, hts⟩ (c_X11_isStrained l D k a p1) (cwV 1 hts gX11_goes_X11_isStrained rfl rfl rfl (by decide +kernel) ⟨Nat.le_of_ble_eq_true rfl, Nat.le_of_ble_eq_true rfl⟩) hP hK [0, 1] rfl 0 rfl rfl rfl rfl hl.1 rfl (Nat.le_of_ble_eq_true rfl) dX11_goes_2 ⟨Nat.le_of_ble_eq_true rfl, Nat.le_of_ble_eq_true rfl⟩ (fun r1 hr1 => ?_)
  obtain rfl := hr1
  refine lv_if_eq (tgt := 25) hx hb dX11_goes_5 (by decide) (fun _ => ?_) (fun h => absurd (by decide) h)
  refine lv_bipush (v := (-2)) hx hb dX11_goes_25 (by decide) ?_
  exact W.iret (v := (-2)) hx hb hr (fun t ht hW => ⟨(-2), rfl, rfl, ht⟩) (fun q h => by cases h) dX11_goes_27
set_option maxHeartbeats 4000000 in
set_option maxRecDepth 100000 in
theorem c_X11_why (l : Launch) (D : va_G) (k : Nat → ClassId) (a : Nat → Nat) (p1 : Int32) : Met l yX11_why wsX11_why ({ frames := 2, cells := 0, slots := 0, locals := 43 }) (PreR D k [e0 k a, e26 k a] [.ref (a 0), .int p1]) (vp_Si (fun r => r = (-2))) 0 0 (fun _ => False) := by
  refine Met.ofW (cc := cX11_why) (maxL := 2) (ret := (some .int)) (by decide) rfl ?_
  intro p e s m args below meth c s₁ B hml hv
  obtain ⟨rfl, hP, hK⟩ := hv
  have hx := B.exec
  have hb := B.bytes
  have hr := B.returns
  have hts := atoms_spec (ws := wsX11_why) B.pre
  have hown : s.vm.findClass RX11 = some m.cls := findClass_of_methodNamed B.named
  have hlocks := B.notSynchronized
  have hl := lv_entry ([.ref (a 0), .int p1]) (n := 2) (Nat.le_of_ble_eq_true rfl)
  rw [lg_entry_eq]
  generalize (lg_sl ([.ref (a 0), .int p1]) ++ List.replicate (2 - (lg_sl ([.ref (a 0), .int p1])).length) Slot.unset).toArray = ls at hl ⊢
  have hl : lv_has ls 2 [(0, .ref (a 0)), (1, .int p1)] := hl
  refine lv_aload_n hx hb dX11_why_0 rfl (lv_at hl 0 rfl) ?_
  refine lv_iload_n hx hb dX11_why_1 rfl (lv_at hl 1 rfl) ?_
  refine pvi (C := RX11) (As := [.int p1]) (rest := []) (wc := [e0 k a, e26 k a]) ⟨hx, hb, hml, hown, hts⟩ (c_X11_isStrained l D k a p1) (cwV 1 hts gX11_why_X11_isStrained rfl rfl rfl (by decide +kernel) ⟨Nat.le_of_ble_eq_true rfl, Nat.le_of_ble_eq_true rfl⟩) hP hK [0, 1] rfl 0 rfl rfl rfl rfl hl.1 rfl (Nat.le_of_ble_eq_true rfl) dX11_why_2 ⟨Nat.le_of_ble_eq_true rfl, Nat.le_of_ble_eq_true rfl⟩ (fun r1 hr1 => ?_)
  obtain rfl := hr1
  refine lv_if_ne (tgt := 11) hx hb dX11_why_5 (by decide) (fun h => absurd (by decide) h) (fun _ => ?_)
  refine lv_bipush (v := (-2)) hx hb dX11_why_8 (by decide) ?_
  exact W.iret (v := (-2)) hx hb hr (fun t ht hW => ⟨(-2), rfl, rfl, ht⟩) (fun q h => by cases h) dX11_why_10
set_option maxHeartbeats 4000000 in
set_option maxRecDepth 100000 in
theorem c_X11_bursts (l : Launch) (D : va_G) (k : Nat → ClassId) (a : Nat → Nat) (p1 : Int32) : Met l yX11_bursts wsX11_bursts ({ frames := 1, cells := 0, slots := 0, locals := 21 }) (PreR D k [e0 k a, e26 k a] [.ref (a 0), .int p1]) (vp_Si (fun r => r = (-2))) 0 0 (fun _ => False) := by
  refine Met.ofW (cc := cX11_bursts) (maxL := 2) (ret := (some .int)) (by decide) rfl ?_
  intro p e s m args below meth c s₁ B hml hv
  obtain ⟨rfl, hP, hK⟩ := hv
  have hx := B.exec
  have hb := B.bytes
  have hr := B.returns
  have hts := atoms_spec (ws := wsX11_bursts) B.pre
  have hown : s.vm.findClass RX11 = some m.cls := findClass_of_methodNamed B.named
  have hlocks := B.notSynchronized
  have i_X11 : ∀ w ∈ wsX110, w ∈ wsX11_bursts := by decide +kernel
  have hl := lv_entry ([.ref (a 0), .int p1]) (n := 2) (Nat.le_of_ble_eq_true rfl)
  rw [lg_entry_eq]
  generalize (lg_sl ([.ref (a 0), .int p1]) ++ List.replicate (2 - (lg_sl ([.ref (a 0), .int p1])).length) Slot.unset).toArray = ls at hl ⊢
  have hl : lv_has ls 2 [(0, .ref (a 0)), (1, .int p1)] := hl
  refine lv_aload_n hx hb dX11_bursts_0 rfl (lv_at hl 0 rfl) ?_
  refine va_get (D := D) (ci := 11) (v := .ref (a 26)) (C := RX11) (T := TX11) (N := 11) hx hb hts i_X11 hown hK hP 0 rfl rfl 8 (by decide) (hts (.fieldLink RX11 62 "BellowsRow" "now" "LBellowsRow$Works;") (by decide +kernel)) (fun _ h9 => h9) rfl dX11_bursts_1 ?_
  refine lv_iload_n hx hb dX11_bursts_4 rfl (lv_at hl 1 rfl) ?_
  refine pvi (C := RX10) (As := [.int p1]) (rest := []) (wc := [e26 k a]) ⟨hx, hb, hml, hown, hts⟩ (c_X10_hasPot l D k a p1) (cwV 1 hts gX11_bursts_X10_hasPot rfl rfl rfl (by decide +kernel) ⟨Nat.le_of_ble_eq_true rfl, Nat.le_of_ble_eq_true rfl⟩) hP hK [1] rfl 1 rfl rfl rfl rfl hl.1 rfl (Nat.le_of_ble_eq_true rfl) dX11_bursts_5 ⟨Nat.le_of_ble_eq_true rfl, Nat.le_of_ble_eq_true rfl⟩ (fun r1 hr1 => ?_)
  obtain rfl := hr1
  refine lv_if_eq (tgt := 32) hx hb dX11_bursts_8 (by decide) (fun _ => ?_) (fun h => absurd (by decide) h)
  refine lv_bipush (v := (-2)) hx hb dX11_bursts_32 (by decide) ?_
  exact W.iret (v := (-2)) hx hb hr (fun t ht hW => ⟨(-2), rfl, rfl, ht⟩) (fun q h => by cases h) dX11_bursts_34
set_option maxHeartbeats 4000000 in
set_option maxRecDepth 100000 in
theorem c_X11_press (l : Launch) (D : va_G) (k : Nat → ClassId) (a : Nat → Nat) (p1 : Int32) : Met l yX11_press wsX11_press ({ frames := 1, cells := 0, slots := 0, locals := 21 }) (PreR D k [e0 k a, e26 k a, e27 k a] [.ref (a 0), .int p1]) (vp_Si (fun r => r = (-2))) 0 0 (fun _ => False) := by
  refine Met.ofW (cc := cX11_press) (maxL := 2) (ret := (some .int)) (by decide) rfl ?_
  intro p e s m args below meth c s₁ B hml hv
  obtain ⟨rfl, hP, hK⟩ := hv
  have hx := B.exec
  have hb := B.bytes
  have hr := B.returns
  have hts := atoms_spec (ws := wsX11_press) B.pre
  have hown : s.vm.findClass RX11 = some m.cls := findClass_of_methodNamed B.named
  have hlocks := B.notSynchronized
  have i_X10 : ∀ w ∈ wsX100, w ∈ wsX11_press := by decide +kernel
  have i_X11 : ∀ w ∈ wsX110, w ∈ wsX11_press := by decide +kernel
  have hl := lv_entry ([.ref (a 0), .int p1]) (n := 2) (Nat.le_of_ble_eq_true rfl)
  rw [lg_entry_eq]
  generalize (lg_sl ([.ref (a 0), .int p1]) ++ List.replicate (2 - (lg_sl ([.ref (a 0), .int p1])).length) Slot.unset).toArray = ls at hl ⊢
  have hl : lv_has ls 2 [(0, .ref (a 0)), (1, .int p1)] := hl
  refine lv_aload_n hx hb dX11_press_0 rfl (lv_at hl 0 rfl) ?_
  refine va_get (D := D) (ci := 11) (v := .ref (a 26)) (C := RX11) (T := TX11) (N := 11) hx hb hts i_X11 hown hK hP 0 rfl rfl 8 (by decide) (hts (.fieldLink RX11 62 "BellowsRow" "now" "LBellowsRow$Works;") (by decide +kernel)) (fun _ h9 => h9) rfl dX11_press_1 ?_
  refine va_get (D := D) (ci := 10) (v := .ref (a 27)) (C := RX10) (T := TX10) (N := 12) hx hb hts i_X10 hown hK hP 1 rfl rfl 0 (by decide) (hts (.fieldLink RX11 163 "BellowsRow$Works" "hours" "LBellowsRow$Hours;") (by decide +kernel)) (fun _ h9 => h9) rfl dX11_press_4 ?_
  refine lv_iload_n hx hb dX11_press_7 rfl (lv_at hl 1 rfl) ?_
  refine pvi (C := RX1) (As := [.int p1]) (rest := []) (wc := [e27 k a]) ⟨hx, hb, hml, hown, hts⟩ (c_X1_has l D k a p1) (cwV 1 hts gX11_press_X1_has rfl rfl rfl (by decide +kernel) ⟨Nat.le_of_ble_eq_true rfl, Nat.le_of_ble_eq_true rfl⟩) hP hK [2] rfl 2 rfl rfl rfl rfl hl.1 rfl (Nat.le_of_ble_eq_true rfl) dX11_press_8 ⟨Nat.le_of_ble_eq_true rfl, Nat.le_of_ble_eq_true rfl⟩ (fun r1 hr1 => ?_)
  obtain rfl := hr1
  refine lv_if_eq (tgt := 28) hx hb dX11_press_11 (by decide) (fun _ => ?_) (fun h => absurd (by decide) h)
  refine lv_bipush (v := (-2)) hx hb dX11_press_28 (by decide) ?_
  exact W.iret (v := (-2)) hx hb hr (fun t ht hW => ⟨(-2), rfl, rfl, ht⟩) (fun q h => by cases h) dX11_press_30
set_option maxHeartbeats 4000000 in
set_option maxRecDepth 100000 in
theorem c_X11_wear (l : Launch) (D : va_G) (k : Nat → ClassId) (a : Nat → Nat) (p1 : Int32) (p2 : Int32) : Met l yX11_wear wsX11_wear ({ frames := 1, cells := 0, slots := 0, locals := 21 }) (PreR D k [e0 k a, e26 k a, e27 k a] [.ref (a 0), .int p1, .int p2]) (vp_Si (fun r => r = (-2))) 0 0 (fun _ => False) := by
  refine Met.ofW (cc := cX11_wear) (maxL := 3) (ret := (some .int)) (by decide) rfl ?_
  intro p e s m args below meth c s₁ B hml hv
  obtain ⟨rfl, hP, hK⟩ := hv
  have hx := B.exec
  have hb := B.bytes
  have hr := B.returns
  have hts := atoms_spec (ws := wsX11_wear) B.pre
  have hown : s.vm.findClass RX11 = some m.cls := findClass_of_methodNamed B.named
  have hlocks := B.notSynchronized
  have i_X10 : ∀ w ∈ wsX100, w ∈ wsX11_wear := by decide +kernel
  have i_X11 : ∀ w ∈ wsX110, w ∈ wsX11_wear := by decide +kernel
  have hl := lv_entry ([.ref (a 0), .int p1, .int p2]) (n := 3) (Nat.le_of_ble_eq_true rfl)
  rw [lg_entry_eq]
  generalize (lg_sl ([.ref (a 0), .int p1, .int p2]) ++ List.replicate (3 - (lg_sl ([.ref (a 0), .int p1, .int p2])).length) Slot.unset).toArray = ls at hl ⊢
  have hl : lv_has ls 3 [(0, .ref (a 0)), (1, .int p1), (2, .int p2)] := hl
  refine lv_aload_n hx hb dX11_wear_0 rfl (lv_at hl 0 rfl) ?_
  refine va_get (D := D) (ci := 11) (v := .ref (a 26)) (C := RX11) (T := TX11) (N := 11) hx hb hts i_X11 hown hK hP 0 rfl rfl 8 (by decide) (hts (.fieldLink RX11 62 "BellowsRow" "now" "LBellowsRow$Works;") (by decide +kernel)) (fun _ h9 => h9) rfl dX11_wear_1 ?_
  refine va_get (D := D) (ci := 10) (v := .ref (a 27)) (C := RX10) (T := TX10) (N := 12) hx hb hts i_X10 hown hK hP 1 rfl rfl 0 (by decide) (hts (.fieldLink RX11 163 "BellowsRow$Works" "hours" "LBellowsRow$Hours;") (by decide +kernel)) (fun _ h9 => h9) rfl dX11_wear_4 ?_
  refine lv_iload_n hx hb dX11_wear_7 rfl (lv_at hl 2 rfl) ?_
  refine pvi (C := RX1) (As := [.int p2]) (rest := []) (wc := [e27 k a]) ⟨hx, hb, hml, hown, hts⟩ (c_X1_has l D k a p2) (cwV 1 hts gX11_wear_X1_has rfl rfl rfl (by decide +kernel) ⟨Nat.le_of_ble_eq_true rfl, Nat.le_of_ble_eq_true rfl⟩) hP hK [2] rfl 2 rfl rfl rfl rfl hl.1 rfl (Nat.le_of_ble_eq_true rfl) dX11_wear_8 ⟨Nat.le_of_ble_eq_true rfl, Nat.le_of_ble_eq_true rfl⟩ (fun r1 hr1 => ?_)
  obtain rfl := hr1
  refine lv_if_eq (tgt := 40) hx hb dX11_wear_11 (by decide) (fun _ => ?_) (fun h => absurd (by decide) h)
  refine lv_bipush (v := (-2)) hx hb dX11_wear_40 (by decide) ?_
  exact W.iret (v := (-2)) hx hb hr (fun t ht hW => ⟨(-2), rfl, rfl, ht⟩) (fun q h => by cases h) dX11_wear_42
set_option maxHeartbeats 4000000 in
set_option maxRecDepth 100000 in
theorem c_X11_firstWithout (l : Launch) (D : va_G) (k : Nat → ClassId) (a : Nat → Nat) (p1 : Int32) (p2 : Int32) : Met l yX11_firstWithout wsX11_firstWithout ({ frames := 0, cells := 0, slots := 0, locals := 0 }) (PreR D k [e0 k a, e26 k a] [.ref (a 0), .int p1, .int p2]) (vp_Si (fun r => r = (-1))) 0 0 (fun _ => False) := by
  refine Met.ofW (cc := cX11_firstWithout) (maxL := 7) (ret := (some .int)) (by decide) rfl ?_
  intro p e s m args below meth c s₁ B hml hv
  obtain ⟨rfl, hP, hK⟩ := hv
  have hx := B.exec
  have hb := B.bytes
  have hr := B.returns
  have hts := atoms_spec (ws := wsX11_firstWithout) B.pre
  have hown : s.vm.findClass RX11 = some m.cls := findClass_of_methodNamed B.named
  have hlocks := B.notSynchronized
  have i_X10 : ∀ w ∈ wsX100, w ∈ wsX11_firstWithout := by decide +kernel
  have i_X11 : ∀ w ∈ wsX110, w ∈ wsX11_firstWithout := by decide +kernel
  have hl := lv_entry ([.ref (a 0), .int p1, .int p2]) (n := 7) (Nat.le_of_ble_eq_true rfl)
  rw [lg_entry_eq]
  generalize (lg_sl ([.ref (a 0), .int p1, .int p2]) ++ List.replicate (7 - (lg_sl ([.ref (a 0), .int p1, .int p2])).length) Slot.unset).toArray = ls at hl ⊢
  have hl : lv_has ls 7 [(0, .ref (a 0)), (1, .int p1), (2, .int p2)] := hl
  refine lv_iconst (v := (-1)) hx hb dX11_firstWithout_0 (by decide) ?_
  refine lv_istore_n (lv' := [(3, .int (-1)), (0, .ref (a 0)), (1, .int p1), (2, .int p2)]) hx hb dX11_firstWithout_1 rfl hl (by decide) rfl (fun ls hl => ?_)
  refine lv_iconst (v := (-1)) hx hb dX11_firstWithout_2 (by decide) ?_
  refine lv_istore (lv' := [(4, .int (-1)), (3, .int (-1)), (0, .ref (a 0)), (1, .int p1), (2, .int p2)]) hx hb dX11_firstWithout_3 hl (by decide) rfl (fun ls hl => ?_)
  refine lv_iconst (v := 0) hx hb dX11_firstWithout_5 (by decide) ?_
  refine lv_istore (lv' := [(5, .int 0), (4, .int (-1)), (3, .int (-1)), (0, .ref (a 0)), (1, .int p1), (2, .int p2)]) hx hb dX11_firstWithout_6 hl (by decide) rfl (fun ls hl => ?_)
  refine lv_iload hx hb dX11_firstWithout_8 (lv_at hl 0 rfl) ?_
  refine lv_aload_n hx hb dX11_firstWithout_10 rfl (lv_at hl 3 rfl) ?_
  refine va_get (D := D) (ci := 11) (v := .ref (a 26)) (C := RX11) (T := TX11) (N := 11) hx hb hts i_X11 hown hK hP 0 rfl rfl 8 (by decide) (hts (.fieldLink RX11 62 "BellowsRow" "now" "LBellowsRow$Works;") (by decide +kernel)) (fun _ h9 => h9) rfl dX11_firstWithout_11 ?_
  refine va_get (D := D) (ci := 10) (v := .int 0) (C := RX10) (T := TX10) (N := 12) hx hb hts i_X10 hown hK hP 1 rfl rfl 5 (by decide) (hts (.fieldLink RX11 222 "BellowsRow$Works" "pipeCount" "I") (by decide +kernel)) (fun _ h9 => h9) rfl dX11_firstWithout_14 ?_
  refine lv_icmp_ge (tgt := 87) hx hb dX11_firstWithout_17 (by decide) (fun _ => ?_) (fun h => absurd (by decide) h)
  refine lv_iconst (v := 0) hx hb dX11_firstWithout_87 (by decide) ?_
  refine lv_istore (lv' := [(5, .int 0), (4, .int (-1)), (3, .int (-1)), (0, .ref (a 0)), (1, .int p1), (2, .int p2)]) hx hb dX11_firstWithout_88 hl (by decide) rfl (fun ls hl => ?_)
  refine lv_iload hx hb dX11_firstWithout_90 (lv_at hl 0 rfl) ?_
  refine lv_aload_n hx hb dX11_firstWithout_92 rfl (lv_at hl 3 rfl) ?_
  refine va_get (D := D) (ci := 11) (v := .ref (a 26)) (C := RX11) (T := TX11) (N := 11) hx hb hts i_X11 hown hK hP 0 rfl rfl 8 (by decide) (hts (.fieldLink RX11 62 "BellowsRow" "now" "LBellowsRow$Works;") (by decide +kernel)) (fun _ h9 => h9) rfl dX11_firstWithout_93 ?_
  refine va_get (D := D) (ci := 10) (v := .int 0) (C := RX10) (T := TX10) (N := 12) hx hb hts i_X10 hown hK hP 1 rfl rfl 4 (by decide) (hts (.fieldLink RX11 310 "BellowsRow$Works" "potCount" "I") (by decide +kernel)) (fun _ h9 => h9) rfl dX11_firstWithout_96 ?_
  refine lv_icmp_ge (tgt := 171) hx hb dX11_firstWithout_99 (by decide) (fun _ => ?_) (fun h => absurd (by decide) h)
  refine lv_iload_n hx hb dX11_firstWithout_171 rfl (lv_at hl 5 rfl) ?_
  by_cases k1 : p2 = 0
  · refine lv_lookup (tgt := 200) hx hb dX11_firstWithout_172 (by decide) (by rw [k1]) (by decide) ?_
    refine lv_iload_n hx hb dX11_firstWithout_200 rfl (lv_at hl 2 rfl) ?_
    exact W.iret (v := (-1)) hx hb hr (fun t ht hW => ⟨(-1), rfl, rfl, ht⟩) (fun q h => by cases h) dX11_firstWithout_201
  by_cases k2 : p2 = 1
  · refine lv_lookup (tgt := 202) hx hb dX11_firstWithout_172 (by decide) (by rw [k2]) (by decide) ?_
    refine lv_iload hx hb dX11_firstWithout_202 (lv_at hl 1 rfl) ?_
    exact W.iret (v := (-1)) hx hb hr (fun t ht hW => ⟨(-1), rfl, rfl, ht⟩) (fun q h => by cases h) dX11_firstWithout_204
  refine lv_lookup (tgt := 205) hx hb dX11_firstWithout_172 (by decide) (by show Op.lookupswitch.offset [(0, 28), (1, 30)] _ _ = 33; rw [lv_osw (a := 0) k1 (by decide), lv_osw (a := 1) k2 (by decide)]; rfl) (by decide) ?_
  refine lv_iconst (v := (-1)) hx hb dX11_firstWithout_205 (by decide) ?_
  exact W.iret (v := (-1)) hx hb hr (fun t ht hW => ⟨(-1), rfl, rfl, ht⟩) (fun q h => by cases h) dX11_firstWithout_206
set_option maxHeartbeats 4000000 in
set_option maxRecDepth 100000 in
theorem c_X11_first (l : Launch) (D : va_G) (k : Nat → ClassId) (a : Nat → Nat) (p1 : Int32) : Met l yX11_first wsX11_first ({ frames := 1, cells := 0, slots := 0, locals := 26 }) (PreR D k [e0 k a, e26 k a] [.ref (a 0), .int p1]) (vp_Si (fun r => r = (-1))) 0 0 (fun _ => False) := by
  refine Met.ofW (cc := cX11_first) (maxL := 2) (ret := (some .int)) (by decide) rfl ?_
  intro p e s m args below meth c s₁ B hml hv
  obtain ⟨rfl, hP, hK⟩ := hv
  have hx := B.exec
  have hb := B.bytes
  have hr := B.returns
  have hts := atoms_spec (ws := wsX11_first) B.pre
  have hown : s.vm.findClass RX11 = some m.cls := findClass_of_methodNamed B.named
  have hlocks := B.notSynchronized
  have hl := lv_entry ([.ref (a 0), .int p1]) (n := 2) (Nat.le_of_ble_eq_true rfl)
  rw [lg_entry_eq]
  generalize (lg_sl ([.ref (a 0), .int p1]) ++ List.replicate (2 - (lg_sl ([.ref (a 0), .int p1])).length) Slot.unset).toArray = ls at hl ⊢
  have hl : lv_has ls 2 [(0, .ref (a 0)), (1, .int p1)] := hl
  refine lv_aload_n hx hb dX11_first_0 rfl (lv_at hl 0 rfl) ?_
  refine lv_iconst (v := (-1)) hx hb dX11_first_1 (by decide) ?_
  refine lv_iload_n hx hb dX11_first_2 rfl (lv_at hl 1 rfl) ?_
  refine pvi (C := RX11) (As := [.int (-1), .int p1]) (rest := []) (wc := [e0 k a, e26 k a]) ⟨hx, hb, hml, hown, hts⟩ (c_X11_firstWithout l D k a (-1) p1) (cwV 2 hts gX11_first_X11_firstWithout rfl rfl rfl (by decide +kernel) ⟨Nat.le_of_ble_eq_true rfl, Nat.le_of_ble_eq_true rfl⟩) hP hK [0, 1] rfl 0 rfl rfl rfl rfl hl.1 rfl (Nat.le_of_ble_eq_true rfl) dX11_first_3 ⟨Nat.le_of_ble_eq_true rfl, Nat.le_of_ble_eq_true rfl⟩ (fun r1 hr1 => ?_)
  obtain rfl := hr1
  exact W.iret (v := (-1)) hx hb hr (fun t ht hW => ⟨(-1), rfl, rfl, ht⟩) (fun q h => by cases h) dX11_first_6
set_option maxHeartbeats 4000000 in
set_option maxRecDepth 100000 in
theorem c_X11_next (l : Launch) (D : va_G) (k : Nat → ClassId) (a : Nat → Nat) (p1 : Int32) (p2 : Int32) : Met l yX11_next wsX11_next ({ frames := 1, cells := 0, slots := 0, locals := 21 }) (PreR D k [e0 k a, e26 k a] [.ref (a 0), .int p1, .int p2]) (vp_Si (fun r => r = (-2))) 0 0 (fun _ => False) := by
  refine Met.ofW (cc := cX11_next) (maxL := 4) (ret := (some .int)) (by decide) rfl ?_
  intro p e s m args below meth c s₁ B hml hv
  obtain ⟨rfl, hP, hK⟩ := hv
  have hx := B.exec
  have hb := B.bytes
  have hr := B.returns
  have hts := atoms_spec (ws := wsX11_next) B.pre
  have hown : s.vm.findClass RX11 = some m.cls := findClass_of_methodNamed B.named
  have hlocks := B.notSynchronized
  have i_X11 : ∀ w ∈ wsX110, w ∈ wsX11_next := by decide +kernel
  have hl := lv_entry ([.ref (a 0), .int p1, .int p2]) (n := 4) (Nat.le_of_ble_eq_true rfl)
  rw [lg_entry_eq]
  generalize (lg_sl ([.ref (a 0), .int p1, .int p2]) ++ List.replicate (4 - (lg_sl ([.ref (a 0), .int p1, .int p2])).length) Slot.unset).toArray = ls at hl ⊢
  have hl : lv_has ls 4 [(0, .ref (a 0)), (1, .int p1), (2, .int p2)] := hl
  refine lv_aload_n hx hb dX11_next_0 rfl (lv_at hl 0 rfl) ?_
  refine va_get (D := D) (ci := 11) (v := .ref (a 26)) (C := RX11) (T := TX11) (N := 11) hx hb hts i_X11 hown hK hP 0 rfl rfl 8 (by decide) (hts (.fieldLink RX11 62 "BellowsRow" "now" "LBellowsRow$Works;") (by decide +kernel)) (fun _ h9 => h9) rfl dX11_next_1 ?_
  refine lv_iload_n hx hb dX11_next_4 rfl (lv_at hl 1 rfl) ?_
  refine pvq (C := RX10) (As := [.int p1]) (rest := []) (wc := [e26 k a]) ⟨hx, hb, hml, hown, hts⟩ (c_X10_pipeAt l D k a p1) (cwV 1 hts gX11_next_X10_pipeAt rfl rfl rfl (by decide +kernel) ⟨Nat.le_of_ble_eq_true rfl, Nat.le_of_ble_eq_true rfl⟩) hP hK [1] rfl 1 rfl rfl rfl rfl hl.1 rfl (Nat.le_of_ble_eq_true rfl) dX11_next_5 ⟨Nat.le_of_ble_eq_true rfl, Nat.le_of_ble_eq_true rfl⟩ (fun r1 hr1 => ?_)
  obtain rfl := hr1
  refine W.eq (g2 := F0 m 8 ls [.null]) rfl ?_
  refine lv_ifnonnullN hx hb dX11_next_8 ?_
  refine lv_iload_n hx hb dX11_next_11 rfl (lv_at hl 1 rfl) ?_
  refine lv_bipush (v := 100) hx hb dX11_next_12 (by decide) ?_
  refine lv_icmp_lt (tgt := 35) hx hb dX11_next_14 (by decide) (fun c2 => ?_) (fun c2 => ?_)
  · refine lv_iconst (v := 0) hx hb dX11_next_35 (by decide) ?_
    refine lv_istore_n (lv' := [(3, .int 0), (0, .ref (a 0)), (1, .int p1), (2, .int p2)]) hx hb dX11_next_36 rfl hl (by decide) rfl (fun ls hl => ?_)
    refine lv_iload_n hx hb dX11_next_37 rfl (lv_at hl 0 rfl) ?_
    refine lv_if_eq (tgt := 50) hx hb dX11_next_38 (by decide) (fun _ => ?_) (fun h => absurd (by decide) h)
    refine lv_bipush (v := (-2)) hx hb dX11_next_50 (by decide) ?_
    exact W.iret (v := (-2)) hx hb hr (fun t ht hW => ⟨(-2), rfl, rfl, ht⟩) (fun q h => by cases h) dX11_next_52
  · refine lv_aload_n hx hb dX11_next_17 rfl (lv_at hl 0 rfl) ?_
    refine va_get (D := D) (ci := 11) (v := .ref (a 26)) (C := RX11) (T := TX11) (N := 11) hx hb hts i_X11 hown hK hP 0 rfl rfl 8 (by decide) (hts (.fieldLink RX11 62 "BellowsRow" "now" "LBellowsRow$Works;") (by decide +kernel)) (fun _ h9 => h9) rfl dX11_next_18 ?_
    refine lv_iload_n hx hb dX11_next_21 rfl (lv_at hl 1 rfl) ?_
    refine lv_bipush (v := 100) hx hb dX11_next_22 (by decide) ?_
    refine lv_isub hx hb dX11_next_24 ?_
    refine lv_topi (fun x3 ex3 => ?_)
    refine pvi (C := RX10) (As := [.int x3]) (rest := []) (wc := [e26 k a]) ⟨hx, hb, hml, hown, hts⟩ (c_X10_hasPot l D k a x3) (cwV 1 hts gX11_next_X10_hasPot rfl rfl rfl (by decide +kernel) ⟨Nat.le_of_ble_eq_true rfl, Nat.le_of_ble_eq_true rfl⟩) hP hK [1] rfl 1 rfl rfl rfl rfl hl.1 rfl (Nat.le_of_ble_eq_true rfl) dX11_next_25 ⟨Nat.le_of_ble_eq_true rfl, Nat.le_of_ble_eq_true rfl⟩ (fun r4 hr4 => ?_)
    obtain rfl := hr4
    refine lv_if_eq (tgt := 35) hx hb dX11_next_28 (by decide) (fun _ => ?_) (fun h => absurd (by decide) h)
    refine lv_iconst (v := 0) hx hb dX11_next_35 (by decide) ?_
    refine lv_istore_n (lv' := [(3, .int 0), (0, .ref (a 0)), (1, .int p1), (2, .int p2)]) hx hb dX11_next_36 rfl hl (by decide) rfl (fun ls hl => ?_)
    refine lv_iload_n hx hb dX11_next_37 rfl (lv_at hl 0 rfl) ?_
    refine lv_if_eq (tgt := 50) hx hb dX11_next_38 (by decide) (fun _ => ?_) (fun h => absurd (by decide) h)
    refine lv_bipush (v := (-2)) hx hb dX11_next_50 (by decide) ?_
    exact W.iret (v := (-2)) hx hb hr (fun t ht hW => ⟨(-2), rfl, rfl, ht⟩) (fun q h => by cases h) dX11_next_52
set_option maxHeartbeats 4000000 in
set_option maxRecDepth 100000 in
theorem c_X11_under (l : Launch) (D : va_G) (k : Nat → ClassId) (a : Nat → Nat) (p1 : Int32) (p2 : Int32) : Met l yX11_under wsX11_under ({ frames := 2, cells := 0, slots := 0, locals := 43 }) (PreR D k [e0 k a, e26 k a] [.ref (a 0), .int p1, .int p2]) (vp_Si (fun r => r = (-2))) 0 0 (fun _ => False) := by
  refine Met.ofW (cc := cX11_under) (maxL := 3) (ret := (some .int)) (by decide) rfl ?_
  intro p e s m args below meth c s₁ B hml hv
  obtain ⟨rfl, hP, hK⟩ := hv
  have hx := B.exec
  have hb := B.bytes
  have hr := B.returns
  have hts := atoms_spec (ws := wsX11_under) B.pre
  have hown : s.vm.findClass RX11 = some m.cls := findClass_of_methodNamed B.named
  have hlocks := B.notSynchronized
  have hl := lv_entry ([.ref (a 0), .int p1, .int p2]) (n := 3) (Nat.le_of_ble_eq_true rfl)
  rw [lg_entry_eq]
  generalize (lg_sl ([.ref (a 0), .int p1, .int p2]) ++ List.replicate (3 - (lg_sl ([.ref (a 0), .int p1, .int p2])).length) Slot.unset).toArray = ls at hl ⊢
  have hl : lv_has ls 3 [(0, .ref (a 0)), (1, .int p1), (2, .int p2)] := hl
  refine lv_iload_n hx hb dX11_under_0 rfl (lv_at hl 2 rfl) ?_
  refine lv_sipush (v := (-999)) hx hb dX11_under_1 (by decide) ?_
  refine lv_icmp_lt (tgt := 22) hx hb dX11_under_4 (by decide) (fun c1 => ?_) (fun c1 => ?_)
  · refine lv_bipush (v := (-2)) hx hb dX11_under_22 (by decide) ?_
    exact W.iret (v := (-2)) hx hb hr (fun t ht hW => ⟨(-2), rfl, rfl, ht⟩) (fun q h => by cases h) dX11_under_24
  · refine lv_iload_n hx hb dX11_under_7 rfl (lv_at hl 2 rfl) ?_
    refine lv_sipush (v := 999) hx hb dX11_under_8 (by decide) ?_
    refine lv_icmp_gt (tgt := 22) hx hb dX11_under_11 (by decide) (fun c2 => ?_) (fun c2 => ?_)
    · refine lv_bipush (v := (-2)) hx hb dX11_under_22 (by decide) ?_
      exact W.iret (v := (-2)) hx hb hr (fun t ht hW => ⟨(-2), rfl, rfl, ht⟩) (fun q h => by cases h) dX11_under_24
    · refine lv_aload_n hx hb dX11_under_14 rfl (lv_at hl 0 rfl) ?_
      refine lv_iload_n hx hb dX11_under_15 rfl (lv_at hl 1 rfl) ?_
      refine pvi (C := RX11) (As := [.int p1]) (rest := []) (wc := [e0 k a, e26 k a]) ⟨hx, hb, hml, hown, hts⟩ (c_X11_isStrained l D k a p1) (cwV 1 hts gX11_under_X11_isStrained rfl rfl rfl (by decide +kernel) ⟨Nat.le_of_ble_eq_true rfl, Nat.le_of_ble_eq_true rfl⟩) hP hK [0, 1] rfl 0 rfl rfl rfl rfl hl.1 rfl (Nat.le_of_ble_eq_true rfl) dX11_under_16 ⟨Nat.le_of_ble_eq_true rfl, Nat.le_of_ble_eq_true rfl⟩ (fun r3 hr3 => ?_)
      obtain rfl := hr3
      refine lv_if_ne (tgt := 25) hx hb dX11_under_19 (by decide) (fun h => absurd (by decide) h) (fun _ => ?_)
      refine lv_bipush (v := (-2)) hx hb dX11_under_22 (by decide) ?_
      exact W.iret (v := (-2)) hx hb hr (fun t ht hW => ⟨(-2), rfl, rfl, ht⟩) (fun q h => by cases h) dX11_under_24
set_option maxHeartbeats 4000000 in
set_option maxRecDepth 100000 in
theorem c_X11_stay (l : Launch) (D : va_G) (k : Nat → ClassId) (a : Nat → Nat) (p1 : Int32) : Met l yX11_stay wsX11_stay ({ frames := 2, cells := 0, slots := 0, locals := 43 }) (PreR D k [e0 k a, e26 k a] [.ref (a 0), .int p1]) (vp_Si (fun r => r = (-2))) 0 0 (fun _ => False) := by
  refine Met.ofW (cc := cX11_stay) (maxL := 8) (ret := (some .int)) (by decide) rfl ?_
  intro p e s m args below meth c s₁ B hml hv
  obtain ⟨rfl, hP, hK⟩ := hv
  have hx := B.exec
  have hb := B.bytes
  have hr := B.returns
  have hts := atoms_spec (ws := wsX11_stay) B.pre
  have hown : s.vm.findClass RX11 = some m.cls := findClass_of_methodNamed B.named
  have hlocks := B.notSynchronized
  have hl := lv_entry ([.ref (a 0), .int p1]) (n := 8) (Nat.le_of_ble_eq_true rfl)
  rw [lg_entry_eq]
  generalize (lg_sl ([.ref (a 0), .int p1]) ++ List.replicate (8 - (lg_sl ([.ref (a 0), .int p1])).length) Slot.unset).toArray = ls at hl ⊢
  have hl : lv_has ls 8 [(0, .ref (a 0)), (1, .int p1)] := hl
  refine lv_aload_n hx hb dX11_stay_0 rfl (lv_at hl 0 rfl) ?_
  refine lv_iload_n hx hb dX11_stay_1 rfl (lv_at hl 1 rfl) ?_
  refine pvi (C := RX11) (As := [.int p1]) (rest := []) (wc := [e0 k a, e26 k a]) ⟨hx, hb, hml, hown, hts⟩ (c_X11_isStrained l D k a p1) (cwV 1 hts gX11_stay_X11_isStrained rfl rfl rfl (by decide +kernel) ⟨Nat.le_of_ble_eq_true rfl, Nat.le_of_ble_eq_true rfl⟩) hP hK [0, 1] rfl 0 rfl rfl rfl rfl hl.1 rfl (Nat.le_of_ble_eq_true rfl) dX11_stay_2 ⟨Nat.le_of_ble_eq_true rfl, Nat.le_of_ble_eq_true rfl⟩ (fun r1 hr1 => ?_)
  obtain rfl := hr1
  refine lv_if_ne (tgt := 11) hx hb dX11_stay_5 (by decide) (fun h => absurd (by decide) h) (fun _ => ?_)
  refine lv_bipush (v := (-2)) hx hb dX11_stay_8 (by decide) ?_
  exact W.iret (v := (-2)) hx hb hr (fun t ht hW => ⟨(-2), rfl, rfl, ht⟩) (fun q h => by cases h) dX11_stay_10
set_option maxHeartbeats 4000000 in
set_option maxRecDepth 100000 in
theorem c_X11_cap (l : Launch) (D : va_G) (k : Nat → ClassId) (a : Nat → Nat) (p1 : Int32) : Met l yX11_cap wsX11_cap ({ frames := 2, cells := 0, slots := 0, locals := 43 }) (PreR D k [e0 k a, e26 k a] [.ref (a 0), .int p1]) (vp_Si (fun r => r = (-2))) 0 0 (fun _ => False) := by
  refine Met.ofW (cc := cX11_cap) (maxL := 6) (ret := (some .int)) (by decide) rfl ?_
  intro p e s m args below meth c s₁ B hml hv
  obtain ⟨rfl, hP, hK⟩ := hv
  have hx := B.exec
  have hb := B.bytes
  have hr := B.returns
  have hts := atoms_spec (ws := wsX11_cap) B.pre
  have hown : s.vm.findClass RX11 = some m.cls := findClass_of_methodNamed B.named
  have hlocks := B.notSynchronized
  have hl := lv_entry ([.ref (a 0), .int p1]) (n := 6) (Nat.le_of_ble_eq_true rfl)
  rw [lg_entry_eq]
  generalize (lg_sl ([.ref (a 0), .int p1]) ++ List.replicate (6 - (lg_sl ([.ref (a 0), .int p1])).length) Slot.unset).toArray = ls at hl ⊢
  have hl : lv_has ls 6 [(0, .ref (a 0)), (1, .int p1)] := hl
  refine lv_aload_n hx hb dX11_cap_0 rfl (lv_at hl 0 rfl) ?_
  refine lv_iload_n hx hb dX11_cap_1 rfl (lv_at hl 1 rfl) ?_
  refine pvi (C := RX11) (As := [.int p1]) (rest := []) (wc := [e0 k a, e26 k a]) ⟨hx, hb, hml, hown, hts⟩ (c_X11_isStrained l D k a p1) (cwV 1 hts gX11_cap_X11_isStrained rfl rfl rfl (by decide +kernel) ⟨Nat.le_of_ble_eq_true rfl, Nat.le_of_ble_eq_true rfl⟩) hP hK [0, 1] rfl 0 rfl rfl rfl rfl hl.1 rfl (Nat.le_of_ble_eq_true rfl) dX11_cap_2 ⟨Nat.le_of_ble_eq_true rfl, Nat.le_of_ble_eq_true rfl⟩ (fun r1 hr1 => ?_)
  obtain rfl := hr1
  refine lv_if_ne (tgt := 11) hx hb dX11_cap_5 (by decide) (fun h => absurd (by decide) h) (fun _ => ?_)
  refine lv_bipush (v := (-2)) hx hb dX11_cap_8 (by decide) ?_
  exact W.iret (v := (-2)) hx hb hr (fun t ht hW => ⟨(-2), rfl, rfl, ht⟩) (fun q h => by cases h) dX11_cap_10
set_option maxHeartbeats 4000000 in
set_option maxRecDepth 100000 in
theorem c_X11_prop (l : Launch) (D : va_G) (k : Nat → ClassId) (a : Nat → Nat) (p1 : Int32) (p2 : Int32) : Met l yX11_prop wsX11_prop ({ frames := 1, cells := 0, slots := 0, locals := 21 }) (PreR D k [e0 k a, e26 k a] [.ref (a 0), .int p1, .int p2]) (vp_Si (fun r => r = (-2))) 0 0 (fun _ => False) := by
  refine Met.ofW (cc := cX11_prop) (maxL := 4) (ret := (some .int)) (by decide) rfl ?_
  intro p e s m args below meth c s₁ B hml hv
  obtain ⟨rfl, hP, hK⟩ := hv
  have hx := B.exec
  have hb := B.bytes
  have hr := B.returns
  have hts := atoms_spec (ws := wsX11_prop) B.pre
  have hown : s.vm.findClass RX11 = some m.cls := findClass_of_methodNamed B.named
  have hlocks := B.notSynchronized
  have i_X11 : ∀ w ∈ wsX110, w ∈ wsX11_prop := by decide +kernel
  have hl := lv_entry ([.ref (a 0), .int p1, .int p2]) (n := 4) (Nat.le_of_ble_eq_true rfl)
  rw [lg_entry_eq]
  generalize (lg_sl ([.ref (a 0), .int p1, .int p2]) ++ List.replicate (4 - (lg_sl ([.ref (a 0), .int p1, .int p2])).length) Slot.unset).toArray = ls at hl ⊢
  have hl : lv_has ls 4 [(0, .ref (a 0)), (1, .int p1), (2, .int p2)] := hl
  refine lv_aload_n hx hb dX11_prop_0 rfl (lv_at hl 0 rfl) ?_
  refine va_get (D := D) (ci := 11) (v := .ref (a 26)) (C := RX11) (T := TX11) (N := 11) hx hb hts i_X11 hown hK hP 0 rfl rfl 8 (by decide) (hts (.fieldLink RX11 62 "BellowsRow" "now" "LBellowsRow$Works;") (by decide +kernel)) (fun _ h9 => h9) rfl dX11_prop_1 ?_
  refine lv_iload_n hx hb dX11_prop_4 rfl (lv_at hl 1 rfl) ?_
  refine pvq (C := RX10) (As := [.int p1]) (rest := []) (wc := [e26 k a]) ⟨hx, hb, hml, hown, hts⟩ (c_X10_pipeAt l D k a p1) (cwV 1 hts gX11_prop_X10_pipeAt rfl rfl rfl (by decide +kernel) ⟨Nat.le_of_ble_eq_true rfl, Nat.le_of_ble_eq_true rfl⟩) hP hK [1] rfl 1 rfl rfl rfl rfl hl.1 rfl (Nat.le_of_ble_eq_true rfl) dX11_prop_5 ⟨Nat.le_of_ble_eq_true rfl, Nat.le_of_ble_eq_true rfl⟩ (fun r1 hr1 => ?_)
  obtain rfl := hr1
  refine W.eq (g2 := F0 m 8 ls [.null]) rfl ?_
  refine lv_astore_nN (lv' := [(3, .null), (0, .ref (a 0)), (1, .int p1), (2, .int p2)]) hx hb dX11_prop_8 rfl hl (by decide) rfl (fun ls hl => ?_)
  refine lv_aload_nN hx hb dX11_prop_9 rfl (lv_at hl 0 rfl) ?_
  refine lv_ifnonnullN hx hb dX11_prop_10 ?_
  refine lv_bipush (v := (-2)) hx hb dX11_prop_13 (by decide) ?_
  exact W.iret (v := (-2)) hx hb hr (fun t ht hW => ⟨(-2), rfl, rfl, ht⟩) (fun q h => by cases h) dX11_prop_15
set_option maxHeartbeats 4000000 in
set_option maxRecDepth 100000 in
theorem c_X11_widen (l : Launch) (D : va_G) (k : Nat → ClassId) (a : Nat → Nat) (p1 : Int32) (p2 : Int32) : Met l yX11_widen wsX11_widen ({ frames := 1, cells := 0, slots := 0, locals := 21 }) (PreR D k [e0 k a, e26 k a] [.ref (a 0), .int p1, .int p2]) (vp_Si (fun r => r = (-2))) 0 0 (fun _ => False) := by
  refine Met.ofW (cc := cX11_widen) (maxL := 4) (ret := (some .int)) (by decide) rfl ?_
  intro p e s m args below meth c s₁ B hml hv
  obtain ⟨rfl, hP, hK⟩ := hv
  have hx := B.exec
  have hb := B.bytes
  have hr := B.returns
  have hts := atoms_spec (ws := wsX11_widen) B.pre
  have hown : s.vm.findClass RX11 = some m.cls := findClass_of_methodNamed B.named
  have hlocks := B.notSynchronized
  have i_X11 : ∀ w ∈ wsX110, w ∈ wsX11_widen := by decide +kernel
  have hl := lv_entry ([.ref (a 0), .int p1, .int p2]) (n := 4) (Nat.le_of_ble_eq_true rfl)
  rw [lg_entry_eq]
  generalize (lg_sl ([.ref (a 0), .int p1, .int p2]) ++ List.replicate (4 - (lg_sl ([.ref (a 0), .int p1, .int p2])).length) Slot.unset).toArray = ls at hl ⊢
  have hl : lv_has ls 4 [(0, .ref (a 0)), (1, .int p1), (2, .int p2)] := hl
  refine lv_aload_n hx hb dX11_widen_0 rfl (lv_at hl 0 rfl) ?_
  refine va_get (D := D) (ci := 11) (v := .ref (a 26)) (C := RX11) (T := TX11) (N := 11) hx hb hts i_X11 hown hK hP 0 rfl rfl 8 (by decide) (hts (.fieldLink RX11 62 "BellowsRow" "now" "LBellowsRow$Works;") (by decide +kernel)) (fun _ h9 => h9) rfl dX11_widen_1 ?_
  refine lv_iload_n hx hb dX11_widen_4 rfl (lv_at hl 1 rfl) ?_
  refine pvq (C := RX10) (As := [.int p1]) (rest := []) (wc := [e26 k a]) ⟨hx, hb, hml, hown, hts⟩ (c_X10_pipeAt l D k a p1) (cwV 1 hts gX11_widen_X10_pipeAt rfl rfl rfl (by decide +kernel) ⟨Nat.le_of_ble_eq_true rfl, Nat.le_of_ble_eq_true rfl⟩) hP hK [1] rfl 1 rfl rfl rfl rfl hl.1 rfl (Nat.le_of_ble_eq_true rfl) dX11_widen_5 ⟨Nat.le_of_ble_eq_true rfl, Nat.le_of_ble_eq_true rfl⟩ (fun r1 hr1 => ?_)
  obtain rfl := hr1
  refine W.eq (g2 := F0 m 8 ls [.null]) rfl ?_
  refine lv_astore_nN (lv' := [(3, .null), (0, .ref (a 0)), (1, .int p1), (2, .int p2)]) hx hb dX11_widen_8 rfl hl (by decide) rfl (fun ls hl => ?_)
  refine lv_aload_nN hx hb dX11_widen_9 rfl (lv_at hl 0 rfl) ?_
  refine lv_ifnullN (tgt := 24) hx hb dX11_widen_10 (by decide) ?_
  refine lv_bipush (v := (-2)) hx hb dX11_widen_24 (by decide) ?_
  exact W.iret (v := (-2)) hx hb hr (fun t ht hW => ⟨(-2), rfl, rfl, ht⟩) (fun q h => by cases h) dX11_widen_26
set_option maxHeartbeats 4000000 in
set_option maxRecDepth 100000 in
theorem c_X11_lever (l : Launch) (D : va_G) (k : Nat → ClassId) (a : Nat → Nat) (p1 : Int32) (p2 : Int32) : Met l yX11_lever wsX11_lever ({ frames := 1, cells := 0, slots := 0, locals := 21 }) (PreR D k [e0 k a, e26 k a, e4 k a] [.ref (a 0), .int p1, .int p2]) (vp_Si (fun r => r = (-2))) 0 0 (fun _ => False) := by
  refine Met.ofW (cc := cX11_lever) (maxL := 5) (ret := (some .int)) (by decide) rfl ?_
  intro p e s m args below meth c s₁ B hml hv
  obtain ⟨rfl, hP, hK⟩ := hv
  have hx := B.exec
  have hb := B.bytes
  have hr := B.returns
  have hts := atoms_spec (ws := wsX11_lever) B.pre
  have hown : s.vm.findClass RX11 = some m.cls := findClass_of_methodNamed B.named
  have hlocks := B.notSynchronized
  have i_X11 : ∀ w ∈ wsX110, w ∈ wsX11_lever := by decide +kernel
  have hl := lv_entry ([.ref (a 0), .int p1, .int p2]) (n := 5) (Nat.le_of_ble_eq_true rfl)
  rw [lg_entry_eq]
  generalize (lg_sl ([.ref (a 0), .int p1, .int p2]) ++ List.replicate (5 - (lg_sl ([.ref (a 0), .int p1, .int p2])).length) Slot.unset).toArray = ls at hl ⊢
  have hl : lv_has ls 5 [(0, .ref (a 0)), (1, .int p1), (2, .int p2)] := hl
  refine lv_aload_n hx hb dX11_lever_0 rfl (lv_at hl 0 rfl) ?_
  refine lv_iload_n hx hb dX11_lever_1 rfl (lv_at hl 1 rfl) ?_
  refine pvq (C := RX11) (As := [.int p1]) (rest := []) (wc := [e0 k a, e4 k a]) ⟨hx, hb, hml, hown, hts⟩ (c_X11_slotAt l D k a p1) (cwV 1 hts gX11_lever_X11_slotAt rfl rfl rfl (by decide +kernel) ⟨Nat.le_of_ble_eq_true rfl, Nat.le_of_ble_eq_true rfl⟩) hP hK [0, 2] rfl 0 rfl rfl rfl rfl hl.1 rfl (Nat.le_of_ble_eq_true rfl) dX11_lever_2 ⟨Nat.le_of_ble_eq_true rfl, Nat.le_of_ble_eq_true rfl⟩ (fun r1 hr1 => ?_)
  rcases hr1 with ⟨g2, zw3, qw3, nw3, rfl, pw3⟩ | ⟨g2, rfl⟩
  · refine W.eq (g2 := F0 m 5 ls [.ref zw3]) rfl ?_
    refine lv_astore_n (lv' := [(3, .ref zw3), (0, .ref (a 0)), (1, .int p1), (2, .int p2)]) hx hb dX11_lever_5 rfl hl (by decide) rfl (fun ls hl => ?_)
    refine lv_aload_n hx hb dX11_lever_6 rfl (lv_at hl 1 rfl) ?_
    refine va_get (D := D) (ci := 11) (v := .ref (a 26)) (C := RX11) (T := TX11) (N := 11) hx hb hts i_X11 hown hK hP 0 rfl rfl 8 (by decide) (hts (.fieldLink RX11 62 "BellowsRow" "now" "LBellowsRow$Works;") (by decide +kernel)) (fun _ h9 => h9) rfl dX11_lever_7 ?_
    refine lv_iload_n hx hb dX11_lever_10 rfl (lv_at hl 3 rfl) ?_
    refine pvq (C := RX10) (As := [.int p2]) (rest := []) (wc := [e26 k a]) ⟨hx, hb, hml, hown, hts⟩ (c_X10_pipeAt l D k a p2) (cwV 1 hts gX11_lever_X10_pipeAt rfl rfl rfl (by decide +kernel) ⟨Nat.le_of_ble_eq_true rfl, Nat.le_of_ble_eq_true rfl⟩) hP hK [1] rfl 1 rfl rfl rfl rfl hl.1 rfl (Nat.le_of_ble_eq_true rfl) dX11_lever_11 ⟨Nat.le_of_ble_eq_true rfl, Nat.le_of_ble_eq_true rfl⟩ (fun r4 hr4 => ?_)
    obtain rfl := hr4
    refine W.eq (g2 := F0 m 14 ls [.null]) rfl ?_
    refine lv_astoreN (lv' := [(4, .null), (3, .ref zw3), (0, .ref (a 0)), (1, .int p1), (2, .int p2)]) hx hb dX11_lever_14 hl (by decide) rfl (fun ls hl => ?_)
    refine lv_aload_n hx hb dX11_lever_16 rfl (lv_at hl 1 rfl) ?_
    refine lv_ifnull hx hb dX11_lever_17 ?_
    refine lv_aloadN hx hb dX11_lever_20 (lv_at hl 0 rfl) ?_
    refine lv_ifnonnullN hx hb dX11_lever_22 ?_
    refine lv_bipush (v := (-2)) hx hb dX11_lever_25 (by decide) ?_
    exact W.iret (v := (-2)) hx hb hr (fun t ht hW => ⟨(-2), rfl, rfl, ht⟩) (fun q h => by cases h) dX11_lever_27
  · refine W.eq (g2 := F0 m 5 ls [.null]) rfl ?_
    refine lv_astore_nN (lv' := [(3, .null), (0, .ref (a 0)), (1, .int p1), (2, .int p2)]) hx hb dX11_lever_5 rfl hl (by decide) rfl (fun ls hl => ?_)
    refine lv_aload_n hx hb dX11_lever_6 rfl (lv_at hl 1 rfl) ?_
    refine va_get (D := D) (ci := 11) (v := .ref (a 26)) (C := RX11) (T := TX11) (N := 11) hx hb hts i_X11 hown hK hP 0 rfl rfl 8 (by decide) (hts (.fieldLink RX11 62 "BellowsRow" "now" "LBellowsRow$Works;") (by decide +kernel)) (fun _ h9 => h9) rfl dX11_lever_7 ?_
    refine lv_iload_n hx hb dX11_lever_10 rfl (lv_at hl 3 rfl) ?_
    refine pvq (C := RX10) (As := [.int p2]) (rest := []) (wc := [e26 k a]) ⟨hx, hb, hml, hown, hts⟩ (c_X10_pipeAt l D k a p2) (cwV 1 hts gX11_lever_X10_pipeAt rfl rfl rfl (by decide +kernel) ⟨Nat.le_of_ble_eq_true rfl, Nat.le_of_ble_eq_true rfl⟩) hP hK [1] rfl 1 rfl rfl rfl rfl hl.1 rfl (Nat.le_of_ble_eq_true rfl) dX11_lever_11 ⟨Nat.le_of_ble_eq_true rfl, Nat.le_of_ble_eq_true rfl⟩ (fun r5 hr5 => ?_)
    obtain rfl := hr5
    refine W.eq (g2 := F0 m 14 ls [.null]) rfl ?_
    refine lv_astoreN (lv' := [(4, .null), (3, .null), (0, .ref (a 0)), (1, .int p1), (2, .int p2)]) hx hb dX11_lever_14 hl (by decide) rfl (fun ls hl => ?_)
    refine lv_aload_nN hx hb dX11_lever_16 rfl (lv_at hl 1 rfl) ?_
    refine lv_ifnullN (tgt := 25) hx hb dX11_lever_17 (by decide) ?_
    refine lv_bipush (v := (-2)) hx hb dX11_lever_25 (by decide) ?_
    exact W.iret (v := (-2)) hx hb hr (fun t ht hW => ⟨(-2), rfl, rfl, ht⟩) (fun q h => by cases h) dX11_lever_27
set_option maxHeartbeats 4000000 in
set_option maxRecDepth 100000 in
theorem c_X11_trial (l : Launch) (D : va_G) (k : Nat → ClassId) (a : Nat → Nat) (p1 : Int32) : Met l yX11_trial wsX11_trial ({ frames := 1, cells := 0, slots := 0, locals := 20 }) (PreR D k [e0 k a, e26 k a] [.ref (a 0), .int p1]) (vp_Si (fun r => ((0 ≤ p1.toInt ∧ p1.toInt ≤ 999) ∧ r = 0) ∨ (¬ (0 ≤ p1.toInt ∧ p1.toInt ≤ 999) ∧ r = (-2)))) 0 0 (fun _ => False) := by
  refine Met.ofW (cc := cX11_trial) (maxL := 5) (ret := (some .int)) (by decide) rfl ?_
  intro p e s m args below meth c s₁ B hml hv
  obtain ⟨rfl, hP, hK⟩ := hv
  have hx := B.exec
  have hb := B.bytes
  have hr := B.returns
  have hts := atoms_spec (ws := wsX11_trial) B.pre
  have hown : s.vm.findClass RX11 = some m.cls := findClass_of_methodNamed B.named
  have hlocks := B.notSynchronized
  have i_X10 : ∀ w ∈ wsX100, w ∈ wsX11_trial := by decide +kernel
  have i_X11 : ∀ w ∈ wsX110, w ∈ wsX11_trial := by decide +kernel
  have hl := lv_entry ([.ref (a 0), .int p1]) (n := 5) (Nat.le_of_ble_eq_true rfl)
  rw [lg_entry_eq]
  generalize (lg_sl ([.ref (a 0), .int p1]) ++ List.replicate (5 - (lg_sl ([.ref (a 0), .int p1])).length) Slot.unset).toArray = ls at hl ⊢
  have hl : lv_has ls 5 [(0, .ref (a 0)), (1, .int p1)] := hl
  refine lv_iload_n hx hb dX11_trial_0 rfl (lv_at hl 1 rfl) ?_
  refine psi (As := [.int p1]) (rest := []) ⟨hx, hb, hml, hown, hts⟩ (c_X11_isPress l D k p1) (va_cwS 1 hts gX11_trial_X11_isPress rfl rfl rfl (by decide +kernel) ⟨Nat.le_of_ble_eq_true rfl, Nat.le_of_ble_eq_true rfl⟩) hK rfl hl.1 rfl (Nat.le_of_ble_eq_true rfl) dX11_trial_1 ⟨Nat.le_of_ble_eq_true rfl, Nat.le_of_ble_eq_true rfl⟩ (fun r1 hr1 => ?_)
  rcases hr1 with ⟨g2, rfl⟩ | ⟨g2, rfl⟩
  · refine lv_if_ne (tgt := 10) hx hb dX11_trial_4 (by decide) (fun _ => ?_) (fun h => absurd h (by decide))
    refine lv_iconst (v := 0) hx hb dX11_trial_10 (by decide) ?_
    refine lv_istore_n (lv' := [(2, .int 0), (0, .ref (a 0)), (1, .int p1)]) hx hb dX11_trial_11 rfl hl (by decide) rfl (fun ls hl => ?_)
    refine lv_iconst (v := 0) hx hb dX11_trial_12 (by decide) ?_
    refine lv_istore_n (lv' := [(3, .int 0), (2, .int 0), (0, .ref (a 0)), (1, .int p1)]) hx hb dX11_trial_13 rfl hl (by decide) rfl (fun ls hl => ?_)
    refine lv_iload_n hx hb dX11_trial_14 rfl (lv_at hl 0 rfl) ?_
    refine lv_aload_n hx hb dX11_trial_15 rfl (lv_at hl 2 rfl) ?_
    refine va_get (D := D) (ci := 11) (v := .ref (a 26)) (C := RX11) (T := TX11) (N := 11) hx hb hts i_X11 hown hK hP 0 rfl rfl 8 (by decide) (hts (.fieldLink RX11 62 "BellowsRow" "now" "LBellowsRow$Works;") (by decide +kernel)) (fun _ h9 => h9) rfl dX11_trial_16 ?_
    refine va_get (D := D) (ci := 10) (v := .int 0) (C := RX10) (T := TX10) (N := 12) hx hb hts i_X10 hown hK hP 1 rfl rfl 5 (by decide) (hts (.fieldLink RX11 222 "BellowsRow$Works" "pipeCount" "I") (by decide +kernel)) (fun _ h9 => h9) rfl dX11_trial_19 ?_
    refine lv_icmp_ge (tgt := 53) hx hb dX11_trial_22 (by decide) (fun _ => ?_) (fun h => absurd (by decide) h)
    refine lv_iload_n hx hb dX11_trial_53 rfl (lv_at hl 1 rfl) ?_
    exact W.iret (v := 0) hx hb hr (fun t ht hW => ⟨0, rfl, Or.inl ⟨by (try simp only [i_lt, i_le, i_eq, Int32.toInt_toInt64, Int32.reduceToInt, Int64.reduceToInt] at g2 ⊢); omega, rfl⟩, ht⟩) (fun q h => by cases h) dX11_trial_54
  · refine lv_if_ne (tgt := 10) hx hb dX11_trial_4 (by decide) (fun h => absurd (by decide) h) (fun _ => ?_)
    refine lv_bipush (v := (-2)) hx hb dX11_trial_7 (by decide) ?_
    exact W.iret (v := (-2)) hx hb hr (fun t ht hW => ⟨(-2), rfl, Or.inr ⟨by (try simp only [i_lt, i_le, i_eq, Int32.toInt_toInt64, Int32.reduceToInt, Int64.reduceToInt] at g2 ⊢); omega, rfl⟩, ht⟩) (fun q h => by cases h) dX11_trial_9
set_option maxHeartbeats 4000000 in
set_option maxRecDepth 100000 in
theorem c_X11_show (l : Launch) (D : va_G) (k : Nat → ClassId) (a : Nat → Nat) : Met l yX11_show wsX11_show ({ frames := 0, cells := 0, slots := 0, locals := 0 }) (PreR D k [e0 k a, e26 k a] [.ref (a 0)]) (vp_Si (fun r => r = 0)) 0 0 (fun _ => False) := by
  refine Met.ofW (cc := cX11_show) (maxL := 3) (ret := (some .int)) (by decide) rfl ?_
  intro p e s m args below meth c s₁ B hml hv
  obtain ⟨rfl, hP, hK⟩ := hv
  have hx := B.exec
  have hb := B.bytes
  have hr := B.returns
  have hts := atoms_spec (ws := wsX11_show) B.pre
  have hown : s.vm.findClass RX11 = some m.cls := findClass_of_methodNamed B.named
  have hlocks := B.notSynchronized
  have i_X10 : ∀ w ∈ wsX100, w ∈ wsX11_show := by decide +kernel
  have i_X11 : ∀ w ∈ wsX110, w ∈ wsX11_show := by decide +kernel
  have hl := lv_entry ([.ref (a 0)]) (n := 3) (Nat.le_of_ble_eq_true rfl)
  rw [lg_entry_eq]
  generalize (lg_sl ([.ref (a 0)]) ++ List.replicate (3 - (lg_sl ([.ref (a 0)])).length) Slot.unset).toArray = ls at hl ⊢
  have hl : lv_has ls 3 [(0, .ref (a 0))] := hl
  refine lv_iconst (v := 0) hx hb dX11_show_0 (by decide) ?_
  refine lv_istore_n (lv' := [(1, .int 0), (0, .ref (a 0))]) hx hb dX11_show_1 rfl hl (by decide) rfl (fun ls hl => ?_)
  refine lv_iconst (v := 0) hx hb dX11_show_2 (by decide) ?_
  refine lv_istore_n (lv' := [(2, .int 0), (1, .int 0), (0, .ref (a 0))]) hx hb dX11_show_3 rfl hl (by decide) rfl (fun ls hl => ?_)
  refine lv_iload_n hx hb dX11_show_4 rfl (lv_at hl 0 rfl) ?_
  refine lv_aload_n hx hb dX11_show_5 rfl (lv_at hl 2 rfl) ?_
  refine va_get (D := D) (ci := 11) (v := .ref (a 26)) (C := RX11) (T := TX11) (N := 11) hx hb hts i_X11 hown hK hP 0 rfl rfl 8 (by decide) (hts (.fieldLink RX11 62 "BellowsRow" "now" "LBellowsRow$Works;") (by decide +kernel)) (fun _ h9 => h9) rfl dX11_show_6 ?_
  refine va_get (D := D) (ci := 10) (v := .int 0) (C := RX10) (T := TX10) (N := 12) hx hb hts i_X10 hown hK hP 1 rfl rfl 5 (by decide) (hts (.fieldLink RX11 222 "BellowsRow$Works" "pipeCount" "I") (by decide +kernel)) (fun _ h9 => h9) rfl dX11_show_9 ?_
  refine lv_icmp_ge (tgt := 31) hx hb dX11_show_12 (by decide) (fun _ => ?_) (fun h => absurd (by decide) h)
  refine lv_iload_n hx hb dX11_show_31 rfl (lv_at hl 1 rfl) ?_
  exact W.iret (v := 0) hx hb hr (fun t ht hW => ⟨0, rfl, rfl, ht⟩) (fun q h => by cases h) dX11_show_32
set_option maxHeartbeats 4000000 in
set_option maxRecDepth 100000 in
theorem c_X11_reach (l : Launch) (D : va_G) (k : Nat → ClassId) (a : Nat → Nat) (p1 : Int32) (p2 : Int32) (p3 : Int32) : Met l yX11_reach wsX11_reach ({ frames := 2, cells := 0, slots := 0, locals := 44 }) (PreR D k [e0 k a, e26 k a] [.ref (a 0), .int p1, .int p2, .int p3]) (vp_Si (fun r => r = (-2))) 0 0 (fun _ => False) := by
  refine Met.ofW (cc := cX11_reach) (maxL := 4) (ret := (some .int)) (by decide) rfl ?_
  intro p e s m args below meth c s₁ B hml hv
  obtain ⟨rfl, hP, hK⟩ := hv
  have hx := B.exec
  have hb := B.bytes
  have hr := B.returns
  have hts := atoms_spec (ws := wsX11_reach) B.pre
  have hown : s.vm.findClass RX11 = some m.cls := findClass_of_methodNamed B.named
  have hlocks := B.notSynchronized
  have hl := lv_entry ([.ref (a 0), .int p1, .int p2, .int p3]) (n := 4) (Nat.le_of_ble_eq_true rfl)
  rw [lg_entry_eq]
  generalize (lg_sl ([.ref (a 0), .int p1, .int p2, .int p3]) ++ List.replicate (4 - (lg_sl ([.ref (a 0), .int p1, .int p2, .int p3])).length) Slot.unset).toArray = ls at hl ⊢
  have hl : lv_has ls 4 [(0, .ref (a 0)), (1, .int p1), (2, .int p2), (3, .int p3)] := hl
  refine lv_iload_n hx hb dX11_reach_0 rfl (lv_at hl 3 rfl) ?_
  refine lv_iconst (v := 1) hx hb dX11_reach_1 (by decide) ?_
  refine lv_icmp_lt (tgt := 20) hx hb dX11_reach_2 (by decide) (fun c1 => ?_) (fun c1 => ?_)
  · refine lv_bipush (v := (-2)) hx hb dX11_reach_20 (by decide) ?_
    exact W.iret (v := (-2)) hx hb hr (fun t ht hW => ⟨(-2), rfl, rfl, ht⟩) (fun q h => by cases h) dX11_reach_22
  · refine lv_iload_n hx hb dX11_reach_5 rfl (lv_at hl 3 rfl) ?_
    refine lv_bipush (v := 60) hx hb dX11_reach_6 (by decide) ?_
    refine lv_icmp_gt (tgt := 20) hx hb dX11_reach_8 (by decide) (fun c2 => ?_) (fun c2 => ?_)
    · refine lv_bipush (v := (-2)) hx hb dX11_reach_20 (by decide) ?_
      exact W.iret (v := (-2)) hx hb hr (fun t ht hW => ⟨(-2), rfl, rfl, ht⟩) (fun q h => by cases h) dX11_reach_22
    · refine lv_aload_n hx hb dX11_reach_11 rfl (lv_at hl 0 rfl) ?_
      refine lv_iload_n hx hb dX11_reach_12 rfl (lv_at hl 1 rfl) ?_
      refine lv_iload_n hx hb dX11_reach_13 rfl (lv_at hl 2 rfl) ?_
      refine pvi (C := RX11) (As := [.int p1, .int p2]) (rest := []) (wc := [e0 k a, e26 k a]) ⟨hx, hb, hml, hown, hts⟩ (c_X11_isClouded l D k a p1 p2) (cwV 2 hts gX11_reach_X11_isClouded rfl rfl rfl (by decide +kernel) ⟨Nat.le_of_ble_eq_true rfl, Nat.le_of_ble_eq_true rfl⟩) hP hK [0, 1] rfl 0 rfl rfl rfl rfl hl.1 rfl (Nat.le_of_ble_eq_true rfl) dX11_reach_14 ⟨Nat.le_of_ble_eq_true rfl, Nat.le_of_ble_eq_true rfl⟩ (fun r3 hr3 => ?_)
      obtain rfl := hr3
      refine lv_if_ne (tgt := 23) hx hb dX11_reach_17 (by decide) (fun h => absurd (by decide) h) (fun _ => ?_)
      refine lv_bipush (v := (-2)) hx hb dX11_reach_20 (by decide) ?_
      exact W.iret (v := (-2)) hx hb hr (fun t ht hW => ⟨(-2), rfl, rfl, ht⟩) (fun q h => by cases h) dX11_reach_22
set_option maxHeartbeats 4000000 in
set_option maxRecDepth 100000 in
theorem c_X11_lights (l : Launch) (D : va_G) (k : Nat → ClassId) (a : Nat → Nat) (p1 : Int32) (p2 : Int32) : Met l yX11_lights wsX11_lights ({ frames := 2, cells := 0, slots := 0, locals := 44 }) (PreR D k [e0 k a, e26 k a] [.ref (a 0), .int p1, .int p2]) (vp_Si (fun r => r = (-2))) 0 0 (fun _ => False) := by
  refine Met.ofW (cc := cX11_lights) (maxL := 3) (ret := (some .int)) (by decide) rfl ?_
  intro p e s m args below meth c s₁ B hml hv
  obtain ⟨rfl, hP, hK⟩ := hv
  have hx := B.exec
  have hb := B.bytes
  have hr := B.returns
  have hts := atoms_spec (ws := wsX11_lights) B.pre
  have hown : s.vm.findClass RX11 = some m.cls := findClass_of_methodNamed B.named
  have hlocks := B.notSynchronized
  have hl := lv_entry ([.ref (a 0), .int p1, .int p2]) (n := 3) (Nat.le_of_ble_eq_true rfl)
  rw [lg_entry_eq]
  generalize (lg_sl ([.ref (a 0), .int p1, .int p2]) ++ List.replicate (3 - (lg_sl ([.ref (a 0), .int p1, .int p2])).length) Slot.unset).toArray = ls at hl ⊢
  have hl : lv_has ls 3 [(0, .ref (a 0)), (1, .int p1), (2, .int p2)] := hl
  refine lv_aload_n hx hb dX11_lights_0 rfl (lv_at hl 0 rfl) ?_
  refine lv_iload_n hx hb dX11_lights_1 rfl (lv_at hl 1 rfl) ?_
  refine lv_iload_n hx hb dX11_lights_2 rfl (lv_at hl 2 rfl) ?_
  refine pvi (C := RX11) (As := [.int p1, .int p2]) (rest := []) (wc := [e0 k a, e26 k a]) ⟨hx, hb, hml, hown, hts⟩ (c_X11_isClouded l D k a p1 p2) (cwV 2 hts gX11_lights_X11_isClouded rfl rfl rfl (by decide +kernel) ⟨Nat.le_of_ble_eq_true rfl, Nat.le_of_ble_eq_true rfl⟩) hP hK [0, 1] rfl 0 rfl rfl rfl rfl hl.1 rfl (Nat.le_of_ble_eq_true rfl) dX11_lights_3 ⟨Nat.le_of_ble_eq_true rfl, Nat.le_of_ble_eq_true rfl⟩ (fun r1 hr1 => ?_)
  obtain rfl := hr1
  refine lv_if_eq (tgt := 19) hx hb dX11_lights_6 (by decide) (fun _ => ?_) (fun h => absurd (by decide) h)
  refine lv_bipush (v := (-2)) hx hb dX11_lights_19 (by decide) ?_
  exact W.iret (v := (-2)) hx hb hr (fun t ht hW => ⟨(-2), rfl, rfl, ht⟩) (fun q h => by cases h) dX11_lights_21
set_option maxHeartbeats 4000000 in
set_option maxRecDepth 100000 in
theorem c_X11_taken (l : Launch) (D : va_G) (k : Nat → ClassId) (a : Nat → Nat) (p1 : Int32) (p2 : Int32) : Met l yX11_taken wsX11_taken ({ frames := 2, cells := 0, slots := 0, locals := 44 }) (PreR D k [e0 k a, e26 k a] [.ref (a 0), .int p1, .int p2]) (vp_Si (fun r => r = (-2))) 0 0 (fun _ => False) := by
  refine Met.ofW (cc := cX11_taken) (maxL := 3) (ret := (some .int)) (by decide) rfl ?_
  intro p e s m args below meth c s₁ B hml hv
  obtain ⟨rfl, hP, hK⟩ := hv
  have hx := B.exec
  have hb := B.bytes
  have hr := B.returns
  have hts := atoms_spec (ws := wsX11_taken) B.pre
  have hown : s.vm.findClass RX11 = some m.cls := findClass_of_methodNamed B.named
  have hlocks := B.notSynchronized
  have hl := lv_entry ([.ref (a 0), .int p1, .int p2]) (n := 3) (Nat.le_of_ble_eq_true rfl)
  rw [lg_entry_eq]
  generalize (lg_sl ([.ref (a 0), .int p1, .int p2]) ++ List.replicate (3 - (lg_sl ([.ref (a 0), .int p1, .int p2])).length) Slot.unset).toArray = ls at hl ⊢
  have hl : lv_has ls 3 [(0, .ref (a 0)), (1, .int p1), (2, .int p2)] := hl
  refine lv_aload_n hx hb dX11_taken_0 rfl (lv_at hl 0 rfl) ?_
  refine lv_iload_n hx hb dX11_taken_1 rfl (lv_at hl 1 rfl) ?_
  refine lv_iload_n hx hb dX11_taken_2 rfl (lv_at hl 2 rfl) ?_
  refine pvi (C := RX11) (As := [.int p1, .int p2]) (rest := []) (wc := [e0 k a, e26 k a]) ⟨hx, hb, hml, hown, hts⟩ (c_X11_isClouded l D k a p1 p2) (cwV 2 hts gX11_taken_X11_isClouded rfl rfl rfl (by decide +kernel) ⟨Nat.le_of_ble_eq_true rfl, Nat.le_of_ble_eq_true rfl⟩) hP hK [0, 1] rfl 0 rfl rfl rfl rfl hl.1 rfl (Nat.le_of_ble_eq_true rfl) dX11_taken_3 ⟨Nat.le_of_ble_eq_true rfl, Nat.le_of_ble_eq_true rfl⟩ (fun r1 hr1 => ?_)
  obtain rfl := hr1
  refine lv_if_eq (tgt := 19) hx hb dX11_taken_6 (by decide) (fun _ => ?_) (fun h => absurd (by decide) h)
  refine lv_bipush (v := (-2)) hx hb dX11_taken_19 (by decide) ?_
  exact W.iret (v := (-2)) hx hb hr (fun t ht hW => ⟨(-2), rfl, rfl, ht⟩) (fun q h => by cases h) dX11_taken_21
set_option maxHeartbeats 4000000 in
set_option maxRecDepth 100000 in
theorem c_X11_lives (l : Launch) (D : va_G) (k : Nat → ClassId) (a : Nat → Nat) (p1 : Int32) (p2 : Int32) : Met l yX11_lives wsX11_lives ({ frames := 2, cells := 0, slots := 0, locals := 44 }) (PreR D k [e0 k a, e26 k a] [.ref (a 0), .int p1, .int p2]) (vp_Si (fun r => r = (-2))) 0 0 (fun _ => False) := by
  refine Met.ofW (cc := cX11_lives) (maxL := 3) (ret := (some .int)) (by decide) rfl ?_
  intro p e s m args below meth c s₁ B hml hv
  obtain ⟨rfl, hP, hK⟩ := hv
  have hx := B.exec
  have hb := B.bytes
  have hr := B.returns
  have hts := atoms_spec (ws := wsX11_lives) B.pre
  have hown : s.vm.findClass RX11 = some m.cls := findClass_of_methodNamed B.named
  have hlocks := B.notSynchronized
  have hl := lv_entry ([.ref (a 0), .int p1, .int p2]) (n := 3) (Nat.le_of_ble_eq_true rfl)
  rw [lg_entry_eq]
  generalize (lg_sl ([.ref (a 0), .int p1, .int p2]) ++ List.replicate (3 - (lg_sl ([.ref (a 0), .int p1, .int p2])).length) Slot.unset).toArray = ls at hl ⊢
  have hl : lv_has ls 3 [(0, .ref (a 0)), (1, .int p1), (2, .int p2)] := hl
  refine lv_aload_n hx hb dX11_lives_0 rfl (lv_at hl 0 rfl) ?_
  refine lv_iload_n hx hb dX11_lives_1 rfl (lv_at hl 1 rfl) ?_
  refine lv_iload_n hx hb dX11_lives_2 rfl (lv_at hl 2 rfl) ?_
  refine pvi (C := RX11) (As := [.int p1, .int p2]) (rest := []) (wc := [e0 k a, e26 k a]) ⟨hx, hb, hml, hown, hts⟩ (c_X11_isClouded l D k a p1 p2) (cwV 2 hts gX11_lives_X11_isClouded rfl rfl rfl (by decide +kernel) ⟨Nat.le_of_ble_eq_true rfl, Nat.le_of_ble_eq_true rfl⟩) hP hK [0, 1] rfl 0 rfl rfl rfl rfl hl.1 rfl (Nat.le_of_ble_eq_true rfl) dX11_lives_3 ⟨Nat.le_of_ble_eq_true rfl, Nat.le_of_ble_eq_true rfl⟩ (fun r1 hr1 => ?_)
  obtain rfl := hr1
  refine lv_if_eq (tgt := 30) hx hb dX11_lives_6 (by decide) (fun _ => ?_) (fun h => absurd (by decide) h)
  refine lv_bipush (v := (-2)) hx hb dX11_lives_30 (by decide) ?_
  exact W.iret (v := (-2)) hx hb hr (fun t ht hW => ⟨(-2), rfl, rfl, ht⟩) (fun q h => by cases h) dX11_lives_32
set_option maxHeartbeats 4000000 in
set_option maxRecDepth 100000 in
theorem c_X11_when (l : Launch) (D : va_G) (k : Nat → ClassId) (a : Nat → Nat) (p1 : Int32) (p2 : Int32) (p3 : Int32) : Met l yX11_when wsX11_when ({ frames := 1, cells := 0, slots := 0, locals := 21 }) (PreR D k [e0 k a, e26 k a] [.ref (a 0), .int p1, .int p2, .int p3]) (vp_Si (fun r => r = (-2))) 0 0 (fun _ => False) := by
  refine Met.ofW (cc := cX11_when) (maxL := 10) (ret := (some .int)) (by decide) rfl ?_
  intro p e s m args below meth c s₁ B hml hv
  obtain ⟨rfl, hP, hK⟩ := hv
  have hx := B.exec
  have hb := B.bytes
  have hr := B.returns
  have hts := atoms_spec (ws := wsX11_when) B.pre
  have hown : s.vm.findClass RX11 = some m.cls := findClass_of_methodNamed B.named
  have hlocks := B.notSynchronized
  have i_X11 : ∀ w ∈ wsX110, w ∈ wsX11_when := by decide +kernel
  have hl := lv_entry ([.ref (a 0), .int p1, .int p2, .int p3]) (n := 10) (Nat.le_of_ble_eq_true rfl)
  rw [lg_entry_eq]
  generalize (lg_sl ([.ref (a 0), .int p1, .int p2, .int p3]) ++ List.replicate (10 - (lg_sl ([.ref (a 0), .int p1, .int p2, .int p3])).length) Slot.unset).toArray = ls at hl ⊢
  have hl : lv_has ls 10 [(0, .ref (a 0)), (1, .int p1), (2, .int p2), (3, .int p3)] := hl
  refine lv_aload_n hx hb dX11_when_0 rfl (lv_at hl 0 rfl) ?_
  refine va_get (D := D) (ci := 11) (v := .ref (a 26)) (C := RX11) (T := TX11) (N := 11) hx hb hts i_X11 hown hK hP 0 rfl rfl 8 (by decide) (hts (.fieldLink RX11 62 "BellowsRow" "now" "LBellowsRow$Works;") (by decide +kernel)) (fun _ h9 => h9) rfl dX11_when_1 ?_
  refine lv_iload_n hx hb dX11_when_4 rfl (lv_at hl 1 rfl) ?_
  refine pvq (C := RX10) (As := [.int p1]) (rest := []) (wc := [e26 k a]) ⟨hx, hb, hml, hown, hts⟩ (c_X10_pipeAt l D k a p1) (cwV 1 hts gX11_when_X10_pipeAt rfl rfl rfl (by decide +kernel) ⟨Nat.le_of_ble_eq_true rfl, Nat.le_of_ble_eq_true rfl⟩) hP hK [1] rfl 1 rfl rfl rfl rfl hl.1 rfl (Nat.le_of_ble_eq_true rfl) dX11_when_5 ⟨Nat.le_of_ble_eq_true rfl, Nat.le_of_ble_eq_true rfl⟩ (fun r1 hr1 => ?_)
  obtain rfl := hr1
  refine W.eq (g2 := F0 m 8 ls [.null]) rfl ?_
  refine lv_astoreN (lv' := [(4, .null), (0, .ref (a 0)), (1, .int p1), (2, .int p2), (3, .int p3)]) hx hb dX11_when_8 hl (by decide) rfl (fun ls hl => ?_)
  refine lv_aloadN hx hb dX11_when_10 (lv_at hl 0 rfl) ?_
  refine lv_ifnullN (tgt := 41) hx hb dX11_when_12 (by decide) ?_
  refine lv_bipush (v := (-2)) hx hb dX11_when_41 (by decide) ?_
  exact W.iret (v := (-2)) hx hb hr (fun t ht hW => ⟨(-2), rfl, rfl, ht⟩) (fun q h => by cases h) dX11_when_43
set_option maxHeartbeats 4000000 in
set_option maxRecDepth 100000 in
theorem c_X11_risk (l : Launch) (D : va_G) (k : Nat → ClassId) (a : Nat → Nat) (p1 : Int32) (p2 : Int32) (p3 : Int32) : Met l yX11_risk wsX11_risk ({ frames := 1, cells := 0, slots := 0, locals := 21 }) (PreR D k [e0 k a, e26 k a] [.ref (a 0), .int p1, .int p2, .int p3]) (vp_Si (fun r => r = (-2))) 0 0 (fun _ => False) := by
  refine Met.ofW (cc := cX11_risk) (maxL := 8) (ret := (some .int)) (by decide) rfl ?_
  intro p e s m args below meth c s₁ B hml hv
  obtain ⟨rfl, hP, hK⟩ := hv
  have hx := B.exec
  have hb := B.bytes
  have hr := B.returns
  have hts := atoms_spec (ws := wsX11_risk) B.pre
  have hown : s.vm.findClass RX11 = some m.cls := findClass_of_methodNamed B.named
  have hlocks := B.notSynchronized
  have i_X11 : ∀ w ∈ wsX110, w ∈ wsX11_risk := by decide +kernel
  have hl := lv_entry ([.ref (a 0), .int p1, .int p2, .int p3]) (n := 8) (Nat.le_of_ble_eq_true rfl)
  rw [lg_entry_eq]
  generalize (lg_sl ([.ref (a 0), .int p1, .int p2, .int p3]) ++ List.replicate (8 - (lg_sl ([.ref (a 0), .int p1, .int p2, .int p3])).length) Slot.unset).toArray = ls at hl ⊢
  have hl : lv_has ls 8 [(0, .ref (a 0)), (1, .int p1), (2, .int p2), (3, .int p3)] := hl
  refine lv_aload_n hx hb dX11_risk_0 rfl (lv_at hl 0 rfl) ?_
  refine va_get (D := D) (ci := 11) (v := .ref (a 26)) (C := RX11) (T := TX11) (N := 11) hx hb hts i_X11 hown hK hP 0 rfl rfl 8 (by decide) (hts (.fieldLink RX11 62 "BellowsRow" "now" "LBellowsRow$Works;") (by decide +kernel)) (fun _ h9 => h9) rfl dX11_risk_1 ?_
  refine lv_iload_n hx hb dX11_risk_4 rfl (lv_at hl 1 rfl) ?_
  refine pvq (C := RX10) (As := [.int p1]) (rest := []) (wc := [e26 k a]) ⟨hx, hb, hml, hown, hts⟩ (c_X10_pipeAt l D k a p1) (cwV 1 hts gX11_risk_X10_pipeAt rfl rfl rfl (by decide +kernel) ⟨Nat.le_of_ble_eq_true rfl, Nat.le_of_ble_eq_true rfl⟩) hP hK [1] rfl 1 rfl rfl rfl rfl hl.1 rfl (Nat.le_of_ble_eq_true rfl) dX11_risk_5 ⟨Nat.le_of_ble_eq_true rfl, Nat.le_of_ble_eq_true rfl⟩ (fun r1 hr1 => ?_)
  obtain rfl := hr1
  refine W.eq (g2 := F0 m 8 ls [.null]) rfl ?_
  refine lv_astoreN (lv' := [(4, .null), (0, .ref (a 0)), (1, .int p1), (2, .int p2), (3, .int p3)]) hx hb dX11_risk_8 hl (by decide) rfl (fun ls hl => ?_)
  refine lv_aloadN hx hb dX11_risk_10 (lv_at hl 0 rfl) ?_
  refine lv_ifnullN (tgt := 41) hx hb dX11_risk_12 (by decide) ?_
  refine lv_bipush (v := (-2)) hx hb dX11_risk_41 (by decide) ?_
  exact W.iret (v := (-2)) hx hb hr (fun t ht hW => ⟨(-2), rfl, rfl, ht⟩) (fun q h => by cases h) dX11_risk_43
set_option maxHeartbeats 4000000 in
set_option maxRecDepth 100000 in
theorem c_X11_safest (l : Launch) (D : va_G) (k : Nat → ClassId) (a : Nat → Nat) (p1 : Int32) (p2 : Int32) (p3 : Int32) : Met l yX11_safest wsX11_safest ({ frames := 1, cells := 0, slots := 0, locals := 21 }) (PreR D k [e0 k a, e26 k a, e31 k a] [.ref (a 0), .int p1, .int p2, .int p3]) (vp_Si (fun r => r = (-2))) 0 0 (fun _ => False) := by
  refine Met.ofW (cc := cX11_safest) (maxL := 9) (ret := (some .int)) (by decide) rfl ?_
  intro p e s m args below meth c s₁ B hml hv
  obtain ⟨rfl, hP, hK⟩ := hv
  have hx := B.exec
  have hb := B.bytes
  have hr := B.returns
  have hts := atoms_spec (ws := wsX11_safest) B.pre
  have hown : s.vm.findClass RX11 = some m.cls := findClass_of_methodNamed B.named
  have hlocks := B.notSynchronized
  have i_X10 : ∀ w ∈ wsX100, w ∈ wsX11_safest := by decide +kernel
  have i_X11 : ∀ w ∈ wsX110, w ∈ wsX11_safest := by decide +kernel
  have hl := lv_entry ([.ref (a 0), .int p1, .int p2, .int p3]) (n := 9) (Nat.le_of_ble_eq_true rfl)
  rw [lg_entry_eq]
  generalize (lg_sl ([.ref (a 0), .int p1, .int p2, .int p3]) ++ List.replicate (9 - (lg_sl ([.ref (a 0), .int p1, .int p2, .int p3])).length) Slot.unset).toArray = ls at hl ⊢
  have hl : lv_has ls 9 [(0, .ref (a 0)), (1, .int p1), (2, .int p2), (3, .int p3)] := hl
  refine lv_aload_n hx hb dX11_safest_0 rfl (lv_at hl 0 rfl) ?_
  refine va_get (D := D) (ci := 11) (v := .ref (a 26)) (C := RX11) (T := TX11) (N := 11) hx hb hts i_X11 hown hK hP 0 rfl rfl 8 (by decide) (hts (.fieldLink RX11 62 "BellowsRow" "now" "LBellowsRow$Works;") (by decide +kernel)) (fun _ h9 => h9) rfl dX11_safest_1 ?_
  refine va_get (D := D) (ci := 10) (v := .ref (a 31)) (C := RX10) (T := TX10) (N := 12) hx hb hts i_X10 hown hK hP 1 rfl rfl 1 (by decide) (hts (.fieldLink RX11 246 "BellowsRow$Works" "rooms" "LBellowsRow$Rooms;") (by decide +kernel)) (fun _ h9 => h9) rfl dX11_safest_4 ?_
  refine lv_iload_n hx hb dX11_safest_7 rfl (lv_at hl 3 rfl) ?_
  refine pvi (C := RX6) (As := [.int p3]) (rest := []) (wc := [e31 k a]) ⟨hx, hb, hml, hown, hts⟩ (c_X6_has l D k a p3) (cwV 1 hts gX11_safest_X6_has rfl rfl rfl (by decide +kernel) ⟨Nat.le_of_ble_eq_true rfl, Nat.le_of_ble_eq_true rfl⟩) hP hK [2] rfl 2 rfl rfl rfl rfl hl.1 rfl (Nat.le_of_ble_eq_true rfl) dX11_safest_8 ⟨Nat.le_of_ble_eq_true rfl, Nat.le_of_ble_eq_true rfl⟩ (fun r1 hr1 => ?_)
  obtain rfl := hr1
  refine lv_if_eq (tgt := 23) hx hb dX11_safest_11 (by decide) (fun _ => ?_) (fun h => absurd (by decide) h)
  refine lv_bipush (v := (-2)) hx hb dX11_safest_23 (by decide) ?_
  exact W.iret (v := (-2)) hx hb hr (fun t ht hW => ⟨(-2), rfl, rfl, ht⟩) (fun q h => by cases h) dX11_safest_25
set_option maxHeartbeats 4000000 in
set_option maxRecDepth 100000 in
theorem c_X11_moved (l : Launch) (D : va_G) (k : Nat → ClassId) (a : Nat → Nat) (p1 : Int32) (p2 : Int32) (p3 : Int32) (p4 : Int32) (p5 : Int32) : Met l yX11_moved wsX11_moved ({ frames := 1, cells := 0, slots := 0, locals := 21 }) (PreR D k [e0 k a, e26 k a, e31 k a] [.ref (a 0), .int p1, .int p2, .int p3, .int p4, .int p5]) (vp_Si (fun r => r = (-2000000000))) 0 0 (fun _ => False) := by
  refine Met.ofW (cc := cX11_moved) (maxL := 8) (ret := (some .int)) (by decide) rfl ?_
  intro p e s m args below meth c s₁ B hml hv
  obtain ⟨rfl, hP, hK⟩ := hv
  have hx := B.exec
  have hb := B.bytes
  have hr := B.returns
  have hts := atoms_spec (ws := wsX11_moved) B.pre
  have hown : s.vm.findClass RX11 = some m.cls := findClass_of_methodNamed B.named
  have hlocks := B.notSynchronized
  have i_X10 : ∀ w ∈ wsX100, w ∈ wsX11_moved := by decide +kernel
  have i_X11 : ∀ w ∈ wsX110, w ∈ wsX11_moved := by decide +kernel
  have hl := lv_entry ([.ref (a 0), .int p1, .int p2, .int p3, .int p4, .int p5]) (n := 8) (Nat.le_of_ble_eq_true rfl)
  rw [lg_entry_eq]
  generalize (lg_sl ([.ref (a 0), .int p1, .int p2, .int p3, .int p4, .int p5]) ++ List.replicate (8 - (lg_sl ([.ref (a 0), .int p1, .int p2, .int p3, .int p4, .int p5])).length) Slot.unset).toArray = ls at hl ⊢
  have hl : lv_has ls 8 [(0, .ref (a 0)), (1, .int p1), (2, .int p2), (3, .int p3), (4, .int p4), (5, .int p5)] := hl
  refine lv_iload hx hb dX11_moved_0 (lv_at hl 4 rfl) ?_
  refine lv_sipush (v := (-500)) hx hb dX11_moved_2 (by decide) ?_
  refine lv_icmp_lt (tgt := 36) hx hb dX11_moved_5 (by decide) (fun c1 => ?_) (fun c1 => ?_)
  · refine lv_iconst (v := 0) hx hb dX11_moved_36 (by decide) ?_
    refine lv_istore (lv' := [(6, .int 0), (0, .ref (a 0)), (1, .int p1), (2, .int p2), (3, .int p3), (4, .int p4), (5, .int p5)]) hx hb dX11_moved_37 hl (by decide) rfl (fun ls hl => ?_)
    refine lv_iload hx hb dX11_moved_39 (lv_at hl 0 rfl) ?_
    refine lv_if_eq (tgt := 67) hx hb dX11_moved_41 (by decide) (fun _ => ?_) (fun h => absurd (by decide) h)
    refine lv_ldc (own := RX11) (v := (-2000000000)) hx hb hown (hts (.constant RX11 109 (-2000000000)) (by decide +kernel)) dX11_moved_67 ?_
    exact W.iret (v := (-2000000000)) hx hb hr (fun t ht hW => ⟨(-2000000000), rfl, rfl, ht⟩) (fun q h => by cases h) dX11_moved_69
  · refine lv_iload hx hb dX11_moved_8 (lv_at hl 4 rfl) ?_
    refine lv_sipush (v := 999) hx hb dX11_moved_10 (by decide) ?_
    refine lv_icmp_gt (tgt := 36) hx hb dX11_moved_13 (by decide) (fun c2 => ?_) (fun c2 => ?_)
    · refine lv_iconst (v := 0) hx hb dX11_moved_36 (by decide) ?_
      refine lv_istore (lv' := [(6, .int 0), (0, .ref (a 0)), (1, .int p1), (2, .int p2), (3, .int p3), (4, .int p4), (5, .int p5)]) hx hb dX11_moved_37 hl (by decide) rfl (fun ls hl => ?_)
      refine lv_iload hx hb dX11_moved_39 (lv_at hl 0 rfl) ?_
      refine lv_if_eq (tgt := 67) hx hb dX11_moved_41 (by decide) (fun _ => ?_) (fun h => absurd (by decide) h)
      refine lv_ldc (own := RX11) (v := (-2000000000)) hx hb hown (hts (.constant RX11 109 (-2000000000)) (by decide +kernel)) dX11_moved_67 ?_
      exact W.iret (v := (-2000000000)) hx hb hr (fun t ht hW => ⟨(-2000000000), rfl, rfl, ht⟩) (fun q h => by cases h) dX11_moved_69
    · refine lv_iload hx hb dX11_moved_16 (lv_at hl 5 rfl) ?_
      refine lv_sipush (v := (-500)) hx hb dX11_moved_18 (by decide) ?_
      refine lv_icmp_lt (tgt := 36) hx hb dX11_moved_21 (by decide) (fun c3 => ?_) (fun c3 => ?_)
      · refine lv_iconst (v := 0) hx hb dX11_moved_36 (by decide) ?_
        refine lv_istore (lv' := [(6, .int 0), (0, .ref (a 0)), (1, .int p1), (2, .int p2), (3, .int p3), (4, .int p4), (5, .int p5)]) hx hb dX11_moved_37 hl (by decide) rfl (fun ls hl => ?_)
        refine lv_iload hx hb dX11_moved_39 (lv_at hl 0 rfl) ?_
        refine lv_if_eq (tgt := 67) hx hb dX11_moved_41 (by decide) (fun _ => ?_) (fun h => absurd (by decide) h)
        refine lv_ldc (own := RX11) (v := (-2000000000)) hx hb hown (hts (.constant RX11 109 (-2000000000)) (by decide +kernel)) dX11_moved_67 ?_
        exact W.iret (v := (-2000000000)) hx hb hr (fun t ht hW => ⟨(-2000000000), rfl, rfl, ht⟩) (fun q h => by cases h) dX11_moved_69
      · refine lv_iload hx hb dX11_moved_24 (lv_at hl 5 rfl) ?_
        refine lv_sipush (v := 999) hx hb dX11_moved_26 (by decide) ?_
        refine lv_icmp_gt (tgt := 36) hx hb dX11_moved_29 (by decide) (fun c4 => ?_) (fun c4 => ?_)
        · refine lv_iconst (v := 0) hx hb dX11_moved_36 (by decide) ?_
          refine lv_istore (lv' := [(6, .int 0), (0, .ref (a 0)), (1, .int p1), (2, .int p2), (3, .int p3), (4, .int p4), (5, .int p5)]) hx hb dX11_moved_37 hl (by decide) rfl (fun ls hl => ?_)
          refine lv_iload hx hb dX11_moved_39 (lv_at hl 0 rfl) ?_
          refine lv_if_eq (tgt := 67) hx hb dX11_moved_41 (by decide) (fun _ => ?_) (fun h => absurd (by decide) h)
          refine lv_ldc (own := RX11) (v := (-2000000000)) hx hb hown (hts (.constant RX11 109 (-2000000000)) (by decide +kernel)) dX11_moved_67 ?_
          exact W.iret (v := (-2000000000)) hx hb hr (fun t ht hW => ⟨(-2000000000), rfl, rfl, ht⟩) (fun q h => by cases h) dX11_moved_69
        · refine lv_iconst (v := 1) hx hb dX11_moved_32 (by decide) ?_
          refine lv_goto (tgt := 37) hx hb dX11_moved_33 (by decide) ?_
          refine lv_istore (lv' := [(6, .int 1), (0, .ref (a 0)), (1, .int p1), (2, .int p2), (3, .int p3), (4, .int p4), (5, .int p5)]) hx hb dX11_moved_37 hl (by decide) rfl (fun ls hl => ?_)
          refine lv_iload hx hb dX11_moved_39 (lv_at hl 0 rfl) ?_
          refine lv_if_eq (tgt := 67) hx hb dX11_moved_41 (by decide) (fun h => absurd h (by decide)) (fun _ => ?_)
          refine lv_aload_n hx hb dX11_moved_44 rfl (lv_at hl 1 rfl) ?_
          refine va_get (D := D) (ci := 11) (v := .ref (a 26)) (C := RX11) (T := TX11) (N := 11) hx hb hts i_X11 hown hK hP 0 rfl rfl 8 (by decide) (hts (.fieldLink RX11 62 "BellowsRow" "now" "LBellowsRow$Works;") (by decide +kernel)) (fun _ h9 => h9) rfl dX11_moved_45 ?_
          refine va_get (D := D) (ci := 10) (v := .ref (a 31)) (C := RX10) (T := TX10) (N := 12) hx hb hts i_X10 hown hK hP 1 rfl rfl 1 (by decide) (hts (.fieldLink RX11 246 "BellowsRow$Works" "rooms" "LBellowsRow$Rooms;") (by decide +kernel)) (fun _ h9 => h9) rfl dX11_moved_48 ?_
          refine lv_iload_n hx hb dX11_moved_51 rfl (lv_at hl 4 rfl) ?_
          refine pvi (C := RX6) (As := [.int p3]) (rest := []) (wc := [e31 k a]) ⟨hx, hb, hml, hown, hts⟩ (c_X6_has l D k a p3) (cwV 1 hts gX11_moved_X6_has rfl rfl rfl (by decide +kernel) ⟨Nat.le_of_ble_eq_true rfl, Nat.le_of_ble_eq_true rfl⟩) hP hK [2] rfl 2 rfl rfl rfl rfl hl.1 rfl (Nat.le_of_ble_eq_true rfl) dX11_moved_52 ⟨Nat.le_of_ble_eq_true rfl, Nat.le_of_ble_eq_true rfl⟩ (fun r5 hr5 => ?_)
          obtain rfl := hr5
          refine lv_if_eq (tgt := 67) hx hb dX11_moved_55 (by decide) (fun _ => ?_) (fun h => absurd (by decide) h)
          refine lv_ldc (own := RX11) (v := (-2000000000)) hx hb hown (hts (.constant RX11 109 (-2000000000)) (by decide +kernel)) dX11_moved_67 ?_
          exact W.iret (v := (-2000000000)) hx hb hr (fun t ht hW => ⟨(-2000000000), rfl, rfl, ht⟩) (fun q h => by cases h) dX11_moved_69
set_option maxHeartbeats 4000000 in
set_option maxRecDepth 100000 in
theorem c_X11_whole (l : Launch) (D : va_G) (k : Nat → ClassId) (a : Nat → Nat) : Met l yX11_whole wsX11_whole ({ frames := 1, cells := 0, slots := 0, locals := 24 }) (PreR D k [e0 k a, e26 k a, e36 k a] [.ref (a 0)]) (vp_Si (fun r => r = 0)) 0 0 (fun _ => False) := by
  refine Met.ofW (cc := cX11_whole) (maxL := 1) (ret := (some .int)) (by decide) rfl ?_
  intro p e s m args below meth c s₁ B hml hv
  obtain ⟨rfl, hP, hK⟩ := hv
  have hx := B.exec
  have hb := B.bytes
  have hr := B.returns
  have hts := atoms_spec (ws := wsX11_whole) B.pre
  have hown : s.vm.findClass RX11 = some m.cls := findClass_of_methodNamed B.named
  have hlocks := B.notSynchronized
  have i_X10 : ∀ w ∈ wsX100, w ∈ wsX11_whole := by decide +kernel
  have i_X11 : ∀ w ∈ wsX110, w ∈ wsX11_whole := by decide +kernel
  have hl := lv_entry ([.ref (a 0)]) (n := 1) (Nat.le_of_ble_eq_true rfl)
  rw [lg_entry_eq]
  generalize (lg_sl ([.ref (a 0)]) ++ List.replicate (1 - (lg_sl ([.ref (a 0)])).length) Slot.unset).toArray = ls at hl ⊢
  have hl : lv_has ls 1 [(0, .ref (a 0))] := hl
  refine lv_aload_n hx hb dX11_whole_0 rfl (lv_at hl 0 rfl) ?_
  refine va_get (D := D) (ci := 11) (v := .ref (a 26)) (C := RX11) (T := TX11) (N := 11) hx hb hts i_X11 hown hK hP 0 rfl rfl 8 (by decide) (hts (.fieldLink RX11 62 "BellowsRow" "now" "LBellowsRow$Works;") (by decide +kernel)) (fun _ h9 => h9) rfl dX11_whole_1 ?_
  refine va_get (D := D) (ci := 10) (v := .ref (a 36)) (C := RX10) (T := TX10) (N := 12) hx hb hts i_X10 hown hK hP 1 rfl rfl 2 (by decide) (hts (.fieldLink RX11 274 "BellowsRow$Works" "people" "LBellowsRow$People;") (by decide +kernel)) (fun _ h9 => h9) rfl dX11_whole_4 ?_
  refine lv_iconst (v := (-1)) hx hb dX11_whole_7 (by decide) ?_
  refine pvi (C := RX4) (As := [.int (-1)]) (rest := []) (wc := [e36 k a]) ⟨hx, hb, hml, hown, hts⟩ (c_X4_wholeChanges l D k a (-1)) (cwV 1 hts gX11_whole_X4_wholeChanges rfl rfl rfl (by decide +kernel) ⟨Nat.le_of_ble_eq_true rfl, Nat.le_of_ble_eq_true rfl⟩) hP hK [2] rfl 2 rfl rfl rfl rfl hl.1 rfl (Nat.le_of_ble_eq_true rfl) dX11_whole_8 ⟨Nat.le_of_ble_eq_true rfl, Nat.le_of_ble_eq_true rfl⟩ (fun r1 hr1 => ?_)
  obtain rfl := hr1
  exact W.iret (v := 0) hx hb hr (fun t ht hW => ⟨0, rfl, rfl, ht⟩) (fun q h => by cases h) dX11_whole_11
set_option maxHeartbeats 4000000 in
set_option maxRecDepth 100000 in
theorem c_X11_staying (l : Launch) (D : va_G) (k : Nat → ClassId) (a : Nat → Nat) (p1 : Int32) : Met l yX11_staying wsX11_staying ({ frames := 1, cells := 0, slots := 0, locals := 21 }) (PreR D k [e0 k a, e26 k a, e36 k a] [.ref (a 0), .int p1]) (vp_Si (fun r => r = (-2))) 0 0 (fun _ => False) := by
  refine Met.ofW (cc := cX11_staying) (maxL := 3) (ret := (some .int)) (by decide) rfl ?_
  intro p e s m args below meth c s₁ B hml hv
  obtain ⟨rfl, hP, hK⟩ := hv
  have hx := B.exec
  have hb := B.bytes
  have hr := B.returns
  have hts := atoms_spec (ws := wsX11_staying) B.pre
  have hown : s.vm.findClass RX11 = some m.cls := findClass_of_methodNamed B.named
  have hlocks := B.notSynchronized
  have i_X10 : ∀ w ∈ wsX100, w ∈ wsX11_staying := by decide +kernel
  have i_X11 : ∀ w ∈ wsX110, w ∈ wsX11_staying := by decide +kernel
  have hl := lv_entry ([.ref (a 0), .int p1]) (n := 3) (Nat.le_of_ble_eq_true rfl)
  rw [lg_entry_eq]
  generalize (lg_sl ([.ref (a 0), .int p1]) ++ List.replicate (3 - (lg_sl ([.ref (a 0), .int p1])).length) Slot.unset).toArray = ls at hl ⊢
  have hl : lv_has ls 3 [(0, .ref (a 0)), (1, .int p1)] := hl
  refine lv_aload_n hx hb dX11_staying_0 rfl (lv_at hl 0 rfl) ?_
  refine va_get (D := D) (ci := 11) (v := .ref (a 26)) (C := RX11) (T := TX11) (N := 11) hx hb hts i_X11 hown hK hP 0 rfl rfl 8 (by decide) (hts (.fieldLink RX11 62 "BellowsRow" "now" "LBellowsRow$Works;") (by decide +kernel)) (fun _ h9 => h9) rfl dX11_staying_1 ?_
  refine va_get (D := D) (ci := 10) (v := .ref (a 36)) (C := RX10) (T := TX10) (N := 12) hx hb hts i_X10 hown hK hP 1 rfl rfl 2 (by decide) (hts (.fieldLink RX11 274 "BellowsRow$Works" "people" "LBellowsRow$People;") (by decide +kernel)) (fun _ h9 => h9) rfl dX11_staying_4 ?_
  refine lv_iload_n hx hb dX11_staying_7 rfl (lv_at hl 1 rfl) ?_
  refine pvi (C := RX4) (As := [.int p1]) (rest := []) (wc := [e36 k a]) ⟨hx, hb, hml, hown, hts⟩ (c_X4_hasPerson l D k a p1) (cwV 1 hts gX11_staying_X4_hasPerson rfl rfl rfl (by decide +kernel) ⟨Nat.le_of_ble_eq_true rfl, Nat.le_of_ble_eq_true rfl⟩) hP hK [2] rfl 2 rfl rfl rfl rfl hl.1 rfl (Nat.le_of_ble_eq_true rfl) dX11_staying_8 ⟨Nat.le_of_ble_eq_true rfl, Nat.le_of_ble_eq_true rfl⟩ (fun r1 hr1 => ?_)
  obtain rfl := hr1
  refine lv_if_ne (tgt := 17) hx hb dX11_staying_11 (by decide) (fun h => absurd (by decide) h) (fun _ => ?_)
  refine lv_bipush (v := (-2)) hx hb dX11_staying_14 (by decide) ?_
  exact W.iret (v := (-2)) hx hb hr (fun t ht hW => ⟨(-2), rfl, rfl, ht⟩) (fun q h => by cases h) dX11_staying_16
set_option maxHeartbeats 4000000 in
set_option maxRecDepth 100000 in
theorem c_X11_asked (l : Launch) (D : va_G) (k : Nat → ClassId) (a : Nat → Nat) (p1 : Int32) (p2 : Int32) : Met l yX11_asked wsX11_asked ({ frames := 1, cells := 0, slots := 0, locals := 21 }) (PreR D k [e0 k a, e26 k a, e36 k a] [.ref (a 0), .int p1, .int p2]) (vp_Si (fun r => r = (-2))) 0 0 (fun _ => False) := by
  refine Met.ofW (cc := cX11_asked) (maxL := 3) (ret := (some .int)) (by decide) rfl ?_
  intro p e s m args below meth c s₁ B hml hv
  obtain ⟨rfl, hP, hK⟩ := hv
  have hx := B.exec
  have hb := B.bytes
  have hr := B.returns
  have hts := atoms_spec (ws := wsX11_asked) B.pre
  have hown : s.vm.findClass RX11 = some m.cls := findClass_of_methodNamed B.named
  have hlocks := B.notSynchronized
  have i_X10 : ∀ w ∈ wsX100, w ∈ wsX11_asked := by decide +kernel
  have i_X11 : ∀ w ∈ wsX110, w ∈ wsX11_asked := by decide +kernel
  have hl := lv_entry ([.ref (a 0), .int p1, .int p2]) (n := 3) (Nat.le_of_ble_eq_true rfl)
  rw [lg_entry_eq]
  generalize (lg_sl ([.ref (a 0), .int p1, .int p2]) ++ List.replicate (3 - (lg_sl ([.ref (a 0), .int p1, .int p2])).length) Slot.unset).toArray = ls at hl ⊢
  have hl : lv_has ls 3 [(0, .ref (a 0)), (1, .int p1), (2, .int p2)] := hl
  refine lv_aload_n hx hb dX11_asked_0 rfl (lv_at hl 0 rfl) ?_
  refine va_get (D := D) (ci := 11) (v := .ref (a 26)) (C := RX11) (T := TX11) (N := 11) hx hb hts i_X11 hown hK hP 0 rfl rfl 8 (by decide) (hts (.fieldLink RX11 62 "BellowsRow" "now" "LBellowsRow$Works;") (by decide +kernel)) (fun _ h9 => h9) rfl dX11_asked_1 ?_
  refine va_get (D := D) (ci := 10) (v := .ref (a 36)) (C := RX10) (T := TX10) (N := 12) hx hb hts i_X10 hown hK hP 1 rfl rfl 2 (by decide) (hts (.fieldLink RX11 274 "BellowsRow$Works" "people" "LBellowsRow$People;") (by decide +kernel)) (fun _ h9 => h9) rfl dX11_asked_4 ?_
  refine lv_iload_n hx hb dX11_asked_7 rfl (lv_at hl 1 rfl) ?_
  refine pvi (C := RX4) (As := [.int p1]) (rest := []) (wc := [e36 k a]) ⟨hx, hb, hml, hown, hts⟩ (c_X4_hasChange l D k a p1) (cwV 1 hts gX11_asked_X4_hasChange rfl rfl rfl (by decide +kernel) ⟨Nat.le_of_ble_eq_true rfl, Nat.le_of_ble_eq_true rfl⟩) hP hK [2] rfl 2 rfl rfl rfl rfl hl.1 rfl (Nat.le_of_ble_eq_true rfl) dX11_asked_8 ⟨Nat.le_of_ble_eq_true rfl, Nat.le_of_ble_eq_true rfl⟩ (fun r1 hr1 => ?_)
  obtain rfl := hr1
  refine lv_if_eq (tgt := 29) hx hb dX11_asked_11 (by decide) (fun _ => ?_) (fun h => absurd (by decide) h)
  refine lv_bipush (v := (-2)) hx hb dX11_asked_29 (by decide) ?_
  exact W.iret (v := (-2)) hx hb hr (fun t ht hW => ⟨(-2), rfl, rfl, ht⟩) (fun q h => by cases h) dX11_asked_31
set_option maxHeartbeats 4000000 in
set_option maxRecDepth 100000 in
theorem c_X11_who (l : Launch) (D : va_G) (k : Nat → ClassId) (a : Nat → Nat) (p1 : Int32) (p2 : Int32) : Met l yX11_who wsX11_who ({ frames := 1, cells := 0, slots := 0, locals := 23 }) (PreR D k [e0 k a, e26 k a, e36 k a] [.ref (a 0), .int p1, .int p2]) (vp_Si (fun r => ((0 ≤ p1.toInt ∧ p1.toInt ≤ 3 ∧ 0 ≤ p2.toInt ∧ p2.toInt ≤ 999) ∧ r = (-1)) ∨ (¬ (0 ≤ p1.toInt ∧ p1.toInt ≤ 3 ∧ 0 ≤ p2.toInt ∧ p2.toInt ≤ 999) ∧ r = (-2)))) 0 0 (fun _ => False) := by
  refine Met.ofW (cc := cX11_who) (maxL := 3) (ret := (some .int)) (by decide) rfl ?_
  intro p e s m args below meth c s₁ B hml hv
  obtain ⟨rfl, hP, hK⟩ := hv
  have hx := B.exec
  have hb := B.bytes
  have hr := B.returns
  have hts := atoms_spec (ws := wsX11_who) B.pre
  have hown : s.vm.findClass RX11 = some m.cls := findClass_of_methodNamed B.named
  have hlocks := B.notSynchronized
  have i_X10 : ∀ w ∈ wsX100, w ∈ wsX11_who := by decide +kernel
  have i_X11 : ∀ w ∈ wsX110, w ∈ wsX11_who := by decide +kernel
  have hl := lv_entry ([.ref (a 0), .int p1, .int p2]) (n := 3) (Nat.le_of_ble_eq_true rfl)
  rw [lg_entry_eq]
  generalize (lg_sl ([.ref (a 0), .int p1, .int p2]) ++ List.replicate (3 - (lg_sl ([.ref (a 0), .int p1, .int p2])).length) Slot.unset).toArray = ls at hl ⊢
  have hl : lv_has ls 3 [(0, .ref (a 0)), (1, .int p1), (2, .int p2)] := hl
  refine lv_iload_n hx hb dX11_who_0 rfl (lv_at hl 1 rfl) ?_
  refine lv_if_lt (tgt := 20) hx hb dX11_who_1 (by decide) (fun c1 => ?_) (fun c1 => ?_)
  · refine lv_bipush (v := (-2)) hx hb dX11_who_20 (by decide) ?_
    exact W.iret (v := (-2)) hx hb hr (fun t ht hW => ⟨(-2), rfl, Or.inr ⟨by (try simp only [i_lt, i_le, i_eq, Int32.toInt_toInt64, Int32.reduceToInt, Int64.reduceToInt] at c1 ⊢); omega, rfl⟩, ht⟩) (fun q h => by cases h) dX11_who_22
  · refine lv_iload_n hx hb dX11_who_4 rfl (lv_at hl 1 rfl) ?_
    refine lv_iconst (v := 3) hx hb dX11_who_5 (by decide) ?_
    refine lv_icmp_gt (tgt := 20) hx hb dX11_who_6 (by decide) (fun c2 => ?_) (fun c2 => ?_)
    · refine lv_bipush (v := (-2)) hx hb dX11_who_20 (by decide) ?_
      exact W.iret (v := (-2)) hx hb hr (fun t ht hW => ⟨(-2), rfl, Or.inr ⟨by (try simp only [i_lt, i_le, i_eq, Int32.toInt_toInt64, Int32.reduceToInt, Int64.reduceToInt] at c1 c2 ⊢); omega, rfl⟩, ht⟩) (fun q h => by cases h) dX11_who_22
    · refine lv_iload_n hx hb dX11_who_9 rfl (lv_at hl 2 rfl) ?_
      refine lv_if_lt (tgt := 20) hx hb dX11_who_10 (by decide) (fun c3 => ?_) (fun c3 => ?_)
      · refine lv_bipush (v := (-2)) hx hb dX11_who_20 (by decide) ?_
        exact W.iret (v := (-2)) hx hb hr (fun t ht hW => ⟨(-2), rfl, Or.inr ⟨by (try simp only [i_lt, i_le, i_eq, Int32.toInt_toInt64, Int32.reduceToInt, Int64.reduceToInt] at c1 c2 c3 ⊢); omega, rfl⟩, ht⟩) (fun q h => by cases h) dX11_who_22
      · refine lv_iload_n hx hb dX11_who_13 rfl (lv_at hl 2 rfl) ?_
        refine lv_sipush (v := 999) hx hb dX11_who_14 (by decide) ?_
        refine lv_icmp_le (tgt := 23) hx hb dX11_who_17 (by decide) (fun c4 => ?_) (fun c4 => ?_)
        · refine lv_aload_n hx hb dX11_who_23 rfl (lv_at hl 0 rfl) ?_
          refine va_get (D := D) (ci := 11) (v := .ref (a 26)) (C := RX11) (T := TX11) (N := 11) hx hb hts i_X11 hown hK hP 0 rfl rfl 8 (by decide) (hts (.fieldLink RX11 62 "BellowsRow" "now" "LBellowsRow$Works;") (by decide +kernel)) (fun _ h9 => h9) rfl dX11_who_24 ?_
          refine va_get (D := D) (ci := 10) (v := .ref (a 36)) (C := RX10) (T := TX10) (N := 12) hx hb hts i_X10 hown hK hP 1 rfl rfl 2 (by decide) (hts (.fieldLink RX11 274 "BellowsRow$Works" "people" "LBellowsRow$People;") (by decide +kernel)) (fun _ h9 => h9) rfl dX11_who_27 ?_
          refine lv_iload_n hx hb dX11_who_30 rfl (lv_at hl 1 rfl) ?_
          refine lv_iload_n hx hb dX11_who_31 rfl (lv_at hl 2 rfl) ?_
          refine pvi (C := RX4) (As := [.int p1, .int p2]) (rest := []) (wc := [e36 k a]) ⟨hx, hb, hml, hown, hts⟩ (c_X4_firstKnowing l D k a p1 p2) (cwV 2 hts gX11_who_X4_firstKnowing rfl rfl rfl (by decide +kernel) ⟨Nat.le_of_ble_eq_true rfl, Nat.le_of_ble_eq_true rfl⟩) hP hK [2] rfl 2 rfl rfl rfl rfl hl.1 rfl (Nat.le_of_ble_eq_true rfl) dX11_who_32 ⟨Nat.le_of_ble_eq_true rfl, Nat.le_of_ble_eq_true rfl⟩ (fun r5 hr5 => ?_)
          obtain rfl := hr5
          exact W.iret (v := (-1)) hx hb hr (fun t ht hW => ⟨(-1), rfl, Or.inl ⟨by (try simp only [i_lt, i_le, i_eq, Int32.toInt_toInt64, Int32.reduceToInt, Int64.reduceToInt] at c1 c2 c3 c4 ⊢); omega, rfl⟩, ht⟩) (fun q h => by cases h) dX11_who_35
        · refine lv_bipush (v := (-2)) hx hb dX11_who_20 (by decide) ?_
          exact W.iret (v := (-2)) hx hb hr (fun t ht hW => ⟨(-2), rfl, Or.inr ⟨by (try simp only [i_lt, i_le, i_eq, Int32.toInt_toInt64, Int32.reduceToInt, Int64.reduceToInt] at c1 c2 c3 c4 ⊢); omega, rfl⟩, ht⟩) (fun q h => by cases h) dX11_who_22
set_option maxHeartbeats 4000000 in
set_option maxRecDepth 100000 in
theorem c_X11_held (l : Launch) (D : va_G) (k : Nat → ClassId) (a : Nat → Nat) (p1 : Int32) (p2 : Int32) : Met l yX11_held wsX11_held ({ frames := 1, cells := 0, slots := 0, locals := 24 }) (PreR D k [e0 k a, e26 k a, e36 k a] [.ref (a 0), .int p1, .int p2]) (vp_Si (fun r => ((0 ≤ p1.toInt ∧ p1.toInt ≤ 65535) ∧ r = 0) ∨ (¬ (0 ≤ p1.toInt ∧ p1.toInt ≤ 65535) ∧ r = (-2)))) 0 0 (fun _ => False) := by
  refine Met.ofW (cc := cX11_held) (maxL := 6) (ret := (some .int)) (by decide) rfl ?_
  intro p e s m args below meth c s₁ B hml hv
  obtain ⟨rfl, hP, hK⟩ := hv
  have hx := B.exec
  have hb := B.bytes
  have hr := B.returns
  have hts := atoms_spec (ws := wsX11_held) B.pre
  have hown : s.vm.findClass RX11 = some m.cls := findClass_of_methodNamed B.named
  have hlocks := B.notSynchronized
  have i_X10 : ∀ w ∈ wsX100, w ∈ wsX11_held := by decide +kernel
  have i_X11 : ∀ w ∈ wsX110, w ∈ wsX11_held := by decide +kernel
  have hl := lv_entry ([.ref (a 0), .int p1, .int p2]) (n := 6) (Nat.le_of_ble_eq_true rfl)
  rw [lg_entry_eq]
  generalize (lg_sl ([.ref (a 0), .int p1, .int p2]) ++ List.replicate (6 - (lg_sl ([.ref (a 0), .int p1, .int p2])).length) Slot.unset).toArray = ls at hl ⊢
  have hl : lv_has ls 6 [(0, .ref (a 0)), (1, .int p1), (2, .int p2)] := hl
  refine lv_iload_n hx hb dX11_held_0 rfl (lv_at hl 1 rfl) ?_
  refine lv_if_lt (tgt := 11) hx hb dX11_held_1 (by decide) (fun c1 => ?_) (fun c1 => ?_)
  · refine lv_bipush (v := (-2)) hx hb dX11_held_11 (by decide) ?_
    exact W.iret (v := (-2)) hx hb hr (fun t ht hW => ⟨(-2), rfl, Or.inr ⟨by (try simp only [i_lt, i_le, i_eq, Int32.toInt_toInt64, Int32.reduceToInt, Int64.reduceToInt] at c1 ⊢); omega, rfl⟩, ht⟩) (fun q h => by cases h) dX11_held_13
  · refine lv_iload_n hx hb dX11_held_4 rfl (lv_at hl 1 rfl) ?_
    refine lv_ldcw (own := RX11) (v := 65535) hx hb hown (hts (.constant RX11 303 (65535)) (by decide +kernel)) dX11_held_5 ?_
    refine lv_icmp_le (tgt := 14) hx hb dX11_held_8 (by decide) (fun c2 => ?_) (fun c2 => ?_)
    · refine lv_iconst (v := 0) hx hb dX11_held_14 (by decide) ?_
      refine lv_istore_n (lv' := [(3, .int 0), (0, .ref (a 0)), (1, .int p1), (2, .int p2)]) hx hb dX11_held_15 rfl hl (by decide) rfl (fun ls hl => ?_)
      refine lv_iconst (v := 0) hx hb dX11_held_16 (by decide) ?_
      refine lv_istore (lv' := [(4, .int 0), (3, .int 0), (0, .ref (a 0)), (1, .int p1), (2, .int p2)]) hx hb dX11_held_17 hl (by decide) rfl (fun ls hl => ?_)
      refine lv_iload hx hb dX11_held_19 (lv_at hl 0 rfl) ?_
      refine lv_iconst (v := 4) hx hb dX11_held_21 (by decide) ?_
      refine lv_icmp_ge (tgt := 80) hx hb dX11_held_22 (by decide) (fun h => absurd h (by decide)) (fun _ => ?_)
      refine lv_iload_n hx hb dX11_held_25 rfl (lv_at hl 3 rfl) ?_
      refine lv_iconst (v := 4) hx hb dX11_held_26 (by decide) ?_
      refine lv_iload hx hb dX11_held_27 (lv_at hl 0 rfl) ?_
      refine lv_imul hx hb dX11_held_29 ?_
      refine lv_topi (fun x3 ex3 => ?_)
      obtain rfl : x3 = 0 := ex3.trans (by decide)
      refine lv_ishr hx hb dX11_held_30 ?_
      refine lv_topi (fun x4 ex4 => ?_)
      refine lv_bipush (v := 15) hx hb dX11_held_31 (by decide) ?_
      refine lv_iand hx hb dX11_held_33 ?_
      refine lv_topi (fun x5 ex5 => ?_)
      refine lv_istore (lv' := [(5, .int x5), (4, .int 0), (3, .int 0), (0, .ref (a 0)), (1, .int p1), (2, .int p2)]) hx hb dX11_held_34 hl (by decide) rfl (fun ls hl => ?_)
      refine lv_iload_n hx hb dX11_held_36 rfl (lv_at hl 2 rfl) ?_
      refine lv_iload_n hx hb dX11_held_37 rfl (lv_at hl 5 rfl) ?_
      refine lv_if_eq (tgt := 58) hx hb dX11_held_38 (by decide) (fun c6 => ?_) (fun c6 => ?_)
      · refine lv_aload_n hx hb dX11_held_58 rfl (lv_at hl 3 rfl) ?_
        refine va_get (D := D) (ci := 11) (v := .ref (a 26)) (C := RX11) (T := TX11) (N := 11) hx hb hts i_X11 hown hK hP 0 rfl rfl 8 (by decide) (hts (.fieldLink RX11 62 "BellowsRow" "now" "LBellowsRow$Works;") (by decide +kernel)) (fun _ h9 => h9) rfl dX11_held_59 ?_
        refine va_get (D := D) (ci := 10) (v := .ref (a 36)) (C := RX10) (T := TX10) (N := 12) hx hb hts i_X10 hown hK hP 1 rfl rfl 2 (by decide) (hts (.fieldLink RX11 274 "BellowsRow$Works" "people" "LBellowsRow$People;") (by decide +kernel)) (fun _ h9 => h9) rfl dX11_held_62 ?_
        refine lv_iload hx hb dX11_held_65 (lv_at hl 1 rfl) ?_
        refine lv_iload hx hb dX11_held_67 (lv_at hl 0 rfl) ?_
        refine pvi (C := RX4) (As := [.int 0, .int x5]) (rest := [.int 0]) (wc := [e36 k a]) ⟨hx, hb, hml, hown, hts⟩ (c_X4_askedAll l D k a 0 x5) (cwV 2 hts gX11_held_X4_askedAll rfl rfl rfl (by decide +kernel) ⟨Nat.le_of_ble_eq_true rfl, Nat.le_of_ble_eq_true rfl⟩) hP hK [2] rfl 2 rfl rfl rfl rfl hl.1 rfl (Nat.le_of_ble_eq_true rfl) dX11_held_69 ⟨Nat.le_of_ble_eq_true rfl, Nat.le_of_ble_eq_true rfl⟩ (fun r7 hr7 => ?_)
        obtain rfl := hr7
        refine lv_iadd hx hb dX11_held_72 ?_
        refine lv_topi (fun x8 ex8 => ?_)
        obtain rfl : x8 = 0 := ex8.trans (by decide)
        refine lv_istore_n (lv' := [(3, .int 0), (5, .int x5), (4, .int 0), (0, .ref (a 0)), (1, .int p1), (2, .int p2)]) hx hb dX11_held_73 rfl hl (by decide) rfl (fun ls hl => ?_)
        refine lv_iinc (v := 1) (lv' := [(4, .int 1), (3, .int 0), (5, .int x5), (0, .ref (a 0)), (1, .int p1), (2, .int p2)]) hx hb dX11_held_74 hl (k := 2) rfl (by decide) (by decide) rfl (fun ls hl => ?_)
        refine lv_goto (tgt := 19) hx hb dX11_held_77 (by decide) ?_
        refine lv_iload hx hb dX11_held_19 (lv_at hl 0 rfl) ?_
        refine lv_iconst (v := 4) hx hb dX11_held_21 (by decide) ?_
        refine lv_icmp_ge (tgt := 80) hx hb dX11_held_22 (by decide) (fun h => absurd h (by decide)) (fun _ => ?_)
        refine lv_iload_n hx hb dX11_held_25 rfl (lv_at hl 4 rfl) ?_
        refine lv_iconst (v := 4) hx hb dX11_held_26 (by decide) ?_
        refine lv_iload hx hb dX11_held_27 (lv_at hl 0 rfl) ?_
        refine lv_imul hx hb dX11_held_29 ?_
        refine lv_topi (fun x9 ex9 => ?_)
        obtain rfl : x9 = 4 := ex9.trans (by decide)
        refine lv_ishr hx hb dX11_held_30 ?_
        refine lv_topi (fun x10 ex10 => ?_)
        refine lv_bipush (v := 15) hx hb dX11_held_31 (by decide) ?_
        refine lv_iand hx hb dX11_held_33 ?_
        refine lv_topi (fun x11 ex11 => ?_)
        refine lv_istore (lv' := [(5, .int x11), (4, .int 1), (3, .int 0), (0, .ref (a 0)), (1, .int p1), (2, .int p2)]) hx hb dX11_held_34 hl (by decide) rfl (fun ls hl => ?_)
        refine lv_iload_n hx hb dX11_held_36 rfl (lv_at hl 2 rfl) ?_
        refine lv_iload_n hx hb dX11_held_37 rfl (lv_at hl 5 rfl) ?_
        refine lv_if_eq (tgt := 58) hx hb dX11_held_38 (by decide) (fun _ => ?_) (fun h => absurd (c6) h)
        refine lv_aload_n hx hb dX11_held_58 rfl (lv_at hl 3 rfl) ?_
        refine va_get (D := D) (ci := 11) (v := .ref (a 26)) (C := RX11) (T := TX11) (N := 11) hx hb hts i_X11 hown hK hP 0 rfl rfl 8 (by decide) (hts (.fieldLink RX11 62 "BellowsRow" "now" "LBellowsRow$Works;") (by decide +kernel)) (fun _ h9 => h9) rfl dX11_held_59 ?_
        refine va_get (D := D) (ci := 10) (v := .ref (a 36)) (C := RX10) (T := TX10) (N := 12) hx hb hts i_X10 hown hK hP 1 rfl rfl 2 (by decide) (hts (.fieldLink RX11 274 "BellowsRow$Works" "people" "LBellowsRow$People;") (by decide +kernel)) (fun _ h9 => h9) rfl dX11_held_62 ?_
        refine lv_iload hx hb dX11_held_65 (lv_at hl 1 rfl) ?_
        refine lv_iload hx hb dX11_held_67 (lv_at hl 0 rfl) ?_
        refine pvi (C := RX4) (As := [.int 1, .int x11]) (rest := [.int 0]) (wc := [e36 k a]) ⟨hx, hb, hml, hown, hts⟩ (c_X4_askedAll l D k a 1 x11) (cwV 2 hts gX11_held_X4_askedAll rfl rfl rfl (by decide +kernel) ⟨Nat.le_of_ble_eq_true rfl, Nat.le_of_ble_eq_true rfl⟩) hP hK [2] rfl 2 rfl rfl rfl rfl hl.1 rfl (Nat.le_of_ble_eq_true rfl) dX11_held_69 ⟨Nat.le_of_ble_eq_true rfl, Nat.le_of_ble_eq_true rfl⟩ (fun r12 hr12 => ?_)
        obtain rfl := hr12
        refine lv_iadd hx hb dX11_held_72 ?_
        refine lv_topi (fun x13 ex13 => ?_)
        obtain rfl : x13 = 0 := ex13.trans (by decide)
        refine lv_istore_n (lv' := [(3, .int 0), (5, .int x11), (4, .int 1), (0, .ref (a 0)), (1, .int p1), (2, .int p2)]) hx hb dX11_held_73 rfl hl (by decide) rfl (fun ls hl => ?_)
        refine lv_iinc (v := 2) (lv' := [(4, .int 2), (3, .int 0), (5, .int x11), (0, .ref (a 0)), (1, .int p1), (2, .int p2)]) hx hb dX11_held_74 hl (k := 2) rfl (by decide) (by decide) rfl (fun ls hl => ?_)
        refine lv_goto (tgt := 19) hx hb dX11_held_77 (by decide) ?_
        refine lv_iload hx hb dX11_held_19 (lv_at hl 0 rfl) ?_
        refine lv_iconst (v := 4) hx hb dX11_held_21 (by decide) ?_
        refine lv_icmp_ge (tgt := 80) hx hb dX11_held_22 (by decide) (fun h => absurd h (by decide)) (fun _ => ?_)
        refine lv_iload_n hx hb dX11_held_25 rfl (lv_at hl 4 rfl) ?_
        refine lv_iconst (v := 4) hx hb dX11_held_26 (by decide) ?_
        refine lv_iload hx hb dX11_held_27 (lv_at hl 0 rfl) ?_
        refine lv_imul hx hb dX11_held_29 ?_
        refine lv_topi (fun x14 ex14 => ?_)
        obtain rfl : x14 = 8 := ex14.trans (by decide)
        refine lv_ishr hx hb dX11_held_30 ?_
        refine lv_topi (fun x15 ex15 => ?_)
        refine lv_bipush (v := 15) hx hb dX11_held_31 (by decide) ?_
        refine lv_iand hx hb dX11_held_33 ?_
        refine lv_topi (fun x16 ex16 => ?_)
        refine lv_istore (lv' := [(5, .int x16), (4, .int 2), (3, .int 0), (0, .ref (a 0)), (1, .int p1), (2, .int p2)]) hx hb dX11_held_34 hl (by decide) rfl (fun ls hl => ?_)
        refine lv_iload_n hx hb dX11_held_36 rfl (lv_at hl 2 rfl) ?_
        refine lv_iload_n hx hb dX11_held_37 rfl (lv_at hl 5 rfl) ?_
        refine lv_if_eq (tgt := 58) hx hb dX11_held_38 (by decide) (fun _ => ?_) (fun h => absurd (c6) h)
        refine lv_aload_n hx hb dX11_held_58 rfl (lv_at hl 3 rfl) ?_
        refine va_get (D := D) (ci := 11) (v := .ref (a 26)) (C := RX11) (T := TX11) (N := 11) hx hb hts i_X11 hown hK hP 0 rfl rfl 8 (by decide) (hts (.fieldLink RX11 62 "BellowsRow" "now" "LBellowsRow$Works;") (by decide +kernel)) (fun _ h9 => h9) rfl dX11_held_59 ?_
        refine va_get (D := D) (ci := 10) (v := .ref (a 36)) (C := RX10) (T := TX10) (N := 12) hx hb hts i_X10 hown hK hP 1 rfl rfl 2 (by decide) (hts (.fieldLink RX11 274 "BellowsRow$Works" "people" "LBellowsRow$People;") (by decide +kernel)) (fun _ h9 => h9) rfl dX11_held_62 ?_
        refine lv_iload hx hb dX11_held_65 (lv_at hl 1 rfl) ?_
        refine lv_iload hx hb dX11_held_67 (lv_at hl 0 rfl) ?_
        refine pvi (C := RX4) (As := [.int 2, .int x16]) (rest := [.int 0]) (wc := [e36 k a]) ⟨hx, hb, hml, hown, hts⟩ (c_X4_askedAll l D k a 2 x16) (cwV 2 hts gX11_held_X4_askedAll rfl rfl rfl (by decide +kernel) ⟨Nat.le_of_ble_eq_true rfl, Nat.le_of_ble_eq_true rfl⟩) hP hK [2] rfl 2 rfl rfl rfl rfl hl.1 rfl (Nat.le_of_ble_eq_true rfl) dX11_held_69 ⟨Nat.le_of_ble_eq_true rfl, Nat.le_of_ble_eq_true rfl⟩ (fun r17 hr17 => ?_)
        obtain rfl := hr17
        refine lv_iadd hx hb dX11_held_72 ?_
        refine lv_topi (fun x18 ex18 => ?_)
        obtain rfl : x18 = 0 := ex18.trans (by decide)
        refine lv_istore_n (lv' := [(3, .int 0), (5, .int x16), (4, .int 2), (0, .ref (a 0)), (1, .int p1), (2, .int p2)]) hx hb dX11_held_73 rfl hl (by decide) rfl (fun ls hl => ?_)
        refine lv_iinc (v := 3) (lv' := [(4, .int 3), (3, .int 0), (5, .int x16), (0, .ref (a 0)), (1, .int p1), (2, .int p2)]) hx hb dX11_held_74 hl (k := 2) rfl (by decide) (by decide) rfl (fun ls hl => ?_)
        refine lv_goto (tgt := 19) hx hb dX11_held_77 (by decide) ?_
        refine lv_iload hx hb dX11_held_19 (lv_at hl 0 rfl) ?_
        refine lv_iconst (v := 4) hx hb dX11_held_21 (by decide) ?_
        refine lv_icmp_ge (tgt := 80) hx hb dX11_held_22 (by decide) (fun h => absurd h (by decide)) (fun _ => ?_)
        refine lv_iload_n hx hb dX11_held_25 rfl (lv_at hl 4 rfl) ?_
        refine lv_iconst (v := 4) hx hb dX11_held_26 (by decide) ?_
        refine lv_iload hx hb dX11_held_27 (lv_at hl 0 rfl) ?_
        refine lv_imul hx hb dX11_held_29 ?_
        refine lv_topi (fun x19 ex19 => ?_)
        obtain rfl : x19 = 12 := ex19.trans (by decide)
        refine lv_ishr hx hb dX11_held_30 ?_
        refine lv_topi (fun x20 ex20 => ?_)
        refine lv_bipush (v := 15) hx hb dX11_held_31 (by decide) ?_
        refine lv_iand hx hb dX11_held_33 ?_
        refine lv_topi (fun x21 ex21 => ?_)
        refine lv_istore (lv' := [(5, .int x21), (4, .int 3), (3, .int 0), (0, .ref (a 0)), (1, .int p1), (2, .int p2)]) hx hb dX11_held_34 hl (by decide) rfl (fun ls hl => ?_)
        refine lv_iload_n hx hb dX11_held_36 rfl (lv_at hl 2 rfl) ?_
        refine lv_iload_n hx hb dX11_held_37 rfl (lv_at hl 5 rfl) ?_
        refine lv_if_eq (tgt := 58) hx hb dX11_held_38 (by decide) (fun _ => ?_) (fun h => absurd (c6) h)
        refine lv_aload_n hx hb dX11_held_58 rfl (lv_at hl 3 rfl) ?_
        refine va_get (D := D) (ci := 11) (v := .ref (a 26)) (C := RX11) (T := TX11) (N := 11) hx hb hts i_X11 hown hK hP 0 rfl rfl 8 (by decide) (hts (.fieldLink RX11 62 "BellowsRow" "now" "LBellowsRow$Works;") (by decide +kernel)) (fun _ h9 => h9) rfl dX11_held_59 ?_
        refine va_get (D := D) (ci := 10) (v := .ref (a 36)) (C := RX10) (T := TX10) (N := 12) hx hb hts i_X10 hown hK hP 1 rfl rfl 2 (by decide) (hts (.fieldLink RX11 274 "BellowsRow$Works" "people" "LBellowsRow$People;") (by decide +kernel)) (fun _ h9 => h9) rfl dX11_held_62 ?_
        refine lv_iload hx hb dX11_held_65 (lv_at hl 1 rfl) ?_
        refine lv_iload hx hb dX11_held_67 (lv_at hl 0 rfl) ?_
        refine pvi (C := RX4) (As := [.int 3, .int x21]) (rest := [.int 0]) (wc := [e36 k a]) ⟨hx, hb, hml, hown, hts⟩ (c_X4_askedAll l D k a 3 x21) (cwV 2 hts gX11_held_X4_askedAll rfl rfl rfl (by decide +kernel) ⟨Nat.le_of_ble_eq_true rfl, Nat.le_of_ble_eq_true rfl⟩) hP hK [2] rfl 2 rfl rfl rfl rfl hl.1 rfl (Nat.le_of_ble_eq_true rfl) dX11_held_69 ⟨Nat.le_of_ble_eq_true rfl, Nat.le_of_ble_eq_true rfl⟩ (fun r22 hr22 => ?_)
        obtain rfl := hr22
        refine lv_iadd hx hb dX11_held_72 ?_
        refine lv_topi (fun x23 ex23 => ?_)
        obtain rfl : x23 = 0 := ex23.trans (by decide)
        refine lv_istore_n (lv' := [(3, .int 0), (5, .int x21), (4, .int 3), (0, .ref (a 0)), (1, .int p1), (2, .int p2)]) hx hb dX11_held_73 rfl hl (by decide) rfl (fun ls hl => ?_)
        refine lv_iinc (v := 4) (lv' := [(4, .int 4), (3, .int 0), (5, .int x21), (0, .ref (a 0)), (1, .int p1), (2, .int p2)]) hx hb dX11_held_74 hl (k := 2) rfl (by decide) (by decide) rfl (fun ls hl => ?_)
        refine lv_goto (tgt := 19) hx hb dX11_held_77 (by decide) ?_
        refine lv_iload hx hb dX11_held_19 (lv_at hl 0 rfl) ?_
        refine lv_iconst (v := 4) hx hb dX11_held_21 (by decide) ?_
        refine lv_icmp_ge (tgt := 80) hx hb dX11_held_22 (by decide) (fun _ => ?_) (fun h => absurd (by decide) h)
        refine lv_iload_n hx hb dX11_held_80 rfl (lv_at hl 1 rfl) ?_
        exact W.iret (v := 0) hx hb hr (fun t ht hW => ⟨0, rfl, Or.inl ⟨by (try simp only [i_lt, i_le, i_eq, Int32.toInt_toInt64, Int32.reduceToInt, Int64.reduceToInt] at c1 c2 ex4 ex5 c6 ex10 ex11 ex15 ex16 ex20 ex21 ⊢); omega, rfl⟩, ht⟩) (fun q h => by cases h) dX11_held_81
      · refine lv_aload_n hx hb dX11_held_41 rfl (lv_at hl 3 rfl) ?_
        refine va_get (D := D) (ci := 11) (v := .ref (a 26)) (C := RX11) (T := TX11) (N := 11) hx hb hts i_X11 hown hK hP 0 rfl rfl 8 (by decide) (hts (.fieldLink RX11 62 "BellowsRow" "now" "LBellowsRow$Works;") (by decide +kernel)) (fun _ h9 => h9) rfl dX11_held_42 ?_
        refine va_get (D := D) (ci := 10) (v := .ref (a 36)) (C := RX10) (T := TX10) (N := 12) hx hb hts i_X10 hown hK hP 1 rfl rfl 2 (by decide) (hts (.fieldLink RX11 274 "BellowsRow$Works" "people" "LBellowsRow$People;") (by decide +kernel)) (fun _ h9 => h9) rfl dX11_held_45 ?_
        refine lv_iload hx hb dX11_held_48 (lv_at hl 1 rfl) ?_
        refine lv_iload hx hb dX11_held_50 (lv_at hl 0 rfl) ?_
        refine pvi (C := RX4) (As := [.int 0, .int x5]) (rest := [.int 0]) (wc := [e36 k a]) ⟨hx, hb, hml, hown, hts⟩ (c_X4_askedInVain l D k a 0 x5) (cwV 2 hts gX11_held_X4_askedInVain rfl rfl rfl (by decide +kernel) ⟨Nat.le_of_ble_eq_true rfl, Nat.le_of_ble_eq_true rfl⟩) hP hK [2] rfl 2 rfl rfl rfl rfl hl.1 rfl (Nat.le_of_ble_eq_true rfl) dX11_held_52 ⟨Nat.le_of_ble_eq_true rfl, Nat.le_of_ble_eq_true rfl⟩ (fun r24 hr24 => ?_)
        obtain rfl := hr24
        refine lv_goto (tgt := 72) hx hb dX11_held_55 (by decide) ?_
        refine lv_iadd hx hb dX11_held_72 ?_
        refine lv_topi (fun x25 ex25 => ?_)
        obtain rfl : x25 = 0 := ex25.trans (by decide)
        refine lv_istore_n (lv' := [(3, .int 0), (5, .int x5), (4, .int 0), (0, .ref (a 0)), (1, .int p1), (2, .int p2)]) hx hb dX11_held_73 rfl hl (by decide) rfl (fun ls hl => ?_)
        refine lv_iinc (v := 1) (lv' := [(4, .int 1), (3, .int 0), (5, .int x5), (0, .ref (a 0)), (1, .int p1), (2, .int p2)]) hx hb dX11_held_74 hl (k := 2) rfl (by decide) (by decide) rfl (fun ls hl => ?_)
        refine lv_goto (tgt := 19) hx hb dX11_held_77 (by decide) ?_
        refine lv_iload hx hb dX11_held_19 (lv_at hl 0 rfl) ?_
        refine lv_iconst (v := 4) hx hb dX11_held_21 (by decide) ?_
        refine lv_icmp_ge (tgt := 80) hx hb dX11_held_22 (by decide) (fun h => absurd h (by decide)) (fun _ => ?_)
        refine lv_iload_n hx hb dX11_held_25 rfl (lv_at hl 4 rfl) ?_
        refine lv_iconst (v := 4) hx hb dX11_held_26 (by decide) ?_
        refine lv_iload hx hb dX11_held_27 (lv_at hl 0 rfl) ?_
        refine lv_imul hx hb dX11_held_29 ?_
        refine lv_topi (fun x26 ex26 => ?_)
        obtain rfl : x26 = 4 := ex26.trans (by decide)
        refine lv_ishr hx hb dX11_held_30 ?_
        refine lv_topi (fun x27 ex27 => ?_)
        refine lv_bipush (v := 15) hx hb dX11_held_31 (by decide) ?_
        refine lv_iand hx hb dX11_held_33 ?_
        refine lv_topi (fun x28 ex28 => ?_)
        refine lv_istore (lv' := [(5, .int x28), (4, .int 1), (3, .int 0), (0, .ref (a 0)), (1, .int p1), (2, .int p2)]) hx hb dX11_held_34 hl (by decide) rfl (fun ls hl => ?_)
        refine lv_iload_n hx hb dX11_held_36 rfl (lv_at hl 2 rfl) ?_
        refine lv_iload_n hx hb dX11_held_37 rfl (lv_at hl 5 rfl) ?_
        refine lv_if_eq (tgt := 58) hx hb dX11_held_38 (by decide) (fun h => absurd h (c6)) (fun _ => ?_)
        refine lv_aload_n hx hb dX11_held_41 rfl (lv_at hl 3 rfl) ?_
        refine va_get (D := D) (ci := 11) (v := .ref (a 26)) (C := RX11) (T := TX11) (N := 11) hx hb hts i_X11 hown hK hP 0 rfl rfl 8 (by decide) (hts (.fieldLink RX11 62 "BellowsRow" "now" "LBellowsRow$Works;") (by decide +kernel)) (fun _ h9 => h9) rfl dX11_held_42 ?_
        refine va_get (D := D) (ci := 10) (v := .ref (a 36)) (C := RX10) (T := TX10) (N := 12) hx hb hts i_X10 hown hK hP 1 rfl rfl 2 (by decide) (hts (.fieldLink RX11 274 "BellowsRow$Works" "people" "LBellowsRow$People;") (by decide +kernel)) (fun _ h9 => h9) rfl dX11_held_45 ?_
        refine lv_iload hx hb dX11_held_48 (lv_at hl 1 rfl) ?_
        refine lv_iload hx hb dX11_held_50 (lv_at hl 0 rfl) ?_
        refine pvi (C := RX4) (As := [.int 1, .int x28]) (rest := [.int 0]) (wc := [e36 k a]) ⟨hx, hb, hml, hown, hts⟩ (c_X4_askedInVain l D k a 1 x28) (cwV 2 hts gX11_held_X4_askedInVain rfl rfl rfl (by decide +kernel) ⟨Nat.le_of_ble_eq_true rfl, Nat.le_of_ble_eq_true rfl⟩) hP hK [2] rfl 2 rfl rfl rfl rfl hl.1 rfl (Nat.le_of_ble_eq_true rfl) dX11_held_52 ⟨Nat.le_of_ble_eq_true rfl, Nat.le_of_ble_eq_true rfl⟩ (fun r29 hr29 => ?_)
        obtain rfl := hr29
        refine lv_goto (tgt := 72) hx hb dX11_held_55 (by decide) ?_
        refine lv_iadd hx hb dX11_held_72 ?_
        refine lv_topi (fun x30 ex30 => ?_)
        obtain rfl : x30 = 0 := ex30.trans (by decide)
        refine lv_istore_n (lv' := [(3, .int 0), (5, .int x28), (4, .int 1), (0, .ref (a 0)), (1, .int p1), (2, .int p2)]) hx hb dX11_held_73 rfl hl (by decide) rfl (fun ls hl => ?_)
        refine lv_iinc (v := 2) (lv' := [(4, .int 2), (3, .int 0), (5, .int x28), (0, .ref (a 0)), (1, .int p1), (2, .int p2)]) hx hb dX11_held_74 hl (k := 2) rfl (by decide) (by decide) rfl (fun ls hl => ?_)
        refine lv_goto (tgt := 19) hx hb dX11_held_77 (by decide) ?_
        refine lv_iload hx hb dX11_held_19 (lv_at hl 0 rfl) ?_
        refine lv_iconst (v := 4) hx hb dX11_held_21 (by decide) ?_
        refine lv_icmp_ge (tgt := 80) hx hb dX11_held_22 (by decide) (fun h => absurd h (by decide)) (fun _ => ?_)
        refine lv_iload_n hx hb dX11_held_25 rfl (lv_at hl 4 rfl) ?_
        refine lv_iconst (v := 4) hx hb dX11_held_26 (by decide) ?_
        refine lv_iload hx hb dX11_held_27 (lv_at hl 0 rfl) ?_
        refine lv_imul hx hb dX11_held_29 ?_
        refine lv_topi (fun x31 ex31 => ?_)
        obtain rfl : x31 = 8 := ex31.trans (by decide)
        refine lv_ishr hx hb dX11_held_30 ?_
        refine lv_topi (fun x32 ex32 => ?_)
        refine lv_bipush (v := 15) hx hb dX11_held_31 (by decide) ?_
        refine lv_iand hx hb dX11_held_33 ?_
        refine lv_topi (fun x33 ex33 => ?_)
        refine lv_istore (lv' := [(5, .int x33), (4, .int 2), (3, .int 0), (0, .ref (a 0)), (1, .int p1), (2, .int p2)]) hx hb dX11_held_34 hl (by decide) rfl (fun ls hl => ?_)
        refine lv_iload_n hx hb dX11_held_36 rfl (lv_at hl 2 rfl) ?_
        refine lv_iload_n hx hb dX11_held_37 rfl (lv_at hl 5 rfl) ?_
        refine lv_if_eq (tgt := 58) hx hb dX11_held_38 (by decide) (fun h => absurd h (c6)) (fun _ => ?_)
        refine lv_aload_n hx hb dX11_held_41 rfl (lv_at hl 3 rfl) ?_
        refine va_get (D := D) (ci := 11) (v := .ref (a 26)) (C := RX11) (T := TX11) (N := 11) hx hb hts i_X11 hown hK hP 0 rfl rfl 8 (by decide) (hts (.fieldLink RX11 62 "BellowsRow" "now" "LBellowsRow$Works;") (by decide +kernel)) (fun _ h9 => h9) rfl dX11_held_42 ?_
        refine va_get (D := D) (ci := 10) (v := .ref (a 36)) (C := RX10) (T := TX10) (N := 12) hx hb hts i_X10 hown hK hP 1 rfl rfl 2 (by decide) (hts (.fieldLink RX11 274 "BellowsRow$Works" "people" "LBellowsRow$People;") (by decide +kernel)) (fun _ h9 => h9) rfl dX11_held_45 ?_
        refine lv_iload hx hb dX11_held_48 (lv_at hl 1 rfl) ?_
        refine lv_iload hx hb dX11_held_50 (lv_at hl 0 rfl) ?_
        refine pvi (C := RX4) (As := [.int 2, .int x33]) (rest := [.int 0]) (wc := [e36 k a]) ⟨hx, hb, hml, hown, hts⟩ (c_X4_askedInVain l D k a 2 x33) (cwV 2 hts gX11_held_X4_askedInVain rfl rfl rfl (by decide +kernel) ⟨Nat.le_of_ble_eq_true rfl, Nat.le_of_ble_eq_true rfl⟩) hP hK [2] rfl 2 rfl rfl rfl rfl hl.1 rfl (Nat.le_of_ble_eq_true rfl) dX11_held_52 ⟨Nat.le_of_ble_eq_true rfl, Nat.le_of_ble_eq_true rfl⟩ (fun r34 hr34 => ?_)
        obtain rfl := hr34
        refine lv_goto (tgt := 72) hx hb dX11_held_55 (by decide) ?_
        refine lv_iadd hx hb dX11_held_72 ?_
        refine lv_topi (fun x35 ex35 => ?_)
        obtain rfl : x35 = 0 := ex35.trans (by decide)
        refine lv_istore_n (lv' := [(3, .int 0), (5, .int x33), (4, .int 2), (0, .ref (a 0)), (1, .int p1), (2, .int p2)]) hx hb dX11_held_73 rfl hl (by decide) rfl (fun ls hl => ?_)
        refine lv_iinc (v := 3) (lv' := [(4, .int 3), (3, .int 0), (5, .int x33), (0, .ref (a 0)), (1, .int p1), (2, .int p2)]) hx hb dX11_held_74 hl (k := 2) rfl (by decide) (by decide) rfl (fun ls hl => ?_)
        refine lv_goto (tgt := 19) hx hb dX11_held_77 (by decide) ?_
        refine lv_iload hx hb dX11_held_19 (lv_at hl 0 rfl) ?_
        refine lv_iconst (v := 4) hx hb dX11_held_21 (by decide) ?_
        refine lv_icmp_ge (tgt := 80) hx hb dX11_held_22 (by decide) (fun h => absurd h (by decide)) (fun _ => ?_)
        refine lv_iload_n hx hb dX11_held_25 rfl (lv_at hl 4 rfl) ?_
        refine lv_iconst (v := 4) hx hb dX11_held_26 (by decide) ?_
        refine lv_iload hx hb dX11_held_27 (lv_at hl 0 rfl) ?_
        refine lv_imul hx hb dX11_held_29 ?_
        refine lv_topi (fun x36 ex36 => ?_)
        obtain rfl : x36 = 12 := ex36.trans (by decide)
        refine lv_ishr hx hb dX11_held_30 ?_
        refine lv_topi (fun x37 ex37 => ?_)
        refine lv_bipush (v := 15) hx hb dX11_held_31 (by decide) ?_
        refine lv_iand hx hb dX11_held_33 ?_
        refine lv_topi (fun x38 ex38 => ?_)
        refine lv_istore (lv' := [(5, .int x38), (4, .int 3), (3, .int 0), (0, .ref (a 0)), (1, .int p1), (2, .int p2)]) hx hb dX11_held_34 hl (by decide) rfl (fun ls hl => ?_)
        refine lv_iload_n hx hb dX11_held_36 rfl (lv_at hl 2 rfl) ?_
        refine lv_iload_n hx hb dX11_held_37 rfl (lv_at hl 5 rfl) ?_
        refine lv_if_eq (tgt := 58) hx hb dX11_held_38 (by decide) (fun h => absurd h (c6)) (fun _ => ?_)
        refine lv_aload_n hx hb dX11_held_41 rfl (lv_at hl 3 rfl) ?_
        refine va_get (D := D) (ci := 11) (v := .ref (a 26)) (C := RX11) (T := TX11) (N := 11) hx hb hts i_X11 hown hK hP 0 rfl rfl 8 (by decide) (hts (.fieldLink RX11 62 "BellowsRow" "now" "LBellowsRow$Works;") (by decide +kernel)) (fun _ h9 => h9) rfl dX11_held_42 ?_
        refine va_get (D := D) (ci := 10) (v := .ref (a 36)) (C := RX10) (T := TX10) (N := 12) hx hb hts i_X10 hown hK hP 1 rfl rfl 2 (by decide) (hts (.fieldLink RX11 274 "BellowsRow$Works" "people" "LBellowsRow$People;") (by decide +kernel)) (fun _ h9 => h9) rfl dX11_held_45 ?_
        refine lv_iload hx hb dX11_held_48 (lv_at hl 1 rfl) ?_
        refine lv_iload hx hb dX11_held_50 (lv_at hl 0 rfl) ?_
        refine pvi (C := RX4) (As := [.int 3, .int x38]) (rest := [.int 0]) (wc := [e36 k a]) ⟨hx, hb, hml, hown, hts⟩ (c_X4_askedInVain l D k a 3 x38) (cwV 2 hts gX11_held_X4_askedInVain rfl rfl rfl (by decide +kernel) ⟨Nat.le_of_ble_eq_true rfl, Nat.le_of_ble_eq_true rfl⟩) hP hK [2] rfl 2 rfl rfl rfl rfl hl.1 rfl (Nat.le_of_ble_eq_true rfl) dX11_held_52 ⟨Nat.le_of_ble_eq_true rfl, Nat.le_of_ble_eq_true rfl⟩ (fun r39 hr39 => ?_)
        obtain rfl := hr39
        refine lv_goto (tgt := 72) hx hb dX11_held_55 (by decide) ?_
        refine lv_iadd hx hb dX11_held_72 ?_
        refine lv_topi (fun x40 ex40 => ?_)
        obtain rfl : x40 = 0 := ex40.trans (by decide)
        refine lv_istore_n (lv' := [(3, .int 0), (5, .int x38), (4, .int 3), (0, .ref (a 0)), (1, .int p1), (2, .int p2)]) hx hb dX11_held_73 rfl hl (by decide) rfl (fun ls hl => ?_)
        refine lv_iinc (v := 4) (lv' := [(4, .int 4), (3, .int 0), (5, .int x38), (0, .ref (a 0)), (1, .int p1), (2, .int p2)]) hx hb dX11_held_74 hl (k := 2) rfl (by decide) (by decide) rfl (fun ls hl => ?_)
        refine lv_goto (tgt := 19) hx hb dX11_held_77 (by decide) ?_
        refine lv_iload hx hb dX11_held_19 (lv_at hl 0 rfl) ?_
        refine lv_iconst (v := 4) hx hb dX11_held_21 (by decide) ?_
        refine lv_icmp_ge (tgt := 80) hx hb dX11_held_22 (by decide) (fun _ => ?_) (fun h => absurd (by decide) h)
        refine lv_iload_n hx hb dX11_held_80 rfl (lv_at hl 1 rfl) ?_
        exact W.iret (v := 0) hx hb hr (fun t ht hW => ⟨0, rfl, Or.inl ⟨by (try simp only [i_lt, i_le, i_eq, Int32.toInt_toInt64, Int32.reduceToInt, Int64.reduceToInt] at c1 c2 ex4 ex5 c6 ex27 ex28 ex32 ex33 ex37 ex38 ⊢); omega, rfl⟩, ht⟩) (fun q h => by cases h) dX11_held_81
    · refine lv_bipush (v := (-2)) hx hb dX11_held_11 (by decide) ?_
      exact W.iret (v := (-2)) hx hb hr (fun t ht hW => ⟨(-2), rfl, Or.inr ⟨by (try simp only [i_lt, i_le, i_eq, Int32.toInt_toInt64, Int32.reduceToInt, Int64.reduceToInt] at c1 c2 ⊢); omega, rfl⟩, ht⟩) (fun q h => by cases h) dX11_held_13
set_option maxHeartbeats 4000000 in
set_option maxRecDepth 100000 in
theorem c_X11_count (l : Launch) (D : va_G) (k : Nat → ClassId) (a : Nat → Nat) (p1 : Int32) : Met l yX11_count wsX11_count ({ frames := 1, cells := 0, slots := 0, locals := 25 }) (PreR D k [e0 k a, e26 k a, e27 k a, e31 k a, e36 k a, e1 k a, e4 k a, e5 k a, e6 k a, e7 k a, e8 k a] [.ref (a 0), .int p1]) (vp_Si (fun r => ((0 ≤ p1.toInt ∧ p1.toInt ≤ 9) ∧ r = 0) ∨ (¬ (0 ≤ p1.toInt ∧ p1.toInt ≤ 9) ∧ r = (-1)))) 0 0 (fun _ => False) := by
  refine Met.ofW (cc := cX11_count) (maxL := 2) (ret := (some .int)) (by decide) rfl ?_
  intro p e s m args below meth c s₁ B hml hv
  obtain ⟨rfl, hP, hK⟩ := hv
  have hx := B.exec
  have hb := B.bytes
  have hr := B.returns
  have hts := atoms_spec (ws := wsX11_count) B.pre
  have hown : s.vm.findClass RX11 = some m.cls := findClass_of_methodNamed B.named
  have hlocks := B.notSynchronized
  have i_X1 : ∀ w ∈ wsX10, w ∈ wsX11_count := by decide +kernel
  have i_X10 : ∀ w ∈ wsX100, w ∈ wsX11_count := by decide +kernel
  have i_X11 : ∀ w ∈ wsX110, w ∈ wsX11_count := by decide +kernel
  have i_X4 : ∀ w ∈ wsX40, w ∈ wsX11_count := by decide +kernel
  have i_X6 : ∀ w ∈ wsX60, w ∈ wsX11_count := by decide +kernel
  have i_X9 : ∀ w ∈ wsX90, w ∈ wsX11_count := by decide +kernel
  have hl := lv_entry ([.ref (a 0), .int p1]) (n := 2) (Nat.le_of_ble_eq_true rfl)
  rw [lg_entry_eq]
  generalize (lg_sl ([.ref (a 0), .int p1]) ++ List.replicate (2 - (lg_sl ([.ref (a 0), .int p1])).length) Slot.unset).toArray = ls at hl ⊢
  have hl : lv_has ls 2 [(0, .ref (a 0)), (1, .int p1)] := hl
  refine lv_iload_n hx hb dX11_count_0 rfl (lv_at hl 1 rfl) ?_
  by_cases k1 : p1 = 0
  · refine lv_tableIn (tgt := 56) hx hb dX11_count_1 (by rw [k1]; decide) (by rw [k1]; decide) (by rw [k1]; rfl) (by decide) ?_
    refine lv_aload_n hx hb dX11_count_56 rfl (lv_at hl 0 rfl) ?_
    refine va_get (D := D) (ci := 11) (v := .ref (a 26)) (C := RX11) (T := TX11) (N := 11) hx hb hts i_X11 hown hK hP 0 rfl rfl 8 (by decide) (hts (.fieldLink RX11 62 "BellowsRow" "now" "LBellowsRow$Works;") (by decide +kernel)) (fun _ h9 => h9) rfl dX11_count_57 ?_
    refine va_get (D := D) (ci := 10) (v := .int 0) (C := RX10) (T := TX10) (N := 12) hx hb hts i_X10 hown hK hP 1 rfl rfl 4 (by decide) (hts (.fieldLink RX11 310 "BellowsRow$Works" "potCount" "I") (by decide +kernel)) (fun _ h9 => h9) rfl dX11_count_60 ?_
    exact W.iret (v := 0) hx hb hr (fun t ht hW => ⟨0, rfl, Or.inl ⟨by (try simp only [i_lt, i_le, i_eq, Int32.toInt_toInt64, Int32.reduceToInt, Int64.reduceToInt] at k1 ⊢); omega, rfl⟩, ht⟩) (fun q h => by cases h) dX11_count_63
  by_cases k2 : p1 = 1
  · refine lv_tableIn (tgt := 64) hx hb dX11_count_1 (by rw [k2]; decide) (by rw [k2]; decide) (by rw [k2]; rfl) (by decide) ?_
    refine lv_aload_n hx hb dX11_count_64 rfl (lv_at hl 0 rfl) ?_
    refine va_get (D := D) (ci := 11) (v := .ref (a 26)) (C := RX11) (T := TX11) (N := 11) hx hb hts i_X11 hown hK hP 0 rfl rfl 8 (by decide) (hts (.fieldLink RX11 62 "BellowsRow" "now" "LBellowsRow$Works;") (by decide +kernel)) (fun _ h9 => h9) rfl dX11_count_65 ?_
    refine va_get (D := D) (ci := 10) (v := .int 0) (C := RX10) (T := TX10) (N := 12) hx hb hts i_X10 hown hK hP 1 rfl rfl 5 (by decide) (hts (.fieldLink RX11 222 "BellowsRow$Works" "pipeCount" "I") (by decide +kernel)) (fun _ h9 => h9) rfl dX11_count_68 ?_
    exact W.iret (v := 0) hx hb hr (fun t ht hW => ⟨0, rfl, Or.inl ⟨by (try simp only [i_lt, i_le, i_eq, Int32.toInt_toInt64, Int32.reduceToInt, Int64.reduceToInt] at k2 ⊢); omega, rfl⟩, ht⟩) (fun q h => by cases h) dX11_count_71
  by_cases k3 : p1 = 2
  · refine lv_tableIn (tgt := 72) hx hb dX11_count_1 (by rw [k3]; decide) (by rw [k3]; decide) (by rw [k3]; rfl) (by decide) ?_
    refine lv_aload_n hx hb dX11_count_72 rfl (lv_at hl 0 rfl) ?_
    refine va_get (D := D) (ci := 11) (v := .ref (a 26)) (C := RX11) (T := TX11) (N := 11) hx hb hts i_X11 hown hK hP 0 rfl rfl 8 (by decide) (hts (.fieldLink RX11 62 "BellowsRow" "now" "LBellowsRow$Works;") (by decide +kernel)) (fun _ h9 => h9) rfl dX11_count_73 ?_
    refine va_get (D := D) (ci := 10) (v := .ref (a 27)) (C := RX10) (T := TX10) (N := 12) hx hb hts i_X10 hown hK hP 1 rfl rfl 0 (by decide) (hts (.fieldLink RX11 163 "BellowsRow$Works" "hours" "LBellowsRow$Hours;") (by decide +kernel)) (fun _ h9 => h9) rfl dX11_count_76 ?_
    refine va_get (D := D) (ci := 1) (v := .int 0) (C := RX1) (T := TX1) (N := 5) hx hb hts i_X1 hown hK hP 2 rfl rfl 0 (by decide) (hts (.fieldLink RX11 259 "BellowsRow$Hours" "total" "I") (by decide +kernel)) (fun _ h9 => h9) rfl dX11_count_79 ?_
    exact W.iret (v := 0) hx hb hr (fun t ht hW => ⟨0, rfl, Or.inl ⟨by (try simp only [i_lt, i_le, i_eq, Int32.toInt_toInt64, Int32.reduceToInt, Int64.reduceToInt] at k3 ⊢); omega, rfl⟩, ht⟩) (fun q h => by cases h) dX11_count_82
  by_cases k4 : p1 = 3
  · refine lv_tableIn (tgt := 83) hx hb dX11_count_1 (by rw [k4]; decide) (by rw [k4]; decide) (by rw [k4]; rfl) (by decide) ?_
    refine lv_aload_n hx hb dX11_count_83 rfl (lv_at hl 0 rfl) ?_
    refine va_get (D := D) (ci := 11) (v := .ref (a 26)) (C := RX11) (T := TX11) (N := 11) hx hb hts i_X11 hown hK hP 0 rfl rfl 8 (by decide) (hts (.fieldLink RX11 62 "BellowsRow" "now" "LBellowsRow$Works;") (by decide +kernel)) (fun _ h9 => h9) rfl dX11_count_84 ?_
    refine va_get (D := D) (ci := 10) (v := .ref (a 31)) (C := RX10) (T := TX10) (N := 12) hx hb hts i_X10 hown hK hP 1 rfl rfl 1 (by decide) (hts (.fieldLink RX11 246 "BellowsRow$Works" "rooms" "LBellowsRow$Rooms;") (by decide +kernel)) (fun _ h9 => h9) rfl dX11_count_87 ?_
    refine va_get (D := D) (ci := 6) (v := .int 0) (C := RX6) (T := TX6) (N := 6) hx hb hts i_X6 hown hK hP 3 rfl rfl 0 (by decide) (hts (.fieldLink RX11 313 "BellowsRow$Rooms" "count" "I") (by decide +kernel)) (fun _ h9 => h9) rfl dX11_count_90 ?_
    exact W.iret (v := 0) hx hb hr (fun t ht hW => ⟨0, rfl, Or.inl ⟨by (try simp only [i_lt, i_le, i_eq, Int32.toInt_toInt64, Int32.reduceToInt, Int64.reduceToInt] at k4 ⊢); omega, rfl⟩, ht⟩) (fun q h => by cases h) dX11_count_93
  by_cases k5 : p1 = 4
  · refine lv_tableIn (tgt := 94) hx hb dX11_count_1 (by rw [k5]; decide) (by rw [k5]; decide) (by rw [k5]; rfl) (by decide) ?_
    refine lv_aload_n hx hb dX11_count_94 rfl (lv_at hl 0 rfl) ?_
    refine va_get (D := D) (ci := 11) (v := .ref (a 26)) (C := RX11) (T := TX11) (N := 11) hx hb hts i_X11 hown hK hP 0 rfl rfl 8 (by decide) (hts (.fieldLink RX11 62 "BellowsRow" "now" "LBellowsRow$Works;") (by decide +kernel)) (fun _ h9 => h9) rfl dX11_count_95 ?_
    refine va_get (D := D) (ci := 10) (v := .ref (a 36)) (C := RX10) (T := TX10) (N := 12) hx hb hts i_X10 hown hK hP 1 rfl rfl 2 (by decide) (hts (.fieldLink RX11 274 "BellowsRow$Works" "people" "LBellowsRow$People;") (by decide +kernel)) (fun _ h9 => h9) rfl dX11_count_98 ?_
    refine va_get (D := D) (ci := 4) (v := .int 0) (C := RX4) (T := TX4) (N := 11) hx hb hts i_X4 hown hK hP 4 rfl rfl 0 (by decide) (hts (.fieldLink RX11 316 "BellowsRow$People" "persons" "I") (by decide +kernel)) (fun _ h9 => h9) rfl dX11_count_101 ?_
    exact W.iret (v := 0) hx hb hr (fun t ht hW => ⟨0, rfl, Or.inl ⟨by (try simp only [i_lt, i_le, i_eq, Int32.toInt_toInt64, Int32.reduceToInt, Int64.reduceToInt] at k5 ⊢); omega, rfl⟩, ht⟩) (fun q h => by cases h) dX11_count_104
  by_cases k6 : p1 = 5
  · refine lv_tableIn (tgt := 105) hx hb dX11_count_1 (by rw [k6]; decide) (by rw [k6]; decide) (by rw [k6]; rfl) (by decide) ?_
    refine lv_aload_n hx hb dX11_count_105 rfl (lv_at hl 0 rfl) ?_
    refine va_get (D := D) (ci := 11) (v := .ref (a 26)) (C := RX11) (T := TX11) (N := 11) hx hb hts i_X11 hown hK hP 0 rfl rfl 8 (by decide) (hts (.fieldLink RX11 62 "BellowsRow" "now" "LBellowsRow$Works;") (by decide +kernel)) (fun _ h9 => h9) rfl dX11_count_106 ?_
    refine va_get (D := D) (ci := 10) (v := .ref (a 36)) (C := RX10) (T := TX10) (N := 12) hx hb hts i_X10 hown hK hP 1 rfl rfl 2 (by decide) (hts (.fieldLink RX11 274 "BellowsRow$Works" "people" "LBellowsRow$People;") (by decide +kernel)) (fun _ h9 => h9) rfl dX11_count_109 ?_
    refine va_get (D := D) (ci := 4) (v := .int 0) (C := RX4) (T := TX4) (N := 11) hx hb hts i_X4 hown hK hP 4 rfl rfl 1 (by decide) (hts (.fieldLink RX11 319 "BellowsRow$People" "changes" "I") (by decide +kernel)) (fun _ h9 => h9) rfl dX11_count_112 ?_
    exact W.iret (v := 0) hx hb hr (fun t ht hW => ⟨0, rfl, Or.inl ⟨by (try simp only [i_lt, i_le, i_eq, Int32.toInt_toInt64, Int32.reduceToInt, Int64.reduceToInt] at k6 ⊢); omega, rfl⟩, ht⟩) (fun q h => by cases h) dX11_count_115
  by_cases k7 : p1 = 6
  · refine lv_tableIn (tgt := 116) hx hb dX11_count_1 (by rw [k7]; decide) (by rw [k7]; decide) (by rw [k7]; rfl) (by decide) ?_
    refine lv_aload_n hx hb dX11_count_116 rfl (lv_at hl 0 rfl) ?_
    refine va_get (D := D) (ci := 11) (v := .ref (a 26)) (C := RX11) (T := TX11) (N := 11) hx hb hts i_X11 hown hK hP 0 rfl rfl 8 (by decide) (hts (.fieldLink RX11 62 "BellowsRow" "now" "LBellowsRow$Works;") (by decide +kernel)) (fun _ h9 => h9) rfl dX11_count_117 ?_
    refine va_get (D := D) (ci := 10) (v := .ref (a 36)) (C := RX10) (T := TX10) (N := 12) hx hb hts i_X10 hown hK hP 1 rfl rfl 2 (by decide) (hts (.fieldLink RX11 274 "BellowsRow$Works" "people" "LBellowsRow$People;") (by decide +kernel)) (fun _ h9 => h9) rfl dX11_count_120 ?_
    refine va_get (D := D) (ci := 4) (v := .int 0) (C := RX4) (T := TX4) (N := 11) hx hb hts i_X4 hown hK hP 4 rfl rfl 2 (by decide) (hts (.fieldLink RX11 322 "BellowsRow$People" "asks" "I") (by decide +kernel)) (fun _ h9 => h9) rfl dX11_count_123 ?_
    exact W.iret (v := 0) hx hb hr (fun t ht hW => ⟨0, rfl, Or.inl ⟨by (try simp only [i_lt, i_le, i_eq, Int32.toInt_toInt64, Int32.reduceToInt, Int64.reduceToInt] at k7 ⊢); omega, rfl⟩, ht⟩) (fun q h => by cases h) dX11_count_126
  by_cases k8 : p1 = 7
  · refine lv_tableIn (tgt := 127) hx hb dX11_count_1 (by rw [k8]; decide) (by rw [k8]; decide) (by rw [k8]; rfl) (by decide) ?_
    refine lv_aload_n hx hb dX11_count_127 rfl (lv_at hl 0 rfl) ?_
    refine va_get (D := D) (ci := 11) (v := .ref (a 26)) (C := RX11) (T := TX11) (N := 11) hx hb hts i_X11 hown hK hP 0 rfl rfl 8 (by decide) (hts (.fieldLink RX11 62 "BellowsRow" "now" "LBellowsRow$Works;") (by decide +kernel)) (fun _ h9 => h9) rfl dX11_count_128 ?_
    refine va_get (D := D) (ci := 10) (v := .int 0) (C := RX10) (T := TX10) (N := 12) hx hb hts i_X10 hown hK hP 1 rfl rfl 3 (by decide) (hts (.fieldLink RX11 99 "BellowsRow$Works" "lines" "I") (by decide +kernel)) (fun _ h9 => h9) rfl dX11_count_131 ?_
    exact W.iret (v := 0) hx hb hr (fun t ht hW => ⟨0, rfl, Or.inl ⟨by (try simp only [i_lt, i_le, i_eq, Int32.toInt_toInt64, Int32.reduceToInt, Int64.reduceToInt] at k8 ⊢); omega, rfl⟩, ht⟩) (fun q h => by cases h) dX11_count_134
  by_cases k9 : p1 = 8
  · refine lv_tableIn (tgt := 135) hx hb dX11_count_1 (by rw [k9]; decide) (by rw [k9]; decide) (by rw [k9]; rfl) (by decide) ?_
    refine lv_aload_n hx hb dX11_count_135 rfl (lv_at hl 0 rfl) ?_
    refine va_get (D := D) (ci := 11) (v := .ref (a 1)) (C := RX11) (T := TX11) (N := 11) hx hb hts i_X11 hown hK hP 0 rfl rfl 0 (by decide) (hts (.fieldLink RX11 10 "BellowsRow" "tape" "LBellowsRow$Tape;") (by decide +kernel)) (fun _ h9 => h9) rfl dX11_count_136 ?_
    refine va_get (D := D) (ci := 9) (v := .int 0) (C := RX9) (T := TX9) (N := 8) hx hb hts i_X9 hown hK hP 5 rfl rfl 1 (by decide) (hts (.fieldLink RX11 81 "BellowsRow$Tape" "size" "I") (by decide +kernel)) (fun _ h9 => h9) rfl dX11_count_139 ?_
    exact W.iret (v := 0) hx hb hr (fun t ht hW => ⟨0, rfl, Or.inl ⟨by (try simp only [i_lt, i_le, i_eq, Int32.toInt_toInt64, Int32.reduceToInt, Int64.reduceToInt] at k9 ⊢); omega, rfl⟩, ht⟩) (fun q h => by cases h) dX11_count_142
  by_cases k10 : p1 = 9
  · refine lv_tableIn (tgt := 143) hx hb dX11_count_1 (by rw [k10]; decide) (by rw [k10]; decide) (by rw [k10]; rfl) (by decide) ?_
    refine lv_aload_n hx hb dX11_count_143 rfl (lv_at hl 0 rfl) ?_
    refine pvi (C := RX11) (As := []) (rest := []) (wc := [e0 k a, e4 k a, e5 k a, e6 k a, e7 k a, e8 k a]) ⟨hx, hb, hml, hown, hts⟩ (c_X11_slotsWithRow l D k a ) (cwV 0 hts gX11_count_X11_slotsWithRow rfl rfl rfl (by decide +kernel) ⟨Nat.le_of_ble_eq_true rfl, Nat.le_of_ble_eq_true rfl⟩) hP hK [0, 6, 7, 8, 9, 10] rfl 0 rfl rfl rfl rfl hl.1 rfl (Nat.le_of_ble_eq_true rfl) dX11_count_144 ⟨Nat.le_of_ble_eq_true rfl, Nat.le_of_ble_eq_true rfl⟩ (fun r11 hr11 => ?_)
    obtain rfl := hr11
    exact W.iret (v := 0) hx hb hr (fun t ht hW => ⟨0, rfl, Or.inl ⟨by (try simp only [i_lt, i_le, i_eq, Int32.toInt_toInt64, Int32.reduceToInt, Int64.reduceToInt] at k10 ⊢); omega, rfl⟩, ht⟩) (fun q h => by cases h) dX11_count_147
  have zk1 : ¬ p1.toInt = 0 := fun z => k1 (Int32.toInt_inj.mp (z.trans (by decide)))
  have zk2 : ¬ p1.toInt = 1 := fun z => k2 (Int32.toInt_inj.mp (z.trans (by decide)))
  have zk3 : ¬ p1.toInt = 2 := fun z => k3 (Int32.toInt_inj.mp (z.trans (by decide)))
  have zk4 : ¬ p1.toInt = 3 := fun z => k4 (Int32.toInt_inj.mp (z.trans (by decide)))
  have zk5 : ¬ p1.toInt = 4 := fun z => k5 (Int32.toInt_inj.mp (z.trans (by decide)))
  have zk6 : ¬ p1.toInt = 5 := fun z => k6 (Int32.toInt_inj.mp (z.trans (by decide)))
  have zk7 : ¬ p1.toInt = 6 := fun z => k7 (Int32.toInt_inj.mp (z.trans (by decide)))
  have zk8 : ¬ p1.toInt = 7 := fun z => k8 (Int32.toInt_inj.mp (z.trans (by decide)))
  have zk9 : ¬ p1.toInt = 8 := fun z => k9 (Int32.toInt_inj.mp (z.trans (by decide)))
  have zk10 : ¬ p1.toInt = 9 := fun z => k10 (Int32.toInt_inj.mp (z.trans (by decide)))
  refine lv_tableOut (tgt := 148) hx hb dX11_count_1 (by omega) (by decide) ?_
  refine lv_iconst (v := (-1)) hx hb dX11_count_148 (by decide) ?_
  exact W.iret (v := (-1)) hx hb hr (fun t ht hW => ⟨(-1), rfl, Or.inr ⟨by (try simp only [i_lt, i_le, i_eq, Int32.toInt_toInt64, Int32.reduceToInt, Int64.reduceToInt] at k1 k2 k3 k4 k5 k6 k7 k8 k9 k10 ⊢); omega, rfl⟩, ht⟩) (fun q h => by cases h) dX11_count_149
set_option maxHeartbeats 4000000 in
set_option maxRecDepth 100000 in
theorem c_X11_judge (l : Launch) (D : va_G) (k : Nat → ClassId) (a : Nat → Nat) (p1 : Int32) : Met l yX11_judge wsX11_judge ({ frames := 1, cells := 0, slots := 0, locals := 21 }) (PreR D k [e0 k a, e4 k a, e5 k a, e6 k a, e7 k a, e8 k a] [.ref (a 0), .int p1]) (vp_Si (fun r => ((0 ≤ p1.toInt ∧ p1.toInt ≤ 3) ∧ r = (-6)) ∨ (¬ (0 ≤ p1.toInt ∧ p1.toInt ≤ 3) ∧ r = (-2)))) 0 0 (fun _ => False) := by
  refine Met.ofW (cc := cX11_judge) (maxL := 4) (ret := (some .int)) (by decide) rfl ?_
  intro p e s m args below meth c s₁ B hml hv
  obtain ⟨rfl, hP, hK⟩ := hv
  have hx := B.exec
  have hb := B.bytes
  have hr := B.returns
  have hts := atoms_spec (ws := wsX11_judge) B.pre
  have hown : s.vm.findClass RX11 = some m.cls := findClass_of_methodNamed B.named
  have hlocks := B.notSynchronized
  have i_X7 : ∀ w ∈ wsX70, w ∈ wsX11_judge := by decide +kernel
  have hl := lv_entry ([.ref (a 0), .int p1]) (n := 4) (Nat.le_of_ble_eq_true rfl)
  rw [lg_entry_eq]
  generalize (lg_sl ([.ref (a 0), .int p1]) ++ List.replicate (4 - (lg_sl ([.ref (a 0), .int p1])).length) Slot.unset).toArray = ls at hl ⊢
  have hl : lv_has ls 4 [(0, .ref (a 0)), (1, .int p1)] := hl
  refine lv_aload_n hx hb dX11_judge_0 rfl (lv_at hl 0 rfl) ?_
  refine lv_iload_n hx hb dX11_judge_1 rfl (lv_at hl 1 rfl) ?_
  refine pvq (C := RX11) (As := [.int p1]) (rest := []) (wc := [e0 k a, e4 k a]) ⟨hx, hb, hml, hown, hts⟩ (c_X11_slotAt l D k a p1) (cwV 1 hts gX11_judge_X11_slotAt rfl rfl rfl (by decide +kernel) ⟨Nat.le_of_ble_eq_true rfl, Nat.le_of_ble_eq_true rfl⟩) hP hK [0, 1] rfl 0 rfl rfl rfl rfl hl.1 rfl (Nat.le_of_ble_eq_true rfl) dX11_judge_2 ⟨Nat.le_of_ble_eq_true rfl, Nat.le_of_ble_eq_true rfl⟩ (fun r1 hr1 => ?_)
  rcases hr1 with ⟨g2, zw3, qw3, nw3, rfl, pw3⟩ | ⟨g2, rfl⟩
  · refine W.eq (g2 := F0 m 5 ls [.ref zw3]) rfl ?_
    refine lv_astore_n (lv' := [(2, .ref zw3), (0, .ref (a 0)), (1, .int p1)]) hx hb dX11_judge_5 rfl hl (by decide) rfl (fun ls hl => ?_)
    refine lv_aload_n hx hb dX11_judge_6 rfl (lv_at hl 0 rfl) ?_
    refine lv_ifnonnull (tgt := 13) hx hb dX11_judge_7 (by decide) ?_
    refine lv_aload_n hx hb dX11_judge_13 rfl (lv_at hl 0 rfl) ?_
    have hPR := hP.sub (ws' := [e5 k a, e6 k a, e7 k a, e8 k a]) [2, 3, 4, 5] rfl
    refine va_get (D := D) (ci := 7) (v := .int 0) (C := RX7) (T := TX7) (N := 4) hx hb hts i_X7 hown hK hPR qw3 pw3 rfl 0 (by decide) (hts (.fieldLink RX11 211 "BellowsRow$Row" "is" "Z") (by decide +kernel)) (fun _ h9 => h9) rfl dX11_judge_14 ?_
    refine lv_if_ne (tgt := 23) hx hb dX11_judge_17 (by decide) (fun h => absurd (by decide) h) (fun _ => ?_)
    refine lv_bipush (v := (-6)) hx hb dX11_judge_20 (by decide) ?_
    exact W.iret (v := (-6)) hx hb hr (fun t ht hW => ⟨(-6), rfl, Or.inl ⟨by (try simp only [i_lt, i_le, i_eq, Int32.toInt_toInt64, Int32.reduceToInt, Int64.reduceToInt] at g2 ⊢); omega, rfl⟩, ht⟩) (fun q h => by cases h) dX11_judge_22
  · refine W.eq (g2 := F0 m 5 ls [.null]) rfl ?_
    refine lv_astore_nN (lv' := [(2, .null), (0, .ref (a 0)), (1, .int p1)]) hx hb dX11_judge_5 rfl hl (by decide) rfl (fun ls hl => ?_)
    refine lv_aload_nN hx hb dX11_judge_6 rfl (lv_at hl 0 rfl) ?_
    refine lv_ifnonnullN hx hb dX11_judge_7 ?_
    refine lv_bipush (v := (-2)) hx hb dX11_judge_10 (by decide) ?_
    exact W.iret (v := (-2)) hx hb hr (fun t ht hW => ⟨(-2), rfl, Or.inr ⟨by (try simp only [i_lt, i_le, i_eq, Int32.toInt_toInt64, Int32.reduceToInt, Int64.reduceToInt] at g2 ⊢); omega, rfl⟩, ht⟩) (fun q h => by cases h) dX11_judge_12
set_option maxHeartbeats 4000000 in
set_option maxRecDepth 100000 in
theorem c_X11_other (l : Launch) (D : va_G) (k : Nat → ClassId) (a : Nat → Nat) (p1 : Int32) (p2 : Int32) : Met l yX11_other wsX11_other ({ frames := 2, cells := 0, slots := 0, locals := 43 }) (PreR D k [e0 k a, e26 k a, e4 k a] [.ref (a 0), .int p1, .int p2]) (vp_Si (fun r => r = (-2))) 0 0 (fun _ => False) := by
  refine Met.ofW (cc := cX11_other) (maxL := 4) (ret := (some .int)) (by decide) rfl ?_
  intro p e s m args below meth c s₁ B hml hv
  obtain ⟨rfl, hP, hK⟩ := hv
  have hx := B.exec
  have hb := B.bytes
  have hr := B.returns
  have hts := atoms_spec (ws := wsX11_other) B.pre
  have hown : s.vm.findClass RX11 = some m.cls := findClass_of_methodNamed B.named
  have hlocks := B.notSynchronized
  have hl := lv_entry ([.ref (a 0), .int p1, .int p2]) (n := 4) (Nat.le_of_ble_eq_true rfl)
  rw [lg_entry_eq]
  generalize (lg_sl ([.ref (a 0), .int p1, .int p2]) ++ List.replicate (4 - (lg_sl ([.ref (a 0), .int p1, .int p2])).length) Slot.unset).toArray = ls at hl ⊢
  have hl : lv_has ls 4 [(0, .ref (a 0)), (1, .int p1), (2, .int p2)] := hl
  refine lv_aload_n hx hb dX11_other_0 rfl (lv_at hl 0 rfl) ?_
  refine lv_iload_n hx hb dX11_other_1 rfl (lv_at hl 1 rfl) ?_
  refine pvq (C := RX11) (As := [.int p1]) (rest := []) (wc := [e0 k a, e4 k a]) ⟨hx, hb, hml, hown, hts⟩ (c_X11_slotAt l D k a p1) (cwV 1 hts gX11_other_X11_slotAt rfl rfl rfl (by decide +kernel) ⟨Nat.le_of_ble_eq_true rfl, Nat.le_of_ble_eq_true rfl⟩) hP hK [0, 2] rfl 0 rfl rfl rfl rfl hl.1 rfl (Nat.le_of_ble_eq_true rfl) dX11_other_2 ⟨Nat.le_of_ble_eq_true rfl, Nat.le_of_ble_eq_true rfl⟩ (fun r1 hr1 => ?_)
  rcases hr1 with ⟨g2, zw3, qw3, nw3, rfl, pw3⟩ | ⟨g2, rfl⟩
  · refine W.eq (g2 := F0 m 5 ls [.ref zw3]) rfl ?_
    refine lv_astore_n (lv' := [(3, .ref zw3), (0, .ref (a 0)), (1, .int p1), (2, .int p2)]) hx hb dX11_other_5 rfl hl (by decide) rfl (fun ls hl => ?_)
    refine lv_aload_n hx hb dX11_other_6 rfl (lv_at hl 0 rfl) ?_
    refine lv_ifnull hx hb dX11_other_7 ?_
    refine lv_aload_n hx hb dX11_other_10 rfl (lv_at hl 1 rfl) ?_
    refine lv_iload_n hx hb dX11_other_11 rfl (lv_at hl 3 rfl) ?_
    refine pvi (C := RX11) (As := [.int p2]) (rest := []) (wc := [e0 k a, e26 k a]) ⟨hx, hb, hml, hown, hts⟩ (c_X11_isStrained l D k a p2) (cwV 1 hts gX11_other_X11_isStrained rfl rfl rfl (by decide +kernel) ⟨Nat.le_of_ble_eq_true rfl, Nat.le_of_ble_eq_true rfl⟩) hP hK [0, 1] rfl 0 rfl rfl rfl rfl hl.1 rfl (Nat.le_of_ble_eq_true rfl) dX11_other_12 ⟨Nat.le_of_ble_eq_true rfl, Nat.le_of_ble_eq_true rfl⟩ (fun r4 hr4 => ?_)
    obtain rfl := hr4
    refine lv_if_ne (tgt := 21) hx hb dX11_other_15 (by decide) (fun h => absurd (by decide) h) (fun _ => ?_)
    refine lv_bipush (v := (-2)) hx hb dX11_other_18 (by decide) ?_
    exact W.iret (v := (-2)) hx hb hr (fun t ht hW => ⟨(-2), rfl, rfl, ht⟩) (fun q h => by cases h) dX11_other_20
  · refine W.eq (g2 := F0 m 5 ls [.null]) rfl ?_
    refine lv_astore_nN (lv' := [(3, .null), (0, .ref (a 0)), (1, .int p1), (2, .int p2)]) hx hb dX11_other_5 rfl hl (by decide) rfl (fun ls hl => ?_)
    refine lv_aload_nN hx hb dX11_other_6 rfl (lv_at hl 0 rfl) ?_
    refine lv_ifnullN (tgt := 18) hx hb dX11_other_7 (by decide) ?_
    refine lv_bipush (v := (-2)) hx hb dX11_other_18 (by decide) ?_
    exact W.iret (v := (-2)) hx hb hr (fun t ht hW => ⟨(-2), rfl, rfl, ht⟩) (fun q h => by cases h) dX11_other_20
set_option maxHeartbeats 4000000 in
set_option maxRecDepth 100000 in
theorem c_X11_write (l : Launch) (D : va_G) (k : Nat → ClassId) (a : Nat → Nat) (p1 p2 : Int32) (p3 : Int64) : Met l yX11_write wsX11_write ({ frames := 1, cells := 0, slots := 0, locals := 21 }) (PreR D k [e0 k a, e4 k a, e5 k a, e6 k a, e7 k a, e8 k a] [.ref (a 0), .int p1, .int p2, .long p3]) (vp_Si (fun r => ((0 ≤ p1.toInt ∧ p1.toInt ≤ 3) ∧ r = (-6)) ∨ (¬ (0 ≤ p1.toInt ∧ p1.toInt ≤ 3) ∧ r = (-2)))) 0 0 (fun _ => False) := by
  refine Met.ofW (cc := cX11_write) (maxL := 6) (ret := (some .int)) (by decide) rfl ?_
  intro p e s m args below meth c s₁ B hml hv
  obtain ⟨rfl, hP, hK⟩ := hv
  have hx := B.exec
  have hb := B.bytes
  have hr := B.returns
  have hts := atoms_spec (ws := wsX11_write) B.pre
  have hown : s.vm.findClass RX11 = some m.cls := findClass_of_methodNamed B.named
  have hlocks := B.notSynchronized
  have i_X7 : ∀ w ∈ wsX70, w ∈ wsX11_write := by decide +kernel
  have hl := lv_entry ([.ref (a 0), .int p1, .int p2, .long p3]) (n := 6) (Nat.le_of_ble_eq_true rfl)
  rw [lg_entry_eq]
  generalize (lg_sl ([.ref (a 0), .int p1, .int p2, .long p3]) ++ List.replicate (6 - (lg_sl ([.ref (a 0), .int p1, .int p2, .long p3])).length) Slot.unset).toArray = ls at hl ⊢
  have hl : lv_has ls 6 [(0, .ref (a 0)), (1, .int p1), (2, .int p2), (3, .long p3)] := hl
  refine lv_aload_n hx hb dX11_write_0 rfl (lv_at hl 0 rfl) ?_
  refine lv_iload_n hx hb dX11_write_1 rfl (lv_at hl 1 rfl) ?_
  refine pvq (C := RX11) (As := [.int p1]) (rest := []) (wc := [e0 k a, e4 k a]) ⟨hx, hb, hml, hown, hts⟩ (c_X11_slotAt l D k a p1) (cwV 1 hts gX11_write_X11_slotAt rfl rfl rfl (by decide +kernel) ⟨Nat.le_of_ble_eq_true rfl, Nat.le_of_ble_eq_true rfl⟩) hP hK [0, 1] rfl 0 rfl rfl rfl rfl hl.1 rfl (Nat.le_of_ble_eq_true rfl) dX11_write_2 ⟨Nat.le_of_ble_eq_true rfl, Nat.le_of_ble_eq_true rfl⟩ (fun r1 hr1 => ?_)
  rcases hr1 with ⟨g2, zw3, qw3, nw3, rfl, pw3⟩ | ⟨g2, rfl⟩
  · refine W.eq (g2 := F0 m 5 ls [.ref zw3]) rfl ?_
    refine lv_astore (lv' := [(5, .ref zw3), (0, .ref (a 0)), (1, .int p1), (2, .int p2), (3, .long p3)]) hx hb dX11_write_5 hl (by decide) rfl (fun ls hl => ?_)
    refine lv_aload hx hb dX11_write_7 (lv_at hl 0 rfl) ?_
    refine lv_ifnonnull (tgt := 15) hx hb dX11_write_9 (by decide) ?_
    refine lv_aload hx hb dX11_write_15 (lv_at hl 0 rfl) ?_
    have hPR := hP.sub (ws' := [e5 k a, e6 k a, e7 k a, e8 k a]) [2, 3, 4, 5] rfl
    refine va_get (D := D) (ci := 7) (v := .int 0) (C := RX7) (T := TX7) (N := 4) hx hb hts i_X7 hown hK hPR qw3 pw3 rfl 0 (by decide) (hts (.fieldLink RX11 211 "BellowsRow$Row" "is" "Z") (by decide +kernel)) (fun _ h9 => h9) rfl dX11_write_17 ?_
    refine lv_if_ne (tgt := 26) hx hb dX11_write_20 (by decide) (fun h => absurd (by decide) h) (fun _ => ?_)
    refine lv_bipush (v := (-6)) hx hb dX11_write_23 (by decide) ?_
    exact W.iret (v := (-6)) hx hb hr (fun t ht hW => ⟨(-6), rfl, Or.inl ⟨by (try simp only [i_lt, i_le, i_eq, Int32.toInt_toInt64, Int32.reduceToInt, Int64.reduceToInt] at g2 ⊢); omega, rfl⟩, ht⟩) (fun q h => by cases h) dX11_write_25
  · refine W.eq (g2 := F0 m 5 ls [.null]) rfl ?_
    refine lv_astoreN (lv' := [(5, .null), (0, .ref (a 0)), (1, .int p1), (2, .int p2), (3, .long p3)]) hx hb dX11_write_5 hl (by decide) rfl (fun ls hl => ?_)
    refine lv_aloadN hx hb dX11_write_7 (lv_at hl 0 rfl) ?_
    refine lv_ifnonnullN hx hb dX11_write_9 ?_
    refine lv_bipush (v := (-2)) hx hb dX11_write_12 (by decide) ?_
    exact W.iret (v := (-2)) hx hb hr (fun t ht hW => ⟨(-2), rfl, Or.inr ⟨by (try simp only [i_lt, i_le, i_eq, Int32.toInt_toInt64, Int32.reduceToInt, Int64.reduceToInt] at g2 ⊢); omega, rfl⟩, ht⟩) (fun q h => by cases h) dX11_write_14
set_option maxHeartbeats 4000000 in
set_option maxRecDepth 100000 in
theorem c_X11_paste (l : Launch) (D : va_G) (k : Nat → ClassId) (a : Nat → Nat) (p1 : Int32) (p2 : Int32) (p3 : Int32) (p4 : Int32) (p5 : Int32) : Met l yX11_paste wsX11_paste ({ frames := 1, cells := 0, slots := 0, locals := 21 }) (PreR D k [e0 k a, e4 k a, e5 k a, e6 k a, e7 k a, e8 k a] [.ref (a 0), .int p1, .int p2, .int p3, .int p4, .int p5]) (vp_Si (fun r => ((0 ≤ p1.toInt ∧ p1.toInt ≤ 3 ∧ 0 ≤ p3.toInt ∧ p3.toInt ≤ 3) ∧ r = (-6)) ∨ (¬ (0 ≤ p1.toInt ∧ p1.toInt ≤ 3 ∧ 0 ≤ p3.toInt ∧ p3.toInt ≤ 3) ∧ r = (-2)))) 0 0 (fun _ => False) := by
  refine Met.ofW (cc := cX11_paste) (maxL := 8) (ret := (some .int)) (by decide) rfl ?_
  intro p e s m args below meth c s₁ B hml hv
  obtain ⟨rfl, hP, hK⟩ := hv
  have hx := B.exec
  have hb := B.bytes
  have hr := B.returns
  have hts := atoms_spec (ws := wsX11_paste) B.pre
  have hown : s.vm.findClass RX11 = some m.cls := findClass_of_methodNamed B.named
  have hlocks := B.notSynchronized
  have i_X7 : ∀ w ∈ wsX70, w ∈ wsX11_paste := by decide +kernel
  have hl := lv_entry ([.ref (a 0), .int p1, .int p2, .int p3, .int p4, .int p5]) (n := 8) (Nat.le_of_ble_eq_true rfl)
  rw [lg_entry_eq]
  generalize (lg_sl ([.ref (a 0), .int p1, .int p2, .int p3, .int p4, .int p5]) ++ List.replicate (8 - (lg_sl ([.ref (a 0), .int p1, .int p2, .int p3, .int p4, .int p5])).length) Slot.unset).toArray = ls at hl ⊢
  have hl : lv_has ls 8 [(0, .ref (a 0)), (1, .int p1), (2, .int p2), (3, .int p3), (4, .int p4), (5, .int p5)] := hl
  refine lv_aload_n hx hb dX11_paste_0 rfl (lv_at hl 0 rfl) ?_
  refine lv_iload_n hx hb dX11_paste_1 rfl (lv_at hl 1 rfl) ?_
  refine pvq (C := RX11) (As := [.int p1]) (rest := []) (wc := [e0 k a, e4 k a]) ⟨hx, hb, hml, hown, hts⟩ (c_X11_slotAt l D k a p1) (cwV 1 hts gX11_paste_X11_slotAt rfl rfl rfl (by decide +kernel) ⟨Nat.le_of_ble_eq_true rfl, Nat.le_of_ble_eq_true rfl⟩) hP hK [0, 1] rfl 0 rfl rfl rfl rfl hl.1 rfl (Nat.le_of_ble_eq_true rfl) dX11_paste_2 ⟨Nat.le_of_ble_eq_true rfl, Nat.le_of_ble_eq_true rfl⟩ (fun r1 hr1 => ?_)
  rcases hr1 with ⟨g2, zw3, qw3, nw3, rfl, pw3⟩ | ⟨g2, rfl⟩
  · refine W.eq (g2 := F0 m 5 ls [.ref zw3]) rfl ?_
    refine lv_astore (lv' := [(6, .ref zw3), (0, .ref (a 0)), (1, .int p1), (2, .int p2), (3, .int p3), (4, .int p4), (5, .int p5)]) hx hb dX11_paste_5 hl (by decide) rfl (fun ls hl => ?_)
    refine lv_aload_n hx hb dX11_paste_7 rfl (lv_at hl 1 rfl) ?_
    refine lv_iload_n hx hb dX11_paste_8 rfl (lv_at hl 4 rfl) ?_
    refine pvq (C := RX11) (As := [.int p3]) (rest := []) (wc := [e0 k a, e4 k a]) ⟨hx, hb, hml, hown, hts⟩ (c_X11_slotAt l D k a p3) (cwV 1 hts gX11_paste_X11_slotAt rfl rfl rfl (by decide +kernel) ⟨Nat.le_of_ble_eq_true rfl, Nat.le_of_ble_eq_true rfl⟩) hP hK [0, 1] rfl 0 rfl rfl rfl rfl hl.1 rfl (Nat.le_of_ble_eq_true rfl) dX11_paste_9 ⟨Nat.le_of_ble_eq_true rfl, Nat.le_of_ble_eq_true rfl⟩ (fun r4 hr4 => ?_)
    rcases hr4 with ⟨g5, zw6, qw6, nw6, rfl, pw6⟩ | ⟨g5, rfl⟩
    · refine W.eq (g2 := F0 m 12 ls [.ref zw6]) rfl ?_
      refine lv_astore (lv' := [(7, .ref zw6), (6, .ref zw3), (0, .ref (a 0)), (1, .int p1), (2, .int p2), (3, .int p3), (4, .int p4), (5, .int p5)]) hx hb dX11_paste_12 hl (by decide) rfl (fun ls hl => ?_)
      refine lv_aload hx hb dX11_paste_14 (lv_at hl 1 rfl) ?_
      refine lv_ifnull hx hb dX11_paste_16 ?_
      refine lv_aload hx hb dX11_paste_19 (lv_at hl 0 rfl) ?_
      refine lv_ifnonnull (tgt := 27) hx hb dX11_paste_21 (by decide) ?_
      refine lv_aload hx hb dX11_paste_27 (lv_at hl 1 rfl) ?_
      have hPR := hP.sub (ws' := [e5 k a, e6 k a, e7 k a, e8 k a]) [2, 3, 4, 5] rfl
      refine va_get (D := D) (ci := 7) (v := .int 0) (C := RX7) (T := TX7) (N := 4) hx hb hts i_X7 hown hK hPR qw3 pw3 rfl 0 (by decide) (hts (.fieldLink RX11 211 "BellowsRow$Row" "is" "Z") (by decide +kernel)) (fun _ h9 => h9) rfl dX11_paste_29 ?_
      refine lv_if_eq (tgt := 43) hx hb dX11_paste_32 (by decide) (fun _ => ?_) (fun h => absurd (by decide) h)
      refine lv_bipush (v := (-6)) hx hb dX11_paste_43 (by decide) ?_
      exact W.iret (v := (-6)) hx hb hr (fun t ht hW => ⟨(-6), rfl, Or.inl ⟨by (try simp only [i_lt, i_le, i_eq, Int32.toInt_toInt64, Int32.reduceToInt, Int64.reduceToInt] at g2 g5 ⊢); omega, rfl⟩, ht⟩) (fun q h => by cases h) dX11_paste_45
    · refine W.eq (g2 := F0 m 12 ls [.null]) rfl ?_
      refine lv_astoreN (lv' := [(7, .null), (6, .ref zw3), (0, .ref (a 0)), (1, .int p1), (2, .int p2), (3, .int p3), (4, .int p4), (5, .int p5)]) hx hb dX11_paste_12 hl (by decide) rfl (fun ls hl => ?_)
      refine lv_aload hx hb dX11_paste_14 (lv_at hl 1 rfl) ?_
      refine lv_ifnull hx hb dX11_paste_16 ?_
      refine lv_aloadN hx hb dX11_paste_19 (lv_at hl 0 rfl) ?_
      refine lv_ifnonnullN hx hb dX11_paste_21 ?_
      refine lv_bipush (v := (-2)) hx hb dX11_paste_24 (by decide) ?_
      exact W.iret (v := (-2)) hx hb hr (fun t ht hW => ⟨(-2), rfl, Or.inr ⟨by (try simp only [i_lt, i_le, i_eq, Int32.toInt_toInt64, Int32.reduceToInt, Int64.reduceToInt] at g2 g5 ⊢); omega, rfl⟩, ht⟩) (fun q h => by cases h) dX11_paste_26
  · refine W.eq (g2 := F0 m 5 ls [.null]) rfl ?_
    refine lv_astoreN (lv' := [(6, .null), (0, .ref (a 0)), (1, .int p1), (2, .int p2), (3, .int p3), (4, .int p4), (5, .int p5)]) hx hb dX11_paste_5 hl (by decide) rfl (fun ls hl => ?_)
    refine lv_aload_n hx hb dX11_paste_7 rfl (lv_at hl 1 rfl) ?_
    refine lv_iload_n hx hb dX11_paste_8 rfl (lv_at hl 4 rfl) ?_
    refine pvq (C := RX11) (As := [.int p3]) (rest := []) (wc := [e0 k a, e4 k a]) ⟨hx, hb, hml, hown, hts⟩ (c_X11_slotAt l D k a p3) (cwV 1 hts gX11_paste_X11_slotAt rfl rfl rfl (by decide +kernel) ⟨Nat.le_of_ble_eq_true rfl, Nat.le_of_ble_eq_true rfl⟩) hP hK [0, 1] rfl 0 rfl rfl rfl rfl hl.1 rfl (Nat.le_of_ble_eq_true rfl) dX11_paste_9 ⟨Nat.le_of_ble_eq_true rfl, Nat.le_of_ble_eq_true rfl⟩ (fun r7 hr7 => ?_)
    rcases hr7 with ⟨g8, zw9, qw9, nw9, rfl, pw9⟩ | ⟨g8, rfl⟩
    · refine W.eq (g2 := F0 m 12 ls [.ref zw9]) rfl ?_
      refine lv_astore (lv' := [(7, .ref zw9), (6, .null), (0, .ref (a 0)), (1, .int p1), (2, .int p2), (3, .int p3), (4, .int p4), (5, .int p5)]) hx hb dX11_paste_12 hl (by decide) rfl (fun ls hl => ?_)
      refine lv_aloadN hx hb dX11_paste_14 (lv_at hl 1 rfl) ?_
      refine lv_ifnullN (tgt := 24) hx hb dX11_paste_16 (by decide) ?_
      refine lv_bipush (v := (-2)) hx hb dX11_paste_24 (by decide) ?_
      exact W.iret (v := (-2)) hx hb hr (fun t ht hW => ⟨(-2), rfl, Or.inr ⟨by (try simp only [i_lt, i_le, i_eq, Int32.toInt_toInt64, Int32.reduceToInt, Int64.reduceToInt] at g2 g8 ⊢); omega, rfl⟩, ht⟩) (fun q h => by cases h) dX11_paste_26
    · refine W.eq (g2 := F0 m 12 ls [.null]) rfl ?_
      refine lv_astoreN (lv' := [(7, .null), (6, .null), (0, .ref (a 0)), (1, .int p1), (2, .int p2), (3, .int p3), (4, .int p4), (5, .int p5)]) hx hb dX11_paste_12 hl (by decide) rfl (fun ls hl => ?_)
      refine lv_aloadN hx hb dX11_paste_14 (lv_at hl 1 rfl) ?_
      refine lv_ifnullN (tgt := 24) hx hb dX11_paste_16 (by decide) ?_
      refine lv_bipush (v := (-2)) hx hb dX11_paste_24 (by decide) ?_
      exact W.iret (v := (-2)) hx hb hr (fun t ht hW => ⟨(-2), rfl, Or.inr ⟨by (try simp only [i_lt, i_le, i_eq, Int32.toInt_toInt64, Int32.reduceToInt, Int64.reduceToInt] at g2 g8 ⊢); omega, rfl⟩, ht⟩) (fun q h => by cases h) dX11_paste_26
set_option maxHeartbeats 4000000 in
set_option maxRecDepth 100000 in
theorem c_X11_back (l : Launch) (D : va_G) (k : Nat → ClassId) (a : Nat → Nat) (p1 : Int32) : Met l yX11_back wsX11_back ({ frames := 0, cells := 0, slots := 0, locals := 0 }) (PreR D k [e0 k a, e3 k a] [.ref (a 0), .int p1]) (vp_Si (fun r => ((0 ≤ p1.toInt ∧ p1.toInt ≤ 2) ∧ r = (-6)) ∨ (¬ (0 ≤ p1.toInt ∧ p1.toInt ≤ 2) ∧ r = (-2)))) 0 0 (fun _ => False) := by
  refine Met.ofW (cc := cX11_back) (maxL := 3) (ret := (some .int)) (by decide) rfl ?_
  intro p e s m args below meth c s₁ B hml hv
  obtain ⟨rfl, hP, hK⟩ := hv
  have hx := B.exec
  have hb := B.bytes
  have hr := B.returns
  have hts := atoms_spec (ws := wsX11_back) B.pre
  have hown : s.vm.findClass RX11 = some m.cls := findClass_of_methodNamed B.named
  have hlocks := B.notSynchronized
  have i_X11 : ∀ w ∈ wsX110, w ∈ wsX11_back := by decide +kernel
  have hl := lv_entry ([.ref (a 0), .int p1]) (n := 3) (Nat.le_of_ble_eq_true rfl)
  rw [lg_entry_eq]
  generalize (lg_sl ([.ref (a 0), .int p1]) ++ List.replicate (3 - (lg_sl ([.ref (a 0), .int p1])).length) Slot.unset).toArray = ls at hl ⊢
  have hl : lv_has ls 3 [(0, .ref (a 0)), (1, .int p1)] := hl
  refine lv_iload_n hx hb dX11_back_0 rfl (lv_at hl 1 rfl) ?_
  refine lv_if_lt (tgt := 13) hx hb dX11_back_1 (by decide) (fun c1 => ?_) (fun c1 => ?_)
  · refine lv_bipush (v := (-2)) hx hb dX11_back_13 (by decide) ?_
    exact W.iret (v := (-2)) hx hb hr (fun t ht hW => ⟨(-2), rfl, Or.inr ⟨by (try simp only [i_lt, i_le, i_eq, Int32.toInt_toInt64, Int32.reduceToInt, Int64.reduceToInt] at c1 ⊢); omega, rfl⟩, ht⟩) (fun q h => by cases h) dX11_back_15
  · refine lv_iload_n hx hb dX11_back_4 rfl (lv_at hl 1 rfl) ?_
    refine lv_aload_n hx hb dX11_back_5 rfl (lv_at hl 0 rfl) ?_
    refine va_get (D := D) (ci := 11) (v := .ref (a 3)) (C := RX11) (T := TX11) (N := 11) hx hb hts i_X11 hown hK hP 0 rfl rfl 1 (by decide) (hts (.fieldLink RX11 18 "BellowsRow" "images" "[LBellowsRow$Works;") (by decide +kernel)) (fun _ h9 => h9) rfl dX11_back_6 ?_
    refine va_alen (v := 3) hx hb hK hP 1 5 rfl rfl rfl dX11_back_9 ?_
    refine lv_icmp_lt (tgt := 16) hx hb dX11_back_10 (by decide) (fun c2 => ?_) (fun c2 => ?_)
    · refine lv_aload_n hx hb dX11_back_16 rfl (lv_at hl 0 rfl) ?_
      refine va_get (D := D) (ci := 11) (v := .ref (a 3)) (C := RX11) (T := TX11) (N := 11) hx hb hts i_X11 hown hK hP 0 rfl rfl 1 (by decide) (hts (.fieldLink RX11 18 "BellowsRow" "images" "[LBellowsRow$Works;") (by decide +kernel)) (fun _ h9 => h9) rfl dX11_back_17 ?_
      refine lv_iload_n hx hb dX11_back_20 rfl (lv_at hl 1 rfl) ?_
      refine va_aldq hx hb hK hP 1 5 rfl rfl (vp_in_iff.mpr (by (try simp only [i_lt, i_le, i_eq, Int32.toInt_toInt64, Int32.reduceToInt, Int64.reduceToInt] at c1 c2 ⊢); omega)) dX11_back_21 ?_
      refine W.eq (g2 := F0 m 22 ls [.null]) rfl ?_
      refine lv_astore_nN (lv' := [(2, .null), (0, .ref (a 0)), (1, .int p1)]) hx hb dX11_back_22 rfl hl (by decide) rfl (fun ls hl => ?_)
      refine lv_aload_nN hx hb dX11_back_23 rfl (lv_at hl 0 rfl) ?_
      refine lv_ifnonnullN hx hb dX11_back_24 ?_
      refine lv_bipush (v := (-6)) hx hb dX11_back_27 (by decide) ?_
      exact W.iret (v := (-6)) hx hb hr (fun t ht hW => ⟨(-6), rfl, Or.inl ⟨by (try simp only [i_lt, i_le, i_eq, Int32.toInt_toInt64, Int32.reduceToInt, Int64.reduceToInt] at c1 c2 ⊢); omega, rfl⟩, ht⟩) (fun q h => by cases h) dX11_back_29
    · refine lv_bipush (v := (-2)) hx hb dX11_back_13 (by decide) ?_
      exact W.iret (v := (-2)) hx hb hr (fun t ht hW => ⟨(-2), rfl, Or.inr ⟨by (try simp only [i_lt, i_le, i_eq, Int32.toInt_toInt64, Int32.reduceToInt, Int64.reduceToInt] at c1 c2 ⊢); omega, rfl⟩, ht⟩) (fun q h => by cases h) dX11_back_15
