set_option maxHeartbeats 4000000 in
set_option maxRecDepth 100000 in
theorem t_X2_readPipe (l : Launch) (D : va_G) (k : Nat → ClassId) (tt : TT) (u0 : PSt) (hu : WT u0) (h0 : Nat) (m_h0 : h0 ∈ u0.1) (k_h0 : u0.2.1 h0 = 2) (sz : Nat) : Met l yX2_readPipe wsX2_readPipe ({ frames := 7, cells := 6, slots := 46, locals := 149 }) (PreT D k tt sz (PW k u0) [.ref h0]) (va_Qv (fun v => WT v ∧ PX u0 v ∧ True) (WB D (va_A (PW k u0) sz) (PW k)) (va_A (PW k u0) sz)) 6 46 (va_A (PW k u0) sz) := by
  refine Met.ofW (cc := cX2_readPipe) (maxL := 9) (ret := none) (by decide) rfl ?_
  intro p e s m args below meth c s₁ B hml hv
  obtain ⟨rfl, hsz, hP, hK, hD0, hN, hE0⟩ := hv
  have hx := B.exec
  have hb := B.bytes
  have hr := B.returns
  have hts := atoms_spec (ws := wsX2_readPipe) B.pre
  have hown : s.vm.findClass RX2 = some m.cls := findClass_of_methodNamed B.named
  have hlocks := B.notSynchronized
  have i_X10 : ∀ w ∈ wsX100, w ∈ wsX2_readPipe := by decide +kernel
  have i_X2 : ∀ w ∈ wsX20, w ∈ wsX2_readPipe := by decide +kernel
  have i_X3 : ∀ w ∈ wsX30, w ∈ wsX2_readPipe := by decide +kernel
  have i_X5 : ∀ w ∈ wsX50, w ∈ wsX2_readPipe := by decide +kernel
  subst hsz
  have hD := hD0.self (sz := s.heap.size)
  have hE := hE0
  generalize hAe : va_A (PW k u0) s.heap.size = A at hD hE ⊢
  have hA : ∀ q : Nat, s.heap.size ≤ q → A q := fun q h => by rw [← hAe]; exact Or.inr h
  have hS : va_S A s.heap s.heap [] := va_S.rf
  have hp : PX u0 u0 := PX.rf
  have B207 : ∀ (u : PSt) (H : Heap) (locs : List Loc) (ls : Array Slot) (v0 : Nat) (v1 : Int32) (v2 : Int32) (v3 : Int32) (v4 : Nat) (v5 : Int32) (v6 : Int32) (v7 : Int32) (sk0 : Int32), WT u → PX u0 u → va_P D vwCl (PW k u) H → va_D A (PW k u) → va_S A s.heap H locs → v0 ∈ u.1 → u.2.1 v0 = 2 → v4 ∈ u.1 → u.2.1 v4 = 3 → 0 ≤ v7.toInt ∧ v7.toInt ≤ 1 → lv_has ls 9 [(0, .ref v0), (1, .int v1), (2, .int v2), (3, .int v3), (4, .ref v4), (5, .int v5), (6, .int v6), (7, .int v7)] → W p l e (headSpec wsX2_readPipe ({ frames := 7, cells := 6, slots := 46, locals := 149 })).room s m ([.ref h0] : List Value).toArray below meth c H locs (5) (39) (MQ below (va_Qv (fun v => WT v ∧ PX u0 v ∧ True) (WB D A (PW k)) A) ([.ref h0] : List Value).toArray s 6 46 A) (F0 m 207 ls [.int sk0]) := by
    intro u H locs ls v0 v1 v2 v3 v4 v5 v6 v7 sk0 hu hp hP hD hS m_v0 k_v0 m_v4 k_v4 g_v7 hl
    refine lv_istore (lv' := [(8, .int sk0), (0, .ref v0), (1, .int v1), (2, .int v2), (3, .int v3), (4, .ref v4), (5, .int v5), (6, .int v6), (7, .int v7)]) hx hb dX2_readPipe_207 hl (by decide) rfl (fun ls hl => ?_)
    refine lv_aload_n hx hb dX2_readPipe_209 rfl (lv_at hl 1 rfl) ?_
    refine pget (ci := 2) (v := va_rf (u.2.2.2.2 v0 1)) (C := RX2) (T := TX2) (N := 2) hx hb hts i_X2 hown hK hP m_v0 (cF2 k_v0) rfl 1 (by decide) (hts (.fieldLink RX2 12 "BellowsRow$Parser" "works" "LBellowsRow$Works;") (by decide +kernel)) (fun _ h9 => h9) rfl dX2_readPipe_210 ?_
    obtain ⟨y1, qy1, m_y1, k_y1⟩ := (hu v0 m_v0).1 1 10 (by rw [k_v0]; rfl)
    refine W.eq (g2 := F0 m 213 ls [.ref y1]) (by rw [qy1]; rfl) ?_
    refine va_new (ci := 5) (fs := [.int 0, .int 0, .int 0, .null, .int 0, .int 0, .int 0]) (C := RX5) (T := TX5) (N := 7) hx hb hts i_X5 tyX5 tyX5_ok hown (hts (.classLink RX2 182 RX5) (by decide +kernel)) (hts (.instantiable RX5 7) (by decide +kernel)) (hts (.initialized RX5) (by decide +kernel)) hK hP hD hS hA rfl (fun j hj => by rcases (show j = 0 ∨ j = 1 ∨ j = 2 ∨ j = 3 ∨ j = 4 ∨ j = 5 ∨ j = 6 by omega) with rfl | rfl | rfl | rfl | rfl | rfl | rfl <;> rfl) (Nat.le_of_ble_eq_true rfl) (Nat.le_of_ble_eq_true rfl) dX2_readPipe_213 (fun q2 H hPn hDn hS => ?_)
    have hPn := P_perm List.perm_append_comm hPn
    have hDn := D_perm List.perm_append_comm hDn
    have hP := P_right hPn
    refine W.widen (k := 6) (n := 46) (Nat.le_of_ble_eq_true rfl) (Nat.le_of_ble_eq_true rfl) ?_
    refine lv_dup hx hb dX2_readPipe_216 rfl ?_
    refine lv_iload_n hx hb dX2_readPipe_217 rfl (lv_at hl 2 rfl) ?_
    refine lv_iload_n hx hb dX2_readPipe_218 rfl (lv_at hl 3 rfl) ?_
    refine lv_iload_n hx hb dX2_readPipe_219 rfl (lv_at hl 4 rfl) ?_
    refine lv_aload hx hb dX2_readPipe_220 (lv_at hl 5 rfl) ?_
    refine lv_iload hx hb dX2_readPipe_222 (lv_at hl 6 rfl) ?_
    refine lv_iload hx hb dX2_readPipe_224 (lv_at hl 0 rfl) ?_
    refine lv_iadd hx hb dX2_readPipe_226 ?_
    refine lv_topi (fun x3 ex3 => ?_)
    refine lv_iload hx hb dX2_readPipe_227 (lv_at hl 7 rfl) ?_
    refine lv_iload hx hb dX2_readPipe_229 (lv_at hl 8 rfl) ?_
    refine gI (As := [.int v1, .int v2, .int v3, .ref v4, .int x3, .int v6, .int v7]) (rest := [.ref q2, .ref y1]) ⟨hx, hb, hml, hown, hts⟩ (fun sz => c_X5_init l D k v1 v2 v3 v4 x3 v6 v7 (by (try simp only [i_lt, i_le, i_eq, Int32.toInt_toInt64, Int32.reduceToInt, Int64.reduceToInt, true_and, and_true, false_and, and_false, false_or, or_false, true_or, or_true, not_true_eq_false, not_false_eq_true, ne_eq, forall_const, true_implies, false_implies, implies_true] at g_v7 ⊢) <;> omega) q2 sz) (cwI 7 hts gX2_readPipe_X5_init rfl rfl rfl (hts (.initialized RX5) (by decide +kernel)) (hts (.methodLink RX2 184 yX5_init) (by decide +kernel)) (hts (.instanceMethod yX5_init) (by decide +kernel)) rfl (by decide +kernel) ⟨Nat.le_of_ble_eq_true rfl, Nat.le_of_ble_eq_true rfl⟩) hPn hK hDn hN hS hA rfl hl.1 rfl (Nat.le_of_ble_eq_true rfl) dX2_readPipe_231 ⟨Nat.le_of_ble_eq_true rfl, Nat.le_of_ble_eq_true rfl⟩ (fun nv4 H locs hv hPn hDn hS => ?_)
    refine W.widen (k := 6) (n := 46) (Nat.le_of_ble_eq_true rfl) (Nat.le_of_ble_eq_true rfl) ?_
    have hb7 : 0 ≤ (v7 : Int32).toInt ∧ (v7 : Int32).toInt ≤ 1 := by (try simp only [i_lt, i_le, i_eq, Int32.toInt_toInt64, Int32.reduceToInt, Int64.reduceToInt, true_and, and_true, false_and, and_false, false_or, or_false, true_or, or_true, not_true_eq_false, not_false_eq_true, ne_eq, forall_const, true_implies, false_implies, implies_true] at g_v7 ⊢) <;> omega
    obtain ⟨hPn, hDn, na⟩ := psh_at (i := 0) (a := q2) rfl hPn hDn 5 (fun s => ([v1, v2, v3, 0, x3, v6, v7] : List Int32).getD s 0) (fun s => ([0, 0, 0, 0, 0, 0, 0] : List Int64).getD s 0) (fun s => ([none, none, none, some v4, none, none, none] : List (Option Nat)).getD s none) (by rw [cF5 psh_kd]; (try simp only [psh_I, psh_J, psh_R]) <;> rfl)
    have hu := WT_psh (kd := 5) (I := (fun s => ([v1, v2, v3, 0, x3, v6, v7] : List Int32).getD s 0)) (J := (fun s => ([0, 0, 0, 0, 0, 0, 0] : List Int64).getD s 0)) (R := (fun s => ([none, none, none, some v4, none, none, none] : List (Option Nat)).getD s none)) hu na (fun s t h => by rcases tk5 h with ⟨rfl, rfl⟩; exact ⟨_, rfl, m_v4, k_v4⟩) (fun s t h => (tn5 h).elim) (fun h => absurd h (by decide)) (fun s => okz5 _ _ _ _ _ _ hb7 s)
    have hp := PX_psh (kd := 5) (I := (fun s => ([v1, v2, v3, 0, x3, v6, v7] : List Int32).getD s 0)) (J := (fun s => ([0, 0, 0, 0, 0, 0, 0] : List Int64).getD s 0)) (R := (fun s => ([none, none, none, some v4, none, none, none] : List (Option Nat)).getD s none)) hp na
    obtain ⟨u5, hu5⟩ : ∃ z, z = psh u q2 5 (fun s => ([v1, v2, v3, 0, x3, v6, v7] : List Int32).getD s 0) (fun s => ([0, 0, 0, 0, 0, 0, 0] : List Int64).getD s 0) (fun s => ([none, none, none, some v4, none, none, none] : List (Option Nat)).getD s none) := ⟨_, rfl⟩
    rw [← hu5] at hPn hDn hu hp
    have hPn : va_P D vwCl ([] ++ PW k u5) H := hPn
    have hDn : va_D A ([] ++ PW k u5) := hDn
    have k_v0 : u5.2.1 v0 = 2 := by rw [hu5]; exact (psh_k m_v0 na).trans k_v0
    have m_v0 : v0 ∈ u5.1 := by rw [hu5]; exact psh_m m_v0
    have k_v4 : u5.2.1 v4 = 3 := by rw [hu5]; exact (psh_k m_v4 na).trans k_v4
    have m_v4 : v4 ∈ u5.1 := by rw [hu5]; exact psh_m m_v4
    have k_y1 : u5.2.1 y1 = 10 := by rw [hu5]; exact (psh_k m_y1 na).trans k_y1
    have m_y1 : y1 ∈ u5.1 := by rw [hu5]; exact psh_m m_y1
    have m_q2 : q2 ∈ u5.1 := by rw [hu5]; exact psh_in
    have k_q2 : u5.2.1 q2 = 5 := by rw [hu5]; exact psh_kd
    have hP : va_P D vwCl (PW k u5) H := hPn
    have hD : va_D A (PW k u5) := hDn
    refine wvV (C := RX10) (As := [.ref q2]) (rest := []) ⟨hx, hb, hml, hown, hts⟩ (fun sz => t_X10_addPipe l D k u5 hu y1 m_y1 k_y1 q2 m_q2 k_q2 sz) (cwV 1 hts gX2_readPipe_X10_addPipe rfl rfl rfl (by decide +kernel) ⟨Nat.le_of_ble_eq_true rfl, Nat.le_of_ble_eq_true rfl⟩) hP hK hD hN hS hA (precv hK hP m_y1 (cF10 k_y1) rfl) rfl hl.1 rfl (Nat.le_of_ble_eq_true rfl) dX2_readPipe_234 ⟨Nat.le_of_ble_eq_true rfl, Nat.le_of_ble_eq_true rfl⟩ (fun u6 H locs hq hP hD hS => ?_)
    obtain ⟨hu, hxu6, hru6⟩ := hq
    have k_v0 : u6.2.1 v0 = 2 := (hxu6 v0 m_v0).2.1.trans k_v0
    have m_v0 : v0 ∈ u6.1 := (hxu6 v0 m_v0).1
    have k_v4 : u6.2.1 v4 = 3 := (hxu6 v4 m_v4).2.1.trans k_v4
    have m_v4 : v4 ∈ u6.1 := (hxu6 v4 m_v4).1
    have hp := PX.trans hp hxu6
    exact W.vret hx hb hr (fun t ht hW => ⟨⟨u6, rfl, ⟨hu, hp, trivial⟩, by rw [ht]; exact hP, hD⟩, hS.F ht⟩) hS.2.2 dX2_readPipe_237
  have B125 : ∀ (u : PSt) (H : Heap) (locs : List Loc) (ls : Array Slot) (v0 : Nat) (v1 : Int32) (v2 : Int32) (v3 : Int32) (v4 : Nat), WT u → PX u0 u → va_P D vwCl (PW k u) H → va_D A (PW k u) → va_S A s.heap H locs → v0 ∈ u.1 → u.2.1 v0 = 2 → v4 ∈ u.1 → u.2.1 v4 = 3 → lv_has ls 9 [(0, .ref v0), (1, .int v1), (2, .int v2), (3, .int v3), (4, .ref v4)] → W p l e (headSpec wsX2_readPipe ({ frames := 7, cells := 6, slots := 46, locals := 149 })).room s m ([.ref h0] : List Value).toArray below meth c H locs (5) (39) (MQ below (va_Qv (fun v => WT v ∧ PX u0 v ∧ True) (WB D A (PW k)) A) ([.ref h0] : List Value).toArray s 6 46 A) (F0 m 125 ls []) := by
    intro u H locs ls v0 v1 v2 v3 v4 hu hp hP hD hS m_v0 k_v0 m_v4 k_v4 hl
    refine lv_aload_n hx hb dX2_readPipe_125 rfl (lv_at hl 0 rfl) ?_
    refine pget (ci := 2) (v := va_rf (u.2.2.2.2 v0 0)) (C := RX2) (T := TX2) (N := 2) hx hb hts i_X2 hown hK hP m_v0 (cF2 k_v0) rfl 0 (by decide) (hts (.fieldLink RX2 18 "BellowsRow$Parser" "tape" "LBellowsRow$Tape;") (by decide +kernel)) (fun _ h9 => h9) rfl dX2_readPipe_126 ?_
    obtain ⟨y7, qy7, m_y7, k_y7⟩ := (hu v0 m_v0).1 0 9 (by rw [k_v0]; rfl)
    refine W.eq (g2 := F0 m 129 ls [.ref y7]) (by rw [qy7]; rfl) ?_
    refine va_ldcS (own := RX2) (tx := "bellows") (q := tt.1 14) hx hb hown (hE.2.1 (RX2, 167, "bellows", 14) (by decide +kernel)) dX2_readPipe_129 ?_
    refine xvV (C := RX9) (As := [.ref (tt.1 14)]) (rest := []) ⟨hx, hb, hml, hown, hts⟩ (fun sz => t_X9_expect l D k tt u hu y7 m_y7 k_y7 14 (by decide) sz) (cwV 1 hts gX2_readPipe_X9_expect rfl rfl rfl (by decide +kernel) ⟨Nat.le_of_ble_eq_true rfl, Nat.le_of_ble_eq_true rfl⟩) hP hK hD hN hE hS hA (precv hK hP m_y7 (cF9 k_y7) rfl) rfl hl.1 rfl (Nat.le_of_ble_eq_true rfl) dX2_readPipe_131 ⟨Nat.le_of_ble_eq_true rfl, Nat.le_of_ble_eq_true rfl⟩ (fun u8 H locs hq hP hD hS => ?_)
    obtain ⟨hu, hxu8, hru8⟩ := hq
    have k_v0 : u8.2.1 v0 = 2 := (hxu8 v0 m_v0).2.1.trans k_v0
    have m_v0 : v0 ∈ u8.1 := (hxu8 v0 m_v0).1
    have k_v4 : u8.2.1 v4 = 3 := (hxu8 v4 m_v4).2.1.trans k_v4
    have m_v4 : v4 ∈ u8.1 := (hxu8 v4 m_v4).1
    have hp := PX.trans hp hxu8
    refine lv_aload_n hx hb dX2_readPipe_134 rfl (lv_at hl 0 rfl) ?_
    refine pget (ci := 2) (v := va_rf (u8.2.2.2.2 v0 0)) (C := RX2) (T := TX2) (N := 2) hx hb hts i_X2 hown hK hP m_v0 (cF2 k_v0) rfl 0 (by decide) (hts (.fieldLink RX2 18 "BellowsRow$Parser" "tape" "LBellowsRow$Tape;") (by decide +kernel)) (fun _ h9 => h9) rfl dX2_readPipe_135 ?_
    obtain ⟨y9, qy9, m_y9, k_y9⟩ := (hu v0 m_v0).1 0 9 (by rw [k_v0]; rfl)
    refine W.eq (g2 := F0 m 138 ls [.ref y9]) (by rw [qy9]; rfl) ?_
    refine lv_iconst (v := 0) hx hb dX2_readPipe_138 (by decide) ?_
    refine lv_sipush (v := 30000) hx hb dX2_readPipe_139 (by decide) ?_
    refine wiV (C := RX9) (As := [.int 0, .int 30000]) (rest := []) ⟨hx, hb, hml, hown, hts⟩ (fun sz => t_X9_expectNumber l D k u8 hu y9 m_y9 k_y9 0 30000 sz) (cwV 2 hts gX2_readPipe_X9_expectNumber rfl rfl rfl (by decide +kernel) ⟨Nat.le_of_ble_eq_true rfl, Nat.le_of_ble_eq_true rfl⟩) hP hK hD hN hS hA (precv hK hP m_y9 (cF9 k_y9) rfl) rfl hl.1 rfl (Nat.le_of_ble_eq_true rfl) dX2_readPipe_142 ⟨Nat.le_of_ble_eq_true rfl, Nat.le_of_ble_eq_true rfl⟩ (fun ru10 u10 H locs hq hP hD hS => ?_)
    obtain ⟨hu, hxu10, hru10⟩ := hq
    have k_v0 : u10.2.1 v0 = 2 := (hxu10 v0 m_v0).2.1.trans k_v0
    have m_v0 : v0 ∈ u10.1 := (hxu10 v0 m_v0).1
    have k_v4 : u10.2.1 v4 = 3 := (hxu10 v4 m_v4).2.1.trans k_v4
    have m_v4 : v4 ∈ u10.1 := (hxu10 v4 m_v4).1
    have hp := PX.trans hp hxu10
    refine lv_istore (lv' := [(5, .int ru10), (0, .ref v0), (1, .int v1), (2, .int v2), (3, .int v3), (4, .ref v4)]) hx hb dX2_readPipe_145 hl (by decide) rfl (fun ls hl => ?_)
    refine lv_aload_n hx hb dX2_readPipe_147 rfl (lv_at hl 1 rfl) ?_
    refine pget (ci := 2) (v := va_rf (u10.2.2.2.2 v0 0)) (C := RX2) (T := TX2) (N := 2) hx hb hts i_X2 hown hK hP m_v0 (cF2 k_v0) rfl 0 (by decide) (hts (.fieldLink RX2 18 "BellowsRow$Parser" "tape" "LBellowsRow$Tape;") (by decide +kernel)) (fun _ h9 => h9) rfl dX2_readPipe_148 ?_
    obtain ⟨y11, qy11, m_y11, k_y11⟩ := (hu v0 m_v0).1 0 9 (by rw [k_v0]; rfl)
    refine W.eq (g2 := F0 m 151 ls [.ref y11]) (by rw [qy11]; rfl) ?_
    refine va_ldcS (own := RX2) (tx := "life") (q := tt.1 15) hx hb hown (hE.2.1 (RX2, 173, "life", 15) (by decide +kernel)) dX2_readPipe_151 ?_
    refine xvV (C := RX9) (As := [.ref (tt.1 15)]) (rest := []) ⟨hx, hb, hml, hown, hts⟩ (fun sz => t_X9_expect l D k tt u10 hu y11 m_y11 k_y11 15 (by decide) sz) (cwV 1 hts gX2_readPipe_X9_expect rfl rfl rfl (by decide +kernel) ⟨Nat.le_of_ble_eq_true rfl, Nat.le_of_ble_eq_true rfl⟩) hP hK hD hN hE hS hA (precv hK hP m_y11 (cF9 k_y11) rfl) rfl hl.1 rfl (Nat.le_of_ble_eq_true rfl) dX2_readPipe_153 ⟨Nat.le_of_ble_eq_true rfl, Nat.le_of_ble_eq_true rfl⟩ (fun u12 H locs hq hP hD hS => ?_)
    obtain ⟨hu, hxu12, hru12⟩ := hq
    have k_v0 : u12.2.1 v0 = 2 := (hxu12 v0 m_v0).2.1.trans k_v0
    have m_v0 : v0 ∈ u12.1 := (hxu12 v0 m_v0).1
    have k_v4 : u12.2.1 v4 = 3 := (hxu12 v4 m_v4).2.1.trans k_v4
    have m_v4 : v4 ∈ u12.1 := (hxu12 v4 m_v4).1
    have hp := PX.trans hp hxu12
    refine lv_aload_n hx hb dX2_readPipe_156 rfl (lv_at hl 1 rfl) ?_
    refine pget (ci := 2) (v := va_rf (u12.2.2.2.2 v0 0)) (C := RX2) (T := TX2) (N := 2) hx hb hts i_X2 hown hK hP m_v0 (cF2 k_v0) rfl 0 (by decide) (hts (.fieldLink RX2 18 "BellowsRow$Parser" "tape" "LBellowsRow$Tape;") (by decide +kernel)) (fun _ h9 => h9) rfl dX2_readPipe_157 ?_
    obtain ⟨y13, qy13, m_y13, k_y13⟩ := (hu v0 m_v0).1 0 9 (by rw [k_v0]; rfl)
    refine W.eq (g2 := F0 m 160 ls [.ref y13]) (by rw [qy13]; rfl) ?_
    refine lv_iconst (v := 1) hx hb dX2_readPipe_160 (by decide) ?_
    refine lv_sipush (v := 9999) hx hb dX2_readPipe_161 (by decide) ?_
    refine wiV (C := RX9) (As := [.int 1, .int 9999]) (rest := []) ⟨hx, hb, hml, hown, hts⟩ (fun sz => t_X9_expectNumber l D k u12 hu y13 m_y13 k_y13 1 9999 sz) (cwV 2 hts gX2_readPipe_X9_expectNumber rfl rfl rfl (by decide +kernel) ⟨Nat.le_of_ble_eq_true rfl, Nat.le_of_ble_eq_true rfl⟩) hP hK hD hN hS hA (precv hK hP m_y13 (cF9 k_y13) rfl) rfl hl.1 rfl (Nat.le_of_ble_eq_true rfl) dX2_readPipe_164 ⟨Nat.le_of_ble_eq_true rfl, Nat.le_of_ble_eq_true rfl⟩ (fun ru14 u14 H locs hq hP hD hS => ?_)
    obtain ⟨hu, hxu14, hru14⟩ := hq
    have k_v0 : u14.2.1 v0 = 2 := (hxu14 v0 m_v0).2.1.trans k_v0
    have m_v0 : v0 ∈ u14.1 := (hxu14 v0 m_v0).1
    have k_v4 : u14.2.1 v4 = 3 := (hxu14 v4 m_v4).2.1.trans k_v4
    have m_v4 : v4 ∈ u14.1 := (hxu14 v4 m_v4).1
    have hp := PX.trans hp hxu14
    refine lv_istore (lv' := [(6, .int ru14), (5, .int ru10), (0, .ref v0), (1, .int v1), (2, .int v2), (3, .int v3), (4, .ref v4)]) hx hb dX2_readPipe_167 hl (by decide) rfl (fun ls hl => ?_)
    refine lv_aload_n hx hb dX2_readPipe_169 rfl (lv_at hl 2 rfl) ?_
    refine pget (ci := 2) (v := va_rf (u14.2.2.2.2 v0 0)) (C := RX2) (T := TX2) (N := 2) hx hb hts i_X2 hown hK hP m_v0 (cF2 k_v0) rfl 0 (by decide) (hts (.fieldLink RX2 18 "BellowsRow$Parser" "tape" "LBellowsRow$Tape;") (by decide +kernel)) (fun _ h9 => h9) rfl dX2_readPipe_170 ?_
    obtain ⟨y15, qy15, m_y15, k_y15⟩ := (hu v0 m_v0).1 0 9 (by rw [k_v0]; rfl)
    refine W.eq (g2 := F0 m 173 ls [.ref y15]) (by rw [qy15]; rfl) ?_
    refine va_ldcS (own := RX2) (tx := "prop") (q := tt.1 16) hx hb hown (hE.2.1 (RX2, 175, "prop", 16) (by decide +kernel)) dX2_readPipe_173 ?_
    refine xiV (C := RX9) (As := [.ref (tt.1 16)]) (rest := []) ⟨hx, hb, hml, hown, hts⟩ (fun sz => t_X9_passes l D k tt u14 hu y15 m_y15 k_y15 16 (by decide) sz) (cwV 1 hts gX2_readPipe_X9_passes rfl rfl rfl (by decide +kernel) ⟨Nat.le_of_ble_eq_true rfl, Nat.le_of_ble_eq_true rfl⟩) hP hK hD hN hE hS hA (precv hK hP m_y15 (cF9 k_y15) rfl) rfl hl.1 rfl (Nat.le_of_ble_eq_true rfl) dX2_readPipe_175 ⟨Nat.le_of_ble_eq_true rfl, Nat.le_of_ble_eq_true rfl⟩ (fun ru16 u16 H locs hq hP hD hS => ?_)
    obtain ⟨hu, hxu16, hru16⟩ := hq
    have k_v0 : u16.2.1 v0 = 2 := (hxu16 v0 m_v0).2.1.trans k_v0
    have m_v0 : v0 ∈ u16.1 := (hxu16 v0 m_v0).1
    have k_v4 : u16.2.1 v4 = 3 := (hxu16 v4 m_v4).2.1.trans k_v4
    have m_v4 : v4 ∈ u16.1 := (hxu16 v4 m_v4).1
    have hp := PX.trans hp hxu16
    refine lv_istore (lv' := [(7, .int ru16), (6, .int ru14), (5, .int ru10), (0, .ref v0), (1, .int v1), (2, .int v2), (3, .int v3), (4, .ref v4)]) hx hb dX2_readPipe_178 hl (by decide) rfl (fun ls hl => ?_)
    refine lv_aload_n hx hb dX2_readPipe_180 rfl (lv_at hl 3 rfl) ?_
    refine pget (ci := 2) (v := va_rf (u16.2.2.2.2 v0 0)) (C := RX2) (T := TX2) (N := 2) hx hb hts i_X2 hown hK hP m_v0 (cF2 k_v0) rfl 0 (by decide) (hts (.fieldLink RX2 18 "BellowsRow$Parser" "tape" "LBellowsRow$Tape;") (by decide +kernel)) (fun _ h9 => h9) rfl dX2_readPipe_181 ?_
    obtain ⟨y17, qy17, m_y17, k_y17⟩ := (hu v0 m_v0).1 0 9 (by rw [k_v0]; rfl)
    refine W.eq (g2 := F0 m 184 ls [.ref y17]) (by rw [qy17]; rfl) ?_
    refine va_ldcS (own := RX2) (tx := "stay") (q := tt.1 17) hx hb hown (hE.2.1 (RX2, 180, "stay", 17) (by decide +kernel)) dX2_readPipe_184 ?_
    refine xiV (C := RX9) (As := [.ref (tt.1 17)]) (rest := []) ⟨hx, hb, hml, hown, hts⟩ (fun sz => t_X9_passes l D k tt u16 hu y17 m_y17 k_y17 17 (by decide) sz) (cwV 1 hts gX2_readPipe_X9_passes rfl rfl rfl (by decide +kernel) ⟨Nat.le_of_ble_eq_true rfl, Nat.le_of_ble_eq_true rfl⟩) hP hK hD hN hE hS hA (precv hK hP m_y17 (cF9 k_y17) rfl) rfl hl.1 rfl (Nat.le_of_ble_eq_true rfl) dX2_readPipe_186 ⟨Nat.le_of_ble_eq_true rfl, Nat.le_of_ble_eq_true rfl⟩ (fun ru18 u18 H locs hq hP hD hS => ?_)
    obtain ⟨hu, hxu18, hru18⟩ := hq
    have k_v0 : u18.2.1 v0 = 2 := (hxu18 v0 m_v0).2.1.trans k_v0
    have m_v0 : v0 ∈ u18.1 := (hxu18 v0 m_v0).1
    have k_v4 : u18.2.1 v4 = 3 := (hxu18 v4 m_v4).2.1.trans k_v4
    have m_v4 : v4 ∈ u18.1 := (hxu18 v4 m_v4).1
    have hp := PX.trans hp hxu18
    refine lv_if_eq (tgt := 206) hx hb dX2_readPipe_189 (by decide) (fun c19 => ?_) (fun c19 => ?_)
    · refine lv_iconst (v := 0) hx hb dX2_readPipe_206 (by decide) ?_
      exact B207 _ _ _ ls v0 v1 v2 v3 v4 ru10 ru14 ru16 0 hu hp hP hD hS m_v0 k_v0 m_v4 k_v4 (by (try simp only [i_lt, i_le, i_eq, Int32.toInt_toInt64, Int32.reduceToInt, Int64.reduceToInt, true_and, and_true, false_and, and_false, false_or, or_false, true_or, or_true, not_true_eq_false, not_false_eq_true, ne_eq, forall_const, true_implies, false_implies, implies_true] at hru16 hru18 c19 ⊢) <;> omega) (lv_sub hl [3, 4, 5, 6, 7, 2, 1, 0] rfl)
    · refine lv_aload_n hx hb dX2_readPipe_192 rfl (lv_at hl 3 rfl) ?_
      refine pget (ci := 2) (v := va_rf (u18.2.2.2.2 v0 0)) (C := RX2) (T := TX2) (N := 2) hx hb hts i_X2 hown hK hP m_v0 (cF2 k_v0) rfl 0 (by decide) (hts (.fieldLink RX2 18 "BellowsRow$Parser" "tape" "LBellowsRow$Tape;") (by decide +kernel)) (fun _ h9 => h9) rfl dX2_readPipe_193 ?_
      obtain ⟨y20, qy20, m_y20, k_y20⟩ := (hu v0 m_v0).1 0 9 (by rw [k_v0]; rfl)
      refine W.eq (g2 := F0 m 196 ls [.ref y20]) (by rw [qy20]; rfl) ?_
      refine lv_iconst (v := 0) hx hb dX2_readPipe_196 (by decide) ?_
      refine lv_sipush (v := 30000) hx hb dX2_readPipe_197 (by decide) ?_
      refine wiV (C := RX9) (As := [.int 0, .int 30000]) (rest := []) ⟨hx, hb, hml, hown, hts⟩ (fun sz => t_X9_expectNumber l D k u18 hu y20 m_y20 k_y20 0 30000 sz) (cwV 2 hts gX2_readPipe_X9_expectNumber rfl rfl rfl (by decide +kernel) ⟨Nat.le_of_ble_eq_true rfl, Nat.le_of_ble_eq_true rfl⟩) hP hK hD hN hS hA (precv hK hP m_y20 (cF9 k_y20) rfl) rfl hl.1 rfl (Nat.le_of_ble_eq_true rfl) dX2_readPipe_200 ⟨Nat.le_of_ble_eq_true rfl, Nat.le_of_ble_eq_true rfl⟩ (fun ru21 u21 H locs hq hP hD hS => ?_)
      obtain ⟨hu, hxu21, hru21⟩ := hq
      have k_v0 : u21.2.1 v0 = 2 := (hxu21 v0 m_v0).2.1.trans k_v0
      have m_v0 : v0 ∈ u21.1 := (hxu21 v0 m_v0).1
      have k_v4 : u21.2.1 v4 = 3 := (hxu21 v4 m_v4).2.1.trans k_v4
      have m_v4 : v4 ∈ u21.1 := (hxu21 v4 m_v4).1
      have hp := PX.trans hp hxu21
      refine lv_goto (tgt := 207) hx hb dX2_readPipe_203 (by decide) ?_
      exact B207 _ _ _ ls v0 v1 v2 v3 v4 ru10 ru14 ru16 ru21 hu hp hP hD hS m_v0 k_v0 m_v4 k_v4 (by (try simp only [i_lt, i_le, i_eq, Int32.toInt_toInt64, Int32.reduceToInt, Int64.reduceToInt, true_and, and_true, false_and, and_false, false_or, or_false, true_or, or_true, not_true_eq_false, not_false_eq_true, ne_eq, forall_const, true_implies, false_implies, implies_true] at hru16 hru18 c19 ⊢) <;> omega) (lv_sub hl [3, 4, 5, 6, 7, 2, 1, 0] rfl)
  have hl := lv_entry ([.ref h0]) (n := 9) (Nat.le_of_ble_eq_true rfl)
  rw [lg_entry_eq]
  generalize (lg_sl ([.ref h0]) ++ List.replicate (9 - (lg_sl ([.ref h0])).length) Slot.unset).toArray = ls at hl ⊢
  have hl : lv_has ls 9 [(0, .ref h0)] := hl
  refine lv_aload_n hx hb dX2_readPipe_0 rfl (lv_at hl 0 rfl) ?_
  refine pget (ci := 2) (v := va_rf (u0.2.2.2.2 h0 0)) (C := RX2) (T := TX2) (N := 2) hx hb hts i_X2 hown hK hP m_h0 (cF2 k_h0) rfl 0 (by decide) (hts (.fieldLink RX2 18 "BellowsRow$Parser" "tape" "LBellowsRow$Tape;") (by decide +kernel)) (fun _ h9 => h9) rfl dX2_readPipe_1 ?_
  obtain ⟨y22, qy22, m_y22, k_y22⟩ := (hu h0 m_h0).1 0 9 (by rw [k_h0]; rfl)
  refine W.eq (g2 := F0 m 4 ls [.ref y22]) (by rw [qy22]; rfl) ?_
  refine lv_iconst (v := 0) hx hb dX2_readPipe_4 (by decide) ?_
  refine lv_aload_n hx hb dX2_readPipe_5 rfl (lv_at hl 0 rfl) ?_
  refine pget (ci := 2) (v := va_rf (u0.2.2.2.2 h0 1)) (C := RX2) (T := TX2) (N := 2) hx hb hts i_X2 hown hK hP m_h0 (cF2 k_h0) rfl 1 (by decide) (hts (.fieldLink RX2 12 "BellowsRow$Parser" "works" "LBellowsRow$Works;") (by decide +kernel)) (fun _ h9 => h9) rfl dX2_readPipe_6 ?_
  obtain ⟨y23, qy23, m_y23, k_y23⟩ := (hu h0 m_h0).1 1 10 (by rw [k_h0]; rfl)
  refine W.eq (g2 := F0 m 9 ls [.ref y23, .int 0, .ref y22]) (by rw [qy23]; rfl) ?_
  refine pget (ci := 10) (v := .int (u0.2.2.1 y23 4)) (C := RX10) (T := TX10) (N := 12) hx hb hts i_X10 hown hK hP m_y23 (cF10 k_y23) rfl 4 (by decide) (hts (.fieldLink RX2 112 "BellowsRow$Works" "potCount" "I") (by decide +kernel)) (fun _ h9 => h9) rfl dX2_readPipe_9 ?_
  refine lv_iconst (v := 1) hx hb dX2_readPipe_12 (by decide) ?_
  refine lv_isub hx hb dX2_readPipe_13 ?_
  refine lv_topi (fun x24 ex24 => ?_)
  refine wiV (C := RX9) (As := [.int 0, .int x24]) (rest := []) ⟨hx, hb, hml, hown, hts⟩ (fun sz => t_X9_expectNumber l D k u0 hu y22 m_y22 k_y22 0 x24 sz) (cwV 2 hts gX2_readPipe_X9_expectNumber rfl rfl rfl (by decide +kernel) ⟨Nat.le_of_ble_eq_true rfl, Nat.le_of_ble_eq_true rfl⟩) hP hK hD hN hS hA (precv hK hP m_y22 (cF9 k_y22) rfl) rfl hl.1 rfl (Nat.le_of_ble_eq_true rfl) dX2_readPipe_14 ⟨Nat.le_of_ble_eq_true rfl, Nat.le_of_ble_eq_true rfl⟩ (fun ru25 u25 H locs hq hP hD hS => ?_)
  obtain ⟨hu, hxu25, hru25⟩ := hq
  have k_h0 : u25.2.1 h0 = 2 := (hxu25 h0 m_h0).2.1.trans k_h0
  have m_h0 : h0 ∈ u25.1 := (hxu25 h0 m_h0).1
  have hp := PX.trans hp hxu25
  refine lv_istore_n (lv' := [(1, .int ru25), (0, .ref h0)]) hx hb dX2_readPipe_17 rfl hl (by decide) rfl (fun ls hl => ?_)
  refine lv_aload_n hx hb dX2_readPipe_18 rfl (lv_at hl 1 rfl) ?_
  refine pget (ci := 2) (v := va_rf (u25.2.2.2.2 h0 0)) (C := RX2) (T := TX2) (N := 2) hx hb hts i_X2 hown hK hP m_h0 (cF2 k_h0) rfl 0 (by decide) (hts (.fieldLink RX2 18 "BellowsRow$Parser" "tape" "LBellowsRow$Tape;") (by decide +kernel)) (fun _ h9 => h9) rfl dX2_readPipe_19 ?_
  obtain ⟨y26, qy26, m_y26, k_y26⟩ := (hu h0 m_h0).1 0 9 (by rw [k_h0]; rfl)
  refine W.eq (g2 := F0 m 22 ls [.ref y26]) (by rw [qy26]; rfl) ?_
  refine va_ldcS (own := RX2) (tx := "to") (q := tt.1 11) hx hb hown (hE.2.1 (RX2, 154, "to", 11) (by decide +kernel)) dX2_readPipe_22 ?_
  refine xvV (C := RX9) (As := [.ref (tt.1 11)]) (rest := []) ⟨hx, hb, hml, hown, hts⟩ (fun sz => t_X9_expect l D k tt u25 hu y26 m_y26 k_y26 11 (by decide) sz) (cwV 1 hts gX2_readPipe_X9_expect rfl rfl rfl (by decide +kernel) ⟨Nat.le_of_ble_eq_true rfl, Nat.le_of_ble_eq_true rfl⟩) hP hK hD hN hE hS hA (precv hK hP m_y26 (cF9 k_y26) rfl) rfl hl.1 rfl (Nat.le_of_ble_eq_true rfl) dX2_readPipe_24 ⟨Nat.le_of_ble_eq_true rfl, Nat.le_of_ble_eq_true rfl⟩ (fun u27 H locs hq hP hD hS => ?_)
  obtain ⟨hu, hxu27, hru27⟩ := hq
  have k_h0 : u27.2.1 h0 = 2 := (hxu27 h0 m_h0).2.1.trans k_h0
  have m_h0 : h0 ∈ u27.1 := (hxu27 h0 m_h0).1
  have hp := PX.trans hp hxu27
  refine lv_aload_n hx hb dX2_readPipe_27 rfl (lv_at hl 1 rfl) ?_
  refine pget (ci := 2) (v := va_rf (u27.2.2.2.2 h0 0)) (C := RX2) (T := TX2) (N := 2) hx hb hts i_X2 hown hK hP m_h0 (cF2 k_h0) rfl 0 (by decide) (hts (.fieldLink RX2 18 "BellowsRow$Parser" "tape" "LBellowsRow$Tape;") (by decide +kernel)) (fun _ h9 => h9) rfl dX2_readPipe_28 ?_
  obtain ⟨y28, qy28, m_y28, k_y28⟩ := (hu h0 m_h0).1 0 9 (by rw [k_h0]; rfl)
  refine W.eq (g2 := F0 m 31 ls [.ref y28]) (by rw [qy28]; rfl) ?_
  refine lv_iload_n hx hb dX2_readPipe_31 rfl (lv_at hl 0 rfl) ?_
  refine lv_iconst (v := 1) hx hb dX2_readPipe_32 (by decide) ?_
  refine lv_iadd hx hb dX2_readPipe_33 ?_
  refine lv_topi (fun x29 ex29 => ?_)
  refine lv_aload_n hx hb dX2_readPipe_34 rfl (lv_at hl 1 rfl) ?_
  refine pget (ci := 2) (v := va_rf (u27.2.2.2.2 h0 1)) (C := RX2) (T := TX2) (N := 2) hx hb hts i_X2 hown hK hP m_h0 (cF2 k_h0) rfl 1 (by decide) (hts (.fieldLink RX2 12 "BellowsRow$Parser" "works" "LBellowsRow$Works;") (by decide +kernel)) (fun _ h9 => h9) rfl dX2_readPipe_35 ?_
  obtain ⟨y30, qy30, m_y30, k_y30⟩ := (hu h0 m_h0).1 1 10 (by rw [k_h0]; rfl)
  refine W.eq (g2 := F0 m 38 ls [.ref y30, .int x29, .ref y28]) (by rw [qy30]; rfl) ?_
  refine pget (ci := 10) (v := .int (u27.2.2.1 y30 4)) (C := RX10) (T := TX10) (N := 12) hx hb hts i_X10 hown hK hP m_y30 (cF10 k_y30) rfl 4 (by decide) (hts (.fieldLink RX2 112 "BellowsRow$Works" "potCount" "I") (by decide +kernel)) (fun _ h9 => h9) rfl dX2_readPipe_38 ?_
  refine lv_iconst (v := 1) hx hb dX2_readPipe_41 (by decide) ?_
  refine lv_isub hx hb dX2_readPipe_42 ?_
  refine lv_topi (fun x31 ex31 => ?_)
  refine wiV (C := RX9) (As := [.int x29, .int x31]) (rest := []) ⟨hx, hb, hml, hown, hts⟩ (fun sz => t_X9_expectNumber l D k u27 hu y28 m_y28 k_y28 x29 x31 sz) (cwV 2 hts gX2_readPipe_X9_expectNumber rfl rfl rfl (by decide +kernel) ⟨Nat.le_of_ble_eq_true rfl, Nat.le_of_ble_eq_true rfl⟩) hP hK hD hN hS hA (precv hK hP m_y28 (cF9 k_y28) rfl) rfl hl.1 rfl (Nat.le_of_ble_eq_true rfl) dX2_readPipe_43 ⟨Nat.le_of_ble_eq_true rfl, Nat.le_of_ble_eq_true rfl⟩ (fun ru32 u32 H locs hq hP hD hS => ?_)
  obtain ⟨hu, hxu32, hru32⟩ := hq
  have k_h0 : u32.2.1 h0 = 2 := (hxu32 h0 m_h0).2.1.trans k_h0
  have m_h0 : h0 ∈ u32.1 := (hxu32 h0 m_h0).1
  have hp := PX.trans hp hxu32
  refine lv_istore_n (lv' := [(2, .int ru32), (1, .int ru25), (0, .ref h0)]) hx hb dX2_readPipe_46 rfl hl (by decide) rfl (fun ls hl => ?_)
  refine lv_aload_n hx hb dX2_readPipe_47 rfl (lv_at hl 2 rfl) ?_
  refine pget (ci := 2) (v := va_rf (u32.2.2.2.2 h0 0)) (C := RX2) (T := TX2) (N := 2) hx hb hts i_X2 hown hK hP m_h0 (cF2 k_h0) rfl 0 (by decide) (hts (.fieldLink RX2 18 "BellowsRow$Parser" "tape" "LBellowsRow$Tape;") (by decide +kernel)) (fun _ h9 => h9) rfl dX2_readPipe_48 ?_
  obtain ⟨y33, qy33, m_y33, k_y33⟩ := (hu h0 m_h0).1 0 9 (by rw [k_h0]; rfl)
  refine W.eq (g2 := F0 m 51 ls [.ref y33]) (by rw [qy33]; rfl) ?_
  refine va_ldcS (own := RX2) (tx := "bore") (q := tt.1 12) hx hb hown (hE.2.1 (RX2, 156, "bore", 12) (by decide +kernel)) dX2_readPipe_51 ?_
  refine xvV (C := RX9) (As := [.ref (tt.1 12)]) (rest := []) ⟨hx, hb, hml, hown, hts⟩ (fun sz => t_X9_expect l D k tt u32 hu y33 m_y33 k_y33 12 (by decide) sz) (cwV 1 hts gX2_readPipe_X9_expect rfl rfl rfl (by decide +kernel) ⟨Nat.le_of_ble_eq_true rfl, Nat.le_of_ble_eq_true rfl⟩) hP hK hD hN hE hS hA (precv hK hP m_y33 (cF9 k_y33) rfl) rfl hl.1 rfl (Nat.le_of_ble_eq_true rfl) dX2_readPipe_53 ⟨Nat.le_of_ble_eq_true rfl, Nat.le_of_ble_eq_true rfl⟩ (fun u34 H locs hq hP hD hS => ?_)
  obtain ⟨hu, hxu34, hru34⟩ := hq
  have k_h0 : u34.2.1 h0 = 2 := (hxu34 h0 m_h0).2.1.trans k_h0
  have m_h0 : h0 ∈ u34.1 := (hxu34 h0 m_h0).1
  have hp := PX.trans hp hxu34
  refine lv_aload_n hx hb dX2_readPipe_56 rfl (lv_at hl 2 rfl) ?_
  refine pget (ci := 2) (v := va_rf (u34.2.2.2.2 h0 0)) (C := RX2) (T := TX2) (N := 2) hx hb hts i_X2 hown hK hP m_h0 (cF2 k_h0) rfl 0 (by decide) (hts (.fieldLink RX2 18 "BellowsRow$Parser" "tape" "LBellowsRow$Tape;") (by decide +kernel)) (fun _ h9 => h9) rfl dX2_readPipe_57 ?_
  obtain ⟨y35, qy35, m_y35, k_y35⟩ := (hu h0 m_h0).1 0 9 (by rw [k_h0]; rfl)
  refine W.eq (g2 := F0 m 60 ls [.ref y35]) (by rw [qy35]; rfl) ?_
  refine lv_iconst (v := 1) hx hb dX2_readPipe_60 (by decide) ?_
  refine lv_bipush (v := 40) hx hb dX2_readPipe_61 (by decide) ?_
  refine wiV (C := RX9) (As := [.int 1, .int 40]) (rest := []) ⟨hx, hb, hml, hown, hts⟩ (fun sz => t_X9_expectNumber l D k u34 hu y35 m_y35 k_y35 1 40 sz) (cwV 2 hts gX2_readPipe_X9_expectNumber rfl rfl rfl (by decide +kernel) ⟨Nat.le_of_ble_eq_true rfl, Nat.le_of_ble_eq_true rfl⟩) hP hK hD hN hS hA (precv hK hP m_y35 (cF9 k_y35) rfl) rfl hl.1 rfl (Nat.le_of_ble_eq_true rfl) dX2_readPipe_63 ⟨Nat.le_of_ble_eq_true rfl, Nat.le_of_ble_eq_true rfl⟩ (fun ru36 u36 H locs hq hP hD hS => ?_)
  obtain ⟨hu, hxu36, hru36⟩ := hq
  have k_h0 : u36.2.1 h0 = 2 := (hxu36 h0 m_h0).2.1.trans k_h0
  have m_h0 : h0 ∈ u36.1 := (hxu36 h0 m_h0).1
  have hp := PX.trans hp hxu36
  refine lv_istore_n (lv' := [(3, .int ru36), (2, .int ru32), (1, .int ru25), (0, .ref h0)]) hx hb dX2_readPipe_66 rfl hl (by decide) rfl (fun ls hl => ?_)
  refine lv_aload_n hx hb dX2_readPipe_67 rfl (lv_at hl 3 rfl) ?_
  refine pget (ci := 2) (v := va_rf (u36.2.2.2.2 h0 0)) (C := RX2) (T := TX2) (N := 2) hx hb hts i_X2 hown hK hP m_h0 (cF2 k_h0) rfl 0 (by decide) (hts (.fieldLink RX2 18 "BellowsRow$Parser" "tape" "LBellowsRow$Tape;") (by decide +kernel)) (fun _ h9 => h9) rfl dX2_readPipe_68 ?_
  obtain ⟨y37, qy37, m_y37, k_y37⟩ := (hu h0 m_h0).1 0 9 (by rw [k_h0]; rfl)
  refine W.eq (g2 := F0 m 71 ls [.ref y37]) (by rw [qy37]; rfl) ?_
  refine va_ldcS (own := RX2) (tx := "by") (q := tt.1 13) hx hb hown (hE.2.1 (RX2, 158, "by", 13) (by decide +kernel)) dX2_readPipe_71 ?_
  refine xvV (C := RX9) (As := [.ref (tt.1 13)]) (rest := []) ⟨hx, hb, hml, hown, hts⟩ (fun sz => t_X9_expect l D k tt u36 hu y37 m_y37 k_y37 13 (by decide) sz) (cwV 1 hts gX2_readPipe_X9_expect rfl rfl rfl (by decide +kernel) ⟨Nat.le_of_ble_eq_true rfl, Nat.le_of_ble_eq_true rfl⟩) hP hK hD hN hE hS hA (precv hK hP m_y37 (cF9 k_y37) rfl) rfl hl.1 rfl (Nat.le_of_ble_eq_true rfl) dX2_readPipe_73 ⟨Nat.le_of_ble_eq_true rfl, Nat.le_of_ble_eq_true rfl⟩ (fun u38 H locs hq hP hD hS => ?_)
  obtain ⟨hu, hxu38, hru38⟩ := hq
  have k_h0 : u38.2.1 h0 = 2 := (hxu38 h0 m_h0).2.1.trans k_h0
  have m_h0 : h0 ∈ u38.1 := (hxu38 h0 m_h0).1
  have hp := PX.trans hp hxu38
  refine va_new (ci := 3) (fs := [.int 0, .int 0, .int 0, .int 0, .int 0, .int 0, .int 0, .null, .null, .null, .null]) (C := RX3) (T := TX3) (N := 11) hx hb hts i_X3 tyX3 tyX3_ok hown (hts (.classLink RX2 160 RX3) (by decide +kernel)) (hts (.instantiable RX3 11) (by decide +kernel)) (hts (.initialized RX3) (by decide +kernel)) hK hP hD hS hA rfl (fun j hj => by rcases (show j = 0 ∨ j = 1 ∨ j = 2 ∨ j = 3 ∨ j = 4 ∨ j = 5 ∨ j = 6 ∨ j = 7 ∨ j = 8 ∨ j = 9 ∨ j = 10 by omega) with rfl | rfl | rfl | rfl | rfl | rfl | rfl | rfl | rfl | rfl | rfl <;> rfl) (Nat.le_of_ble_eq_true rfl) (Nat.le_of_ble_eq_true rfl) dX2_readPipe_76 (fun q39 H hPn hDn hS => ?_)
  have hPn := P_perm List.perm_append_comm hPn
  have hDn := D_perm List.perm_append_comm hDn
  have hP := P_right hPn
  refine W.widen (k := 1) (n := 11) (Nat.le_of_ble_eq_true rfl) (Nat.le_of_ble_eq_true rfl) ?_
  refine lv_dup hx hb dX2_readPipe_79 rfl ?_
  refine gIN (As := []) (rest := [.ref q39]) ⟨hx, hb, hml, hown, hts⟩ (fun sz => c_X3_init l D k q39 sz) ⟨va_cnB 0 hts gX2_readPipe_X3_init_n162 rfl rfl rfl hE.2.2.2.2.2 (hts (.initialized RX3) (by decide +kernel)) (by decide +kernel) ⟨Nat.le_of_ble_eq_true rfl, Nat.le_of_ble_eq_true rfl⟩, rfl, hts (.instanceMethod yX3_init) (by decide +kernel)⟩ hPn hK hDn hN hS hA rfl hl.1 rfl (Nat.le_of_ble_eq_true rfl) dX2_readPipe_80 ⟨Nat.le_of_ble_eq_true rfl, Nat.le_of_ble_eq_true rfl⟩ (fun nv40 H locs hv hPn hDn hS => ?_)
  refine W.widen (k := 5) (n := 39) (Nat.le_of_ble_eq_true rfl) (Nat.le_of_ble_eq_true rfl) ?_
  obtain ⟨hPn, hDn, na⟩ := psh_at (i := 1) (a := (nv40 0)) rfl hPn hDn 22 (fun _ => 0) (fun _ => 0) (fun _ => none) (by rw [cF22 psh_kd]; (try simp only [psh_I, psh_J, psh_R]) <;> rfl)
  have hu := WT_psh (kd := 22) (I := (fun _ => 0)) (J := (fun _ => 0)) (R := (fun _ => none)) hu na (fun s t h => (tk22 h).elim) (fun s t h => (tn22 h).elim) (fun h => absurd h (by decide)) (fun _ => trivial)
  have hp := PX_psh (kd := 22) (I := (fun _ => 0)) (J := (fun _ => 0)) (R := (fun _ => none)) hp na
  obtain ⟨u41, hu41⟩ : ∃ z, z = psh u38 (nv40 0) 22 (fun _ => 0) (fun _ => 0) (fun _ => none) := ⟨_, rfl⟩
  rw [← hu41] at hPn hDn hu hp
  have hPn : va_P D vwCl ([(q39, .inr (3, [.int 0, .int 0, .int 0, .int 0, .int 0, .int (-1), .int 0, .ref (nv40 0), .ref (nv40 1), .ref (nv40 2), .ref (nv40 3)])), ((nv40 1), .inl (k 1, 7, .inl (fun _ => 0))), ((nv40 2), .inl (k 1, 7, .inl (fun _ => 0))), ((nv40 3), .inl (k 1, 7, .inl (fun _ => 0)))] ++ PW k u41) H := hPn
  have hDn : va_D A ([(q39, .inr (3, [.int 0, .int 0, .int 0, .int 0, .int 0, .int (-1), .int 0, .ref (nv40 0), .ref (nv40 1), .ref (nv40 2), .ref (nv40 3)])), ((nv40 1), .inl (k 1, 7, .inl (fun _ => 0))), ((nv40 2), .inl (k 1, 7, .inl (fun _ => 0))), ((nv40 3), .inl (k 1, 7, .inl (fun _ => 0)))] ++ PW k u41) := hDn
  have k_h0 : u41.2.1 h0 = 2 := by rw [hu41]; exact (psh_k m_h0 na).trans k_h0
  have m_h0 : h0 ∈ u41.1 := by rw [hu41]; exact psh_m m_h0
  have m_nv40_0 : (nv40 0) ∈ u41.1 := by rw [hu41]; exact psh_in
  have k_nv40_0 : u41.2.1 (nv40 0) = 22 := by rw [hu41]; exact psh_kd
  obtain ⟨hPn, hDn, na⟩ := psh_at (i := 1) (a := (nv40 1)) rfl hPn hDn 22 (fun _ => 0) (fun _ => 0) (fun _ => none) (by rw [cF22 psh_kd]; (try simp only [psh_I, psh_J, psh_R]) <;> rfl)
  have hu := WT_psh (kd := 22) (I := (fun _ => 0)) (J := (fun _ => 0)) (R := (fun _ => none)) hu na (fun s t h => (tk22 h).elim) (fun s t h => (tn22 h).elim) (fun h => absurd h (by decide)) (fun _ => trivial)
  have hp := PX_psh (kd := 22) (I := (fun _ => 0)) (J := (fun _ => 0)) (R := (fun _ => none)) hp na
  obtain ⟨u42, hu42⟩ : ∃ z, z = psh u41 (nv40 1) 22 (fun _ => 0) (fun _ => 0) (fun _ => none) := ⟨_, rfl⟩
  rw [← hu42] at hPn hDn hu hp
  have hPn : va_P D vwCl ([(q39, .inr (3, [.int 0, .int 0, .int 0, .int 0, .int 0, .int (-1), .int 0, .ref (nv40 0), .ref (nv40 1), .ref (nv40 2), .ref (nv40 3)])), ((nv40 2), .inl (k 1, 7, .inl (fun _ => 0))), ((nv40 3), .inl (k 1, 7, .inl (fun _ => 0)))] ++ PW k u42) H := hPn
  have hDn : va_D A ([(q39, .inr (3, [.int 0, .int 0, .int 0, .int 0, .int 0, .int (-1), .int 0, .ref (nv40 0), .ref (nv40 1), .ref (nv40 2), .ref (nv40 3)])), ((nv40 2), .inl (k 1, 7, .inl (fun _ => 0))), ((nv40 3), .inl (k 1, 7, .inl (fun _ => 0)))] ++ PW k u42) := hDn
  have k_h0 : u42.2.1 h0 = 2 := by rw [hu42]; exact (psh_k m_h0 na).trans k_h0
  have m_h0 : h0 ∈ u42.1 := by rw [hu42]; exact psh_m m_h0
  have k_nv40_0 : u42.2.1 (nv40 0) = 22 := by rw [hu42]; exact (psh_k m_nv40_0 na).trans k_nv40_0
  have m_nv40_0 : (nv40 0) ∈ u42.1 := by rw [hu42]; exact psh_m m_nv40_0
  have m_nv40_1 : (nv40 1) ∈ u42.1 := by rw [hu42]; exact psh_in
  have k_nv40_1 : u42.2.1 (nv40 1) = 22 := by rw [hu42]; exact psh_kd
  obtain ⟨hPn, hDn, na⟩ := psh_at (i := 1) (a := (nv40 2)) rfl hPn hDn 22 (fun _ => 0) (fun _ => 0) (fun _ => none) (by rw [cF22 psh_kd]; (try simp only [psh_I, psh_J, psh_R]) <;> rfl)
  have hu := WT_psh (kd := 22) (I := (fun _ => 0)) (J := (fun _ => 0)) (R := (fun _ => none)) hu na (fun s t h => (tk22 h).elim) (fun s t h => (tn22 h).elim) (fun h => absurd h (by decide)) (fun _ => trivial)
  have hp := PX_psh (kd := 22) (I := (fun _ => 0)) (J := (fun _ => 0)) (R := (fun _ => none)) hp na
  obtain ⟨u43, hu43⟩ : ∃ z, z = psh u42 (nv40 2) 22 (fun _ => 0) (fun _ => 0) (fun _ => none) := ⟨_, rfl⟩
  rw [← hu43] at hPn hDn hu hp
  have hPn : va_P D vwCl ([(q39, .inr (3, [.int 0, .int 0, .int 0, .int 0, .int 0, .int (-1), .int 0, .ref (nv40 0), .ref (nv40 1), .ref (nv40 2), .ref (nv40 3)])), ((nv40 3), .inl (k 1, 7, .inl (fun _ => 0)))] ++ PW k u43) H := hPn
  have hDn : va_D A ([(q39, .inr (3, [.int 0, .int 0, .int 0, .int 0, .int 0, .int (-1), .int 0, .ref (nv40 0), .ref (nv40 1), .ref (nv40 2), .ref (nv40 3)])), ((nv40 3), .inl (k 1, 7, .inl (fun _ => 0)))] ++ PW k u43) := hDn
  have k_h0 : u43.2.1 h0 = 2 := by rw [hu43]; exact (psh_k m_h0 na).trans k_h0
  have m_h0 : h0 ∈ u43.1 := by rw [hu43]; exact psh_m m_h0
  have k_nv40_0 : u43.2.1 (nv40 0) = 22 := by rw [hu43]; exact (psh_k m_nv40_0 na).trans k_nv40_0
  have m_nv40_0 : (nv40 0) ∈ u43.1 := by rw [hu43]; exact psh_m m_nv40_0
  have k_nv40_1 : u43.2.1 (nv40 1) = 22 := by rw [hu43]; exact (psh_k m_nv40_1 na).trans k_nv40_1
  have m_nv40_1 : (nv40 1) ∈ u43.1 := by rw [hu43]; exact psh_m m_nv40_1
  have m_nv40_2 : (nv40 2) ∈ u43.1 := by rw [hu43]; exact psh_in
  have k_nv40_2 : u43.2.1 (nv40 2) = 22 := by rw [hu43]; exact psh_kd
  obtain ⟨hPn, hDn, na⟩ := psh_at (i := 1) (a := (nv40 3)) rfl hPn hDn 22 (fun _ => 0) (fun _ => 0) (fun _ => none) (by rw [cF22 psh_kd]; (try simp only [psh_I, psh_J, psh_R]) <;> rfl)
  have hu := WT_psh (kd := 22) (I := (fun _ => 0)) (J := (fun _ => 0)) (R := (fun _ => none)) hu na (fun s t h => (tk22 h).elim) (fun s t h => (tn22 h).elim) (fun h => absurd h (by decide)) (fun _ => trivial)
  have hp := PX_psh (kd := 22) (I := (fun _ => 0)) (J := (fun _ => 0)) (R := (fun _ => none)) hp na
  obtain ⟨u44, hu44⟩ : ∃ z, z = psh u43 (nv40 3) 22 (fun _ => 0) (fun _ => 0) (fun _ => none) := ⟨_, rfl⟩
  rw [← hu44] at hPn hDn hu hp
  have hPn : va_P D vwCl ([(q39, .inr (3, [.int 0, .int 0, .int 0, .int 0, .int 0, .int (-1), .int 0, .ref (nv40 0), .ref (nv40 1), .ref (nv40 2), .ref (nv40 3)]))] ++ PW k u44) H := hPn
  have hDn : va_D A ([(q39, .inr (3, [.int 0, .int 0, .int 0, .int 0, .int 0, .int (-1), .int 0, .ref (nv40 0), .ref (nv40 1), .ref (nv40 2), .ref (nv40 3)]))] ++ PW k u44) := hDn
  have k_h0 : u44.2.1 h0 = 2 := by rw [hu44]; exact (psh_k m_h0 na).trans k_h0
  have m_h0 : h0 ∈ u44.1 := by rw [hu44]; exact psh_m m_h0
  have k_nv40_0 : u44.2.1 (nv40 0) = 22 := by rw [hu44]; exact (psh_k m_nv40_0 na).trans k_nv40_0
  have m_nv40_0 : (nv40 0) ∈ u44.1 := by rw [hu44]; exact psh_m m_nv40_0
  have k_nv40_1 : u44.2.1 (nv40 1) = 22 := by rw [hu44]; exact (psh_k m_nv40_1 na).trans k_nv40_1
  have m_nv40_1 : (nv40 1) ∈ u44.1 := by rw [hu44]; exact psh_m m_nv40_1
  have k_nv40_2 : u44.2.1 (nv40 2) = 22 := by rw [hu44]; exact (psh_k m_nv40_2 na).trans k_nv40_2
  have m_nv40_2 : (nv40 2) ∈ u44.1 := by rw [hu44]; exact psh_m m_nv40_2
  have m_nv40_3 : (nv40 3) ∈ u44.1 := by rw [hu44]; exact psh_in
  have k_nv40_3 : u44.2.1 (nv40 3) = 22 := by rw [hu44]; exact psh_kd
  obtain ⟨hPn, hDn, na⟩ := psh_at (i := 0) (a := q39) rfl hPn hDn 3 (fun s => ([0, 0, 0, 0, 0, (-1), 0, 0, 0, 0, 0] : List Int32).getD s 0) (fun s => ([0, 0, 0, 0, 0, 0, 0, 0, 0, 0, 0] : List Int64).getD s 0) (fun s => ([none, none, none, none, none, none, none, some (nv40 0), some (nv40 1), some (nv40 2), some (nv40 3)] : List (Option Nat)).getD s none) (by rw [cF3 psh_kd]; (try simp only [psh_I, psh_J, psh_R]) <;> rfl)
  have hu := WT_psh (kd := 3) (I := (fun s => ([0, 0, 0, 0, 0, (-1), 0, 0, 0, 0, 0] : List Int32).getD s 0)) (J := (fun s => ([0, 0, 0, 0, 0, 0, 0, 0, 0, 0, 0] : List Int64).getD s 0)) (R := (fun s => ([none, none, none, none, none, none, none, some (nv40 0), some (nv40 1), some (nv40 2), some (nv40 3)] : List (Option Nat)).getD s none)) hu na (fun s t h => by rcases tk3 h with ⟨rfl, rfl⟩ | ⟨rfl, rfl⟩ | ⟨rfl, rfl⟩ | ⟨rfl, rfl⟩; exact ⟨_, rfl, m_nv40_0, k_nv40_0⟩; exact ⟨_, rfl, m_nv40_1, k_nv40_1⟩; exact ⟨_, rfl, m_nv40_2, k_nv40_2⟩; exact ⟨_, rfl, m_nv40_3, k_nv40_3⟩) (fun s t h => (tn3 h).elim) (fun h => absurd h (by decide)) (fun _ => trivial)
  have hp := PX_psh (kd := 3) (I := (fun s => ([0, 0, 0, 0, 0, (-1), 0, 0, 0, 0, 0] : List Int32).getD s 0)) (J := (fun s => ([0, 0, 0, 0, 0, 0, 0, 0, 0, 0, 0] : List Int64).getD s 0)) (R := (fun s => ([none, none, none, none, none, none, none, some (nv40 0), some (nv40 1), some (nv40 2), some (nv40 3)] : List (Option Nat)).getD s none)) hp na
  obtain ⟨u45, hu45⟩ : ∃ z, z = psh u44 q39 3 (fun s => ([0, 0, 0, 0, 0, (-1), 0, 0, 0, 0, 0] : List Int32).getD s 0) (fun s => ([0, 0, 0, 0, 0, 0, 0, 0, 0, 0, 0] : List Int64).getD s 0) (fun s => ([none, none, none, none, none, none, none, some (nv40 0), some (nv40 1), some (nv40 2), some (nv40 3)] : List (Option Nat)).getD s none) := ⟨_, rfl⟩
  rw [← hu45] at hPn hDn hu hp
  have hPn : va_P D vwCl ([] ++ PW k u45) H := hPn
  have hDn : va_D A ([] ++ PW k u45) := hDn
  have k_h0 : u45.2.1 h0 = 2 := by rw [hu45]; exact (psh_k m_h0 na).trans k_h0
  have m_h0 : h0 ∈ u45.1 := by rw [hu45]; exact psh_m m_h0
  have k_nv40_0 : u45.2.1 (nv40 0) = 22 := by rw [hu45]; exact (psh_k m_nv40_0 na).trans k_nv40_0
  have m_nv40_0 : (nv40 0) ∈ u45.1 := by rw [hu45]; exact psh_m m_nv40_0
  have k_nv40_1 : u45.2.1 (nv40 1) = 22 := by rw [hu45]; exact (psh_k m_nv40_1 na).trans k_nv40_1
  have m_nv40_1 : (nv40 1) ∈ u45.1 := by rw [hu45]; exact psh_m m_nv40_1
  have k_nv40_2 : u45.2.1 (nv40 2) = 22 := by rw [hu45]; exact (psh_k m_nv40_2 na).trans k_nv40_2
  have m_nv40_2 : (nv40 2) ∈ u45.1 := by rw [hu45]; exact psh_m m_nv40_2
  have k_nv40_3 : u45.2.1 (nv40 3) = 22 := by rw [hu45]; exact (psh_k m_nv40_3 na).trans k_nv40_3
  have m_nv40_3 : (nv40 3) ∈ u45.1 := by rw [hu45]; exact psh_m m_nv40_3
  have m_q39 : q39 ∈ u45.1 := by rw [hu45]; exact psh_in
  have k_q39 : u45.2.1 q39 = 3 := by rw [hu45]; exact psh_kd
  have hP : va_P D vwCl (PW k u45) H := hPn
  have hD : va_D A (PW k u45) := hDn
  refine lv_astore (lv' := [(4, .ref q39), (3, .int ru36), (2, .int ru32), (1, .int ru25), (0, .ref h0)]) hx hb dX2_readPipe_83 hl (by decide) rfl (fun ls hl => ?_)
  refine lv_aload_n hx hb dX2_readPipe_85 rfl (lv_at hl 4 rfl) ?_
  refine lv_aload hx hb dX2_readPipe_86 (lv_at hl 0 rfl) ?_
  refine xvV (C := RX2) (As := [.ref q39]) (rest := []) ⟨hx, hb, hml, hown, hts⟩ (fun sz => t_X2_readMoves l D k tt u45 hu h0 m_h0 k_h0 q39 m_q39 k_q39 sz) (cwV 1 hts gX2_readPipe_X2_readMoves rfl rfl rfl (by decide +kernel) ⟨Nat.le_of_ble_eq_true rfl, Nat.le_of_ble_eq_true rfl⟩) hP hK hD hN hE hS hA (precv hK hP m_h0 (cF2 k_h0) rfl) rfl hl.1 rfl (Nat.le_of_ble_eq_true rfl) dX2_readPipe_88 ⟨Nat.le_of_ble_eq_true rfl, Nat.le_of_ble_eq_true rfl⟩ (fun u46 H locs hq hP hD hS => ?_)
  obtain ⟨hu, hxu46, hru46⟩ := hq
  have k_q39 : u46.2.1 q39 = 3 := (hxu46 q39 m_q39).2.1.trans k_q39
  have m_q39 : q39 ∈ u46.1 := (hxu46 q39 m_q39).1
  have k_h0 : u46.2.1 h0 = 2 := (hxu46 h0 m_h0).2.1.trans k_h0
  have m_h0 : h0 ∈ u46.1 := (hxu46 h0 m_h0).1
  have hp := PX.trans hp hxu46
  refine lv_aload_n hx hb dX2_readPipe_91 rfl (lv_at hl 4 rfl) ?_
  refine pget (ci := 2) (v := va_rf (u46.2.2.2.2 h0 0)) (C := RX2) (T := TX2) (N := 2) hx hb hts i_X2 hown hK hP m_h0 (cF2 k_h0) rfl 0 (by decide) (hts (.fieldLink RX2 18 "BellowsRow$Parser" "tape" "LBellowsRow$Tape;") (by decide +kernel)) (fun _ h9 => h9) rfl dX2_readPipe_92 ?_
  obtain ⟨y47, qy47, m_y47, k_y47⟩ := (hu h0 m_h0).1 0 9 (by rw [k_h0]; rfl)
  refine W.eq (g2 := F0 m 95 ls [.ref y47]) (by rw [qy47]; rfl) ?_
  refine va_ldcS (own := RX2) (tx := "bellows") (q := tt.1 14) hx hb hown (hE.2.1 (RX2, 167, "bellows", 14) (by decide +kernel)) dX2_readPipe_95 ?_
  refine xiV (C := RX9) (As := [.ref (tt.1 14)]) (rest := []) ⟨hx, hb, hml, hown, hts⟩ (fun sz => t_X9_isAt l D k tt u46 hu y47 m_y47 k_y47 14 (by decide) sz) (cwV 1 hts gX2_readPipe_X9_isAt rfl rfl rfl (by decide +kernel) ⟨Nat.le_of_ble_eq_true rfl, Nat.le_of_ble_eq_true rfl⟩) hP hK hD hN hE hS hA (precv hK hP m_y47 (cF9 k_y47) rfl) rfl hl.1 rfl (Nat.le_of_ble_eq_true rfl) dX2_readPipe_97 ⟨Nat.le_of_ble_eq_true rfl, Nat.le_of_ble_eq_true rfl⟩ (fun ru48 u48 H locs hq hP hD hS => ?_)
  obtain ⟨hu, hxu48, hru48⟩ := hq
  have k_q39 : u48.2.1 q39 = 3 := (hxu48 q39 m_q39).2.1.trans k_q39
  have m_q39 : q39 ∈ u48.1 := (hxu48 q39 m_q39).1
  have k_h0 : u48.2.1 h0 = 2 := (hxu48 h0 m_h0).2.1.trans k_h0
  have m_h0 : h0 ∈ u48.1 := (hxu48 h0 m_h0).1
  have hp := PX.trans hp hxu48
  refine lv_if_eq (tgt := 125) hx hb dX2_readPipe_100 (by decide) (fun c49 => ?_) (fun c49 => ?_)
  · exact B125 _ _ _ ls h0 ru25 ru32 ru36 q39 hu hp hP hD hS m_h0 k_h0 m_q39 k_q39 (lv_sub hl [4, 3, 2, 1, 0] rfl)
  · refine lv_aload_n hx hb dX2_readPipe_103 rfl (lv_at hl 4 rfl) ?_
    refine pget (ci := 2) (v := va_rf (u48.2.2.2.2 h0 1)) (C := RX2) (T := TX2) (N := 2) hx hb hts i_X2 hown hK hP m_h0 (cF2 k_h0) rfl 1 (by decide) (hts (.fieldLink RX2 12 "BellowsRow$Parser" "works" "LBellowsRow$Works;") (by decide +kernel)) (fun _ h9 => h9) rfl dX2_readPipe_104 ?_
    obtain ⟨y50, qy50, m_y50, k_y50⟩ := (hu h0 m_h0).1 1 10 (by rw [k_h0]; rfl)
    refine W.eq (g2 := F0 m 107 ls [.ref y50]) (by rw [qy50]; rfl) ?_
    refine lv_aload hx hb dX2_readPipe_107 (lv_at hl 0 rfl) ?_
    refine lv_iload_n hx hb dX2_readPipe_109 rfl (lv_at hl 3 rfl) ?_
    refine lv_iload_n hx hb dX2_readPipe_110 rfl (lv_at hl 2 rfl) ?_
    refine rvi (C := RX10) (As := [.ref q39, .int ru25, .int ru32]) (rest := []) ⟨hx, hb, hml, hown, hts⟩ (t_X10_comes l D k u48 hu y50 m_y50 k_y50 q39 m_q39 k_q39 ru25 ru32) (cwV 3 hts gX2_readPipe_X10_comes rfl rfl rfl (by decide +kernel) ⟨Nat.le_of_ble_eq_true rfl, Nat.le_of_ble_eq_true rfl⟩) hP hK (precv hK hP m_y50 (cF10 k_y50) rfl) rfl hl.1 rfl (Nat.le_of_ble_eq_true rfl) dX2_readPipe_111 ⟨Nat.le_of_ble_eq_true rfl, Nat.le_of_ble_eq_true rfl⟩ (fun r51 hr51 => ?_)
    refine lv_if_ne (tgt := 125) hx hb dX2_readPipe_114 (by decide) (fun c52 => ?_) (fun c52 => ?_)
    · exact B125 _ _ _ ls h0 ru25 ru32 ru36 q39 hu hp hP hD hS m_h0 k_h0 m_q39 k_q39 (lv_sub hl [4, 3, 2, 1, 0] rfl)
    · refine lv_aload_n hx hb dX2_readPipe_117 rfl (lv_at hl 4 rfl) ?_
      refine pget (ci := 2) (v := va_rf (u48.2.2.2.2 h0 0)) (C := RX2) (T := TX2) (N := 2) hx hb hts i_X2 hown hK hP m_h0 (cF2 k_h0) rfl 0 (by decide) (hts (.fieldLink RX2 18 "BellowsRow$Parser" "tape" "LBellowsRow$Tape;") (by decide +kernel)) (fun _ h9 => h9) rfl dX2_readPipe_118 ?_
      obtain ⟨y53, qy53, m_y53, k_y53⟩ := (hu h0 m_h0).1 0 9 (by rw [k_h0]; rfl)
      refine W.eq (g2 := F0 m 121 ls [.ref y53]) (by rw [qy53]; rfl) ?_
      refine lv_iconst (v := 2) hx hb dX2_readPipe_121 (by decide) ?_
      refine wvV (C := RX9) (As := [.int 2]) (rest := []) ⟨hx, hb, hml, hown, hts⟩ (fun sz => t_X9_fail l D k u48 hu y53 m_y53 k_y53 2 sz) (cwV 1 hts gX2_readPipe_X9_fail rfl rfl rfl (by decide +kernel) ⟨Nat.le_of_ble_eq_true rfl, Nat.le_of_ble_eq_true rfl⟩) hP hK hD hN hS hA (precv hK hP m_y53 (cF9 k_y53) rfl) rfl hl.1 rfl (Nat.le_of_ble_eq_true rfl) dX2_readPipe_122 ⟨Nat.le_of_ble_eq_true rfl, Nat.le_of_ble_eq_true rfl⟩ (fun u54 H locs hq hP hD hS => ?_)
      obtain ⟨hu, hxu54, hru54⟩ := hq
      have k_q39 : u54.2.1 q39 = 3 := (hxu54 q39 m_q39).2.1.trans k_q39
      have m_q39 : q39 ∈ u54.1 := (hxu54 q39 m_q39).1
      have k_h0 : u54.2.1 h0 = 2 := (hxu54 h0 m_h0).2.1.trans k_h0
      have m_h0 : h0 ∈ u54.1 := (hxu54 h0 m_h0).1
      have hp := PX.trans hp hxu54
      exact B125 _ _ _ ls h0 ru25 ru32 ru36 q39 hu hp hP hD hS m_h0 k_h0 m_q39 k_q39 (lv_sub hl [4, 3, 2, 1, 0] rfl)
set_option maxHeartbeats 4000000 in
set_option maxRecDepth 100000 in
theorem t_X2_readLine (l : Launch) (D : va_G) (k : Nat → ClassId) (tt : TT) (u0 : PSt) (hu : WT u0) (h0 : Nat) (m_h0 : h0 ∈ u0.1) (k_h0 : u0.2.1 h0 = 2) (p1 : Int32) (sz : Nat) : Met l yX2_readLine wsX2_readLine ({ frames := 8, cells := 6, slots := 46, locals := 177 }) (PreT D k tt sz (PW k u0) [.ref h0, .int p1]) (va_Qv (fun v => WT v ∧ PX u0 v ∧ True) (WB D (va_A (PW k u0) sz) (PW k)) (va_A (PW k u0) sz)) 6 46 (va_A (PW k u0) sz) := by
  refine Met.ofW (cc := cX2_readLine) (maxL := 3) (ret := none) (by decide) rfl ?_
  intro p e s m args below meth c s₁ B hml hv
  obtain ⟨rfl, hsz, hP, hK, hD0, hN, hE0⟩ := hv
  have hx := B.exec
  have hb := B.bytes
  have hr := B.returns
  have hts := atoms_spec (ws := wsX2_readLine) B.pre
  have hown : s.vm.findClass RX2 = some m.cls := findClass_of_methodNamed B.named
  have hlocks := B.notSynchronized
  have i_X10 : ∀ w ∈ wsX100, w ∈ wsX2_readLine := by decide +kernel
  have i_X2 : ∀ w ∈ wsX20, w ∈ wsX2_readLine := by decide +kernel
  have i_X9 : ∀ w ∈ wsX90, w ∈ wsX2_readLine := by decide +kernel
  subst hsz
  have hD := hD0.self (sz := s.heap.size)
  have hE := hE0
  generalize hAe : va_A (PW k u0) s.heap.size = A at hD hE ⊢
  have hA : ∀ q : Nat, s.heap.size ≤ q → A q := fun q h => by rw [← hAe]; exact Or.inr h
  have hS : va_S A s.heap s.heap [] := va_S.rf
  have hp : PX u0 u0 := PX.rf
  have B196 : ∀ (u : PSt) (H : Heap) (locs : List Loc) (ls : Array Slot) (v0 : Nat), WT u → PX u0 u → va_P D vwCl (PW k u) H → va_D A (PW k u) → va_S A s.heap H locs → v0 ∈ u.1 → u.2.1 v0 = 2 → lv_has ls 3 [(0, .ref v0)] → W p l e (headSpec wsX2_readLine ({ frames := 8, cells := 6, slots := 46, locals := 177 })).room s m ([.ref h0, .int p1] : List Value).toArray below meth c H locs (6) (46) (MQ below (va_Qv (fun v => WT v ∧ PX u0 v ∧ True) (WB D A (PW k)) A) ([.ref h0, .int p1] : List Value).toArray s 6 46 A) (F0 m 196 ls []) := by
    intro u H locs ls v0 hu hp hP hD hS m_v0 k_v0 hl
    refine lv_aload_n hx hb dX2_readLine_196 rfl (lv_at hl 0 rfl) ?_
    refine pget (ci := 2) (v := va_rf (u.2.2.2.2 v0 0)) (C := RX2) (T := TX2) (N := 2) hx hb hts i_X2 hown hK hP m_v0 (cF2 k_v0) rfl 0 (by decide) (hts (.fieldLink RX2 18 "BellowsRow$Parser" "tape" "LBellowsRow$Tape;") (by decide +kernel)) (fun _ h9 => h9) rfl dX2_readLine_197 ?_
    obtain ⟨y1, qy1, m_y1, k_y1⟩ := (hu v0 m_v0).1 0 9 (by rw [k_v0]; rfl)
    refine W.eq (g2 := F0 m 200 ls [.ref y1]) (by rw [qy1]; rfl) ?_
    refine wvV (C := RX9) (As := []) (rest := []) ⟨hx, hb, hml, hown, hts⟩ (fun sz => t_X9_expectSign l D k u hu y1 m_y1 k_y1  sz) (cwV 0 hts gX2_readLine_X9_expectSign rfl rfl rfl (by decide +kernel) ⟨Nat.le_of_ble_eq_true rfl, Nat.le_of_ble_eq_true rfl⟩) hP hK hD hN hS hA (precv hK hP m_y1 (cF9 k_y1) rfl) rfl hl.1 rfl (Nat.le_of_ble_eq_true rfl) dX2_readLine_200 ⟨Nat.le_of_ble_eq_true rfl, Nat.le_of_ble_eq_true rfl⟩ (fun u2 H locs hq hP hD hS => ?_)
    obtain ⟨hu, hxu2, hru2⟩ := hq
    have k_v0 : u2.2.1 v0 = 2 := (hxu2 v0 m_v0).2.1.trans k_v0
    have m_v0 : v0 ∈ u2.1 := (hxu2 v0 m_v0).1
    have hp := PX.trans hp hxu2
    refine lv_aload_n hx hb dX2_readLine_203 rfl (lv_at hl 0 rfl) ?_
    refine pget (ci := 2) (v := va_rf (u2.2.2.2.2 v0 1)) (C := RX2) (T := TX2) (N := 2) hx hb hts i_X2 hown hK hP m_v0 (cF2 k_v0) rfl 1 (by decide) (hts (.fieldLink RX2 12 "BellowsRow$Parser" "works" "LBellowsRow$Works;") (by decide +kernel)) (fun _ h9 => h9) rfl dX2_readLine_204 ?_
    obtain ⟨y3, qy3, m_y3, k_y3⟩ := (hu v0 m_v0).1 1 10 (by rw [k_v0]; rfl)
    refine W.eq (g2 := F0 m 207 ls [.ref y3]) (by rw [qy3]; rfl) ?_
    refine lv_dup hx hb dX2_readLine_207 rfl ?_
    refine pget (ci := 10) (v := .int (u2.2.2.1 y3 3)) (C := RX10) (T := TX10) (N := 12) hx hb hts i_X10 hown hK hP m_y3 (cF10 k_y3) rfl 3 (by decide) (hts (.fieldLink RX2 87 "BellowsRow$Works" "lines" "I") (by decide +kernel)) (fun _ h9 => h9) rfl dX2_readLine_208 ?_
    refine lv_iconst (v := 1) hx hb dX2_readLine_211 (by decide) ?_
    refine lv_iadd hx hb dX2_readLine_212 ?_
    refine lv_topi (fun x4 ex4 => ?_)
    refine pput (u' := pSI u2 y3 3 x4) (ci := 10) (v := .int x4) (ty := .int) (C := RX10) (T := TX10) (N := 12) hx hb hts i_X10 tyX10 tyX10_ok nmX10 hown hK hP hD hS m_y3 (cF10 k_y3) rfl 3 (by decide) (hts (.fieldLink RX2 87 "BellowsRow$Works" "lines" "I") (by decide +kernel)) (fun _ h9 => h9) rfl (by decide +kernel) rfl rfl (Nat.le_of_ble_eq_true rfl) rfl (sF10_3 k_y3 x4) dX2_readLine_213 (fun H locs hP hD hS => ?_)
    have hu := WT.setI (a := y3) (s := 3) (v := x4) hu (by rw [k_y3]; exact trivial)
    have hp := PX.setI (a := y3) (s := 3) (v := x4) hp (by rw [k_y3]; decide)
    obtain ⟨u5, hu5⟩ : ∃ z, z = pSI u2 y3 3 x4 := ⟨_, rfl⟩
    rw [← hu5] at hP hD hu hp
    have m_v0 : v0 ∈ u5.1 := by rw [hu5]; exact m_v0
    have k_v0 : u5.2.1 v0 = 2 := by rw [hu5]; exact k_v0
    exact W.vret hx hb hr (fun t ht hW => ⟨⟨u5, rfl, ⟨hu, hp, trivial⟩, by rw [ht]; exact hP, hD⟩, hS.F ht⟩) hS.2.2 dX2_readLine_216
  have B69 : ∀ (u : PSt) (H : Heap) (locs : List Loc) (ls : Array Slot) (v0 : Nat) (v2 : Int32), WT u → PX u0 u → va_P D vwCl (PW k u) H → va_D A (PW k u) → va_S A s.heap H locs → v0 ∈ u.1 → u.2.1 v0 = 2 → lv_has ls 3 [(0, .ref v0), (2, .int v2)] → W p l e (headSpec wsX2_readLine ({ frames := 8, cells := 6, slots := 46, locals := 177 })).room s m ([.ref h0, .int p1] : List Value).toArray below meth c H locs 0 0 (MQ below (va_Qv (fun v => WT v ∧ PX u0 v ∧ True) (WB D A (PW k)) A) ([.ref h0, .int p1] : List Value).toArray s 6 46 A) (F0 m 69 ls []) := by
    intro u H locs ls v0 v2 hu hp hP hD hS m_v0 k_v0 hl
    refine lv_aload_n hx hb dX2_readLine_69 rfl (lv_at hl 0 rfl) ?_
    refine pget (ci := 2) (v := va_rf (u.2.2.2.2 v0 0)) (C := RX2) (T := TX2) (N := 2) hx hb hts i_X2 hown hK hP m_v0 (cF2 k_v0) rfl 0 (by decide) (hts (.fieldLink RX2 18 "BellowsRow$Parser" "tape" "LBellowsRow$Tape;") (by decide +kernel)) (fun _ h9 => h9) rfl dX2_readLine_70 ?_
    obtain ⟨y6, qy6, m_y6, k_y6⟩ := (hu v0 m_v0).1 0 9 (by rw [k_v0]; rfl)
    refine W.eq (g2 := F0 m 73 ls [.ref y6]) (by rw [qy6]; rfl) ?_
    refine pget (ci := 9) (v := .int (u.2.2.1 y6 3)) (C := RX9) (T := TX9) (N := 8) hx hb hts i_X9 hown hK hP m_y6 (cF9 k_y6) rfl 3 (by decide) (hts (.fieldLink RX2 50 "BellowsRow$Tape" "fault" "I") (by decide +kernel)) (fun _ h9 => h9) rfl dX2_readLine_73 ?_
    refine lv_if_eq (tgt := 80) hx hb dX2_readLine_76 (by decide) (fun c7 => ?_) (fun c7 => ?_)
    · refine lv_aload_n hx hb dX2_readLine_80 rfl (lv_at hl 0 rfl) ?_
      refine pget (ci := 2) (v := va_rf (u.2.2.2.2 v0 0)) (C := RX2) (T := TX2) (N := 2) hx hb hts i_X2 hown hK hP m_v0 (cF2 k_v0) rfl 0 (by decide) (hts (.fieldLink RX2 18 "BellowsRow$Parser" "tape" "LBellowsRow$Tape;") (by decide +kernel)) (fun _ h9 => h9) rfl dX2_readLine_81 ?_
      obtain ⟨y8, qy8, m_y8, k_y8⟩ := (hu v0 m_v0).1 0 9 (by rw [k_v0]; rfl)
      refine W.eq (g2 := F0 m 84 ls [.ref y8]) (by rw [qy8]; rfl) ?_
      refine wvV (C := RX9) (As := []) (rest := []) ⟨hx, hb, hml, hown, hts⟩ (fun sz => t_X9_step l D k u hu y8 m_y8 k_y8  sz) (cwV 0 hts gX2_readLine_X9_step rfl rfl rfl (by decide +kernel) ⟨Nat.le_of_ble_eq_true rfl, Nat.le_of_ble_eq_true rfl⟩) hP hK hD hN hS hA (precv hK hP m_y8 (cF9 k_y8) rfl) rfl hl.1 rfl (Nat.le_of_ble_eq_true rfl) dX2_readLine_84 ⟨Nat.le_of_ble_eq_true rfl, Nat.le_of_ble_eq_true rfl⟩ (fun u9 H locs hq hP hD hS => ?_)
      obtain ⟨hu, hxu9, hru9⟩ := hq
      have k_v0 : u9.2.1 v0 = 2 := (hxu9 v0 m_v0).2.1.trans k_v0
      have m_v0 : v0 ∈ u9.1 := (hxu9 v0 m_v0).1
      have hp := PX.trans hp hxu9
      refine lv_iload_n hx hb dX2_readLine_87 rfl (lv_at hl 1 rfl) ?_
      by_cases k10 : v2 = 0
      · refine lv_tableIn (tgt := 136) hx hb dX2_readLine_88 (by rw [k10]; decide) (by rw [k10]; decide) (by rw [k10]; rfl) (by decide) ?_
        refine lv_aload_n hx hb dX2_readLine_136 rfl (lv_at hl 0 rfl) ?_
        refine xvV (C := RX2) (As := []) (rest := []) ⟨hx, hb, hml, hown, hts⟩ (fun sz => t_X2_readPot l D k tt u9 hu v0 m_v0 k_v0  sz) (cwV 0 hts gX2_readLine_X2_readPot rfl rfl rfl (by decide +kernel) ⟨Nat.le_of_ble_eq_true rfl, Nat.le_of_ble_eq_true rfl⟩) hP hK hD hN hE hS hA (precv hK hP m_v0 (cF2 k_v0) rfl) rfl hl.1 rfl (Nat.le_of_ble_eq_true rfl) dX2_readLine_137 ⟨Nat.le_of_ble_eq_true rfl, Nat.le_of_ble_eq_true rfl⟩ (fun u11 H locs hq hP hD hS => ?_)
        obtain ⟨hu, hxu11, hru11⟩ := hq
        have k_v0 : u11.2.1 v0 = 2 := (hxu11 v0 m_v0).2.1.trans k_v0
        have m_v0 : v0 ∈ u11.1 := (hxu11 v0 m_v0).1
        have hp := PX.trans hp hxu11
        refine lv_goto (tgt := 196) hx hb dX2_readLine_140 (by decide) ?_
        refine W.widen (k := 6) (n := 46) (Nat.le_of_ble_eq_true rfl) (Nat.le_of_ble_eq_true rfl) ?_
        exact B196 _ _ _ ls v0 hu hp hP hD hS m_v0 k_v0 (lv_sub hl [0] rfl)
      by_cases k12 : v2 = 1
      · refine lv_tableIn (tgt := 143) hx hb dX2_readLine_88 (by rw [k12]; decide) (by rw [k12]; decide) (by rw [k12]; rfl) (by decide) ?_
        refine lv_aload_n hx hb dX2_readLine_143 rfl (lv_at hl 0 rfl) ?_
        refine xvV (C := RX2) (As := []) (rest := []) ⟨hx, hb, hml, hown, hts⟩ (fun sz => t_X2_readPipe l D k tt u9 hu v0 m_v0 k_v0  sz) (cwV 0 hts gX2_readLine_X2_readPipe rfl rfl rfl (by decide +kernel) ⟨Nat.le_of_ble_eq_true rfl, Nat.le_of_ble_eq_true rfl⟩) hP hK hD hN hE hS hA (precv hK hP m_v0 (cF2 k_v0) rfl) rfl hl.1 rfl (Nat.le_of_ble_eq_true rfl) dX2_readLine_144 ⟨Nat.le_of_ble_eq_true rfl, Nat.le_of_ble_eq_true rfl⟩ (fun u13 H locs hq hP hD hS => ?_)
        obtain ⟨hu, hxu13, hru13⟩ := hq
        have k_v0 : u13.2.1 v0 = 2 := (hxu13 v0 m_v0).2.1.trans k_v0
        have m_v0 : v0 ∈ u13.1 := (hxu13 v0 m_v0).1
        have hp := PX.trans hp hxu13
        refine lv_goto (tgt := 196) hx hb dX2_readLine_147 (by decide) ?_
        exact B196 _ _ _ ls v0 hu hp hP hD hS m_v0 k_v0 (lv_sub hl [0] rfl)
      by_cases k14 : v2 = 2
      · refine lv_tableIn (tgt := 150) hx hb dX2_readLine_88 (by rw [k14]; decide) (by rw [k14]; decide) (by rw [k14]; rfl) (by decide) ?_
        refine lv_aload_n hx hb dX2_readLine_150 rfl (lv_at hl 0 rfl) ?_
        refine xvV (C := RX2) (As := []) (rest := []) ⟨hx, hb, hml, hown, hts⟩ (fun sz => t_X2_readRun l D k tt u9 hu v0 m_v0 k_v0  sz) (cwV 0 hts gX2_readLine_X2_readRun rfl rfl rfl (by decide +kernel) ⟨Nat.le_of_ble_eq_true rfl, Nat.le_of_ble_eq_true rfl⟩) hP hK hD hN hE hS hA (precv hK hP m_v0 (cF2 k_v0) rfl) rfl hl.1 rfl (Nat.le_of_ble_eq_true rfl) dX2_readLine_151 ⟨Nat.le_of_ble_eq_true rfl, Nat.le_of_ble_eq_true rfl⟩ (fun u15 H locs hq hP hD hS => ?_)
        obtain ⟨hu, hxu15, hru15⟩ := hq
        have k_v0 : u15.2.1 v0 = 2 := (hxu15 v0 m_v0).2.1.trans k_v0
        have m_v0 : v0 ∈ u15.1 := (hxu15 v0 m_v0).1
        have hp := PX.trans hp hxu15
        refine lv_goto (tgt := 196) hx hb dX2_readLine_154 (by decide) ?_
        refine W.widen (k := 6) (n := 46) (Nat.le_of_ble_eq_true rfl) (Nat.le_of_ble_eq_true rfl) ?_
        exact B196 _ _ _ ls v0 hu hp hP hD hS m_v0 k_v0 (lv_sub hl [0] rfl)
      by_cases k16 : v2 = 3
      · refine lv_tableIn (tgt := 157) hx hb dX2_readLine_88 (by rw [k16]; decide) (by rw [k16]; decide) (by rw [k16]; rfl) (by decide) ?_
        refine lv_aload_n hx hb dX2_readLine_157 rfl (lv_at hl 0 rfl) ?_
        refine xvV (C := RX2) (As := []) (rest := []) ⟨hx, hb, hml, hown, hts⟩ (fun sz => t_X2_readSwing l D k tt u9 hu v0 m_v0 k_v0  sz) (cwV 0 hts gX2_readLine_X2_readSwing rfl rfl rfl (by decide +kernel) ⟨Nat.le_of_ble_eq_true rfl, Nat.le_of_ble_eq_true rfl⟩) hP hK hD hN hE hS hA (precv hK hP m_v0 (cF2 k_v0) rfl) rfl hl.1 rfl (Nat.le_of_ble_eq_true rfl) dX2_readLine_158 ⟨Nat.le_of_ble_eq_true rfl, Nat.le_of_ble_eq_true rfl⟩ (fun u17 H locs hq hP hD hS => ?_)
        obtain ⟨hu, hxu17, hru17⟩ := hq
        have k_v0 : u17.2.1 v0 = 2 := (hxu17 v0 m_v0).2.1.trans k_v0
        have m_v0 : v0 ∈ u17.1 := (hxu17 v0 m_v0).1
        have hp := PX.trans hp hxu17
        refine lv_goto (tgt := 196) hx hb dX2_readLine_161 (by decide) ?_
        refine W.widen (k := 6) (n := 46) (Nat.le_of_ble_eq_true rfl) (Nat.le_of_ble_eq_true rfl) ?_
        exact B196 _ _ _ ls v0 hu hp hP hD hS m_v0 k_v0 (lv_sub hl [0] rfl)
      by_cases k18 : v2 = 4
      · refine lv_tableIn (tgt := 164) hx hb dX2_readLine_88 (by rw [k18]; decide) (by rw [k18]; decide) (by rw [k18]; rfl) (by decide) ?_
        refine lv_aload_n hx hb dX2_readLine_164 rfl (lv_at hl 0 rfl) ?_
        refine xvV (C := RX2) (As := []) (rest := []) ⟨hx, hb, hml, hown, hts⟩ (fun sz => t_X2_readWind l D k tt u9 hu v0 m_v0 k_v0  sz) (cwV 0 hts gX2_readLine_X2_readWind rfl rfl rfl (by decide +kernel) ⟨Nat.le_of_ble_eq_true rfl, Nat.le_of_ble_eq_true rfl⟩) hP hK hD hN hE hS hA (precv hK hP m_v0 (cF2 k_v0) rfl) rfl hl.1 rfl (Nat.le_of_ble_eq_true rfl) dX2_readLine_165 ⟨Nat.le_of_ble_eq_true rfl, Nat.le_of_ble_eq_true rfl⟩ (fun u19 H locs hq hP hD hS => ?_)
        obtain ⟨hu, hxu19, hru19⟩ := hq
        have k_v0 : u19.2.1 v0 = 2 := (hxu19 v0 m_v0).2.1.trans k_v0
        have m_v0 : v0 ∈ u19.1 := (hxu19 v0 m_v0).1
        have hp := PX.trans hp hxu19
        refine lv_goto (tgt := 196) hx hb dX2_readLine_168 (by decide) ?_
        refine W.widen (k := 6) (n := 46) (Nat.le_of_ble_eq_true rfl) (Nat.le_of_ble_eq_true rfl) ?_
        exact B196 _ _ _ ls v0 hu hp hP hD hS m_v0 k_v0 (lv_sub hl [0] rfl)
      by_cases k20 : v2 = 5
      · refine lv_tableIn (tgt := 171) hx hb dX2_readLine_88 (by rw [k20]; decide) (by rw [k20]; decide) (by rw [k20]; rfl) (by decide) ?_
        refine lv_aload_n hx hb dX2_readLine_171 rfl (lv_at hl 0 rfl) ?_
        refine xvV (C := RX2) (As := []) (rest := []) ⟨hx, hb, hml, hown, hts⟩ (fun sz => t_X2_readRoom l D k tt u9 hu v0 m_v0 k_v0  sz) (cwV 0 hts gX2_readLine_X2_readRoom rfl rfl rfl (by decide +kernel) ⟨Nat.le_of_ble_eq_true rfl, Nat.le_of_ble_eq_true rfl⟩) hP hK hD hN hE hS hA (precv hK hP m_v0 (cF2 k_v0) rfl) rfl hl.1 rfl (Nat.le_of_ble_eq_true rfl) dX2_readLine_172 ⟨Nat.le_of_ble_eq_true rfl, Nat.le_of_ble_eq_true rfl⟩ (fun u21 H locs hq hP hD hS => ?_)
        obtain ⟨hu, hxu21, hru21⟩ := hq
        have k_v0 : u21.2.1 v0 = 2 := (hxu21 v0 m_v0).2.1.trans k_v0
        have m_v0 : v0 ∈ u21.1 := (hxu21 v0 m_v0).1
        have hp := PX.trans hp hxu21
        refine lv_goto (tgt := 196) hx hb dX2_readLine_175 (by decide) ?_
        refine W.widen (k := 6) (n := 46) (Nat.le_of_ble_eq_true rfl) (Nat.le_of_ble_eq_true rfl) ?_
        exact B196 _ _ _ ls v0 hu hp hP hD hS m_v0 k_v0 (lv_sub hl [0] rfl)
      by_cases k22 : v2 = 6
      · refine lv_tableIn (tgt := 178) hx hb dX2_readLine_88 (by rw [k22]; decide) (by rw [k22]; decide) (by rw [k22]; rfl) (by decide) ?_
        refine lv_aload_n hx hb dX2_readLine_178 rfl (lv_at hl 0 rfl) ?_
        refine xvV (C := RX2) (As := []) (rest := []) ⟨hx, hb, hml, hown, hts⟩ (fun sz => t_X2_readPerson l D k tt u9 hu v0 m_v0 k_v0  sz) (cwV 0 hts gX2_readLine_X2_readPerson rfl rfl rfl (by decide +kernel) ⟨Nat.le_of_ble_eq_true rfl, Nat.le_of_ble_eq_true rfl⟩) hP hK hD hN hE hS hA (precv hK hP m_v0 (cF2 k_v0) rfl) rfl hl.1 rfl (Nat.le_of_ble_eq_true rfl) dX2_readLine_179 ⟨Nat.le_of_ble_eq_true rfl, Nat.le_of_ble_eq_true rfl⟩ (fun u23 H locs hq hP hD hS => ?_)
        obtain ⟨hu, hxu23, hru23⟩ := hq
        have k_v0 : u23.2.1 v0 = 2 := (hxu23 v0 m_v0).2.1.trans k_v0
        have m_v0 : v0 ∈ u23.1 := (hxu23 v0 m_v0).1
        have hp := PX.trans hp hxu23
        refine lv_goto (tgt := 196) hx hb dX2_readLine_182 (by decide) ?_
        refine W.widen (k := 6) (n := 46) (Nat.le_of_ble_eq_true rfl) (Nat.le_of_ble_eq_true rfl) ?_
        exact B196 _ _ _ ls v0 hu hp hP hD hS m_v0 k_v0 (lv_sub hl [0] rfl)
      by_cases k24 : v2 = 7
      · refine lv_tableIn (tgt := 185) hx hb dX2_readLine_88 (by rw [k24]; decide) (by rw [k24]; decide) (by rw [k24]; rfl) (by decide) ?_
        refine lv_aload_n hx hb dX2_readLine_185 rfl (lv_at hl 0 rfl) ?_
        refine xvV (C := RX2) (As := []) (rest := []) ⟨hx, hb, hml, hown, hts⟩ (fun sz => t_X2_readRule l D k tt u9 hu v0 m_v0 k_v0  sz) (cwV 0 hts gX2_readLine_X2_readRule rfl rfl rfl (by decide +kernel) ⟨Nat.le_of_ble_eq_true rfl, Nat.le_of_ble_eq_true rfl⟩) hP hK hD hN hE hS hA (precv hK hP m_v0 (cF2 k_v0) rfl) rfl hl.1 rfl (Nat.le_of_ble_eq_true rfl) dX2_readLine_186 ⟨Nat.le_of_ble_eq_true rfl, Nat.le_of_ble_eq_true rfl⟩ (fun u25 H locs hq hP hD hS => ?_)
        obtain ⟨hu, hxu25, hru25⟩ := hq
        have k_v0 : u25.2.1 v0 = 2 := (hxu25 v0 m_v0).2.1.trans k_v0
        have m_v0 : v0 ∈ u25.1 := (hxu25 v0 m_v0).1
        have hp := PX.trans hp hxu25
        refine lv_goto (tgt := 196) hx hb dX2_readLine_189 (by decide) ?_
        refine W.widen (k := 6) (n := 46) (Nat.le_of_ble_eq_true rfl) (Nat.le_of_ble_eq_true rfl) ?_
        exact B196 _ _ _ ls v0 hu hp hP hD hS m_v0 k_v0 (lv_sub hl [0] rfl)
      have zk10 : ¬ v2.toInt = 0 := fun z => k10 (Int32.toInt_inj.mp (z.trans (by decide)))
      have zk12 : ¬ v2.toInt = 1 := fun z => k12 (Int32.toInt_inj.mp (z.trans (by decide)))
      have zk14 : ¬ v2.toInt = 2 := fun z => k14 (Int32.toInt_inj.mp (z.trans (by decide)))
      have zk16 : ¬ v2.toInt = 3 := fun z => k16 (Int32.toInt_inj.mp (z.trans (by decide)))
      have zk18 : ¬ v2.toInt = 4 := fun z => k18 (Int32.toInt_inj.mp (z.trans (by decide)))
      have zk20 : ¬ v2.toInt = 5 := fun z => k20 (Int32.toInt_inj.mp (z.trans (by decide)))
      have zk22 : ¬ v2.toInt = 6 := fun z => k22 (Int32.toInt_inj.mp (z.trans (by decide)))
      have zk24 : ¬ v2.toInt = 7 := fun z => k24 (Int32.toInt_inj.mp (z.trans (by decide)))
      refine lv_tableOut (tgt := 192) hx hb dX2_readLine_88 (by omega) (by decide) ?_
      refine lv_aload_n hx hb dX2_readLine_192 rfl (lv_at hl 0 rfl) ?_
      refine xvV (C := RX2) (As := []) (rest := []) ⟨hx, hb, hml, hown, hts⟩ (fun sz => t_X2_readChange l D k tt u9 hu v0 m_v0 k_v0  sz) (cwV 0 hts gX2_readLine_X2_readChange rfl rfl rfl (by decide +kernel) ⟨Nat.le_of_ble_eq_true rfl, Nat.le_of_ble_eq_true rfl⟩) hP hK hD hN hE hS hA (precv hK hP m_v0 (cF2 k_v0) rfl) rfl hl.1 rfl (Nat.le_of_ble_eq_true rfl) dX2_readLine_193 ⟨Nat.le_of_ble_eq_true rfl, Nat.le_of_ble_eq_true rfl⟩ (fun u26 H locs hq hP hD hS => ?_)
      obtain ⟨hu, hxu26, hru26⟩ := hq
      have k_v0 : u26.2.1 v0 = 2 := (hxu26 v0 m_v0).2.1.trans k_v0
      have m_v0 : v0 ∈ u26.1 := (hxu26 v0 m_v0).1
      have hp := PX.trans hp hxu26
      refine W.widen (k := 6) (n := 46) (Nat.le_of_ble_eq_true rfl) (Nat.le_of_ble_eq_true rfl) ?_
      exact B196 _ _ _ ls v0 hu hp hP hD hS m_v0 k_v0 (lv_sub hl [0] rfl)
    · refine W.widen (k := 6) (n := 46) (Nat.le_of_ble_eq_true rfl) (Nat.le_of_ble_eq_true rfl) ?_
      exact W.vret hx hb hr (fun t ht hW => ⟨⟨u, rfl, ⟨hu, hp, trivial⟩, by rw [ht]; exact hP, hD⟩, hS.F ht⟩) hS.2.2 dX2_readLine_79
  have B61 : ∀ (u : PSt) (H : Heap) (locs : List Loc) (ls : Array Slot) (v0 : Nat) (v2 : Int32), WT u → PX u0 u → va_P D vwCl (PW k u) H → va_D A (PW k u) → va_S A s.heap H locs → v0 ∈ u.1 → u.2.1 v0 = 2 → lv_has ls 3 [(0, .ref v0), (2, .int v2)] → W p l e (headSpec wsX2_readLine ({ frames := 8, cells := 6, slots := 46, locals := 177 })).room s m ([.ref h0, .int p1] : List Value).toArray below meth c H locs 0 0 (MQ below (va_Qv (fun v => WT v ∧ PX u0 v ∧ True) (WB D A (PW k)) A) ([.ref h0, .int p1] : List Value).toArray s 6 46 A) (F0 m 61 ls []) := by
    intro u H locs ls v0 v2 hu hp hP hD hS m_v0 k_v0 hl
    refine lv_aload_n hx hb dX2_readLine_61 rfl (lv_at hl 0 rfl) ?_
    refine pget (ci := 2) (v := va_rf (u.2.2.2.2 v0 0)) (C := RX2) (T := TX2) (N := 2) hx hb hts i_X2 hown hK hP m_v0 (cF2 k_v0) rfl 0 (by decide) (hts (.fieldLink RX2 18 "BellowsRow$Parser" "tape" "LBellowsRow$Tape;") (by decide +kernel)) (fun _ h9 => h9) rfl dX2_readLine_62 ?_
    obtain ⟨y27, qy27, m_y27, k_y27⟩ := (hu v0 m_v0).1 0 9 (by rw [k_v0]; rfl)
    refine W.eq (g2 := F0 m 65 ls [.ref y27]) (by rw [qy27]; rfl) ?_
    refine lv_iconst (v := 3) hx hb dX2_readLine_65 (by decide) ?_
    refine wvV (C := RX9) (As := [.int 3]) (rest := []) ⟨hx, hb, hml, hown, hts⟩ (fun sz => t_X9_fail l D k u hu y27 m_y27 k_y27 3 sz) (cwV 1 hts gX2_readLine_X9_fail rfl rfl rfl (by decide +kernel) ⟨Nat.le_of_ble_eq_true rfl, Nat.le_of_ble_eq_true rfl⟩) hP hK hD hN hS hA (precv hK hP m_y27 (cF9 k_y27) rfl) rfl hl.1 rfl (Nat.le_of_ble_eq_true rfl) dX2_readLine_66 ⟨Nat.le_of_ble_eq_true rfl, Nat.le_of_ble_eq_true rfl⟩ (fun u28 H locs hq hP hD hS => ?_)
    obtain ⟨hu, hxu28, hru28⟩ := hq
    have k_v0 : u28.2.1 v0 = 2 := (hxu28 v0 m_v0).2.1.trans k_v0
    have m_v0 : v0 ∈ u28.1 := (hxu28 v0 m_v0).1
    have hp := PX.trans hp hxu28
    exact B69 _ _ _ ls v0 v2 hu hp hP hD hS m_v0 k_v0 (lv_sub hl [0, 1] rfl)
  have B47 : ∀ (u : PSt) (H : Heap) (locs : List Loc) (ls : Array Slot) (v0 : Nat) (v1 : Int32) (v2 : Int32), WT u → PX u0 u → va_P D vwCl (PW k u) H → va_D A (PW k u) → va_S A s.heap H locs → v0 ∈ u.1 → u.2.1 v0 = 2 → lv_has ls 3 [(0, .ref v0), (1, .int v1), (2, .int v2)] → W p l e (headSpec wsX2_readLine ({ frames := 8, cells := 6, slots := 46, locals := 177 })).room s m ([.ref h0, .int p1] : List Value).toArray below meth c H locs 0 0 (MQ below (va_Qv (fun v => WT v ∧ PX u0 v ∧ True) (WB D A (PW k)) A) ([.ref h0, .int p1] : List Value).toArray s 6 46 A) (F0 m 47 ls []) := by
    intro u H locs ls v0 v1 v2 hu hp hP hD hS m_v0 k_v0 hl
    refine lv_iload_n hx hb dX2_readLine_47 rfl (lv_at hl 1 rfl) ?_
    refine lv_bipush (v := 60) hx hb dX2_readLine_48 (by decide) ?_
    refine lv_icmp_ge (tgt := 61) hx hb dX2_readLine_50 (by decide) (fun c29 => ?_) (fun c29 => ?_)
    · exact B61 _ _ _ ls v0 v2 hu hp hP hD hS m_v0 k_v0 (lv_sub hl [0, 2] rfl)
    · refine lv_aload_n hx hb dX2_readLine_53 rfl (lv_at hl 0 rfl) ?_
      refine lv_iload_n hx hb dX2_readLine_54 rfl (lv_at hl 2 rfl) ?_
      refine rvi (C := RX2) (As := [.int v2]) (rest := []) ⟨hx, hb, hml, hown, hts⟩ (t_X2_isFull l D k u hu v0 m_v0 k_v0 v2) (cwV 1 hts gX2_readLine_X2_isFull rfl rfl rfl (by decide +kernel) ⟨Nat.le_of_ble_eq_true rfl, Nat.le_of_ble_eq_true rfl⟩) hP hK (precv hK hP m_v0 (cF2 k_v0) rfl) rfl hl.1 rfl (Nat.le_of_ble_eq_true rfl) dX2_readLine_55 ⟨Nat.le_of_ble_eq_true rfl, Nat.le_of_ble_eq_true rfl⟩ (fun r30 hr30 => ?_)
      refine lv_if_eq (tgt := 69) hx hb dX2_readLine_58 (by decide) (fun c31 => ?_) (fun c31 => ?_)
      · exact B69 _ _ _ ls v0 v2 hu hp hP hD hS m_v0 k_v0 (lv_sub hl [0, 2] rfl)
      · exact B61 _ _ _ ls v0 v2 hu hp hP hD hS m_v0 k_v0 (lv_sub hl [0, 2] rfl)
  have hl := lv_entry ([.ref h0, .int p1]) (n := 3) (Nat.le_of_ble_eq_true rfl)
  rw [lg_entry_eq]
  generalize (lg_sl ([.ref h0, .int p1]) ++ List.replicate (3 - (lg_sl ([.ref h0, .int p1])).length) Slot.unset).toArray = ls at hl ⊢
  have hl : lv_has ls 3 [(0, .ref h0), (1, .int p1)] := hl
  refine lv_aload_n hx hb dX2_readLine_0 rfl (lv_at hl 0 rfl) ?_
  refine xiV (C := RX2) (As := []) (rest := []) ⟨hx, hb, hml, hown, hts⟩ (fun sz => t_X2_kindOfLine l D k tt u0 hu h0 m_h0 k_h0  sz) (cwV 0 hts gX2_readLine_X2_kindOfLine rfl rfl rfl (by decide +kernel) ⟨Nat.le_of_ble_eq_true rfl, Nat.le_of_ble_eq_true rfl⟩) hP hK hD hN hE hS hA (precv hK hP m_h0 (cF2 k_h0) rfl) rfl hl.1 rfl (Nat.le_of_ble_eq_true rfl) dX2_readLine_1 ⟨Nat.le_of_ble_eq_true rfl, Nat.le_of_ble_eq_true rfl⟩ (fun ru32 u32 H locs hq hP hD hS => ?_)
  obtain ⟨hu, hxu32, hru32⟩ := hq
  have k_h0 : u32.2.1 h0 = 2 := (hxu32 h0 m_h0).2.1.trans k_h0
  have m_h0 : h0 ∈ u32.1 := (hxu32 h0 m_h0).1
  have hp := PX.trans hp hxu32
  refine lv_istore_n (lv' := [(2, .int ru32), (0, .ref h0), (1, .int p1)]) hx hb dX2_readLine_4 rfl hl (by decide) rfl (fun ls hl => ?_)
  refine lv_iload_n hx hb dX2_readLine_5 rfl (lv_at hl 0 rfl) ?_
  refine lv_iconst (v := (-1)) hx hb dX2_readLine_6 (by decide) ?_
  refine lv_icmp_ne (tgt := 21) hx hb dX2_readLine_7 (by decide) (fun c33 => ?_) (fun c33 => ?_)
  · refine lv_iload_n hx hb dX2_readLine_21 rfl (lv_at hl 0 rfl) ?_
    refine lv_iconst (v := 4) hx hb dX2_readLine_22 (by decide) ?_
    refine lv_icmp_ne (tgt := 47) hx hb dX2_readLine_23 (by decide) (fun c34 => ?_) (fun c34 => ?_)
    · exact B47 _ _ _ ls h0 p1 ru32 hu hp hP hD hS m_h0 k_h0 (lv_sub hl [1, 2, 0] rfl)
    · refine lv_aload_n hx hb dX2_readLine_26 rfl (lv_at hl 1 rfl) ?_
      refine pget (ci := 2) (v := va_rf (u32.2.2.2.2 h0 1)) (C := RX2) (T := TX2) (N := 2) hx hb hts i_X2 hown hK hP m_h0 (cF2 k_h0) rfl 1 (by decide) (hts (.fieldLink RX2 12 "BellowsRow$Parser" "works" "LBellowsRow$Works;") (by decide +kernel)) (fun _ h9 => h9) rfl dX2_readLine_27 ?_
      obtain ⟨y35, qy35, m_y35, k_y35⟩ := (hu h0 m_h0).1 1 10 (by rw [k_h0]; rfl)
      refine W.eq (g2 := F0 m 30 ls [.ref y35]) (by rw [qy35]; rfl) ?_
      refine pget (ci := 10) (v := .int (u32.2.2.1 y35 6)) (C := RX10) (T := TX10) (N := 12) hx hb hts i_X10 hown hK hP m_y35 (cF10 k_y35) rfl 6 (by decide) (hts (.fieldLink RX2 42 "BellowsRow$Works" "windTold" "Z") (by decide +kernel)) (fun _ h9 => h9) rfl dX2_readLine_30 ?_
      have g36 := (hu y35 m_y35).2.2.2 6
      rw [k_y35] at g36
      replace g36 : 0 ≤ (u32.2.2.1 y35 6).toInt ∧ (u32.2.2.1 y35 6).toInt ≤ 1 := g36
      refine lv_if_eq (tgt := 47) hx hb dX2_readLine_33 (by decide) (fun c37 => ?_) (fun c37 => ?_)
      · exact B47 _ _ _ ls h0 p1 ru32 hu hp hP hD hS m_h0 k_h0 (lv_sub hl [1, 2, 0] rfl)
      · refine lv_aload_n hx hb dX2_readLine_36 rfl (lv_at hl 1 rfl) ?_
        refine pget (ci := 2) (v := va_rf (u32.2.2.2.2 h0 0)) (C := RX2) (T := TX2) (N := 2) hx hb hts i_X2 hown hK hP m_h0 (cF2 k_h0) rfl 0 (by decide) (hts (.fieldLink RX2 18 "BellowsRow$Parser" "tape" "LBellowsRow$Tape;") (by decide +kernel)) (fun _ h9 => h9) rfl dX2_readLine_37 ?_
        obtain ⟨y38, qy38, m_y38, k_y38⟩ := (hu h0 m_h0).1 0 9 (by rw [k_h0]; rfl)
        refine W.eq (g2 := F0 m 40 ls [.ref y38]) (by rw [qy38]; rfl) ?_
        refine lv_iconst (v := 2) hx hb dX2_readLine_40 (by decide) ?_
        refine wvV (C := RX9) (As := [.int 2]) (rest := []) ⟨hx, hb, hml, hown, hts⟩ (fun sz => t_X9_fail l D k u32 hu y38 m_y38 k_y38 2 sz) (cwV 1 hts gX2_readLine_X9_fail rfl rfl rfl (by decide +kernel) ⟨Nat.le_of_ble_eq_true rfl, Nat.le_of_ble_eq_true rfl⟩) hP hK hD hN hS hA (precv hK hP m_y38 (cF9 k_y38) rfl) rfl hl.1 rfl (Nat.le_of_ble_eq_true rfl) dX2_readLine_41 ⟨Nat.le_of_ble_eq_true rfl, Nat.le_of_ble_eq_true rfl⟩ (fun u39 H locs hq hP hD hS => ?_)
        obtain ⟨hu, hxu39, hru39⟩ := hq
        have k_h0 : u39.2.1 h0 = 2 := (hxu39 h0 m_h0).2.1.trans k_h0
        have m_h0 : h0 ∈ u39.1 := (hxu39 h0 m_h0).1
        have hp := PX.trans hp hxu39
        refine lv_goto (tgt := 69) hx hb dX2_readLine_44 (by decide) ?_
        exact B69 _ _ _ ls h0 ru32 hu hp hP hD hS m_h0 k_h0 (lv_sub hl [1, 0] rfl)
  · refine lv_aload_n hx hb dX2_readLine_10 rfl (lv_at hl 1 rfl) ?_
    refine pget (ci := 2) (v := va_rf (u32.2.2.2.2 h0 0)) (C := RX2) (T := TX2) (N := 2) hx hb hts i_X2 hown hK hP m_h0 (cF2 k_h0) rfl 0 (by decide) (hts (.fieldLink RX2 18 "BellowsRow$Parser" "tape" "LBellowsRow$Tape;") (by decide +kernel)) (fun _ h9 => h9) rfl dX2_readLine_11 ?_
    obtain ⟨y40, qy40, m_y40, k_y40⟩ := (hu h0 m_h0).1 0 9 (by rw [k_h0]; rfl)
    refine W.eq (g2 := F0 m 14 ls [.ref y40]) (by rw [qy40]; rfl) ?_
    refine lv_iconst (v := 1) hx hb dX2_readLine_14 (by decide) ?_
    refine wvV (C := RX9) (As := [.int 1]) (rest := []) ⟨hx, hb, hml, hown, hts⟩ (fun sz => t_X9_fail l D k u32 hu y40 m_y40 k_y40 1 sz) (cwV 1 hts gX2_readLine_X9_fail rfl rfl rfl (by decide +kernel) ⟨Nat.le_of_ble_eq_true rfl, Nat.le_of_ble_eq_true rfl⟩) hP hK hD hN hS hA (precv hK hP m_y40 (cF9 k_y40) rfl) rfl hl.1 rfl (Nat.le_of_ble_eq_true rfl) dX2_readLine_15 ⟨Nat.le_of_ble_eq_true rfl, Nat.le_of_ble_eq_true rfl⟩ (fun u41 H locs hq hP hD hS => ?_)
    obtain ⟨hu, hxu41, hru41⟩ := hq
    have k_h0 : u41.2.1 h0 = 2 := (hxu41 h0 m_h0).2.1.trans k_h0
    have m_h0 : h0 ∈ u41.1 := (hxu41 h0 m_h0).1
    have hp := PX.trans hp hxu41
    refine lv_goto (tgt := 69) hx hb dX2_readLine_18 (by decide) ?_
    exact B69 _ _ _ ls h0 ru32 hu hp hP hD hS m_h0 k_h0 (lv_sub hl [1, 0] rfl)
set_option maxRecDepth 20000 in
def wpX2_readWorks : List Cond := .code yX2_readWorks cX2_readWorks 2 (some (.object "BellowsRow$Works")) :: (([.fieldLink RX2 12 "BellowsRow$Parser" "works" "LBellowsRow$Works;", .fieldLink RX2 18 "BellowsRow$Parser" "tape" "LBellowsRow$Tape;"] ++ wsX20) ++ ((wsV RX2 27 RX9 yX9_goesOn wsX9_goesOn) ++ ((wsV RX2 31 RX2 yX2_readLine wsX2_readLine) ++ ((wsV RX2 22 RX9 yX9_begin wsX9_begin) ++ []))))
set_option maxRecDepth 20000 in
theorem gpX2_readWorks_X9_goesOn : GoodIn wpX2_readWorks (wsV RX2 27 RX9 yX9_goesOn wsX9_goesOn) := fun w hw => ⟨List.mem_cons_of_mem _ (List.mem_append_right _ (List.mem_append_left _ hw)), (goodIn_self (ws := (wsV RX2 27 RX9 yX9_goesOn wsX9_goesOn)) (by decide +kernel) w hw).2⟩
set_option maxRecDepth 20000 in
theorem gpX2_readWorks_X2_readLine : GoodIn wpX2_readWorks (wsV RX2 31 RX2 yX2_readLine wsX2_readLine) := fun w hw => ⟨List.mem_cons_of_mem _ (List.mem_append_right _ (List.mem_append_right _ (List.mem_append_left _ hw))), (goodIn_self (ws := (wsV RX2 31 RX2 yX2_readLine wsX2_readLine)) (by decide +kernel) w hw).2⟩
set_option maxRecDepth 20000 in
theorem gpX2_readWorks_X9_begin : GoodIn wpX2_readWorks (wsV RX2 22 RX9 yX9_begin wsX9_begin) := fun w hw => ⟨List.mem_cons_of_mem _ (List.mem_append_right _ (List.mem_append_right _ (List.mem_append_right _ (List.mem_append_left _ hw)))), (goodIn_self (ws := (wsV RX2 22 RX9 yX9_begin wsX9_begin)) (by decide +kernel) w hw).2⟩
set_option maxHeartbeats 4000000 in
set_option maxRecDepth 100000 in
theorem t_X2_readWorks (l : Launch) (D : va_G) (k : Nat → ClassId) (tt : TT) (u0 : PSt) (hu : WT u0) (h0 : Nat) (m_h0 : h0 ∈ u0.1) (k_h0 : u0.2.1 h0 = 2) (sz : Nat) : Met l yX2_readWorks wpX2_readWorks ({ frames := 9, cells := 366, slots := 2806, locals := 199 }) (PreT D k tt sz (PW k u0) [.ref h0]) (va_Qq (fun r v => WT v ∧ PX u0 v ∧ ∃ y, r = some y ∧ y ∈ v.1 ∧ v.2.1 y = 10) (WB D (va_A (PW k u0) sz) (PW k)) (va_A (PW k u0) sz)) 366 2806 (va_A (PW k u0) sz) := by
  refine Met.ofW (cc := cX2_readWorks) (maxL := 2) (ret := (some (.object "BellowsRow$Works"))) (by decide) rfl ?_
  intro p e s m args below meth c s₁ B hml hv
  obtain ⟨rfl, hsz, hP, hK, hD0, hN, hE0⟩ := hv
  have hx := B.exec
  have hb := B.bytes
  have hr := B.returns
  have hts := atoms_spec (ws := wpX2_readWorks) B.pre
  have hown : s.vm.findClass RX2 = some m.cls := findClass_of_methodNamed B.named
  have hlocks := B.notSynchronized
  have i_X2 : ∀ w ∈ wsX20, w ∈ wpX2_readWorks := by decide +kernel
  subst hsz
  have hD := hD0.self (sz := s.heap.size)
  have hE := hE0
  generalize hAe : va_A (PW k u0) s.heap.size = A at hD hE ⊢
  have hA : ∀ q : Nat, s.heap.size ≤ q → A q := fun q h => by rw [← hAe]; exact Or.inr h
  have hS : va_S A s.heap s.heap [] := va_S.rf
  have hp : PX u0 u0 := PX.rf
  have B36 : ∀ (u : PSt) (H : Heap) (locs : List Loc) (ls : Array Slot) (v0 : Nat), WT u → PX u0 u → va_P D vwCl (PW k u) H → va_D A (PW k u) → va_S A s.heap H locs → v0 ∈ u.1 → u.2.1 v0 = 2 → lv_has ls 2 [(0, .ref v0)] → W p l e (headSpec wpX2_readWorks ({ frames := 9, cells := 366, slots := 2806, locals := 199 })).room s m ([.ref h0] : List Value).toArray below meth c H locs (366) (2806) (MQ below (va_Qq (fun r v => WT v ∧ PX u0 v ∧ ∃ y, r = some y ∧ y ∈ v.1 ∧ v.2.1 y = 10) (WB D A (PW k)) A) ([.ref h0] : List Value).toArray s 366 2806 A) (F0 m 36 ls []) := by
    intro u H locs ls v0 hu hp hP hD hS m_v0 k_v0 hl
    refine lv_aload_n hx hb dX2_readWorks_36 rfl (lv_at hl 0 rfl) ?_
    refine pget (ci := 2) (v := va_rf (u.2.2.2.2 v0 1)) (C := RX2) (T := TX2) (N := 2) hx hb hts i_X2 hown hK hP m_v0 (cF2 k_v0) rfl 1 (by decide) (hts (.fieldLink RX2 12 "BellowsRow$Parser" "works" "LBellowsRow$Works;") (by decide +kernel)) (fun _ h9 => h9) rfl dX2_readWorks_37 ?_
    obtain ⟨y1, qy1, m_y1, k_y1⟩ := (hu v0 m_v0).1 1 10 (by rw [k_v0]; rfl)
    refine W.eq (g2 := F0 m 40 ls [.ref y1]) (by rw [qy1]; rfl) ?_
    exact W.aret (v := .ref y1) hx hb hr (Or.inl ⟨_, rfl⟩) (Or.inr ⟨_, rfl⟩) (fun t ht hW => ⟨⟨some y1, u, rfl, ⟨hu, hp, ⟨y1, rfl, m_y1, k_y1⟩⟩, by rw [ht]; exact hP, hD⟩, hS.F ht⟩) hS.2.2 dX2_readWorks_40
  have B9 : ∀ (n9 : Nat) (u : PSt) (H : Heap) (locs : List Loc) (ls : Array Slot) (v0 : Nat) (v1 : Int32), WT u → PX u0 u → va_P D vwCl (PW k u) H → va_D A (PW k u) → va_S A s.heap H locs → (2147483648 - v1.toInt).toNat ≤ n9 → v0 ∈ u.1 → u.2.1 v0 = 2 → 0 ≤ v1.toInt ∧ v1.toInt ≤ 61 → lv_has ls 2 [(0, .ref v0), (1, .int v1)] → W p l e (headSpec wpX2_readWorks ({ frames := 9, cells := 366, slots := 2806, locals := 199 })).room s m ([.ref h0] : List Value).toArray below meth c H locs (6 * v1.toInt.toNat) (46 * v1.toInt.toNat) (MQ below (va_Qq (fun r v => WT v ∧ PX u0 v ∧ ∃ y, r = some y ∧ y ∈ v.1 ∧ v.2.1 y = 10) (WB D A (PW k)) A) ([.ref h0] : List Value).toArray s 366 2806 A) (F0 m 9 ls []) := by
    intro n9
    induction n9 with
    | zero =>
      intro u H locs ls v0 v1 hu hp hP hD hS hn9 m_v0 k_v0 g_v1 hl
      exact absurd hn9 (by have := Int32.toInt_lt v1; have := Int32.le_toInt v1; omega)
    | succ n9 ih9 =>
      intro u H locs ls v0 v1 hu hp hP hD hS hn9 m_v0 k_v0 g_v1 hl
      refine lv_iload_n hx hb dX2_readWorks_9 rfl (lv_at hl 1 rfl) ?_
      refine lv_bipush (v := 60) hx hb dX2_readWorks_10 (by decide) ?_
      refine lv_icmp_gt (tgt := 36) hx hb dX2_readWorks_12 (by decide) (fun c2 => ?_) (fun c2 => ?_)
      · refine W.widen (k := 366) (n := 2806) (by (try simp only [i_lt, i_le, i_eq, Int32.toInt_toInt64, Int32.reduceToInt, Int64.reduceToInt, true_and, and_true, false_and, and_false, false_or, or_false, true_or, or_true, not_true_eq_false, not_false_eq_true, ne_eq, forall_const, true_implies, false_implies, implies_true] at g_v1 hn9 c2 ⊢) <;> omega) (by (try simp only [i_lt, i_le, i_eq, Int32.toInt_toInt64, Int32.reduceToInt, Int64.reduceToInt, true_and, and_true, false_and, and_false, false_or, or_false, true_or, or_true, not_true_eq_false, not_false_eq_true, ne_eq, forall_const, true_implies, false_implies, implies_true] at g_v1 hn9 c2 ⊢) <;> omega) ?_
        exact B36 _ _ _ ls v0 hu hp hP hD hS m_v0 k_v0 (lv_sub hl [0] rfl)
      · refine lv_aload_n hx hb dX2_readWorks_15 rfl (lv_at hl 0 rfl) ?_
        refine pget (ci := 2) (v := va_rf (u.2.2.2.2 v0 0)) (C := RX2) (T := TX2) (N := 2) hx hb hts i_X2 hown hK hP m_v0 (cF2 k_v0) rfl 0 (by decide) (hts (.fieldLink RX2 18 "BellowsRow$Parser" "tape" "LBellowsRow$Tape;") (by decide +kernel)) (fun _ h9 => h9) rfl dX2_readWorks_16 ?_
        obtain ⟨y3, qy3, m_y3, k_y3⟩ := (hu v0 m_v0).1 0 9 (by rw [k_v0]; rfl)
        refine W.eq (g2 := F0 m 19 ls [.ref y3]) (by rw [qy3]; rfl) ?_
        refine rvi (C := RX9) (As := []) (rest := []) ⟨hx, hb, hml, hown, hts⟩ (t_X9_goesOn l D k u hu y3 m_y3 k_y3 ) (cwV 0 hts gpX2_readWorks_X9_goesOn rfl rfl rfl (by decide +kernel) ⟨Nat.le_of_ble_eq_true rfl, Nat.le_of_ble_eq_true rfl⟩) hP hK (precv hK hP m_y3 (cF9 k_y3) rfl) rfl hl.1 rfl (Nat.le_of_ble_eq_true rfl) dX2_readWorks_19 ⟨by show _ ≤ 366; rw [i_lt] at c2; have : (60 : Int32).toInt = 60 := (by decide); omega, by show _ ≤ 2806; rw [i_lt] at c2; have : (60 : Int32).toInt = 60 := (by decide); omega⟩ (fun r4 hr4 => ?_)
        refine lv_if_eq (tgt := 36) hx hb dX2_readWorks_22 (by decide) (fun c5 => ?_) (fun c5 => ?_)
        · refine W.widen (k := 366) (n := 2806) (by (try simp only [i_lt, i_le, i_eq, Int32.toInt_toInt64, Int32.reduceToInt, Int64.reduceToInt, true_and, and_true, false_and, and_false, false_or, or_false, true_or, or_true, not_true_eq_false, not_false_eq_true, ne_eq, forall_const, true_implies, false_implies, implies_true] at g_v1 hn9 c2 hr4 c5 ⊢) <;> omega) (by (try simp only [i_lt, i_le, i_eq, Int32.toInt_toInt64, Int32.reduceToInt, Int64.reduceToInt, true_and, and_true, false_and, and_false, false_or, or_false, true_or, or_true, not_true_eq_false, not_false_eq_true, ne_eq, forall_const, true_implies, false_implies, implies_true] at g_v1 hn9 c2 hr4 c5 ⊢) <;> omega) ?_
          exact B36 _ _ _ ls v0 hu hp hP hD hS m_v0 k_v0 (lv_sub hl [0] rfl)
        · refine lv_aload_n hx hb dX2_readWorks_25 rfl (lv_at hl 0 rfl) ?_
          refine lv_iload_n hx hb dX2_readWorks_26 rfl (lv_at hl 1 rfl) ?_
          refine xvV (C := RX2) (As := [.int v1]) (rest := []) ⟨hx, hb, hml, hown, hts⟩ (fun sz => t_X2_readLine l D k tt u hu v0 m_v0 k_v0 v1 sz) (cwV 1 hts gpX2_readWorks_X2_readLine rfl rfl rfl (by decide +kernel) ⟨Nat.le_of_ble_eq_true rfl, Nat.le_of_ble_eq_true rfl⟩) hP hK hD hN hE hS hA (precv hK hP m_v0 (cF2 k_v0) rfl) rfl hl.1 rfl (Nat.le_of_ble_eq_true rfl) dX2_readWorks_27 ⟨by show _ ≤ 366; rw [i_lt] at c2; have : (60 : Int32).toInt = 60 := (by decide); omega, by show _ ≤ 2806; rw [i_lt] at c2; have : (60 : Int32).toInt = 60 := (by decide); omega⟩ (fun u6 H locs hq hP hD hS => ?_)
          obtain ⟨hu, hxu6, hru6⟩ := hq
          have k_v0 : u6.2.1 v0 = 2 := (hxu6 v0 m_v0).2.1.trans k_v0
          have m_v0 : v0 ∈ u6.1 := (hxu6 v0 m_v0).1
          have hp := PX.trans hp hxu6
          obtain ⟨x7, ex7⟩ : ∃ y : Int32, y = v1 + 1 := ⟨_, rfl⟩
          have tx7 : x7.toInt = v1.toInt + 1 := by rw [ex7]; exact i_add (b := 1) (by (try simp only [i_lt, i_le, i_eq, Int32.toInt_toInt64, Int32.reduceToInt, Int64.reduceToInt, true_and, and_true, false_and, and_false, false_or, or_false, true_or, or_true, not_true_eq_false, not_false_eq_true, ne_eq, forall_const, true_implies, false_implies, implies_true] at g_v1 hn9 c2 hr4 c5 ⊢) <;> omega) (by (try simp only [i_lt, i_le, i_eq, Int32.toInt_toInt64, Int32.reduceToInt, Int64.reduceToInt, true_and, and_true, false_and, and_false, false_or, or_false, true_or, or_true, not_true_eq_false, not_false_eq_true, ne_eq, forall_const, true_implies, false_implies, implies_true] at g_v1 hn9 c2 hr4 c5 ⊢) <;> omega)
          refine lv_iinc (v := x7) (lv' := [(1, .int x7), (0, .ref v0)]) hx hb dX2_readWorks_30 hl (k := 1) rfl (by rw [ex7]; rfl) (by decide) rfl (fun ls hl => ?_)
          refine lv_goto (tgt := 9) hx hb dX2_readWorks_33 (by decide) ?_
          refine W.widen (k := 6 * x7.toInt.toNat) (n := 46 * x7.toInt.toNat) (by (try simp only [i_lt, i_le, i_eq, Int32.toInt_toInt64, Int32.reduceToInt, Int64.reduceToInt, true_and, and_true, false_and, and_false, false_or, or_false, true_or, or_true, not_true_eq_false, not_false_eq_true, ne_eq, forall_const, true_implies, false_implies, implies_true] at g_v1 hn9 c2 hr4 c5 tx7 ⊢) <;> omega) (by (try simp only [i_lt, i_le, i_eq, Int32.toInt_toInt64, Int32.reduceToInt, Int64.reduceToInt, true_and, and_true, false_and, and_false, false_or, or_false, true_or, or_true, not_true_eq_false, not_false_eq_true, ne_eq, forall_const, true_implies, false_implies, implies_true] at g_v1 hn9 c2 hr4 c5 tx7 ⊢) <;> omega) ?_
          exact ih9 _ _ _ ls v0 x7 hu hp hP hD hS (by (try simp only [i_lt, i_le, i_eq, Int32.toInt_toInt64, Int32.reduceToInt, Int64.reduceToInt, true_and, and_true, false_and, and_false, false_or, or_false, true_or, or_true, not_true_eq_false, not_false_eq_true, ne_eq, forall_const, true_implies, false_implies, implies_true] at g_v1 hn9 c2 hr4 c5 tx7 ⊢) <;> omega) m_v0 k_v0 (by (try simp only [i_lt, i_le, i_eq, Int32.toInt_toInt64, Int32.reduceToInt, Int64.reduceToInt, true_and, and_true, false_and, and_false, false_or, or_false, true_or, or_true, not_true_eq_false, not_false_eq_true, ne_eq, forall_const, true_implies, false_implies, implies_true] at g_v1 hn9 c2 hr4 c5 tx7 ⊢) <;> omega) (lv_sub hl [1, 0] rfl)
  have hl := lv_entry ([.ref h0]) (n := 2) (Nat.le_of_ble_eq_true rfl)
  rw [lg_entry_eq]
  generalize (lg_sl ([.ref h0]) ++ List.replicate (2 - (lg_sl ([.ref h0])).length) Slot.unset).toArray = ls at hl ⊢
  have hl : lv_has ls 2 [(0, .ref h0)] := hl
  refine lv_aload_n hx hb dX2_readWorks_0 rfl (lv_at hl 0 rfl) ?_
  refine pget (ci := 2) (v := va_rf (u0.2.2.2.2 h0 0)) (C := RX2) (T := TX2) (N := 2) hx hb hts i_X2 hown hK hP m_h0 (cF2 k_h0) rfl 0 (by decide) (hts (.fieldLink RX2 18 "BellowsRow$Parser" "tape" "LBellowsRow$Tape;") (by decide +kernel)) (fun _ h9 => h9) rfl dX2_readWorks_1 ?_
  obtain ⟨y8, qy8, m_y8, k_y8⟩ := (hu h0 m_h0).1 0 9 (by rw [k_h0]; rfl)
  refine W.eq (g2 := F0 m 4 ls [.ref y8]) (by rw [qy8]; rfl) ?_
  refine wvV (C := RX9) (As := []) (rest := []) ⟨hx, hb, hml, hown, hts⟩ (fun sz => t_X9_begin l D k u0 hu y8 m_y8 k_y8  sz) (cwV 0 hts gpX2_readWorks_X9_begin rfl rfl rfl (by decide +kernel) ⟨Nat.le_of_ble_eq_true rfl, Nat.le_of_ble_eq_true rfl⟩) hP hK hD hN hS hA (precv hK hP m_y8 (cF9 k_y8) rfl) rfl hl.1 rfl (Nat.le_of_ble_eq_true rfl) dX2_readWorks_4 ⟨Nat.le_of_ble_eq_true rfl, Nat.le_of_ble_eq_true rfl⟩ (fun u9 H locs hq hP hD hS => ?_)
  obtain ⟨hu, hxu9, hru9⟩ := hq
  have k_h0 : u9.2.1 h0 = 2 := (hxu9 h0 m_h0).2.1.trans k_h0
  have m_h0 : h0 ∈ u9.1 := (hxu9 h0 m_h0).1
  have hp := PX.trans hp hxu9
  refine lv_iconst (v := 0) hx hb dX2_readWorks_7 (by decide) ?_
  refine lv_istore_n (lv' := [(1, .int 0), (0, .ref h0)]) hx hb dX2_readWorks_8 rfl hl (by decide) rfl (fun ls hl => ?_)
  refine W.widen (k := 6 * (0 : Int32).toInt.toNat) (n := 46 * (0 : Int32).toInt.toNat) (by (try simp only [i_lt, i_le, i_eq, Int32.toInt_toInt64, Int32.reduceToInt, Int64.reduceToInt, true_and, and_true, false_and, and_false, false_or, or_false, true_or, or_true, not_true_eq_false, not_false_eq_true, ne_eq, forall_const, true_implies, false_implies, implies_true]) <;> omega) (by (try simp only [i_lt, i_le, i_eq, Int32.toInt_toInt64, Int32.reduceToInt, Int64.reduceToInt, true_and, and_true, false_and, and_false, false_or, or_false, true_or, or_true, not_true_eq_false, not_false_eq_true, ne_eq, forall_const, true_implies, false_implies, implies_true]) <;> omega) ?_
  exact B9 _ _ _ _ ls h0 0 hu hp hP hD hS (Nat.le_refl _) m_h0 k_h0 (by (try simp only [i_lt, i_le, i_eq, Int32.toInt_toInt64, Int32.reduceToInt, Int64.reduceToInt, true_and, and_true, false_and, and_false, false_or, or_false, true_or, or_true, not_true_eq_false, not_false_eq_true, ne_eq, forall_const, true_implies, false_implies, implies_true]) <;> omega) (lv_sub hl [1, 0] rfl)
set_option maxRecDepth 20000 in
def wpX11_works : List Cond := .code yX11_works cX11_works 2 (some .int) :: (([.classLink RX11 84 RX2, .instantiable RX2 2, .initialized RX2, .fieldLink RX11 10 "BellowsRow" "tape" "LBellowsRow$Tape;", .methodLink RX11 86 yX2_init, .instanceMethod yX2_init, .fieldLink RX11 93 "BellowsRow$Tape" "fault" "I", .fieldLink RX11 66 "BellowsRow" "latestFault" "I", .fieldLink RX11 96 "BellowsRow$Tape" "place" "I", .fieldLink RX11 70 "BellowsRow" "latestPlace" "I", .fieldLink RX11 81 "BellowsRow$Tape" "size" "I", .fieldLink RX11 62 "BellowsRow" "now" "LBellowsRow$Works;", .fieldLink RX11 99 "BellowsRow$Works" "lines" "I"] ++ wsX100 ++ wsX110 ++ wsX20 ++ wsX90) ++ (wsX2_init ++ ((wsV RX11 89 RX2 yX2_readWorks wpX2_readWorks) ++ [])))
set_option maxRecDepth 20000 in
theorem gpX11_works_X2_init : GoodIn wpX11_works wsX2_init := fun w hw => ⟨List.mem_cons_of_mem _ (List.mem_append_right _ (List.mem_append_left _ hw)), (goodIn_self (ws := wsX2_init) (by decide +kernel) w hw).2⟩
set_option maxRecDepth 20000 in
theorem gpX11_works_X2_readWorks : GoodIn wpX11_works (wsV RX11 89 RX2 yX2_readWorks wpX2_readWorks) := fun w hw => ⟨List.mem_cons_of_mem _ (List.mem_append_right _ (List.mem_append_right _ (List.mem_append_left _ hw))), (goodIn_self (ws := (wsV RX11 89 RX2 yX2_readWorks wpX2_readWorks)) (by decide +kernel) w hw).2⟩
set_option maxHeartbeats 4000000 in
set_option maxRecDepth 100000 in
theorem t_X11_works (l : Launch) (D : va_G) (k : Nat → ClassId) (tt : TT) (u0 : PSt) (hu : WT u0) (h0 : Nat) (m_h0 : h0 ∈ u0.1) (k_h0 : u0.2.1 h0 = 11) (sz : Nat) : Met l yX11_works wpX11_works ({ frames := 10, cells := 389, slots := 3227, locals := 220 }) (PreT D k tt sz (PW k u0) [.ref h0]) (va_Qi (fun r v => WT v ∧ PX u0 v ∧ True) (WB D (va_A (PW k u0) sz) (PW k)) (va_A (PW k u0) sz)) 389 3227 (va_A (PW k u0) sz) := by
  refine Met.ofW (cc := cX11_works) (maxL := 2) (ret := (some .int)) (by decide) rfl ?_
  intro p e s m args below meth c s₁ B hml hv
  obtain ⟨rfl, hsz, hP, hK, hD0, hN, hE0⟩ := hv
  have hx := B.exec
  have hb := B.bytes
  have hr := B.returns
  have hts := atoms_spec (ws := wpX11_works) B.pre
  have hown : s.vm.findClass RX11 = some m.cls := findClass_of_methodNamed B.named
  have hlocks := B.notSynchronized
  have i_X10 : ∀ w ∈ wsX100, w ∈ wpX11_works := by decide +kernel
  have i_X11 : ∀ w ∈ wsX110, w ∈ wpX11_works := by decide +kernel
  have i_X2 : ∀ w ∈ wsX20, w ∈ wpX11_works := by decide +kernel
  have i_X9 : ∀ w ∈ wsX90, w ∈ wpX11_works := by decide +kernel
  subst hsz
  have hD := hD0.self (sz := s.heap.size)
  have hE := hE0
  generalize hAe : va_A (PW k u0) s.heap.size = A at hD hE ⊢
  have hA : ∀ q : Nat, s.heap.size ≤ q → A q := fun q h => by rw [← hAe]; exact Or.inr h
  have hS : va_S A s.heap s.heap [] := va_S.rf
  have hp : PX u0 u0 := PX.rf
  have hl := lv_entry ([.ref h0]) (n := 2) (Nat.le_of_ble_eq_true rfl)
  rw [lg_entry_eq]
  generalize (lg_sl ([.ref h0]) ++ List.replicate (2 - (lg_sl ([.ref h0])).length) Slot.unset).toArray = ls at hl ⊢
  have hl : lv_has ls 2 [(0, .ref h0)] := hl
  refine va_new (ci := 2) (fs := [.null, .null]) (C := RX2) (T := TX2) (N := 2) hx hb hts i_X2 tyX2 tyX2_ok hown (hts (.classLink RX11 84 RX2) (by decide +kernel)) (hts (.instantiable RX2 2) (by decide +kernel)) (hts (.initialized RX2) (by decide +kernel)) hK hP hD hS hA rfl (fun j hj => by rcases (show j = 0 ∨ j = 1 by omega) with rfl | rfl <;> rfl) (Nat.le_of_ble_eq_true rfl) (Nat.le_of_ble_eq_true rfl) dX11_works_0 (fun q1 H hPn hDn hS => ?_)
  have hPn := P_perm List.perm_append_comm hPn
  have hDn := D_perm List.perm_append_comm hDn
  have hP := P_right hPn
  refine W.widen (k := 1) (n := 2) (Nat.le_of_ble_eq_true rfl) (Nat.le_of_ble_eq_true rfl) ?_
  refine lv_dup hx hb dX11_works_3 rfl ?_
  refine lv_aload_n hx hb dX11_works_4 rfl (lv_at hl 0 rfl) ?_
  refine pget (ci := 11) (v := va_rf (u0.2.2.2.2 h0 0)) (C := RX11) (T := TX11) (N := 11) hx hb hts i_X11 hown hK hP m_h0 (cF11 k_h0) rfl 0 (by decide) (hts (.fieldLink RX11 10 "BellowsRow" "tape" "LBellowsRow$Tape;") (by decide +kernel)) (fun _ h9 => h9) rfl dX11_works_5 ?_
  obtain ⟨y2, qy2, m_y2, k_y2⟩ := (hu h0 m_h0).1 0 9 (by rw [k_h0]; rfl)
  refine W.eq (g2 := F0 m 8 ls [.ref y2, .ref q1, .ref q1]) (by rw [qy2]; rfl) ?_
  refine gI (As := [.ref y2]) (rest := [.ref q1]) ⟨hx, hb, hml, hown, hts⟩ (fun sz => c_X2_init l D k y2 q1 sz) (cwI 1 hts gpX11_works_X2_init rfl rfl rfl (hts (.initialized RX2) (by decide +kernel)) (hts (.methodLink RX11 86 yX2_init) (by decide +kernel)) (hts (.instanceMethod yX2_init) (by decide +kernel)) rfl (by decide +kernel) ⟨Nat.le_of_ble_eq_true rfl, Nat.le_of_ble_eq_true rfl⟩) hPn hK hDn hN hS hA rfl hl.1 rfl (Nat.le_of_ble_eq_true rfl) dX11_works_8 ⟨Nat.le_of_ble_eq_true rfl, Nat.le_of_ble_eq_true rfl⟩ (fun nv3 H locs hv hPn hDn hS => ?_)
  refine W.widen (k := 23) (n := 421) (Nat.le_of_ble_eq_true rfl) (Nat.le_of_ble_eq_true rfl) ?_
  obtain ⟨hPn, hDn, na⟩ := psh_at (i := 3) (a := (nv3 2)) rfl hPn hDn 21 (fun _ => 0) (fun _ => 0) (fun _ => none) (by rw [cF21 psh_kd]; (try simp only [psh_I, psh_J, psh_R]) <;> rfl)
  have hu := WT_psh (kd := 21) (I := (fun _ => 0)) (J := (fun _ => 0)) (R := (fun _ => none)) hu na (fun s t h => (tk21 h).elim) (fun s t h => (tn21 h).elim) (fun h => absurd h (by decide)) (fun _ => trivial)
  have hp := PX_psh (kd := 21) (I := (fun _ => 0)) (J := (fun _ => 0)) (R := (fun _ => none)) hp na
  obtain ⟨u4, hu4⟩ : ∃ z, z = psh u0 (nv3 2) 21 (fun _ => 0) (fun _ => 0) (fun _ => none) := ⟨_, rfl⟩
  rw [← hu4] at hPn hDn hu hp
  have hPn : va_P D vwCl ([(q1, .inr (2, [.ref y2, .ref (nv3 0)])), ((nv3 0), .inr (10, [.ref (nv3 1), .ref (nv3 5), .ref (nv3 10), .int 0, .int 0, .int 0, .int 0, .int 0, .int 0, .ref (nv3 19), .ref (nv3 20), .ref (nv3 21)])), ((nv3 1), .inr (1, [.int 0, .int 0, .ref (nv3 2), .ref (nv3 3), .ref (nv3 4)])), ((nv3 3), .inl (k 1, 60, .inl (fun _ => 0))), ((nv3 4), .inl (k 1, 60, .inl (fun _ => 0))), ((nv3 5), .inr (6, [.int 0, .int 0, .ref (nv3 6), .ref (nv3 7), .ref (nv3 8), .ref (nv3 9)])), ((nv3 6), .inl (k 1, 12, .inl (fun _ => 0))), ((nv3 7), .inl (k 1, 12, .inl (fun _ => 0))), ((nv3 8), .inl (k 1, 12, .inl (fun _ => 0))), ((nv3 9), .inl (k 1, 12, .inl (fun _ => 0))), ((nv3 10), .inr (4, [.int 0, .int 0, .int 0, .ref (nv3 11), .ref (nv3 12), .ref (nv3 13), .ref (nv3 14), .ref (nv3 15), .ref (nv3 16), .ref (nv3 17), .ref (nv3 18)])), ((nv3 11), .inl (k 1, 12, .inl (fun _ => 0))), ((nv3 12), .inl (k 1, 12, .inl (fun _ => 0))), ((nv3 13), .inl (k 1, 12, .inl (fun _ => 0))), ((nv3 14), .inl (k 1, 20, .inl (fun _ => 0))), ((nv3 15), .inl (k 1, 20, .inl (fun _ => 0))), ((nv3 16), .inl (k 1, 20, .inl (fun _ => 0))), ((nv3 17), .inl (k 2, 17, .inr (.inl (fun _ => 0)))), ((nv3 18), .inl (k 2, 16, .inr (.inl (fun _ => 0)))), ((nv3 19), .inl (k 1, 8, .inl (fun _ => 0))), ((nv3 20), .inl (k 1, 8, .inl (fun _ => 0))), ((nv3 21), .inl (k 6, 12, .inr (.inr (.inr (.inr (fun _ => none))))))] ++ PW k u4) H := hPn
  have hDn : va_D A ([(q1, .inr (2, [.ref y2, .ref (nv3 0)])), ((nv3 0), .inr (10, [.ref (nv3 1), .ref (nv3 5), .ref (nv3 10), .int 0, .int 0, .int 0, .int 0, .int 0, .int 0, .ref (nv3 19), .ref (nv3 20), .ref (nv3 21)])), ((nv3 1), .inr (1, [.int 0, .int 0, .ref (nv3 2), .ref (nv3 3), .ref (nv3 4)])), ((nv3 3), .inl (k 1, 60, .inl (fun _ => 0))), ((nv3 4), .inl (k 1, 60, .inl (fun _ => 0))), ((nv3 5), .inr (6, [.int 0, .int 0, .ref (nv3 6), .ref (nv3 7), .ref (nv3 8), .ref (nv3 9)])), ((nv3 6), .inl (k 1, 12, .inl (fun _ => 0))), ((nv3 7), .inl (k 1, 12, .inl (fun _ => 0))), ((nv3 8), .inl (k 1, 12, .inl (fun _ => 0))), ((nv3 9), .inl (k 1, 12, .inl (fun _ => 0))), ((nv3 10), .inr (4, [.int 0, .int 0, .int 0, .ref (nv3 11), .ref (nv3 12), .ref (nv3 13), .ref (nv3 14), .ref (nv3 15), .ref (nv3 16), .ref (nv3 17), .ref (nv3 18)])), ((nv3 11), .inl (k 1, 12, .inl (fun _ => 0))), ((nv3 12), .inl (k 1, 12, .inl (fun _ => 0))), ((nv3 13), .inl (k 1, 12, .inl (fun _ => 0))), ((nv3 14), .inl (k 1, 20, .inl (fun _ => 0))), ((nv3 15), .inl (k 1, 20, .inl (fun _ => 0))), ((nv3 16), .inl (k 1, 20, .inl (fun _ => 0))), ((nv3 17), .inl (k 2, 17, .inr (.inl (fun _ => 0)))), ((nv3 18), .inl (k 2, 16, .inr (.inl (fun _ => 0)))), ((nv3 19), .inl (k 1, 8, .inl (fun _ => 0))), ((nv3 20), .inl (k 1, 8, .inl (fun _ => 0))), ((nv3 21), .inl (k 6, 12, .inr (.inr (.inr (.inr (fun _ => none))))))] ++ PW k u4) := hDn
  have k_h0 : u4.2.1 h0 = 11 := by rw [hu4]; exact (psh_k m_h0 na).trans k_h0
  have m_h0 : h0 ∈ u4.1 := by rw [hu4]; exact psh_m m_h0
  have k_y2 : u4.2.1 y2 = 9 := by rw [hu4]; exact (psh_k m_y2 na).trans k_y2
  have m_y2 : y2 ∈ u4.1 := by rw [hu4]; exact psh_m m_y2
  have m_nv3_2 : (nv3 2) ∈ u4.1 := by rw [hu4]; exact psh_in
  have k_nv3_2 : u4.2.1 (nv3 2) = 21 := by rw [hu4]; exact psh_kd
  obtain ⟨hPn, hDn, na⟩ := psh_at (i := 3) (a := (nv3 3)) rfl hPn hDn 21 (fun _ => 0) (fun _ => 0) (fun _ => none) (by rw [cF21 psh_kd]; (try simp only [psh_I, psh_J, psh_R]) <;> rfl)
  have hu := WT_psh (kd := 21) (I := (fun _ => 0)) (J := (fun _ => 0)) (R := (fun _ => none)) hu na (fun s t h => (tk21 h).elim) (fun s t h => (tn21 h).elim) (fun h => absurd h (by decide)) (fun _ => trivial)
  have hp := PX_psh (kd := 21) (I := (fun _ => 0)) (J := (fun _ => 0)) (R := (fun _ => none)) hp na
  obtain ⟨u5, hu5⟩ : ∃ z, z = psh u4 (nv3 3) 21 (fun _ => 0) (fun _ => 0) (fun _ => none) := ⟨_, rfl⟩
  rw [← hu5] at hPn hDn hu hp
  have hPn : va_P D vwCl ([(q1, .inr (2, [.ref y2, .ref (nv3 0)])), ((nv3 0), .inr (10, [.ref (nv3 1), .ref (nv3 5), .ref (nv3 10), .int 0, .int 0, .int 0, .int 0, .int 0, .int 0, .ref (nv3 19), .ref (nv3 20), .ref (nv3 21)])), ((nv3 1), .inr (1, [.int 0, .int 0, .ref (nv3 2), .ref (nv3 3), .ref (nv3 4)])), ((nv3 4), .inl (k 1, 60, .inl (fun _ => 0))), ((nv3 5), .inr (6, [.int 0, .int 0, .ref (nv3 6), .ref (nv3 7), .ref (nv3 8), .ref (nv3 9)])), ((nv3 6), .inl (k 1, 12, .inl (fun _ => 0))), ((nv3 7), .inl (k 1, 12, .inl (fun _ => 0))), ((nv3 8), .inl (k 1, 12, .inl (fun _ => 0))), ((nv3 9), .inl (k 1, 12, .inl (fun _ => 0))), ((nv3 10), .inr (4, [.int 0, .int 0, .int 0, .ref (nv3 11), .ref (nv3 12), .ref (nv3 13), .ref (nv3 14), .ref (nv3 15), .ref (nv3 16), .ref (nv3 17), .ref (nv3 18)])), ((nv3 11), .inl (k 1, 12, .inl (fun _ => 0))), ((nv3 12), .inl (k 1, 12, .inl (fun _ => 0))), ((nv3 13), .inl (k 1, 12, .inl (fun _ => 0))), ((nv3 14), .inl (k 1, 20, .inl (fun _ => 0))), ((nv3 15), .inl (k 1, 20, .inl (fun _ => 0))), ((nv3 16), .inl (k 1, 20, .inl (fun _ => 0))), ((nv3 17), .inl (k 2, 17, .inr (.inl (fun _ => 0)))), ((nv3 18), .inl (k 2, 16, .inr (.inl (fun _ => 0)))), ((nv3 19), .inl (k 1, 8, .inl (fun _ => 0))), ((nv3 20), .inl (k 1, 8, .inl (fun _ => 0))), ((nv3 21), .inl (k 6, 12, .inr (.inr (.inr (.inr (fun _ => none))))))] ++ PW k u5) H := hPn
  have hDn : va_D A ([(q1, .inr (2, [.ref y2, .ref (nv3 0)])), ((nv3 0), .inr (10, [.ref (nv3 1), .ref (nv3 5), .ref (nv3 10), .int 0, .int 0, .int 0, .int 0, .int 0, .int 0, .ref (nv3 19), .ref (nv3 20), .ref (nv3 21)])), ((nv3 1), .inr (1, [.int 0, .int 0, .ref (nv3 2), .ref (nv3 3), .ref (nv3 4)])), ((nv3 4), .inl (k 1, 60, .inl (fun _ => 0))), ((nv3 5), .inr (6, [.int 0, .int 0, .ref (nv3 6), .ref (nv3 7), .ref (nv3 8), .ref (nv3 9)])), ((nv3 6), .inl (k 1, 12, .inl (fun _ => 0))), ((nv3 7), .inl (k 1, 12, .inl (fun _ => 0))), ((nv3 8), .inl (k 1, 12, .inl (fun _ => 0))), ((nv3 9), .inl (k 1, 12, .inl (fun _ => 0))), ((nv3 10), .inr (4, [.int 0, .int 0, .int 0, .ref (nv3 11), .ref (nv3 12), .ref (nv3 13), .ref (nv3 14), .ref (nv3 15), .ref (nv3 16), .ref (nv3 17), .ref (nv3 18)])), ((nv3 11), .inl (k 1, 12, .inl (fun _ => 0))), ((nv3 12), .inl (k 1, 12, .inl (fun _ => 0))), ((nv3 13), .inl (k 1, 12, .inl (fun _ => 0))), ((nv3 14), .inl (k 1, 20, .inl (fun _ => 0))), ((nv3 15), .inl (k 1, 20, .inl (fun _ => 0))), ((nv3 16), .inl (k 1, 20, .inl (fun _ => 0))), ((nv3 17), .inl (k 2, 17, .inr (.inl (fun _ => 0)))), ((nv3 18), .inl (k 2, 16, .inr (.inl (fun _ => 0)))), ((nv3 19), .inl (k 1, 8, .inl (fun _ => 0))), ((nv3 20), .inl (k 1, 8, .inl (fun _ => 0))), ((nv3 21), .inl (k 6, 12, .inr (.inr (.inr (.inr (fun _ => none))))))] ++ PW k u5) := hDn
  have k_h0 : u5.2.1 h0 = 11 := by rw [hu5]; exact (psh_k m_h0 na).trans k_h0
  have m_h0 : h0 ∈ u5.1 := by rw [hu5]; exact psh_m m_h0
  have k_y2 : u5.2.1 y2 = 9 := by rw [hu5]; exact (psh_k m_y2 na).trans k_y2
  have m_y2 : y2 ∈ u5.1 := by rw [hu5]; exact psh_m m_y2
  have k_nv3_2 : u5.2.1 (nv3 2) = 21 := by rw [hu5]; exact (psh_k m_nv3_2 na).trans k_nv3_2
  have m_nv3_2 : (nv3 2) ∈ u5.1 := by rw [hu5]; exact psh_m m_nv3_2
  have m_nv3_3 : (nv3 3) ∈ u5.1 := by rw [hu5]; exact psh_in
  have k_nv3_3 : u5.2.1 (nv3 3) = 21 := by rw [hu5]; exact psh_kd
  obtain ⟨hPn, hDn, na⟩ := psh_at (i := 3) (a := (nv3 4)) rfl hPn hDn 21 (fun _ => 0) (fun _ => 0) (fun _ => none) (by rw [cF21 psh_kd]; (try simp only [psh_I, psh_J, psh_R]) <;> rfl)
  have hu := WT_psh (kd := 21) (I := (fun _ => 0)) (J := (fun _ => 0)) (R := (fun _ => none)) hu na (fun s t h => (tk21 h).elim) (fun s t h => (tn21 h).elim) (fun h => absurd h (by decide)) (fun _ => trivial)
  have hp := PX_psh (kd := 21) (I := (fun _ => 0)) (J := (fun _ => 0)) (R := (fun _ => none)) hp na
  obtain ⟨u6, hu6⟩ : ∃ z, z = psh u5 (nv3 4) 21 (fun _ => 0) (fun _ => 0) (fun _ => none) := ⟨_, rfl⟩
  rw [← hu6] at hPn hDn hu hp
  have hPn : va_P D vwCl ([(q1, .inr (2, [.ref y2, .ref (nv3 0)])), ((nv3 0), .inr (10, [.ref (nv3 1), .ref (nv3 5), .ref (nv3 10), .int 0, .int 0, .int 0, .int 0, .int 0, .int 0, .ref (nv3 19), .ref (nv3 20), .ref (nv3 21)])), ((nv3 1), .inr (1, [.int 0, .int 0, .ref (nv3 2), .ref (nv3 3), .ref (nv3 4)])), ((nv3 5), .inr (6, [.int 0, .int 0, .ref (nv3 6), .ref (nv3 7), .ref (nv3 8), .ref (nv3 9)])), ((nv3 6), .inl (k 1, 12, .inl (fun _ => 0))), ((nv3 7), .inl (k 1, 12, .inl (fun _ => 0))), ((nv3 8), .inl (k 1, 12, .inl (fun _ => 0))), ((nv3 9), .inl (k 1, 12, .inl (fun _ => 0))), ((nv3 10), .inr (4, [.int 0, .int 0, .int 0, .ref (nv3 11), .ref (nv3 12), .ref (nv3 13), .ref (nv3 14), .ref (nv3 15), .ref (nv3 16), .ref (nv3 17), .ref (nv3 18)])), ((nv3 11), .inl (k 1, 12, .inl (fun _ => 0))), ((nv3 12), .inl (k 1, 12, .inl (fun _ => 0))), ((nv3 13), .inl (k 1, 12, .inl (fun _ => 0))), ((nv3 14), .inl (k 1, 20, .inl (fun _ => 0))), ((nv3 15), .inl (k 1, 20, .inl (fun _ => 0))), ((nv3 16), .inl (k 1, 20, .inl (fun _ => 0))), ((nv3 17), .inl (k 2, 17, .inr (.inl (fun _ => 0)))), ((nv3 18), .inl (k 2, 16, .inr (.inl (fun _ => 0)))), ((nv3 19), .inl (k 1, 8, .inl (fun _ => 0))), ((nv3 20), .inl (k 1, 8, .inl (fun _ => 0))), ((nv3 21), .inl (k 6, 12, .inr (.inr (.inr (.inr (fun _ => none))))))] ++ PW k u6) H := hPn
  have hDn : va_D A ([(q1, .inr (2, [.ref y2, .ref (nv3 0)])), ((nv3 0), .inr (10, [.ref (nv3 1), .ref (nv3 5), .ref (nv3 10), .int 0, .int 0, .int 0, .int 0, .int 0, .int 0, .ref (nv3 19), .ref (nv3 20), .ref (nv3 21)])), ((nv3 1), .inr (1, [.int 0, .int 0, .ref (nv3 2), .ref (nv3 3), .ref (nv3 4)])), ((nv3 5), .inr (6, [.int 0, .int 0, .ref (nv3 6), .ref (nv3 7), .ref (nv3 8), .ref (nv3 9)])), ((nv3 6), .inl (k 1, 12, .inl (fun _ => 0))), ((nv3 7), .inl (k 1, 12, .inl (fun _ => 0))), ((nv3 8), .inl (k 1, 12, .inl (fun _ => 0))), ((nv3 9), .inl (k 1, 12, .inl (fun _ => 0))), ((nv3 10), .inr (4, [.int 0, .int 0, .int 0, .ref (nv3 11), .ref (nv3 12), .ref (nv3 13), .ref (nv3 14), .ref (nv3 15), .ref (nv3 16), .ref (nv3 17), .ref (nv3 18)])), ((nv3 11), .inl (k 1, 12, .inl (fun _ => 0))), ((nv3 12), .inl (k 1, 12, .inl (fun _ => 0))), ((nv3 13), .inl (k 1, 12, .inl (fun _ => 0))), ((nv3 14), .inl (k 1, 20, .inl (fun _ => 0))), ((nv3 15), .inl (k 1, 20, .inl (fun _ => 0))), ((nv3 16), .inl (k 1, 20, .inl (fun _ => 0))), ((nv3 17), .inl (k 2, 17, .inr (.inl (fun _ => 0)))), ((nv3 18), .inl (k 2, 16, .inr (.inl (fun _ => 0)))), ((nv3 19), .inl (k 1, 8, .inl (fun _ => 0))), ((nv3 20), .inl (k 1, 8, .inl (fun _ => 0))), ((nv3 21), .inl (k 6, 12, .inr (.inr (.inr (.inr (fun _ => none))))))] ++ PW k u6) := hDn
  have k_h0 : u6.2.1 h0 = 11 := by rw [hu6]; exact (psh_k m_h0 na).trans k_h0
  have m_h0 : h0 ∈ u6.1 := by rw [hu6]; exact psh_m m_h0
  have k_y2 : u6.2.1 y2 = 9 := by rw [hu6]; exact (psh_k m_y2 na).trans k_y2
  have m_y2 : y2 ∈ u6.1 := by rw [hu6]; exact psh_m m_y2
  have k_nv3_2 : u6.2.1 (nv3 2) = 21 := by rw [hu6]; exact (psh_k m_nv3_2 na).trans k_nv3_2
  have m_nv3_2 : (nv3 2) ∈ u6.1 := by rw [hu6]; exact psh_m m_nv3_2
  have k_nv3_3 : u6.2.1 (nv3 3) = 21 := by rw [hu6]; exact (psh_k m_nv3_3 na).trans k_nv3_3
  have m_nv3_3 : (nv3 3) ∈ u6.1 := by rw [hu6]; exact psh_m m_nv3_3
  have m_nv3_4 : (nv3 4) ∈ u6.1 := by rw [hu6]; exact psh_in
  have k_nv3_4 : u6.2.1 (nv3 4) = 21 := by rw [hu6]; exact psh_kd
  obtain ⟨hPn, hDn, na⟩ := psh_at (i := 2) (a := (nv3 1)) rfl hPn hDn 1 (fun s => ([0, 0, 0, 0, 0] : List Int32).getD s 0) (fun s => ([0, 0, 0, 0, 0] : List Int64).getD s 0) (fun s => ([none, none, some (nv3 2), some (nv3 3), some (nv3 4)] : List (Option Nat)).getD s none) (by rw [cF1 psh_kd]; (try simp only [psh_I, psh_J, psh_R]) <;> rfl)
  have hu := WT_psh (kd := 1) (I := (fun s => ([0, 0, 0, 0, 0] : List Int32).getD s 0)) (J := (fun s => ([0, 0, 0, 0, 0] : List Int64).getD s 0)) (R := (fun s => ([none, none, some (nv3 2), some (nv3 3), some (nv3 4)] : List (Option Nat)).getD s none)) hu na (fun s t h => by rcases tk1 h with ⟨rfl, rfl⟩ | ⟨rfl, rfl⟩ | ⟨rfl, rfl⟩; exact ⟨_, rfl, m_nv3_2, k_nv3_2⟩; exact ⟨_, rfl, m_nv3_3, k_nv3_3⟩; exact ⟨_, rfl, m_nv3_4, k_nv3_4⟩) (fun s t h => (tn1 h).elim) (fun h => absurd h (by decide)) (fun _ => trivial)
  have hp := PX_psh (kd := 1) (I := (fun s => ([0, 0, 0, 0, 0] : List Int32).getD s 0)) (J := (fun s => ([0, 0, 0, 0, 0] : List Int64).getD s 0)) (R := (fun s => ([none, none, some (nv3 2), some (nv3 3), some (nv3 4)] : List (Option Nat)).getD s none)) hp na
  obtain ⟨u7, hu7⟩ : ∃ z, z = psh u6 (nv3 1) 1 (fun s => ([0, 0, 0, 0, 0] : List Int32).getD s 0) (fun s => ([0, 0, 0, 0, 0] : List Int64).getD s 0) (fun s => ([none, none, some (nv3 2), some (nv3 3), some (nv3 4)] : List (Option Nat)).getD s none) := ⟨_, rfl⟩
  rw [← hu7] at hPn hDn hu hp
  have hPn : va_P D vwCl ([(q1, .inr (2, [.ref y2, .ref (nv3 0)])), ((nv3 0), .inr (10, [.ref (nv3 1), .ref (nv3 5), .ref (nv3 10), .int 0, .int 0, .int 0, .int 0, .int 0, .int 0, .ref (nv3 19), .ref (nv3 20), .ref (nv3 21)])), ((nv3 5), .inr (6, [.int 0, .int 0, .ref (nv3 6), .ref (nv3 7), .ref (nv3 8), .ref (nv3 9)])), ((nv3 6), .inl (k 1, 12, .inl (fun _ => 0))), ((nv3 7), .inl (k 1, 12, .inl (fun _ => 0))), ((nv3 8), .inl (k 1, 12, .inl (fun _ => 0))), ((nv3 9), .inl (k 1, 12, .inl (fun _ => 0))), ((nv3 10), .inr (4, [.int 0, .int 0, .int 0, .ref (nv3 11), .ref (nv3 12), .ref (nv3 13), .ref (nv3 14), .ref (nv3 15), .ref (nv3 16), .ref (nv3 17), .ref (nv3 18)])), ((nv3 11), .inl (k 1, 12, .inl (fun _ => 0))), ((nv3 12), .inl (k 1, 12, .inl (fun _ => 0))), ((nv3 13), .inl (k 1, 12, .inl (fun _ => 0))), ((nv3 14), .inl (k 1, 20, .inl (fun _ => 0))), ((nv3 15), .inl (k 1, 20, .inl (fun _ => 0))), ((nv3 16), .inl (k 1, 20, .inl (fun _ => 0))), ((nv3 17), .inl (k 2, 17, .inr (.inl (fun _ => 0)))), ((nv3 18), .inl (k 2, 16, .inr (.inl (fun _ => 0)))), ((nv3 19), .inl (k 1, 8, .inl (fun _ => 0))), ((nv3 20), .inl (k 1, 8, .inl (fun _ => 0))), ((nv3 21), .inl (k 6, 12, .inr (.inr (.inr (.inr (fun _ => none))))))] ++ PW k u7) H := hPn
  have hDn : va_D A ([(q1, .inr (2, [.ref y2, .ref (nv3 0)])), ((nv3 0), .inr (10, [.ref (nv3 1), .ref (nv3 5), .ref (nv3 10), .int 0, .int 0, .int 0, .int 0, .int 0, .int 0, .ref (nv3 19), .ref (nv3 20), .ref (nv3 21)])), ((nv3 5), .inr (6, [.int 0, .int 0, .ref (nv3 6), .ref (nv3 7), .ref (nv3 8), .ref (nv3 9)])), ((nv3 6), .inl (k 1, 12, .inl (fun _ => 0))), ((nv3 7), .inl (k 1, 12, .inl (fun _ => 0))), ((nv3 8), .inl (k 1, 12, .inl (fun _ => 0))), ((nv3 9), .inl (k 1, 12, .inl (fun _ => 0))), ((nv3 10), .inr (4, [.int 0, .int 0, .int 0, .ref (nv3 11), .ref (nv3 12), .ref (nv3 13), .ref (nv3 14), .ref (nv3 15), .ref (nv3 16), .ref (nv3 17), .ref (nv3 18)])), ((nv3 11), .inl (k 1, 12, .inl (fun _ => 0))), ((nv3 12), .inl (k 1, 12, .inl (fun _ => 0))), ((nv3 13), .inl (k 1, 12, .inl (fun _ => 0))), ((nv3 14), .inl (k 1, 20, .inl (fun _ => 0))), ((nv3 15), .inl (k 1, 20, .inl (fun _ => 0))), ((nv3 16), .inl (k 1, 20, .inl (fun _ => 0))), ((nv3 17), .inl (k 2, 17, .inr (.inl (fun _ => 0)))), ((nv3 18), .inl (k 2, 16, .inr (.inl (fun _ => 0)))), ((nv3 19), .inl (k 1, 8, .inl (fun _ => 0))), ((nv3 20), .inl (k 1, 8, .inl (fun _ => 0))), ((nv3 21), .inl (k 6, 12, .inr (.inr (.inr (.inr (fun _ => none))))))] ++ PW k u7) := hDn
  have k_h0 : u7.2.1 h0 = 11 := by rw [hu7]; exact (psh_k m_h0 na).trans k_h0
  have m_h0 : h0 ∈ u7.1 := by rw [hu7]; exact psh_m m_h0
  have k_y2 : u7.2.1 y2 = 9 := by rw [hu7]; exact (psh_k m_y2 na).trans k_y2
  have m_y2 : y2 ∈ u7.1 := by rw [hu7]; exact psh_m m_y2
  have k_nv3_2 : u7.2.1 (nv3 2) = 21 := by rw [hu7]; exact (psh_k m_nv3_2 na).trans k_nv3_2
  have m_nv3_2 : (nv3 2) ∈ u7.1 := by rw [hu7]; exact psh_m m_nv3_2
  have k_nv3_3 : u7.2.1 (nv3 3) = 21 := by rw [hu7]; exact (psh_k m_nv3_3 na).trans k_nv3_3
  have m_nv3_3 : (nv3 3) ∈ u7.1 := by rw [hu7]; exact psh_m m_nv3_3
  have k_nv3_4 : u7.2.1 (nv3 4) = 21 := by rw [hu7]; exact (psh_k m_nv3_4 na).trans k_nv3_4
  have m_nv3_4 : (nv3 4) ∈ u7.1 := by rw [hu7]; exact psh_m m_nv3_4
  have m_nv3_1 : (nv3 1) ∈ u7.1 := by rw [hu7]; exact psh_in
  have k_nv3_1 : u7.2.1 (nv3 1) = 1 := by rw [hu7]; exact psh_kd
  obtain ⟨hPn, hDn, na⟩ := psh_at (i := 3) (a := (nv3 6)) rfl hPn hDn 25 (fun _ => 0) (fun _ => 0) (fun _ => none) (by rw [cF25 psh_kd]; (try simp only [psh_I, psh_J, psh_R]) <;> rfl)
  have hu := WT_psh (kd := 25) (I := (fun _ => 0)) (J := (fun _ => 0)) (R := (fun _ => none)) hu na (fun s t h => (tk25 h).elim) (fun s t h => (tn25 h).elim) (fun h => absurd h (by decide)) (fun _ => trivial)
  have hp := PX_psh (kd := 25) (I := (fun _ => 0)) (J := (fun _ => 0)) (R := (fun _ => none)) hp na
  obtain ⟨u8, hu8⟩ : ∃ z, z = psh u7 (nv3 6) 25 (fun _ => 0) (fun _ => 0) (fun _ => none) := ⟨_, rfl⟩
  rw [← hu8] at hPn hDn hu hp
  have hPn : va_P D vwCl ([(q1, .inr (2, [.ref y2, .ref (nv3 0)])), ((nv3 0), .inr (10, [.ref (nv3 1), .ref (nv3 5), .ref (nv3 10), .int 0, .int 0, .int 0, .int 0, .int 0, .int 0, .ref (nv3 19), .ref (nv3 20), .ref (nv3 21)])), ((nv3 5), .inr (6, [.int 0, .int 0, .ref (nv3 6), .ref (nv3 7), .ref (nv3 8), .ref (nv3 9)])), ((nv3 7), .inl (k 1, 12, .inl (fun _ => 0))), ((nv3 8), .inl (k 1, 12, .inl (fun _ => 0))), ((nv3 9), .inl (k 1, 12, .inl (fun _ => 0))), ((nv3 10), .inr (4, [.int 0, .int 0, .int 0, .ref (nv3 11), .ref (nv3 12), .ref (nv3 13), .ref (nv3 14), .ref (nv3 15), .ref (nv3 16), .ref (nv3 17), .ref (nv3 18)])), ((nv3 11), .inl (k 1, 12, .inl (fun _ => 0))), ((nv3 12), .inl (k 1, 12, .inl (fun _ => 0))), ((nv3 13), .inl (k 1, 12, .inl (fun _ => 0))), ((nv3 14), .inl (k 1, 20, .inl (fun _ => 0))), ((nv3 15), .inl (k 1, 20, .inl (fun _ => 0))), ((nv3 16), .inl (k 1, 20, .inl (fun _ => 0))), ((nv3 17), .inl (k 2, 17, .inr (.inl (fun _ => 0)))), ((nv3 18), .inl (k 2, 16, .inr (.inl (fun _ => 0)))), ((nv3 19), .inl (k 1, 8, .inl (fun _ => 0))), ((nv3 20), .inl (k 1, 8, .inl (fun _ => 0))), ((nv3 21), .inl (k 6, 12, .inr (.inr (.inr (.inr (fun _ => none))))))] ++ PW k u8) H := hPn
  have hDn : va_D A ([(q1, .inr (2, [.ref y2, .ref (nv3 0)])), ((nv3 0), .inr (10, [.ref (nv3 1), .ref (nv3 5), .ref (nv3 10), .int 0, .int 0, .int 0, .int 0, .int 0, .int 0, .ref (nv3 19), .ref (nv3 20), .ref (nv3 21)])), ((nv3 5), .inr (6, [.int 0, .int 0, .ref (nv3 6), .ref (nv3 7), .ref (nv3 8), .ref (nv3 9)])), ((nv3 7), .inl (k 1, 12, .inl (fun _ => 0))), ((nv3 8), .inl (k 1, 12, .inl (fun _ => 0))), ((nv3 9), .inl (k 1, 12, .inl (fun _ => 0))), ((nv3 10), .inr (4, [.int 0, .int 0, .int 0, .ref (nv3 11), .ref (nv3 12), .ref (nv3 13), .ref (nv3 14), .ref (nv3 15), .ref (nv3 16), .ref (nv3 17), .ref (nv3 18)])), ((nv3 11), .inl (k 1, 12, .inl (fun _ => 0))), ((nv3 12), .inl (k 1, 12, .inl (fun _ => 0))), ((nv3 13), .inl (k 1, 12, .inl (fun _ => 0))), ((nv3 14), .inl (k 1, 20, .inl (fun _ => 0))), ((nv3 15), .inl (k 1, 20, .inl (fun _ => 0))), ((nv3 16), .inl (k 1, 20, .inl (fun _ => 0))), ((nv3 17), .inl (k 2, 17, .inr (.inl (fun _ => 0)))), ((nv3 18), .inl (k 2, 16, .inr (.inl (fun _ => 0)))), ((nv3 19), .inl (k 1, 8, .inl (fun _ => 0))), ((nv3 20), .inl (k 1, 8, .inl (fun _ => 0))), ((nv3 21), .inl (k 6, 12, .inr (.inr (.inr (.inr (fun _ => none))))))] ++ PW k u8) := hDn
  have k_h0 : u8.2.1 h0 = 11 := by rw [hu8]; exact (psh_k m_h0 na).trans k_h0
  have m_h0 : h0 ∈ u8.1 := by rw [hu8]; exact psh_m m_h0
  have k_y2 : u8.2.1 y2 = 9 := by rw [hu8]; exact (psh_k m_y2 na).trans k_y2
  have m_y2 : y2 ∈ u8.1 := by rw [hu8]; exact psh_m m_y2
  have k_nv3_1 : u8.2.1 (nv3 1) = 1 := by rw [hu8]; exact (psh_k m_nv3_1 na).trans k_nv3_1
  have m_nv3_1 : (nv3 1) ∈ u8.1 := by rw [hu8]; exact psh_m m_nv3_1
  have m_nv3_6 : (nv3 6) ∈ u8.1 := by rw [hu8]; exact psh_in
  have k_nv3_6 : u8.2.1 (nv3 6) = 25 := by rw [hu8]; exact psh_kd
  obtain ⟨hPn, hDn, na⟩ := psh_at (i := 3) (a := (nv3 7)) rfl hPn hDn 25 (fun _ => 0) (fun _ => 0) (fun _ => none) (by rw [cF25 psh_kd]; (try simp only [psh_I, psh_J, psh_R]) <;> rfl)
  have hu := WT_psh (kd := 25) (I := (fun _ => 0)) (J := (fun _ => 0)) (R := (fun _ => none)) hu na (fun s t h => (tk25 h).elim) (fun s t h => (tn25 h).elim) (fun h => absurd h (by decide)) (fun _ => trivial)
  have hp := PX_psh (kd := 25) (I := (fun _ => 0)) (J := (fun _ => 0)) (R := (fun _ => none)) hp na
  obtain ⟨u9, hu9⟩ : ∃ z, z = psh u8 (nv3 7) 25 (fun _ => 0) (fun _ => 0) (fun _ => none) := ⟨_, rfl⟩
  rw [← hu9] at hPn hDn hu hp
  have hPn : va_P D vwCl ([(q1, .inr (2, [.ref y2, .ref (nv3 0)])), ((nv3 0), .inr (10, [.ref (nv3 1), .ref (nv3 5), .ref (nv3 10), .int 0, .int 0, .int 0, .int 0, .int 0, .int 0, .ref (nv3 19), .ref (nv3 20), .ref (nv3 21)])), ((nv3 5), .inr (6, [.int 0, .int 0, .ref (nv3 6), .ref (nv3 7), .ref (nv3 8), .ref (nv3 9)])), ((nv3 8), .inl (k 1, 12, .inl (fun _ => 0))), ((nv3 9), .inl (k 1, 12, .inl (fun _ => 0))), ((nv3 10), .inr (4, [.int 0, .int 0, .int 0, .ref (nv3 11), .ref (nv3 12), .ref (nv3 13), .ref (nv3 14), .ref (nv3 15), .ref (nv3 16), .ref (nv3 17), .ref (nv3 18)])), ((nv3 11), .inl (k 1, 12, .inl (fun _ => 0))), ((nv3 12), .inl (k 1, 12, .inl (fun _ => 0))), ((nv3 13), .inl (k 1, 12, .inl (fun _ => 0))), ((nv3 14), .inl (k 1, 20, .inl (fun _ => 0))), ((nv3 15), .inl (k 1, 20, .inl (fun _ => 0))), ((nv3 16), .inl (k 1, 20, .inl (fun _ => 0))), ((nv3 17), .inl (k 2, 17, .inr (.inl (fun _ => 0)))), ((nv3 18), .inl (k 2, 16, .inr (.inl (fun _ => 0)))), ((nv3 19), .inl (k 1, 8, .inl (fun _ => 0))), ((nv3 20), .inl (k 1, 8, .inl (fun _ => 0))), ((nv3 21), .inl (k 6, 12, .inr (.inr (.inr (.inr (fun _ => none))))))] ++ PW k u9) H := hPn
  have hDn : va_D A ([(q1, .inr (2, [.ref y2, .ref (nv3 0)])), ((nv3 0), .inr (10, [.ref (nv3 1), .ref (nv3 5), .ref (nv3 10), .int 0, .int 0, .int 0, .int 0, .int 0, .int 0, .ref (nv3 19), .ref (nv3 20), .ref (nv3 21)])), ((nv3 5), .inr (6, [.int 0, .int 0, .ref (nv3 6), .ref (nv3 7), .ref (nv3 8), .ref (nv3 9)])), ((nv3 8), .inl (k 1, 12, .inl (fun _ => 0))), ((nv3 9), .inl (k 1, 12, .inl (fun _ => 0))), ((nv3 10), .inr (4, [.int 0, .int 0, .int 0, .ref (nv3 11), .ref (nv3 12), .ref (nv3 13), .ref (nv3 14), .ref (nv3 15), .ref (nv3 16), .ref (nv3 17), .ref (nv3 18)])), ((nv3 11), .inl (k 1, 12, .inl (fun _ => 0))), ((nv3 12), .inl (k 1, 12, .inl (fun _ => 0))), ((nv3 13), .inl (k 1, 12, .inl (fun _ => 0))), ((nv3 14), .inl (k 1, 20, .inl (fun _ => 0))), ((nv3 15), .inl (k 1, 20, .inl (fun _ => 0))), ((nv3 16), .inl (k 1, 20, .inl (fun _ => 0))), ((nv3 17), .inl (k 2, 17, .inr (.inl (fun _ => 0)))), ((nv3 18), .inl (k 2, 16, .inr (.inl (fun _ => 0)))), ((nv3 19), .inl (k 1, 8, .inl (fun _ => 0))), ((nv3 20), .inl (k 1, 8, .inl (fun _ => 0))), ((nv3 21), .inl (k 6, 12, .inr (.inr (.inr (.inr (fun _ => none))))))] ++ PW k u9) := hDn
  have k_h0 : u9.2.1 h0 = 11 := by rw [hu9]; exact (psh_k m_h0 na).trans k_h0
  have m_h0 : h0 ∈ u9.1 := by rw [hu9]; exact psh_m m_h0
  have k_y2 : u9.2.1 y2 = 9 := by rw [hu9]; exact (psh_k m_y2 na).trans k_y2
  have m_y2 : y2 ∈ u9.1 := by rw [hu9]; exact psh_m m_y2
  have k_nv3_1 : u9.2.1 (nv3 1) = 1 := by rw [hu9]; exact (psh_k m_nv3_1 na).trans k_nv3_1
  have m_nv3_1 : (nv3 1) ∈ u9.1 := by rw [hu9]; exact psh_m m_nv3_1
  have k_nv3_6 : u9.2.1 (nv3 6) = 25 := by rw [hu9]; exact (psh_k m_nv3_6 na).trans k_nv3_6
  have m_nv3_6 : (nv3 6) ∈ u9.1 := by rw [hu9]; exact psh_m m_nv3_6
  have m_nv3_7 : (nv3 7) ∈ u9.1 := by rw [hu9]; exact psh_in
  have k_nv3_7 : u9.2.1 (nv3 7) = 25 := by rw [hu9]; exact psh_kd
  obtain ⟨hPn, hDn, na⟩ := psh_at (i := 3) (a := (nv3 8)) rfl hPn hDn 25 (fun _ => 0) (fun _ => 0) (fun _ => none) (by rw [cF25 psh_kd]; (try simp only [psh_I, psh_J, psh_R]) <;> rfl)
  have hu := WT_psh (kd := 25) (I := (fun _ => 0)) (J := (fun _ => 0)) (R := (fun _ => none)) hu na (fun s t h => (tk25 h).elim) (fun s t h => (tn25 h).elim) (fun h => absurd h (by decide)) (fun _ => trivial)
  have hp := PX_psh (kd := 25) (I := (fun _ => 0)) (J := (fun _ => 0)) (R := (fun _ => none)) hp na
  obtain ⟨u10, hu10⟩ : ∃ z, z = psh u9 (nv3 8) 25 (fun _ => 0) (fun _ => 0) (fun _ => none) := ⟨_, rfl⟩
  rw [← hu10] at hPn hDn hu hp
  have hPn : va_P D vwCl ([(q1, .inr (2, [.ref y2, .ref (nv3 0)])), ((nv3 0), .inr (10, [.ref (nv3 1), .ref (nv3 5), .ref (nv3 10), .int 0, .int 0, .int 0, .int 0, .int 0, .int 0, .ref (nv3 19), .ref (nv3 20), .ref (nv3 21)])), ((nv3 5), .inr (6, [.int 0, .int 0, .ref (nv3 6), .ref (nv3 7), .ref (nv3 8), .ref (nv3 9)])), ((nv3 9), .inl (k 1, 12, .inl (fun _ => 0))), ((nv3 10), .inr (4, [.int 0, .int 0, .int 0, .ref (nv3 11), .ref (nv3 12), .ref (nv3 13), .ref (nv3 14), .ref (nv3 15), .ref (nv3 16), .ref (nv3 17), .ref (nv3 18)])), ((nv3 11), .inl (k 1, 12, .inl (fun _ => 0))), ((nv3 12), .inl (k 1, 12, .inl (fun _ => 0))), ((nv3 13), .inl (k 1, 12, .inl (fun _ => 0))), ((nv3 14), .inl (k 1, 20, .inl (fun _ => 0))), ((nv3 15), .inl (k 1, 20, .inl (fun _ => 0))), ((nv3 16), .inl (k 1, 20, .inl (fun _ => 0))), ((nv3 17), .inl (k 2, 17, .inr (.inl (fun _ => 0)))), ((nv3 18), .inl (k 2, 16, .inr (.inl (fun _ => 0)))), ((nv3 19), .inl (k 1, 8, .inl (fun _ => 0))), ((nv3 20), .inl (k 1, 8, .inl (fun _ => 0))), ((nv3 21), .inl (k 6, 12, .inr (.inr (.inr (.inr (fun _ => none))))))] ++ PW k u10) H := hPn
  have hDn : va_D A ([(q1, .inr (2, [.ref y2, .ref (nv3 0)])), ((nv3 0), .inr (10, [.ref (nv3 1), .ref (nv3 5), .ref (nv3 10), .int 0, .int 0, .int 0, .int 0, .int 0, .int 0, .ref (nv3 19), .ref (nv3 20), .ref (nv3 21)])), ((nv3 5), .inr (6, [.int 0, .int 0, .ref (nv3 6), .ref (nv3 7), .ref (nv3 8), .ref (nv3 9)])), ((nv3 9), .inl (k 1, 12, .inl (fun _ => 0))), ((nv3 10), .inr (4, [.int 0, .int 0, .int 0, .ref (nv3 11), .ref (nv3 12), .ref (nv3 13), .ref (nv3 14), .ref (nv3 15), .ref (nv3 16), .ref (nv3 17), .ref (nv3 18)])), ((nv3 11), .inl (k 1, 12, .inl (fun _ => 0))), ((nv3 12), .inl (k 1, 12, .inl (fun _ => 0))), ((nv3 13), .inl (k 1, 12, .inl (fun _ => 0))), ((nv3 14), .inl (k 1, 20, .inl (fun _ => 0))), ((nv3 15), .inl (k 1, 20, .inl (fun _ => 0))), ((nv3 16), .inl (k 1, 20, .inl (fun _ => 0))), ((nv3 17), .inl (k 2, 17, .inr (.inl (fun _ => 0)))), ((nv3 18), .inl (k 2, 16, .inr (.inl (fun _ => 0)))), ((nv3 19), .inl (k 1, 8, .inl (fun _ => 0))), ((nv3 20), .inl (k 1, 8, .inl (fun _ => 0))), ((nv3 21), .inl (k 6, 12, .inr (.inr (.inr (.inr (fun _ => none))))))] ++ PW k u10) := hDn
  have k_h0 : u10.2.1 h0 = 11 := by rw [hu10]; exact (psh_k m_h0 na).trans k_h0
  have m_h0 : h0 ∈ u10.1 := by rw [hu10]; exact psh_m m_h0
  have k_y2 : u10.2.1 y2 = 9 := by rw [hu10]; exact (psh_k m_y2 na).trans k_y2
  have m_y2 : y2 ∈ u10.1 := by rw [hu10]; exact psh_m m_y2
  have k_nv3_1 : u10.2.1 (nv3 1) = 1 := by rw [hu10]; exact (psh_k m_nv3_1 na).trans k_nv3_1
  have m_nv3_1 : (nv3 1) ∈ u10.1 := by rw [hu10]; exact psh_m m_nv3_1
  have k_nv3_6 : u10.2.1 (nv3 6) = 25 := by rw [hu10]; exact (psh_k m_nv3_6 na).trans k_nv3_6
  have m_nv3_6 : (nv3 6) ∈ u10.1 := by rw [hu10]; exact psh_m m_nv3_6
  have k_nv3_7 : u10.2.1 (nv3 7) = 25 := by rw [hu10]; exact (psh_k m_nv3_7 na).trans k_nv3_7
  have m_nv3_7 : (nv3 7) ∈ u10.1 := by rw [hu10]; exact psh_m m_nv3_7
  have m_nv3_8 : (nv3 8) ∈ u10.1 := by rw [hu10]; exact psh_in
  have k_nv3_8 : u10.2.1 (nv3 8) = 25 := by rw [hu10]; exact psh_kd
  obtain ⟨hPn, hDn, na⟩ := psh_at (i := 3) (a := (nv3 9)) rfl hPn hDn 25 (fun _ => 0) (fun _ => 0) (fun _ => none) (by rw [cF25 psh_kd]; (try simp only [psh_I, psh_J, psh_R]) <;> rfl)
  have hu := WT_psh (kd := 25) (I := (fun _ => 0)) (J := (fun _ => 0)) (R := (fun _ => none)) hu na (fun s t h => (tk25 h).elim) (fun s t h => (tn25 h).elim) (fun h => absurd h (by decide)) (fun _ => trivial)
  have hp := PX_psh (kd := 25) (I := (fun _ => 0)) (J := (fun _ => 0)) (R := (fun _ => none)) hp na
  obtain ⟨u11, hu11⟩ : ∃ z, z = psh u10 (nv3 9) 25 (fun _ => 0) (fun _ => 0) (fun _ => none) := ⟨_, rfl⟩
  rw [← hu11] at hPn hDn hu hp
  have hPn : va_P D vwCl ([(q1, .inr (2, [.ref y2, .ref (nv3 0)])), ((nv3 0), .inr (10, [.ref (nv3 1), .ref (nv3 5), .ref (nv3 10), .int 0, .int 0, .int 0, .int 0, .int 0, .int 0, .ref (nv3 19), .ref (nv3 20), .ref (nv3 21)])), ((nv3 5), .inr (6, [.int 0, .int 0, .ref (nv3 6), .ref (nv3 7), .ref (nv3 8), .ref (nv3 9)])), ((nv3 10), .inr (4, [.int 0, .int 0, .int 0, .ref (nv3 11), .ref (nv3 12), .ref (nv3 13), .ref (nv3 14), .ref (nv3 15), .ref (nv3 16), .ref (nv3 17), .ref (nv3 18)])), ((nv3 11), .inl (k 1, 12, .inl (fun _ => 0))), ((nv3 12), .inl (k 1, 12, .inl (fun _ => 0))), ((nv3 13), .inl (k 1, 12, .inl (fun _ => 0))), ((nv3 14), .inl (k 1, 20, .inl (fun _ => 0))), ((nv3 15), .inl (k 1, 20, .inl (fun _ => 0))), ((nv3 16), .inl (k 1, 20, .inl (fun _ => 0))), ((nv3 17), .inl (k 2, 17, .inr (.inl (fun _ => 0)))), ((nv3 18), .inl (k 2, 16, .inr (.inl (fun _ => 0)))), ((nv3 19), .inl (k 1, 8, .inl (fun _ => 0))), ((nv3 20), .inl (k 1, 8, .inl (fun _ => 0))), ((nv3 21), .inl (k 6, 12, .inr (.inr (.inr (.inr (fun _ => none))))))] ++ PW k u11) H := hPn
  have hDn : va_D A ([(q1, .inr (2, [.ref y2, .ref (nv3 0)])), ((nv3 0), .inr (10, [.ref (nv3 1), .ref (nv3 5), .ref (nv3 10), .int 0, .int 0, .int 0, .int 0, .int 0, .int 0, .ref (nv3 19), .ref (nv3 20), .ref (nv3 21)])), ((nv3 5), .inr (6, [.int 0, .int 0, .ref (nv3 6), .ref (nv3 7), .ref (nv3 8), .ref (nv3 9)])), ((nv3 10), .inr (4, [.int 0, .int 0, .int 0, .ref (nv3 11), .ref (nv3 12), .ref (nv3 13), .ref (nv3 14), .ref (nv3 15), .ref (nv3 16), .ref (nv3 17), .ref (nv3 18)])), ((nv3 11), .inl (k 1, 12, .inl (fun _ => 0))), ((nv3 12), .inl (k 1, 12, .inl (fun _ => 0))), ((nv3 13), .inl (k 1, 12, .inl (fun _ => 0))), ((nv3 14), .inl (k 1, 20, .inl (fun _ => 0))), ((nv3 15), .inl (k 1, 20, .inl (fun _ => 0))), ((nv3 16), .inl (k 1, 20, .inl (fun _ => 0))), ((nv3 17), .inl (k 2, 17, .inr (.inl (fun _ => 0)))), ((nv3 18), .inl (k 2, 16, .inr (.inl (fun _ => 0)))), ((nv3 19), .inl (k 1, 8, .inl (fun _ => 0))), ((nv3 20), .inl (k 1, 8, .inl (fun _ => 0))), ((nv3 21), .inl (k 6, 12, .inr (.inr (.inr (.inr (fun _ => none))))))] ++ PW k u11) := hDn
  have k_h0 : u11.2.1 h0 = 11 := by rw [hu11]; exact (psh_k m_h0 na).trans k_h0
  have m_h0 : h0 ∈ u11.1 := by rw [hu11]; exact psh_m m_h0
  have k_y2 : u11.2.1 y2 = 9 := by rw [hu11]; exact (psh_k m_y2 na).trans k_y2
  have m_y2 : y2 ∈ u11.1 := by rw [hu11]; exact psh_m m_y2
  have k_nv3_1 : u11.2.1 (nv3 1) = 1 := by rw [hu11]; exact (psh_k m_nv3_1 na).trans k_nv3_1
  have m_nv3_1 : (nv3 1) ∈ u11.1 := by rw [hu11]; exact psh_m m_nv3_1
  have k_nv3_6 : u11.2.1 (nv3 6) = 25 := by rw [hu11]; exact (psh_k m_nv3_6 na).trans k_nv3_6
  have m_nv3_6 : (nv3 6) ∈ u11.1 := by rw [hu11]; exact psh_m m_nv3_6
  have k_nv3_7 : u11.2.1 (nv3 7) = 25 := by rw [hu11]; exact (psh_k m_nv3_7 na).trans k_nv3_7
  have m_nv3_7 : (nv3 7) ∈ u11.1 := by rw [hu11]; exact psh_m m_nv3_7
  have k_nv3_8 : u11.2.1 (nv3 8) = 25 := by rw [hu11]; exact (psh_k m_nv3_8 na).trans k_nv3_8
  have m_nv3_8 : (nv3 8) ∈ u11.1 := by rw [hu11]; exact psh_m m_nv3_8
  have m_nv3_9 : (nv3 9) ∈ u11.1 := by rw [hu11]; exact psh_in
  have k_nv3_9 : u11.2.1 (nv3 9) = 25 := by rw [hu11]; exact psh_kd
  obtain ⟨hPn, hDn, na⟩ := psh_at (i := 2) (a := (nv3 5)) rfl hPn hDn 6 (fun s => ([0, 0, 0, 0, 0, 0] : List Int32).getD s 0) (fun s => ([0, 0, 0, 0, 0, 0] : List Int64).getD s 0) (fun s => ([none, none, some (nv3 6), some (nv3 7), some (nv3 8), some (nv3 9)] : List (Option Nat)).getD s none) (by rw [cF6 psh_kd]; (try simp only [psh_I, psh_J, psh_R]) <;> rfl)
  have hu := WT_psh (kd := 6) (I := (fun s => ([0, 0, 0, 0, 0, 0] : List Int32).getD s 0)) (J := (fun s => ([0, 0, 0, 0, 0, 0] : List Int64).getD s 0)) (R := (fun s => ([none, none, some (nv3 6), some (nv3 7), some (nv3 8), some (nv3 9)] : List (Option Nat)).getD s none)) hu na (fun s t h => by rcases tk6 h with ⟨rfl, rfl⟩ | ⟨rfl, rfl⟩ | ⟨rfl, rfl⟩ | ⟨rfl, rfl⟩; exact ⟨_, rfl, m_nv3_6, k_nv3_6⟩; exact ⟨_, rfl, m_nv3_7, k_nv3_7⟩; exact ⟨_, rfl, m_nv3_8, k_nv3_8⟩; exact ⟨_, rfl, m_nv3_9, k_nv3_9⟩) (fun s t h => (tn6 h).elim) (fun h => absurd h (by decide)) (fun _ => trivial)
  have hp := PX_psh (kd := 6) (I := (fun s => ([0, 0, 0, 0, 0, 0] : List Int32).getD s 0)) (J := (fun s => ([0, 0, 0, 0, 0, 0] : List Int64).getD s 0)) (R := (fun s => ([none, none, some (nv3 6), some (nv3 7), some (nv3 8), some (nv3 9)] : List (Option Nat)).getD s none)) hp na
  obtain ⟨u12, hu12⟩ : ∃ z, z = psh u11 (nv3 5) 6 (fun s => ([0, 0, 0, 0, 0, 0] : List Int32).getD s 0) (fun s => ([0, 0, 0, 0, 0, 0] : List Int64).getD s 0) (fun s => ([none, none, some (nv3 6), some (nv3 7), some (nv3 8), some (nv3 9)] : List (Option Nat)).getD s none) := ⟨_, rfl⟩
  rw [← hu12] at hPn hDn hu hp
  have hPn : va_P D vwCl ([(q1, .inr (2, [.ref y2, .ref (nv3 0)])), ((nv3 0), .inr (10, [.ref (nv3 1), .ref (nv3 5), .ref (nv3 10), .int 0, .int 0, .int 0, .int 0, .int 0, .int 0, .ref (nv3 19), .ref (nv3 20), .ref (nv3 21)])), ((nv3 10), .inr (4, [.int 0, .int 0, .int 0, .ref (nv3 11), .ref (nv3 12), .ref (nv3 13), .ref (nv3 14), .ref (nv3 15), .ref (nv3 16), .ref (nv3 17), .ref (nv3 18)])), ((nv3 11), .inl (k 1, 12, .inl (fun _ => 0))), ((nv3 12), .inl (k 1, 12, .inl (fun _ => 0))), ((nv3 13), .inl (k 1, 12, .inl (fun _ => 0))), ((nv3 14), .inl (k 1, 20, .inl (fun _ => 0))), ((nv3 15), .inl (k 1, 20, .inl (fun _ => 0))), ((nv3 16), .inl (k 1, 20, .inl (fun _ => 0))), ((nv3 17), .inl (k 2, 17, .inr (.inl (fun _ => 0)))), ((nv3 18), .inl (k 2, 16, .inr (.inl (fun _ => 0)))), ((nv3 19), .inl (k 1, 8, .inl (fun _ => 0))), ((nv3 20), .inl (k 1, 8, .inl (fun _ => 0))), ((nv3 21), .inl (k 6, 12, .inr (.inr (.inr (.inr (fun _ => none))))))] ++ PW k u12) H := hPn
  have hDn : va_D A ([(q1, .inr (2, [.ref y2, .ref (nv3 0)])), ((nv3 0), .inr (10, [.ref (nv3 1), .ref (nv3 5), .ref (nv3 10), .int 0, .int 0, .int 0, .int 0, .int 0, .int 0, .ref (nv3 19), .ref (nv3 20), .ref (nv3 21)])), ((nv3 10), .inr (4, [.int 0, .int 0, .int 0, .ref (nv3 11), .ref (nv3 12), .ref (nv3 13), .ref (nv3 14), .ref (nv3 15), .ref (nv3 16), .ref (nv3 17), .ref (nv3 18)])), ((nv3 11), .inl (k 1, 12, .inl (fun _ => 0))), ((nv3 12), .inl (k 1, 12, .inl (fun _ => 0))), ((nv3 13), .inl (k 1, 12, .inl (fun _ => 0))), ((nv3 14), .inl (k 1, 20, .inl (fun _ => 0))), ((nv3 15), .inl (k 1, 20, .inl (fun _ => 0))), ((nv3 16), .inl (k 1, 20, .inl (fun _ => 0))), ((nv3 17), .inl (k 2, 17, .inr (.inl (fun _ => 0)))), ((nv3 18), .inl (k 2, 16, .inr (.inl (fun _ => 0)))), ((nv3 19), .inl (k 1, 8, .inl (fun _ => 0))), ((nv3 20), .inl (k 1, 8, .inl (fun _ => 0))), ((nv3 21), .inl (k 6, 12, .inr (.inr (.inr (.inr (fun _ => none))))))] ++ PW k u12) := hDn
  have k_h0 : u12.2.1 h0 = 11 := by rw [hu12]; exact (psh_k m_h0 na).trans k_h0
  have m_h0 : h0 ∈ u12.1 := by rw [hu12]; exact psh_m m_h0
  have k_y2 : u12.2.1 y2 = 9 := by rw [hu12]; exact (psh_k m_y2 na).trans k_y2
  have m_y2 : y2 ∈ u12.1 := by rw [hu12]; exact psh_m m_y2
  have k_nv3_1 : u12.2.1 (nv3 1) = 1 := by rw [hu12]; exact (psh_k m_nv3_1 na).trans k_nv3_1
  have m_nv3_1 : (nv3 1) ∈ u12.1 := by rw [hu12]; exact psh_m m_nv3_1
  have k_nv3_6 : u12.2.1 (nv3 6) = 25 := by rw [hu12]; exact (psh_k m_nv3_6 na).trans k_nv3_6
  have m_nv3_6 : (nv3 6) ∈ u12.1 := by rw [hu12]; exact psh_m m_nv3_6
  have k_nv3_7 : u12.2.1 (nv3 7) = 25 := by rw [hu12]; exact (psh_k m_nv3_7 na).trans k_nv3_7
  have m_nv3_7 : (nv3 7) ∈ u12.1 := by rw [hu12]; exact psh_m m_nv3_7
  have k_nv3_8 : u12.2.1 (nv3 8) = 25 := by rw [hu12]; exact (psh_k m_nv3_8 na).trans k_nv3_8
  have m_nv3_8 : (nv3 8) ∈ u12.1 := by rw [hu12]; exact psh_m m_nv3_8
  have k_nv3_9 : u12.2.1 (nv3 9) = 25 := by rw [hu12]; exact (psh_k m_nv3_9 na).trans k_nv3_9
  have m_nv3_9 : (nv3 9) ∈ u12.1 := by rw [hu12]; exact psh_m m_nv3_9
  have m_nv3_5 : (nv3 5) ∈ u12.1 := by rw [hu12]; exact psh_in
  have k_nv3_5 : u12.2.1 (nv3 5) = 6 := by rw [hu12]; exact psh_kd
  obtain ⟨hPn, hDn, na⟩ := psh_at (i := 3) (a := (nv3 11)) rfl hPn hDn 25 (fun _ => 0) (fun _ => 0) (fun _ => none) (by rw [cF25 psh_kd]; (try simp only [psh_I, psh_J, psh_R]) <;> rfl)
  have hu := WT_psh (kd := 25) (I := (fun _ => 0)) (J := (fun _ => 0)) (R := (fun _ => none)) hu na (fun s t h => (tk25 h).elim) (fun s t h => (tn25 h).elim) (fun h => absurd h (by decide)) (fun _ => trivial)
  have hp := PX_psh (kd := 25) (I := (fun _ => 0)) (J := (fun _ => 0)) (R := (fun _ => none)) hp na
  obtain ⟨u13, hu13⟩ : ∃ z, z = psh u12 (nv3 11) 25 (fun _ => 0) (fun _ => 0) (fun _ => none) := ⟨_, rfl⟩
  rw [← hu13] at hPn hDn hu hp
  have hPn : va_P D vwCl ([(q1, .inr (2, [.ref y2, .ref (nv3 0)])), ((nv3 0), .inr (10, [.ref (nv3 1), .ref (nv3 5), .ref (nv3 10), .int 0, .int 0, .int 0, .int 0, .int 0, .int 0, .ref (nv3 19), .ref (nv3 20), .ref (nv3 21)])), ((nv3 10), .inr (4, [.int 0, .int 0, .int 0, .ref (nv3 11), .ref (nv3 12), .ref (nv3 13), .ref (nv3 14), .ref (nv3 15), .ref (nv3 16), .ref (nv3 17), .ref (nv3 18)])), ((nv3 12), .inl (k 1, 12, .inl (fun _ => 0))), ((nv3 13), .inl (k 1, 12, .inl (fun _ => 0))), ((nv3 14), .inl (k 1, 20, .inl (fun _ => 0))), ((nv3 15), .inl (k 1, 20, .inl (fun _ => 0))), ((nv3 16), .inl (k 1, 20, .inl (fun _ => 0))), ((nv3 17), .inl (k 2, 17, .inr (.inl (fun _ => 0)))), ((nv3 18), .inl (k 2, 16, .inr (.inl (fun _ => 0)))), ((nv3 19), .inl (k 1, 8, .inl (fun _ => 0))), ((nv3 20), .inl (k 1, 8, .inl (fun _ => 0))), ((nv3 21), .inl (k 6, 12, .inr (.inr (.inr (.inr (fun _ => none))))))] ++ PW k u13) H := hPn
  have hDn : va_D A ([(q1, .inr (2, [.ref y2, .ref (nv3 0)])), ((nv3 0), .inr (10, [.ref (nv3 1), .ref (nv3 5), .ref (nv3 10), .int 0, .int 0, .int 0, .int 0, .int 0, .int 0, .ref (nv3 19), .ref (nv3 20), .ref (nv3 21)])), ((nv3 10), .inr (4, [.int 0, .int 0, .int 0, .ref (nv3 11), .ref (nv3 12), .ref (nv3 13), .ref (nv3 14), .ref (nv3 15), .ref (nv3 16), .ref (nv3 17), .ref (nv3 18)])), ((nv3 12), .inl (k 1, 12, .inl (fun _ => 0))), ((nv3 13), .inl (k 1, 12, .inl (fun _ => 0))), ((nv3 14), .inl (k 1, 20, .inl (fun _ => 0))), ((nv3 15), .inl (k 1, 20, .inl (fun _ => 0))), ((nv3 16), .inl (k 1, 20, .inl (fun _ => 0))), ((nv3 17), .inl (k 2, 17, .inr (.inl (fun _ => 0)))), ((nv3 18), .inl (k 2, 16, .inr (.inl (fun _ => 0)))), ((nv3 19), .inl (k 1, 8, .inl (fun _ => 0))), ((nv3 20), .inl (k 1, 8, .inl (fun _ => 0))), ((nv3 21), .inl (k 6, 12, .inr (.inr (.inr (.inr (fun _ => none))))))] ++ PW k u13) := hDn
  have k_h0 : u13.2.1 h0 = 11 := by rw [hu13]; exact (psh_k m_h0 na).trans k_h0
  have m_h0 : h0 ∈ u13.1 := by rw [hu13]; exact psh_m m_h0
  have k_y2 : u13.2.1 y2 = 9 := by rw [hu13]; exact (psh_k m_y2 na).trans k_y2
  have m_y2 : y2 ∈ u13.1 := by rw [hu13]; exact psh_m m_y2
  have k_nv3_1 : u13.2.1 (nv3 1) = 1 := by rw [hu13]; exact (psh_k m_nv3_1 na).trans k_nv3_1
  have m_nv3_1 : (nv3 1) ∈ u13.1 := by rw [hu13]; exact psh_m m_nv3_1
  have k_nv3_5 : u13.2.1 (nv3 5) = 6 := by rw [hu13]; exact (psh_k m_nv3_5 na).trans k_nv3_5
  have m_nv3_5 : (nv3 5) ∈ u13.1 := by rw [hu13]; exact psh_m m_nv3_5
  have m_nv3_11 : (nv3 11) ∈ u13.1 := by rw [hu13]; exact psh_in
  have k_nv3_11 : u13.2.1 (nv3 11) = 25 := by rw [hu13]; exact psh_kd
  obtain ⟨hPn, hDn, na⟩ := psh_at (i := 3) (a := (nv3 12)) rfl hPn hDn 25 (fun _ => 0) (fun _ => 0) (fun _ => none) (by rw [cF25 psh_kd]; (try simp only [psh_I, psh_J, psh_R]) <;> rfl)
  have hu := WT_psh (kd := 25) (I := (fun _ => 0)) (J := (fun _ => 0)) (R := (fun _ => none)) hu na (fun s t h => (tk25 h).elim) (fun s t h => (tn25 h).elim) (fun h => absurd h (by decide)) (fun _ => trivial)
  have hp := PX_psh (kd := 25) (I := (fun _ => 0)) (J := (fun _ => 0)) (R := (fun _ => none)) hp na
  obtain ⟨u14, hu14⟩ : ∃ z, z = psh u13 (nv3 12) 25 (fun _ => 0) (fun _ => 0) (fun _ => none) := ⟨_, rfl⟩
  rw [← hu14] at hPn hDn hu hp
  have hPn : va_P D vwCl ([(q1, .inr (2, [.ref y2, .ref (nv3 0)])), ((nv3 0), .inr (10, [.ref (nv3 1), .ref (nv3 5), .ref (nv3 10), .int 0, .int 0, .int 0, .int 0, .int 0, .int 0, .ref (nv3 19), .ref (nv3 20), .ref (nv3 21)])), ((nv3 10), .inr (4, [.int 0, .int 0, .int 0, .ref (nv3 11), .ref (nv3 12), .ref (nv3 13), .ref (nv3 14), .ref (nv3 15), .ref (nv3 16), .ref (nv3 17), .ref (nv3 18)])), ((nv3 13), .inl (k 1, 12, .inl (fun _ => 0))), ((nv3 14), .inl (k 1, 20, .inl (fun _ => 0))), ((nv3 15), .inl (k 1, 20, .inl (fun _ => 0))), ((nv3 16), .inl (k 1, 20, .inl (fun _ => 0))), ((nv3 17), .inl (k 2, 17, .inr (.inl (fun _ => 0)))), ((nv3 18), .inl (k 2, 16, .inr (.inl (fun _ => 0)))), ((nv3 19), .inl (k 1, 8, .inl (fun _ => 0))), ((nv3 20), .inl (k 1, 8, .inl (fun _ => 0))), ((nv3 21), .inl (k 6, 12, .inr (.inr (.inr (.inr (fun _ => none))))))] ++ PW k u14) H := hPn
  have hDn : va_D A ([(q1, .inr (2, [.ref y2, .ref (nv3 0)])), ((nv3 0), .inr (10, [.ref (nv3 1), .ref (nv3 5), .ref (nv3 10), .int 0, .int 0, .int 0, .int 0, .int 0, .int 0, .ref (nv3 19), .ref (nv3 20), .ref (nv3 21)])), ((nv3 10), .inr (4, [.int 0, .int 0, .int 0, .ref (nv3 11), .ref (nv3 12), .ref (nv3 13), .ref (nv3 14), .ref (nv3 15), .ref (nv3 16), .ref (nv3 17), .ref (nv3 18)])), ((nv3 13), .inl (k 1, 12, .inl (fun _ => 0))), ((nv3 14), .inl (k 1, 20, .inl (fun _ => 0))), ((nv3 15), .inl (k 1, 20, .inl (fun _ => 0))), ((nv3 16), .inl (k 1, 20, .inl (fun _ => 0))), ((nv3 17), .inl (k 2, 17, .inr (.inl (fun _ => 0)))), ((nv3 18), .inl (k 2, 16, .inr (.inl (fun _ => 0)))), ((nv3 19), .inl (k 1, 8, .inl (fun _ => 0))), ((nv3 20), .inl (k 1, 8, .inl (fun _ => 0))), ((nv3 21), .inl (k 6, 12, .inr (.inr (.inr (.inr (fun _ => none))))))] ++ PW k u14) := hDn
  have k_h0 : u14.2.1 h0 = 11 := by rw [hu14]; exact (psh_k m_h0 na).trans k_h0
  have m_h0 : h0 ∈ u14.1 := by rw [hu14]; exact psh_m m_h0
  have k_y2 : u14.2.1 y2 = 9 := by rw [hu14]; exact (psh_k m_y2 na).trans k_y2
  have m_y2 : y2 ∈ u14.1 := by rw [hu14]; exact psh_m m_y2
  have k_nv3_1 : u14.2.1 (nv3 1) = 1 := by rw [hu14]; exact (psh_k m_nv3_1 na).trans k_nv3_1
  have m_nv3_1 : (nv3 1) ∈ u14.1 := by rw [hu14]; exact psh_m m_nv3_1
  have k_nv3_5 : u14.2.1 (nv3 5) = 6 := by rw [hu14]; exact (psh_k m_nv3_5 na).trans k_nv3_5
  have m_nv3_5 : (nv3 5) ∈ u14.1 := by rw [hu14]; exact psh_m m_nv3_5
  have k_nv3_11 : u14.2.1 (nv3 11) = 25 := by rw [hu14]; exact (psh_k m_nv3_11 na).trans k_nv3_11
  have m_nv3_11 : (nv3 11) ∈ u14.1 := by rw [hu14]; exact psh_m m_nv3_11
  have m_nv3_12 : (nv3 12) ∈ u14.1 := by rw [hu14]; exact psh_in
  have k_nv3_12 : u14.2.1 (nv3 12) = 25 := by rw [hu14]; exact psh_kd
  obtain ⟨hPn, hDn, na⟩ := psh_at (i := 3) (a := (nv3 13)) rfl hPn hDn 25 (fun _ => 0) (fun _ => 0) (fun _ => none) (by rw [cF25 psh_kd]; (try simp only [psh_I, psh_J, psh_R]) <;> rfl)
  have hu := WT_psh (kd := 25) (I := (fun _ => 0)) (J := (fun _ => 0)) (R := (fun _ => none)) hu na (fun s t h => (tk25 h).elim) (fun s t h => (tn25 h).elim) (fun h => absurd h (by decide)) (fun _ => trivial)
  have hp := PX_psh (kd := 25) (I := (fun _ => 0)) (J := (fun _ => 0)) (R := (fun _ => none)) hp na
  obtain ⟨u15, hu15⟩ : ∃ z, z = psh u14 (nv3 13) 25 (fun _ => 0) (fun _ => 0) (fun _ => none) := ⟨_, rfl⟩
  rw [← hu15] at hPn hDn hu hp
  have hPn : va_P D vwCl ([(q1, .inr (2, [.ref y2, .ref (nv3 0)])), ((nv3 0), .inr (10, [.ref (nv3 1), .ref (nv3 5), .ref (nv3 10), .int 0, .int 0, .int 0, .int 0, .int 0, .int 0, .ref (nv3 19), .ref (nv3 20), .ref (nv3 21)])), ((nv3 10), .inr (4, [.int 0, .int 0, .int 0, .ref (nv3 11), .ref (nv3 12), .ref (nv3 13), .ref (nv3 14), .ref (nv3 15), .ref (nv3 16), .ref (nv3 17), .ref (nv3 18)])), ((nv3 14), .inl (k 1, 20, .inl (fun _ => 0))), ((nv3 15), .inl (k 1, 20, .inl (fun _ => 0))), ((nv3 16), .inl (k 1, 20, .inl (fun _ => 0))), ((nv3 17), .inl (k 2, 17, .inr (.inl (fun _ => 0)))), ((nv3 18), .inl (k 2, 16, .inr (.inl (fun _ => 0)))), ((nv3 19), .inl (k 1, 8, .inl (fun _ => 0))), ((nv3 20), .inl (k 1, 8, .inl (fun _ => 0))), ((nv3 21), .inl (k 6, 12, .inr (.inr (.inr (.inr (fun _ => none))))))] ++ PW k u15) H := hPn
  have hDn : va_D A ([(q1, .inr (2, [.ref y2, .ref (nv3 0)])), ((nv3 0), .inr (10, [.ref (nv3 1), .ref (nv3 5), .ref (nv3 10), .int 0, .int 0, .int 0, .int 0, .int 0, .int 0, .ref (nv3 19), .ref (nv3 20), .ref (nv3 21)])), ((nv3 10), .inr (4, [.int 0, .int 0, .int 0, .ref (nv3 11), .ref (nv3 12), .ref (nv3 13), .ref (nv3 14), .ref (nv3 15), .ref (nv3 16), .ref (nv3 17), .ref (nv3 18)])), ((nv3 14), .inl (k 1, 20, .inl (fun _ => 0))), ((nv3 15), .inl (k 1, 20, .inl (fun _ => 0))), ((nv3 16), .inl (k 1, 20, .inl (fun _ => 0))), ((nv3 17), .inl (k 2, 17, .inr (.inl (fun _ => 0)))), ((nv3 18), .inl (k 2, 16, .inr (.inl (fun _ => 0)))), ((nv3 19), .inl (k 1, 8, .inl (fun _ => 0))), ((nv3 20), .inl (k 1, 8, .inl (fun _ => 0))), ((nv3 21), .inl (k 6, 12, .inr (.inr (.inr (.inr (fun _ => none))))))] ++ PW k u15) := hDn
  have k_h0 : u15.2.1 h0 = 11 := by rw [hu15]; exact (psh_k m_h0 na).trans k_h0
  have m_h0 : h0 ∈ u15.1 := by rw [hu15]; exact psh_m m_h0
  have k_y2 : u15.2.1 y2 = 9 := by rw [hu15]; exact (psh_k m_y2 na).trans k_y2
  have m_y2 : y2 ∈ u15.1 := by rw [hu15]; exact psh_m m_y2
  have k_nv3_1 : u15.2.1 (nv3 1) = 1 := by rw [hu15]; exact (psh_k m_nv3_1 na).trans k_nv3_1
  have m_nv3_1 : (nv3 1) ∈ u15.1 := by rw [hu15]; exact psh_m m_nv3_1
  have k_nv3_5 : u15.2.1 (nv3 5) = 6 := by rw [hu15]; exact (psh_k m_nv3_5 na).trans k_nv3_5
  have m_nv3_5 : (nv3 5) ∈ u15.1 := by rw [hu15]; exact psh_m m_nv3_5
  have k_nv3_11 : u15.2.1 (nv3 11) = 25 := by rw [hu15]; exact (psh_k m_nv3_11 na).trans k_nv3_11
  have m_nv3_11 : (nv3 11) ∈ u15.1 := by rw [hu15]; exact psh_m m_nv3_11
  have k_nv3_12 : u15.2.1 (nv3 12) = 25 := by rw [hu15]; exact (psh_k m_nv3_12 na).trans k_nv3_12
  have m_nv3_12 : (nv3 12) ∈ u15.1 := by rw [hu15]; exact psh_m m_nv3_12
  have m_nv3_13 : (nv3 13) ∈ u15.1 := by rw [hu15]; exact psh_in
  have k_nv3_13 : u15.2.1 (nv3 13) = 25 := by rw [hu15]; exact psh_kd
  obtain ⟨hPn, hDn, na⟩ := psh_at (i := 3) (a := (nv3 14)) rfl hPn hDn 26 (fun _ => 0) (fun _ => 0) (fun _ => none) (by rw [cF26 psh_kd]; (try simp only [psh_I, psh_J, psh_R]) <;> rfl)
  have hu := WT_psh (kd := 26) (I := (fun _ => 0)) (J := (fun _ => 0)) (R := (fun _ => none)) hu na (fun s t h => (tk26 h).elim) (fun s t h => (tn26 h).elim) (fun h => absurd h (by decide)) (fun _ => trivial)
  have hp := PX_psh (kd := 26) (I := (fun _ => 0)) (J := (fun _ => 0)) (R := (fun _ => none)) hp na
  obtain ⟨u16, hu16⟩ : ∃ z, z = psh u15 (nv3 14) 26 (fun _ => 0) (fun _ => 0) (fun _ => none) := ⟨_, rfl⟩
  rw [← hu16] at hPn hDn hu hp
  have hPn : va_P D vwCl ([(q1, .inr (2, [.ref y2, .ref (nv3 0)])), ((nv3 0), .inr (10, [.ref (nv3 1), .ref (nv3 5), .ref (nv3 10), .int 0, .int 0, .int 0, .int 0, .int 0, .int 0, .ref (nv3 19), .ref (nv3 20), .ref (nv3 21)])), ((nv3 10), .inr (4, [.int 0, .int 0, .int 0, .ref (nv3 11), .ref (nv3 12), .ref (nv3 13), .ref (nv3 14), .ref (nv3 15), .ref (nv3 16), .ref (nv3 17), .ref (nv3 18)])), ((nv3 15), .inl (k 1, 20, .inl (fun _ => 0))), ((nv3 16), .inl (k 1, 20, .inl (fun _ => 0))), ((nv3 17), .inl (k 2, 17, .inr (.inl (fun _ => 0)))), ((nv3 18), .inl (k 2, 16, .inr (.inl (fun _ => 0)))), ((nv3 19), .inl (k 1, 8, .inl (fun _ => 0))), ((nv3 20), .inl (k 1, 8, .inl (fun _ => 0))), ((nv3 21), .inl (k 6, 12, .inr (.inr (.inr (.inr (fun _ => none))))))] ++ PW k u16) H := hPn
  have hDn : va_D A ([(q1, .inr (2, [.ref y2, .ref (nv3 0)])), ((nv3 0), .inr (10, [.ref (nv3 1), .ref (nv3 5), .ref (nv3 10), .int 0, .int 0, .int 0, .int 0, .int 0, .int 0, .ref (nv3 19), .ref (nv3 20), .ref (nv3 21)])), ((nv3 10), .inr (4, [.int 0, .int 0, .int 0, .ref (nv3 11), .ref (nv3 12), .ref (nv3 13), .ref (nv3 14), .ref (nv3 15), .ref (nv3 16), .ref (nv3 17), .ref (nv3 18)])), ((nv3 15), .inl (k 1, 20, .inl (fun _ => 0))), ((nv3 16), .inl (k 1, 20, .inl (fun _ => 0))), ((nv3 17), .inl (k 2, 17, .inr (.inl (fun _ => 0)))), ((nv3 18), .inl (k 2, 16, .inr (.inl (fun _ => 0)))), ((nv3 19), .inl (k 1, 8, .inl (fun _ => 0))), ((nv3 20), .inl (k 1, 8, .inl (fun _ => 0))), ((nv3 21), .inl (k 6, 12, .inr (.inr (.inr (.inr (fun _ => none))))))] ++ PW k u16) := hDn
  have k_h0 : u16.2.1 h0 = 11 := by rw [hu16]; exact (psh_k m_h0 na).trans k_h0
  have m_h0 : h0 ∈ u16.1 := by rw [hu16]; exact psh_m m_h0
  have k_y2 : u16.2.1 y2 = 9 := by rw [hu16]; exact (psh_k m_y2 na).trans k_y2
  have m_y2 : y2 ∈ u16.1 := by rw [hu16]; exact psh_m m_y2
  have k_nv3_1 : u16.2.1 (nv3 1) = 1 := by rw [hu16]; exact (psh_k m_nv3_1 na).trans k_nv3_1
  have m_nv3_1 : (nv3 1) ∈ u16.1 := by rw [hu16]; exact psh_m m_nv3_1
  have k_nv3_5 : u16.2.1 (nv3 5) = 6 := by rw [hu16]; exact (psh_k m_nv3_5 na).trans k_nv3_5
  have m_nv3_5 : (nv3 5) ∈ u16.1 := by rw [hu16]; exact psh_m m_nv3_5
  have k_nv3_11 : u16.2.1 (nv3 11) = 25 := by rw [hu16]; exact (psh_k m_nv3_11 na).trans k_nv3_11
  have m_nv3_11 : (nv3 11) ∈ u16.1 := by rw [hu16]; exact psh_m m_nv3_11
  have k_nv3_12 : u16.2.1 (nv3 12) = 25 := by rw [hu16]; exact (psh_k m_nv3_12 na).trans k_nv3_12
  have m_nv3_12 : (nv3 12) ∈ u16.1 := by rw [hu16]; exact psh_m m_nv3_12
  have k_nv3_13 : u16.2.1 (nv3 13) = 25 := by rw [hu16]; exact (psh_k m_nv3_13 na).trans k_nv3_13
  have m_nv3_13 : (nv3 13) ∈ u16.1 := by rw [hu16]; exact psh_m m_nv3_13
  have m_nv3_14 : (nv3 14) ∈ u16.1 := by rw [hu16]; exact psh_in
  have k_nv3_14 : u16.2.1 (nv3 14) = 26 := by rw [hu16]; exact psh_kd
  obtain ⟨hPn, hDn, na⟩ := psh_at (i := 3) (a := (nv3 15)) rfl hPn hDn 26 (fun _ => 0) (fun _ => 0) (fun _ => none) (by rw [cF26 psh_kd]; (try simp only [psh_I, psh_J, psh_R]) <;> rfl)
  have hu := WT_psh (kd := 26) (I := (fun _ => 0)) (J := (fun _ => 0)) (R := (fun _ => none)) hu na (fun s t h => (tk26 h).elim) (fun s t h => (tn26 h).elim) (fun h => absurd h (by decide)) (fun _ => trivial)
  have hp := PX_psh (kd := 26) (I := (fun _ => 0)) (J := (fun _ => 0)) (R := (fun _ => none)) hp na
  obtain ⟨u17, hu17⟩ : ∃ z, z = psh u16 (nv3 15) 26 (fun _ => 0) (fun _ => 0) (fun _ => none) := ⟨_, rfl⟩
  rw [← hu17] at hPn hDn hu hp
  have hPn : va_P D vwCl ([(q1, .inr (2, [.ref y2, .ref (nv3 0)])), ((nv3 0), .inr (10, [.ref (nv3 1), .ref (nv3 5), .ref (nv3 10), .int 0, .int 0, .int 0, .int 0, .int 0, .int 0, .ref (nv3 19), .ref (nv3 20), .ref (nv3 21)])), ((nv3 10), .inr (4, [.int 0, .int 0, .int 0, .ref (nv3 11), .ref (nv3 12), .ref (nv3 13), .ref (nv3 14), .ref (nv3 15), .ref (nv3 16), .ref (nv3 17), .ref (nv3 18)])), ((nv3 16), .inl (k 1, 20, .inl (fun _ => 0))), ((nv3 17), .inl (k 2, 17, .inr (.inl (fun _ => 0)))), ((nv3 18), .inl (k 2, 16, .inr (.inl (fun _ => 0)))), ((nv3 19), .inl (k 1, 8, .inl (fun _ => 0))), ((nv3 20), .inl (k 1, 8, .inl (fun _ => 0))), ((nv3 21), .inl (k 6, 12, .inr (.inr (.inr (.inr (fun _ => none))))))] ++ PW k u17) H := hPn
  have hDn : va_D A ([(q1, .inr (2, [.ref y2, .ref (nv3 0)])), ((nv3 0), .inr (10, [.ref (nv3 1), .ref (nv3 5), .ref (nv3 10), .int 0, .int 0, .int 0, .int 0, .int 0, .int 0, .ref (nv3 19), .ref (nv3 20), .ref (nv3 21)])), ((nv3 10), .inr (4, [.int 0, .int 0, .int 0, .ref (nv3 11), .ref (nv3 12), .ref (nv3 13), .ref (nv3 14), .ref (nv3 15), .ref (nv3 16), .ref (nv3 17), .ref (nv3 18)])), ((nv3 16), .inl (k 1, 20, .inl (fun _ => 0))), ((nv3 17), .inl (k 2, 17, .inr (.inl (fun _ => 0)))), ((nv3 18), .inl (k 2, 16, .inr (.inl (fun _ => 0)))), ((nv3 19), .inl (k 1, 8, .inl (fun _ => 0))), ((nv3 20), .inl (k 1, 8, .inl (fun _ => 0))), ((nv3 21), .inl (k 6, 12, .inr (.inr (.inr (.inr (fun _ => none))))))] ++ PW k u17) := hDn
  have k_h0 : u17.2.1 h0 = 11 := by rw [hu17]; exact (psh_k m_h0 na).trans k_h0
  have m_h0 : h0 ∈ u17.1 := by rw [hu17]; exact psh_m m_h0
  have k_y2 : u17.2.1 y2 = 9 := by rw [hu17]; exact (psh_k m_y2 na).trans k_y2
  have m_y2 : y2 ∈ u17.1 := by rw [hu17]; exact psh_m m_y2
  have k_nv3_1 : u17.2.1 (nv3 1) = 1 := by rw [hu17]; exact (psh_k m_nv3_1 na).trans k_nv3_1
  have m_nv3_1 : (nv3 1) ∈ u17.1 := by rw [hu17]; exact psh_m m_nv3_1
  have k_nv3_5 : u17.2.1 (nv3 5) = 6 := by rw [hu17]; exact (psh_k m_nv3_5 na).trans k_nv3_5
  have m_nv3_5 : (nv3 5) ∈ u17.1 := by rw [hu17]; exact psh_m m_nv3_5
  have k_nv3_11 : u17.2.1 (nv3 11) = 25 := by rw [hu17]; exact (psh_k m_nv3_11 na).trans k_nv3_11
  have m_nv3_11 : (nv3 11) ∈ u17.1 := by rw [hu17]; exact psh_m m_nv3_11
  have k_nv3_12 : u17.2.1 (nv3 12) = 25 := by rw [hu17]; exact (psh_k m_nv3_12 na).trans k_nv3_12
  have m_nv3_12 : (nv3 12) ∈ u17.1 := by rw [hu17]; exact psh_m m_nv3_12
  have k_nv3_13 : u17.2.1 (nv3 13) = 25 := by rw [hu17]; exact (psh_k m_nv3_13 na).trans k_nv3_13
  have m_nv3_13 : (nv3 13) ∈ u17.1 := by rw [hu17]; exact psh_m m_nv3_13
  have k_nv3_14 : u17.2.1 (nv3 14) = 26 := by rw [hu17]; exact (psh_k m_nv3_14 na).trans k_nv3_14
  have m_nv3_14 : (nv3 14) ∈ u17.1 := by rw [hu17]; exact psh_m m_nv3_14
  have m_nv3_15 : (nv3 15) ∈ u17.1 := by rw [hu17]; exact psh_in
  have k_nv3_15 : u17.2.1 (nv3 15) = 26 := by rw [hu17]; exact psh_kd
  obtain ⟨hPn, hDn, na⟩ := psh_at (i := 3) (a := (nv3 16)) rfl hPn hDn 26 (fun _ => 0) (fun _ => 0) (fun _ => none) (by rw [cF26 psh_kd]; (try simp only [psh_I, psh_J, psh_R]) <;> rfl)
  have hu := WT_psh (kd := 26) (I := (fun _ => 0)) (J := (fun _ => 0)) (R := (fun _ => none)) hu na (fun s t h => (tk26 h).elim) (fun s t h => (tn26 h).elim) (fun h => absurd h (by decide)) (fun _ => trivial)
  have hp := PX_psh (kd := 26) (I := (fun _ => 0)) (J := (fun _ => 0)) (R := (fun _ => none)) hp na
  obtain ⟨u18, hu18⟩ : ∃ z, z = psh u17 (nv3 16) 26 (fun _ => 0) (fun _ => 0) (fun _ => none) := ⟨_, rfl⟩
  rw [← hu18] at hPn hDn hu hp
  have hPn : va_P D vwCl ([(q1, .inr (2, [.ref y2, .ref (nv3 0)])), ((nv3 0), .inr (10, [.ref (nv3 1), .ref (nv3 5), .ref (nv3 10), .int 0, .int 0, .int 0, .int 0, .int 0, .int 0, .ref (nv3 19), .ref (nv3 20), .ref (nv3 21)])), ((nv3 10), .inr (4, [.int 0, .int 0, .int 0, .ref (nv3 11), .ref (nv3 12), .ref (nv3 13), .ref (nv3 14), .ref (nv3 15), .ref (nv3 16), .ref (nv3 17), .ref (nv3 18)])), ((nv3 17), .inl (k 2, 17, .inr (.inl (fun _ => 0)))), ((nv3 18), .inl (k 2, 16, .inr (.inl (fun _ => 0)))), ((nv3 19), .inl (k 1, 8, .inl (fun _ => 0))), ((nv3 20), .inl (k 1, 8, .inl (fun _ => 0))), ((nv3 21), .inl (k 6, 12, .inr (.inr (.inr (.inr (fun _ => none))))))] ++ PW k u18) H := hPn
  have hDn : va_D A ([(q1, .inr (2, [.ref y2, .ref (nv3 0)])), ((nv3 0), .inr (10, [.ref (nv3 1), .ref (nv3 5), .ref (nv3 10), .int 0, .int 0, .int 0, .int 0, .int 0, .int 0, .ref (nv3 19), .ref (nv3 20), .ref (nv3 21)])), ((nv3 10), .inr (4, [.int 0, .int 0, .int 0, .ref (nv3 11), .ref (nv3 12), .ref (nv3 13), .ref (nv3 14), .ref (nv3 15), .ref (nv3 16), .ref (nv3 17), .ref (nv3 18)])), ((nv3 17), .inl (k 2, 17, .inr (.inl (fun _ => 0)))), ((nv3 18), .inl (k 2, 16, .inr (.inl (fun _ => 0)))), ((nv3 19), .inl (k 1, 8, .inl (fun _ => 0))), ((nv3 20), .inl (k 1, 8, .inl (fun _ => 0))), ((nv3 21), .inl (k 6, 12, .inr (.inr (.inr (.inr (fun _ => none))))))] ++ PW k u18) := hDn
  have k_h0 : u18.2.1 h0 = 11 := by rw [hu18]; exact (psh_k m_h0 na).trans k_h0
  have m_h0 : h0 ∈ u18.1 := by rw [hu18]; exact psh_m m_h0
  have k_y2 : u18.2.1 y2 = 9 := by rw [hu18]; exact (psh_k m_y2 na).trans k_y2
  have m_y2 : y2 ∈ u18.1 := by rw [hu18]; exact psh_m m_y2
  have k_nv3_1 : u18.2.1 (nv3 1) = 1 := by rw [hu18]; exact (psh_k m_nv3_1 na).trans k_nv3_1
  have m_nv3_1 : (nv3 1) ∈ u18.1 := by rw [hu18]; exact psh_m m_nv3_1
  have k_nv3_5 : u18.2.1 (nv3 5) = 6 := by rw [hu18]; exact (psh_k m_nv3_5 na).trans k_nv3_5
  have m_nv3_5 : (nv3 5) ∈ u18.1 := by rw [hu18]; exact psh_m m_nv3_5
  have k_nv3_11 : u18.2.1 (nv3 11) = 25 := by rw [hu18]; exact (psh_k m_nv3_11 na).trans k_nv3_11
  have m_nv3_11 : (nv3 11) ∈ u18.1 := by rw [hu18]; exact psh_m m_nv3_11
  have k_nv3_12 : u18.2.1 (nv3 12) = 25 := by rw [hu18]; exact (psh_k m_nv3_12 na).trans k_nv3_12
  have m_nv3_12 : (nv3 12) ∈ u18.1 := by rw [hu18]; exact psh_m m_nv3_12
  have k_nv3_13 : u18.2.1 (nv3 13) = 25 := by rw [hu18]; exact (psh_k m_nv3_13 na).trans k_nv3_13
  have m_nv3_13 : (nv3 13) ∈ u18.1 := by rw [hu18]; exact psh_m m_nv3_13
  have k_nv3_14 : u18.2.1 (nv3 14) = 26 := by rw [hu18]; exact (psh_k m_nv3_14 na).trans k_nv3_14
  have m_nv3_14 : (nv3 14) ∈ u18.1 := by rw [hu18]; exact psh_m m_nv3_14
  have k_nv3_15 : u18.2.1 (nv3 15) = 26 := by rw [hu18]; exact (psh_k m_nv3_15 na).trans k_nv3_15
  have m_nv3_15 : (nv3 15) ∈ u18.1 := by rw [hu18]; exact psh_m m_nv3_15
  have m_nv3_16 : (nv3 16) ∈ u18.1 := by rw [hu18]; exact psh_in
  have k_nv3_16 : u18.2.1 (nv3 16) = 26 := by rw [hu18]; exact psh_kd
  obtain ⟨hPn, hDn, na⟩ := psh_at (i := 3) (a := (nv3 17)) rfl hPn hDn 31 (fun _ => 0) (fun _ => 0) (fun _ => none) (by rw [cF31 psh_kd]; (try simp only [psh_I, psh_J, psh_R]) <;> rfl)
  have hu := WT_psh (kd := 31) (I := (fun _ => 0)) (J := (fun _ => 0)) (R := (fun _ => none)) hu na (fun s t h => (tk31 h).elim) (fun s t h => (tn31 h).elim) (fun h => absurd h (by decide)) (fun _ => trivial)
  have hp := PX_psh (kd := 31) (I := (fun _ => 0)) (J := (fun _ => 0)) (R := (fun _ => none)) hp na
  obtain ⟨u19, hu19⟩ : ∃ z, z = psh u18 (nv3 17) 31 (fun _ => 0) (fun _ => 0) (fun _ => none) := ⟨_, rfl⟩
  rw [← hu19] at hPn hDn hu hp
  have hPn : va_P D vwCl ([(q1, .inr (2, [.ref y2, .ref (nv3 0)])), ((nv3 0), .inr (10, [.ref (nv3 1), .ref (nv3 5), .ref (nv3 10), .int 0, .int 0, .int 0, .int 0, .int 0, .int 0, .ref (nv3 19), .ref (nv3 20), .ref (nv3 21)])), ((nv3 10), .inr (4, [.int 0, .int 0, .int 0, .ref (nv3 11), .ref (nv3 12), .ref (nv3 13), .ref (nv3 14), .ref (nv3 15), .ref (nv3 16), .ref (nv3 17), .ref (nv3 18)])), ((nv3 18), .inl (k 2, 16, .inr (.inl (fun _ => 0)))), ((nv3 19), .inl (k 1, 8, .inl (fun _ => 0))), ((nv3 20), .inl (k 1, 8, .inl (fun _ => 0))), ((nv3 21), .inl (k 6, 12, .inr (.inr (.inr (.inr (fun _ => none))))))] ++ PW k u19) H := hPn
  have hDn : va_D A ([(q1, .inr (2, [.ref y2, .ref (nv3 0)])), ((nv3 0), .inr (10, [.ref (nv3 1), .ref (nv3 5), .ref (nv3 10), .int 0, .int 0, .int 0, .int 0, .int 0, .int 0, .ref (nv3 19), .ref (nv3 20), .ref (nv3 21)])), ((nv3 10), .inr (4, [.int 0, .int 0, .int 0, .ref (nv3 11), .ref (nv3 12), .ref (nv3 13), .ref (nv3 14), .ref (nv3 15), .ref (nv3 16), .ref (nv3 17), .ref (nv3 18)])), ((nv3 18), .inl (k 2, 16, .inr (.inl (fun _ => 0)))), ((nv3 19), .inl (k 1, 8, .inl (fun _ => 0))), ((nv3 20), .inl (k 1, 8, .inl (fun _ => 0))), ((nv3 21), .inl (k 6, 12, .inr (.inr (.inr (.inr (fun _ => none))))))] ++ PW k u19) := hDn
  have k_h0 : u19.2.1 h0 = 11 := by rw [hu19]; exact (psh_k m_h0 na).trans k_h0
  have m_h0 : h0 ∈ u19.1 := by rw [hu19]; exact psh_m m_h0
  have k_y2 : u19.2.1 y2 = 9 := by rw [hu19]; exact (psh_k m_y2 na).trans k_y2
  have m_y2 : y2 ∈ u19.1 := by rw [hu19]; exact psh_m m_y2
  have k_nv3_1 : u19.2.1 (nv3 1) = 1 := by rw [hu19]; exact (psh_k m_nv3_1 na).trans k_nv3_1
  have m_nv3_1 : (nv3 1) ∈ u19.1 := by rw [hu19]; exact psh_m m_nv3_1
  have k_nv3_5 : u19.2.1 (nv3 5) = 6 := by rw [hu19]; exact (psh_k m_nv3_5 na).trans k_nv3_5
  have m_nv3_5 : (nv3 5) ∈ u19.1 := by rw [hu19]; exact psh_m m_nv3_5
  have k_nv3_11 : u19.2.1 (nv3 11) = 25 := by rw [hu19]; exact (psh_k m_nv3_11 na).trans k_nv3_11
  have m_nv3_11 : (nv3 11) ∈ u19.1 := by rw [hu19]; exact psh_m m_nv3_11
  have k_nv3_12 : u19.2.1 (nv3 12) = 25 := by rw [hu19]; exact (psh_k m_nv3_12 na).trans k_nv3_12
  have m_nv3_12 : (nv3 12) ∈ u19.1 := by rw [hu19]; exact psh_m m_nv3_12
  have k_nv3_13 : u19.2.1 (nv3 13) = 25 := by rw [hu19]; exact (psh_k m_nv3_13 na).trans k_nv3_13
  have m_nv3_13 : (nv3 13) ∈ u19.1 := by rw [hu19]; exact psh_m m_nv3_13
  have k_nv3_14 : u19.2.1 (nv3 14) = 26 := by rw [hu19]; exact (psh_k m_nv3_14 na).trans k_nv3_14
  have m_nv3_14 : (nv3 14) ∈ u19.1 := by rw [hu19]; exact psh_m m_nv3_14
  have k_nv3_15 : u19.2.1 (nv3 15) = 26 := by rw [hu19]; exact (psh_k m_nv3_15 na).trans k_nv3_15
  have m_nv3_15 : (nv3 15) ∈ u19.1 := by rw [hu19]; exact psh_m m_nv3_15
  have k_nv3_16 : u19.2.1 (nv3 16) = 26 := by rw [hu19]; exact (psh_k m_nv3_16 na).trans k_nv3_16
  have m_nv3_16 : (nv3 16) ∈ u19.1 := by rw [hu19]; exact psh_m m_nv3_16
  have m_nv3_17 : (nv3 17) ∈ u19.1 := by rw [hu19]; exact psh_in
  have k_nv3_17 : u19.2.1 (nv3 17) = 31 := by rw [hu19]; exact psh_kd
  obtain ⟨hPn, hDn, na⟩ := psh_at (i := 3) (a := (nv3 18)) rfl hPn hDn 32 (fun _ => 0) (fun _ => 0) (fun _ => none) (by rw [cF32 psh_kd]; (try simp only [psh_I, psh_J, psh_R]) <;> rfl)
  have hu := WT_psh (kd := 32) (I := (fun _ => 0)) (J := (fun _ => 0)) (R := (fun _ => none)) hu na (fun s t h => (tk32 h).elim) (fun s t h => (tn32 h).elim) (fun h => absurd h (by decide)) (fun _ => trivial)
  have hp := PX_psh (kd := 32) (I := (fun _ => 0)) (J := (fun _ => 0)) (R := (fun _ => none)) hp na
  obtain ⟨u20, hu20⟩ : ∃ z, z = psh u19 (nv3 18) 32 (fun _ => 0) (fun _ => 0) (fun _ => none) := ⟨_, rfl⟩
  rw [← hu20] at hPn hDn hu hp
  have hPn : va_P D vwCl ([(q1, .inr (2, [.ref y2, .ref (nv3 0)])), ((nv3 0), .inr (10, [.ref (nv3 1), .ref (nv3 5), .ref (nv3 10), .int 0, .int 0, .int 0, .int 0, .int 0, .int 0, .ref (nv3 19), .ref (nv3 20), .ref (nv3 21)])), ((nv3 10), .inr (4, [.int 0, .int 0, .int 0, .ref (nv3 11), .ref (nv3 12), .ref (nv3 13), .ref (nv3 14), .ref (nv3 15), .ref (nv3 16), .ref (nv3 17), .ref (nv3 18)])), ((nv3 19), .inl (k 1, 8, .inl (fun _ => 0))), ((nv3 20), .inl (k 1, 8, .inl (fun _ => 0))), ((nv3 21), .inl (k 6, 12, .inr (.inr (.inr (.inr (fun _ => none))))))] ++ PW k u20) H := hPn
  have hDn : va_D A ([(q1, .inr (2, [.ref y2, .ref (nv3 0)])), ((nv3 0), .inr (10, [.ref (nv3 1), .ref (nv3 5), .ref (nv3 10), .int 0, .int 0, .int 0, .int 0, .int 0, .int 0, .ref (nv3 19), .ref (nv3 20), .ref (nv3 21)])), ((nv3 10), .inr (4, [.int 0, .int 0, .int 0, .ref (nv3 11), .ref (nv3 12), .ref (nv3 13), .ref (nv3 14), .ref (nv3 15), .ref (nv3 16), .ref (nv3 17), .ref (nv3 18)])), ((nv3 19), .inl (k 1, 8, .inl (fun _ => 0))), ((nv3 20), .inl (k 1, 8, .inl (fun _ => 0))), ((nv3 21), .inl (k 6, 12, .inr (.inr (.inr (.inr (fun _ => none))))))] ++ PW k u20) := hDn
  have k_h0 : u20.2.1 h0 = 11 := by rw [hu20]; exact (psh_k m_h0 na).trans k_h0
  have m_h0 : h0 ∈ u20.1 := by rw [hu20]; exact psh_m m_h0
  have k_y2 : u20.2.1 y2 = 9 := by rw [hu20]; exact (psh_k m_y2 na).trans k_y2
  have m_y2 : y2 ∈ u20.1 := by rw [hu20]; exact psh_m m_y2
  have k_nv3_1 : u20.2.1 (nv3 1) = 1 := by rw [hu20]; exact (psh_k m_nv3_1 na).trans k_nv3_1
  have m_nv3_1 : (nv3 1) ∈ u20.1 := by rw [hu20]; exact psh_m m_nv3_1
  have k_nv3_5 : u20.2.1 (nv3 5) = 6 := by rw [hu20]; exact (psh_k m_nv3_5 na).trans k_nv3_5
  have m_nv3_5 : (nv3 5) ∈ u20.1 := by rw [hu20]; exact psh_m m_nv3_5
  have k_nv3_11 : u20.2.1 (nv3 11) = 25 := by rw [hu20]; exact (psh_k m_nv3_11 na).trans k_nv3_11
  have m_nv3_11 : (nv3 11) ∈ u20.1 := by rw [hu20]; exact psh_m m_nv3_11
  have k_nv3_12 : u20.2.1 (nv3 12) = 25 := by rw [hu20]; exact (psh_k m_nv3_12 na).trans k_nv3_12
  have m_nv3_12 : (nv3 12) ∈ u20.1 := by rw [hu20]; exact psh_m m_nv3_12
  have k_nv3_13 : u20.2.1 (nv3 13) = 25 := by rw [hu20]; exact (psh_k m_nv3_13 na).trans k_nv3_13
  have m_nv3_13 : (nv3 13) ∈ u20.1 := by rw [hu20]; exact psh_m m_nv3_13
  have k_nv3_14 : u20.2.1 (nv3 14) = 26 := by rw [hu20]; exact (psh_k m_nv3_14 na).trans k_nv3_14
  have m_nv3_14 : (nv3 14) ∈ u20.1 := by rw [hu20]; exact psh_m m_nv3_14
  have k_nv3_15 : u20.2.1 (nv3 15) = 26 := by rw [hu20]; exact (psh_k m_nv3_15 na).trans k_nv3_15
  have m_nv3_15 : (nv3 15) ∈ u20.1 := by rw [hu20]; exact psh_m m_nv3_15
  have k_nv3_16 : u20.2.1 (nv3 16) = 26 := by rw [hu20]; exact (psh_k m_nv3_16 na).trans k_nv3_16
  have m_nv3_16 : (nv3 16) ∈ u20.1 := by rw [hu20]; exact psh_m m_nv3_16
  have k_nv3_17 : u20.2.1 (nv3 17) = 31 := by rw [hu20]; exact (psh_k m_nv3_17 na).trans k_nv3_17
  have m_nv3_17 : (nv3 17) ∈ u20.1 := by rw [hu20]; exact psh_m m_nv3_17
  have m_nv3_18 : (nv3 18) ∈ u20.1 := by rw [hu20]; exact psh_in
  have k_nv3_18 : u20.2.1 (nv3 18) = 32 := by rw [hu20]; exact psh_kd
  obtain ⟨hPn, hDn, na⟩ := psh_at (i := 2) (a := (nv3 10)) rfl hPn hDn 4 (fun s => ([0, 0, 0, 0, 0, 0, 0, 0, 0, 0, 0] : List Int32).getD s 0) (fun s => ([0, 0, 0, 0, 0, 0, 0, 0, 0, 0, 0] : List Int64).getD s 0) (fun s => ([none, none, none, some (nv3 11), some (nv3 12), some (nv3 13), some (nv3 14), some (nv3 15), some (nv3 16), some (nv3 17), some (nv3 18)] : List (Option Nat)).getD s none) (by rw [cF4 psh_kd]; (try simp only [psh_I, psh_J, psh_R]) <;> rfl)
  have hu := WT_psh (kd := 4) (I := (fun s => ([0, 0, 0, 0, 0, 0, 0, 0, 0, 0, 0] : List Int32).getD s 0)) (J := (fun s => ([0, 0, 0, 0, 0, 0, 0, 0, 0, 0, 0] : List Int64).getD s 0)) (R := (fun s => ([none, none, none, some (nv3 11), some (nv3 12), some (nv3 13), some (nv3 14), some (nv3 15), some (nv3 16), some (nv3 17), some (nv3 18)] : List (Option Nat)).getD s none)) hu na (fun s t h => by rcases tk4 h with ⟨rfl, rfl⟩ | ⟨rfl, rfl⟩ | ⟨rfl, rfl⟩ | ⟨rfl, rfl⟩ | ⟨rfl, rfl⟩ | ⟨rfl, rfl⟩ | ⟨rfl, rfl⟩ | ⟨rfl, rfl⟩; exact ⟨_, rfl, m_nv3_11, k_nv3_11⟩; exact ⟨_, rfl, m_nv3_12, k_nv3_12⟩; exact ⟨_, rfl, m_nv3_13, k_nv3_13⟩; exact ⟨_, rfl, m_nv3_14, k_nv3_14⟩; exact ⟨_, rfl, m_nv3_15, k_nv3_15⟩; exact ⟨_, rfl, m_nv3_16, k_nv3_16⟩; exact ⟨_, rfl, m_nv3_17, k_nv3_17⟩; exact ⟨_, rfl, m_nv3_18, k_nv3_18⟩) (fun s t h => (tn4 h).elim) (fun h => absurd h (by decide)) (fun _ => trivial)
  have hp := PX_psh (kd := 4) (I := (fun s => ([0, 0, 0, 0, 0, 0, 0, 0, 0, 0, 0] : List Int32).getD s 0)) (J := (fun s => ([0, 0, 0, 0, 0, 0, 0, 0, 0, 0, 0] : List Int64).getD s 0)) (R := (fun s => ([none, none, none, some (nv3 11), some (nv3 12), some (nv3 13), some (nv3 14), some (nv3 15), some (nv3 16), some (nv3 17), some (nv3 18)] : List (Option Nat)).getD s none)) hp na
  obtain ⟨u21, hu21⟩ : ∃ z, z = psh u20 (nv3 10) 4 (fun s => ([0, 0, 0, 0, 0, 0, 0, 0, 0, 0, 0] : List Int32).getD s 0) (fun s => ([0, 0, 0, 0, 0, 0, 0, 0, 0, 0, 0] : List Int64).getD s 0) (fun s => ([none, none, none, some (nv3 11), some (nv3 12), some (nv3 13), some (nv3 14), some (nv3 15), some (nv3 16), some (nv3 17), some (nv3 18)] : List (Option Nat)).getD s none) := ⟨_, rfl⟩
  rw [← hu21] at hPn hDn hu hp
  have hPn : va_P D vwCl ([(q1, .inr (2, [.ref y2, .ref (nv3 0)])), ((nv3 0), .inr (10, [.ref (nv3 1), .ref (nv3 5), .ref (nv3 10), .int 0, .int 0, .int 0, .int 0, .int 0, .int 0, .ref (nv3 19), .ref (nv3 20), .ref (nv3 21)])), ((nv3 19), .inl (k 1, 8, .inl (fun _ => 0))), ((nv3 20), .inl (k 1, 8, .inl (fun _ => 0))), ((nv3 21), .inl (k 6, 12, .inr (.inr (.inr (.inr (fun _ => none))))))] ++ PW k u21) H := hPn
  have hDn : va_D A ([(q1, .inr (2, [.ref y2, .ref (nv3 0)])), ((nv3 0), .inr (10, [.ref (nv3 1), .ref (nv3 5), .ref (nv3 10), .int 0, .int 0, .int 0, .int 0, .int 0, .int 0, .ref (nv3 19), .ref (nv3 20), .ref (nv3 21)])), ((nv3 19), .inl (k 1, 8, .inl (fun _ => 0))), ((nv3 20), .inl (k 1, 8, .inl (fun _ => 0))), ((nv3 21), .inl (k 6, 12, .inr (.inr (.inr (.inr (fun _ => none))))))] ++ PW k u21) := hDn
  have k_h0 : u21.2.1 h0 = 11 := by rw [hu21]; exact (psh_k m_h0 na).trans k_h0
  have m_h0 : h0 ∈ u21.1 := by rw [hu21]; exact psh_m m_h0
  have k_y2 : u21.2.1 y2 = 9 := by rw [hu21]; exact (psh_k m_y2 na).trans k_y2
  have m_y2 : y2 ∈ u21.1 := by rw [hu21]; exact psh_m m_y2
  have k_nv3_1 : u21.2.1 (nv3 1) = 1 := by rw [hu21]; exact (psh_k m_nv3_1 na).trans k_nv3_1
  have m_nv3_1 : (nv3 1) ∈ u21.1 := by rw [hu21]; exact psh_m m_nv3_1
  have k_nv3_5 : u21.2.1 (nv3 5) = 6 := by rw [hu21]; exact (psh_k m_nv3_5 na).trans k_nv3_5
  have m_nv3_5 : (nv3 5) ∈ u21.1 := by rw [hu21]; exact psh_m m_nv3_5
  have k_nv3_11 : u21.2.1 (nv3 11) = 25 := by rw [hu21]; exact (psh_k m_nv3_11 na).trans k_nv3_11
  have m_nv3_11 : (nv3 11) ∈ u21.1 := by rw [hu21]; exact psh_m m_nv3_11
  have k_nv3_12 : u21.2.1 (nv3 12) = 25 := by rw [hu21]; exact (psh_k m_nv3_12 na).trans k_nv3_12
  have m_nv3_12 : (nv3 12) ∈ u21.1 := by rw [hu21]; exact psh_m m_nv3_12
  have k_nv3_13 : u21.2.1 (nv3 13) = 25 := by rw [hu21]; exact (psh_k m_nv3_13 na).trans k_nv3_13
  have m_nv3_13 : (nv3 13) ∈ u21.1 := by rw [hu21]; exact psh_m m_nv3_13
  have k_nv3_14 : u21.2.1 (nv3 14) = 26 := by rw [hu21]; exact (psh_k m_nv3_14 na).trans k_nv3_14
  have m_nv3_14 : (nv3 14) ∈ u21.1 := by rw [hu21]; exact psh_m m_nv3_14
  have k_nv3_15 : u21.2.1 (nv3 15) = 26 := by rw [hu21]; exact (psh_k m_nv3_15 na).trans k_nv3_15
  have m_nv3_15 : (nv3 15) ∈ u21.1 := by rw [hu21]; exact psh_m m_nv3_15
  have k_nv3_16 : u21.2.1 (nv3 16) = 26 := by rw [hu21]; exact (psh_k m_nv3_16 na).trans k_nv3_16
  have m_nv3_16 : (nv3 16) ∈ u21.1 := by rw [hu21]; exact psh_m m_nv3_16
  have k_nv3_17 : u21.2.1 (nv3 17) = 31 := by rw [hu21]; exact (psh_k m_nv3_17 na).trans k_nv3_17
  have m_nv3_17 : (nv3 17) ∈ u21.1 := by rw [hu21]; exact psh_m m_nv3_17
  have k_nv3_18 : u21.2.1 (nv3 18) = 32 := by rw [hu21]; exact (psh_k m_nv3_18 na).trans k_nv3_18
  have m_nv3_18 : (nv3 18) ∈ u21.1 := by rw [hu21]; exact psh_m m_nv3_18
  have m_nv3_10 : (nv3 10) ∈ u21.1 := by rw [hu21]; exact psh_in
  have k_nv3_10 : u21.2.1 (nv3 10) = 4 := by rw [hu21]; exact psh_kd
  obtain ⟨hPn, hDn, na⟩ := psh_at (i := 2) (a := (nv3 19)) rfl hPn hDn 27 (fun _ => 0) (fun _ => 0) (fun _ => none) (by rw [cF27 psh_kd]; (try simp only [psh_I, psh_J, psh_R]) <;> rfl)
  have hu := WT_psh (kd := 27) (I := (fun _ => 0)) (J := (fun _ => 0)) (R := (fun _ => none)) hu na (fun s t h => (tk27 h).elim) (fun s t h => (tn27 h).elim) (fun h => absurd h (by decide)) (fun _ => trivial)
  have hp := PX_psh (kd := 27) (I := (fun _ => 0)) (J := (fun _ => 0)) (R := (fun _ => none)) hp na
  obtain ⟨u22, hu22⟩ : ∃ z, z = psh u21 (nv3 19) 27 (fun _ => 0) (fun _ => 0) (fun _ => none) := ⟨_, rfl⟩
  rw [← hu22] at hPn hDn hu hp
  have hPn : va_P D vwCl ([(q1, .inr (2, [.ref y2, .ref (nv3 0)])), ((nv3 0), .inr (10, [.ref (nv3 1), .ref (nv3 5), .ref (nv3 10), .int 0, .int 0, .int 0, .int 0, .int 0, .int 0, .ref (nv3 19), .ref (nv3 20), .ref (nv3 21)])), ((nv3 20), .inl (k 1, 8, .inl (fun _ => 0))), ((nv3 21), .inl (k 6, 12, .inr (.inr (.inr (.inr (fun _ => none))))))] ++ PW k u22) H := hPn
  have hDn : va_D A ([(q1, .inr (2, [.ref y2, .ref (nv3 0)])), ((nv3 0), .inr (10, [.ref (nv3 1), .ref (nv3 5), .ref (nv3 10), .int 0, .int 0, .int 0, .int 0, .int 0, .int 0, .ref (nv3 19), .ref (nv3 20), .ref (nv3 21)])), ((nv3 20), .inl (k 1, 8, .inl (fun _ => 0))), ((nv3 21), .inl (k 6, 12, .inr (.inr (.inr (.inr (fun _ => none))))))] ++ PW k u22) := hDn
  have k_h0 : u22.2.1 h0 = 11 := by rw [hu22]; exact (psh_k m_h0 na).trans k_h0
  have m_h0 : h0 ∈ u22.1 := by rw [hu22]; exact psh_m m_h0
  have k_y2 : u22.2.1 y2 = 9 := by rw [hu22]; exact (psh_k m_y2 na).trans k_y2
  have m_y2 : y2 ∈ u22.1 := by rw [hu22]; exact psh_m m_y2
  have k_nv3_1 : u22.2.1 (nv3 1) = 1 := by rw [hu22]; exact (psh_k m_nv3_1 na).trans k_nv3_1
  have m_nv3_1 : (nv3 1) ∈ u22.1 := by rw [hu22]; exact psh_m m_nv3_1
  have k_nv3_5 : u22.2.1 (nv3 5) = 6 := by rw [hu22]; exact (psh_k m_nv3_5 na).trans k_nv3_5
  have m_nv3_5 : (nv3 5) ∈ u22.1 := by rw [hu22]; exact psh_m m_nv3_5
  have k_nv3_10 : u22.2.1 (nv3 10) = 4 := by rw [hu22]; exact (psh_k m_nv3_10 na).trans k_nv3_10
  have m_nv3_10 : (nv3 10) ∈ u22.1 := by rw [hu22]; exact psh_m m_nv3_10
  have m_nv3_19 : (nv3 19) ∈ u22.1 := by rw [hu22]; exact psh_in
  have k_nv3_19 : u22.2.1 (nv3 19) = 27 := by rw [hu22]; exact psh_kd
  obtain ⟨hPn, hDn, na⟩ := psh_at (i := 2) (a := (nv3 20)) rfl hPn hDn 27 (fun _ => 0) (fun _ => 0) (fun _ => none) (by rw [cF27 psh_kd]; (try simp only [psh_I, psh_J, psh_R]) <;> rfl)
  have hu := WT_psh (kd := 27) (I := (fun _ => 0)) (J := (fun _ => 0)) (R := (fun _ => none)) hu na (fun s t h => (tk27 h).elim) (fun s t h => (tn27 h).elim) (fun h => absurd h (by decide)) (fun _ => trivial)
  have hp := PX_psh (kd := 27) (I := (fun _ => 0)) (J := (fun _ => 0)) (R := (fun _ => none)) hp na
  obtain ⟨u23, hu23⟩ : ∃ z, z = psh u22 (nv3 20) 27 (fun _ => 0) (fun _ => 0) (fun _ => none) := ⟨_, rfl⟩
  rw [← hu23] at hPn hDn hu hp
  have hPn : va_P D vwCl ([(q1, .inr (2, [.ref y2, .ref (nv3 0)])), ((nv3 0), .inr (10, [.ref (nv3 1), .ref (nv3 5), .ref (nv3 10), .int 0, .int 0, .int 0, .int 0, .int 0, .int 0, .ref (nv3 19), .ref (nv3 20), .ref (nv3 21)])), ((nv3 21), .inl (k 6, 12, .inr (.inr (.inr (.inr (fun _ => none))))))] ++ PW k u23) H := hPn
  have hDn : va_D A ([(q1, .inr (2, [.ref y2, .ref (nv3 0)])), ((nv3 0), .inr (10, [.ref (nv3 1), .ref (nv3 5), .ref (nv3 10), .int 0, .int 0, .int 0, .int 0, .int 0, .int 0, .ref (nv3 19), .ref (nv3 20), .ref (nv3 21)])), ((nv3 21), .inl (k 6, 12, .inr (.inr (.inr (.inr (fun _ => none))))))] ++ PW k u23) := hDn
  have k_h0 : u23.2.1 h0 = 11 := by rw [hu23]; exact (psh_k m_h0 na).trans k_h0
  have m_h0 : h0 ∈ u23.1 := by rw [hu23]; exact psh_m m_h0
  have k_y2 : u23.2.1 y2 = 9 := by rw [hu23]; exact (psh_k m_y2 na).trans k_y2
  have m_y2 : y2 ∈ u23.1 := by rw [hu23]; exact psh_m m_y2
  have k_nv3_1 : u23.2.1 (nv3 1) = 1 := by rw [hu23]; exact (psh_k m_nv3_1 na).trans k_nv3_1
  have m_nv3_1 : (nv3 1) ∈ u23.1 := by rw [hu23]; exact psh_m m_nv3_1
  have k_nv3_5 : u23.2.1 (nv3 5) = 6 := by rw [hu23]; exact (psh_k m_nv3_5 na).trans k_nv3_5
  have m_nv3_5 : (nv3 5) ∈ u23.1 := by rw [hu23]; exact psh_m m_nv3_5
  have k_nv3_10 : u23.2.1 (nv3 10) = 4 := by rw [hu23]; exact (psh_k m_nv3_10 na).trans k_nv3_10
  have m_nv3_10 : (nv3 10) ∈ u23.1 := by rw [hu23]; exact psh_m m_nv3_10
  have k_nv3_19 : u23.2.1 (nv3 19) = 27 := by rw [hu23]; exact (psh_k m_nv3_19 na).trans k_nv3_19
  have m_nv3_19 : (nv3 19) ∈ u23.1 := by rw [hu23]; exact psh_m m_nv3_19
  have m_nv3_20 : (nv3 20) ∈ u23.1 := by rw [hu23]; exact psh_in
  have k_nv3_20 : u23.2.1 (nv3 20) = 27 := by rw [hu23]; exact psh_kd
  obtain ⟨hPn, hDn, na⟩ := psh_at (i := 2) (a := (nv3 21)) rfl hPn hDn 42 (fun _ => 0) (fun _ => 0) (fun _ => none) (by rw [cF42 psh_kd]; (try simp only [psh_I, psh_J, psh_R]) <;> rfl)
  have hu := WT_psh (kd := 42) (I := (fun _ => 0)) (J := (fun _ => 0)) (R := (fun _ => none)) hu na (fun s t h => (tk42 h).elim) (fun s t h => Or.inl rfl) (fun h => absurd h (by decide)) (fun _ => trivial)
  have hp := PX_psh (kd := 42) (I := (fun _ => 0)) (J := (fun _ => 0)) (R := (fun _ => none)) hp na
  obtain ⟨u24, hu24⟩ : ∃ z, z = psh u23 (nv3 21) 42 (fun _ => 0) (fun _ => 0) (fun _ => none) := ⟨_, rfl⟩
  rw [← hu24] at hPn hDn hu hp
  have hPn : va_P D vwCl ([(q1, .inr (2, [.ref y2, .ref (nv3 0)])), ((nv3 0), .inr (10, [.ref (nv3 1), .ref (nv3 5), .ref (nv3 10), .int 0, .int 0, .int 0, .int 0, .int 0, .int 0, .ref (nv3 19), .ref (nv3 20), .ref (nv3 21)]))] ++ PW k u24) H := hPn
  have hDn : va_D A ([(q1, .inr (2, [.ref y2, .ref (nv3 0)])), ((nv3 0), .inr (10, [.ref (nv3 1), .ref (nv3 5), .ref (nv3 10), .int 0, .int 0, .int 0, .int 0, .int 0, .int 0, .ref (nv3 19), .ref (nv3 20), .ref (nv3 21)]))] ++ PW k u24) := hDn
  have k_h0 : u24.2.1 h0 = 11 := by rw [hu24]; exact (psh_k m_h0 na).trans k_h0
  have m_h0 : h0 ∈ u24.1 := by rw [hu24]; exact psh_m m_h0
  have k_y2 : u24.2.1 y2 = 9 := by rw [hu24]; exact (psh_k m_y2 na).trans k_y2
  have m_y2 : y2 ∈ u24.1 := by rw [hu24]; exact psh_m m_y2
  have k_nv3_1 : u24.2.1 (nv3 1) = 1 := by rw [hu24]; exact (psh_k m_nv3_1 na).trans k_nv3_1
  have m_nv3_1 : (nv3 1) ∈ u24.1 := by rw [hu24]; exact psh_m m_nv3_1
  have k_nv3_5 : u24.2.1 (nv3 5) = 6 := by rw [hu24]; exact (psh_k m_nv3_5 na).trans k_nv3_5
  have m_nv3_5 : (nv3 5) ∈ u24.1 := by rw [hu24]; exact psh_m m_nv3_5
  have k_nv3_10 : u24.2.1 (nv3 10) = 4 := by rw [hu24]; exact (psh_k m_nv3_10 na).trans k_nv3_10
  have m_nv3_10 : (nv3 10) ∈ u24.1 := by rw [hu24]; exact psh_m m_nv3_10
  have k_nv3_19 : u24.2.1 (nv3 19) = 27 := by rw [hu24]; exact (psh_k m_nv3_19 na).trans k_nv3_19
  have m_nv3_19 : (nv3 19) ∈ u24.1 := by rw [hu24]; exact psh_m m_nv3_19
  have k_nv3_20 : u24.2.1 (nv3 20) = 27 := by rw [hu24]; exact (psh_k m_nv3_20 na).trans k_nv3_20
  have m_nv3_20 : (nv3 20) ∈ u24.1 := by rw [hu24]; exact psh_m m_nv3_20
  have m_nv3_21 : (nv3 21) ∈ u24.1 := by rw [hu24]; exact psh_in
  have k_nv3_21 : u24.2.1 (nv3 21) = 42 := by rw [hu24]; exact psh_kd
  obtain ⟨hPn, hDn, na⟩ := psh_at (i := 1) (a := (nv3 0)) rfl hPn hDn 10 (fun s => ([0, 0, 0, 0, 0, 0, 0, 0, 0, 0, 0, 0] : List Int32).getD s 0) (fun s => ([0, 0, 0, 0, 0, 0, 0, 0, 0, 0, 0, 0] : List Int64).getD s 0) (fun s => ([some (nv3 1), some (nv3 5), some (nv3 10), none, none, none, none, none, none, some (nv3 19), some (nv3 20), some (nv3 21)] : List (Option Nat)).getD s none) (by rw [cF10 psh_kd]; (try simp only [psh_I, psh_J, psh_R]) <;> rfl)
  have hu := WT_psh (kd := 10) (I := (fun s => ([0, 0, 0, 0, 0, 0, 0, 0, 0, 0, 0, 0] : List Int32).getD s 0)) (J := (fun s => ([0, 0, 0, 0, 0, 0, 0, 0, 0, 0, 0, 0] : List Int64).getD s 0)) (R := (fun s => ([some (nv3 1), some (nv3 5), some (nv3 10), none, none, none, none, none, none, some (nv3 19), some (nv3 20), some (nv3 21)] : List (Option Nat)).getD s none)) hu na (fun s t h => by rcases tk10 h with ⟨rfl, rfl⟩ | ⟨rfl, rfl⟩ | ⟨rfl, rfl⟩ | ⟨rfl, rfl⟩ | ⟨rfl, rfl⟩ | ⟨rfl, rfl⟩; exact ⟨_, rfl, m_nv3_1, k_nv3_1⟩; exact ⟨_, rfl, m_nv3_5, k_nv3_5⟩; exact ⟨_, rfl, m_nv3_10, k_nv3_10⟩; exact ⟨_, rfl, m_nv3_19, k_nv3_19⟩; exact ⟨_, rfl, m_nv3_20, k_nv3_20⟩; exact ⟨_, rfl, m_nv3_21, k_nv3_21⟩) (fun s t h => (tn10 h).elim) (fun h => absurd h (by decide)) (fun s => okz10 s)
  have hp := PX_psh (kd := 10) (I := (fun s => ([0, 0, 0, 0, 0, 0, 0, 0, 0, 0, 0, 0] : List Int32).getD s 0)) (J := (fun s => ([0, 0, 0, 0, 0, 0, 0, 0, 0, 0, 0, 0] : List Int64).getD s 0)) (R := (fun s => ([some (nv3 1), some (nv3 5), some (nv3 10), none, none, none, none, none, none, some (nv3 19), some (nv3 20), some (nv3 21)] : List (Option Nat)).getD s none)) hp na
  obtain ⟨u25, hu25⟩ : ∃ z, z = psh u24 (nv3 0) 10 (fun s => ([0, 0, 0, 0, 0, 0, 0, 0, 0, 0, 0, 0] : List Int32).getD s 0) (fun s => ([0, 0, 0, 0, 0, 0, 0, 0, 0, 0, 0, 0] : List Int64).getD s 0) (fun s => ([some (nv3 1), some (nv3 5), some (nv3 10), none, none, none, none, none, none, some (nv3 19), some (nv3 20), some (nv3 21)] : List (Option Nat)).getD s none) := ⟨_, rfl⟩
  rw [← hu25] at hPn hDn hu hp
  have hPn : va_P D vwCl ([(q1, .inr (2, [.ref y2, .ref (nv3 0)]))] ++ PW k u25) H := hPn
  have hDn : va_D A ([(q1, .inr (2, [.ref y2, .ref (nv3 0)]))] ++ PW k u25) := hDn
  have k_h0 : u25.2.1 h0 = 11 := by rw [hu25]; exact (psh_k m_h0 na).trans k_h0
  have m_h0 : h0 ∈ u25.1 := by rw [hu25]; exact psh_m m_h0
  have k_y2 : u25.2.1 y2 = 9 := by rw [hu25]; exact (psh_k m_y2 na).trans k_y2
  have m_y2 : y2 ∈ u25.1 := by rw [hu25]; exact psh_m m_y2
  have k_nv3_1 : u25.2.1 (nv3 1) = 1 := by rw [hu25]; exact (psh_k m_nv3_1 na).trans k_nv3_1
  have m_nv3_1 : (nv3 1) ∈ u25.1 := by rw [hu25]; exact psh_m m_nv3_1
  have k_nv3_5 : u25.2.1 (nv3 5) = 6 := by rw [hu25]; exact (psh_k m_nv3_5 na).trans k_nv3_5
  have m_nv3_5 : (nv3 5) ∈ u25.1 := by rw [hu25]; exact psh_m m_nv3_5
  have k_nv3_10 : u25.2.1 (nv3 10) = 4 := by rw [hu25]; exact (psh_k m_nv3_10 na).trans k_nv3_10
  have m_nv3_10 : (nv3 10) ∈ u25.1 := by rw [hu25]; exact psh_m m_nv3_10
  have k_nv3_19 : u25.2.1 (nv3 19) = 27 := by rw [hu25]; exact (psh_k m_nv3_19 na).trans k_nv3_19
  have m_nv3_19 : (nv3 19) ∈ u25.1 := by rw [hu25]; exact psh_m m_nv3_19
  have k_nv3_20 : u25.2.1 (nv3 20) = 27 := by rw [hu25]; exact (psh_k m_nv3_20 na).trans k_nv3_20
  have m_nv3_20 : (nv3 20) ∈ u25.1 := by rw [hu25]; exact psh_m m_nv3_20
  have k_nv3_21 : u25.2.1 (nv3 21) = 42 := by rw [hu25]; exact (psh_k m_nv3_21 na).trans k_nv3_21
  have m_nv3_21 : (nv3 21) ∈ u25.1 := by rw [hu25]; exact psh_m m_nv3_21
  have m_nv3_0 : (nv3 0) ∈ u25.1 := by rw [hu25]; exact psh_in
  have k_nv3_0 : u25.2.1 (nv3 0) = 10 := by rw [hu25]; exact psh_kd
  obtain ⟨hPn, hDn, na⟩ := psh_at (i := 0) (a := q1) rfl hPn hDn 2 (fun s => ([0, 0] : List Int32).getD s 0) (fun s => ([0, 0] : List Int64).getD s 0) (fun s => ([some y2, some (nv3 0)] : List (Option Nat)).getD s none) (by rw [cF2 psh_kd]; (try simp only [psh_I, psh_J, psh_R]) <;> rfl)
  have hu := WT_psh (kd := 2) (I := (fun s => ([0, 0] : List Int32).getD s 0)) (J := (fun s => ([0, 0] : List Int64).getD s 0)) (R := (fun s => ([some y2, some (nv3 0)] : List (Option Nat)).getD s none)) hu na (fun s t h => by rcases tk2 h with ⟨rfl, rfl⟩ | ⟨rfl, rfl⟩; exact ⟨_, rfl, m_y2, k_y2⟩; exact ⟨_, rfl, m_nv3_0, k_nv3_0⟩) (fun s t h => (tn2 h).elim) (fun h => absurd h (by decide)) (fun _ => trivial)
  have hp := PX_psh (kd := 2) (I := (fun s => ([0, 0] : List Int32).getD s 0)) (J := (fun s => ([0, 0] : List Int64).getD s 0)) (R := (fun s => ([some y2, some (nv3 0)] : List (Option Nat)).getD s none)) hp na
  obtain ⟨u26, hu26⟩ : ∃ z, z = psh u25 q1 2 (fun s => ([0, 0] : List Int32).getD s 0) (fun s => ([0, 0] : List Int64).getD s 0) (fun s => ([some y2, some (nv3 0)] : List (Option Nat)).getD s none) := ⟨_, rfl⟩
  rw [← hu26] at hPn hDn hu hp
  have hPn : va_P D vwCl ([] ++ PW k u26) H := hPn
  have hDn : va_D A ([] ++ PW k u26) := hDn
  have k_h0 : u26.2.1 h0 = 11 := by rw [hu26]; exact (psh_k m_h0 na).trans k_h0
  have m_h0 : h0 ∈ u26.1 := by rw [hu26]; exact psh_m m_h0
  have k_y2 : u26.2.1 y2 = 9 := by rw [hu26]; exact (psh_k m_y2 na).trans k_y2
  have m_y2 : y2 ∈ u26.1 := by rw [hu26]; exact psh_m m_y2
  have k_nv3_0 : u26.2.1 (nv3 0) = 10 := by rw [hu26]; exact (psh_k m_nv3_0 na).trans k_nv3_0
  have m_nv3_0 : (nv3 0) ∈ u26.1 := by rw [hu26]; exact psh_m m_nv3_0
  have m_q1 : q1 ∈ u26.1 := by rw [hu26]; exact psh_in
  have k_q1 : u26.2.1 q1 = 2 := by rw [hu26]; exact psh_kd
  have hP : va_P D vwCl (PW k u26) H := hPn
  have hD : va_D A (PW k u26) := hDn
  refine xqV (C := RX2) (As := []) (rest := []) ⟨hx, hb, hml, hown, hts⟩ (fun sz => t_X2_readWorks l D k tt u26 hu q1 m_q1 k_q1  sz) (cwV 0 hts gpX11_works_X2_readWorks rfl rfl rfl (by decide +kernel) ⟨Nat.le_of_ble_eq_true rfl, Nat.le_of_ble_eq_true rfl⟩) hP hK hD hN hE hS hA (precv hK hP m_q1 (cF2 k_q1) rfl) rfl hl.1 rfl (Nat.le_of_ble_eq_true rfl) dX11_works_11 ⟨Nat.le_of_ble_eq_true rfl, Nat.le_of_ble_eq_true rfl⟩ (fun ru27 u27 H locs hq hP hD hS => ?_)
  obtain ⟨hu, hxu27, hru27⟩ := hq
  have k_h0 : u27.2.1 h0 = 11 := (hxu27 h0 m_h0).2.1.trans k_h0
  have m_h0 : h0 ∈ u27.1 := (hxu27 h0 m_h0).1
  have hp := PX.trans hp hxu27
  obtain ⟨yru27, rfl, m_yru27, k_yru27⟩ := hru27
  refine W.eq (g2 := F0 m 14 ls [.ref yru27]) rfl ?_
  refine lv_astore_n (lv' := [(1, .ref yru27), (0, .ref h0)]) hx hb dX11_works_14 rfl hl (by decide) rfl (fun ls hl => ?_)
  refine lv_aload_n hx hb dX11_works_15 rfl (lv_at hl 1 rfl) ?_
  refine lv_aload_n hx hb dX11_works_16 rfl (lv_at hl 1 rfl) ?_
  refine pget (ci := 11) (v := va_rf (u27.2.2.2.2 h0 0)) (C := RX11) (T := TX11) (N := 11) hx hb hts i_X11 hown hK hP m_h0 (cF11 k_h0) rfl 0 (by decide) (hts (.fieldLink RX11 10 "BellowsRow" "tape" "LBellowsRow$Tape;") (by decide +kernel)) (fun _ h9 => h9) rfl dX11_works_17 ?_
  obtain ⟨y28, qy28, m_y28, k_y28⟩ := (hu h0 m_h0).1 0 9 (by rw [k_h0]; rfl)
  refine W.eq (g2 := F0 m 20 ls [.ref y28, .ref h0]) (by rw [qy28]; rfl) ?_
  refine pget (ci := 9) (v := .int (u27.2.2.1 y28 3)) (C := RX9) (T := TX9) (N := 8) hx hb hts i_X9 hown hK hP m_y28 (cF9 k_y28) rfl 3 (by decide) (hts (.fieldLink RX11 93 "BellowsRow$Tape" "fault" "I") (by decide +kernel)) (fun _ h9 => h9) rfl dX11_works_20 ?_
  refine pput (u' := pSI u27 h0 9 (u27.2.2.1 y28 3)) (ci := 11) (v := .int (u27.2.2.1 y28 3)) (ty := .int) (C := RX11) (T := TX11) (N := 11) hx hb hts i_X11 tyX11 tyX11_ok nmX11 hown hK hP hD hS m_h0 (cF11 k_h0) rfl 9 (by decide) (hts (.fieldLink RX11 66 "BellowsRow" "latestFault" "I") (by decide +kernel)) (fun _ h9 => h9) rfl (by decide +kernel) rfl rfl (Nat.le_of_ble_eq_true rfl) rfl (sF11_9 k_h0 (u27.2.2.1 y28 3)) dX11_works_23 (fun H locs hP hD hS => ?_)
  have hu := WT.setI (a := h0) (s := 9) (v := (u27.2.2.1 y28 3)) hu (by rw [k_h0]; exact trivial)
  have hp := PX.setI (a := h0) (s := 9) (v := (u27.2.2.1 y28 3)) hp (by rw [k_h0]; decide)
  obtain ⟨u29, hu29⟩ : ∃ z, z = pSI u27 h0 9 (u27.2.2.1 y28 3) := ⟨_, rfl⟩
  rw [← hu29] at hP hD hu hp
  have m_yru27 : yru27 ∈ u29.1 := by rw [hu29]; exact m_yru27
  have k_yru27 : u29.2.1 yru27 = 10 := by rw [hu29]; exact k_yru27
  have m_h0 : h0 ∈ u29.1 := by rw [hu29]; exact m_h0
  have k_h0 : u29.2.1 h0 = 11 := by rw [hu29]; exact k_h0
  refine lv_aload_n hx hb dX11_works_26 rfl (lv_at hl 1 rfl) ?_
  refine lv_aload_n hx hb dX11_works_27 rfl (lv_at hl 1 rfl) ?_
  refine pget (ci := 11) (v := va_rf (u29.2.2.2.2 h0 0)) (C := RX11) (T := TX11) (N := 11) hx hb hts i_X11 hown hK hP m_h0 (cF11 k_h0) rfl 0 (by decide) (hts (.fieldLink RX11 10 "BellowsRow" "tape" "LBellowsRow$Tape;") (by decide +kernel)) (fun _ h9 => h9) rfl dX11_works_28 ?_
  obtain ⟨y30, qy30, m_y30, k_y30⟩ := (hu h0 m_h0).1 0 9 (by rw [k_h0]; rfl)
  refine W.eq (g2 := F0 m 31 ls [.ref y30, .ref h0]) (by rw [qy30]; rfl) ?_
  refine pget (ci := 9) (v := .int (u29.2.2.1 y30 4)) (C := RX9) (T := TX9) (N := 8) hx hb hts i_X9 hown hK hP m_y30 (cF9 k_y30) rfl 4 (by decide) (hts (.fieldLink RX11 96 "BellowsRow$Tape" "place" "I") (by decide +kernel)) (fun _ h9 => h9) rfl dX11_works_31 ?_
  refine pput (u' := pSI u29 h0 10 (u29.2.2.1 y30 4)) (ci := 11) (v := .int (u29.2.2.1 y30 4)) (ty := .int) (C := RX11) (T := TX11) (N := 11) hx hb hts i_X11 tyX11 tyX11_ok nmX11 hown hK hP hD hS m_h0 (cF11 k_h0) rfl 10 (by decide) (hts (.fieldLink RX11 70 "BellowsRow" "latestPlace" "I") (by decide +kernel)) (fun _ h9 => h9) rfl (by decide +kernel) rfl rfl (Nat.le_of_ble_eq_true rfl) rfl (sF11_10 k_h0 (u29.2.2.1 y30 4)) dX11_works_34 (fun H locs hP hD hS => ?_)
  have hu := WT.setI (a := h0) (s := 10) (v := (u29.2.2.1 y30 4)) hu (by rw [k_h0]; exact trivial)
  have hp := PX.setI (a := h0) (s := 10) (v := (u29.2.2.1 y30 4)) hp (by rw [k_h0]; decide)
  obtain ⟨u31, hu31⟩ : ∃ z, z = pSI u29 h0 10 (u29.2.2.1 y30 4) := ⟨_, rfl⟩
  rw [← hu31] at hP hD hu hp
  have m_yru27 : yru27 ∈ u31.1 := by rw [hu31]; exact m_yru27
  have k_yru27 : u31.2.1 yru27 = 10 := by rw [hu31]; exact k_yru27
  have m_h0 : h0 ∈ u31.1 := by rw [hu31]; exact m_h0
  have k_h0 : u31.2.1 h0 = 11 := by rw [hu31]; exact k_h0
  refine lv_aload_n hx hb dX11_works_37 rfl (lv_at hl 1 rfl) ?_
  refine pget (ci := 11) (v := .int (u31.2.2.1 h0 9)) (C := RX11) (T := TX11) (N := 11) hx hb hts i_X11 hown hK hP m_h0 (cF11 k_h0) rfl 9 (by decide) (hts (.fieldLink RX11 66 "BellowsRow" "latestFault" "I") (by decide +kernel)) (fun _ h9 => h9) rfl dX11_works_38 ?_
  refine lv_if_eq (tgt := 47) hx hb dX11_works_41 (by decide) (fun c32 => ?_) (fun c32 => ?_)
  · refine lv_aload_n hx hb dX11_works_47 rfl (lv_at hl 1 rfl) ?_
    refine pget (ci := 11) (v := va_rf (u31.2.2.2.2 h0 0)) (C := RX11) (T := TX11) (N := 11) hx hb hts i_X11 hown hK hP m_h0 (cF11 k_h0) rfl 0 (by decide) (hts (.fieldLink RX11 10 "BellowsRow" "tape" "LBellowsRow$Tape;") (by decide +kernel)) (fun _ h9 => h9) rfl dX11_works_48 ?_
    obtain ⟨y33, qy33, m_y33, k_y33⟩ := (hu h0 m_h0).1 0 9 (by rw [k_h0]; rfl)
    refine W.eq (g2 := F0 m 51 ls [.ref y33]) (by rw [qy33]; rfl) ?_
    refine lv_iconst (v := 0) hx hb dX11_works_51 (by decide) ?_
    refine pput (u' := pSI u31 y33 1 0) (ci := 9) (v := .int 0) (ty := .int) (C := RX9) (T := TX9) (N := 8) hx hb hts i_X9 tyX9 tyX9_ok nmX9 hown hK hP hD hS m_y33 (cF9 k_y33) rfl 1 (by decide) (hts (.fieldLink RX11 81 "BellowsRow$Tape" "size" "I") (by decide +kernel)) (fun _ h9 => h9) rfl (by decide +kernel) rfl rfl (Nat.le_of_ble_eq_true rfl) rfl (sF9_1 k_y33 0) dX11_works_52 (fun H locs hP hD hS => ?_)
    have hu := WT.setI (a := y33) (s := 1) (v := 0) hu (by rw [k_y33]; exact (show 0 ≤ (0 : Int32).toInt ∧ (0 : Int32).toInt ≤ 1600 from by decide))
    have hp := PX.setI (a := y33) (s := 1) (v := 0) hp (by rw [k_y33]; decide)
    have neu34_h0 : h0 ≠ y33 := fun q => by have z := k_h0; rw [q, k_y33] at z; exact absurd z (by decide)
    obtain ⟨u34, hu34⟩ : ∃ z, z = pSI u31 y33 1 0 := ⟨_, rfl⟩
    rw [← hu34] at hP hD hu hp
    have m_yru27 : yru27 ∈ u34.1 := by rw [hu34]; exact m_yru27
    have k_yru27 : u34.2.1 yru27 = 10 := by rw [hu34]; exact k_yru27
    have m_h0 : h0 ∈ u34.1 := by rw [hu34]; exact m_h0
    have k_h0 : u34.2.1 h0 = 11 := by rw [hu34]; exact k_h0
    have w35 : (u34.2.2.1 h0 9).toInt = (u31.2.2.1 h0 9).toInt := by rw [hu34]; exact congrArg Int32.toInt (if_neg (fun q => absurd q.2 (by decide)))
    refine lv_aload_n hx hb dX11_works_55 rfl (lv_at hl 1 rfl) ?_
    refine lv_aload_n hx hb dX11_works_56 rfl (lv_at hl 0 rfl) ?_
    refine pput (u' := pSR u34 h0 8 (some yru27)) (ci := 11) (v := .ref yru27) (ty := .object "BellowsRow$Works") (C := RX11) (T := TX11) (N := 11) hx hb hts i_X11 tyX11 tyX11_ok nmX11 hown hK hP hD hS m_h0 (cF11 k_h0) rfl 8 (by decide) (hts (.fieldLink RX11 62 "BellowsRow" "now" "LBellowsRow$Works;") (by decide +kernel)) (fun _ h9 => h9) rfl (by decide +kernel) rfl rfl (Nat.le_of_ble_eq_true rfl) rfl (sF11_8 k_h0 (some yru27)) dX11_works_57 (fun H locs hP hD hS => ?_)
    have hu := WT.setR (a := h0) (s := 8) (y := yru27) (kd := 10) hu (by rw [k_h0]; exact Or.inl rfl) (by rw [k_h0]; decide) m_yru27 k_yru27
    have hp := PX.setR (a := h0) (s := 8) (v := some yru27) hp (by rw [k_h0]; decide) (by rw [k_h0]; decide) (by rw [k_h0]; decide) (fun q => by first | decide | (rw [k_h0] at q; exact absurd q (by decide)))
    obtain ⟨u36, hu36⟩ : ∃ z, z = pSR u34 h0 8 (some yru27) := ⟨_, rfl⟩
    rw [← hu36] at hP hD hu hp
    have m_yru27 : yru27 ∈ u36.1 := by rw [hu36]; exact m_yru27
    have k_yru27 : u36.2.1 yru27 = 10 := by rw [hu36]; exact k_yru27
    have m_h0 : h0 ∈ u36.1 := by rw [hu36]; exact m_h0
    have k_h0 : u36.2.1 h0 = 11 := by rw [hu36]; exact k_h0
    have w37 : (u36.2.2.1 h0 9).toInt = (u34.2.2.1 h0 9).toInt := by rw [hu36]; rfl
    refine lv_aload_n hx hb dX11_works_60 rfl (lv_at hl 1 rfl) ?_
    refine pget (ci := 11) (v := va_rf (u36.2.2.2.2 h0 8)) (C := RX11) (T := TX11) (N := 11) hx hb hts i_X11 hown hK hP m_h0 (cF11 k_h0) rfl 8 (by decide) (hts (.fieldLink RX11 62 "BellowsRow" "now" "LBellowsRow$Works;") (by decide +kernel)) (fun _ h9 => h9) rfl dX11_works_61 ?_
    obtain ⟨y38, qy38, m_y38, k_y38⟩ := (hu h0 m_h0).1 8 10 (by rw [k_h0]; rfl)
    refine W.eq (g2 := F0 m 64 ls [.ref y38]) (by rw [qy38]; rfl) ?_
    refine pget (ci := 10) (v := .int (u36.2.2.1 y38 3)) (C := RX10) (T := TX10) (N := 12) hx hb hts i_X10 hown hK hP m_y38 (cF10 k_y38) rfl 3 (by decide) (hts (.fieldLink RX11 99 "BellowsRow$Works" "lines" "I") (by decide +kernel)) (fun _ h9 => h9) rfl dX11_works_64 ?_
    exact W.iret (v := (u36.2.2.1 y38 3)) hx hb hr (fun t ht hW => ⟨⟨(u36.2.2.1 y38 3), u36, rfl, ⟨hu, hp, trivial⟩, by rw [ht]; exact hP, hD⟩, hS.F ht⟩) hS.2.2 dX11_works_67
  · refine lv_bipush (v := (-4)) hx hb dX11_works_44 (by decide) ?_
    exact W.iret (v := (-4)) hx hb hr (fun t ht hW => ⟨⟨(-4), u31, rfl, ⟨hu, hp, trivial⟩, by rw [ht]; exact hP, hD⟩, hS.F ht⟩) hS.2.2 dX11_works_46
