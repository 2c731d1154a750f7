set_option maxHeartbeats 4000000 in
set_option maxRecDepth 100000 in
theorem law_loop {p : Program} {l : Launch} {e : Env} {s : State} {m : MethodId} {below : List Frame} {meth : Method} {c : Code} {b L : Nat} {xs : Nat → Int32} {D : va_G} {k : Nat → ClassId} {tt : TT} (C0 : lw_At p s m meth c b L xs) (hL : L ≤ 3072) (hN : NW s) (hK : va_K D vwCl (TYS k) s) (hE : SX tt (fun q : Nat => s.heap.size ≤ q) s s.heap) {x mm : Nat} : ∀ (n j : Nat) (v3 : Int32) (u : PSt) (H : Heap) (locs : List Loc) (ls : Array Slot), 513 - j < n → v3.toInt = 6 * j → j ≤ 512 → WT u → x ∈ u.1 → u.2.1 x = 11 → mm ∈ u.1 → u.2.1 mm = 12 → REL u x mm → va_P D vwCl (PW k u) H → va_D (fun q : Nat => s.heap.size ≤ q) (PW k u) → va_S (fun q : Nat => s.heap.size ≤ q) s.heap H locs → lv_has ls 4 [(0, .ref b), (1, .ref x), (2, .ref mm), (3, .int v3)] → W p l e room_1 s m #[Value.ref b] below meth c H locs (66 + 389 * j) (21009 + 3227 * j) (lw_Z below #[Value.ref b] s) (F0 m 18 ls []) := by
  obtain ⟨hx, hb, hr, hml, hown, hts0, hX, hbl, hlocks, hgv⟩ := id C0
  have hA : ∀ q : Nat, s.heap.size ≤ q → (fun q : Nat => s.heap.size ≤ q) q := fun _ h => h
  have hbA : ¬ (fun q : Nat => s.heap.size ≤ q) b := Nat.not_le.mpr hbl
  intro n
  induction n with
  | zero => intro j v3 u H locs ls hn; exact absurd hn (Nat.not_lt_zero _)
  | succ n ih =>
    intro j v3 u H locs ls hn h3 hj hu m_x k_x m_mm k_mm hR hP hD hS hl
    refine lv_iload_n hx hb dL_law_18 rfl (lv_at hl 3 rfl) ?_
    refine lv_aload_n hx hb dL_law_19 rfl (lv_at hl 0 rfl) ?_
    refine va_slen hx hb hX hbl hbA hS dL_law_20 ?_
    refine lv_bipush (v := 6) hx hb dL_law_21 (by decide) ?_
    refine lv_isub hx hb dL_law_23 ?_
    refine lv_topi (fun z ez => ?_)
    have tz : z.toInt = (L : Int) - 6 := by
      have e1 : (Int32.ofNat L).toInt = (L : Int) := nI_toInt (by omega)
      rw [ez]
      have h := i_sub (a := Int32.ofNat L) (b := 6) (by rw [e1]; show -2147483648 ≤ (L : Int) - 6; omega) (by rw [e1]; show (L : Int) - 6 ≤ 2147483647; omega)
      rw [h, e1]; rfl
    refine lv_icmp_gt (tgt := 1775) hx hb dL_law_24 (by decide) (fun c1 => ?_) (fun c1 => ?_)
    · refine lv_iconst (v := 1) hx hb dL_law_1775 (by decide) ?_
      refine va_forget (fun q hq => hS.2.2 q hq) ?_
      refine W.widen (k := 600000) (n := 7302250) (by omega) (by omega) ?_
      exact lw_ret hx hb hr hlocks dL_law_1776
    · rw [i_lt] at c1
      have hv : 0 ≤ v3.toInt ∧ v3.toInt + 6 ≤ L := by omega
      have kk : ∀ (u : PSt) (H : Heap) (locs : List Loc) (ls : Array Slot), WT u → x ∈ u.1 → u.2.1 x = 11 → mm ∈ u.1 → u.2.1 mm = 12 → REL u x mm → va_P D vwCl (PW k u) H → va_D (fun q : Nat => s.heap.size ≤ q) (PW k u) → va_S (fun q : Nat => s.heap.size ≤ q) s.heap H locs → lv_has ls 4 [(0, .ref b), (1, .ref x), (2, .ref mm), (3, .int v3)] → W p l e room_1 s m #[Value.ref b] below meth c H locs (66 + 389 * j + 389) (21009 + 3227 * j + 3227) (lw_Z below #[Value.ref b] s) (F0 m 1769 ls []) := by
        intro u H locs ls hu m_x k_x m_mm k_mm hR hP hD hS hl
        obtain ⟨y, ey⟩ : ∃ y : Int32, y = v3 + 6 := ⟨_, rfl⟩
        have ty : y.toInt = 6 * ((j + 1 : Nat) : Int) := by
          rw [ey, i_add (b := 6) (by show -2147483648 ≤ v3.toInt + 6; omega) (by show v3.toInt + 6 ≤ 2147483647; omega)]
          show v3.toInt + 6 = _
          omega
        refine lv_iinc (v := y) (lv' := [(3, .int y), (0, .ref b), (1, .ref x), (2, .ref mm)]) hx hb dL_law_1769 hl (k := 3) rfl (by rw [ey]; rfl) (by decide) rfl (fun ls hl => ?_)
        refine lv_goto (tgt := 18) hx hb dL_law_1772 (by decide) ?_
        refine W.widen (k := 66 + 389 * (j + 1)) (n := 21009 + 3227 * (j + 1)) (by omega) (by omega) ?_
        exact ih (j + 1) y u H locs ls (by omega) ty (by omega) hu m_x k_x m_mm k_mm hR hP hD hS (lv_sub hl [1, 2, 3, 0] rfl)
      have hC : 66 + 389 * j + 389 ≤ 600000 := by omega
      have hSl : 21009 + 3227 * j + 3227 ≤ 7302250 := by omega
      refine lv_aload_n hx hb dL_law_27 rfl (lv_at hl 0 rfl) ?_
      refine lv_iload_n hx hb dL_law_28 rfl (lv_at hl 3 rfl) ?_
      refine va_sld hx hb hX hbl hbA hS (vp_in_iff.mpr (by omega)) dL_law_29 ?_
      refine lv_bipush (v := 63) hx hb dL_law_30 (by decide) ?_
      refine lv_iand hx hb dL_law_32 ?_
      obtain ⟨q, hq, eq⟩ := pk_andE (xs v3.toNatClampNeg) (m := 63) 6 (by decide)
      rw [eq]
      have hq : q < 64 := hq
      by_cases h0 : q = 0
      · subst h0; exact lv_tableIn (tgt := 236) hx hb dL_law_33 (by decide) (by decide) rfl (by decide) (law_0 C0 hL hN hK hE hv hC hSl kk hu m_x k_x m_mm k_mm hR hP hD hS hl)
      by_cases h1 : q = 1
      · subst h1; exact lv_tableIn (tgt := 299) hx hb dL_law_33 (by decide) (by decide) rfl (by decide) (law_1 C0 hL hN hK hE hv hC hSl kk hu m_x k_x m_mm k_mm hR hP hD hS hl)
      by_cases h2 : q = 2
      · subst h2; exact lv_tableIn (tgt := 322) hx hb dL_law_33 (by decide) (by decide) rfl (by decide) (law_2 C0 hL hN hK hE hv hC hSl kk hu m_x k_x m_mm k_mm hR hP hD hS hl)
      by_cases h3 : q = 3
      · subst h3; exact lv_tableIn (tgt := 335) hx hb dL_law_33 (by decide) (by decide) rfl (by decide) (law_3 C0 hL hN hK hE hv hC hSl kk hu m_x k_x m_mm k_mm hR hP hD hS hl)
      by_cases h4 : q = 4
      · subst h4; exact lv_tableIn (tgt := 358) hx hb dL_law_33 (by decide) (by decide) rfl (by decide) (law_4 C0 hL hN hK hE hv hC hSl kk hu m_x k_x m_mm k_mm hR hP hD hS hl)
      by_cases h5 : q = 5
      · subst h5; exact lv_tableIn (tgt := 381) hx hb dL_law_33 (by decide) (by decide) rfl (by decide) (law_5 C0 hL hN hK hE hv hC hSl kk hu m_x k_x m_mm k_mm hR hP hD hS hl)
      by_cases h6 : q = 6
      · subst h6; exact lv_tableIn (tgt := 414) hx hb dL_law_33 (by decide) (by decide) rfl (by decide) (law_6 C0 hL hN hK hE hv hC hSl kk hu m_x k_x m_mm k_mm hR hP hD hS hl)
      by_cases h7 : q = 7
      · subst h7; exact lv_tableIn (tgt := 457) hx hb dL_law_33 (by decide) (by decide) rfl (by decide) (law_7 C0 hL hN hK hE hv hC hSl kk hu m_x k_x m_mm k_mm hR hP hD hS hl)
      by_cases h8 : q = 8
      · subst h8; exact lv_tableIn (tgt := 490) hx hb dL_law_33 (by decide) (by decide) rfl (by decide) (law_8 C0 hL hN hK hE hv hC hSl kk hu m_x k_x m_mm k_mm hR hP hD hS hl)
      by_cases h9 : q = 9
      · subst h9; exact lv_tableIn (tgt := 523) hx hb dL_law_33 (by decide) (by decide) rfl (by decide) (law_9 C0 hL hN hK hE hv hC hSl kk hu m_x k_x m_mm k_mm hR hP hD hS hl)
      by_cases h10 : q = 10
      · subst h10; exact lv_tableIn (tgt := 546) hx hb dL_law_33 (by decide) (by decide) rfl (by decide) (law_10 C0 hL hN hK hE hv hC hSl kk hu m_x k_x m_mm k_mm hR hP hD hS hl)
      by_cases h11 : q = 11
      · subst h11; exact lv_tableIn (tgt := 569) hx hb dL_law_33 (by decide) (by decide) rfl (by decide) (law_11 C0 hL hN hK hE hv hC hSl kk hu m_x k_x m_mm k_mm hR hP hD hS hl)
      by_cases h12 : q = 12
      · subst h12; exact lv_tableIn (tgt := 602) hx hb dL_law_33 (by decide) (by decide) rfl (by decide) (law_12 C0 hL hN hK hE hv hC hSl kk hu m_x k_x m_mm k_mm hR hP hD hS hl)
      by_cases h13 : q = 13
      · subst h13; exact lv_tableIn (tgt := 625) hx hb dL_law_33 (by decide) (by decide) rfl (by decide) (law_13 C0 hL hN hK hE hv hC hSl kk hu m_x k_x m_mm k_mm hR hP hD hS hl)
      by_cases h14 : q = 14
      · subst h14; exact lv_tableIn (tgt := 648) hx hb dL_law_33 (by decide) (by decide) rfl (by decide) (law_14 C0 hL hN hK hE hv hC hSl kk hu m_x k_x m_mm k_mm hR hP hD hS hl)
      by_cases h15 : q = 15
      · subst h15; exact lv_tableIn (tgt := 671) hx hb dL_law_33 (by decide) (by decide) rfl (by decide) (law_15 C0 hL hN hK hE hv hC hSl kk hu m_x k_x m_mm k_mm hR hP hD hS hl)
      by_cases h16 : q = 16
      · subst h16; exact lv_tableIn (tgt := 694) hx hb dL_law_33 (by decide) (by decide) rfl (by decide) (law_16 C0 hL hN hK hE hv hC hSl kk hu m_x k_x m_mm k_mm hR hP hD hS hl)
      by_cases h17 : q = 17
      · subst h17; exact lv_tableIn (tgt := 727) hx hb dL_law_33 (by decide) (by decide) rfl (by decide) (law_17 C0 hL hN hK hE hv hC hSl kk hu m_x k_x m_mm k_mm hR hP hD hS hl)
      by_cases h18 : q = 18
      · subst h18; exact lv_tableIn (tgt := 760) hx hb dL_law_33 (by decide) (by decide) rfl (by decide) (law_18 C0 hL hN hK hE hv hC hSl kk hu m_x k_x m_mm k_mm hR hP hD hS hl)
      by_cases h19 : q = 19
      · subst h19; exact lv_tableIn (tgt := 783) hx hb dL_law_33 (by decide) (by decide) rfl (by decide) (law_19 C0 hL hN hK hE hv hC hSl kk hu m_x k_x m_mm k_mm hR hP hD hS hl)
      by_cases h20 : q = 20
      · subst h20; exact lv_tableIn (tgt := 806) hx hb dL_law_33 (by decide) (by decide) rfl (by decide) (law_20 C0 hL hN hK hE hv hC hSl kk hu m_x k_x m_mm k_mm hR hP hD hS hl)
      by_cases h21 : q = 21
      · subst h21; exact lv_tableIn (tgt := 855) hx hb dL_law_33 (by decide) (by decide) rfl (by decide) (law_21 C0 hL hN hK hE hv hC hSl kk hu m_x k_x m_mm k_mm hR hP hD hS hl)
      by_cases h22 : q = 22
      · subst h22; exact lv_tableIn (tgt := 888) hx hb dL_law_33 (by decide) (by decide) rfl (by decide) (law_22 C0 hL hN hK hE hv hC hSl kk hu m_x k_x m_mm k_mm hR hP hD hS hl)
      by_cases h23 : q = 23
      · subst h23; exact lv_tableIn (tgt := 921) hx hb dL_law_33 (by decide) (by decide) rfl (by decide) (law_23 C0 hL hN hK hE hv hC hSl kk hu m_x k_x m_mm k_mm hR hP hD hS hl)
      by_cases h24 : q = 24
      · subst h24; exact lv_tableIn (tgt := 944) hx hb dL_law_33 (by decide) (by decide) rfl (by decide) (law_24 C0 hL hN hK hE hv hC hSl kk hu m_x k_x m_mm k_mm hR hP hD hS hl)
      by_cases h25 : q = 25
      · subst h25; exact lv_tableIn (tgt := 957) hx hb dL_law_33 (by decide) (by decide) rfl (by decide) (law_25 C0 hL hN hK hE hv hC hSl kk hu m_x k_x m_mm k_mm hR hP hD hS hl)
      by_cases h26 : q = 26
      · subst h26; exact lv_tableIn (tgt := 1000) hx hb dL_law_33 (by decide) (by decide) rfl (by decide) (law_26 C0 hL hN hK hE hv hC hSl kk hu m_x k_x m_mm k_mm hR hP hD hS hl)
      by_cases h27 : q = 27
      · subst h27; exact lv_tableIn (tgt := 1033) hx hb dL_law_33 (by decide) (by decide) rfl (by decide) (law_27 C0 hL hN hK hE hv hC hSl kk hu m_x k_x m_mm k_mm hR hP hD hS hl)
      by_cases h28 : q = 28
      · subst h28; exact lv_tableIn (tgt := 1066) hx hb dL_law_33 (by decide) (by decide) rfl (by decide) (law_28 C0 hL hN hK hE hv hC hSl kk hu m_x k_x m_mm k_mm hR hP hD hS hl)
      by_cases h29 : q = 29
      · subst h29; exact lv_tableIn (tgt := 1099) hx hb dL_law_33 (by decide) (by decide) rfl (by decide) (law_29 C0 hL hN hK hE hv hC hSl kk hu m_x k_x m_mm k_mm hR hP hD hS hl)
      by_cases h30 : q = 30
      · subst h30; exact lv_tableIn (tgt := 1142) hx hb dL_law_33 (by decide) (by decide) rfl (by decide) (law_30 C0 hL hN hK hE hv hC hSl kk hu m_x k_x m_mm k_mm hR hP hD hS hl)
      by_cases h31 : q = 31
      · subst h31; exact lv_tableIn (tgt := 1205) hx hb dL_law_33 (by decide) (by decide) rfl (by decide) (law_31 C0 hL hN hK hE hv hC hSl kk hu m_x k_x m_mm k_mm hR hP hD hS hl)
      by_cases h32 : q = 32
      · subst h32; exact lv_tableIn (tgt := 1248) hx hb dL_law_33 (by decide) (by decide) rfl (by decide) (law_32 C0 hL hN hK hE hv hC hSl kk hu m_x k_x m_mm k_mm hR hP hD hS hl)
      by_cases h33 : q = 33
      · subst h33; exact lv_tableIn (tgt := 1291) hx hb dL_law_33 (by decide) (by decide) rfl (by decide) (law_33 C0 hL hN hK hE hv hC hSl kk hu m_x k_x m_mm k_mm hR hP hD hS hl)
      by_cases h34 : q = 34
      · subst h34; exact lv_tableIn (tgt := 1304) hx hb dL_law_33 (by decide) (by decide) rfl (by decide) (law_34 C0 hL hN hK hE hv hC hSl kk hu m_x k_x m_mm k_mm hR hP hD hS hl)
      by_cases h35 : q = 35
      · subst h35; exact lv_tableIn (tgt := 1327) hx hb dL_law_33 (by decide) (by decide) rfl (by decide) (law_35 C0 hL hN hK hE hv hC hSl kk hu m_x k_x m_mm k_mm hR hP hD hS hl)
      by_cases h36 : q = 36
      · subst h36; exact lv_tableIn (tgt := 1360) hx hb dL_law_33 (by decide) (by decide) rfl (by decide) (law_36 C0 hL hN hK hE hv hC hSl kk hu m_x k_x m_mm k_mm hR hP hD hS hl)
      by_cases h37 : q = 37
      · subst h37; exact lv_tableIn (tgt := 1393) hx hb dL_law_33 (by decide) (by decide) rfl (by decide) (law_37 C0 hL hN hK hE hv hC hSl kk hu m_x k_x m_mm k_mm hR hP hD hS hl)
      by_cases h38 : q = 38
      · subst h38; exact lv_tableIn (tgt := 1416) hx hb dL_law_33 (by decide) (by decide) rfl (by decide) (law_38 C0 hL hN hK hE hv hC hSl kk hu m_x k_x m_mm k_mm hR hP hD hS hl)
      by_cases h39 : q = 39
      · subst h39; exact lv_tableIn (tgt := 1465) hx hb dL_law_33 (by decide) (by decide) rfl (by decide) (law_39 C0 hL hN hK hE hv hC hSl kk hu m_x k_x m_mm k_mm hR hP hD hS hl)
      by_cases h40 : q = 40
      · subst h40; exact lv_tableIn (tgt := 1488) hx hb dL_law_33 (by decide) (by decide) rfl (by decide) (law_40 C0 hL hN hK hE hv hC hSl kk hu m_x k_x m_mm k_mm hR hP hD hS hl)
      by_cases h41 : q = 41
      · subst h41; exact lv_tableIn (tgt := 1511) hx hb dL_law_33 (by decide) (by decide) rfl (by decide) (law_41 C0 hL hN hK hE hv hC hSl kk hu m_x k_x m_mm k_mm hR hP hD hS hl)
      by_cases h42 : q = 42
      · subst h42; exact lv_tableIn (tgt := 1544) hx hb dL_law_33 (by decide) (by decide) rfl (by decide) (law_42 C0 hL hN hK hE hv hC hSl kk hu m_x k_x m_mm k_mm hR hP hD hS hl)
      by_cases h43 : q = 43
      · subst h43; exact lv_tableIn (tgt := 1567) hx hb dL_law_33 (by decide) (by decide) rfl (by decide) (law_43 C0 hL hN hK hE hv hC hSl kk hu m_x k_x m_mm k_mm hR hP hD hS hl)
      by_cases h44 : q = 44
      · subst h44; exact lv_tableIn (tgt := 1590) hx hb dL_law_33 (by decide) (by decide) rfl (by decide) (law_44 C0 hL hN hK hE hv hC hSl kk hu m_x k_x m_mm k_mm hR hP hD hS hl)
      by_cases h45 : q = 45
      · subst h45; exact lv_tableIn (tgt := 1633) hx hb dL_law_33 (by decide) (by decide) rfl (by decide) (law_45 C0 hL hN hK hE hv hC hSl kk hu m_x k_x m_mm k_mm hR hP hD hS hl)
      by_cases h46 : q = 46
      · subst h46; exact lv_tableIn (tgt := 1706) hx hb dL_law_33 (by decide) (by decide) rfl (by decide) (law_46 C0 hL hN hK hE hv hC hSl kk hu m_x k_x m_mm k_mm hR hP hD hS hl)
      refine lv_tableOut (tgt := 1769) hx hb dL_law_33 (by rw [nI_toInt (by omega)]; omega) (by decide) ?_
      refine W.widen (k := 66 + 389 * j + 389) (n := 21009 + 3227 * j + 3227) (by omega) (by omega) ?_
      exact kk u H locs ls hu m_x k_x m_mm k_mm hR hP hD hS hl
