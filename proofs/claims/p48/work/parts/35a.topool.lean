theorem sm0_lt {s : Nat} (h : s < 4) : sm0 s = -1 := by
  rcases (show s = 0 ∨ s = 1 ∨ s = 2 ∨ s = 3 by omega) with rfl | rfl | rfl | rfl <;> rfl
abbrev ALLW (k : Nat → ClassId) (a bb : Nat → Nat) : va_W := [(e0 k a), (e1 k a), (e2 k a), (e3 k a), (e4 k a), (e5 k a), (e6 k a), (e7 k a), (e8 k a), (e9 k a), (e10 k a), (e11 k a), (e12 k a), (e13 k a), (e14 k a), (e15 k a), (e16 k a), (e17 k a), (e18 k a), (e19 k a), (e20 k a), (e21 k a), (e22 k a), (e23 k a), (e24 k a), (e25 k a), (e26 k a), (e27 k a), (e28 k a), (e29 k a), (e30 k a), (e31 k a), (e32 k a), (e33 k a), (e34 k a), (e35 k a), (e36 k a), (e37 k a), (e38 k a), (e39 k a), (e40 k a), (e41 k a), (e42 k a), (e43 k a), (e44 k a), (e45 k a), (e46 k a), (e47 k a), (m0 k bb), (m1 k bb), (m2 k bb), (m3 k bb), (m4 k bb), (m5 k bb), (m6 k bb), (m7 k bb), (m8 k bb), (m9 k bb), (m10 k bb), (m11 k bb), (m12 k bb), (m13 k bb), (m14 k bb), (m15 k bb), (m16 k bb), (m17 k bb)]
set_option maxHeartbeats 8000000 in
set_option maxRecDepth 100000 in
theorem to_pool {D : va_G} {k : Nat → ClassId} {A : Nat → Prop} {H : Heap} (a bb : Nat → Nat) (hP : va_P D vwCl (ALLW k a bb) H) (hD : va_D A (ALLW k a bb)) : ∃ u : PSt, WT u ∧ a 0 ∈ u.1 ∧ u.2.1 (a 0) = 11 ∧ bb 0 ∈ u.1 ∧ u.2.1 (bb 0) = 12 ∧ REL u (a 0) (bb 0) ∧ va_P D vwCl (PW k u) H ∧ va_D A (PW k u) := by
  have hu : WT pE := fun a h => by cases h
  have hPn : va_P D vwCl ((ALLW k a bb) ++ PW k pE) H := by rw [show PW k pE = [] from rfl, List.append_nil]; exact hP
  have hDn : va_D A ((ALLW k a bb) ++ PW k pE) := by rw [show PW k pE = [] from rfl, List.append_nil]; exact hD
  obtain ⟨hPn, hDn, na⟩ := psh_at (i := 2) (a := (a 2)) rfl hPn hDn 20 (fun _ => 0) (fun _ => 0) (fun _ => none) (by rw [cF20 psh_kd]; (try simp only [psh_I, psh_J, psh_R]) <;> rfl)
  have px1 := PX_psh (kd := 20) (I := (fun _ => 0)) (J := (fun _ => 0)) (R := (fun _ => none)) (PX.rf (u := pE)) na
  have hu := WT_psh (kd := 20) (I := (fun _ => 0)) (J := (fun _ => 0)) (R := (fun _ => none)) hu na (fun s t h => (tk20 h).elim) (fun s t h => (tn20 h).elim) (fun h => absurd h (by decide)) (fun _ => trivial)
  obtain ⟨ug1, hug1⟩ : ∃ z, z = psh pE (a 2) 20 (fun _ => 0) (fun _ => 0) (fun _ => none) := ⟨_, rfl⟩
  rw [← hug1] at hPn hDn hu px1
  have hPn : va_P D vwCl ([(e0 k a), (e1 k a), (e3 k a), (e4 k a), (e5 k a), (e6 k a), (e7 k a), (e8 k a), (e9 k a), (e10 k a), (e11 k a), (e12 k a), (e13 k a), (e14 k a), (e15 k a), (e16 k a), (e17 k a), (e18 k a), (e19 k a), (e20 k a), (e21 k a), (e22 k a), (e23 k a), (e24 k a), (e25 k a), (e26 k a), (e27 k a), (e28 k a), (e29 k a), (e30 k a), (e31 k a), (e32 k a), (e33 k a), (e34 k a), (e35 k a), (e36 k a), (e37 k a), (e38 k a), (e39 k a), (e40 k a), (e41 k a), (e42 k a), (e43 k a), (e44 k a), (e45 k a), (e46 k a), (e47 k a), (m0 k bb), (m1 k bb), (m2 k bb), (m3 k bb), (m4 k bb), (m5 k bb), (m6 k bb), (m7 k bb), (m8 k bb), (m9 k bb), (m10 k bb), (m11 k bb), (m12 k bb), (m13 k bb), (m14 k bb), (m15 k bb), (m16 k bb), (m17 k bb)] ++ PW k ug1) H := hPn
  have hDn : va_D A ([(e0 k a), (e1 k a), (e3 k a), (e4 k a), (e5 k a), (e6 k a), (e7 k a), (e8 k a), (e9 k a), (e10 k a), (e11 k a), (e12 k a), (e13 k a), (e14 k a), (e15 k a), (e16 k a), (e17 k a), (e18 k a), (e19 k a), (e20 k a), (e21 k a), (e22 k a), (e23 k a), (e24 k a), (e25 k a), (e26 k a), (e27 k a), (e28 k a), (e29 k a), (e30 k a), (e31 k a), (e32 k a), (e33 k a), (e34 k a), (e35 k a), (e36 k a), (e37 k a), (e38 k a), (e39 k a), (e40 k a), (e41 k a), (e42 k a), (e43 k a), (e44 k a), (e45 k a), (e46 k a), (e47 k a), (m0 k bb), (m1 k bb), (m2 k bb), (m3 k bb), (m4 k bb), (m5 k bb), (m6 k bb), (m7 k bb), (m8 k bb), (m9 k bb), (m10 k bb), (m11 k bb), (m12 k bb), (m13 k bb), (m14 k bb), (m15 k bb), (m16 k bb), (m17 k bb)] ++ PW k ug1) := hDn
  have m_a_2 : (a 2) ∈ ug1.1 := by rw [hug1]; exact psh_in
  have k_a_2 : ug1.2.1 (a 2) = 20 := by rw [hug1]; exact psh_kd
  obtain ⟨hPn, hDn, na⟩ := psh_at (i := 1) (a := (a 1)) rfl hPn hDn 9 (fun s => ([0, 0, 0, 0, (-1), 0, 0, 0] : List Int32).getD s 0) (fun s => ([0, 0, 0, 0, 0, 0, 0, 0] : List Int64).getD s 0) (fun s => ([some (a 2), none, none, none, none, none, none, none] : List (Option Nat)).getD s none) (by rw [cF9 psh_kd]; (try simp only [psh_I, psh_J, psh_R]) <;> rfl)
  have px2 := PX_psh (kd := 9) (I := (fun s => ([0, 0, 0, 0, (-1), 0, 0, 0] : List Int32).getD s 0)) (J := (fun s => ([0, 0, 0, 0, 0, 0, 0, 0] : List Int64).getD s 0)) (R := (fun s => ([some (a 2), none, none, none, none, none, none, none] : List (Option Nat)).getD s none)) (PX.rf (u := ug1)) na
  have hu := WT_psh (kd := 9) (I := (fun s => ([0, 0, 0, 0, (-1), 0, 0, 0] : List Int32).getD s 0)) (J := (fun s => ([0, 0, 0, 0, 0, 0, 0, 0] : List Int64).getD s 0)) (R := (fun s => ([some (a 2), none, none, none, none, none, none, none] : List (Option Nat)).getD s none)) hu na (fun s t h => by rcases tk9 h with ⟨rfl, rfl⟩; exact ⟨_, rfl, m_a_2, k_a_2⟩) (fun s t h => (tn9 h).elim) (fun h => absurd h (by decide)) (fun s => okz9 s)
  obtain ⟨ug2, hug2⟩ : ∃ z, z = psh ug1 (a 1) 9 (fun s => ([0, 0, 0, 0, (-1), 0, 0, 0] : List Int32).getD s 0) (fun s => ([0, 0, 0, 0, 0, 0, 0, 0] : List Int64).getD s 0) (fun s => ([some (a 2), none, none, none, none, none, none, none] : List (Option Nat)).getD s none) := ⟨_, rfl⟩
  rw [← hug2] at hPn hDn hu px2
  have hPn : va_P D vwCl ([(e0 k a), (e3 k a), (e4 k a), (e5 k a), (e6 k a), (e7 k a), (e8 k a), (e9 k a), (e10 k a), (e11 k a), (e12 k a), (e13 k a), (e14 k a), (e15 k a), (e16 k a), (e17 k a), (e18 k a), (e19 k a), (e20 k a), (e21 k a), (e22 k a), (e23 k a), (e24 k a), (e25 k a), (e26 k a), (e27 k a), (e28 k a), (e29 k a), (e30 k a), (e31 k a), (e32 k a), (e33 k a), (e34 k a), (e35 k a), (e36 k a), (e37 k a), (e38 k a), (e39 k a), (e40 k a), (e41 k a), (e42 k a), (e43 k a), (e44 k a), (e45 k a), (e46 k a), (e47 k a), (m0 k bb), (m1 k bb), (m2 k bb), (m3 k bb), (m4 k bb), (m5 k bb), (m6 k bb), (m7 k bb), (m8 k bb), (m9 k bb), (m10 k bb), (m11 k bb), (m12 k bb), (m13 k bb), (m14 k bb), (m15 k bb), (m16 k bb), (m17 k bb)] ++ PW k ug2) H := hPn
  have hDn : va_D A ([(e0 k a), (e3 k a), (e4 k a), (e5 k a), (e6 k a), (e7 k a), (e8 k a), (e9 k a), (e10 k a), (e11 k a), (e12 k a), (e13 k a), (e14 k a), (e15 k a), (e16 k a), (e17 k a), (e18 k a), (e19 k a), (e20 k a), (e21 k a), (e22 k a), (e23 k a), (e24 k a), (e25 k a), (e26 k a), (e27 k a), (e28 k a), (e29 k a), (e30 k a), (e31 k a), (e32 k a), (e33 k a), (e34 k a), (e35 k a), (e36 k a), (e37 k a), (e38 k a), (e39 k a), (e40 k a), (e41 k a), (e42 k a), (e43 k a), (e44 k a), (e45 k a), (e46 k a), (e47 k a), (m0 k bb), (m1 k bb), (m2 k bb), (m3 k bb), (m4 k bb), (m5 k bb), (m6 k bb), (m7 k bb), (m8 k bb), (m9 k bb), (m10 k bb), (m11 k bb), (m12 k bb), (m13 k bb), (m14 k bb), (m15 k bb), (m16 k bb), (m17 k bb)] ++ PW k ug2) := hDn
  have k_a_2 : ug2.2.1 (a 2) = 20 := by rw [hug2]; exact (psh_k m_a_2 na).trans k_a_2
  have m_a_2 : (a 2) ∈ ug2.1 := by rw [hug2]; exact psh_m m_a_2
  have m_a_1 : (a 1) ∈ ug2.1 := by rw [hug2]; exact psh_in
  have k_a_1 : ug2.2.1 (a 1) = 9 := by rw [hug2]; exact psh_kd
  obtain ⟨hPn, hDn, na⟩ := psh_at (i := 1) (a := (a 3)) rfl hPn hDn 40 (fun _ => 0) (fun _ => 0) ((fun _ => none)) (by rw [cF40 psh_kd]; (try simp only [psh_I, psh_J, psh_R]) <;> rfl)
  have px3 := PX_psh (kd := 40) (I := (fun _ => 0)) (J := (fun _ => 0)) (R := ((fun _ => none))) (PX.rf (u := ug2)) na
  have hu := WT_psh (kd := 40) (I := (fun _ => 0)) (J := (fun _ => 0)) (R := ((fun _ => none))) hu na (fun s t h => (tk40 h).elim) (fun s t h => Or.inl rfl) (fun h => absurd h (by decide)) (fun _ => trivial)
  obtain ⟨ug3, hug3⟩ : ∃ z, z = psh ug2 (a 3) 40 (fun _ => 0) (fun _ => 0) ((fun _ => none)) := ⟨_, rfl⟩
  rw [← hug3] at hPn hDn hu px3
  have hPn : va_P D vwCl ([(e0 k a), (e4 k a), (e5 k a), (e6 k a), (e7 k a), (e8 k a), (e9 k a), (e10 k a), (e11 k a), (e12 k a), (e13 k a), (e14 k a), (e15 k a), (e16 k a), (e17 k a), (e18 k a), (e19 k a), (e20 k a), (e21 k a), (e22 k a), (e23 k a), (e24 k a), (e25 k a), (e26 k a), (e27 k a), (e28 k a), (e29 k a), (e30 k a), (e31 k a), (e32 k a), (e33 k a), (e34 k a), (e35 k a), (e36 k a), (e37 k a), (e38 k a), (e39 k a), (e40 k a), (e41 k a), (e42 k a), (e43 k a), (e44 k a), (e45 k a), (e46 k a), (e47 k a), (m0 k bb), (m1 k bb), (m2 k bb), (m3 k bb), (m4 k bb), (m5 k bb), (m6 k bb), (m7 k bb), (m8 k bb), (m9 k bb), (m10 k bb), (m11 k bb), (m12 k bb), (m13 k bb), (m14 k bb), (m15 k bb), (m16 k bb), (m17 k bb)] ++ PW k ug3) H := hPn
  have hDn : va_D A ([(e0 k a), (e4 k a), (e5 k a), (e6 k a), (e7 k a), (e8 k a), (e9 k a), (e10 k a), (e11 k a), (e12 k a), (e13 k a), (e14 k a), (e15 k a), (e16 k a), (e17 k a), (e18 k a), (e19 k a), (e20 k a), (e21 k a), (e22 k a), (e23 k a), (e24 k a), (e25 k a), (e26 k a), (e27 k a), (e28 k a), (e29 k a), (e30 k a), (e31 k a), (e32 k a), (e33 k a), (e34 k a), (e35 k a), (e36 k a), (e37 k a), (e38 k a), (e39 k a), (e40 k a), (e41 k a), (e42 k a), (e43 k a), (e44 k a), (e45 k a), (e46 k a), (e47 k a), (m0 k bb), (m1 k bb), (m2 k bb), (m3 k bb), (m4 k bb), (m5 k bb), (m6 k bb), (m7 k bb), (m8 k bb), (m9 k bb), (m10 k bb), (m11 k bb), (m12 k bb), (m13 k bb), (m14 k bb), (m15 k bb), (m16 k bb), (m17 k bb)] ++ PW k ug3) := hDn
  have k_a_1 : ug3.2.1 (a 1) = 9 := by rw [hug3]; exact (psh_k m_a_1 na).trans k_a_1
  have m_a_1 : (a 1) ∈ ug3.1 := by rw [hug3]; exact psh_m m_a_1
  have m_a_3 : (a 3) ∈ ug3.1 := by rw [hug3]; exact psh_in
  have k_a_3 : ug3.2.1 (a 3) = 40 := by rw [hug3]; exact psh_kd
  have sm_a_3 := m_a_3
  have sk_a_3 := k_a_3
  have sI_a_3 : ug3.2.2.1 (a 3) = (fun _ => 0) := by rw [hug3]; exact psh_I
  have sR_a_3 : ug3.2.2.2.2 (a 3) = ((fun _ => none)) := by rw [hug3]; exact psh_R
  obtain ⟨hPn, hDn, na⟩ := psh_at (i := 6) (a := (a 9)) rfl hPn hDn 30 (fun _ => 0) (fun _ => 0) (fun _ => none) (by rw [cF30 psh_kd]; (try simp only [psh_I, psh_J, psh_R]) <;> rfl)
  have px4 := PX_psh (kd := 30) (I := (fun _ => 0)) (J := (fun _ => 0)) (R := (fun _ => none)) (PX.rf (u := ug3)) na
  have hu := WT_psh (kd := 30) (I := (fun _ => 0)) (J := (fun _ => 0)) (R := (fun _ => none)) hu na (fun s t h => (tk30 h).elim) (fun s t h => (tn30 h).elim) (fun h => absurd h (by decide)) (fun _ => trivial)
  obtain ⟨ug4, hug4⟩ : ∃ z, z = psh ug3 (a 9) 30 (fun _ => 0) (fun _ => 0) (fun _ => none) := ⟨_, rfl⟩
  rw [← hug4] at hPn hDn hu px4
  have hPn : va_P D vwCl ([(e0 k a), (e4 k a), (e5 k a), (e6 k a), (e7 k a), (e8 k a), (e10 k a), (e11 k a), (e12 k a), (e13 k a), (e14 k a), (e15 k a), (e16 k a), (e17 k a), (e18 k a), (e19 k a), (e20 k a), (e21 k a), (e22 k a), (e23 k a), (e24 k a), (e25 k a), (e26 k a), (e27 k a), (e28 k a), (e29 k a), (e30 k a), (e31 k a), (e32 k a), (e33 k a), (e34 k a), (e35 k a), (e36 k a), (e37 k a), (e38 k a), (e39 k a), (e40 k a), (e41 k a), (e42 k a), (e43 k a), (e44 k a), (e45 k a), (e46 k a), (e47 k a), (m0 k bb), (m1 k bb), (m2 k bb), (m3 k bb), (m4 k bb), (m5 k bb), (m6 k bb), (m7 k bb), (m8 k bb), (m9 k bb), (m10 k bb), (m11 k bb), (m12 k bb), (m13 k bb), (m14 k bb), (m15 k bb), (m16 k bb), (m17 k bb)] ++ PW k ug4) H := hPn
  have hDn : va_D A ([(e0 k a), (e4 k a), (e5 k a), (e6 k a), (e7 k a), (e8 k a), (e10 k a), (e11 k a), (e12 k a), (e13 k a), (e14 k a), (e15 k a), (e16 k a), (e17 k a), (e18 k a), (e19 k a), (e20 k a), (e21 k a), (e22 k a), (e23 k a), (e24 k a), (e25 k a), (e26 k a), (e27 k a), (e28 k a), (e29 k a), (e30 k a), (e31 k a), (e32 k a), (e33 k a), (e34 k a), (e35 k a), (e36 k a), (e37 k a), (e38 k a), (e39 k a), (e40 k a), (e41 k a), (e42 k a), (e43 k a), (e44 k a), (e45 k a), (e46 k a), (e47 k a), (m0 k bb), (m1 k bb), (m2 k bb), (m3 k bb), (m4 k bb), (m5 k bb), (m6 k bb), (m7 k bb), (m8 k bb), (m9 k bb), (m10 k bb), (m11 k bb), (m12 k bb), (m13 k bb), (m14 k bb), (m15 k bb), (m16 k bb), (m17 k bb)] ++ PW k ug4) := hDn
  have k_a_1 : ug4.2.1 (a 1) = 9 := by rw [hug4]; exact (psh_k m_a_1 na).trans k_a_1
  have m_a_1 : (a 1) ∈ ug4.1 := by rw [hug4]; exact psh_m m_a_1
  have k_a_3 : ug4.2.1 (a 3) = 40 := by rw [hug4]; exact (psh_k m_a_3 na).trans k_a_3
  have m_a_3 : (a 3) ∈ ug4.1 := by rw [hug4]; exact psh_m m_a_3
  have m_a_9 : (a 9) ∈ ug4.1 := by rw [hug4]; exact psh_in
  have k_a_9 : ug4.2.1 (a 9) = 30 := by rw [hug4]; exact psh_kd
  obtain ⟨hPn, hDn, na⟩ := psh_at (i := 2) (a := (a 5)) rfl hPn hDn 7 (fun s => ([0, 0, 0, 0] : List Int32).getD s 0) (fun s => ([0, 0, 0, 0] : List Int64).getD s 0) (fun s => ([none, none, none, some (a 9)] : List (Option Nat)).getD s none) (by rw [cF7 psh_kd]; (try simp only [psh_I, psh_J, psh_R]) <;> rfl)
  have px5 := PX_psh (kd := 7) (I := (fun s => ([0, 0, 0, 0] : List Int32).getD s 0)) (J := (fun s => ([0, 0, 0, 0] : List Int64).getD s 0)) (R := (fun s => ([none, none, none, some (a 9)] : List (Option Nat)).getD s none)) (PX.rf (u := ug4)) na
  have hu := WT_psh (kd := 7) (I := (fun s => ([0, 0, 0, 0] : List Int32).getD s 0)) (J := (fun s => ([0, 0, 0, 0] : List Int64).getD s 0)) (R := (fun s => ([none, none, none, some (a 9)] : List (Option Nat)).getD s none)) hu na (fun s t h => by rcases tk7 h with ⟨rfl, rfl⟩; exact ⟨_, rfl, m_a_9, k_a_9⟩) (fun s t h => (tn7 h).elim) (fun h => absurd h (by decide)) (fun s => okz7 s)
  obtain ⟨ug5, hug5⟩ : ∃ z, z = psh ug4 (a 5) 7 (fun s => ([0, 0, 0, 0] : List Int32).getD s 0) (fun s => ([0, 0, 0, 0] : List Int64).getD s 0) (fun s => ([none, none, none, some (a 9)] : List (Option Nat)).getD s none) := ⟨_, rfl⟩
  rw [← hug5] at hPn hDn hu px5
  have hPn : va_P D vwCl ([(e0 k a), (e4 k a), (e6 k a), (e7 k a), (e8 k a), (e10 k a), (e11 k a), (e12 k a), (e13 k a), (e14 k a), (e15 k a), (e16 k a), (e17 k a), (e18 k a), (e19 k a), (e20 k a), (e21 k a), (e22 k a), (e23 k a), (e24 k a), (e25 k a), (e26 k a), (e27 k a), (e28 k a), (e29 k a), (e30 k a), (e31 k a), (e32 k a), (e33 k a), (e34 k a), (e35 k a), (e36 k a), (e37 k a), (e38 k a), (e39 k a), (e40 k a), (e41 k a), (e42 k a), (e43 k a), (e44 k a), (e45 k a), (e46 k a), (e47 k a), (m0 k bb), (m1 k bb), (m2 k bb), (m3 k bb), (m4 k bb), (m5 k bb), (m6 k bb), (m7 k bb), (m8 k bb), (m9 k bb), (m10 k bb), (m11 k bb), (m12 k bb), (m13 k bb), (m14 k bb), (m15 k bb), (m16 k bb), (m17 k bb)] ++ PW k ug5) H := hPn
  have hDn : va_D A ([(e0 k a), (e4 k a), (e6 k a), (e7 k a), (e8 k a), (e10 k a), (e11 k a), (e12 k a), (e13 k a), (e14 k a), (e15 k a), (e16 k a), (e17 k a), (e18 k a), (e19 k a), (e20 k a), (e21 k a), (e22 k a), (e23 k a), (e24 k a), (e25 k a), (e26 k a), (e27 k a), (e28 k a), (e29 k a), (e30 k a), (e31 k a), (e32 k a), (e33 k a), (e34 k a), (e35 k a), (e36 k a), (e37 k a), (e38 k a), (e39 k a), (e40 k a), (e41 k a), (e42 k a), (e43 k a), (e44 k a), (e45 k a), (e46 k a), (e47 k a), (m0 k bb), (m1 k bb), (m2 k bb), (m3 k bb), (m4 k bb), (m5 k bb), (m6 k bb), (m7 k bb), (m8 k bb), (m9 k bb), (m10 k bb), (m11 k bb), (m12 k bb), (m13 k bb), (m14 k bb), (m15 k bb), (m16 k bb), (m17 k bb)] ++ PW k ug5) := hDn
  have k_a_1 : ug5.2.1 (a 1) = 9 := by rw [hug5]; exact (psh_k m_a_1 na).trans k_a_1
  have m_a_1 : (a 1) ∈ ug5.1 := by rw [hug5]; exact psh_m m_a_1
  have k_a_3 : ug5.2.1 (a 3) = 40 := by rw [hug5]; exact (psh_k m_a_3 na).trans k_a_3
  have m_a_3 : (a 3) ∈ ug5.1 := by rw [hug5]; exact psh_m m_a_3
  have k_a_9 : ug5.2.1 (a 9) = 30 := by rw [hug5]; exact (psh_k m_a_9 na).trans k_a_9
  have m_a_9 : (a 9) ∈ ug5.1 := by rw [hug5]; exact psh_m m_a_9
  have m_a_5 : (a 5) ∈ ug5.1 := by rw [hug5]; exact psh_in
  have k_a_5 : ug5.2.1 (a 5) = 7 := by rw [hug5]; exact psh_kd
  have sm_a_5 := m_a_5
  have sk_a_5 := k_a_5
  have sI_a_5 : ug5.2.2.1 (a 5) = (fun s => ([0, 0, 0, 0] : List Int32).getD s 0) := by rw [hug5]; exact psh_I
  have sR_a_5 : ug5.2.2.2.2 (a 5) = (fun s => ([none, none, none, some (a 9)] : List (Option Nat)).getD s none) := by rw [hug5]; exact psh_R
  obtain ⟨hPn, hDn, na⟩ := psh_at (i := 5) (a := (a 10)) rfl hPn hDn 30 (fun _ => 0) (fun _ => 0) (fun _ => none) (by rw [cF30 psh_kd]; (try simp only [psh_I, psh_J, psh_R]) <;> rfl)
  have px6 := PX_psh (kd := 30) (I := (fun _ => 0)) (J := (fun _ => 0)) (R := (fun _ => none)) (PX.rf (u := ug5)) na
  have hu := WT_psh (kd := 30) (I := (fun _ => 0)) (J := (fun _ => 0)) (R := (fun _ => none)) hu na (fun s t h => (tk30 h).elim) (fun s t h => (tn30 h).elim) (fun h => absurd h (by decide)) (fun _ => trivial)
  obtain ⟨ug6, hug6⟩ : ∃ z, z = psh ug5 (a 10) 30 (fun _ => 0) (fun _ => 0) (fun _ => none) := ⟨_, rfl⟩
  rw [← hug6] at hPn hDn hu px6
  have hPn : va_P D vwCl ([(e0 k a), (e4 k a), (e6 k a), (e7 k a), (e8 k a), (e11 k a), (e12 k a), (e13 k a), (e14 k a), (e15 k a), (e16 k a), (e17 k a), (e18 k a), (e19 k a), (e20 k a), (e21 k a), (e22 k a), (e23 k a), (e24 k a), (e25 k a), (e26 k a), (e27 k a), (e28 k a), (e29 k a), (e30 k a), (e31 k a), (e32 k a), (e33 k a), (e34 k a), (e35 k a), (e36 k a), (e37 k a), (e38 k a), (e39 k a), (e40 k a), (e41 k a), (e42 k a), (e43 k a), (e44 k a), (e45 k a), (e46 k a), (e47 k a), (m0 k bb), (m1 k bb), (m2 k bb), (m3 k bb), (m4 k bb), (m5 k bb), (m6 k bb), (m7 k bb), (m8 k bb), (m9 k bb), (m10 k bb), (m11 k bb), (m12 k bb), (m13 k bb), (m14 k bb), (m15 k bb), (m16 k bb), (m17 k bb)] ++ PW k ug6) H := hPn
  have hDn : va_D A ([(e0 k a), (e4 k a), (e6 k a), (e7 k a), (e8 k a), (e11 k a), (e12 k a), (e13 k a), (e14 k a), (e15 k a), (e16 k a), (e17 k a), (e18 k a), (e19 k a), (e20 k a), (e21 k a), (e22 k a), (e23 k a), (e24 k a), (e25 k a), (e26 k a), (e27 k a), (e28 k a), (e29 k a), (e30 k a), (e31 k a), (e32 k a), (e33 k a), (e34 k a), (e35 k a), (e36 k a), (e37 k a), (e38 k a), (e39 k a), (e40 k a), (e41 k a), (e42 k a), (e43 k a), (e44 k a), (e45 k a), (e46 k a), (e47 k a), (m0 k bb), (m1 k bb), (m2 k bb), (m3 k bb), (m4 k bb), (m5 k bb), (m6 k bb), (m7 k bb), (m8 k bb), (m9 k bb), (m10 k bb), (m11 k bb), (m12 k bb), (m13 k bb), (m14 k bb), (m15 k bb), (m16 k bb), (m17 k bb)] ++ PW k ug6) := hDn
  have k_a_1 : ug6.2.1 (a 1) = 9 := by rw [hug6]; exact (psh_k m_a_1 na).trans k_a_1
  have m_a_1 : (a 1) ∈ ug6.1 := by rw [hug6]; exact psh_m m_a_1
  have k_a_3 : ug6.2.1 (a 3) = 40 := by rw [hug6]; exact (psh_k m_a_3 na).trans k_a_3
  have m_a_3 : (a 3) ∈ ug6.1 := by rw [hug6]; exact psh_m m_a_3
  have k_a_5 : ug6.2.1 (a 5) = 7 := by rw [hug6]; exact (psh_k m_a_5 na).trans k_a_5
  have m_a_5 : (a 5) ∈ ug6.1 := by rw [hug6]; exact psh_m m_a_5
  have m_a_10 : (a 10) ∈ ug6.1 := by rw [hug6]; exact psh_in
  have k_a_10 : ug6.2.1 (a 10) = 30 := by rw [hug6]; exact psh_kd
  obtain ⟨hPn, hDn, na⟩ := psh_at (i := 2) (a := (a 6)) rfl hPn hDn 7 (fun s => ([0, 0, 0, 0] : List Int32).getD s 0) (fun s => ([0, 0, 0, 0] : List Int64).getD s 0) (fun s => ([none, none, none, some (a 10)] : List (Option Nat)).getD s none) (by rw [cF7 psh_kd]; (try simp only [psh_I, psh_J, psh_R]) <;> rfl)
  have px7 := PX_psh (kd := 7) (I := (fun s => ([0, 0, 0, 0] : List Int32).getD s 0)) (J := (fun s => ([0, 0, 0, 0] : List Int64).getD s 0)) (R := (fun s => ([none, none, none, some (a 10)] : List (Option Nat)).getD s none)) (PX.rf (u := ug6)) na
  have ne_a_5_a_6 : (a 5) ≠ (a 6) := fun q => na (by rw [← q]; exact m_a_5)
  have hu := WT_psh (kd := 7) (I := (fun s => ([0, 0, 0, 0] : List Int32).getD s 0)) (J := (fun s => ([0, 0, 0, 0] : List Int64).getD s 0)) (R := (fun s => ([none, none, none, some (a 10)] : List (Option Nat)).getD s none)) hu na (fun s t h => by rcases tk7 h with ⟨rfl, rfl⟩; exact ⟨_, rfl, m_a_10, k_a_10⟩) (fun s t h => (tn7 h).elim) (fun h => absurd h (by decide)) (fun s => okz7 s)
  obtain ⟨ug7, hug7⟩ : ∃ z, z = psh ug6 (a 6) 7 (fun s => ([0, 0, 0, 0] : List Int32).getD s 0) (fun s => ([0, 0, 0, 0] : List Int64).getD s 0) (fun s => ([none, none, none, some (a 10)] : List (Option Nat)).getD s none) := ⟨_, rfl⟩
  rw [← hug7] at hPn hDn hu px7
  have hPn : va_P D vwCl ([(e0 k a), (e4 k a), (e7 k a), (e8 k a), (e11 k a), (e12 k a), (e13 k a), (e14 k a), (e15 k a), (e16 k a), (e17 k a), (e18 k a), (e19 k a), (e20 k a), (e21 k a), (e22 k a), (e23 k a), (e24 k a), (e25 k a), (e26 k a), (e27 k a), (e28 k a), (e29 k a), (e30 k a), (e31 k a), (e32 k a), (e33 k a), (e34 k a), (e35 k a), (e36 k a), (e37 k a), (e38 k a), (e39 k a), (e40 k a), (e41 k a), (e42 k a), (e43 k a), (e44 k a), (e45 k a), (e46 k a), (e47 k a), (m0 k bb), (m1 k bb), (m2 k bb), (m3 k bb), (m4 k bb), (m5 k bb), (m6 k bb), (m7 k bb), (m8 k bb), (m9 k bb), (m10 k bb), (m11 k bb), (m12 k bb), (m13 k bb), (m14 k bb), (m15 k bb), (m16 k bb), (m17 k bb)] ++ PW k ug7) H := hPn
  have hDn : va_D A ([(e0 k a), (e4 k a), (e7 k a), (e8 k a), (e11 k a), (e12 k a), (e13 k a), (e14 k a), (e15 k a), (e16 k a), (e17 k a), (e18 k a), (e19 k a), (e20 k a), (e21 k a), (e22 k a), (e23 k a), (e24 k a), (e25 k a), (e26 k a), (e27 k a), (e28 k a), (e29 k a), (e30 k a), (e31 k a), (e32 k a), (e33 k a), (e34 k a), (e35 k a), (e36 k a), (e37 k a), (e38 k a), (e39 k a), (e40 k a), (e41 k a), (e42 k a), (e43 k a), (e44 k a), (e45 k a), (e46 k a), (e47 k a), (m0 k bb), (m1 k bb), (m2 k bb), (m3 k bb), (m4 k bb), (m5 k bb), (m6 k bb), (m7 k bb), (m8 k bb), (m9 k bb), (m10 k bb), (m11 k bb), (m12 k bb), (m13 k bb), (m14 k bb), (m15 k bb), (m16 k bb), (m17 k bb)] ++ PW k ug7) := hDn
  have k_a_1 : ug7.2.1 (a 1) = 9 := by rw [hug7]; exact (psh_k m_a_1 na).trans k_a_1
  have m_a_1 : (a 1) ∈ ug7.1 := by rw [hug7]; exact psh_m m_a_1
  have k_a_3 : ug7.2.1 (a 3) = 40 := by rw [hug7]; exact (psh_k m_a_3 na).trans k_a_3
  have m_a_3 : (a 3) ∈ ug7.1 := by rw [hug7]; exact psh_m m_a_3
  have k_a_5 : ug7.2.1 (a 5) = 7 := by rw [hug7]; exact (psh_k m_a_5 na).trans k_a_5
  have m_a_5 : (a 5) ∈ ug7.1 := by rw [hug7]; exact psh_m m_a_5
  have k_a_10 : ug7.2.1 (a 10) = 30 := by rw [hug7]; exact (psh_k m_a_10 na).trans k_a_10
  have m_a_10 : (a 10) ∈ ug7.1 := by rw [hug7]; exact psh_m m_a_10
  have m_a_6 : (a 6) ∈ ug7.1 := by rw [hug7]; exact psh_in
  have k_a_6 : ug7.2.1 (a 6) = 7 := by rw [hug7]; exact psh_kd
  have sm_a_6 := m_a_6
  have sk_a_6 := k_a_6
  have sI_a_6 : ug7.2.2.1 (a 6) = (fun s => ([0, 0, 0, 0] : List Int32).getD s 0) := by rw [hug7]; exact psh_I
  have sR_a_6 : ug7.2.2.2.2 (a 6) = (fun s => ([none, none, none, some (a 10)] : List (Option Nat)).getD s none) := by rw [hug7]; exact psh_R
  obtain ⟨hPn, hDn, na⟩ := psh_at (i := 4) (a := (a 11)) rfl hPn hDn 30 (fun _ => 0) (fun _ => 0) (fun _ => none) (by rw [cF30 psh_kd]; (try simp only [psh_I, psh_J, psh_R]) <;> rfl)
  have px8 := PX_psh (kd := 30) (I := (fun _ => 0)) (J := (fun _ => 0)) (R := (fun _ => none)) (PX.rf (u := ug7)) na
  have hu := WT_psh (kd := 30) (I := (fun _ => 0)) (J := (fun _ => 0)) (R := (fun _ => none)) hu na (fun s t h => (tk30 h).elim) (fun s t h => (tn30 h).elim) (fun h => absurd h (by decide)) (fun _ => trivial)
  obtain ⟨ug8, hug8⟩ : ∃ z, z = psh ug7 (a 11) 30 (fun _ => 0) (fun _ => 0) (fun _ => none) := ⟨_, rfl⟩
  rw [← hug8] at hPn hDn hu px8
  have hPn : va_P D vwCl ([(e0 k a), (e4 k a), (e7 k a), (e8 k a), (e12 k a), (e13 k a), (e14 k a), (e15 k a), (e16 k a), (e17 k a), (e18 k a), (e19 k a), (e20 k a), (e21 k a), (e22 k a), (e23 k a), (e24 k a), (e25 k a), (e26 k a), (e27 k a), (e28 k a), (e29 k a), (e30 k a), (e31 k a), (e32 k a), (e33 k a), (e34 k a), (e35 k a), (e36 k a), (e37 k a), (e38 k a), (e39 k a), (e40 k a), (e41 k a), (e42 k a), (e43 k a), (e44 k a), (e45 k a), (e46 k a), (e47 k a), (m0 k bb), (m1 k bb), (m2 k bb), (m3 k bb), (m4 k bb), (m5 k bb), (m6 k bb), (m7 k bb), (m8 k bb), (m9 k bb), (m10 k bb), (m11 k bb), (m12 k bb), (m13 k bb), (m14 k bb), (m15 k bb), (m16 k bb), (m17 k bb)] ++ PW k ug8) H := hPn
  have hDn : va_D A ([(e0 k a), (e4 k a), (e7 k a), (e8 k a), (e12 k a), (e13 k a), (e14 k a), (e15 k a), (e16 k a), (e17 k a), (e18 k a), (e19 k a), (e20 k a), (e21 k a), (e22 k a), (e23 k a), (e24 k a), (e25 k a), (e26 k a), (e27 k a), (e28 k a), (e29 k a), (e30 k a), (e31 k a), (e32 k a), (e33 k a), (e34 k a), (e35 k a), (e36 k a), (e37 k a), (e38 k a), (e39 k a), (e40 k a), (e41 k a), (e42 k a), (e43 k a), (e44 k a), (e45 k a), (e46 k a), (e47 k a), (m0 k bb), (m1 k bb), (m2 k bb), (m3 k bb), (m4 k bb), (m5 k bb), (m6 k bb), (m7 k bb), (m8 k bb), (m9 k bb), (m10 k bb), (m11 k bb), (m12 k bb), (m13 k bb), (m14 k bb), (m15 k bb), (m16 k bb), (m17 k bb)] ++ PW k ug8) := hDn
  have k_a_1 : ug8.2.1 (a 1) = 9 := by rw [hug8]; exact (psh_k m_a_1 na).trans k_a_1
  have m_a_1 : (a 1) ∈ ug8.1 := by rw [hug8]; exact psh_m m_a_1
  have k_a_3 : ug8.2.1 (a 3) = 40 := by rw [hug8]; exact (psh_k m_a_3 na).trans k_a_3
  have m_a_3 : (a 3) ∈ ug8.1 := by rw [hug8]; exact psh_m m_a_3
  have k_a_5 : ug8.2.1 (a 5) = 7 := by rw [hug8]; exact (psh_k m_a_5 na).trans k_a_5
  have m_a_5 : (a 5) ∈ ug8.1 := by rw [hug8]; exact psh_m m_a_5
  have k_a_6 : ug8.2.1 (a 6) = 7 := by rw [hug8]; exact (psh_k m_a_6 na).trans k_a_6
  have m_a_6 : (a 6) ∈ ug8.1 := by rw [hug8]; exact psh_m m_a_6
  have m_a_11 : (a 11) ∈ ug8.1 := by rw [hug8]; exact psh_in
  have k_a_11 : ug8.2.1 (a 11) = 30 := by rw [hug8]; exact psh_kd
  obtain ⟨hPn, hDn, na⟩ := psh_at (i := 2) (a := (a 7)) rfl hPn hDn 7 (fun s => ([0, 0, 0, 0] : List Int32).getD s 0) (fun s => ([0, 0, 0, 0] : List Int64).getD s 0) (fun s => ([none, none, none, some (a 11)] : List (Option Nat)).getD s none) (by rw [cF7 psh_kd]; (try simp only [psh_I, psh_J, psh_R]) <;> rfl)
  have px9 := PX_psh (kd := 7) (I := (fun s => ([0, 0, 0, 0] : List Int32).getD s 0)) (J := (fun s => ([0, 0, 0, 0] : List Int64).getD s 0)) (R := (fun s => ([none, none, none, some (a 11)] : List (Option Nat)).getD s none)) (PX.rf (u := ug8)) na
  have ne_a_5_a_7 : (a 5) ≠ (a 7) := fun q => na (by rw [← q]; exact m_a_5)
  have ne_a_6_a_7 : (a 6) ≠ (a 7) := fun q => na (by rw [← q]; exact m_a_6)
  have hu := WT_psh (kd := 7) (I := (fun s => ([0, 0, 0, 0] : List Int32).getD s 0)) (J := (fun s => ([0, 0, 0, 0] : List Int64).getD s 0)) (R := (fun s => ([none, none, none, some (a 11)] : List (Option Nat)).getD s none)) hu na (fun s t h => by rcases tk7 h with ⟨rfl, rfl⟩; exact ⟨_, rfl, m_a_11, k_a_11⟩) (fun s t h => (tn7 h).elim) (fun h => absurd h (by decide)) (fun s => okz7 s)
  obtain ⟨ug9, hug9⟩ : ∃ z, z = psh ug8 (a 7) 7 (fun s => ([0, 0, 0, 0] : List Int32).getD s 0) (fun s => ([0, 0, 0, 0] : List Int64).getD s 0) (fun s => ([none, none, none, some (a 11)] : List (Option Nat)).getD s none) := ⟨_, rfl⟩
  rw [← hug9] at hPn hDn hu px9
  have hPn : va_P D vwCl ([(e0 k a), (e4 k a), (e8 k a), (e12 k a), (e13 k a), (e14 k a), (e15 k a), (e16 k a), (e17 k a), (e18 k a), (e19 k a), (e20 k a), (e21 k a), (e22 k a), (e23 k a), (e24 k a), (e25 k a), (e26 k a), (e27 k a), (e28 k a), (e29 k a), (e30 k a), (e31 k a), (e32 k a), (e33 k a), (e34 k a), (e35 k a), (e36 k a), (e37 k a), (e38 k a), (e39 k a), (e40 k a), (e41 k a), (e42 k a), (e43 k a), (e44 k a), (e45 k a), (e46 k a), (e47 k a), (m0 k bb), (m1 k bb), (m2 k bb), (m3 k bb), (m4 k bb), (m5 k bb), (m6 k bb), (m7 k bb), (m8 k bb), (m9 k bb), (m10 k bb), (m11 k bb), (m12 k bb), (m13 k bb), (m14 k bb), (m15 k bb), (m16 k bb), (m17 k bb)] ++ PW k ug9) H := hPn
  have hDn : va_D A ([(e0 k a), (e4 k a), (e8 k a), (e12 k a), (e13 k a), (e14 k a), (e15 k a), (e16 k a), (e17 k a), (e18 k a), (e19 k a), (e20 k a), (e21 k a), (e22 k a), (e23 k a), (e24 k a), (e25 k a), (e26 k a), (e27 k a), (e28 k a), (e29 k a), (e30 k a), (e31 k a), (e32 k a), (e33 k a), (e34 k a), (e35 k a), (e36 k a), (e37 k a), (e38 k a), (e39 k a), (e40 k a), (e41 k a), (e42 k a), (e43 k a), (e44 k a), (e45 k a), (e46 k a), (e47 k a), (m0 k bb), (m1 k bb), (m2 k bb), (m3 k bb), (m4 k bb), (m5 k bb), (m6 k bb), (m7 k bb), (m8 k bb), (m9 k bb), (m10 k bb), (m11 k bb), (m12 k bb), (m13 k bb), (m14 k bb), (m15 k bb), (m16 k bb), (m17 k bb)] ++ PW k ug9) := hDn
  have k_a_1 : ug9.2.1 (a 1) = 9 := by rw [hug9]; exact (psh_k m_a_1 na).trans k_a_1
  have m_a_1 : (a 1) ∈ ug9.1 := by rw [hug9]; exact psh_m m_a_1
  have k_a_3 : ug9.2.1 (a 3) = 40 := by rw [hug9]; exact (psh_k m_a_3 na).trans k_a_3
  have m_a_3 : (a 3) ∈ ug9.1 := by rw [hug9]; exact psh_m m_a_3
  have k_a_5 : ug9.2.1 (a 5) = 7 := by rw [hug9]; exact (psh_k m_a_5 na).trans k_a_5
  have m_a_5 : (a 5) ∈ ug9.1 := by rw [hug9]; exact psh_m m_a_5
  have k_a_6 : ug9.2.1 (a 6) = 7 := by rw [hug9]; exact (psh_k m_a_6 na).trans k_a_6
  have m_a_6 : (a 6) ∈ ug9.1 := by rw [hug9]; exact psh_m m_a_6
  have k_a_11 : ug9.2.1 (a 11) = 30 := by rw [hug9]; exact (psh_k m_a_11 na).trans k_a_11
  have m_a_11 : (a 11) ∈ ug9.1 := by rw [hug9]; exact psh_m m_a_11
  have m_a_7 : (a 7) ∈ ug9.1 := by rw [hug9]; exact psh_in
  have k_a_7 : ug9.2.1 (a 7) = 7 := by rw [hug9]; exact psh_kd
  have sm_a_7 := m_a_7
  have sk_a_7 := k_a_7
  have sI_a_7 : ug9.2.2.1 (a 7) = (fun s => ([0, 0, 0, 0] : List Int32).getD s 0) := by rw [hug9]; exact psh_I
  have sR_a_7 : ug9.2.2.2.2 (a 7) = (fun s => ([none, none, none, some (a 11)] : List (Option Nat)).getD s none) := by rw [hug9]; exact psh_R
  obtain ⟨hPn, hDn, na⟩ := psh_at (i := 3) (a := (a 12)) rfl hPn hDn 30 (fun _ => 0) (fun _ => 0) (fun _ => none) (by rw [cF30 psh_kd]; (try simp only [psh_I, psh_J, psh_R]) <;> rfl)
  have px10 := PX_psh (kd := 30) (I := (fun _ => 0)) (J := (fun _ => 0)) (R := (fun _ => none)) (PX.rf (u := ug9)) na
  have hu := WT_psh (kd := 30) (I := (fun _ => 0)) (J := (fun _ => 0)) (R := (fun _ => none)) hu na (fun s t h => (tk30 h).elim) (fun s t h => (tn30 h).elim) (fun h => absurd h (by decide)) (fun _ => trivial)
  obtain ⟨ug10, hug10⟩ : ∃ z, z = psh ug9 (a 12) 30 (fun _ => 0) (fun _ => 0) (fun _ => none) := ⟨_, rfl⟩
  rw [← hug10] at hPn hDn hu px10
  have hPn : va_P D vwCl ([(e0 k a), (e4 k a), (e8 k a), (e13 k a), (e14 k a), (e15 k a), (e16 k a), (e17 k a), (e18 k a), (e19 k a), (e20 k a), (e21 k a), (e22 k a), (e23 k a), (e24 k a), (e25 k a), (e26 k a), (e27 k a), (e28 k a), (e29 k a), (e30 k a), (e31 k a), (e32 k a), (e33 k a), (e34 k a), (e35 k a), (e36 k a), (e37 k a), (e38 k a), (e39 k a), (e40 k a), (e41 k a), (e42 k a), (e43 k a), (e44 k a), (e45 k a), (e46 k a), (e47 k a), (m0 k bb), (m1 k bb), (m2 k bb), (m3 k bb), (m4 k bb), (m5 k bb), (m6 k bb), (m7 k bb), (m8 k bb), (m9 k bb), (m10 k bb), (m11 k bb), (m12 k bb), (m13 k bb), (m14 k bb), (m15 k bb), (m16 k bb), (m17 k bb)] ++ PW k ug10) H := hPn
  have hDn : va_D A ([(e0 k a), (e4 k a), (e8 k a), (e13 k a), (e14 k a), (e15 k a), (e16 k a), (e17 k a), (e18 k a), (e19 k a), (e20 k a), (e21 k a), (e22 k a), (e23 k a), (e24 k a), (e25 k a), (e26 k a), (e27 k a), (e28 k a), (e29 k a), (e30 k a), (e31 k a), (e32 k a), (e33 k a), (e34 k a), (e35 k a), (e36 k a), (e37 k a), (e38 k a), (e39 k a), (e40 k a), (e41 k a), (e42 k a), (e43 k a), (e44 k a), (e45 k a), (e46 k a), (e47 k a), (m0 k bb), (m1 k bb), (m2 k bb), (m3 k bb), (m4 k bb), (m5 k bb), (m6 k bb), (m7 k bb), (m8 k bb), (m9 k bb), (m10 k bb), (m11 k bb), (m12 k bb), (m13 k bb), (m14 k bb), (m15 k bb), (m16 k bb), (m17 k bb)] ++ PW k ug10) := hDn
  have k_a_1 : ug10.2.1 (a 1) = 9 := by rw [hug10]; exact (psh_k m_a_1 na).trans k_a_1
  have m_a_1 : (a 1) ∈ ug10.1 := by rw [hug10]; exact psh_m m_a_1
  have k_a_3 : ug10.2.1 (a 3) = 40 := by rw [hug10]; exact (psh_k m_a_3 na).trans k_a_3
  have m_a_3 : (a 3) ∈ ug10.1 := by rw [hug10]; exact psh_m m_a_3
  have k_a_5 : ug10.2.1 (a 5) = 7 := by rw [hug10]; exact (psh_k m_a_5 na).trans k_a_5
  have m_a_5 : (a 5) ∈ ug10.1 := by rw [hug10]; exact psh_m m_a_5
  have k_a_6 : ug10.2.1 (a 6) = 7 := by rw [hug10]; exact (psh_k m_a_6 na).trans k_a_6
  have m_a_6 : (a 6) ∈ ug10.1 := by rw [hug10]; exact psh_m m_a_6
  have k_a_7 : ug10.2.1 (a 7) = 7 := by rw [hug10]; exact (psh_k m_a_7 na).trans k_a_7
  have m_a_7 : (a 7) ∈ ug10.1 := by rw [hug10]; exact psh_m m_a_7
  have m_a_12 : (a 12) ∈ ug10.1 := by rw [hug10]; exact psh_in
  have k_a_12 : ug10.2.1 (a 12) = 30 := by rw [hug10]; exact psh_kd
  obtain ⟨hPn, hDn, na⟩ := psh_at (i := 2) (a := (a 8)) rfl hPn hDn 7 (fun s => ([0, 0, 0, 0] : List Int32).getD s 0) (fun s => ([0, 0, 0, 0] : List Int64).getD s 0) (fun s => ([none, none, none, some (a 12)] : List (Option Nat)).getD s none) (by rw [cF7 psh_kd]; (try simp only [psh_I, psh_J, psh_R]) <;> rfl)
  have px11 := PX_psh (kd := 7) (I := (fun s => ([0, 0, 0, 0] : List Int32).getD s 0)) (J := (fun s => ([0, 0, 0, 0] : List Int64).getD s 0)) (R := (fun s => ([none, none, none, some (a 12)] : List (Option Nat)).getD s none)) (PX.rf (u := ug10)) na
  have ne_a_5_a_8 : (a 5) ≠ (a 8) := fun q => na (by rw [← q]; exact m_a_5)
  have ne_a_6_a_8 : (a 6) ≠ (a 8) := fun q => na (by rw [← q]; exact m_a_6)
  have ne_a_7_a_8 : (a 7) ≠ (a 8) := fun q => na (by rw [← q]; exact m_a_7)
  have hu := WT_psh (kd := 7) (I := (fun s => ([0, 0, 0, 0] : List Int32).getD s 0)) (J := (fun s => ([0, 0, 0, 0] : List Int64).getD s 0)) (R := (fun s => ([none, none, none, some (a 12)] : List (Option Nat)).getD s none)) hu na (fun s t h => by rcases tk7 h with ⟨rfl, rfl⟩; exact ⟨_, rfl, m_a_12, k_a_12⟩) (fun s t h => (tn7 h).elim) (fun h => absurd h (by decide)) (fun s => okz7 s)
  obtain ⟨ug11, hug11⟩ : ∃ z, z = psh ug10 (a 8) 7 (fun s => ([0, 0, 0, 0] : List Int32).getD s 0) (fun s => ([0, 0, 0, 0] : List Int64).getD s 0) (fun s => ([none, none, none, some (a 12)] : List (Option Nat)).getD s none) := ⟨_, rfl⟩
  rw [← hug11] at hPn hDn hu px11
  have hPn : va_P D vwCl ([(e0 k a), (e4 k a), (e13 k a), (e14 k a), (e15 k a), (e16 k a), (e17 k a), (e18 k a), (e19 k a), (e20 k a), (e21 k a), (e22 k a), (e23 k a), (e24 k a), (e25 k a), (e26 k a), (e27 k a), (e28 k a), (e29 k a), (e30 k a), (e31 k a), (e32 k a), (e33 k a), (e34 k a), (e35 k a), (e36 k a), (e37 k a), (e38 k a), (e39 k a), (e40 k a), (e41 k a), (e42 k a), (e43 k a), (e44 k a), (e45 k a), (e46 k a), (e47 k a), (m0 k bb), (m1 k bb), (m2 k bb), (m3 k bb), (m4 k bb), (m5 k bb), (m6 k bb), (m7 k bb), (m8 k bb), (m9 k bb), (m10 k bb), (m11 k bb), (m12 k bb), (m13 k bb), (m14 k bb), (m15 k bb), (m16 k bb), (m17 k bb)] ++ PW k ug11) H := hPn
  have hDn : va_D A ([(e0 k a), (e4 k a), (e13 k a), (e14 k a), (e15 k a), (e16 k a), (e17 k a), (e18 k a), (e19 k a), (e20 k a), (e21 k a), (e22 k a), (e23 k a), (e24 k a), (e25 k a), (e26 k a), (e27 k a), (e28 k a), (e29 k a), (e30 k a), (e31 k a), (e32 k a), (e33 k a), (e34 k a), (e35 k a), (e36 k a), (e37 k a), (e38 k a), (e39 k a), (e40 k a), (e41 k a), (e42 k a), (e43 k a), (e44 k a), (e45 k a), (e46 k a), (e47 k a), (m0 k bb), (m1 k bb), (m2 k bb), (m3 k bb), (m4 k bb), (m5 k bb), (m6 k bb), (m7 k bb), (m8 k bb), (m9 k bb), (m10 k bb), (m11 k bb), (m12 k bb), (m13 k bb), (m14 k bb), (m15 k bb), (m16 k bb), (m17 k bb)] ++ PW k ug11) := hDn
  have k_a_1 : ug11.2.1 (a 1) = 9 := by rw [hug11]; exact (psh_k m_a_1 na).trans k_a_1
  have m_a_1 : (a 1) ∈ ug11.1 := by rw [hug11]; exact psh_m m_a_1
  have k_a_3 : ug11.2.1 (a 3) = 40 := by rw [hug11]; exact (psh_k m_a_3 na).trans k_a_3
  have m_a_3 : (a 3) ∈ ug11.1 := by rw [hug11]; exact psh_m m_a_3
  have k_a_5 : ug11.2.1 (a 5) = 7 := by rw [hug11]; exact (psh_k m_a_5 na).trans k_a_5
  have m_a_5 : (a 5) ∈ ug11.1 := by rw [hug11]; exact psh_m m_a_5
  have k_a_6 : ug11.2.1 (a 6) = 7 := by rw [hug11]; exact (psh_k m_a_6 na).trans k_a_6
  have m_a_6 : (a 6) ∈ ug11.1 := by rw [hug11]; exact psh_m m_a_6
  have k_a_7 : ug11.2.1 (a 7) = 7 := by rw [hug11]; exact (psh_k m_a_7 na).trans k_a_7
  have m_a_7 : (a 7) ∈ ug11.1 := by rw [hug11]; exact psh_m m_a_7
  have k_a_12 : ug11.2.1 (a 12) = 30 := by rw [hug11]; exact (psh_k m_a_12 na).trans k_a_12
  have m_a_12 : (a 12) ∈ ug11.1 := by rw [hug11]; exact psh_m m_a_12
  have m_a_8 : (a 8) ∈ ug11.1 := by rw [hug11]; exact psh_in
  have k_a_8 : ug11.2.1 (a 8) = 7 := by rw [hug11]; exact psh_kd
  have sm_a_8 := m_a_8
  have sk_a_8 := k_a_8
  have sI_a_8 : ug11.2.2.1 (a 8) = (fun s => ([0, 0, 0, 0] : List Int32).getD s 0) := by rw [hug11]; exact psh_I
  have sR_a_8 : ug11.2.2.2.2 (a 8) = (fun s => ([none, none, none, some (a 12)] : List (Option Nat)).getD s none) := by rw [hug11]; exact psh_R
  obtain ⟨hPn, hDn, na⟩ := psh_at (i := 1) (a := (a 4)) rfl hPn hDn 41 (fun _ => 0) (fun _ => 0) ((sl0 a)) (by rw [cF41 psh_kd]; (try simp only [psh_I, psh_J, psh_R]) <;> rfl)
  have px12 := PX_psh (kd := 41) (I := (fun _ => 0)) (J := (fun _ => 0)) (R := ((sl0 a))) (PX.rf (u := ug11)) na
  have hu := WT_psh (kd := 41) (I := (fun _ => 0)) (J := (fun _ => 0)) (R := ((sl0 a))) hu na (fun s t h => (tk41 h).elim) (fun s t h => (tn41 h).elim) (fun _ s hs => by rcases (show s = 0 ∨ s = 1 ∨ s = 2 ∨ s = 3 by omega) with rfl | rfl | rfl | rfl; exact ⟨_, rfl, m_a_5, k_a_5⟩; exact ⟨_, rfl, m_a_6, k_a_6⟩; exact ⟨_, rfl, m_a_7, k_a_7⟩; exact ⟨_, rfl, m_a_8, k_a_8⟩) (fun _ => trivial)
  obtain ⟨ug12, hug12⟩ : ∃ z, z = psh ug11 (a 4) 41 (fun _ => 0) (fun _ => 0) ((sl0 a)) := ⟨_, rfl⟩
  rw [← hug12] at hPn hDn hu px12
  have hPn : va_P D vwCl ([(e0 k a), (e13 k a), (e14 k a), (e15 k a), (e16 k a), (e17 k a), (e18 k a), (e19 k a), (e20 k a), (e21 k a), (e22 k a), (e23 k a), (e24 k a), (e25 k a), (e26 k a), (e27 k a), (e28 k a), (e29 k a), (e30 k a), (e31 k a), (e32 k a), (e33 k a), (e34 k a), (e35 k a), (e36 k a), (e37 k a), (e38 k a), (e39 k a), (e40 k a), (e41 k a), (e42 k a), (e43 k a), (e44 k a), (e45 k a), (e46 k a), (e47 k a), (m0 k bb), (m1 k bb), (m2 k bb), (m3 k bb), (m4 k bb), (m5 k bb), (m6 k bb), (m7 k bb), (m8 k bb), (m9 k bb), (m10 k bb), (m11 k bb), (m12 k bb), (m13 k bb), (m14 k bb), (m15 k bb), (m16 k bb), (m17 k bb)] ++ PW k ug12) H := hPn
  have hDn : va_D A ([(e0 k a), (e13 k a), (e14 k a), (e15 k a), (e16 k a), (e17 k a), (e18 k a), (e19 k a), (e20 k a), (e21 k a), (e22 k a), (e23 k a), (e24 k a), (e25 k a), (e26 k a), (e27 k a), (e28 k a), (e29 k a), (e30 k a), (e31 k a), (e32 k a), (e33 k a), (e34 k a), (e35 k a), (e36 k a), (e37 k a), (e38 k a), (e39 k a), (e40 k a), (e41 k a), (e42 k a), (e43 k a), (e44 k a), (e45 k a), (e46 k a), (e47 k a), (m0 k bb), (m1 k bb), (m2 k bb), (m3 k bb), (m4 k bb), (m5 k bb), (m6 k bb), (m7 k bb), (m8 k bb), (m9 k bb), (m10 k bb), (m11 k bb), (m12 k bb), (m13 k bb), (m14 k bb), (m15 k bb), (m16 k bb), (m17 k bb)] ++ PW k ug12) := hDn
  have k_a_1 : ug12.2.1 (a 1) = 9 := by rw [hug12]; exact (psh_k m_a_1 na).trans k_a_1
  have m_a_1 : (a 1) ∈ ug12.1 := by rw [hug12]; exact psh_m m_a_1
  have k_a_3 : ug12.2.1 (a 3) = 40 := by rw [hug12]; exact (psh_k m_a_3 na).trans k_a_3
  have m_a_3 : (a 3) ∈ ug12.1 := by rw [hug12]; exact psh_m m_a_3
  have k_a_5 : ug12.2.1 (a 5) = 7 := by rw [hug12]; exact (psh_k m_a_5 na).trans k_a_5
  have m_a_5 : (a 5) ∈ ug12.1 := by rw [hug12]; exact psh_m m_a_5
  have k_a_6 : ug12.2.1 (a 6) = 7 := by rw [hug12]; exact (psh_k m_a_6 na).trans k_a_6
  have m_a_6 : (a 6) ∈ ug12.1 := by rw [hug12]; exact psh_m m_a_6
  have k_a_7 : ug12.2.1 (a 7) = 7 := by rw [hug12]; exact (psh_k m_a_7 na).trans k_a_7
  have m_a_7 : (a 7) ∈ ug12.1 := by rw [hug12]; exact psh_m m_a_7
  have k_a_8 : ug12.2.1 (a 8) = 7 := by rw [hug12]; exact (psh_k m_a_8 na).trans k_a_8
  have m_a_8 : (a 8) ∈ ug12.1 := by rw [hug12]; exact psh_m m_a_8
  have m_a_4 : (a 4) ∈ ug12.1 := by rw [hug12]; exact psh_in
  have k_a_4 : ug12.2.1 (a 4) = 41 := by rw [hug12]; exact psh_kd
  have sm_a_4 := m_a_4
  have sk_a_4 := k_a_4
  have sI_a_4 : ug12.2.2.1 (a 4) = (fun _ => 0) := by rw [hug12]; exact psh_I
  have sR_a_4 : ug12.2.2.2.2 (a 4) = ((sl0 a)) := by rw [hug12]; exact psh_R
  obtain ⟨hPn, hDn, na⟩ := psh_at (i := 1) (a := (a 13)) rfl hPn hDn 8 (fun s => ([0, (-1), 0, 0, 1, 0] : List Int32).getD s 0) (fun s => ([0, 0, 0, 0, 0, 0] : List Int64).getD s 0) (fun s => ([none, none, none, none, none, none] : List (Option Nat)).getD s none) (by rw [cF8 psh_kd]; (try simp only [psh_I, psh_J, psh_R]) <;> rfl)
  have px13 := PX_psh (kd := 8) (I := (fun s => ([0, (-1), 0, 0, 1, 0] : List Int32).getD s 0)) (J := (fun s => ([0, 0, 0, 0, 0, 0] : List Int64).getD s 0)) (R := (fun s => ([none, none, none, none, none, none] : List (Option Nat)).getD s none)) (PX.rf (u := ug12)) na
  have hu := WT_psh (kd := 8) (I := (fun s => ([0, (-1), 0, 0, 1, 0] : List Int32).getD s 0)) (J := (fun s => ([0, 0, 0, 0, 0, 0] : List Int64).getD s 0)) (R := (fun s => ([none, none, none, none, none, none] : List (Option Nat)).getD s none)) hu na (fun s t h => (tk8 h).elim) (fun s t h => (tn8 h).elim) (fun h => absurd h (by decide)) (fun _ => trivial)
  obtain ⟨ug13, hug13⟩ : ∃ z, z = psh ug12 (a 13) 8 (fun s => ([0, (-1), 0, 0, 1, 0] : List Int32).getD s 0) (fun s => ([0, 0, 0, 0, 0, 0] : List Int64).getD s 0) (fun s => ([none, none, none, none, none, none] : List (Option Nat)).getD s none) := ⟨_, rfl⟩
  rw [← hug13] at hPn hDn hu px13
  have hPn : va_P D vwCl ([(e0 k a), (e14 k a), (e15 k a), (e16 k a), (e17 k a), (e18 k a), (e19 k a), (e20 k a), (e21 k a), (e22 k a), (e23 k a), (e24 k a), (e25 k a), (e26 k a), (e27 k a), (e28 k a), (e29 k a), (e30 k a), (e31 k a), (e32 k a), (e33 k a), (e34 k a), (e35 k a), (e36 k a), (e37 k a), (e38 k a), (e39 k a), (e40 k a), (e41 k a), (e42 k a), (e43 k a), (e44 k a), (e45 k a), (e46 k a), (e47 k a), (m0 k bb), (m1 k bb), (m2 k bb), (m3 k bb), (m4 k bb), (m5 k bb), (m6 k bb), (m7 k bb), (m8 k bb), (m9 k bb), (m10 k bb), (m11 k bb), (m12 k bb), (m13 k bb), (m14 k bb), (m15 k bb), (m16 k bb), (m17 k bb)] ++ PW k ug13) H := hPn
  have hDn : va_D A ([(e0 k a), (e14 k a), (e15 k a), (e16 k a), (e17 k a), (e18 k a), (e19 k a), (e20 k a), (e21 k a), (e22 k a), (e23 k a), (e24 k a), (e25 k a), (e26 k a), (e27 k a), (e28 k a), (e29 k a), (e30 k a), (e31 k a), (e32 k a), (e33 k a), (e34 k a), (e35 k a), (e36 k a), (e37 k a), (e38 k a), (e39 k a), (e40 k a), (e41 k a), (e42 k a), (e43 k a), (e44 k a), (e45 k a), (e46 k a), (e47 k a), (m0 k bb), (m1 k bb), (m2 k bb), (m3 k bb), (m4 k bb), (m5 k bb), (m6 k bb), (m7 k bb), (m8 k bb), (m9 k bb), (m10 k bb), (m11 k bb), (m12 k bb), (m13 k bb), (m14 k bb), (m15 k bb), (m16 k bb), (m17 k bb)] ++ PW k ug13) := hDn
  have k_a_1 : ug13.2.1 (a 1) = 9 := by rw [hug13]; exact (psh_k m_a_1 na).trans k_a_1
  have m_a_1 : (a 1) ∈ ug13.1 := by rw [hug13]; exact psh_m m_a_1
  have k_a_3 : ug13.2.1 (a 3) = 40 := by rw [hug13]; exact (psh_k m_a_3 na).trans k_a_3
  have m_a_3 : (a 3) ∈ ug13.1 := by rw [hug13]; exact psh_m m_a_3
  have k_a_4 : ug13.2.1 (a 4) = 41 := by rw [hug13]; exact (psh_k m_a_4 na).trans k_a_4
  have m_a_4 : (a 4) ∈ ug13.1 := by rw [hug13]; exact psh_m m_a_4
  have m_a_13 : (a 13) ∈ ug13.1 := by rw [hug13]; exact psh_in
  have k_a_13 : ug13.2.1 (a 13) = 8 := by rw [hug13]; exact psh_kd
  obtain ⟨hPn, hDn, na⟩ := psh_at (i := 2) (a := (a 15)) rfl hPn hDn 21 (fun _ => 0) (fun _ => 0) (fun _ => none) (by rw [cF21 psh_kd]; (try simp only [psh_I, psh_J, psh_R]) <;> rfl)
  have px14 := PX_psh (kd := 21) (I := (fun _ => 0)) (J := (fun _ => 0)) (R := (fun _ => none)) (PX.rf (u := ug13)) na
  have hu := WT_psh (kd := 21) (I := (fun _ => 0)) (J := (fun _ => 0)) (R := (fun _ => none)) hu na (fun s t h => (tk21 h).elim) (fun s t h => (tn21 h).elim) (fun h => absurd h (by decide)) (fun _ => trivial)
  obtain ⟨ug14, hug14⟩ : ∃ z, z = psh ug13 (a 15) 21 (fun _ => 0) (fun _ => 0) (fun _ => none) := ⟨_, rfl⟩
  rw [← hug14] at hPn hDn hu px14
  have hPn : va_P D vwCl ([(e0 k a), (e14 k a), (e16 k a), (e17 k a), (e18 k a), (e19 k a), (e20 k a), (e21 k a), (e22 k a), (e23 k a), (e24 k a), (e25 k a), (e26 k a), (e27 k a), (e28 k a), (e29 k a), (e30 k a), (e31 k a), (e32 k a), (e33 k a), (e34 k a), (e35 k a), (e36 k a), (e37 k a), (e38 k a), (e39 k a), (e40 k a), (e41 k a), (e42 k a), (e43 k a), (e44 k a), (e45 k a), (e46 k a), (e47 k a), (m0 k bb), (m1 k bb), (m2 k bb), (m3 k bb), (m4 k bb), (m5 k bb), (m6 k bb), (m7 k bb), (m8 k bb), (m9 k bb), (m10 k bb), (m11 k bb), (m12 k bb), (m13 k bb), (m14 k bb), (m15 k bb), (m16 k bb), (m17 k bb)] ++ PW k ug14) H := hPn
  have hDn : va_D A ([(e0 k a), (e14 k a), (e16 k a), (e17 k a), (e18 k a), (e19 k a), (e20 k a), (e21 k a), (e22 k a), (e23 k a), (e24 k a), (e25 k a), (e26 k a), (e27 k a), (e28 k a), (e29 k a), (e30 k a), (e31 k a), (e32 k a), (e33 k a), (e34 k a), (e35 k a), (e36 k a), (e37 k a), (e38 k a), (e39 k a), (e40 k a), (e41 k a), (e42 k a), (e43 k a), (e44 k a), (e45 k a), (e46 k a), (e47 k a), (m0 k bb), (m1 k bb), (m2 k bb), (m3 k bb), (m4 k bb), (m5 k bb), (m6 k bb), (m7 k bb), (m8 k bb), (m9 k bb), (m10 k bb), (m11 k bb), (m12 k bb), (m13 k bb), (m14 k bb), (m15 k bb), (m16 k bb), (m17 k bb)] ++ PW k ug14) := hDn
  have k_a_1 : ug14.2.1 (a 1) = 9 := by rw [hug14]; exact (psh_k m_a_1 na).trans k_a_1
  have m_a_1 : (a 1) ∈ ug14.1 := by rw [hug14]; exact psh_m m_a_1
  have k_a_3 : ug14.2.1 (a 3) = 40 := by rw [hug14]; exact (psh_k m_a_3 na).trans k_a_3
  have m_a_3 : (a 3) ∈ ug14.1 := by rw [hug14]; exact psh_m m_a_3
  have k_a_4 : ug14.2.1 (a 4) = 41 := by rw [hug14]; exact (psh_k m_a_4 na).trans k_a_4
  have m_a_4 : (a 4) ∈ ug14.1 := by rw [hug14]; exact psh_m m_a_4
  have k_a_13 : ug14.2.1 (a 13) = 8 := by rw [hug14]; exact (psh_k m_a_13 na).trans k_a_13
  have m_a_13 : (a 13) ∈ ug14.1 := by rw [hug14]; exact psh_m m_a_13
  have m_a_15 : (a 15) ∈ ug14.1 := by rw [hug14]; exact psh_in
  have k_a_15 : ug14.2.1 (a 15) = 21 := by rw [hug14]; exact psh_kd
  obtain ⟨hPn, hDn, na⟩ := psh_at (i := 2) (a := (a 16)) rfl hPn hDn 21 (fun _ => 0) (fun _ => 0) (fun _ => none) (by rw [cF21 psh_kd]; (try simp only [psh_I, psh_J, psh_R]) <;> rfl)
  have px15 := PX_psh (kd := 21) (I := (fun _ => 0)) (J := (fun _ => 0)) (R := (fun _ => none)) (PX.rf (u := ug14)) na
  have hu := WT_psh (kd := 21) (I := (fun _ => 0)) (J := (fun _ => 0)) (R := (fun _ => none)) hu na (fun s t h => (tk21 h).elim) (fun s t h => (tn21 h).elim) (fun h => absurd h (by decide)) (fun _ => trivial)
  obtain ⟨ug15, hug15⟩ : ∃ z, z = psh ug14 (a 16) 21 (fun _ => 0) (fun _ => 0) (fun _ => none) := ⟨_, rfl⟩
  rw [← hug15] at hPn hDn hu px15
  have hPn : va_P D vwCl ([(e0 k a), (e14 k a), (e17 k a), (e18 k a), (e19 k a), (e20 k a), (e21 k a), (e22 k a), (e23 k a), (e24 k a), (e25 k a), (e26 k a), (e27 k a), (e28 k a), (e29 k a), (e30 k a), (e31 k a), (e32 k a), (e33 k a), (e34 k a), (e35 k a), (e36 k a), (e37 k a), (e38 k a), (e39 k a), (e40 k a), (e41 k a), (e42 k a), (e43 k a), (e44 k a), (e45 k a), (e46 k a), (e47 k a), (m0 k bb), (m1 k bb), (m2 k bb), (m3 k bb), (m4 k bb), (m5 k bb), (m6 k bb), (m7 k bb), (m8 k bb), (m9 k bb), (m10 k bb), (m11 k bb), (m12 k bb), (m13 k bb), (m14 k bb), (m15 k bb), (m16 k bb), (m17 k bb)] ++ PW k ug15) H := hPn
  have hDn : va_D A ([(e0 k a), (e14 k a), (e17 k a), (e18 k a), (e19 k a), (e20 k a), (e21 k a), (e22 k a), (e23 k a), (e24 k a), (e25 k a), (e26 k a), (e27 k a), (e28 k a), (e29 k a), (e30 k a), (e31 k a), (e32 k a), (e33 k a), (e34 k a), (e35 k a), (e36 k a), (e37 k a), (e38 k a), (e39 k a), (e40 k a), (e41 k a), (e42 k a), (e43 k a), (e44 k a), (e45 k a), (e46 k a), (e47 k a), (m0 k bb), (m1 k bb), (m2 k bb), (m3 k bb), (m4 k bb), (m5 k bb), (m6 k bb), (m7 k bb), (m8 k bb), (m9 k bb), (m10 k bb), (m11 k bb), (m12 k bb), (m13 k bb), (m14 k bb), (m15 k bb), (m16 k bb), (m17 k bb)] ++ PW k ug15) := hDn
  have k_a_1 : ug15.2.1 (a 1) = 9 := by rw [hug15]; exact (psh_k m_a_1 na).trans k_a_1
  have m_a_1 : (a 1) ∈ ug15.1 := by rw [hug15]; exact psh_m m_a_1
  have k_a_3 : ug15.2.1 (a 3) = 40 := by rw [hug15]; exact (psh_k m_a_3 na).trans k_a_3
  have m_a_3 : (a 3) ∈ ug15.1 := by rw [hug15]; exact psh_m m_a_3
  have k_a_4 : ug15.2.1 (a 4) = 41 := by rw [hug15]; exact (psh_k m_a_4 na).trans k_a_4
  have m_a_4 : (a 4) ∈ ug15.1 := by rw [hug15]; exact psh_m m_a_4
  have k_a_13 : ug15.2.1 (a 13) = 8 := by rw [hug15]; exact (psh_k m_a_13 na).trans k_a_13
  have m_a_13 : (a 13) ∈ ug15.1 := by rw [hug15]; exact psh_m m_a_13
  have k_a_15 : ug15.2.1 (a 15) = 21 := by rw [hug15]; exact (psh_k m_a_15 na).trans k_a_15
  have m_a_15 : (a 15) ∈ ug15.1 := by rw [hug15]; exact psh_m m_a_15
  have m_a_16 : (a 16) ∈ ug15.1 := by rw [hug15]; exact psh_in
  have k_a_16 : ug15.2.1 (a 16) = 21 := by rw [hug15]; exact psh_kd
  obtain ⟨hPn, hDn, na⟩ := psh_at (i := 2) (a := (a 17)) rfl hPn hDn 21 (fun _ => 0) (fun _ => 0) (fun _ => none) (by rw [cF21 psh_kd]; (try simp only [psh_I, psh_J, psh_R]) <;> rfl)
  have px16 := PX_psh (kd := 21) (I := (fun _ => 0)) (J := (fun _ => 0)) (R := (fun _ => none)) (PX.rf (u := ug15)) na
  have hu := WT_psh (kd := 21) (I := (fun _ => 0)) (J := (fun _ => 0)) (R := (fun _ => none)) hu na (fun s t h => (tk21 h).elim) (fun s t h => (tn21 h).elim) (fun h => absurd h (by decide)) (fun _ => trivial)
  obtain ⟨ug16, hug16⟩ : ∃ z, z = psh ug15 (a 17) 21 (fun _ => 0) (fun _ => 0) (fun _ => none) := ⟨_, rfl⟩
  rw [← hug16] at hPn hDn hu px16
  have hPn : va_P D vwCl ([(e0 k a), (e14 k a), (e18 k a), (e19 k a), (e20 k a), (e21 k a), (e22 k a), (e23 k a), (e24 k a), (e25 k a), (e26 k a), (e27 k a), (e28 k a), (e29 k a), (e30 k a), (e31 k a), (e32 k a), (e33 k a), (e34 k a), (e35 k a), (e36 k a), (e37 k a), (e38 k a), (e39 k a), (e40 k a), (e41 k a), (e42 k a), (e43 k a), (e44 k a), (e45 k a), (e46 k a), (e47 k a), (m0 k bb), (m1 k bb), (m2 k bb), (m3 k bb), (m4 k bb), (m5 k bb), (m6 k bb), (m7 k bb), (m8 k bb), (m9 k bb), (m10 k bb), (m11 k bb), (m12 k bb), (m13 k bb), (m14 k bb), (m15 k bb), (m16 k bb), (m17 k bb)] ++ PW k ug16) H := hPn
  have hDn : va_D A ([(e0 k a), (e14 k a), (e18 k a), (e19 k a), (e20 k a), (e21 k a), (e22 k a), (e23 k a), (e24 k a), (e25 k a), (e26 k a), (e27 k a), (e28 k a), (e29 k a), (e30 k a), (e31 k a), (e32 k a), (e33 k a), (e34 k a), (e35 k a), (e36 k a), (e37 k a), (e38 k a), (e39 k a), (e40 k a), (e41 k a), (e42 k a), (e43 k a), (e44 k a), (e45 k a), (e46 k a), (e47 k a), (m0 k bb), (m1 k bb), (m2 k bb), (m3 k bb), (m4 k bb), (m5 k bb), (m6 k bb), (m7 k bb), (m8 k bb), (m9 k bb), (m10 k bb), (m11 k bb), (m12 k bb), (m13 k bb), (m14 k bb), (m15 k bb), (m16 k bb), (m17 k bb)] ++ PW k ug16) := hDn
  have k_a_1 : ug16.2.1 (a 1) = 9 := by rw [hug16]; exact (psh_k m_a_1 na).trans k_a_1
  have m_a_1 : (a 1) ∈ ug16.1 := by rw [hug16]; exact psh_m m_a_1
  have k_a_3 : ug16.2.1 (a 3) = 40 := by rw [hug16]; exact (psh_k m_a_3 na).trans k_a_3
  have m_a_3 : (a 3) ∈ ug16.1 := by rw [hug16]; exact psh_m m_a_3
  have k_a_4 : ug16.2.1 (a 4) = 41 := by rw [hug16]; exact (psh_k m_a_4 na).trans k_a_4
  have m_a_4 : (a 4) ∈ ug16.1 := by rw [hug16]; exact psh_m m_a_4
  have k_a_13 : ug16.2.1 (a 13) = 8 := by rw [hug16]; exact (psh_k m_a_13 na).trans k_a_13
  have m_a_13 : (a 13) ∈ ug16.1 := by rw [hug16]; exact psh_m m_a_13
  have k_a_15 : ug16.2.1 (a 15) = 21 := by rw [hug16]; exact (psh_k m_a_15 na).trans k_a_15
  have m_a_15 : (a 15) ∈ ug16.1 := by rw [hug16]; exact psh_m m_a_15
  have k_a_16 : ug16.2.1 (a 16) = 21 := by rw [hug16]; exact (psh_k m_a_16 na).trans k_a_16
  have m_a_16 : (a 16) ∈ ug16.1 := by rw [hug16]; exact psh_m m_a_16
  have m_a_17 : (a 17) ∈ ug16.1 := by rw [hug16]; exact psh_in
  have k_a_17 : ug16.2.1 (a 17) = 21 := by rw [hug16]; exact psh_kd
  obtain ⟨hPn, hDn, na⟩ := psh_at (i := 1) (a := (a 14)) rfl hPn hDn 1 (fun s => ([0, 0, 0, 0, 0] : List Int32).getD s 0) (fun s => ([0, 0, 0, 0, 0] : List Int64).getD s 0) (fun s => ([none, none, some (a 15), some (a 16), some (a 17)] : List (Option Nat)).getD s none) (by rw [cF1 psh_kd]; (try simp only [psh_I, psh_J, psh_R]) <;> rfl)
  have px17 := PX_psh (kd := 1) (I := (fun s => ([0, 0, 0, 0, 0] : List Int32).getD s 0)) (J := (fun s => ([0, 0, 0, 0, 0] : List Int64).getD s 0)) (R := (fun s => ([none, none, some (a 15), some (a 16), some (a 17)] : List (Option Nat)).getD s none)) (PX.rf (u := ug16)) na
  have hu := WT_psh (kd := 1) (I := (fun s => ([0, 0, 0, 0, 0] : List Int32).getD s 0)) (J := (fun s => ([0, 0, 0, 0, 0] : List Int64).getD s 0)) (R := (fun s => ([none, none, some (a 15), some (a 16), some (a 17)] : List (Option Nat)).getD s none)) hu na (fun s t h => by rcases tk1 h with ⟨rfl, rfl⟩ | ⟨rfl, rfl⟩ | ⟨rfl, rfl⟩; exact ⟨_, rfl, m_a_15, k_a_15⟩; exact ⟨_, rfl, m_a_16, k_a_16⟩; exact ⟨_, rfl, m_a_17, k_a_17⟩) (fun s t h => (tn1 h).elim) (fun h => absurd h (by decide)) (fun _ => trivial)
  obtain ⟨ug17, hug17⟩ : ∃ z, z = psh ug16 (a 14) 1 (fun s => ([0, 0, 0, 0, 0] : List Int32).getD s 0) (fun s => ([0, 0, 0, 0, 0] : List Int64).getD s 0) (fun s => ([none, none, some (a 15), some (a 16), some (a 17)] : List (Option Nat)).getD s none) := ⟨_, rfl⟩
  rw [← hug17] at hPn hDn hu px17
  have hPn : va_P D vwCl ([(e0 k a), (e18 k a), (e19 k a), (e20 k a), (e21 k a), (e22 k a), (e23 k a), (e24 k a), (e25 k a), (e26 k a), (e27 k a), (e28 k a), (e29 k a), (e30 k a), (e31 k a), (e32 k a), (e33 k a), (e34 k a), (e35 k a), (e36 k a), (e37 k a), (e38 k a), (e39 k a), (e40 k a), (e41 k a), (e42 k a), (e43 k a), (e44 k a), (e45 k a), (e46 k a), (e47 k a), (m0 k bb), (m1 k bb), (m2 k bb), (m3 k bb), (m4 k bb), (m5 k bb), (m6 k bb), (m7 k bb), (m8 k bb), (m9 k bb), (m10 k bb), (m11 k bb), (m12 k bb), (m13 k bb), (m14 k bb), (m15 k bb), (m16 k bb), (m17 k bb)] ++ PW k ug17) H := hPn
  have hDn : va_D A ([(e0 k a), (e18 k a), (e19 k a), (e20 k a), (e21 k a), (e22 k a), (e23 k a), (e24 k a), (e25 k a), (e26 k a), (e27 k a), (e28 k a), (e29 k a), (e30 k a), (e31 k a), (e32 k a), (e33 k a), (e34 k a), (e35 k a), (e36 k a), (e37 k a), (e38 k a), (e39 k a), (e40 k a), (e41 k a), (e42 k a), (e43 k a), (e44 k a), (e45 k a), (e46 k a), (e47 k a), (m0 k bb), (m1 k bb), (m2 k bb), (m3 k bb), (m4 k bb), (m5 k bb), (m6 k bb), (m7 k bb), (m8 k bb), (m9 k bb), (m10 k bb), (m11 k bb), (m12 k bb), (m13 k bb), (m14 k bb), (m15 k bb), (m16 k bb), (m17 k bb)] ++ PW k ug17) := hDn
  have k_a_1 : ug17.2.1 (a 1) = 9 := by rw [hug17]; exact (psh_k m_a_1 na).trans k_a_1
  have m_a_1 : (a 1) ∈ ug17.1 := by rw [hug17]; exact psh_m m_a_1
  have k_a_3 : ug17.2.1 (a 3) = 40 := by rw [hug17]; exact (psh_k m_a_3 na).trans k_a_3
  have m_a_3 : (a 3) ∈ ug17.1 := by rw [hug17]; exact psh_m m_a_3
  have k_a_4 : ug17.2.1 (a 4) = 41 := by rw [hug17]; exact (psh_k m_a_4 na).trans k_a_4
  have m_a_4 : (a 4) ∈ ug17.1 := by rw [hug17]; exact psh_m m_a_4
  have k_a_13 : ug17.2.1 (a 13) = 8 := by rw [hug17]; exact (psh_k m_a_13 na).trans k_a_13
  have m_a_13 : (a 13) ∈ ug17.1 := by rw [hug17]; exact psh_m m_a_13
  have k_a_15 : ug17.2.1 (a 15) = 21 := by rw [hug17]; exact (psh_k m_a_15 na).trans k_a_15
  have m_a_15 : (a 15) ∈ ug17.1 := by rw [hug17]; exact psh_m m_a_15
  have k_a_16 : ug17.2.1 (a 16) = 21 := by rw [hug17]; exact (psh_k m_a_16 na).trans k_a_16
  have m_a_16 : (a 16) ∈ ug17.1 := by rw [hug17]; exact psh_m m_a_16
  have k_a_17 : ug17.2.1 (a 17) = 21 := by rw [hug17]; exact (psh_k m_a_17 na).trans k_a_17
  have m_a_17 : (a 17) ∈ ug17.1 := by rw [hug17]; exact psh_m m_a_17
  have m_a_14 : (a 14) ∈ ug17.1 := by rw [hug17]; exact psh_in
  have k_a_14 : ug17.2.1 (a 14) = 1 := by rw [hug17]; exact psh_kd
  obtain ⟨hPn, hDn, na⟩ := psh_at (i := 2) (a := (a 19)) rfl hPn hDn 22 (fun _ => 0) (fun _ => 0) (fun _ => none) (by rw [cF22 psh_kd]; (try simp only [psh_I, psh_J, psh_R]) <;> rfl)
  have px18 := PX_psh (kd := 22) (I := (fun _ => 0)) (J := (fun _ => 0)) (R := (fun _ => none)) (PX.rf (u := ug17)) na
  have hu := WT_psh (kd := 22) (I := (fun _ => 0)) (J := (fun _ => 0)) (R := (fun _ => none)) hu na (fun s t h => (tk22 h).elim) (fun s t h => (tn22 h).elim) (fun h => absurd h (by decide)) (fun _ => trivial)
  obtain ⟨ug18, hug18⟩ : ∃ z, z = psh ug17 (a 19) 22 (fun _ => 0) (fun _ => 0) (fun _ => none) := ⟨_, rfl⟩
  rw [← hug18] at hPn hDn hu px18
  have hPn : va_P D vwCl ([(e0 k a), (e18 k a), (e20 k a), (e21 k a), (e22 k a), (e23 k a), (e24 k a), (e25 k a), (e26 k a), (e27 k a), (e28 k a), (e29 k a), (e30 k a), (e31 k a), (e32 k a), (e33 k a), (e34 k a), (e35 k a), (e36 k a), (e37 k a), (e38 k a), (e39 k a), (e40 k a), (e41 k a), (e42 k a), (e43 k a), (e44 k a), (e45 k a), (e46 k a), (e47 k a), (m0 k bb), (m1 k bb), (m2 k bb), (m3 k bb), (m4 k bb), (m5 k bb), (m6 k bb), (m7 k bb), (m8 k bb), (m9 k bb), (m10 k bb), (m11 k bb), (m12 k bb), (m13 k bb), (m14 k bb), (m15 k bb), (m16 k bb), (m17 k bb)] ++ PW k ug18) H := hPn
  have hDn : va_D A ([(e0 k a), (e18 k a), (e20 k a), (e21 k a), (e22 k a), (e23 k a), (e24 k a), (e25 k a), (e26 k a), (e27 k a), (e28 k a), (e29 k a), (e30 k a), (e31 k a), (e32 k a), (e33 k a), (e34 k a), (e35 k a), (e36 k a), (e37 k a), (e38 k a), (e39 k a), (e40 k a), (e41 k a), (e42 k a), (e43 k a), (e44 k a), (e45 k a), (e46 k a), (e47 k a), (m0 k bb), (m1 k bb), (m2 k bb), (m3 k bb), (m4 k bb), (m5 k bb), (m6 k bb), (m7 k bb), (m8 k bb), (m9 k bb), (m10 k bb), (m11 k bb), (m12 k bb), (m13 k bb), (m14 k bb), (m15 k bb), (m16 k bb), (m17 k bb)] ++ PW k ug18) := hDn
  have k_a_1 : ug18.2.1 (a 1) = 9 := by rw [hug18]; exact (psh_k m_a_1 na).trans k_a_1
  have m_a_1 : (a 1) ∈ ug18.1 := by rw [hug18]; exact psh_m m_a_1
  have k_a_3 : ug18.2.1 (a 3) = 40 := by rw [hug18]; exact (psh_k m_a_3 na).trans k_a_3
  have m_a_3 : (a 3) ∈ ug18.1 := by rw [hug18]; exact psh_m m_a_3
  have k_a_4 : ug18.2.1 (a 4) = 41 := by rw [hug18]; exact (psh_k m_a_4 na).trans k_a_4
  have m_a_4 : (a 4) ∈ ug18.1 := by rw [hug18]; exact psh_m m_a_4
  have k_a_13 : ug18.2.1 (a 13) = 8 := by rw [hug18]; exact (psh_k m_a_13 na).trans k_a_13
  have m_a_13 : (a 13) ∈ ug18.1 := by rw [hug18]; exact psh_m m_a_13
  have k_a_14 : ug18.2.1 (a 14) = 1 := by rw [hug18]; exact (psh_k m_a_14 na).trans k_a_14
  have m_a_14 : (a 14) ∈ ug18.1 := by rw [hug18]; exact psh_m m_a_14
  have m_a_19 : (a 19) ∈ ug18.1 := by rw [hug18]; exact psh_in
  have k_a_19 : ug18.2.1 (a 19) = 22 := by rw [hug18]; exact psh_kd
  obtain ⟨hPn, hDn, na⟩ := psh_at (i := 2) (a := (a 20)) rfl hPn hDn 22 (fun _ => 0) (fun _ => 0) (fun _ => none) (by rw [cF22 psh_kd]; (try simp only [psh_I, psh_J, psh_R]) <;> rfl)
  have px19 := PX_psh (kd := 22) (I := (fun _ => 0)) (J := (fun _ => 0)) (R := (fun _ => none)) (PX.rf (u := ug18)) na
  have hu := WT_psh (kd := 22) (I := (fun _ => 0)) (J := (fun _ => 0)) (R := (fun _ => none)) hu na (fun s t h => (tk22 h).elim) (fun s t h => (tn22 h).elim) (fun h => absurd h (by decide)) (fun _ => trivial)
  obtain ⟨ug19, hug19⟩ : ∃ z, z = psh ug18 (a 20) 22 (fun _ => 0) (fun _ => 0) (fun _ => none) := ⟨_, rfl⟩
  rw [← hug19] at hPn hDn hu px19
  have hPn : va_P D vwCl ([(e0 k a), (e18 k a), (e21 k a), (e22 k a), (e23 k a), (e24 k a), (e25 k a), (e26 k a), (e27 k a), (e28 k a), (e29 k a), (e30 k a), (e31 k a), (e32 k a), (e33 k a), (e34 k a), (e35 k a), (e36 k a), (e37 k a), (e38 k a), (e39 k a), (e40 k a), (e41 k a), (e42 k a), (e43 k a), (e44 k a), (e45 k a), (e46 k a), (e47 k a), (m0 k bb), (m1 k bb), (m2 k bb), (m3 k bb), (m4 k bb), (m5 k bb), (m6 k bb), (m7 k bb), (m8 k bb), (m9 k bb), (m10 k bb), (m11 k bb), (m12 k bb), (m13 k bb), (m14 k bb), (m15 k bb), (m16 k bb), (m17 k bb)] ++ PW k ug19) H := hPn
  have hDn : va_D A ([(e0 k a), (e18 k a), (e21 k a), (e22 k a), (e23 k a), (e24 k a), (e25 k a), (e26 k a), (e27 k a), (e28 k a), (e29 k a), (e30 k a), (e31 k a), (e32 k a), (e33 k a), (e34 k a), (e35 k a), (e36 k a), (e37 k a), (e38 k a), (e39 k a), (e40 k a), (e41 k a), (e42 k a), (e43 k a), (e44 k a), (e45 k a), (e46 k a), (e47 k a), (m0 k bb), (m1 k bb), (m2 k bb), (m3 k bb), (m4 k bb), (m5 k bb), (m6 k bb), (m7 k bb), (m8 k bb), (m9 k bb), (m10 k bb), (m11 k bb), (m12 k bb), (m13 k bb), (m14 k bb), (m15 k bb), (m16 k bb), (m17 k bb)] ++ PW k ug19) := hDn
  have k_a_1 : ug19.2.1 (a 1) = 9 := by rw [hug19]; exact (psh_k m_a_1 na).trans k_a_1
  have m_a_1 : (a 1) ∈ ug19.1 := by rw [hug19]; exact psh_m m_a_1
  have k_a_3 : ug19.2.1 (a 3) = 40 := by rw [hug19]; exact (psh_k m_a_3 na).trans k_a_3
  have m_a_3 : (a 3) ∈ ug19.1 := by rw [hug19]; exact psh_m m_a_3
  have k_a_4 : ug19.2.1 (a 4) = 41 := by rw [hug19]; exact (psh_k m_a_4 na).trans k_a_4
  have m_a_4 : (a 4) ∈ ug19.1 := by rw [hug19]; exact psh_m m_a_4
  have k_a_13 : ug19.2.1 (a 13) = 8 := by rw [hug19]; exact (psh_k m_a_13 na).trans k_a_13
  have m_a_13 : (a 13) ∈ ug19.1 := by rw [hug19]; exact psh_m m_a_13
  have k_a_14 : ug19.2.1 (a 14) = 1 := by rw [hug19]; exact (psh_k m_a_14 na).trans k_a_14
  have m_a_14 : (a 14) ∈ ug19.1 := by rw [hug19]; exact psh_m m_a_14
  have k_a_19 : ug19.2.1 (a 19) = 22 := by rw [hug19]; exact (psh_k m_a_19 na).trans k_a_19
  have m_a_19 : (a 19) ∈ ug19.1 := by rw [hug19]; exact psh_m m_a_19
  have m_a_20 : (a 20) ∈ ug19.1 := by rw [hug19]; exact psh_in
  have k_a_20 : ug19.2.1 (a 20) = 22 := by rw [hug19]; exact psh_kd
  obtain ⟨hPn, hDn, na⟩ := psh_at (i := 2) (a := (a 21)) rfl hPn hDn 22 (fun _ => 0) (fun _ => 0) (fun _ => none) (by rw [cF22 psh_kd]; (try simp only [psh_I, psh_J, psh_R]) <;> rfl)
  have px20 := PX_psh (kd := 22) (I := (fun _ => 0)) (J := (fun _ => 0)) (R := (fun _ => none)) (PX.rf (u := ug19)) na
  have hu := WT_psh (kd := 22) (I := (fun _ => 0)) (J := (fun _ => 0)) (R := (fun _ => none)) hu na (fun s t h => (tk22 h).elim) (fun s t h => (tn22 h).elim) (fun h => absurd h (by decide)) (fun _ => trivial)
  obtain ⟨ug20, hug20⟩ : ∃ z, z = psh ug19 (a 21) 22 (fun _ => 0) (fun _ => 0) (fun _ => none) := ⟨_, rfl⟩
  rw [← hug20] at hPn hDn hu px20
  have hPn : va_P D vwCl ([(e0 k a), (e18 k a), (e22 k a), (e23 k a), (e24 k a), (e25 k a), (e26 k a), (e27 k a), (e28 k a), (e29 k a), (e30 k a), (e31 k a), (e32 k a), (e33 k a), (e34 k a), (e35 k a), (e36 k a), (e37 k a), (e38 k a), (e39 k a), (e40 k a), (e41 k a), (e42 k a), (e43 k a), (e44 k a), (e45 k a), (e46 k a), (e47 k a), (m0 k bb), (m1 k bb), (m2 k bb), (m3 k bb), (m4 k bb), (m5 k bb), (m6 k bb), (m7 k bb), (m8 k bb), (m9 k bb), (m10 k bb), (m11 k bb), (m12 k bb), (m13 k bb), (m14 k bb), (m15 k bb), (m16 k bb), (m17 k bb)] ++ PW k ug20) H := hPn
  have hDn : va_D A ([(e0 k a), (e18 k a), (e22 k a), (e23 k a), (e24 k a), (e25 k a), (e26 k a), (e27 k a), (e28 k a), (e29 k a), (e30 k a), (e31 k a), (e32 k a), (e33 k a), (e34 k a), (e35 k a), (e36 k a), (e37 k a), (e38 k a), (e39 k a), (e40 k a), (e41 k a), (e42 k a), (e43 k a), (e44 k a), (e45 k a), (e46 k a), (e47 k a), (m0 k bb), (m1 k bb), (m2 k bb), (m3 k bb), (m4 k bb), (m5 k bb), (m6 k bb), (m7 k bb), (m8 k bb), (m9 k bb), (m10 k bb), (m11 k bb), (m12 k bb), (m13 k bb), (m14 k bb), (m15 k bb), (m16 k bb), (m17 k bb)] ++ PW k ug20) := hDn
  have k_a_1 : ug20.2.1 (a 1) = 9 := by rw [hug20]; exact (psh_k m_a_1 na).trans k_a_1
  have m_a_1 : (a 1) ∈ ug20.1 := by rw [hug20]; exact psh_m m_a_1
  have k_a_3 : ug20.2.1 (a 3) = 40 := by rw [hug20]; exact (psh_k m_a_3 na).trans k_a_3
  have m_a_3 : (a 3) ∈ ug20.1 := by rw [hug20]; exact psh_m m_a_3
  have k_a_4 : ug20.2.1 (a 4) = 41 := by rw [hug20]; exact (psh_k m_a_4 na).trans k_a_4
  have m_a_4 : (a 4) ∈ ug20.1 := by rw [hug20]; exact psh_m m_a_4
  have k_a_13 : ug20.2.1 (a 13) = 8 := by rw [hug20]; exact (psh_k m_a_13 na).trans k_a_13
  have m_a_13 : (a 13) ∈ ug20.1 := by rw [hug20]; exact psh_m m_a_13
  have k_a_14 : ug20.2.1 (a 14) = 1 := by rw [hug20]; exact (psh_k m_a_14 na).trans k_a_14
  have m_a_14 : (a 14) ∈ ug20.1 := by rw [hug20]; exact psh_m m_a_14
  have k_a_19 : ug20.2.1 (a 19) = 22 := by rw [hug20]; exact (psh_k m_a_19 na).trans k_a_19
  have m_a_19 : (a 19) ∈ ug20.1 := by rw [hug20]; exact psh_m m_a_19
  have k_a_20 : ug20.2.1 (a 20) = 22 := by rw [hug20]; exact (psh_k m_a_20 na).trans k_a_20
  have m_a_20 : (a 20) ∈ ug20.1 := by rw [hug20]; exact psh_m m_a_20
  have m_a_21 : (a 21) ∈ ug20.1 := by rw [hug20]; exact psh_in
  have k_a_21 : ug20.2.1 (a 21) = 22 := by rw [hug20]; exact psh_kd
  obtain ⟨hPn, hDn, na⟩ := psh_at (i := 2) (a := (a 22)) rfl hPn hDn 22 (fun _ => 0) (fun _ => 0) (fun _ => none) (by rw [cF22 psh_kd]; (try simp only [psh_I, psh_J, psh_R]) <;> rfl)
  have px21 := PX_psh (kd := 22) (I := (fun _ => 0)) (J := (fun _ => 0)) (R := (fun _ => none)) (PX.rf (u := ug20)) na
  have hu := WT_psh (kd := 22) (I := (fun _ => 0)) (J := (fun _ => 0)) (R := (fun _ => none)) hu na (fun s t h => (tk22 h).elim) (fun s t h => (tn22 h).elim) (fun h => absurd h (by decide)) (fun _ => trivial)
  obtain ⟨ug21, hug21⟩ : ∃ z, z = psh ug20 (a 22) 22 (fun _ => 0) (fun _ => 0) (fun _ => none) := ⟨_, rfl⟩
  rw [← hug21] at hPn hDn hu px21
  have hPn : va_P D vwCl ([(e0 k a), (e18 k a), (e23 k a), (e24 k a), (e25 k a), (e26 k a), (e27 k a), (e28 k a), (e29 k a), (e30 k a), (e31 k a), (e32 k a), (e33 k a), (e34 k a), (e35 k a), (e36 k a), (e37 k a), (e38 k a), (e39 k a), (e40 k a), (e41 k a), (e42 k a), (e43 k a), (e44 k a), (e45 k a), (e46 k a), (e47 k a), (m0 k bb), (m1 k bb), (m2 k bb), (m3 k bb), (m4 k bb), (m5 k bb), (m6 k bb), (m7 k bb), (m8 k bb), (m9 k bb), (m10 k bb), (m11 k bb), (m12 k bb), (m13 k bb), (m14 k bb), (m15 k bb), (m16 k bb), (m17 k bb)] ++ PW k ug21) H := hPn
  have hDn : va_D A ([(e0 k a), (e18 k a), (e23 k a), (e24 k a), (e25 k a), (e26 k a), (e27 k a), (e28 k a), (e29 k a), (e30 k a), (e31 k a), (e32 k a), (e33 k a), (e34 k a), (e35 k a), (e36 k a), (e37 k a), (e38 k a), (e39 k a), (e40 k a), (e41 k a), (e42 k a), (e43 k a), (e44 k a), (e45 k a), (e46 k a), (e47 k a), (m0 k bb), (m1 k bb), (m2 k bb), (m3 k bb), (m4 k bb), (m5 k bb), (m6 k bb), (m7 k bb), (m8 k bb), (m9 k bb), (m10 k bb), (m11 k bb), (m12 k bb), (m13 k bb), (m14 k bb), (m15 k bb), (m16 k bb), (m17 k bb)] ++ PW k ug21) := hDn
  have k_a_1 : ug21.2.1 (a 1) = 9 := by rw [hug21]; exact (psh_k m_a_1 na).trans k_a_1
  have m_a_1 : (a 1) ∈ ug21.1 := by rw [hug21]; exact psh_m m_a_1
  have k_a_3 : ug21.2.1 (a 3) = 40 := by rw [hug21]; exact (psh_k m_a_3 na).trans k_a_3
  have m_a_3 : (a 3) ∈ ug21.1 := by rw [hug21]; exact psh_m m_a_3
  have k_a_4 : ug21.2.1 (a 4) = 41 := by rw [hug21]; exact (psh_k m_a_4 na).trans k_a_4
  have m_a_4 : (a 4) ∈ ug21.1 := by rw [hug21]; exact psh_m m_a_4
  have k_a_13 : ug21.2.1 (a 13) = 8 := by rw [hug21]; exact (psh_k m_a_13 na).trans k_a_13
  have m_a_13 : (a 13) ∈ ug21.1 := by rw [hug21]; exact psh_m m_a_13
  have k_a_14 : ug21.2.1 (a 14) = 1 := by rw [hug21]; exact (psh_k m_a_14 na).trans k_a_14
  have m_a_14 : (a 14) ∈ ug21.1 := by rw [hug21]; exact psh_m m_a_14
  have k_a_19 : ug21.2.1 (a 19) = 22 := by rw [hug21]; exact (psh_k m_a_19 na).trans k_a_19
  have m_a_19 : (a 19) ∈ ug21.1 := by rw [hug21]; exact psh_m m_a_19
  have k_a_20 : ug21.2.1 (a 20) = 22 := by rw [hug21]; exact (psh_k m_a_20 na).trans k_a_20
  have m_a_20 : (a 20) ∈ ug21.1 := by rw [hug21]; exact psh_m m_a_20
  have k_a_21 : ug21.2.1 (a 21) = 22 := by rw [hug21]; exact (psh_k m_a_21 na).trans k_a_21
  have m_a_21 : (a 21) ∈ ug21.1 := by rw [hug21]; exact psh_m m_a_21
  have m_a_22 : (a 22) ∈ ug21.1 := by rw [hug21]; exact psh_in
  have k_a_22 : ug21.2.1 (a 22) = 22 := by rw [hug21]; exact psh_kd
  obtain ⟨hPn, hDn, na⟩ := psh_at (i := 1) (a := (a 18)) rfl hPn hDn 3 (fun s => ([0, 0, 0, 0, 0, (-1), 0, 0, 0, 0, 0] : List Int32).getD s 0) (fun s => ([0, 0, 0, 0, 0, 0, 0, 0, 0, 0, 0] : List Int64).getD s 0) (fun s => ([none, none, none, none, none, none, none, some (a 19), some (a 20), some (a 21), some (a 22)] : List (Option Nat)).getD s none) (by rw [cF3 psh_kd]; (try simp only [psh_I, psh_J, psh_R]) <;> rfl)
  have px22 := PX_psh (kd := 3) (I := (fun s => ([0, 0, 0, 0, 0, (-1), 0, 0, 0, 0, 0] : List Int32).getD s 0)) (J := (fun s => ([0, 0, 0, 0, 0, 0, 0, 0, 0, 0, 0] : List Int64).getD s 0)) (R := (fun s => ([none, none, none, none, none, none, none, some (a 19), some (a 20), some (a 21), some (a 22)] : List (Option Nat)).getD s none)) (PX.rf (u := ug21)) na
  have hu := WT_psh (kd := 3) (I := (fun s => ([0, 0, 0, 0, 0, (-1), 0, 0, 0, 0, 0] : List Int32).getD s 0)) (J := (fun s => ([0, 0, 0, 0, 0, 0, 0, 0, 0, 0, 0] : List Int64).getD s 0)) (R := (fun s => ([none, none, none, none, none, none, none, some (a 19), some (a 20), some (a 21), some (a 22)] : List (Option Nat)).getD s none)) hu na (fun s t h => by rcases tk3 h with ⟨rfl, rfl⟩ | ⟨rfl, rfl⟩ | ⟨rfl, rfl⟩ | ⟨rfl, rfl⟩; exact ⟨_, rfl, m_a_19, k_a_19⟩; exact ⟨_, rfl, m_a_20, k_a_20⟩; exact ⟨_, rfl, m_a_21, k_a_21⟩; exact ⟨_, rfl, m_a_22, k_a_22⟩) (fun s t h => (tn3 h).elim) (fun h => absurd h (by decide)) (fun _ => trivial)
  obtain ⟨ug22, hug22⟩ : ∃ z, z = psh ug21 (a 18) 3 (fun s => ([0, 0, 0, 0, 0, (-1), 0, 0, 0, 0, 0] : List Int32).getD s 0) (fun s => ([0, 0, 0, 0, 0, 0, 0, 0, 0, 0, 0] : List Int64).getD s 0) (fun s => ([none, none, none, none, none, none, none, some (a 19), some (a 20), some (a 21), some (a 22)] : List (Option Nat)).getD s none) := ⟨_, rfl⟩
  rw [← hug22] at hPn hDn hu px22
  have hPn : va_P D vwCl ([(e0 k a), (e23 k a), (e24 k a), (e25 k a), (e26 k a), (e27 k a), (e28 k a), (e29 k a), (e30 k a), (e31 k a), (e32 k a), (e33 k a), (e34 k a), (e35 k a), (e36 k a), (e37 k a), (e38 k a), (e39 k a), (e40 k a), (e41 k a), (e42 k a), (e43 k a), (e44 k a), (e45 k a), (e46 k a), (e47 k a), (m0 k bb), (m1 k bb), (m2 k bb), (m3 k bb), (m4 k bb), (m5 k bb), (m6 k bb), (m7 k bb), (m8 k bb), (m9 k bb), (m10 k bb), (m11 k bb), (m12 k bb), (m13 k bb), (m14 k bb), (m15 k bb), (m16 k bb), (m17 k bb)] ++ PW k ug22) H := hPn
  have hDn : va_D A ([(e0 k a), (e23 k a), (e24 k a), (e25 k a), (e26 k a), (e27 k a), (e28 k a), (e29 k a), (e30 k a), (e31 k a), (e32 k a), (e33 k a), (e34 k a), (e35 k a), (e36 k a), (e37 k a), (e38 k a), (e39 k a), (e40 k a), (e41 k a), (e42 k a), (e43 k a), (e44 k a), (e45 k a), (e46 k a), (e47 k a), (m0 k bb), (m1 k bb), (m2 k bb), (m3 k bb), (m4 k bb), (m5 k bb), (m6 k bb), (m7 k bb), (m8 k bb), (m9 k bb), (m10 k bb), (m11 k bb), (m12 k bb), (m13 k bb), (m14 k bb), (m15 k bb), (m16 k bb), (m17 k bb)] ++ PW k ug22) := hDn
  have k_a_1 : ug22.2.1 (a 1) = 9 := by rw [hug22]; exact (psh_k m_a_1 na).trans k_a_1
  have m_a_1 : (a 1) ∈ ug22.1 := by rw [hug22]; exact psh_m m_a_1
  have k_a_3 : ug22.2.1 (a 3) = 40 := by rw [hug22]; exact (psh_k m_a_3 na).trans k_a_3
  have m_a_3 : (a 3) ∈ ug22.1 := by rw [hug22]; exact psh_m m_a_3
  have k_a_4 : ug22.2.1 (a 4) = 41 := by rw [hug22]; exact (psh_k m_a_4 na).trans k_a_4
  have m_a_4 : (a 4) ∈ ug22.1 := by rw [hug22]; exact psh_m m_a_4
  have k_a_13 : ug22.2.1 (a 13) = 8 := by rw [hug22]; exact (psh_k m_a_13 na).trans k_a_13
  have m_a_13 : (a 13) ∈ ug22.1 := by rw [hug22]; exact psh_m m_a_13
  have k_a_14 : ug22.2.1 (a 14) = 1 := by rw [hug22]; exact (psh_k m_a_14 na).trans k_a_14
  have m_a_14 : (a 14) ∈ ug22.1 := by rw [hug22]; exact psh_m m_a_14
  have k_a_19 : ug22.2.1 (a 19) = 22 := by rw [hug22]; exact (psh_k m_a_19 na).trans k_a_19
  have m_a_19 : (a 19) ∈ ug22.1 := by rw [hug22]; exact psh_m m_a_19
  have k_a_20 : ug22.2.1 (a 20) = 22 := by rw [hug22]; exact (psh_k m_a_20 na).trans k_a_20
  have m_a_20 : (a 20) ∈ ug22.1 := by rw [hug22]; exact psh_m m_a_20
  have k_a_21 : ug22.2.1 (a 21) = 22 := by rw [hug22]; exact (psh_k m_a_21 na).trans k_a_21
  have m_a_21 : (a 21) ∈ ug22.1 := by rw [hug22]; exact psh_m m_a_21
  have k_a_22 : ug22.2.1 (a 22) = 22 := by rw [hug22]; exact (psh_k m_a_22 na).trans k_a_22
  have m_a_22 : (a 22) ∈ ug22.1 := by rw [hug22]; exact psh_m m_a_22
  have m_a_18 : (a 18) ∈ ug22.1 := by rw [hug22]; exact psh_in
  have k_a_18 : ug22.2.1 (a 18) = 3 := by rw [hug22]; exact psh_kd
  obtain ⟨hPn, hDn, na⟩ := psh_at (i := 2) (a := (a 24)) rfl hPn hDn 23 (fun _ => 0) (fun _ => 0) (fun _ => none) (by rw [cF23 psh_kd]; (try simp only [psh_I, psh_J, psh_R]) <;> rfl)
  have px23 := PX_psh (kd := 23) (I := (fun _ => 0)) (J := (fun _ => 0)) (R := (fun _ => none)) (PX.rf (u := ug22)) na
  have hu := WT_psh (kd := 23) (I := (fun _ => 0)) (J := (fun _ => 0)) (R := (fun _ => none)) hu na (fun s t h => (tk23 h).elim) (fun s t h => (tn23 h).elim) (fun h => absurd h (by decide)) (fun _ => trivial)
  obtain ⟨ug23, hug23⟩ : ∃ z, z = psh ug22 (a 24) 23 (fun _ => 0) (fun _ => 0) (fun _ => none) := ⟨_, rfl⟩
  rw [← hug23] at hPn hDn hu px23
  have hPn : va_P D vwCl ([(e0 k a), (e23 k a), (e25 k a), (e26 k a), (e27 k a), (e28 k a), (e29 k a), (e30 k a), (e31 k a), (e32 k a), (e33 k a), (e34 k a), (e35 k a), (e36 k a), (e37 k a), (e38 k a), (e39 k a), (e40 k a), (e41 k a), (e42 k a), (e43 k a), (e44 k a), (e45 k a), (e46 k a), (e47 k a), (m0 k bb), (m1 k bb), (m2 k bb), (m3 k bb), (m4 k bb), (m5 k bb), (m6 k bb), (m7 k bb), (m8 k bb), (m9 k bb), (m10 k bb), (m11 k bb), (m12 k bb), (m13 k bb), (m14 k bb), (m15 k bb), (m16 k bb), (m17 k bb)] ++ PW k ug23) H := hPn
  have hDn : va_D A ([(e0 k a), (e23 k a), (e25 k a), (e26 k a), (e27 k a), (e28 k a), (e29 k a), (e30 k a), (e31 k a), (e32 k a), (e33 k a), (e34 k a), (e35 k a), (e36 k a), (e37 k a), (e38 k a), (e39 k a), (e40 k a), (e41 k a), (e42 k a), (e43 k a), (e44 k a), (e45 k a), (e46 k a), (e47 k a), (m0 k bb), (m1 k bb), (m2 k bb), (m3 k bb), (m4 k bb), (m5 k bb), (m6 k bb), (m7 k bb), (m8 k bb), (m9 k bb), (m10 k bb), (m11 k bb), (m12 k bb), (m13 k bb), (m14 k bb), (m15 k bb), (m16 k bb), (m17 k bb)] ++ PW k ug23) := hDn
  have k_a_1 : ug23.2.1 (a 1) = 9 := by rw [hug23]; exact (psh_k m_a_1 na).trans k_a_1
  have m_a_1 : (a 1) ∈ ug23.1 := by rw [hug23]; exact psh_m m_a_1
  have k_a_3 : ug23.2.1 (a 3) = 40 := by rw [hug23]; exact (psh_k m_a_3 na).trans k_a_3
  have m_a_3 : (a 3) ∈ ug23.1 := by rw [hug23]; exact psh_m m_a_3
  have k_a_4 : ug23.2.1 (a 4) = 41 := by rw [hug23]; exact (psh_k m_a_4 na).trans k_a_4
  have m_a_4 : (a 4) ∈ ug23.1 := by rw [hug23]; exact psh_m m_a_4
  have k_a_13 : ug23.2.1 (a 13) = 8 := by rw [hug23]; exact (psh_k m_a_13 na).trans k_a_13
  have m_a_13 : (a 13) ∈ ug23.1 := by rw [hug23]; exact psh_m m_a_13
  have k_a_14 : ug23.2.1 (a 14) = 1 := by rw [hug23]; exact (psh_k m_a_14 na).trans k_a_14
  have m_a_14 : (a 14) ∈ ug23.1 := by rw [hug23]; exact psh_m m_a_14
  have k_a_18 : ug23.2.1 (a 18) = 3 := by rw [hug23]; exact (psh_k m_a_18 na).trans k_a_18
  have m_a_18 : (a 18) ∈ ug23.1 := by rw [hug23]; exact psh_m m_a_18
  have m_a_24 : (a 24) ∈ ug23.1 := by rw [hug23]; exact psh_in
  have k_a_24 : ug23.2.1 (a 24) = 23 := by rw [hug23]; exact psh_kd
  obtain ⟨hPn, hDn, na⟩ := psh_at (i := 1) (a := (a 23)) rfl hPn hDn 0 (fun s => ([0, 0, 0, 0, (-1), 0, 0, 0] : List Int32).getD s 0) (fun s => ([0, 0, 0, 0, 0, 0, 0, 0] : List Int64).getD s 0) (fun s => ([none, none, none, none, none, none, none, some (a 24)] : List (Option Nat)).getD s none) (by rw [cF0 psh_kd]; (try simp only [psh_I, psh_J, psh_R]) <;> rfl)
  have px24 := PX_psh (kd := 0) (I := (fun s => ([0, 0, 0, 0, (-1), 0, 0, 0] : List Int32).getD s 0)) (J := (fun s => ([0, 0, 0, 0, 0, 0, 0, 0] : List Int64).getD s 0)) (R := (fun s => ([none, none, none, none, none, none, none, some (a 24)] : List (Option Nat)).getD s none)) (PX.rf (u := ug23)) na
  have hu := WT_psh (kd := 0) (I := (fun s => ([0, 0, 0, 0, (-1), 0, 0, 0] : List Int32).getD s 0)) (J := (fun s => ([0, 0, 0, 0, 0, 0, 0, 0] : List Int64).getD s 0)) (R := (fun s => ([none, none, none, none, none, none, none, some (a 24)] : List (Option Nat)).getD s none)) hu na (fun s t h => by rcases tk0 h with ⟨rfl, rfl⟩; exact ⟨_, rfl, m_a_24, k_a_24⟩) (fun s t h => by obtain ⟨rfl, rfl⟩ := tn0 h; exact Or.inl rfl) (fun h => absurd h (by decide)) (fun _ => trivial)
  obtain ⟨ug24, hug24⟩ : ∃ z, z = psh ug23 (a 23) 0 (fun s => ([0, 0, 0, 0, (-1), 0, 0, 0] : List Int32).getD s 0) (fun s => ([0, 0, 0, 0, 0, 0, 0, 0] : List Int64).getD s 0) (fun s => ([none, none, none, none, none, none, none, some (a 24)] : List (Option Nat)).getD s none) := ⟨_, rfl⟩
  rw [← hug24] at hPn hDn hu px24
  have hPn : va_P D vwCl ([(e0 k a), (e25 k a), (e26 k a), (e27 k a), (e28 k a), (e29 k a), (e30 k a), (e31 k a), (e32 k a), (e33 k a), (e34 k a), (e35 k a), (e36 k a), (e37 k a), (e38 k a), (e39 k a), (e40 k a), (e41 k a), (e42 k a), (e43 k a), (e44 k a), (e45 k a), (e46 k a), (e47 k a), (m0 k bb), (m1 k bb), (m2 k bb), (m3 k bb), (m4 k bb), (m5 k bb), (m6 k bb), (m7 k bb), (m8 k bb), (m9 k bb), (m10 k bb), (m11 k bb), (m12 k bb), (m13 k bb), (m14 k bb), (m15 k bb), (m16 k bb), (m17 k bb)] ++ PW k ug24) H := hPn
  have hDn : va_D A ([(e0 k a), (e25 k a), (e26 k a), (e27 k a), (e28 k a), (e29 k a), (e30 k a), (e31 k a), (e32 k a), (e33 k a), (e34 k a), (e35 k a), (e36 k a), (e37 k a), (e38 k a), (e39 k a), (e40 k a), (e41 k a), (e42 k a), (e43 k a), (e44 k a), (e45 k a), (e46 k a), (e47 k a), (m0 k bb), (m1 k bb), (m2 k bb), (m3 k bb), (m4 k bb), (m5 k bb), (m6 k bb), (m7 k bb), (m8 k bb), (m9 k bb), (m10 k bb), (m11 k bb), (m12 k bb), (m13 k bb), (m14 k bb), (m15 k bb), (m16 k bb), (m17 k bb)] ++ PW k ug24) := hDn
  have k_a_1 : ug24.2.1 (a 1) = 9 := by rw [hug24]; exact (psh_k m_a_1 na).trans k_a_1
  have m_a_1 : (a 1) ∈ ug24.1 := by rw [hug24]; exact psh_m m_a_1
  have k_a_3 : ug24.2.1 (a 3) = 40 := by rw [hug24]; exact (psh_k m_a_3 na).trans k_a_3
  have m_a_3 : (a 3) ∈ ug24.1 := by rw [hug24]; exact psh_m m_a_3
  have k_a_4 : ug24.2.1 (a 4) = 41 := by rw [hug24]; exact (psh_k m_a_4 na).trans k_a_4
  have m_a_4 : (a 4) ∈ ug24.1 := by rw [hug24]; exact psh_m m_a_4
  have k_a_13 : ug24.2.1 (a 13) = 8 := by rw [hug24]; exact (psh_k m_a_13 na).trans k_a_13
  have m_a_13 : (a 13) ∈ ug24.1 := by rw [hug24]; exact psh_m m_a_13
  have k_a_14 : ug24.2.1 (a 14) = 1 := by rw [hug24]; exact (psh_k m_a_14 na).trans k_a_14
  have m_a_14 : (a 14) ∈ ug24.1 := by rw [hug24]; exact psh_m m_a_14
  have k_a_18 : ug24.2.1 (a 18) = 3 := by rw [hug24]; exact (psh_k m_a_18 na).trans k_a_18
  have m_a_18 : (a 18) ∈ ug24.1 := by rw [hug24]; exact psh_m m_a_18
  have k_a_24 : ug24.2.1 (a 24) = 23 := by rw [hug24]; exact (psh_k m_a_24 na).trans k_a_24
  have m_a_24 : (a 24) ∈ ug24.1 := by rw [hug24]; exact psh_m m_a_24
  have m_a_23 : (a 23) ∈ ug24.1 := by rw [hug24]; exact psh_in
  have k_a_23 : ug24.2.1 (a 23) = 0 := by rw [hug24]; exact psh_kd
  obtain ⟨hPn, hDn, na⟩ := psh_at (i := 1) (a := (a 25)) rfl hPn hDn 24 (fun _ => 0) (fun _ => 0) (fun _ => none) (by rw [cF24 psh_kd]; (try simp only [psh_I, psh_J, psh_R]) <;> rfl)
  have px25 := PX_psh (kd := 24) (I := (fun _ => 0)) (J := (fun _ => 0)) (R := (fun _ => none)) (PX.rf (u := ug24)) na
  have hu := WT_psh (kd := 24) (I := (fun _ => 0)) (J := (fun _ => 0)) (R := (fun _ => none)) hu na (fun s t h => (tk24 h).elim) (fun s t h => (tn24 h).elim) (fun h => absurd h (by decide)) (fun _ => trivial)
  obtain ⟨ug25, hug25⟩ : ∃ z, z = psh ug24 (a 25) 24 (fun _ => 0) (fun _ => 0) (fun _ => none) := ⟨_, rfl⟩
  rw [← hug25] at hPn hDn hu px25
  have hPn : va_P D vwCl ([(e0 k a), (e26 k a), (e27 k a), (e28 k a), (e29 k a), (e30 k a), (e31 k a), (e32 k a), (e33 k a), (e34 k a), (e35 k a), (e36 k a), (e37 k a), (e38 k a), (e39 k a), (e40 k a), (e41 k a), (e42 k a), (e43 k a), (e44 k a), (e45 k a), (e46 k a), (e47 k a), (m0 k bb), (m1 k bb), (m2 k bb), (m3 k bb), (m4 k bb), (m5 k bb), (m6 k bb), (m7 k bb), (m8 k bb), (m9 k bb), (m10 k bb), (m11 k bb), (m12 k bb), (m13 k bb), (m14 k bb), (m15 k bb), (m16 k bb), (m17 k bb)] ++ PW k ug25) H := hPn
  have hDn : va_D A ([(e0 k a), (e26 k a), (e27 k a), (e28 k a), (e29 k a), (e30 k a), (e31 k a), (e32 k a), (e33 k a), (e34 k a), (e35 k a), (e36 k a), (e37 k a), (e38 k a), (e39 k a), (e40 k a), (e41 k a), (e42 k a), (e43 k a), (e44 k a), (e45 k a), (e46 k a), (e47 k a), (m0 k bb), (m1 k bb), (m2 k bb), (m3 k bb), (m4 k bb), (m5 k bb), (m6 k bb), (m7 k bb), (m8 k bb), (m9 k bb), (m10 k bb), (m11 k bb), (m12 k bb), (m13 k bb), (m14 k bb), (m15 k bb), (m16 k bb), (m17 k bb)] ++ PW k ug25) := hDn
  have k_a_1 : ug25.2.1 (a 1) = 9 := by rw [hug25]; exact (psh_k m_a_1 na).trans k_a_1
  have m_a_1 : (a 1) ∈ ug25.1 := by rw [hug25]; exact psh_m m_a_1
  have k_a_3 : ug25.2.1 (a 3) = 40 := by rw [hug25]; exact (psh_k m_a_3 na).trans k_a_3
  have m_a_3 : (a 3) ∈ ug25.1 := by rw [hug25]; exact psh_m m_a_3
  have k_a_4 : ug25.2.1 (a 4) = 41 := by rw [hug25]; exact (psh_k m_a_4 na).trans k_a_4
  have m_a_4 : (a 4) ∈ ug25.1 := by rw [hug25]; exact psh_m m_a_4
  have k_a_13 : ug25.2.1 (a 13) = 8 := by rw [hug25]; exact (psh_k m_a_13 na).trans k_a_13
  have m_a_13 : (a 13) ∈ ug25.1 := by rw [hug25]; exact psh_m m_a_13
  have k_a_14 : ug25.2.1 (a 14) = 1 := by rw [hug25]; exact (psh_k m_a_14 na).trans k_a_14
  have m_a_14 : (a 14) ∈ ug25.1 := by rw [hug25]; exact psh_m m_a_14
  have k_a_18 : ug25.2.1 (a 18) = 3 := by rw [hug25]; exact (psh_k m_a_18 na).trans k_a_18
  have m_a_18 : (a 18) ∈ ug25.1 := by rw [hug25]; exact psh_m m_a_18
  have k_a_23 : ug25.2.1 (a 23) = 0 := by rw [hug25]; exact (psh_k m_a_23 na).trans k_a_23
  have m_a_23 : (a 23) ∈ ug25.1 := by rw [hug25]; exact psh_m m_a_23
  have m_a_25 : (a 25) ∈ ug25.1 := by rw [hug25]; exact psh_in
  have k_a_25 : ug25.2.1 (a 25) = 24 := by rw [hug25]; exact psh_kd
  obtain ⟨hPn, hDn, na⟩ := psh_at (i := 3) (a := (a 28)) rfl hPn hDn 21 (fun _ => 0) (fun _ => 0) (fun _ => none) (by rw [cF21 psh_kd]; (try simp only [psh_I, psh_J, psh_R]) <;> rfl)
  have px26 := PX_psh (kd := 21) (I := (fun _ => 0)) (J := (fun _ => 0)) (R := (fun _ => none)) (PX.rf (u := ug25)) na
  have hu := WT_psh (kd := 21) (I := (fun _ => 0)) (J := (fun _ => 0)) (R := (fun _ => none)) hu na (fun s t h => (tk21 h).elim) (fun s t h => (tn21 h).elim) (fun h => absurd h (by decide)) (fun _ => trivial)
  obtain ⟨ug26, hug26⟩ : ∃ z, z = psh ug25 (a 28) 21 (fun _ => 0) (fun _ => 0) (fun _ => none) := ⟨_, rfl⟩
  rw [← hug26] at hPn hDn hu px26
  have hPn : va_P D vwCl ([(e0 k a), (e26 k a), (e27 k a), (e29 k a), (e30 k a), (e31 k a), (e32 k a), (e33 k a), (e34 k a), (e35 k a), (e36 k a), (e37 k a), (e38 k a), (e39 k a), (e40 k a), (e41 k a), (e42 k a), (e43 k a), (e44 k a), (e45 k a), (e46 k a), (e47 k a), (m0 k bb), (m1 k bb), (m2 k bb), (m3 k bb), (m4 k bb), (m5 k bb), (m6 k bb), (m7 k bb), (m8 k bb), (m9 k bb), (m10 k bb), (m11 k bb), (m12 k bb), (m13 k bb), (m14 k bb), (m15 k bb), (m16 k bb), (m17 k bb)] ++ PW k ug26) H := hPn
  have hDn : va_D A ([(e0 k a), (e26 k a), (e27 k a), (e29 k a), (e30 k a), (e31 k a), (e32 k a), (e33 k a), (e34 k a), (e35 k a), (e36 k a), (e37 k a), (e38 k a), (e39 k a), (e40 k a), (e41 k a), (e42 k a), (e43 k a), (e44 k a), (e45 k a), (e46 k a), (e47 k a), (m0 k bb), (m1 k bb), (m2 k bb), (m3 k bb), (m4 k bb), (m5 k bb), (m6 k bb), (m7 k bb), (m8 k bb), (m9 k bb), (m10 k bb), (m11 k bb), (m12 k bb), (m13 k bb), (m14 k bb), (m15 k bb), (m16 k bb), (m17 k bb)] ++ PW k ug26) := hDn
  have k_a_1 : ug26.2.1 (a 1) = 9 := by rw [hug26]; exact (psh_k m_a_1 na).trans k_a_1
  have m_a_1 : (a 1) ∈ ug26.1 := by rw [hug26]; exact psh_m m_a_1
  have k_a_3 : ug26.2.1 (a 3) = 40 := by rw [hug26]; exact (psh_k m_a_3 na).trans k_a_3
  have m_a_3 : (a 3) ∈ ug26.1 := by rw [hug26]; exact psh_m m_a_3
  have k_a_4 : ug26.2.1 (a 4) = 41 := by rw [hug26]; exact (psh_k m_a_4 na).trans k_a_4
  have m_a_4 : (a 4) ∈ ug26.1 := by rw [hug26]; exact psh_m m_a_4
  have k_a_13 : ug26.2.1 (a 13) = 8 := by rw [hug26]; exact (psh_k m_a_13 na).trans k_a_13
  have m_a_13 : (a 13) ∈ ug26.1 := by rw [hug26]; exact psh_m m_a_13
  have k_a_14 : ug26.2.1 (a 14) = 1 := by rw [hug26]; exact (psh_k m_a_14 na).trans k_a_14
  have m_a_14 : (a 14) ∈ ug26.1 := by rw [hug26]; exact psh_m m_a_14
  have k_a_18 : ug26.2.1 (a 18) = 3 := by rw [hug26]; exact (psh_k m_a_18 na).trans k_a_18
  have m_a_18 : (a 18) ∈ ug26.1 := by rw [hug26]; exact psh_m m_a_18
  have k_a_23 : ug26.2.1 (a 23) = 0 := by rw [hug26]; exact (psh_k m_a_23 na).trans k_a_23
  have m_a_23 : (a 23) ∈ ug26.1 := by rw [hug26]; exact psh_m m_a_23
  have k_a_25 : ug26.2.1 (a 25) = 24 := by rw [hug26]; exact (psh_k m_a_25 na).trans k_a_25
  have m_a_25 : (a 25) ∈ ug26.1 := by rw [hug26]; exact psh_m m_a_25
  have m_a_28 : (a 28) ∈ ug26.1 := by rw [hug26]; exact psh_in
  have k_a_28 : ug26.2.1 (a 28) = 21 := by rw [hug26]; exact psh_kd
  obtain ⟨hPn, hDn, na⟩ := psh_at (i := 3) (a := (a 29)) rfl hPn hDn 21 (fun _ => 0) (fun _ => 0) (fun _ => none) (by rw [cF21 psh_kd]; (try simp only [psh_I, psh_J, psh_R]) <;> rfl)
  have px27 := PX_psh (kd := 21) (I := (fun _ => 0)) (J := (fun _ => 0)) (R := (fun _ => none)) (PX.rf (u := ug26)) na
  have hu := WT_psh (kd := 21) (I := (fun _ => 0)) (J := (fun _ => 0)) (R := (fun _ => none)) hu na (fun s t h => (tk21 h).elim) (fun s t h => (tn21 h).elim) (fun h => absurd h (by decide)) (fun _ => trivial)
  obtain ⟨ug27, hug27⟩ : ∃ z, z = psh ug26 (a 29) 21 (fun _ => 0) (fun _ => 0) (fun _ => none) := ⟨_, rfl⟩
  rw [← hug27] at hPn hDn hu px27
  have hPn : va_P D vwCl ([(e0 k a), (e26 k a), (e27 k a), (e30 k a), (e31 k a), (e32 k a), (e33 k a), (e34 k a), (e35 k a), (e36 k a), (e37 k a), (e38 k a), (e39 k a), (e40 k a), (e41 k a), (e42 k a), (e43 k a), (e44 k a), (e45 k a), (e46 k a), (e47 k a), (m0 k bb), (m1 k bb), (m2 k bb), (m3 k bb), (m4 k bb), (m5 k bb), (m6 k bb), (m7 k bb), (m8 k bb), (m9 k bb), (m10 k bb), (m11 k bb), (m12 k bb), (m13 k bb), (m14 k bb), (m15 k bb), (m16 k bb), (m17 k bb)] ++ PW k ug27) H := hPn
  have hDn : va_D A ([(e0 k a), (e26 k a), (e27 k a), (e30 k a), (e31 k a), (e32 k a), (e33 k a), (e34 k a), (e35 k a), (e36 k a), (e37 k a), (e38 k a), (e39 k a), (e40 k a), (e41 k a), (e42 k a), (e43 k a), (e44 k a), (e45 k a), (e46 k a), (e47 k a), (m0 k bb), (m1 k bb), (m2 k bb), (m3 k bb), (m4 k bb), (m5 k bb), (m6 k bb), (m7 k bb), (m8 k bb), (m9 k bb), (m10 k bb), (m11 k bb), (m12 k bb), (m13 k bb), (m14 k bb), (m15 k bb), (m16 k bb), (m17 k bb)] ++ PW k ug27) := hDn
  have k_a_1 : ug27.2.1 (a 1) = 9 := by rw [hug27]; exact (psh_k m_a_1 na).trans k_a_1
  have m_a_1 : (a 1) ∈ ug27.1 := by rw [hug27]; exact psh_m m_a_1
  have k_a_3 : ug27.2.1 (a 3) = 40 := by rw [hug27]; exact (psh_k m_a_3 na).trans k_a_3
  have m_a_3 : (a 3) ∈ ug27.1 := by rw [hug27]; exact psh_m m_a_3
  have k_a_4 : ug27.2.1 (a 4) = 41 := by rw [hug27]; exact (psh_k m_a_4 na).trans k_a_4
  have m_a_4 : (a 4) ∈ ug27.1 := by rw [hug27]; exact psh_m m_a_4
  have k_a_13 : ug27.2.1 (a 13) = 8 := by rw [hug27]; exact (psh_k m_a_13 na).trans k_a_13
  have m_a_13 : (a 13) ∈ ug27.1 := by rw [hug27]; exact psh_m m_a_13
  have k_a_14 : ug27.2.1 (a 14) = 1 := by rw [hug27]; exact (psh_k m_a_14 na).trans k_a_14
  have m_a_14 : (a 14) ∈ ug27.1 := by rw [hug27]; exact psh_m m_a_14
  have k_a_18 : ug27.2.1 (a 18) = 3 := by rw [hug27]; exact (psh_k m_a_18 na).trans k_a_18
  have m_a_18 : (a 18) ∈ ug27.1 := by rw [hug27]; exact psh_m m_a_18
  have k_a_23 : ug27.2.1 (a 23) = 0 := by rw [hug27]; exact (psh_k m_a_23 na).trans k_a_23
  have m_a_23 : (a 23) ∈ ug27.1 := by rw [hug27]; exact psh_m m_a_23
  have k_a_25 : ug27.2.1 (a 25) = 24 := by rw [hug27]; exact (psh_k m_a_25 na).trans k_a_25
  have m_a_25 : (a 25) ∈ ug27.1 := by rw [hug27]; exact psh_m m_a_25
  have k_a_28 : ug27.2.1 (a 28) = 21 := by rw [hug27]; exact (psh_k m_a_28 na).trans k_a_28
  have m_a_28 : (a 28) ∈ ug27.1 := by rw [hug27]; exact psh_m m_a_28
  have m_a_29 : (a 29) ∈ ug27.1 := by rw [hug27]; exact psh_in
  have k_a_29 : ug27.2.1 (a 29) = 21 := by rw [hug27]; exact psh_kd
  obtain ⟨hPn, hDn, na⟩ := psh_at (i := 3) (a := (a 30)) rfl hPn hDn 21 (fun _ => 0) (fun _ => 0) (fun _ => none) (by rw [cF21 psh_kd]; (try simp only [psh_I, psh_J, psh_R]) <;> rfl)
  have px28 := PX_psh (kd := 21) (I := (fun _ => 0)) (J := (fun _ => 0)) (R := (fun _ => none)) (PX.rf (u := ug27)) na
  have hu := WT_psh (kd := 21) (I := (fun _ => 0)) (J := (fun _ => 0)) (R := (fun _ => none)) hu na (fun s t h => (tk21 h).elim) (fun s t h => (tn21 h).elim) (fun h => absurd h (by decide)) (fun _ => trivial)
  obtain ⟨ug28, hug28⟩ : ∃ z, z = psh ug27 (a 30) 21 (fun _ => 0) (fun _ => 0) (fun _ => none) := ⟨_, rfl⟩
  rw [← hug28] at hPn hDn hu px28
  have hPn : va_P D vwCl ([(e0 k a), (e26 k a), (e27 k a), (e31 k a), (e32 k a), (e33 k a), (e34 k a), (e35 k a), (e36 k a), (e37 k a), (e38 k a), (e39 k a), (e40 k a), (e41 k a), (e42 k a), (e43 k a), (e44 k a), (e45 k a), (e46 k a), (e47 k a), (m0 k bb), (m1 k bb), (m2 k bb), (m3 k bb), (m4 k bb), (m5 k bb), (m6 k bb), (m7 k bb), (m8 k bb), (m9 k bb), (m10 k bb), (m11 k bb), (m12 k bb), (m13 k bb), (m14 k bb), (m15 k bb), (m16 k bb), (m17 k bb)] ++ PW k ug28) H := hPn
  have hDn : va_D A ([(e0 k a), (e26 k a), (e27 k a), (e31 k a), (e32 k a), (e33 k a), (e34 k a), (e35 k a), (e36 k a), (e37 k a), (e38 k a), (e39 k a), (e40 k a), (e41 k a), (e42 k a), (e43 k a), (e44 k a), (e45 k a), (e46 k a), (e47 k a), (m0 k bb), (m1 k bb), (m2 k bb), (m3 k bb), (m4 k bb), (m5 k bb), (m6 k bb), (m7 k bb), (m8 k bb), (m9 k bb), (m10 k bb), (m11 k bb), (m12 k bb), (m13 k bb), (m14 k bb), (m15 k bb), (m16 k bb), (m17 k bb)] ++ PW k ug28) := hDn
  have k_a_1 : ug28.2.1 (a 1) = 9 := by rw [hug28]; exact (psh_k m_a_1 na).trans k_a_1
  have m_a_1 : (a 1) ∈ ug28.1 := by rw [hug28]; exact psh_m m_a_1
  have k_a_3 : ug28.2.1 (a 3) = 40 := by rw [hug28]; exact (psh_k m_a_3 na).trans k_a_3
  have m_a_3 : (a 3) ∈ ug28.1 := by rw [hug28]; exact psh_m m_a_3
  have k_a_4 : ug28.2.1 (a 4) = 41 := by rw [hug28]; exact (psh_k m_a_4 na).trans k_a_4
  have m_a_4 : (a 4) ∈ ug28.1 := by rw [hug28]; exact psh_m m_a_4
  have k_a_13 : ug28.2.1 (a 13) = 8 := by rw [hug28]; exact (psh_k m_a_13 na).trans k_a_13
  have m_a_13 : (a 13) ∈ ug28.1 := by rw [hug28]; exact psh_m m_a_13
  have k_a_14 : ug28.2.1 (a 14) = 1 := by rw [hug28]; exact (psh_k m_a_14 na).trans k_a_14
  have m_a_14 : (a 14) ∈ ug28.1 := by rw [hug28]; exact psh_m m_a_14
  have k_a_18 : ug28.2.1 (a 18) = 3 := by rw [hug28]; exact (psh_k m_a_18 na).trans k_a_18
  have m_a_18 : (a 18) ∈ ug28.1 := by rw [hug28]; exact psh_m m_a_18
  have k_a_23 : ug28.2.1 (a 23) = 0 := by rw [hug28]; exact (psh_k m_a_23 na).trans k_a_23
  have m_a_23 : (a 23) ∈ ug28.1 := by rw [hug28]; exact psh_m m_a_23
  have k_a_25 : ug28.2.1 (a 25) = 24 := by rw [hug28]; exact (psh_k m_a_25 na).trans k_a_25
  have m_a_25 : (a 25) ∈ ug28.1 := by rw [hug28]; exact psh_m m_a_25
  have k_a_28 : ug28.2.1 (a 28) = 21 := by rw [hug28]; exact (psh_k m_a_28 na).trans k_a_28
  have m_a_28 : (a 28) ∈ ug28.1 := by rw [hug28]; exact psh_m m_a_28
  have k_a_29 : ug28.2.1 (a 29) = 21 := by rw [hug28]; exact (psh_k m_a_29 na).trans k_a_29
  have m_a_29 : (a 29) ∈ ug28.1 := by rw [hug28]; exact psh_m m_a_29
  have m_a_30 : (a 30) ∈ ug28.1 := by rw [hug28]; exact psh_in
  have k_a_30 : ug28.2.1 (a 30) = 21 := by rw [hug28]; exact psh_kd
  obtain ⟨hPn, hDn, na⟩ := psh_at (i := 2) (a := (a 27)) rfl hPn hDn 1 (fun s => ([0, 0, 0, 0, 0] : List Int32).getD s 0) (fun s => ([0, 0, 0, 0, 0] : List Int64).getD s 0) (fun s => ([none, none, some (a 28), some (a 29), some (a 30)] : List (Option Nat)).getD s none) (by rw [cF1 psh_kd]; (try simp only [psh_I, psh_J, psh_R]) <;> rfl)
  have px29 := PX_psh (kd := 1) (I := (fun s => ([0, 0, 0, 0, 0] : List Int32).getD s 0)) (J := (fun s => ([0, 0, 0, 0, 0] : List Int64).getD s 0)) (R := (fun s => ([none, none, some (a 28), some (a 29), some (a 30)] : List (Option Nat)).getD s none)) (PX.rf (u := ug28)) na
  have hu := WT_psh (kd := 1) (I := (fun s => ([0, 0, 0, 0, 0] : List Int32).getD s 0)) (J := (fun s => ([0, 0, 0, 0, 0] : List Int64).getD s 0)) (R := (fun s => ([none, none, some (a 28), some (a 29), some (a 30)] : List (Option Nat)).getD s none)) hu na (fun s t h => by rcases tk1 h with ⟨rfl, rfl⟩ | ⟨rfl, rfl⟩ | ⟨rfl, rfl⟩; exact ⟨_, rfl, m_a_28, k_a_28⟩; exact ⟨_, rfl, m_a_29, k_a_29⟩; exact ⟨_, rfl, m_a_30, k_a_30⟩) (fun s t h => (tn1 h).elim) (fun h => absurd h (by decide)) (fun _ => trivial)
  obtain ⟨ug29, hug29⟩ : ∃ z, z = psh ug28 (a 27) 1 (fun s => ([0, 0, 0, 0, 0] : List Int32).getD s 0) (fun s => ([0, 0, 0, 0, 0] : List Int64).getD s 0) (fun s => ([none, none, some (a 28), some (a 29), some (a 30)] : List (Option Nat)).getD s none) := ⟨_, rfl⟩
  rw [← hug29] at hPn hDn hu px29
  have hPn : va_P D vwCl ([(e0 k a), (e26 k a), (e31 k a), (e32 k a), (e33 k a), (e34 k a), (e35 k a), (e36 k a), (e37 k a), (e38 k a), (e39 k a), (e40 k a), (e41 k a), (e42 k a), (e43 k a), (e44 k a), (e45 k a), (e46 k a), (e47 k a), (m0 k bb), (m1 k bb), (m2 k bb), (m3 k bb), (m4 k bb), (m5 k bb), (m6 k bb), (m7 k bb), (m8 k bb), (m9 k bb), (m10 k bb), (m11 k bb), (m12 k bb), (m13 k bb), (m14 k bb), (m15 k bb), (m16 k bb), (m17 k bb)] ++ PW k ug29) H := hPn
  have hDn : va_D A ([(e0 k a), (e26 k a), (e31 k a), (e32 k a), (e33 k a), (e34 k a), (e35 k a), (e36 k a), (e37 k a), (e38 k a), (e39 k a), (e40 k a), (e41 k a), (e42 k a), (e43 k a), (e44 k a), (e45 k a), (e46 k a), (e47 k a), (m0 k bb), (m1 k bb), (m2 k bb), (m3 k bb), (m4 k bb), (m5 k bb), (m6 k bb), (m7 k bb), (m8 k bb), (m9 k bb), (m10 k bb), (m11 k bb), (m12 k bb), (m13 k bb), (m14 k bb), (m15 k bb), (m16 k bb), (m17 k bb)] ++ PW k ug29) := hDn
  have k_a_1 : ug29.2.1 (a 1) = 9 := by rw [hug29]; exact (psh_k m_a_1 na).trans k_a_1
  have m_a_1 : (a 1) ∈ ug29.1 := by rw [hug29]; exact psh_m m_a_1
  have k_a_3 : ug29.2.1 (a 3) = 40 := by rw [hug29]; exact (psh_k m_a_3 na).trans k_a_3
  have m_a_3 : (a 3) ∈ ug29.1 := by rw [hug29]; exact psh_m m_a_3
  have k_a_4 : ug29.2.1 (a 4) = 41 := by rw [hug29]; exact (psh_k m_a_4 na).trans k_a_4
  have m_a_4 : (a 4) ∈ ug29.1 := by rw [hug29]; exact psh_m m_a_4
  have k_a_13 : ug29.2.1 (a 13) = 8 := by rw [hug29]; exact (psh_k m_a_13 na).trans k_a_13
  have m_a_13 : (a 13) ∈ ug29.1 := by rw [hug29]; exact psh_m m_a_13
  have k_a_14 : ug29.2.1 (a 14) = 1 := by rw [hug29]; exact (psh_k m_a_14 na).trans k_a_14
  have m_a_14 : (a 14) ∈ ug29.1 := by rw [hug29]; exact psh_m m_a_14
  have k_a_18 : ug29.2.1 (a 18) = 3 := by rw [hug29]; exact (psh_k m_a_18 na).trans k_a_18
  have m_a_18 : (a 18) ∈ ug29.1 := by rw [hug29]; exact psh_m m_a_18
  have k_a_23 : ug29.2.1 (a 23) = 0 := by rw [hug29]; exact (psh_k m_a_23 na).trans k_a_23
  have m_a_23 : (a 23) ∈ ug29.1 := by rw [hug29]; exact psh_m m_a_23
  have k_a_25 : ug29.2.1 (a 25) = 24 := by rw [hug29]; exact (psh_k m_a_25 na).trans k_a_25
  have m_a_25 : (a 25) ∈ ug29.1 := by rw [hug29]; exact psh_m m_a_25
  have k_a_28 : ug29.2.1 (a 28) = 21 := by rw [hug29]; exact (psh_k m_a_28 na).trans k_a_28
  have m_a_28 : (a 28) ∈ ug29.1 := by rw [hug29]; exact psh_m m_a_28
  have k_a_29 : ug29.2.1 (a 29) = 21 := by rw [hug29]; exact (psh_k m_a_29 na).trans k_a_29
  have m_a_29 : (a 29) ∈ ug29.1 := by rw [hug29]; exact psh_m m_a_29
  have k_a_30 : ug29.2.1 (a 30) = 21 := by rw [hug29]; exact (psh_k m_a_30 na).trans k_a_30
  have m_a_30 : (a 30) ∈ ug29.1 := by rw [hug29]; exact psh_m m_a_30
  have m_a_27 : (a 27) ∈ ug29.1 := by rw [hug29]; exact psh_in
  have k_a_27 : ug29.2.1 (a 27) = 1 := by rw [hug29]; exact psh_kd
  obtain ⟨hPn, hDn, na⟩ := psh_at (i := 3) (a := (a 32)) rfl hPn hDn 25 (fun _ => 0) (fun _ => 0) (fun _ => none) (by rw [cF25 psh_kd]; (try simp only [psh_I, psh_J, psh_R]) <;> rfl)
  have px30 := PX_psh (kd := 25) (I := (fun _ => 0)) (J := (fun _ => 0)) (R := (fun _ => none)) (PX.rf (u := ug29)) na
  have hu := WT_psh (kd := 25) (I := (fun _ => 0)) (J := (fun _ => 0)) (R := (fun _ => none)) hu na (fun s t h => (tk25 h).elim) (fun s t h => (tn25 h).elim) (fun h => absurd h (by decide)) (fun _ => trivial)
  obtain ⟨ug30, hug30⟩ : ∃ z, z = psh ug29 (a 32) 25 (fun _ => 0) (fun _ => 0) (fun _ => none) := ⟨_, rfl⟩
  rw [← hug30] at hPn hDn hu px30
  have hPn : va_P D vwCl ([(e0 k a), (e26 k a), (e31 k a), (e33 k a), (e34 k a), (e35 k a), (e36 k a), (e37 k a), (e38 k a), (e39 k a), (e40 k a), (e41 k a), (e42 k a), (e43 k a), (e44 k a), (e45 k a), (e46 k a), (e47 k a), (m0 k bb), (m1 k bb), (m2 k bb), (m3 k bb), (m4 k bb), (m5 k bb), (m6 k bb), (m7 k bb), (m8 k bb), (m9 k bb), (m10 k bb), (m11 k bb), (m12 k bb), (m13 k bb), (m14 k bb), (m15 k bb), (m16 k bb), (m17 k bb)] ++ PW k ug30) H := hPn
  have hDn : va_D A ([(e0 k a), (e26 k a), (e31 k a), (e33 k a), (e34 k a), (e35 k a), (e36 k a), (e37 k a), (e38 k a), (e39 k a), (e40 k a), (e41 k a), (e42 k a), (e43 k a), (e44 k a), (e45 k a), (e46 k a), (e47 k a), (m0 k bb), (m1 k bb), (m2 k bb), (m3 k bb), (m4 k bb), (m5 k bb), (m6 k bb), (m7 k bb), (m8 k bb), (m9 k bb), (m10 k bb), (m11 k bb), (m12 k bb), (m13 k bb), (m14 k bb), (m15 k bb), (m16 k bb), (m17 k bb)] ++ PW k ug30) := hDn
  have k_a_1 : ug30.2.1 (a 1) = 9 := by rw [hug30]; exact (psh_k m_a_1 na).trans k_a_1
  have m_a_1 : (a 1) ∈ ug30.1 := by rw [hug30]; exact psh_m m_a_1
  have k_a_3 : ug30.2.1 (a 3) = 40 := by rw [hug30]; exact (psh_k m_a_3 na).trans k_a_3
  have m_a_3 : (a 3) ∈ ug30.1 := by rw [hug30]; exact psh_m m_a_3
  have k_a_4 : ug30.2.1 (a 4) = 41 := by rw [hug30]; exact (psh_k m_a_4 na).trans k_a_4
  have m_a_4 : (a 4) ∈ ug30.1 := by rw [hug30]; exact psh_m m_a_4
  have k_a_13 : ug30.2.1 (a 13) = 8 := by rw [hug30]; exact (psh_k m_a_13 na).trans k_a_13
  have m_a_13 : (a 13) ∈ ug30.1 := by rw [hug30]; exact psh_m m_a_13
  have k_a_14 : ug30.2.1 (a 14) = 1 := by rw [hug30]; exact (psh_k m_a_14 na).trans k_a_14
  have m_a_14 : (a 14) ∈ ug30.1 := by rw [hug30]; exact psh_m m_a_14
  have k_a_18 : ug30.2.1 (a 18) = 3 := by rw [hug30]; exact (psh_k m_a_18 na).trans k_a_18
  have m_a_18 : (a 18) ∈ ug30.1 := by rw [hug30]; exact psh_m m_a_18
  have k_a_23 : ug30.2.1 (a 23) = 0 := by rw [hug30]; exact (psh_k m_a_23 na).trans k_a_23
  have m_a_23 : (a 23) ∈ ug30.1 := by rw [hug30]; exact psh_m m_a_23
  have k_a_25 : ug30.2.1 (a 25) = 24 := by rw [hug30]; exact (psh_k m_a_25 na).trans k_a_25
  have m_a_25 : (a 25) ∈ ug30.1 := by rw [hug30]; exact psh_m m_a_25
  have k_a_27 : ug30.2.1 (a 27) = 1 := by rw [hug30]; exact (psh_k m_a_27 na).trans k_a_27
  have m_a_27 : (a 27) ∈ ug30.1 := by rw [hug30]; exact psh_m m_a_27
  have m_a_32 : (a 32) ∈ ug30.1 := by rw [hug30]; exact psh_in
  have k_a_32 : ug30.2.1 (a 32) = 25 := by rw [hug30]; exact psh_kd
  obtain ⟨hPn, hDn, na⟩ := psh_at (i := 3) (a := (a 33)) rfl hPn hDn 25 (fun _ => 0) (fun _ => 0) (fun _ => none) (by rw [cF25 psh_kd]; (try simp only [psh_I, psh_J, psh_R]) <;> rfl)
  have px31 := PX_psh (kd := 25) (I := (fun _ => 0)) (J := (fun _ => 0)) (R := (fun _ => none)) (PX.rf (u := ug30)) na
  have hu := WT_psh (kd := 25) (I := (fun _ => 0)) (J := (fun _ => 0)) (R := (fun _ => none)) hu na (fun s t h => (tk25 h).elim) (fun s t h => (tn25 h).elim) (fun h => absurd h (by decide)) (fun _ => trivial)
  obtain ⟨ug31, hug31⟩ : ∃ z, z = psh ug30 (a 33) 25 (fun _ => 0) (fun _ => 0) (fun _ => none) := ⟨_, rfl⟩
  rw [← hug31] at hPn hDn hu px31
  have hPn : va_P D vwCl ([(e0 k a), (e26 k a), (e31 k a), (e34 k a), (e35 k a), (e36 k a), (e37 k a), (e38 k a), (e39 k a), (e40 k a), (e41 k a), (e42 k a), (e43 k a), (e44 k a), (e45 k a), (e46 k a), (e47 k a), (m0 k bb), (m1 k bb), (m2 k bb), (m3 k bb), (m4 k bb), (m5 k bb), (m6 k bb), (m7 k bb), (m8 k bb), (m9 k bb), (m10 k bb), (m11 k bb), (m12 k bb), (m13 k bb), (m14 k bb), (m15 k bb), (m16 k bb), (m17 k bb)] ++ PW k ug31) H := hPn
  have hDn : va_D A ([(e0 k a), (e26 k a), (e31 k a), (e34 k a), (e35 k a), (e36 k a), (e37 k a), (e38 k a), (e39 k a), (e40 k a), (e41 k a), (e42 k a), (e43 k a), (e44 k a), (e45 k a), (e46 k a), (e47 k a), (m0 k bb), (m1 k bb), (m2 k bb), (m3 k bb), (m4 k bb), (m5 k bb), (m6 k bb), (m7 k bb), (m8 k bb), (m9 k bb), (m10 k bb), (m11 k bb), (m12 k bb), (m13 k bb), (m14 k bb), (m15 k bb), (m16 k bb), (m17 k bb)] ++ PW k ug31) := hDn
  have k_a_1 : ug31.2.1 (a 1) = 9 := by rw [hug31]; exact (psh_k m_a_1 na).trans k_a_1
  have m_a_1 : (a 1) ∈ ug31.1 := by rw [hug31]; exact psh_m m_a_1
  have k_a_3 : ug31.2.1 (a 3) = 40 := by rw [hug31]; exact (psh_k m_a_3 na).trans k_a_3
  have m_a_3 : (a 3) ∈ ug31.1 := by rw [hug31]; exact psh_m m_a_3
  have k_a_4 : ug31.2.1 (a 4) = 41 := by rw [hug31]; exact (psh_k m_a_4 na).trans k_a_4
  have m_a_4 : (a 4) ∈ ug31.1 := by rw [hug31]; exact psh_m m_a_4
  have k_a_13 : ug31.2.1 (a 13) = 8 := by rw [hug31]; exact (psh_k m_a_13 na).trans k_a_13
  have m_a_13 : (a 13) ∈ ug31.1 := by rw [hug31]; exact psh_m m_a_13
  have k_a_14 : ug31.2.1 (a 14) = 1 := by rw [hug31]; exact (psh_k m_a_14 na).trans k_a_14
  have m_a_14 : (a 14) ∈ ug31.1 := by rw [hug31]; exact psh_m m_a_14
  have k_a_18 : ug31.2.1 (a 18) = 3 := by rw [hug31]; exact (psh_k m_a_18 na).trans k_a_18
  have m_a_18 : (a 18) ∈ ug31.1 := by rw [hug31]; exact psh_m m_a_18
  have k_a_23 : ug31.2.1 (a 23) = 0 := by rw [hug31]; exact (psh_k m_a_23 na).trans k_a_23
  have m_a_23 : (a 23) ∈ ug31.1 := by rw [hug31]; exact psh_m m_a_23
  have k_a_25 : ug31.2.1 (a 25) = 24 := by rw [hug31]; exact (psh_k m_a_25 na).trans k_a_25
  have m_a_25 : (a 25) ∈ ug31.1 := by rw [hug31]; exact psh_m m_a_25
  have k_a_27 : ug31.2.1 (a 27) = 1 := by rw [hug31]; exact (psh_k m_a_27 na).trans k_a_27
  have m_a_27 : (a 27) ∈ ug31.1 := by rw [hug31]; exact psh_m m_a_27
  have k_a_32 : ug31.2.1 (a 32) = 25 := by rw [hug31]; exact (psh_k m_a_32 na).trans k_a_32
  have m_a_32 : (a 32) ∈ ug31.1 := by rw [hug31]; exact psh_m m_a_32
  have m_a_33 : (a 33) ∈ ug31.1 := by rw [hug31]; exact psh_in
  have k_a_33 : ug31.2.1 (a 33) = 25 := by rw [hug31]; exact psh_kd
  obtain ⟨hPn, hDn, na⟩ := psh_at (i := 3) (a := (a 34)) rfl hPn hDn 25 (fun _ => 0) (fun _ => 0) (fun _ => none) (by rw [cF25 psh_kd]; (try simp only [psh_I, psh_J, psh_R]) <;> rfl)
  have px32 := PX_psh (kd := 25) (I := (fun _ => 0)) (J := (fun _ => 0)) (R := (fun _ => none)) (PX.rf (u := ug31)) na
  have hu := WT_psh (kd := 25) (I := (fun _ => 0)) (J := (fun _ => 0)) (R := (fun _ => none)) hu na (fun s t h => (tk25 h).elim) (fun s t h => (tn25 h).elim) (fun h => absurd h (by decide)) (fun _ => trivial)
  obtain ⟨ug32, hug32⟩ : ∃ z, z = psh ug31 (a 34) 25 (fun _ => 0) (fun _ => 0) (fun _ => none) := ⟨_, rfl⟩
  rw [← hug32] at hPn hDn hu px32
  have hPn : va_P D vwCl ([(e0 k a), (e26 k a), (e31 k a), (e35 k a), (e36 k a), (e37 k a), (e38 k a), (e39 k a), (e40 k a), (e41 k a), (e42 k a), (e43 k a), (e44 k a), (e45 k a), (e46 k a), (e47 k a), (m0 k bb), (m1 k bb), (m2 k bb), (m3 k bb), (m4 k bb), (m5 k bb), (m6 k bb), (m7 k bb), (m8 k bb), (m9 k bb), (m10 k bb), (m11 k bb), (m12 k bb), (m13 k bb), (m14 k bb), (m15 k bb), (m16 k bb), (m17 k bb)] ++ PW k ug32) H := hPn
  have hDn : va_D A ([(e0 k a), (e26 k a), (e31 k a), (e35 k a), (e36 k a), (e37 k a), (e38 k a), (e39 k a), (e40 k a), (e41 k a), (e42 k a), (e43 k a), (e44 k a), (e45 k a), (e46 k a), (e47 k a), (m0 k bb), (m1 k bb), (m2 k bb), (m3 k bb), (m4 k bb), (m5 k bb), (m6 k bb), (m7 k bb), (m8 k bb), (m9 k bb), (m10 k bb), (m11 k bb), (m12 k bb), (m13 k bb), (m14 k bb), (m15 k bb), (m16 k bb), (m17 k bb)] ++ PW k ug32) := hDn
  have k_a_1 : ug32.2.1 (a 1) = 9 := by rw [hug32]; exact (psh_k m_a_1 na).trans k_a_1
  have m_a_1 : (a 1) ∈ ug32.1 := by rw [hug32]; exact psh_m m_a_1
  have k_a_3 : ug32.2.1 (a 3) = 40 := by rw [hug32]; exact (psh_k m_a_3 na).trans k_a_3
  have m_a_3 : (a 3) ∈ ug32.1 := by rw [hug32]; exact psh_m m_a_3
  have k_a_4 : ug32.2.1 (a 4) = 41 := by rw [hug32]; exact (psh_k m_a_4 na).trans k_a_4
  have m_a_4 : (a 4) ∈ ug32.1 := by rw [hug32]; exact psh_m m_a_4
  have k_a_13 : ug32.2.1 (a 13) = 8 := by rw [hug32]; exact (psh_k m_a_13 na).trans k_a_13
  have m_a_13 : (a 13) ∈ ug32.1 := by rw [hug32]; exact psh_m m_a_13
  have k_a_14 : ug32.2.1 (a 14) = 1 := by rw [hug32]; exact (psh_k m_a_14 na).trans k_a_14
  have m_a_14 : (a 14) ∈ ug32.1 := by rw [hug32]; exact psh_m m_a_14
  have k_a_18 : ug32.2.1 (a 18) = 3 := by rw [hug32]; exact (psh_k m_a_18 na).trans k_a_18
  have m_a_18 : (a 18) ∈ ug32.1 := by rw [hug32]; exact psh_m m_a_18
  have k_a_23 : ug32.2.1 (a 23) = 0 := by rw [hug32]; exact (psh_k m_a_23 na).trans k_a_23
  have m_a_23 : (a 23) ∈ ug32.1 := by rw [hug32]; exact psh_m m_a_23
  have k_a_25 : ug32.2.1 (a 25) = 24 := by rw [hug32]; exact (psh_k m_a_25 na).trans k_a_25
  have m_a_25 : (a 25) ∈ ug32.1 := by rw [hug32]; exact psh_m m_a_25
  have k_a_27 : ug32.2.1 (a 27) = 1 := by rw [hug32]; exact (psh_k m_a_27 na).trans k_a_27
  have m_a_27 : (a 27) ∈ ug32.1 := by rw [hug32]; exact psh_m m_a_27
  have k_a_32 : ug32.2.1 (a 32) = 25 := by rw [hug32]; exact (psh_k m_a_32 na).trans k_a_32
  have m_a_32 : (a 32) ∈ ug32.1 := by rw [hug32]; exact psh_m m_a_32
  have k_a_33 : ug32.2.1 (a 33) = 25 := by rw [hug32]; exact (psh_k m_a_33 na).trans k_a_33
  have m_a_33 : (a 33) ∈ ug32.1 := by rw [hug32]; exact psh_m m_a_33
  have m_a_34 : (a 34) ∈ ug32.1 := by rw [hug32]; exact psh_in
  have k_a_34 : ug32.2.1 (a 34) = 25 := by rw [hug32]; exact psh_kd
  obtain ⟨hPn, hDn, na⟩ := psh_at (i := 3) (a := (a 35)) rfl hPn hDn 25 (fun _ => 0) (fun _ => 0) (fun _ => none) (by rw [cF25 psh_kd]; (try simp only [psh_I, psh_J, psh_R]) <;> rfl)
  have px33 := PX_psh (kd := 25) (I := (fun _ => 0)) (J := (fun _ => 0)) (R := (fun _ => none)) (PX.rf (u := ug32)) na
  have hu := WT_psh (kd := 25) (I := (fun _ => 0)) (J := (fun _ => 0)) (R := (fun _ => none)) hu na (fun s t h => (tk25 h).elim) (fun s t h => (tn25 h).elim) (fun h => absurd h (by decide)) (fun _ => trivial)
  obtain ⟨ug33, hug33⟩ : ∃ z, z = psh ug32 (a 35) 25 (fun _ => 0) (fun _ => 0) (fun _ => none) := ⟨_, rfl⟩
  rw [← hug33] at hPn hDn hu px33
  have hPn : va_P D vwCl ([(e0 k a), (e26 k a), (e31 k a), (e36 k a), (e37 k a), (e38 k a), (e39 k a), (e40 k a), (e41 k a), (e42 k a), (e43 k a), (e44 k a), (e45 k a), (e46 k a), (e47 k a), (m0 k bb), (m1 k bb), (m2 k bb), (m3 k bb), (m4 k bb), (m5 k bb), (m6 k bb), (m7 k bb), (m8 k bb), (m9 k bb), (m10 k bb), (m11 k bb), (m12 k bb), (m13 k bb), (m14 k bb), (m15 k bb), (m16 k bb), (m17 k bb)] ++ PW k ug33) H := hPn
  have hDn : va_D A ([(e0 k a), (e26 k a), (e31 k a), (e36 k a), (e37 k a), (e38 k a), (e39 k a), (e40 k a), (e41 k a), (e42 k a), (e43 k a), (e44 k a), (e45 k a), (e46 k a), (e47 k a), (m0 k bb), (m1 k bb), (m2 k bb), (m3 k bb), (m4 k bb), (m5 k bb), (m6 k bb), (m7 k bb), (m8 k bb), (m9 k bb), (m10 k bb), (m11 k bb), (m12 k bb), (m13 k bb), (m14 k bb), (m15 k bb), (m16 k bb), (m17 k bb)] ++ PW k ug33) := hDn
  have k_a_1 : ug33.2.1 (a 1) = 9 := by rw [hug33]; exact (psh_k m_a_1 na).trans k_a_1
  have m_a_1 : (a 1) ∈ ug33.1 := by rw [hug33]; exact psh_m m_a_1
  have k_a_3 : ug33.2.1 (a 3) = 40 := by rw [hug33]; exact (psh_k m_a_3 na).trans k_a_3
  have m_a_3 : (a 3) ∈ ug33.1 := by rw [hug33]; exact psh_m m_a_3
  have k_a_4 : ug33.2.1 (a 4) = 41 := by rw [hug33]; exact (psh_k m_a_4 na).trans k_a_4
  have m_a_4 : (a 4) ∈ ug33.1 := by rw [hug33]; exact psh_m m_a_4
  have k_a_13 : ug33.2.1 (a 13) = 8 := by rw [hug33]; exact (psh_k m_a_13 na).trans k_a_13
  have m_a_13 : (a 13) ∈ ug33.1 := by rw [hug33]; exact psh_m m_a_13
  have k_a_14 : ug33.2.1 (a 14) = 1 := by rw [hug33]; exact (psh_k m_a_14 na).trans k_a_14
  have m_a_14 : (a 14) ∈ ug33.1 := by rw [hug33]; exact psh_m m_a_14
  have k_a_18 : ug33.2.1 (a 18) = 3 := by rw [hug33]; exact (psh_k m_a_18 na).trans k_a_18
  have m_a_18 : (a 18) ∈ ug33.1 := by rw [hug33]; exact psh_m m_a_18
  have k_a_23 : ug33.2.1 (a 23) = 0 := by rw [hug33]; exact (psh_k m_a_23 na).trans k_a_23
  have m_a_23 : (a 23) ∈ ug33.1 := by rw [hug33]; exact psh_m m_a_23
  have k_a_25 : ug33.2.1 (a 25) = 24 := by rw [hug33]; exact (psh_k m_a_25 na).trans k_a_25
  have m_a_25 : (a 25) ∈ ug33.1 := by rw [hug33]; exact psh_m m_a_25
  have k_a_27 : ug33.2.1 (a 27) = 1 := by rw [hug33]; exact (psh_k m_a_27 na).trans k_a_27
  have m_a_27 : (a 27) ∈ ug33.1 := by rw [hug33]; exact psh_m m_a_27
  have k_a_32 : ug33.2.1 (a 32) = 25 := by rw [hug33]; exact (psh_k m_a_32 na).trans k_a_32
  have m_a_32 : (a 32) ∈ ug33.1 := by rw [hug33]; exact psh_m m_a_32
  have k_a_33 : ug33.2.1 (a 33) = 25 := by rw [hug33]; exact (psh_k m_a_33 na).trans k_a_33
  have m_a_33 : (a 33) ∈ ug33.1 := by rw [hug33]; exact psh_m m_a_33
  have k_a_34 : ug33.2.1 (a 34) = 25 := by rw [hug33]; exact (psh_k m_a_34 na).trans k_a_34
  have m_a_34 : (a 34) ∈ ug33.1 := by rw [hug33]; exact psh_m m_a_34
  have m_a_35 : (a 35) ∈ ug33.1 := by rw [hug33]; exact psh_in
  have k_a_35 : ug33.2.1 (a 35) = 25 := by rw [hug33]; exact psh_kd
  obtain ⟨hPn, hDn, na⟩ := psh_at (i := 2) (a := (a 31)) rfl hPn hDn 6 (fun s => ([0, 0, 0, 0, 0, 0] : List Int32).getD s 0) (fun s => ([0, 0, 0, 0, 0, 0] : List Int64).getD s 0) (fun s => ([none, none, some (a 32), some (a 33), some (a 34), some (a 35)] : List (Option Nat)).getD s none) (by rw [cF6 psh_kd]; (try simp only [psh_I, psh_J, psh_R]) <;> rfl)
  have px34 := PX_psh (kd := 6) (I := (fun s => ([0, 0, 0, 0, 0, 0] : List Int32).getD s 0)) (J := (fun s => ([0, 0, 0, 0, 0, 0] : List Int64).getD s 0)) (R := (fun s => ([none, none, some (a 32), some (a 33), some (a 34), some (a 35)] : List (Option Nat)).getD s none)) (PX.rf (u := ug33)) na
  have hu := WT_psh (kd := 6) (I := (fun s => ([0, 0, 0, 0, 0, 0] : List Int32).getD s 0)) (J := (fun s => ([0, 0, 0, 0, 0, 0] : List Int64).getD s 0)) (R := (fun s => ([none, none, some (a 32), some (a 33), some (a 34), some (a 35)] : List (Option Nat)).getD s none)) hu na (fun s t h => by rcases tk6 h with ⟨rfl, rfl⟩ | ⟨rfl, rfl⟩ | ⟨rfl, rfl⟩ | ⟨rfl, rfl⟩; exact ⟨_, rfl, m_a_32, k_a_32⟩; exact ⟨_, rfl, m_a_33, k_a_33⟩; exact ⟨_, rfl, m_a_34, k_a_34⟩; exact ⟨_, rfl, m_a_35, k_a_35⟩) (fun s t h => (tn6 h).elim) (fun h => absurd h (by decide)) (fun _ => trivial)
  obtain ⟨ug34, hug34⟩ : ∃ z, z = psh ug33 (a 31) 6 (fun s => ([0, 0, 0, 0, 0, 0] : List Int32).getD s 0) (fun s => ([0, 0, 0, 0, 0, 0] : List Int64).getD s 0) (fun s => ([none, none, some (a 32), some (a 33), some (a 34), some (a 35)] : List (Option Nat)).getD s none) := ⟨_, rfl⟩
  rw [← hug34] at hPn hDn hu px34
  have hPn : va_P D vwCl ([(e0 k a), (e26 k a), (e36 k a), (e37 k a), (e38 k a), (e39 k a), (e40 k a), (e41 k a), (e42 k a), (e43 k a), (e44 k a), (e45 k a), (e46 k a), (e47 k a), (m0 k bb), (m1 k bb), (m2 k bb), (m3 k bb), (m4 k bb), (m5 k bb), (m6 k bb), (m7 k bb), (m8 k bb), (m9 k bb), (m10 k bb), (m11 k bb), (m12 k bb), (m13 k bb), (m14 k bb), (m15 k bb), (m16 k bb), (m17 k bb)] ++ PW k ug34) H := hPn
  have hDn : va_D A ([(e0 k a), (e26 k a), (e36 k a), (e37 k a), (e38 k a), (e39 k a), (e40 k a), (e41 k a), (e42 k a), (e43 k a), (e44 k a), (e45 k a), (e46 k a), (e47 k a), (m0 k bb), (m1 k bb), (m2 k bb), (m3 k bb), (m4 k bb), (m5 k bb), (m6 k bb), (m7 k bb), (m8 k bb), (m9 k bb), (m10 k bb), (m11 k bb), (m12 k bb), (m13 k bb), (m14 k bb), (m15 k bb), (m16 k bb), (m17 k bb)] ++ PW k ug34) := hDn
  have k_a_1 : ug34.2.1 (a 1) = 9 := by rw [hug34]; exact (psh_k m_a_1 na).trans k_a_1
  have m_a_1 : (a 1) ∈ ug34.1 := by rw [hug34]; exact psh_m m_a_1
  have k_a_3 : ug34.2.1 (a 3) = 40 := by rw [hug34]; exact (psh_k m_a_3 na).trans k_a_3
  have m_a_3 : (a 3) ∈ ug34.1 := by rw [hug34]; exact psh_m m_a_3
  have k_a_4 : ug34.2.1 (a 4) = 41 := by rw [hug34]; exact (psh_k m_a_4 na).trans k_a_4
  have m_a_4 : (a 4) ∈ ug34.1 := by rw [hug34]; exact psh_m m_a_4
  have k_a_13 : ug34.2.1 (a 13) = 8 := by rw [hug34]; exact (psh_k m_a_13 na).trans k_a_13
  have m_a_13 : (a 13) ∈ ug34.1 := by rw [hug34]; exact psh_m m_a_13
  have k_a_14 : ug34.2.1 (a 14) = 1 := by rw [hug34]; exact (psh_k m_a_14 na).trans k_a_14
  have m_a_14 : (a 14) ∈ ug34.1 := by rw [hug34]; exact psh_m m_a_14
  have k_a_18 : ug34.2.1 (a 18) = 3 := by rw [hug34]; exact (psh_k m_a_18 na).trans k_a_18
  have m_a_18 : (a 18) ∈ ug34.1 := by rw [hug34]; exact psh_m m_a_18
  have k_a_23 : ug34.2.1 (a 23) = 0 := by rw [hug34]; exact (psh_k m_a_23 na).trans k_a_23
  have m_a_23 : (a 23) ∈ ug34.1 := by rw [hug34]; exact psh_m m_a_23
  have k_a_25 : ug34.2.1 (a 25) = 24 := by rw [hug34]; exact (psh_k m_a_25 na).trans k_a_25
  have m_a_25 : (a 25) ∈ ug34.1 := by rw [hug34]; exact psh_m m_a_25
  have k_a_27 : ug34.2.1 (a 27) = 1 := by rw [hug34]; exact (psh_k m_a_27 na).trans k_a_27
  have m_a_27 : (a 27) ∈ ug34.1 := by rw [hug34]; exact psh_m m_a_27
  have k_a_32 : ug34.2.1 (a 32) = 25 := by rw [hug34]; exact (psh_k m_a_32 na).trans k_a_32
  have m_a_32 : (a 32) ∈ ug34.1 := by rw [hug34]; exact psh_m m_a_32
  have k_a_33 : ug34.2.1 (a 33) = 25 := by rw [hug34]; exact (psh_k m_a_33 na).trans k_a_33
  have m_a_33 : (a 33) ∈ ug34.1 := by rw [hug34]; exact psh_m m_a_33
  have k_a_34 : ug34.2.1 (a 34) = 25 := by rw [hug34]; exact (psh_k m_a_34 na).trans k_a_34
  have m_a_34 : (a 34) ∈ ug34.1 := by rw [hug34]; exact psh_m m_a_34
  have k_a_35 : ug34.2.1 (a 35) = 25 := by rw [hug34]; exact (psh_k m_a_35 na).trans k_a_35
  have m_a_35 : (a 35) ∈ ug34.1 := by rw [hug34]; exact psh_m m_a_35
  have m_a_31 : (a 31) ∈ ug34.1 := by rw [hug34]; exact psh_in
  have k_a_31 : ug34.2.1 (a 31) = 6 := by rw [hug34]; exact psh_kd
  obtain ⟨hPn, hDn, na⟩ := psh_at (i := 3) (a := (a 37)) rfl hPn hDn 25 (fun _ => 0) (fun _ => 0) (fun _ => none) (by rw [cF25 psh_kd]; (try simp only [psh_I, psh_J, psh_R]) <;> rfl)
  have px35 := PX_psh (kd := 25) (I := (fun _ => 0)) (J := (fun _ => 0)) (R := (fun _ => none)) (PX.rf (u := ug34)) na
  have hu := WT_psh (kd := 25) (I := (fun _ => 0)) (J := (fun _ => 0)) (R := (fun _ => none)) hu na (fun s t h => (tk25 h).elim) (fun s t h => (tn25 h).elim) (fun h => absurd h (by decide)) (fun _ => trivial)
  obtain ⟨ug35, hug35⟩ : ∃ z, z = psh ug34 (a 37) 25 (fun _ => 0) (fun _ => 0) (fun _ => none) := ⟨_, rfl⟩
  rw [← hug35] at hPn hDn hu px35
  have hPn : va_P D vwCl ([(e0 k a), (e26 k a), (e36 k a), (e38 k a), (e39 k a), (e40 k a), (e41 k a), (e42 k a), (e43 k a), (e44 k a), (e45 k a), (e46 k a), (e47 k a), (m0 k bb), (m1 k bb), (m2 k bb), (m3 k bb), (m4 k bb), (m5 k bb), (m6 k bb), (m7 k bb), (m8 k bb), (m9 k bb), (m10 k bb), (m11 k bb), (m12 k bb), (m13 k bb), (m14 k bb), (m15 k bb), (m16 k bb), (m17 k bb)] ++ PW k ug35) H := hPn
  have hDn : va_D A ([(e0 k a), (e26 k a), (e36 k a), (e38 k a), (e39 k a), (e40 k a), (e41 k a), (e42 k a), (e43 k a), (e44 k a), (e45 k a), (e46 k a), (e47 k a), (m0 k bb), (m1 k bb), (m2 k bb), (m3 k bb), (m4 k bb), (m5 k bb), (m6 k bb), (m7 k bb), (m8 k bb), (m9 k bb), (m10 k bb), (m11 k bb), (m12 k bb), (m13 k bb), (m14 k bb), (m15 k bb), (m16 k bb), (m17 k bb)] ++ PW k ug35) := hDn
  have k_a_1 : ug35.2.1 (a 1) = 9 := by rw [hug35]; exact (psh_k m_a_1 na).trans k_a_1
  have m_a_1 : (a 1) ∈ ug35.1 := by rw [hug35]; exact psh_m m_a_1
  have k_a_3 : ug35.2.1 (a 3) = 40 := by rw [hug35]; exact (psh_k m_a_3 na).trans k_a_3
  have m_a_3 : (a 3) ∈ ug35.1 := by rw [hug35]; exact psh_m m_a_3
  have k_a_4 : ug35.2.1 (a 4) = 41 := by rw [hug35]; exact (psh_k m_a_4 na).trans k_a_4
  have m_a_4 : (a 4) ∈ ug35.1 := by rw [hug35]; exact psh_m m_a_4
  have k_a_13 : ug35.2.1 (a 13) = 8 := by rw [hug35]; exact (psh_k m_a_13 na).trans k_a_13
  have m_a_13 : (a 13) ∈ ug35.1 := by rw [hug35]; exact psh_m m_a_13
  have k_a_14 : ug35.2.1 (a 14) = 1 := by rw [hug35]; exact (psh_k m_a_14 na).trans k_a_14
  have m_a_14 : (a 14) ∈ ug35.1 := by rw [hug35]; exact psh_m m_a_14
  have k_a_18 : ug35.2.1 (a 18) = 3 := by rw [hug35]; exact (psh_k m_a_18 na).trans k_a_18
  have m_a_18 : (a 18) ∈ ug35.1 := by rw [hug35]; exact psh_m m_a_18
  have k_a_23 : ug35.2.1 (a 23) = 0 := by rw [hug35]; exact (psh_k m_a_23 na).trans k_a_23
  have m_a_23 : (a 23) ∈ ug35.1 := by rw [hug35]; exact psh_m m_a_23
  have k_a_25 : ug35.2.1 (a 25) = 24 := by rw [hug35]; exact (psh_k m_a_25 na).trans k_a_25
  have m_a_25 : (a 25) ∈ ug35.1 := by rw [hug35]; exact psh_m m_a_25
  have k_a_27 : ug35.2.1 (a 27) = 1 := by rw [hug35]; exact (psh_k m_a_27 na).trans k_a_27
  have m_a_27 : (a 27) ∈ ug35.1 := by rw [hug35]; exact psh_m m_a_27
  have k_a_31 : ug35.2.1 (a 31) = 6 := by rw [hug35]; exact (psh_k m_a_31 na).trans k_a_31
  have m_a_31 : (a 31) ∈ ug35.1 := by rw [hug35]; exact psh_m m_a_31
  have m_a_37 : (a 37) ∈ ug35.1 := by rw [hug35]; exact psh_in
  have k_a_37 : ug35.2.1 (a 37) = 25 := by rw [hug35]; exact psh_kd
  obtain ⟨hPn, hDn, na⟩ := psh_at (i := 3) (a := (a 38)) rfl hPn hDn 25 (fun _ => 0) (fun _ => 0) (fun _ => none) (by rw [cF25 psh_kd]; (try simp only [psh_I, psh_J, psh_R]) <;> rfl)
  have px36 := PX_psh (kd := 25) (I := (fun _ => 0)) (J := (fun _ => 0)) (R := (fun _ => none)) (PX.rf (u := ug35)) na
  have hu := WT_psh (kd := 25) (I := (fun _ => 0)) (J := (fun _ => 0)) (R := (fun _ => none)) hu na (fun s t h => (tk25 h).elim) (fun s t h => (tn25 h).elim) (fun h => absurd h (by decide)) (fun _ => trivial)
  obtain ⟨ug36, hug36⟩ : ∃ z, z = psh ug35 (a 38) 25 (fun _ => 0) (fun _ => 0) (fun _ => none) := ⟨_, rfl⟩
  rw [← hug36] at hPn hDn hu px36
  have hPn : va_P D vwCl ([(e0 k a), (e26 k a), (e36 k a), (e39 k a), (e40 k a), (e41 k a), (e42 k a), (e43 k a), (e44 k a), (e45 k a), (e46 k a), (e47 k a), (m0 k bb), (m1 k bb), (m2 k bb), (m3 k bb), (m4 k bb), (m5 k bb), (m6 k bb), (m7 k bb), (m8 k bb), (m9 k bb), (m10 k bb), (m11 k bb), (m12 k bb), (m13 k bb), (m14 k bb), (m15 k bb), (m16 k bb), (m17 k bb)] ++ PW k ug36) H := hPn
  have hDn : va_D A ([(e0 k a), (e26 k a), (e36 k a), (e39 k a), (e40 k a), (e41 k a), (e42 k a), (e43 k a), (e44 k a), (e45 k a), (e46 k a), (e47 k a), (m0 k bb), (m1 k bb), (m2 k bb), (m3 k bb), (m4 k bb), (m5 k bb), (m6 k bb), (m7 k bb), (m8 k bb), (m9 k bb), (m10 k bb), (m11 k bb), (m12 k bb), (m13 k bb), (m14 k bb), (m15 k bb), (m16 k bb), (m17 k bb)] ++ PW k ug36) := hDn
  have k_a_1 : ug36.2.1 (a 1) = 9 := by rw [hug36]; exact (psh_k m_a_1 na).trans k_a_1
  have m_a_1 : (a 1) ∈ ug36.1 := by rw [hug36]; exact psh_m m_a_1
  have k_a_3 : ug36.2.1 (a 3) = 40 := by rw [hug36]; exact (psh_k m_a_3 na).trans k_a_3
  have m_a_3 : (a 3) ∈ ug36.1 := by rw [hug36]; exact psh_m m_a_3
  have k_a_4 : ug36.2.1 (a 4) = 41 := by rw [hug36]; exact (psh_k m_a_4 na).trans k_a_4
  have m_a_4 : (a 4) ∈ ug36.1 := by rw [hug36]; exact psh_m m_a_4
  have k_a_13 : ug36.2.1 (a 13) = 8 := by rw [hug36]; exact (psh_k m_a_13 na).trans k_a_13
  have m_a_13 : (a 13) ∈ ug36.1 := by rw [hug36]; exact psh_m m_a_13
  have k_a_14 : ug36.2.1 (a 14) = 1 := by rw [hug36]; exact (psh_k m_a_14 na).trans k_a_14
  have m_a_14 : (a 14) ∈ ug36.1 := by rw [hug36]; exact psh_m m_a_14
  have k_a_18 : ug36.2.1 (a 18) = 3 := by rw [hug36]; exact (psh_k m_a_18 na).trans k_a_18
  have m_a_18 : (a 18) ∈ ug36.1 := by rw [hug36]; exact psh_m m_a_18
  have k_a_23 : ug36.2.1 (a 23) = 0 := by rw [hug36]; exact (psh_k m_a_23 na).trans k_a_23
  have m_a_23 : (a 23) ∈ ug36.1 := by rw [hug36]; exact psh_m m_a_23
  have k_a_25 : ug36.2.1 (a 25) = 24 := by rw [hug36]; exact (psh_k m_a_25 na).trans k_a_25
  have m_a_25 : (a 25) ∈ ug36.1 := by rw [hug36]; exact psh_m m_a_25
  have k_a_27 : ug36.2.1 (a 27) = 1 := by rw [hug36]; exact (psh_k m_a_27 na).trans k_a_27
  have m_a_27 : (a 27) ∈ ug36.1 := by rw [hug36]; exact psh_m m_a_27
  have k_a_31 : ug36.2.1 (a 31) = 6 := by rw [hug36]; exact (psh_k m_a_31 na).trans k_a_31
  have m_a_31 : (a 31) ∈ ug36.1 := by rw [hug36]; exact psh_m m_a_31
  have k_a_37 : ug36.2.1 (a 37) = 25 := by rw [hug36]; exact (psh_k m_a_37 na).trans k_a_37
  have m_a_37 : (a 37) ∈ ug36.1 := by rw [hug36]; exact psh_m m_a_37
  have m_a_38 : (a 38) ∈ ug36.1 := by rw [hug36]; exact psh_in
  have k_a_38 : ug36.2.1 (a 38) = 25 := by rw [hug36]; exact psh_kd
  obtain ⟨hPn, hDn, na⟩ := psh_at (i := 3) (a := (a 39)) rfl hPn hDn 25 (fun _ => 0) (fun _ => 0) (fun _ => none) (by rw [cF25 psh_kd]; (try simp only [psh_I, psh_J, psh_R]) <;> rfl)
  have px37 := PX_psh (kd := 25) (I := (fun _ => 0)) (J := (fun _ => 0)) (R := (fun _ => none)) (PX.rf (u := ug36)) na
  have hu := WT_psh (kd := 25) (I := (fun _ => 0)) (J := (fun _ => 0)) (R := (fun _ => none)) hu na (fun s t h => (tk25 h).elim) (fun s t h => (tn25 h).elim) (fun h => absurd h (by decide)) (fun _ => trivial)
  obtain ⟨ug37, hug37⟩ : ∃ z, z = psh ug36 (a 39) 25 (fun _ => 0) (fun _ => 0) (fun _ => none) := ⟨_, rfl⟩
  rw [← hug37] at hPn hDn hu px37
  have hPn : va_P D vwCl ([(e0 k a), (e26 k a), (e36 k a), (e40 k a), (e41 k a), (e42 k a), (e43 k a), (e44 k a), (e45 k a), (e46 k a), (e47 k a), (m0 k bb), (m1 k bb), (m2 k bb), (m3 k bb), (m4 k bb), (m5 k bb), (m6 k bb), (m7 k bb), (m8 k bb), (m9 k bb), (m10 k bb), (m11 k bb), (m12 k bb), (m13 k bb), (m14 k bb), (m15 k bb), (m16 k bb), (m17 k bb)] ++ PW k ug37) H := hPn
  have hDn : va_D A ([(e0 k a), (e26 k a), (e36 k a), (e40 k a), (e41 k a), (e42 k a), (e43 k a), (e44 k a), (e45 k a), (e46 k a), (e47 k a), (m0 k bb), (m1 k bb), (m2 k bb), (m3 k bb), (m4 k bb), (m5 k bb), (m6 k bb), (m7 k bb), (m8 k bb), (m9 k bb), (m10 k bb), (m11 k bb), (m12 k bb), (m13 k bb), (m14 k bb), (m15 k bb), (m16 k bb), (m17 k bb)] ++ PW k ug37) := hDn
  have k_a_1 : ug37.2.1 (a 1) = 9 := by rw [hug37]; exact (psh_k m_a_1 na).trans k_a_1
  have m_a_1 : (a 1) ∈ ug37.1 := by rw [hug37]; exact psh_m m_a_1
  have k_a_3 : ug37.2.1 (a 3) = 40 := by rw [hug37]; exact (psh_k m_a_3 na).trans k_a_3
  have m_a_3 : (a 3) ∈ ug37.1 := by rw [hug37]; exact psh_m m_a_3
  have k_a_4 : ug37.2.1 (a 4) = 41 := by rw [hug37]; exact (psh_k m_a_4 na).trans k_a_4
  have m_a_4 : (a 4) ∈ ug37.1 := by rw [hug37]; exact psh_m m_a_4
  have k_a_13 : ug37.2.1 (a 13) = 8 := by rw [hug37]; exact (psh_k m_a_13 na).trans k_a_13
  have m_a_13 : (a 13) ∈ ug37.1 := by rw [hug37]; exact psh_m m_a_13
  have k_a_14 : ug37.2.1 (a 14) = 1 := by rw [hug37]; exact (psh_k m_a_14 na).trans k_a_14
  have m_a_14 : (a 14) ∈ ug37.1 := by rw [hug37]; exact psh_m m_a_14
  have k_a_18 : ug37.2.1 (a 18) = 3 := by rw [hug37]; exact (psh_k m_a_18 na).trans k_a_18
  have m_a_18 : (a 18) ∈ ug37.1 := by rw [hug37]; exact psh_m m_a_18
  have k_a_23 : ug37.2.1 (a 23) = 0 := by rw [hug37]; exact (psh_k m_a_23 na).trans k_a_23
  have m_a_23 : (a 23) ∈ ug37.1 := by rw [hug37]; exact psh_m m_a_23
  have k_a_25 : ug37.2.1 (a 25) = 24 := by rw [hug37]; exact (psh_k m_a_25 na).trans k_a_25
  have m_a_25 : (a 25) ∈ ug37.1 := by rw [hug37]; exact psh_m m_a_25
  have k_a_27 : ug37.2.1 (a 27) = 1 := by rw [hug37]; exact (psh_k m_a_27 na).trans k_a_27
  have m_a_27 : (a 27) ∈ ug37.1 := by rw [hug37]; exact psh_m m_a_27
  have k_a_31 : ug37.2.1 (a 31) = 6 := by rw [hug37]; exact (psh_k m_a_31 na).trans k_a_31
  have m_a_31 : (a 31) ∈ ug37.1 := by rw [hug37]; exact psh_m m_a_31
  have k_a_37 : ug37.2.1 (a 37) = 25 := by rw [hug37]; exact (psh_k m_a_37 na).trans k_a_37
  have m_a_37 : (a 37) ∈ ug37.1 := by rw [hug37]; exact psh_m m_a_37
  have k_a_38 : ug37.2.1 (a 38) = 25 := by rw [hug37]; exact (psh_k m_a_38 na).trans k_a_38
  have m_a_38 : (a 38) ∈ ug37.1 := by rw [hug37]; exact psh_m m_a_38
  have m_a_39 : (a 39) ∈ ug37.1 := by rw [hug37]; exact psh_in
  have k_a_39 : ug37.2.1 (a 39) = 25 := by rw [hug37]; exact psh_kd
  obtain ⟨hPn, hDn, na⟩ := psh_at (i := 3) (a := (a 40)) rfl hPn hDn 26 (fun _ => 0) (fun _ => 0) (fun _ => none) (by rw [cF26 psh_kd]; (try simp only [psh_I, psh_J, psh_R]) <;> rfl)
  have px38 := PX_psh (kd := 26) (I := (fun _ => 0)) (J := (fun _ => 0)) (R := (fun _ => none)) (PX.rf (u := ug37)) na
  have hu := WT_psh (kd := 26) (I := (fun _ => 0)) (J := (fun _ => 0)) (R := (fun _ => none)) hu na (fun s t h => (tk26 h).elim) (fun s t h => (tn26 h).elim) (fun h => absurd h (by decide)) (fun _ => trivial)
  obtain ⟨ug38, hug38⟩ : ∃ z, z = psh ug37 (a 40) 26 (fun _ => 0) (fun _ => 0) (fun _ => none) := ⟨_, rfl⟩
  rw [← hug38] at hPn hDn hu px38
  have hPn : va_P D vwCl ([(e0 k a), (e26 k a), (e36 k a), (e41 k a), (e42 k a), (e43 k a), (e44 k a), (e45 k a), (e46 k a), (e47 k a), (m0 k bb), (m1 k bb), (m2 k bb), (m3 k bb), (m4 k bb), (m5 k bb), (m6 k bb), (m7 k bb), (m8 k bb), (m9 k bb), (m10 k bb), (m11 k bb), (m12 k bb), (m13 k bb), (m14 k bb), (m15 k bb), (m16 k bb), (m17 k bb)] ++ PW k ug38) H := hPn
  have hDn : va_D A ([(e0 k a), (e26 k a), (e36 k a), (e41 k a), (e42 k a), (e43 k a), (e44 k a), (e45 k a), (e46 k a), (e47 k a), (m0 k bb), (m1 k bb), (m2 k bb), (m3 k bb), (m4 k bb), (m5 k bb), (m6 k bb), (m7 k bb), (m8 k bb), (m9 k bb), (m10 k bb), (m11 k bb), (m12 k bb), (m13 k bb), (m14 k bb), (m15 k bb), (m16 k bb), (m17 k bb)] ++ PW k ug38) := hDn
  have k_a_1 : ug38.2.1 (a 1) = 9 := by rw [hug38]; exact (psh_k m_a_1 na).trans k_a_1
  have m_a_1 : (a 1) ∈ ug38.1 := by rw [hug38]; exact psh_m m_a_1
  have k_a_3 : ug38.2.1 (a 3) = 40 := by rw [hug38]; exact (psh_k m_a_3 na).trans k_a_3
  have m_a_3 : (a 3) ∈ ug38.1 := by rw [hug38]; exact psh_m m_a_3
  have k_a_4 : ug38.2.1 (a 4) = 41 := by rw [hug38]; exact (psh_k m_a_4 na).trans k_a_4
  have m_a_4 : (a 4) ∈ ug38.1 := by rw [hug38]; exact psh_m m_a_4
  have k_a_13 : ug38.2.1 (a 13) = 8 := by rw [hug38]; exact (psh_k m_a_13 na).trans k_a_13
  have m_a_13 : (a 13) ∈ ug38.1 := by rw [hug38]; exact psh_m m_a_13
  have k_a_14 : ug38.2.1 (a 14) = 1 := by rw [hug38]; exact (psh_k m_a_14 na).trans k_a_14
  have m_a_14 : (a 14) ∈ ug38.1 := by rw [hug38]; exact psh_m m_a_14
  have k_a_18 : ug38.2.1 (a 18) = 3 := by rw [hug38]; exact (psh_k m_a_18 na).trans k_a_18
  have m_a_18 : (a 18) ∈ ug38.1 := by rw [hug38]; exact psh_m m_a_18
  have k_a_23 : ug38.2.1 (a 23) = 0 := by rw [hug38]; exact (psh_k m_a_23 na).trans k_a_23
  have m_a_23 : (a 23) ∈ ug38.1 := by rw [hug38]; exact psh_m m_a_23
  have k_a_25 : ug38.2.1 (a 25) = 24 := by rw [hug38]; exact (psh_k m_a_25 na).trans k_a_25
  have m_a_25 : (a 25) ∈ ug38.1 := by rw [hug38]; exact psh_m m_a_25
  have k_a_27 : ug38.2.1 (a 27) = 1 := by rw [hug38]; exact (psh_k m_a_27 na).trans k_a_27
  have m_a_27 : (a 27) ∈ ug38.1 := by rw [hug38]; exact psh_m m_a_27
  have k_a_31 : ug38.2.1 (a 31) = 6 := by rw [hug38]; exact (psh_k m_a_31 na).trans k_a_31
  have m_a_31 : (a 31) ∈ ug38.1 := by rw [hug38]; exact psh_m m_a_31
  have k_a_37 : ug38.2.1 (a 37) = 25 := by rw [hug38]; exact (psh_k m_a_37 na).trans k_a_37
  have m_a_37 : (a 37) ∈ ug38.1 := by rw [hug38]; exact psh_m m_a_37
  have k_a_38 : ug38.2.1 (a 38) = 25 := by rw [hug38]; exact (psh_k m_a_38 na).trans k_a_38
  have m_a_38 : (a 38) ∈ ug38.1 := by rw [hug38]; exact psh_m m_a_38
  have k_a_39 : ug38.2.1 (a 39) = 25 := by rw [hug38]; exact (psh_k m_a_39 na).trans k_a_39
  have m_a_39 : (a 39) ∈ ug38.1 := by rw [hug38]; exact psh_m m_a_39
  have m_a_40 : (a 40) ∈ ug38.1 := by rw [hug38]; exact psh_in
  have k_a_40 : ug38.2.1 (a 40) = 26 := by rw [hug38]; exact psh_kd
  obtain ⟨hPn, hDn, na⟩ := psh_at (i := 3) (a := (a 41)) rfl hPn hDn 26 (fun _ => 0) (fun _ => 0) (fun _ => none) (by rw [cF26 psh_kd]; (try simp only [psh_I, psh_J, psh_R]) <;> rfl)
  have px39 := PX_psh (kd := 26) (I := (fun _ => 0)) (J := (fun _ => 0)) (R := (fun _ => none)) (PX.rf (u := ug38)) na
  have hu := WT_psh (kd := 26) (I := (fun _ => 0)) (J := (fun _ => 0)) (R := (fun _ => none)) hu na (fun s t h => (tk26 h).elim) (fun s t h => (tn26 h).elim) (fun h => absurd h (by decide)) (fun _ => trivial)
  obtain ⟨ug39, hug39⟩ : ∃ z, z = psh ug38 (a 41) 26 (fun _ => 0) (fun _ => 0) (fun _ => none) := ⟨_, rfl⟩
  rw [← hug39] at hPn hDn hu px39
  have hPn : va_P D vwCl ([(e0 k a), (e26 k a), (e36 k a), (e42 k a), (e43 k a), (e44 k a), (e45 k a), (e46 k a), (e47 k a), (m0 k bb), (m1 k bb), (m2 k bb), (m3 k bb), (m4 k bb), (m5 k bb), (m6 k bb), (m7 k bb), (m8 k bb), (m9 k bb), (m10 k bb), (m11 k bb), (m12 k bb), (m13 k bb), (m14 k bb), (m15 k bb), (m16 k bb), (m17 k bb)] ++ PW k ug39) H := hPn
  have hDn : va_D A ([(e0 k a), (e26 k a), (e36 k a), (e42 k a), (e43 k a), (e44 k a), (e45 k a), (e46 k a), (e47 k a), (m0 k bb), (m1 k bb), (m2 k bb), (m3 k bb), (m4 k bb), (m5 k bb), (m6 k bb), (m7 k bb), (m8 k bb), (m9 k bb), (m10 k bb), (m11 k bb), (m12 k bb), (m13 k bb), (m14 k bb), (m15 k bb), (m16 k bb), (m17 k bb)] ++ PW k ug39) := hDn
  have k_a_1 : ug39.2.1 (a 1) = 9 := by rw [hug39]; exact (psh_k m_a_1 na).trans k_a_1
  have m_a_1 : (a 1) ∈ ug39.1 := by rw [hug39]; exact psh_m m_a_1
  have k_a_3 : ug39.2.1 (a 3) = 40 := by rw [hug39]; exact (psh_k m_a_3 na).trans k_a_3
  have m_a_3 : (a 3) ∈ ug39.1 := by rw [hug39]; exact psh_m m_a_3
  have k_a_4 : ug39.2.1 (a 4) = 41 := by rw [hug39]; exact (psh_k m_a_4 na).trans k_a_4
  have m_a_4 : (a 4) ∈ ug39.1 := by rw [hug39]; exact psh_m m_a_4
  have k_a_13 : ug39.2.1 (a 13) = 8 := by rw [hug39]; exact (psh_k m_a_13 na).trans k_a_13
  have m_a_13 : (a 13) ∈ ug39.1 := by rw [hug39]; exact psh_m m_a_13
  have k_a_14 : ug39.2.1 (a 14) = 1 := by rw [hug39]; exact (psh_k m_a_14 na).trans k_a_14
  have m_a_14 : (a 14) ∈ ug39.1 := by rw [hug39]; exact psh_m m_a_14
  have k_a_18 : ug39.2.1 (a 18) = 3 := by rw [hug39]; exact (psh_k m_a_18 na).trans k_a_18
  have m_a_18 : (a 18) ∈ ug39.1 := by rw [hug39]; exact psh_m m_a_18
  have k_a_23 : ug39.2.1 (a 23) = 0 := by rw [hug39]; exact (psh_k m_a_23 na).trans k_a_23
  have m_a_23 : (a 23) ∈ ug39.1 := by rw [hug39]; exact psh_m m_a_23
  have k_a_25 : ug39.2.1 (a 25) = 24 := by rw [hug39]; exact (psh_k m_a_25 na).trans k_a_25
  have m_a_25 : (a 25) ∈ ug39.1 := by rw [hug39]; exact psh_m m_a_25
  have k_a_27 : ug39.2.1 (a 27) = 1 := by rw [hug39]; exact (psh_k m_a_27 na).trans k_a_27
  have m_a_27 : (a 27) ∈ ug39.1 := by rw [hug39]; exact psh_m m_a_27
  have k_a_31 : ug39.2.1 (a 31) = 6 := by rw [hug39]; exact (psh_k m_a_31 na).trans k_a_31
  have m_a_31 : (a 31) ∈ ug39.1 := by rw [hug39]; exact psh_m m_a_31
  have k_a_37 : ug39.2.1 (a 37) = 25 := by rw [hug39]; exact (psh_k m_a_37 na).trans k_a_37
  have m_a_37 : (a 37) ∈ ug39.1 := by rw [hug39]; exact psh_m m_a_37
  have k_a_38 : ug39.2.1 (a 38) = 25 := by rw [hug39]; exact (psh_k m_a_38 na).trans k_a_38
  have m_a_38 : (a 38) ∈ ug39.1 := by rw [hug39]; exact psh_m m_a_38
  have k_a_39 : ug39.2.1 (a 39) = 25 := by rw [hug39]; exact (psh_k m_a_39 na).trans k_a_39
  have m_a_39 : (a 39) ∈ ug39.1 := by rw [hug39]; exact psh_m m_a_39
  have k_a_40 : ug39.2.1 (a 40) = 26 := by rw [hug39]; exact (psh_k m_a_40 na).trans k_a_40
  have m_a_40 : (a 40) ∈ ug39.1 := by rw [hug39]; exact psh_m m_a_40
  have m_a_41 : (a 41) ∈ ug39.1 := by rw [hug39]; exact psh_in
  have k_a_41 : ug39.2.1 (a 41) = 26 := by rw [hug39]; exact psh_kd
  obtain ⟨hPn, hDn, na⟩ := psh_at (i := 3) (a := (a 42)) rfl hPn hDn 26 (fun _ => 0) (fun _ => 0) (fun _ => none) (by rw [cF26 psh_kd]; (try simp only [psh_I, psh_J, psh_R]) <;> rfl)
  have px40 := PX_psh (kd := 26) (I := (fun _ => 0)) (J := (fun _ => 0)) (R := (fun _ => none)) (PX.rf (u := ug39)) na
  have hu := WT_psh (kd := 26) (I := (fun _ => 0)) (J := (fun _ => 0)) (R := (fun _ => none)) hu na (fun s t h => (tk26 h).elim) (fun s t h => (tn26 h).elim) (fun h => absurd h (by decide)) (fun _ => trivial)
  obtain ⟨ug40, hug40⟩ : ∃ z, z = psh ug39 (a 42) 26 (fun _ => 0) (fun _ => 0) (fun _ => none) := ⟨_, rfl⟩
  rw [← hug40] at hPn hDn hu px40
  have hPn : va_P D vwCl ([(e0 k a), (e26 k a), (e36 k a), (e43 k a), (e44 k a), (e45 k a), (e46 k a), (e47 k a), (m0 k bb), (m1 k bb), (m2 k bb), (m3 k bb), (m4 k bb), (m5 k bb), (m6 k bb), (m7 k bb), (m8 k bb), (m9 k bb), (m10 k bb), (m11 k bb), (m12 k bb), (m13 k bb), (m14 k bb), (m15 k bb), (m16 k bb), (m17 k bb)] ++ PW k ug40) H := hPn
  have hDn : va_D A ([(e0 k a), (e26 k a), (e36 k a), (e43 k a), (e44 k a), (e45 k a), (e46 k a), (e47 k a), (m0 k bb), (m1 k bb), (m2 k bb), (m3 k bb), (m4 k bb), (m5 k bb), (m6 k bb), (m7 k bb), (m8 k bb), (m9 k bb), (m10 k bb), (m11 k bb), (m12 k bb), (m13 k bb), (m14 k bb), (m15 k bb), (m16 k bb), (m17 k bb)] ++ PW k ug40) := hDn
  have k_a_1 : ug40.2.1 (a 1) = 9 := by rw [hug40]; exact (psh_k m_a_1 na).trans k_a_1
  have m_a_1 : (a 1) ∈ ug40.1 := by rw [hug40]; exact psh_m m_a_1
  have k_a_3 : ug40.2.1 (a 3) = 40 := by rw [hug40]; exact (psh_k m_a_3 na).trans k_a_3
  have m_a_3 : (a 3) ∈ ug40.1 := by rw [hug40]; exact psh_m m_a_3
  have k_a_4 : ug40.2.1 (a 4) = 41 := by rw [hug40]; exact (psh_k m_a_4 na).trans k_a_4
  have m_a_4 : (a 4) ∈ ug40.1 := by rw [hug40]; exact psh_m m_a_4
  have k_a_13 : ug40.2.1 (a 13) = 8 := by rw [hug40]; exact (psh_k m_a_13 na).trans k_a_13
  have m_a_13 : (a 13) ∈ ug40.1 := by rw [hug40]; exact psh_m m_a_13
  have k_a_14 : ug40.2.1 (a 14) = 1 := by rw [hug40]; exact (psh_k m_a_14 na).trans k_a_14
  have m_a_14 : (a 14) ∈ ug40.1 := by rw [hug40]; exact psh_m m_a_14
  have k_a_18 : ug40.2.1 (a 18) = 3 := by rw [hug40]; exact (psh_k m_a_18 na).trans k_a_18
  have m_a_18 : (a 18) ∈ ug40.1 := by rw [hug40]; exact psh_m m_a_18
  have k_a_23 : ug40.2.1 (a 23) = 0 := by rw [hug40]; exact (psh_k m_a_23 na).trans k_a_23
  have m_a_23 : (a 23) ∈ ug40.1 := by rw [hug40]; exact psh_m m_a_23
  have k_a_25 : ug40.2.1 (a 25) = 24 := by rw [hug40]; exact (psh_k m_a_25 na).trans k_a_25
  have m_a_25 : (a 25) ∈ ug40.1 := by rw [hug40]; exact psh_m m_a_25
  have k_a_27 : ug40.2.1 (a 27) = 1 := by rw [hug40]; exact (psh_k m_a_27 na).trans k_a_27
  have m_a_27 : (a 27) ∈ ug40.1 := by rw [hug40]; exact psh_m m_a_27
  have k_a_31 : ug40.2.1 (a 31) = 6 := by rw [hug40]; exact (psh_k m_a_31 na).trans k_a_31
  have m_a_31 : (a 31) ∈ ug40.1 := by rw [hug40]; exact psh_m m_a_31
  have k_a_37 : ug40.2.1 (a 37) = 25 := by rw [hug40]; exact (psh_k m_a_37 na).trans k_a_37
  have m_a_37 : (a 37) ∈ ug40.1 := by rw [hug40]; exact psh_m m_a_37
  have k_a_38 : ug40.2.1 (a 38) = 25 := by rw [hug40]; exact (psh_k m_a_38 na).trans k_a_38
  have m_a_38 : (a 38) ∈ ug40.1 := by rw [hug40]; exact psh_m m_a_38
  have k_a_39 : ug40.2.1 (a 39) = 25 := by rw [hug40]; exact (psh_k m_a_39 na).trans k_a_39
  have m_a_39 : (a 39) ∈ ug40.1 := by rw [hug40]; exact psh_m m_a_39
  have k_a_40 : ug40.2.1 (a 40) = 26 := by rw [hug40]; exact (psh_k m_a_40 na).trans k_a_40
  have m_a_40 : (a 40) ∈ ug40.1 := by rw [hug40]; exact psh_m m_a_40
  have k_a_41 : ug40.2.1 (a 41) = 26 := by rw [hug40]; exact (psh_k m_a_41 na).trans k_a_41
  have m_a_41 : (a 41) ∈ ug40.1 := by rw [hug40]; exact psh_m m_a_41
  have m_a_42 : (a 42) ∈ ug40.1 := by rw [hug40]; exact psh_in
  have k_a_42 : ug40.2.1 (a 42) = 26 := by rw [hug40]; exact psh_kd
  obtain ⟨hPn, hDn, na⟩ := psh_at (i := 3) (a := (a 43)) rfl hPn hDn 31 (fun _ => 0) (fun _ => 0) (fun _ => none) (by rw [cF31 psh_kd]; (try simp only [psh_I, psh_J, psh_R]) <;> rfl)
  have px41 := PX_psh (kd := 31) (I := (fun _ => 0)) (J := (fun _ => 0)) (R := (fun _ => none)) (PX.rf (u := ug40)) na
  have hu := WT_psh (kd := 31) (I := (fun _ => 0)) (J := (fun _ => 0)) (R := (fun _ => none)) hu na (fun s t h => (tk31 h).elim) (fun s t h => (tn31 h).elim) (fun h => absurd h (by decide)) (fun _ => trivial)
  obtain ⟨ug41, hug41⟩ : ∃ z, z = psh ug40 (a 43) 31 (fun _ => 0) (fun _ => 0) (fun _ => none) := ⟨_, rfl⟩
  rw [← hug41] at hPn hDn hu px41
  have hPn : va_P D vwCl ([(e0 k a), (e26 k a), (e36 k a), (e44 k a), (e45 k a), (e46 k a), (e47 k a), (m0 k bb), (m1 k bb), (m2 k bb), (m3 k bb), (m4 k bb), (m5 k bb), (m6 k bb), (m7 k bb), (m8 k bb), (m9 k bb), (m10 k bb), (m11 k bb), (m12 k bb), (m13 k bb), (m14 k bb), (m15 k bb), (m16 k bb), (m17 k bb)] ++ PW k ug41) H := hPn
  have hDn : va_D A ([(e0 k a), (e26 k a), (e36 k a), (e44 k a), (e45 k a), (e46 k a), (e47 k a), (m0 k bb), (m1 k bb), (m2 k bb), (m3 k bb), (m4 k bb), (m5 k bb), (m6 k bb), (m7 k bb), (m8 k bb), (m9 k bb), (m10 k bb), (m11 k bb), (m12 k bb), (m13 k bb), (m14 k bb), (m15 k bb), (m16 k bb), (m17 k bb)] ++ PW k ug41) := hDn
  have k_a_1 : ug41.2.1 (a 1) = 9 := by rw [hug41]; exact (psh_k m_a_1 na).trans k_a_1
  have m_a_1 : (a 1) ∈ ug41.1 := by rw [hug41]; exact psh_m m_a_1
  have k_a_3 : ug41.2.1 (a 3) = 40 := by rw [hug41]; exact (psh_k m_a_3 na).trans k_a_3
  have m_a_3 : (a 3) ∈ ug41.1 := by rw [hug41]; exact psh_m m_a_3
  have k_a_4 : ug41.2.1 (a 4) = 41 := by rw [hug41]; exact (psh_k m_a_4 na).trans k_a_4
  have m_a_4 : (a 4) ∈ ug41.1 := by rw [hug41]; exact psh_m m_a_4
  have k_a_13 : ug41.2.1 (a 13) = 8 := by rw [hug41]; exact (psh_k m_a_13 na).trans k_a_13
  have m_a_13 : (a 13) ∈ ug41.1 := by rw [hug41]; exact psh_m m_a_13
  have k_a_14 : ug41.2.1 (a 14) = 1 := by rw [hug41]; exact (psh_k m_a_14 na).trans k_a_14
  have m_a_14 : (a 14) ∈ ug41.1 := by rw [hug41]; exact psh_m m_a_14
  have k_a_18 : ug41.2.1 (a 18) = 3 := by rw [hug41]; exact (psh_k m_a_18 na).trans k_a_18
  have m_a_18 : (a 18) ∈ ug41.1 := by rw [hug41]; exact psh_m m_a_18
  have k_a_23 : ug41.2.1 (a 23) = 0 := by rw [hug41]; exact (psh_k m_a_23 na).trans k_a_23
  have m_a_23 : (a 23) ∈ ug41.1 := by rw [hug41]; exact psh_m m_a_23
  have k_a_25 : ug41.2.1 (a 25) = 24 := by rw [hug41]; exact (psh_k m_a_25 na).trans k_a_25
  have m_a_25 : (a 25) ∈ ug41.1 := by rw [hug41]; exact psh_m m_a_25
  have k_a_27 : ug41.2.1 (a 27) = 1 := by rw [hug41]; exact (psh_k m_a_27 na).trans k_a_27
  have m_a_27 : (a 27) ∈ ug41.1 := by rw [hug41]; exact psh_m m_a_27
  have k_a_31 : ug41.2.1 (a 31) = 6 := by rw [hug41]; exact (psh_k m_a_31 na).trans k_a_31
  have m_a_31 : (a 31) ∈ ug41.1 := by rw [hug41]; exact psh_m m_a_31
  have k_a_37 : ug41.2.1 (a 37) = 25 := by rw [hug41]; exact (psh_k m_a_37 na).trans k_a_37
  have m_a_37 : (a 37) ∈ ug41.1 := by rw [hug41]; exact psh_m m_a_37
  have k_a_38 : ug41.2.1 (a 38) = 25 := by rw [hug41]; exact (psh_k m_a_38 na).trans k_a_38
  have m_a_38 : (a 38) ∈ ug41.1 := by rw [hug41]; exact psh_m m_a_38
  have k_a_39 : ug41.2.1 (a 39) = 25 := by rw [hug41]; exact (psh_k m_a_39 na).trans k_a_39
  have m_a_39 : (a 39) ∈ ug41.1 := by rw [hug41]; exact psh_m m_a_39
  have k_a_40 : ug41.2.1 (a 40) = 26 := by rw [hug41]; exact (psh_k m_a_40 na).trans k_a_40
  have m_a_40 : (a 40) ∈ ug41.1 := by rw [hug41]; exact psh_m m_a_40
  have k_a_41 : ug41.2.1 (a 41) = 26 := by rw [hug41]; exact (psh_k m_a_41 na).trans k_a_41
  have m_a_41 : (a 41) ∈ ug41.1 := by rw [hug41]; exact psh_m m_a_41
  have k_a_42 : ug41.2.1 (a 42) = 26 := by rw [hug41]; exact (psh_k m_a_42 na).trans k_a_42
  have m_a_42 : (a 42) ∈ ug41.1 := by rw [hug41]; exact psh_m m_a_42
  have m_a_43 : (a 43) ∈ ug41.1 := by rw [hug41]; exact psh_in
  have k_a_43 : ug41.2.1 (a 43) = 31 := by rw [hug41]; exact psh_kd
  obtain ⟨hPn, hDn, na⟩ := psh_at (i := 3) (a := (a 44)) rfl hPn hDn 32 (fun _ => 0) (fun _ => 0) (fun _ => none) (by rw [cF32 psh_kd]; (try simp only [psh_I, psh_J, psh_R]) <;> rfl)
  have px42 := PX_psh (kd := 32) (I := (fun _ => 0)) (J := (fun _ => 0)) (R := (fun _ => none)) (PX.rf (u := ug41)) na
  have hu := WT_psh (kd := 32) (I := (fun _ => 0)) (J := (fun _ => 0)) (R := (fun _ => none)) hu na (fun s t h => (tk32 h).elim) (fun s t h => (tn32 h).elim) (fun h => absurd h (by decide)) (fun _ => trivial)
  obtain ⟨ug42, hug42⟩ : ∃ z, z = psh ug41 (a 44) 32 (fun _ => 0) (fun _ => 0) (fun _ => none) := ⟨_, rfl⟩
  rw [← hug42] at hPn hDn hu px42
  have hPn : va_P D vwCl ([(e0 k a), (e26 k a), (e36 k a), (e45 k a), (e46 k a), (e47 k a), (m0 k bb), (m1 k bb), (m2 k bb), (m3 k bb), (m4 k bb), (m5 k bb), (m6 k bb), (m7 k bb), (m8 k bb), (m9 k bb), (m10 k bb), (m11 k bb), (m12 k bb), (m13 k bb), (m14 k bb), (m15 k bb), (m16 k bb), (m17 k bb)] ++ PW k ug42) H := hPn
  have hDn : va_D A ([(e0 k a), (e26 k a), (e36 k a), (e45 k a), (e46 k a), (e47 k a), (m0 k bb), (m1 k bb), (m2 k bb), (m3 k bb), (m4 k bb), (m5 k bb), (m6 k bb), (m7 k bb), (m8 k bb), (m9 k bb), (m10 k bb), (m11 k bb), (m12 k bb), (m13 k bb), (m14 k bb), (m15 k bb), (m16 k bb), (m17 k bb)] ++ PW k ug42) := hDn
  have k_a_1 : ug42.2.1 (a 1) = 9 := by rw [hug42]; exact (psh_k m_a_1 na).trans k_a_1
  have m_a_1 : (a 1) ∈ ug42.1 := by rw [hug42]; exact psh_m m_a_1
  have k_a_3 : ug42.2.1 (a 3) = 40 := by rw [hug42]; exact (psh_k m_a_3 na).trans k_a_3
  have m_a_3 : (a 3) ∈ ug42.1 := by rw [hug42]; exact psh_m m_a_3
  have k_a_4 : ug42.2.1 (a 4) = 41 := by rw [hug42]; exact (psh_k m_a_4 na).trans k_a_4
  have m_a_4 : (a 4) ∈ ug42.1 := by rw [hug42]; exact psh_m m_a_4
  have k_a_13 : ug42.2.1 (a 13) = 8 := by rw [hug42]; exact (psh_k m_a_13 na).trans k_a_13
  have m_a_13 : (a 13) ∈ ug42.1 := by rw [hug42]; exact psh_m m_a_13
  have k_a_14 : ug42.2.1 (a 14) = 1 := by rw [hug42]; exact (psh_k m_a_14 na).trans k_a_14
  have m_a_14 : (a 14) ∈ ug42.1 := by rw [hug42]; exact psh_m m_a_14
  have k_a_18 : ug42.2.1 (a 18) = 3 := by rw [hug42]; exact (psh_k m_a_18 na).trans k_a_18
  have m_a_18 : (a 18) ∈ ug42.1 := by rw [hug42]; exact psh_m m_a_18
  have k_a_23 : ug42.2.1 (a 23) = 0 := by rw [hug42]; exact (psh_k m_a_23 na).trans k_a_23
  have m_a_23 : (a 23) ∈ ug42.1 := by rw [hug42]; exact psh_m m_a_23
  have k_a_25 : ug42.2.1 (a 25) = 24 := by rw [hug42]; exact (psh_k m_a_25 na).trans k_a_25
  have m_a_25 : (a 25) ∈ ug42.1 := by rw [hug42]; exact psh_m m_a_25
  have k_a_27 : ug42.2.1 (a 27) = 1 := by rw [hug42]; exact (psh_k m_a_27 na).trans k_a_27
  have m_a_27 : (a 27) ∈ ug42.1 := by rw [hug42]; exact psh_m m_a_27
  have k_a_31 : ug42.2.1 (a 31) = 6 := by rw [hug42]; exact (psh_k m_a_31 na).trans k_a_31
  have m_a_31 : (a 31) ∈ ug42.1 := by rw [hug42]; exact psh_m m_a_31
  have k_a_37 : ug42.2.1 (a 37) = 25 := by rw [hug42]; exact (psh_k m_a_37 na).trans k_a_37
  have m_a_37 : (a 37) ∈ ug42.1 := by rw [hug42]; exact psh_m m_a_37
  have k_a_38 : ug42.2.1 (a 38) = 25 := by rw [hug42]; exact (psh_k m_a_38 na).trans k_a_38
  have m_a_38 : (a 38) ∈ ug42.1 := by rw [hug42]; exact psh_m m_a_38
  have k_a_39 : ug42.2.1 (a 39) = 25 := by rw [hug42]; exact (psh_k m_a_39 na).trans k_a_39
  have m_a_39 : (a 39) ∈ ug42.1 := by rw [hug42]; exact psh_m m_a_39
  have k_a_40 : ug42.2.1 (a 40) = 26 := by rw [hug42]; exact (psh_k m_a_40 na).trans k_a_40
  have m_a_40 : (a 40) ∈ ug42.1 := by rw [hug42]; exact psh_m m_a_40
  have k_a_41 : ug42.2.1 (a 41) = 26 := by rw [hug42]; exact (psh_k m_a_41 na).trans k_a_41
  have m_a_41 : (a 41) ∈ ug42.1 := by rw [hug42]; exact psh_m m_a_41
  have k_a_42 : ug42.2.1 (a 42) = 26 := by rw [hug42]; exact (psh_k m_a_42 na).trans k_a_42
  have m_a_42 : (a 42) ∈ ug42.1 := by rw [hug42]; exact psh_m m_a_42
  have k_a_43 : ug42.2.1 (a 43) = 31 := by rw [hug42]; exact (psh_k m_a_43 na).trans k_a_43
  have m_a_43 : (a 43) ∈ ug42.1 := by rw [hug42]; exact psh_m m_a_43
  have m_a_44 : (a 44) ∈ ug42.1 := by rw [hug42]; exact psh_in
  have k_a_44 : ug42.2.1 (a 44) = 32 := by rw [hug42]; exact psh_kd
  obtain ⟨hPn, hDn, na⟩ := psh_at (i := 2) (a := (a 36)) rfl hPn hDn 4 (fun s => ([0, 0, 0, 0, 0, 0, 0, 0, 0, 0, 0] : List Int32).getD s 0) (fun s => ([0, 0, 0, 0, 0, 0, 0, 0, 0, 0, 0] : List Int64).getD s 0) (fun s => ([none, none, none, some (a 37), some (a 38), some (a 39), some (a 40), some (a 41), some (a 42), some (a 43), some (a 44)] : List (Option Nat)).getD s none) (by rw [cF4 psh_kd]; (try simp only [psh_I, psh_J, psh_R]) <;> rfl)
  have px43 := PX_psh (kd := 4) (I := (fun s => ([0, 0, 0, 0, 0, 0, 0, 0, 0, 0, 0] : List Int32).getD s 0)) (J := (fun s => ([0, 0, 0, 0, 0, 0, 0, 0, 0, 0, 0] : List Int64).getD s 0)) (R := (fun s => ([none, none, none, some (a 37), some (a 38), some (a 39), some (a 40), some (a 41), some (a 42), some (a 43), some (a 44)] : List (Option Nat)).getD s none)) (PX.rf (u := ug42)) na
  have hu := WT_psh (kd := 4) (I := (fun s => ([0, 0, 0, 0, 0, 0, 0, 0, 0, 0, 0] : List Int32).getD s 0)) (J := (fun s => ([0, 0, 0, 0, 0, 0, 0, 0, 0, 0, 0] : List Int64).getD s 0)) (R := (fun s => ([none, none, none, some (a 37), some (a 38), some (a 39), some (a 40), some (a 41), some (a 42), some (a 43), some (a 44)] : List (Option Nat)).getD s none)) hu na (fun s t h => by rcases tk4 h with ⟨rfl, rfl⟩ | ⟨rfl, rfl⟩ | ⟨rfl, rfl⟩ | ⟨rfl, rfl⟩ | ⟨rfl, rfl⟩ | ⟨rfl, rfl⟩ | ⟨rfl, rfl⟩ | ⟨rfl, rfl⟩; exact ⟨_, rfl, m_a_37, k_a_37⟩; exact ⟨_, rfl, m_a_38, k_a_38⟩; exact ⟨_, rfl, m_a_39, k_a_39⟩; exact ⟨_, rfl, m_a_40, k_a_40⟩; exact ⟨_, rfl, m_a_41, k_a_41⟩; exact ⟨_, rfl, m_a_42, k_a_42⟩; exact ⟨_, rfl, m_a_43, k_a_43⟩; exact ⟨_, rfl, m_a_44, k_a_44⟩) (fun s t h => (tn4 h).elim) (fun h => absurd h (by decide)) (fun _ => trivial)
  obtain ⟨ug43, hug43⟩ : ∃ z, z = psh ug42 (a 36) 4 (fun s => ([0, 0, 0, 0, 0, 0, 0, 0, 0, 0, 0] : List Int32).getD s 0) (fun s => ([0, 0, 0, 0, 0, 0, 0, 0, 0, 0, 0] : List Int64).getD s 0) (fun s => ([none, none, none, some (a 37), some (a 38), some (a 39), some (a 40), some (a 41), some (a 42), some (a 43), some (a 44)] : List (Option Nat)).getD s none) := ⟨_, rfl⟩
  rw [← hug43] at hPn hDn hu px43
  have hPn : va_P D vwCl ([(e0 k a), (e26 k a), (e45 k a), (e46 k a), (e47 k a), (m0 k bb), (m1 k bb), (m2 k bb), (m3 k bb), (m4 k bb), (m5 k bb), (m6 k bb), (m7 k bb), (m8 k bb), (m9 k bb), (m10 k bb), (m11 k bb), (m12 k bb), (m13 k bb), (m14 k bb), (m15 k bb), (m16 k bb), (m17 k bb)] ++ PW k ug43) H := hPn
  have hDn : va_D A ([(e0 k a), (e26 k a), (e45 k a), (e46 k a), (e47 k a), (m0 k bb), (m1 k bb), (m2 k bb), (m3 k bb), (m4 k bb), (m5 k bb), (m6 k bb), (m7 k bb), (m8 k bb), (m9 k bb), (m10 k bb), (m11 k bb), (m12 k bb), (m13 k bb), (m14 k bb), (m15 k bb), (m16 k bb), (m17 k bb)] ++ PW k ug43) := hDn
  have k_a_1 : ug43.2.1 (a 1) = 9 := by rw [hug43]; exact (psh_k m_a_1 na).trans k_a_1
  have m_a_1 : (a 1) ∈ ug43.1 := by rw [hug43]; exact psh_m m_a_1
  have k_a_3 : ug43.2.1 (a 3) = 40 := by rw [hug43]; exact (psh_k m_a_3 na).trans k_a_3
  have m_a_3 : (a 3) ∈ ug43.1 := by rw [hug43]; exact psh_m m_a_3
  have k_a_4 : ug43.2.1 (a 4) = 41 := by rw [hug43]; exact (psh_k m_a_4 na).trans k_a_4
  have m_a_4 : (a 4) ∈ ug43.1 := by rw [hug43]; exact psh_m m_a_4
  have k_a_13 : ug43.2.1 (a 13) = 8 := by rw [hug43]; exact (psh_k m_a_13 na).trans k_a_13
  have m_a_13 : (a 13) ∈ ug43.1 := by rw [hug43]; exact psh_m m_a_13
  have k_a_14 : ug43.2.1 (a 14) = 1 := by rw [hug43]; exact (psh_k m_a_14 na).trans k_a_14
  have m_a_14 : (a 14) ∈ ug43.1 := by rw [hug43]; exact psh_m m_a_14
  have k_a_18 : ug43.2.1 (a 18) = 3 := by rw [hug43]; exact (psh_k m_a_18 na).trans k_a_18
  have m_a_18 : (a 18) ∈ ug43.1 := by rw [hug43]; exact psh_m m_a_18
  have k_a_23 : ug43.2.1 (a 23) = 0 := by rw [hug43]; exact (psh_k m_a_23 na).trans k_a_23
  have m_a_23 : (a 23) ∈ ug43.1 := by rw [hug43]; exact psh_m m_a_23
  have k_a_25 : ug43.2.1 (a 25) = 24 := by rw [hug43]; exact (psh_k m_a_25 na).trans k_a_25
  have m_a_25 : (a 25) ∈ ug43.1 := by rw [hug43]; exact psh_m m_a_25
  have k_a_27 : ug43.2.1 (a 27) = 1 := by rw [hug43]; exact (psh_k m_a_27 na).trans k_a_27
  have m_a_27 : (a 27) ∈ ug43.1 := by rw [hug43]; exact psh_m m_a_27
  have k_a_31 : ug43.2.1 (a 31) = 6 := by rw [hug43]; exact (psh_k m_a_31 na).trans k_a_31
  have m_a_31 : (a 31) ∈ ug43.1 := by rw [hug43]; exact psh_m m_a_31
  have k_a_37 : ug43.2.1 (a 37) = 25 := by rw [hug43]; exact (psh_k m_a_37 na).trans k_a_37
  have m_a_37 : (a 37) ∈ ug43.1 := by rw [hug43]; exact psh_m m_a_37
  have k_a_38 : ug43.2.1 (a 38) = 25 := by rw [hug43]; exact (psh_k m_a_38 na).trans k_a_38
  have m_a_38 : (a 38) ∈ ug43.1 := by rw [hug43]; exact psh_m m_a_38
  have k_a_39 : ug43.2.1 (a 39) = 25 := by rw [hug43]; exact (psh_k m_a_39 na).trans k_a_39
  have m_a_39 : (a 39) ∈ ug43.1 := by rw [hug43]; exact psh_m m_a_39
  have k_a_40 : ug43.2.1 (a 40) = 26 := by rw [hug43]; exact (psh_k m_a_40 na).trans k_a_40
  have m_a_40 : (a 40) ∈ ug43.1 := by rw [hug43]; exact psh_m m_a_40
  have k_a_41 : ug43.2.1 (a 41) = 26 := by rw [hug43]; exact (psh_k m_a_41 na).trans k_a_41
  have m_a_41 : (a 41) ∈ ug43.1 := by rw [hug43]; exact psh_m m_a_41
  have k_a_42 : ug43.2.1 (a 42) = 26 := by rw [hug43]; exact (psh_k m_a_42 na).trans k_a_42
  have m_a_42 : (a 42) ∈ ug43.1 := by rw [hug43]; exact psh_m m_a_42
  have k_a_43 : ug43.2.1 (a 43) = 31 := by rw [hug43]; exact (psh_k m_a_43 na).trans k_a_43
  have m_a_43 : (a 43) ∈ ug43.1 := by rw [hug43]; exact psh_m m_a_43
  have k_a_44 : ug43.2.1 (a 44) = 32 := by rw [hug43]; exact (psh_k m_a_44 na).trans k_a_44
  have m_a_44 : (a 44) ∈ ug43.1 := by rw [hug43]; exact psh_m m_a_44
  have m_a_36 : (a 36) ∈ ug43.1 := by rw [hug43]; exact psh_in
  have k_a_36 : ug43.2.1 (a 36) = 4 := by rw [hug43]; exact psh_kd
  obtain ⟨hPn, hDn, na⟩ := psh_at (i := 2) (a := (a 45)) rfl hPn hDn 27 (fun _ => 0) (fun _ => 0) (fun _ => none) (by rw [cF27 psh_kd]; (try simp only [psh_I, psh_J, psh_R]) <;> rfl)
  have px44 := PX_psh (kd := 27) (I := (fun _ => 0)) (J := (fun _ => 0)) (R := (fun _ => none)) (PX.rf (u := ug43)) na
  have hu := WT_psh (kd := 27) (I := (fun _ => 0)) (J := (fun _ => 0)) (R := (fun _ => none)) hu na (fun s t h => (tk27 h).elim) (fun s t h => (tn27 h).elim) (fun h => absurd h (by decide)) (fun _ => trivial)
  obtain ⟨ug44, hug44⟩ : ∃ z, z = psh ug43 (a 45) 27 (fun _ => 0) (fun _ => 0) (fun _ => none) := ⟨_, rfl⟩
  rw [← hug44] at hPn hDn hu px44
  have hPn : va_P D vwCl ([(e0 k a), (e26 k a), (e46 k a), (e47 k a), (m0 k bb), (m1 k bb), (m2 k bb), (m3 k bb), (m4 k bb), (m5 k bb), (m6 k bb), (m7 k bb), (m8 k bb), (m9 k bb), (m10 k bb), (m11 k bb), (m12 k bb), (m13 k bb), (m14 k bb), (m15 k bb), (m16 k bb), (m17 k bb)] ++ PW k ug44) H := hPn
  have hDn : va_D A ([(e0 k a), (e26 k a), (e46 k a), (e47 k a), (m0 k bb), (m1 k bb), (m2 k bb), (m3 k bb), (m4 k bb), (m5 k bb), (m6 k bb), (m7 k bb), (m8 k bb), (m9 k bb), (m10 k bb), (m11 k bb), (m12 k bb), (m13 k bb), (m14 k bb), (m15 k bb), (m16 k bb), (m17 k bb)] ++ PW k ug44) := hDn
  have k_a_1 : ug44.2.1 (a 1) = 9 := by rw [hug44]; exact (psh_k m_a_1 na).trans k_a_1
  have m_a_1 : (a 1) ∈ ug44.1 := by rw [hug44]; exact psh_m m_a_1
  have k_a_3 : ug44.2.1 (a 3) = 40 := by rw [hug44]; exact (psh_k m_a_3 na).trans k_a_3
  have m_a_3 : (a 3) ∈ ug44.1 := by rw [hug44]; exact psh_m m_a_3
  have k_a_4 : ug44.2.1 (a 4) = 41 := by rw [hug44]; exact (psh_k m_a_4 na).trans k_a_4
  have m_a_4 : (a 4) ∈ ug44.1 := by rw [hug44]; exact psh_m m_a_4
  have k_a_13 : ug44.2.1 (a 13) = 8 := by rw [hug44]; exact (psh_k m_a_13 na).trans k_a_13
  have m_a_13 : (a 13) ∈ ug44.1 := by rw [hug44]; exact psh_m m_a_13
  have k_a_14 : ug44.2.1 (a 14) = 1 := by rw [hug44]; exact (psh_k m_a_14 na).trans k_a_14
  have m_a_14 : (a 14) ∈ ug44.1 := by rw [hug44]; exact psh_m m_a_14
  have k_a_18 : ug44.2.1 (a 18) = 3 := by rw [hug44]; exact (psh_k m_a_18 na).trans k_a_18
  have m_a_18 : (a 18) ∈ ug44.1 := by rw [hug44]; exact psh_m m_a_18
  have k_a_23 : ug44.2.1 (a 23) = 0 := by rw [hug44]; exact (psh_k m_a_23 na).trans k_a_23
  have m_a_23 : (a 23) ∈ ug44.1 := by rw [hug44]; exact psh_m m_a_23
  have k_a_25 : ug44.2.1 (a 25) = 24 := by rw [hug44]; exact (psh_k m_a_25 na).trans k_a_25
  have m_a_25 : (a 25) ∈ ug44.1 := by rw [hug44]; exact psh_m m_a_25
  have k_a_27 : ug44.2.1 (a 27) = 1 := by rw [hug44]; exact (psh_k m_a_27 na).trans k_a_27
  have m_a_27 : (a 27) ∈ ug44.1 := by rw [hug44]; exact psh_m m_a_27
  have k_a_31 : ug44.2.1 (a 31) = 6 := by rw [hug44]; exact (psh_k m_a_31 na).trans k_a_31
  have m_a_31 : (a 31) ∈ ug44.1 := by rw [hug44]; exact psh_m m_a_31
  have k_a_36 : ug44.2.1 (a 36) = 4 := by rw [hug44]; exact (psh_k m_a_36 na).trans k_a_36
  have m_a_36 : (a 36) ∈ ug44.1 := by rw [hug44]; exact psh_m m_a_36
  have m_a_45 : (a 45) ∈ ug44.1 := by rw [hug44]; exact psh_in
  have k_a_45 : ug44.2.1 (a 45) = 27 := by rw [hug44]; exact psh_kd
  obtain ⟨hPn, hDn, na⟩ := psh_at (i := 2) (a := (a 46)) rfl hPn hDn 27 (fun _ => 0) (fun _ => 0) (fun _ => none) (by rw [cF27 psh_kd]; (try simp only [psh_I, psh_J, psh_R]) <;> rfl)
  have px45 := PX_psh (kd := 27) (I := (fun _ => 0)) (J := (fun _ => 0)) (R := (fun _ => none)) (PX.rf (u := ug44)) na
  have hu := WT_psh (kd := 27) (I := (fun _ => 0)) (J := (fun _ => 0)) (R := (fun _ => none)) hu na (fun s t h => (tk27 h).elim) (fun s t h => (tn27 h).elim) (fun h => absurd h (by decide)) (fun _ => trivial)
  obtain ⟨ug45, hug45⟩ : ∃ z, z = psh ug44 (a 46) 27 (fun _ => 0) (fun _ => 0) (fun _ => none) := ⟨_, rfl⟩
  rw [← hug45] at hPn hDn hu px45
  have hPn : va_P D vwCl ([(e0 k a), (e26 k a), (e47 k a), (m0 k bb), (m1 k bb), (m2 k bb), (m3 k bb), (m4 k bb), (m5 k bb), (m6 k bb), (m7 k bb), (m8 k bb), (m9 k bb), (m10 k bb), (m11 k bb), (m12 k bb), (m13 k bb), (m14 k bb), (m15 k bb), (m16 k bb), (m17 k bb)] ++ PW k ug45) H := hPn
  have hDn : va_D A ([(e0 k a), (e26 k a), (e47 k a), (m0 k bb), (m1 k bb), (m2 k bb), (m3 k bb), (m4 k bb), (m5 k bb), (m6 k bb), (m7 k bb), (m8 k bb), (m9 k bb), (m10 k bb), (m11 k bb), (m12 k bb), (m13 k bb), (m14 k bb), (m15 k bb), (m16 k bb), (m17 k bb)] ++ PW k ug45) := hDn
  have k_a_1 : ug45.2.1 (a 1) = 9 := by rw [hug45]; exact (psh_k m_a_1 na).trans k_a_1
  have m_a_1 : (a 1) ∈ ug45.1 := by rw [hug45]; exact psh_m m_a_1
  have k_a_3 : ug45.2.1 (a 3) = 40 := by rw [hug45]; exact (psh_k m_a_3 na).trans k_a_3
  have m_a_3 : (a 3) ∈ ug45.1 := by rw [hug45]; exact psh_m m_a_3
  have k_a_4 : ug45.2.1 (a 4) = 41 := by rw [hug45]; exact (psh_k m_a_4 na).trans k_a_4
  have m_a_4 : (a 4) ∈ ug45.1 := by rw [hug45]; exact psh_m m_a_4
  have k_a_13 : ug45.2.1 (a 13) = 8 := by rw [hug45]; exact (psh_k m_a_13 na).trans k_a_13
  have m_a_13 : (a 13) ∈ ug45.1 := by rw [hug45]; exact psh_m m_a_13
  have k_a_14 : ug45.2.1 (a 14) = 1 := by rw [hug45]; exact (psh_k m_a_14 na).trans k_a_14
  have m_a_14 : (a 14) ∈ ug45.1 := by rw [hug45]; exact psh_m m_a_14
  have k_a_18 : ug45.2.1 (a 18) = 3 := by rw [hug45]; exact (psh_k m_a_18 na).trans k_a_18
  have m_a_18 : (a 18) ∈ ug45.1 := by rw [hug45]; exact psh_m m_a_18
  have k_a_23 : ug45.2.1 (a 23) = 0 := by rw [hug45]; exact (psh_k m_a_23 na).trans k_a_23
  have m_a_23 : (a 23) ∈ ug45.1 := by rw [hug45]; exact psh_m m_a_23
  have k_a_25 : ug45.2.1 (a 25) = 24 := by rw [hug45]; exact (psh_k m_a_25 na).trans k_a_25
  have m_a_25 : (a 25) ∈ ug45.1 := by rw [hug45]; exact psh_m m_a_25
  have k_a_27 : ug45.2.1 (a 27) = 1 := by rw [hug45]; exact (psh_k m_a_27 na).trans k_a_27
  have m_a_27 : (a 27) ∈ ug45.1 := by rw [hug45]; exact psh_m m_a_27
  have k_a_31 : ug45.2.1 (a 31) = 6 := by rw [hug45]; exact (psh_k m_a_31 na).trans k_a_31
  have m_a_31 : (a 31) ∈ ug45.1 := by rw [hug45]; exact psh_m m_a_31
  have k_a_36 : ug45.2.1 (a 36) = 4 := by rw [hug45]; exact (psh_k m_a_36 na).trans k_a_36
  have m_a_36 : (a 36) ∈ ug45.1 := by rw [hug45]; exact psh_m m_a_36
  have k_a_45 : ug45.2.1 (a 45) = 27 := by rw [hug45]; exact (psh_k m_a_45 na).trans k_a_45
  have m_a_45 : (a 45) ∈ ug45.1 := by rw [hug45]; exact psh_m m_a_45
  have m_a_46 : (a 46) ∈ ug45.1 := by rw [hug45]; exact psh_in
  have k_a_46 : ug45.2.1 (a 46) = 27 := by rw [hug45]; exact psh_kd
  obtain ⟨hPn, hDn, na⟩ := psh_at (i := 2) (a := (a 47)) rfl hPn hDn 42 (fun _ => 0) (fun _ => 0) ((fun _ => none)) (by rw [cF42 psh_kd]; (try simp only [psh_I, psh_J, psh_R]) <;> rfl)
  have px46 := PX_psh (kd := 42) (I := (fun _ => 0)) (J := (fun _ => 0)) (R := ((fun _ => none))) (PX.rf (u := ug45)) na
  have hu := WT_psh (kd := 42) (I := (fun _ => 0)) (J := (fun _ => 0)) (R := ((fun _ => none))) hu na (fun s t h => (tk42 h).elim) (fun s t h => Or.inl rfl) (fun h => absurd h (by decide)) (fun _ => trivial)
  obtain ⟨ug46, hug46⟩ : ∃ z, z = psh ug45 (a 47) 42 (fun _ => 0) (fun _ => 0) ((fun _ => none)) := ⟨_, rfl⟩
  rw [← hug46] at hPn hDn hu px46
  have hPn : va_P D vwCl ([(e0 k a), (e26 k a), (m0 k bb), (m1 k bb), (m2 k bb), (m3 k bb), (m4 k bb), (m5 k bb), (m6 k bb), (m7 k bb), (m8 k bb), (m9 k bb), (m10 k bb), (m11 k bb), (m12 k bb), (m13 k bb), (m14 k bb), (m15 k bb), (m16 k bb), (m17 k bb)] ++ PW k ug46) H := hPn
  have hDn : va_D A ([(e0 k a), (e26 k a), (m0 k bb), (m1 k bb), (m2 k bb), (m3 k bb), (m4 k bb), (m5 k bb), (m6 k bb), (m7 k bb), (m8 k bb), (m9 k bb), (m10 k bb), (m11 k bb), (m12 k bb), (m13 k bb), (m14 k bb), (m15 k bb), (m16 k bb), (m17 k bb)] ++ PW k ug46) := hDn
  have k_a_1 : ug46.2.1 (a 1) = 9 := by rw [hug46]; exact (psh_k m_a_1 na).trans k_a_1
  have m_a_1 : (a 1) ∈ ug46.1 := by rw [hug46]; exact psh_m m_a_1
  have k_a_3 : ug46.2.1 (a 3) = 40 := by rw [hug46]; exact (psh_k m_a_3 na).trans k_a_3
  have m_a_3 : (a 3) ∈ ug46.1 := by rw [hug46]; exact psh_m m_a_3
  have k_a_4 : ug46.2.1 (a 4) = 41 := by rw [hug46]; exact (psh_k m_a_4 na).trans k_a_4
  have m_a_4 : (a 4) ∈ ug46.1 := by rw [hug46]; exact psh_m m_a_4
  have k_a_13 : ug46.2.1 (a 13) = 8 := by rw [hug46]; exact (psh_k m_a_13 na).trans k_a_13
  have m_a_13 : (a 13) ∈ ug46.1 := by rw [hug46]; exact psh_m m_a_13
  have k_a_14 : ug46.2.1 (a 14) = 1 := by rw [hug46]; exact (psh_k m_a_14 na).trans k_a_14
  have m_a_14 : (a 14) ∈ ug46.1 := by rw [hug46]; exact psh_m m_a_14
  have k_a_18 : ug46.2.1 (a 18) = 3 := by rw [hug46]; exact (psh_k m_a_18 na).trans k_a_18
  have m_a_18 : (a 18) ∈ ug46.1 := by rw [hug46]; exact psh_m m_a_18
  have k_a_23 : ug46.2.1 (a 23) = 0 := by rw [hug46]; exact (psh_k m_a_23 na).trans k_a_23
  have m_a_23 : (a 23) ∈ ug46.1 := by rw [hug46]; exact psh_m m_a_23
  have k_a_25 : ug46.2.1 (a 25) = 24 := by rw [hug46]; exact (psh_k m_a_25 na).trans k_a_25
  have m_a_25 : (a 25) ∈ ug46.1 := by rw [hug46]; exact psh_m m_a_25
  have k_a_27 : ug46.2.1 (a 27) = 1 := by rw [hug46]; exact (psh_k m_a_27 na).trans k_a_27
  have m_a_27 : (a 27) ∈ ug46.1 := by rw [hug46]; exact psh_m m_a_27
  have k_a_31 : ug46.2.1 (a 31) = 6 := by rw [hug46]; exact (psh_k m_a_31 na).trans k_a_31
  have m_a_31 : (a 31) ∈ ug46.1 := by rw [hug46]; exact psh_m m_a_31
  have k_a_36 : ug46.2.1 (a 36) = 4 := by rw [hug46]; exact (psh_k m_a_36 na).trans k_a_36
  have m_a_36 : (a 36) ∈ ug46.1 := by rw [hug46]; exact psh_m m_a_36
  have k_a_45 : ug46.2.1 (a 45) = 27 := by rw [hug46]; exact (psh_k m_a_45 na).trans k_a_45
  have m_a_45 : (a 45) ∈ ug46.1 := by rw [hug46]; exact psh_m m_a_45
  have k_a_46 : ug46.2.1 (a 46) = 27 := by rw [hug46]; exact (psh_k m_a_46 na).trans k_a_46
  have m_a_46 : (a 46) ∈ ug46.1 := by rw [hug46]; exact psh_m m_a_46
  have m_a_47 : (a 47) ∈ ug46.1 := by rw [hug46]; exact psh_in
  have k_a_47 : ug46.2.1 (a 47) = 42 := by rw [hug46]; exact psh_kd
  obtain ⟨hPn, hDn, na⟩ := psh_at (i := 1) (a := (a 26)) rfl hPn hDn 10 (fun s => ([0, 0, 0, 0, 0, 0, 0, 0, 0, 0, 0, 0] : List Int32).getD s 0) (fun s => ([0, 0, 0, 0, 0, 0, 0, 0, 0, 0, 0, 0] : List Int64).getD s 0) (fun s => ([some (a 27), some (a 31), some (a 36), none, none, none, none, none, none, some (a 45), some (a 46), some (a 47)] : List (Option Nat)).getD s none) (by rw [cF10 psh_kd]; (try simp only [psh_I, psh_J, psh_R]) <;> rfl)
  have px47 := PX_psh (kd := 10) (I := (fun s => ([0, 0, 0, 0, 0, 0, 0, 0, 0, 0, 0, 0] : List Int32).getD s 0)) (J := (fun s => ([0, 0, 0, 0, 0, 0, 0, 0, 0, 0, 0, 0] : List Int64).getD s 0)) (R := (fun s => ([some (a 27), some (a 31), some (a 36), none, none, none, none, none, none, some (a 45), some (a 46), some (a 47)] : List (Option Nat)).getD s none)) (PX.rf (u := ug46)) na
  have hu := WT_psh (kd := 10) (I := (fun s => ([0, 0, 0, 0, 0, 0, 0, 0, 0, 0, 0, 0] : List Int32).getD s 0)) (J := (fun s => ([0, 0, 0, 0, 0, 0, 0, 0, 0, 0, 0, 0] : List Int64).getD s 0)) (R := (fun s => ([some (a 27), some (a 31), some (a 36), none, none, none, none, none, none, some (a 45), some (a 46), some (a 47)] : List (Option Nat)).getD s none)) hu na (fun s t h => by rcases tk10 h with ⟨rfl, rfl⟩ | ⟨rfl, rfl⟩ | ⟨rfl, rfl⟩ | ⟨rfl, rfl⟩ | ⟨rfl, rfl⟩ | ⟨rfl, rfl⟩; exact ⟨_, rfl, m_a_27, k_a_27⟩; exact ⟨_, rfl, m_a_31, k_a_31⟩; exact ⟨_, rfl, m_a_36, k_a_36⟩; exact ⟨_, rfl, m_a_45, k_a_45⟩; exact ⟨_, rfl, m_a_46, k_a_46⟩; exact ⟨_, rfl, m_a_47, k_a_47⟩) (fun s t h => (tn10 h).elim) (fun h => absurd h (by decide)) (fun s => okz10 s)
  obtain ⟨ug47, hug47⟩ : ∃ z, z = psh ug46 (a 26) 10 (fun s => ([0, 0, 0, 0, 0, 0, 0, 0, 0, 0, 0, 0] : List Int32).getD s 0) (fun s => ([0, 0, 0, 0, 0, 0, 0, 0, 0, 0, 0, 0] : List Int64).getD s 0) (fun s => ([some (a 27), some (a 31), some (a 36), none, none, none, none, none, none, some (a 45), some (a 46), some (a 47)] : List (Option Nat)).getD s none) := ⟨_, rfl⟩
  rw [← hug47] at hPn hDn hu px47
  have hPn : va_P D vwCl ([(e0 k a), (m0 k bb), (m1 k bb), (m2 k bb), (m3 k bb), (m4 k bb), (m5 k bb), (m6 k bb), (m7 k bb), (m8 k bb), (m9 k bb), (m10 k bb), (m11 k bb), (m12 k bb), (m13 k bb), (m14 k bb), (m15 k bb), (m16 k bb), (m17 k bb)] ++ PW k ug47) H := hPn
  have hDn : va_D A ([(e0 k a), (m0 k bb), (m1 k bb), (m2 k bb), (m3 k bb), (m4 k bb), (m5 k bb), (m6 k bb), (m7 k bb), (m8 k bb), (m9 k bb), (m10 k bb), (m11 k bb), (m12 k bb), (m13 k bb), (m14 k bb), (m15 k bb), (m16 k bb), (m17 k bb)] ++ PW k ug47) := hDn
  have k_a_1 : ug47.2.1 (a 1) = 9 := by rw [hug47]; exact (psh_k m_a_1 na).trans k_a_1
  have m_a_1 : (a 1) ∈ ug47.1 := by rw [hug47]; exact psh_m m_a_1
  have k_a_3 : ug47.2.1 (a 3) = 40 := by rw [hug47]; exact (psh_k m_a_3 na).trans k_a_3
  have m_a_3 : (a 3) ∈ ug47.1 := by rw [hug47]; exact psh_m m_a_3
  have k_a_4 : ug47.2.1 (a 4) = 41 := by rw [hug47]; exact (psh_k m_a_4 na).trans k_a_4
  have m_a_4 : (a 4) ∈ ug47.1 := by rw [hug47]; exact psh_m m_a_4
  have k_a_13 : ug47.2.1 (a 13) = 8 := by rw [hug47]; exact (psh_k m_a_13 na).trans k_a_13
  have m_a_13 : (a 13) ∈ ug47.1 := by rw [hug47]; exact psh_m m_a_13
  have k_a_14 : ug47.2.1 (a 14) = 1 := by rw [hug47]; exact (psh_k m_a_14 na).trans k_a_14
  have m_a_14 : (a 14) ∈ ug47.1 := by rw [hug47]; exact psh_m m_a_14
  have k_a_18 : ug47.2.1 (a 18) = 3 := by rw [hug47]; exact (psh_k m_a_18 na).trans k_a_18
  have m_a_18 : (a 18) ∈ ug47.1 := by rw [hug47]; exact psh_m m_a_18
  have k_a_23 : ug47.2.1 (a 23) = 0 := by rw [hug47]; exact (psh_k m_a_23 na).trans k_a_23
  have m_a_23 : (a 23) ∈ ug47.1 := by rw [hug47]; exact psh_m m_a_23
  have k_a_25 : ug47.2.1 (a 25) = 24 := by rw [hug47]; exact (psh_k m_a_25 na).trans k_a_25
  have m_a_25 : (a 25) ∈ ug47.1 := by rw [hug47]; exact psh_m m_a_25
  have k_a_27 : ug47.2.1 (a 27) = 1 := by rw [hug47]; exact (psh_k m_a_27 na).trans k_a_27
  have m_a_27 : (a 27) ∈ ug47.1 := by rw [hug47]; exact psh_m m_a_27
  have k_a_31 : ug47.2.1 (a 31) = 6 := by rw [hug47]; exact (psh_k m_a_31 na).trans k_a_31
  have m_a_31 : (a 31) ∈ ug47.1 := by rw [hug47]; exact psh_m m_a_31
  have k_a_36 : ug47.2.1 (a 36) = 4 := by rw [hug47]; exact (psh_k m_a_36 na).trans k_a_36
  have m_a_36 : (a 36) ∈ ug47.1 := by rw [hug47]; exact psh_m m_a_36
  have k_a_45 : ug47.2.1 (a 45) = 27 := by rw [hug47]; exact (psh_k m_a_45 na).trans k_a_45
  have m_a_45 : (a 45) ∈ ug47.1 := by rw [hug47]; exact psh_m m_a_45
  have k_a_46 : ug47.2.1 (a 46) = 27 := by rw [hug47]; exact (psh_k m_a_46 na).trans k_a_46
  have m_a_46 : (a 46) ∈ ug47.1 := by rw [hug47]; exact psh_m m_a_46
  have k_a_47 : ug47.2.1 (a 47) = 42 := by rw [hug47]; exact (psh_k m_a_47 na).trans k_a_47
  have m_a_47 : (a 47) ∈ ug47.1 := by rw [hug47]; exact psh_m m_a_47
  have m_a_26 : (a 26) ∈ ug47.1 := by rw [hug47]; exact psh_in
  have k_a_26 : ug47.2.1 (a 26) = 10 := by rw [hug47]; exact psh_kd
  obtain ⟨hPn, hDn, na⟩ := psh_at (i := 0) (a := (a 0)) rfl hPn hDn 11 (fun s => ([0, 0, 0, 0, 0, 0, 0, 0, 0, 0, (-1)] : List Int32).getD s 0) (fun s => ([0, 0, 0, 0, 0, 0, 0, 0, 0, 0, 0] : List Int64).getD s 0) (fun s => ([some (a 1), some (a 3), some (a 4), some (a 13), some (a 14), some (a 18), some (a 23), some (a 25), some (a 26), none, none] : List (Option Nat)).getD s none) (by rw [cF11 psh_kd]; (try simp only [psh_I, psh_J, psh_R]) <;> rfl)
  have px48 := PX_psh (kd := 11) (I := (fun s => ([0, 0, 0, 0, 0, 0, 0, 0, 0, 0, (-1)] : List Int32).getD s 0)) (J := (fun s => ([0, 0, 0, 0, 0, 0, 0, 0, 0, 0, 0] : List Int64).getD s 0)) (R := (fun s => ([some (a 1), some (a 3), some (a 4), some (a 13), some (a 14), some (a 18), some (a 23), some (a 25), some (a 26), none, none] : List (Option Nat)).getD s none)) (PX.rf (u := ug47)) na
  have hu := WT_psh (kd := 11) (I := (fun s => ([0, 0, 0, 0, 0, 0, 0, 0, 0, 0, (-1)] : List Int32).getD s 0)) (J := (fun s => ([0, 0, 0, 0, 0, 0, 0, 0, 0, 0, 0] : List Int64).getD s 0)) (R := (fun s => ([some (a 1), some (a 3), some (a 4), some (a 13), some (a 14), some (a 18), some (a 23), some (a 25), some (a 26), none, none] : List (Option Nat)).getD s none)) hu na (fun s t h => by rcases tk11 h with ⟨rfl, rfl⟩ | ⟨rfl, rfl⟩ | ⟨rfl, rfl⟩ | ⟨rfl, rfl⟩ | ⟨rfl, rfl⟩ | ⟨rfl, rfl⟩ | ⟨rfl, rfl⟩ | ⟨rfl, rfl⟩ | ⟨rfl, rfl⟩; exact ⟨_, rfl, m_a_1, k_a_1⟩; exact ⟨_, rfl, m_a_3, k_a_3⟩; exact ⟨_, rfl, m_a_4, k_a_4⟩; exact ⟨_, rfl, m_a_13, k_a_13⟩; exact ⟨_, rfl, m_a_14, k_a_14⟩; exact ⟨_, rfl, m_a_18, k_a_18⟩; exact ⟨_, rfl, m_a_23, k_a_23⟩; exact ⟨_, rfl, m_a_25, k_a_25⟩; exact ⟨_, rfl, m_a_26, k_a_26⟩) (fun s t h => (tn11 h).elim) (fun h => absurd h (by decide)) (fun _ => trivial)
  obtain ⟨ug48, hug48⟩ : ∃ z, z = psh ug47 (a 0) 11 (fun s => ([0, 0, 0, 0, 0, 0, 0, 0, 0, 0, (-1)] : List Int32).getD s 0) (fun s => ([0, 0, 0, 0, 0, 0, 0, 0, 0, 0, 0] : List Int64).getD s 0) (fun s => ([some (a 1), some (a 3), some (a 4), some (a 13), some (a 14), some (a 18), some (a 23), some (a 25), some (a 26), none, none] : List (Option Nat)).getD s none) := ⟨_, rfl⟩
  rw [← hug48] at hPn hDn hu px48
  have hPn : va_P D vwCl ([(m0 k bb), (m1 k bb), (m2 k bb), (m3 k bb), (m4 k bb), (m5 k bb), (m6 k bb), (m7 k bb), (m8 k bb), (m9 k bb), (m10 k bb), (m11 k bb), (m12 k bb), (m13 k bb), (m14 k bb), (m15 k bb), (m16 k bb), (m17 k bb)] ++ PW k ug48) H := hPn
  have hDn : va_D A ([(m0 k bb), (m1 k bb), (m2 k bb), (m3 k bb), (m4 k bb), (m5 k bb), (m6 k bb), (m7 k bb), (m8 k bb), (m9 k bb), (m10 k bb), (m11 k bb), (m12 k bb), (m13 k bb), (m14 k bb), (m15 k bb), (m16 k bb), (m17 k bb)] ++ PW k ug48) := hDn
  have k_a_1 : ug48.2.1 (a 1) = 9 := by rw [hug48]; exact (psh_k m_a_1 na).trans k_a_1
  have m_a_1 : (a 1) ∈ ug48.1 := by rw [hug48]; exact psh_m m_a_1
  have k_a_3 : ug48.2.1 (a 3) = 40 := by rw [hug48]; exact (psh_k m_a_3 na).trans k_a_3
  have m_a_3 : (a 3) ∈ ug48.1 := by rw [hug48]; exact psh_m m_a_3
  have k_a_4 : ug48.2.1 (a 4) = 41 := by rw [hug48]; exact (psh_k m_a_4 na).trans k_a_4
  have m_a_4 : (a 4) ∈ ug48.1 := by rw [hug48]; exact psh_m m_a_4
  have k_a_13 : ug48.2.1 (a 13) = 8 := by rw [hug48]; exact (psh_k m_a_13 na).trans k_a_13
  have m_a_13 : (a 13) ∈ ug48.1 := by rw [hug48]; exact psh_m m_a_13
  have k_a_14 : ug48.2.1 (a 14) = 1 := by rw [hug48]; exact (psh_k m_a_14 na).trans k_a_14
  have m_a_14 : (a 14) ∈ ug48.1 := by rw [hug48]; exact psh_m m_a_14
  have k_a_18 : ug48.2.1 (a 18) = 3 := by rw [hug48]; exact (psh_k m_a_18 na).trans k_a_18
  have m_a_18 : (a 18) ∈ ug48.1 := by rw [hug48]; exact psh_m m_a_18
  have k_a_23 : ug48.2.1 (a 23) = 0 := by rw [hug48]; exact (psh_k m_a_23 na).trans k_a_23
  have m_a_23 : (a 23) ∈ ug48.1 := by rw [hug48]; exact psh_m m_a_23
  have k_a_25 : ug48.2.1 (a 25) = 24 := by rw [hug48]; exact (psh_k m_a_25 na).trans k_a_25
  have m_a_25 : (a 25) ∈ ug48.1 := by rw [hug48]; exact psh_m m_a_25
  have k_a_26 : ug48.2.1 (a 26) = 10 := by rw [hug48]; exact (psh_k m_a_26 na).trans k_a_26
  have m_a_26 : (a 26) ∈ ug48.1 := by rw [hug48]; exact psh_m m_a_26
  have m_a_0 : (a 0) ∈ ug48.1 := by rw [hug48]; exact psh_in
  have k_a_0 : ug48.2.1 (a 0) = 11 := by rw [hug48]; exact psh_kd
  have sm_a_0 := m_a_0
  have sk_a_0 := k_a_0
  have sI_a_0 : ug48.2.2.1 (a 0) = (fun s => ([0, 0, 0, 0, 0, 0, 0, 0, 0, 0, (-1)] : List Int32).getD s 0) := by rw [hug48]; exact psh_I
  have sR_a_0 : ug48.2.2.2.2 (a 0) = (fun s => ([some (a 1), some (a 3), some (a 4), some (a 13), some (a 14), some (a 18), some (a 23), some (a 25), some (a 26), none, none] : List (Option Nat)).getD s none) := by rw [hug48]; exact psh_R
  obtain ⟨hPn, hDn, na⟩ := psh_at (i := 1) (a := (bb 1)) rfl hPn hDn 50 (fun _ => 0) (fun _ => 0) (fun _ => none) (by rw [cF50 psh_kd]; (try simp only [psh_I, psh_J, psh_R]) <;> rfl)
  have px49 := PX_psh (kd := 50) (I := (fun _ => 0)) (J := (fun _ => 0)) (R := (fun _ => none)) (PX.rf (u := ug48)) na
  have hu := WT_psh (kd := 50) (I := (fun _ => 0)) (J := (fun _ => 0)) (R := (fun _ => none)) hu na (fun s t h => (tk50 h).elim) (fun s t h => (tn50 h).elim) (fun h => absurd h (by decide)) okz50
  obtain ⟨ug49, hug49⟩ : ∃ z, z = psh ug48 (bb 1) 50 (fun _ => 0) (fun _ => 0) (fun _ => none) := ⟨_, rfl⟩
  rw [← hug49] at hPn hDn hu px49
  have hPn : va_P D vwCl ([(m0 k bb), (m2 k bb), (m3 k bb), (m4 k bb), (m5 k bb), (m6 k bb), (m7 k bb), (m8 k bb), (m9 k bb), (m10 k bb), (m11 k bb), (m12 k bb), (m13 k bb), (m14 k bb), (m15 k bb), (m16 k bb), (m17 k bb)] ++ PW k ug49) H := hPn
  have hDn : va_D A ([(m0 k bb), (m2 k bb), (m3 k bb), (m4 k bb), (m5 k bb), (m6 k bb), (m7 k bb), (m8 k bb), (m9 k bb), (m10 k bb), (m11 k bb), (m12 k bb), (m13 k bb), (m14 k bb), (m15 k bb), (m16 k bb), (m17 k bb)] ++ PW k ug49) := hDn
  have k_a_0 : ug49.2.1 (a 0) = 11 := by rw [hug49]; exact (psh_k m_a_0 na).trans k_a_0
  have m_a_0 : (a 0) ∈ ug49.1 := by rw [hug49]; exact psh_m m_a_0
  have m_bb_1 : (bb 1) ∈ ug49.1 := by rw [hug49]; exact psh_in
  have k_bb_1 : ug49.2.1 (bb 1) = 50 := by rw [hug49]; exact psh_kd
  obtain ⟨hPn, hDn, na⟩ := psh_at (i := 1) (a := (bb 2)) rfl hPn hDn 52 (fun _ => 0) (fun _ => 0) (fun _ => none) (by rw [cF52 psh_kd]; (try simp only [psh_I, psh_J, psh_R]) <;> rfl)
  have px50 := PX_psh (kd := 52) (I := (fun _ => 0)) (J := (fun _ => 0)) (R := (fun _ => none)) (PX.rf (u := ug49)) na
  have hu := WT_psh (kd := 52) (I := (fun _ => 0)) (J := (fun _ => 0)) (R := (fun _ => none)) hu na (fun s t h => (tk52 h).elim) (fun s t h => (tn52 h).elim) (fun h => absurd h (by decide)) okz52
  obtain ⟨ug50, hug50⟩ : ∃ z, z = psh ug49 (bb 2) 52 (fun _ => 0) (fun _ => 0) (fun _ => none) := ⟨_, rfl⟩
  rw [← hug50] at hPn hDn hu px50
  have hPn : va_P D vwCl ([(m0 k bb), (m3 k bb), (m4 k bb), (m5 k bb), (m6 k bb), (m7 k bb), (m8 k bb), (m9 k bb), (m10 k bb), (m11 k bb), (m12 k bb), (m13 k bb), (m14 k bb), (m15 k bb), (m16 k bb), (m17 k bb)] ++ PW k ug50) H := hPn
  have hDn : va_D A ([(m0 k bb), (m3 k bb), (m4 k bb), (m5 k bb), (m6 k bb), (m7 k bb), (m8 k bb), (m9 k bb), (m10 k bb), (m11 k bb), (m12 k bb), (m13 k bb), (m14 k bb), (m15 k bb), (m16 k bb), (m17 k bb)] ++ PW k ug50) := hDn
  have k_a_0 : ug50.2.1 (a 0) = 11 := by rw [hug50]; exact (psh_k m_a_0 na).trans k_a_0
  have m_a_0 : (a 0) ∈ ug50.1 := by rw [hug50]; exact psh_m m_a_0
  have k_bb_1 : ug50.2.1 (bb 1) = 50 := by rw [hug50]; exact (psh_k m_bb_1 na).trans k_bb_1
  have m_bb_1 : (bb 1) ∈ ug50.1 := by rw [hug50]; exact psh_m m_bb_1
  have m_bb_2 : (bb 2) ∈ ug50.1 := by rw [hug50]; exact psh_in
  have k_bb_2 : ug50.2.1 (bb 2) = 52 := by rw [hug50]; exact psh_kd
  obtain ⟨hPn, hDn, na⟩ := psh_at (i := 1) (a := (bb 3)) rfl hPn hDn 53 (fun _ => 0) (fun _ => 0) (fun _ => none) (by rw [cF53 psh_kd]; (try simp only [psh_I, psh_J, psh_R]) <;> rfl)
  have px51 := PX_psh (kd := 53) (I := (fun _ => 0)) (J := (fun _ => 0)) (R := (fun _ => none)) (PX.rf (u := ug50)) na
  have hu := WT_psh (kd := 53) (I := (fun _ => 0)) (J := (fun _ => 0)) (R := (fun _ => none)) hu na (fun s t h => (tk53 h).elim) (fun s t h => (tn53 h).elim) (fun h => absurd h (by decide)) okz53
  obtain ⟨ug51, hug51⟩ : ∃ z, z = psh ug50 (bb 3) 53 (fun _ => 0) (fun _ => 0) (fun _ => none) := ⟨_, rfl⟩
  rw [← hug51] at hPn hDn hu px51
  have hPn : va_P D vwCl ([(m0 k bb), (m4 k bb), (m5 k bb), (m6 k bb), (m7 k bb), (m8 k bb), (m9 k bb), (m10 k bb), (m11 k bb), (m12 k bb), (m13 k bb), (m14 k bb), (m15 k bb), (m16 k bb), (m17 k bb)] ++ PW k ug51) H := hPn
  have hDn : va_D A ([(m0 k bb), (m4 k bb), (m5 k bb), (m6 k bb), (m7 k bb), (m8 k bb), (m9 k bb), (m10 k bb), (m11 k bb), (m12 k bb), (m13 k bb), (m14 k bb), (m15 k bb), (m16 k bb), (m17 k bb)] ++ PW k ug51) := hDn
  have k_a_0 : ug51.2.1 (a 0) = 11 := by rw [hug51]; exact (psh_k m_a_0 na).trans k_a_0
  have m_a_0 : (a 0) ∈ ug51.1 := by rw [hug51]; exact psh_m m_a_0
  have k_bb_1 : ug51.2.1 (bb 1) = 50 := by rw [hug51]; exact (psh_k m_bb_1 na).trans k_bb_1
  have m_bb_1 : (bb 1) ∈ ug51.1 := by rw [hug51]; exact psh_m m_bb_1
  have k_bb_2 : ug51.2.1 (bb 2) = 52 := by rw [hug51]; exact (psh_k m_bb_2 na).trans k_bb_2
  have m_bb_2 : (bb 2) ∈ ug51.1 := by rw [hug51]; exact psh_m m_bb_2
  have m_bb_3 : (bb 3) ∈ ug51.1 := by rw [hug51]; exact psh_in
  have k_bb_3 : ug51.2.1 (bb 3) = 53 := by rw [hug51]; exact psh_kd
  have sm_bb_3 := m_bb_3
  have sk_bb_3 := k_bb_3
  have sI_bb_3 : ug51.2.2.1 (bb 3) = (fun _ => 0) := by rw [hug51]; exact psh_I
  have sR_bb_3 : ug51.2.2.2.2 (bb 3) = (fun _ => none) := by rw [hug51]; exact psh_R
  obtain ⟨hPn, hDn, na⟩ := psh_at (i := 1) (a := (bb 4)) rfl hPn hDn 54 (fun _ => 0) (fun _ => 0) (fun _ => none) (by rw [cF54 psh_kd]; (try simp only [psh_I, psh_J, psh_R]) <;> rfl)
  have px52 := PX_psh (kd := 54) (I := (fun _ => 0)) (J := (fun _ => 0)) (R := (fun _ => none)) (PX.rf (u := ug51)) na
  have hu := WT_psh (kd := 54) (I := (fun _ => 0)) (J := (fun _ => 0)) (R := (fun _ => none)) hu na (fun s t h => (tk54 h).elim) (fun s t h => (tn54 h).elim) (fun h => absurd h (by decide)) (fun _ => trivial)
  obtain ⟨ug52, hug52⟩ : ∃ z, z = psh ug51 (bb 4) 54 (fun _ => 0) (fun _ => 0) (fun _ => none) := ⟨_, rfl⟩
  rw [← hug52] at hPn hDn hu px52
  have hPn : va_P D vwCl ([(m0 k bb), (m5 k bb), (m6 k bb), (m7 k bb), (m8 k bb), (m9 k bb), (m10 k bb), (m11 k bb), (m12 k bb), (m13 k bb), (m14 k bb), (m15 k bb), (m16 k bb), (m17 k bb)] ++ PW k ug52) H := hPn
  have hDn : va_D A ([(m0 k bb), (m5 k bb), (m6 k bb), (m7 k bb), (m8 k bb), (m9 k bb), (m10 k bb), (m11 k bb), (m12 k bb), (m13 k bb), (m14 k bb), (m15 k bb), (m16 k bb), (m17 k bb)] ++ PW k ug52) := hDn
  have k_a_0 : ug52.2.1 (a 0) = 11 := by rw [hug52]; exact (psh_k m_a_0 na).trans k_a_0
  have m_a_0 : (a 0) ∈ ug52.1 := by rw [hug52]; exact psh_m m_a_0
  have k_bb_1 : ug52.2.1 (bb 1) = 50 := by rw [hug52]; exact (psh_k m_bb_1 na).trans k_bb_1
  have m_bb_1 : (bb 1) ∈ ug52.1 := by rw [hug52]; exact psh_m m_bb_1
  have k_bb_2 : ug52.2.1 (bb 2) = 52 := by rw [hug52]; exact (psh_k m_bb_2 na).trans k_bb_2
  have m_bb_2 : (bb 2) ∈ ug52.1 := by rw [hug52]; exact psh_m m_bb_2
  have k_bb_3 : ug52.2.1 (bb 3) = 53 := by rw [hug52]; exact (psh_k m_bb_3 na).trans k_bb_3
  have m_bb_3 : (bb 3) ∈ ug52.1 := by rw [hug52]; exact psh_m m_bb_3
  have m_bb_4 : (bb 4) ∈ ug52.1 := by rw [hug52]; exact psh_in
  have k_bb_4 : ug52.2.1 (bb 4) = 54 := by rw [hug52]; exact psh_kd
  obtain ⟨hPn, hDn, na⟩ := psh_at (i := 1) (a := (bb 5)) rfl hPn hDn 55 (fun _ => 0) (fun _ => 0) (fun _ => none) (by rw [cF55 psh_kd]; (try simp only [psh_I, psh_J, psh_R]) <;> rfl)
  have px53 := PX_psh (kd := 55) (I := (fun _ => 0)) (J := (fun _ => 0)) (R := (fun _ => none)) (PX.rf (u := ug52)) na
  have hu := WT_psh (kd := 55) (I := (fun _ => 0)) (J := (fun _ => 0)) (R := (fun _ => none)) hu na (fun s t h => (tk55 h).elim) (fun s t h => (tn55 h).elim) (fun h => absurd h (by decide)) (fun _ => trivial)
  obtain ⟨ug53, hug53⟩ : ∃ z, z = psh ug52 (bb 5) 55 (fun _ => 0) (fun _ => 0) (fun _ => none) := ⟨_, rfl⟩
  rw [← hug53] at hPn hDn hu px53
  have hPn : va_P D vwCl ([(m0 k bb), (m6 k bb), (m7 k bb), (m8 k bb), (m9 k bb), (m10 k bb), (m11 k bb), (m12 k bb), (m13 k bb), (m14 k bb), (m15 k bb), (m16 k bb), (m17 k bb)] ++ PW k ug53) H := hPn
  have hDn : va_D A ([(m0 k bb), (m6 k bb), (m7 k bb), (m8 k bb), (m9 k bb), (m10 k bb), (m11 k bb), (m12 k bb), (m13 k bb), (m14 k bb), (m15 k bb), (m16 k bb), (m17 k bb)] ++ PW k ug53) := hDn
  have k_a_0 : ug53.2.1 (a 0) = 11 := by rw [hug53]; exact (psh_k m_a_0 na).trans k_a_0
  have m_a_0 : (a 0) ∈ ug53.1 := by rw [hug53]; exact psh_m m_a_0
  have k_bb_1 : ug53.2.1 (bb 1) = 50 := by rw [hug53]; exact (psh_k m_bb_1 na).trans k_bb_1
  have m_bb_1 : (bb 1) ∈ ug53.1 := by rw [hug53]; exact psh_m m_bb_1
  have k_bb_2 : ug53.2.1 (bb 2) = 52 := by rw [hug53]; exact (psh_k m_bb_2 na).trans k_bb_2
  have m_bb_2 : (bb 2) ∈ ug53.1 := by rw [hug53]; exact psh_m m_bb_2
  have k_bb_3 : ug53.2.1 (bb 3) = 53 := by rw [hug53]; exact (psh_k m_bb_3 na).trans k_bb_3
  have m_bb_3 : (bb 3) ∈ ug53.1 := by rw [hug53]; exact psh_m m_bb_3
  have k_bb_4 : ug53.2.1 (bb 4) = 54 := by rw [hug53]; exact (psh_k m_bb_4 na).trans k_bb_4
  have m_bb_4 : (bb 4) ∈ ug53.1 := by rw [hug53]; exact psh_m m_bb_4
  have m_bb_5 : (bb 5) ∈ ug53.1 := by rw [hug53]; exact psh_in
  have k_bb_5 : ug53.2.1 (bb 5) = 55 := by rw [hug53]; exact psh_kd
  obtain ⟨hPn, hDn, na⟩ := psh_at (i := 1) (a := (bb 6)) rfl hPn hDn 51 (fun _ => 0) (fun _ => 0) (fun _ => none) (by rw [cF51 psh_kd]; (try simp only [psh_I, psh_J, psh_R]) <;> rfl)
  have px54 := PX_psh (kd := 51) (I := (fun _ => 0)) (J := (fun _ => 0)) (R := (fun _ => none)) (PX.rf (u := ug53)) na
  have hu := WT_psh (kd := 51) (I := (fun _ => 0)) (J := (fun _ => 0)) (R := (fun _ => none)) hu na (fun s t h => (tk51 h).elim) (fun s t h => (tn51 h).elim) (fun h => absurd h (by decide)) okz51
  obtain ⟨ug54, hug54⟩ : ∃ z, z = psh ug53 (bb 6) 51 (fun _ => 0) (fun _ => 0) (fun _ => none) := ⟨_, rfl⟩
  rw [← hug54] at hPn hDn hu px54
  have hPn : va_P D vwCl ([(m0 k bb), (m7 k bb), (m8 k bb), (m9 k bb), (m10 k bb), (m11 k bb), (m12 k bb), (m13 k bb), (m14 k bb), (m15 k bb), (m16 k bb), (m17 k bb)] ++ PW k ug54) H := hPn
  have hDn : va_D A ([(m0 k bb), (m7 k bb), (m8 k bb), (m9 k bb), (m10 k bb), (m11 k bb), (m12 k bb), (m13 k bb), (m14 k bb), (m15 k bb), (m16 k bb), (m17 k bb)] ++ PW k ug54) := hDn
  have k_a_0 : ug54.2.1 (a 0) = 11 := by rw [hug54]; exact (psh_k m_a_0 na).trans k_a_0
  have m_a_0 : (a 0) ∈ ug54.1 := by rw [hug54]; exact psh_m m_a_0
  have k_bb_1 : ug54.2.1 (bb 1) = 50 := by rw [hug54]; exact (psh_k m_bb_1 na).trans k_bb_1
  have m_bb_1 : (bb 1) ∈ ug54.1 := by rw [hug54]; exact psh_m m_bb_1
  have k_bb_2 : ug54.2.1 (bb 2) = 52 := by rw [hug54]; exact (psh_k m_bb_2 na).trans k_bb_2
  have m_bb_2 : (bb 2) ∈ ug54.1 := by rw [hug54]; exact psh_m m_bb_2
  have k_bb_3 : ug54.2.1 (bb 3) = 53 := by rw [hug54]; exact (psh_k m_bb_3 na).trans k_bb_3
  have m_bb_3 : (bb 3) ∈ ug54.1 := by rw [hug54]; exact psh_m m_bb_3
  have k_bb_4 : ug54.2.1 (bb 4) = 54 := by rw [hug54]; exact (psh_k m_bb_4 na).trans k_bb_4
  have m_bb_4 : (bb 4) ∈ ug54.1 := by rw [hug54]; exact psh_m m_bb_4
  have k_bb_5 : ug54.2.1 (bb 5) = 55 := by rw [hug54]; exact (psh_k m_bb_5 na).trans k_bb_5
  have m_bb_5 : (bb 5) ∈ ug54.1 := by rw [hug54]; exact psh_m m_bb_5
  have m_bb_6 : (bb 6) ∈ ug54.1 := by rw [hug54]; exact psh_in
  have k_bb_6 : ug54.2.1 (bb 6) = 51 := by rw [hug54]; exact psh_kd
  obtain ⟨hPn, hDn, na⟩ := psh_at (i := 1) (a := (bb 7)) rfl hPn hDn 56 (fun _ => 0) (fun _ => 0) (fun _ => none) (by rw [cF56 psh_kd]; (try simp only [psh_I, psh_J, psh_R]) <;> rfl)
  have px55 := PX_psh (kd := 56) (I := (fun _ => 0)) (J := (fun _ => 0)) (R := (fun _ => none)) (PX.rf (u := ug54)) na
  have hu := WT_psh (kd := 56) (I := (fun _ => 0)) (J := (fun _ => 0)) (R := (fun _ => none)) hu na (fun s t h => (tk56 h).elim) (fun s t h => (tn56 h).elim) (fun h => absurd h (by decide)) (fun _ => trivial)
  obtain ⟨ug55, hug55⟩ : ∃ z, z = psh ug54 (bb 7) 56 (fun _ => 0) (fun _ => 0) (fun _ => none) := ⟨_, rfl⟩
  rw [← hug55] at hPn hDn hu px55
  have hPn : va_P D vwCl ([(m0 k bb), (m8 k bb), (m9 k bb), (m10 k bb), (m11 k bb), (m12 k bb), (m13 k bb), (m14 k bb), (m15 k bb), (m16 k bb), (m17 k bb)] ++ PW k ug55) H := hPn
  have hDn : va_D A ([(m0 k bb), (m8 k bb), (m9 k bb), (m10 k bb), (m11 k bb), (m12 k bb), (m13 k bb), (m14 k bb), (m15 k bb), (m16 k bb), (m17 k bb)] ++ PW k ug55) := hDn
  have k_a_0 : ug55.2.1 (a 0) = 11 := by rw [hug55]; exact (psh_k m_a_0 na).trans k_a_0
  have m_a_0 : (a 0) ∈ ug55.1 := by rw [hug55]; exact psh_m m_a_0
  have k_bb_1 : ug55.2.1 (bb 1) = 50 := by rw [hug55]; exact (psh_k m_bb_1 na).trans k_bb_1
  have m_bb_1 : (bb 1) ∈ ug55.1 := by rw [hug55]; exact psh_m m_bb_1
  have k_bb_2 : ug55.2.1 (bb 2) = 52 := by rw [hug55]; exact (psh_k m_bb_2 na).trans k_bb_2
  have m_bb_2 : (bb 2) ∈ ug55.1 := by rw [hug55]; exact psh_m m_bb_2
  have k_bb_3 : ug55.2.1 (bb 3) = 53 := by rw [hug55]; exact (psh_k m_bb_3 na).trans k_bb_3
  have m_bb_3 : (bb 3) ∈ ug55.1 := by rw [hug55]; exact psh_m m_bb_3
  have k_bb_4 : ug55.2.1 (bb 4) = 54 := by rw [hug55]; exact (psh_k m_bb_4 na).trans k_bb_4
  have m_bb_4 : (bb 4) ∈ ug55.1 := by rw [hug55]; exact psh_m m_bb_4
  have k_bb_5 : ug55.2.1 (bb 5) = 55 := by rw [hug55]; exact (psh_k m_bb_5 na).trans k_bb_5
  have m_bb_5 : (bb 5) ∈ ug55.1 := by rw [hug55]; exact psh_m m_bb_5
  have k_bb_6 : ug55.2.1 (bb 6) = 51 := by rw [hug55]; exact (psh_k m_bb_6 na).trans k_bb_6
  have m_bb_6 : (bb 6) ∈ ug55.1 := by rw [hug55]; exact psh_m m_bb_6
  have m_bb_7 : (bb 7) ∈ ug55.1 := by rw [hug55]; exact psh_in
  have k_bb_7 : ug55.2.1 (bb 7) = 56 := by rw [hug55]; exact psh_kd
  obtain ⟨hPn, hDn, na⟩ := psh_at (i := 1) (a := (bb 8)) rfl hPn hDn 56 (fun _ => 0) (fun _ => 0) (fun _ => none) (by rw [cF56 psh_kd]; (try simp only [psh_I, psh_J, psh_R]) <;> rfl)
  have px56 := PX_psh (kd := 56) (I := (fun _ => 0)) (J := (fun _ => 0)) (R := (fun _ => none)) (PX.rf (u := ug55)) na
  have hu := WT_psh (kd := 56) (I := (fun _ => 0)) (J := (fun _ => 0)) (R := (fun _ => none)) hu na (fun s t h => (tk56 h).elim) (fun s t h => (tn56 h).elim) (fun h => absurd h (by decide)) (fun _ => trivial)
  obtain ⟨ug56, hug56⟩ : ∃ z, z = psh ug55 (bb 8) 56 (fun _ => 0) (fun _ => 0) (fun _ => none) := ⟨_, rfl⟩
  rw [← hug56] at hPn hDn hu px56
  have hPn : va_P D vwCl ([(m0 k bb), (m9 k bb), (m10 k bb), (m11 k bb), (m12 k bb), (m13 k bb), (m14 k bb), (m15 k bb), (m16 k bb), (m17 k bb)] ++ PW k ug56) H := hPn
  have hDn : va_D A ([(m0 k bb), (m9 k bb), (m10 k bb), (m11 k bb), (m12 k bb), (m13 k bb), (m14 k bb), (m15 k bb), (m16 k bb), (m17 k bb)] ++ PW k ug56) := hDn
  have k_a_0 : ug56.2.1 (a 0) = 11 := by rw [hug56]; exact (psh_k m_a_0 na).trans k_a_0
  have m_a_0 : (a 0) ∈ ug56.1 := by rw [hug56]; exact psh_m m_a_0
  have k_bb_1 : ug56.2.1 (bb 1) = 50 := by rw [hug56]; exact (psh_k m_bb_1 na).trans k_bb_1
  have m_bb_1 : (bb 1) ∈ ug56.1 := by rw [hug56]; exact psh_m m_bb_1
  have k_bb_2 : ug56.2.1 (bb 2) = 52 := by rw [hug56]; exact (psh_k m_bb_2 na).trans k_bb_2
  have m_bb_2 : (bb 2) ∈ ug56.1 := by rw [hug56]; exact psh_m m_bb_2
  have k_bb_3 : ug56.2.1 (bb 3) = 53 := by rw [hug56]; exact (psh_k m_bb_3 na).trans k_bb_3
  have m_bb_3 : (bb 3) ∈ ug56.1 := by rw [hug56]; exact psh_m m_bb_3
  have k_bb_4 : ug56.2.1 (bb 4) = 54 := by rw [hug56]; exact (psh_k m_bb_4 na).trans k_bb_4
  have m_bb_4 : (bb 4) ∈ ug56.1 := by rw [hug56]; exact psh_m m_bb_4
  have k_bb_5 : ug56.2.1 (bb 5) = 55 := by rw [hug56]; exact (psh_k m_bb_5 na).trans k_bb_5
  have m_bb_5 : (bb 5) ∈ ug56.1 := by rw [hug56]; exact psh_m m_bb_5
  have k_bb_6 : ug56.2.1 (bb 6) = 51 := by rw [hug56]; exact (psh_k m_bb_6 na).trans k_bb_6
  have m_bb_6 : (bb 6) ∈ ug56.1 := by rw [hug56]; exact psh_m m_bb_6
  have k_bb_7 : ug56.2.1 (bb 7) = 56 := by rw [hug56]; exact (psh_k m_bb_7 na).trans k_bb_7
  have m_bb_7 : (bb 7) ∈ ug56.1 := by rw [hug56]; exact psh_m m_bb_7
  have m_bb_8 : (bb 8) ∈ ug56.1 := by rw [hug56]; exact psh_in
  have k_bb_8 : ug56.2.1 (bb 8) = 56 := by rw [hug56]; exact psh_kd
  obtain ⟨hPn, hDn, na⟩ := psh_at (i := 1) (a := (bb 9)) rfl hPn hDn 56 (fun _ => 0) (fun _ => 0) (fun _ => none) (by rw [cF56 psh_kd]; (try simp only [psh_I, psh_J, psh_R]) <;> rfl)
  have px57 := PX_psh (kd := 56) (I := (fun _ => 0)) (J := (fun _ => 0)) (R := (fun _ => none)) (PX.rf (u := ug56)) na
  have hu := WT_psh (kd := 56) (I := (fun _ => 0)) (J := (fun _ => 0)) (R := (fun _ => none)) hu na (fun s t h => (tk56 h).elim) (fun s t h => (tn56 h).elim) (fun h => absurd h (by decide)) (fun _ => trivial)
  obtain ⟨ug57, hug57⟩ : ∃ z, z = psh ug56 (bb 9) 56 (fun _ => 0) (fun _ => 0) (fun _ => none) := ⟨_, rfl⟩
  rw [← hug57] at hPn hDn hu px57
  have hPn : va_P D vwCl ([(m0 k bb), (m10 k bb), (m11 k bb), (m12 k bb), (m13 k bb), (m14 k bb), (m15 k bb), (m16 k bb), (m17 k bb)] ++ PW k ug57) H := hPn
  have hDn : va_D A ([(m0 k bb), (m10 k bb), (m11 k bb), (m12 k bb), (m13 k bb), (m14 k bb), (m15 k bb), (m16 k bb), (m17 k bb)] ++ PW k ug57) := hDn
  have k_a_0 : ug57.2.1 (a 0) = 11 := by rw [hug57]; exact (psh_k m_a_0 na).trans k_a_0
  have m_a_0 : (a 0) ∈ ug57.1 := by rw [hug57]; exact psh_m m_a_0
  have k_bb_1 : ug57.2.1 (bb 1) = 50 := by rw [hug57]; exact (psh_k m_bb_1 na).trans k_bb_1
  have m_bb_1 : (bb 1) ∈ ug57.1 := by rw [hug57]; exact psh_m m_bb_1
  have k_bb_2 : ug57.2.1 (bb 2) = 52 := by rw [hug57]; exact (psh_k m_bb_2 na).trans k_bb_2
  have m_bb_2 : (bb 2) ∈ ug57.1 := by rw [hug57]; exact psh_m m_bb_2
  have k_bb_3 : ug57.2.1 (bb 3) = 53 := by rw [hug57]; exact (psh_k m_bb_3 na).trans k_bb_3
  have m_bb_3 : (bb 3) ∈ ug57.1 := by rw [hug57]; exact psh_m m_bb_3
  have k_bb_4 : ug57.2.1 (bb 4) = 54 := by rw [hug57]; exact (psh_k m_bb_4 na).trans k_bb_4
  have m_bb_4 : (bb 4) ∈ ug57.1 := by rw [hug57]; exact psh_m m_bb_4
  have k_bb_5 : ug57.2.1 (bb 5) = 55 := by rw [hug57]; exact (psh_k m_bb_5 na).trans k_bb_5
  have m_bb_5 : (bb 5) ∈ ug57.1 := by rw [hug57]; exact psh_m m_bb_5
  have k_bb_6 : ug57.2.1 (bb 6) = 51 := by rw [hug57]; exact (psh_k m_bb_6 na).trans k_bb_6
  have m_bb_6 : (bb 6) ∈ ug57.1 := by rw [hug57]; exact psh_m m_bb_6
  have k_bb_7 : ug57.2.1 (bb 7) = 56 := by rw [hug57]; exact (psh_k m_bb_7 na).trans k_bb_7
  have m_bb_7 : (bb 7) ∈ ug57.1 := by rw [hug57]; exact psh_m m_bb_7
  have k_bb_8 : ug57.2.1 (bb 8) = 56 := by rw [hug57]; exact (psh_k m_bb_8 na).trans k_bb_8
  have m_bb_8 : (bb 8) ∈ ug57.1 := by rw [hug57]; exact psh_m m_bb_8
  have m_bb_9 : (bb 9) ∈ ug57.1 := by rw [hug57]; exact psh_in
  have k_bb_9 : ug57.2.1 (bb 9) = 56 := by rw [hug57]; exact psh_kd
  obtain ⟨hPn, hDn, na⟩ := psh_at (i := 1) (a := (bb 10)) rfl hPn hDn 56 (fun _ => 0) (fun _ => 0) (fun _ => none) (by rw [cF56 psh_kd]; (try simp only [psh_I, psh_J, psh_R]) <;> rfl)
  have px58 := PX_psh (kd := 56) (I := (fun _ => 0)) (J := (fun _ => 0)) (R := (fun _ => none)) (PX.rf (u := ug57)) na
  have hu := WT_psh (kd := 56) (I := (fun _ => 0)) (J := (fun _ => 0)) (R := (fun _ => none)) hu na (fun s t h => (tk56 h).elim) (fun s t h => (tn56 h).elim) (fun h => absurd h (by decide)) (fun _ => trivial)
  obtain ⟨ug58, hug58⟩ : ∃ z, z = psh ug57 (bb 10) 56 (fun _ => 0) (fun _ => 0) (fun _ => none) := ⟨_, rfl⟩
  rw [← hug58] at hPn hDn hu px58
  have hPn : va_P D vwCl ([(m0 k bb), (m11 k bb), (m12 k bb), (m13 k bb), (m14 k bb), (m15 k bb), (m16 k bb), (m17 k bb)] ++ PW k ug58) H := hPn
  have hDn : va_D A ([(m0 k bb), (m11 k bb), (m12 k bb), (m13 k bb), (m14 k bb), (m15 k bb), (m16 k bb), (m17 k bb)] ++ PW k ug58) := hDn
  have k_a_0 : ug58.2.1 (a 0) = 11 := by rw [hug58]; exact (psh_k m_a_0 na).trans k_a_0
  have m_a_0 : (a 0) ∈ ug58.1 := by rw [hug58]; exact psh_m m_a_0
  have k_bb_1 : ug58.2.1 (bb 1) = 50 := by rw [hug58]; exact (psh_k m_bb_1 na).trans k_bb_1
  have m_bb_1 : (bb 1) ∈ ug58.1 := by rw [hug58]; exact psh_m m_bb_1
  have k_bb_2 : ug58.2.1 (bb 2) = 52 := by rw [hug58]; exact (psh_k m_bb_2 na).trans k_bb_2
  have m_bb_2 : (bb 2) ∈ ug58.1 := by rw [hug58]; exact psh_m m_bb_2
  have k_bb_3 : ug58.2.1 (bb 3) = 53 := by rw [hug58]; exact (psh_k m_bb_3 na).trans k_bb_3
  have m_bb_3 : (bb 3) ∈ ug58.1 := by rw [hug58]; exact psh_m m_bb_3
  have k_bb_4 : ug58.2.1 (bb 4) = 54 := by rw [hug58]; exact (psh_k m_bb_4 na).trans k_bb_4
  have m_bb_4 : (bb 4) ∈ ug58.1 := by rw [hug58]; exact psh_m m_bb_4
  have k_bb_5 : ug58.2.1 (bb 5) = 55 := by rw [hug58]; exact (psh_k m_bb_5 na).trans k_bb_5
  have m_bb_5 : (bb 5) ∈ ug58.1 := by rw [hug58]; exact psh_m m_bb_5
  have k_bb_6 : ug58.2.1 (bb 6) = 51 := by rw [hug58]; exact (psh_k m_bb_6 na).trans k_bb_6
  have m_bb_6 : (bb 6) ∈ ug58.1 := by rw [hug58]; exact psh_m m_bb_6
  have k_bb_7 : ug58.2.1 (bb 7) = 56 := by rw [hug58]; exact (psh_k m_bb_7 na).trans k_bb_7
  have m_bb_7 : (bb 7) ∈ ug58.1 := by rw [hug58]; exact psh_m m_bb_7
  have k_bb_8 : ug58.2.1 (bb 8) = 56 := by rw [hug58]; exact (psh_k m_bb_8 na).trans k_bb_8
  have m_bb_8 : (bb 8) ∈ ug58.1 := by rw [hug58]; exact psh_m m_bb_8
  have k_bb_9 : ug58.2.1 (bb 9) = 56 := by rw [hug58]; exact (psh_k m_bb_9 na).trans k_bb_9
  have m_bb_9 : (bb 9) ∈ ug58.1 := by rw [hug58]; exact psh_m m_bb_9
  have m_bb_10 : (bb 10) ∈ ug58.1 := by rw [hug58]; exact psh_in
  have k_bb_10 : ug58.2.1 (bb 10) = 56 := by rw [hug58]; exact psh_kd
  obtain ⟨hPn, hDn, na⟩ := psh_at (i := 1) (a := (bb 11)) rfl hPn hDn 57 (fun _ => 0) (fun _ => 0) (fun _ => none) (by rw [cF57 psh_kd]; (try simp only [psh_I, psh_J, psh_R]) <;> rfl)
  have px59 := PX_psh (kd := 57) (I := (fun _ => 0)) (J := (fun _ => 0)) (R := (fun _ => none)) (PX.rf (u := ug58)) na
  have hu := WT_psh (kd := 57) (I := (fun _ => 0)) (J := (fun _ => 0)) (R := (fun _ => none)) hu na (fun s t h => (tk57 h).elim) (fun s t h => (tn57 h).elim) (fun h => absurd h (by decide)) okz57
  obtain ⟨ug59, hug59⟩ : ∃ z, z = psh ug58 (bb 11) 57 (fun _ => 0) (fun _ => 0) (fun _ => none) := ⟨_, rfl⟩
  rw [← hug59] at hPn hDn hu px59
  have hPn : va_P D vwCl ([(m0 k bb), (m12 k bb), (m13 k bb), (m14 k bb), (m15 k bb), (m16 k bb), (m17 k bb)] ++ PW k ug59) H := hPn
  have hDn : va_D A ([(m0 k bb), (m12 k bb), (m13 k bb), (m14 k bb), (m15 k bb), (m16 k bb), (m17 k bb)] ++ PW k ug59) := hDn
  have k_a_0 : ug59.2.1 (a 0) = 11 := by rw [hug59]; exact (psh_k m_a_0 na).trans k_a_0
  have m_a_0 : (a 0) ∈ ug59.1 := by rw [hug59]; exact psh_m m_a_0
  have k_bb_1 : ug59.2.1 (bb 1) = 50 := by rw [hug59]; exact (psh_k m_bb_1 na).trans k_bb_1
  have m_bb_1 : (bb 1) ∈ ug59.1 := by rw [hug59]; exact psh_m m_bb_1
  have k_bb_2 : ug59.2.1 (bb 2) = 52 := by rw [hug59]; exact (psh_k m_bb_2 na).trans k_bb_2
  have m_bb_2 : (bb 2) ∈ ug59.1 := by rw [hug59]; exact psh_m m_bb_2
  have k_bb_3 : ug59.2.1 (bb 3) = 53 := by rw [hug59]; exact (psh_k m_bb_3 na).trans k_bb_3
  have m_bb_3 : (bb 3) ∈ ug59.1 := by rw [hug59]; exact psh_m m_bb_3
  have k_bb_4 : ug59.2.1 (bb 4) = 54 := by rw [hug59]; exact (psh_k m_bb_4 na).trans k_bb_4
  have m_bb_4 : (bb 4) ∈ ug59.1 := by rw [hug59]; exact psh_m m_bb_4
  have k_bb_5 : ug59.2.1 (bb 5) = 55 := by rw [hug59]; exact (psh_k m_bb_5 na).trans k_bb_5
  have m_bb_5 : (bb 5) ∈ ug59.1 := by rw [hug59]; exact psh_m m_bb_5
  have k_bb_6 : ug59.2.1 (bb 6) = 51 := by rw [hug59]; exact (psh_k m_bb_6 na).trans k_bb_6
  have m_bb_6 : (bb 6) ∈ ug59.1 := by rw [hug59]; exact psh_m m_bb_6
  have k_bb_7 : ug59.2.1 (bb 7) = 56 := by rw [hug59]; exact (psh_k m_bb_7 na).trans k_bb_7
  have m_bb_7 : (bb 7) ∈ ug59.1 := by rw [hug59]; exact psh_m m_bb_7
  have k_bb_8 : ug59.2.1 (bb 8) = 56 := by rw [hug59]; exact (psh_k m_bb_8 na).trans k_bb_8
  have m_bb_8 : (bb 8) ∈ ug59.1 := by rw [hug59]; exact psh_m m_bb_8
  have k_bb_9 : ug59.2.1 (bb 9) = 56 := by rw [hug59]; exact (psh_k m_bb_9 na).trans k_bb_9
  have m_bb_9 : (bb 9) ∈ ug59.1 := by rw [hug59]; exact psh_m m_bb_9
  have k_bb_10 : ug59.2.1 (bb 10) = 56 := by rw [hug59]; exact (psh_k m_bb_10 na).trans k_bb_10
  have m_bb_10 : (bb 10) ∈ ug59.1 := by rw [hug59]; exact psh_m m_bb_10
  have m_bb_11 : (bb 11) ∈ ug59.1 := by rw [hug59]; exact psh_in
  have k_bb_11 : ug59.2.1 (bb 11) = 57 := by rw [hug59]; exact psh_kd
  obtain ⟨hPn, hDn, na⟩ := psh_at (i := 1) (a := (bb 12)) rfl hPn hDn 58 (fun _ => 0) (fun _ => 0) (fun _ => none) (by rw [cF58 psh_kd]; (try simp only [psh_I, psh_J, psh_R]) <;> rfl)
  have px60 := PX_psh (kd := 58) (I := (fun _ => 0)) (J := (fun _ => 0)) (R := (fun _ => none)) (PX.rf (u := ug59)) na
  have hu := WT_psh (kd := 58) (I := (fun _ => 0)) (J := (fun _ => 0)) (R := (fun _ => none)) hu na (fun s t h => (tk58 h).elim) (fun s t h => (tn58 h).elim) (fun h => absurd h (by decide)) (fun _ => trivial)
  obtain ⟨ug60, hug60⟩ : ∃ z, z = psh ug59 (bb 12) 58 (fun _ => 0) (fun _ => 0) (fun _ => none) := ⟨_, rfl⟩
  rw [← hug60] at hPn hDn hu px60
  have hPn : va_P D vwCl ([(m0 k bb), (m13 k bb), (m14 k bb), (m15 k bb), (m16 k bb), (m17 k bb)] ++ PW k ug60) H := hPn
  have hDn : va_D A ([(m0 k bb), (m13 k bb), (m14 k bb), (m15 k bb), (m16 k bb), (m17 k bb)] ++ PW k ug60) := hDn
  have k_a_0 : ug60.2.1 (a 0) = 11 := by rw [hug60]; exact (psh_k m_a_0 na).trans k_a_0
  have m_a_0 : (a 0) ∈ ug60.1 := by rw [hug60]; exact psh_m m_a_0
  have k_bb_1 : ug60.2.1 (bb 1) = 50 := by rw [hug60]; exact (psh_k m_bb_1 na).trans k_bb_1
  have m_bb_1 : (bb 1) ∈ ug60.1 := by rw [hug60]; exact psh_m m_bb_1
  have k_bb_2 : ug60.2.1 (bb 2) = 52 := by rw [hug60]; exact (psh_k m_bb_2 na).trans k_bb_2
  have m_bb_2 : (bb 2) ∈ ug60.1 := by rw [hug60]; exact psh_m m_bb_2
  have k_bb_3 : ug60.2.1 (bb 3) = 53 := by rw [hug60]; exact (psh_k m_bb_3 na).trans k_bb_3
  have m_bb_3 : (bb 3) ∈ ug60.1 := by rw [hug60]; exact psh_m m_bb_3
  have k_bb_4 : ug60.2.1 (bb 4) = 54 := by rw [hug60]; exact (psh_k m_bb_4 na).trans k_bb_4
  have m_bb_4 : (bb 4) ∈ ug60.1 := by rw [hug60]; exact psh_m m_bb_4
  have k_bb_5 : ug60.2.1 (bb 5) = 55 := by rw [hug60]; exact (psh_k m_bb_5 na).trans k_bb_5
  have m_bb_5 : (bb 5) ∈ ug60.1 := by rw [hug60]; exact psh_m m_bb_5
  have k_bb_6 : ug60.2.1 (bb 6) = 51 := by rw [hug60]; exact (psh_k m_bb_6 na).trans k_bb_6
  have m_bb_6 : (bb 6) ∈ ug60.1 := by rw [hug60]; exact psh_m m_bb_6
  have k_bb_7 : ug60.2.1 (bb 7) = 56 := by rw [hug60]; exact (psh_k m_bb_7 na).trans k_bb_7
  have m_bb_7 : (bb 7) ∈ ug60.1 := by rw [hug60]; exact psh_m m_bb_7
  have k_bb_8 : ug60.2.1 (bb 8) = 56 := by rw [hug60]; exact (psh_k m_bb_8 na).trans k_bb_8
  have m_bb_8 : (bb 8) ∈ ug60.1 := by rw [hug60]; exact psh_m m_bb_8
  have k_bb_9 : ug60.2.1 (bb 9) = 56 := by rw [hug60]; exact (psh_k m_bb_9 na).trans k_bb_9
  have m_bb_9 : (bb 9) ∈ ug60.1 := by rw [hug60]; exact psh_m m_bb_9
  have k_bb_10 : ug60.2.1 (bb 10) = 56 := by rw [hug60]; exact (psh_k m_bb_10 na).trans k_bb_10
  have m_bb_10 : (bb 10) ∈ ug60.1 := by rw [hug60]; exact psh_m m_bb_10
  have k_bb_11 : ug60.2.1 (bb 11) = 57 := by rw [hug60]; exact (psh_k m_bb_11 na).trans k_bb_11
  have m_bb_11 : (bb 11) ∈ ug60.1 := by rw [hug60]; exact psh_m m_bb_11
  have m_bb_12 : (bb 12) ∈ ug60.1 := by rw [hug60]; exact psh_in
  have k_bb_12 : ug60.2.1 (bb 12) = 58 := by rw [hug60]; exact psh_kd
  obtain ⟨hPn, hDn, na⟩ := psh_at (i := 1) (a := (bb 13)) rfl hPn hDn 59 (fun _ => 0) (fun _ => 0) (fun _ => none) (by rw [cF59 psh_kd]; (try simp only [psh_I, psh_J, psh_R]) <;> rfl)
  have px61 := PX_psh (kd := 59) (I := (fun _ => 0)) (J := (fun _ => 0)) (R := (fun _ => none)) (PX.rf (u := ug60)) na
  have hu := WT_psh (kd := 59) (I := (fun _ => 0)) (J := (fun _ => 0)) (R := (fun _ => none)) hu na (fun s t h => (tk59 h).elim) (fun s t h => (tn59 h).elim) (fun h => absurd h (by decide)) okz59
  obtain ⟨ug61, hug61⟩ : ∃ z, z = psh ug60 (bb 13) 59 (fun _ => 0) (fun _ => 0) (fun _ => none) := ⟨_, rfl⟩
  rw [← hug61] at hPn hDn hu px61
  have hPn : va_P D vwCl ([(m0 k bb), (m14 k bb), (m15 k bb), (m16 k bb), (m17 k bb)] ++ PW k ug61) H := hPn
  have hDn : va_D A ([(m0 k bb), (m14 k bb), (m15 k bb), (m16 k bb), (m17 k bb)] ++ PW k ug61) := hDn
  have k_a_0 : ug61.2.1 (a 0) = 11 := by rw [hug61]; exact (psh_k m_a_0 na).trans k_a_0
  have m_a_0 : (a 0) ∈ ug61.1 := by rw [hug61]; exact psh_m m_a_0
  have k_bb_1 : ug61.2.1 (bb 1) = 50 := by rw [hug61]; exact (psh_k m_bb_1 na).trans k_bb_1
  have m_bb_1 : (bb 1) ∈ ug61.1 := by rw [hug61]; exact psh_m m_bb_1
  have k_bb_2 : ug61.2.1 (bb 2) = 52 := by rw [hug61]; exact (psh_k m_bb_2 na).trans k_bb_2
  have m_bb_2 : (bb 2) ∈ ug61.1 := by rw [hug61]; exact psh_m m_bb_2
  have k_bb_3 : ug61.2.1 (bb 3) = 53 := by rw [hug61]; exact (psh_k m_bb_3 na).trans k_bb_3
  have m_bb_3 : (bb 3) ∈ ug61.1 := by rw [hug61]; exact psh_m m_bb_3
  have k_bb_4 : ug61.2.1 (bb 4) = 54 := by rw [hug61]; exact (psh_k m_bb_4 na).trans k_bb_4
  have m_bb_4 : (bb 4) ∈ ug61.1 := by rw [hug61]; exact psh_m m_bb_4
  have k_bb_5 : ug61.2.1 (bb 5) = 55 := by rw [hug61]; exact (psh_k m_bb_5 na).trans k_bb_5
  have m_bb_5 : (bb 5) ∈ ug61.1 := by rw [hug61]; exact psh_m m_bb_5
  have k_bb_6 : ug61.2.1 (bb 6) = 51 := by rw [hug61]; exact (psh_k m_bb_6 na).trans k_bb_6
  have m_bb_6 : (bb 6) ∈ ug61.1 := by rw [hug61]; exact psh_m m_bb_6
  have k_bb_7 : ug61.2.1 (bb 7) = 56 := by rw [hug61]; exact (psh_k m_bb_7 na).trans k_bb_7
  have m_bb_7 : (bb 7) ∈ ug61.1 := by rw [hug61]; exact psh_m m_bb_7
  have k_bb_8 : ug61.2.1 (bb 8) = 56 := by rw [hug61]; exact (psh_k m_bb_8 na).trans k_bb_8
  have m_bb_8 : (bb 8) ∈ ug61.1 := by rw [hug61]; exact psh_m m_bb_8
  have k_bb_9 : ug61.2.1 (bb 9) = 56 := by rw [hug61]; exact (psh_k m_bb_9 na).trans k_bb_9
  have m_bb_9 : (bb 9) ∈ ug61.1 := by rw [hug61]; exact psh_m m_bb_9
  have k_bb_10 : ug61.2.1 (bb 10) = 56 := by rw [hug61]; exact (psh_k m_bb_10 na).trans k_bb_10
  have m_bb_10 : (bb 10) ∈ ug61.1 := by rw [hug61]; exact psh_m m_bb_10
  have k_bb_11 : ug61.2.1 (bb 11) = 57 := by rw [hug61]; exact (psh_k m_bb_11 na).trans k_bb_11
  have m_bb_11 : (bb 11) ∈ ug61.1 := by rw [hug61]; exact psh_m m_bb_11
  have k_bb_12 : ug61.2.1 (bb 12) = 58 := by rw [hug61]; exact (psh_k m_bb_12 na).trans k_bb_12
  have m_bb_12 : (bb 12) ∈ ug61.1 := by rw [hug61]; exact psh_m m_bb_12
  have m_bb_13 : (bb 13) ∈ ug61.1 := by rw [hug61]; exact psh_in
  have k_bb_13 : ug61.2.1 (bb 13) = 59 := by rw [hug61]; exact psh_kd
  obtain ⟨hPn, hDn, na⟩ := psh_at (i := 1) (a := (bb 14)) rfl hPn hDn 60 (sm0) (fun _ => 0) (fun _ => none) (by rw [cF60 psh_kd]; (try simp only [psh_I, psh_J, psh_R]) <;> rfl)
  have px62 := PX_psh (kd := 60) (I := (sm0)) (J := (fun _ => 0)) (R := (fun _ => none)) (PX.rf (u := ug61)) na
  have hu := WT_psh (kd := 60) (I := (sm0)) (J := (fun _ => 0)) (R := (fun _ => none)) hu na (fun s t h => (tk60 h).elim) (fun s t h => (tn60 h).elim) (fun h => absurd h (by decide)) okz60
  obtain ⟨ug62, hug62⟩ : ∃ z, z = psh ug61 (bb 14) 60 (sm0) (fun _ => 0) (fun _ => none) := ⟨_, rfl⟩
  rw [← hug62] at hPn hDn hu px62
  have hPn : va_P D vwCl ([(m0 k bb), (m15 k bb), (m16 k bb), (m17 k bb)] ++ PW k ug62) H := hPn
  have hDn : va_D A ([(m0 k bb), (m15 k bb), (m16 k bb), (m17 k bb)] ++ PW k ug62) := hDn
  have k_a_0 : ug62.2.1 (a 0) = 11 := by rw [hug62]; exact (psh_k m_a_0 na).trans k_a_0
  have m_a_0 : (a 0) ∈ ug62.1 := by rw [hug62]; exact psh_m m_a_0
  have k_bb_1 : ug62.2.1 (bb 1) = 50 := by rw [hug62]; exact (psh_k m_bb_1 na).trans k_bb_1
  have m_bb_1 : (bb 1) ∈ ug62.1 := by rw [hug62]; exact psh_m m_bb_1
  have k_bb_2 : ug62.2.1 (bb 2) = 52 := by rw [hug62]; exact (psh_k m_bb_2 na).trans k_bb_2
  have m_bb_2 : (bb 2) ∈ ug62.1 := by rw [hug62]; exact psh_m m_bb_2
  have k_bb_3 : ug62.2.1 (bb 3) = 53 := by rw [hug62]; exact (psh_k m_bb_3 na).trans k_bb_3
  have m_bb_3 : (bb 3) ∈ ug62.1 := by rw [hug62]; exact psh_m m_bb_3
  have k_bb_4 : ug62.2.1 (bb 4) = 54 := by rw [hug62]; exact (psh_k m_bb_4 na).trans k_bb_4
  have m_bb_4 : (bb 4) ∈ ug62.1 := by rw [hug62]; exact psh_m m_bb_4
  have k_bb_5 : ug62.2.1 (bb 5) = 55 := by rw [hug62]; exact (psh_k m_bb_5 na).trans k_bb_5
  have m_bb_5 : (bb 5) ∈ ug62.1 := by rw [hug62]; exact psh_m m_bb_5
  have k_bb_6 : ug62.2.1 (bb 6) = 51 := by rw [hug62]; exact (psh_k m_bb_6 na).trans k_bb_6
  have m_bb_6 : (bb 6) ∈ ug62.1 := by rw [hug62]; exact psh_m m_bb_6
  have k_bb_7 : ug62.2.1 (bb 7) = 56 := by rw [hug62]; exact (psh_k m_bb_7 na).trans k_bb_7
  have m_bb_7 : (bb 7) ∈ ug62.1 := by rw [hug62]; exact psh_m m_bb_7
  have k_bb_8 : ug62.2.1 (bb 8) = 56 := by rw [hug62]; exact (psh_k m_bb_8 na).trans k_bb_8
  have m_bb_8 : (bb 8) ∈ ug62.1 := by rw [hug62]; exact psh_m m_bb_8
  have k_bb_9 : ug62.2.1 (bb 9) = 56 := by rw [hug62]; exact (psh_k m_bb_9 na).trans k_bb_9
  have m_bb_9 : (bb 9) ∈ ug62.1 := by rw [hug62]; exact psh_m m_bb_9
  have k_bb_10 : ug62.2.1 (bb 10) = 56 := by rw [hug62]; exact (psh_k m_bb_10 na).trans k_bb_10
  have m_bb_10 : (bb 10) ∈ ug62.1 := by rw [hug62]; exact psh_m m_bb_10
  have k_bb_11 : ug62.2.1 (bb 11) = 57 := by rw [hug62]; exact (psh_k m_bb_11 na).trans k_bb_11
  have m_bb_11 : (bb 11) ∈ ug62.1 := by rw [hug62]; exact psh_m m_bb_11
  have k_bb_12 : ug62.2.1 (bb 12) = 58 := by rw [hug62]; exact (psh_k m_bb_12 na).trans k_bb_12
  have m_bb_12 : (bb 12) ∈ ug62.1 := by rw [hug62]; exact psh_m m_bb_12
  have k_bb_13 : ug62.2.1 (bb 13) = 59 := by rw [hug62]; exact (psh_k m_bb_13 na).trans k_bb_13
  have m_bb_13 : (bb 13) ∈ ug62.1 := by rw [hug62]; exact psh_m m_bb_13
  have m_bb_14 : (bb 14) ∈ ug62.1 := by rw [hug62]; exact psh_in
  have k_bb_14 : ug62.2.1 (bb 14) = 60 := by rw [hug62]; exact psh_kd
  have sm_bb_14 := m_bb_14
  have sk_bb_14 := k_bb_14
  have sI_bb_14 : ug62.2.2.1 (bb 14) = (sm0) := by rw [hug62]; exact psh_I
  have sR_bb_14 : ug62.2.2.2.2 (bb 14) = (fun _ => none) := by rw [hug62]; exact psh_R
  obtain ⟨hPn, hDn, na⟩ := psh_at (i := 1) (a := (bb 15)) rfl hPn hDn 61 (fun _ => 0) (fun _ => 0) (fun _ => none) (by rw [cF61 psh_kd]; (try simp only [psh_I, psh_J, psh_R]) <;> rfl)
  have px63 := PX_psh (kd := 61) (I := (fun _ => 0)) (J := (fun _ => 0)) (R := (fun _ => none)) (PX.rf (u := ug62)) na
  have hu := WT_psh (kd := 61) (I := (fun _ => 0)) (J := (fun _ => 0)) (R := (fun _ => none)) hu na (fun s t h => (tk61 h).elim) (fun s t h => (tn61 h).elim) (fun h => absurd h (by decide)) okz61
  obtain ⟨ug63, hug63⟩ : ∃ z, z = psh ug62 (bb 15) 61 (fun _ => 0) (fun _ => 0) (fun _ => none) := ⟨_, rfl⟩
  rw [← hug63] at hPn hDn hu px63
  have hPn : va_P D vwCl ([(m0 k bb), (m16 k bb), (m17 k bb)] ++ PW k ug63) H := hPn
  have hDn : va_D A ([(m0 k bb), (m16 k bb), (m17 k bb)] ++ PW k ug63) := hDn
  have k_a_0 : ug63.2.1 (a 0) = 11 := by rw [hug63]; exact (psh_k m_a_0 na).trans k_a_0
  have m_a_0 : (a 0) ∈ ug63.1 := by rw [hug63]; exact psh_m m_a_0
  have k_bb_1 : ug63.2.1 (bb 1) = 50 := by rw [hug63]; exact (psh_k m_bb_1 na).trans k_bb_1
  have m_bb_1 : (bb 1) ∈ ug63.1 := by rw [hug63]; exact psh_m m_bb_1
  have k_bb_2 : ug63.2.1 (bb 2) = 52 := by rw [hug63]; exact (psh_k m_bb_2 na).trans k_bb_2
  have m_bb_2 : (bb 2) ∈ ug63.1 := by rw [hug63]; exact psh_m m_bb_2
  have k_bb_3 : ug63.2.1 (bb 3) = 53 := by rw [hug63]; exact (psh_k m_bb_3 na).trans k_bb_3
  have m_bb_3 : (bb 3) ∈ ug63.1 := by rw [hug63]; exact psh_m m_bb_3
  have k_bb_4 : ug63.2.1 (bb 4) = 54 := by rw [hug63]; exact (psh_k m_bb_4 na).trans k_bb_4
  have m_bb_4 : (bb 4) ∈ ug63.1 := by rw [hug63]; exact psh_m m_bb_4
  have k_bb_5 : ug63.2.1 (bb 5) = 55 := by rw [hug63]; exact (psh_k m_bb_5 na).trans k_bb_5
  have m_bb_5 : (bb 5) ∈ ug63.1 := by rw [hug63]; exact psh_m m_bb_5
  have k_bb_6 : ug63.2.1 (bb 6) = 51 := by rw [hug63]; exact (psh_k m_bb_6 na).trans k_bb_6
  have m_bb_6 : (bb 6) ∈ ug63.1 := by rw [hug63]; exact psh_m m_bb_6
  have k_bb_7 : ug63.2.1 (bb 7) = 56 := by rw [hug63]; exact (psh_k m_bb_7 na).trans k_bb_7
  have m_bb_7 : (bb 7) ∈ ug63.1 := by rw [hug63]; exact psh_m m_bb_7
  have k_bb_8 : ug63.2.1 (bb 8) = 56 := by rw [hug63]; exact (psh_k m_bb_8 na).trans k_bb_8
  have m_bb_8 : (bb 8) ∈ ug63.1 := by rw [hug63]; exact psh_m m_bb_8
  have k_bb_9 : ug63.2.1 (bb 9) = 56 := by rw [hug63]; exact (psh_k m_bb_9 na).trans k_bb_9
  have m_bb_9 : (bb 9) ∈ ug63.1 := by rw [hug63]; exact psh_m m_bb_9
  have k_bb_10 : ug63.2.1 (bb 10) = 56 := by rw [hug63]; exact (psh_k m_bb_10 na).trans k_bb_10
  have m_bb_10 : (bb 10) ∈ ug63.1 := by rw [hug63]; exact psh_m m_bb_10
  have k_bb_11 : ug63.2.1 (bb 11) = 57 := by rw [hug63]; exact (psh_k m_bb_11 na).trans k_bb_11
  have m_bb_11 : (bb 11) ∈ ug63.1 := by rw [hug63]; exact psh_m m_bb_11
  have k_bb_12 : ug63.2.1 (bb 12) = 58 := by rw [hug63]; exact (psh_k m_bb_12 na).trans k_bb_12
  have m_bb_12 : (bb 12) ∈ ug63.1 := by rw [hug63]; exact psh_m m_bb_12
  have k_bb_13 : ug63.2.1 (bb 13) = 59 := by rw [hug63]; exact (psh_k m_bb_13 na).trans k_bb_13
  have m_bb_13 : (bb 13) ∈ ug63.1 := by rw [hug63]; exact psh_m m_bb_13
  have k_bb_14 : ug63.2.1 (bb 14) = 60 := by rw [hug63]; exact (psh_k m_bb_14 na).trans k_bb_14
  have m_bb_14 : (bb 14) ∈ ug63.1 := by rw [hug63]; exact psh_m m_bb_14
  have m_bb_15 : (bb 15) ∈ ug63.1 := by rw [hug63]; exact psh_in
  have k_bb_15 : ug63.2.1 (bb 15) = 61 := by rw [hug63]; exact psh_kd
  have sm_bb_15 := m_bb_15
  have sk_bb_15 := k_bb_15
  have sI_bb_15 : ug63.2.2.1 (bb 15) = (fun _ => 0) := by rw [hug63]; exact psh_I
  have sR_bb_15 : ug63.2.2.2.2 (bb 15) = (fun _ => none) := by rw [hug63]; exact psh_R
  obtain ⟨hPn, hDn, na⟩ := psh_at (i := 1) (a := (bb 16)) rfl hPn hDn 62 (fun _ => 0) (fun _ => 0) (fun _ => none) (by rw [cF62 psh_kd]; (try simp only [psh_I, psh_J, psh_R]) <;> rfl)
  have px64 := PX_psh (kd := 62) (I := (fun _ => 0)) (J := (fun _ => 0)) (R := (fun _ => none)) (PX.rf (u := ug63)) na
  have hu := WT_psh (kd := 62) (I := (fun _ => 0)) (J := (fun _ => 0)) (R := (fun _ => none)) hu na (fun s t h => (tk62 h).elim) (fun s t h => (tn62 h).elim) (fun h => absurd h (by decide)) (fun _ => trivial)
  obtain ⟨ug64, hug64⟩ : ∃ z, z = psh ug63 (bb 16) 62 (fun _ => 0) (fun _ => 0) (fun _ => none) := ⟨_, rfl⟩
  rw [← hug64] at hPn hDn hu px64
  have hPn : va_P D vwCl ([(m0 k bb), (m17 k bb)] ++ PW k ug64) H := hPn
  have hDn : va_D A ([(m0 k bb), (m17 k bb)] ++ PW k ug64) := hDn
  have k_a_0 : ug64.2.1 (a 0) = 11 := by rw [hug64]; exact (psh_k m_a_0 na).trans k_a_0
  have m_a_0 : (a 0) ∈ ug64.1 := by rw [hug64]; exact psh_m m_a_0
  have k_bb_1 : ug64.2.1 (bb 1) = 50 := by rw [hug64]; exact (psh_k m_bb_1 na).trans k_bb_1
  have m_bb_1 : (bb 1) ∈ ug64.1 := by rw [hug64]; exact psh_m m_bb_1
  have k_bb_2 : ug64.2.1 (bb 2) = 52 := by rw [hug64]; exact (psh_k m_bb_2 na).trans k_bb_2
  have m_bb_2 : (bb 2) ∈ ug64.1 := by rw [hug64]; exact psh_m m_bb_2
  have k_bb_3 : ug64.2.1 (bb 3) = 53 := by rw [hug64]; exact (psh_k m_bb_3 na).trans k_bb_3
  have m_bb_3 : (bb 3) ∈ ug64.1 := by rw [hug64]; exact psh_m m_bb_3
  have k_bb_4 : ug64.2.1 (bb 4) = 54 := by rw [hug64]; exact (psh_k m_bb_4 na).trans k_bb_4
  have m_bb_4 : (bb 4) ∈ ug64.1 := by rw [hug64]; exact psh_m m_bb_4
  have k_bb_5 : ug64.2.1 (bb 5) = 55 := by rw [hug64]; exact (psh_k m_bb_5 na).trans k_bb_5
  have m_bb_5 : (bb 5) ∈ ug64.1 := by rw [hug64]; exact psh_m m_bb_5
  have k_bb_6 : ug64.2.1 (bb 6) = 51 := by rw [hug64]; exact (psh_k m_bb_6 na).trans k_bb_6
  have m_bb_6 : (bb 6) ∈ ug64.1 := by rw [hug64]; exact psh_m m_bb_6
  have k_bb_7 : ug64.2.1 (bb 7) = 56 := by rw [hug64]; exact (psh_k m_bb_7 na).trans k_bb_7
  have m_bb_7 : (bb 7) ∈ ug64.1 := by rw [hug64]; exact psh_m m_bb_7
  have k_bb_8 : ug64.2.1 (bb 8) = 56 := by rw [hug64]; exact (psh_k m_bb_8 na).trans k_bb_8
  have m_bb_8 : (bb 8) ∈ ug64.1 := by rw [hug64]; exact psh_m m_bb_8
  have k_bb_9 : ug64.2.1 (bb 9) = 56 := by rw [hug64]; exact (psh_k m_bb_9 na).trans k_bb_9
  have m_bb_9 : (bb 9) ∈ ug64.1 := by rw [hug64]; exact psh_m m_bb_9
  have k_bb_10 : ug64.2.1 (bb 10) = 56 := by rw [hug64]; exact (psh_k m_bb_10 na).trans k_bb_10
  have m_bb_10 : (bb 10) ∈ ug64.1 := by rw [hug64]; exact psh_m m_bb_10
  have k_bb_11 : ug64.2.1 (bb 11) = 57 := by rw [hug64]; exact (psh_k m_bb_11 na).trans k_bb_11
  have m_bb_11 : (bb 11) ∈ ug64.1 := by rw [hug64]; exact psh_m m_bb_11
  have k_bb_12 : ug64.2.1 (bb 12) = 58 := by rw [hug64]; exact (psh_k m_bb_12 na).trans k_bb_12
  have m_bb_12 : (bb 12) ∈ ug64.1 := by rw [hug64]; exact psh_m m_bb_12
  have k_bb_13 : ug64.2.1 (bb 13) = 59 := by rw [hug64]; exact (psh_k m_bb_13 na).trans k_bb_13
  have m_bb_13 : (bb 13) ∈ ug64.1 := by rw [hug64]; exact psh_m m_bb_13
  have k_bb_14 : ug64.2.1 (bb 14) = 60 := by rw [hug64]; exact (psh_k m_bb_14 na).trans k_bb_14
  have m_bb_14 : (bb 14) ∈ ug64.1 := by rw [hug64]; exact psh_m m_bb_14
  have k_bb_15 : ug64.2.1 (bb 15) = 61 := by rw [hug64]; exact (psh_k m_bb_15 na).trans k_bb_15
  have m_bb_15 : (bb 15) ∈ ug64.1 := by rw [hug64]; exact psh_m m_bb_15
  have m_bb_16 : (bb 16) ∈ ug64.1 := by rw [hug64]; exact psh_in
  have k_bb_16 : ug64.2.1 (bb 16) = 62 := by rw [hug64]; exact psh_kd
  obtain ⟨hPn, hDn, na⟩ := psh_at (i := 1) (a := (bb 17)) rfl hPn hDn 63 (fun _ => 0) (fun _ => 0) (fun _ => none) (by rw [cF63 psh_kd]; (try simp only [psh_I, psh_J, psh_R]) <;> rfl)
  have px65 := PX_psh (kd := 63) (I := (fun _ => 0)) (J := (fun _ => 0)) (R := (fun _ => none)) (PX.rf (u := ug64)) na
  have hu := WT_psh (kd := 63) (I := (fun _ => 0)) (J := (fun _ => 0)) (R := (fun _ => none)) hu na (fun s t h => (tk63 h).elim) (fun s t h => (tn63 h).elim) (fun h => absurd h (by decide)) (fun _ => trivial)
  obtain ⟨ug65, hug65⟩ : ∃ z, z = psh ug64 (bb 17) 63 (fun _ => 0) (fun _ => 0) (fun _ => none) := ⟨_, rfl⟩
  rw [← hug65] at hPn hDn hu px65
  have hPn : va_P D vwCl ([(m0 k bb)] ++ PW k ug65) H := hPn
  have hDn : va_D A ([(m0 k bb)] ++ PW k ug65) := hDn
  have k_a_0 : ug65.2.1 (a 0) = 11 := by rw [hug65]; exact (psh_k m_a_0 na).trans k_a_0
  have m_a_0 : (a 0) ∈ ug65.1 := by rw [hug65]; exact psh_m m_a_0
  have k_bb_1 : ug65.2.1 (bb 1) = 50 := by rw [hug65]; exact (psh_k m_bb_1 na).trans k_bb_1
  have m_bb_1 : (bb 1) ∈ ug65.1 := by rw [hug65]; exact psh_m m_bb_1
  have k_bb_2 : ug65.2.1 (bb 2) = 52 := by rw [hug65]; exact (psh_k m_bb_2 na).trans k_bb_2
  have m_bb_2 : (bb 2) ∈ ug65.1 := by rw [hug65]; exact psh_m m_bb_2
  have k_bb_3 : ug65.2.1 (bb 3) = 53 := by rw [hug65]; exact (psh_k m_bb_3 na).trans k_bb_3
  have m_bb_3 : (bb 3) ∈ ug65.1 := by rw [hug65]; exact psh_m m_bb_3
  have k_bb_4 : ug65.2.1 (bb 4) = 54 := by rw [hug65]; exact (psh_k m_bb_4 na).trans k_bb_4
  have m_bb_4 : (bb 4) ∈ ug65.1 := by rw [hug65]; exact psh_m m_bb_4
  have k_bb_5 : ug65.2.1 (bb 5) = 55 := by rw [hug65]; exact (psh_k m_bb_5 na).trans k_bb_5
  have m_bb_5 : (bb 5) ∈ ug65.1 := by rw [hug65]; exact psh_m m_bb_5
  have k_bb_6 : ug65.2.1 (bb 6) = 51 := by rw [hug65]; exact (psh_k m_bb_6 na).trans k_bb_6
  have m_bb_6 : (bb 6) ∈ ug65.1 := by rw [hug65]; exact psh_m m_bb_6
  have k_bb_7 : ug65.2.1 (bb 7) = 56 := by rw [hug65]; exact (psh_k m_bb_7 na).trans k_bb_7
  have m_bb_7 : (bb 7) ∈ ug65.1 := by rw [hug65]; exact psh_m m_bb_7
  have k_bb_8 : ug65.2.1 (bb 8) = 56 := by rw [hug65]; exact (psh_k m_bb_8 na).trans k_bb_8
  have m_bb_8 : (bb 8) ∈ ug65.1 := by rw [hug65]; exact psh_m m_bb_8
  have k_bb_9 : ug65.2.1 (bb 9) = 56 := by rw [hug65]; exact (psh_k m_bb_9 na).trans k_bb_9
  have m_bb_9 : (bb 9) ∈ ug65.1 := by rw [hug65]; exact psh_m m_bb_9
  have k_bb_10 : ug65.2.1 (bb 10) = 56 := by rw [hug65]; exact (psh_k m_bb_10 na).trans k_bb_10
  have m_bb_10 : (bb 10) ∈ ug65.1 := by rw [hug65]; exact psh_m m_bb_10
  have k_bb_11 : ug65.2.1 (bb 11) = 57 := by rw [hug65]; exact (psh_k m_bb_11 na).trans k_bb_11
  have m_bb_11 : (bb 11) ∈ ug65.1 := by rw [hug65]; exact psh_m m_bb_11
  have k_bb_12 : ug65.2.1 (bb 12) = 58 := by rw [hug65]; exact (psh_k m_bb_12 na).trans k_bb_12
  have m_bb_12 : (bb 12) ∈ ug65.1 := by rw [hug65]; exact psh_m m_bb_12
  have k_bb_13 : ug65.2.1 (bb 13) = 59 := by rw [hug65]; exact (psh_k m_bb_13 na).trans k_bb_13
  have m_bb_13 : (bb 13) ∈ ug65.1 := by rw [hug65]; exact psh_m m_bb_13
  have k_bb_14 : ug65.2.1 (bb 14) = 60 := by rw [hug65]; exact (psh_k m_bb_14 na).trans k_bb_14
  have m_bb_14 : (bb 14) ∈ ug65.1 := by rw [hug65]; exact psh_m m_bb_14
  have k_bb_15 : ug65.2.1 (bb 15) = 61 := by rw [hug65]; exact (psh_k m_bb_15 na).trans k_bb_15
  have m_bb_15 : (bb 15) ∈ ug65.1 := by rw [hug65]; exact psh_m m_bb_15
  have k_bb_16 : ug65.2.1 (bb 16) = 62 := by rw [hug65]; exact (psh_k m_bb_16 na).trans k_bb_16
  have m_bb_16 : (bb 16) ∈ ug65.1 := by rw [hug65]; exact psh_m m_bb_16
  have m_bb_17 : (bb 17) ∈ ug65.1 := by rw [hug65]; exact psh_in
  have k_bb_17 : ug65.2.1 (bb 17) = 63 := by rw [hug65]; exact psh_kd
  obtain ⟨hPn, hDn, na⟩ := psh_at (i := 0) (a := (bb 0)) rfl hPn hDn 12 (fun s => ([0, 0, 0, 0, 0, 0, 0, 0, 0, 0, 0, 0, 0, (-1), 0, 0, 0, 0, 0, 0, 0, 0, 0, 0, 0, 0, 0, (-1), 0, 0, 0, 0, 0, 0] : List Int32).getD s 0) (fun s => ([0, 0, 0, 0, 0, 0, 0, 0, 0, 0, 0, 0, 0, 0, 0, 0, 0, 0, 0, 0, 0, 0, 0, 0, 0, 0, 0, 0, 0, 0, 0, 0, 0, 0] : List Int64).getD s 0) (fun s => ([none, some (bb 1), some (bb 2), some (bb 3), some (bb 4), none, some (bb 5), none, none, none, none, none, none, none, some (bb 6), none, none, some (bb 7), some (bb 8), some (bb 9), some (bb 10), none, some (bb 11), none, some (bb 12), none, some (bb 13), none, none, none, some (bb 14), some (bb 15), some (bb 16), some (bb 17)] : List (Option Nat)).getD s none) (by rw [cF12 psh_kd]; (try simp only [psh_I, psh_J, psh_R]) <;> rfl)
  have px66 := PX_psh (kd := 12) (I := (fun s => ([0, 0, 0, 0, 0, 0, 0, 0, 0, 0, 0, 0, 0, (-1), 0, 0, 0, 0, 0, 0, 0, 0, 0, 0, 0, 0, 0, (-1), 0, 0, 0, 0, 0, 0] : List Int32).getD s 0)) (J := (fun s => ([0, 0, 0, 0, 0, 0, 0, 0, 0, 0, 0, 0, 0, 0, 0, 0, 0, 0, 0, 0, 0, 0, 0, 0, 0, 0, 0, 0, 0, 0, 0, 0, 0, 0] : List Int64).getD s 0)) (R := (fun s => ([none, some (bb 1), some (bb 2), some (bb 3), some (bb 4), none, some (bb 5), none, none, none, none, none, none, none, some (bb 6), none, none, some (bb 7), some (bb 8), some (bb 9), some (bb 10), none, some (bb 11), none, some (bb 12), none, some (bb 13), none, none, none, some (bb 14), some (bb 15), some (bb 16), some (bb 17)] : List (Option Nat)).getD s none)) (PX.rf (u := ug65)) na
  have hu := WT_psh (kd := 12) (I := (fun s => ([0, 0, 0, 0, 0, 0, 0, 0, 0, 0, 0, 0, 0, (-1), 0, 0, 0, 0, 0, 0, 0, 0, 0, 0, 0, 0, 0, (-1), 0, 0, 0, 0, 0, 0] : List Int32).getD s 0)) (J := (fun s => ([0, 0, 0, 0, 0, 0, 0, 0, 0, 0, 0, 0, 0, 0, 0, 0, 0, 0, 0, 0, 0, 0, 0, 0, 0, 0, 0, 0, 0, 0, 0, 0, 0, 0] : List Int64).getD s 0)) (R := (fun s => ([none, some (bb 1), some (bb 2), some (bb 3), some (bb 4), none, some (bb 5), none, none, none, none, none, none, none, some (bb 6), none, none, some (bb 7), some (bb 8), some (bb 9), some (bb 10), none, some (bb 11), none, some (bb 12), none, some (bb 13), none, none, none, some (bb 14), some (bb 15), some (bb 16), some (bb 17)] : List (Option Nat)).getD s none)) hu na (fun s t h => by rcases tk12 h with ⟨rfl, rfl⟩ | ⟨rfl, rfl⟩ | ⟨rfl, rfl⟩ | ⟨rfl, rfl⟩ | ⟨rfl, rfl⟩ | ⟨rfl, rfl⟩ | ⟨rfl, rfl⟩ | ⟨rfl, rfl⟩ | ⟨rfl, rfl⟩ | ⟨rfl, rfl⟩ | ⟨rfl, rfl⟩ | ⟨rfl, rfl⟩ | ⟨rfl, rfl⟩ | ⟨rfl, rfl⟩ | ⟨rfl, rfl⟩ | ⟨rfl, rfl⟩ | ⟨rfl, rfl⟩; exact ⟨_, rfl, m_bb_1, k_bb_1⟩; exact ⟨_, rfl, m_bb_2, k_bb_2⟩; exact ⟨_, rfl, m_bb_3, k_bb_3⟩; exact ⟨_, rfl, m_bb_4, k_bb_4⟩; exact ⟨_, rfl, m_bb_5, k_bb_5⟩; exact ⟨_, rfl, m_bb_6, k_bb_6⟩; exact ⟨_, rfl, m_bb_7, k_bb_7⟩; exact ⟨_, rfl, m_bb_8, k_bb_8⟩; exact ⟨_, rfl, m_bb_9, k_bb_9⟩; exact ⟨_, rfl, m_bb_10, k_bb_10⟩; exact ⟨_, rfl, m_bb_11, k_bb_11⟩; exact ⟨_, rfl, m_bb_12, k_bb_12⟩; exact ⟨_, rfl, m_bb_13, k_bb_13⟩; exact ⟨_, rfl, m_bb_14, k_bb_14⟩; exact ⟨_, rfl, m_bb_15, k_bb_15⟩; exact ⟨_, rfl, m_bb_16, k_bb_16⟩; exact ⟨_, rfl, m_bb_17, k_bb_17⟩) (fun s t h => (tn12 h).elim) (fun h => absurd h (by decide)) (fun s => okz12 s)
  obtain ⟨ug66, hug66⟩ : ∃ z, z = psh ug65 (bb 0) 12 (fun s => ([0, 0, 0, 0, 0, 0, 0, 0, 0, 0, 0, 0, 0, (-1), 0, 0, 0, 0, 0, 0, 0, 0, 0, 0, 0, 0, 0, (-1), 0, 0, 0, 0, 0, 0] : List Int32).getD s 0) (fun s => ([0, 0, 0, 0, 0, 0, 0, 0, 0, 0, 0, 0, 0, 0, 0, 0, 0, 0, 0, 0, 0, 0, 0, 0, 0, 0, 0, 0, 0, 0, 0, 0, 0, 0] : List Int64).getD s 0) (fun s => ([none, some (bb 1), some (bb 2), some (bb 3), some (bb 4), none, some (bb 5), none, none, none, none, none, none, none, some (bb 6), none, none, some (bb 7), some (bb 8), some (bb 9), some (bb 10), none, some (bb 11), none, some (bb 12), none, some (bb 13), none, none, none, some (bb 14), some (bb 15), some (bb 16), some (bb 17)] : List (Option Nat)).getD s none) := ⟨_, rfl⟩
  rw [← hug66] at hPn hDn hu px66
  have hPn : va_P D vwCl ([] ++ PW k ug66) H := hPn
  have hDn : va_D A ([] ++ PW k ug66) := hDn
  have k_a_0 : ug66.2.1 (a 0) = 11 := by rw [hug66]; exact (psh_k m_a_0 na).trans k_a_0
  have m_a_0 : (a 0) ∈ ug66.1 := by rw [hug66]; exact psh_m m_a_0
  have k_bb_1 : ug66.2.1 (bb 1) = 50 := by rw [hug66]; exact (psh_k m_bb_1 na).trans k_bb_1
  have m_bb_1 : (bb 1) ∈ ug66.1 := by rw [hug66]; exact psh_m m_bb_1
  have k_bb_2 : ug66.2.1 (bb 2) = 52 := by rw [hug66]; exact (psh_k m_bb_2 na).trans k_bb_2
  have m_bb_2 : (bb 2) ∈ ug66.1 := by rw [hug66]; exact psh_m m_bb_2
  have k_bb_3 : ug66.2.1 (bb 3) = 53 := by rw [hug66]; exact (psh_k m_bb_3 na).trans k_bb_3
  have m_bb_3 : (bb 3) ∈ ug66.1 := by rw [hug66]; exact psh_m m_bb_3
  have k_bb_4 : ug66.2.1 (bb 4) = 54 := by rw [hug66]; exact (psh_k m_bb_4 na).trans k_bb_4
  have m_bb_4 : (bb 4) ∈ ug66.1 := by rw [hug66]; exact psh_m m_bb_4
  have k_bb_5 : ug66.2.1 (bb 5) = 55 := by rw [hug66]; exact (psh_k m_bb_5 na).trans k_bb_5
  have m_bb_5 : (bb 5) ∈ ug66.1 := by rw [hug66]; exact psh_m m_bb_5
  have k_bb_6 : ug66.2.1 (bb 6) = 51 := by rw [hug66]; exact (psh_k m_bb_6 na).trans k_bb_6
  have m_bb_6 : (bb 6) ∈ ug66.1 := by rw [hug66]; exact psh_m m_bb_6
  have k_bb_7 : ug66.2.1 (bb 7) = 56 := by rw [hug66]; exact (psh_k m_bb_7 na).trans k_bb_7
  have m_bb_7 : (bb 7) ∈ ug66.1 := by rw [hug66]; exact psh_m m_bb_7
  have k_bb_8 : ug66.2.1 (bb 8) = 56 := by rw [hug66]; exact (psh_k m_bb_8 na).trans k_bb_8
  have m_bb_8 : (bb 8) ∈ ug66.1 := by rw [hug66]; exact psh_m m_bb_8
  have k_bb_9 : ug66.2.1 (bb 9) = 56 := by rw [hug66]; exact (psh_k m_bb_9 na).trans k_bb_9
  have m_bb_9 : (bb 9) ∈ ug66.1 := by rw [hug66]; exact psh_m m_bb_9
  have k_bb_10 : ug66.2.1 (bb 10) = 56 := by rw [hug66]; exact (psh_k m_bb_10 na).trans k_bb_10
  have m_bb_10 : (bb 10) ∈ ug66.1 := by rw [hug66]; exact psh_m m_bb_10
  have k_bb_11 : ug66.2.1 (bb 11) = 57 := by rw [hug66]; exact (psh_k m_bb_11 na).trans k_bb_11
  have m_bb_11 : (bb 11) ∈ ug66.1 := by rw [hug66]; exact psh_m m_bb_11
  have k_bb_12 : ug66.2.1 (bb 12) = 58 := by rw [hug66]; exact (psh_k m_bb_12 na).trans k_bb_12
  have m_bb_12 : (bb 12) ∈ ug66.1 := by rw [hug66]; exact psh_m m_bb_12
  have k_bb_13 : ug66.2.1 (bb 13) = 59 := by rw [hug66]; exact (psh_k m_bb_13 na).trans k_bb_13
  have m_bb_13 : (bb 13) ∈ ug66.1 := by rw [hug66]; exact psh_m m_bb_13
  have k_bb_14 : ug66.2.1 (bb 14) = 60 := by rw [hug66]; exact (psh_k m_bb_14 na).trans k_bb_14
  have m_bb_14 : (bb 14) ∈ ug66.1 := by rw [hug66]; exact psh_m m_bb_14
  have k_bb_15 : ug66.2.1 (bb 15) = 61 := by rw [hug66]; exact (psh_k m_bb_15 na).trans k_bb_15
  have m_bb_15 : (bb 15) ∈ ug66.1 := by rw [hug66]; exact psh_m m_bb_15
  have k_bb_16 : ug66.2.1 (bb 16) = 62 := by rw [hug66]; exact (psh_k m_bb_16 na).trans k_bb_16
  have m_bb_16 : (bb 16) ∈ ug66.1 := by rw [hug66]; exact psh_m m_bb_16
  have k_bb_17 : ug66.2.1 (bb 17) = 63 := by rw [hug66]; exact (psh_k m_bb_17 na).trans k_bb_17
  have m_bb_17 : (bb 17) ∈ ug66.1 := by rw [hug66]; exact psh_m m_bb_17
  have m_bb_0 : (bb 0) ∈ ug66.1 := by rw [hug66]; exact psh_in
  have k_bb_0 : ug66.2.1 (bb 0) = 12 := by rw [hug66]; exact psh_kd
  have sm_bb_0 := m_bb_0
  have sk_bb_0 := k_bb_0
  have sI_bb_0 : ug66.2.2.1 (bb 0) = (fun s => ([0, 0, 0, 0, 0, 0, 0, 0, 0, 0, 0, 0, 0, (-1), 0, 0, 0, 0, 0, 0, 0, 0, 0, 0, 0, 0, 0, (-1), 0, 0, 0, 0, 0, 0] : List Int32).getD s 0) := by rw [hug66]; exact psh_I
  have sR_bb_0 : ug66.2.2.2.2 (bb 0) = (fun s => ([none, some (bb 1), some (bb 2), some (bb 3), some (bb 4), none, some (bb 5), none, none, none, none, none, none, none, some (bb 6), none, none, some (bb 7), some (bb 8), some (bb 9), some (bb 10), none, some (bb 11), none, some (bb 12), none, some (bb 13), none, none, none, some (bb 14), some (bb 15), some (bb 16), some (bb 17)] : List (Option Nat)).getD s none) := by rw [hug66]; exact psh_R
  have pz66 : PX ug66 ug66 := PX.rf
  have pz65 : PX ug65 ug66 := px66.trans pz66
  have pz64 : PX ug64 ug66 := px65.trans pz65
  have pz63 : PX ug63 ug66 := px64.trans pz64
  have pz62 : PX ug62 ug66 := px63.trans pz63
  have pz61 : PX ug61 ug66 := px62.trans pz62
  have pz60 : PX ug60 ug66 := px61.trans pz61
  have pz59 : PX ug59 ug66 := px60.trans pz60
  have pz58 : PX ug58 ug66 := px59.trans pz59
  have pz57 : PX ug57 ug66 := px58.trans pz58
  have pz56 : PX ug56 ug66 := px57.trans pz57
  have pz55 : PX ug55 ug66 := px56.trans pz56
  have pz54 : PX ug54 ug66 := px55.trans pz55
  have pz53 : PX ug53 ug66 := px54.trans pz54
  have pz52 : PX ug52 ug66 := px53.trans pz53
  have pz51 : PX ug51 ug66 := px52.trans pz52
  have pz50 : PX ug50 ug66 := px51.trans pz51
  have pz49 : PX ug49 ug66 := px50.trans pz50
  have pz48 : PX ug48 ug66 := px49.trans pz49
  have pz47 : PX ug47 ug66 := px48.trans pz48
  have pz46 : PX ug46 ug66 := px47.trans pz47
  have pz45 : PX ug45 ug66 := px46.trans pz46
  have pz44 : PX ug44 ug66 := px45.trans pz45
  have pz43 : PX ug43 ug66 := px44.trans pz44
  have pz42 : PX ug42 ug66 := px43.trans pz43
  have pz41 : PX ug41 ug66 := px42.trans pz42
  have pz40 : PX ug40 ug66 := px41.trans pz41
  have pz39 : PX ug39 ug66 := px40.trans pz40
  have pz38 : PX ug38 ug66 := px39.trans pz39
  have pz37 : PX ug37 ug66 := px38.trans pz38
  have pz36 : PX ug36 ug66 := px37.trans pz37
  have pz35 : PX ug35 ug66 := px36.trans pz36
  have pz34 : PX ug34 ug66 := px35.trans pz35
  have pz33 : PX ug33 ug66 := px34.trans pz34
  have pz32 : PX ug32 ug66 := px33.trans pz33
  have pz31 : PX ug31 ug66 := px32.trans pz32
  have pz30 : PX ug30 ug66 := px31.trans pz31
  have pz29 : PX ug29 ug66 := px30.trans pz30
  have pz28 : PX ug28 ug66 := px29.trans pz29
  have pz27 : PX ug27 ug66 := px28.trans pz28
  have pz26 : PX ug26 ug66 := px27.trans pz27
  have pz25 : PX ug25 ug66 := px26.trans pz26
  have pz24 : PX ug24 ug66 := px25.trans pz25
  have pz23 : PX ug23 ug66 := px24.trans pz24
  have pz22 : PX ug22 ug66 := px23.trans pz23
  have pz21 : PX ug21 ug66 := px22.trans pz22
  have pz20 : PX ug20 ug66 := px21.trans pz21
  have pz19 : PX ug19 ug66 := px20.trans pz20
  have pz18 : PX ug18 ug66 := px19.trans pz19
  have pz17 : PX ug17 ug66 := px18.trans pz18
  have pz16 : PX ug16 ug66 := px17.trans pz17
  have pz15 : PX ug15 ug66 := px16.trans pz16
  have pz14 : PX ug14 ug66 := px15.trans pz15
  have pz13 : PX ug13 ug66 := px14.trans pz14
  have pz12 : PX ug12 ug66 := px13.trans pz13
  have pz11 : PX ug11 ug66 := px12.trans pz12
  have pz10 : PX ug10 ug66 := px11.trans pz11
  have pz9 : PX ug9 ug66 := px10.trans pz10
  have pz8 : PX ug8 ug66 := px9.trans pz9
  have pz7 : PX ug7 ug66 := px8.trans pz8
  have pz6 : PX ug6 ug66 := px7.trans pz7
  have pz5 : PX ug5 ug66 := px6.trans pz6
  have pz4 : PX ug4 ug66 := px5.trans pz5
  have pz3 : PX ug3 ug66 := px4.trans pz4
  have pz2 : PX ug2 ug66 := px3.trans pz3
  have pz1 : PX ug1 ug66 := px2.trans pz2
  have hR : REL ug66 (a 0) (bb 0) := REL_mk (im := (a 3)) (sl := (a 4)) (hi := (bb 3)) (sm := (bb 14)) (wd := (bb 15)) (r0 := (a 5)) (r1 := (a 6)) (r2 := (a 7)) (r3 := (a 8)) (((pz48 (a 0) sm_a_0).2.2.2.2.1 sk_a_0 1 (by decide)).trans (congrFun sR_a_0 1)) (pz3 (a 3) sm_a_3).1 ((pz3 (a 3) sm_a_3).2.1.trans sk_a_3) (fun s => (((pz3 (a 3) sm_a_3).2.2.2.1 (Or.inl sk_a_3) s).trans (congrFun sR_a_3 s))) (((pz48 (a 0) sm_a_0).2.2.2.2.1 sk_a_0 2 (by decide)).trans (congrFun sR_a_0 2)) (pz12 (a 4) sm_a_4).1 ((pz12 (a 4) sm_a_4).2.1.trans sk_a_4) (((pz66 (bb 0) sm_bb_0).2.2.2.2.2.1 sk_bb_0 3).trans (congrFun sR_bb_0 3)) (pz51 (bb 3) sm_bb_3).1 ((pz51 (bb 3) sm_bb_3).2.1.trans sk_bb_3) (fun s => (((pz51 (bb 3) sm_bb_3).2.2.2.2.2.2 (Or.inl sk_bb_3) s).trans (congrFun sI_bb_3 s))) (((pz66 (bb 0) sm_bb_0).2.2.2.2.2.1 sk_bb_0 30).trans (congrFun sR_bb_0 30)) (pz62 (bb 14) sm_bb_14).1 ((pz62 (bb 14) sm_bb_14).2.1.trans sk_bb_14) (fun s h => (((pz62 (bb 14) sm_bb_14).2.2.2.2.2.2 (Or.inr (Or.inl sk_bb_14)) s).trans ((congrFun sI_bb_14 s).trans (sm0_lt h)))) (((pz66 (bb 0) sm_bb_0).2.2.2.2.2.1 sk_bb_0 31).trans (congrFun sR_bb_0 31)) (pz63 (bb 15) sm_bb_15).1 ((pz63 (bb 15) sm_bb_15).2.1.trans sk_bb_15) (fun s => (((pz63 (bb 15) sm_bb_15).2.2.2.2.2.2 (Or.inr (Or.inr sk_bb_15)) s).trans (congrFun sI_bb_15 s))) (((pz12 (a 4) sm_a_4).2.2.2.1 (Or.inr sk_a_4) 0).trans (congrFun sR_a_4 0)) (pz5 (a 5) sm_a_5).1 ((pz5 (a 5) sm_a_5).2.1.trans sk_a_5) ((((pz5 (a 5) sm_a_5).2.2.1 sk_a_5 0).1).trans (congrFun sI_a_5 0)) ((((pz5 (a 5) sm_a_5).2.2.1 sk_a_5 1).1).trans (congrFun sI_a_5 1)) (((pz12 (a 4) sm_a_4).2.2.2.1 (Or.inr sk_a_4) 1).trans (congrFun sR_a_4 1)) (pz7 (a 6) sm_a_6).1 ((pz7 (a 6) sm_a_6).2.1.trans sk_a_6) ((((pz7 (a 6) sm_a_6).2.2.1 sk_a_6 0).1).trans (congrFun sI_a_6 0)) ((((pz7 (a 6) sm_a_6).2.2.1 sk_a_6 1).1).trans (congrFun sI_a_6 1)) (((pz12 (a 4) sm_a_4).2.2.2.1 (Or.inr sk_a_4) 2).trans (congrFun sR_a_4 2)) (pz9 (a 7) sm_a_7).1 ((pz9 (a 7) sm_a_7).2.1.trans sk_a_7) ((((pz9 (a 7) sm_a_7).2.2.1 sk_a_7 0).1).trans (congrFun sI_a_7 0)) ((((pz9 (a 7) sm_a_7).2.2.1 sk_a_7 1).1).trans (congrFun sI_a_7 1)) (((pz12 (a 4) sm_a_4).2.2.2.1 (Or.inr sk_a_4) 3).trans (congrFun sR_a_4 3)) (pz11 (a 8) sm_a_8).1 ((pz11 (a 8) sm_a_8).2.1.trans sk_a_8) ((((pz11 (a 8) sm_a_8).2.2.1 sk_a_8 0).1).trans (congrFun sI_a_8 0)) ((((pz11 (a 8) sm_a_8).2.2.1 sk_a_8 1).1).trans (congrFun sI_a_8 1)) ne_a_5_a_6 ne_a_5_a_7 ne_a_5_a_8 ne_a_6_a_7 ne_a_6_a_8 ne_a_7_a_8
  exact ⟨ug66, hu, m_a_0, k_a_0, m_bb_0, k_bb_0, hR, hPn, hDn⟩
