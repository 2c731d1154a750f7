def ar (u : PSt) (h sl : Nat) : Nat := (u.2.2.2.2 h sl).getD 0
theorem ar_eq {u : PSt} {h sl y : Nat} (q : u.2.2.2.2 h sl = some y) : ar u h sl = y := by rw [ar, q]; rfl
theorem cl_int {x : Int32} (h : 0 ≤ x.toInt) : (x.toNatClampNeg : Int) = x.toInt := Int.toNat_of_nonneg h
theorem i_mulc {a x : Int32} {c lo hi : Int} (hc : a.toInt = c) (h : lo ≤ x.toInt ∧ x.toInt ≤ hi) (hd : 0 ≤ c ∧ -2147483648 ≤ c * lo ∧ c * hi ≤ 2147483647) : (a * x).toInt = c * x.toInt := by
  have h1 : c * lo ≤ c * x.toInt := Int.mul_le_mul_of_nonneg_left h.1 hd.1
  have h2 : c * x.toInt ≤ c * hi := Int.mul_le_mul_of_nonneg_left h.2 hd.1
  rw [Int32.toInt_mul, hc]
  exact Int.bmod_eq_of_le (by omega) (by omega)
theorem i_mulc' {a x : Int32} {c lo hi : Int} (hc : a.toInt = c) (h : lo ≤ x.toInt ∧ x.toInt ≤ hi) (hd : 0 ≤ c ∧ -2147483648 ≤ c * lo ∧ c * hi ≤ 2147483647) : (x * a).toInt = c * x.toInt := by
  rw [Int32.mul_comm]; exact i_mulc hc h hd
theorem i_mulb {a b : Int32} {A B C : Int} (ha : 0 ≤ a.toInt ∧ a.toInt ≤ A) (hb : 0 ≤ b.toInt ∧ b.toInt ≤ B) (h : A * B = C ∧ C ≤ 2147483647) : 0 ≤ (a * b).toInt ∧ (a * b).toInt ≤ C := by
  have h0 : 0 ≤ a.toInt * b.toInt := Int.mul_nonneg ha.1 hb.1
  have h1 : a.toInt * b.toInt ≤ A * B := Int.mul_le_mul ha.2 hb.2 hb.1 (Int.le_trans ha.1 ha.2)
  have e : (a * b).toInt = a.toInt * b.toInt := by
    rw [Int32.toInt_mul]
    exact Int.bmod_eq_of_le (by omega) (by omega)
  rw [e]
  exact ⟨h0, by omega⟩
theorem i_sq {a b : Int32} (h : 0 ≤ a.toInt ∧ a.toInt ≤ 1549) (e : b.toInt = a.toInt) : a.toInt ≤ 1548 ∨ 2397600 < (a * b).toInt := by
  by_cases h1 : a.toInt ≤ 1548
  · exact Or.inl h1
  · right
    have ha : a.toInt = 1549 := by omega
    rw [Int32.toInt_mul, e, ha]
    decide
theorem i_rem {a : Int32} {d : Nat} (h : 0 ≤ a.toInt) (h0 : 0 < d) (hd : d < 2 ^ 31) : (a - a / nI d * nI d).toInt = a.toInt % d := by
  obtain ⟨j, hj, rfl⟩ := nI_of (x := a) (by rw [Int32.lt_iff_toInt_lt]; show ¬ a.toInt < 0; omega)
  rw [pk_rem hj h0 hd, nI_toInt hj, nI_toInt (Nat.lt_of_le_of_lt (Nat.mod_le j d) hj)]
  rfl
theorem i_and {x m : Int32} {b : Nat} (hm : m.toBitVec.toNat = 2 ^ b - 1) (hb : b ≤ 30) : 0 ≤ (x &&& m).toInt ∧ (x &&& m).toInt ≤ 2 ^ b - 1 := by
  obtain ⟨j, hj, e⟩ := pk_andE x (m := m) b hm
  have h30 : (2 : Nat) ^ b ≤ 2 ^ 30 := Nat.pow_le_pow_right (by decide) hb
  rw [e, nI_toInt (by omega)]
  have hc : ((2 ^ b : Nat) : Int) = (2 : Int) ^ b := by simp
  omega
theorem i_min {a b : Int32} : (if b < a then b else a).toInt ≤ a.toInt ∧ (if b < a then b else a).toInt ≤ b.toInt ∧ ((if b < a then b else a).toInt = a.toInt ∨ (if b < a then b else a).toInt = b.toInt) := by
  by_cases h : b < a
  · rw [if_pos h]; rw [Int32.lt_iff_toInt_lt] at h; omega
  · rw [if_neg h]; rw [Int32.lt_iff_toInt_lt] at h; omega
theorem l_min {a b : Int64} : (if b < a then b else a).toInt ≤ a.toInt ∧ (if b < a then b else a).toInt ≤ b.toInt ∧ ((if b < a then b else a).toInt = a.toInt ∨ (if b < a then b else a).toInt = b.toInt) := by
  by_cases h : b < a
  · rw [if_pos h]; rw [Int64.lt_iff_toInt_lt] at h; omega
  · rw [if_neg h]; rw [Int64.lt_iff_toInt_lt] at h; omega
theorem l_max {a b : Int64} : (if b < a then a else b).toInt ≥ a.toInt ∧ (if b < a then a else b).toInt ≥ b.toInt ∧ ((if b < a then a else b).toInt = a.toInt ∨ (if b < a then a else b).toInt = b.toInt) := by
  by_cases h : b < a
  · rw [if_pos h]; rw [Int64.lt_iff_toInt_lt] at h; omega
  · rw [if_neg h]; rw [Int64.lt_iff_toInt_lt] at h; omega
theorem l_add {a b : Int64} (h1 : -9223372036854775808 ≤ a.toInt + b.toInt) (h2 : a.toInt + b.toInt ≤ 9223372036854775807) : (a + b).toInt = a.toInt + b.toInt := by
  rw [Int64.toInt_add]
  exact Int.bmod_eq_of_le (by omega) (by omega)
theorem l_toi {x : Int64} (h : -2147483648 ≤ x.toInt ∧ x.toInt ≤ 2147483647) : x.toInt32.toInt = x.toInt := by
  rw [Int64.toInt_toInt32]
  exact Int.bmod_eq_of_le (by omega) (by omega)
def MY (u0 u : PSt) : Prop := ∀ a ∈ u0.1, a ∈ u.1 ∧ u.2.1 a = u0.2.1 a ∧ (u0.2.1 a = 7 → ∀ s, u.2.2.1 a s = u0.2.2.1 a s ∧ u.2.2.2.2 a s = u0.2.2.2.2 a s) ∧ (u0.2.1 a = 40 ∨ u0.2.1 a = 41 → ∀ s, u.2.2.2.2 a s = u0.2.2.2.2 a s) ∧ (u0.2.1 a = 11 → ∀ s, s < 8 → u.2.2.2.2 a s = u0.2.2.2.2 a s) ∧ (u0.2.1 a = 12 → ∀ s, u.2.2.2.2 a s = u0.2.2.2.2 a s) ∧ True
theorem MY.rf {u : PSt} : MY u u := fun a h => ⟨h, rfl, fun _ _ => ⟨rfl, rfl⟩, fun _ _ => rfl, fun _ _ _ => rfl, fun _ _ => rfl, trivial⟩
theorem PX.toM {a b : PSt} (h : PX a b) : MY a b := fun x hx => ⟨(h x hx).1, (h x hx).2.1, (h x hx).2.2.1, (h x hx).2.2.2.1, (h x hx).2.2.2.2.1, (h x hx).2.2.2.2.2.1, trivial⟩
theorem MY.toY {a b : PSt} (h : MY a b) : PY a b := fun x hx => ⟨(h x hx).1, (h x hx).2.1⟩
theorem MY.trans {a b c : PSt} (h : MY a b) (h2 : MY b c) : MY a c := by
  intro x hx
  obtain ⟨q1, q2, q3, q4, q5, q6, -⟩ := h x hx
  obtain ⟨w1, w2, w3, w4, w5, w6, -⟩ := h2 x q1
  refine ⟨w1, w2.trans q2, fun z s => ⟨((w3 (q2.trans z) s).1).trans (q3 z s).1, ((w3 (q2.trans z) s).2).trans (q3 z s).2⟩, fun z s => ?_, fun z s hs => (w5 (q2.trans z) s hs).trans (q5 z s hs), fun z s => (w6 (q2.trans z) s).trans (q6 z s), trivial⟩
  exact (w4 (by rcases z with z | z; exact Or.inl (q2.trans z); exact Or.inr (q2.trans z)) s).trans (q4 z s)
theorem MY.setI {u0 u : PSt} {a s : Nat} {v : Int32} (h : MY u0 u) (h7 : u.2.1 a ≠ 7) : MY u0 (pSI u a s v) := by
  intro x hx
  obtain ⟨h1, h2, h3, h4, h5, h6, -⟩ := h x hx
  refine ⟨h1, h2, fun q t => ⟨?_, (h3 q t).2⟩, h4, h5, h6, trivial⟩
  show (if x = a ∧ t = s then v else u.2.2.1 x t) = _
  rw [if_neg (fun e => h7 (by rw [← e.1, h2]; exact q))]
  exact (h3 q t).1
theorem MY.setJ {u0 u : PSt} {a s : Nat} {v : Int64} (h : MY u0 u) : MY u0 (pSJ u a s v) := h
def KF (u v : PSt) : Prop := ∀ a ∈ u.1, u.2.1 a = 51 → ∀ s, v.2.2.1 a s = u.2.2.1 a s
theorem KF.rf {u : PSt} : KF u u := fun _ _ _ => fun _ => rfl
theorem KF.trans {a b c : PSt} (h : KF a b) (hp : PX a b) (h2 : KF b c) : KF a c := fun x hx hk => fun s => (h2 x (hp x hx).1 ((hp x hx).2.1.trans hk) s).trans (h x hx hk s)
theorem KF.setI {u0 u : PSt} {a s : Nat} {v : Int32} (h : KF u0 u) (hp : PX u0 u) (h51 : u.2.1 a ≠ 51) : KF u0 (pSI u a s v) := by
  intro x hx hk
  intro t
  show (if x = a ∧ t = s then v else u.2.2.1 x t) = _
  rw [if_neg (fun e => h51 (by rw [← e.1, (hp x hx).2.1]; exact hk))]
  exact h x hx hk t
theorem KF.setJ {u0 u : PSt} {a s : Nat} {v : Int64} (h : KF u0 u) : KF u0 (pSJ u a s v) := h
def KH (u v : PSt) : Prop := ∀ a ∈ u.1, u.2.1 a = 51 → ∀ s, s < 26 → v.2.2.1 a s = u.2.2.1 a s
theorem KH.rf {u : PSt} : KH u u := fun _ _ _ => fun _ _ => rfl
theorem KH.trans {a b c : PSt} (h : KH a b) (hp : PX a b) (h2 : KH b c) : KH a c := fun x hx hk => fun s hs => (h2 x (hp x hx).1 ((hp x hx).2.1.trans hk) s hs).trans (h x hx hk s hs)
theorem KH.setI {u0 u : PSt} {a s : Nat} {v : Int32} (h : KH u0 u) (hp : PX u0 u) (h51 : u.2.1 a ≠ 51) : KH u0 (pSI u a s v) := by
  intro x hx hk
  intro t ht
  show (if x = a ∧ t = s then v else u.2.2.1 x t) = _
  rw [if_neg (fun e => h51 (by rw [← e.1, (hp x hx).2.1]; exact hk))]
  exact h x hx hk t ht
theorem KH.setJ {u0 u : PSt} {a s : Nat} {v : Int64} (h : KH u0 u) : KH u0 (pSJ u a s v) := h
theorem KH.setF {u0 u : PSt} {a s : Nat} {v : Int32} (h : KH u0 u) (hs : 26 ≤ s) : KH u0 (pSI u a s v) := by
  intro x hx hk t ht
  show (if x = a ∧ t = s then v else u.2.2.1 x t) = _
  rw [if_neg (fun e => by omega)]
  exact h x hx hk t ht
def KL (u v : PSt) : Prop := ∀ a ∈ u.1, u.2.1 a = 51 → v.2.2.1 a 0 = u.2.2.1 a 0
theorem KL.rf {u : PSt} : KL u u := fun _ _ _ => rfl
theorem KL.trans {a b c : PSt} (h : KL a b) (hp : PX a b) (h2 : KL b c) : KL a c := fun x hx hk => (h2 x (hp x hx).1 ((hp x hx).2.1.trans hk)).trans (h x hx hk)
theorem KL.setI {u0 u : PSt} {a s : Nat} {v : Int32} (h : KL u0 u) (hp : PX u0 u) (h51 : u.2.1 a ≠ 51) : KL u0 (pSI u a s v) := by
  intro x hx hk
  show (if x = a ∧ 0 = s then v else u.2.2.1 x 0) = _
  rw [if_neg (fun e => h51 (by rw [← e.1, (hp x hx).2.1]; exact hk))]
  exact h x hx hk
theorem KL.setJ {u0 u : PSt} {a s : Nat} {v : Int64} (h : KL u0 u) : KL u0 (pSJ u a s v) := h
theorem KL.setF {u0 u : PSt} {a s : Nat} {v : Int32} (h : KL u0 u) (hs : 0 < s) : KL u0 (pSI u a s v) := by
  intro x hx hk
  show (if x = a ∧ 0 = s then v else u.2.2.1 x 0) = _
  rw [if_neg (fun e => by omega)]
  exact h x hx hk
theorem KF.toL {u v : PSt} (h : KF u v) : KL u v := fun a ha hk => h a ha hk 0
theorem KF.toH {u v : PSt} (h : KF u v) : KH u v := fun a ha hk s _ => h a ha hk s
theorem KH.toL {u v : PSt} (h : KH u v) : KL u v := fun a ha hk => h a ha hk 0 (by decide)
