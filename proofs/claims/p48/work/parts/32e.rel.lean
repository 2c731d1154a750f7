def Nn (_ : Nat) : Prop := False
def NN (_ _ : Nat) : Prop := False
def PZ (E7 : Nat → Prop) (E4 EM : Nat → Nat → Prop) (u0 u : PSt) : Prop := ∀ a ∈ u0.1, a ∈ u.1 ∧ u.2.1 a = u0.2.1 a ∧ (u0.2.1 a = 7 → ¬ E7 a → ∀ s, u.2.2.1 a s = u0.2.2.1 a s) ∧ (u0.2.1 a = 40 → ∀ s, ¬ E4 a s → u.2.2.2.2 a s = u0.2.2.2.2 a s) ∧ (u0.2.1 a = 41 → ∀ s, u.2.2.2.2 a s = u0.2.2.2.2 a s) ∧ (u0.2.1 a = 11 → ∀ s, s < 8 → u.2.2.2.2 a s = u0.2.2.2.2 a s) ∧ (u0.2.1 a = 12 → ∀ s, u.2.2.2.2 a s = u0.2.2.2.2 a s) ∧ (u0.2.1 a = 53 ∨ u0.2.1 a = 60 ∨ u0.2.1 a = 61 → ∀ s, ¬ EM a s → u.2.2.1 a s = u0.2.2.1 a s)
theorem PZ.rf {E7 : Nat → Prop} {E4 EM : Nat → Nat → Prop} {u : PSt} : PZ E7 E4 EM u u := fun a h => ⟨h, rfl, fun _ _ _ => rfl, fun _ _ _ => rfl, fun _ _ => rfl, fun _ _ _ => rfl, fun _ _ => rfl, fun _ _ _ => rfl⟩
theorem PX.toZ {E7 : Nat → Prop} {E4 EM : Nat → Nat → Prop} {u0 u : PSt} (h : PX u0 u) : PZ E7 E4 EM u0 u := by
  intro a ha
  obtain ⟨h1, h2, h3, h4, h5, h6, h8⟩ := h a ha
  exact ⟨h1, h2, fun q _ s => (h3 q s).1, fun q s _ => h4 (Or.inl q) s, fun q s => h4 (Or.inr q) s, h5, h6, fun q s _ => h8 q s⟩
theorem PZ.setI {E7 : Nat → Prop} {E4 EM : Nat → Nat → Prop} {u0 u : PSt} {a s : Nat} {v : Int32} (h : PZ E7 E4 EM u0 u) (h7 : u.2.1 a = 7 → E7 a) (hM : u.2.1 a = 53 ∨ u.2.1 a = 60 ∨ u.2.1 a = 61 → EM a s) : PZ E7 E4 EM u0 (pSI u a s v) := by
  intro x hx
  obtain ⟨h1, h2, h3, h4, h5, h6, h8, h9⟩ := h x hx
  refine ⟨h1, h2, fun q e t => ?_, h4, h5, h6, h8, fun q t e => ?_⟩
  · show (if x = a ∧ t = s then v else u.2.2.1 x t) = _
    rw [if_neg (fun w => e (by rw [w.1]; exact h7 (by rw [← w.1, h2]; exact q)))]
    exact h3 q e t
  · show (if x = a ∧ t = s then v else u.2.2.1 x t) = _
    rw [if_neg (fun w => e (by rw [w.1, w.2]; exact hM (by rw [← w.1, h2]; exact q)))]
    exact h9 q t e
theorem PZ.setR {E7 : Nat → Prop} {E4 EM : Nat → Nat → Prop} {u0 u : PSt} {a s : Nat} {v : Option Nat} (h : PZ E7 E4 EM u0 u) (h40 : u.2.1 a = 40 ∧ E4 a s) : PZ E7 E4 EM u0 (pSR u a s v) := by
  intro x hx
  obtain ⟨h1, h2, h3, h4, h5, h6, h8, h9⟩ := h x hx
  have nk : ∀ (n : Nat), n ≠ 40 → u0.2.1 x = n → ∀ t, (pSR u a s v).2.2.2.2 x t = u.2.2.2.2 x t := by
    intro n hn hk t
    show (if x = a ∧ t = s then v else u.2.2.2.2 x t) = _
    rw [if_neg (fun w => hn (by rw [← hk, ← h2, w.1]; exact h40.1))]
  refine ⟨h1, h2, h3, fun q t e => ?_, fun q t => (nk 41 (by decide) q t).trans (h5 q t), fun q t ht => (nk 11 (by decide) q t).trans (h6 q t ht), fun q t => (nk 12 (by decide) q t).trans (h8 q t), h9⟩
  show (if x = a ∧ t = s then v else u.2.2.2.2 x t) = _
  rw [if_neg (fun w => e (by rw [w.1, w.2]; exact h40.2))]
  exact h4 q t e
theorem pSI_at {u : PSt} {a s : Nat} {v : Int32} : (pSI u a s v).2.2.1 a s = v := if_pos ⟨rfl, rfl⟩
theorem pSI_ne {u : PSt} {a s x t : Nat} {v : Int32} (h : ¬ (x = a ∧ t = s)) : (pSI u a s v).2.2.1 x t = u.2.2.1 x t := if_neg h
theorem pSR_at {u : PSt} {a s : Nat} {v : Option Nat} : (pSR u a s v).2.2.2.2 a s = v := if_pos ⟨rfl, rfl⟩
def RwO (u : PSt) (x j : Nat) : Option Nat := (u.2.2.2.2 x 2).bind (fun sl => u.2.2.2.2 sl j)
theorem RwO_mk {u : PSt} {x j sl y : Nat} (h1 : u.2.2.2.2 x 2 = some sl) (h2 : u.2.2.2.2 sl j = some y) : RwO u x j = some y := by
  unfold RwO
  rw [h1]
  exact h2
def BG (h : Nat) (w n : Int32) (u0 u : PSt) : Prop := PZ (fun a => a = h) NN NN u0 u ∧ u.2.2.1 h 0 = 1 ∧ u.2.2.1 h 1 = w ∧ u.2.2.1 h 2 = n
theorem BG_mk {u : PSt} {h : Nat} {w n : Int32} (k : u.2.1 h = 7) : BG h w n u (pSI (pSI (pSI u h 0 1) h 1 w) h 2 n) := by
  have nM : ∀ v : PSt, v.2.1 h = 7 → (v.2.1 h = 53 ∨ v.2.1 h = 60 ∨ v.2.1 h = 61 → ∀ s, NN h s) := fun v kv q => by rw [kv] at q; exact absurd q (by decide)
  refine ⟨(((PZ.rf (E7 := fun a => a = h) (E4 := NN) (EM := NN)).setI (fun _ => rfl) (fun q => nM u k q 0)).setI (fun _ => rfl) (fun q => nM (pSI u h 0 1) k q 1)).setI (fun _ => rfl) (fun q => nM (pSI (pSI u h 0 1) h 1 w) k q 2), ?_, ?_, ?_⟩
  · rw [pSI_ne (fun q => absurd q.2 (by decide)), pSI_ne (fun q => absurd q.2 (by decide)), pSI_at]
  · rw [pSI_ne (fun q => absurd q.2 (by decide)), pSI_at]
  · rw [pSI_at]
def KG (im j : Nat) (u0 u : PSt) : Prop := PZ Nn (fun a s => a = im ∧ s = j) NN u0 u ∧ u.2.2.2.2 im j ≠ none
theorem KG_mk {u : PSt} {im j y : Nat} (k : u.2.1 im = 40) : KG im j u (pSR u im j (some y)) := ⟨PZ.rf.setR ⟨k, rfl, rfl⟩, by rw [pSR_at]; exact fun h => by cases h⟩
def HG (hi j : Nat) (u0 u : PSt) : Prop := PZ Nn NN (fun a s => a = hi ∧ s = j) u0 u ∧ (u.2.2.1 hi j).toInt = 1
def SG (sm wd j : Nat) (n w : Int32) (u0 u : PSt) : Prop := PZ Nn NN (fun a s => (a = sm ∨ a = wd) ∧ s = j) u0 u ∧ u.2.2.1 sm j = n ∧ u.2.2.1 wd j = w
theorem SG_mk {u : PSt} {sm wd j : Nat} {n w : Int32} (k1 : u.2.1 sm = 60) (k2 : u.2.1 wd = 61) : SG sm wd j n w u (pSI (pSI u sm j n) wd j w) := by
  have hne : sm ≠ wd := fun e => by rw [e, k2] at k1; exact absurd k1 (by decide)
  refine ⟨(PZ.rf.setI (fun q => absurd (k1.symm.trans q) (by decide)) (fun _ => ⟨Or.inl rfl, rfl⟩)).setI (fun q => absurd (k2.symm.trans q) (by decide)) (fun _ => ⟨Or.inr rfl, rfl⟩), ?_, pSI_at⟩
  rw [pSI_ne (fun q => hne q.1), pSI_at]
def CBk (u : PSt) (x : Nat) (p1 : Int32) (r : Int) : Prop := ((p1.toInt < 0 ∨ 2 < p1.toInt) ∧ r = -2) ∨ (0 ≤ p1.toInt ∧ p1.toInt ≤ 2 ∧ ∃ im, u.2.2.2.2 x 1 = some im ∧ ((u.2.2.2.2 im p1.toNatClampNeg = none ∧ r = -6) ∨ (u.2.2.2.2 im p1.toNatClampNeg ≠ none ∧ r = 0)))
def MBk (u : PSt) (x : Nat) (p1 : Int32) (r : Int) : Prop := ((p1.toInt < 0 ∨ 2 < p1.toInt) ∧ r = -2) ∨ (0 ≤ p1.toInt ∧ p1.toInt ≤ 2 ∧ ∃ hi, u.2.2.2.2 x 3 = some hi ∧ (((u.2.2.1 hi p1.toNatClampNeg).toInt = 0 ∧ r = -6) ∨ ((u.2.2.1 hi p1.toNatClampNeg).toInt ≠ 0 ∧ r = 0)))
def AWr (is sz i r : Int) : Prop := (is = 0 ∧ r = -6) ∨ (is ≠ 0 ∧ (i < 0 ∨ sz ≤ i) ∧ r = -7) ∨ (is ≠ 0 ∧ 0 ≤ i ∧ i < sz ∧ r = 0)
def BWr (sm i r : Int) : Prop := (sm = -1 ∧ r = -6) ∨ (sm ≠ -1 ∧ (i < 0 ∨ sm ≤ i) ∧ r = -7) ∨ (sm ≠ -1 ∧ 0 ≤ i ∧ i < sm ∧ r = 0)
def CWr (u : PSt) (x : Nat) (p1 p2 : Int32) (r : Int) : Prop := ((p1.toInt < 0 ∨ 3 < p1.toInt) ∧ r = -2) ∨ (0 ≤ p1.toInt ∧ p1.toInt ≤ 3 ∧ ∃ y, RwO u x p1.toNatClampNeg = some y ∧ AWr (u.2.2.1 y 0).toInt (u.2.2.1 y 2).toInt p2.toInt r)
def MWr (u : PSt) (x : Nat) (p1 p2 : Int32) (r : Int) : Prop := ((p1.toInt < 0 ∨ 3 < p1.toInt) ∧ r = -2) ∨ (0 ≤ p1.toInt ∧ p1.toInt ≤ 3 ∧ ∃ sm, u.2.2.2.2 x 30 = some sm ∧ BWr (u.2.2.1 sm p1.toNatClampNeg).toInt p2.toInt r)
def APa (is1 w1 s1 is2 w2 s2 i k n r : Int) : Prop := ((is1 = 0 ∨ is2 = 0) ∧ r = -6) ∨ (is1 ≠ 0 ∧ is2 ≠ 0 ∧ w1 ≠ w2 ∧ r = -8) ∨ (is1 ≠ 0 ∧ is2 ≠ 0 ∧ w1 = w2 ∧ (i < 0 ∨ k < 0 ∨ n < 0 ∨ s1 < i + n ∨ s2 < k + n) ∧ r = -7) ∨ (is1 ≠ 0 ∧ is2 ≠ 0 ∧ w1 = w2 ∧ 0 ≤ i ∧ 0 ≤ k ∧ 0 ≤ n ∧ i + n ≤ s1 ∧ k + n ≤ s2 ∧ r = 0)
def BPa (s1 w1 s2 w2 i k n r : Int) : Prop := ((s1 = -1 ∨ s2 = -1) ∧ r = -6) ∨ (s1 ≠ -1 ∧ s2 ≠ -1 ∧ w1 ≠ w2 ∧ r = -8) ∨ (s1 ≠ -1 ∧ s2 ≠ -1 ∧ w1 = w2 ∧ (i < 0 ∨ k < 0 ∨ n < 0 ∨ s1 < i + n ∨ s2 < k + n) ∧ r = -7) ∨ (s1 ≠ -1 ∧ s2 ≠ -1 ∧ w1 = w2 ∧ 0 ≤ i ∧ 0 ≤ k ∧ 0 ≤ n ∧ i + n ≤ s1 ∧ k + n ≤ s2 ∧ r = 0)
def CPa (u : PSt) (x : Nat) (p1 p2 p3 p4 p5 : Int32) (r : Int) : Prop := ((p1.toInt < 0 ∨ 3 < p1.toInt ∨ p3.toInt < 0 ∨ 3 < p3.toInt) ∧ r = -2) ∨ (0 ≤ p1.toInt ∧ p1.toInt ≤ 3 ∧ 0 ≤ p3.toInt ∧ p3.toInt ≤ 3 ∧ ∃ y z, RwO u x p1.toNatClampNeg = some y ∧ RwO u x p3.toNatClampNeg = some z ∧ APa (u.2.2.1 y 0).toInt (u.2.2.1 y 1).toInt (u.2.2.1 y 2).toInt (u.2.2.1 z 0).toInt (u.2.2.1 z 1).toInt (u.2.2.1 z 2).toInt p2.toInt p4.toInt p5.toInt r)
def MPa (u : PSt) (x : Nat) (p1 p2 p3 p4 p5 : Int32) (r : Int) : Prop := ((p1.toInt < 0 ∨ 3 < p1.toInt ∨ p3.toInt < 0 ∨ 3 < p3.toInt) ∧ r = -2) ∨ (0 ≤ p1.toInt ∧ p1.toInt ≤ 3 ∧ 0 ≤ p3.toInt ∧ p3.toInt ≤ 3 ∧ ∃ sm wd, u.2.2.2.2 x 30 = some sm ∧ u.2.2.2.2 x 31 = some wd ∧ BPa (u.2.2.1 sm p1.toNatClampNeg).toInt (u.2.2.1 wd p1.toNatClampNeg).toInt (u.2.2.1 sm p3.toNatClampNeg).toInt (u.2.2.1 wd p3.toNatClampNeg).toInt p2.toInt p4.toInt p5.toInt r)
