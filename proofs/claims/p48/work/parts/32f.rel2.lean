def REV (u : PSt) (im hi sm wd : Nat) (f : Nat → Nat) : Prop := (∀ j, j < 3 → (u.2.2.2.2 im j = none ↔ (u.2.2.1 hi j).toInt = 0)) ∧ ∀ j, j < 4 → (((u.2.2.1 (f j) 0).toInt = 0 ∧ (u.2.2.1 sm j).toInt = -1) ∨ ((u.2.2.1 (f j) 0).toInt ≠ 0 ∧ (u.2.2.1 sm j).toInt = (u.2.2.1 (f j) 2).toInt ∧ 0 ≤ (u.2.2.1 (f j) 2).toInt)) ∧ (u.2.2.1 (f j) 1).toInt = (u.2.2.1 wd j).toInt
def REA (u : PSt) (x mm im sl hi sm wd : Nat) (f : Nat → Nat) : Prop := (u.2.2.2.2 x 1 = some im ∧ im ∈ u.1 ∧ u.2.1 im = 40) ∧ (u.2.2.2.2 x 2 = some sl ∧ sl ∈ u.1 ∧ u.2.1 sl = 41) ∧ (u.2.2.2.2 mm 3 = some hi ∧ hi ∈ u.1 ∧ u.2.1 hi = 53) ∧ (u.2.2.2.2 mm 30 = some sm ∧ sm ∈ u.1 ∧ u.2.1 sm = 60) ∧ (u.2.2.2.2 mm 31 = some wd ∧ wd ∈ u.1 ∧ u.2.1 wd = 61) ∧ (∀ j, j < 4 → u.2.2.2.2 sl j = some (f j) ∧ f j ∈ u.1 ∧ u.2.1 (f j) = 7) ∧ ∀ i j, i < 4 → j < 4 → f i = f j → i = j
def REL (u : PSt) (x mm : Nat) : Prop := ∃ (im sl hi sm wd : Nat) (f : Nat → Nat), REA u x mm im sl hi sm wd f ∧ REV u im hi sm wd f
section
variable {E7 : Nat → Prop} {E4 EM : Nat → Nat → Prop} {u v t : PSt} {x mm im sl hi sm wd : Nat} {f : Nat → Nat}
theorem PZ.k (hz : PZ E7 E4 EM u v) {a n : Nat} (ha : a ∈ u.1) (hk : u.2.1 a = n) : v.2.1 a = n := (hz a ha).2.1.trans hk
theorem PZ.m (hz : PZ E7 E4 EM u v) {a : Nat} (ha : a ∈ u.1) : a ∈ v.1 := (hz a ha).1
theorem PZ.v7 (hz : PZ E7 E4 EM u v) {a s : Nat} (ha : a ∈ u.1) (hk : u.2.1 a = 7) (hE : ¬ E7 a) : v.2.2.1 a s = u.2.2.1 a s := (hz a ha).2.2.1 hk hE s
theorem PZ.v4 (hz : PZ E7 E4 EM u v) {a s : Nat} (ha : a ∈ u.1) (hk : u.2.1 a = 40) (hE : ¬ E4 a s) : v.2.2.2.2 a s = u.2.2.2.2 a s := (hz a ha).2.2.2.1 hk s hE
theorem PZ.vM (hz : PZ E7 E4 EM u v) {a s : Nat} (ha : a ∈ u.1) (hk : u.2.1 a = 53 ∨ u.2.1 a = 60 ∨ u.2.1 a = 61) (hE : ¬ EM a s) : v.2.2.1 a s = u.2.2.1 a s := (hz a ha).2.2.2.2.2.2.2 hk s hE
theorem REA.z (hx : x ∈ u.1) (kx : u.2.1 x = 11) (hm : mm ∈ u.1) (km : u.2.1 mm = 12) (h : REA u x mm im sl hi sm wd f) (hz : PZ E7 E4 EM u v) : REA v x mm im sl hi sm wd f := by
  obtain ⟨⟨a1, a2, a3⟩, ⟨b1, b2, b3⟩, ⟨c1, c2, c3⟩, ⟨d1, d2, d3⟩, ⟨e1, e2, e3⟩, g, i⟩ := h
  have hX : ∀ s, s < 8 → v.2.2.2.2 x s = u.2.2.2.2 x s := (hz x hx).2.2.2.2.2.1 kx
  have hM : ∀ s, v.2.2.2.2 mm s = u.2.2.2.2 mm s := (hz mm hm).2.2.2.2.2.2.1 km
  refine ⟨⟨(hX 1 (by decide)).trans a1, hz.m a2, hz.k a2 a3⟩, ⟨(hX 2 (by decide)).trans b1, hz.m b2, hz.k b2 b3⟩, ⟨(hM 3).trans c1, hz.m c2, hz.k c2 c3⟩, ⟨(hM 30).trans d1, hz.m d2, hz.k d2 d3⟩, ⟨(hM 31).trans e1, hz.m e2, hz.k e2 e3⟩, fun j hj => ?_, i⟩
  obtain ⟨g1, g2, g3⟩ := g j hj
  exact ⟨((hz sl b2).2.2.2.2.1 b3 j).trans g1, hz.m g2, hz.k g2 g3⟩
theorem nNn {a : Nat} : ¬ Nn a := fun h => h
theorem nNN {a s : Nat} : ¬ NN a s := fun h => h
theorem REV.z (hA : REA u x mm im sl hi sm wd f) (hV : REV u im hi sm wd f) (hz : PZ Nn NN NN u v) : REV v im hi sm wd f := by
  obtain ⟨⟨a1, a2, a3⟩, ⟨b1, b2, b3⟩, ⟨c1, c2, c3⟩, ⟨d1, d2, d3⟩, ⟨e1, e2, e3⟩, g, i⟩ := hA
  refine ⟨fun j hj => ?_, fun j hj => ?_⟩
  · rw [hz.v4 a2 a3 nNN, hz.vM c2 (Or.inl c3) nNN]; exact hV.1 j hj
  · obtain ⟨g1, g2, g3⟩ := g j hj
    rw [hz.v7 (s := 0) g2 g3 nNn, hz.v7 (s := 1) g2 g3 nNn, hz.v7 (s := 2) g2 g3 nNn, hz.vM d2 (Or.inr (Or.inl d3)) nNN, hz.vM e2 (Or.inr (Or.inr e3)) nNN]; exact hV.2 j hj
theorem REL.px (hx : x ∈ u.1) (kx : u.2.1 x = 11) (hm : mm ∈ u.1) (km : u.2.1 mm = 12) (h : REL u x mm) (hp : PX u v) : REL v x mm := by
  obtain ⟨im, sl, hi, sm, wd, f, hA, hV⟩ := h
  exact ⟨im, sl, hi, sm, wd, f, REA.z hx kx hm km hA (hp.toZ (E7 := Nn) (E4 := NN) (EM := NN)), REV.z hA hV hp.toZ⟩
theorem REL_keep (hx : x ∈ u.1) (kx : u.2.1 x = 11) (hm : mm ∈ u.1) (km : u.2.1 mm = 12) (h : REL u x mm) {p p' r r' : Int32} (e : p'.toInt = p.toInt) (h1 : (((p.toInt < 0 ∨ 2 < p.toInt) ∧ r.toInt = -2) ∨ (0 ≤ p.toInt ∧ p.toInt ≤ 2 ∧ r.toInt = 0)) ∧ (r.toInt ≠ 0 → v = u) ∧ (r.toInt = 0 → ∃ im, u.2.2.2.2 x 1 = some im ∧ KG im p.toNatClampNeg u v)) (h2 : (((p'.toInt < 0 ∨ 2 < p'.toInt) ∧ r'.toInt = -2) ∨ (0 ≤ p'.toInt ∧ p'.toInt ≤ 2 ∧ r'.toInt = 0)) ∧ (r'.toInt ≠ 0 → t = v) ∧ (r'.toInt = 0 → ∃ hi, v.2.2.2.2 mm 3 = some hi ∧ HG hi p'.toNatClampNeg v t)) : r.toInt = r'.toInt ∧ REL t x mm := by
  obtain rfl : p' = p := Int32.toInt_inj.mp e
  obtain ⟨s1, b1, c1⟩ := h1
  obtain ⟨s2, b2, c2⟩ := h2
  rcases s1 with ⟨q, e1⟩ | ⟨q1, q2, e1⟩
  · have e2 : r'.toInt = -2 := by omega
    rw [b2 (by omega), b1 (by omega)]
    exact ⟨by omega, h⟩
  · have e2 : r'.toInt = 0 := by omega
    refine ⟨by omega, ?_⟩
    obtain ⟨im, sl, hi, sm, wd, f, hA, hV⟩ := h
    obtain ⟨im', q3, z1, n1⟩ := c1 e1
    obtain ⟨hi', q4, z2, n2⟩ := c2 e2
    obtain rfl : im' = im := Option.some.inj (q3.symm.trans hA.1.1)
    have hA1 := REA.z hx kx hm km hA z1
    obtain rfl : hi' = hi := Option.some.inj (q4.symm.trans hA1.2.2.1.1)
    have hA2 := REA.z (z1.m hx) (z1.k hx kx) (z1.m hm) (z1.k hm km) hA1 z2
    obtain ⟨⟨a1, a2, a3⟩, ⟨x1, x2, x3⟩, ⟨y1, y2, y3⟩, ⟨d1, d2, d3⟩, ⟨g1, g2, g3⟩, g, i⟩ := hA
    obtain ⟨⟨-, a2', a3'⟩, -, ⟨-, y2', y3'⟩, ⟨-, d2', d3'⟩, ⟨-, g2', g3'⟩, g', -⟩ := hA1
    refine ⟨_, _, _, _, _, _, hA2, fun j hj => ?_, fun j hj => ?_⟩
    · rw [z2.v4 a2' a3' nNN]
      by_cases ej : j = p'.toNatClampNeg
      · rw [ej, n2]
        exact ⟨fun w => absurd w n1, fun w => absurd w (by decide)⟩
      · rw [z1.v4 a2 a3 (fun w => ej w.2), z2.vM y2' (Or.inl y3') (fun w => ej w.2), z1.vM y2 (Or.inl y3) nNN]
        exact hV.1 j hj
    · obtain ⟨-, w2, w3⟩ := g j hj
      obtain ⟨-, w2', w3'⟩ := g' j hj
      have n60 : ¬ (sm = hi' ∧ j = p'.toNatClampNeg) := fun w => by rw [w.1, y3] at d3; exact absurd d3 (by decide)
      have n61 : ¬ (wd = hi' ∧ j = p'.toNatClampNeg) := fun w => by rw [w.1, y3] at g3; exact absurd g3 (by decide)
      rw [z2.v7 (s := 0) w2' w3' nNn, z2.v7 (s := 1) w2' w3' nNn, z2.v7 (s := 2) w2' w3' nNn, z1.v7 (s := 0) w2 w3 nNn, z1.v7 (s := 1) w2 w3 nNn, z1.v7 (s := 2) w2 w3 nNn, z2.vM d2' (Or.inr (Or.inl d3')) n60, z1.vM d2 (Or.inr (Or.inl d3)) nNN, z2.vM g2' (Or.inr (Or.inr g3')) n61, z1.vM g2 (Or.inr (Or.inr g3)) nNN]
      exact hV.2 j hj
theorem RwO_f (hA : REA u x mm im sl hi sm wd f) {j y : Nat} (hj : j < 4) (h : RwO u x j = some y) : y = f j := by
  have h' := RwO_mk hA.2.1.1 (hA.2.2.2.2.2.1 j hj).1
  exact Option.some.inj (h.symm.trans h')
theorem REL_row (hx : x ∈ u.1) (kx : u.2.1 x = 11) (hm : mm ∈ u.1) (km : u.2.1 mm = 12) (h : REL u x mm) {p p' q q' n n' r r' : Int32} (ep : p'.toInt = p.toInt) (eq : q'.toInt = q.toInt) (en : n'.toInt = n.toInt) (h1 : (((p.toInt < 0 ∨ 3 < p.toInt ∨ q.toInt < 0 ∨ 3 < q.toInt ∨ 60 < n.toInt) ∧ r.toInt = -2) ∨ (0 ≤ p.toInt ∧ p.toInt ≤ 3 ∧ 0 ≤ q.toInt ∧ q.toInt ≤ 3 ∧ n.toInt ≤ 60 ∧ n.toInt < 0 ∧ r.toInt = -3) ∨ (0 ≤ p.toInt ∧ p.toInt ≤ 3 ∧ 0 ≤ q.toInt ∧ q.toInt ≤ 3 ∧ 0 ≤ n.toInt ∧ n.toInt ≤ 60 ∧ r.toInt = 0)) ∧ (r.toInt ≠ 0 → v = u) ∧ (r.toInt = 0 → ∃ y, RwO u x p.toNatClampNeg = some y ∧ BG y q n u v)) (h2 : (((p'.toInt < 0 ∨ 3 < p'.toInt ∨ q'.toInt < 0 ∨ 3 < q'.toInt ∨ 60 < n'.toInt) ∧ r'.toInt = -2) ∨ (0 ≤ p'.toInt ∧ p'.toInt ≤ 3 ∧ 0 ≤ q'.toInt ∧ q'.toInt ≤ 3 ∧ n'.toInt ≤ 60 ∧ n'.toInt < 0 ∧ r'.toInt = -3) ∨ (0 ≤ p'.toInt ∧ p'.toInt ≤ 3 ∧ 0 ≤ q'.toInt ∧ q'.toInt ≤ 3 ∧ 0 ≤ n'.toInt ∧ n'.toInt ≤ 60 ∧ r'.toInt = 0)) ∧ (r'.toInt ≠ 0 → t = v) ∧ (r'.toInt = 0 → ∃ sm wd, v.2.2.2.2 mm 30 = some sm ∧ v.2.2.2.2 mm 31 = some wd ∧ SG sm wd p'.toNatClampNeg n' q' v t)) : r.toInt = r'.toInt ∧ REL t x mm := by
  obtain rfl : p' = p := Int32.toInt_inj.mp ep
  obtain rfl : q' = q := Int32.toInt_inj.mp eq
  obtain rfl : n' = n := Int32.toInt_inj.mp en
  obtain ⟨s1, b1, c1⟩ := h1
  obtain ⟨s2, b2, c2⟩ := h2
  have er : r.toInt = r'.toInt := by omega
  refine ⟨er, ?_⟩
  by_cases e1 : r.toInt = 0
  · have hp : 0 ≤ p'.toInt ∧ p'.toInt ≤ 3 ∧ 0 ≤ n'.toInt := by omega
    have hj4 : p'.toNatClampNeg < 4 := by have := cl_int (x := p') hp.1; omega
    obtain ⟨im, sl, hi, sm, wd, f, hA, hV⟩ := h
    obtain ⟨y, q3, z1, n0, n1, n2⟩ := c1 e1
    obtain ⟨sm', wd', q4, q5, z2, k1, k2⟩ := c2 (by omega)
    have ey := RwO_f hA hj4 q3
    have hA1 := REA.z hx kx hm km hA z1
    obtain rfl : sm' = sm := Option.some.inj (q4.symm.trans hA1.2.2.2.1.1)
    obtain rfl : wd' = wd := Option.some.inj (q5.symm.trans hA1.2.2.2.2.1.1)
    have hA2 := REA.z (z1.m hx) (z1.k hx kx) (z1.m hm) (z1.k hm km) hA1 z2
    obtain ⟨⟨a1, a2, a3⟩, ⟨x1, x2, x3⟩, ⟨y1, y2, y3⟩, ⟨d1, d2, d3⟩, ⟨g1, g2, g3⟩, g, i⟩ := hA
    obtain ⟨⟨-, a2', a3'⟩, -, ⟨-, y2', y3'⟩, ⟨-, d2', d3'⟩, ⟨-, g2', g3'⟩, g', -⟩ := hA1
    refine ⟨_, _, _, _, _, _, hA2, fun j hj => ?_, fun j hj => ?_⟩
    · have nh : ¬ ((hi = sm' ∨ hi = wd') ∧ j = p'.toNatClampNeg) := fun w => by
        rcases w.1 with w | w
        · rw [w, d3] at y3; exact absurd y3 (by decide)
        · rw [w, g3] at y3; exact absurd y3 (by decide)
      rw [z2.v4 a2' a3' nNN, z1.v4 a2 a3 nNN, z2.vM y2' (Or.inl y3') nh, z1.vM y2 (Or.inl y3) nNN]
      exact hV.1 j hj
    · obtain ⟨-, w2, w3⟩ := g j hj
      obtain ⟨-, w2', w3'⟩ := g' j hj
      rw [z2.v7 (s := 0) w2' w3' nNn, z2.v7 (s := 1) w2' w3' nNn, z2.v7 (s := 2) w2' w3' nNn]
      by_cases ej : j = p'.toNatClampNeg
      · rw [ej, ← ey, n0, n1, n2, k1, k2]
        exact ⟨Or.inr ⟨by decide, rfl, hp.2.2⟩, rfl⟩
      · have nf : ¬ (f j = y) := fun w => ej (i j _ hj hj4 (w.trans ey))
        rw [z1.v7 (s := 0) w2 w3 nf, z1.v7 (s := 1) w2 w3 nf, z1.v7 (s := 2) w2 w3 nf, z2.vM d2' (Or.inr (Or.inl d3')) (fun w => ej w.2), z1.vM d2 (Or.inr (Or.inl d3)) nNN, z2.vM g2' (Or.inr (Or.inr g3')) (fun w => ej w.2), z1.vM g2 (Or.inr (Or.inr g3)) nNN]
        exact hV.2 j hj
  · rw [b2 (by omega), b1 e1]
    exact h
theorem REL_back (hx : x ∈ u.1) (kx : u.2.1 x = 11) (hm : mm ∈ u.1) (km : u.2.1 mm = 12) (h : REL u x mm) {p p' r r' : Int32} (e : p'.toInt = p.toInt) (hv : PX u v) (h1 : CBk u x p r.toInt) (ht : PX v t) (h2 : MBk v mm p' r'.toInt) : r.toInt = r'.toInt ∧ REL t x mm := by
  obtain rfl : p' = p := Int32.toInt_inj.mp e
  have hz : PZ Nn NN NN u v := hv.toZ
  have hR := REL.px hx kx hm km h hv
  refine ⟨?_, REL.px (hz.m hx) (hz.k hx kx) (hz.m hm) (hz.k hm km) hR ht⟩
  obtain ⟨im, sl, hi, sm, wd, f, hA, hV⟩ := h
  have hA1 := REA.z hx kx hm km hA hz
  have hV1 := REV.z hA hV hz
  rcases h1 with ⟨c1, e1⟩ | ⟨c1, c2, im', q3, h1⟩
  · rcases h2 with ⟨-, e2⟩ | ⟨d1, d2, -⟩ <;> omega
  · rcases h2 with ⟨d1, e2⟩ | ⟨-, -, hi', q4, h2⟩
    · omega
    · obtain rfl : im' = im := Option.some.inj (q3.symm.trans hA.1.1)
      obtain rfl : hi' = hi := Option.some.inj (q4.symm.trans hA1.2.2.1.1)
      have hj : p'.toNatClampNeg < 3 := by have := cl_int (x := p') c1; omega
      have w := hV1.1 _ hj
      rw [hz.v4 hA.1.2.1 hA.1.2.2 nNN] at w
      rcases h1 with ⟨k1, e1⟩ | ⟨k1, e1⟩
      · rcases h2 with ⟨-, e2⟩ | ⟨k2, -⟩
        · omega
        · exact absurd (w.mp k1) k2
      · rcases h2 with ⟨k2, -⟩ | ⟨-, e2⟩
        · exact absurd (w.mpr k2) k1
        · omega
theorem REL_write (hx : x ∈ u.1) (kx : u.2.1 x = 11) (hm : mm ∈ u.1) (km : u.2.1 mm = 12) (h : REL u x mm) {p p' q q' r r' : Int32} (ep : p'.toInt = p.toInt) (eq : q'.toInt = q.toInt) (hv : PX u v) (h1 : CWr u x p q r.toInt) (ht : PX v t) (h2 : MWr v mm p' q' r'.toInt) : r.toInt = r'.toInt ∧ REL t x mm := by
  obtain rfl : p' = p := Int32.toInt_inj.mp ep
  obtain rfl : q' = q := Int32.toInt_inj.mp eq
  have hz : PZ Nn NN NN u v := hv.toZ
  have hR := REL.px hx kx hm km h hv
  refine ⟨?_, REL.px (hz.m hx) (hz.k hx kx) (hz.m hm) (hz.k hm km) hR ht⟩
  obtain ⟨im, sl, hi, sm, wd, f, hA, hV⟩ := h
  have hA1 := REA.z hx kx hm km hA hz
  have hV1 := REV.z hA hV hz
  rcases h1 with ⟨c1, e1⟩ | ⟨c1, c2, y, q3, h1⟩
  · rcases h2 with ⟨-, e2⟩ | ⟨d1, d2, -⟩ <;> omega
  · rcases h2 with ⟨d1, e2⟩ | ⟨-, -, sm', q4, h2⟩
    · omega
    · obtain rfl : sm' = sm := Option.some.inj (q4.symm.trans hA1.2.2.2.1.1)
      have hj : p'.toNatClampNeg < 4 := by have := cl_int (x := p') c1; omega
      have ey := RwO_f hA hj q3
      obtain ⟨-, w2, w3⟩ := hA.2.2.2.2.2.1 _ hj
      have w := hV1.2 _ hj
      rw [hz.v7 (s := 0) w2 w3 nNn, hz.v7 (s := 1) w2 w3 nNn, hz.v7 (s := 2) w2 w3 nNn, ← ey] at w
      unfold AWr at h1
      unfold BWr at h2
      omega
theorem REL_paste (hx : x ∈ u.1) (kx : u.2.1 x = 11) (hm : mm ∈ u.1) (km : u.2.1 mm = 12) (h : REL u x mm) {p1 p1' p2 p2' p3 p3' p4 p4' p5 p5' r r' : Int32} (e1 : p1'.toInt = p1.toInt) (e2 : p2'.toInt = p2.toInt) (e3 : p3'.toInt = p3.toInt) (e4 : p4'.toInt = p4.toInt) (e5 : p5'.toInt = p5.toInt) (hv : PX u v) (h1 : CPa u x p1 p2 p3 p4 p5 r.toInt) (ht : PX v t) (h2 : MPa v mm p1' p2' p3' p4' p5' r'.toInt) : r.toInt = r'.toInt ∧ REL t x mm := by
  obtain rfl : p1' = p1 := Int32.toInt_inj.mp e1
  obtain rfl : p2' = p2 := Int32.toInt_inj.mp e2
  obtain rfl : p3' = p3 := Int32.toInt_inj.mp e3
  obtain rfl : p4' = p4 := Int32.toInt_inj.mp e4
  obtain rfl : p5' = p5 := Int32.toInt_inj.mp e5
  have hz : PZ Nn NN NN u v := hv.toZ
  have hR := REL.px hx kx hm km h hv
  refine ⟨?_, REL.px (hz.m hx) (hz.k hx kx) (hz.m hm) (hz.k hm km) hR ht⟩
  obtain ⟨im, sl, hi, sm, wd, f, hA, hV⟩ := h
  have hA1 := REA.z hx kx hm km hA hz
  have hV1 := REV.z hA hV hz
  rcases h1 with ⟨c1, k1⟩ | ⟨c1, c2, c3, c4, y, z, q3, q4, h1⟩
  · rcases h2 with ⟨-, k2⟩ | ⟨d1, d2, d3, d4, -⟩ <;> omega
  · rcases h2 with ⟨d1, k2⟩ | ⟨-, -, -, -, sm', wd', q5, q6, h2⟩
    · omega
    · obtain rfl : sm' = sm := Option.some.inj (q5.symm.trans hA1.2.2.2.1.1)
      obtain rfl : wd' = wd := Option.some.inj (q6.symm.trans hA1.2.2.2.2.1.1)
      have hj : p1'.toNatClampNeg < 4 := by have := cl_int (x := p1') c1; omega
      have hi3 : p3'.toNatClampNeg < 4 := by have := cl_int (x := p3') c3; omega
      have ey := RwO_f hA hj q3
      have ez := RwO_f hA hi3 q4
      obtain ⟨-, w2, w3⟩ := hA.2.2.2.2.2.1 _ hj
      obtain ⟨-, x2, x3⟩ := hA.2.2.2.2.2.1 _ hi3
      have w := hV1.2 _ hj
      have w' := hV1.2 _ hi3
      rw [hz.v7 (s := 0) w2 w3 nNn, hz.v7 (s := 1) w2 w3 nNn, hz.v7 (s := 2) w2 w3 nNn, ← ey] at w
      rw [hz.v7 (s := 0) x2 x3 nNn, hz.v7 (s := 1) x2 x3 nNn, hz.v7 (s := 2) x2 x3 nNn, ← ez] at w'
      unfold APa at h1
      unfold BPa at h2
      omega
end
theorem REL_mk {u : PSt} {x mm im sl hi sm wd r0 r1 r2 r3 : Nat} (hx1 : u.2.2.2.2 x 1 = some im) (mim : im ∈ u.1) (kim : u.2.1 im = 40) (vim : ∀ s, u.2.2.2.2 im s = none) (hx2 : u.2.2.2.2 x 2 = some sl) (msl : sl ∈ u.1) (ksl : u.2.1 sl = 41) (hm3 : u.2.2.2.2 mm 3 = some hi) (mhi : hi ∈ u.1) (khi : u.2.1 hi = 53) (vhi : ∀ s, u.2.2.1 hi s = 0) (hm30 : u.2.2.2.2 mm 30 = some sm) (msm : sm ∈ u.1) (ksm : u.2.1 sm = 60) (vsm : ∀ s, s < 4 → u.2.2.1 sm s = -1) (hm31 : u.2.2.2.2 mm 31 = some wd) (mwd : wd ∈ u.1) (kwd : u.2.1 wd = 61) (vwd : ∀ s, u.2.2.1 wd s = 0)
    (s0 : u.2.2.2.2 sl 0 = some r0) (m0 : r0 ∈ u.1) (k0 : u.2.1 r0 = 7) (v0 : u.2.2.1 r0 0 = 0) (w0 : u.2.2.1 r0 1 = 0) (s1 : u.2.2.2.2 sl 1 = some r1) (m1 : r1 ∈ u.1) (k1 : u.2.1 r1 = 7) (v1 : u.2.2.1 r1 0 = 0) (w1 : u.2.2.1 r1 1 = 0) (s2 : u.2.2.2.2 sl 2 = some r2) (m2 : r2 ∈ u.1) (k2 : u.2.1 r2 = 7) (v2 : u.2.2.1 r2 0 = 0) (w2 : u.2.2.1 r2 1 = 0) (s3 : u.2.2.2.2 sl 3 = some r3) (m3 : r3 ∈ u.1) (k3 : u.2.1 r3 = 7) (v3 : u.2.2.1 r3 0 = 0) (w3 : u.2.2.1 r3 1 = 0)
    (n01 : r0 ≠ r1) (n02 : r0 ≠ r2) (n03 : r0 ≠ r3) (n12 : r1 ≠ r2) (n13 : r1 ≠ r3) (n23 : r2 ≠ r3) : REL u x mm := by
  have c4 : ∀ {j : Nat}, j < 4 → j = 0 ∨ j = 1 ∨ j = 2 ∨ j = 3 := fun h => by omega
  refine ⟨im, sl, hi, sm, wd, fun j => ([r0, r1, r2, r3] : List Nat).getD j 0, ⟨⟨hx1, mim, kim⟩, ⟨hx2, msl, ksl⟩, ⟨hm3, mhi, khi⟩, ⟨hm30, msm, ksm⟩, ⟨hm31, mwd, kwd⟩, fun j hj => ?_, fun i j hi hj => ?_⟩, fun j hj => ?_, fun j hj => ?_⟩
  · rcases c4 hj with rfl | rfl | rfl | rfl
    · exact ⟨s0, m0, k0⟩
    · exact ⟨s1, m1, k1⟩
    · exact ⟨s2, m2, k2⟩
    · exact ⟨s3, m3, k3⟩
  · rcases c4 hi with rfl | rfl | rfl | rfl <;> rcases c4 hj with rfl | rfl | rfl | rfl
    · exact fun _ => rfl
    · exact fun h => absurd h n01
    · exact fun h => absurd h n02
    · exact fun h => absurd h n03
    · exact fun h => absurd h.symm n01
    · exact fun _ => rfl
    · exact fun h => absurd h n12
    · exact fun h => absurd h n13
    · exact fun h => absurd h.symm n02
    · exact fun h => absurd h.symm n12
    · exact fun _ => rfl
    · exact fun h => absurd h n23
    · exact fun h => absurd h.symm n03
    · exact fun h => absurd h.symm n13
    · exact fun h => absurd h.symm n23
    · exact fun _ => rfl
  · rw [vim j, vhi j]
    exact ⟨fun _ => by decide, fun _ => rfl⟩
  · rw [vsm j hj, vwd j]
    rcases c4 hj with rfl | rfl | rfl | rfl
    · exact ⟨Or.inl ⟨(congrArg Int32.toInt v0).trans (by decide), by decide⟩, congrArg Int32.toInt w0⟩
    · exact ⟨Or.inl ⟨(congrArg Int32.toInt v1).trans (by decide), by decide⟩, congrArg Int32.toInt w1⟩
    · exact ⟨Or.inl ⟨(congrArg Int32.toInt v2).trans (by decide), by decide⟩, congrArg Int32.toInt w2⟩
    · exact ⟨Or.inl ⟨(congrArg Int32.toInt v3).trans (by decide), by decide⟩, congrArg Int32.toInt w3⟩
