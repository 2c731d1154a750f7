def pCJ (u : PSt) (a : Nat) (h : Nat → Int64) : PSt := (u.1, u.2.1, u.2.2.1, fun x => if x = a then h else u.2.2.2.1 x, u.2.2.2.2)
theorem sCJ {k : Nat → ClassId} {u : PSt} {a : Nat} (h : u.2.1 a = 30) (v : Nat → Int64) (x : Nat) : va_up (pF k u) a (.inl (k 2, 60, .inr (.inl v))) x = pF k (pCJ u a v) x := by
  by_cases hx : x = a
  · subst hx; simp [va_up, pF, pCJ, h]
  · simp [va_up, pF, pCJ, hx]
section PWR
variable {p : Program} {l : Launch} {e : Env} {R : Room} {s : State} {m : MethodId} {args : Array Value} {below : List Frame} {meth : Method} {c : Code} {H : Heap} {locs : List Loc} {cells slots : Nat} {Q : State → Prop}
variable {cc : ByteArray} {pc : Nat} {ls : Array Slot} {rest st0 : List Value} {D : va_G} {k : Nat → ClassId} {A : Nat → Prop} {H0 : Heap} {u u' : PSt} {a : Nat}
theorem pl_at (ha : a ∈ u.1) : ∃ q : Nat, (PW k u)[q]? = some (a, pF k u a) := va_pl_get (X := []) ha
theorem pl_set {q : Nat} {x : va_E} (hD : va_D A (PW k u)) (ha : a ∈ u.1) (hq : (PW k u)[q]? = some (a, pF k u a)) (hL : u'.1 = u.1) (hs : ∀ y, va_up (pF k u) a x y = pF k u' y) : (PW k u).set q (a, x) = PW k u' := by
  have h1 : (PW k u).set q (a, x) = va_pl u.1 (va_up (pF k u) a x) := va_pl_set (X := []) (e := x) hD ha hq
  rw [h1, va_pl_congr hs]
  show va_pl u.1 _ = va_pl u'.1 _
  rw [hL]
theorem pget (hexec : p.tables.exec = Jvm.exec) (hb : c.code = cc) {own ref C : String} {T : u_T} {N ci index : Nat} {Ts : List Cond} (hts : ∀ w ∈ Ts, w.before args s = true) (hin : ∀ w ∈ u_ws C T N, w ∈ Ts) (hown : s.vm.findClass own = some m.cls) (hK : va_K D vwCl (TYS k) s) (hP : va_P D vwCl (PW k u) H) (ha : a ∈ u.1) {fs : List Value} (hF : pF k u a = .inr (ci, fs)) (hc : vwCl[ci]? = some (C, T, N)) (j : Nat) (hj : j < N) (hlink : (Cond.fieldLink own index ref (T j).2.1 (T j).2.2.1).before args s = true) (hsame : ∀ x, s.fieldFound? (T j).1 (T j).2.1 (T j).2.2.1 = some x → s.fieldFound? ref (T j).2.1 (T j).2.2.1 = some x) {v : Value} (hv : fs[j]? = some v) (hdg : decode cc pc = .ok (.getfield index, 3))
    (kk : W p l e R s m args below meth c H locs cells slots Q (F0 m (pc + 3) ls (v :: rest))) : W p l e R s m args below meth c H locs cells slots Q (F0 m pc ls (.ref a :: rest)) := by
  obtain ⟨q, hq⟩ := pl_at (k := k) ha
  rw [hF] at hq
  exact va_get hexec hb hts hin hown hK hP q hq hc j hj hlink hsame hv hdg kk
theorem pput (hexec : p.tables.exec = Jvm.exec) (hb : c.code = cc) {own ref C : String} {T : u_T} {N ci index : Nat} {Ts : List Cond} (hts : ∀ w ∈ Ts, w.before args s = true) (hin : ∀ w ∈ u_ws C T N, w ∈ Ts) (ty0 : Nat → FieldType) (hty : ∀ k, k < N → parseFieldDescriptor (T k).2.2.1 = some (ty0 k)) (hnm : ∀ a, a < N → ∀ b, b < N → a ≠ b → (T a).2.1 ≠ (T b).2.1) (hown : s.vm.findClass own = some m.cls) (hK : va_K D vwCl (TYS k) s) (hP : va_P D vwCl (PW k u) H) (hD : va_D A (PW k u)) (hS0 : va_S A H0 H locs) (ha : a ∈ u.1) {fs : List Value} (hF : pF k u a = .inr (ci, fs)) (hc : vwCl[ci]? = some (C, T, N)) (j : Nat) (hj : j < N) (hlink : (Cond.fieldLink own index ref (T j).2.1 (T j).2.2.1).before args s = true) (hsame : ∀ x, s.fieldFound? (T j).1 (T j).2.1 (T j).2.2.1 = some x → s.fieldFound? ref (T j).2.1 (T j).2.2.1 = some x) (hfin : (T j).2.2.2 = false) {ty : FieldType} {v : Value} (hd : parseFieldDescriptor (T j).2.2.1 = some ty) (hn : narrow ty v = v) (hfit : fits ty v = true) (hl : j < fs.length)
    (hL : u'.1 = u.1) (hs : ∀ y, va_up (pF k u) a (.inr (ci, fs.set j v)) y = pF k u' y) (hdg : decode cc pc = .ok (.putfield index, 3))
    (kk : ∀ (H1 : Heap) (locs1 : List Loc), va_P D vwCl (PW k u') H1 → va_D A (PW k u') → va_S A H0 H1 locs1 → W p l e R s m args below meth c H1 locs1 cells slots Q (F0 m (pc + 3) ls rest)) : W p l e R s m args below meth c H locs cells slots Q (F0 m pc ls (v :: .ref a :: rest)) := by
  obtain ⟨q, hq⟩ := pl_at (k := k) ha
  have he := pl_set hD ha hq hL hs
  have hq2 := hq
  rw [hF] at hq2
  refine va_put hexec hb hts hin ty0 hty hnm hown hK hP hD hS0 q hq2 hc j hj hlink hsame hfin hd hn hfit hl hdg (fun H1 locs1 hP1 hD1 hS1 => ?_)
  rw [he] at hP1 hD1
  exact kk H1 locs1 hP1 hD1 hS1
theorem palen (hexec : p.tables.exec = Jvm.exec) (hb : c.code = cc) (hK : va_K D vwCl (TYS k) s) (hP : va_P D vwCl (PW k u) H) (ha : a ∈ u.1) {cA : ClassId} {x : vp_A} (hF : pF k u a = .inl (cA, x)) (t0 : Nat) {ty : FieldType} (ht : (TYS k)[t0]? = some (cA, ty)) {v : Int32} (hv : Int32.ofNat x.1 = v) (hdg : decode cc pc = .ok (.arraylength, 1))
    (kk : W p l e R s m args below meth c H locs cells slots Q (F0 m (pc + 1) ls (.int v :: rest))) : W p l e R s m args below meth c H locs cells slots Q (F0 m pc ls (.ref a :: rest)) := by
  obtain ⟨q, hq⟩ := pl_at (k := k) ha
  rw [hF] at hq
  exact va_alen hexec hb hK hP q t0 hq ht hv hdg kk
theorem palI (hexec : p.tables.exec = Jvm.exec) (hb : c.code = cc) (hK : va_K D vwCl (TYS k) s) (hP : va_P D vwCl (PW k u) H) (ha : a ∈ u.1) {cA : ClassId} {n : Nat} {f : Nat → Int32} (hF : pF k u a = .inl (cA, n, .inl f)) (t0 : Nat) (ht : (TYS k)[t0]? = some (cA, .int)) {i : Int32} (hin : vp_in i n) (hdg : decode cc pc = .ok (.iaload, 1))
    (kk : W p l e R s m args below meth c H locs cells slots Q (F0 m (pc + 1) ls (.int (f i.toNatClampNeg) :: rest))) : W p l e R s m args below meth c H locs cells slots Q (F0 m pc ls (.int i :: .ref a :: rest)) := by
  obtain ⟨q, hq⟩ := pl_at (k := k) ha
  rw [hF] at hq
  exact va_iald hexec hb hK hP q t0 hq ht hin hdg kk
theorem palB (hexec : p.tables.exec = Jvm.exec) (hb : c.code = cc) (hK : va_K D vwCl (TYS k) s) (hP : va_P D vwCl (PW k u) H) (ha : a ∈ u.1) {cA : ClassId} {n : Nat} {f : Nat → Int32} (hF : pF k u a = .inl (cA, n, .inl f)) (t0 : Nat) (ht : (TYS k)[t0]? = some (cA, .byte)) {i : Int32} (hin : vp_in i n) (hdg : decode cc pc = .ok (.baload, 1))
    (kk : W p l e R s m args below meth c H locs cells slots Q (F0 m (pc + 1) ls (.int (f i.toNatClampNeg) :: rest))) : W p l e R s m args below meth c H locs cells slots Q (F0 m pc ls (.int i :: .ref a :: rest)) := by
  obtain ⟨q, hq⟩ := pl_at (k := k) ha
  rw [hF] at hq
  exact va_bald hexec hb hK hP q t0 hq ht hin hdg kk
theorem palZ (hexec : p.tables.exec = Jvm.exec) (hb : c.code = cc) (hK : va_K D vwCl (TYS k) s) (hP : va_P D vwCl (PW k u) H) (ha : a ∈ u.1) {cA : ClassId} {n : Nat} {f : Nat → Int32} (hF : pF k u a = .inl (cA, n, .inl f)) (t0 : Nat) (ht : (TYS k)[t0]? = some (cA, .boolean)) {i : Int32} (hin : vp_in i n) (hdg : decode cc pc = .ok (.baload, 1))
    (kk : W p l e R s m args below meth c H locs cells slots Q (F0 m (pc + 1) ls (.int (f i.toNatClampNeg) :: rest))) : W p l e R s m args below meth c H locs cells slots Q (F0 m pc ls (.int i :: .ref a :: rest)) := by
  obtain ⟨q, hq⟩ := pl_at (k := k) ha
  rw [hF] at hq
  exact va_zald hexec hb hK hP q t0 hq ht hin hdg kk
theorem palJ (hexec : p.tables.exec = Jvm.exec) (hb : c.code = cc) (hK : va_K D vwCl (TYS k) s) (hP : va_P D vwCl (PW k u) H) (ha : a ∈ u.1) {cA : ClassId} {n : Nat} {f : Nat → Int64} (hF : pF k u a = .inl (cA, n, .inr (.inl f))) (t0 : Nat) (ht : (TYS k)[t0]? = some (cA, .long)) {i : Int32} (hin : vp_in i n) (hdg : decode cc pc = .ok (.laload, 1))
    (kk : W p l e R s m args below meth c H locs cells slots Q (F0 m (pc + 1) ls (.long (f i.toNatClampNeg) :: rest))) : W p l e R s m args below meth c H locs cells slots Q (F0 m pc ls (.int i :: .ref a :: rest)) := by
  obtain ⟨q, hq⟩ := pl_at (k := k) ha
  rw [hF] at hq
  exact va_lald hexec hb hK hP q t0 hq ht hin hdg kk
theorem palQ (hexec : p.tables.exec = Jvm.exec) (hb : c.code = cc) (hK : va_K D vwCl (TYS k) s) (hP : va_P D vwCl (PW k u) H) (ha : a ∈ u.1) {cA : ClassId} {n : Nat} {f : Nat → Option Nat} (hF : pF k u a = .inl (cA, n, .inr (.inr (.inr (.inr f))))) (t0 : Nat) {CC : String} (ht : (TYS k)[t0]? = some (cA, .object CC)) {i : Int32} (hin : vp_in i n) (hdg : decode cc pc = .ok (.aaload, 1))
    (kk : W p l e R s m args below meth c H locs cells slots Q (F0 m (pc + 1) ls (va_rf (f i.toNatClampNeg) :: rest))) : W p l e R s m args below meth c H locs cells slots Q (F0 m pc ls (.int i :: .ref a :: rest)) := by
  obtain ⟨q, hq⟩ := pl_at (k := k) ha
  rw [hF] at hq
  exact va_aldq hexec hb hK hP q t0 hq ht hin hdg kk
theorem pasI (hexec : p.tables.exec = Jvm.exec) (hb : c.code = cc) (hK : va_K D vwCl (TYS k) s) (hP : va_P D vwCl (PW k u) H) (hD : va_D A (PW k u)) (hS : va_S A H0 H locs) (ha : a ∈ u.1) {cA : ClassId} {n : Nat} {f : Nat → Int32} (hF : pF k u a = .inl (cA, n, .inl f)) (t0 : Nat) (ht : (TYS k)[t0]? = some (cA, .int)) {i : Int32} {x : Int32} (hin : vp_in i n) (hL : u'.1 = u.1) (hs : ∀ y, va_up (pF k u) a (.inl (cA, n, .inl (upd f i.toNatClampNeg x))) y = pF k u' y) (hdg : decode cc pc = .ok (.iastore, 1))
    (kk : ∀ (H1 : Heap) (locs1 : List Loc), va_P D vwCl (PW k u') H1 → va_D A (PW k u') → va_S A H0 H1 locs1 → W p l e R s m args below meth c H1 locs1 cells slots Q (F0 m (pc + 1) ls rest)) : W p l e R s m args below meth c H locs cells slots Q (F0 m pc ls (.int x :: .int i :: .ref a :: rest)) := by
  obtain ⟨q, hq⟩ := pl_at (k := k) ha
  have he := pl_set hD ha hq hL hs
  have hq2 := hq
  rw [hF] at hq2
  refine va_iast hexec hb hK hP hD hS q t0 hq2 ht hin hdg (fun H1 locs1 hP1 hD1 hS1 => ?_)
  rw [he] at hP1 hD1
  exact kk H1 locs1 hP1 hD1 hS1
theorem pasB (hexec : p.tables.exec = Jvm.exec) (hb : c.code = cc) (hK : va_K D vwCl (TYS k) s) (hP : va_P D vwCl (PW k u) H) (hD : va_D A (PW k u)) (hS : va_S A H0 H locs) (ha : a ∈ u.1) {cA : ClassId} {n : Nat} {f : Nat → Int32} (hF : pF k u a = .inl (cA, n, .inl f)) (t0 : Nat) (ht : (TYS k)[t0]? = some (cA, .byte)) {i : Int32} {x : Int32} (hin : vp_in i n) (hL : u'.1 = u.1) (hs : ∀ y, va_up (pF k u) a (.inl (cA, n, .inl (upd f i.toNatClampNeg (vp_nar .byte x)))) y = pF k u' y) (hdg : decode cc pc = .ok (.bastore, 1))
    (kk : ∀ (H1 : Heap) (locs1 : List Loc), va_P D vwCl (PW k u') H1 → va_D A (PW k u') → va_S A H0 H1 locs1 → W p l e R s m args below meth c H1 locs1 cells slots Q (F0 m (pc + 1) ls rest)) : W p l e R s m args below meth c H locs cells slots Q (F0 m pc ls (.int x :: .int i :: .ref a :: rest)) := by
  obtain ⟨q, hq⟩ := pl_at (k := k) ha
  have he := pl_set hD ha hq hL hs
  have hq2 := hq
  rw [hF] at hq2
  refine va_bast hexec hb hK hP hD hS q t0 hq2 ht hin hdg (fun H1 locs1 hP1 hD1 hS1 => ?_)
  rw [he] at hP1 hD1
  exact kk H1 locs1 hP1 hD1 hS1
theorem pasZ (hexec : p.tables.exec = Jvm.exec) (hb : c.code = cc) (hK : va_K D vwCl (TYS k) s) (hP : va_P D vwCl (PW k u) H) (hD : va_D A (PW k u)) (hS : va_S A H0 H locs) (ha : a ∈ u.1) {cA : ClassId} {n : Nat} {f : Nat → Int32} (hF : pF k u a = .inl (cA, n, .inl f)) (t0 : Nat) (ht : (TYS k)[t0]? = some (cA, .boolean)) {i : Int32} {x : Int32} (hin : vp_in i n) (hL : u'.1 = u.1) (hs : ∀ y, va_up (pF k u) a (.inl (cA, n, .inl (upd f i.toNatClampNeg (vp_nar .boolean x)))) y = pF k u' y) (hdg : decode cc pc = .ok (.bastore, 1))
    (kk : ∀ (H1 : Heap) (locs1 : List Loc), va_P D vwCl (PW k u') H1 → va_D A (PW k u') → va_S A H0 H1 locs1 → W p l e R s m args below meth c H1 locs1 cells slots Q (F0 m (pc + 1) ls rest)) : W p l e R s m args below meth c H locs cells slots Q (F0 m pc ls (.int x :: .int i :: .ref a :: rest)) := by
  obtain ⟨q, hq⟩ := pl_at (k := k) ha
  have he := pl_set hD ha hq hL hs
  have hq2 := hq
  rw [hF] at hq2
  refine va_zast hexec hb hK hP hD hS q t0 hq2 ht hin hdg (fun H1 locs1 hP1 hD1 hS1 => ?_)
  rw [he] at hP1 hD1
  exact kk H1 locs1 hP1 hD1 hS1
theorem pasJ (hexec : p.tables.exec = Jvm.exec) (hb : c.code = cc) (hK : va_K D vwCl (TYS k) s) (hP : va_P D vwCl (PW k u) H) (hD : va_D A (PW k u)) (hS : va_S A H0 H locs) (ha : a ∈ u.1) {cA : ClassId} {n : Nat} {f : Nat → Int64} (hF : pF k u a = .inl (cA, n, .inr (.inl f))) (t0 : Nat) (ht : (TYS k)[t0]? = some (cA, .long)) {i : Int32} {x : Int64} (hin : vp_in i n) (hL : u'.1 = u.1) (hs : ∀ y, va_up (pF k u) a (.inl (cA, n, .inr (.inl (vp_updL f i.toNatClampNeg x)))) y = pF k u' y) (hdg : decode cc pc = .ok (.lastore, 1))
    (kk : ∀ (H1 : Heap) (locs1 : List Loc), va_P D vwCl (PW k u') H1 → va_D A (PW k u') → va_S A H0 H1 locs1 → W p l e R s m args below meth c H1 locs1 cells slots Q (F0 m (pc + 1) ls rest)) : W p l e R s m args below meth c H locs cells slots Q (F0 m pc ls (.long x :: .int i :: .ref a :: rest)) := by
  obtain ⟨q, hq⟩ := pl_at (k := k) ha
  have he := pl_set hD ha hq hL hs
  have hq2 := hq
  rw [hF] at hq2
  refine va_last hexec hb hK hP hD hS q t0 hq2 ht hin hdg (fun H1 locs1 hP1 hD1 hS1 => ?_)
  rw [he] at hP1 hD1
  exact kk H1 locs1 hP1 hD1 hS1
theorem pasQ (hexec : p.tables.exec = Jvm.exec) (hb : c.code = cc) (hK : va_K D vwCl (TYS k) s) (hP : va_P D vwCl (PW k u) H) (hD : va_D A (PW k u)) (hS : va_S A H0 H locs) (ha : a ∈ u.1) {cA : ClassId} {n : Nat} {f : Nat → Option Nat} (hF : pF k u a = .inl (cA, n, .inr (.inr (.inr (.inr f))))) (t0 : Nat) {r : vw_C} (ht : (TYS k)[t0]? = some (cA, .object r.1)) {v ci : Nat} {vs : List Value} (hv : v ∈ u.1) (hFv : pF k u v = .inr (ci, vs)) (hc : vwCl[ci]? = some r) {i : Int32} (hin : vp_in i n) (hL : u'.1 = u.1) (hs : ∀ y, va_up (pF k u) a (.inl (cA, n, .inr (.inr (.inr (.inr (va_up f i.toNatClampNeg (some v))))))) y = pF k u' y) (hdg : decode cc pc = .ok (.aastore, 1))
    (kk : ∀ (H1 : Heap) (locs1 : List Loc), va_P D vwCl (PW k u') H1 → va_D A (PW k u') → va_S A H0 H1 locs1 → W p l e R s m args below meth c H1 locs1 cells slots Q (F0 m (pc + 1) ls rest)) : W p l e R s m args below meth c H locs cells slots Q (F0 m pc ls (.ref v :: .int i :: .ref a :: rest)) := by
  obtain ⟨q, hq⟩ := pl_at (k := k) ha
  obtain ⟨q', hq'⟩ := pl_at (k := k) hv
  have he := pl_set hD ha hq hL hs
  have hq2 := hq
  rw [hF] at hq2
  rw [hFv] at hq'
  refine va_astq hexec hb hK hP hD hS q t0 q' ci hq2 ht hq' hc hin hdg (fun H1 locs1 hP1 hD1 hS1 => ?_)
  rw [he] at hP1 hD1
  exact kk H1 locs1 hP1 hD1 hS1
theorem precv (hK : va_K D vwCl (TYS k) s) (hP : va_P D vwCl (PW k u) H) (ha : a ∈ u.1) {ci : Nat} {fs : List Value} {q : vw_C} (hF : pF k u a = .inr (ci, fs)) (hc : vwCl[ci]? = some q) : ∃ cell : Cell, H[a]? = some cell ∧ cell.vm.isStatics = false ∧ s.vm.findClass q.1 = some cell.cls := by
  obtain ⟨q', hq'⟩ := pl_at (k := k) ha
  rw [hF] at hq'
  exact va_recv hK hP hc hq'
theorem pcpJ (hexec : p.tables.exec = Jvm.exec) (hb : c.code = cc) (hml : c.maxLocals = ls.size) {own : String} {index : Nat} (hown : s.vm.findClass own = some m.cls) (hlink : (Cond.methodLink own index arraycopyName).before args s = true) (hnat : (Cond.native arraycopyName).before args s = true) (hstat : (Cond.static arraycopyName).before args s = true) (hini : (Cond.initialized "java/lang/System").before args s = true) (hK : va_K D vwCl (TYS k) s) (hP : va_P D vwCl (PW k u) H) (hD : va_D A (PW k u)) (hS : va_S A H0 H locs) {a0 : Nat} (ha0 : a0 ∈ u.1) (k0 : u.2.1 a0 = 30) (ha : a ∈ u.1) (k1 : u.2.1 a = 30)
    {sp dp n : Int32} (hs : 0 ≤ sp.toInt ∧ 0 ≤ dp.toInt ∧ 0 ≤ n.toInt ∧ sp.toInt + n.toInt ≤ 60 ∧ dp.toInt + n.toInt ≤ 60)
    (hframes : 1 ≤ R.frames) (hlocals : (rest.map fun v => v.category).sum + (nativeFrameWords "java/lang/System" "arraycopy" 5 + 11) ≤ R.locals) (hdg : decode cc pc = .ok (.invokestatic index, 3))
    (kk : ∀ (H1 : Heap) (locs1 : List Loc) (h : Nat → Int64), va_P D vwCl (PW k (pCJ u a h)) H1 → va_D A (PW k (pCJ u a h)) → va_S A H0 H1 locs1 → W p l e R s m args below meth c H1 locs1 cells slots Q (F0 m (pc + 3) ls rest)) : W p l e R s m args below meth c H locs cells slots Q (F0 m pc ls (.int n :: .int dp :: .ref a :: .int sp :: .ref a0 :: rest)) := by
  obtain ⟨q0, hq0⟩ := pl_at (k := k) ha0
  obtain ⟨q1, hq1⟩ := pl_at (k := k) ha
  have e1 : ∀ h, (PW k u).set q1 (a, .inl (k 2, 60, .inr (.inl h))) = PW k (pCJ u a h) := fun h => pl_set hD ha hq1 rfl (sCJ k1 h)
  rw [cF30 k0] at hq0
  rw [cF30 k1] at hq1
  have nl : ∀ z : Int32, 0 ≤ z.toInt → ¬ z < 0 := fun z hz => by rw [Int32.lt_iff_toInt_lt]; show ¬ z.toInt < 0; omega
  have nc : ∀ z : Int32, 0 ≤ z.toInt → (z.toNatClampNeg : Int) = z.toInt := fun z hz => Int.toNat_of_nonneg hz
  have z1 := nc sp hs.1
  have z2 := nc dp hs.2.1
  have z3 := nc n hs.2.2.1
  refine va_copyl hexec hb hml hown hlink hnat hstat hini hK hP hD hS q0 q1 2 2 (ty := .long) hq0 hq1 rfl rfl rfl (nl sp hs.1) (nl dp hs.2.1) (nl n hs.2.2.1) (by omega) (by omega) (fun i _ => rfl) hframes hlocals hdg (fun H1 locs1 hP1 hD1 hS1 => ?_)
  rw [e1] at hP1 hD1
  exact kk H1 locs1 _ hP1 hD1 hS1
end PWR
section PCALL
variable {p : Program} {l : Launch} {e : Env} {R : Room} {s : State} {m : MethodId} {args : Array Value} {below : List Frame} {meth : Method} {c : Code} {H : Heap} {locs : List Loc} {cells slots : Nat} {Q : State → Prop}
variable {y : MethodName} {bytes cc : ByteArray} {maxL nL mc ms n index pc : Nat} {ret : Option FieldType} {ws : List Cond} {rm : Room} {Ts : List Cond} {own C : String} {b : Addr} {As rest st0 : List Value} {ls : Array Slot}
variable {D : va_G} {k : Nat → ClassId} {A : Nat → Prop} {H0 : Heap} {w0 : va_W}
theorem w_free (hD : va_D A w0) (hS : va_S A H0 H locs) (hA : ∀ q, H0.size ≤ q → A q) : ∀ q, va_A w0 H.size q → A q := by
  intro q h
  rcases h with ⟨i, x, h⟩ | h
  · exact hD.2 i (q, x) h
  · exact hA q (Nat.le_trans hS.1 h)
theorem wvV {S1 : Type} {w1 : S1 → va_W} {post : S1 → Prop} (S : CallFix p m c cc nL s args Ts own) (hM : ∀ sz, Met l y ws rm (PreM D k sz w0 (.ref b :: As)) (va_Qv post (WB D (va_A w0 sz) w1) (va_A w0 sz)) mc ms (va_A w0 sz)) (cw : CallW R s args own C index y bytes maxL ret ws rm mc ms n) (hP : va_P D vwCl w0 H) (hK : va_K D vwCl (TYS k) s) (hD : va_D A w0) (hN : NW s) (hS : va_S A H0 H locs) (hA : ∀ q, H0.size ≤ q → A q) (hrec : ∃ cell : Cell, H[b]? = some cell ∧ cell.vm.isStatics = false ∧ s.vm.findClass C = some cell.cls)
    (hn : As.length = n) (hsize : ls.size = nL) (hst : st0 = As.reverse ++ .ref b :: rest) (hW : (rest.map fun v => v.category).sum ≤ 8) (hdg : decode cc pc = .ok (.invokevirtual index, 3)) (hf : cells + mc ≤ R.cells ∧ slots + ms ≤ R.slots)
    (kk : ∀ (u : S1) (H1 : Heap) (locs1 : List Loc), post u → va_P D vwCl (w1 u) H1 → va_D A (w1 u) → va_S A H0 H1 locs1 → W p l e R s m args below meth c H1 locs1 (cells + mc) (slots + ms) Q (F0 m (pc + 3) ls (rest))) : W p l e R s m args below meth c H locs cells slots Q (F0 m pc ls st0) := by
  have hFc := w_free hD hS hA
  refine va_callv (va_runV (g := F0 m pc ls st0) S (hM H.size) cw ⟨PreM_blind, hrec, fun U hU hW => PreM_at hP hK hD hN hU hW⟩ rfl hn hsize hst (lv_room hW) hdg hf) hS (fun q _ h => hFc q h) hFc (fun u t H1 locs1 ht hvm hw hB hz1 hk1 hS1 => ?_)
  obtain ⟨hP1, hD1⟩ := hB
  rw [ht] at hP1
  exact kk u H1 locs1 hw hP1 (hD1.weaken (fun i q _ h => hFc q.1 h)) hS1
theorem wvS {S1 : Type} {w1 : S1 → va_W} {post : S1 → Prop} (S : CallFix p m c cc nL s args Ts own) (hM : ∀ sz, Met l y ws rm (PreM D k sz w0 As) (va_Qv post (WB D (va_A w0 sz) w1) (va_A w0 sz)) mc ms (va_A w0 sz)) (cw : CallB R s args own index y bytes maxL ret ws rm mc ms n ∧ (Cond.static y).before args s = true) (hP : va_P D vwCl w0 H) (hK : va_K D vwCl (TYS k) s) (hD : va_D A w0) (hN : NW s) (hS : va_S A H0 H locs) (hA : ∀ q, H0.size ≤ q → A q) 
    (hn : As.length = n) (hsize : ls.size = nL) (hst : st0 = As.reverse ++ rest) (hW : (rest.map fun v => v.category).sum ≤ 8) (hdg : decode cc pc = .ok (.invokestatic index, 3)) (hf : cells + mc ≤ R.cells ∧ slots + ms ≤ R.slots)
    (kk : ∀ (u : S1) (H1 : Heap) (locs1 : List Loc), post u → va_P D vwCl (w1 u) H1 → va_D A (w1 u) → va_S A H0 H1 locs1 → W p l e R s m args below meth c H1 locs1 (cells + mc) (slots + ms) Q (F0 m (pc + 3) ls (rest))) : W p l e R s m args below meth c H locs cells slots Q (F0 m pc ls st0) := by
  have hFc := w_free hD hS hA
  refine va_callv (va_runS (g := F0 m pc ls st0) S (hM H.size) cw ⟨PreM_blind, fun U hU hW => PreM_at hP hK hD hN hU hW⟩ rfl hn hsize hst (lv_room hW) hdg hf) hS (fun q _ h => hFc q h) hFc (fun u t H1 locs1 ht hvm hw hB hz1 hk1 hS1 => ?_)
  obtain ⟨hP1, hD1⟩ := hB
  rw [ht] at hP1
  exact kk u H1 locs1 hw hP1 (hD1.weaken (fun i q _ h => hFc q.1 h)) hS1
theorem wiV {S1 : Type} {w1 : S1 → va_W} {post : Int32 → S1 → Prop} (S : CallFix p m c cc nL s args Ts own) (hM : ∀ sz, Met l y ws rm (PreM D k sz w0 (.ref b :: As)) (va_Qi post (WB D (va_A w0 sz) w1) (va_A w0 sz)) mc ms (va_A w0 sz)) (cw : CallW R s args own C index y bytes maxL ret ws rm mc ms n) (hP : va_P D vwCl w0 H) (hK : va_K D vwCl (TYS k) s) (hD : va_D A w0) (hN : NW s) (hS : va_S A H0 H locs) (hA : ∀ q, H0.size ≤ q → A q) (hrec : ∃ cell : Cell, H[b]? = some cell ∧ cell.vm.isStatics = false ∧ s.vm.findClass C = some cell.cls)
    (hn : As.length = n) (hsize : ls.size = nL) (hst : st0 = As.reverse ++ .ref b :: rest) (hW : (rest.map fun v => v.category).sum ≤ 8) (hdg : decode cc pc = .ok (.invokevirtual index, 3)) (hf : cells + mc ≤ R.cells ∧ slots + ms ≤ R.slots)
    (kk : ∀ (r : Int32) (u : S1) (H1 : Heap) (locs1 : List Loc), post r u → va_P D vwCl (w1 u) H1 → va_D A (w1 u) → va_S A H0 H1 locs1 → W p l e R s m args below meth c H1 locs1 (cells + mc) (slots + ms) Q (F0 m (pc + 3) ls (.int r :: rest))) : W p l e R s m args below meth c H locs cells slots Q (F0 m pc ls st0) := by
  have hFc := w_free hD hS hA
  refine va_calli (va_runV (g := F0 m pc ls st0) S (hM H.size) cw ⟨PreM_blind, hrec, fun U hU hW => PreM_at hP hK hD hN hU hW⟩ rfl hn hsize hst (lv_room hW) hdg hf) hS (fun q _ h => hFc q h) hFc (fun r u t H1 locs1 ht hvm hw hB hz1 hk1 hS1 => ?_)
  obtain ⟨hP1, hD1⟩ := hB
  rw [ht] at hP1
  exact kk r u H1 locs1 hw hP1 (hD1.weaken (fun i q _ h => hFc q.1 h)) hS1
theorem wiS {S1 : Type} {w1 : S1 → va_W} {post : Int32 → S1 → Prop} (S : CallFix p m c cc nL s args Ts own) (hM : ∀ sz, Met l y ws rm (PreM D k sz w0 As) (va_Qi post (WB D (va_A w0 sz) w1) (va_A w0 sz)) mc ms (va_A w0 sz)) (cw : CallB R s args own index y bytes maxL ret ws rm mc ms n ∧ (Cond.static y).before args s = true) (hP : va_P D vwCl w0 H) (hK : va_K D vwCl (TYS k) s) (hD : va_D A w0) (hN : NW s) (hS : va_S A H0 H locs) (hA : ∀ q, H0.size ≤ q → A q) 
    (hn : As.length = n) (hsize : ls.size = nL) (hst : st0 = As.reverse ++ rest) (hW : (rest.map fun v => v.category).sum ≤ 8) (hdg : decode cc pc = .ok (.invokestatic index, 3)) (hf : cells + mc ≤ R.cells ∧ slots + ms ≤ R.slots)
    (kk : ∀ (r : Int32) (u : S1) (H1 : Heap) (locs1 : List Loc), post r u → va_P D vwCl (w1 u) H1 → va_D A (w1 u) → va_S A H0 H1 locs1 → W p l e R s m args below meth c H1 locs1 (cells + mc) (slots + ms) Q (F0 m (pc + 3) ls (.int r :: rest))) : W p l e R s m args below meth c H locs cells slots Q (F0 m pc ls st0) := by
  have hFc := w_free hD hS hA
  refine va_calli (va_runS (g := F0 m pc ls st0) S (hM H.size) cw ⟨PreM_blind, fun U hU hW => PreM_at hP hK hD hN hU hW⟩ rfl hn hsize hst (lv_room hW) hdg hf) hS (fun q _ h => hFc q h) hFc (fun r u t H1 locs1 ht hvm hw hB hz1 hk1 hS1 => ?_)
  obtain ⟨hP1, hD1⟩ := hB
  rw [ht] at hP1
  exact kk r u H1 locs1 hw hP1 (hD1.weaken (fun i q _ h => hFc q.1 h)) hS1
theorem wlV {S1 : Type} {w1 : S1 → va_W} {post : Int64 → S1 → Prop} (S : CallFix p m c cc nL s args Ts own) (hM : ∀ sz, Met l y ws rm (PreM D k sz w0 (.ref b :: As)) (va_Ql post (WB D (va_A w0 sz) w1) (va_A w0 sz)) mc ms (va_A w0 sz)) (cw : CallW R s args own C index y bytes maxL ret ws rm mc ms n) (hP : va_P D vwCl w0 H) (hK : va_K D vwCl (TYS k) s) (hD : va_D A w0) (hN : NW s) (hS : va_S A H0 H locs) (hA : ∀ q, H0.size ≤ q → A q) (hrec : ∃ cell : Cell, H[b]? = some cell ∧ cell.vm.isStatics = false ∧ s.vm.findClass C = some cell.cls)
    (hn : As.length = n) (hsize : ls.size = nL) (hst : st0 = As.reverse ++ .ref b :: rest) (hW : (rest.map fun v => v.category).sum ≤ 8) (hdg : decode cc pc = .ok (.invokevirtual index, 3)) (hf : cells + mc ≤ R.cells ∧ slots + ms ≤ R.slots)
    (kk : ∀ (r : Int64) (u : S1) (H1 : Heap) (locs1 : List Loc), post r u → va_P D vwCl (w1 u) H1 → va_D A (w1 u) → va_S A H0 H1 locs1 → W p l e R s m args below meth c H1 locs1 (cells + mc) (slots + ms) Q (F0 m (pc + 3) ls (.long r :: rest))) : W p l e R s m args below meth c H locs cells slots Q (F0 m pc ls st0) := by
  have hFc := w_free hD hS hA
  refine va_calll (va_runV (g := F0 m pc ls st0) S (hM H.size) cw ⟨PreM_blind, hrec, fun U hU hW => PreM_at hP hK hD hN hU hW⟩ rfl hn hsize hst (lv_room hW) hdg hf) hS (fun q _ h => hFc q h) hFc (fun r u t H1 locs1 ht hvm hw hB hz1 hk1 hS1 => ?_)
  obtain ⟨hP1, hD1⟩ := hB
  rw [ht] at hP1
  exact kk r u H1 locs1 hw hP1 (hD1.weaken (fun i q _ h => hFc q.1 h)) hS1
theorem wlS {S1 : Type} {w1 : S1 → va_W} {post : Int64 → S1 → Prop} (S : CallFix p m c cc nL s args Ts own) (hM : ∀ sz, Met l y ws rm (PreM D k sz w0 As) (va_Ql post (WB D (va_A w0 sz) w1) (va_A w0 sz)) mc ms (va_A w0 sz)) (cw : CallB R s args own index y bytes maxL ret ws rm mc ms n ∧ (Cond.static y).before args s = true) (hP : va_P D vwCl w0 H) (hK : va_K D vwCl (TYS k) s) (hD : va_D A w0) (hN : NW s) (hS : va_S A H0 H locs) (hA : ∀ q, H0.size ≤ q → A q) 
    (hn : As.length = n) (hsize : ls.size = nL) (hst : st0 = As.reverse ++ rest) (hW : (rest.map fun v => v.category).sum ≤ 8) (hdg : decode cc pc = .ok (.invokestatic index, 3)) (hf : cells + mc ≤ R.cells ∧ slots + ms ≤ R.slots)
    (kk : ∀ (r : Int64) (u : S1) (H1 : Heap) (locs1 : List Loc), post r u → va_P D vwCl (w1 u) H1 → va_D A (w1 u) → va_S A H0 H1 locs1 → W p l e R s m args below meth c H1 locs1 (cells + mc) (slots + ms) Q (F0 m (pc + 3) ls (.long r :: rest))) : W p l e R s m args below meth c H locs cells slots Q (F0 m pc ls st0) := by
  have hFc := w_free hD hS hA
  refine va_calll (va_runS (g := F0 m pc ls st0) S (hM H.size) cw ⟨PreM_blind, fun U hU hW => PreM_at hP hK hD hN hU hW⟩ rfl hn hsize hst (lv_room hW) hdg hf) hS (fun q _ h => hFc q h) hFc (fun r u t H1 locs1 ht hvm hw hB hz1 hk1 hS1 => ?_)
  obtain ⟨hP1, hD1⟩ := hB
  rw [ht] at hP1
  exact kk r u H1 locs1 hw hP1 (hD1.weaken (fun i q _ h => hFc q.1 h)) hS1
theorem wqV {S1 : Type} {w1 : S1 → va_W} {post : Option Nat → S1 → Prop} (S : CallFix p m c cc nL s args Ts own) (hM : ∀ sz, Met l y ws rm (PreM D k sz w0 (.ref b :: As)) (va_Qq post (WB D (va_A w0 sz) w1) (va_A w0 sz)) mc ms (va_A w0 sz)) (cw : CallW R s args own C index y bytes maxL ret ws rm mc ms n) (hP : va_P D vwCl w0 H) (hK : va_K D vwCl (TYS k) s) (hD : va_D A w0) (hN : NW s) (hS : va_S A H0 H locs) (hA : ∀ q, H0.size ≤ q → A q) (hrec : ∃ cell : Cell, H[b]? = some cell ∧ cell.vm.isStatics = false ∧ s.vm.findClass C = some cell.cls)
    (hn : As.length = n) (hsize : ls.size = nL) (hst : st0 = As.reverse ++ .ref b :: rest) (hW : (rest.map fun v => v.category).sum ≤ 8) (hdg : decode cc pc = .ok (.invokevirtual index, 3)) (hf : cells + mc ≤ R.cells ∧ slots + ms ≤ R.slots)
    (kk : ∀ (r : Option Nat) (u : S1) (H1 : Heap) (locs1 : List Loc), post r u → va_P D vwCl (w1 u) H1 → va_D A (w1 u) → va_S A H0 H1 locs1 → W p l e R s m args below meth c H1 locs1 (cells + mc) (slots + ms) Q (F0 m (pc + 3) ls (va_rf r :: rest))) : W p l e R s m args below meth c H locs cells slots Q (F0 m pc ls st0) := by
  have hFc := w_free hD hS hA
  refine va_callq (va_runV (g := F0 m pc ls st0) S (hM H.size) cw ⟨PreM_blind, hrec, fun U hU hW => PreM_at hP hK hD hN hU hW⟩ rfl hn hsize hst (lv_room hW) hdg hf) hS (fun q _ h => hFc q h) hFc (fun r u t H1 locs1 ht hvm hw hB hz1 hk1 hS1 => ?_)
  obtain ⟨hP1, hD1⟩ := hB
  rw [ht] at hP1
  exact kk r u H1 locs1 hw hP1 (hD1.weaken (fun i q _ h => hFc q.1 h)) hS1
theorem wqS {S1 : Type} {w1 : S1 → va_W} {post : Option Nat → S1 → Prop} (S : CallFix p m c cc nL s args Ts own) (hM : ∀ sz, Met l y ws rm (PreM D k sz w0 As) (va_Qq post (WB D (va_A w0 sz) w1) (va_A w0 sz)) mc ms (va_A w0 sz)) (cw : CallB R s args own index y bytes maxL ret ws rm mc ms n ∧ (Cond.static y).before args s = true) (hP : va_P D vwCl w0 H) (hK : va_K D vwCl (TYS k) s) (hD : va_D A w0) (hN : NW s) (hS : va_S A H0 H locs) (hA : ∀ q, H0.size ≤ q → A q) 
    (hn : As.length = n) (hsize : ls.size = nL) (hst : st0 = As.reverse ++ rest) (hW : (rest.map fun v => v.category).sum ≤ 8) (hdg : decode cc pc = .ok (.invokestatic index, 3)) (hf : cells + mc ≤ R.cells ∧ slots + ms ≤ R.slots)
    (kk : ∀ (r : Option Nat) (u : S1) (H1 : Heap) (locs1 : List Loc), post r u → va_P D vwCl (w1 u) H1 → va_D A (w1 u) → va_S A H0 H1 locs1 → W p l e R s m args below meth c H1 locs1 (cells + mc) (slots + ms) Q (F0 m (pc + 3) ls (va_rf r :: rest))) : W p l e R s m args below meth c H locs cells slots Q (F0 m pc ls st0) := by
  have hFc := w_free hD hS hA
  refine va_callq (va_runS (g := F0 m pc ls st0) S (hM H.size) cw ⟨PreM_blind, fun U hU hW => PreM_at hP hK hD hN hU hW⟩ rfl hn hsize hst (lv_room hW) hdg hf) hS (fun q _ h => hFc q h) hFc (fun r u t H1 locs1 ht hvm hw hB hz1 hk1 hS1 => ?_)
  obtain ⟨hP1, hD1⟩ := hB
  rw [ht] at hP1
  exact kk r u H1 locs1 hw hP1 (hD1.weaken (fun i q _ h => hFc q.1 h)) hS1
end PCALL
