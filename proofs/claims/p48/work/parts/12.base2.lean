theorem PX.trans {a b c : PSt} (h : PX a b) (h2 : PX b c) : PX a c := by
  intro x hx
  obtain ⟨q1, q2, q3, q4, q5, q6, q7⟩ := h x hx
  obtain ⟨w1, w2, w3, w4, w5, w6, w7⟩ := h2 x q1
  refine ⟨w1, w2.trans q2, fun z s => ⟨((w3 (q2.trans z) s).1).trans (q3 z s).1, ((w3 (q2.trans z) s).2).trans (q3 z s).2⟩, fun z s => ?_, fun z s hs => (w5 (q2.trans z) s hs).trans (q5 z s hs), fun z s => (w6 (q2.trans z) s).trans (q6 z s), fun z s => (w7 (by rw [q2]; exact z) s).trans (q7 z s)⟩
  exact (w4 (by rcases z with z | z; exact Or.inl (q2.trans z); exact Or.inr (q2.trans z)) s).trans (q4 z s)
theorem i_half {a : Int32} : (a >>> (1 &&& 31 : Int32)).toInt = a.toInt / 2 := by
  have h := pk_shr a (1 &&& 31) 1 (by decide)
  rw [h, Int.shiftRight_eq_div_pow]
  rfl
theorem i_div {a : Int32} {d : Nat} (h : 0 ≤ a.toInt) (h0 : 0 < d) (hd : d < 2 ^ 31) : (a / nI d).toInt = a.toInt / d := by
  obtain ⟨j, hj, rfl⟩ := nI_of (x := a) (by rw [Int32.lt_iff_toInt_lt]; show ¬ a.toInt < 0; omega)
  rw [pk_div hj h0 hd, nI_toInt hj, nI_toInt (Nat.lt_of_le_of_lt (Nat.div_le_self j d) hj)]
  rfl
theorem i_max {a b : Int32} : a.toInt ≤ (if a < b then b else a).toInt ∧ b.toInt ≤ (if a < b then b else a).toInt ∧ ((if a < b then b else a).toInt = a.toInt ∨ (if a < b then b else a).toInt = b.toInt) := by
  by_cases h : a < b
  · rw [if_pos h]; rw [Int32.lt_iff_toInt_lt] at h; omega
  · rw [if_neg h]; rw [Int32.lt_iff_toInt_lt] at h; omega
theorem cl_lt {x : Int32} {n : Nat} (h : vp_in x n) : x.toNatClampNeg < n := Nat.not_le.mp (fun q => h (Or.inr q))
theorem i_add {a b : Int32} (h1 : -2147483648 ≤ a.toInt + b.toInt) (h2 : a.toInt + b.toInt ≤ 2147483647) : (a + b).toInt = a.toInt + b.toInt := by
  rw [Int32.toInt_add]
  exact Int.bmod_eq_of_le (by omega) (by omega)
theorem i_sub {a b : Int32} (h1 : -2147483648 ≤ a.toInt - b.toInt) (h2 : a.toInt - b.toInt ≤ 2147483647) : (a - b).toInt = a.toInt - b.toInt := by
  rw [Int32.toInt_sub]
  exact Int.bmod_eq_of_le (by omega) (by omega)
theorem i_eq {x y : Int32} : x = y ↔ x.toInt = y.toInt := Int32.toInt_inj.symm
theorem z_nar {x : Int32} (h : 0 ≤ x.toInt ∧ x.toInt ≤ 1) : narrow .boolean (.int x) = .int x := by
  have : x = 0 ∨ x = 1 := by
    rcases (show x.toInt = 0 ∨ x.toInt = 1 by omega) with q | q
    · exact Or.inl (Int32.toInt_inj.mp q)
    · exact Or.inr (Int32.toInt_inj.mp q)
  rcases this with rfl | rfl <;> rfl
section RCALL
variable {p : Program} {l : Launch} {e : Env} {R : Room} {s : State} {m : MethodId} {args : Array Value} {below : List Frame} {meth : Method} {c : Code} {H : Heap} {locs : List Loc} {cells slots : Nat} {Q : State → Prop}
variable {y : MethodName} {bytes cc : ByteArray} {maxL nL mc ms n index pc : Nat} {ret : Option FieldType} {ws : List Cond} {rm : Room} {Ts : List Cond} {own C : String} {b : Addr} {As rest st0 : List Value} {ls : Array Slot}
variable {D : va_G} {k : Nat → ClassId} {w0 : va_W}
theorem rvi {post : Int32 → Prop} (S : CallFix p m c cc nL s args Ts own) (hM : Met l y ws rm (PreR D k w0 (.ref b :: As)) (vp_Si post) 0 0 (fun _ => False)) (cw : CallW R s args own C index y bytes maxL ret ws rm 0 0 n) (hP : va_P D vwCl w0 H) (hK : va_K D vwCl (TYS k) s) (hrec : ∃ cell : Cell, H[b]? = some cell ∧ cell.vm.isStatics = false ∧ s.vm.findClass C = some cell.cls)
    (hn : As.length = n) (hsize : ls.size = nL) (hst : st0 = As.reverse ++ .ref b :: rest) (hW : (rest.map fun v => v.category).sum ≤ 8) (hdg : decode cc pc = .ok (.invokevirtual index, 3)) (hf : cells ≤ R.cells ∧ slots ≤ R.slots)
    (kk : ∀ r : Int32, post r → W p l e R s m args below meth c H locs cells slots Q (F0 m (pc + 3) ls (.int r :: rest))) : W p l e R s m args below meth c H locs cells slots Q (F0 m pc ls st0) :=
  vp_callSi (va_runV (g := F0 m pc ls st0) S hM cw ⟨PreR_blind, hrec, fun U hU hW => PreR_at hP hK hU hW⟩ rfl hn hsize hst (lv_room hW) hdg hf).run kk
theorem rvl {post : Int64 → Prop} (S : CallFix p m c cc nL s args Ts own) (hM : Met l y ws rm (PreR D k w0 (.ref b :: As)) (vp_Sl post) 0 0 (fun _ => False)) (cw : CallW R s args own C index y bytes maxL ret ws rm 0 0 n) (hP : va_P D vwCl w0 H) (hK : va_K D vwCl (TYS k) s) (hrec : ∃ cell : Cell, H[b]? = some cell ∧ cell.vm.isStatics = false ∧ s.vm.findClass C = some cell.cls)
    (hn : As.length = n) (hsize : ls.size = nL) (hst : st0 = As.reverse ++ .ref b :: rest) (hW : (rest.map fun v => v.category).sum ≤ 8) (hdg : decode cc pc = .ok (.invokevirtual index, 3)) (hf : cells ≤ R.cells ∧ slots ≤ R.slots)
    (kk : ∀ r : Int64, post r → W p l e R s m args below meth c H locs cells slots Q (F0 m (pc + 3) ls (.long r :: rest))) : W p l e R s m args below meth c H locs cells slots Q (F0 m pc ls st0) :=
  vp_callSl (va_runV (g := F0 m pc ls st0) S hM cw ⟨PreR_blind, hrec, fun U hU hW => PreR_at hP hK hU hW⟩ rfl hn hsize hst (lv_room hW) hdg hf).run kk
theorem rvq {post : Option Nat → Prop} (S : CallFix p m c cc nL s args Ts own) (hM : Met l y ws rm (PreR D k w0 (.ref b :: As)) (va_Sq post) 0 0 (fun _ => False)) (cw : CallW R s args own C index y bytes maxL ret ws rm 0 0 n) (hP : va_P D vwCl w0 H) (hK : va_K D vwCl (TYS k) s) (hrec : ∃ cell : Cell, H[b]? = some cell ∧ cell.vm.isStatics = false ∧ s.vm.findClass C = some cell.cls)
    (hn : As.length = n) (hsize : ls.size = nL) (hst : st0 = As.reverse ++ .ref b :: rest) (hW : (rest.map fun v => v.category).sum ≤ 8) (hdg : decode cc pc = .ok (.invokevirtual index, 3)) (hf : cells ≤ R.cells ∧ slots ≤ R.slots)
    (kk : ∀ r : Option Nat, post r → W p l e R s m args below meth c H locs cells slots Q (F0 m (pc + 3) ls (va_rf r :: rest))) : W p l e R s m args below meth c H locs cells slots Q (F0 m pc ls st0) :=
  va_csq (va_runV (g := F0 m pc ls st0) S hM cw ⟨PreR_blind, hrec, fun U hU hW => PreR_at hP hK hU hW⟩ rfl hn hsize hst (lv_room hW) hdg hf).run kk
end RCALL
