theorem P_mem {D : va_G} {cl : List vw_C} {ws : va_W} {H : Heap} : va_P D cl ws H ↔ ∀ q ∈ ws, va_at D cl q H :=
  ⟨fun h q hq => by obtain ⟨i, hi⟩ := List.getElem?_of_mem hq; exact h i q hi, fun h i q hi => h q (List.mem_of_getElem? hi)⟩
theorem D_iff {A : Nat → Prop} {ws : va_W} : va_D A ws ↔ (ws.map Prod.fst).Nodup ∧ ∀ q ∈ ws, A q.1 := by
  constructor
  · intro h
    refine ⟨?_, fun q hq => by obtain ⟨i, hi⟩ := List.getElem?_of_mem hq; exact h.2 i q hi⟩
    rw [List.Nodup, List.pairwise_iff_getElem]
    intro i j hi hj hij e
    rw [List.length_map] at hi hj
    rw [List.getElem_map, List.getElem_map] at e
    exact absurd (h.1 i j ws[i] ws[j] (List.getElem?_eq_getElem hi) (List.getElem?_eq_getElem hj) e) (Nat.ne_of_lt hij)
  · intro h
    refine ⟨fun i j p q hp hq e => ?_, fun i q hi => h.2 q (List.mem_of_getElem? hi)⟩
    obtain ⟨hi, ei⟩ := List.getElem?_eq_some_iff.mp hp
    obtain ⟨hj, ej⟩ := List.getElem?_eq_some_iff.mp hq
    have hn := h.1
    rw [List.Nodup, List.pairwise_iff_getElem] at hn
    rcases Nat.lt_trichotomy i j with c | c | c
    · exact absurd (show (ws.map Prod.fst)[i]'(by rw [List.length_map]; exact hi) = (ws.map Prod.fst)[j]'(by rw [List.length_map]; exact hj) by rw [List.getElem_map, List.getElem_map, ei, ej]; exact e) (hn i j _ _ c)
    · exact c
    · exact absurd (show (ws.map Prod.fst)[j]'(by rw [List.length_map]; exact hj) = (ws.map Prod.fst)[i]'(by rw [List.length_map]; exact hi) by rw [List.getElem_map, List.getElem_map, ei, ej]; exact e.symm) (hn j i _ _ c)
theorem P_perm {D : va_G} {cl : List vw_C} {ws ws' : va_W} {H : Heap} (p : ws.Perm ws') (h : va_P D cl ws H) : va_P D cl ws' H := P_mem.mpr (fun q hq => P_mem.mp h q (p.mem_iff.mpr hq))
theorem D_perm {A : Nat → Prop} {ws ws' : va_W} (p : ws.Perm ws') (h : va_D A ws) : va_D A ws' := by
  rw [D_iff] at h ⊢
  exact ⟨(p.map Prod.fst).nodup_iff.mp h.1, fun q hq => h.2 q (p.mem_iff.mpr hq)⟩
theorem P_right {D : va_G} {cl : List vw_C} {ws ws' : va_W} {H : Heap} (h : va_P D cl (ws ++ ws') H) : va_P D cl ws' H := P_mem.mpr (fun q hq => P_mem.mp h q (List.mem_append_right _ hq))
theorem D_right {A : Nat → Prop} {ws ws' : va_W} (h : va_D A (ws ++ ws')) : va_D A ws' := by
  rw [D_iff] at h ⊢
  rw [List.map_append] at h
  exact ⟨(List.nodup_append.mp h.1).2.1, fun q hq => h.2 q (List.mem_append_right _ hq)⟩
theorem P_left {D : va_G} {cl : List vw_C} {ws ws' : va_W} {H : Heap} (h : va_P D cl (ws ++ ws') H) : va_P D cl ws H := P_mem.mpr (fun q hq => P_mem.mp h q (List.mem_append_left _ hq))
theorem D_left {A : Nat → Prop} {ws ws' : va_W} (h : va_D A (ws ++ ws')) : va_D A ws := by
  rw [D_iff] at h ⊢
  rw [List.map_append] at h
  exact ⟨(List.nodup_append.mp h.1).1, fun q hq => h.2 q (List.mem_append_left _ hq)⟩
theorem er_perm {α : Type} : ∀ {l : List α} {i : Nat} {x : α}, l[i]? = some x → l.Perm (x :: l.eraseIdx i) := by
  intro l
  induction l with
  | nil => intro i x h; simp at h
  | cons y l ih =>
    intro i x h
    cases i with
    | zero => simp at h; subst h; exact List.Perm.refl _
    | succ i =>
      simp only [List.getElem?_cons_succ] at h
      simp only [List.eraseIdx_cons_succ]
      exact ((ih h).cons y).trans (List.Perm.swap x y _)
def psh (u : PSt) (a kd : Nat) (I : Nat → Int32) (J : Nat → Int64) (R : Nat → Option Nat) : PSt := (u.1 ++ [a], fun x => if x = a then kd else u.2.1 x, fun x => if x = a then I else u.2.2.1 x, fun x => if x = a then J else u.2.2.2.1 x, fun x => if x = a then R else u.2.2.2.2 x)
section PSH
variable {k : Nat → ClassId} {u u0 : PSt} {a kd : Nat} {I : Nat → Int32} {J : Nat → Int64} {R : Nat → Option Nat}
theorem psh_kd : (psh u a kd I J R).2.1 a = kd := if_pos rfl
theorem psh_I : (psh u a kd I J R).2.2.1 a = I := if_pos rfl
theorem psh_J : (psh u a kd I J R).2.2.2.1 a = J := if_pos rfl
theorem psh_R : (psh u a kd I J R).2.2.2.2 a = R := if_pos rfl
theorem psh_in : a ∈ (psh u a kd I J R).1 := List.mem_append_right _ (List.mem_singleton.mpr rfl)
theorem psh_m {x : Nat} (h : x ∈ u.1) : x ∈ (psh u a kd I J R).1 := List.mem_append_left _ h
theorem psh_k {x : Nat} (h : x ∈ u.1) (na : a ∉ u.1) : (psh u a kd I J R).2.1 x = u.2.1 x := if_neg (fun e : x = a => na (by rw [← e]; exact h))
theorem psh_Ix {x : Nat} (h : x ≠ a) : (psh u a kd I J R).2.2.1 x = u.2.2.1 x := if_neg h
theorem psh_Jx {x : Nat} (h : x ≠ a) : (psh u a kd I J R).2.2.2.1 x = u.2.2.2.1 x := if_neg h
theorem psh_Rx {x : Nat} (h : x ≠ a) : (psh u a kd I J R).2.2.2.2 x = u.2.2.2.2 x := if_neg h
theorem psh_Kx {x : Nat} (h : x ≠ a) : (psh u a kd I J R).2.1 x = u.2.1 x := if_neg h
theorem psh_F {x : Nat} (h : x ≠ a) : pF k (psh u a kd I J R) x = pF k u x := by
  unfold pF
  rw [psh_Kx h, psh_Ix h, psh_Jx h, psh_Rx h]
theorem psh_W (na : a ∉ u.1) : PW k (psh u a kd I J R) = PW k u ++ [(a, pF k (psh u a kd I J R) a)] := by
  show List.map _ (u.1 ++ [a]) = List.map _ u.1 ++ _
  rw [List.map_append]
  congr 1
  apply List.map_congr_left
  intro x hx
  rw [psh_F (fun e : x = a => na (by rw [← e]; exact hx))]
theorem psh_at {D : va_G} {A : Nat → Prop} {N : va_W} {H : Heap} {e : va_E} {i : Nat} (hi : N[i]? = some (a, e)) (hP : va_P D vwCl (N ++ PW k u) H) (hD : va_D A (N ++ PW k u)) (kd : Nat) (I : Nat → Int32) (J : Nat → Int64) (R : Nat → Option Nat) (he : pF k (psh u a kd I J R) a = e) : va_P D vwCl (N.eraseIdx i ++ PW k (psh u a kd I J R)) H ∧ va_D A (N.eraseIdx i ++ PW k (psh u a kd I J R)) ∧ a ∉ u.1 := by
  have na : a ∉ u.1 := by
    intro h
    have hn := (D_iff.mp hD).1
    rw [List.map_append] at hn
    have := (List.nodup_append.mp hn).2.2 a (List.mem_map.mpr ⟨(a, e), List.mem_of_getElem? hi, rfl⟩) a (List.mem_map.mpr ⟨(a, pF k u a), List.mem_map.mpr ⟨a, h, rfl⟩, rfl⟩)
    exact this rfl
  have hp : (N ++ PW k u).Perm (N.eraseIdx i ++ PW k (psh u a kd I J R)) := by
    rw [psh_W na, he]
    refine ((er_perm hi).append_right _).trans ?_
    show ((a, e) :: (N.eraseIdx i ++ PW k u)).Perm _
    rw [← List.append_assoc]
    exact (List.perm_append_comm (l₁ := [(a, e)]) (l₂ := N.eraseIdx i ++ PW k u))
  exact ⟨P_perm hp hP, D_perm hp hD, na⟩
theorem WT_psh (hu : WT u) (na : a ∉ u.1) (h1 : ∀ s t, tkd kd s = some t → ∃ y, R s = some y ∧ y ∈ u.1 ∧ u.2.1 y = t) (h2 : ∀ s t, tkn kd s = some t → R s = none ∨ ∃ y, R s = some y ∧ y ∈ u.1 ∧ u.2.1 y = t) (h3 : kd = 41 → ∀ s, s < 4 → ∃ y, R s = some y ∧ y ∈ u.1 ∧ u.2.1 y = 7) (h4 : ∀ s, okI kd s (I s)) : WT (psh u a kd I J R) := by
  have up : ∀ {y t : Nat}, y ∈ u.1 → u.2.1 y = t → y ∈ (psh u a kd I J R).1 ∧ (psh u a kd I J R).2.1 y = t := fun hy hk => ⟨psh_m hy, (psh_k hy na).trans hk⟩
  intro x hx
  by_cases e : x = a
  · subst e
    rw [psh_kd, psh_R, psh_I]
    refine ⟨fun s t h => ?_, fun s t h => ?_, fun h s hs => ?_, h4⟩
    · obtain ⟨y, q, m, c⟩ := h1 s t h; exact ⟨y, q, (up m c).1, (up m c).2⟩
    · rcases h2 s t h with q | ⟨y, q, m, c⟩
      · exact Or.inl q
      · exact Or.inr ⟨y, q, (up m c).1, (up m c).2⟩
    · obtain ⟨y, q, m, c⟩ := h3 h s hs; exact ⟨y, q, (up m c).1, (up m c).2⟩
  · have hx' : x ∈ u.1 := by
      rcases List.mem_append.mp hx with h | h
      · exact h
      · exact absurd (List.mem_singleton.mp h) e
    obtain ⟨q1, q2, q3, q4⟩ := hu x hx'
    rw [psh_Kx e, psh_Rx e, psh_Ix e]
    refine ⟨fun s t h => ?_, fun s t h => ?_, fun h s hs => ?_, q4⟩
    · obtain ⟨y, q, m, c⟩ := q1 s t h; exact ⟨y, q, (up m c).1, (up m c).2⟩
    · rcases q2 s t h with q | ⟨y, q, m, c⟩
      · exact Or.inl q
      · exact Or.inr ⟨y, q, (up m c).1, (up m c).2⟩
    · obtain ⟨y, q, m, c⟩ := q3 h s hs; exact ⟨y, q, (up m c).1, (up m c).2⟩
theorem PX_psh (h : PX u0 u) (na : a ∉ u.1) : PX u0 (psh u a kd I J R) := by
  intro x hx
  obtain ⟨h1, h2, h3, h4, h5, h6, h7⟩ := h x hx
  have e : x ≠ a := fun e => na (e ▸ h1)
  rw [psh_Kx e, psh_Rx e, psh_Ix e]
  exact ⟨psh_m h1, h2, h3, h4, h5, h6, h7⟩
end PSH
theorem tk0 {s t : Nat} (h : tkd 0 s = some t) : (s = 7 ∧ t = 23) := by
  unfold tkd at h
  split at h <;> simp_all
theorem tn0 {s t : Nat} (h : tkn 0 s = some t) : (s = 3 ∧ t = 6) := by
  unfold tkn at h
  split at h <;> simp_all
theorem tk1 {s t : Nat} (h : tkd 1 s = some t) : (s = 2 ∧ t = 21) ∨ (s = 3 ∧ t = 21) ∨ (s = 4 ∧ t = 21) := by
  unfold tkd at h
  split at h <;> simp_all
theorem tn1 {s t : Nat} (h : tkn 1 s = some t) : False := by
  unfold tkn at h
  split at h <;> simp_all
theorem tk2 {s t : Nat} (h : tkd 2 s = some t) : (s = 0 ∧ t = 9) ∨ (s = 1 ∧ t = 10) := by
  unfold tkd at h
  split at h <;> simp_all
theorem tn2 {s t : Nat} (h : tkn 2 s = some t) : False := by
  unfold tkn at h
  split at h <;> simp_all
theorem tk3 {s t : Nat} (h : tkd 3 s = some t) : (s = 7 ∧ t = 22) ∨ (s = 8 ∧ t = 22) ∨ (s = 9 ∧ t = 22) ∨ (s = 10 ∧ t = 22) := by
  unfold tkd at h
  split at h <;> simp_all
theorem tn3 {s t : Nat} (h : tkn 3 s = some t) : False := by
  unfold tkn at h
  split at h <;> simp_all
theorem tk4 {s t : Nat} (h : tkd 4 s = some t) : (s = 3 ∧ t = 25) ∨ (s = 4 ∧ t = 25) ∨ (s = 5 ∧ t = 25) ∨ (s = 6 ∧ t = 26) ∨ (s = 7 ∧ t = 26) ∨ (s = 8 ∧ t = 26) ∨ (s = 9 ∧ t = 31) ∨ (s = 10 ∧ t = 32) := by
  unfold tkd at h
  split at h <;> simp_all
theorem tn4 {s t : Nat} (h : tkn 4 s = some t) : False := by
  unfold tkn at h
  split at h <;> simp_all
theorem tk5 {s t : Nat} (h : tkd 5 s = some t) : (s = 3 ∧ t = 3) := by
  unfold tkd at h
  split at h <;> simp_all
theorem tn5 {s t : Nat} (h : tkn 5 s = some t) : False := by
  unfold tkn at h
  split at h <;> simp_all
theorem tk6 {s t : Nat} (h : tkd 6 s = some t) : (s = 2 ∧ t = 25) ∨ (s = 3 ∧ t = 25) ∨ (s = 4 ∧ t = 25) ∨ (s = 5 ∧ t = 25) := by
  unfold tkd at h
  split at h <;> simp_all
theorem tn6 {s t : Nat} (h : tkn 6 s = some t) : False := by
  unfold tkn at h
  split at h <;> simp_all
theorem tk7 {s t : Nat} (h : tkd 7 s = some t) : (s = 3 ∧ t = 30) := by
  unfold tkd at h
  split at h <;> simp_all
theorem tn7 {s t : Nat} (h : tkn 7 s = some t) : False := by
  unfold tkn at h
  split at h <;> simp_all
theorem tk8 {s t : Nat} (h : tkd 8 s = some t) : False := by
  unfold tkd at h
  split at h <;> simp_all
theorem tn8 {s t : Nat} (h : tkn 8 s = some t) : False := by
  unfold tkn at h
  split at h <;> simp_all
theorem tk9 {s t : Nat} (h : tkd 9 s = some t) : (s = 0 ∧ t = 20) := by
  unfold tkd at h
  split at h <;> simp_all
theorem tn9 {s t : Nat} (h : tkn 9 s = some t) : False := by
  unfold tkn at h
  split at h <;> simp_all
theorem tk10 {s t : Nat} (h : tkd 10 s = some t) : (s = 0 ∧ t = 1) ∨ (s = 1 ∧ t = 6) ∨ (s = 2 ∧ t = 4) ∨ (s = 9 ∧ t = 27) ∨ (s = 10 ∧ t = 27) ∨ (s = 11 ∧ t = 42) := by
  unfold tkd at h
  split at h <;> simp_all
theorem tn10 {s t : Nat} (h : tkn 10 s = some t) : False := by
  unfold tkn at h
  split at h <;> simp_all
theorem tk11 {s t : Nat} (h : tkd 11 s = some t) : (s = 0 ∧ t = 9) ∨ (s = 1 ∧ t = 40) ∨ (s = 2 ∧ t = 41) ∨ (s = 3 ∧ t = 8) ∨ (s = 4 ∧ t = 1) ∨ (s = 5 ∧ t = 3) ∨ (s = 6 ∧ t = 0) ∨ (s = 7 ∧ t = 24) ∨ (s = 8 ∧ t = 10) := by
  unfold tkd at h
  split at h <;> simp_all
theorem tn11 {s t : Nat} (h : tkn 11 s = some t) : False := by
  unfold tkn at h
  split at h <;> simp_all
theorem tk12 {s t : Nat} (h : tkd 12 s = some t) : (s = 1 ∧ t = 50) ∨ (s = 2 ∧ t = 52) ∨ (s = 3 ∧ t = 53) ∨ (s = 4 ∧ t = 54) ∨ (s = 6 ∧ t = 55) ∨ (s = 14 ∧ t = 51) ∨ (s = 17 ∧ t = 56) ∨ (s = 18 ∧ t = 56) ∨ (s = 19 ∧ t = 56) ∨ (s = 20 ∧ t = 56) ∨ (s = 22 ∧ t = 57) ∨ (s = 24 ∧ t = 58) ∨ (s = 26 ∧ t = 59) ∨ (s = 30 ∧ t = 60) ∨ (s = 31 ∧ t = 61) ∨ (s = 32 ∧ t = 62) ∨ (s = 33 ∧ t = 63) := by
  unfold tkd at h
  split at h <;> simp_all
theorem tn12 {s t : Nat} (h : tkn 12 s = some t) : False := by
  unfold tkn at h
  split at h <;> simp_all
theorem tk20 {s t : Nat} (h : tkd 20 s = some t) : False := by
  unfold tkd at h
  split at h <;> simp_all
theorem tn20 {s t : Nat} (h : tkn 20 s = some t) : False := by
  unfold tkn at h
  split at h <;> simp_all
theorem tk21 {s t : Nat} (h : tkd 21 s = some t) : False := by
  unfold tkd at h
  split at h <;> simp_all
theorem tn21 {s t : Nat} (h : tkn 21 s = some t) : False := by
  unfold tkn at h
  split at h <;> simp_all
theorem tk22 {s t : Nat} (h : tkd 22 s = some t) : False := by
  unfold tkd at h
  split at h <;> simp_all
theorem tn22 {s t : Nat} (h : tkn 22 s = some t) : False := by
  unfold tkn at h
  split at h <;> simp_all
theorem tk23 {s t : Nat} (h : tkd 23 s = some t) : False := by
  unfold tkd at h
  split at h <;> simp_all
theorem tn23 {s t : Nat} (h : tkn 23 s = some t) : False := by
  unfold tkn at h
  split at h <;> simp_all
theorem tk24 {s t : Nat} (h : tkd 24 s = some t) : False := by
  unfold tkd at h
  split at h <;> simp_all
theorem tn24 {s t : Nat} (h : tkn 24 s = some t) : False := by
  unfold tkn at h
  split at h <;> simp_all
theorem tk25 {s t : Nat} (h : tkd 25 s = some t) : False := by
  unfold tkd at h
  split at h <;> simp_all
theorem tn25 {s t : Nat} (h : tkn 25 s = some t) : False := by
  unfold tkn at h
  split at h <;> simp_all
theorem tk26 {s t : Nat} (h : tkd 26 s = some t) : False := by
  unfold tkd at h
  split at h <;> simp_all
theorem tn26 {s t : Nat} (h : tkn 26 s = some t) : False := by
  unfold tkn at h
  split at h <;> simp_all
theorem tk27 {s t : Nat} (h : tkd 27 s = some t) : False := by
  unfold tkd at h
  split at h <;> simp_all
theorem tn27 {s t : Nat} (h : tkn 27 s = some t) : False := by
  unfold tkn at h
  split at h <;> simp_all
theorem tk30 {s t : Nat} (h : tkd 30 s = some t) : False := by
  unfold tkd at h
  split at h <;> simp_all
theorem tn30 {s t : Nat} (h : tkn 30 s = some t) : False := by
  unfold tkn at h
  split at h <;> simp_all
theorem tk31 {s t : Nat} (h : tkd 31 s = some t) : False := by
  unfold tkd at h
  split at h <;> simp_all
theorem tn31 {s t : Nat} (h : tkn 31 s = some t) : False := by
  unfold tkn at h
  split at h <;> simp_all
theorem tk32 {s t : Nat} (h : tkd 32 s = some t) : False := by
  unfold tkd at h
  split at h <;> simp_all
theorem tn32 {s t : Nat} (h : tkn 32 s = some t) : False := by
  unfold tkn at h
  split at h <;> simp_all
theorem tk40 {s t : Nat} (h : tkd 40 s = some t) : False := by
  unfold tkd at h
  split at h <;> simp_all
theorem tk41 {s t : Nat} (h : tkd 41 s = some t) : False := by
  unfold tkd at h
  split at h <;> simp_all
theorem tn41 {s t : Nat} (h : tkn 41 s = some t) : False := by
  unfold tkn at h
  split at h <;> simp_all
theorem tk42 {s t : Nat} (h : tkd 42 s = some t) : False := by
  unfold tkd at h
  split at h <;> simp_all
theorem tk50 {s t : Nat} (h : tkd 50 s = some t) : False := by
  unfold tkd at h
  split at h <;> simp_all
theorem tn50 {s t : Nat} (h : tkn 50 s = some t) : False := by
  unfold tkn at h
  split at h <;> simp_all
theorem tk51 {s t : Nat} (h : tkd 51 s = some t) : False := by
  unfold tkd at h
  split at h <;> simp_all
theorem tn51 {s t : Nat} (h : tkn 51 s = some t) : False := by
  unfold tkn at h
  split at h <;> simp_all
theorem tk52 {s t : Nat} (h : tkd 52 s = some t) : False := by
  unfold tkd at h
  split at h <;> simp_all
theorem tn52 {s t : Nat} (h : tkn 52 s = some t) : False := by
  unfold tkn at h
  split at h <;> simp_all
theorem tk53 {s t : Nat} (h : tkd 53 s = some t) : False := by
  unfold tkd at h
  split at h <;> simp_all
theorem tn53 {s t : Nat} (h : tkn 53 s = some t) : False := by
  unfold tkn at h
  split at h <;> simp_all
theorem tk54 {s t : Nat} (h : tkd 54 s = some t) : False := by
  unfold tkd at h
  split at h <;> simp_all
theorem tn54 {s t : Nat} (h : tkn 54 s = some t) : False := by
  unfold tkn at h
  split at h <;> simp_all
theorem tk55 {s t : Nat} (h : tkd 55 s = some t) : False := by
  unfold tkd at h
  split at h <;> simp_all
theorem tn55 {s t : Nat} (h : tkn 55 s = some t) : False := by
  unfold tkn at h
  split at h <;> simp_all
theorem tk56 {s t : Nat} (h : tkd 56 s = some t) : False := by
  unfold tkd at h
  split at h <;> simp_all
theorem tn56 {s t : Nat} (h : tkn 56 s = some t) : False := by
  unfold tkn at h
  split at h <;> simp_all
theorem tk57 {s t : Nat} (h : tkd 57 s = some t) : False := by
  unfold tkd at h
  split at h <;> simp_all
theorem tn57 {s t : Nat} (h : tkn 57 s = some t) : False := by
  unfold tkn at h
  split at h <;> simp_all
theorem tk58 {s t : Nat} (h : tkd 58 s = some t) : False := by
  unfold tkd at h
  split at h <;> simp_all
theorem tn58 {s t : Nat} (h : tkn 58 s = some t) : False := by
  unfold tkn at h
  split at h <;> simp_all
theorem tk59 {s t : Nat} (h : tkd 59 s = some t) : False := by
  unfold tkd at h
  split at h <;> simp_all
theorem tn59 {s t : Nat} (h : tkn 59 s = some t) : False := by
  unfold tkn at h
  split at h <;> simp_all
theorem tk60 {s t : Nat} (h : tkd 60 s = some t) : False := by
  unfold tkd at h
  split at h <;> simp_all
theorem tn60 {s t : Nat} (h : tkn 60 s = some t) : False := by
  unfold tkn at h
  split at h <;> simp_all
theorem tk61 {s t : Nat} (h : tkd 61 s = some t) : False := by
  unfold tkd at h
  split at h <;> simp_all
theorem tn61 {s t : Nat} (h : tkn 61 s = some t) : False := by
  unfold tkn at h
  split at h <;> simp_all
theorem tk62 {s t : Nat} (h : tkd 62 s = some t) : False := by
  unfold tkd at h
  split at h <;> simp_all
theorem tn62 {s t : Nat} (h : tkn 62 s = some t) : False := by
  unfold tkn at h
  split at h <;> simp_all
theorem tk63 {s t : Nat} (h : tkd 63 s = some t) : False := by
  unfold tkd at h
  split at h <;> simp_all
theorem tn63 {s t : Nat} (h : tkn 63 s = some t) : False := by
  unfold tkn at h
  split at h <;> simp_all
section PGROW
variable {p : Program} {l : Launch} {e : Env} {R : Room} {s : State} {m : MethodId} {args : Array Value} {below : List Frame} {meth : Method} {c : Code} {H : Heap} {locs : List Loc} {cells slots : Nat} {Q : State → Prop}
variable {y : MethodName} {bytes cc : ByteArray} {maxL nL mc ms n index pc : Nat} {ret : Option FieldType} {ws : List Cond} {rm : Room} {Ts : List Cond} {own C : String} {b : Addr} {As rest st0 : List Value} {ls : Array Slot}
variable {D : va_G} {k : Nat → ClassId} {A : Nat → Prop} {H0 : Heap} {pl : va_W} {ce : va_E}
theorem gI {S1 : Type} {w1 : S1 → va_W} {post : S1 → Prop} (S : CallFix p m c cc nL s args Ts own) (hM : ∀ sz, Met l y ws rm (PreM D k sz [(b, ce)] (.ref b :: As)) (va_Qv post (WB D (va_A [(b, ce)] sz) w1) (va_A [(b, ce)] sz)) mc ms (va_A [(b, ce)] sz)) (cw : CallB R s args own index y bytes maxL none ws rm mc ms n ∧ y.name = "<init>" ∧ (Cond.instanceMethod y).before args s = true) (hP : va_P D vwCl ([(b, ce)] ++ pl) H) (hK : va_K D vwCl (TYS k) s) (hD : va_D A ([(b, ce)] ++ pl)) (hN : NW s) (hS : va_S A H0 H locs) (hA : ∀ q, H0.size ≤ q → A q)
    (hn : As.length = n) (hsize : ls.size = nL) (hst : st0 = As.reverse ++ .ref b :: rest) (hW : (rest.map fun v => v.category).sum ≤ 8) (hdg : decode cc pc = .ok (.invokespecial index, 3)) (hf : cells + mc ≤ R.cells ∧ slots + ms ≤ R.slots)
    (kk : ∀ (u : S1) (H1 : Heap) (locs1 : List Loc), post u → va_P D vwCl (w1 u ++ pl) H1 → va_D A (w1 u ++ pl) → va_S A H0 H1 locs1 → W p l e R s m args below meth c H1 locs1 (cells + mc) (slots + ms) Q (F0 m (pc + 3) ls rest)) : W p l e R s m args below meth c H locs cells slots Q (F0 m pc ls st0) := by
  have hFc := va_free (wc := [(b, ce)]) hD hS hA [0] rfl
  refine va_callv (va_runI (g := F0 m pc ls st0) S (hM H.size) cw ⟨PreM_blind, fun U hU hW => PreM_at (P_left hP) hK (D_left hD) hN hU hW⟩ rfl hn hsize hst (lv_room hW) hdg hf) hS (fun q _ h => hFc q h) hFc (fun u t H1 locs1 ht hvm hw hB hz1 hk1 hS1 => ?_)
  obtain ⟨hP1, hD1⟩ := hB
  rw [ht] at hP1
  obtain ⟨hP2, hD2⟩ := va_joinQ (X := [(b, ce)]) (cx := [(b, ce)]) (wr := []) (w1 := w1 u) (pl := pl) hP hD [0] [] rfl rfl rfl (fun i h => by cases h) hk1 hFc hP1 hD1
  exact kk u H1 locs1 hw hP2 hD2 hS1
theorem gIN {S1 : Type} {w1 : S1 → va_W} {post : S1 → Prop} {host : String} (S : CallFix p m c cc nL s args Ts own) (hM : ∀ sz, Met l y ws rm (PreM D k sz [(b, ce)] (.ref b :: As)) (va_Qv post (WB D (va_A [(b, ce)] sz) w1) (va_A [(b, ce)] sz)) mc ms (va_A [(b, ce)] sz)) (cw : va_CN R s args own index y host bytes maxL none ws rm mc ms n ∧ y.name = "<init>" ∧ (Cond.instanceMethod y).before args s = true) (hP : va_P D vwCl ([(b, ce)] ++ pl) H) (hK : va_K D vwCl (TYS k) s) (hD : va_D A ([(b, ce)] ++ pl)) (hN : NW s) (hS : va_S A H0 H locs) (hA : ∀ q, H0.size ≤ q → A q)
    (hn : As.length = n) (hsize : ls.size = nL) (hst : st0 = As.reverse ++ .ref b :: rest) (hW : (rest.map fun v => v.category).sum ≤ 8) (hdg : decode cc pc = .ok (.invokespecial index, 3)) (hf : cells + mc ≤ R.cells ∧ slots + ms ≤ R.slots)
    (kk : ∀ (u : S1) (H1 : Heap) (locs1 : List Loc), post u → va_P D vwCl (w1 u ++ pl) H1 → va_D A (w1 u ++ pl) → va_S A H0 H1 locs1 → W p l e R s m args below meth c H1 locs1 (cells + mc) (slots + ms) Q (F0 m (pc + 3) ls rest)) : W p l e R s m args below meth c H locs cells slots Q (F0 m pc ls st0) := by
  have hFc := va_free (wc := [(b, ce)]) hD hS hA [0] rfl
  refine va_callv (va_runIN (g := F0 m pc ls st0) S (hM H.size) cw ⟨PreM_blind, fun U hU hW => PreM_at (P_left hP) hK (D_left hD) hN hU hW⟩ rfl hn hsize hst (lv_room hW) hdg hf) hS (fun q _ h => hFc q h) hFc (fun u t H1 locs1 ht hvm hw hB hz1 hk1 hS1 => ?_)
  obtain ⟨hP1, hD1⟩ := hB
  rw [ht] at hP1
  obtain ⟨hP2, hD2⟩ := va_joinQ (X := [(b, ce)]) (cx := [(b, ce)]) (wr := []) (w1 := w1 u) (pl := pl) hP hD [0] [] rfl rfl rfl (fun i h => by cases h) hk1 hFc hP1 hD1
  exact kk u H1 locs1 hw hP2 hD2 hS1
end PGROW
theorem z_fit {x : Int32} (h : 0 ≤ x.toInt ∧ x.toInt ≤ 1) : fits .boolean (.int x) = true := by
  have : x = 0 ∨ x = 1 := by
    rcases (show x.toInt = 0 ∨ x.toInt = 1 by omega) with q | q
    · exact Or.inl (Int32.toInt_inj.mp q)
    · exact Or.inr (Int32.toInt_inj.mp q)
  rcases this with rfl | rfl <;> rfl
set_option maxHeartbeats 4000000 in
set_option maxRecDepth 100000 in
theorem c_X5_init (l : Launch) (D : va_G) (k : Nat → ClassId) (p1 p2 p3 : Int32) (pt : Nat) (p5 p6 p7 : Int32) (h7 : 0 ≤ p7.toInt ∧ p7.toInt ≤ 1) (h0 : Nat) (sz : Nat) : Met l yX5_init wsX5_init ({ frames := 1, cells := 0, slots := 0, locals := 12 }) (PreM D k sz [(h0, .inr (5, [.int 0, .int 0, .int 0, .null, .int 0, .int 0, .int 0]))] [.ref h0, .int p1, .int p2, .int p3, .ref pt, .int p5, .int p6, .int p7]) (va_Qv (fun (_ : Nat → Nat) => True) (WB D (va_A [(h0, .inr (5, [.int 0, .int 0, .int 0, .null, .int 0, .int 0, .int 0]))] sz) (fun (_ : Nat → Nat) => [(h0, .inr (5, [.int p1, .int p2, .int p3, .ref pt, .int p5, .int p6, .int p7]))])) (va_A [(h0, .inr (5, [.int 0, .int 0, .int 0, .null, .int 0, .int 0, .int 0]))] sz)) 0 0 (va_A [(h0, .inr (5, [.int 0, .int 0, .int 0, .null, .int 0, .int 0, .int 0]))] sz) := by
  refine Met.ofW (cc := cX5_init) (maxL := 8) (ret := none) (by decide) rfl ?_
  intro p e s m args below meth c s₁ B hml hv
  obtain ⟨rfl, hsz, hP, hK, hD0, hN⟩ := hv
  have hx := B.exec
  have hb := B.bytes
  have hr := B.returns
  have hts := atoms_spec (ws := wsX5_init) B.pre
  have hown : s.vm.findClass RX5 = some m.cls := findClass_of_methodNamed B.named
  have hlocks := B.notSynchronized
  have hin : meth.name = "<init>" := (name_of_methodNamed B.named B.method).1
  have i_X5 : ∀ w ∈ wsX50, w ∈ wsX5_init := by decide +kernel
  subst hsz
  have hD := hD0.self (sz := s.heap.size)
  generalize hAe : va_A [(h0, .inr (5, [.int 0, .int 0, .int 0, .null, .int 0, .int 0, .int 0]))] s.heap.size = A at hD ⊢
  have hA : ∀ q : Nat, s.heap.size ≤ q → A q := fun q h => by rw [← hAe]; exact Or.inr h
  have hS : va_S A s.heap s.heap [] := va_S.rf
  have hl := lv_entry ([.ref h0, .int p1, .int p2, .int p3, .ref pt, .int p5, .int p6, .int p7]) (n := 8) (Nat.le_of_ble_eq_true rfl)
  rw [lg_entry_eq]
  generalize (lg_sl ([.ref h0, .int p1, .int p2, .int p3, .ref pt, .int p5, .int p6, .int p7]) ++ List.replicate (8 - (lg_sl ([.ref h0, .int p1, .int p2, .int p3, .ref pt, .int p5, .int p6, .int p7])).length) Slot.unset).toArray = ls at hl ⊢
  have hl : lv_has ls 8 [(0, .ref h0), (1, .int p1), (2, .int p2), (3, .int p3), (4, .ref pt), (5, .int p5), (6, .int p6), (7, .int p7)] := hl
  refine lv_aload_n hx hb dX5_init_0 rfl (lv_at hl 0 rfl) ?_
  refine W.objInit hx hb hown (hts (.methodLink RX5 1 objectInit) (by decide +kernel)) (hts (.instanceMethod objectInit) (by decide +kernel)) (hts (.code objectInit ⟨#[0xb1]⟩ 1 none) (by decide +kernel)) rfl (by rw [hml]; exact hl.1) rfl dX5_init_1 (Nat.le_of_ble_eq_true rfl) (Nat.le_of_ble_eq_true rfl) ?_
  refine W.eq (g2 := F0 m 4 ls []) rfl ?_
  refine lv_aload_n hx hb dX5_init_4 rfl (lv_at hl 0 rfl) ?_
  refine lv_iload_n hx hb dX5_init_5 rfl (lv_at hl 1 rfl) ?_
  refine va_putF (D := D) (ci := 5) (v := .int p1) (ty := .int) (C := RX5) (T := TX5) (N := 7) hx hb hts i_X5 tyX5 tyX5_ok nmX5 hown hK hP hD hS 0 rfl rfl 0 (by decide) (hts (.fieldLink RX5 7 "BellowsRow$Pipe" "from" "I") (by decide +kernel)) (fun _ h9 => h9) rfl hin rfl (by decide +kernel) rfl rfl (Nat.le_of_ble_eq_true rfl) dX5_init_6 (fun H locs hP hD hS => ?_)
  have hP : va_P D vwCl [(h0, .inr (5, [.int p1, .int 0, .int 0, .null, .int 0, .int 0, .int 0]))] H := hP
  have hD : va_D A [(h0, .inr (5, [.int p1, .int 0, .int 0, .null, .int 0, .int 0, .int 0]))] := hD
  refine lv_aload_n hx hb dX5_init_9 rfl (lv_at hl 0 rfl) ?_
  refine lv_iload_n hx hb dX5_init_10 rfl (lv_at hl 2 rfl) ?_
  refine va_putF (D := D) (ci := 5) (v := .int p2) (ty := .int) (C := RX5) (T := TX5) (N := 7) hx hb hts i_X5 tyX5 tyX5_ok nmX5 hown hK hP hD hS 0 rfl rfl 1 (by decide) (hts (.fieldLink RX5 13 "BellowsRow$Pipe" "to" "I") (by decide +kernel)) (fun _ h9 => h9) rfl hin rfl (by decide +kernel) rfl rfl (Nat.le_of_ble_eq_true rfl) dX5_init_11 (fun H locs hP hD hS => ?_)
  have hP : va_P D vwCl [(h0, .inr (5, [.int p1, .int p2, .int 0, .null, .int 0, .int 0, .int 0]))] H := hP
  have hD : va_D A [(h0, .inr (5, [.int p1, .int p2, .int 0, .null, .int 0, .int 0, .int 0]))] := hD
  refine lv_aload_n hx hb dX5_init_14 rfl (lv_at hl 0 rfl) ?_
  refine lv_iload_n hx hb dX5_init_15 rfl (lv_at hl 3 rfl) ?_
  refine va_putF (D := D) (ci := 5) (v := .int p3) (ty := .int) (C := RX5) (T := TX5) (N := 7) hx hb hts i_X5 tyX5 tyX5_ok nmX5 hown hK hP hD hS 0 rfl rfl 2 (by decide) (hts (.fieldLink RX5 16 "BellowsRow$Pipe" "bore" "I") (by decide +kernel)) (fun _ h9 => h9) rfl hin rfl (by decide +kernel) rfl rfl (Nat.le_of_ble_eq_true rfl) dX5_init_16 (fun H locs hP hD hS => ?_)
  have hP : va_P D vwCl [(h0, .inr (5, [.int p1, .int p2, .int p3, .null, .int 0, .int 0, .int 0]))] H := hP
  have hD : va_D A [(h0, .inr (5, [.int p1, .int p2, .int p3, .null, .int 0, .int 0, .int 0]))] := hD
  refine lv_aload_n hx hb dX5_init_19 rfl (lv_at hl 0 rfl) ?_
  refine lv_aload hx hb dX5_init_20 (lv_at hl 4 rfl) ?_
  refine va_putF (D := D) (ci := 5) (v := .ref pt) (ty := .object "BellowsRow$Path") (C := RX5) (T := TX5) (N := 7) hx hb hts i_X5 tyX5 tyX5_ok nmX5 hown hK hP hD hS 0 rfl rfl 3 (by decide) (hts (.fieldLink RX5 19 "BellowsRow$Pipe" "path" "LBellowsRow$Path;") (by decide +kernel)) (fun _ h9 => h9) rfl hin rfl (by decide +kernel) rfl rfl (Nat.le_of_ble_eq_true rfl) dX5_init_22 (fun H locs hP hD hS => ?_)
  have hP : va_P D vwCl [(h0, .inr (5, [.int p1, .int p2, .int p3, .ref pt, .int 0, .int 0, .int 0]))] H := hP
  have hD : va_D A [(h0, .inr (5, [.int p1, .int p2, .int p3, .ref pt, .int 0, .int 0, .int 0]))] := hD
  refine lv_aload_n hx hb dX5_init_25 rfl (lv_at hl 0 rfl) ?_
  refine lv_iload hx hb dX5_init_26 (lv_at hl 5 rfl) ?_
  refine va_putF (D := D) (ci := 5) (v := .int p5) (ty := .int) (C := RX5) (T := TX5) (N := 7) hx hb hts i_X5 tyX5 tyX5_ok nmX5 hown hK hP hD hS 0 rfl rfl 4 (by decide) (hts (.fieldLink RX5 23 "BellowsRow$Pipe" "holds" "I") (by decide +kernel)) (fun _ h9 => h9) rfl hin rfl (by decide +kernel) rfl rfl (Nat.le_of_ble_eq_true rfl) dX5_init_28 (fun H locs hP hD hS => ?_)
  have hP : va_P D vwCl [(h0, .inr (5, [.int p1, .int p2, .int p3, .ref pt, .int p5, .int 0, .int 0]))] H := hP
  have hD : va_D A [(h0, .inr (5, [.int p1, .int p2, .int p3, .ref pt, .int p5, .int 0, .int 0]))] := hD
  refine lv_aload_n hx hb dX5_init_31 rfl (lv_at hl 0 rfl) ?_
  refine lv_iload hx hb dX5_init_32 (lv_at hl 6 rfl) ?_
  refine va_putF (D := D) (ci := 5) (v := .int p6) (ty := .int) (C := RX5) (T := TX5) (N := 7) hx hb hts i_X5 tyX5 tyX5_ok nmX5 hown hK hP hD hS 0 rfl rfl 5 (by decide) (hts (.fieldLink RX5 26 "BellowsRow$Pipe" "life" "I") (by decide +kernel)) (fun _ h9 => h9) rfl hin rfl (by decide +kernel) rfl rfl (Nat.le_of_ble_eq_true rfl) dX5_init_34 (fun H locs hP hD hS => ?_)
  have hP : va_P D vwCl [(h0, .inr (5, [.int p1, .int p2, .int p3, .ref pt, .int p5, .int p6, .int 0]))] H := hP
  have hD : va_D A [(h0, .inr (5, [.int p1, .int p2, .int p3, .ref pt, .int p5, .int p6, .int 0]))] := hD
  refine lv_aload_n hx hb dX5_init_37 rfl (lv_at hl 0 rfl) ?_
  refine lv_iload hx hb dX5_init_38 (lv_at hl 7 rfl) ?_
  refine va_putF (D := D) (ci := 5) (v := .int p7) (ty := .boolean) (C := RX5) (T := TX5) (N := 7) hx hb hts i_X5 tyX5 tyX5_ok nmX5 hown hK hP hD hS 0 rfl rfl 6 (by decide) (hts (.fieldLink RX5 29 "BellowsRow$Pipe" "propped" "Z") (by decide +kernel)) (fun _ h9 => h9) rfl hin rfl (by decide +kernel) (z_nar h7) (z_fit h7) (Nat.le_of_ble_eq_true rfl) dX5_init_40 (fun H locs hP hD hS => ?_)
  have hP : va_P D vwCl [(h0, .inr (5, [.int p1, .int p2, .int p3, .ref pt, .int p5, .int p6, .int p7]))] H := hP
  have hD : va_D A [(h0, .inr (5, [.int p1, .int p2, .int p3, .ref pt, .int p5, .int p6, .int p7]))] := hD
  exact W.vret hx hb hr (fun t ht hW => ⟨⟨(fun _ => 0), rfl, trivial, by rw [ht]; exact hP, hD⟩, hS.F ht⟩) hS.2.2 dX5_init_43
theorem okz7 (s : Nat) : okI 7 s ((fun s => ([0, 0, 0, 0] : List Int32).getD s 0) s) := by
  show ok7 s _
  unfold ok7
  split <;> first | trivial | decide
theorem okz9 (s : Nat) : okI 9 s ((fun s => ([0, 0, 0, 0, (-1), 0, 0, 0] : List Int32).getD s 0) s) := by
  show ok9 s _
  unfold ok9
  split <;> first | trivial | decide
theorem okz10 (s : Nat) : okI 10 s ((fun s => ([0, 0, 0, 0, 0, 0, 0, 0, 0, 0, 0, 0] : List Int32).getD s 0) s) := by
  show ok10 s _
  unfold ok10
  split <;> first | trivial | decide
theorem okz5 (p1 p2 p3 p5 p6 p7 : Int32) (h : 0 ≤ p7.toInt ∧ p7.toInt ≤ 1) (s : Nat) : okI 5 s ((fun s => ([p1, p2, p3, 0, p5, p6, p7] : List Int32).getD s 0) s) := by
  show ok5 s _
  unfold ok5
  split
  · exact h
  · trivial
