abbrev PSt : Type := List Nat × (Nat → Nat) × (Nat → Nat → Int32) × (Nat → Nat → Int64) × (Nat → Nat → Option Nat)
def pF (k : Nat → ClassId) (u : PSt) (a : Nat) : va_E := match u.2.1 a with
  | 0 => .inr (0, [.int (u.2.2.1 a 0), .int (u.2.2.1 a 1), .int (u.2.2.1 a 2), va_rf (u.2.2.2.2 a 3), .int (u.2.2.1 a 4), .int (u.2.2.1 a 5), .int (u.2.2.1 a 6), va_rf (u.2.2.2.2 a 7)])
  | 1 => .inr (1, [.int (u.2.2.1 a 0), .int (u.2.2.1 a 1), va_rf (u.2.2.2.2 a 2), va_rf (u.2.2.2.2 a 3), va_rf (u.2.2.2.2 a 4)])
  | 2 => .inr (2, [va_rf (u.2.2.2.2 a 0), va_rf (u.2.2.2.2 a 1)])
  | 3 => .inr (3, [.int (u.2.2.1 a 0), .int (u.2.2.1 a 1), .int (u.2.2.1 a 2), .int (u.2.2.1 a 3), .int (u.2.2.1 a 4), .int (u.2.2.1 a 5), .int (u.2.2.1 a 6), va_rf (u.2.2.2.2 a 7), va_rf (u.2.2.2.2 a 8), va_rf (u.2.2.2.2 a 9), va_rf (u.2.2.2.2 a 10)])
  | 4 => .inr (4, [.int (u.2.2.1 a 0), .int (u.2.2.1 a 1), .int (u.2.2.1 a 2), va_rf (u.2.2.2.2 a 3), va_rf (u.2.2.2.2 a 4), va_rf (u.2.2.2.2 a 5), va_rf (u.2.2.2.2 a 6), va_rf (u.2.2.2.2 a 7), va_rf (u.2.2.2.2 a 8), va_rf (u.2.2.2.2 a 9), va_rf (u.2.2.2.2 a 10)])
  | 5 => .inr (5, [.int (u.2.2.1 a 0), .int (u.2.2.1 a 1), .int (u.2.2.1 a 2), va_rf (u.2.2.2.2 a 3), .int (u.2.2.1 a 4), .int (u.2.2.1 a 5), .int (u.2.2.1 a 6)])
  | 6 => .inr (6, [.int (u.2.2.1 a 0), .int (u.2.2.1 a 1), va_rf (u.2.2.2.2 a 2), va_rf (u.2.2.2.2 a 3), va_rf (u.2.2.2.2 a 4), va_rf (u.2.2.2.2 a 5)])
  | 7 => .inr (7, [.int (u.2.2.1 a 0), .int (u.2.2.1 a 1), .int (u.2.2.1 a 2), va_rf (u.2.2.2.2 a 3)])
  | 8 => .inr (8, [.long (u.2.2.2.1 a 0), .int (u.2.2.1 a 1), .long (u.2.2.2.1 a 2), .long (u.2.2.2.1 a 3), .int (u.2.2.1 a 4), .int (u.2.2.1 a 5)])
  | 9 => .inr (9, [va_rf (u.2.2.2.2 a 0), .int (u.2.2.1 a 1), .int (u.2.2.1 a 2), .int (u.2.2.1 a 3), .int (u.2.2.1 a 4), .int (u.2.2.1 a 5), .int (u.2.2.1 a 6), .int (u.2.2.1 a 7)])
  | 10 => .inr (10, [va_rf (u.2.2.2.2 a 0), va_rf (u.2.2.2.2 a 1), va_rf (u.2.2.2.2 a 2), .int (u.2.2.1 a 3), .int (u.2.2.1 a 4), .int (u.2.2.1 a 5), .int (u.2.2.1 a 6), .int (u.2.2.1 a 7), .int (u.2.2.1 a 8), va_rf (u.2.2.2.2 a 9), va_rf (u.2.2.2.2 a 10), va_rf (u.2.2.2.2 a 11)])
  | 11 => .inr (11, [va_rf (u.2.2.2.2 a 0), va_rf (u.2.2.2.2 a 1), va_rf (u.2.2.2.2 a 2), va_rf (u.2.2.2.2 a 3), va_rf (u.2.2.2.2 a 4), va_rf (u.2.2.2.2 a 5), va_rf (u.2.2.2.2 a 6), va_rf (u.2.2.2.2 a 7), va_rf (u.2.2.2.2 a 8), .int (u.2.2.1 a 9), .int (u.2.2.1 a 10)])
  | 12 => .inr (12, [.int (u.2.2.1 a 0), va_rf (u.2.2.2.2 a 1), va_rf (u.2.2.2.2 a 2), va_rf (u.2.2.2.2 a 3), va_rf (u.2.2.2.2 a 4), .int (u.2.2.1 a 5), va_rf (u.2.2.2.2 a 6), .int (u.2.2.1 a 7), .int (u.2.2.1 a 8), .int (u.2.2.1 a 9), .int (u.2.2.1 a 10), .int (u.2.2.1 a 11), .int (u.2.2.1 a 12), .int (u.2.2.1 a 13), va_rf (u.2.2.2.2 a 14), .int (u.2.2.1 a 15), .int (u.2.2.1 a 16), va_rf (u.2.2.2.2 a 17), va_rf (u.2.2.2.2 a 18), va_rf (u.2.2.2.2 a 19), va_rf (u.2.2.2.2 a 20), .int (u.2.2.1 a 21), va_rf (u.2.2.2.2 a 22), .int (u.2.2.1 a 23), va_rf (u.2.2.2.2 a 24), .int (u.2.2.1 a 25), va_rf (u.2.2.2.2 a 26), .int (u.2.2.1 a 27), .int (u.2.2.1 a 28), .int (u.2.2.1 a 29), va_rf (u.2.2.2.2 a 30), va_rf (u.2.2.2.2 a 31), va_rf (u.2.2.2.2 a 32), va_rf (u.2.2.2.2 a 33)])
  | 20 => .inl (k 0, 1600, .inl (u.2.2.1 a))
  | 21 => .inl (k 1, 60, .inl (u.2.2.1 a))
  | 22 => .inl (k 1, 7, .inl (u.2.2.1 a))
  | 23 => .inl (k 1, 61, .inl (u.2.2.1 a))
  | 24 => .inl (k 1, 1000, .inl (u.2.2.1 a))
  | 25 => .inl (k 1, 12, .inl (u.2.2.1 a))
  | 26 => .inl (k 1, 20, .inl (u.2.2.1 a))
  | 27 => .inl (k 1, 8, .inl (u.2.2.1 a))
  | 30 => .inl (k 2, 60, .inr (.inl (u.2.2.2.1 a)))
  | 31 => .inl (k 2, 17, .inr (.inl (u.2.2.2.1 a)))
  | 32 => .inl (k 2, 16, .inr (.inl (u.2.2.2.1 a)))
  | 40 => .inl (k 5, 3, .inr (.inr (.inr (.inr (u.2.2.2.2 a)))))
  | 41 => .inl (k 4, 4, .inr (.inr (.inr (.inr (u.2.2.2.2 a)))))
  | 42 => .inl (k 6, 12, .inr (.inr (.inr (.inr (u.2.2.2.2 a)))))
  | 50 => .inl (k 1, 2482, .inl (u.2.2.1 a))
  | 51 => .inl (k 1, 2482, .inl (u.2.2.1 a))
  | 52 => .inl (k 1, 7446, .inl (u.2.2.1 a))
  | 53 => .inl (k 3, 3, .inl (u.2.2.1 a))
  | 54 => .inl (k 0, 1600, .inl (u.2.2.1 a))
  | 55 => .inl (k 1, 5, .inl (u.2.2.1 a))
  | 56 => .inl (k 1, 8, .inl (u.2.2.1 a))
  | 57 => .inl (k 1, 2000, .inl (u.2.2.1 a))
  | 58 => .inl (k 1, 1000, .inl (u.2.2.1 a))
  | 59 => .inl (k 1, 17, .inl (u.2.2.1 a))
  | 60 => .inl (k 1, 4, .inl (u.2.2.1 a))
  | 61 => .inl (k 1, 4, .inl (u.2.2.1 a))
  | 62 => .inl (k 2, 240, .inr (.inl (u.2.2.2.1 a)))
  | 63 => .inl (k 2, 60, .inr (.inl (u.2.2.2.1 a)))
  | _ => .inr (2, [.null, .null])
abbrev PW (k : Nat → ClassId) (u : PSt) : va_W := va_pl u.1 (pF k u)
def pSI (u : PSt) (a s : Nat) (v : Int32) : PSt := (u.1, u.2.1, fun x t => if x = a ∧ t = s then v else u.2.2.1 x t, u.2.2.2.1, u.2.2.2.2)
def pSJ (u : PSt) (a s : Nat) (v : Int64) : PSt := (u.1, u.2.1, u.2.2.1, fun x t => if x = a ∧ t = s then v else u.2.2.2.1 x t, u.2.2.2.2)
def pSR (u : PSt) (a s : Nat) (v : Option Nat) : PSt := (u.1, u.2.1, u.2.2.1, u.2.2.2.1, fun x t => if x = a ∧ t = s then v else u.2.2.2.2 x t)
theorem cF0 {k : Nat → ClassId} {u : PSt} {a : Nat} (h : u.2.1 a = 0) : pF k u a = .inr (0, [.int (u.2.2.1 a 0), .int (u.2.2.1 a 1), .int (u.2.2.1 a 2), va_rf (u.2.2.2.2 a 3), .int (u.2.2.1 a 4), .int (u.2.2.1 a 5), .int (u.2.2.1 a 6), va_rf (u.2.2.2.2 a 7)]) := by simp only [pF, h]
theorem cF1 {k : Nat → ClassId} {u : PSt} {a : Nat} (h : u.2.1 a = 1) : pF k u a = .inr (1, [.int (u.2.2.1 a 0), .int (u.2.2.1 a 1), va_rf (u.2.2.2.2 a 2), va_rf (u.2.2.2.2 a 3), va_rf (u.2.2.2.2 a 4)]) := by simp only [pF, h]
theorem cF2 {k : Nat → ClassId} {u : PSt} {a : Nat} (h : u.2.1 a = 2) : pF k u a = .inr (2, [va_rf (u.2.2.2.2 a 0), va_rf (u.2.2.2.2 a 1)]) := by simp only [pF, h]
theorem cF3 {k : Nat → ClassId} {u : PSt} {a : Nat} (h : u.2.1 a = 3) : pF k u a = .inr (3, [.int (u.2.2.1 a 0), .int (u.2.2.1 a 1), .int (u.2.2.1 a 2), .int (u.2.2.1 a 3), .int (u.2.2.1 a 4), .int (u.2.2.1 a 5), .int (u.2.2.1 a 6), va_rf (u.2.2.2.2 a 7), va_rf (u.2.2.2.2 a 8), va_rf (u.2.2.2.2 a 9), va_rf (u.2.2.2.2 a 10)]) := by simp only [pF, h]
theorem cF4 {k : Nat → ClassId} {u : PSt} {a : Nat} (h : u.2.1 a = 4) : pF k u a = .inr (4, [.int (u.2.2.1 a 0), .int (u.2.2.1 a 1), .int (u.2.2.1 a 2), va_rf (u.2.2.2.2 a 3), va_rf (u.2.2.2.2 a 4), va_rf (u.2.2.2.2 a 5), va_rf (u.2.2.2.2 a 6), va_rf (u.2.2.2.2 a 7), va_rf (u.2.2.2.2 a 8), va_rf (u.2.2.2.2 a 9), va_rf (u.2.2.2.2 a 10)]) := by simp only [pF, h]
theorem cF5 {k : Nat → ClassId} {u : PSt} {a : Nat} (h : u.2.1 a = 5) : pF k u a = .inr (5, [.int (u.2.2.1 a 0), .int (u.2.2.1 a 1), .int (u.2.2.1 a 2), va_rf (u.2.2.2.2 a 3), .int (u.2.2.1 a 4), .int (u.2.2.1 a 5), .int (u.2.2.1 a 6)]) := by simp only [pF, h]
theorem cF6 {k : Nat → ClassId} {u : PSt} {a : Nat} (h : u.2.1 a = 6) : pF k u a = .inr (6, [.int (u.2.2.1 a 0), .int (u.2.2.1 a 1), va_rf (u.2.2.2.2 a 2), va_rf (u.2.2.2.2 a 3), va_rf (u.2.2.2.2 a 4), va_rf (u.2.2.2.2 a 5)]) := by simp only [pF, h]
theorem cF7 {k : Nat → ClassId} {u : PSt} {a : Nat} (h : u.2.1 a = 7) : pF k u a = .inr (7, [.int (u.2.2.1 a 0), .int (u.2.2.1 a 1), .int (u.2.2.1 a 2), va_rf (u.2.2.2.2 a 3)]) := by simp only [pF, h]
theorem cF8 {k : Nat → ClassId} {u : PSt} {a : Nat} (h : u.2.1 a = 8) : pF k u a = .inr (8, [.long (u.2.2.2.1 a 0), .int (u.2.2.1 a 1), .long (u.2.2.2.1 a 2), .long (u.2.2.2.1 a 3), .int (u.2.2.1 a 4), .int (u.2.2.1 a 5)]) := by simp only [pF, h]
theorem cF9 {k : Nat → ClassId} {u : PSt} {a : Nat} (h : u.2.1 a = 9) : pF k u a = .inr (9, [va_rf (u.2.2.2.2 a 0), .int (u.2.2.1 a 1), .int (u.2.2.1 a 2), .int (u.2.2.1 a 3), .int (u.2.2.1 a 4), .int (u.2.2.1 a 5), .int (u.2.2.1 a 6), .int (u.2.2.1 a 7)]) := by simp only [pF, h]
theorem cF10 {k : Nat → ClassId} {u : PSt} {a : Nat} (h : u.2.1 a = 10) : pF k u a = .inr (10, [va_rf (u.2.2.2.2 a 0), va_rf (u.2.2.2.2 a 1), va_rf (u.2.2.2.2 a 2), .int (u.2.2.1 a 3), .int (u.2.2.1 a 4), .int (u.2.2.1 a 5), .int (u.2.2.1 a 6), .int (u.2.2.1 a 7), .int (u.2.2.1 a 8), va_rf (u.2.2.2.2 a 9), va_rf (u.2.2.2.2 a 10), va_rf (u.2.2.2.2 a 11)]) := by simp only [pF, h]
theorem cF11 {k : Nat → ClassId} {u : PSt} {a : Nat} (h : u.2.1 a = 11) : pF k u a = .inr (11, [va_rf (u.2.2.2.2 a 0), va_rf (u.2.2.2.2 a 1), va_rf (u.2.2.2.2 a 2), va_rf (u.2.2.2.2 a 3), va_rf (u.2.2.2.2 a 4), va_rf (u.2.2.2.2 a 5), va_rf (u.2.2.2.2 a 6), va_rf (u.2.2.2.2 a 7), va_rf (u.2.2.2.2 a 8), .int (u.2.2.1 a 9), .int (u.2.2.1 a 10)]) := by simp only [pF, h]
theorem cF12 {k : Nat → ClassId} {u : PSt} {a : Nat} (h : u.2.1 a = 12) : pF k u a = .inr (12, [.int (u.2.2.1 a 0), va_rf (u.2.2.2.2 a 1), va_rf (u.2.2.2.2 a 2), va_rf (u.2.2.2.2 a 3), va_rf (u.2.2.2.2 a 4), .int (u.2.2.1 a 5), va_rf (u.2.2.2.2 a 6), .int (u.2.2.1 a 7), .int (u.2.2.1 a 8), .int (u.2.2.1 a 9), .int (u.2.2.1 a 10), .int (u.2.2.1 a 11), .int (u.2.2.1 a 12), .int (u.2.2.1 a 13), va_rf (u.2.2.2.2 a 14), .int (u.2.2.1 a 15), .int (u.2.2.1 a 16), va_rf (u.2.2.2.2 a 17), va_rf (u.2.2.2.2 a 18), va_rf (u.2.2.2.2 a 19), va_rf (u.2.2.2.2 a 20), .int (u.2.2.1 a 21), va_rf (u.2.2.2.2 a 22), .int (u.2.2.1 a 23), va_rf (u.2.2.2.2 a 24), .int (u.2.2.1 a 25), va_rf (u.2.2.2.2 a 26), .int (u.2.2.1 a 27), .int (u.2.2.1 a 28), .int (u.2.2.1 a 29), va_rf (u.2.2.2.2 a 30), va_rf (u.2.2.2.2 a 31), va_rf (u.2.2.2.2 a 32), va_rf (u.2.2.2.2 a 33)]) := by simp only [pF, h]
theorem cF20 {k : Nat → ClassId} {u : PSt} {a : Nat} (h : u.2.1 a = 20) : pF k u a = .inl (k 0, 1600, .inl (u.2.2.1 a)) := by simp only [pF, h]
theorem cF21 {k : Nat → ClassId} {u : PSt} {a : Nat} (h : u.2.1 a = 21) : pF k u a = .inl (k 1, 60, .inl (u.2.2.1 a)) := by simp only [pF, h]
theorem cF22 {k : Nat → ClassId} {u : PSt} {a : Nat} (h : u.2.1 a = 22) : pF k u a = .inl (k 1, 7, .inl (u.2.2.1 a)) := by simp only [pF, h]
theorem cF23 {k : Nat → ClassId} {u : PSt} {a : Nat} (h : u.2.1 a = 23) : pF k u a = .inl (k 1, 61, .inl (u.2.2.1 a)) := by simp only [pF, h]
theorem cF24 {k : Nat → ClassId} {u : PSt} {a : Nat} (h : u.2.1 a = 24) : pF k u a = .inl (k 1, 1000, .inl (u.2.2.1 a)) := by simp only [pF, h]
theorem cF25 {k : Nat → ClassId} {u : PSt} {a : Nat} (h : u.2.1 a = 25) : pF k u a = .inl (k 1, 12, .inl (u.2.2.1 a)) := by simp only [pF, h]
theorem cF26 {k : Nat → ClassId} {u : PSt} {a : Nat} (h : u.2.1 a = 26) : pF k u a = .inl (k 1, 20, .inl (u.2.2.1 a)) := by simp only [pF, h]
theorem cF27 {k : Nat → ClassId} {u : PSt} {a : Nat} (h : u.2.1 a = 27) : pF k u a = .inl (k 1, 8, .inl (u.2.2.1 a)) := by simp only [pF, h]
theorem cF30 {k : Nat → ClassId} {u : PSt} {a : Nat} (h : u.2.1 a = 30) : pF k u a = .inl (k 2, 60, .inr (.inl (u.2.2.2.1 a))) := by simp only [pF, h]
theorem cF31 {k : Nat → ClassId} {u : PSt} {a : Nat} (h : u.2.1 a = 31) : pF k u a = .inl (k 2, 17, .inr (.inl (u.2.2.2.1 a))) := by simp only [pF, h]
theorem cF32 {k : Nat → ClassId} {u : PSt} {a : Nat} (h : u.2.1 a = 32) : pF k u a = .inl (k 2, 16, .inr (.inl (u.2.2.2.1 a))) := by simp only [pF, h]
theorem cF40 {k : Nat → ClassId} {u : PSt} {a : Nat} (h : u.2.1 a = 40) : pF k u a = .inl (k 5, 3, .inr (.inr (.inr (.inr (u.2.2.2.2 a))))) := by simp only [pF, h]
theorem cF41 {k : Nat → ClassId} {u : PSt} {a : Nat} (h : u.2.1 a = 41) : pF k u a = .inl (k 4, 4, .inr (.inr (.inr (.inr (u.2.2.2.2 a))))) := by simp only [pF, h]
theorem cF42 {k : Nat → ClassId} {u : PSt} {a : Nat} (h : u.2.1 a = 42) : pF k u a = .inl (k 6, 12, .inr (.inr (.inr (.inr (u.2.2.2.2 a))))) := by simp only [pF, h]
theorem cF50 {k : Nat → ClassId} {u : PSt} {a : Nat} (h : u.2.1 a = 50) : pF k u a = .inl (k 1, 2482, .inl (u.2.2.1 a)) := by simp only [pF, h]
theorem cF51 {k : Nat → ClassId} {u : PSt} {a : Nat} (h : u.2.1 a = 51) : pF k u a = .inl (k 1, 2482, .inl (u.2.2.1 a)) := by simp only [pF, h]
theorem cF52 {k : Nat → ClassId} {u : PSt} {a : Nat} (h : u.2.1 a = 52) : pF k u a = .inl (k 1, 7446, .inl (u.2.2.1 a)) := by simp only [pF, h]
theorem cF53 {k : Nat → ClassId} {u : PSt} {a : Nat} (h : u.2.1 a = 53) : pF k u a = .inl (k 3, 3, .inl (u.2.2.1 a)) := by simp only [pF, h]
theorem cF54 {k : Nat → ClassId} {u : PSt} {a : Nat} (h : u.2.1 a = 54) : pF k u a = .inl (k 0, 1600, .inl (u.2.2.1 a)) := by simp only [pF, h]
theorem cF55 {k : Nat → ClassId} {u : PSt} {a : Nat} (h : u.2.1 a = 55) : pF k u a = .inl (k 1, 5, .inl (u.2.2.1 a)) := by simp only [pF, h]
theorem cF56 {k : Nat → ClassId} {u : PSt} {a : Nat} (h : u.2.1 a = 56) : pF k u a = .inl (k 1, 8, .inl (u.2.2.1 a)) := by simp only [pF, h]
theorem cF57 {k : Nat → ClassId} {u : PSt} {a : Nat} (h : u.2.1 a = 57) : pF k u a = .inl (k 1, 2000, .inl (u.2.2.1 a)) := by simp only [pF, h]
theorem cF58 {k : Nat → ClassId} {u : PSt} {a : Nat} (h : u.2.1 a = 58) : pF k u a = .inl (k 1, 1000, .inl (u.2.2.1 a)) := by simp only [pF, h]
theorem cF59 {k : Nat → ClassId} {u : PSt} {a : Nat} (h : u.2.1 a = 59) : pF k u a = .inl (k 1, 17, .inl (u.2.2.1 a)) := by simp only [pF, h]
theorem cF60 {k : Nat → ClassId} {u : PSt} {a : Nat} (h : u.2.1 a = 60) : pF k u a = .inl (k 1, 4, .inl (u.2.2.1 a)) := by simp only [pF, h]
theorem cF61 {k : Nat → ClassId} {u : PSt} {a : Nat} (h : u.2.1 a = 61) : pF k u a = .inl (k 1, 4, .inl (u.2.2.1 a)) := by simp only [pF, h]
theorem cF62 {k : Nat → ClassId} {u : PSt} {a : Nat} (h : u.2.1 a = 62) : pF k u a = .inl (k 2, 240, .inr (.inl (u.2.2.2.1 a))) := by simp only [pF, h]
theorem cF63 {k : Nat → ClassId} {u : PSt} {a : Nat} (h : u.2.1 a = 63) : pF k u a = .inl (k 2, 60, .inr (.inl (u.2.2.2.1 a))) := by simp only [pF, h]
theorem sF0_0 {k : Nat → ClassId} {u : PSt} {a : Nat} (h : u.2.1 a = 0) (v : Int32) (x : Nat) : va_up (pF k u) a (.inr (0, [.int v, .int (u.2.2.1 a 1), .int (u.2.2.1 a 2), va_rf (u.2.2.2.2 a 3), .int (u.2.2.1 a 4), .int (u.2.2.1 a 5), .int (u.2.2.1 a 6), va_rf (u.2.2.2.2 a 7)])) x = pF k (pSI u a 0 v) x := by
  by_cases hx : x = a
  · subst hx; simp [va_up, pF, pSI, h]
  · simp [va_up, pF, pSI, hx]
theorem sF0_1 {k : Nat → ClassId} {u : PSt} {a : Nat} (h : u.2.1 a = 0) (v : Int32) (x : Nat) : va_up (pF k u) a (.inr (0, [.int (u.2.2.1 a 0), .int v, .int (u.2.2.1 a 2), va_rf (u.2.2.2.2 a 3), .int (u.2.2.1 a 4), .int (u.2.2.1 a 5), .int (u.2.2.1 a 6), va_rf (u.2.2.2.2 a 7)])) x = pF k (pSI u a 1 v) x := by
  by_cases hx : x = a
  · subst hx; simp [va_up, pF, pSI, h]
  · simp [va_up, pF, pSI, hx]
theorem sF0_2 {k : Nat → ClassId} {u : PSt} {a : Nat} (h : u.2.1 a = 0) (v : Int32) (x : Nat) : va_up (pF k u) a (.inr (0, [.int (u.2.2.1 a 0), .int (u.2.2.1 a 1), .int v, va_rf (u.2.2.2.2 a 3), .int (u.2.2.1 a 4), .int (u.2.2.1 a 5), .int (u.2.2.1 a 6), va_rf (u.2.2.2.2 a 7)])) x = pF k (pSI u a 2 v) x := by
  by_cases hx : x = a
  · subst hx; simp [va_up, pF, pSI, h]
  · simp [va_up, pF, pSI, hx]
theorem sF0_3 {k : Nat → ClassId} {u : PSt} {a : Nat} (h : u.2.1 a = 0) (v : Option Nat) (x : Nat) : va_up (pF k u) a (.inr (0, [.int (u.2.2.1 a 0), .int (u.2.2.1 a 1), .int (u.2.2.1 a 2), va_rf v, .int (u.2.2.1 a 4), .int (u.2.2.1 a 5), .int (u.2.2.1 a 6), va_rf (u.2.2.2.2 a 7)])) x = pF k (pSR u a 3 v) x := by
  by_cases hx : x = a
  · subst hx; simp [va_up, pF, pSR, h]
  · simp [va_up, pF, pSR, hx]
theorem sF0_4 {k : Nat → ClassId} {u : PSt} {a : Nat} (h : u.2.1 a = 0) (v : Int32) (x : Nat) : va_up (pF k u) a (.inr (0, [.int (u.2.2.1 a 0), .int (u.2.2.1 a 1), .int (u.2.2.1 a 2), va_rf (u.2.2.2.2 a 3), .int v, .int (u.2.2.1 a 5), .int (u.2.2.1 a 6), va_rf (u.2.2.2.2 a 7)])) x = pF k (pSI u a 4 v) x := by
  by_cases hx : x = a
  · subst hx; simp [va_up, pF, pSI, h]
  · simp [va_up, pF, pSI, hx]
theorem sF0_5 {k : Nat → ClassId} {u : PSt} {a : Nat} (h : u.2.1 a = 0) (v : Int32) (x : Nat) : va_up (pF k u) a (.inr (0, [.int (u.2.2.1 a 0), .int (u.2.2.1 a 1), .int (u.2.2.1 a 2), va_rf (u.2.2.2.2 a 3), .int (u.2.2.1 a 4), .int v, .int (u.2.2.1 a 6), va_rf (u.2.2.2.2 a 7)])) x = pF k (pSI u a 5 v) x := by
  by_cases hx : x = a
  · subst hx; simp [va_up, pF, pSI, h]
  · simp [va_up, pF, pSI, hx]
theorem sF0_6 {k : Nat → ClassId} {u : PSt} {a : Nat} (h : u.2.1 a = 0) (v : Int32) (x : Nat) : va_up (pF k u) a (.inr (0, [.int (u.2.2.1 a 0), .int (u.2.2.1 a 1), .int (u.2.2.1 a 2), va_rf (u.2.2.2.2 a 3), .int (u.2.2.1 a 4), .int (u.2.2.1 a 5), .int v, va_rf (u.2.2.2.2 a 7)])) x = pF k (pSI u a 6 v) x := by
  by_cases hx : x = a
  · subst hx; simp [va_up, pF, pSI, h]
  · simp [va_up, pF, pSI, hx]
theorem sF1_0 {k : Nat → ClassId} {u : PSt} {a : Nat} (h : u.2.1 a = 1) (v : Int32) (x : Nat) : va_up (pF k u) a (.inr (1, [.int v, .int (u.2.2.1 a 1), va_rf (u.2.2.2.2 a 2), va_rf (u.2.2.2.2 a 3), va_rf (u.2.2.2.2 a 4)])) x = pF k (pSI u a 0 v) x := by
  by_cases hx : x = a
  · subst hx; simp [va_up, pF, pSI, h]
  · simp [va_up, pF, pSI, hx]
theorem sF1_1 {k : Nat → ClassId} {u : PSt} {a : Nat} (h : u.2.1 a = 1) (v : Int32) (x : Nat) : va_up (pF k u) a (.inr (1, [.int (u.2.2.1 a 0), .int v, va_rf (u.2.2.2.2 a 2), va_rf (u.2.2.2.2 a 3), va_rf (u.2.2.2.2 a 4)])) x = pF k (pSI u a 1 v) x := by
  by_cases hx : x = a
  · subst hx; simp [va_up, pF, pSI, h]
  · simp [va_up, pF, pSI, hx]
theorem sF3_0 {k : Nat → ClassId} {u : PSt} {a : Nat} (h : u.2.1 a = 3) (v : Int32) (x : Nat) : va_up (pF k u) a (.inr (3, [.int v, .int (u.2.2.1 a 1), .int (u.2.2.1 a 2), .int (u.2.2.1 a 3), .int (u.2.2.1 a 4), .int (u.2.2.1 a 5), .int (u.2.2.1 a 6), va_rf (u.2.2.2.2 a 7), va_rf (u.2.2.2.2 a 8), va_rf (u.2.2.2.2 a 9), va_rf (u.2.2.2.2 a 10)])) x = pF k (pSI u a 0 v) x := by
  by_cases hx : x = a
  · subst hx; simp [va_up, pF, pSI, h]
  · simp [va_up, pF, pSI, hx]
theorem sF3_1 {k : Nat → ClassId} {u : PSt} {a : Nat} (h : u.2.1 a = 3) (v : Int32) (x : Nat) : va_up (pF k u) a (.inr (3, [.int (u.2.2.1 a 0), .int v, .int (u.2.2.1 a 2), .int (u.2.2.1 a 3), .int (u.2.2.1 a 4), .int (u.2.2.1 a 5), .int (u.2.2.1 a 6), va_rf (u.2.2.2.2 a 7), va_rf (u.2.2.2.2 a 8), va_rf (u.2.2.2.2 a 9), va_rf (u.2.2.2.2 a 10)])) x = pF k (pSI u a 1 v) x := by
  by_cases hx : x = a
  · subst hx; simp [va_up, pF, pSI, h]
  · simp [va_up, pF, pSI, hx]
theorem sF3_2 {k : Nat → ClassId} {u : PSt} {a : Nat} (h : u.2.1 a = 3) (v : Int32) (x : Nat) : va_up (pF k u) a (.inr (3, [.int (u.2.2.1 a 0), .int (u.2.2.1 a 1), .int v, .int (u.2.2.1 a 3), .int (u.2.2.1 a 4), .int (u.2.2.1 a 5), .int (u.2.2.1 a 6), va_rf (u.2.2.2.2 a 7), va_rf (u.2.2.2.2 a 8), va_rf (u.2.2.2.2 a 9), va_rf (u.2.2.2.2 a 10)])) x = pF k (pSI u a 2 v) x := by
  by_cases hx : x = a
  · subst hx; simp [va_up, pF, pSI, h]
  · simp [va_up, pF, pSI, hx]
theorem sF3_3 {k : Nat → ClassId} {u : PSt} {a : Nat} (h : u.2.1 a = 3) (v : Int32) (x : Nat) : va_up (pF k u) a (.inr (3, [.int (u.2.2.1 a 0), .int (u.2.2.1 a 1), .int (u.2.2.1 a 2), .int v, .int (u.2.2.1 a 4), .int (u.2.2.1 a 5), .int (u.2.2.1 a 6), va_rf (u.2.2.2.2 a 7), va_rf (u.2.2.2.2 a 8), va_rf (u.2.2.2.2 a 9), va_rf (u.2.2.2.2 a 10)])) x = pF k (pSI u a 3 v) x := by
  by_cases hx : x = a
  · subst hx; simp [va_up, pF, pSI, h]
  · simp [va_up, pF, pSI, hx]
theorem sF3_4 {k : Nat → ClassId} {u : PSt} {a : Nat} (h : u.2.1 a = 3) (v : Int32) (x : Nat) : va_up (pF k u) a (.inr (3, [.int (u.2.2.1 a 0), .int (u.2.2.1 a 1), .int (u.2.2.1 a 2), .int (u.2.2.1 a 3), .int v, .int (u.2.2.1 a 5), .int (u.2.2.1 a 6), va_rf (u.2.2.2.2 a 7), va_rf (u.2.2.2.2 a 8), va_rf (u.2.2.2.2 a 9), va_rf (u.2.2.2.2 a 10)])) x = pF k (pSI u a 4 v) x := by
  by_cases hx : x = a
  · subst hx; simp [va_up, pF, pSI, h]
  · simp [va_up, pF, pSI, hx]
theorem sF3_5 {k : Nat → ClassId} {u : PSt} {a : Nat} (h : u.2.1 a = 3) (v : Int32) (x : Nat) : va_up (pF k u) a (.inr (3, [.int (u.2.2.1 a 0), .int (u.2.2.1 a 1), .int (u.2.2.1 a 2), .int (u.2.2.1 a 3), .int (u.2.2.1 a 4), .int v, .int (u.2.2.1 a 6), va_rf (u.2.2.2.2 a 7), va_rf (u.2.2.2.2 a 8), va_rf (u.2.2.2.2 a 9), va_rf (u.2.2.2.2 a 10)])) x = pF k (pSI u a 5 v) x := by
  by_cases hx : x = a
  · subst hx; simp [va_up, pF, pSI, h]
  · simp [va_up, pF, pSI, hx]
theorem sF3_6 {k : Nat → ClassId} {u : PSt} {a : Nat} (h : u.2.1 a = 3) (v : Int32) (x : Nat) : va_up (pF k u) a (.inr (3, [.int (u.2.2.1 a 0), .int (u.2.2.1 a 1), .int (u.2.2.1 a 2), .int (u.2.2.1 a 3), .int (u.2.2.1 a 4), .int (u.2.2.1 a 5), .int v, va_rf (u.2.2.2.2 a 7), va_rf (u.2.2.2.2 a 8), va_rf (u.2.2.2.2 a 9), va_rf (u.2.2.2.2 a 10)])) x = pF k (pSI u a 6 v) x := by
  by_cases hx : x = a
  · subst hx; simp [va_up, pF, pSI, h]
  · simp [va_up, pF, pSI, hx]
theorem sF4_0 {k : Nat → ClassId} {u : PSt} {a : Nat} (h : u.2.1 a = 4) (v : Int32) (x : Nat) : va_up (pF k u) a (.inr (4, [.int v, .int (u.2.2.1 a 1), .int (u.2.2.1 a 2), va_rf (u.2.2.2.2 a 3), va_rf (u.2.2.2.2 a 4), va_rf (u.2.2.2.2 a 5), va_rf (u.2.2.2.2 a 6), va_rf (u.2.2.2.2 a 7), va_rf (u.2.2.2.2 a 8), va_rf (u.2.2.2.2 a 9), va_rf (u.2.2.2.2 a 10)])) x = pF k (pSI u a 0 v) x := by
  by_cases hx : x = a
  · subst hx; simp [va_up, pF, pSI, h]
  · simp [va_up, pF, pSI, hx]
theorem sF4_1 {k : Nat → ClassId} {u : PSt} {a : Nat} (h : u.2.1 a = 4) (v : Int32) (x : Nat) : va_up (pF k u) a (.inr (4, [.int (u.2.2.1 a 0), .int v, .int (u.2.2.1 a 2), va_rf (u.2.2.2.2 a 3), va_rf (u.2.2.2.2 a 4), va_rf (u.2.2.2.2 a 5), va_rf (u.2.2.2.2 a 6), va_rf (u.2.2.2.2 a 7), va_rf (u.2.2.2.2 a 8), va_rf (u.2.2.2.2 a 9), va_rf (u.2.2.2.2 a 10)])) x = pF k (pSI u a 1 v) x := by
  by_cases hx : x = a
  · subst hx; simp [va_up, pF, pSI, h]
  · simp [va_up, pF, pSI, hx]
theorem sF4_2 {k : Nat → ClassId} {u : PSt} {a : Nat} (h : u.2.1 a = 4) (v : Int32) (x : Nat) : va_up (pF k u) a (.inr (4, [.int (u.2.2.1 a 0), .int (u.2.2.1 a 1), .int v, va_rf (u.2.2.2.2 a 3), va_rf (u.2.2.2.2 a 4), va_rf (u.2.2.2.2 a 5), va_rf (u.2.2.2.2 a 6), va_rf (u.2.2.2.2 a 7), va_rf (u.2.2.2.2 a 8), va_rf (u.2.2.2.2 a 9), va_rf (u.2.2.2.2 a 10)])) x = pF k (pSI u a 2 v) x := by
  by_cases hx : x = a
  · subst hx; simp [va_up, pF, pSI, h]
  · simp [va_up, pF, pSI, hx]
theorem sF6_0 {k : Nat → ClassId} {u : PSt} {a : Nat} (h : u.2.1 a = 6) (v : Int32) (x : Nat) : va_up (pF k u) a (.inr (6, [.int v, .int (u.2.2.1 a 1), va_rf (u.2.2.2.2 a 2), va_rf (u.2.2.2.2 a 3), va_rf (u.2.2.2.2 a 4), va_rf (u.2.2.2.2 a 5)])) x = pF k (pSI u a 0 v) x := by
  by_cases hx : x = a
  · subst hx; simp [va_up, pF, pSI, h]
  · simp [va_up, pF, pSI, hx]
theorem sF6_1 {k : Nat → ClassId} {u : PSt} {a : Nat} (h : u.2.1 a = 6) (v : Int32) (x : Nat) : va_up (pF k u) a (.inr (6, [.int (u.2.2.1 a 0), .int v, va_rf (u.2.2.2.2 a 2), va_rf (u.2.2.2.2 a 3), va_rf (u.2.2.2.2 a 4), va_rf (u.2.2.2.2 a 5)])) x = pF k (pSI u a 1 v) x := by
  by_cases hx : x = a
  · subst hx; simp [va_up, pF, pSI, h]
  · simp [va_up, pF, pSI, hx]
theorem sF7_0 {k : Nat → ClassId} {u : PSt} {a : Nat} (h : u.2.1 a = 7) (v : Int32) (x : Nat) : va_up (pF k u) a (.inr (7, [.int v, .int (u.2.2.1 a 1), .int (u.2.2.1 a 2), va_rf (u.2.2.2.2 a 3)])) x = pF k (pSI u a 0 v) x := by
  by_cases hx : x = a
  · subst hx; simp [va_up, pF, pSI, h]
  · simp [va_up, pF, pSI, hx]
theorem sF7_1 {k : Nat → ClassId} {u : PSt} {a : Nat} (h : u.2.1 a = 7) (v : Int32) (x : Nat) : va_up (pF k u) a (.inr (7, [.int (u.2.2.1 a 0), .int v, .int (u.2.2.1 a 2), va_rf (u.2.2.2.2 a 3)])) x = pF k (pSI u a 1 v) x := by
  by_cases hx : x = a
  · subst hx; simp [va_up, pF, pSI, h]
  · simp [va_up, pF, pSI, hx]
theorem sF7_2 {k : Nat → ClassId} {u : PSt} {a : Nat} (h : u.2.1 a = 7) (v : Int32) (x : Nat) : va_up (pF k u) a (.inr (7, [.int (u.2.2.1 a 0), .int (u.2.2.1 a 1), .int v, va_rf (u.2.2.2.2 a 3)])) x = pF k (pSI u a 2 v) x := by
  by_cases hx : x = a
  · subst hx; simp [va_up, pF, pSI, h]
  · simp [va_up, pF, pSI, hx]
theorem sF8_0 {k : Nat → ClassId} {u : PSt} {a : Nat} (h : u.2.1 a = 8) (v : Int64) (x : Nat) : va_up (pF k u) a (.inr (8, [.long v, .int (u.2.2.1 a 1), .long (u.2.2.2.1 a 2), .long (u.2.2.2.1 a 3), .int (u.2.2.1 a 4), .int (u.2.2.1 a 5)])) x = pF k (pSJ u a 0 v) x := by
  by_cases hx : x = a
  · subst hx; simp [va_up, pF, pSJ, h]
  · simp [va_up, pF, pSJ, hx]
theorem sF8_1 {k : Nat → ClassId} {u : PSt} {a : Nat} (h : u.2.1 a = 8) (v : Int32) (x : Nat) : va_up (pF k u) a (.inr (8, [.long (u.2.2.2.1 a 0), .int v, .long (u.2.2.2.1 a 2), .long (u.2.2.2.1 a 3), .int (u.2.2.1 a 4), .int (u.2.2.1 a 5)])) x = pF k (pSI u a 1 v) x := by
  by_cases hx : x = a
  · subst hx; simp [va_up, pF, pSI, h]
  · simp [va_up, pF, pSI, hx]
theorem sF8_2 {k : Nat → ClassId} {u : PSt} {a : Nat} (h : u.2.1 a = 8) (v : Int64) (x : Nat) : va_up (pF k u) a (.inr (8, [.long (u.2.2.2.1 a 0), .int (u.2.2.1 a 1), .long v, .long (u.2.2.2.1 a 3), .int (u.2.2.1 a 4), .int (u.2.2.1 a 5)])) x = pF k (pSJ u a 2 v) x := by
  by_cases hx : x = a
  · subst hx; simp [va_up, pF, pSJ, h]
  · simp [va_up, pF, pSJ, hx]
theorem sF8_3 {k : Nat → ClassId} {u : PSt} {a : Nat} (h : u.2.1 a = 8) (v : Int64) (x : Nat) : va_up (pF k u) a (.inr (8, [.long (u.2.2.2.1 a 0), .int (u.2.2.1 a 1), .long (u.2.2.2.1 a 2), .long v, .int (u.2.2.1 a 4), .int (u.2.2.1 a 5)])) x = pF k (pSJ u a 3 v) x := by
  by_cases hx : x = a
  · subst hx; simp [va_up, pF, pSJ, h]
  · simp [va_up, pF, pSJ, hx]
theorem sF8_4 {k : Nat → ClassId} {u : PSt} {a : Nat} (h : u.2.1 a = 8) (v : Int32) (x : Nat) : va_up (pF k u) a (.inr (8, [.long (u.2.2.2.1 a 0), .int (u.2.2.1 a 1), .long (u.2.2.2.1 a 2), .long (u.2.2.2.1 a 3), .int v, .int (u.2.2.1 a 5)])) x = pF k (pSI u a 4 v) x := by
  by_cases hx : x = a
  · subst hx; simp [va_up, pF, pSI, h]
  · simp [va_up, pF, pSI, hx]
theorem sF8_5 {k : Nat → ClassId} {u : PSt} {a : Nat} (h : u.2.1 a = 8) (v : Int32) (x : Nat) : va_up (pF k u) a (.inr (8, [.long (u.2.2.2.1 a 0), .int (u.2.2.1 a 1), .long (u.2.2.2.1 a 2), .long (u.2.2.2.1 a 3), .int (u.2.2.1 a 4), .int v])) x = pF k (pSI u a 5 v) x := by
  by_cases hx : x = a
  · subst hx; simp [va_up, pF, pSI, h]
  · simp [va_up, pF, pSI, hx]
theorem sF9_1 {k : Nat → ClassId} {u : PSt} {a : Nat} (h : u.2.1 a = 9) (v : Int32) (x : Nat) : va_up (pF k u) a (.inr (9, [va_rf (u.2.2.2.2 a 0), .int v, .int (u.2.2.1 a 2), .int (u.2.2.1 a 3), .int (u.2.2.1 a 4), .int (u.2.2.1 a 5), .int (u.2.2.1 a 6), .int (u.2.2.1 a 7)])) x = pF k (pSI u a 1 v) x := by
  by_cases hx : x = a
  · subst hx; simp [va_up, pF, pSI, h]
  · simp [va_up, pF, pSI, hx]
theorem sF9_2 {k : Nat → ClassId} {u : PSt} {a : Nat} (h : u.2.1 a = 9) (v : Int32) (x : Nat) : va_up (pF k u) a (.inr (9, [va_rf (u.2.2.2.2 a 0), .int (u.2.2.1 a 1), .int v, .int (u.2.2.1 a 3), .int (u.2.2.1 a 4), .int (u.2.2.1 a 5), .int (u.2.2.1 a 6), .int (u.2.2.1 a 7)])) x = pF k (pSI u a 2 v) x := by
  by_cases hx : x = a
  · subst hx; simp [va_up, pF, pSI, h]
  · simp [va_up, pF, pSI, hx]
theorem sF9_3 {k : Nat → ClassId} {u : PSt} {a : Nat} (h : u.2.1 a = 9) (v : Int32) (x : Nat) : va_up (pF k u) a (.inr (9, [va_rf (u.2.2.2.2 a 0), .int (u.2.2.1 a 1), .int (u.2.2.1 a 2), .int v, .int (u.2.2.1 a 4), .int (u.2.2.1 a 5), .int (u.2.2.1 a 6), .int (u.2.2.1 a 7)])) x = pF k (pSI u a 3 v) x := by
  by_cases hx : x = a
  · subst hx; simp [va_up, pF, pSI, h]
  · simp [va_up, pF, pSI, hx]
theorem sF9_4 {k : Nat → ClassId} {u : PSt} {a : Nat} (h : u.2.1 a = 9) (v : Int32) (x : Nat) : va_up (pF k u) a (.inr (9, [va_rf (u.2.2.2.2 a 0), .int (u.2.2.1 a 1), .int (u.2.2.1 a 2), .int (u.2.2.1 a 3), .int v, .int (u.2.2.1 a 5), .int (u.2.2.1 a 6), .int (u.2.2.1 a 7)])) x = pF k (pSI u a 4 v) x := by
  by_cases hx : x = a
  · subst hx; simp [va_up, pF, pSI, h]
  · simp [va_up, pF, pSI, hx]
theorem sF9_5 {k : Nat → ClassId} {u : PSt} {a : Nat} (h : u.2.1 a = 9) (v : Int32) (x : Nat) : va_up (pF k u) a (.inr (9, [va_rf (u.2.2.2.2 a 0), .int (u.2.2.1 a 1), .int (u.2.2.1 a 2), .int (u.2.2.1 a 3), .int (u.2.2.1 a 4), .int v, .int (u.2.2.1 a 6), .int (u.2.2.1 a 7)])) x = pF k (pSI u a 5 v) x := by
  by_cases hx : x = a
  · subst hx; simp [va_up, pF, pSI, h]
  · simp [va_up, pF, pSI, hx]
theorem sF9_6 {k : Nat → ClassId} {u : PSt} {a : Nat} (h : u.2.1 a = 9) (v : Int32) (x : Nat) : va_up (pF k u) a (.inr (9, [va_rf (u.2.2.2.2 a 0), .int (u.2.2.1 a 1), .int (u.2.2.1 a 2), .int (u.2.2.1 a 3), .int (u.2.2.1 a 4), .int (u.2.2.1 a 5), .int v, .int (u.2.2.1 a 7)])) x = pF k (pSI u a 6 v) x := by
  by_cases hx : x = a
  · subst hx; simp [va_up, pF, pSI, h]
  · simp [va_up, pF, pSI, hx]
theorem sF9_7 {k : Nat → ClassId} {u : PSt} {a : Nat} (h : u.2.1 a = 9) (v : Int32) (x : Nat) : va_up (pF k u) a (.inr (9, [va_rf (u.2.2.2.2 a 0), .int (u.2.2.1 a 1), .int (u.2.2.1 a 2), .int (u.2.2.1 a 3), .int (u.2.2.1 a 4), .int (u.2.2.1 a 5), .int (u.2.2.1 a 6), .int v])) x = pF k (pSI u a 7 v) x := by
  by_cases hx : x = a
  · subst hx; simp [va_up, pF, pSI, h]
  · simp [va_up, pF, pSI, hx]
theorem sF10_3 {k : Nat → ClassId} {u : PSt} {a : Nat} (h : u.2.1 a = 10) (v : Int32) (x : Nat) : va_up (pF k u) a (.inr (10, [va_rf (u.2.2.2.2 a 0), va_rf (u.2.2.2.2 a 1), va_rf (u.2.2.2.2 a 2), .int v, .int (u.2.2.1 a 4), .int (u.2.2.1 a 5), .int (u.2.2.1 a 6), .int (u.2.2.1 a 7), .int (u.2.2.1 a 8), va_rf (u.2.2.2.2 a 9), va_rf (u.2.2.2.2 a 10), va_rf (u.2.2.2.2 a 11)])) x = pF k (pSI u a 3 v) x := by
  by_cases hx : x = a
  · subst hx; simp [va_up, pF, pSI, h]
  · simp [va_up, pF, pSI, hx]
theorem sF10_4 {k : Nat → ClassId} {u : PSt} {a : Nat} (h : u.2.1 a = 10) (v : Int32) (x : Nat) : va_up (pF k u) a (.inr (10, [va_rf (u.2.2.2.2 a 0), va_rf (u.2.2.2.2 a 1), va_rf (u.2.2.2.2 a 2), .int (u.2.2.1 a 3), .int v, .int (u.2.2.1 a 5), .int (u.2.2.1 a 6), .int (u.2.2.1 a 7), .int (u.2.2.1 a 8), va_rf (u.2.2.2.2 a 9), va_rf (u.2.2.2.2 a 10), va_rf (u.2.2.2.2 a 11)])) x = pF k (pSI u a 4 v) x := by
  by_cases hx : x = a
  · subst hx; simp [va_up, pF, pSI, h]
  · simp [va_up, pF, pSI, hx]
theorem sF10_5 {k : Nat → ClassId} {u : PSt} {a : Nat} (h : u.2.1 a = 10) (v : Int32) (x : Nat) : va_up (pF k u) a (.inr (10, [va_rf (u.2.2.2.2 a 0), va_rf (u.2.2.2.2 a 1), va_rf (u.2.2.2.2 a 2), .int (u.2.2.1 a 3), .int (u.2.2.1 a 4), .int v, .int (u.2.2.1 a 6), .int (u.2.2.1 a 7), .int (u.2.2.1 a 8), va_rf (u.2.2.2.2 a 9), va_rf (u.2.2.2.2 a 10), va_rf (u.2.2.2.2 a 11)])) x = pF k (pSI u a 5 v) x := by
  by_cases hx : x = a
  · subst hx; simp [va_up, pF, pSI, h]
  · simp [va_up, pF, pSI, hx]
theorem sF10_6 {k : Nat → ClassId} {u : PSt} {a : Nat} (h : u.2.1 a = 10) (v : Int32) (x : Nat) : va_up (pF k u) a (.inr (10, [va_rf (u.2.2.2.2 a 0), va_rf (u.2.2.2.2 a 1), va_rf (u.2.2.2.2 a 2), .int (u.2.2.1 a 3), .int (u.2.2.1 a 4), .int (u.2.2.1 a 5), .int v, .int (u.2.2.1 a 7), .int (u.2.2.1 a 8), va_rf (u.2.2.2.2 a 9), va_rf (u.2.2.2.2 a 10), va_rf (u.2.2.2.2 a 11)])) x = pF k (pSI u a 6 v) x := by
  by_cases hx : x = a
  · subst hx; simp [va_up, pF, pSI, h]
  · simp [va_up, pF, pSI, hx]
theorem sF10_7 {k : Nat → ClassId} {u : PSt} {a : Nat} (h : u.2.1 a = 10) (v : Int32) (x : Nat) : va_up (pF k u) a (.inr (10, [va_rf (u.2.2.2.2 a 0), va_rf (u.2.2.2.2 a 1), va_rf (u.2.2.2.2 a 2), .int (u.2.2.1 a 3), .int (u.2.2.1 a 4), .int (u.2.2.1 a 5), .int (u.2.2.1 a 6), .int v, .int (u.2.2.1 a 8), va_rf (u.2.2.2.2 a 9), va_rf (u.2.2.2.2 a 10), va_rf (u.2.2.2.2 a 11)])) x = pF k (pSI u a 7 v) x := by
  by_cases hx : x = a
  · subst hx; simp [va_up, pF, pSI, h]
  · simp [va_up, pF, pSI, hx]
theorem sF10_8 {k : Nat → ClassId} {u : PSt} {a : Nat} (h : u.2.1 a = 10) (v : Int32) (x : Nat) : va_up (pF k u) a (.inr (10, [va_rf (u.2.2.2.2 a 0), va_rf (u.2.2.2.2 a 1), va_rf (u.2.2.2.2 a 2), .int (u.2.2.1 a 3), .int (u.2.2.1 a 4), .int (u.2.2.1 a 5), .int (u.2.2.1 a 6), .int (u.2.2.1 a 7), .int v, va_rf (u.2.2.2.2 a 9), va_rf (u.2.2.2.2 a 10), va_rf (u.2.2.2.2 a 11)])) x = pF k (pSI u a 8 v) x := by
  by_cases hx : x = a
  · subst hx; simp [va_up, pF, pSI, h]
  · simp [va_up, pF, pSI, hx]
theorem sF11_8 {k : Nat → ClassId} {u : PSt} {a : Nat} (h : u.2.1 a = 11) (v : Option Nat) (x : Nat) : va_up (pF k u) a (.inr (11, [va_rf (u.2.2.2.2 a 0), va_rf (u.2.2.2.2 a 1), va_rf (u.2.2.2.2 a 2), va_rf (u.2.2.2.2 a 3), va_rf (u.2.2.2.2 a 4), va_rf (u.2.2.2.2 a 5), va_rf (u.2.2.2.2 a 6), va_rf (u.2.2.2.2 a 7), va_rf v, .int (u.2.2.1 a 9), .int (u.2.2.1 a 10)])) x = pF k (pSR u a 8 v) x := by
  by_cases hx : x = a
  · subst hx; simp [va_up, pF, pSR, h]
  · simp [va_up, pF, pSR, hx]
theorem sF11_9 {k : Nat → ClassId} {u : PSt} {a : Nat} (h : u.2.1 a = 11) (v : Int32) (x : Nat) : va_up (pF k u) a (.inr (11, [va_rf (u.2.2.2.2 a 0), va_rf (u.2.2.2.2 a 1), va_rf (u.2.2.2.2 a 2), va_rf (u.2.2.2.2 a 3), va_rf (u.2.2.2.2 a 4), va_rf (u.2.2.2.2 a 5), va_rf (u.2.2.2.2 a 6), va_rf (u.2.2.2.2 a 7), va_rf (u.2.2.2.2 a 8), .int v, .int (u.2.2.1 a 10)])) x = pF k (pSI u a 9 v) x := by
  by_cases hx : x = a
  · subst hx; simp [va_up, pF, pSI, h]
  · simp [va_up, pF, pSI, hx]
theorem sF11_10 {k : Nat → ClassId} {u : PSt} {a : Nat} (h : u.2.1 a = 11) (v : Int32) (x : Nat) : va_up (pF k u) a (.inr (11, [va_rf (u.2.2.2.2 a 0), va_rf (u.2.2.2.2 a 1), va_rf (u.2.2.2.2 a 2), va_rf (u.2.2.2.2 a 3), va_rf (u.2.2.2.2 a 4), va_rf (u.2.2.2.2 a 5), va_rf (u.2.2.2.2 a 6), va_rf (u.2.2.2.2 a 7), va_rf (u.2.2.2.2 a 8), .int (u.2.2.1 a 9), .int v])) x = pF k (pSI u a 10 v) x := by
  by_cases hx : x = a
  · subst hx; simp [va_up, pF, pSI, h]
  · simp [va_up, pF, pSI, hx]
theorem sF12_0 {k : Nat → ClassId} {u : PSt} {a : Nat} (h : u.2.1 a = 12) (v : Int32) (x : Nat) : va_up (pF k u) a (.inr (12, [.int v, va_rf (u.2.2.2.2 a 1), va_rf (u.2.2.2.2 a 2), va_rf (u.2.2.2.2 a 3), va_rf (u.2.2.2.2 a 4), .int (u.2.2.1 a 5), va_rf (u.2.2.2.2 a 6), .int (u.2.2.1 a 7), .int (u.2.2.1 a 8), .int (u.2.2.1 a 9), .int (u.2.2.1 a 10), .int (u.2.2.1 a 11), .int (u.2.2.1 a 12), .int (u.2.2.1 a 13), va_rf (u.2.2.2.2 a 14), .int (u.2.2.1 a 15), .int (u.2.2.1 a 16), va_rf (u.2.2.2.2 a 17), va_rf (u.2.2.2.2 a 18), va_rf (u.2.2.2.2 a 19), va_rf (u.2.2.2.2 a 20), .int (u.2.2.1 a 21), va_rf (u.2.2.2.2 a 22), .int (u.2.2.1 a 23), va_rf (u.2.2.2.2 a 24), .int (u.2.2.1 a 25), va_rf (u.2.2.2.2 a 26), .int (u.2.2.1 a 27), .int (u.2.2.1 a 28), .int (u.2.2.1 a 29), va_rf (u.2.2.2.2 a 30), va_rf (u.2.2.2.2 a 31), va_rf (u.2.2.2.2 a 32), va_rf (u.2.2.2.2 a 33)])) x = pF k (pSI u a 0 v) x := by
  by_cases hx : x = a
  · subst hx; simp [va_up, pF, pSI, h]
  · simp [va_up, pF, pSI, hx]
theorem sF12_5 {k : Nat → ClassId} {u : PSt} {a : Nat} (h : u.2.1 a = 12) (v : Int32) (x : Nat) : va_up (pF k u) a (.inr (12, [.int (u.2.2.1 a 0), va_rf (u.2.2.2.2 a 1), va_rf (u.2.2.2.2 a 2), va_rf (u.2.2.2.2 a 3), va_rf (u.2.2.2.2 a 4), .int v, va_rf (u.2.2.2.2 a 6), .int (u.2.2.1 a 7), .int (u.2.2.1 a 8), .int (u.2.2.1 a 9), .int (u.2.2.1 a 10), .int (u.2.2.1 a 11), .int (u.2.2.1 a 12), .int (u.2.2.1 a 13), va_rf (u.2.2.2.2 a 14), .int (u.2.2.1 a 15), .int (u.2.2.1 a 16), va_rf (u.2.2.2.2 a 17), va_rf (u.2.2.2.2 a 18), va_rf (u.2.2.2.2 a 19), va_rf (u.2.2.2.2 a 20), .int (u.2.2.1 a 21), va_rf (u.2.2.2.2 a 22), .int (u.2.2.1 a 23), va_rf (u.2.2.2.2 a 24), .int (u.2.2.1 a 25), va_rf (u.2.2.2.2 a 26), .int (u.2.2.1 a 27), .int (u.2.2.1 a 28), .int (u.2.2.1 a 29), va_rf (u.2.2.2.2 a 30), va_rf (u.2.2.2.2 a 31), va_rf (u.2.2.2.2 a 32), va_rf (u.2.2.2.2 a 33)])) x = pF k (pSI u a 5 v) x := by
  by_cases hx : x = a
  · subst hx; simp [va_up, pF, pSI, h]
  · simp [va_up, pF, pSI, hx]
theorem sF12_7 {k : Nat → ClassId} {u : PSt} {a : Nat} (h : u.2.1 a = 12) (v : Int32) (x : Nat) : va_up (pF k u) a (.inr (12, [.int (u.2.2.1 a 0), va_rf (u.2.2.2.2 a 1), va_rf (u.2.2.2.2 a 2), va_rf (u.2.2.2.2 a 3), va_rf (u.2.2.2.2 a 4), .int (u.2.2.1 a 5), va_rf (u.2.2.2.2 a 6), .int v, .int (u.2.2.1 a 8), .int (u.2.2.1 a 9), .int (u.2.2.1 a 10), .int (u.2.2.1 a 11), .int (u.2.2.1 a 12), .int (u.2.2.1 a 13), va_rf (u.2.2.2.2 a 14), .int (u.2.2.1 a 15), .int (u.2.2.1 a 16), va_rf (u.2.2.2.2 a 17), va_rf (u.2.2.2.2 a 18), va_rf (u.2.2.2.2 a 19), va_rf (u.2.2.2.2 a 20), .int (u.2.2.1 a 21), va_rf (u.2.2.2.2 a 22), .int (u.2.2.1 a 23), va_rf (u.2.2.2.2 a 24), .int (u.2.2.1 a 25), va_rf (u.2.2.2.2 a 26), .int (u.2.2.1 a 27), .int (u.2.2.1 a 28), .int (u.2.2.1 a 29), va_rf (u.2.2.2.2 a 30), va_rf (u.2.2.2.2 a 31), va_rf (u.2.2.2.2 a 32), va_rf (u.2.2.2.2 a 33)])) x = pF k (pSI u a 7 v) x := by
  by_cases hx : x = a
  · subst hx; simp [va_up, pF, pSI, h]
  · simp [va_up, pF, pSI, hx]
theorem sF12_8 {k : Nat → ClassId} {u : PSt} {a : Nat} (h : u.2.1 a = 12) (v : Int32) (x : Nat) : va_up (pF k u) a (.inr (12, [.int (u.2.2.1 a 0), va_rf (u.2.2.2.2 a 1), va_rf (u.2.2.2.2 a 2), va_rf (u.2.2.2.2 a 3), va_rf (u.2.2.2.2 a 4), .int (u.2.2.1 a 5), va_rf (u.2.2.2.2 a 6), .int (u.2.2.1 a 7), .int v, .int (u.2.2.1 a 9), .int (u.2.2.1 a 10), .int (u.2.2.1 a 11), .int (u.2.2.1 a 12), .int (u.2.2.1 a 13), va_rf (u.2.2.2.2 a 14), .int (u.2.2.1 a 15), .int (u.2.2.1 a 16), va_rf (u.2.2.2.2 a 17), va_rf (u.2.2.2.2 a 18), va_rf (u.2.2.2.2 a 19), va_rf (u.2.2.2.2 a 20), .int (u.2.2.1 a 21), va_rf (u.2.2.2.2 a 22), .int (u.2.2.1 a 23), va_rf (u.2.2.2.2 a 24), .int (u.2.2.1 a 25), va_rf (u.2.2.2.2 a 26), .int (u.2.2.1 a 27), .int (u.2.2.1 a 28), .int (u.2.2.1 a 29), va_rf (u.2.2.2.2 a 30), va_rf (u.2.2.2.2 a 31), va_rf (u.2.2.2.2 a 32), va_rf (u.2.2.2.2 a 33)])) x = pF k (pSI u a 8 v) x := by
  by_cases hx : x = a
  · subst hx; simp [va_up, pF, pSI, h]
  · simp [va_up, pF, pSI, hx]
theorem sF12_9 {k : Nat → ClassId} {u : PSt} {a : Nat} (h : u.2.1 a = 12) (v : Int32) (x : Nat) : va_up (pF k u) a (.inr (12, [.int (u.2.2.1 a 0), va_rf (u.2.2.2.2 a 1), va_rf (u.2.2.2.2 a 2), va_rf (u.2.2.2.2 a 3), va_rf (u.2.2.2.2 a 4), .int (u.2.2.1 a 5), va_rf (u.2.2.2.2 a 6), .int (u.2.2.1 a 7), .int (u.2.2.1 a 8), .int v, .int (u.2.2.1 a 10), .int (u.2.2.1 a 11), .int (u.2.2.1 a 12), .int (u.2.2.1 a 13), va_rf (u.2.2.2.2 a 14), .int (u.2.2.1 a 15), .int (u.2.2.1 a 16), va_rf (u.2.2.2.2 a 17), va_rf (u.2.2.2.2 a 18), va_rf (u.2.2.2.2 a 19), va_rf (u.2.2.2.2 a 20), .int (u.2.2.1 a 21), va_rf (u.2.2.2.2 a 22), .int (u.2.2.1 a 23), va_rf (u.2.2.2.2 a 24), .int (u.2.2.1 a 25), va_rf (u.2.2.2.2 a 26), .int (u.2.2.1 a 27), .int (u.2.2.1 a 28), .int (u.2.2.1 a 29), va_rf (u.2.2.2.2 a 30), va_rf (u.2.2.2.2 a 31), va_rf (u.2.2.2.2 a 32), va_rf (u.2.2.2.2 a 33)])) x = pF k (pSI u a 9 v) x := by
  by_cases hx : x = a
  · subst hx; simp [va_up, pF, pSI, h]
  · simp [va_up, pF, pSI, hx]
theorem sF12_10 {k : Nat → ClassId} {u : PSt} {a : Nat} (h : u.2.1 a = 12) (v : Int32) (x : Nat) : va_up (pF k u) a (.inr (12, [.int (u.2.2.1 a 0), va_rf (u.2.2.2.2 a 1), va_rf (u.2.2.2.2 a 2), va_rf (u.2.2.2.2 a 3), va_rf (u.2.2.2.2 a 4), .int (u.2.2.1 a 5), va_rf (u.2.2.2.2 a 6), .int (u.2.2.1 a 7), .int (u.2.2.1 a 8), .int (u.2.2.1 a 9), .int v, .int (u.2.2.1 a 11), .int (u.2.2.1 a 12), .int (u.2.2.1 a 13), va_rf (u.2.2.2.2 a 14), .int (u.2.2.1 a 15), .int (u.2.2.1 a 16), va_rf (u.2.2.2.2 a 17), va_rf (u.2.2.2.2 a 18), va_rf (u.2.2.2.2 a 19), va_rf (u.2.2.2.2 a 20), .int (u.2.2.1 a 21), va_rf (u.2.2.2.2 a 22), .int (u.2.2.1 a 23), va_rf (u.2.2.2.2 a 24), .int (u.2.2.1 a 25), va_rf (u.2.2.2.2 a 26), .int (u.2.2.1 a 27), .int (u.2.2.1 a 28), .int (u.2.2.1 a 29), va_rf (u.2.2.2.2 a 30), va_rf (u.2.2.2.2 a 31), va_rf (u.2.2.2.2 a 32), va_rf (u.2.2.2.2 a 33)])) x = pF k (pSI u a 10 v) x := by
  by_cases hx : x = a
  · subst hx; simp [va_up, pF, pSI, h]
  · simp [va_up, pF, pSI, hx]
theorem sF12_11 {k : Nat → ClassId} {u : PSt} {a : Nat} (h : u.2.1 a = 12) (v : Int32) (x : Nat) : va_up (pF k u) a (.inr (12, [.int (u.2.2.1 a 0), va_rf (u.2.2.2.2 a 1), va_rf (u.2.2.2.2 a 2), va_rf (u.2.2.2.2 a 3), va_rf (u.2.2.2.2 a 4), .int (u.2.2.1 a 5), va_rf (u.2.2.2.2 a 6), .int (u.2.2.1 a 7), .int (u.2.2.1 a 8), .int (u.2.2.1 a 9), .int (u.2.2.1 a 10), .int v, .int (u.2.2.1 a 12), .int (u.2.2.1 a 13), va_rf (u.2.2.2.2 a 14), .int (u.2.2.1 a 15), .int (u.2.2.1 a 16), va_rf (u.2.2.2.2 a 17), va_rf (u.2.2.2.2 a 18), va_rf (u.2.2.2.2 a 19), va_rf (u.2.2.2.2 a 20), .int (u.2.2.1 a 21), va_rf (u.2.2.2.2 a 22), .int (u.2.2.1 a 23), va_rf (u.2.2.2.2 a 24), .int (u.2.2.1 a 25), va_rf (u.2.2.2.2 a 26), .int (u.2.2.1 a 27), .int (u.2.2.1 a 28), .int (u.2.2.1 a 29), va_rf (u.2.2.2.2 a 30), va_rf (u.2.2.2.2 a 31), va_rf (u.2.2.2.2 a 32), va_rf (u.2.2.2.2 a 33)])) x = pF k (pSI u a 11 v) x := by
  by_cases hx : x = a
  · subst hx; simp [va_up, pF, pSI, h]
  · simp [va_up, pF, pSI, hx]
theorem sF12_12 {k : Nat → ClassId} {u : PSt} {a : Nat} (h : u.2.1 a = 12) (v : Int32) (x : Nat) : va_up (pF k u) a (.inr (12, [.int (u.2.2.1 a 0), va_rf (u.2.2.2.2 a 1), va_rf (u.2.2.2.2 a 2), va_rf (u.2.2.2.2 a 3), va_rf (u.2.2.2.2 a 4), .int (u.2.2.1 a 5), va_rf (u.2.2.2.2 a 6), .int (u.2.2.1 a 7), .int (u.2.2.1 a 8), .int (u.2.2.1 a 9), .int (u.2.2.1 a 10), .int (u.2.2.1 a 11), .int v, .int (u.2.2.1 a 13), va_rf (u.2.2.2.2 a 14), .int (u.2.2.1 a 15), .int (u.2.2.1 a 16), va_rf (u.2.2.2.2 a 17), va_rf (u.2.2.2.2 a 18), va_rf (u.2.2.2.2 a 19), va_rf (u.2.2.2.2 a 20), .int (u.2.2.1 a 21), va_rf (u.2.2.2.2 a 22), .int (u.2.2.1 a 23), va_rf (u.2.2.2.2 a 24), .int (u.2.2.1 a 25), va_rf (u.2.2.2.2 a 26), .int (u.2.2.1 a 27), .int (u.2.2.1 a 28), .int (u.2.2.1 a 29), va_rf (u.2.2.2.2 a 30), va_rf (u.2.2.2.2 a 31), va_rf (u.2.2.2.2 a 32), va_rf (u.2.2.2.2 a 33)])) x = pF k (pSI u a 12 v) x := by
  by_cases hx : x = a
  · subst hx; simp [va_up, pF, pSI, h]
  · simp [va_up, pF, pSI, hx]
theorem sF12_13 {k : Nat → ClassId} {u : PSt} {a : Nat} (h : u.2.1 a = 12) (v : Int32) (x : Nat) : va_up (pF k u) a (.inr (12, [.int (u.2.2.1 a 0), va_rf (u.2.2.2.2 a 1), va_rf (u.2.2.2.2 a 2), va_rf (u.2.2.2.2 a 3), va_rf (u.2.2.2.2 a 4), .int (u.2.2.1 a 5), va_rf (u.2.2.2.2 a 6), .int (u.2.2.1 a 7), .int (u.2.2.1 a 8), .int (u.2.2.1 a 9), .int (u.2.2.1 a 10), .int (u.2.2.1 a 11), .int (u.2.2.1 a 12), .int v, va_rf (u.2.2.2.2 a 14), .int (u.2.2.1 a 15), .int (u.2.2.1 a 16), va_rf (u.2.2.2.2 a 17), va_rf (u.2.2.2.2 a 18), va_rf (u.2.2.2.2 a 19), va_rf (u.2.2.2.2 a 20), .int (u.2.2.1 a 21), va_rf (u.2.2.2.2 a 22), .int (u.2.2.1 a 23), va_rf (u.2.2.2.2 a 24), .int (u.2.2.1 a 25), va_rf (u.2.2.2.2 a 26), .int (u.2.2.1 a 27), .int (u.2.2.1 a 28), .int (u.2.2.1 a 29), va_rf (u.2.2.2.2 a 30), va_rf (u.2.2.2.2 a 31), va_rf (u.2.2.2.2 a 32), va_rf (u.2.2.2.2 a 33)])) x = pF k (pSI u a 13 v) x := by
  by_cases hx : x = a
  · subst hx; simp [va_up, pF, pSI, h]
  · simp [va_up, pF, pSI, hx]
theorem sF12_15 {k : Nat → ClassId} {u : PSt} {a : Nat} (h : u.2.1 a = 12) (v : Int32) (x : Nat) : va_up (pF k u) a (.inr (12, [.int (u.2.2.1 a 0), va_rf (u.2.2.2.2 a 1), va_rf (u.2.2.2.2 a 2), va_rf (u.2.2.2.2 a 3), va_rf (u.2.2.2.2 a 4), .int (u.2.2.1 a 5), va_rf (u.2.2.2.2 a 6), .int (u.2.2.1 a 7), .int (u.2.2.1 a 8), .int (u.2.2.1 a 9), .int (u.2.2.1 a 10), .int (u.2.2.1 a 11), .int (u.2.2.1 a 12), .int (u.2.2.1 a 13), va_rf (u.2.2.2.2 a 14), .int v, .int (u.2.2.1 a 16), va_rf (u.2.2.2.2 a 17), va_rf (u.2.2.2.2 a 18), va_rf (u.2.2.2.2 a 19), va_rf (u.2.2.2.2 a 20), .int (u.2.2.1 a 21), va_rf (u.2.2.2.2 a 22), .int (u.2.2.1 a 23), va_rf (u.2.2.2.2 a 24), .int (u.2.2.1 a 25), va_rf (u.2.2.2.2 a 26), .int (u.2.2.1 a 27), .int (u.2.2.1 a 28), .int (u.2.2.1 a 29), va_rf (u.2.2.2.2 a 30), va_rf (u.2.2.2.2 a 31), va_rf (u.2.2.2.2 a 32), va_rf (u.2.2.2.2 a 33)])) x = pF k (pSI u a 15 v) x := by
  by_cases hx : x = a
  · subst hx; simp [va_up, pF, pSI, h]
  · simp [va_up, pF, pSI, hx]
theorem sF12_16 {k : Nat → ClassId} {u : PSt} {a : Nat} (h : u.2.1 a = 12) (v : Int32) (x : Nat) : va_up (pF k u) a (.inr (12, [.int (u.2.2.1 a 0), va_rf (u.2.2.2.2 a 1), va_rf (u.2.2.2.2 a 2), va_rf (u.2.2.2.2 a 3), va_rf (u.2.2.2.2 a 4), .int (u.2.2.1 a 5), va_rf (u.2.2.2.2 a 6), .int (u.2.2.1 a 7), .int (u.2.2.1 a 8), .int (u.2.2.1 a 9), .int (u.2.2.1 a 10), .int (u.2.2.1 a 11), .int (u.2.2.1 a 12), .int (u.2.2.1 a 13), va_rf (u.2.2.2.2 a 14), .int (u.2.2.1 a 15), .int v, va_rf (u.2.2.2.2 a 17), va_rf (u.2.2.2.2 a 18), va_rf (u.2.2.2.2 a 19), va_rf (u.2.2.2.2 a 20), .int (u.2.2.1 a 21), va_rf (u.2.2.2.2 a 22), .int (u.2.2.1 a 23), va_rf (u.2.2.2.2 a 24), .int (u.2.2.1 a 25), va_rf (u.2.2.2.2 a 26), .int (u.2.2.1 a 27), .int (u.2.2.1 a 28), .int (u.2.2.1 a 29), va_rf (u.2.2.2.2 a 30), va_rf (u.2.2.2.2 a 31), va_rf (u.2.2.2.2 a 32), va_rf (u.2.2.2.2 a 33)])) x = pF k (pSI u a 16 v) x := by
  by_cases hx : x = a
  · subst hx; simp [va_up, pF, pSI, h]
  · simp [va_up, pF, pSI, hx]
theorem sF12_21 {k : Nat → ClassId} {u : PSt} {a : Nat} (h : u.2.1 a = 12) (v : Int32) (x : Nat) : va_up (pF k u) a (.inr (12, [.int (u.2.2.1 a 0), va_rf (u.2.2.2.2 a 1), va_rf (u.2.2.2.2 a 2), va_rf (u.2.2.2.2 a 3), va_rf (u.2.2.2.2 a 4), .int (u.2.2.1 a 5), va_rf (u.2.2.2.2 a 6), .int (u.2.2.1 a 7), .int (u.2.2.1 a 8), .int (u.2.2.1 a 9), .int (u.2.2.1 a 10), .int (u.2.2.1 a 11), .int (u.2.2.1 a 12), .int (u.2.2.1 a 13), va_rf (u.2.2.2.2 a 14), .int (u.2.2.1 a 15), .int (u.2.2.1 a 16), va_rf (u.2.2.2.2 a 17), va_rf (u.2.2.2.2 a 18), va_rf (u.2.2.2.2 a 19), va_rf (u.2.2.2.2 a 20), .int v, va_rf (u.2.2.2.2 a 22), .int (u.2.2.1 a 23), va_rf (u.2.2.2.2 a 24), .int (u.2.2.1 a 25), va_rf (u.2.2.2.2 a 26), .int (u.2.2.1 a 27), .int (u.2.2.1 a 28), .int (u.2.2.1 a 29), va_rf (u.2.2.2.2 a 30), va_rf (u.2.2.2.2 a 31), va_rf (u.2.2.2.2 a 32), va_rf (u.2.2.2.2 a 33)])) x = pF k (pSI u a 21 v) x := by
  by_cases hx : x = a
  · subst hx; simp [va_up, pF, pSI, h]
  · simp [va_up, pF, pSI, hx]
theorem sF12_23 {k : Nat → ClassId} {u : PSt} {a : Nat} (h : u.2.1 a = 12) (v : Int32) (x : Nat) : va_up (pF k u) a (.inr (12, [.int (u.2.2.1 a 0), va_rf (u.2.2.2.2 a 1), va_rf (u.2.2.2.2 a 2), va_rf (u.2.2.2.2 a 3), va_rf (u.2.2.2.2 a 4), .int (u.2.2.1 a 5), va_rf (u.2.2.2.2 a 6), .int (u.2.2.1 a 7), .int (u.2.2.1 a 8), .int (u.2.2.1 a 9), .int (u.2.2.1 a 10), .int (u.2.2.1 a 11), .int (u.2.2.1 a 12), .int (u.2.2.1 a 13), va_rf (u.2.2.2.2 a 14), .int (u.2.2.1 a 15), .int (u.2.2.1 a 16), va_rf (u.2.2.2.2 a 17), va_rf (u.2.2.2.2 a 18), va_rf (u.2.2.2.2 a 19), va_rf (u.2.2.2.2 a 20), .int (u.2.2.1 a 21), va_rf (u.2.2.2.2 a 22), .int v, va_rf (u.2.2.2.2 a 24), .int (u.2.2.1 a 25), va_rf (u.2.2.2.2 a 26), .int (u.2.2.1 a 27), .int (u.2.2.1 a 28), .int (u.2.2.1 a 29), va_rf (u.2.2.2.2 a 30), va_rf (u.2.2.2.2 a 31), va_rf (u.2.2.2.2 a 32), va_rf (u.2.2.2.2 a 33)])) x = pF k (pSI u a 23 v) x := by
  by_cases hx : x = a
  · subst hx; simp [va_up, pF, pSI, h]
  · simp [va_up, pF, pSI, hx]
theorem sF12_25 {k : Nat → ClassId} {u : PSt} {a : Nat} (h : u.2.1 a = 12) (v : Int32) (x : Nat) : va_up (pF k u) a (.inr (12, [.int (u.2.2.1 a 0), va_rf (u.2.2.2.2 a 1), va_rf (u.2.2.2.2 a 2), va_rf (u.2.2.2.2 a 3), va_rf (u.2.2.2.2 a 4), .int (u.2.2.1 a 5), va_rf (u.2.2.2.2 a 6), .int (u.2.2.1 a 7), .int (u.2.2.1 a 8), .int (u.2.2.1 a 9), .int (u.2.2.1 a 10), .int (u.2.2.1 a 11), .int (u.2.2.1 a 12), .int (u.2.2.1 a 13), va_rf (u.2.2.2.2 a 14), .int (u.2.2.1 a 15), .int (u.2.2.1 a 16), va_rf (u.2.2.2.2 a 17), va_rf (u.2.2.2.2 a 18), va_rf (u.2.2.2.2 a 19), va_rf (u.2.2.2.2 a 20), .int (u.2.2.1 a 21), va_rf (u.2.2.2.2 a 22), .int (u.2.2.1 a 23), va_rf (u.2.2.2.2 a 24), .int v, va_rf (u.2.2.2.2 a 26), .int (u.2.2.1 a 27), .int (u.2.2.1 a 28), .int (u.2.2.1 a 29), va_rf (u.2.2.2.2 a 30), va_rf (u.2.2.2.2 a 31), va_rf (u.2.2.2.2 a 32), va_rf (u.2.2.2.2 a 33)])) x = pF k (pSI u a 25 v) x := by
  by_cases hx : x = a
  · subst hx; simp [va_up, pF, pSI, h]
  · simp [va_up, pF, pSI, hx]
theorem sF12_27 {k : Nat → ClassId} {u : PSt} {a : Nat} (h : u.2.1 a = 12) (v : Int32) (x : Nat) : va_up (pF k u) a (.inr (12, [.int (u.2.2.1 a 0), va_rf (u.2.2.2.2 a 1), va_rf (u.2.2.2.2 a 2), va_rf (u.2.2.2.2 a 3), va_rf (u.2.2.2.2 a 4), .int (u.2.2.1 a 5), va_rf (u.2.2.2.2 a 6), .int (u.2.2.1 a 7), .int (u.2.2.1 a 8), .int (u.2.2.1 a 9), .int (u.2.2.1 a 10), .int (u.2.2.1 a 11), .int (u.2.2.1 a 12), .int (u.2.2.1 a 13), va_rf (u.2.2.2.2 a 14), .int (u.2.2.1 a 15), .int (u.2.2.1 a 16), va_rf (u.2.2.2.2 a 17), va_rf (u.2.2.2.2 a 18), va_rf (u.2.2.2.2 a 19), va_rf (u.2.2.2.2 a 20), .int (u.2.2.1 a 21), va_rf (u.2.2.2.2 a 22), .int (u.2.2.1 a 23), va_rf (u.2.2.2.2 a 24), .int (u.2.2.1 a 25), va_rf (u.2.2.2.2 a 26), .int v, .int (u.2.2.1 a 28), .int (u.2.2.1 a 29), va_rf (u.2.2.2.2 a 30), va_rf (u.2.2.2.2 a 31), va_rf (u.2.2.2.2 a 32), va_rf (u.2.2.2.2 a 33)])) x = pF k (pSI u a 27 v) x := by
  by_cases hx : x = a
  · subst hx; simp [va_up, pF, pSI, h]
  · simp [va_up, pF, pSI, hx]
theorem sF12_28 {k : Nat → ClassId} {u : PSt} {a : Nat} (h : u.2.1 a = 12) (v : Int32) (x : Nat) : va_up (pF k u) a (.inr (12, [.int (u.2.2.1 a 0), va_rf (u.2.2.2.2 a 1), va_rf (u.2.2.2.2 a 2), va_rf (u.2.2.2.2 a 3), va_rf (u.2.2.2.2 a 4), .int (u.2.2.1 a 5), va_rf (u.2.2.2.2 a 6), .int (u.2.2.1 a 7), .int (u.2.2.1 a 8), .int (u.2.2.1 a 9), .int (u.2.2.1 a 10), .int (u.2.2.1 a 11), .int (u.2.2.1 a 12), .int (u.2.2.1 a 13), va_rf (u.2.2.2.2 a 14), .int (u.2.2.1 a 15), .int (u.2.2.1 a 16), va_rf (u.2.2.2.2 a 17), va_rf (u.2.2.2.2 a 18), va_rf (u.2.2.2.2 a 19), va_rf (u.2.2.2.2 a 20), .int (u.2.2.1 a 21), va_rf (u.2.2.2.2 a 22), .int (u.2.2.1 a 23), va_rf (u.2.2.2.2 a 24), .int (u.2.2.1 a 25), va_rf (u.2.2.2.2 a 26), .int (u.2.2.1 a 27), .int v, .int (u.2.2.1 a 29), va_rf (u.2.2.2.2 a 30), va_rf (u.2.2.2.2 a 31), va_rf (u.2.2.2.2 a 32), va_rf (u.2.2.2.2 a 33)])) x = pF k (pSI u a 28 v) x := by
  by_cases hx : x = a
  · subst hx; simp [va_up, pF, pSI, h]
  · simp [va_up, pF, pSI, hx]
theorem sF12_29 {k : Nat → ClassId} {u : PSt} {a : Nat} (h : u.2.1 a = 12) (v : Int32) (x : Nat) : va_up (pF k u) a (.inr (12, [.int (u.2.2.1 a 0), va_rf (u.2.2.2.2 a 1), va_rf (u.2.2.2.2 a 2), va_rf (u.2.2.2.2 a 3), va_rf (u.2.2.2.2 a 4), .int (u.2.2.1 a 5), va_rf (u.2.2.2.2 a 6), .int (u.2.2.1 a 7), .int (u.2.2.1 a 8), .int (u.2.2.1 a 9), .int (u.2.2.1 a 10), .int (u.2.2.1 a 11), .int (u.2.2.1 a 12), .int (u.2.2.1 a 13), va_rf (u.2.2.2.2 a 14), .int (u.2.2.1 a 15), .int (u.2.2.1 a 16), va_rf (u.2.2.2.2 a 17), va_rf (u.2.2.2.2 a 18), va_rf (u.2.2.2.2 a 19), va_rf (u.2.2.2.2 a 20), .int (u.2.2.1 a 21), va_rf (u.2.2.2.2 a 22), .int (u.2.2.1 a 23), va_rf (u.2.2.2.2 a 24), .int (u.2.2.1 a 25), va_rf (u.2.2.2.2 a 26), .int (u.2.2.1 a 27), .int (u.2.2.1 a 28), .int v, va_rf (u.2.2.2.2 a 30), va_rf (u.2.2.2.2 a 31), va_rf (u.2.2.2.2 a 32), va_rf (u.2.2.2.2 a 33)])) x = pF k (pSI u a 29 v) x := by
  by_cases hx : x = a
  · subst hx; simp [va_up, pF, pSI, h]
  · simp [va_up, pF, pSI, hx]
theorem sF20 {k : Nat → ClassId} {u : PSt} {a : Nat} (h : u.2.1 a = 20) (i : Nat) (v : Int32) (x : Nat) : va_up (pF k u) a (.inl (k 0, 1600, .inl (upd (u.2.2.1 a) i v))) x = pF k (pSI u a i v) x := by
  by_cases hx : x = a
  · subst hx; simp only [va_up, pF, pSI, h, if_true]; congr; funext j; simp [upd]
  · simp [va_up, pF, pSI, hx]
theorem sF21 {k : Nat → ClassId} {u : PSt} {a : Nat} (h : u.2.1 a = 21) (i : Nat) (v : Int32) (x : Nat) : va_up (pF k u) a (.inl (k 1, 60, .inl (upd (u.2.2.1 a) i v))) x = pF k (pSI u a i v) x := by
  by_cases hx : x = a
  · subst hx; simp only [va_up, pF, pSI, h, if_true]; congr; funext j; simp [upd]
  · simp [va_up, pF, pSI, hx]
theorem sF22 {k : Nat → ClassId} {u : PSt} {a : Nat} (h : u.2.1 a = 22) (i : Nat) (v : Int32) (x : Nat) : va_up (pF k u) a (.inl (k 1, 7, .inl (upd (u.2.2.1 a) i v))) x = pF k (pSI u a i v) x := by
  by_cases hx : x = a
  · subst hx; simp only [va_up, pF, pSI, h, if_true]; congr; funext j; simp [upd]
  · simp [va_up, pF, pSI, hx]
theorem sF23 {k : Nat → ClassId} {u : PSt} {a : Nat} (h : u.2.1 a = 23) (i : Nat) (v : Int32) (x : Nat) : va_up (pF k u) a (.inl (k 1, 61, .inl (upd (u.2.2.1 a) i v))) x = pF k (pSI u a i v) x := by
  by_cases hx : x = a
  · subst hx; simp only [va_up, pF, pSI, h, if_true]; congr; funext j; simp [upd]
  · simp [va_up, pF, pSI, hx]
theorem sF24 {k : Nat → ClassId} {u : PSt} {a : Nat} (h : u.2.1 a = 24) (i : Nat) (v : Int32) (x : Nat) : va_up (pF k u) a (.inl (k 1, 1000, .inl (upd (u.2.2.1 a) i v))) x = pF k (pSI u a i v) x := by
  by_cases hx : x = a
  · subst hx; simp only [va_up, pF, pSI, h, if_true]; congr; funext j; simp [upd]
  · simp [va_up, pF, pSI, hx]
theorem sF25 {k : Nat → ClassId} {u : PSt} {a : Nat} (h : u.2.1 a = 25) (i : Nat) (v : Int32) (x : Nat) : va_up (pF k u) a (.inl (k 1, 12, .inl (upd (u.2.2.1 a) i v))) x = pF k (pSI u a i v) x := by
  by_cases hx : x = a
  · subst hx; simp only [va_up, pF, pSI, h, if_true]; congr; funext j; simp [upd]
  · simp [va_up, pF, pSI, hx]
theorem sF26 {k : Nat → ClassId} {u : PSt} {a : Nat} (h : u.2.1 a = 26) (i : Nat) (v : Int32) (x : Nat) : va_up (pF k u) a (.inl (k 1, 20, .inl (upd (u.2.2.1 a) i v))) x = pF k (pSI u a i v) x := by
  by_cases hx : x = a
  · subst hx; simp only [va_up, pF, pSI, h, if_true]; congr; funext j; simp [upd]
  · simp [va_up, pF, pSI, hx]
theorem sF27 {k : Nat → ClassId} {u : PSt} {a : Nat} (h : u.2.1 a = 27) (i : Nat) (v : Int32) (x : Nat) : va_up (pF k u) a (.inl (k 1, 8, .inl (upd (u.2.2.1 a) i v))) x = pF k (pSI u a i v) x := by
  by_cases hx : x = a
  · subst hx; simp only [va_up, pF, pSI, h, if_true]; congr; funext j; simp [upd]
  · simp [va_up, pF, pSI, hx]
theorem sF30 {k : Nat → ClassId} {u : PSt} {a : Nat} (h : u.2.1 a = 30) (i : Nat) (v : Int64) (x : Nat) : va_up (pF k u) a (.inl (k 2, 60, .inr (.inl (vp_updL (u.2.2.2.1 a) i v)))) x = pF k (pSJ u a i v) x := by
  by_cases hx : x = a
  · subst hx; simp only [va_up, pF, pSJ, h, if_true]; congr; funext j; simp [vp_updL]
  · simp [va_up, pF, pSJ, hx]
theorem sF31 {k : Nat → ClassId} {u : PSt} {a : Nat} (h : u.2.1 a = 31) (i : Nat) (v : Int64) (x : Nat) : va_up (pF k u) a (.inl (k 2, 17, .inr (.inl (vp_updL (u.2.2.2.1 a) i v)))) x = pF k (pSJ u a i v) x := by
  by_cases hx : x = a
  · subst hx; simp only [va_up, pF, pSJ, h, if_true]; congr; funext j; simp [vp_updL]
  · simp [va_up, pF, pSJ, hx]
theorem sF32 {k : Nat → ClassId} {u : PSt} {a : Nat} (h : u.2.1 a = 32) (i : Nat) (v : Int64) (x : Nat) : va_up (pF k u) a (.inl (k 2, 16, .inr (.inl (vp_updL (u.2.2.2.1 a) i v)))) x = pF k (pSJ u a i v) x := by
  by_cases hx : x = a
  · subst hx; simp only [va_up, pF, pSJ, h, if_true]; congr; funext j; simp [vp_updL]
  · simp [va_up, pF, pSJ, hx]
theorem sF40 {k : Nat → ClassId} {u : PSt} {a : Nat} (h : u.2.1 a = 40) (i : Nat) (v : Option Nat) (x : Nat) : va_up (pF k u) a (.inl (k 5, 3, .inr (.inr (.inr (.inr (va_up (u.2.2.2.2 a) i v)))))) x = pF k (pSR u a i v) x := by
  by_cases hx : x = a
  · subst hx; simp only [va_up, pF, pSR, h, if_true]; congr; funext j; simp [va_up]
  · simp [va_up, pF, pSR, hx]
theorem sF42 {k : Nat → ClassId} {u : PSt} {a : Nat} (h : u.2.1 a = 42) (i : Nat) (v : Option Nat) (x : Nat) : va_up (pF k u) a (.inl (k 6, 12, .inr (.inr (.inr (.inr (va_up (u.2.2.2.2 a) i v)))))) x = pF k (pSR u a i v) x := by
  by_cases hx : x = a
  · subst hx; simp only [va_up, pF, pSR, h, if_true]; congr; funext j; simp [va_up]
  · simp [va_up, pF, pSR, hx]
theorem sF50 {k : Nat → ClassId} {u : PSt} {a : Nat} (h : u.2.1 a = 50) (i : Nat) (v : Int32) (x : Nat) : va_up (pF k u) a (.inl (k 1, 2482, .inl (upd (u.2.2.1 a) i v))) x = pF k (pSI u a i v) x := by
  by_cases hx : x = a
  · subst hx; simp only [va_up, pF, pSI, h, if_true]; congr; funext j; simp [upd]
  · simp [va_up, pF, pSI, hx]
theorem sF51 {k : Nat → ClassId} {u : PSt} {a : Nat} (h : u.2.1 a = 51) (i : Nat) (v : Int32) (x : Nat) : va_up (pF k u) a (.inl (k 1, 2482, .inl (upd (u.2.2.1 a) i v))) x = pF k (pSI u a i v) x := by
  by_cases hx : x = a
  · subst hx; simp only [va_up, pF, pSI, h, if_true]; congr; funext j; simp [upd]
  · simp [va_up, pF, pSI, hx]
theorem sF52 {k : Nat → ClassId} {u : PSt} {a : Nat} (h : u.2.1 a = 52) (i : Nat) (v : Int32) (x : Nat) : va_up (pF k u) a (.inl (k 1, 7446, .inl (upd (u.2.2.1 a) i v))) x = pF k (pSI u a i v) x := by
  by_cases hx : x = a
  · subst hx; simp only [va_up, pF, pSI, h, if_true]; congr; funext j; simp [upd]
  · simp [va_up, pF, pSI, hx]
theorem sF53 {k : Nat → ClassId} {u : PSt} {a : Nat} (h : u.2.1 a = 53) (i : Nat) (v : Int32) (x : Nat) : va_up (pF k u) a (.inl (k 3, 3, .inl (upd (u.2.2.1 a) i v))) x = pF k (pSI u a i v) x := by
  by_cases hx : x = a
  · subst hx; simp only [va_up, pF, pSI, h, if_true]; congr; funext j; simp [upd]
  · simp [va_up, pF, pSI, hx]
theorem sF54 {k : Nat → ClassId} {u : PSt} {a : Nat} (h : u.2.1 a = 54) (i : Nat) (v : Int32) (x : Nat) : va_up (pF k u) a (.inl (k 0, 1600, .inl (upd (u.2.2.1 a) i v))) x = pF k (pSI u a i v) x := by
  by_cases hx : x = a
  · subst hx; simp only [va_up, pF, pSI, h, if_true]; congr; funext j; simp [upd]
  · simp [va_up, pF, pSI, hx]
theorem sF55 {k : Nat → ClassId} {u : PSt} {a : Nat} (h : u.2.1 a = 55) (i : Nat) (v : Int32) (x : Nat) : va_up (pF k u) a (.inl (k 1, 5, .inl (upd (u.2.2.1 a) i v))) x = pF k (pSI u a i v) x := by
  by_cases hx : x = a
  · subst hx; simp only [va_up, pF, pSI, h, if_true]; congr; funext j; simp [upd]
  · simp [va_up, pF, pSI, hx]
theorem sF56 {k : Nat → ClassId} {u : PSt} {a : Nat} (h : u.2.1 a = 56) (i : Nat) (v : Int32) (x : Nat) : va_up (pF k u) a (.inl (k 1, 8, .inl (upd (u.2.2.1 a) i v))) x = pF k (pSI u a i v) x := by
  by_cases hx : x = a
  · subst hx; simp only [va_up, pF, pSI, h, if_true]; congr; funext j; simp [upd]
  · simp [va_up, pF, pSI, hx]
theorem sF57 {k : Nat → ClassId} {u : PSt} {a : Nat} (h : u.2.1 a = 57) (i : Nat) (v : Int32) (x : Nat) : va_up (pF k u) a (.inl (k 1, 2000, .inl (upd (u.2.2.1 a) i v))) x = pF k (pSI u a i v) x := by
  by_cases hx : x = a
  · subst hx; simp only [va_up, pF, pSI, h, if_true]; congr; funext j; simp [upd]
  · simp [va_up, pF, pSI, hx]
theorem sF58 {k : Nat → ClassId} {u : PSt} {a : Nat} (h : u.2.1 a = 58) (i : Nat) (v : Int32) (x : Nat) : va_up (pF k u) a (.inl (k 1, 1000, .inl (upd (u.2.2.1 a) i v))) x = pF k (pSI u a i v) x := by
  by_cases hx : x = a
  · subst hx; simp only [va_up, pF, pSI, h, if_true]; congr; funext j; simp [upd]
  · simp [va_up, pF, pSI, hx]
theorem sF59 {k : Nat → ClassId} {u : PSt} {a : Nat} (h : u.2.1 a = 59) (i : Nat) (v : Int32) (x : Nat) : va_up (pF k u) a (.inl (k 1, 17, .inl (upd (u.2.2.1 a) i v))) x = pF k (pSI u a i v) x := by
  by_cases hx : x = a
  · subst hx; simp only [va_up, pF, pSI, h, if_true]; congr; funext j; simp [upd]
  · simp [va_up, pF, pSI, hx]
theorem sF60 {k : Nat → ClassId} {u : PSt} {a : Nat} (h : u.2.1 a = 60) (i : Nat) (v : Int32) (x : Nat) : va_up (pF k u) a (.inl (k 1, 4, .inl (upd (u.2.2.1 a) i v))) x = pF k (pSI u a i v) x := by
  by_cases hx : x = a
  · subst hx; simp only [va_up, pF, pSI, h, if_true]; congr; funext j; simp [upd]
  · simp [va_up, pF, pSI, hx]
theorem sF61 {k : Nat → ClassId} {u : PSt} {a : Nat} (h : u.2.1 a = 61) (i : Nat) (v : Int32) (x : Nat) : va_up (pF k u) a (.inl (k 1, 4, .inl (upd (u.2.2.1 a) i v))) x = pF k (pSI u a i v) x := by
  by_cases hx : x = a
  · subst hx; simp only [va_up, pF, pSI, h, if_true]; congr; funext j; simp [upd]
  · simp [va_up, pF, pSI, hx]
theorem sF62 {k : Nat → ClassId} {u : PSt} {a : Nat} (h : u.2.1 a = 62) (i : Nat) (v : Int64) (x : Nat) : va_up (pF k u) a (.inl (k 2, 240, .inr (.inl (vp_updL (u.2.2.2.1 a) i v)))) x = pF k (pSJ u a i v) x := by
  by_cases hx : x = a
  · subst hx; simp only [va_up, pF, pSJ, h, if_true]; congr; funext j; simp [vp_updL]
  · simp [va_up, pF, pSJ, hx]
theorem sF63 {k : Nat → ClassId} {u : PSt} {a : Nat} (h : u.2.1 a = 63) (i : Nat) (v : Int64) (x : Nat) : va_up (pF k u) a (.inl (k 2, 60, .inr (.inl (vp_updL (u.2.2.2.1 a) i v)))) x = pF k (pSJ u a i v) x := by
  by_cases hx : x = a
  · subst hx; simp only [va_up, pF, pSJ, h, if_true]; congr; funext j; simp [vp_updL]
  · simp [va_up, pF, pSJ, hx]
def tkd : Nat → Nat → Option Nat
  | 0, 7 => some 23
  | 1, 3 => some 21
  | 1, 2 => some 21
  | 1, 4 => some 21
  | 2, 0 => some 9
  | 2, 1 => some 10
  | 3, 10 => some 22
  | 3, 9 => some 22
  | 3, 7 => some 22
  | 3, 8 => some 22
  | 4, 4 => some 25
  | 4, 5 => some 25
  | 4, 9 => some 31
  | 4, 10 => some 32
  | 4, 7 => some 26
  | 4, 6 => some 26
  | 4, 3 => some 25
  | 4, 8 => some 26
  | 5, 3 => some 3
  | 6, 4 => some 25
  | 6, 5 => some 25
  | 6, 2 => some 25
  | 6, 3 => some 25
  | 7, 3 => some 30
  | 9, 0 => some 20
  | 10, 9 => some 27
  | 10, 0 => some 1
  | 10, 2 => some 4
  | 10, 11 => some 42
  | 10, 10 => some 27
  | 10, 1 => some 6
  | 11, 6 => some 0
  | 11, 1 => some 40
  | 11, 8 => some 10
  | 11, 4 => some 1
  | 11, 5 => some 3
  | 11, 2 => some 41
  | 11, 3 => some 8
  | 11, 7 => some 24
  | 11, 0 => some 9
  | 12, 20 => some 56
  | 12, 19 => some 56
  | 12, 17 => some 56
  | 12, 18 => some 56
  | 12, 6 => some 55
  | 12, 14 => some 51
  | 12, 3 => some 53
  | 12, 2 => some 52
  | 12, 24 => some 58
  | 12, 26 => some 59
  | 12, 33 => some 63
  | 12, 32 => some 62
  | 12, 22 => some 57
  | 12, 30 => some 60
  | 12, 4 => some 54
  | 12, 31 => some 61
  | 12, 1 => some 50
  | _, _ => none
def tkn : Nat → Nat → Option Nat
  | 0, 3 => some 6
  | 40, _ => some 10
  | 42, _ => some 5
  | _, _ => none
def okW (n : Nat) (x : Int32) : Prop := (n = 0 → 0 ≤ x.toInt ∧ x.toInt ≤ 60) ∧ (n = 1 → 0 ≤ x.toInt ∧ x.toInt ≤ 8) ∧ (n = 2 → 0 ≤ x.toInt ∧ x.toInt ≤ 12) ∧ (n = 3 → 0 ≤ x.toInt ∧ x.toInt ≤ 12) ∧ (n = 4 → 0 ≤ x.toInt ∧ x.toInt ≤ 12) ∧ (n = 5 → 0 ≤ x.toInt ∧ x.toInt ≤ 20) ∧ (n = 6 → 0 ≤ x.toInt ∧ x.toInt ≤ 2000) ∧ (26 ≤ n ∧ n < 314 ∧ (n - 26) % 24 ≤ 1 → 0 ≤ x.toInt ∧ x.toInt ≤ 7) ∧ (26 ≤ n ∧ n < 314 ∧ (n - 26) % 24 = 2 → 0 ≤ x.toInt ∧ x.toInt ≤ 40) ∧ (26 ≤ n ∧ n < 314 ∧ (n - 26) % 24 = 3 → 0 ≤ x.toInt ∧ x.toInt ≤ 8) ∧ (482 ≤ n → 0 ≤ x.toInt ∧ x.toInt ≤ 999)
def ok5 : Nat → Int32 → Prop
  | 6, x => 0 ≤ x.toInt ∧ x.toInt ≤ 1
  | _, _ => True
def ok7 : Nat → Int32 → Prop
  | 0, x => 0 ≤ x.toInt ∧ x.toInt ≤ 1
  | 1, x => 0 ≤ x.toInt ∧ x.toInt ≤ 3
  | 2, x => 0 ≤ x.toInt ∧ x.toInt ≤ 60
  | _, _ => True
def ok9 : Nat → Int32 → Prop
  | 1, x => 0 ≤ x.toInt ∧ x.toInt ≤ 1600
  | 5, x => 0 ≤ x.toInt ∧ x.toInt ≤ 1601
  | 6, x => 0 ≤ x.toInt ∧ x.toInt ≤ 1601
  | _, _ => True
def ok10 : Nat → Int32 → Prop
  | 6, x => 0 ≤ x.toInt ∧ x.toInt ≤ 1
  | _, _ => True
def ok12 : Nat → Int32 → Prop
  | 5, x => 0 ≤ x.toInt ∧ x.toInt ≤ 1600
  | 7, x => 0 ≤ x.toInt ∧ x.toInt ≤ 1600
  | 8, x => 0 ≤ x.toInt ∧ x.toInt ≤ 1600
  | 9, x => 0 ≤ x.toInt ∧ x.toInt ≤ 1600
  | 15, x => 0 ≤ x.toInt ∧ x.toInt ≤ 1
  | 16, x => 0 ≤ x.toInt ∧ x.toInt ≤ 8
  | 23, x => 0 ≤ x.toInt ∧ x.toInt ≤ 2000
  | _, _ => True
def okI : Nat → Nat → Int32 → Prop
  | 5, s, x => ok5 s x
  | 7, s, x => ok7 s x
  | 9, s, x => ok9 s x
  | 10, s, x => ok10 s x
  | 12, s, x => ok12 s x
  | 50, s, x => okW s x
  | 51, s, x => okW s x
  | 52, s, x => okW (s % 2482) x
  | 53, s, x => 0 ≤ x.toInt ∧ x.toInt ≤ 1
  | 57, s, x => 0 ≤ x.toInt ∧ x.toInt ≤ 999
  | 59, s, x => s = 16 → 0 ≤ x.toInt ∧ x.toInt ≤ 8
  | 60, s, x => -1 ≤ x.toInt ∧ x.toInt ≤ 60
  | 61, s, x => 0 ≤ x.toInt ∧ x.toInt ≤ 3
  | _, _, _ => True
def WT (u : PSt) : Prop := ∀ a ∈ u.1, (∀ s t, tkd (u.2.1 a) s = some t → ∃ y, u.2.2.2.2 a s = some y ∧ y ∈ u.1 ∧ u.2.1 y = t) ∧ (∀ s t, tkn (u.2.1 a) s = some t → u.2.2.2.2 a s = none ∨ ∃ y, u.2.2.2.2 a s = some y ∧ y ∈ u.1 ∧ u.2.1 y = t) ∧ (u.2.1 a = 41 → ∀ s, s < 4 → ∃ y, u.2.2.2.2 a s = some y ∧ y ∈ u.1 ∧ u.2.1 y = 7) ∧ ∀ s, okI (u.2.1 a) s (u.2.2.1 a s)
def PX (u0 u : PSt) : Prop := ∀ a ∈ u0.1, a ∈ u.1 ∧ u.2.1 a = u0.2.1 a ∧ (u0.2.1 a = 7 → ∀ s, u.2.2.1 a s = u0.2.2.1 a s ∧ u.2.2.2.2 a s = u0.2.2.2.2 a s) ∧ (u0.2.1 a = 40 ∨ u0.2.1 a = 41 → ∀ s, u.2.2.2.2 a s = u0.2.2.2.2 a s) ∧ (u0.2.1 a = 11 → ∀ s, s < 8 → u.2.2.2.2 a s = u0.2.2.2.2 a s) ∧ (u0.2.1 a = 12 → ∀ s, u.2.2.2.2 a s = u0.2.2.2.2 a s) ∧ (u0.2.1 a = 53 ∨ u0.2.1 a = 60 ∨ u0.2.1 a = 61 → ∀ s, u.2.2.1 a s = u0.2.2.1 a s)
theorem PX.rf {u : PSt} : PX u u := fun a h => ⟨h, rfl, fun _ _ => ⟨rfl, rfl⟩, fun _ _ => rfl, fun _ _ _ => rfl, fun _ _ => rfl, fun _ _ => rfl⟩
def PY (u0 u : PSt) : Prop := ∀ a ∈ u0.1, a ∈ u.1 ∧ u.2.1 a = u0.2.1 a
theorem PY.rf {u : PSt} : PY u u := fun a h => ⟨h, rfl⟩
theorem PX.toY {a b : PSt} (h : PX a b) : PY a b := fun x hx => ⟨(h x hx).1, (h x hx).2.1⟩
theorem PY.trans {a b c : PSt} (h : PY a b) (h2 : PY b c) : PY a c := fun x hx => ⟨(h2 x (h x hx).1).1, (h2 x (h x hx).1).2.trans (h x hx).2⟩
theorem PY.setI {u0 u : PSt} {a s : Nat} {v : Int32} (h : PY u0 u) : PY u0 (pSI u a s v) := h
theorem PY.setJ {u0 u : PSt} {a s : Nat} {v : Int64} (h : PY u0 u) : PY u0 (pSJ u a s v) := h
theorem PY.setR {u0 u : PSt} {a s : Nat} {v : Option Nat} (h : PY u0 u) : PY u0 (pSR u a s v) := h
theorem WT.setI {u : PSt} {a s : Nat} {v : Int32} (h : WT u) (hv : okI (u.2.1 a) s v) : WT (pSI u a s v) := by
  intro x hx
  obtain ⟨h1, h2, h3, h4⟩ := h x hx
  refine ⟨h1, h2, h3, fun t => ?_⟩
  show okI (u.2.1 x) t (if x = a ∧ t = s then v else u.2.2.1 x t)
  by_cases q : x = a ∧ t = s
  · rw [if_pos q, q.1, q.2]; exact hv
  · rw [if_neg q]; exact h4 t
theorem WT.setJ {u : PSt} {a s : Nat} {v : Int64} (h : WT u) : WT (pSJ u a s v) := h
theorem WT.setR {u : PSt} {a s y kd : Nat} (h : WT u) (h0 : tkd (u.2.1 a) s = some kd ∨ (tkd (u.2.1 a) s = none ∧ tkn (u.2.1 a) s = some kd)) (h41 : u.2.1 a ≠ 41) (hy : y ∈ u.1) (hk : u.2.1 y = kd) : WT (pSR u a s (some y)) := by
  intro x hx
  obtain ⟨h1, h2, h3, h4⟩ := h x hx
  refine ⟨fun t z hz => ?_, fun t z hz => ?_, fun q t ht => ?_, h4⟩
  · show ∃ w, (if x = a ∧ t = s then some y else u.2.2.2.2 x t) = some w ∧ w ∈ u.1 ∧ u.2.1 w = z
    by_cases q : x = a ∧ t = s
    · rw [if_pos q]
      have hz : tkd (u.2.1 x) t = some z := hz
      rw [q.1, q.2] at hz
      rcases h0 with h0 | h0
      · rw [h0] at hz; cases hz; exact ⟨y, rfl, hy, hk⟩
      · rw [h0.1] at hz; cases hz
    · rw [if_neg q]; exact h1 t z hz
  · show (if x = a ∧ t = s then some y else u.2.2.2.2 x t) = none ∨ ∃ w, (if x = a ∧ t = s then some y else u.2.2.2.2 x t) = some w ∧ w ∈ u.1 ∧ u.2.1 w = z
    by_cases q : x = a ∧ t = s
    · rw [if_pos q]
      have hz : tkn (u.2.1 x) t = some z := hz
      rw [q.1, q.2] at hz
      rcases h0 with h0 | h0
      · right
        refine ⟨y, rfl, hy, ?_⟩
        have hno : ∀ i j c d, tkd i j = some c → tkn i j = some d → False := by
          intro i j c d e1 e2
          unfold tkn at e2
          split at e2 <;> simp_all [tkd]
        exact (hno _ _ _ _ h0 hz).elim
      · rw [h0.2] at hz; cases hz; exact Or.inr ⟨y, rfl, hy, hk⟩
    · rw [if_neg q]; exact h2 t z hz
  · show ∃ w, (if x = a ∧ t = s then some y else u.2.2.2.2 x t) = some w ∧ w ∈ u.1 ∧ u.2.1 w = 7
    have q : u.2.1 x = 41 := q
    rw [if_neg (fun e => h41 (by rw [← e.1]; exact q))]
    exact h3 q t ht
theorem PX.setI {u0 u : PSt} {a s : Nat} {v : Int32} (h : PX u0 u) (h7 : u.2.1 a ≠ 7 ∧ u.2.1 a ≠ 53 ∧ u.2.1 a ≠ 60 ∧ u.2.1 a ≠ 61) : PX u0 (pSI u a s v) := by
  intro x hx
  obtain ⟨h1, h2, h3, h4, h5, h6, h8⟩ := h x hx
  refine ⟨h1, h2, fun q t => ⟨?_, (h3 q t).2⟩, h4, h5, h6, fun q t => ?_⟩
  · show (if x = a ∧ t = s then v else u.2.2.1 x t) = _
    rw [if_neg (fun e => h7.1 (by rw [← e.1, h2]; exact q))]
    exact (h3 q t).1
  · show (if x = a ∧ t = s then v else u.2.2.1 x t) = _
    rw [if_neg (fun e => by rcases q with q | q | q; exact h7.2.1 (by rw [← e.1, h2]; exact q); exact h7.2.2.1 (by rw [← e.1, h2]; exact q); exact h7.2.2.2 (by rw [← e.1, h2]; exact q))]
    exact h8 q t
theorem PX.setJ {u0 u : PSt} {a s : Nat} {v : Int64} (h : PX u0 u) : PX u0 (pSJ u a s v) := h
theorem PX.setR {u0 u : PSt} {a s : Nat} {v : Option Nat} (h : PX u0 u) (h7 : u.2.1 a ≠ 7 ∧ u.2.1 a ≠ 12) (h40 : u.2.1 a ≠ 40) (h41 : u.2.1 a ≠ 41) (h11 : u.2.1 a = 11 → 8 ≤ s) : PX u0 (pSR u a s v) := by
  intro x hx
  obtain ⟨h1, h2, h3, h4, h5, h6, h8⟩ := h x hx
  refine ⟨h1, h2, fun q t => ⟨(h3 q t).1, ?_⟩, fun q t => ?_, fun q t ht => ?_, fun q t => ?_, h8⟩
  · show (if x = a ∧ t = s then v else u.2.2.2.2 x t) = _
    rw [if_neg (fun e => h7.1 (by rw [← e.1, h2]; exact q))]
    exact (h3 q t).2
  · show (if x = a ∧ t = s then v else u.2.2.2.2 x t) = _
    rw [if_neg (fun e => by rcases q with q | q; exact h40 (by rw [← e.1, h2]; exact q); exact h41 (by rw [← e.1, h2]; exact q))]
    exact h4 q t
  · show (if x = a ∧ t = s then v else u.2.2.2.2 x t) = _
    rw [if_neg (fun e => by have := h11 (by rw [← e.1, h2]; exact q); omega)]
    exact h5 q t ht
  · show (if x = a ∧ t = s then v else u.2.2.2.2 x t) = _
    rw [if_neg (fun e => h7.2 (by rw [← e.1, h2]; exact q))]
    exact h6 q t
