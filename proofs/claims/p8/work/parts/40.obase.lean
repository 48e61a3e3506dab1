

/-- the office as a pool: its addresses, their kinds, ints, longs, references, and a rank that no instruction sees -/
abbrev oS : Type := List Nat × (Nat → Nat) × (Nat → Nat → Int32) × (Nat → Nat → Int64) × (Nat → Nat → Option Nat) × (Nat → Nat)
def oL (S : oS) : List Nat := S.1
def oK (S : oS) : Nat → Nat := S.2.1
def oI (S : oS) : Nat → Nat → Int32 := S.2.2.1
def oJ (S : oS) : Nat → Nat → Int64 := S.2.2.2.1
def oP (S : oS) : Nat → Nat → Option Nat := S.2.2.2.2.1
def oG (S : oS) : Nat → Nat := S.2.2.2.2.2
def up2 {α : Type} (f : Nat → Nat → α) (a i : Nat) (x : α) : Nat → Nat → α := fun b j => if b = a then (if j = i then x else f b j) else f b j
def setI (S : oS) (a i : Nat) (x : Int32) : oS := (S.1, S.2.1, up2 S.2.2.1 a i x, S.2.2.2.1, S.2.2.2.2.1, S.2.2.2.2.2)
def setJ (S : oS) (a i : Nat) (x : Int64) : oS := (S.1, S.2.1, S.2.2.1, up2 S.2.2.2.1 a i x, S.2.2.2.2.1, S.2.2.2.2.2)
def setP (S : oS) (a i : Nat) (x : Option Nat) : oS := (S.1, S.2.1, S.2.2.1, S.2.2.2.1, up2 S.2.2.2.2.1 a i x, S.2.2.2.2.2)
def setK (S : oS) (a k : Nat) : oS := (S.1, va_up S.2.1 a k, S.2.2.1, S.2.2.2.1, S.2.2.2.2.1, S.2.2.2.2.2)
def rks : List Nat → (Nat → Nat) → Nat
  | [], _ => 0
  | a :: l, g => g a + rks l g
def addO (S : oS) (q k : Nat) : oS := (S.1 ++ [q], va_up S.2.1 q k, va_up S.2.2.1 q (fun _ => 0), va_up S.2.2.2.1 q (fun _ => 0), va_up S.2.2.2.2.1 q (fun _ => none), va_up S.2.2.2.2.2 q (1 + rks S.1 S.2.2.2.2.2))
def oE (cq : Nat → ClassId) (S : oS) (a : Nat) : va_E := if 1000 ≤ oK S a then .inl (cq 0, oK S a - 1000, .inl (oI S a)) else if 300 ≤ oK S a then .inl (cq 0, oK S a - 300, .inl (oI S a)) else if 100 ≤ oK S a then .inl (cq 0, oK S a - 100, .inl (oI S a)) else match oK S a with
  | 0 => .inr (0, [.int (oI S a 0), .int (oI S a 1), .int (oI S a 2), va_rf (oP S a 3), va_rf (oP S a 4)])
  | 1 => .inr (1, [va_rf (oP S a 0), va_rf (oP S a 1), .int (oI S a 2), va_rf (oP S a 3), .int (oI S a 4), .int (oI S a 5), .int (oI S a 6), .int (oI S a 7), va_rf (oP S a 8), .int (oI S a 9), .int (oI S a 10), .int (oI S a 11), va_rf (oP S a 12), .int (oI S a 13), va_rf (oP S a 14), va_rf (oP S a 15), .int (oI S a 16), .int (oI S a 17)])
  | 2 => .inr (2, [.int (oI S a 0), .int (oI S a 1), .int (oI S a 2)])
  | 3 => .inr (3, [.int (oI S a 0), .int (oI S a 1), .int (oI S a 2), .int (oI S a 3), .int (oI S a 4), va_rf (oP S a 5)])
  | 4 => .inr (4, [va_rf (oP S a 0), va_rf (oP S a 1), .int (oI S a 2), va_rf (oP S a 3), .int (oI S a 4), .int (oI S a 5)])
  | 5 => .inr (5, [va_rf (oP S a 0), va_rf (oP S a 1), .int (oI S a 2)])
  | 6 => .inr (6, [.int (oI S a 0), .int (oI S a 1), .int (oI S a 2), .int (oI S a 3), va_rf (oP S a 4), .int (oI S a 5)])
  | 7 => .inr (7, [va_rf (oP S a 0), va_rf (oP S a 1)])
  | 8 => .inr (8, [va_rf (oP S a 0), .int (oI S a 1), va_rf (oP S a 2), .int (oI S a 3), .int (oI S a 4), .int (oI S a 5)])
  | 9 => .inr (9, [.int (oI S a 0), .int (oI S a 1), .int (oI S a 2), .int (oI S a 3), .int (oI S a 4), .int (oI S a 5), .int (oI S a 6), .int (oI S a 7), .int (oI S a 8), va_rf (oP S a 9)])
  | 10 => .inr (10, [.int (oI S a 0), va_rf (oP S a 1), .int (oI S a 2), va_rf (oP S a 3), .int (oI S a 4), va_rf (oP S a 5), .int (oI S a 6), .int (oI S a 7), va_rf (oP S a 8), va_rf (oP S a 9), va_rf (oP S a 10), va_rf (oP S a 11), va_rf (oP S a 12), va_rf (oP S a 13), .int (oI S a 14), va_rf (oP S a 15)])
  | 30 => .inr (0, [.int (oI S a 0), .int (oI S a 1), .int (oI S a 2), va_rf (oP S a 3), va_rf (oP S a 4)])
  | 31 => .inr (1, [va_rf (oP S a 0), va_rf (oP S a 1), .int (oI S a 2), va_rf (oP S a 3), .int (oI S a 4), .int (oI S a 5), .int (oI S a 6), .int (oI S a 7), va_rf (oP S a 8), .int (oI S a 9), .int (oI S a 10), .int (oI S a 11), va_rf (oP S a 12), .int (oI S a 13), va_rf (oP S a 14), va_rf (oP S a 15), .int (oI S a 16), .int (oI S a 17)])
  | 32 => .inr (2, [.int (oI S a 0), .int (oI S a 1), .int (oI S a 2)])
  | 33 => .inr (3, [.int (oI S a 0), .int (oI S a 1), .int (oI S a 2), .int (oI S a 3), .int (oI S a 4), va_rf (oP S a 5)])
  | 34 => .inr (4, [va_rf (oP S a 0), va_rf (oP S a 1), .int (oI S a 2), va_rf (oP S a 3), .int (oI S a 4), .int (oI S a 5)])
  | 35 => .inr (5, [va_rf (oP S a 0), va_rf (oP S a 1), .int (oI S a 2)])
  | 36 => .inr (6, [.int (oI S a 0), .int (oI S a 1), .int (oI S a 2), .int (oI S a 3), va_rf (oP S a 4), .int (oI S a 5)])
  | 37 => .inr (7, [va_rf (oP S a 0), va_rf (oP S a 1)])
  | 38 => .inr (8, [va_rf (oP S a 0), .int (oI S a 1), va_rf (oP S a 2), .int (oI S a 3), .int (oI S a 4), .int (oI S a 5)])
  | 39 => .inr (9, [.int (oI S a 0), .int (oI S a 1), .int (oI S a 2), .int (oI S a 3), .int (oI S a 4), .int (oI S a 5), .int (oI S a 6), .int (oI S a 7), .int (oI S a 8), va_rf (oP S a 9)])
  | 40 => .inr (10, [.int (oI S a 0), va_rf (oP S a 1), .int (oI S a 2), va_rf (oP S a 3), .int (oI S a 4), va_rf (oP S a 5), .int (oI S a 6), .int (oI S a 7), va_rf (oP S a 8), va_rf (oP S a 9), va_rf (oP S a 10), va_rf (oP S a 11), va_rf (oP S a 12), va_rf (oP S a 13), .int (oI S a 14), va_rf (oP S a 15)])
  | 12 => .inl (cq 2, 30, .inr (.inr (.inr (.inr (oP S a)))))
  | 13 => .inl (cq 2, 5, .inr (.inr (.inr (.inr (oP S a)))))
  | 14 => .inl (cq 3, 40, .inr (.inr (.inr (.inr (oP S a)))))
  | 15 => .inl (cq 4, 20, .inr (.inr (.inr (.inr (oP S a)))))
  | 16 => .inl (cq 5, 60, .inr (.inr (.inr (.inr (oP S a)))))
  | 17 => .inl (cq 6, 6, .inr (.inr (.inr (.inr (oP S a)))))
  | 18 => .inl (cq 1, 81, .inr (.inl (oJ S a)))
  | 61 => .inl (cq 0, 4, .inl (oI S a))
  | 62 => .inl (cq 0, 12, .inl (oI S a))
  | 63 => .inl (cq 0, 60, .inl (oI S a))
  | 64 => .inl (cq 0, 20, .inl (oI S a))
  | _ => .inl (cq 0, 0, .inl (oI S a))
def oW (cq : Nat → ClassId) (S : oS) : va_W := va_pl (oL S) (oE cq S)
def oT (cq : Nat → ClassId) : List (ClassId × FieldType) := [(cq 0, .int), (cq 1, .long), (cq 2, .object RX0), (cq 3, .object RX6), (cq 4, .object RX9), (cq 5, .object RX1), (cq 6, .object RX2)]
def oty (S : oS) (a k : Nat) : Prop := a ∈ oL S ∧ oK S a = k
theorem oE_0 {cq : Nat → ClassId} {S : oS} {a : Nat} (h : oK S a = 0) : oE cq S a = .inr (0, [.int (oI S a 0), .int (oI S a 1), .int (oI S a 2), va_rf (oP S a 3), va_rf (oP S a 4)]) := by unfold oE; rw [h]; rfl
theorem oE_1 {cq : Nat → ClassId} {S : oS} {a : Nat} (h : oK S a = 1) : oE cq S a = .inr (1, [va_rf (oP S a 0), va_rf (oP S a 1), .int (oI S a 2), va_rf (oP S a 3), .int (oI S a 4), .int (oI S a 5), .int (oI S a 6), .int (oI S a 7), va_rf (oP S a 8), .int (oI S a 9), .int (oI S a 10), .int (oI S a 11), va_rf (oP S a 12), .int (oI S a 13), va_rf (oP S a 14), va_rf (oP S a 15), .int (oI S a 16), .int (oI S a 17)]) := by unfold oE; rw [h]; rfl
theorem oE_2 {cq : Nat → ClassId} {S : oS} {a : Nat} (h : oK S a = 2) : oE cq S a = .inr (2, [.int (oI S a 0), .int (oI S a 1), .int (oI S a 2)]) := by unfold oE; rw [h]; rfl
theorem oE_3 {cq : Nat → ClassId} {S : oS} {a : Nat} (h : oK S a = 3) : oE cq S a = .inr (3, [.int (oI S a 0), .int (oI S a 1), .int (oI S a 2), .int (oI S a 3), .int (oI S a 4), va_rf (oP S a 5)]) := by unfold oE; rw [h]; rfl
theorem oE_4 {cq : Nat → ClassId} {S : oS} {a : Nat} (h : oK S a = 4) : oE cq S a = .inr (4, [va_rf (oP S a 0), va_rf (oP S a 1), .int (oI S a 2), va_rf (oP S a 3), .int (oI S a 4), .int (oI S a 5)]) := by unfold oE; rw [h]; rfl
theorem oE_5 {cq : Nat → ClassId} {S : oS} {a : Nat} (h : oK S a = 5) : oE cq S a = .inr (5, [va_rf (oP S a 0), va_rf (oP S a 1), .int (oI S a 2)]) := by unfold oE; rw [h]; rfl
theorem oE_6 {cq : Nat → ClassId} {S : oS} {a : Nat} (h : oK S a = 6) : oE cq S a = .inr (6, [.int (oI S a 0), .int (oI S a 1), .int (oI S a 2), .int (oI S a 3), va_rf (oP S a 4), .int (oI S a 5)]) := by unfold oE; rw [h]; rfl
theorem oE_7 {cq : Nat → ClassId} {S : oS} {a : Nat} (h : oK S a = 7) : oE cq S a = .inr (7, [va_rf (oP S a 0), va_rf (oP S a 1)]) := by unfold oE; rw [h]; rfl
theorem oE_8 {cq : Nat → ClassId} {S : oS} {a : Nat} (h : oK S a = 8) : oE cq S a = .inr (8, [va_rf (oP S a 0), .int (oI S a 1), va_rf (oP S a 2), .int (oI S a 3), .int (oI S a 4), .int (oI S a 5)]) := by unfold oE; rw [h]; rfl
theorem oE_9 {cq : Nat → ClassId} {S : oS} {a : Nat} (h : oK S a = 9) : oE cq S a = .inr (9, [.int (oI S a 0), .int (oI S a 1), .int (oI S a 2), .int (oI S a 3), .int (oI S a 4), .int (oI S a 5), .int (oI S a 6), .int (oI S a 7), .int (oI S a 8), va_rf (oP S a 9)]) := by unfold oE; rw [h]; rfl
theorem oE_10 {cq : Nat → ClassId} {S : oS} {a : Nat} (h : oK S a = 10) : oE cq S a = .inr (10, [.int (oI S a 0), va_rf (oP S a 1), .int (oI S a 2), va_rf (oP S a 3), .int (oI S a 4), va_rf (oP S a 5), .int (oI S a 6), .int (oI S a 7), va_rf (oP S a 8), va_rf (oP S a 9), va_rf (oP S a 10), va_rf (oP S a 11), va_rf (oP S a 12), va_rf (oP S a 13), .int (oI S a 14), va_rf (oP S a 15)]) := by unfold oE; rw [h]; rfl
theorem oE_30 {cq : Nat → ClassId} {S : oS} {a : Nat} (h : oK S a = 30) : oE cq S a = .inr (0, [.int (oI S a 0), .int (oI S a 1), .int (oI S a 2), va_rf (oP S a 3), va_rf (oP S a 4)]) := by unfold oE; rw [h]; rfl
theorem oE_31 {cq : Nat → ClassId} {S : oS} {a : Nat} (h : oK S a = 31) : oE cq S a = .inr (1, [va_rf (oP S a 0), va_rf (oP S a 1), .int (oI S a 2), va_rf (oP S a 3), .int (oI S a 4), .int (oI S a 5), .int (oI S a 6), .int (oI S a 7), va_rf (oP S a 8), .int (oI S a 9), .int (oI S a 10), .int (oI S a 11), va_rf (oP S a 12), .int (oI S a 13), va_rf (oP S a 14), va_rf (oP S a 15), .int (oI S a 16), .int (oI S a 17)]) := by unfold oE; rw [h]; rfl
theorem oE_32 {cq : Nat → ClassId} {S : oS} {a : Nat} (h : oK S a = 32) : oE cq S a = .inr (2, [.int (oI S a 0), .int (oI S a 1), .int (oI S a 2)]) := by unfold oE; rw [h]; rfl
theorem oE_33 {cq : Nat → ClassId} {S : oS} {a : Nat} (h : oK S a = 33) : oE cq S a = .inr (3, [.int (oI S a 0), .int (oI S a 1), .int (oI S a 2), .int (oI S a 3), .int (oI S a 4), va_rf (oP S a 5)]) := by unfold oE; rw [h]; rfl
theorem oE_34 {cq : Nat → ClassId} {S : oS} {a : Nat} (h : oK S a = 34) : oE cq S a = .inr (4, [va_rf (oP S a 0), va_rf (oP S a 1), .int (oI S a 2), va_rf (oP S a 3), .int (oI S a 4), .int (oI S a 5)]) := by unfold oE; rw [h]; rfl
theorem oE_35 {cq : Nat → ClassId} {S : oS} {a : Nat} (h : oK S a = 35) : oE cq S a = .inr (5, [va_rf (oP S a 0), va_rf (oP S a 1), .int (oI S a 2)]) := by unfold oE; rw [h]; rfl
theorem oE_36 {cq : Nat → ClassId} {S : oS} {a : Nat} (h : oK S a = 36) : oE cq S a = .inr (6, [.int (oI S a 0), .int (oI S a 1), .int (oI S a 2), .int (oI S a 3), va_rf (oP S a 4), .int (oI S a 5)]) := by unfold oE; rw [h]; rfl
theorem oE_37 {cq : Nat → ClassId} {S : oS} {a : Nat} (h : oK S a = 37) : oE cq S a = .inr (7, [va_rf (oP S a 0), va_rf (oP S a 1)]) := by unfold oE; rw [h]; rfl
theorem oE_38 {cq : Nat → ClassId} {S : oS} {a : Nat} (h : oK S a = 38) : oE cq S a = .inr (8, [va_rf (oP S a 0), .int (oI S a 1), va_rf (oP S a 2), .int (oI S a 3), .int (oI S a 4), .int (oI S a 5)]) := by unfold oE; rw [h]; rfl
theorem oE_39 {cq : Nat → ClassId} {S : oS} {a : Nat} (h : oK S a = 39) : oE cq S a = .inr (9, [.int (oI S a 0), .int (oI S a 1), .int (oI S a 2), .int (oI S a 3), .int (oI S a 4), .int (oI S a 5), .int (oI S a 6), .int (oI S a 7), .int (oI S a 8), va_rf (oP S a 9)]) := by unfold oE; rw [h]; rfl
theorem oE_40 {cq : Nat → ClassId} {S : oS} {a : Nat} (h : oK S a = 40) : oE cq S a = .inr (10, [.int (oI S a 0), va_rf (oP S a 1), .int (oI S a 2), va_rf (oP S a 3), .int (oI S a 4), va_rf (oP S a 5), .int (oI S a 6), .int (oI S a 7), va_rf (oP S a 8), va_rf (oP S a 9), va_rf (oP S a 10), va_rf (oP S a 11), va_rf (oP S a 12), va_rf (oP S a 13), .int (oI S a 14), va_rf (oP S a 15)]) := by unfold oE; rw [h]; rfl
theorem oE_61 {cq : Nat → ClassId} {S : oS} {a : Nat} (h : oK S a = 61) : oE cq S a = .inl (cq 0, 4, .inl (oI S a)) := by unfold oE; rw [h]; rfl
theorem oE_62 {cq : Nat → ClassId} {S : oS} {a : Nat} (h : oK S a = 62) : oE cq S a = .inl (cq 0, 12, .inl (oI S a)) := by unfold oE; rw [h]; rfl
theorem oE_63 {cq : Nat → ClassId} {S : oS} {a : Nat} (h : oK S a = 63) : oE cq S a = .inl (cq 0, 60, .inl (oI S a)) := by unfold oE; rw [h]; rfl
theorem oE_64 {cq : Nat → ClassId} {S : oS} {a : Nat} (h : oK S a = 64) : oE cq S a = .inl (cq 0, 20, .inl (oI S a)) := by unfold oE; rw [h]; rfl
theorem oE_12 {cq : Nat → ClassId} {S : oS} {a : Nat} (h : oK S a = 12) : oE cq S a = .inl (cq 2, 30, .inr (.inr (.inr (.inr (oP S a))))) := by unfold oE; rw [h]; rfl
theorem oE_13 {cq : Nat → ClassId} {S : oS} {a : Nat} (h : oK S a = 13) : oE cq S a = .inl (cq 2, 5, .inr (.inr (.inr (.inr (oP S a))))) := by unfold oE; rw [h]; rfl
theorem oE_14 {cq : Nat → ClassId} {S : oS} {a : Nat} (h : oK S a = 14) : oE cq S a = .inl (cq 3, 40, .inr (.inr (.inr (.inr (oP S a))))) := by unfold oE; rw [h]; rfl
theorem oE_15 {cq : Nat → ClassId} {S : oS} {a : Nat} (h : oK S a = 15) : oE cq S a = .inl (cq 4, 20, .inr (.inr (.inr (.inr (oP S a))))) := by unfold oE; rw [h]; rfl
theorem oE_16 {cq : Nat → ClassId} {S : oS} {a : Nat} (h : oK S a = 16) : oE cq S a = .inl (cq 5, 60, .inr (.inr (.inr (.inr (oP S a))))) := by unfold oE; rw [h]; rfl
theorem oE_17 {cq : Nat → ClassId} {S : oS} {a : Nat} (h : oK S a = 17) : oE cq S a = .inl (cq 6, 6, .inr (.inr (.inr (.inr (oP S a))))) := by unfold oE; rw [h]; rfl
theorem oE_18 {cq : Nat → ClassId} {S : oS} {a : Nat} (h : oK S a = 18) : oE cq S a = .inl (cq 1, 81, .inr (.inl (oJ S a))) := by unfold oE; rw [h]; rfl
theorem oE_as {cq : Nat → ClassId} {S : oS} {a n : Nat} (h : oK S a = 1000 + n) : oE cq S a = .inl (cq 0, n, .inl (oI S a)) := by
  unfold oE
  rw [if_pos (by omega), show oK S a - 1000 = n by omega]
theorem oE_ar {cq : Nat → ClassId} {S : oS} {a n : Nat} (h : oK S a = 300 + n) (hn : n < 700) : oE cq S a = .inl (cq 0, n, .inl (oI S a)) := by
  unfold oE
  rw [if_neg (by omega), if_pos (by omega), show oK S a - 300 = n by omega]
theorem oE_a1 {cq : Nat → ClassId} {S : oS} {a n : Nat} (h : oK S a = 100 + n) (hn : n < 200) : oE cq S a = .inl (cq 0, n, .inl (oI S a)) := by
  unfold oE
  rw [if_neg (by omega), if_neg (by omega), if_pos (by omega), show oK S a - 100 = n by omega]
theorem og {cq : Nat → ClassId} {S : oS} {a : Nat} {e : va_E} (hL : a ∈ oL S) (he : oE cq S a = e) : ∃ q0 : Nat, (oW cq S)[q0]? = some (a, e) := by
  obtain ⟨k, hk⟩ := va_pl_get (X := []) (f := oE cq S) hL
  exact ⟨k, by rw [← he]; exact hk⟩
theorem oset {cq : Nat → ClassId} {S S1 : oS} {A : Nat → Prop} {a q0 : Nat} {e0 e : va_E} (hL : a ∈ oL S) (hq : (oW cq S)[q0]? = some (a, e0)) (hD : va_D A (oW cq S)) (h1 : oL S1 = oL S) (he : oE cq S1 a = e) (hne : ∀ b, b ≠ a → oE cq S1 b = oE cq S b) : (oW cq S).set q0 (a, e) = oW cq S1 := by
  obtain ⟨k, hk⟩ := va_pl_get (X := []) (f := oE cq S) hL
  have hk' : (oW cq S)[k]? = some (a, oE cq S a) := hk
  have e1 := hD.1 q0 k _ _ hq hk' rfl
  subst e1
  have h := va_pl_set (X := []) (e := e) hD hL hk
  refine h.trans ?_
  show va_pl (oL S) (va_up (oE cq S) a e) = va_pl (oL S1) (oE cq S1)
  rw [h1]
  refine va_pl_congr (fun b => ?_)
  by_cases q : b = a
  · subst q
    rw [va_up_self]
    exact he.symm
  · exact (if_neg q).trans (hne b q).symm
theorem cP {D : va_G} {ws ws' : va_W} {H : Heap} (e : ws = ws') (h : va_P D vwCl ws H) : va_P D vwCl ws' H := by subst e; exact h
theorem cD {A : Nat → Prop} {ws ws' : va_W} (e : ws = ws') (h : va_D A ws) : va_D A ws' := by subst e; exact h
theorem setI_same {S : oS} {a i : Nat} {x : Int32} : oI (setI S a i x) a i = x := by
  show (if a = a then (if i = i then x else _) else _) = x
  rw [if_pos rfl, if_pos rfl]
theorem setI_ne {S : oS} {a i j : Nat} {x : Int32} (h : j ≠ i) : oI (setI S a i x) a j = oI S a j := by
  show (if a = a then (if j = i then x else _) else _) = _
  rw [if_pos rfl, if_neg h]
  rfl
theorem setI_oth {S : oS} {a i b : Nat} {x : Int32} (h : b ≠ a) : oI (setI S a i x) b = oI S b := funext fun _ => if_neg h
theorem setI_if {S : oS} {a i b j : Nat} {x : Int32} (h : ¬ (b = a ∧ j = i)) : oI (setI S a i x) b j = oI S b j := by
  by_cases q : b = a
  · subst q
    exact setI_ne (fun e => h ⟨rfl, e⟩)
  · rw [setI_oth q]
theorem setI_fun {S : oS} {a i : Nat} {x : Int32} : oI (setI S a i x) a = upd (oI S a) i x := funext fun j => by
  show (if a = a then (if j = i then x else _) else _) = (if j = i then x else _)
  rw [if_pos rfl]
  rfl
theorem setJ_fun {S : oS} {a i : Nat} {x : Int64} : oJ (setJ S a i x) a = vp_updL (oJ S a) i x := funext fun j => by
  show (if a = a then (if j = i then x else _) else _) = (if j = i then x else _)
  rw [if_pos rfl]
  rfl
theorem setJ_oth {S : oS} {a i b : Nat} {x : Int64} (h : b ≠ a) : oJ (setJ S a i x) b = oJ S b := funext fun _ => if_neg h
theorem setP_same {S : oS} {a i : Nat} {x : Option Nat} : oP (setP S a i x) a i = x := by
  show (if a = a then (if i = i then x else _) else _) = x
  rw [if_pos rfl, if_pos rfl]
theorem setP_ne {S : oS} {a i j : Nat} {x : Option Nat} (h : j ≠ i) : oP (setP S a i x) a j = oP S a j := by
  show (if a = a then (if j = i then x else _) else _) = _
  rw [if_pos rfl, if_neg h]
  rfl
theorem setP_oth {S : oS} {a i b : Nat} {x : Option Nat} (h : b ≠ a) : oP (setP S a i x) b = oP S b := funext fun _ => if_neg h
theorem setP_if {S : oS} {a i b j : Nat} {x : Option Nat} (h : ¬ (b = a ∧ j = i)) : oP (setP S a i x) b j = oP S b j := by
  by_cases q : b = a
  · subst q
    exact setP_ne (fun e => h ⟨rfl, e⟩)
  · rw [setP_oth q]
theorem setP_fun {S : oS} {a i : Nat} {x : Option Nat} : oP (setP S a i x) a = va_up (oP S a) i x := funext fun j => by
  show (if a = a then (if j = i then x else _) else _) = (if j = i then x else _)
  rw [if_pos rfl]
  rfl
theorem neI {cq : Nat → ClassId} {S : oS} {a i : Nat} {x : Int32} : ∀ b, b ≠ a → oE cq (setI S a i x) b = oE cq S b := fun b h => by
  unfold oE
  rw [setI_oth h]
  rfl
theorem neJ {cq : Nat → ClassId} {S : oS} {a i : Nat} {x : Int64} : ∀ b, b ≠ a → oE cq (setJ S a i x) b = oE cq S b := fun b h => by
  unfold oE
  rw [setJ_oth h]
  rfl
theorem neP {cq : Nat → ClassId} {S : oS} {a i : Nat} {x : Option Nat} : ∀ b, b ≠ a → oE cq (setP S a i x) b = oE cq S b := fun b h => by
  unfold oE
  rw [setP_oth h]
  rfl
theorem he_1_4 {cq : Nat → ClassId} {S : oS} {a : Nat} {x : Int32} (h : oK S a = 1) : oE cq (setI S a 4 x) a = .inr (1, [va_rf (oP S a 0), va_rf (oP S a 1), .int (oI S a 2), va_rf (oP S a 3), .int x, .int (oI S a 5), .int (oI S a 6), .int (oI S a 7), va_rf (oP S a 8), .int (oI S a 9), .int (oI S a 10), .int (oI S a 11), va_rf (oP S a 12), .int (oI S a 13), va_rf (oP S a 14), va_rf (oP S a 15), .int (oI S a 16), .int (oI S a 17)]) := by
  rw [oE_1 (S := setI S a 4 x) h, setI_ne (S := S) (a := a) (i := 4) (j := 2) (x := x) (by decide +kernel), setI_same, setI_ne (S := S) (a := a) (i := 4) (j := 5) (x := x) (by decide +kernel), setI_ne (S := S) (a := a) (i := 4) (j := 6) (x := x) (by decide +kernel), setI_ne (S := S) (a := a) (i := 4) (j := 7) (x := x) (by decide +kernel), setI_ne (S := S) (a := a) (i := 4) (j := 9) (x := x) (by decide +kernel), setI_ne (S := S) (a := a) (i := 4) (j := 10) (x := x) (by decide +kernel), setI_ne (S := S) (a := a) (i := 4) (j := 11) (x := x) (by decide +kernel), setI_ne (S := S) (a := a) (i := 4) (j := 13) (x := x) (by decide +kernel), setI_ne (S := S) (a := a) (i := 4) (j := 16) (x := x) (by decide +kernel), setI_ne (S := S) (a := a) (i := 4) (j := 17) (x := x) (by decide +kernel)]
  try rfl
theorem he_1_5 {cq : Nat → ClassId} {S : oS} {a : Nat} {x : Int32} (h : oK S a = 1) : oE cq (setI S a 5 x) a = .inr (1, [va_rf (oP S a 0), va_rf (oP S a 1), .int (oI S a 2), va_rf (oP S a 3), .int (oI S a 4), .int x, .int (oI S a 6), .int (oI S a 7), va_rf (oP S a 8), .int (oI S a 9), .int (oI S a 10), .int (oI S a 11), va_rf (oP S a 12), .int (oI S a 13), va_rf (oP S a 14), va_rf (oP S a 15), .int (oI S a 16), .int (oI S a 17)]) := by
  rw [oE_1 (S := setI S a 5 x) h, setI_ne (S := S) (a := a) (i := 5) (j := 2) (x := x) (by decide +kernel), setI_ne (S := S) (a := a) (i := 5) (j := 4) (x := x) (by decide +kernel), setI_same, setI_ne (S := S) (a := a) (i := 5) (j := 6) (x := x) (by decide +kernel), setI_ne (S := S) (a := a) (i := 5) (j := 7) (x := x) (by decide +kernel), setI_ne (S := S) (a := a) (i := 5) (j := 9) (x := x) (by decide +kernel), setI_ne (S := S) (a := a) (i := 5) (j := 10) (x := x) (by decide +kernel), setI_ne (S := S) (a := a) (i := 5) (j := 11) (x := x) (by decide +kernel), setI_ne (S := S) (a := a) (i := 5) (j := 13) (x := x) (by decide +kernel), setI_ne (S := S) (a := a) (i := 5) (j := 16) (x := x) (by decide +kernel), setI_ne (S := S) (a := a) (i := 5) (j := 17) (x := x) (by decide +kernel)]
  try rfl
theorem he_1_6 {cq : Nat → ClassId} {S : oS} {a : Nat} {x : Int32} (h : oK S a = 1) : oE cq (setI S a 6 x) a = .inr (1, [va_rf (oP S a 0), va_rf (oP S a 1), .int (oI S a 2), va_rf (oP S a 3), .int (oI S a 4), .int (oI S a 5), .int x, .int (oI S a 7), va_rf (oP S a 8), .int (oI S a 9), .int (oI S a 10), .int (oI S a 11), va_rf (oP S a 12), .int (oI S a 13), va_rf (oP S a 14), va_rf (oP S a 15), .int (oI S a 16), .int (oI S a 17)]) := by
  rw [oE_1 (S := setI S a 6 x) h, setI_ne (S := S) (a := a) (i := 6) (j := 2) (x := x) (by decide +kernel), setI_ne (S := S) (a := a) (i := 6) (j := 4) (x := x) (by decide +kernel), setI_ne (S := S) (a := a) (i := 6) (j := 5) (x := x) (by decide +kernel), setI_same, setI_ne (S := S) (a := a) (i := 6) (j := 7) (x := x) (by decide +kernel), setI_ne (S := S) (a := a) (i := 6) (j := 9) (x := x) (by decide +kernel), setI_ne (S := S) (a := a) (i := 6) (j := 10) (x := x) (by decide +kernel), setI_ne (S := S) (a := a) (i := 6) (j := 11) (x := x) (by decide +kernel), setI_ne (S := S) (a := a) (i := 6) (j := 13) (x := x) (by decide +kernel), setI_ne (S := S) (a := a) (i := 6) (j := 16) (x := x) (by decide +kernel), setI_ne (S := S) (a := a) (i := 6) (j := 17) (x := x) (by decide +kernel)]
  try rfl
theorem he_1_7 {cq : Nat → ClassId} {S : oS} {a : Nat} {x : Int32} (h : oK S a = 1) : oE cq (setI S a 7 x) a = .inr (1, [va_rf (oP S a 0), va_rf (oP S a 1), .int (oI S a 2), va_rf (oP S a 3), .int (oI S a 4), .int (oI S a 5), .int (oI S a 6), .int x, va_rf (oP S a 8), .int (oI S a 9), .int (oI S a 10), .int (oI S a 11), va_rf (oP S a 12), .int (oI S a 13), va_rf (oP S a 14), va_rf (oP S a 15), .int (oI S a 16), .int (oI S a 17)]) := by
  rw [oE_1 (S := setI S a 7 x) h, setI_ne (S := S) (a := a) (i := 7) (j := 2) (x := x) (by decide +kernel), setI_ne (S := S) (a := a) (i := 7) (j := 4) (x := x) (by decide +kernel), setI_ne (S := S) (a := a) (i := 7) (j := 5) (x := x) (by decide +kernel), setI_ne (S := S) (a := a) (i := 7) (j := 6) (x := x) (by decide +kernel), setI_same, setI_ne (S := S) (a := a) (i := 7) (j := 9) (x := x) (by decide +kernel), setI_ne (S := S) (a := a) (i := 7) (j := 10) (x := x) (by decide +kernel), setI_ne (S := S) (a := a) (i := 7) (j := 11) (x := x) (by decide +kernel), setI_ne (S := S) (a := a) (i := 7) (j := 13) (x := x) (by decide +kernel), setI_ne (S := S) (a := a) (i := 7) (j := 16) (x := x) (by decide +kernel), setI_ne (S := S) (a := a) (i := 7) (j := 17) (x := x) (by decide +kernel)]
  try rfl
theorem he_1_8 {cq : Nat → ClassId} {S : oS} {a : Nat} {x : Option Nat} (h : oK S a = 1) : oE cq (setP S a 8 x) a = .inr (1, [va_rf (oP S a 0), va_rf (oP S a 1), .int (oI S a 2), va_rf (oP S a 3), .int (oI S a 4), .int (oI S a 5), .int (oI S a 6), .int (oI S a 7), va_rf x, .int (oI S a 9), .int (oI S a 10), .int (oI S a 11), va_rf (oP S a 12), .int (oI S a 13), va_rf (oP S a 14), va_rf (oP S a 15), .int (oI S a 16), .int (oI S a 17)]) := by
  rw [oE_1 (S := setP S a 8 x) h, setP_ne (S := S) (a := a) (i := 8) (j := 0) (x := x) (by decide +kernel), setP_ne (S := S) (a := a) (i := 8) (j := 1) (x := x) (by decide +kernel), setP_ne (S := S) (a := a) (i := 8) (j := 3) (x := x) (by decide +kernel), setP_same, setP_ne (S := S) (a := a) (i := 8) (j := 12) (x := x) (by decide +kernel), setP_ne (S := S) (a := a) (i := 8) (j := 14) (x := x) (by decide +kernel), setP_ne (S := S) (a := a) (i := 8) (j := 15) (x := x) (by decide +kernel)]
  try rfl
theorem he_1_9 {cq : Nat → ClassId} {S : oS} {a : Nat} {x : Int32} (h : oK S a = 1) : oE cq (setI S a 9 x) a = .inr (1, [va_rf (oP S a 0), va_rf (oP S a 1), .int (oI S a 2), va_rf (oP S a 3), .int (oI S a 4), .int (oI S a 5), .int (oI S a 6), .int (oI S a 7), va_rf (oP S a 8), .int x, .int (oI S a 10), .int (oI S a 11), va_rf (oP S a 12), .int (oI S a 13), va_rf (oP S a 14), va_rf (oP S a 15), .int (oI S a 16), .int (oI S a 17)]) := by
  rw [oE_1 (S := setI S a 9 x) h, setI_ne (S := S) (a := a) (i := 9) (j := 2) (x := x) (by decide +kernel), setI_ne (S := S) (a := a) (i := 9) (j := 4) (x := x) (by decide +kernel), setI_ne (S := S) (a := a) (i := 9) (j := 5) (x := x) (by decide +kernel), setI_ne (S := S) (a := a) (i := 9) (j := 6) (x := x) (by decide +kernel), setI_ne (S := S) (a := a) (i := 9) (j := 7) (x := x) (by decide +kernel), setI_same, setI_ne (S := S) (a := a) (i := 9) (j := 10) (x := x) (by decide +kernel), setI_ne (S := S) (a := a) (i := 9) (j := 11) (x := x) (by decide +kernel), setI_ne (S := S) (a := a) (i := 9) (j := 13) (x := x) (by decide +kernel), setI_ne (S := S) (a := a) (i := 9) (j := 16) (x := x) (by decide +kernel), setI_ne (S := S) (a := a) (i := 9) (j := 17) (x := x) (by decide +kernel)]
  try rfl
theorem he_1_10 {cq : Nat → ClassId} {S : oS} {a : Nat} {x : Int32} (h : oK S a = 1) : oE cq (setI S a 10 x) a = .inr (1, [va_rf (oP S a 0), va_rf (oP S a 1), .int (oI S a 2), va_rf (oP S a 3), .int (oI S a 4), .int (oI S a 5), .int (oI S a 6), .int (oI S a 7), va_rf (oP S a 8), .int (oI S a 9), .int x, .int (oI S a 11), va_rf (oP S a 12), .int (oI S a 13), va_rf (oP S a 14), va_rf (oP S a 15), .int (oI S a 16), .int (oI S a 17)]) := by
  rw [oE_1 (S := setI S a 10 x) h, setI_ne (S := S) (a := a) (i := 10) (j := 2) (x := x) (by decide +kernel), setI_ne (S := S) (a := a) (i := 10) (j := 4) (x := x) (by decide +kernel), setI_ne (S := S) (a := a) (i := 10) (j := 5) (x := x) (by decide +kernel), setI_ne (S := S) (a := a) (i := 10) (j := 6) (x := x) (by decide +kernel), setI_ne (S := S) (a := a) (i := 10) (j := 7) (x := x) (by decide +kernel), setI_ne (S := S) (a := a) (i := 10) (j := 9) (x := x) (by decide +kernel), setI_same, setI_ne (S := S) (a := a) (i := 10) (j := 11) (x := x) (by decide +kernel), setI_ne (S := S) (a := a) (i := 10) (j := 13) (x := x) (by decide +kernel), setI_ne (S := S) (a := a) (i := 10) (j := 16) (x := x) (by decide +kernel), setI_ne (S := S) (a := a) (i := 10) (j := 17) (x := x) (by decide +kernel)]
  try rfl
theorem he_1_11 {cq : Nat → ClassId} {S : oS} {a : Nat} {x : Int32} (h : oK S a = 1) : oE cq (setI S a 11 x) a = .inr (1, [va_rf (oP S a 0), va_rf (oP S a 1), .int (oI S a 2), va_rf (oP S a 3), .int (oI S a 4), .int (oI S a 5), .int (oI S a 6), .int (oI S a 7), va_rf (oP S a 8), .int (oI S a 9), .int (oI S a 10), .int x, va_rf (oP S a 12), .int (oI S a 13), va_rf (oP S a 14), va_rf (oP S a 15), .int (oI S a 16), .int (oI S a 17)]) := by
  rw [oE_1 (S := setI S a 11 x) h, setI_ne (S := S) (a := a) (i := 11) (j := 2) (x := x) (by decide +kernel), setI_ne (S := S) (a := a) (i := 11) (j := 4) (x := x) (by decide +kernel), setI_ne (S := S) (a := a) (i := 11) (j := 5) (x := x) (by decide +kernel), setI_ne (S := S) (a := a) (i := 11) (j := 6) (x := x) (by decide +kernel), setI_ne (S := S) (a := a) (i := 11) (j := 7) (x := x) (by decide +kernel), setI_ne (S := S) (a := a) (i := 11) (j := 9) (x := x) (by decide +kernel), setI_ne (S := S) (a := a) (i := 11) (j := 10) (x := x) (by decide +kernel), setI_same, setI_ne (S := S) (a := a) (i := 11) (j := 13) (x := x) (by decide +kernel), setI_ne (S := S) (a := a) (i := 11) (j := 16) (x := x) (by decide +kernel), setI_ne (S := S) (a := a) (i := 11) (j := 17) (x := x) (by decide +kernel)]
  try rfl
theorem he_1_13 {cq : Nat → ClassId} {S : oS} {a : Nat} {x : Int32} (h : oK S a = 1) : oE cq (setI S a 13 x) a = .inr (1, [va_rf (oP S a 0), va_rf (oP S a 1), .int (oI S a 2), va_rf (oP S a 3), .int (oI S a 4), .int (oI S a 5), .int (oI S a 6), .int (oI S a 7), va_rf (oP S a 8), .int (oI S a 9), .int (oI S a 10), .int (oI S a 11), va_rf (oP S a 12), .int x, va_rf (oP S a 14), va_rf (oP S a 15), .int (oI S a 16), .int (oI S a 17)]) := by
  rw [oE_1 (S := setI S a 13 x) h, setI_ne (S := S) (a := a) (i := 13) (j := 2) (x := x) (by decide +kernel), setI_ne (S := S) (a := a) (i := 13) (j := 4) (x := x) (by decide +kernel), setI_ne (S := S) (a := a) (i := 13) (j := 5) (x := x) (by decide +kernel), setI_ne (S := S) (a := a) (i := 13) (j := 6) (x := x) (by decide +kernel), setI_ne (S := S) (a := a) (i := 13) (j := 7) (x := x) (by decide +kernel), setI_ne (S := S) (a := a) (i := 13) (j := 9) (x := x) (by decide +kernel), setI_ne (S := S) (a := a) (i := 13) (j := 10) (x := x) (by decide +kernel), setI_ne (S := S) (a := a) (i := 13) (j := 11) (x := x) (by decide +kernel), setI_same, setI_ne (S := S) (a := a) (i := 13) (j := 16) (x := x) (by decide +kernel), setI_ne (S := S) (a := a) (i := 13) (j := 17) (x := x) (by decide +kernel)]
  try rfl
theorem he_1_16 {cq : Nat → ClassId} {S : oS} {a : Nat} {x : Int32} (h : oK S a = 1) : oE cq (setI S a 16 x) a = .inr (1, [va_rf (oP S a 0), va_rf (oP S a 1), .int (oI S a 2), va_rf (oP S a 3), .int (oI S a 4), .int (oI S a 5), .int (oI S a 6), .int (oI S a 7), va_rf (oP S a 8), .int (oI S a 9), .int (oI S a 10), .int (oI S a 11), va_rf (oP S a 12), .int (oI S a 13), va_rf (oP S a 14), va_rf (oP S a 15), .int x, .int (oI S a 17)]) := by
  rw [oE_1 (S := setI S a 16 x) h, setI_ne (S := S) (a := a) (i := 16) (j := 2) (x := x) (by decide +kernel), setI_ne (S := S) (a := a) (i := 16) (j := 4) (x := x) (by decide +kernel), setI_ne (S := S) (a := a) (i := 16) (j := 5) (x := x) (by decide +kernel), setI_ne (S := S) (a := a) (i := 16) (j := 6) (x := x) (by decide +kernel), setI_ne (S := S) (a := a) (i := 16) (j := 7) (x := x) (by decide +kernel), setI_ne (S := S) (a := a) (i := 16) (j := 9) (x := x) (by decide +kernel), setI_ne (S := S) (a := a) (i := 16) (j := 10) (x := x) (by decide +kernel), setI_ne (S := S) (a := a) (i := 16) (j := 11) (x := x) (by decide +kernel), setI_ne (S := S) (a := a) (i := 16) (j := 13) (x := x) (by decide +kernel), setI_same, setI_ne (S := S) (a := a) (i := 16) (j := 17) (x := x) (by decide +kernel)]
  try rfl
theorem he_1_17 {cq : Nat → ClassId} {S : oS} {a : Nat} {x : Int32} (h : oK S a = 1) : oE cq (setI S a 17 x) a = .inr (1, [va_rf (oP S a 0), va_rf (oP S a 1), .int (oI S a 2), va_rf (oP S a 3), .int (oI S a 4), .int (oI S a 5), .int (oI S a 6), .int (oI S a 7), va_rf (oP S a 8), .int (oI S a 9), .int (oI S a 10), .int (oI S a 11), va_rf (oP S a 12), .int (oI S a 13), va_rf (oP S a 14), va_rf (oP S a 15), .int (oI S a 16), .int x]) := by
  rw [oE_1 (S := setI S a 17 x) h, setI_ne (S := S) (a := a) (i := 17) (j := 2) (x := x) (by decide +kernel), setI_ne (S := S) (a := a) (i := 17) (j := 4) (x := x) (by decide +kernel), setI_ne (S := S) (a := a) (i := 17) (j := 5) (x := x) (by decide +kernel), setI_ne (S := S) (a := a) (i := 17) (j := 6) (x := x) (by decide +kernel), setI_ne (S := S) (a := a) (i := 17) (j := 7) (x := x) (by decide +kernel), setI_ne (S := S) (a := a) (i := 17) (j := 9) (x := x) (by decide +kernel), setI_ne (S := S) (a := a) (i := 17) (j := 10) (x := x) (by decide +kernel), setI_ne (S := S) (a := a) (i := 17) (j := 11) (x := x) (by decide +kernel), setI_ne (S := S) (a := a) (i := 17) (j := 13) (x := x) (by decide +kernel), setI_ne (S := S) (a := a) (i := 17) (j := 16) (x := x) (by decide +kernel), setI_same]
  try rfl
theorem he_2_2 {cq : Nat → ClassId} {S : oS} {a : Nat} {x : Int32} (h : oK S a = 2) : oE cq (setI S a 2 x) a = .inr (2, [.int (oI S a 0), .int (oI S a 1), .int x]) := by
  rw [oE_2 (S := setI S a 2 x) h, setI_ne (S := S) (a := a) (i := 2) (j := 0) (x := x) (by decide +kernel), setI_ne (S := S) (a := a) (i := 2) (j := 1) (x := x) (by decide +kernel), setI_same]
  try rfl
theorem he_4_2 {cq : Nat → ClassId} {S : oS} {a : Nat} {x : Int32} (h : oK S a = 4) : oE cq (setI S a 2 x) a = .inr (4, [va_rf (oP S a 0), va_rf (oP S a 1), .int x, va_rf (oP S a 3), .int (oI S a 4), .int (oI S a 5)]) := by
  rw [oE_4 (S := setI S a 2 x) h, setI_same, setI_ne (S := S) (a := a) (i := 2) (j := 4) (x := x) (by decide +kernel), setI_ne (S := S) (a := a) (i := 2) (j := 5) (x := x) (by decide +kernel)]
  try rfl
theorem he_4_4 {cq : Nat → ClassId} {S : oS} {a : Nat} {x : Int32} (h : oK S a = 4) : oE cq (setI S a 4 x) a = .inr (4, [va_rf (oP S a 0), va_rf (oP S a 1), .int (oI S a 2), va_rf (oP S a 3), .int x, .int (oI S a 5)]) := by
  rw [oE_4 (S := setI S a 4 x) h, setI_ne (S := S) (a := a) (i := 4) (j := 2) (x := x) (by decide +kernel), setI_same, setI_ne (S := S) (a := a) (i := 4) (j := 5) (x := x) (by decide +kernel)]
  try rfl
theorem he_4_5 {cq : Nat → ClassId} {S : oS} {a : Nat} {x : Int32} (h : oK S a = 4) : oE cq (setI S a 5 x) a = .inr (4, [va_rf (oP S a 0), va_rf (oP S a 1), .int (oI S a 2), va_rf (oP S a 3), .int (oI S a 4), .int x]) := by
  rw [oE_4 (S := setI S a 5 x) h, setI_ne (S := S) (a := a) (i := 5) (j := 2) (x := x) (by decide +kernel), setI_ne (S := S) (a := a) (i := 5) (j := 4) (x := x) (by decide +kernel), setI_same]
  try rfl
theorem he_5_2 {cq : Nat → ClassId} {S : oS} {a : Nat} {x : Int32} (h : oK S a = 5) : oE cq (setI S a 2 x) a = .inr (5, [va_rf (oP S a 0), va_rf (oP S a 1), .int x]) := by
  rw [oE_5 (S := setI S a 2 x) h, setI_same]
  try rfl
theorem he_6_5 {cq : Nat → ClassId} {S : oS} {a : Nat} {x : Int32} (h : oK S a = 6) : oE cq (setI S a 5 x) a = .inr (6, [.int (oI S a 0), .int (oI S a 1), .int (oI S a 2), .int (oI S a 3), va_rf (oP S a 4), .int x]) := by
  rw [oE_6 (S := setI S a 5 x) h, setI_ne (S := S) (a := a) (i := 5) (j := 0) (x := x) (by decide +kernel), setI_ne (S := S) (a := a) (i := 5) (j := 1) (x := x) (by decide +kernel), setI_ne (S := S) (a := a) (i := 5) (j := 2) (x := x) (by decide +kernel), setI_ne (S := S) (a := a) (i := 5) (j := 3) (x := x) (by decide +kernel), setI_same]
  try rfl
theorem he_8_1 {cq : Nat → ClassId} {S : oS} {a : Nat} {x : Int32} (h : oK S a = 8) : oE cq (setI S a 1 x) a = .inr (8, [va_rf (oP S a 0), .int x, va_rf (oP S a 2), .int (oI S a 3), .int (oI S a 4), .int (oI S a 5)]) := by
  rw [oE_8 (S := setI S a 1 x) h, setI_same, setI_ne (S := S) (a := a) (i := 1) (j := 3) (x := x) (by decide +kernel), setI_ne (S := S) (a := a) (i := 1) (j := 4) (x := x) (by decide +kernel), setI_ne (S := S) (a := a) (i := 1) (j := 5) (x := x) (by decide +kernel)]
  try rfl
theorem he_8_3 {cq : Nat → ClassId} {S : oS} {a : Nat} {x : Int32} (h : oK S a = 8) : oE cq (setI S a 3 x) a = .inr (8, [va_rf (oP S a 0), .int (oI S a 1), va_rf (oP S a 2), .int x, .int (oI S a 4), .int (oI S a 5)]) := by
  rw [oE_8 (S := setI S a 3 x) h, setI_ne (S := S) (a := a) (i := 3) (j := 1) (x := x) (by decide +kernel), setI_same, setI_ne (S := S) (a := a) (i := 3) (j := 4) (x := x) (by decide +kernel), setI_ne (S := S) (a := a) (i := 3) (j := 5) (x := x) (by decide +kernel)]
  try rfl
theorem he_8_4 {cq : Nat → ClassId} {S : oS} {a : Nat} {x : Int32} (h : oK S a = 8) : oE cq (setI S a 4 x) a = .inr (8, [va_rf (oP S a 0), .int (oI S a 1), va_rf (oP S a 2), .int (oI S a 3), .int x, .int (oI S a 5)]) := by
  rw [oE_8 (S := setI S a 4 x) h, setI_ne (S := S) (a := a) (i := 4) (j := 1) (x := x) (by decide +kernel), setI_ne (S := S) (a := a) (i := 4) (j := 3) (x := x) (by decide +kernel), setI_same, setI_ne (S := S) (a := a) (i := 4) (j := 5) (x := x) (by decide +kernel)]
  try rfl
theorem he_8_5 {cq : Nat → ClassId} {S : oS} {a : Nat} {x : Int32} (h : oK S a = 8) : oE cq (setI S a 5 x) a = .inr (8, [va_rf (oP S a 0), .int (oI S a 1), va_rf (oP S a 2), .int (oI S a 3), .int (oI S a 4), .int x]) := by
  rw [oE_8 (S := setI S a 5 x) h, setI_ne (S := S) (a := a) (i := 5) (j := 1) (x := x) (by decide +kernel), setI_ne (S := S) (a := a) (i := 5) (j := 3) (x := x) (by decide +kernel), setI_ne (S := S) (a := a) (i := 5) (j := 4) (x := x) (by decide +kernel), setI_same]
  try rfl
theorem he_9_4 {cq : Nat → ClassId} {S : oS} {a : Nat} {x : Int32} (h : oK S a = 9) : oE cq (setI S a 4 x) a = .inr (9, [.int (oI S a 0), .int (oI S a 1), .int (oI S a 2), .int (oI S a 3), .int x, .int (oI S a 5), .int (oI S a 6), .int (oI S a 7), .int (oI S a 8), va_rf (oP S a 9)]) := by
  rw [oE_9 (S := setI S a 4 x) h, setI_ne (S := S) (a := a) (i := 4) (j := 0) (x := x) (by decide +kernel), setI_ne (S := S) (a := a) (i := 4) (j := 1) (x := x) (by decide +kernel), setI_ne (S := S) (a := a) (i := 4) (j := 2) (x := x) (by decide +kernel), setI_ne (S := S) (a := a) (i := 4) (j := 3) (x := x) (by decide +kernel), setI_same, setI_ne (S := S) (a := a) (i := 4) (j := 5) (x := x) (by decide +kernel), setI_ne (S := S) (a := a) (i := 4) (j := 6) (x := x) (by decide +kernel), setI_ne (S := S) (a := a) (i := 4) (j := 7) (x := x) (by decide +kernel), setI_ne (S := S) (a := a) (i := 4) (j := 8) (x := x) (by decide +kernel)]
  try rfl
theorem he_9_5 {cq : Nat → ClassId} {S : oS} {a : Nat} {x : Int32} (h : oK S a = 9) : oE cq (setI S a 5 x) a = .inr (9, [.int (oI S a 0), .int (oI S a 1), .int (oI S a 2), .int (oI S a 3), .int (oI S a 4), .int x, .int (oI S a 6), .int (oI S a 7), .int (oI S a 8), va_rf (oP S a 9)]) := by
  rw [oE_9 (S := setI S a 5 x) h, setI_ne (S := S) (a := a) (i := 5) (j := 0) (x := x) (by decide +kernel), setI_ne (S := S) (a := a) (i := 5) (j := 1) (x := x) (by decide +kernel), setI_ne (S := S) (a := a) (i := 5) (j := 2) (x := x) (by decide +kernel), setI_ne (S := S) (a := a) (i := 5) (j := 3) (x := x) (by decide +kernel), setI_ne (S := S) (a := a) (i := 5) (j := 4) (x := x) (by decide +kernel), setI_same, setI_ne (S := S) (a := a) (i := 5) (j := 6) (x := x) (by decide +kernel), setI_ne (S := S) (a := a) (i := 5) (j := 7) (x := x) (by decide +kernel), setI_ne (S := S) (a := a) (i := 5) (j := 8) (x := x) (by decide +kernel)]
  try rfl
theorem he_9_6 {cq : Nat → ClassId} {S : oS} {a : Nat} {x : Int32} (h : oK S a = 9) : oE cq (setI S a 6 x) a = .inr (9, [.int (oI S a 0), .int (oI S a 1), .int (oI S a 2), .int (oI S a 3), .int (oI S a 4), .int (oI S a 5), .int x, .int (oI S a 7), .int (oI S a 8), va_rf (oP S a 9)]) := by
  rw [oE_9 (S := setI S a 6 x) h, setI_ne (S := S) (a := a) (i := 6) (j := 0) (x := x) (by decide +kernel), setI_ne (S := S) (a := a) (i := 6) (j := 1) (x := x) (by decide +kernel), setI_ne (S := S) (a := a) (i := 6) (j := 2) (x := x) (by decide +kernel), setI_ne (S := S) (a := a) (i := 6) (j := 3) (x := x) (by decide +kernel), setI_ne (S := S) (a := a) (i := 6) (j := 4) (x := x) (by decide +kernel), setI_ne (S := S) (a := a) (i := 6) (j := 5) (x := x) (by decide +kernel), setI_same, setI_ne (S := S) (a := a) (i := 6) (j := 7) (x := x) (by decide +kernel), setI_ne (S := S) (a := a) (i := 6) (j := 8) (x := x) (by decide +kernel)]
  try rfl
theorem he_9_7 {cq : Nat → ClassId} {S : oS} {a : Nat} {x : Int32} (h : oK S a = 9) : oE cq (setI S a 7 x) a = .inr (9, [.int (oI S a 0), .int (oI S a 1), .int (oI S a 2), .int (oI S a 3), .int (oI S a 4), .int (oI S a 5), .int (oI S a 6), .int x, .int (oI S a 8), va_rf (oP S a 9)]) := by
  rw [oE_9 (S := setI S a 7 x) h, setI_ne (S := S) (a := a) (i := 7) (j := 0) (x := x) (by decide +kernel), setI_ne (S := S) (a := a) (i := 7) (j := 1) (x := x) (by decide +kernel), setI_ne (S := S) (a := a) (i := 7) (j := 2) (x := x) (by decide +kernel), setI_ne (S := S) (a := a) (i := 7) (j := 3) (x := x) (by decide +kernel), setI_ne (S := S) (a := a) (i := 7) (j := 4) (x := x) (by decide +kernel), setI_ne (S := S) (a := a) (i := 7) (j := 5) (x := x) (by decide +kernel), setI_ne (S := S) (a := a) (i := 7) (j := 6) (x := x) (by decide +kernel), setI_same, setI_ne (S := S) (a := a) (i := 7) (j := 8) (x := x) (by decide +kernel)]
  try rfl
theorem he_9_8 {cq : Nat → ClassId} {S : oS} {a : Nat} {x : Int32} (h : oK S a = 9) : oE cq (setI S a 8 x) a = .inr (9, [.int (oI S a 0), .int (oI S a 1), .int (oI S a 2), .int (oI S a 3), .int (oI S a 4), .int (oI S a 5), .int (oI S a 6), .int (oI S a 7), .int x, va_rf (oP S a 9)]) := by
  rw [oE_9 (S := setI S a 8 x) h, setI_ne (S := S) (a := a) (i := 8) (j := 0) (x := x) (by decide +kernel), setI_ne (S := S) (a := a) (i := 8) (j := 1) (x := x) (by decide +kernel), setI_ne (S := S) (a := a) (i := 8) (j := 2) (x := x) (by decide +kernel), setI_ne (S := S) (a := a) (i := 8) (j := 3) (x := x) (by decide +kernel), setI_ne (S := S) (a := a) (i := 8) (j := 4) (x := x) (by decide +kernel), setI_ne (S := S) (a := a) (i := 8) (j := 5) (x := x) (by decide +kernel), setI_ne (S := S) (a := a) (i := 8) (j := 6) (x := x) (by decide +kernel), setI_ne (S := S) (a := a) (i := 8) (j := 7) (x := x) (by decide +kernel), setI_same]
  try rfl
theorem he_9_9 {cq : Nat → ClassId} {S : oS} {a : Nat} {x : Option Nat} (h : oK S a = 9) : oE cq (setP S a 9 x) a = .inr (9, [.int (oI S a 0), .int (oI S a 1), .int (oI S a 2), .int (oI S a 3), .int (oI S a 4), .int (oI S a 5), .int (oI S a 6), .int (oI S a 7), .int (oI S a 8), va_rf x]) := by
  rw [oE_9 (S := setP S a 9 x) h, setP_same]
  try rfl
theorem he_10_0 {cq : Nat → ClassId} {S : oS} {a : Nat} {x : Int32} (h : oK S a = 10) : oE cq (setI S a 0 x) a = .inr (10, [.int x, va_rf (oP S a 1), .int (oI S a 2), va_rf (oP S a 3), .int (oI S a 4), va_rf (oP S a 5), .int (oI S a 6), .int (oI S a 7), va_rf (oP S a 8), va_rf (oP S a 9), va_rf (oP S a 10), va_rf (oP S a 11), va_rf (oP S a 12), va_rf (oP S a 13), .int (oI S a 14), va_rf (oP S a 15)]) := by
  rw [oE_10 (S := setI S a 0 x) h, setI_same, setI_ne (S := S) (a := a) (i := 0) (j := 2) (x := x) (by decide +kernel), setI_ne (S := S) (a := a) (i := 0) (j := 4) (x := x) (by decide +kernel), setI_ne (S := S) (a := a) (i := 0) (j := 6) (x := x) (by decide +kernel), setI_ne (S := S) (a := a) (i := 0) (j := 7) (x := x) (by decide +kernel), setI_ne (S := S) (a := a) (i := 0) (j := 14) (x := x) (by decide +kernel)]
  try rfl
theorem he_10_2 {cq : Nat → ClassId} {S : oS} {a : Nat} {x : Int32} (h : oK S a = 10) : oE cq (setI S a 2 x) a = .inr (10, [.int (oI S a 0), va_rf (oP S a 1), .int x, va_rf (oP S a 3), .int (oI S a 4), va_rf (oP S a 5), .int (oI S a 6), .int (oI S a 7), va_rf (oP S a 8), va_rf (oP S a 9), va_rf (oP S a 10), va_rf (oP S a 11), va_rf (oP S a 12), va_rf (oP S a 13), .int (oI S a 14), va_rf (oP S a 15)]) := by
  rw [oE_10 (S := setI S a 2 x) h, setI_ne (S := S) (a := a) (i := 2) (j := 0) (x := x) (by decide +kernel), setI_same, setI_ne (S := S) (a := a) (i := 2) (j := 4) (x := x) (by decide +kernel), setI_ne (S := S) (a := a) (i := 2) (j := 6) (x := x) (by decide +kernel), setI_ne (S := S) (a := a) (i := 2) (j := 7) (x := x) (by decide +kernel), setI_ne (S := S) (a := a) (i := 2) (j := 14) (x := x) (by decide +kernel)]
  try rfl
theorem he_10_4 {cq : Nat → ClassId} {S : oS} {a : Nat} {x : Int32} (h : oK S a = 10) : oE cq (setI S a 4 x) a = .inr (10, [.int (oI S a 0), va_rf (oP S a 1), .int (oI S a 2), va_rf (oP S a 3), .int x, va_rf (oP S a 5), .int (oI S a 6), .int (oI S a 7), va_rf (oP S a 8), va_rf (oP S a 9), va_rf (oP S a 10), va_rf (oP S a 11), va_rf (oP S a 12), va_rf (oP S a 13), .int (oI S a 14), va_rf (oP S a 15)]) := by
  rw [oE_10 (S := setI S a 4 x) h, setI_ne (S := S) (a := a) (i := 4) (j := 0) (x := x) (by decide +kernel), setI_ne (S := S) (a := a) (i := 4) (j := 2) (x := x) (by decide +kernel), setI_same, setI_ne (S := S) (a := a) (i := 4) (j := 6) (x := x) (by decide +kernel), setI_ne (S := S) (a := a) (i := 4) (j := 7) (x := x) (by decide +kernel), setI_ne (S := S) (a := a) (i := 4) (j := 14) (x := x) (by decide +kernel)]
  try rfl
theorem he_10_6 {cq : Nat → ClassId} {S : oS} {a : Nat} {x : Int32} (h : oK S a = 10) : oE cq (setI S a 6 x) a = .inr (10, [.int (oI S a 0), va_rf (oP S a 1), .int (oI S a 2), va_rf (oP S a 3), .int (oI S a 4), va_rf (oP S a 5), .int x, .int (oI S a 7), va_rf (oP S a 8), va_rf (oP S a 9), va_rf (oP S a 10), va_rf (oP S a 11), va_rf (oP S a 12), va_rf (oP S a 13), .int (oI S a 14), va_rf (oP S a 15)]) := by
  rw [oE_10 (S := setI S a 6 x) h, setI_ne (S := S) (a := a) (i := 6) (j := 0) (x := x) (by decide +kernel), setI_ne (S := S) (a := a) (i := 6) (j := 2) (x := x) (by decide +kernel), setI_ne (S := S) (a := a) (i := 6) (j := 4) (x := x) (by decide +kernel), setI_same, setI_ne (S := S) (a := a) (i := 6) (j := 7) (x := x) (by decide +kernel), setI_ne (S := S) (a := a) (i := 6) (j := 14) (x := x) (by decide +kernel)]
  try rfl
theorem he_10_7 {cq : Nat → ClassId} {S : oS} {a : Nat} {x : Int32} (h : oK S a = 10) : oE cq (setI S a 7 x) a = .inr (10, [.int (oI S a 0), va_rf (oP S a 1), .int (oI S a 2), va_rf (oP S a 3), .int (oI S a 4), va_rf (oP S a 5), .int (oI S a 6), .int x, va_rf (oP S a 8), va_rf (oP S a 9), va_rf (oP S a 10), va_rf (oP S a 11), va_rf (oP S a 12), va_rf (oP S a 13), .int (oI S a 14), va_rf (oP S a 15)]) := by
  rw [oE_10 (S := setI S a 7 x) h, setI_ne (S := S) (a := a) (i := 7) (j := 0) (x := x) (by decide +kernel), setI_ne (S := S) (a := a) (i := 7) (j := 2) (x := x) (by decide +kernel), setI_ne (S := S) (a := a) (i := 7) (j := 4) (x := x) (by decide +kernel), setI_ne (S := S) (a := a) (i := 7) (j := 6) (x := x) (by decide +kernel), setI_same, setI_ne (S := S) (a := a) (i := 7) (j := 14) (x := x) (by decide +kernel)]
  try rfl
theorem he_10_14 {cq : Nat → ClassId} {S : oS} {a : Nat} {x : Int32} (h : oK S a = 10) : oE cq (setI S a 14 x) a = .inr (10, [.int (oI S a 0), va_rf (oP S a 1), .int (oI S a 2), va_rf (oP S a 3), .int (oI S a 4), va_rf (oP S a 5), .int (oI S a 6), .int (oI S a 7), va_rf (oP S a 8), va_rf (oP S a 9), va_rf (oP S a 10), va_rf (oP S a 11), va_rf (oP S a 12), va_rf (oP S a 13), .int x, va_rf (oP S a 15)]) := by
  rw [oE_10 (S := setI S a 14 x) h, setI_ne (S := S) (a := a) (i := 14) (j := 0) (x := x) (by decide +kernel), setI_ne (S := S) (a := a) (i := 14) (j := 2) (x := x) (by decide +kernel), setI_ne (S := S) (a := a) (i := 14) (j := 4) (x := x) (by decide +kernel), setI_ne (S := S) (a := a) (i := 14) (j := 6) (x := x) (by decide +kernel), setI_ne (S := S) (a := a) (i := 14) (j := 7) (x := x) (by decide +kernel), setI_same]
  try rfl
theorem he_30_0 {cq : Nat → ClassId} {S : oS} {a : Nat} {x : Int32} (h : oK S a = 30) : oE cq (setI S a 0 x) a = .inr (0, [.int x, .int (oI S a 1), .int (oI S a 2), va_rf (oP S a 3), va_rf (oP S a 4)]) := by
  rw [oE_30 (S := setI S a 0 x) h, setI_same, setI_ne (S := S) (a := a) (i := 0) (j := 1) (x := x) (by decide +kernel), setI_ne (S := S) (a := a) (i := 0) (j := 2) (x := x) (by decide +kernel)]
  try rfl
theorem he_30_1 {cq : Nat → ClassId} {S : oS} {a : Nat} {x : Int32} (h : oK S a = 30) : oE cq (setI S a 1 x) a = .inr (0, [.int (oI S a 0), .int x, .int (oI S a 2), va_rf (oP S a 3), va_rf (oP S a 4)]) := by
  rw [oE_30 (S := setI S a 1 x) h, setI_ne (S := S) (a := a) (i := 1) (j := 0) (x := x) (by decide +kernel), setI_same, setI_ne (S := S) (a := a) (i := 1) (j := 2) (x := x) (by decide +kernel)]
  try rfl
theorem he_30_3 {cq : Nat → ClassId} {S : oS} {a : Nat} {x : Option Nat} (h : oK S a = 30) : oE cq (setP S a 3 x) a = .inr (0, [.int (oI S a 0), .int (oI S a 1), .int (oI S a 2), va_rf x, va_rf (oP S a 4)]) := by
  rw [oE_30 (S := setP S a 3 x) h, setP_same, setP_ne (S := S) (a := a) (i := 3) (j := 4) (x := x) (by decide +kernel)]
  try rfl
theorem he_30_4 {cq : Nat → ClassId} {S : oS} {a : Nat} {x : Option Nat} (h : oK S a = 30) : oE cq (setP S a 4 x) a = .inr (0, [.int (oI S a 0), .int (oI S a 1), .int (oI S a 2), va_rf (oP S a 3), va_rf x]) := by
  rw [oE_30 (S := setP S a 4 x) h, setP_ne (S := S) (a := a) (i := 4) (j := 3) (x := x) (by decide +kernel), setP_same]
  try rfl
theorem he_31_0 {cq : Nat → ClassId} {S : oS} {a : Nat} {x : Option Nat} (h : oK S a = 31) : oE cq (setP S a 0 x) a = .inr (1, [va_rf x, va_rf (oP S a 1), .int (oI S a 2), va_rf (oP S a 3), .int (oI S a 4), .int (oI S a 5), .int (oI S a 6), .int (oI S a 7), va_rf (oP S a 8), .int (oI S a 9), .int (oI S a 10), .int (oI S a 11), va_rf (oP S a 12), .int (oI S a 13), va_rf (oP S a 14), va_rf (oP S a 15), .int (oI S a 16), .int (oI S a 17)]) := by
  rw [oE_31 (S := setP S a 0 x) h, setP_same, setP_ne (S := S) (a := a) (i := 0) (j := 1) (x := x) (by decide +kernel), setP_ne (S := S) (a := a) (i := 0) (j := 3) (x := x) (by decide +kernel), setP_ne (S := S) (a := a) (i := 0) (j := 8) (x := x) (by decide +kernel), setP_ne (S := S) (a := a) (i := 0) (j := 12) (x := x) (by decide +kernel), setP_ne (S := S) (a := a) (i := 0) (j := 14) (x := x) (by decide +kernel), setP_ne (S := S) (a := a) (i := 0) (j := 15) (x := x) (by decide +kernel)]
  try rfl
theorem he_31_1 {cq : Nat → ClassId} {S : oS} {a : Nat} {x : Option Nat} (h : oK S a = 31) : oE cq (setP S a 1 x) a = .inr (1, [va_rf (oP S a 0), va_rf x, .int (oI S a 2), va_rf (oP S a 3), .int (oI S a 4), .int (oI S a 5), .int (oI S a 6), .int (oI S a 7), va_rf (oP S a 8), .int (oI S a 9), .int (oI S a 10), .int (oI S a 11), va_rf (oP S a 12), .int (oI S a 13), va_rf (oP S a 14), va_rf (oP S a 15), .int (oI S a 16), .int (oI S a 17)]) := by
  rw [oE_31 (S := setP S a 1 x) h, setP_ne (S := S) (a := a) (i := 1) (j := 0) (x := x) (by decide +kernel), setP_same, setP_ne (S := S) (a := a) (i := 1) (j := 3) (x := x) (by decide +kernel), setP_ne (S := S) (a := a) (i := 1) (j := 8) (x := x) (by decide +kernel), setP_ne (S := S) (a := a) (i := 1) (j := 12) (x := x) (by decide +kernel), setP_ne (S := S) (a := a) (i := 1) (j := 14) (x := x) (by decide +kernel), setP_ne (S := S) (a := a) (i := 1) (j := 15) (x := x) (by decide +kernel)]
  try rfl
theorem he_31_2 {cq : Nat → ClassId} {S : oS} {a : Nat} {x : Int32} (h : oK S a = 31) : oE cq (setI S a 2 x) a = .inr (1, [va_rf (oP S a 0), va_rf (oP S a 1), .int x, va_rf (oP S a 3), .int (oI S a 4), .int (oI S a 5), .int (oI S a 6), .int (oI S a 7), va_rf (oP S a 8), .int (oI S a 9), .int (oI S a 10), .int (oI S a 11), va_rf (oP S a 12), .int (oI S a 13), va_rf (oP S a 14), va_rf (oP S a 15), .int (oI S a 16), .int (oI S a 17)]) := by
  rw [oE_31 (S := setI S a 2 x) h, setI_same, setI_ne (S := S) (a := a) (i := 2) (j := 4) (x := x) (by decide +kernel), setI_ne (S := S) (a := a) (i := 2) (j := 5) (x := x) (by decide +kernel), setI_ne (S := S) (a := a) (i := 2) (j := 6) (x := x) (by decide +kernel), setI_ne (S := S) (a := a) (i := 2) (j := 7) (x := x) (by decide +kernel), setI_ne (S := S) (a := a) (i := 2) (j := 9) (x := x) (by decide +kernel), setI_ne (S := S) (a := a) (i := 2) (j := 10) (x := x) (by decide +kernel), setI_ne (S := S) (a := a) (i := 2) (j := 11) (x := x) (by decide +kernel), setI_ne (S := S) (a := a) (i := 2) (j := 13) (x := x) (by decide +kernel), setI_ne (S := S) (a := a) (i := 2) (j := 16) (x := x) (by decide +kernel), setI_ne (S := S) (a := a) (i := 2) (j := 17) (x := x) (by decide +kernel)]
  try rfl
theorem he_31_3 {cq : Nat → ClassId} {S : oS} {a : Nat} {x : Option Nat} (h : oK S a = 31) : oE cq (setP S a 3 x) a = .inr (1, [va_rf (oP S a 0), va_rf (oP S a 1), .int (oI S a 2), va_rf x, .int (oI S a 4), .int (oI S a 5), .int (oI S a 6), .int (oI S a 7), va_rf (oP S a 8), .int (oI S a 9), .int (oI S a 10), .int (oI S a 11), va_rf (oP S a 12), .int (oI S a 13), va_rf (oP S a 14), va_rf (oP S a 15), .int (oI S a 16), .int (oI S a 17)]) := by
  rw [oE_31 (S := setP S a 3 x) h, setP_ne (S := S) (a := a) (i := 3) (j := 0) (x := x) (by decide +kernel), setP_ne (S := S) (a := a) (i := 3) (j := 1) (x := x) (by decide +kernel), setP_same, setP_ne (S := S) (a := a) (i := 3) (j := 8) (x := x) (by decide +kernel), setP_ne (S := S) (a := a) (i := 3) (j := 12) (x := x) (by decide +kernel), setP_ne (S := S) (a := a) (i := 3) (j := 14) (x := x) (by decide +kernel), setP_ne (S := S) (a := a) (i := 3) (j := 15) (x := x) (by decide +kernel)]
  try rfl
theorem he_31_6 {cq : Nat → ClassId} {S : oS} {a : Nat} {x : Int32} (h : oK S a = 31) : oE cq (setI S a 6 x) a = .inr (1, [va_rf (oP S a 0), va_rf (oP S a 1), .int (oI S a 2), va_rf (oP S a 3), .int (oI S a 4), .int (oI S a 5), .int x, .int (oI S a 7), va_rf (oP S a 8), .int (oI S a 9), .int (oI S a 10), .int (oI S a 11), va_rf (oP S a 12), .int (oI S a 13), va_rf (oP S a 14), va_rf (oP S a 15), .int (oI S a 16), .int (oI S a 17)]) := by
  rw [oE_31 (S := setI S a 6 x) h, setI_ne (S := S) (a := a) (i := 6) (j := 2) (x := x) (by decide +kernel), setI_ne (S := S) (a := a) (i := 6) (j := 4) (x := x) (by decide +kernel), setI_ne (S := S) (a := a) (i := 6) (j := 5) (x := x) (by decide +kernel), setI_same, setI_ne (S := S) (a := a) (i := 6) (j := 7) (x := x) (by decide +kernel), setI_ne (S := S) (a := a) (i := 6) (j := 9) (x := x) (by decide +kernel), setI_ne (S := S) (a := a) (i := 6) (j := 10) (x := x) (by decide +kernel), setI_ne (S := S) (a := a) (i := 6) (j := 11) (x := x) (by decide +kernel), setI_ne (S := S) (a := a) (i := 6) (j := 13) (x := x) (by decide +kernel), setI_ne (S := S) (a := a) (i := 6) (j := 16) (x := x) (by decide +kernel), setI_ne (S := S) (a := a) (i := 6) (j := 17) (x := x) (by decide +kernel)]
  try rfl
theorem he_31_12 {cq : Nat → ClassId} {S : oS} {a : Nat} {x : Option Nat} (h : oK S a = 31) : oE cq (setP S a 12 x) a = .inr (1, [va_rf (oP S a 0), va_rf (oP S a 1), .int (oI S a 2), va_rf (oP S a 3), .int (oI S a 4), .int (oI S a 5), .int (oI S a 6), .int (oI S a 7), va_rf (oP S a 8), .int (oI S a 9), .int (oI S a 10), .int (oI S a 11), va_rf x, .int (oI S a 13), va_rf (oP S a 14), va_rf (oP S a 15), .int (oI S a 16), .int (oI S a 17)]) := by
  rw [oE_31 (S := setP S a 12 x) h, setP_ne (S := S) (a := a) (i := 12) (j := 0) (x := x) (by decide +kernel), setP_ne (S := S) (a := a) (i := 12) (j := 1) (x := x) (by decide +kernel), setP_ne (S := S) (a := a) (i := 12) (j := 3) (x := x) (by decide +kernel), setP_ne (S := S) (a := a) (i := 12) (j := 8) (x := x) (by decide +kernel), setP_same, setP_ne (S := S) (a := a) (i := 12) (j := 14) (x := x) (by decide +kernel), setP_ne (S := S) (a := a) (i := 12) (j := 15) (x := x) (by decide +kernel)]
  try rfl
theorem he_31_14 {cq : Nat → ClassId} {S : oS} {a : Nat} {x : Option Nat} (h : oK S a = 31) : oE cq (setP S a 14 x) a = .inr (1, [va_rf (oP S a 0), va_rf (oP S a 1), .int (oI S a 2), va_rf (oP S a 3), .int (oI S a 4), .int (oI S a 5), .int (oI S a 6), .int (oI S a 7), va_rf (oP S a 8), .int (oI S a 9), .int (oI S a 10), .int (oI S a 11), va_rf (oP S a 12), .int (oI S a 13), va_rf x, va_rf (oP S a 15), .int (oI S a 16), .int (oI S a 17)]) := by
  rw [oE_31 (S := setP S a 14 x) h, setP_ne (S := S) (a := a) (i := 14) (j := 0) (x := x) (by decide +kernel), setP_ne (S := S) (a := a) (i := 14) (j := 1) (x := x) (by decide +kernel), setP_ne (S := S) (a := a) (i := 14) (j := 3) (x := x) (by decide +kernel), setP_ne (S := S) (a := a) (i := 14) (j := 8) (x := x) (by decide +kernel), setP_ne (S := S) (a := a) (i := 14) (j := 12) (x := x) (by decide +kernel), setP_same, setP_ne (S := S) (a := a) (i := 14) (j := 15) (x := x) (by decide +kernel)]
  try rfl
theorem he_31_15 {cq : Nat → ClassId} {S : oS} {a : Nat} {x : Option Nat} (h : oK S a = 31) : oE cq (setP S a 15 x) a = .inr (1, [va_rf (oP S a 0), va_rf (oP S a 1), .int (oI S a 2), va_rf (oP S a 3), .int (oI S a 4), .int (oI S a 5), .int (oI S a 6), .int (oI S a 7), va_rf (oP S a 8), .int (oI S a 9), .int (oI S a 10), .int (oI S a 11), va_rf (oP S a 12), .int (oI S a 13), va_rf (oP S a 14), va_rf x, .int (oI S a 16), .int (oI S a 17)]) := by
  rw [oE_31 (S := setP S a 15 x) h, setP_ne (S := S) (a := a) (i := 15) (j := 0) (x := x) (by decide +kernel), setP_ne (S := S) (a := a) (i := 15) (j := 1) (x := x) (by decide +kernel), setP_ne (S := S) (a := a) (i := 15) (j := 3) (x := x) (by decide +kernel), setP_ne (S := S) (a := a) (i := 15) (j := 8) (x := x) (by decide +kernel), setP_ne (S := S) (a := a) (i := 15) (j := 12) (x := x) (by decide +kernel), setP_ne (S := S) (a := a) (i := 15) (j := 14) (x := x) (by decide +kernel), setP_same]
  try rfl
theorem he_32_0 {cq : Nat → ClassId} {S : oS} {a : Nat} {x : Int32} (h : oK S a = 32) : oE cq (setI S a 0 x) a = .inr (2, [.int x, .int (oI S a 1), .int (oI S a 2)]) := by
  rw [oE_32 (S := setI S a 0 x) h, setI_same, setI_ne (S := S) (a := a) (i := 0) (j := 1) (x := x) (by decide +kernel), setI_ne (S := S) (a := a) (i := 0) (j := 2) (x := x) (by decide +kernel)]
  try rfl
theorem he_32_1 {cq : Nat → ClassId} {S : oS} {a : Nat} {x : Int32} (h : oK S a = 32) : oE cq (setI S a 1 x) a = .inr (2, [.int (oI S a 0), .int x, .int (oI S a 2)]) := by
  rw [oE_32 (S := setI S a 1 x) h, setI_ne (S := S) (a := a) (i := 1) (j := 0) (x := x) (by decide +kernel), setI_same, setI_ne (S := S) (a := a) (i := 1) (j := 2) (x := x) (by decide +kernel)]
  try rfl
theorem he_32_2 {cq : Nat → ClassId} {S : oS} {a : Nat} {x : Int32} (h : oK S a = 32) : oE cq (setI S a 2 x) a = .inr (2, [.int (oI S a 0), .int (oI S a 1), .int x]) := by
  rw [oE_32 (S := setI S a 2 x) h, setI_ne (S := S) (a := a) (i := 2) (j := 0) (x := x) (by decide +kernel), setI_ne (S := S) (a := a) (i := 2) (j := 1) (x := x) (by decide +kernel), setI_same]
  try rfl
theorem he_33_0 {cq : Nat → ClassId} {S : oS} {a : Nat} {x : Int32} (h : oK S a = 33) : oE cq (setI S a 0 x) a = .inr (3, [.int x, .int (oI S a 1), .int (oI S a 2), .int (oI S a 3), .int (oI S a 4), va_rf (oP S a 5)]) := by
  rw [oE_33 (S := setI S a 0 x) h, setI_same, setI_ne (S := S) (a := a) (i := 0) (j := 1) (x := x) (by decide +kernel), setI_ne (S := S) (a := a) (i := 0) (j := 2) (x := x) (by decide +kernel), setI_ne (S := S) (a := a) (i := 0) (j := 3) (x := x) (by decide +kernel), setI_ne (S := S) (a := a) (i := 0) (j := 4) (x := x) (by decide +kernel)]
  try rfl
theorem he_33_1 {cq : Nat → ClassId} {S : oS} {a : Nat} {x : Int32} (h : oK S a = 33) : oE cq (setI S a 1 x) a = .inr (3, [.int (oI S a 0), .int x, .int (oI S a 2), .int (oI S a 3), .int (oI S a 4), va_rf (oP S a 5)]) := by
  rw [oE_33 (S := setI S a 1 x) h, setI_ne (S := S) (a := a) (i := 1) (j := 0) (x := x) (by decide +kernel), setI_same, setI_ne (S := S) (a := a) (i := 1) (j := 2) (x := x) (by decide +kernel), setI_ne (S := S) (a := a) (i := 1) (j := 3) (x := x) (by decide +kernel), setI_ne (S := S) (a := a) (i := 1) (j := 4) (x := x) (by decide +kernel)]
  try rfl
theorem he_33_2 {cq : Nat → ClassId} {S : oS} {a : Nat} {x : Int32} (h : oK S a = 33) : oE cq (setI S a 2 x) a = .inr (3, [.int (oI S a 0), .int (oI S a 1), .int x, .int (oI S a 3), .int (oI S a 4), va_rf (oP S a 5)]) := by
  rw [oE_33 (S := setI S a 2 x) h, setI_ne (S := S) (a := a) (i := 2) (j := 0) (x := x) (by decide +kernel), setI_ne (S := S) (a := a) (i := 2) (j := 1) (x := x) (by decide +kernel), setI_same, setI_ne (S := S) (a := a) (i := 2) (j := 3) (x := x) (by decide +kernel), setI_ne (S := S) (a := a) (i := 2) (j := 4) (x := x) (by decide +kernel)]
  try rfl
theorem he_33_3 {cq : Nat → ClassId} {S : oS} {a : Nat} {x : Int32} (h : oK S a = 33) : oE cq (setI S a 3 x) a = .inr (3, [.int (oI S a 0), .int (oI S a 1), .int (oI S a 2), .int x, .int (oI S a 4), va_rf (oP S a 5)]) := by
  rw [oE_33 (S := setI S a 3 x) h, setI_ne (S := S) (a := a) (i := 3) (j := 0) (x := x) (by decide +kernel), setI_ne (S := S) (a := a) (i := 3) (j := 1) (x := x) (by decide +kernel), setI_ne (S := S) (a := a) (i := 3) (j := 2) (x := x) (by decide +kernel), setI_same, setI_ne (S := S) (a := a) (i := 3) (j := 4) (x := x) (by decide +kernel)]
  try rfl
theorem he_33_4 {cq : Nat → ClassId} {S : oS} {a : Nat} {x : Int32} (h : oK S a = 33) : oE cq (setI S a 4 x) a = .inr (3, [.int (oI S a 0), .int (oI S a 1), .int (oI S a 2), .int (oI S a 3), .int x, va_rf (oP S a 5)]) := by
  rw [oE_33 (S := setI S a 4 x) h, setI_ne (S := S) (a := a) (i := 4) (j := 0) (x := x) (by decide +kernel), setI_ne (S := S) (a := a) (i := 4) (j := 1) (x := x) (by decide +kernel), setI_ne (S := S) (a := a) (i := 4) (j := 2) (x := x) (by decide +kernel), setI_ne (S := S) (a := a) (i := 4) (j := 3) (x := x) (by decide +kernel), setI_same]
  try rfl
theorem he_33_5 {cq : Nat → ClassId} {S : oS} {a : Nat} {x : Option Nat} (h : oK S a = 33) : oE cq (setP S a 5 x) a = .inr (3, [.int (oI S a 0), .int (oI S a 1), .int (oI S a 2), .int (oI S a 3), .int (oI S a 4), va_rf x]) := by
  rw [oE_33 (S := setP S a 5 x) h, setP_same]
  try rfl
theorem he_34_0 {cq : Nat → ClassId} {S : oS} {a : Nat} {x : Option Nat} (h : oK S a = 34) : oE cq (setP S a 0 x) a = .inr (4, [va_rf x, va_rf (oP S a 1), .int (oI S a 2), va_rf (oP S a 3), .int (oI S a 4), .int (oI S a 5)]) := by
  rw [oE_34 (S := setP S a 0 x) h, setP_same, setP_ne (S := S) (a := a) (i := 0) (j := 1) (x := x) (by decide +kernel), setP_ne (S := S) (a := a) (i := 0) (j := 3) (x := x) (by decide +kernel)]
  try rfl
theorem he_34_1 {cq : Nat → ClassId} {S : oS} {a : Nat} {x : Option Nat} (h : oK S a = 34) : oE cq (setP S a 1 x) a = .inr (4, [va_rf (oP S a 0), va_rf x, .int (oI S a 2), va_rf (oP S a 3), .int (oI S a 4), .int (oI S a 5)]) := by
  rw [oE_34 (S := setP S a 1 x) h, setP_ne (S := S) (a := a) (i := 1) (j := 0) (x := x) (by decide +kernel), setP_same, setP_ne (S := S) (a := a) (i := 1) (j := 3) (x := x) (by decide +kernel)]
  try rfl
theorem he_34_3 {cq : Nat → ClassId} {S : oS} {a : Nat} {x : Option Nat} (h : oK S a = 34) : oE cq (setP S a 3 x) a = .inr (4, [va_rf (oP S a 0), va_rf (oP S a 1), .int (oI S a 2), va_rf x, .int (oI S a 4), .int (oI S a 5)]) := by
  rw [oE_34 (S := setP S a 3 x) h, setP_ne (S := S) (a := a) (i := 3) (j := 0) (x := x) (by decide +kernel), setP_ne (S := S) (a := a) (i := 3) (j := 1) (x := x) (by decide +kernel), setP_same]
  try rfl
theorem he_35_0 {cq : Nat → ClassId} {S : oS} {a : Nat} {x : Option Nat} (h : oK S a = 35) : oE cq (setP S a 0 x) a = .inr (5, [va_rf x, va_rf (oP S a 1), .int (oI S a 2)]) := by
  rw [oE_35 (S := setP S a 0 x) h, setP_same, setP_ne (S := S) (a := a) (i := 0) (j := 1) (x := x) (by decide +kernel)]
  try rfl
theorem he_35_1 {cq : Nat → ClassId} {S : oS} {a : Nat} {x : Option Nat} (h : oK S a = 35) : oE cq (setP S a 1 x) a = .inr (5, [va_rf (oP S a 0), va_rf x, .int (oI S a 2)]) := by
  rw [oE_35 (S := setP S a 1 x) h, setP_ne (S := S) (a := a) (i := 1) (j := 0) (x := x) (by decide +kernel), setP_same]
  try rfl
theorem he_36_0 {cq : Nat → ClassId} {S : oS} {a : Nat} {x : Int32} (h : oK S a = 36) : oE cq (setI S a 0 x) a = .inr (6, [.int x, .int (oI S a 1), .int (oI S a 2), .int (oI S a 3), va_rf (oP S a 4), .int (oI S a 5)]) := by
  rw [oE_36 (S := setI S a 0 x) h, setI_same, setI_ne (S := S) (a := a) (i := 0) (j := 1) (x := x) (by decide +kernel), setI_ne (S := S) (a := a) (i := 0) (j := 2) (x := x) (by decide +kernel), setI_ne (S := S) (a := a) (i := 0) (j := 3) (x := x) (by decide +kernel), setI_ne (S := S) (a := a) (i := 0) (j := 5) (x := x) (by decide +kernel)]
  try rfl
theorem he_36_1 {cq : Nat → ClassId} {S : oS} {a : Nat} {x : Int32} (h : oK S a = 36) : oE cq (setI S a 1 x) a = .inr (6, [.int (oI S a 0), .int x, .int (oI S a 2), .int (oI S a 3), va_rf (oP S a 4), .int (oI S a 5)]) := by
  rw [oE_36 (S := setI S a 1 x) h, setI_ne (S := S) (a := a) (i := 1) (j := 0) (x := x) (by decide +kernel), setI_same, setI_ne (S := S) (a := a) (i := 1) (j := 2) (x := x) (by decide +kernel), setI_ne (S := S) (a := a) (i := 1) (j := 3) (x := x) (by decide +kernel), setI_ne (S := S) (a := a) (i := 1) (j := 5) (x := x) (by decide +kernel)]
  try rfl
theorem he_36_2 {cq : Nat → ClassId} {S : oS} {a : Nat} {x : Int32} (h : oK S a = 36) : oE cq (setI S a 2 x) a = .inr (6, [.int (oI S a 0), .int (oI S a 1), .int x, .int (oI S a 3), va_rf (oP S a 4), .int (oI S a 5)]) := by
  rw [oE_36 (S := setI S a 2 x) h, setI_ne (S := S) (a := a) (i := 2) (j := 0) (x := x) (by decide +kernel), setI_ne (S := S) (a := a) (i := 2) (j := 1) (x := x) (by decide +kernel), setI_same, setI_ne (S := S) (a := a) (i := 2) (j := 3) (x := x) (by decide +kernel), setI_ne (S := S) (a := a) (i := 2) (j := 5) (x := x) (by decide +kernel)]
  try rfl
theorem he_36_3 {cq : Nat → ClassId} {S : oS} {a : Nat} {x : Int32} (h : oK S a = 36) : oE cq (setI S a 3 x) a = .inr (6, [.int (oI S a 0), .int (oI S a 1), .int (oI S a 2), .int x, va_rf (oP S a 4), .int (oI S a 5)]) := by
  rw [oE_36 (S := setI S a 3 x) h, setI_ne (S := S) (a := a) (i := 3) (j := 0) (x := x) (by decide +kernel), setI_ne (S := S) (a := a) (i := 3) (j := 1) (x := x) (by decide +kernel), setI_ne (S := S) (a := a) (i := 3) (j := 2) (x := x) (by decide +kernel), setI_same, setI_ne (S := S) (a := a) (i := 3) (j := 5) (x := x) (by decide +kernel)]
  try rfl
theorem he_36_4 {cq : Nat → ClassId} {S : oS} {a : Nat} {x : Option Nat} (h : oK S a = 36) : oE cq (setP S a 4 x) a = .inr (6, [.int (oI S a 0), .int (oI S a 1), .int (oI S a 2), .int (oI S a 3), va_rf x, .int (oI S a 5)]) := by
  rw [oE_36 (S := setP S a 4 x) h, setP_same]
  try rfl
theorem he_36_5 {cq : Nat → ClassId} {S : oS} {a : Nat} {x : Int32} (h : oK S a = 36) : oE cq (setI S a 5 x) a = .inr (6, [.int (oI S a 0), .int (oI S a 1), .int (oI S a 2), .int (oI S a 3), va_rf (oP S a 4), .int x]) := by
  rw [oE_36 (S := setI S a 5 x) h, setI_ne (S := S) (a := a) (i := 5) (j := 0) (x := x) (by decide +kernel), setI_ne (S := S) (a := a) (i := 5) (j := 1) (x := x) (by decide +kernel), setI_ne (S := S) (a := a) (i := 5) (j := 2) (x := x) (by decide +kernel), setI_ne (S := S) (a := a) (i := 5) (j := 3) (x := x) (by decide +kernel), setI_same]
  try rfl
theorem he_37_0 {cq : Nat → ClassId} {S : oS} {a : Nat} {x : Option Nat} (h : oK S a = 37) : oE cq (setP S a 0 x) a = .inr (7, [va_rf x, va_rf (oP S a 1)]) := by
  rw [oE_37 (S := setP S a 0 x) h, setP_same, setP_ne (S := S) (a := a) (i := 0) (j := 1) (x := x) (by decide +kernel)]
  try rfl
theorem he_37_1 {cq : Nat → ClassId} {S : oS} {a : Nat} {x : Option Nat} (h : oK S a = 37) : oE cq (setP S a 1 x) a = .inr (7, [va_rf (oP S a 0), va_rf x]) := by
  rw [oE_37 (S := setP S a 1 x) h, setP_ne (S := S) (a := a) (i := 1) (j := 0) (x := x) (by decide +kernel), setP_same]
  try rfl
theorem he_38_0 {cq : Nat → ClassId} {S : oS} {a : Nat} {x : Option Nat} (h : oK S a = 38) : oE cq (setP S a 0 x) a = .inr (8, [va_rf x, .int (oI S a 1), va_rf (oP S a 2), .int (oI S a 3), .int (oI S a 4), .int (oI S a 5)]) := by
  rw [oE_38 (S := setP S a 0 x) h, setP_same, setP_ne (S := S) (a := a) (i := 0) (j := 2) (x := x) (by decide +kernel)]
  try rfl
theorem he_38_2 {cq : Nat → ClassId} {S : oS} {a : Nat} {x : Option Nat} (h : oK S a = 38) : oE cq (setP S a 2 x) a = .inr (8, [va_rf (oP S a 0), .int (oI S a 1), va_rf x, .int (oI S a 3), .int (oI S a 4), .int (oI S a 5)]) := by
  rw [oE_38 (S := setP S a 2 x) h, setP_ne (S := S) (a := a) (i := 2) (j := 0) (x := x) (by decide +kernel), setP_same]
  try rfl
theorem he_39_0 {cq : Nat → ClassId} {S : oS} {a : Nat} {x : Int32} (h : oK S a = 39) : oE cq (setI S a 0 x) a = .inr (9, [.int x, .int (oI S a 1), .int (oI S a 2), .int (oI S a 3), .int (oI S a 4), .int (oI S a 5), .int (oI S a 6), .int (oI S a 7), .int (oI S a 8), va_rf (oP S a 9)]) := by
  rw [oE_39 (S := setI S a 0 x) h, setI_same, setI_ne (S := S) (a := a) (i := 0) (j := 1) (x := x) (by decide +kernel), setI_ne (S := S) (a := a) (i := 0) (j := 2) (x := x) (by decide +kernel), setI_ne (S := S) (a := a) (i := 0) (j := 3) (x := x) (by decide +kernel), setI_ne (S := S) (a := a) (i := 0) (j := 4) (x := x) (by decide +kernel), setI_ne (S := S) (a := a) (i := 0) (j := 5) (x := x) (by decide +kernel), setI_ne (S := S) (a := a) (i := 0) (j := 6) (x := x) (by decide +kernel), setI_ne (S := S) (a := a) (i := 0) (j := 7) (x := x) (by decide +kernel), setI_ne (S := S) (a := a) (i := 0) (j := 8) (x := x) (by decide +kernel)]
  try rfl
theorem he_39_1 {cq : Nat → ClassId} {S : oS} {a : Nat} {x : Int32} (h : oK S a = 39) : oE cq (setI S a 1 x) a = .inr (9, [.int (oI S a 0), .int x, .int (oI S a 2), .int (oI S a 3), .int (oI S a 4), .int (oI S a 5), .int (oI S a 6), .int (oI S a 7), .int (oI S a 8), va_rf (oP S a 9)]) := by
  rw [oE_39 (S := setI S a 1 x) h, setI_ne (S := S) (a := a) (i := 1) (j := 0) (x := x) (by decide +kernel), setI_same, setI_ne (S := S) (a := a) (i := 1) (j := 2) (x := x) (by decide +kernel), setI_ne (S := S) (a := a) (i := 1) (j := 3) (x := x) (by decide +kernel), setI_ne (S := S) (a := a) (i := 1) (j := 4) (x := x) (by decide +kernel), setI_ne (S := S) (a := a) (i := 1) (j := 5) (x := x) (by decide +kernel), setI_ne (S := S) (a := a) (i := 1) (j := 6) (x := x) (by decide +kernel), setI_ne (S := S) (a := a) (i := 1) (j := 7) (x := x) (by decide +kernel), setI_ne (S := S) (a := a) (i := 1) (j := 8) (x := x) (by decide +kernel)]
  try rfl
theorem he_39_2 {cq : Nat → ClassId} {S : oS} {a : Nat} {x : Int32} (h : oK S a = 39) : oE cq (setI S a 2 x) a = .inr (9, [.int (oI S a 0), .int (oI S a 1), .int x, .int (oI S a 3), .int (oI S a 4), .int (oI S a 5), .int (oI S a 6), .int (oI S a 7), .int (oI S a 8), va_rf (oP S a 9)]) := by
  rw [oE_39 (S := setI S a 2 x) h, setI_ne (S := S) (a := a) (i := 2) (j := 0) (x := x) (by decide +kernel), setI_ne (S := S) (a := a) (i := 2) (j := 1) (x := x) (by decide +kernel), setI_same, setI_ne (S := S) (a := a) (i := 2) (j := 3) (x := x) (by decide +kernel), setI_ne (S := S) (a := a) (i := 2) (j := 4) (x := x) (by decide +kernel), setI_ne (S := S) (a := a) (i := 2) (j := 5) (x := x) (by decide +kernel), setI_ne (S := S) (a := a) (i := 2) (j := 6) (x := x) (by decide +kernel), setI_ne (S := S) (a := a) (i := 2) (j := 7) (x := x) (by decide +kernel), setI_ne (S := S) (a := a) (i := 2) (j := 8) (x := x) (by decide +kernel)]
  try rfl
theorem he_39_3 {cq : Nat → ClassId} {S : oS} {a : Nat} {x : Int32} (h : oK S a = 39) : oE cq (setI S a 3 x) a = .inr (9, [.int (oI S a 0), .int (oI S a 1), .int (oI S a 2), .int x, .int (oI S a 4), .int (oI S a 5), .int (oI S a 6), .int (oI S a 7), .int (oI S a 8), va_rf (oP S a 9)]) := by
  rw [oE_39 (S := setI S a 3 x) h, setI_ne (S := S) (a := a) (i := 3) (j := 0) (x := x) (by decide +kernel), setI_ne (S := S) (a := a) (i := 3) (j := 1) (x := x) (by decide +kernel), setI_ne (S := S) (a := a) (i := 3) (j := 2) (x := x) (by decide +kernel), setI_same, setI_ne (S := S) (a := a) (i := 3) (j := 4) (x := x) (by decide +kernel), setI_ne (S := S) (a := a) (i := 3) (j := 5) (x := x) (by decide +kernel), setI_ne (S := S) (a := a) (i := 3) (j := 6) (x := x) (by decide +kernel), setI_ne (S := S) (a := a) (i := 3) (j := 7) (x := x) (by decide +kernel), setI_ne (S := S) (a := a) (i := 3) (j := 8) (x := x) (by decide +kernel)]
  try rfl
theorem he_39_5 {cq : Nat → ClassId} {S : oS} {a : Nat} {x : Int32} (h : oK S a = 39) : oE cq (setI S a 5 x) a = .inr (9, [.int (oI S a 0), .int (oI S a 1), .int (oI S a 2), .int (oI S a 3), .int (oI S a 4), .int x, .int (oI S a 6), .int (oI S a 7), .int (oI S a 8), va_rf (oP S a 9)]) := by
  rw [oE_39 (S := setI S a 5 x) h, setI_ne (S := S) (a := a) (i := 5) (j := 0) (x := x) (by decide +kernel), setI_ne (S := S) (a := a) (i := 5) (j := 1) (x := x) (by decide +kernel), setI_ne (S := S) (a := a) (i := 5) (j := 2) (x := x) (by decide +kernel), setI_ne (S := S) (a := a) (i := 5) (j := 3) (x := x) (by decide +kernel), setI_ne (S := S) (a := a) (i := 5) (j := 4) (x := x) (by decide +kernel), setI_same, setI_ne (S := S) (a := a) (i := 5) (j := 6) (x := x) (by decide +kernel), setI_ne (S := S) (a := a) (i := 5) (j := 7) (x := x) (by decide +kernel), setI_ne (S := S) (a := a) (i := 5) (j := 8) (x := x) (by decide +kernel)]
  try rfl
theorem he_39_6 {cq : Nat → ClassId} {S : oS} {a : Nat} {x : Int32} (h : oK S a = 39) : oE cq (setI S a 6 x) a = .inr (9, [.int (oI S a 0), .int (oI S a 1), .int (oI S a 2), .int (oI S a 3), .int (oI S a 4), .int (oI S a 5), .int x, .int (oI S a 7), .int (oI S a 8), va_rf (oP S a 9)]) := by
  rw [oE_39 (S := setI S a 6 x) h, setI_ne (S := S) (a := a) (i := 6) (j := 0) (x := x) (by decide +kernel), setI_ne (S := S) (a := a) (i := 6) (j := 1) (x := x) (by decide +kernel), setI_ne (S := S) (a := a) (i := 6) (j := 2) (x := x) (by decide +kernel), setI_ne (S := S) (a := a) (i := 6) (j := 3) (x := x) (by decide +kernel), setI_ne (S := S) (a := a) (i := 6) (j := 4) (x := x) (by decide +kernel), setI_ne (S := S) (a := a) (i := 6) (j := 5) (x := x) (by decide +kernel), setI_same, setI_ne (S := S) (a := a) (i := 6) (j := 7) (x := x) (by decide +kernel), setI_ne (S := S) (a := a) (i := 6) (j := 8) (x := x) (by decide +kernel)]
  try rfl
theorem he_39_7 {cq : Nat → ClassId} {S : oS} {a : Nat} {x : Int32} (h : oK S a = 39) : oE cq (setI S a 7 x) a = .inr (9, [.int (oI S a 0), .int (oI S a 1), .int (oI S a 2), .int (oI S a 3), .int (oI S a 4), .int (oI S a 5), .int (oI S a 6), .int x, .int (oI S a 8), va_rf (oP S a 9)]) := by
  rw [oE_39 (S := setI S a 7 x) h, setI_ne (S := S) (a := a) (i := 7) (j := 0) (x := x) (by decide +kernel), setI_ne (S := S) (a := a) (i := 7) (j := 1) (x := x) (by decide +kernel), setI_ne (S := S) (a := a) (i := 7) (j := 2) (x := x) (by decide +kernel), setI_ne (S := S) (a := a) (i := 7) (j := 3) (x := x) (by decide +kernel), setI_ne (S := S) (a := a) (i := 7) (j := 4) (x := x) (by decide +kernel), setI_ne (S := S) (a := a) (i := 7) (j := 5) (x := x) (by decide +kernel), setI_ne (S := S) (a := a) (i := 7) (j := 6) (x := x) (by decide +kernel), setI_same, setI_ne (S := S) (a := a) (i := 7) (j := 8) (x := x) (by decide +kernel)]
  try rfl
theorem he_39_8 {cq : Nat → ClassId} {S : oS} {a : Nat} {x : Int32} (h : oK S a = 39) : oE cq (setI S a 8 x) a = .inr (9, [.int (oI S a 0), .int (oI S a 1), .int (oI S a 2), .int (oI S a 3), .int (oI S a 4), .int (oI S a 5), .int (oI S a 6), .int (oI S a 7), .int x, va_rf (oP S a 9)]) := by
  rw [oE_39 (S := setI S a 8 x) h, setI_ne (S := S) (a := a) (i := 8) (j := 0) (x := x) (by decide +kernel), setI_ne (S := S) (a := a) (i := 8) (j := 1) (x := x) (by decide +kernel), setI_ne (S := S) (a := a) (i := 8) (j := 2) (x := x) (by decide +kernel), setI_ne (S := S) (a := a) (i := 8) (j := 3) (x := x) (by decide +kernel), setI_ne (S := S) (a := a) (i := 8) (j := 4) (x := x) (by decide +kernel), setI_ne (S := S) (a := a) (i := 8) (j := 5) (x := x) (by decide +kernel), setI_ne (S := S) (a := a) (i := 8) (j := 6) (x := x) (by decide +kernel), setI_ne (S := S) (a := a) (i := 8) (j := 7) (x := x) (by decide +kernel), setI_same]
  try rfl
theorem he_40_1 {cq : Nat → ClassId} {S : oS} {a : Nat} {x : Option Nat} (h : oK S a = 40) : oE cq (setP S a 1 x) a = .inr (10, [.int (oI S a 0), va_rf x, .int (oI S a 2), va_rf (oP S a 3), .int (oI S a 4), va_rf (oP S a 5), .int (oI S a 6), .int (oI S a 7), va_rf (oP S a 8), va_rf (oP S a 9), va_rf (oP S a 10), va_rf (oP S a 11), va_rf (oP S a 12), va_rf (oP S a 13), .int (oI S a 14), va_rf (oP S a 15)]) := by
  rw [oE_40 (S := setP S a 1 x) h, setP_same, setP_ne (S := S) (a := a) (i := 1) (j := 3) (x := x) (by decide +kernel), setP_ne (S := S) (a := a) (i := 1) (j := 5) (x := x) (by decide +kernel), setP_ne (S := S) (a := a) (i := 1) (j := 8) (x := x) (by decide +kernel), setP_ne (S := S) (a := a) (i := 1) (j := 9) (x := x) (by decide +kernel), setP_ne (S := S) (a := a) (i := 1) (j := 10) (x := x) (by decide +kernel), setP_ne (S := S) (a := a) (i := 1) (j := 11) (x := x) (by decide +kernel), setP_ne (S := S) (a := a) (i := 1) (j := 12) (x := x) (by decide +kernel), setP_ne (S := S) (a := a) (i := 1) (j := 13) (x := x) (by decide +kernel), setP_ne (S := S) (a := a) (i := 1) (j := 15) (x := x) (by decide +kernel)]
  try rfl
theorem he_40_3 {cq : Nat → ClassId} {S : oS} {a : Nat} {x : Option Nat} (h : oK S a = 40) : oE cq (setP S a 3 x) a = .inr (10, [.int (oI S a 0), va_rf (oP S a 1), .int (oI S a 2), va_rf x, .int (oI S a 4), va_rf (oP S a 5), .int (oI S a 6), .int (oI S a 7), va_rf (oP S a 8), va_rf (oP S a 9), va_rf (oP S a 10), va_rf (oP S a 11), va_rf (oP S a 12), va_rf (oP S a 13), .int (oI S a 14), va_rf (oP S a 15)]) := by
  rw [oE_40 (S := setP S a 3 x) h, setP_ne (S := S) (a := a) (i := 3) (j := 1) (x := x) (by decide +kernel), setP_same, setP_ne (S := S) (a := a) (i := 3) (j := 5) (x := x) (by decide +kernel), setP_ne (S := S) (a := a) (i := 3) (j := 8) (x := x) (by decide +kernel), setP_ne (S := S) (a := a) (i := 3) (j := 9) (x := x) (by decide +kernel), setP_ne (S := S) (a := a) (i := 3) (j := 10) (x := x) (by decide +kernel), setP_ne (S := S) (a := a) (i := 3) (j := 11) (x := x) (by decide +kernel), setP_ne (S := S) (a := a) (i := 3) (j := 12) (x := x) (by decide +kernel), setP_ne (S := S) (a := a) (i := 3) (j := 13) (x := x) (by decide +kernel), setP_ne (S := S) (a := a) (i := 3) (j := 15) (x := x) (by decide +kernel)]
  try rfl
theorem he_40_5 {cq : Nat → ClassId} {S : oS} {a : Nat} {x : Option Nat} (h : oK S a = 40) : oE cq (setP S a 5 x) a = .inr (10, [.int (oI S a 0), va_rf (oP S a 1), .int (oI S a 2), va_rf (oP S a 3), .int (oI S a 4), va_rf x, .int (oI S a 6), .int (oI S a 7), va_rf (oP S a 8), va_rf (oP S a 9), va_rf (oP S a 10), va_rf (oP S a 11), va_rf (oP S a 12), va_rf (oP S a 13), .int (oI S a 14), va_rf (oP S a 15)]) := by
  rw [oE_40 (S := setP S a 5 x) h, setP_ne (S := S) (a := a) (i := 5) (j := 1) (x := x) (by decide +kernel), setP_ne (S := S) (a := a) (i := 5) (j := 3) (x := x) (by decide +kernel), setP_same, setP_ne (S := S) (a := a) (i := 5) (j := 8) (x := x) (by decide +kernel), setP_ne (S := S) (a := a) (i := 5) (j := 9) (x := x) (by decide +kernel), setP_ne (S := S) (a := a) (i := 5) (j := 10) (x := x) (by decide +kernel), setP_ne (S := S) (a := a) (i := 5) (j := 11) (x := x) (by decide +kernel), setP_ne (S := S) (a := a) (i := 5) (j := 12) (x := x) (by decide +kernel), setP_ne (S := S) (a := a) (i := 5) (j := 13) (x := x) (by decide +kernel), setP_ne (S := S) (a := a) (i := 5) (j := 15) (x := x) (by decide +kernel)]
  try rfl
theorem he_40_8 {cq : Nat → ClassId} {S : oS} {a : Nat} {x : Option Nat} (h : oK S a = 40) : oE cq (setP S a 8 x) a = .inr (10, [.int (oI S a 0), va_rf (oP S a 1), .int (oI S a 2), va_rf (oP S a 3), .int (oI S a 4), va_rf (oP S a 5), .int (oI S a 6), .int (oI S a 7), va_rf x, va_rf (oP S a 9), va_rf (oP S a 10), va_rf (oP S a 11), va_rf (oP S a 12), va_rf (oP S a 13), .int (oI S a 14), va_rf (oP S a 15)]) := by
  rw [oE_40 (S := setP S a 8 x) h, setP_ne (S := S) (a := a) (i := 8) (j := 1) (x := x) (by decide +kernel), setP_ne (S := S) (a := a) (i := 8) (j := 3) (x := x) (by decide +kernel), setP_ne (S := S) (a := a) (i := 8) (j := 5) (x := x) (by decide +kernel), setP_same, setP_ne (S := S) (a := a) (i := 8) (j := 9) (x := x) (by decide +kernel), setP_ne (S := S) (a := a) (i := 8) (j := 10) (x := x) (by decide +kernel), setP_ne (S := S) (a := a) (i := 8) (j := 11) (x := x) (by decide +kernel), setP_ne (S := S) (a := a) (i := 8) (j := 12) (x := x) (by decide +kernel), setP_ne (S := S) (a := a) (i := 8) (j := 13) (x := x) (by decide +kernel), setP_ne (S := S) (a := a) (i := 8) (j := 15) (x := x) (by decide +kernel)]
  try rfl
theorem he_40_9 {cq : Nat → ClassId} {S : oS} {a : Nat} {x : Option Nat} (h : oK S a = 40) : oE cq (setP S a 9 x) a = .inr (10, [.int (oI S a 0), va_rf (oP S a 1), .int (oI S a 2), va_rf (oP S a 3), .int (oI S a 4), va_rf (oP S a 5), .int (oI S a 6), .int (oI S a 7), va_rf (oP S a 8), va_rf x, va_rf (oP S a 10), va_rf (oP S a 11), va_rf (oP S a 12), va_rf (oP S a 13), .int (oI S a 14), va_rf (oP S a 15)]) := by
  rw [oE_40 (S := setP S a 9 x) h, setP_ne (S := S) (a := a) (i := 9) (j := 1) (x := x) (by decide +kernel), setP_ne (S := S) (a := a) (i := 9) (j := 3) (x := x) (by decide +kernel), setP_ne (S := S) (a := a) (i := 9) (j := 5) (x := x) (by decide +kernel), setP_ne (S := S) (a := a) (i := 9) (j := 8) (x := x) (by decide +kernel), setP_same, setP_ne (S := S) (a := a) (i := 9) (j := 10) (x := x) (by decide +kernel), setP_ne (S := S) (a := a) (i := 9) (j := 11) (x := x) (by decide +kernel), setP_ne (S := S) (a := a) (i := 9) (j := 12) (x := x) (by decide +kernel), setP_ne (S := S) (a := a) (i := 9) (j := 13) (x := x) (by decide +kernel), setP_ne (S := S) (a := a) (i := 9) (j := 15) (x := x) (by decide +kernel)]
  try rfl
theorem he_40_10 {cq : Nat → ClassId} {S : oS} {a : Nat} {x : Option Nat} (h : oK S a = 40) : oE cq (setP S a 10 x) a = .inr (10, [.int (oI S a 0), va_rf (oP S a 1), .int (oI S a 2), va_rf (oP S a 3), .int (oI S a 4), va_rf (oP S a 5), .int (oI S a 6), .int (oI S a 7), va_rf (oP S a 8), va_rf (oP S a 9), va_rf x, va_rf (oP S a 11), va_rf (oP S a 12), va_rf (oP S a 13), .int (oI S a 14), va_rf (oP S a 15)]) := by
  rw [oE_40 (S := setP S a 10 x) h, setP_ne (S := S) (a := a) (i := 10) (j := 1) (x := x) (by decide +kernel), setP_ne (S := S) (a := a) (i := 10) (j := 3) (x := x) (by decide +kernel), setP_ne (S := S) (a := a) (i := 10) (j := 5) (x := x) (by decide +kernel), setP_ne (S := S) (a := a) (i := 10) (j := 8) (x := x) (by decide +kernel), setP_ne (S := S) (a := a) (i := 10) (j := 9) (x := x) (by decide +kernel), setP_same, setP_ne (S := S) (a := a) (i := 10) (j := 11) (x := x) (by decide +kernel), setP_ne (S := S) (a := a) (i := 10) (j := 12) (x := x) (by decide +kernel), setP_ne (S := S) (a := a) (i := 10) (j := 13) (x := x) (by decide +kernel), setP_ne (S := S) (a := a) (i := 10) (j := 15) (x := x) (by decide +kernel)]
  try rfl
theorem he_40_11 {cq : Nat → ClassId} {S : oS} {a : Nat} {x : Option Nat} (h : oK S a = 40) : oE cq (setP S a 11 x) a = .inr (10, [.int (oI S a 0), va_rf (oP S a 1), .int (oI S a 2), va_rf (oP S a 3), .int (oI S a 4), va_rf (oP S a 5), .int (oI S a 6), .int (oI S a 7), va_rf (oP S a 8), va_rf (oP S a 9), va_rf (oP S a 10), va_rf x, va_rf (oP S a 12), va_rf (oP S a 13), .int (oI S a 14), va_rf (oP S a 15)]) := by
  rw [oE_40 (S := setP S a 11 x) h, setP_ne (S := S) (a := a) (i := 11) (j := 1) (x := x) (by decide +kernel), setP_ne (S := S) (a := a) (i := 11) (j := 3) (x := x) (by decide +kernel), setP_ne (S := S) (a := a) (i := 11) (j := 5) (x := x) (by decide +kernel), setP_ne (S := S) (a := a) (i := 11) (j := 8) (x := x) (by decide +kernel), setP_ne (S := S) (a := a) (i := 11) (j := 9) (x := x) (by decide +kernel), setP_ne (S := S) (a := a) (i := 11) (j := 10) (x := x) (by decide +kernel), setP_same, setP_ne (S := S) (a := a) (i := 11) (j := 12) (x := x) (by decide +kernel), setP_ne (S := S) (a := a) (i := 11) (j := 13) (x := x) (by decide +kernel), setP_ne (S := S) (a := a) (i := 11) (j := 15) (x := x) (by decide +kernel)]
  try rfl
theorem he_40_12 {cq : Nat → ClassId} {S : oS} {a : Nat} {x : Option Nat} (h : oK S a = 40) : oE cq (setP S a 12 x) a = .inr (10, [.int (oI S a 0), va_rf (oP S a 1), .int (oI S a 2), va_rf (oP S a 3), .int (oI S a 4), va_rf (oP S a 5), .int (oI S a 6), .int (oI S a 7), va_rf (oP S a 8), va_rf (oP S a 9), va_rf (oP S a 10), va_rf (oP S a 11), va_rf x, va_rf (oP S a 13), .int (oI S a 14), va_rf (oP S a 15)]) := by
  rw [oE_40 (S := setP S a 12 x) h, setP_ne (S := S) (a := a) (i := 12) (j := 1) (x := x) (by decide +kernel), setP_ne (S := S) (a := a) (i := 12) (j := 3) (x := x) (by decide +kernel), setP_ne (S := S) (a := a) (i := 12) (j := 5) (x := x) (by decide +kernel), setP_ne (S := S) (a := a) (i := 12) (j := 8) (x := x) (by decide +kernel), setP_ne (S := S) (a := a) (i := 12) (j := 9) (x := x) (by decide +kernel), setP_ne (S := S) (a := a) (i := 12) (j := 10) (x := x) (by decide +kernel), setP_ne (S := S) (a := a) (i := 12) (j := 11) (x := x) (by decide +kernel), setP_same, setP_ne (S := S) (a := a) (i := 12) (j := 13) (x := x) (by decide +kernel), setP_ne (S := S) (a := a) (i := 12) (j := 15) (x := x) (by decide +kernel)]
  try rfl
theorem he_40_13 {cq : Nat → ClassId} {S : oS} {a : Nat} {x : Option Nat} (h : oK S a = 40) : oE cq (setP S a 13 x) a = .inr (10, [.int (oI S a 0), va_rf (oP S a 1), .int (oI S a 2), va_rf (oP S a 3), .int (oI S a 4), va_rf (oP S a 5), .int (oI S a 6), .int (oI S a 7), va_rf (oP S a 8), va_rf (oP S a 9), va_rf (oP S a 10), va_rf (oP S a 11), va_rf (oP S a 12), va_rf x, .int (oI S a 14), va_rf (oP S a 15)]) := by
  rw [oE_40 (S := setP S a 13 x) h, setP_ne (S := S) (a := a) (i := 13) (j := 1) (x := x) (by decide +kernel), setP_ne (S := S) (a := a) (i := 13) (j := 3) (x := x) (by decide +kernel), setP_ne (S := S) (a := a) (i := 13) (j := 5) (x := x) (by decide +kernel), setP_ne (S := S) (a := a) (i := 13) (j := 8) (x := x) (by decide +kernel), setP_ne (S := S) (a := a) (i := 13) (j := 9) (x := x) (by decide +kernel), setP_ne (S := S) (a := a) (i := 13) (j := 10) (x := x) (by decide +kernel), setP_ne (S := S) (a := a) (i := 13) (j := 11) (x := x) (by decide +kernel), setP_ne (S := S) (a := a) (i := 13) (j := 12) (x := x) (by decide +kernel), setP_same, setP_ne (S := S) (a := a) (i := 13) (j := 15) (x := x) (by decide +kernel)]
  try rfl
theorem he_40_15 {cq : Nat → ClassId} {S : oS} {a : Nat} {x : Option Nat} (h : oK S a = 40) : oE cq (setP S a 15 x) a = .inr (10, [.int (oI S a 0), va_rf (oP S a 1), .int (oI S a 2), va_rf (oP S a 3), .int (oI S a 4), va_rf (oP S a 5), .int (oI S a 6), .int (oI S a 7), va_rf (oP S a 8), va_rf (oP S a 9), va_rf (oP S a 10), va_rf (oP S a 11), va_rf (oP S a 12), va_rf (oP S a 13), .int (oI S a 14), va_rf x]) := by
  rw [oE_40 (S := setP S a 15 x) h, setP_ne (S := S) (a := a) (i := 15) (j := 1) (x := x) (by decide +kernel), setP_ne (S := S) (a := a) (i := 15) (j := 3) (x := x) (by decide +kernel), setP_ne (S := S) (a := a) (i := 15) (j := 5) (x := x) (by decide +kernel), setP_ne (S := S) (a := a) (i := 15) (j := 8) (x := x) (by decide +kernel), setP_ne (S := S) (a := a) (i := 15) (j := 9) (x := x) (by decide +kernel), setP_ne (S := S) (a := a) (i := 15) (j := 10) (x := x) (by decide +kernel), setP_ne (S := S) (a := a) (i := 15) (j := 11) (x := x) (by decide +kernel), setP_ne (S := S) (a := a) (i := 15) (j := 12) (x := x) (by decide +kernel), setP_ne (S := S) (a := a) (i := 15) (j := 13) (x := x) (by decide +kernel), setP_same]
  try rfl
theorem he_61 {cq : Nat → ClassId} {S : oS} {a i : Nat} {x : Int32} (h : oK S a = 61) : oE cq (setI S a i x) a = .inl (cq 0, 4, .inl (upd (oI S a) i x)) := by
  rw [oE_61 (S := setI S a i x) h, setI_fun]
theorem he_62 {cq : Nat → ClassId} {S : oS} {a i : Nat} {x : Int32} (h : oK S a = 62) : oE cq (setI S a i x) a = .inl (cq 0, 12, .inl (upd (oI S a) i x)) := by
  rw [oE_62 (S := setI S a i x) h, setI_fun]
theorem he_63 {cq : Nat → ClassId} {S : oS} {a i : Nat} {x : Int32} (h : oK S a = 63) : oE cq (setI S a i x) a = .inl (cq 0, 60, .inl (upd (oI S a) i x)) := by
  rw [oE_63 (S := setI S a i x) h, setI_fun]
theorem he_64 {cq : Nat → ClassId} {S : oS} {a i : Nat} {x : Int32} (h : oK S a = 64) : oE cq (setI S a i x) a = .inl (cq 0, 20, .inl (upd (oI S a) i x)) := by
  rw [oE_64 (S := setI S a i x) h, setI_fun]
theorem he_as {cq : Nat → ClassId} {S : oS} {a n i : Nat} {x : Int32} (h : oK S a = 1000 + n) : oE cq (setI S a i x) a = .inl (cq 0, n, .inl (upd (oI S a) i x)) := by
  rw [oE_as (S := setI S a i x) h, setI_fun]
theorem he_ar {cq : Nat → ClassId} {S : oS} {a n i : Nat} {x : Int32} (h : oK S a = 300 + n) (hn : n < 700) : oE cq (setI S a i x) a = .inl (cq 0, n, .inl (upd (oI S a) i x)) := by
  rw [oE_ar (S := setI S a i x) h hn, setI_fun]
theorem he_a1 {cq : Nat → ClassId} {S : oS} {a n i : Nat} {x : Int32} (h : oK S a = 100 + n) (hn : n < 200) : oE cq (setI S a i x) a = .inl (cq 0, n, .inl (upd (oI S a) i x)) := by
  rw [oE_a1 (S := setI S a i x) h hn, setI_fun]
theorem he_18 {cq : Nat → ClassId} {S : oS} {a i : Nat} {x : Int64} (h : oK S a = 18) : oE cq (setJ S a i x) a = .inl (cq 1, 81, .inr (.inl (vp_updL (oJ S a) i x))) := by
  rw [oE_18 (S := setJ S a i x) h, setJ_fun]
theorem he_12 {cq : Nat → ClassId} {S : oS} {a i : Nat} {x : Option Nat} (h : oK S a = 12) : oE cq (setP S a i x) a = .inl (cq 2, 30, .inr (.inr (.inr (.inr (va_up (oP S a) i x))))) := by
  rw [oE_12 (S := setP S a i x) h, setP_fun]
theorem he_13 {cq : Nat → ClassId} {S : oS} {a i : Nat} {x : Option Nat} (h : oK S a = 13) : oE cq (setP S a i x) a = .inl (cq 2, 5, .inr (.inr (.inr (.inr (va_up (oP S a) i x))))) := by
  rw [oE_13 (S := setP S a i x) h, setP_fun]
theorem he_14 {cq : Nat → ClassId} {S : oS} {a i : Nat} {x : Option Nat} (h : oK S a = 14) : oE cq (setP S a i x) a = .inl (cq 3, 40, .inr (.inr (.inr (.inr (va_up (oP S a) i x))))) := by
  rw [oE_14 (S := setP S a i x) h, setP_fun]
theorem he_15 {cq : Nat → ClassId} {S : oS} {a i : Nat} {x : Option Nat} (h : oK S a = 15) : oE cq (setP S a i x) a = .inl (cq 4, 20, .inr (.inr (.inr (.inr (va_up (oP S a) i x))))) := by
  rw [oE_15 (S := setP S a i x) h, setP_fun]
theorem he_16 {cq : Nat → ClassId} {S : oS} {a i : Nat} {x : Option Nat} (h : oK S a = 16) : oE cq (setP S a i x) a = .inl (cq 5, 60, .inr (.inr (.inr (.inr (va_up (oP S a) i x))))) := by
  rw [oE_16 (S := setP S a i x) h, setP_fun]
theorem he_17 {cq : Nat → ClassId} {S : oS} {a i : Nat} {x : Option Nat} (h : oK S a = 17) : oE cq (setP S a i x) a = .inl (cq 6, 6, .inr (.inr (.inr (.inr (va_up (oP S a) i x))))) := by
  rw [oE_17 (S := setP S a i x) h, setP_fun]
