
def adX (h0 : Nat) (u : Nat → Nat → Nat → Nat) : Nat → Nat → Nat := fun k i => match k with
  | 0 => h0
  | 1 => (u 10 0 0)
  | 2 => (u 0 0 0)
  | 3 => (u 10 0 1)
  | 4 => (u 10 0 2)
  | 5 => (u 2 0 0)
  | 6 => (u 2 0 1)
  | 7 => (u 2 0 2)
  | 8 => (u 2 1 i)
  | 9 => (u 10 0 3)
  | 10 => (u 3 0 0)
  | 11 => (u 3 1 i)
  | 12 => (if i < 15 then u 9 4 i else u 10 0 4)
  | 13 => (if i < 15 then u 9 5 i else u 4 0 0)
  | 14 => (if i < 15 then u 9 6 i else u 4 0 1)
  | 15 => (if i < 15 then u 9 7 i else u 4 0 2)
  | 16 => (u 10 0 5)
  | 17 => (u 5 0 0)
  | 18 => (u 5 1 i)
  | 19 => (u 10 0 6)
  | 20 => (u 6 0 0)
  | 21 => (u 6 0 1)
  | 22 => (u 6 0 2)
  | 23 => (u 6 0 3)
  | 24 => (u 6 0 4)
  | 25 => (if i < 1 then u 10 0 7 else u 10 0 8)
  | 26 => (if i < 1 then u 7 0 0 else u 8 0 0)
  | 27 => (if i < 6 then u 7 1 i else u 8 1 (i - 6))
  | 28 => (if i < 1 then u 7 0 1 else u 8 0 1)
  | 29 => (if i < 1 then u 7 0 2 else u 8 0 2)
  | 30 => (if i < 1 then u 7 0 3 else u 8 0 3)
  | 31 => (if i < 1 then u 7 0 4 else u 8 0 4)
  | 32 => (if i < 1 then u 7 0 5 else u 8 0 5)
  | 33 => (if i < 1 then u 7 0 6 else u 8 0 6)
  | 34 => (if i < 1 then u 7 0 7 else u 8 0 7)
  | 35 => (if i < 1 then u 7 0 8 else u 8 0 8)
  | 36 => (if i < 1 then u 7 0 9 else u 8 0 9)
  | 37 => (if i < 1 then u 7 0 10 else u 8 0 10)
  | 38 => (u 10 0 9)
  | 39 => (u 9 0 0)
  | 40 => (u 9 0 1)
  | 41 => (u 9 1 i)
  | 42 => (u 9 0 2)
  | 43 => (u 9 2 i)
  | 44 => (u 9 0 3)
  | 45 => (u 9 3 i)
  | 46 => (u 9 0 4)
  | 47 => (u 9 0 5)
  | _ => 0
def posX : Nat → Nat → Nat := fun k i => match k with
  | 0 => 0
  | 1 => 186
  | 2 => 187
  | 3 => 185
  | 4 => 175
  | 5 => 176
  | 6 => 177
  | 7 => 178
  | 8 => (match i with | 0 => 179 | 1 => 180 | 2 => 181 | 3 => 182 | 4 => 183 | 5 => 184 | _ => 0)
  | 9 => 167
  | 10 => 168
  | 11 => (match i with | 0 => 169 | 1 => 170 | 2 => 171 | 3 => 172 | 4 => 173 | 5 => 174 | _ => 0)
  | 12 => (match i with | 0 => 59 | 1 => 55 | 2 => 51 | 3 => 47 | 4 => 43 | 5 => 39 | 6 => 35 | 7 => 31 | 8 => 27 | 9 => 23 | 10 => 19 | 11 => 15 | 12 => 11 | 13 => 7 | 14 => 3 | 15 => 163 | _ => 0)
  | 13 => (match i with | 0 => 60 | 1 => 56 | 2 => 52 | 3 => 48 | 4 => 44 | 5 => 40 | 6 => 36 | 7 => 32 | 8 => 28 | 9 => 24 | 10 => 20 | 11 => 16 | 12 => 12 | 13 => 8 | 14 => 4 | 15 => 164 | _ => 0)
  | 14 => (match i with | 0 => 61 | 1 => 57 | 2 => 53 | 3 => 49 | 4 => 45 | 5 => 41 | 6 => 37 | 7 => 33 | 8 => 29 | 9 => 25 | 10 => 21 | 11 => 17 | 12 => 13 | 13 => 9 | 14 => 5 | 15 => 165 | _ => 0)
  | 15 => (match i with | 0 => 62 | 1 => 58 | 2 => 54 | 3 => 50 | 4 => 46 | 5 => 42 | 6 => 38 | 7 => 34 | 8 => 30 | 9 => 26 | 10 => 22 | 11 => 18 | 12 => 14 | 13 => 10 | 14 => 6 | 15 => 166 | _ => 0)
  | 16 => 155
  | 17 => 156
  | 18 => (match i with | 0 => 157 | 1 => 158 | 2 => 159 | 3 => 160 | 4 => 161 | 5 => 162 | _ => 0)
  | 19 => 149
  | 20 => 150
  | 21 => 151
  | 22 => 152
  | 23 => 153
  | 24 => 154
  | 25 => (match i with | 0 => 131 | 1 => 113 | _ => 0)
  | 26 => (match i with | 0 => 132 | 1 => 114 | _ => 0)
  | 27 => (match i with | 0 => 133 | 1 => 134 | 2 => 135 | 3 => 136 | 4 => 137 | 5 => 138 | 6 => 115 | 7 => 116 | 8 => 117 | 9 => 118 | 10 => 119 | 11 => 120 | _ => 0)
  | 28 => (match i with | 0 => 139 | 1 => 121 | _ => 0)
  | 29 => (match i with | 0 => 140 | 1 => 122 | _ => 0)
  | 30 => (match i with | 0 => 141 | 1 => 123 | _ => 0)
  | 31 => (match i with | 0 => 142 | 1 => 124 | _ => 0)
  | 32 => (match i with | 0 => 143 | 1 => 125 | _ => 0)
  | 33 => (match i with | 0 => 144 | 1 => 126 | _ => 0)
  | 34 => (match i with | 0 => 145 | 1 => 127 | _ => 0)
  | 35 => (match i with | 0 => 146 | 1 => 128 | _ => 0)
  | 36 => (match i with | 0 => 147 | 1 => 129 | _ => 0)
  | 37 => (match i with | 0 => 148 | 1 => 130 | _ => 0)
  | 38 => 2
  | 39 => 1
  | 40 => 97
  | 41 => (match i with | 0 => 98 | 1 => 99 | 2 => 100 | 3 => 101 | 4 => 102 | 5 => 103 | 6 => 104 | 7 => 105 | 8 => 106 | 9 => 107 | 10 => 108 | 11 => 109 | 12 => 110 | 13 => 111 | 14 => 112 | _ => 0)
  | 42 => 81
  | 43 => (match i with | 0 => 82 | 1 => 83 | 2 => 84 | 3 => 85 | 4 => 86 | 5 => 87 | 6 => 88 | 7 => 89 | 8 => 90 | 9 => 91 | 10 => 92 | 11 => 93 | 12 => 94 | 13 => 95 | 14 => 96 | _ => 0)
  | 44 => 65
  | 45 => (match i with | 0 => 66 | 1 => 67 | 2 => 68 | 3 => 69 | 4 => 70 | 5 => 71 | 6 => 72 | 7 => 73 | 8 => 74 | 9 => 75 | 10 => 76 | 11 => 77 | 12 => 78 | 13 => 79 | 14 => 80 | _ => 0)
  | 46 => 64
  | 47 => 63
  | _ => 0
def invX : List (Nat × Nat) := [(0, 0), (39, 0), (38, 0), (12, 14), (13, 14), (14, 14), (15, 14), (12, 13), (13, 13), (14, 13), (15, 13), (12, 12), (13, 12), (14, 12), (15, 12), (12, 11), (13, 11), (14, 11), (15, 11), (12, 10), (13, 10), (14, 10), (15, 10), (12, 9), (13, 9), (14, 9), (15, 9), (12, 8), (13, 8), (14, 8), (15, 8), (12, 7), (13, 7), (14, 7), (15, 7), (12, 6), (13, 6), (14, 6), (15, 6), (12, 5), (13, 5), (14, 5), (15, 5), (12, 4), (13, 4), (14, 4), (15, 4), (12, 3), (13, 3), (14, 3), (15, 3), (12, 2), (13, 2), (14, 2), (15, 2), (12, 1), (13, 1), (14, 1), (15, 1), (12, 0), (13, 0), (14, 0), (15, 0), (47, 0), (46, 0), (44, 0), (45, 0), (45, 1), (45, 2), (45, 3), (45, 4), (45, 5), (45, 6), (45, 7), (45, 8), (45, 9), (45, 10), (45, 11), (45, 12), (45, 13), (45, 14), (42, 0), (43, 0), (43, 1), (43, 2), (43, 3), (43, 4), (43, 5), (43, 6), (43, 7), (43, 8), (43, 9), (43, 10), (43, 11), (43, 12), (43, 13), (43, 14), (40, 0), (41, 0), (41, 1), (41, 2), (41, 3), (41, 4), (41, 5), (41, 6), (41, 7), (41, 8), (41, 9), (41, 10), (41, 11), (41, 12), (41, 13), (41, 14), (25, 1), (26, 1), (27, 6), (27, 7), (27, 8), (27, 9), (27, 10), (27, 11), (28, 1), (29, 1), (30, 1), (31, 1), (32, 1), (33, 1), (34, 1), (35, 1), (36, 1), (37, 1), (25, 0), (26, 0), (27, 0), (27, 1), (27, 2), (27, 3), (27, 4), (27, 5), (28, 0), (29, 0), (30, 0), (31, 0), (32, 0), (33, 0), (34, 0), (35, 0), (36, 0), (37, 0), (19, 0), (20, 0), (21, 0), (22, 0), (23, 0), (24, 0), (16, 0), (17, 0), (18, 0), (18, 1), (18, 2), (18, 3), (18, 4), (18, 5), (12, 15), (13, 15), (14, 15), (15, 15), (9, 0), (10, 0), (11, 0), (11, 1), (11, 2), (11, 3), (11, 4), (11, 5), (4, 0), (5, 0), (6, 0), (7, 0), (8, 0), (8, 1), (8, 2), (8, 3), (8, 4), (8, 5), (3, 0), (1, 0), (2, 0)]
theorem posX_inv : ∀ k, k < 48 → ∀ i, i < cnX k → invX.getD (posX k i) (99, 99) = (k, i) := by decide +kernel
/-- the class's state as it is new -/
def st0X : gS := fun k _ j => match k with
  | 0 => (match j with | 8 => 1 | _ => 0)
  | 11 => -1
  | 14 => -1
  | 15 => -1
  | 20 => -1
  | _ => 0
def st0M : gS := fun k _ j => match k with
  | 0 => (match j with | 55 => -1 | _ => 0)
  | 6 => -1
  | _ => 0
theorem st0X_bd : gBd bX st0X := by
  intro k i j
  match k with
  | 0 =>
    match j with
    | 0 => exact ⟨gi_lo _, gi_hi _⟩
    | 1 => exact ⟨gi_lo _, gi_hi _⟩
    | 2 => exact ⟨gi_lo _, gi_hi _⟩
    | 3 => exact ⟨gi_lo _, gi_hi _⟩
    | 4 => exact ⟨gi_lo _, gi_hi _⟩
    | 5 => exact ⟨gi_lo _, gi_hi _⟩
    | 6 => exact ⟨gi_lo _, gi_hi _⟩
    | 7 => exact (by decide : (0 : Int) ≤ (0 : Int32).toInt ∧ (0 : Int32).toInt ≤ (1 : Int))
    | 8 => exact (by decide : (0 : Int) ≤ (1 : Int32).toInt ∧ (1 : Int32).toInt ≤ (1 : Int))
    | 9 => exact ⟨gi_lo _, gi_hi _⟩
    | 10 => exact (by decide : (0 : Int) ≤ (0 : Int32).toInt ∧ (0 : Int32).toInt ≤ (199 : Int))
    | j + 11 => exact ⟨gi_lo _, gi_hi _⟩
  | 1 =>
    match j with
    | 0 => exact ⟨gi_lo _, gi_hi _⟩
    | 1 => exact (by decide : (0 : Int) ≤ (0 : Int32).toInt ∧ (0 : Int32).toInt ≤ (800 : Int))
    | j + 2 => exact ⟨gi_lo _, gi_hi _⟩
  | 2 => exact ⟨gi_lo _, gi_hi _⟩
  | 3 =>
    match j with
    | 0 => exact ⟨gi_lo _, gi_hi _⟩
    | 1 => exact ⟨gi_lo _, gi_hi _⟩
    | 2 => exact (by decide : (0 : Int) ≤ (0 : Int32).toInt ∧ (0 : Int32).toInt ≤ (800 : Int))
    | 3 => exact (by decide : (0 : Int) ≤ (0 : Int32).toInt ∧ (0 : Int32).toInt ≤ (801 : Int))
    | j + 4 => exact ⟨gi_lo _, gi_hi _⟩
  | 4 => exact ⟨gi_lo _, gi_hi _⟩
  | 5 => exact ⟨gi_lo _, gi_hi _⟩
  | 6 => exact ⟨gi_lo _, gi_hi _⟩
  | 7 => exact ⟨gi_lo _, gi_hi _⟩
  | 8 => exact ⟨gi_lo _, gi_hi _⟩
  | 9 => exact ⟨gi_lo _, gi_hi _⟩
  | 10 => exact ⟨gi_lo _, gi_hi _⟩
  | 11 => exact ⟨gi_lo _, gi_hi _⟩
  | 12 => exact ⟨gi_lo _, gi_hi _⟩
  | 13 => exact ⟨gi_lo _, gi_hi _⟩
  | 14 => exact ⟨gi_lo _, gi_hi _⟩
  | 15 => exact ⟨gi_lo _, gi_hi _⟩
  | 16 =>
    match j with
    | 0 => exact ⟨gi_lo _, gi_hi _⟩
    | 1 => exact (by decide : (0 : Int) ≤ (0 : Int32).toInt ∧ (0 : Int32).toInt ≤ (300 : Int))
    | j + 2 => exact ⟨gi_lo _, gi_hi _⟩
  | 17 => exact ⟨gi_lo _, gi_hi _⟩
  | 18 => exact ⟨gi_lo _, gi_hi _⟩
  | 19 => exact ⟨gi_lo _, gi_hi _⟩
  | 20 => exact ⟨gi_lo _, gi_hi _⟩
  | 21 => exact ⟨gi_lo _, gi_hi _⟩
  | 22 => exact ⟨gi_lo _, gi_hi _⟩
  | 23 => exact (by decide : (0 : Int) ≤ (0 : Int32).toInt ∧ (0 : Int32).toInt ≤ (5 : Int))
  | 24 => exact ⟨gi_lo _, gi_hi _⟩
  | 25 =>
    match j with
    | 0 => exact ⟨gi_lo _, gi_hi _⟩
    | 1 => exact ⟨gi_lo _, gi_hi _⟩
    | 2 => exact ⟨gi_lo _, gi_hi _⟩
    | 3 => exact ⟨gi_lo _, gi_hi _⟩
    | 4 => exact ⟨gi_lo _, gi_hi _⟩
    | 5 => exact (by decide : (0 : Int) ≤ (0 : Int32).toInt ∧ (0 : Int32).toInt ≤ (20 : Int))
    | 6 => exact ⟨gi_lo _, gi_hi _⟩
    | 7 => exact ⟨gi_lo _, gi_hi _⟩
    | 8 => exact ⟨gi_lo _, gi_hi _⟩
    | 9 => exact (by decide : (0 : Int) ≤ (0 : Int32).toInt ∧ (0 : Int32).toInt ≤ (20 : Int))
    | j + 10 => exact ⟨gi_lo _, gi_hi _⟩
  | 26 => exact ⟨gi_lo _, gi_hi _⟩
  | 27 => exact ⟨gi_lo _, gi_hi _⟩
  | 28 => exact (by decide : (0 : Int) ≤ (0 : Int32).toInt ∧ (0 : Int32).toInt ≤ (72 : Int))
  | 29 => exact ⟨gi_lo _, gi_hi _⟩
  | 30 => exact ⟨gi_lo _, gi_hi _⟩
  | 31 => exact ⟨gi_lo _, gi_hi _⟩
  | 32 => exact ⟨gi_lo _, gi_hi _⟩
  | 33 => exact ⟨gi_lo _, gi_hi _⟩
  | 34 => exact ⟨gi_lo _, gi_hi _⟩
  | 35 => exact ⟨gi_lo _, gi_hi _⟩
  | 36 => exact ⟨gi_lo _, gi_hi _⟩
  | 37 => exact ⟨gi_lo _, gi_hi _⟩
  | 38 =>
    match j with
    | 0 => exact ⟨gi_lo _, gi_hi _⟩
    | 1 => exact ⟨gi_lo _, gi_hi _⟩
    | 2 => exact ⟨gi_lo _, gi_hi _⟩
    | 3 => exact (by decide : (0 : Int) ≤ (0 : Int32).toInt ∧ (0 : Int32).toInt ≤ (1 : Int))
    | 4 => exact (by decide : (0 : Int) ≤ (0 : Int32).toInt ∧ (0 : Int32).toInt ≤ (199 : Int))
    | 5 => exact ⟨gi_lo _, gi_hi _⟩
    | 6 => exact ⟨gi_lo _, gi_hi _⟩
    | 7 => exact ⟨gi_lo _, gi_hi _⟩
    | 8 => exact ⟨gi_lo _, gi_hi _⟩
    | 9 => exact ⟨gi_lo _, gi_hi _⟩
    | 10 => exact ⟨gi_lo _, gi_hi _⟩
    | 11 => exact ⟨gi_lo _, gi_hi _⟩
    | 12 => exact ⟨gi_lo _, gi_hi _⟩
    | 13 => exact (by decide : (0 : Int) ≤ (0 : Int32).toInt ∧ (0 : Int32).toInt ≤ (199 : Int))
    | 14 => exact (by decide : (0 : Int) ≤ (0 : Int32).toInt ∧ (0 : Int32).toInt ≤ (14 : Int))
    | j + 15 => exact ⟨gi_lo _, gi_hi _⟩
  | 39 => exact ⟨gi_lo _, gi_hi _⟩
  | 40 => exact ⟨gi_lo _, gi_hi _⟩
  | 41 => exact (by decide : (0 : Int) ≤ (0 : Int32).toInt ∧ (0 : Int32).toInt ≤ (5 : Int))
  | 42 => exact ⟨gi_lo _, gi_hi _⟩
  | 43 => exact ⟨gi_lo _, gi_hi _⟩
  | 44 => exact ⟨gi_lo _, gi_hi _⟩
  | 45 => exact ⟨gi_lo _, gi_hi _⟩
  | 46 => exact (by decide : (-1 : Int) ≤ (0 : Int32).toInt ∧ (0 : Int32).toInt ≤ (9 : Int))
  | 47 => exact ⟨gi_lo _, gi_hi _⟩
  | k + 48 => exact ⟨gi_lo _, gi_hi _⟩
theorem st0M_bd : gBd bM st0M := by
  intro k i j
  match k with
  | 0 =>
    match j with
    | 0 => exact ⟨gi_lo _, gi_hi _⟩
    | 1 => exact ⟨gi_lo _, gi_hi _⟩
    | 2 => exact ⟨gi_lo _, gi_hi _⟩
    | 3 => exact ⟨gi_lo _, gi_hi _⟩
    | 4 => exact ⟨gi_lo _, gi_hi _⟩
    | 5 => exact ⟨gi_lo _, gi_hi _⟩
    | 6 => exact ⟨gi_lo _, gi_hi _⟩
    | 7 => exact (by decide : (0 : Int) ≤ (0 : Int32).toInt ∧ (0 : Int32).toInt ≤ (199 : Int))
    | 8 => exact ⟨gi_lo _, gi_hi _⟩
    | 9 => exact (by decide : (0 : Int) ≤ (0 : Int32).toInt ∧ (0 : Int32).toInt ≤ (800 : Int))
    | 10 => exact (by decide : (0 : Int) ≤ (0 : Int32).toInt ∧ (0 : Int32).toInt ≤ (800 : Int))
    | 11 => exact (by decide : (0 : Int) ≤ (0 : Int32).toInt ∧ (0 : Int32).toInt ≤ (800 : Int))
    | 12 => exact ⟨gi_lo _, gi_hi _⟩
    | 13 => exact ⟨gi_lo _, gi_hi _⟩
    | 14 => exact ⟨gi_lo _, gi_hi _⟩
    | 15 => exact ⟨gi_lo _, gi_hi _⟩
    | 16 => exact ⟨gi_lo _, gi_hi _⟩
    | 17 => exact ⟨gi_lo _, gi_hi _⟩
    | 18 => exact ⟨gi_lo _, gi_hi _⟩
    | 19 => exact ⟨gi_lo _, gi_hi _⟩
    | 20 => exact ⟨gi_lo _, gi_hi _⟩
    | 21 => exact ⟨gi_lo _, gi_hi _⟩
    | 22 => exact ⟨gi_lo _, gi_hi _⟩
    | 23 => exact ⟨gi_lo _, gi_hi _⟩
    | 24 => exact ⟨gi_lo _, gi_hi _⟩
    | 25 => exact ⟨gi_lo _, gi_hi _⟩
    | 26 => exact ⟨gi_lo _, gi_hi _⟩
    | 27 => exact ⟨gi_lo _, gi_hi _⟩
    | 28 => exact (by decide : (0 : Int) ≤ (0 : Int32).toInt ∧ (0 : Int32).toInt ≤ (1 : Int))
    | 29 => exact (by decide : (0 : Int) ≤ (0 : Int32).toInt ∧ (0 : Int32).toInt ≤ (20 : Int))
    | 30 => exact (by decide : (0 : Int) ≤ (0 : Int32).toInt ∧ (0 : Int32).toInt ≤ (20 : Int))
    | 31 => exact ⟨gi_lo _, gi_hi _⟩
    | 32 => exact ⟨gi_lo _, gi_hi _⟩
    | 33 => exact ⟨gi_lo _, gi_hi _⟩
    | 34 => exact ⟨gi_lo _, gi_hi _⟩
    | 35 => exact ⟨gi_lo _, gi_hi _⟩
    | 36 => exact ⟨gi_lo _, gi_hi _⟩
    | 37 => exact (by decide : (0 : Int) ≤ (0 : Int32).toInt ∧ (0 : Int32).toInt ≤ (300 : Int))
    | 38 => exact ⟨gi_lo _, gi_hi _⟩
    | 39 => exact ⟨gi_lo _, gi_hi _⟩
    | 40 => exact ⟨gi_lo _, gi_hi _⟩
    | 41 => exact ⟨gi_lo _, gi_hi _⟩
    | 42 => exact ⟨gi_lo _, gi_hi _⟩
    | 43 => exact ⟨gi_lo _, gi_hi _⟩
    | 44 => exact ⟨gi_lo _, gi_hi _⟩
    | 45 => exact ⟨gi_lo _, gi_hi _⟩
    | 46 => exact ⟨gi_lo _, gi_hi _⟩
    | 47 => exact ⟨gi_lo _, gi_hi _⟩
    | 48 => exact ⟨gi_lo _, gi_hi _⟩
    | 49 => exact ⟨gi_lo _, gi_hi _⟩
    | 50 => exact ⟨gi_lo _, gi_hi _⟩
    | 51 => exact ⟨gi_lo _, gi_hi _⟩
    | 52 => exact ⟨gi_lo _, gi_hi _⟩
    | 53 => exact ⟨gi_lo _, gi_hi _⟩
    | 54 => exact ⟨gi_lo _, gi_hi _⟩
    | 55 => exact (by decide : (-1 : Int) ≤ (-1 : Int32).toInt ∧ (-1 : Int32).toInt ≤ (199 : Int))
    | 56 => exact (by decide : (0 : Int) ≤ (0 : Int32).toInt ∧ (0 : Int32).toInt ≤ (14 : Int))
    | j + 57 => exact ⟨gi_lo _, gi_hi _⟩
  | 1 => exact ⟨gi_lo _, gi_hi _⟩
  | 2 => exact ⟨gi_lo _, gi_hi _⟩
  | 3 => exact ⟨gi_lo _, gi_hi _⟩
  | 4 => exact ⟨gi_lo _, gi_hi _⟩
  | 5 => exact ⟨gi_lo _, gi_hi _⟩
  | 6 => exact ⟨gi_lo _, gi_hi _⟩
  | 7 => exact ⟨gi_lo _, gi_hi _⟩
  | 8 => exact ⟨gi_lo _, gi_hi _⟩
  | 9 => exact (by decide : (0 : Int) ≤ (0 : Int32).toInt ∧ (0 : Int32).toInt ≤ (5 : Int))
  | 10 => exact ⟨gi_lo _, gi_hi _⟩
  | 11 => exact ⟨gi_lo _, gi_hi _⟩
  | 12 => exact ⟨gi_lo _, gi_hi _⟩
  | 13 => exact (by decide : (0 : Int) ≤ (0 : Int32).toInt ∧ (0 : Int32).toInt ≤ (8 : Int))
  | 14 => exact ⟨gi_lo _, gi_hi _⟩
  | 15 => exact (by decide : (0 : Int) ≤ (0 : Int32).toInt ∧ (0 : Int32).toInt ≤ (9 : Int))
  | 16 => exact ⟨gi_lo _, gi_hi _⟩
  | 17 => exact ⟨gi_lo _, gi_hi _⟩
  | 18 => exact ⟨gi_lo _, gi_hi _⟩
  | 19 => exact ⟨gi_lo _, gi_hi _⟩
  | 20 => exact ⟨gi_lo _, gi_hi _⟩
  | 21 => exact ⟨gi_lo _, gi_hi _⟩
  | 22 => exact ⟨gi_lo _, gi_hi _⟩
  | 23 => exact ⟨gi_lo _, gi_hi _⟩
  | 24 => exact ⟨gi_lo _, gi_hi _⟩
  | 25 => exact ⟨gi_lo _, gi_hi _⟩
  | 26 => exact (by decide : (0 : Int) ≤ (0 : Int32).toInt ∧ (0 : Int32).toInt ≤ (5 : Int))
  | 27 => exact ⟨gi_lo _, gi_hi _⟩
  | 28 => exact ⟨gi_lo _, gi_hi _⟩
  | 29 => exact ⟨gi_lo _, gi_hi _⟩
  | 30 => exact (by decide : (0 : Int) ≤ (0 : Int32).toInt ∧ (0 : Int32).toInt ≤ (5 : Int))
  | 31 => exact ⟨gi_lo _, gi_hi _⟩
  | 32 => exact ⟨gi_lo _, gi_hi _⟩
  | 33 => exact (by decide : (0 : Int) ≤ (0 : Int32).toInt ∧ (0 : Int32).toInt ≤ (8 : Int))
  | 34 => exact ⟨gi_lo _, gi_hi _⟩
  | 35 => exact ⟨gi_lo _, gi_hi _⟩
  | 36 => exact ⟨gi_lo _, gi_hi _⟩
  | 37 => exact ⟨gi_lo _, gi_hi _⟩
  | 38 => exact ⟨gi_lo _, gi_hi _⟩
  | k + 39 => exact ⟨gi_lo _, gi_hi _⟩
set_option maxHeartbeats 8000000 in
set_option maxRecDepth 100000 in
theorem court_key (cy : Nat → ClassId) (h0 : Nat) (u : Nat → Nat → Nat → Nat) : ∀ k i, i < cnX k → (wCourt cy h0 u)[posX k i]? = some (adX h0 u k i, shX cy (adX h0 u) k i (st0X k i)) := by
  have e39 : (fun j => if j < 15 then some (adX h0 u 12 j) else none) = (fun j => if j < 15 then some (u 9 4 j) else none) := by
    funext j
    by_cases h : j < 15
    · rw [if_pos h, if_pos h]; show some (if j < 15 then u 9 4 j else u 10 0 4) = _; rw [if_pos h]
    · rw [if_neg h, if_neg h]
  have e260 : (fun j => if j < 6 then some (adX h0 u 27 (6 * 0 + j)) else none) = (fun j => if j < 6 then some (u 7 1 j) else none) := by
    funext j
    by_cases h : j < 6
    · rw [if_pos h, if_pos h]; show some (if 6 * 0 + j < 6 then u 7 1 (6 * 0 + j) else u 8 1 (6 * 0 + j - 6)) = _; rw [if_pos (by omega), show 6 * 0 + j = j by omega]
    · rw [if_neg h, if_neg h]
  have e261 : (fun j => if j < 6 then some (adX h0 u 27 (6 * 1 + j)) else none) = (fun j => if j < 6 then some (u 8 1 j) else none) := by
    funext j
    by_cases h : j < 6
    · rw [if_pos h, if_pos h]; show some (if 6 * 1 + j < 6 then u 7 1 (6 * 1 + j) else u 8 1 (6 * 1 + j - 6)) = _; rw [if_neg (by omega), show 6 * 1 + j - 6 = j by omega]
    · rw [if_neg h, if_neg h]
  intro k i hi
  match k, hi with
  | 0, hi =>
    match i, hi with
    | 0, _ => exact rfl
    | n + 1, hi => exact absurd hi (by show ¬ (n + 1 < 1); omega)
  | 1, hi =>
    match i, hi with
    | 0, _ => exact rfl
    | n + 1, hi => exact absurd hi (by show ¬ (n + 1 < 1); omega)
  | 2, hi =>
    match i, hi with
    | 0, _ => exact rfl
    | n + 1, hi => exact absurd hi (by show ¬ (n + 1 < 1); omega)
  | 3, hi =>
    match i, hi with
    | 0, _ => exact rfl
    | n + 1, hi => exact absurd hi (by show ¬ (n + 1 < 1); omega)
  | 4, hi =>
    match i, hi with
    | 0, _ => exact rfl
    | n + 1, hi => exact absurd hi (by show ¬ (n + 1 < 1); omega)
  | 5, hi =>
    match i, hi with
    | 0, _ => exact rfl
    | n + 1, hi => exact absurd hi (by show ¬ (n + 1 < 1); omega)
  | 6, hi =>
    match i, hi with
    | 0, _ => exact rfl
    | n + 1, hi => exact absurd hi (by show ¬ (n + 1 < 1); omega)
  | 7, hi =>
    match i, hi with
    | 0, _ => exact rfl
    | n + 1, hi => exact absurd hi (by show ¬ (n + 1 < 1); omega)
  | 8, hi =>
    match i, hi with
    | 0, _ => exact rfl
    | 1, _ => exact rfl
    | 2, _ => exact rfl
    | 3, _ => exact rfl
    | 4, _ => exact rfl
    | 5, _ => exact rfl
    | n + 6, hi => exact absurd hi (by show ¬ (n + 6 < 6); omega)
  | 9, hi =>
    match i, hi with
    | 0, _ => exact rfl
    | n + 1, hi => exact absurd hi (by show ¬ (n + 1 < 1); omega)
  | 10, hi =>
    match i, hi with
    | 0, _ => exact rfl
    | n + 1, hi => exact absurd hi (by show ¬ (n + 1 < 1); omega)
  | 11, hi =>
    match i, hi with
    | 0, _ => exact rfl
    | 1, _ => exact rfl
    | 2, _ => exact rfl
    | 3, _ => exact rfl
    | 4, _ => exact rfl
    | 5, _ => exact rfl
    | n + 6, hi => exact absurd hi (by show ¬ (n + 6 < 6); omega)
  | 12, hi =>
    match i, hi with
    | 0, _ => exact rfl
    | 1, _ => exact rfl
    | 2, _ => exact rfl
    | 3, _ => exact rfl
    | 4, _ => exact rfl
    | 5, _ => exact rfl
    | 6, _ => exact rfl
    | 7, _ => exact rfl
    | 8, _ => exact rfl
    | 9, _ => exact rfl
    | 10, _ => exact rfl
    | 11, _ => exact rfl
    | 12, _ => exact rfl
    | 13, _ => exact rfl
    | 14, _ => exact rfl
    | 15, _ => exact rfl
    | n + 16, hi => exact absurd hi (by show ¬ (n + 16 < 16); omega)
  | 13, hi =>
    match i, hi with
    | 0, _ => exact rfl
    | 1, _ => exact rfl
    | 2, _ => exact rfl
    | 3, _ => exact rfl
    | 4, _ => exact rfl
    | 5, _ => exact rfl
    | 6, _ => exact rfl
    | 7, _ => exact rfl
    | 8, _ => exact rfl
    | 9, _ => exact rfl
    | 10, _ => exact rfl
    | 11, _ => exact rfl
    | 12, _ => exact rfl
    | 13, _ => exact rfl
    | 14, _ => exact rfl
    | 15, _ => exact rfl
    | n + 16, hi => exact absurd hi (by show ¬ (n + 16 < 16); omega)
  | 14, hi =>
    match i, hi with
    | 0, _ => exact rfl
    | 1, _ => exact rfl
    | 2, _ => exact rfl
    | 3, _ => exact rfl
    | 4, _ => exact rfl
    | 5, _ => exact rfl
    | 6, _ => exact rfl
    | 7, _ => exact rfl
    | 8, _ => exact rfl
    | 9, _ => exact rfl
    | 10, _ => exact rfl
    | 11, _ => exact rfl
    | 12, _ => exact rfl
    | 13, _ => exact rfl
    | 14, _ => exact rfl
    | 15, _ => exact rfl
    | n + 16, hi => exact absurd hi (by show ¬ (n + 16 < 16); omega)
  | 15, hi =>
    match i, hi with
    | 0, _ => exact rfl
    | 1, _ => exact rfl
    | 2, _ => exact rfl
    | 3, _ => exact rfl
    | 4, _ => exact rfl
    | 5, _ => exact rfl
    | 6, _ => exact rfl
    | 7, _ => exact rfl
    | 8, _ => exact rfl
    | 9, _ => exact rfl
    | 10, _ => exact rfl
    | 11, _ => exact rfl
    | 12, _ => exact rfl
    | 13, _ => exact rfl
    | 14, _ => exact rfl
    | 15, _ => exact rfl
    | n + 16, hi => exact absurd hi (by show ¬ (n + 16 < 16); omega)
  | 16, hi =>
    match i, hi with
    | 0, _ => exact rfl
    | n + 1, hi => exact absurd hi (by show ¬ (n + 1 < 1); omega)
  | 17, hi =>
    match i, hi with
    | 0, _ => exact rfl
    | n + 1, hi => exact absurd hi (by show ¬ (n + 1 < 1); omega)
  | 18, hi =>
    match i, hi with
    | 0, _ => exact rfl
    | 1, _ => exact rfl
    | 2, _ => exact rfl
    | 3, _ => exact rfl
    | 4, _ => exact rfl
    | 5, _ => exact rfl
    | n + 6, hi => exact absurd hi (by show ¬ (n + 6 < 6); omega)
  | 19, hi =>
    match i, hi with
    | 0, _ => exact rfl
    | n + 1, hi => exact absurd hi (by show ¬ (n + 1 < 1); omega)
  | 20, hi =>
    match i, hi with
    | 0, _ => exact rfl
    | n + 1, hi => exact absurd hi (by show ¬ (n + 1 < 1); omega)
  | 21, hi =>
    match i, hi with
    | 0, _ => exact rfl
    | n + 1, hi => exact absurd hi (by show ¬ (n + 1 < 1); omega)
  | 22, hi =>
    match i, hi with
    | 0, _ => exact rfl
    | n + 1, hi => exact absurd hi (by show ¬ (n + 1 < 1); omega)
  | 23, hi =>
    match i, hi with
    | 0, _ => exact rfl
    | n + 1, hi => exact absurd hi (by show ¬ (n + 1 < 1); omega)
  | 24, hi =>
    match i, hi with
    | 0, _ => exact rfl
    | n + 1, hi => exact absurd hi (by show ¬ (n + 1 < 1); omega)
  | 25, hi =>
    match i, hi with
    | 0, _ => exact rfl
    | 1, _ => exact rfl
    | n + 2, hi => exact absurd hi (by show ¬ (n + 2 < 2); omega)
  | 26, hi =>
    match i, hi with
    | 0, _ => exact (by show _ = some ((adX h0 u 26 0, .inl (cy 3, 6, .inr (.inr (.inr (.inr (fun j => if j < 6 then some (adX h0 u 27 (6 * 0 + j)) else none)))))) : Nat × va_E); rw [e260]; rfl)
    | 1, _ => exact (by show _ = some ((adX h0 u 26 1, .inl (cy 3, 6, .inr (.inr (.inr (.inr (fun j => if j < 6 then some (adX h0 u 27 (6 * 1 + j)) else none)))))) : Nat × va_E); rw [e261]; rfl)
    | n + 2, hi => exact absurd hi (by show ¬ (n + 2 < 2); omega)
  | 27, hi =>
    match i, hi with
    | 0, _ => exact rfl
    | 1, _ => exact rfl
    | 2, _ => exact rfl
    | 3, _ => exact rfl
    | 4, _ => exact rfl
    | 5, _ => exact rfl
    | 6, _ => exact rfl
    | 7, _ => exact rfl
    | 8, _ => exact rfl
    | 9, _ => exact rfl
    | 10, _ => exact rfl
    | 11, _ => exact rfl
    | n + 12, hi => exact absurd hi (by show ¬ (n + 12 < 12); omega)
  | 28, hi =>
    match i, hi with
    | 0, _ => exact rfl
    | 1, _ => exact rfl
    | n + 2, hi => exact absurd hi (by show ¬ (n + 2 < 2); omega)
  | 29, hi =>
    match i, hi with
    | 0, _ => exact rfl
    | 1, _ => exact rfl
    | n + 2, hi => exact absurd hi (by show ¬ (n + 2 < 2); omega)
  | 30, hi =>
    match i, hi with
    | 0, _ => exact rfl
    | 1, _ => exact rfl
    | n + 2, hi => exact absurd hi (by show ¬ (n + 2 < 2); omega)
  | 31, hi =>
    match i, hi with
    | 0, _ => exact rfl
    | 1, _ => exact rfl
    | n + 2, hi => exact absurd hi (by show ¬ (n + 2 < 2); omega)
  | 32, hi =>
    match i, hi with
    | 0, _ => exact rfl
    | 1, _ => exact rfl
    | n + 2, hi => exact absurd hi (by show ¬ (n + 2 < 2); omega)
  | 33, hi =>
    match i, hi with
    | 0, _ => exact rfl
    | 1, _ => exact rfl
    | n + 2, hi => exact absurd hi (by show ¬ (n + 2 < 2); omega)
  | 34, hi =>
    match i, hi with
    | 0, _ => exact rfl
    | 1, _ => exact rfl
    | n + 2, hi => exact absurd hi (by show ¬ (n + 2 < 2); omega)
  | 35, hi =>
    match i, hi with
    | 0, _ => exact rfl
    | 1, _ => exact rfl
    | n + 2, hi => exact absurd hi (by show ¬ (n + 2 < 2); omega)
  | 36, hi =>
    match i, hi with
    | 0, _ => exact rfl
    | 1, _ => exact rfl
    | n + 2, hi => exact absurd hi (by show ¬ (n + 2 < 2); omega)
  | 37, hi =>
    match i, hi with
    | 0, _ => exact rfl
    | 1, _ => exact rfl
    | n + 2, hi => exact absurd hi (by show ¬ (n + 2 < 2); omega)
  | 38, hi =>
    match i, hi with
    | 0, _ => exact rfl
    | n + 1, hi => exact absurd hi (by show ¬ (n + 1 < 1); omega)
  | 39, hi =>
    match i, hi with
    | 0, _ => exact (by show _ = some ((adX h0 u 39 0, .inl (cy 4, 15, .inr (.inr (.inr (.inr (fun j => if j < 15 then some (adX h0 u 12 j) else none)))))) : Nat × va_E); rw [e39]; rfl)
    | n + 1, hi => exact absurd hi (by show ¬ (n + 1 < 1); omega)
  | 40, hi =>
    match i, hi with
    | 0, _ => exact rfl
    | n + 1, hi => exact absurd hi (by show ¬ (n + 1 < 1); omega)
  | 41, hi =>
    match i, hi with
    | 0, _ => exact rfl
    | 1, _ => exact rfl
    | 2, _ => exact rfl
    | 3, _ => exact rfl
    | 4, _ => exact rfl
    | 5, _ => exact rfl
    | 6, _ => exact rfl
    | 7, _ => exact rfl
    | 8, _ => exact rfl
    | 9, _ => exact rfl
    | 10, _ => exact rfl
    | 11, _ => exact rfl
    | 12, _ => exact rfl
    | 13, _ => exact rfl
    | 14, _ => exact rfl
    | n + 15, hi => exact absurd hi (by show ¬ (n + 15 < 15); omega)
  | 42, hi =>
    match i, hi with
    | 0, _ => exact rfl
    | n + 1, hi => exact absurd hi (by show ¬ (n + 1 < 1); omega)
  | 43, hi =>
    match i, hi with
    | 0, _ => exact rfl
    | 1, _ => exact rfl
    | 2, _ => exact rfl
    | 3, _ => exact rfl
    | 4, _ => exact rfl
    | 5, _ => exact rfl
    | 6, _ => exact rfl
    | 7, _ => exact rfl
    | 8, _ => exact rfl
    | 9, _ => exact rfl
    | 10, _ => exact rfl
    | 11, _ => exact rfl
    | 12, _ => exact rfl
    | 13, _ => exact rfl
    | 14, _ => exact rfl
    | n + 15, hi => exact absurd hi (by show ¬ (n + 15 < 15); omega)
  | 44, hi =>
    match i, hi with
    | 0, _ => exact rfl
    | n + 1, hi => exact absurd hi (by show ¬ (n + 1 < 1); omega)
  | 45, hi =>
    match i, hi with
    | 0, _ => exact rfl
    | 1, _ => exact rfl
    | 2, _ => exact rfl
    | 3, _ => exact rfl
    | 4, _ => exact rfl
    | 5, _ => exact rfl
    | 6, _ => exact rfl
    | 7, _ => exact rfl
    | 8, _ => exact rfl
    | 9, _ => exact rfl
    | 10, _ => exact rfl
    | 11, _ => exact rfl
    | 12, _ => exact rfl
    | 13, _ => exact rfl
    | 14, _ => exact rfl
    | n + 15, hi => exact absurd hi (by show ¬ (n + 15 < 15); omega)
  | 46, hi =>
    match i, hi with
    | 0, _ => exact rfl
    | n + 1, hi => exact absurd hi (by show ¬ (n + 1 < 1); omega)
  | 47, hi =>
    match i, hi with
    | 0, _ => exact rfl
    | n + 1, hi => exact absurd hi (by show ¬ (n + 1 < 1); omega)
  | k + 48, hi => exact absurd hi (by show ¬ (i < 0); omega)
theorem cnX_big {k : Nat} (h : ¬ k < 48) : cnX k = 0 := by
  obtain ⟨n, rfl⟩ : ∃ n, k = n + 48 := ⟨k - 48, by omega⟩
  rfl
theorem court_gM {G : va_G} {cy : Nat → ClassId} {A : Nat → Prop} {h0 : Nat} {u : Nat → Nat → Nat → Nat} {ws : va_W} {H : Heap} (hP : va_P G vwCl (wCourt cy h0 u ++ ws) H) (hD : va_D A (wCourt cy h0 u ++ ws)) : gM G (shX cy (adX h0 u)) cnX (adX h0 u) st0X H ∧ gI cnX (adX h0 u) ∧ (∀ k i, i < cnX k → A (adX h0 u k i)) ∧ ∀ k i, i < cnX k → ∀ q ∈ ws, q.1 ≠ adX h0 u k i := by
  have key : ∀ k i, i < cnX k → (wCourt cy h0 u ++ ws)[posX k i]? = some (adX h0 u k i, shX cy (adX h0 u) k i (st0X k i)) ∧ posX k i < (wCourt cy h0 u).length := fun k i hi => by
    have h1 := court_key cy h0 u k i hi
    have h2 := (List.getElem?_eq_some_iff.mp h1).1
    rw [List.getElem?_append_left h2]
    exact ⟨h1, h2⟩
  refine ⟨fun k i hi => hP _ _ (key k i hi).1, fun k i k' i' hi hi' e => ?_, fun k i hi => hD.2 _ _ (key k i hi).1, fun k i hi q hq e => ?_⟩
  · have h1 := hD.1 _ _ _ _ (key k i hi).1 (key k' i' hi').1 e
    have a1 : k < 48 := Decidable.byContradiction (fun h => by rw [cnX_big h] at hi; omega)
    have a2 : k' < 48 := Decidable.byContradiction (fun h => by rw [cnX_big h] at hi'; omega)
    have h2 := posX_inv k a1 i hi
    rw [h1, posX_inv k' a2 i' hi'] at h2
    have h3 := Prod.mk.inj h2
    exact ⟨h3.1.symm, h3.2.symm⟩
  · obtain ⟨n, hn⟩ := List.getElem?_of_mem hq
    have h4 : (wCourt cy h0 u ++ ws)[(wCourt cy h0 u).length + n]? = some q := by rw [List.getElem?_append_right (by omega), Nat.add_sub_cancel_left]; exact hn
    have h5 := hD.1 _ _ _ _ (key k i hi).1 h4 e.symm
    have := (key k i hi).2
    omega