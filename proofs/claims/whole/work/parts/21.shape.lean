/-! ===== the world as both constructors leave it ===== -/
def kdL0 : List (Nat × Nat) := [(11, 0), (20, 600), (10, 0), (8, 0), (20, 8), (20, 8), (20, 8), (20, 8), (20, 8), (20, 8), (8, 0), (20, 8), (20, 8), (20, 8), (20, 8), (20, 8), (20, 8), (6, 0), (20, 1200), (20, 8), (20, 11), (20, 40), (5, 0), (20, 150), (0, 0), (20, 36), (20, 36), (3, 0), (20, 8), (20, 8), (21, 200), (20, 200), (2, 0), (20, 64), (20, 24), (20, 8), (20, 8), (20, 8), (20, 8), (20, 8), (20, 0), (20, 0), (3, 0), (20, 8), (20, 8), (21, 200), (20, 200), (2, 0), (20, 64), (20, 24)]
def kdL1 : List (Nat × Nat) := [(20, 8), (20, 8), (20, 8), (20, 8), (20, 8), (20, 0), (20, 0), (2, 0), (20, 64), (20, 24), (20, 8), (20, 8), (20, 8), (20, 8), (20, 8), (20, 192), (20, 24), (2, 0), (20, 64), (20, 24), (20, 8), (20, 8), (20, 8), (20, 8), (20, 8), (20, 0), (20, 0), (4, 0), (20, 72), (20, 2304), (20, 8), (1, 0), (20, 60), (24, 3), (20, 8), (20, 8), (20, 3), (12, 0), (20, 600), (20, 3), (20, 5), (20, 5), (23, 8), (20, 2), (20, 2), (20, 2), (20, 2), (20, 2), (20, 2), (20, 2)]
def kdL2 : List (Nat × Nat) := [(20, 2), (23, 9), (20, 2), (20, 2), (20, 2), (20, 2), (20, 2), (20, 2), (20, 2), (20, 2), (20, 2), (23, 8), (20, 4), (20, 4), (20, 4), (20, 4), (20, 4), (20, 4), (20, 4), (20, 4), (23, 8), (20, 4), (20, 4), (20, 4), (20, 4), (20, 4), (20, 4), (20, 4), (20, 4), (20, 8), (20, 160), (20, 11), (20, 320), (23, 8), (20, 320), (20, 320), (20, 320), (20, 320), (20, 320), (20, 320), (20, 320), (20, 320), (23, 12), (20, 3), (20, 3), (20, 3), (20, 3), (20, 3), (20, 3), (20, 3)]
def kdL3 : List (Nat × Nat) := [(20, 3), (20, 3), (20, 3), (20, 3), (20, 3), (23, 12), (20, 3), (20, 3), (20, 3), (20, 3), (20, 3), (20, 3), (20, 3), (20, 3), (20, 3), (20, 3), (20, 3), (20, 3), (23, 20), (20, 11), (20, 11), (20, 11), (20, 11), (20, 11), (20, 11), (20, 11), (20, 11), (20, 11), (20, 11), (20, 11), (20, 11), (20, 11), (20, 11), (20, 11), (20, 11), (20, 11), (20, 11), (20, 11), (20, 11), (23, 3), (20, 233), (20, 233), (20, 233), (22, 8), (20, 8), (20, 8), (20, 8), (20, 8), (20, 8), (20, 8)]
def kdL4 : List (Nat × Nat) := [(20, 8), (20, 8), (20, 8), (20, 8), (20, 8), (20, 8), (20, 8), (20, 8), (20, 8), (20, 24), (23, 8), (20, 24), (20, 24), (20, 24), (20, 24), (20, 24), (20, 24), (20, 24), (20, 24), (23, 8), (20, 24), (20, 24), (20, 24), (20, 24), (20, 24), (20, 24), (20, 24), (20, 24), (22, 8), (20, 8), (20, 8), (23, 200), (20, 32), (20, 32), (20, 32), (20, 32), (20, 32), (20, 32), (20, 32), (20, 32), (20, 32), (20, 32), (20, 32), (20, 32), (20, 32), (20, 32), (20, 32), (20, 32), (20, 32), (20, 32)]
def kdL5 : List (Nat × Nat) := [(20, 32), (20, 32), (20, 32), (20, 32), (20, 32), (20, 32), (20, 32), (20, 32), (20, 32), (20, 32), (20, 32), (20, 32), (20, 32), (20, 32), (20, 32), (20, 32), (20, 32), (20, 32), (20, 32), (20, 32), (20, 32), (20, 32), (20, 32), (20, 32), (20, 32), (20, 32), (20, 32), (20, 32), (20, 32), (20, 32), (20, 32), (20, 32), (20, 32), (20, 32), (20, 32), (20, 32), (20, 32), (20, 32), (20, 32), (20, 32), (20, 32), (20, 32), (20, 32), (20, 32), (20, 32), (20, 32), (20, 32), (20, 32), (20, 32), (20, 32)]
def kdL6 : List (Nat × Nat) := [(20, 32), (20, 32), (20, 32), (20, 32), (20, 32), (20, 32), (20, 32), (20, 32), (20, 32), (20, 32), (20, 32), (20, 32), (20, 32), (20, 32), (20, 32), (20, 32), (20, 32), (20, 32), (20, 32), (20, 32), (20, 32), (20, 32), (20, 32), (20, 32), (20, 32), (20, 32), (20, 32), (20, 32), (20, 32), (20, 32), (20, 32), (20, 32), (20, 32), (20, 32), (20, 32), (20, 32), (20, 32), (20, 32), (20, 32), (20, 32), (20, 32), (20, 32), (20, 32), (20, 32), (20, 32), (20, 32), (20, 32), (20, 32), (20, 32), (20, 32)]
def kdL7 : List (Nat × Nat) := [(20, 32), (20, 32), (20, 32), (20, 32), (20, 32), (20, 32), (20, 32), (20, 32), (20, 32), (20, 32), (20, 32), (20, 32), (20, 32), (20, 32), (20, 32), (20, 32), (20, 32), (20, 32), (20, 32), (20, 32), (20, 32), (20, 32), (20, 32), (20, 32), (20, 32), (20, 32), (20, 32), (20, 32), (20, 32), (20, 32), (20, 32), (20, 32), (20, 32), (20, 32), (20, 32), (20, 32), (20, 32), (20, 32), (20, 32), (20, 32), (20, 32), (20, 32), (20, 32), (20, 32), (20, 32), (20, 32), (20, 32), (20, 32), (20, 32), (20, 32)]
def kdL8 : List (Nat × Nat) := [(20, 32), (20, 32), (20, 32), (20, 32), (20, 32), (20, 32), (20, 32), (20, 32), (20, 32), (20, 32), (20, 32), (20, 32), (20, 32), (20, 32), (20, 32), (20, 32), (20, 32), (20, 32), (20, 32), (20, 32), (20, 32), (20, 32), (20, 32), (20, 32), (20, 32), (20, 32), (20, 32), (20, 32), (20, 32), (20, 32), (20, 32), (20, 32), (23, 4), (20, 4096), (20, 4096), (20, 4096), (20, 4096), (23, 9), (20, 512), (20, 512), (20, 512), (20, 512), (20, 512), (20, 512), (20, 512), (20, 512), (20, 512), (20, 8), (20, 8), (22, 12)]
def kdL9 : List (Nat × Nat) := [(21, 1)]
def KD (i : Nat) : Nat × Nat := match i / 50 with
  | 0 => kdL0.getD (i % 50) (99, 0)
  | 1 => kdL1.getD (i % 50) (99, 0)
  | 2 => kdL2.getD (i % 50) (99, 0)
  | 3 => kdL3.getD (i % 50) (99, 0)
  | 4 => kdL4.getD (i % 50) (99, 0)
  | 5 => kdL5.getD (i % 50) (99, 0)
  | 6 => kdL6.getD (i % 50) (99, 0)
  | 7 => kdL7.getD (i % 50) (99, 0)
  | 8 => kdL8.getD (i % 50) (99, 0)
  | _ => kdL9.getD (i % 50) (99, 0)
def MRf (i k : Nat) : Option Nat := match i with
  | 0 => match k with
    | 0 => some 1
    | 1 => some 2
    | 2 => some 3
    | 3 => some 10
    | 4 => some 17
    | 5 => some 22
    | 6 => some 24
    | 7 => some 27
    | 8 => some 42
    | 9 => some 57
    | 10 => some 67
    | 11 => some 77
    | 12 => some 81
    | 13 => some 84
    | 14 => some 85
    | 15 => some 86
    | _ => none
  | 2 => match k with
    | 0 => some 1
    | _ => none
  | 3 => match k with
    | 0 => some 4
    | 1 => some 5
    | 2 => some 6
    | 3 => some 7
    | 4 => some 8
    | 5 => some 9
    | _ => none
  | 10 => match k with
    | 0 => some 11
    | 1 => some 12
    | 2 => some 13
    | 3 => some 14
    | 4 => some 15
    | 5 => some 16
    | _ => none
  | 17 => match k with
    | 0 => some 18
    | 1 => some 19
    | 2 => some 20
    | 3 => some 21
    | _ => none
  | 22 => match k with
    | 0 => some 23
    | 3 => some 2
    | _ => none
  | 24 => match k with
    | 0 => some 25
    | 1 => some 26
    | _ => none
  | 27 => match k with
    | 0 => some 3
    | 1 => some 17
    | 2 => some 32
    | 3 => some 28
    | 4 => some 29
    | 5 => some 30
    | 6 => some 31
    | _ => none
  | 32 => match k with
    | 0 => some 3
    | 1 => some 33
    | 2 => some 34
    | 3 => some 40
    | 4 => some 41
    | 5 => some 35
    | 6 => some 36
    | 7 => some 37
    | 8 => some 38
    | 9 => some 39
    | _ => none
  | 42 => match k with
    | 0 => some 3
    | 1 => some 17
    | 2 => some 47
    | 3 => some 43
    | 4 => some 44
    | 5 => some 45
    | 6 => some 46
    | _ => none
  | 47 => match k with
    | 0 => some 3
    | 1 => some 48
    | 2 => some 49
    | 3 => some 55
    | 4 => some 56
    | 5 => some 50
    | 6 => some 51
    | 7 => some 52
    | 8 => some 53
    | 9 => some 54
    | _ => none
  | 57 => match k with
    | 0 => some 3
    | 1 => some 58
    | 2 => some 59
    | 3 => some 65
    | 4 => some 66
    | 5 => some 60
    | 6 => some 61
    | 7 => some 62
    | 8 => some 63
    | 9 => some 64
    | _ => none
  | 67 => match k with
    | 0 => some 3
    | 1 => some 68
    | 2 => some 69
    | 3 => some 75
    | 4 => some 76
    | 5 => some 70
    | 6 => some 71
    | 7 => some 72
    | 8 => some 73
    | 9 => some 74
    | _ => none
  | 77 => match k with
    | 0 => some 3
    | 1 => some 78
    | 2 => some 79
    | 3 => some 80
    | _ => none
  | 81 => match k with
    | 0 => some 82
    | 1 => some 83
    | _ => none
  | 87 => match k with
    | 9 => some 88
    | 10 => some 89
    | 11 => some 90
    | 12 => some 91
    | 13 => some 92
    | 14 => some 101
    | 15 => some 111
    | 16 => some 120
    | 17 => some 129
    | 18 => some 130
    | 19 => some 131
    | 20 => some 132
    | 21 => some 133
    | 22 => some 142
    | 23 => some 155
    | 24 => some 168
    | 25 => some 189
    | 26 => some 193
    | 34 => some 194
    | 35 => some 195
    | 36 => some 196
    | 37 => some 197
    | 38 => some 198
    | 39 => some 199
    | 40 => some 200
    | 41 => some 201
    | 42 => some 202
    | 43 => some 203
    | 44 => some 204
    | 45 => some 205
    | 46 => some 206
    | 47 => some 207
    | 48 => some 208
    | 49 => some 209
    | 50 => some 210
    | 51 => some 219
    | 52 => some 228
    | 54 => some 229
    | 55 => some 230
    | 56 => some 231
    | 57 => some 432
    | 58 => some 437
    | 59 => some 447
    | 61 => some 448
    | 62 => some 449
    | _ => none
  | _ => none
def outL : List (Nat × Nat) := [(92, 8), (101, 9), (111, 8), (120, 8), (133, 8), (142, 12), (155, 12), (168, 20), (189, 3), (210, 8), (219, 8), (231, 200), (432, 4), (437, 9)]
def refL : List (Nat × Nat) := [(0, 0), (0, 1), (0, 2), (0, 3), (0, 4), (0, 5), (0, 6), (0, 7), (0, 8), (0, 9), (0, 10), (0, 11), (0, 12), (0, 13), (0, 14), (0, 15), (2, 0), (3, 0), (3, 1), (3, 2), (3, 3), (3, 4), (3, 5), (10, 0), (10, 1), (10, 2), (10, 3), (10, 4), (10, 5), (17, 0), (17, 1), (17, 2), (17, 3), (22, 0), (22, 3), (24, 0), (24, 1), (27, 0), (27, 1), (27, 2), (27, 3), (27, 4), (27, 5), (27, 6), (32, 0), (32, 1), (32, 2), (32, 3), (32, 4), (32, 5), (32, 6), (32, 7), (32, 8), (32, 9), (42, 0), (42, 1), (42, 2), (42, 3), (42, 4), (42, 5), (42, 6), (47, 0), (47, 1), (47, 2), (47, 3), (47, 4), (47, 5), (47, 6), (47, 7), (47, 8), (47, 9), (57, 0), (57, 1), (57, 2), (57, 3), (57, 4), (57, 5), (57, 6), (57, 7), (57, 8), (57, 9), (67, 0), (67, 1), (67, 2), (67, 3), (67, 4), (67, 5), (67, 6), (67, 7), (67, 8), (67, 9), (77, 0), (77, 1), (77, 2), (77, 3), (81, 0), (81, 1), (87, 9), (87, 10), (87, 11), (87, 12), (87, 13), (87, 14), (87, 15), (87, 16), (87, 17), (87, 18), (87, 19), (87, 20), (87, 21), (87, 22), (87, 23), (87, 24), (87, 25), (87, 26), (87, 34), (87, 35), (87, 36), (87, 37), (87, 38), (87, 39), (87, 40), (87, 41), (87, 42), (87, 43), (87, 44), (87, 45), (87, 46), (87, 47), (87, 48), (87, 49), (87, 50), (87, 51), (87, 52), (87, 54), (87, 55), (87, 56), (87, 57), (87, 58), (87, 59), (87, 61), (87, 62)]
def Sh (g : pGG) : Prop := (∀ i, i < 451 → g.2.1 i = KD i) ∧ (∀ q ∈ refL, g.2.2 q.1 q.2 = MRf q.1 q.2) ∧ (∀ q ∈ outL, ∀ j, j < q.2 → g.2.2 q.1 j = some (q.1 + 1 + j))
theorem k_0 {g : pGG} (h : Sh g) : g.2.1 0 = (11, 0) := h.1 0 (by decide)
theorem k_1 {g : pGG} (h : Sh g) : g.2.1 1 = (20, 600) := h.1 1 (by decide)
theorem k_2 {g : pGG} (h : Sh g) : g.2.1 2 = (10, 0) := h.1 2 (by decide)
theorem k_3 {g : pGG} (h : Sh g) : g.2.1 3 = (8, 0) := h.1 3 (by decide)
theorem k_4 {g : pGG} (h : Sh g) : g.2.1 4 = (20, 8) := h.1 4 (by decide)
theorem k_5 {g : pGG} (h : Sh g) : g.2.1 5 = (20, 8) := h.1 5 (by decide)
theorem k_6 {g : pGG} (h : Sh g) : g.2.1 6 = (20, 8) := h.1 6 (by decide)
theorem k_7 {g : pGG} (h : Sh g) : g.2.1 7 = (20, 8) := h.1 7 (by decide)
theorem k_8 {g : pGG} (h : Sh g) : g.2.1 8 = (20, 8) := h.1 8 (by decide)
theorem k_9 {g : pGG} (h : Sh g) : g.2.1 9 = (20, 8) := h.1 9 (by decide)
theorem k_10 {g : pGG} (h : Sh g) : g.2.1 10 = (8, 0) := h.1 10 (by decide)
theorem k_11 {g : pGG} (h : Sh g) : g.2.1 11 = (20, 8) := h.1 11 (by decide)
theorem k_12 {g : pGG} (h : Sh g) : g.2.1 12 = (20, 8) := h.1 12 (by decide)
theorem k_13 {g : pGG} (h : Sh g) : g.2.1 13 = (20, 8) := h.1 13 (by decide)
theorem k_14 {g : pGG} (h : Sh g) : g.2.1 14 = (20, 8) := h.1 14 (by decide)
theorem k_15 {g : pGG} (h : Sh g) : g.2.1 15 = (20, 8) := h.1 15 (by decide)
theorem k_16 {g : pGG} (h : Sh g) : g.2.1 16 = (20, 8) := h.1 16 (by decide)
theorem k_17 {g : pGG} (h : Sh g) : g.2.1 17 = (6, 0) := h.1 17 (by decide)
theorem k_18 {g : pGG} (h : Sh g) : g.2.1 18 = (20, 1200) := h.1 18 (by decide)
theorem k_19 {g : pGG} (h : Sh g) : g.2.1 19 = (20, 8) := h.1 19 (by decide)
theorem k_20 {g : pGG} (h : Sh g) : g.2.1 20 = (20, 11) := h.1 20 (by decide)
theorem k_21 {g : pGG} (h : Sh g) : g.2.1 21 = (20, 40) := h.1 21 (by decide)
theorem k_22 {g : pGG} (h : Sh g) : g.2.1 22 = (5, 0) := h.1 22 (by decide)
theorem k_23 {g : pGG} (h : Sh g) : g.2.1 23 = (20, 150) := h.1 23 (by decide)
theorem k_24 {g : pGG} (h : Sh g) : g.2.1 24 = (0, 0) := h.1 24 (by decide)
theorem k_25 {g : pGG} (h : Sh g) : g.2.1 25 = (20, 36) := h.1 25 (by decide)
theorem k_26 {g : pGG} (h : Sh g) : g.2.1 26 = (20, 36) := h.1 26 (by decide)
theorem k_27 {g : pGG} (h : Sh g) : g.2.1 27 = (3, 0) := h.1 27 (by decide)
theorem k_28 {g : pGG} (h : Sh g) : g.2.1 28 = (20, 8) := h.1 28 (by decide)
theorem k_29 {g : pGG} (h : Sh g) : g.2.1 29 = (20, 8) := h.1 29 (by decide)
theorem k_30 {g : pGG} (h : Sh g) : g.2.1 30 = (21, 200) := h.1 30 (by decide)
theorem k_31 {g : pGG} (h : Sh g) : g.2.1 31 = (20, 200) := h.1 31 (by decide)
theorem k_32 {g : pGG} (h : Sh g) : g.2.1 32 = (2, 0) := h.1 32 (by decide)
theorem k_33 {g : pGG} (h : Sh g) : g.2.1 33 = (20, 64) := h.1 33 (by decide)
theorem k_34 {g : pGG} (h : Sh g) : g.2.1 34 = (20, 24) := h.1 34 (by decide)
theorem k_35 {g : pGG} (h : Sh g) : g.2.1 35 = (20, 8) := h.1 35 (by decide)
theorem k_36 {g : pGG} (h : Sh g) : g.2.1 36 = (20, 8) := h.1 36 (by decide)
theorem k_37 {g : pGG} (h : Sh g) : g.2.1 37 = (20, 8) := h.1 37 (by decide)
theorem k_38 {g : pGG} (h : Sh g) : g.2.1 38 = (20, 8) := h.1 38 (by decide)
theorem k_39 {g : pGG} (h : Sh g) : g.2.1 39 = (20, 8) := h.1 39 (by decide)
theorem k_40 {g : pGG} (h : Sh g) : g.2.1 40 = (20, 0) := h.1 40 (by decide)
theorem k_41 {g : pGG} (h : Sh g) : g.2.1 41 = (20, 0) := h.1 41 (by decide)
theorem k_42 {g : pGG} (h : Sh g) : g.2.1 42 = (3, 0) := h.1 42 (by decide)
theorem k_43 {g : pGG} (h : Sh g) : g.2.1 43 = (20, 8) := h.1 43 (by decide)
theorem k_44 {g : pGG} (h : Sh g) : g.2.1 44 = (20, 8) := h.1 44 (by decide)
theorem k_45 {g : pGG} (h : Sh g) : g.2.1 45 = (21, 200) := h.1 45 (by decide)
theorem k_46 {g : pGG} (h : Sh g) : g.2.1 46 = (20, 200) := h.1 46 (by decide)
theorem k_47 {g : pGG} (h : Sh g) : g.2.1 47 = (2, 0) := h.1 47 (by decide)
theorem k_48 {g : pGG} (h : Sh g) : g.2.1 48 = (20, 64) := h.1 48 (by decide)
theorem k_49 {g : pGG} (h : Sh g) : g.2.1 49 = (20, 24) := h.1 49 (by decide)
theorem k_50 {g : pGG} (h : Sh g) : g.2.1 50 = (20, 8) := h.1 50 (by decide)
theorem k_51 {g : pGG} (h : Sh g) : g.2.1 51 = (20, 8) := h.1 51 (by decide)
theorem k_52 {g : pGG} (h : Sh g) : g.2.1 52 = (20, 8) := h.1 52 (by decide)
theorem k_53 {g : pGG} (h : Sh g) : g.2.1 53 = (20, 8) := h.1 53 (by decide)
theorem k_54 {g : pGG} (h : Sh g) : g.2.1 54 = (20, 8) := h.1 54 (by decide)
theorem k_55 {g : pGG} (h : Sh g) : g.2.1 55 = (20, 0) := h.1 55 (by decide)
theorem k_56 {g : pGG} (h : Sh g) : g.2.1 56 = (20, 0) := h.1 56 (by decide)
theorem k_57 {g : pGG} (h : Sh g) : g.2.1 57 = (2, 0) := h.1 57 (by decide)
theorem k_58 {g : pGG} (h : Sh g) : g.2.1 58 = (20, 64) := h.1 58 (by decide)
theorem k_59 {g : pGG} (h : Sh g) : g.2.1 59 = (20, 24) := h.1 59 (by decide)
theorem k_60 {g : pGG} (h : Sh g) : g.2.1 60 = (20, 8) := h.1 60 (by decide)
theorem k_61 {g : pGG} (h : Sh g) : g.2.1 61 = (20, 8) := h.1 61 (by decide)
theorem k_62 {g : pGG} (h : Sh g) : g.2.1 62 = (20, 8) := h.1 62 (by decide)
theorem k_63 {g : pGG} (h : Sh g) : g.2.1 63 = (20, 8) := h.1 63 (by decide)
theorem k_64 {g : pGG} (h : Sh g) : g.2.1 64 = (20, 8) := h.1 64 (by decide)
theorem k_65 {g : pGG} (h : Sh g) : g.2.1 65 = (20, 192) := h.1 65 (by decide)
theorem k_66 {g : pGG} (h : Sh g) : g.2.1 66 = (20, 24) := h.1 66 (by decide)
theorem k_67 {g : pGG} (h : Sh g) : g.2.1 67 = (2, 0) := h.1 67 (by decide)
theorem k_68 {g : pGG} (h : Sh g) : g.2.1 68 = (20, 64) := h.1 68 (by decide)
theorem k_69 {g : pGG} (h : Sh g) : g.2.1 69 = (20, 24) := h.1 69 (by decide)
theorem k_70 {g : pGG} (h : Sh g) : g.2.1 70 = (20, 8) := h.1 70 (by decide)
theorem k_71 {g : pGG} (h : Sh g) : g.2.1 71 = (20, 8) := h.1 71 (by decide)
theorem k_72 {g : pGG} (h : Sh g) : g.2.1 72 = (20, 8) := h.1 72 (by decide)
theorem k_73 {g : pGG} (h : Sh g) : g.2.1 73 = (20, 8) := h.1 73 (by decide)
theorem k_74 {g : pGG} (h : Sh g) : g.2.1 74 = (20, 8) := h.1 74 (by decide)
theorem k_75 {g : pGG} (h : Sh g) : g.2.1 75 = (20, 0) := h.1 75 (by decide)
theorem k_76 {g : pGG} (h : Sh g) : g.2.1 76 = (20, 0) := h.1 76 (by decide)
theorem k_77 {g : pGG} (h : Sh g) : g.2.1 77 = (4, 0) := h.1 77 (by decide)
theorem k_78 {g : pGG} (h : Sh g) : g.2.1 78 = (20, 72) := h.1 78 (by decide)
theorem k_79 {g : pGG} (h : Sh g) : g.2.1 79 = (20, 2304) := h.1 79 (by decide)
theorem k_80 {g : pGG} (h : Sh g) : g.2.1 80 = (20, 8) := h.1 80 (by decide)
theorem k_81 {g : pGG} (h : Sh g) : g.2.1 81 = (1, 0) := h.1 81 (by decide)
theorem k_82 {g : pGG} (h : Sh g) : g.2.1 82 = (20, 60) := h.1 82 (by decide)
theorem k_83 {g : pGG} (h : Sh g) : g.2.1 83 = (24, 3) := h.1 83 (by decide)
theorem k_84 {g : pGG} (h : Sh g) : g.2.1 84 = (20, 8) := h.1 84 (by decide)
theorem k_85 {g : pGG} (h : Sh g) : g.2.1 85 = (20, 8) := h.1 85 (by decide)
theorem k_86 {g : pGG} (h : Sh g) : g.2.1 86 = (20, 3) := h.1 86 (by decide)
theorem k_87 {g : pGG} (h : Sh g) : g.2.1 87 = (12, 0) := h.1 87 (by decide)
theorem k_88 {g : pGG} (h : Sh g) : g.2.1 88 = (20, 600) := h.1 88 (by decide)
theorem k_89 {g : pGG} (h : Sh g) : g.2.1 89 = (20, 3) := h.1 89 (by decide)
theorem k_90 {g : pGG} (h : Sh g) : g.2.1 90 = (20, 5) := h.1 90 (by decide)
theorem k_91 {g : pGG} (h : Sh g) : g.2.1 91 = (20, 5) := h.1 91 (by decide)
theorem k_92 {g : pGG} (h : Sh g) : g.2.1 92 = (23, 8) := h.1 92 (by decide)
theorem k_101 {g : pGG} (h : Sh g) : g.2.1 101 = (23, 9) := h.1 101 (by decide)
theorem k_111 {g : pGG} (h : Sh g) : g.2.1 111 = (23, 8) := h.1 111 (by decide)
theorem k_120 {g : pGG} (h : Sh g) : g.2.1 120 = (23, 8) := h.1 120 (by decide)
theorem k_129 {g : pGG} (h : Sh g) : g.2.1 129 = (20, 8) := h.1 129 (by decide)
theorem k_130 {g : pGG} (h : Sh g) : g.2.1 130 = (20, 160) := h.1 130 (by decide)
theorem k_131 {g : pGG} (h : Sh g) : g.2.1 131 = (20, 11) := h.1 131 (by decide)
theorem k_132 {g : pGG} (h : Sh g) : g.2.1 132 = (20, 320) := h.1 132 (by decide)
theorem k_133 {g : pGG} (h : Sh g) : g.2.1 133 = (23, 8) := h.1 133 (by decide)
theorem k_142 {g : pGG} (h : Sh g) : g.2.1 142 = (23, 12) := h.1 142 (by decide)
theorem k_155 {g : pGG} (h : Sh g) : g.2.1 155 = (23, 12) := h.1 155 (by decide)
theorem k_168 {g : pGG} (h : Sh g) : g.2.1 168 = (23, 20) := h.1 168 (by decide)
theorem k_189 {g : pGG} (h : Sh g) : g.2.1 189 = (23, 3) := h.1 189 (by decide)
theorem k_193 {g : pGG} (h : Sh g) : g.2.1 193 = (22, 8) := h.1 193 (by decide)
theorem k_194 {g : pGG} (h : Sh g) : g.2.1 194 = (20, 8) := h.1 194 (by decide)
theorem k_195 {g : pGG} (h : Sh g) : g.2.1 195 = (20, 8) := h.1 195 (by decide)
theorem k_196 {g : pGG} (h : Sh g) : g.2.1 196 = (20, 8) := h.1 196 (by decide)
theorem k_197 {g : pGG} (h : Sh g) : g.2.1 197 = (20, 8) := h.1 197 (by decide)
theorem k_198 {g : pGG} (h : Sh g) : g.2.1 198 = (20, 8) := h.1 198 (by decide)
theorem k_199 {g : pGG} (h : Sh g) : g.2.1 199 = (20, 8) := h.1 199 (by decide)
theorem k_200 {g : pGG} (h : Sh g) : g.2.1 200 = (20, 8) := h.1 200 (by decide)
theorem k_201 {g : pGG} (h : Sh g) : g.2.1 201 = (20, 8) := h.1 201 (by decide)
theorem k_202 {g : pGG} (h : Sh g) : g.2.1 202 = (20, 8) := h.1 202 (by decide)
theorem k_203 {g : pGG} (h : Sh g) : g.2.1 203 = (20, 8) := h.1 203 (by decide)
theorem k_204 {g : pGG} (h : Sh g) : g.2.1 204 = (20, 8) := h.1 204 (by decide)
theorem k_205 {g : pGG} (h : Sh g) : g.2.1 205 = (20, 8) := h.1 205 (by decide)
theorem k_206 {g : pGG} (h : Sh g) : g.2.1 206 = (20, 8) := h.1 206 (by decide)
theorem k_207 {g : pGG} (h : Sh g) : g.2.1 207 = (20, 8) := h.1 207 (by decide)
theorem k_208 {g : pGG} (h : Sh g) : g.2.1 208 = (20, 8) := h.1 208 (by decide)
theorem k_209 {g : pGG} (h : Sh g) : g.2.1 209 = (20, 24) := h.1 209 (by decide)
theorem k_210 {g : pGG} (h : Sh g) : g.2.1 210 = (23, 8) := h.1 210 (by decide)
theorem k_219 {g : pGG} (h : Sh g) : g.2.1 219 = (23, 8) := h.1 219 (by decide)
theorem k_228 {g : pGG} (h : Sh g) : g.2.1 228 = (22, 8) := h.1 228 (by decide)
theorem k_229 {g : pGG} (h : Sh g) : g.2.1 229 = (20, 8) := h.1 229 (by decide)
theorem k_230 {g : pGG} (h : Sh g) : g.2.1 230 = (20, 8) := h.1 230 (by decide)
theorem k_231 {g : pGG} (h : Sh g) : g.2.1 231 = (23, 200) := h.1 231 (by decide)
theorem k_432 {g : pGG} (h : Sh g) : g.2.1 432 = (23, 4) := h.1 432 (by decide)
theorem k_437 {g : pGG} (h : Sh g) : g.2.1 437 = (23, 9) := h.1 437 (by decide)
theorem k_447 {g : pGG} (h : Sh g) : g.2.1 447 = (20, 8) := h.1 447 (by decide)
theorem k_448 {g : pGG} (h : Sh g) : g.2.1 448 = (20, 8) := h.1 448 (by decide)
theorem k_449 {g : pGG} (h : Sh g) : g.2.1 449 = (22, 12) := h.1 449 (by decide)
theorem k_450 {g : pGG} (h : Sh g) : g.2.1 450 = (21, 1) := h.1 450 (by decide)
theorem r_0_0 {g : pGG} (h : Sh g) : g.2.2 0 0 = some 1 := h.2.1 (0, 0) (by decide +kernel)
theorem r_0_1 {g : pGG} (h : Sh g) : g.2.2 0 1 = some 2 := h.2.1 (0, 1) (by decide +kernel)
theorem r_0_2 {g : pGG} (h : Sh g) : g.2.2 0 2 = some 3 := h.2.1 (0, 2) (by decide +kernel)
theorem r_0_3 {g : pGG} (h : Sh g) : g.2.2 0 3 = some 10 := h.2.1 (0, 3) (by decide +kernel)
theorem r_0_4 {g : pGG} (h : Sh g) : g.2.2 0 4 = some 17 := h.2.1 (0, 4) (by decide +kernel)
theorem r_0_5 {g : pGG} (h : Sh g) : g.2.2 0 5 = some 22 := h.2.1 (0, 5) (by decide +kernel)
theorem r_0_6 {g : pGG} (h : Sh g) : g.2.2 0 6 = some 24 := h.2.1 (0, 6) (by decide +kernel)
theorem r_0_7 {g : pGG} (h : Sh g) : g.2.2 0 7 = some 27 := h.2.1 (0, 7) (by decide +kernel)
theorem r_0_8 {g : pGG} (h : Sh g) : g.2.2 0 8 = some 42 := h.2.1 (0, 8) (by decide +kernel)
theorem r_0_9 {g : pGG} (h : Sh g) : g.2.2 0 9 = some 57 := h.2.1 (0, 9) (by decide +kernel)
theorem r_0_10 {g : pGG} (h : Sh g) : g.2.2 0 10 = some 67 := h.2.1 (0, 10) (by decide +kernel)
theorem r_0_11 {g : pGG} (h : Sh g) : g.2.2 0 11 = some 77 := h.2.1 (0, 11) (by decide +kernel)
theorem r_0_12 {g : pGG} (h : Sh g) : g.2.2 0 12 = some 81 := h.2.1 (0, 12) (by decide +kernel)
theorem r_0_13 {g : pGG} (h : Sh g) : g.2.2 0 13 = some 84 := h.2.1 (0, 13) (by decide +kernel)
theorem r_0_14 {g : pGG} (h : Sh g) : g.2.2 0 14 = some 85 := h.2.1 (0, 14) (by decide +kernel)
theorem r_0_15 {g : pGG} (h : Sh g) : g.2.2 0 15 = some 86 := h.2.1 (0, 15) (by decide +kernel)
theorem r_2_0 {g : pGG} (h : Sh g) : g.2.2 2 0 = some 1 := h.2.1 (2, 0) (by decide +kernel)
theorem r_3_0 {g : pGG} (h : Sh g) : g.2.2 3 0 = some 4 := h.2.1 (3, 0) (by decide +kernel)
theorem r_3_1 {g : pGG} (h : Sh g) : g.2.2 3 1 = some 5 := h.2.1 (3, 1) (by decide +kernel)
theorem r_3_2 {g : pGG} (h : Sh g) : g.2.2 3 2 = some 6 := h.2.1 (3, 2) (by decide +kernel)
theorem r_3_3 {g : pGG} (h : Sh g) : g.2.2 3 3 = some 7 := h.2.1 (3, 3) (by decide +kernel)
theorem r_3_4 {g : pGG} (h : Sh g) : g.2.2 3 4 = some 8 := h.2.1 (3, 4) (by decide +kernel)
theorem r_3_5 {g : pGG} (h : Sh g) : g.2.2 3 5 = some 9 := h.2.1 (3, 5) (by decide +kernel)
theorem r_10_0 {g : pGG} (h : Sh g) : g.2.2 10 0 = some 11 := h.2.1 (10, 0) (by decide +kernel)
theorem r_10_1 {g : pGG} (h : Sh g) : g.2.2 10 1 = some 12 := h.2.1 (10, 1) (by decide +kernel)
theorem r_10_2 {g : pGG} (h : Sh g) : g.2.2 10 2 = some 13 := h.2.1 (10, 2) (by decide +kernel)
theorem r_10_3 {g : pGG} (h : Sh g) : g.2.2 10 3 = some 14 := h.2.1 (10, 3) (by decide +kernel)
theorem r_10_4 {g : pGG} (h : Sh g) : g.2.2 10 4 = some 15 := h.2.1 (10, 4) (by decide +kernel)
theorem r_10_5 {g : pGG} (h : Sh g) : g.2.2 10 5 = some 16 := h.2.1 (10, 5) (by decide +kernel)
theorem r_17_0 {g : pGG} (h : Sh g) : g.2.2 17 0 = some 18 := h.2.1 (17, 0) (by decide +kernel)
theorem r_17_1 {g : pGG} (h : Sh g) : g.2.2 17 1 = some 19 := h.2.1 (17, 1) (by decide +kernel)
theorem r_17_2 {g : pGG} (h : Sh g) : g.2.2 17 2 = some 20 := h.2.1 (17, 2) (by decide +kernel)
theorem r_17_3 {g : pGG} (h : Sh g) : g.2.2 17 3 = some 21 := h.2.1 (17, 3) (by decide +kernel)
theorem r_22_0 {g : pGG} (h : Sh g) : g.2.2 22 0 = some 23 := h.2.1 (22, 0) (by decide +kernel)
theorem r_22_3 {g : pGG} (h : Sh g) : g.2.2 22 3 = some 2 := h.2.1 (22, 3) (by decide +kernel)
theorem r_24_0 {g : pGG} (h : Sh g) : g.2.2 24 0 = some 25 := h.2.1 (24, 0) (by decide +kernel)
theorem r_24_1 {g : pGG} (h : Sh g) : g.2.2 24 1 = some 26 := h.2.1 (24, 1) (by decide +kernel)
theorem r_27_0 {g : pGG} (h : Sh g) : g.2.2 27 0 = some 3 := h.2.1 (27, 0) (by decide +kernel)
theorem r_27_1 {g : pGG} (h : Sh g) : g.2.2 27 1 = some 17 := h.2.1 (27, 1) (by decide +kernel)
theorem r_27_2 {g : pGG} (h : Sh g) : g.2.2 27 2 = some 32 := h.2.1 (27, 2) (by decide +kernel)
theorem r_27_3 {g : pGG} (h : Sh g) : g.2.2 27 3 = some 28 := h.2.1 (27, 3) (by decide +kernel)
theorem r_27_4 {g : pGG} (h : Sh g) : g.2.2 27 4 = some 29 := h.2.1 (27, 4) (by decide +kernel)
theorem r_27_5 {g : pGG} (h : Sh g) : g.2.2 27 5 = some 30 := h.2.1 (27, 5) (by decide +kernel)
theorem r_27_6 {g : pGG} (h : Sh g) : g.2.2 27 6 = some 31 := h.2.1 (27, 6) (by decide +kernel)
theorem r_32_0 {g : pGG} (h : Sh g) : g.2.2 32 0 = some 3 := h.2.1 (32, 0) (by decide +kernel)
theorem r_32_1 {g : pGG} (h : Sh g) : g.2.2 32 1 = some 33 := h.2.1 (32, 1) (by decide +kernel)
theorem r_32_2 {g : pGG} (h : Sh g) : g.2.2 32 2 = some 34 := h.2.1 (32, 2) (by decide +kernel)
theorem r_32_3 {g : pGG} (h : Sh g) : g.2.2 32 3 = some 40 := h.2.1 (32, 3) (by decide +kernel)
theorem r_32_4 {g : pGG} (h : Sh g) : g.2.2 32 4 = some 41 := h.2.1 (32, 4) (by decide +kernel)
theorem r_32_5 {g : pGG} (h : Sh g) : g.2.2 32 5 = some 35 := h.2.1 (32, 5) (by decide +kernel)
theorem r_32_6 {g : pGG} (h : Sh g) : g.2.2 32 6 = some 36 := h.2.1 (32, 6) (by decide +kernel)
theorem r_32_7 {g : pGG} (h : Sh g) : g.2.2 32 7 = some 37 := h.2.1 (32, 7) (by decide +kernel)
theorem r_32_8 {g : pGG} (h : Sh g) : g.2.2 32 8 = some 38 := h.2.1 (32, 8) (by decide +kernel)
theorem r_32_9 {g : pGG} (h : Sh g) : g.2.2 32 9 = some 39 := h.2.1 (32, 9) (by decide +kernel)
theorem r_42_0 {g : pGG} (h : Sh g) : g.2.2 42 0 = some 3 := h.2.1 (42, 0) (by decide +kernel)
theorem r_42_1 {g : pGG} (h : Sh g) : g.2.2 42 1 = some 17 := h.2.1 (42, 1) (by decide +kernel)
theorem r_42_2 {g : pGG} (h : Sh g) : g.2.2 42 2 = some 47 := h.2.1 (42, 2) (by decide +kernel)
theorem r_42_3 {g : pGG} (h : Sh g) : g.2.2 42 3 = some 43 := h.2.1 (42, 3) (by decide +kernel)
theorem r_42_4 {g : pGG} (h : Sh g) : g.2.2 42 4 = some 44 := h.2.1 (42, 4) (by decide +kernel)
theorem r_42_5 {g : pGG} (h : Sh g) : g.2.2 42 5 = some 45 := h.2.1 (42, 5) (by decide +kernel)
theorem r_42_6 {g : pGG} (h : Sh g) : g.2.2 42 6 = some 46 := h.2.1 (42, 6) (by decide +kernel)
theorem r_47_0 {g : pGG} (h : Sh g) : g.2.2 47 0 = some 3 := h.2.1 (47, 0) (by decide +kernel)
theorem r_47_1 {g : pGG} (h : Sh g) : g.2.2 47 1 = some 48 := h.2.1 (47, 1) (by decide +kernel)
theorem r_47_2 {g : pGG} (h : Sh g) : g.2.2 47 2 = some 49 := h.2.1 (47, 2) (by decide +kernel)
theorem r_47_3 {g : pGG} (h : Sh g) : g.2.2 47 3 = some 55 := h.2.1 (47, 3) (by decide +kernel)
theorem r_47_4 {g : pGG} (h : Sh g) : g.2.2 47 4 = some 56 := h.2.1 (47, 4) (by decide +kernel)
theorem r_47_5 {g : pGG} (h : Sh g) : g.2.2 47 5 = some 50 := h.2.1 (47, 5) (by decide +kernel)
theorem r_47_6 {g : pGG} (h : Sh g) : g.2.2 47 6 = some 51 := h.2.1 (47, 6) (by decide +kernel)
theorem r_47_7 {g : pGG} (h : Sh g) : g.2.2 47 7 = some 52 := h.2.1 (47, 7) (by decide +kernel)
theorem r_47_8 {g : pGG} (h : Sh g) : g.2.2 47 8 = some 53 := h.2.1 (47, 8) (by decide +kernel)
theorem r_47_9 {g : pGG} (h : Sh g) : g.2.2 47 9 = some 54 := h.2.1 (47, 9) (by decide +kernel)
theorem r_57_0 {g : pGG} (h : Sh g) : g.2.2 57 0 = some 3 := h.2.1 (57, 0) (by decide +kernel)
theorem r_57_1 {g : pGG} (h : Sh g) : g.2.2 57 1 = some 58 := h.2.1 (57, 1) (by decide +kernel)
theorem r_57_2 {g : pGG} (h : Sh g) : g.2.2 57 2 = some 59 := h.2.1 (57, 2) (by decide +kernel)
theorem r_57_3 {g : pGG} (h : Sh g) : g.2.2 57 3 = some 65 := h.2.1 (57, 3) (by decide +kernel)
theorem r_57_4 {g : pGG} (h : Sh g) : g.2.2 57 4 = some 66 := h.2.1 (57, 4) (by decide +kernel)
theorem r_57_5 {g : pGG} (h : Sh g) : g.2.2 57 5 = some 60 := h.2.1 (57, 5) (by decide +kernel)
theorem r_57_6 {g : pGG} (h : Sh g) : g.2.2 57 6 = some 61 := h.2.1 (57, 6) (by decide +kernel)
theorem r_57_7 {g : pGG} (h : Sh g) : g.2.2 57 7 = some 62 := h.2.1 (57, 7) (by decide +kernel)
theorem r_57_8 {g : pGG} (h : Sh g) : g.2.2 57 8 = some 63 := h.2.1 (57, 8) (by decide +kernel)
theorem r_57_9 {g : pGG} (h : Sh g) : g.2.2 57 9 = some 64 := h.2.1 (57, 9) (by decide +kernel)
theorem r_67_0 {g : pGG} (h : Sh g) : g.2.2 67 0 = some 3 := h.2.1 (67, 0) (by decide +kernel)
theorem r_67_1 {g : pGG} (h : Sh g) : g.2.2 67 1 = some 68 := h.2.1 (67, 1) (by decide +kernel)
theorem r_67_2 {g : pGG} (h : Sh g) : g.2.2 67 2 = some 69 := h.2.1 (67, 2) (by decide +kernel)
theorem r_67_3 {g : pGG} (h : Sh g) : g.2.2 67 3 = some 75 := h.2.1 (67, 3) (by decide +kernel)
theorem r_67_4 {g : pGG} (h : Sh g) : g.2.2 67 4 = some 76 := h.2.1 (67, 4) (by decide +kernel)
theorem r_67_5 {g : pGG} (h : Sh g) : g.2.2 67 5 = some 70 := h.2.1 (67, 5) (by decide +kernel)
theorem r_67_6 {g : pGG} (h : Sh g) : g.2.2 67 6 = some 71 := h.2.1 (67, 6) (by decide +kernel)
theorem r_67_7 {g : pGG} (h : Sh g) : g.2.2 67 7 = some 72 := h.2.1 (67, 7) (by decide +kernel)
theorem r_67_8 {g : pGG} (h : Sh g) : g.2.2 67 8 = some 73 := h.2.1 (67, 8) (by decide +kernel)
theorem r_67_9 {g : pGG} (h : Sh g) : g.2.2 67 9 = some 74 := h.2.1 (67, 9) (by decide +kernel)
theorem r_77_0 {g : pGG} (h : Sh g) : g.2.2 77 0 = some 3 := h.2.1 (77, 0) (by decide +kernel)
theorem r_77_1 {g : pGG} (h : Sh g) : g.2.2 77 1 = some 78 := h.2.1 (77, 1) (by decide +kernel)
theorem r_77_2 {g : pGG} (h : Sh g) : g.2.2 77 2 = some 79 := h.2.1 (77, 2) (by decide +kernel)
theorem r_77_3 {g : pGG} (h : Sh g) : g.2.2 77 3 = some 80 := h.2.1 (77, 3) (by decide +kernel)
theorem r_81_0 {g : pGG} (h : Sh g) : g.2.2 81 0 = some 82 := h.2.1 (81, 0) (by decide +kernel)
theorem r_81_1 {g : pGG} (h : Sh g) : g.2.2 81 1 = some 83 := h.2.1 (81, 1) (by decide +kernel)
theorem r_87_9 {g : pGG} (h : Sh g) : g.2.2 87 9 = some 88 := h.2.1 (87, 9) (by decide +kernel)
theorem r_87_10 {g : pGG} (h : Sh g) : g.2.2 87 10 = some 89 := h.2.1 (87, 10) (by decide +kernel)
theorem r_87_11 {g : pGG} (h : Sh g) : g.2.2 87 11 = some 90 := h.2.1 (87, 11) (by decide +kernel)
theorem r_87_12 {g : pGG} (h : Sh g) : g.2.2 87 12 = some 91 := h.2.1 (87, 12) (by decide +kernel)
theorem r_87_13 {g : pGG} (h : Sh g) : g.2.2 87 13 = some 92 := h.2.1 (87, 13) (by decide +kernel)
theorem r_87_14 {g : pGG} (h : Sh g) : g.2.2 87 14 = some 101 := h.2.1 (87, 14) (by decide +kernel)
theorem r_87_15 {g : pGG} (h : Sh g) : g.2.2 87 15 = some 111 := h.2.1 (87, 15) (by decide +kernel)
theorem r_87_16 {g : pGG} (h : Sh g) : g.2.2 87 16 = some 120 := h.2.1 (87, 16) (by decide +kernel)
theorem r_87_17 {g : pGG} (h : Sh g) : g.2.2 87 17 = some 129 := h.2.1 (87, 17) (by decide +kernel)
theorem r_87_18 {g : pGG} (h : Sh g) : g.2.2 87 18 = some 130 := h.2.1 (87, 18) (by decide +kernel)
theorem r_87_19 {g : pGG} (h : Sh g) : g.2.2 87 19 = some 131 := h.2.1 (87, 19) (by decide +kernel)
theorem r_87_20 {g : pGG} (h : Sh g) : g.2.2 87 20 = some 132 := h.2.1 (87, 20) (by decide +kernel)
theorem r_87_21 {g : pGG} (h : Sh g) : g.2.2 87 21 = some 133 := h.2.1 (87, 21) (by decide +kernel)
theorem r_87_22 {g : pGG} (h : Sh g) : g.2.2 87 22 = some 142 := h.2.1 (87, 22) (by decide +kernel)
theorem r_87_23 {g : pGG} (h : Sh g) : g.2.2 87 23 = some 155 := h.2.1 (87, 23) (by decide +kernel)
theorem r_87_24 {g : pGG} (h : Sh g) : g.2.2 87 24 = some 168 := h.2.1 (87, 24) (by decide +kernel)
theorem r_87_25 {g : pGG} (h : Sh g) : g.2.2 87 25 = some 189 := h.2.1 (87, 25) (by decide +kernel)
theorem r_87_26 {g : pGG} (h : Sh g) : g.2.2 87 26 = some 193 := h.2.1 (87, 26) (by decide +kernel)
theorem r_87_34 {g : pGG} (h : Sh g) : g.2.2 87 34 = some 194 := h.2.1 (87, 34) (by decide +kernel)
theorem r_87_35 {g : pGG} (h : Sh g) : g.2.2 87 35 = some 195 := h.2.1 (87, 35) (by decide +kernel)
theorem r_87_36 {g : pGG} (h : Sh g) : g.2.2 87 36 = some 196 := h.2.1 (87, 36) (by decide +kernel)
theorem r_87_37 {g : pGG} (h : Sh g) : g.2.2 87 37 = some 197 := h.2.1 (87, 37) (by decide +kernel)
theorem r_87_38 {g : pGG} (h : Sh g) : g.2.2 87 38 = some 198 := h.2.1 (87, 38) (by decide +kernel)
theorem r_87_39 {g : pGG} (h : Sh g) : g.2.2 87 39 = some 199 := h.2.1 (87, 39) (by decide +kernel)
theorem r_87_40 {g : pGG} (h : Sh g) : g.2.2 87 40 = some 200 := h.2.1 (87, 40) (by decide +kernel)
theorem r_87_41 {g : pGG} (h : Sh g) : g.2.2 87 41 = some 201 := h.2.1 (87, 41) (by decide +kernel)
theorem r_87_42 {g : pGG} (h : Sh g) : g.2.2 87 42 = some 202 := h.2.1 (87, 42) (by decide +kernel)
theorem r_87_43 {g : pGG} (h : Sh g) : g.2.2 87 43 = some 203 := h.2.1 (87, 43) (by decide +kernel)
theorem r_87_44 {g : pGG} (h : Sh g) : g.2.2 87 44 = some 204 := h.2.1 (87, 44) (by decide +kernel)
theorem r_87_45 {g : pGG} (h : Sh g) : g.2.2 87 45 = some 205 := h.2.1 (87, 45) (by decide +kernel)
theorem r_87_46 {g : pGG} (h : Sh g) : g.2.2 87 46 = some 206 := h.2.1 (87, 46) (by decide +kernel)
theorem r_87_47 {g : pGG} (h : Sh g) : g.2.2 87 47 = some 207 := h.2.1 (87, 47) (by decide +kernel)
theorem r_87_48 {g : pGG} (h : Sh g) : g.2.2 87 48 = some 208 := h.2.1 (87, 48) (by decide +kernel)
theorem r_87_49 {g : pGG} (h : Sh g) : g.2.2 87 49 = some 209 := h.2.1 (87, 49) (by decide +kernel)
theorem r_87_50 {g : pGG} (h : Sh g) : g.2.2 87 50 = some 210 := h.2.1 (87, 50) (by decide +kernel)
theorem r_87_51 {g : pGG} (h : Sh g) : g.2.2 87 51 = some 219 := h.2.1 (87, 51) (by decide +kernel)
theorem r_87_52 {g : pGG} (h : Sh g) : g.2.2 87 52 = some 228 := h.2.1 (87, 52) (by decide +kernel)
theorem r_87_54 {g : pGG} (h : Sh g) : g.2.2 87 54 = some 229 := h.2.1 (87, 54) (by decide +kernel)
theorem r_87_55 {g : pGG} (h : Sh g) : g.2.2 87 55 = some 230 := h.2.1 (87, 55) (by decide +kernel)
theorem r_87_56 {g : pGG} (h : Sh g) : g.2.2 87 56 = some 231 := h.2.1 (87, 56) (by decide +kernel)
theorem r_87_57 {g : pGG} (h : Sh g) : g.2.2 87 57 = some 432 := h.2.1 (87, 57) (by decide +kernel)
theorem r_87_58 {g : pGG} (h : Sh g) : g.2.2 87 58 = some 437 := h.2.1 (87, 58) (by decide +kernel)
theorem r_87_59 {g : pGG} (h : Sh g) : g.2.2 87 59 = some 447 := h.2.1 (87, 59) (by decide +kernel)
theorem r_87_61 {g : pGG} (h : Sh g) : g.2.2 87 61 = some 448 := h.2.1 (87, 61) (by decide +kernel)
theorem r_87_62 {g : pGG} (h : Sh g) : g.2.2 87 62 = some 449 := h.2.1 (87, 62) (by decide +kernel)
theorem o_92 {g : pGG} (h : Sh g) (j : Nat) (hj : j < 8) : g.2.2 92 j = some (93 + j) := h.2.2 (92, 8) (by decide) j hj
theorem kd_92 : ∀ j, j < 8 → KD (93 + j) = (20, 2) := by decide +kernel
theorem kr_92 {g : pGG} (h : Sh g) (j : Nat) (hj : j < 8) : g.2.1 (93 + j) = (20, 2) := (h.1 (93 + j) (by omega)).trans (kd_92 j hj)
theorem o_101 {g : pGG} (h : Sh g) (j : Nat) (hj : j < 9) : g.2.2 101 j = some (102 + j) := h.2.2 (101, 9) (by decide) j hj
theorem kd_101 : ∀ j, j < 9 → KD (102 + j) = (20, 2) := by decide +kernel
theorem kr_101 {g : pGG} (h : Sh g) (j : Nat) (hj : j < 9) : g.2.1 (102 + j) = (20, 2) := (h.1 (102 + j) (by omega)).trans (kd_101 j hj)
theorem o_111 {g : pGG} (h : Sh g) (j : Nat) (hj : j < 8) : g.2.2 111 j = some (112 + j) := h.2.2 (111, 8) (by decide) j hj
theorem kd_111 : ∀ j, j < 8 → KD (112 + j) = (20, 4) := by decide +kernel
theorem kr_111 {g : pGG} (h : Sh g) (j : Nat) (hj : j < 8) : g.2.1 (112 + j) = (20, 4) := (h.1 (112 + j) (by omega)).trans (kd_111 j hj)
theorem o_120 {g : pGG} (h : Sh g) (j : Nat) (hj : j < 8) : g.2.2 120 j = some (121 + j) := h.2.2 (120, 8) (by decide) j hj
theorem kd_120 : ∀ j, j < 8 → KD (121 + j) = (20, 4) := by decide +kernel
theorem kr_120 {g : pGG} (h : Sh g) (j : Nat) (hj : j < 8) : g.2.1 (121 + j) = (20, 4) := (h.1 (121 + j) (by omega)).trans (kd_120 j hj)
theorem o_133 {g : pGG} (h : Sh g) (j : Nat) (hj : j < 8) : g.2.2 133 j = some (134 + j) := h.2.2 (133, 8) (by decide) j hj
theorem kd_133 : ∀ j, j < 8 → KD (134 + j) = (20, 320) := by decide +kernel
theorem kr_133 {g : pGG} (h : Sh g) (j : Nat) (hj : j < 8) : g.2.1 (134 + j) = (20, 320) := (h.1 (134 + j) (by omega)).trans (kd_133 j hj)
theorem o_142 {g : pGG} (h : Sh g) (j : Nat) (hj : j < 12) : g.2.2 142 j = some (143 + j) := h.2.2 (142, 12) (by decide) j hj
theorem kd_142 : ∀ j, j < 12 → KD (143 + j) = (20, 3) := by decide +kernel
theorem kr_142 {g : pGG} (h : Sh g) (j : Nat) (hj : j < 12) : g.2.1 (143 + j) = (20, 3) := (h.1 (143 + j) (by omega)).trans (kd_142 j hj)
theorem o_155 {g : pGG} (h : Sh g) (j : Nat) (hj : j < 12) : g.2.2 155 j = some (156 + j) := h.2.2 (155, 12) (by decide) j hj
theorem kd_155 : ∀ j, j < 12 → KD (156 + j) = (20, 3) := by decide +kernel
theorem kr_155 {g : pGG} (h : Sh g) (j : Nat) (hj : j < 12) : g.2.1 (156 + j) = (20, 3) := (h.1 (156 + j) (by omega)).trans (kd_155 j hj)
theorem o_168 {g : pGG} (h : Sh g) (j : Nat) (hj : j < 20) : g.2.2 168 j = some (169 + j) := h.2.2 (168, 20) (by decide) j hj
theorem kd_168 : ∀ j, j < 20 → KD (169 + j) = (20, 11) := by decide +kernel
theorem kr_168 {g : pGG} (h : Sh g) (j : Nat) (hj : j < 20) : g.2.1 (169 + j) = (20, 11) := (h.1 (169 + j) (by omega)).trans (kd_168 j hj)
theorem o_189 {g : pGG} (h : Sh g) (j : Nat) (hj : j < 3) : g.2.2 189 j = some (190 + j) := h.2.2 (189, 3) (by decide) j hj
theorem kd_189 : ∀ j, j < 3 → KD (190 + j) = (20, 233) := by decide +kernel
theorem kr_189 {g : pGG} (h : Sh g) (j : Nat) (hj : j < 3) : g.2.1 (190 + j) = (20, 233) := (h.1 (190 + j) (by omega)).trans (kd_189 j hj)
theorem o_210 {g : pGG} (h : Sh g) (j : Nat) (hj : j < 8) : g.2.2 210 j = some (211 + j) := h.2.2 (210, 8) (by decide) j hj
theorem kd_210 : ∀ j, j < 8 → KD (211 + j) = (20, 24) := by decide +kernel
theorem kr_210 {g : pGG} (h : Sh g) (j : Nat) (hj : j < 8) : g.2.1 (211 + j) = (20, 24) := (h.1 (211 + j) (by omega)).trans (kd_210 j hj)
theorem o_219 {g : pGG} (h : Sh g) (j : Nat) (hj : j < 8) : g.2.2 219 j = some (220 + j) := h.2.2 (219, 8) (by decide) j hj
theorem kd_219 : ∀ j, j < 8 → KD (220 + j) = (20, 24) := by decide +kernel
theorem kr_219 {g : pGG} (h : Sh g) (j : Nat) (hj : j < 8) : g.2.1 (220 + j) = (20, 24) := (h.1 (220 + j) (by omega)).trans (kd_219 j hj)
theorem o_231 {g : pGG} (h : Sh g) (j : Nat) (hj : j < 200) : g.2.2 231 j = some (232 + j) := h.2.2 (231, 200) (by decide) j hj
theorem kd_231 : ∀ j, j < 200 → KD (232 + j) = (20, 32) := by decide +kernel
theorem kr_231 {g : pGG} (h : Sh g) (j : Nat) (hj : j < 200) : g.2.1 (232 + j) = (20, 32) := (h.1 (232 + j) (by omega)).trans (kd_231 j hj)
theorem o_432 {g : pGG} (h : Sh g) (j : Nat) (hj : j < 4) : g.2.2 432 j = some (433 + j) := h.2.2 (432, 4) (by decide) j hj
theorem kd_432 : ∀ j, j < 4 → KD (433 + j) = (20, 4096) := by decide +kernel
theorem kr_432 {g : pGG} (h : Sh g) (j : Nat) (hj : j < 4) : g.2.1 (433 + j) = (20, 4096) := (h.1 (433 + j) (by omega)).trans (kd_432 j hj)
theorem o_437 {g : pGG} (h : Sh g) (j : Nat) (hj : j < 9) : g.2.2 437 j = some (438 + j) := h.2.2 (437, 9) (by decide) j hj
theorem kd_437 : ∀ j, j < 9 → KD (438 + j) = (20, 512) := by decide +kernel
theorem kr_437 {g : pGG} (h : Sh g) (j : Nat) (hj : j < 9) : g.2.1 (438 + j) = (20, 512) := (h.1 (438 + j) (by omega)).trans (kd_437 j hj)
/-- a Course at t -/
def ShC (g : pGG) (t : Nat) : Prop := g.2.1 t = (2, 0) ∧ g.2.1 (t + 1) = (20, 64) ∧ g.2.1 (t + 2) = (20, 24) ∧ g.2.1 (t + 3) = (20, 8) ∧ g.2.1 (t + 4) = (20, 8) ∧ g.2.1 (t + 5) = (20, 8) ∧ g.2.1 (t + 6) = (20, 8) ∧ g.2.1 (t + 7) = (20, 8) ∧ (g.2.1 (t + 8) = (20, if t = 57 then 192 else 0)) ∧ (g.2.1 (t + 9) = (20, if t = 57 then 24 else 0)) ∧ g.2.2 t 0 = some 3 ∧ g.2.2 t 1 = some (t + 1) ∧ g.2.2 t 2 = some (t + 2) ∧ g.2.2 t 3 = some (t + 8) ∧ g.2.2 t 4 = some (t + 9) ∧ g.2.2 t 5 = some (t + 3) ∧ g.2.2 t 6 = some (t + 4) ∧ g.2.2 t 7 = some (t + 5) ∧ g.2.2 t 8 = some (t + 6) ∧ g.2.2 t 9 = some (t + 7)
theorem shC_32 {g : pGG} (h : Sh g) : ShC g 32 := ⟨k_32 h, k_33 h, k_34 h, k_35 h, k_36 h, k_37 h, k_38 h, k_39 h, k_40 h, k_41 h, r_32_0 h, r_32_1 h, r_32_2 h, r_32_3 h, r_32_4 h, r_32_5 h, r_32_6 h, r_32_7 h, r_32_8 h, r_32_9 h⟩
theorem shC_47 {g : pGG} (h : Sh g) : ShC g 47 := ⟨k_47 h, k_48 h, k_49 h, k_50 h, k_51 h, k_52 h, k_53 h, k_54 h, k_55 h, k_56 h, r_47_0 h, r_47_1 h, r_47_2 h, r_47_3 h, r_47_4 h, r_47_5 h, r_47_6 h, r_47_7 h, r_47_8 h, r_47_9 h⟩
theorem shC_57 {g : pGG} (h : Sh g) : ShC g 57 := ⟨k_57 h, k_58 h, k_59 h, k_60 h, k_61 h, k_62 h, k_63 h, k_64 h, k_65 h, k_66 h, r_57_0 h, r_57_1 h, r_57_2 h, r_57_3 h, r_57_4 h, r_57_5 h, r_57_6 h, r_57_7 h, r_57_8 h, r_57_9 h⟩
theorem shC_67 {g : pGG} (h : Sh g) : ShC g 67 := ⟨k_67 h, k_68 h, k_69 h, k_70 h, k_71 h, k_72 h, k_73 h, k_74 h, k_75 h, k_76 h, r_67_0 h, r_67_1 h, r_67_2 h, r_67_3 h, r_67_4 h, r_67_5 h, r_67_6 h, r_67_7 h, r_67_8 h, r_67_9 h⟩
def isC (t : Nat) : Prop := t = 32 ∨ t = 47 ∨ t = 57 ∨ t = 67
theorem Sh.C {g : pGG} (h : Sh g) {t : Nat} (ht : isC t) : ShC g t := by
  rcases ht with rfl | rfl | rfl | rfl
  · exact shC_32 h
  · exact shC_47 h
  · exact shC_57 h
  · exact shC_67 h
