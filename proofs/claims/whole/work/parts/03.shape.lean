/-! ===== printed by wip/whole/gentab.py: the cells, their kinds, the references that never change ===== -/
def mfT (ci j : Nat) : FieldType := match ci with
  | 0 => tyX0 j
  | 1 => tyX1 j
  | 2 => tyX2 j
  | 3 => tyX3 j
  | 4 => tyX4 j
  | 5 => tyX5 j
  | 6 => tyX7 j
  | 7 => tyX8 j
  | 8 => tyX9 j
  | 9 => tyX10 j
  | 10 => tyX11 j
  | _ => tyX12 j
/-- cell k: its kind (a class by its place in vwCl; 20 int[], 21 byte[], 22 boolean[], 23 long[]), its size -/
def shf (k : Nat) : Nat × Nat := (bif Nat.ble k 59 then (bif Nat.ble k 29 then (bif Nat.ble k 14 then (bif Nat.ble k 7 then (bif Nat.ble k 3 then (bif Nat.ble k 1 then (bif Nat.ble k 0 then (10, 11) else (0, 7)) else (bif Nat.ble k 2 then (20, 9) else (20, 9))) else (bif Nat.ble k 5 then (bif Nat.ble k 4 then (20, 9) else (20, 9)) else (bif Nat.ble k 6 then (22, 9) else (20, 6)))) else (bif Nat.ble k 11 then (bif Nat.ble k 9 then (bif Nat.ble k 8 then (3, 5) else (20, 300)) else (bif Nat.ble k 10 then (20, 300) else (20, 300))) else (bif Nat.ble k 13 then (bif Nat.ble k 12 then (20, 300) else (8, 2)) else (21, 3000)))) else (bif Nat.ble k 22 then (bif Nat.ble k 18 then (bif Nat.ble k 16 then (bif Nat.ble k 15 then (6, 12) else (23, 8)) else (bif Nat.ble k 17 then (23, 40) else (20, 40))) else (bif Nat.ble k 20 then (bif Nat.ble k 19 then (20, 35) else (9, 6)) else (bif Nat.ble k 21 then (4, 2) else (20, 234)))) else (bif Nat.ble k 26 then (bif Nat.ble k 24 then (bif Nat.ble k 23 then (22, 26) else (5, 8)) else (bif Nat.ble k 25 then (20, 35) else (2, 3))) else (bif Nat.ble k 28 then (bif Nat.ble k 27 then (20, 14) else (20, 14)) else (7, 16))))) else (bif Nat.ble k 44 then (bif Nat.ble k 37 then (bif Nat.ble k 33 then (bif Nat.ble k 31 then (bif Nat.ble k 30 then (20, 9) else (20, 45)) else (bif Nat.ble k 32 then (20, 45) else (20, 40))) else (bif Nat.ble k 35 then (bif Nat.ble k 34 then (20, 400) else (20, 9)) else (bif Nat.ble k 36 then (20, 9) else (20, 10)))) else (bif Nat.ble k 41 then (bif Nat.ble k 39 then (bif Nat.ble k 38 then (23, 512) else (20, 512)) else (bif Nat.ble k 40 then (1, 14) else (20, 8))) else (bif Nat.ble k 43 then (bif Nat.ble k 42 then (20, 8) else (22, 64)) else (20, 40)))) else (bif Nat.ble k 52 then (bif Nat.ble k 48 then (bif Nat.ble k 46 then (bif Nat.ble k 45 then (20, 40) else (20, 40)) else (bif Nat.ble k 47 then (20, 40) else (20, 40))) else (bif Nat.ble k 50 then (bif Nat.ble k 49 then (20, 40) else (20, 40)) else (bif Nat.ble k 51 then (20, 600) else (1, 14)))) else (bif Nat.ble k 56 then (bif Nat.ble k 54 then (bif Nat.ble k 53 then (20, 8) else (20, 8)) else (bif Nat.ble k 55 then (22, 64) else (20, 40))) else (bif Nat.ble k 58 then (bif Nat.ble k 57 then (20, 40) else (20, 40)) else (20, 40)))))) else (bif Nat.ble k 89 then (bif Nat.ble k 74 then (bif Nat.ble k 67 then (bif Nat.ble k 63 then (bif Nat.ble k 61 then (bif Nat.ble k 60 then (20, 40) else (20, 40)) else (bif Nat.ble k 62 then (20, 40) else (20, 600))) else (bif Nat.ble k 65 then (bif Nat.ble k 64 then (11, 73) else (21, 3000)) else (bif Nat.ble k 66 then (21, 3000) else (20, 603)))) else (bif Nat.ble k 71 then (bif Nat.ble k 69 then (bif Nat.ble k 68 then (20, 603) else (20, 603)) else (bif Nat.ble k 70 then (23, 603) else (23, 20))) else (bif Nat.ble k 73 then (bif Nat.ble k 72 then (20, 2) else (23, 16)) else (20, 16)))) else (bif Nat.ble k 82 then (bif Nat.ble k 78 then (bif Nat.ble k 76 then (bif Nat.ble k 75 then (20, 16) else (20, 2)) else (bif Nat.ble k 77 then (20, 80) else (20, 80))) else (bif Nat.ble k 80 then (bif Nat.ble k 79 then (20, 80) else (20, 80)) else (bif Nat.ble k 81 then (20, 80) else (20, 80)))) else (bif Nat.ble k 86 then (bif Nat.ble k 84 then (bif Nat.ble k 83 then (20, 80) else (20, 80)) else (bif Nat.ble k 85 then (20, 2) else (20, 1200))) else (bif Nat.ble k 88 then (bif Nat.ble k 87 then (20, 1200) else (20, 1200)) else (20, 1200))))) else (bif Nat.ble k 104 then (bif Nat.ble k 97 then (bif Nat.ble k 93 then (bif Nat.ble k 91 then (bif Nat.ble k 90 then (22, 1200) else (20, 1400)) else (bif Nat.ble k 92 then (20, 1400) else (20, 48))) else (bif Nat.ble k 95 then (bif Nat.ble k 94 then (20, 9) else (20, 9)) else (bif Nat.ble k 96 then (20, 9) else (20, 9)))) else (bif Nat.ble k 101 then (bif Nat.ble k 99 then (bif Nat.ble k 98 then (22, 9) else (20, 6)) else (bif Nat.ble k 100 then (20, 300) else (20, 300))) else (bif Nat.ble k 103 then (bif Nat.ble k 102 then (20, 300) else (20, 300)) else (22, 26)))) else (bif Nat.ble k 111 then (bif Nat.ble k 108 then (bif Nat.ble k 106 then (bif Nat.ble k 105 then (20, 234) else (20, 6)) else (bif Nat.ble k 107 then (20, 700) else (20, 9))) else (bif Nat.ble k 110 then (bif Nat.ble k 109 then (20, 360) else (22, 64)) else (20, 10))) else (bif Nat.ble k 115 then (bif Nat.ble k 113 then (bif Nat.ble k 112 then (20, 9) else (20, 9)) else (bif Nat.ble k 114 then (20, 40) else (20, 10))) else (bif Nat.ble k 117 then (bif Nat.ble k 116 then (20, 10) else (20, 10)) else (22, 9)))))))
/-- how many cells there are behind the constructors -/
abbrev NC : Nat := 119
def crf_0 : List (Nat × Nat) := [(0, 6), (1, 13), (2, 18), (3, 20), (4, 26), (5, 29), (6, 31), (7, 34)]
def crf_1 : List (Nat × Nat) := [(0, 7), (1, 8), (2, 9), (3, 10), (4, 11), (5, 12)]
def crf_8 : List (Nat × Nat) := [(0, 14), (1, 15), (2, 16), (3, 17)]
def crf_13 : List (Nat × Nat) := [(0, 19)]
def crf_15 : List (Nat × Nat) := [(0, 25), (1, 21), (2, 22), (3, 23), (4, 24)]
def crf_20 : List (Nat × Nat) := [(0, 18)]
def crf_21 : List (Nat × Nat) := [(0, 27), (1, 28)]
def crf_24 : List (Nat × Nat) := [(0, 30)]
def crf_26 : List (Nat × Nat) := [(0, 32), (1, 33)]
def crf_29 : List (Nat × Nat) := [(0, 6), (1, 13), (2, 29), (5, 35), (6, 36), (7, 37), (8, 38), (9, 39), (10, 40), (11, 41), (12, 42), (13, 43), (14, 44)]
def crf_40 : List (Nat × Nat) := [(0, 46), (1, 47), (2, 48), (3, 49), (4, 50), (5, 51), (6, 52), (7, 53), (8, 54), (9, 55), (10, 56)]
def crf_52 : List (Nat × Nat) := [(0, 58), (1, 59), (2, 60), (3, 61), (4, 62), (5, 63), (6, 64), (7, 65), (8, 66), (9, 67), (10, 68)]
def crf_64 : List (Nat × Nat) := [(1, 70), (3, 71), (5, 72), (6, 73), (7, 74), (8, 75), (9, 76), (20, 77), (21, 78), (22, 79), (23, 80), (24, 81), (25, 82), (26, 83), (27, 84), (28, 85), (29, 86), (30, 87), (31, 88), (32, 89), (33, 90), (34, 91), (35, 92), (36, 93), (37, 94), (38, 95), (40, 96), (41, 97), (42, 98), (45, 99), (46, 100), (47, 101), (48, 102), (49, 103), (50, 104), (52, 105), (53, 106), (54, 107), (55, 108), (56, 109), (57, 110), (58, 111), (59, 112), (60, 113), (61, 114), (62, 115), (63, 116), (64, 117), (65, 118), (66, 119), (67, 120), (68, 121), (69, 122), (72, 123)]
def crfT : List (Nat × List (Nat × Nat)) := [(0, crf_0), (1, crf_1), (8, crf_8), (13, crf_13), (15, crf_15), (20, crf_20), (21, crf_21), (24, crf_24), (26, crf_26), (29, crf_29), (40, crf_40), (52, crf_52), (64, crf_64)]
/-- the reference that never changes in place j of cell k (its code: cell + 5); 0: none -/
def crf (k j : Nat) : Nat := match fnd crfT k with
  | none => 0
  | some l => match fnd l j with
    | none => 0
    | some r => r
