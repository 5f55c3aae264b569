/-! the world behind both constructors: 105 cells (printed by wip/whole/gen_geo.py) -/
def hl_gk (N a : Nat) : Nat × Nat := match a with
  | 0 => (15, 16)
  | 1 => (5, 16)
  | 2 => (0, N)
  | 3 => (0, N)
  | 4 => (0, N)
  | 5 => (0, N)
  | 6 => (2, N)
  | 7 => (0, N)
  | 8 => (0, N)
  | 9 => (0, 4)
  | 10 => (0, 12)
  | 11 => (12, 4)
  | 12 => (0, 40)
  | 13 => (0, 40)
  | 14 => (0, 40)
  | 15 => (13, 3)
  | 16 => (0, 72)
  | 17 => (0, 72)
  | 18 => (0, 6)
  | 19 => (5, 16)
  | 20 => (0, N)
  | 21 => (0, N)
  | 22 => (0, N)
  | 23 => (0, N)
  | 24 => (2, N)
  | 25 => (0, N)
  | 26 => (0, N)
  | 27 => (0, 4)
  | 28 => (0, 12)
  | 29 => (12, 4)
  | 30 => (0, 40)
  | 31 => (0, 40)
  | 32 => (0, 40)
  | 33 => (13, 3)
  | 34 => (0, 72)
  | 35 => (0, 72)
  | 36 => (0, 6)
  | 37 => (0, 300)
  | 38 => (10, 9)
  | 39 => (11, 4)
  | 40 => (0, 300)
  | 41 => (0, 3)
  | 42 => (0, 3)
  | 43 => (3, 4)
  | 44 => (11, 4)
  | 45 => (0, 300)
  | 46 => (0, 3)
  | 47 => (0, 3)
  | 48 => (11, 4)
  | 49 => (0, 300)
  | 50 => (0, 3)
  | 51 => (0, 3)
  | 52 => (11, 4)
  | 53 => (0, 300)
  | 54 => (0, 3)
  | 55 => (0, 3)
  | 56 => (11, 4)
  | 57 => (0, 300)
  | 58 => (0, 3)
  | 59 => (0, 3)
  | 60 => (14, 5)
  | 61 => (0, 9)
  | 62 => (0, 64)
  | 63 => (9, 4)
  | 64 => (0, N * 4)
  | 65 => (2, N)
  | 66 => (8, 2)
  | 67 => (0, N)
  | 68 => (7, 8)
  | 69 => (6, 10)
  | 70 => (0, 74)
  | 71 => (0, 432)
  | 72 => (0, 432)
  | 73 => (1, 432)
  | 74 => (0, 74)
  | 75 => (0, 74)
  | 76 => (0, 74)
  | 77 => (0, 74)
  | 78 => (0, 4)
  | 79 => (0, N)
  | 80 => (1, (if N < 6 then 6 else N) * 4)
  | 81 => (4, 6)
  | 82 => (0, N)
  | 83 => (0, N)
  | 84 => (0, 12)
  | 85 => (16, 38)
  | 86 => (0, 490)
  | 87 => (0, 490)
  | 88 => (0, 3200)
  | 89 => (0, 300)
  | 90 => (0, 160)
  | 91 => (0, 9)
  | 92 => (1, 330)
  | 93 => (2, 330)
  | 94 => (0, 24)
  | 95 => (0, 24)
  | 96 => (1, 5476)
  | 97 => (0, 74)
  | 98 => (0, 74)
  | 99 => (0, 4)
  | 100 => (0, 24)
  | 101 => (1, 96)
  | 102 => (0, 24)
  | 103 => (0, 24)
  | 104 => (0, 24)
  | _ => (0, 0)
def hl_gP0 (k : Nat) : Option Nat := match k with
  | 3 => some 1
  | 4 => some 19
  | 5 => some 37
  | 7 => some 38
  | 8 => some 43
  | 9 => some 60
  | 10 => some 63
  | 11 => some 66
  | 12 => some 68
  | 13 => some 81
  | 14 => some 83
  | 15 => some 84
  | _ => none
def hl_gP1 (k : Nat) : Option Nat := match k with
  | 0 => some 2
  | 1 => some 3
  | 2 => some 4
  | 3 => some 5
  | 4 => some 6
  | 5 => some 7
  | 6 => some 8
  | 7 => some 9
  | 9 => some 10
  | 14 => some 11
  | 15 => some 15
  | _ => none
def hl_gP11 (k : Nat) : Option Nat := match k with
  | 0 => some 12
  | 1 => some 13
  | 2 => some 14
  | _ => none
def hl_gP15 (k : Nat) : Option Nat := match k with
  | 0 => some 16
  | 1 => some 17
  | 2 => some 18
  | _ => none
def hl_gP19 (k : Nat) : Option Nat := match k with
  | 0 => some 20
  | 1 => some 21
  | 2 => some 22
  | 3 => some 23
  | 4 => some 24
  | 5 => some 25
  | 6 => some 26
  | 7 => some 27
  | 9 => some 28
  | 14 => some 29
  | 15 => some 33
  | _ => none
def hl_gP29 (k : Nat) : Option Nat := match k with
  | 0 => some 30
  | 1 => some 31
  | 2 => some 32
  | _ => none
def hl_gP33 (k : Nat) : Option Nat := match k with
  | 0 => some 34
  | 1 => some 35
  | 2 => some 36
  | _ => none
def hl_gP38 (k : Nat) : Option Nat := match k with
  | 0 => some 37
  | 1 => some 39
  | _ => none
def hl_gP39 (k : Nat) : Option Nat := match k with
  | 0 => some 40
  | 1 => some 41
  | 2 => some 42
  | _ => none
def hl_gP43 (k : Nat) : Option Nat := match k with
  | 0 => some 44
  | 1 => some 48
  | 2 => some 52
  | 3 => some 56
  | _ => none
def hl_gP44 (k : Nat) : Option Nat := match k with
  | 0 => some 45
  | 1 => some 46
  | 2 => some 47
  | _ => none
def hl_gP48 (k : Nat) : Option Nat := match k with
  | 0 => some 49
  | 1 => some 50
  | 2 => some 51
  | _ => none
def hl_gP52 (k : Nat) : Option Nat := match k with
  | 0 => some 53
  | 1 => some 54
  | 2 => some 55
  | _ => none
def hl_gP56 (k : Nat) : Option Nat := match k with
  | 0 => some 57
  | 1 => some 58
  | 2 => some 59
  | _ => none
def hl_gP60 (k : Nat) : Option Nat := match k with
  | 0 => some 1
  | 1 => some 43
  | 2 => some 61
  | 3 => some 62
  | _ => none
def hl_gP63 (k : Nat) : Option Nat := match k with
  | 0 => some 1
  | 1 => some 60
  | 2 => some 64
  | 3 => some 65
  | _ => none
def hl_gP66 (k : Nat) : Option Nat := match k with
  | 1 => some 67
  | _ => none
def hl_gP68 (k : Nat) : Option Nat := match k with
  | 0 => some 1
  | 1 => some 63
  | 2 => some 69
  | 3 => some 79
  | 4 => some 80
  | 5 => some 78
  | _ => none
def hl_gP69 (k : Nat) : Option Nat := match k with
  | 2 => some 70
  | 3 => some 71
  | 4 => some 72
  | 5 => some 73
  | 6 => some 74
  | 7 => some 75
  | 8 => some 76
  | 9 => some 77
  | _ => none
def hl_gP81 (k : Nat) : Option Nat := match k with
  | 0 => some 1
  | 1 => some 63
  | 2 => some 60
  | 3 => some 82
  | _ => none
def hl_gP85 (k : Nat) : Option Nat := match k with
  | 3 => some 86
  | 4 => some 87
  | 5 => some 88
  | 6 => some 89
  | 19 => some 90
  | 23 => some 91
  | 24 => some 92
  | 25 => some 93
  | 26 => some 94
  | 27 => some 95
  | 28 => some 96
  | 29 => some 97
  | 30 => some 98
  | 31 => some 99
  | 33 => some 100
  | 34 => some 101
  | 35 => some 102
  | 36 => some 103
  | 37 => some 104
  | _ => none
def hl_gP (a : Nat) : Nat → Option Nat := match a with
  | 0 => hl_gP0
  | 1 => hl_gP1
  | 11 => hl_gP11
  | 15 => hl_gP15
  | 19 => hl_gP19
  | 29 => hl_gP29
  | 33 => hl_gP33
  | 38 => hl_gP38
  | 39 => hl_gP39
  | 43 => hl_gP43
  | 44 => hl_gP44
  | 48 => hl_gP48
  | 52 => hl_gP52
  | 56 => hl_gP56
  | 60 => hl_gP60
  | 63 => hl_gP63
  | 66 => hl_gP66
  | 68 => hl_gP68
  | 69 => hl_gP69
  | 81 => hl_gP81
  | 85 => hl_gP85
  | _ => fun _ => none
def hl_g (N : Nat) (I : Nat → Nat → Int32) (J : Nat → Nat → Int64) : hl_W := (105, hl_gk N, hl_gP, I, J)
section HLGEO
variable {N : Nat} {I : Nat → Nat → Int32} {J : Nat → Nat → Int64}
theorem hl_o_0 : hl_ob (hl_g N I J) 0 11 = true := id rfl
theorem hl_o_1 : hl_ob (hl_g N I J) 1 1 = true := id rfl
theorem hl_a_2 : hl_ar (hl_g N I J) 2 0 = true := id rfl
theorem hl_z_2 : (hl_k (hl_g N I J) 2).2 = N := id rfl
theorem hl_l_2 : (2 < hl_n (hl_g N I J) ∧ (hl_k (hl_g N I J) 2).1 < 4) = True := eq_true ⟨(by decide : 2 < 105), (by decide : 0 < 4)⟩
theorem hl_a_3 : hl_ar (hl_g N I J) 3 0 = true := id rfl
theorem hl_z_3 : (hl_k (hl_g N I J) 3).2 = N := id rfl
theorem hl_l_3 : (3 < hl_n (hl_g N I J) ∧ (hl_k (hl_g N I J) 3).1 < 4) = True := eq_true ⟨(by decide : 3 < 105), (by decide : 0 < 4)⟩
theorem hl_a_4 : hl_ar (hl_g N I J) 4 0 = true := id rfl
theorem hl_z_4 : (hl_k (hl_g N I J) 4).2 = N := id rfl
theorem hl_l_4 : (4 < hl_n (hl_g N I J) ∧ (hl_k (hl_g N I J) 4).1 < 4) = True := eq_true ⟨(by decide : 4 < 105), (by decide : 0 < 4)⟩
theorem hl_a_5 : hl_ar (hl_g N I J) 5 0 = true := id rfl
theorem hl_z_5 : (hl_k (hl_g N I J) 5).2 = N := id rfl
theorem hl_l_5 : (5 < hl_n (hl_g N I J) ∧ (hl_k (hl_g N I J) 5).1 < 4) = True := eq_true ⟨(by decide : 5 < 105), (by decide : 0 < 4)⟩
theorem hl_a_6 : hl_ar (hl_g N I J) 6 2 = true := id rfl
theorem hl_z_6 : (hl_k (hl_g N I J) 6).2 = N := id rfl
theorem hl_l_6 : (6 < hl_n (hl_g N I J) ∧ (hl_k (hl_g N I J) 6).1 < 4) = True := eq_true ⟨(by decide : 6 < 105), (by decide : 2 < 4)⟩
theorem hl_a_7 : hl_ar (hl_g N I J) 7 0 = true := id rfl
theorem hl_z_7 : (hl_k (hl_g N I J) 7).2 = N := id rfl
theorem hl_l_7 : (7 < hl_n (hl_g N I J) ∧ (hl_k (hl_g N I J) 7).1 < 4) = True := eq_true ⟨(by decide : 7 < 105), (by decide : 0 < 4)⟩
theorem hl_a_8 : hl_ar (hl_g N I J) 8 0 = true := id rfl
theorem hl_z_8 : (hl_k (hl_g N I J) 8).2 = N := id rfl
theorem hl_l_8 : (8 < hl_n (hl_g N I J) ∧ (hl_k (hl_g N I J) 8).1 < 4) = True := eq_true ⟨(by decide : 8 < 105), (by decide : 0 < 4)⟩
theorem hl_a_9 : hl_ar (hl_g N I J) 9 0 = true := id rfl
theorem hl_z_9 : (hl_k (hl_g N I J) 9).2 = 4 := id rfl
theorem hl_l_9 : (9 < hl_n (hl_g N I J) ∧ (hl_k (hl_g N I J) 9).1 < 4) = True := eq_true ⟨(by decide : 9 < 105), (by decide : 0 < 4)⟩
theorem hl_a_10 : hl_ar (hl_g N I J) 10 0 = true := id rfl
theorem hl_z_10 : (hl_k (hl_g N I J) 10).2 = 12 := id rfl
theorem hl_l_10 : (10 < hl_n (hl_g N I J) ∧ (hl_k (hl_g N I J) 10).1 < 4) = True := eq_true ⟨(by decide : 10 < 105), (by decide : 0 < 4)⟩
theorem hl_o_11 : hl_ob (hl_g N I J) 11 8 = true := id rfl
theorem hl_a_12 : hl_ar (hl_g N I J) 12 0 = true := id rfl
theorem hl_z_12 : (hl_k (hl_g N I J) 12).2 = 40 := id rfl
theorem hl_l_12 : (12 < hl_n (hl_g N I J) ∧ (hl_k (hl_g N I J) 12).1 < 4) = True := eq_true ⟨(by decide : 12 < 105), (by decide : 0 < 4)⟩
theorem hl_a_13 : hl_ar (hl_g N I J) 13 0 = true := id rfl
theorem hl_z_13 : (hl_k (hl_g N I J) 13).2 = 40 := id rfl
theorem hl_l_13 : (13 < hl_n (hl_g N I J) ∧ (hl_k (hl_g N I J) 13).1 < 4) = True := eq_true ⟨(by decide : 13 < 105), (by decide : 0 < 4)⟩
theorem hl_a_14 : hl_ar (hl_g N I J) 14 0 = true := id rfl
theorem hl_z_14 : (hl_k (hl_g N I J) 14).2 = 40 := id rfl
theorem hl_l_14 : (14 < hl_n (hl_g N I J) ∧ (hl_k (hl_g N I J) 14).1 < 4) = True := eq_true ⟨(by decide : 14 < 105), (by decide : 0 < 4)⟩
theorem hl_o_15 : hl_ob (hl_g N I J) 15 9 = true := id rfl
theorem hl_a_16 : hl_ar (hl_g N I J) 16 0 = true := id rfl
theorem hl_z_16 : (hl_k (hl_g N I J) 16).2 = 72 := id rfl
theorem hl_l_16 : (16 < hl_n (hl_g N I J) ∧ (hl_k (hl_g N I J) 16).1 < 4) = True := eq_true ⟨(by decide : 16 < 105), (by decide : 0 < 4)⟩
theorem hl_a_17 : hl_ar (hl_g N I J) 17 0 = true := id rfl
theorem hl_z_17 : (hl_k (hl_g N I J) 17).2 = 72 := id rfl
theorem hl_l_17 : (17 < hl_n (hl_g N I J) ∧ (hl_k (hl_g N I J) 17).1 < 4) = True := eq_true ⟨(by decide : 17 < 105), (by decide : 0 < 4)⟩
theorem hl_a_18 : hl_ar (hl_g N I J) 18 0 = true := id rfl
theorem hl_z_18 : (hl_k (hl_g N I J) 18).2 = 6 := id rfl
theorem hl_l_18 : (18 < hl_n (hl_g N I J) ∧ (hl_k (hl_g N I J) 18).1 < 4) = True := eq_true ⟨(by decide : 18 < 105), (by decide : 0 < 4)⟩
theorem hl_o_19 : hl_ob (hl_g N I J) 19 1 = true := id rfl
theorem hl_a_20 : hl_ar (hl_g N I J) 20 0 = true := id rfl
theorem hl_z_20 : (hl_k (hl_g N I J) 20).2 = N := id rfl
theorem hl_l_20 : (20 < hl_n (hl_g N I J) ∧ (hl_k (hl_g N I J) 20).1 < 4) = True := eq_true ⟨(by decide : 20 < 105), (by decide : 0 < 4)⟩
theorem hl_a_21 : hl_ar (hl_g N I J) 21 0 = true := id rfl
theorem hl_z_21 : (hl_k (hl_g N I J) 21).2 = N := id rfl
theorem hl_l_21 : (21 < hl_n (hl_g N I J) ∧ (hl_k (hl_g N I J) 21).1 < 4) = True := eq_true ⟨(by decide : 21 < 105), (by decide : 0 < 4)⟩
theorem hl_a_22 : hl_ar (hl_g N I J) 22 0 = true := id rfl
theorem hl_z_22 : (hl_k (hl_g N I J) 22).2 = N := id rfl
theorem hl_l_22 : (22 < hl_n (hl_g N I J) ∧ (hl_k (hl_g N I J) 22).1 < 4) = True := eq_true ⟨(by decide : 22 < 105), (by decide : 0 < 4)⟩
theorem hl_a_23 : hl_ar (hl_g N I J) 23 0 = true := id rfl
theorem hl_z_23 : (hl_k (hl_g N I J) 23).2 = N := id rfl
theorem hl_l_23 : (23 < hl_n (hl_g N I J) ∧ (hl_k (hl_g N I J) 23).1 < 4) = True := eq_true ⟨(by decide : 23 < 105), (by decide : 0 < 4)⟩
theorem hl_a_24 : hl_ar (hl_g N I J) 24 2 = true := id rfl
theorem hl_z_24 : (hl_k (hl_g N I J) 24).2 = N := id rfl
theorem hl_l_24 : (24 < hl_n (hl_g N I J) ∧ (hl_k (hl_g N I J) 24).1 < 4) = True := eq_true ⟨(by decide : 24 < 105), (by decide : 2 < 4)⟩
theorem hl_a_25 : hl_ar (hl_g N I J) 25 0 = true := id rfl
theorem hl_z_25 : (hl_k (hl_g N I J) 25).2 = N := id rfl
theorem hl_l_25 : (25 < hl_n (hl_g N I J) ∧ (hl_k (hl_g N I J) 25).1 < 4) = True := eq_true ⟨(by decide : 25 < 105), (by decide : 0 < 4)⟩
theorem hl_a_26 : hl_ar (hl_g N I J) 26 0 = true := id rfl
theorem hl_z_26 : (hl_k (hl_g N I J) 26).2 = N := id rfl
theorem hl_l_26 : (26 < hl_n (hl_g N I J) ∧ (hl_k (hl_g N I J) 26).1 < 4) = True := eq_true ⟨(by decide : 26 < 105), (by decide : 0 < 4)⟩
theorem hl_a_27 : hl_ar (hl_g N I J) 27 0 = true := id rfl
theorem hl_z_27 : (hl_k (hl_g N I J) 27).2 = 4 := id rfl
theorem hl_l_27 : (27 < hl_n (hl_g N I J) ∧ (hl_k (hl_g N I J) 27).1 < 4) = True := eq_true ⟨(by decide : 27 < 105), (by decide : 0 < 4)⟩
theorem hl_a_28 : hl_ar (hl_g N I J) 28 0 = true := id rfl
theorem hl_z_28 : (hl_k (hl_g N I J) 28).2 = 12 := id rfl
theorem hl_l_28 : (28 < hl_n (hl_g N I J) ∧ (hl_k (hl_g N I J) 28).1 < 4) = True := eq_true ⟨(by decide : 28 < 105), (by decide : 0 < 4)⟩
theorem hl_o_29 : hl_ob (hl_g N I J) 29 8 = true := id rfl
theorem hl_a_30 : hl_ar (hl_g N I J) 30 0 = true := id rfl
theorem hl_z_30 : (hl_k (hl_g N I J) 30).2 = 40 := id rfl
theorem hl_l_30 : (30 < hl_n (hl_g N I J) ∧ (hl_k (hl_g N I J) 30).1 < 4) = True := eq_true ⟨(by decide : 30 < 105), (by decide : 0 < 4)⟩
theorem hl_a_31 : hl_ar (hl_g N I J) 31 0 = true := id rfl
theorem hl_z_31 : (hl_k (hl_g N I J) 31).2 = 40 := id rfl
theorem hl_l_31 : (31 < hl_n (hl_g N I J) ∧ (hl_k (hl_g N I J) 31).1 < 4) = True := eq_true ⟨(by decide : 31 < 105), (by decide : 0 < 4)⟩
theorem hl_a_32 : hl_ar (hl_g N I J) 32 0 = true := id rfl
theorem hl_z_32 : (hl_k (hl_g N I J) 32).2 = 40 := id rfl
theorem hl_l_32 : (32 < hl_n (hl_g N I J) ∧ (hl_k (hl_g N I J) 32).1 < 4) = True := eq_true ⟨(by decide : 32 < 105), (by decide : 0 < 4)⟩
theorem hl_o_33 : hl_ob (hl_g N I J) 33 9 = true := id rfl
theorem hl_a_34 : hl_ar (hl_g N I J) 34 0 = true := id rfl
theorem hl_z_34 : (hl_k (hl_g N I J) 34).2 = 72 := id rfl
theorem hl_l_34 : (34 < hl_n (hl_g N I J) ∧ (hl_k (hl_g N I J) 34).1 < 4) = True := eq_true ⟨(by decide : 34 < 105), (by decide : 0 < 4)⟩
theorem hl_a_35 : hl_ar (hl_g N I J) 35 0 = true := id rfl
theorem hl_z_35 : (hl_k (hl_g N I J) 35).2 = 72 := id rfl
theorem hl_l_35 : (35 < hl_n (hl_g N I J) ∧ (hl_k (hl_g N I J) 35).1 < 4) = True := eq_true ⟨(by decide : 35 < 105), (by decide : 0 < 4)⟩
theorem hl_a_36 : hl_ar (hl_g N I J) 36 0 = true := id rfl
theorem hl_z_36 : (hl_k (hl_g N I J) 36).2 = 6 := id rfl
theorem hl_l_36 : (36 < hl_n (hl_g N I J) ∧ (hl_k (hl_g N I J) 36).1 < 4) = True := eq_true ⟨(by decide : 36 < 105), (by decide : 0 < 4)⟩
theorem hl_a_37 : hl_ar (hl_g N I J) 37 0 = true := id rfl
theorem hl_z_37 : (hl_k (hl_g N I J) 37).2 = 300 := id rfl
theorem hl_l_37 : (37 < hl_n (hl_g N I J) ∧ (hl_k (hl_g N I J) 37).1 < 4) = True := eq_true ⟨(by decide : 37 < 105), (by decide : 0 < 4)⟩
theorem hl_o_38 : hl_ob (hl_g N I J) 38 6 = true := id rfl
theorem hl_o_39 : hl_ob (hl_g N I J) 39 7 = true := id rfl
theorem hl_a_40 : hl_ar (hl_g N I J) 40 0 = true := id rfl
theorem hl_z_40 : (hl_k (hl_g N I J) 40).2 = 300 := id rfl
theorem hl_l_40 : (40 < hl_n (hl_g N I J) ∧ (hl_k (hl_g N I J) 40).1 < 4) = True := eq_true ⟨(by decide : 40 < 105), (by decide : 0 < 4)⟩
theorem hl_a_41 : hl_ar (hl_g N I J) 41 0 = true := id rfl
theorem hl_z_41 : (hl_k (hl_g N I J) 41).2 = 3 := id rfl
theorem hl_l_41 : (41 < hl_n (hl_g N I J) ∧ (hl_k (hl_g N I J) 41).1 < 4) = True := eq_true ⟨(by decide : 41 < 105), (by decide : 0 < 4)⟩
theorem hl_a_42 : hl_ar (hl_g N I J) 42 0 = true := id rfl
theorem hl_z_42 : (hl_k (hl_g N I J) 42).2 = 3 := id rfl
theorem hl_l_42 : (42 < hl_n (hl_g N I J) ∧ (hl_k (hl_g N I J) 42).1 < 4) = True := eq_true ⟨(by decide : 42 < 105), (by decide : 0 < 4)⟩
theorem hl_a_43 : hl_ar (hl_g N I J) 43 3 = true := id rfl
theorem hl_z_43 : (hl_k (hl_g N I J) 43).2 = 4 := id rfl
theorem hl_l_43 : (43 < hl_n (hl_g N I J) ∧ (hl_k (hl_g N I J) 43).1 < 4) = True := eq_true ⟨(by decide : 43 < 105), (by decide : 3 < 4)⟩
theorem hl_o_44 : hl_ob (hl_g N I J) 44 7 = true := id rfl
theorem hl_a_45 : hl_ar (hl_g N I J) 45 0 = true := id rfl
theorem hl_z_45 : (hl_k (hl_g N I J) 45).2 = 300 := id rfl
theorem hl_l_45 : (45 < hl_n (hl_g N I J) ∧ (hl_k (hl_g N I J) 45).1 < 4) = True := eq_true ⟨(by decide : 45 < 105), (by decide : 0 < 4)⟩
theorem hl_a_46 : hl_ar (hl_g N I J) 46 0 = true := id rfl
theorem hl_z_46 : (hl_k (hl_g N I J) 46).2 = 3 := id rfl
theorem hl_l_46 : (46 < hl_n (hl_g N I J) ∧ (hl_k (hl_g N I J) 46).1 < 4) = True := eq_true ⟨(by decide : 46 < 105), (by decide : 0 < 4)⟩
theorem hl_a_47 : hl_ar (hl_g N I J) 47 0 = true := id rfl
theorem hl_z_47 : (hl_k (hl_g N I J) 47).2 = 3 := id rfl
theorem hl_l_47 : (47 < hl_n (hl_g N I J) ∧ (hl_k (hl_g N I J) 47).1 < 4) = True := eq_true ⟨(by decide : 47 < 105), (by decide : 0 < 4)⟩
theorem hl_o_48 : hl_ob (hl_g N I J) 48 7 = true := id rfl
theorem hl_a_49 : hl_ar (hl_g N I J) 49 0 = true := id rfl
theorem hl_z_49 : (hl_k (hl_g N I J) 49).2 = 300 := id rfl
theorem hl_l_49 : (49 < hl_n (hl_g N I J) ∧ (hl_k (hl_g N I J) 49).1 < 4) = True := eq_true ⟨(by decide : 49 < 105), (by decide : 0 < 4)⟩
theorem hl_a_50 : hl_ar (hl_g N I J) 50 0 = true := id rfl
theorem hl_z_50 : (hl_k (hl_g N I J) 50).2 = 3 := id rfl
theorem hl_l_50 : (50 < hl_n (hl_g N I J) ∧ (hl_k (hl_g N I J) 50).1 < 4) = True := eq_true ⟨(by decide : 50 < 105), (by decide : 0 < 4)⟩
theorem hl_a_51 : hl_ar (hl_g N I J) 51 0 = true := id rfl
theorem hl_z_51 : (hl_k (hl_g N I J) 51).2 = 3 := id rfl
theorem hl_l_51 : (51 < hl_n (hl_g N I J) ∧ (hl_k (hl_g N I J) 51).1 < 4) = True := eq_true ⟨(by decide : 51 < 105), (by decide : 0 < 4)⟩
theorem hl_o_52 : hl_ob (hl_g N I J) 52 7 = true := id rfl
theorem hl_a_53 : hl_ar (hl_g N I J) 53 0 = true := id rfl
theorem hl_z_53 : (hl_k (hl_g N I J) 53).2 = 300 := id rfl
theorem hl_l_53 : (53 < hl_n (hl_g N I J) ∧ (hl_k (hl_g N I J) 53).1 < 4) = True := eq_true ⟨(by decide : 53 < 105), (by decide : 0 < 4)⟩
theorem hl_a_54 : hl_ar (hl_g N I J) 54 0 = true := id rfl
theorem hl_z_54 : (hl_k (hl_g N I J) 54).2 = 3 := id rfl
theorem hl_l_54 : (54 < hl_n (hl_g N I J) ∧ (hl_k (hl_g N I J) 54).1 < 4) = True := eq_true ⟨(by decide : 54 < 105), (by decide : 0 < 4)⟩
theorem hl_a_55 : hl_ar (hl_g N I J) 55 0 = true := id rfl
theorem hl_z_55 : (hl_k (hl_g N I J) 55).2 = 3 := id rfl
theorem hl_l_55 : (55 < hl_n (hl_g N I J) ∧ (hl_k (hl_g N I J) 55).1 < 4) = True := eq_true ⟨(by decide : 55 < 105), (by decide : 0 < 4)⟩
theorem hl_o_56 : hl_ob (hl_g N I J) 56 7 = true := id rfl
theorem hl_a_57 : hl_ar (hl_g N I J) 57 0 = true := id rfl
theorem hl_z_57 : (hl_k (hl_g N I J) 57).2 = 300 := id rfl
theorem hl_l_57 : (57 < hl_n (hl_g N I J) ∧ (hl_k (hl_g N I J) 57).1 < 4) = True := eq_true ⟨(by decide : 57 < 105), (by decide : 0 < 4)⟩
theorem hl_a_58 : hl_ar (hl_g N I J) 58 0 = true := id rfl
theorem hl_z_58 : (hl_k (hl_g N I J) 58).2 = 3 := id rfl
theorem hl_l_58 : (58 < hl_n (hl_g N I J) ∧ (hl_k (hl_g N I J) 58).1 < 4) = True := eq_true ⟨(by decide : 58 < 105), (by decide : 0 < 4)⟩
theorem hl_a_59 : hl_ar (hl_g N I J) 59 0 = true := id rfl
theorem hl_z_59 : (hl_k (hl_g N I J) 59).2 = 3 := id rfl
theorem hl_l_59 : (59 < hl_n (hl_g N I J) ∧ (hl_k (hl_g N I J) 59).1 < 4) = True := eq_true ⟨(by decide : 59 < 105), (by decide : 0 < 4)⟩
theorem hl_o_60 : hl_ob (hl_g N I J) 60 10 = true := id rfl
theorem hl_a_61 : hl_ar (hl_g N I J) 61 0 = true := id rfl
theorem hl_z_61 : (hl_k (hl_g N I J) 61).2 = 9 := id rfl
theorem hl_l_61 : (61 < hl_n (hl_g N I J) ∧ (hl_k (hl_g N I J) 61).1 < 4) = True := eq_true ⟨(by decide : 61 < 105), (by decide : 0 < 4)⟩
theorem hl_a_62 : hl_ar (hl_g N I J) 62 0 = true := id rfl
theorem hl_z_62 : (hl_k (hl_g N I J) 62).2 = 64 := id rfl
theorem hl_l_62 : (62 < hl_n (hl_g N I J) ∧ (hl_k (hl_g N I J) 62).1 < 4) = True := eq_true ⟨(by decide : 62 < 105), (by decide : 0 < 4)⟩
theorem hl_o_63 : hl_ob (hl_g N I J) 63 5 = true := id rfl
theorem hl_a_64 : hl_ar (hl_g N I J) 64 0 = true := id rfl
theorem hl_z_64 : (hl_k (hl_g N I J) 64).2 = N * 4 := id rfl
theorem hl_l_64 : (64 < hl_n (hl_g N I J) ∧ (hl_k (hl_g N I J) 64).1 < 4) = True := eq_true ⟨(by decide : 64 < 105), (by decide : 0 < 4)⟩
theorem hl_a_65 : hl_ar (hl_g N I J) 65 2 = true := id rfl
theorem hl_z_65 : (hl_k (hl_g N I J) 65).2 = N := id rfl
theorem hl_l_65 : (65 < hl_n (hl_g N I J) ∧ (hl_k (hl_g N I J) 65).1 < 4) = True := eq_true ⟨(by decide : 65 < 105), (by decide : 2 < 4)⟩
theorem hl_o_66 : hl_ob (hl_g N I J) 66 4 = true := id rfl
theorem hl_a_67 : hl_ar (hl_g N I J) 67 0 = true := id rfl
theorem hl_z_67 : (hl_k (hl_g N I J) 67).2 = N := id rfl
theorem hl_l_67 : (67 < hl_n (hl_g N I J) ∧ (hl_k (hl_g N I J) 67).1 < 4) = True := eq_true ⟨(by decide : 67 < 105), (by decide : 0 < 4)⟩
theorem hl_o_68 : hl_ob (hl_g N I J) 68 3 = true := id rfl
theorem hl_o_69 : hl_ob (hl_g N I J) 69 2 = true := id rfl
theorem hl_a_70 : hl_ar (hl_g N I J) 70 0 = true := id rfl
theorem hl_z_70 : (hl_k (hl_g N I J) 70).2 = 74 := id rfl
theorem hl_l_70 : (70 < hl_n (hl_g N I J) ∧ (hl_k (hl_g N I J) 70).1 < 4) = True := eq_true ⟨(by decide : 70 < 105), (by decide : 0 < 4)⟩
theorem hl_a_71 : hl_ar (hl_g N I J) 71 0 = true := id rfl
theorem hl_z_71 : (hl_k (hl_g N I J) 71).2 = 432 := id rfl
theorem hl_l_71 : (71 < hl_n (hl_g N I J) ∧ (hl_k (hl_g N I J) 71).1 < 4) = True := eq_true ⟨(by decide : 71 < 105), (by decide : 0 < 4)⟩
theorem hl_a_72 : hl_ar (hl_g N I J) 72 0 = true := id rfl
theorem hl_z_72 : (hl_k (hl_g N I J) 72).2 = 432 := id rfl
theorem hl_l_72 : (72 < hl_n (hl_g N I J) ∧ (hl_k (hl_g N I J) 72).1 < 4) = True := eq_true ⟨(by decide : 72 < 105), (by decide : 0 < 4)⟩
theorem hl_a_73 : hl_ar (hl_g N I J) 73 1 = true := id rfl
theorem hl_z_73 : (hl_k (hl_g N I J) 73).2 = 432 := id rfl
theorem hl_l_73 : (73 < hl_n (hl_g N I J) ∧ (hl_k (hl_g N I J) 73).1 < 4) = True := eq_true ⟨(by decide : 73 < 105), (by decide : 1 < 4)⟩
theorem hl_a_74 : hl_ar (hl_g N I J) 74 0 = true := id rfl
theorem hl_z_74 : (hl_k (hl_g N I J) 74).2 = 74 := id rfl
theorem hl_l_74 : (74 < hl_n (hl_g N I J) ∧ (hl_k (hl_g N I J) 74).1 < 4) = True := eq_true ⟨(by decide : 74 < 105), (by decide : 0 < 4)⟩
theorem hl_a_75 : hl_ar (hl_g N I J) 75 0 = true := id rfl
theorem hl_z_75 : (hl_k (hl_g N I J) 75).2 = 74 := id rfl
theorem hl_l_75 : (75 < hl_n (hl_g N I J) ∧ (hl_k (hl_g N I J) 75).1 < 4) = True := eq_true ⟨(by decide : 75 < 105), (by decide : 0 < 4)⟩
theorem hl_a_76 : hl_ar (hl_g N I J) 76 0 = true := id rfl
theorem hl_z_76 : (hl_k (hl_g N I J) 76).2 = 74 := id rfl
theorem hl_l_76 : (76 < hl_n (hl_g N I J) ∧ (hl_k (hl_g N I J) 76).1 < 4) = True := eq_true ⟨(by decide : 76 < 105), (by decide : 0 < 4)⟩
theorem hl_a_77 : hl_ar (hl_g N I J) 77 0 = true := id rfl
theorem hl_z_77 : (hl_k (hl_g N I J) 77).2 = 74 := id rfl
theorem hl_l_77 : (77 < hl_n (hl_g N I J) ∧ (hl_k (hl_g N I J) 77).1 < 4) = True := eq_true ⟨(by decide : 77 < 105), (by decide : 0 < 4)⟩
theorem hl_a_78 : hl_ar (hl_g N I J) 78 0 = true := id rfl
theorem hl_z_78 : (hl_k (hl_g N I J) 78).2 = 4 := id rfl
theorem hl_l_78 : (78 < hl_n (hl_g N I J) ∧ (hl_k (hl_g N I J) 78).1 < 4) = True := eq_true ⟨(by decide : 78 < 105), (by decide : 0 < 4)⟩
theorem hl_a_79 : hl_ar (hl_g N I J) 79 0 = true := id rfl
theorem hl_z_79 : (hl_k (hl_g N I J) 79).2 = N := id rfl
theorem hl_l_79 : (79 < hl_n (hl_g N I J) ∧ (hl_k (hl_g N I J) 79).1 < 4) = True := eq_true ⟨(by decide : 79 < 105), (by decide : 0 < 4)⟩
theorem hl_a_80 : hl_ar (hl_g N I J) 80 1 = true := id rfl
theorem hl_z_80 : (hl_k (hl_g N I J) 80).2 = (if N < 6 then 6 else N) * 4 := id rfl
theorem hl_l_80 : (80 < hl_n (hl_g N I J) ∧ (hl_k (hl_g N I J) 80).1 < 4) = True := eq_true ⟨(by decide : 80 < 105), (by decide : 1 < 4)⟩
theorem hl_o_81 : hl_ob (hl_g N I J) 81 0 = true := id rfl
theorem hl_a_82 : hl_ar (hl_g N I J) 82 0 = true := id rfl
theorem hl_z_82 : (hl_k (hl_g N I J) 82).2 = N := id rfl
theorem hl_l_82 : (82 < hl_n (hl_g N I J) ∧ (hl_k (hl_g N I J) 82).1 < 4) = True := eq_true ⟨(by decide : 82 < 105), (by decide : 0 < 4)⟩
theorem hl_a_83 : hl_ar (hl_g N I J) 83 0 = true := id rfl
theorem hl_z_83 : (hl_k (hl_g N I J) 83).2 = N := id rfl
theorem hl_l_83 : (83 < hl_n (hl_g N I J) ∧ (hl_k (hl_g N I J) 83).1 < 4) = True := eq_true ⟨(by decide : 83 < 105), (by decide : 0 < 4)⟩
theorem hl_a_84 : hl_ar (hl_g N I J) 84 0 = true := id rfl
theorem hl_z_84 : (hl_k (hl_g N I J) 84).2 = 12 := id rfl
theorem hl_l_84 : (84 < hl_n (hl_g N I J) ∧ (hl_k (hl_g N I J) 84).1 < 4) = True := eq_true ⟨(by decide : 84 < 105), (by decide : 0 < 4)⟩
theorem hl_o_85 : hl_ob (hl_g N I J) 85 12 = true := id rfl
theorem hl_a_86 : hl_ar (hl_g N I J) 86 0 = true := id rfl
theorem hl_z_86 : (hl_k (hl_g N I J) 86).2 = 490 := id rfl
theorem hl_l_86 : (86 < hl_n (hl_g N I J) ∧ (hl_k (hl_g N I J) 86).1 < 4) = True := eq_true ⟨(by decide : 86 < 105), (by decide : 0 < 4)⟩
theorem hl_a_87 : hl_ar (hl_g N I J) 87 0 = true := id rfl
theorem hl_z_87 : (hl_k (hl_g N I J) 87).2 = 490 := id rfl
theorem hl_l_87 : (87 < hl_n (hl_g N I J) ∧ (hl_k (hl_g N I J) 87).1 < 4) = True := eq_true ⟨(by decide : 87 < 105), (by decide : 0 < 4)⟩
theorem hl_a_88 : hl_ar (hl_g N I J) 88 0 = true := id rfl
theorem hl_z_88 : (hl_k (hl_g N I J) 88).2 = 3200 := id rfl
theorem hl_l_88 : (88 < hl_n (hl_g N I J) ∧ (hl_k (hl_g N I J) 88).1 < 4) = True := eq_true ⟨(by decide : 88 < 105), (by decide : 0 < 4)⟩
theorem hl_a_89 : hl_ar (hl_g N I J) 89 0 = true := id rfl
theorem hl_z_89 : (hl_k (hl_g N I J) 89).2 = 300 := id rfl
theorem hl_l_89 : (89 < hl_n (hl_g N I J) ∧ (hl_k (hl_g N I J) 89).1 < 4) = True := eq_true ⟨(by decide : 89 < 105), (by decide : 0 < 4)⟩
theorem hl_a_90 : hl_ar (hl_g N I J) 90 0 = true := id rfl
theorem hl_z_90 : (hl_k (hl_g N I J) 90).2 = 160 := id rfl
theorem hl_l_90 : (90 < hl_n (hl_g N I J) ∧ (hl_k (hl_g N I J) 90).1 < 4) = True := eq_true ⟨(by decide : 90 < 105), (by decide : 0 < 4)⟩
theorem hl_a_91 : hl_ar (hl_g N I J) 91 0 = true := id rfl
theorem hl_z_91 : (hl_k (hl_g N I J) 91).2 = 9 := id rfl
theorem hl_l_91 : (91 < hl_n (hl_g N I J) ∧ (hl_k (hl_g N I J) 91).1 < 4) = True := eq_true ⟨(by decide : 91 < 105), (by decide : 0 < 4)⟩
theorem hl_a_92 : hl_ar (hl_g N I J) 92 1 = true := id rfl
theorem hl_z_92 : (hl_k (hl_g N I J) 92).2 = 330 := id rfl
theorem hl_l_92 : (92 < hl_n (hl_g N I J) ∧ (hl_k (hl_g N I J) 92).1 < 4) = True := eq_true ⟨(by decide : 92 < 105), (by decide : 1 < 4)⟩
theorem hl_a_93 : hl_ar (hl_g N I J) 93 2 = true := id rfl
theorem hl_z_93 : (hl_k (hl_g N I J) 93).2 = 330 := id rfl
theorem hl_l_93 : (93 < hl_n (hl_g N I J) ∧ (hl_k (hl_g N I J) 93).1 < 4) = True := eq_true ⟨(by decide : 93 < 105), (by decide : 2 < 4)⟩
theorem hl_a_94 : hl_ar (hl_g N I J) 94 0 = true := id rfl
theorem hl_z_94 : (hl_k (hl_g N I J) 94).2 = 24 := id rfl
theorem hl_l_94 : (94 < hl_n (hl_g N I J) ∧ (hl_k (hl_g N I J) 94).1 < 4) = True := eq_true ⟨(by decide : 94 < 105), (by decide : 0 < 4)⟩
theorem hl_a_95 : hl_ar (hl_g N I J) 95 0 = true := id rfl
theorem hl_z_95 : (hl_k (hl_g N I J) 95).2 = 24 := id rfl
theorem hl_l_95 : (95 < hl_n (hl_g N I J) ∧ (hl_k (hl_g N I J) 95).1 < 4) = True := eq_true ⟨(by decide : 95 < 105), (by decide : 0 < 4)⟩
theorem hl_a_96 : hl_ar (hl_g N I J) 96 1 = true := id rfl
theorem hl_z_96 : (hl_k (hl_g N I J) 96).2 = 5476 := id rfl
theorem hl_l_96 : (96 < hl_n (hl_g N I J) ∧ (hl_k (hl_g N I J) 96).1 < 4) = True := eq_true ⟨(by decide : 96 < 105), (by decide : 1 < 4)⟩
theorem hl_a_97 : hl_ar (hl_g N I J) 97 0 = true := id rfl
theorem hl_z_97 : (hl_k (hl_g N I J) 97).2 = 74 := id rfl
theorem hl_l_97 : (97 < hl_n (hl_g N I J) ∧ (hl_k (hl_g N I J) 97).1 < 4) = True := eq_true ⟨(by decide : 97 < 105), (by decide : 0 < 4)⟩
theorem hl_a_98 : hl_ar (hl_g N I J) 98 0 = true := id rfl
theorem hl_z_98 : (hl_k (hl_g N I J) 98).2 = 74 := id rfl
theorem hl_l_98 : (98 < hl_n (hl_g N I J) ∧ (hl_k (hl_g N I J) 98).1 < 4) = True := eq_true ⟨(by decide : 98 < 105), (by decide : 0 < 4)⟩
theorem hl_a_99 : hl_ar (hl_g N I J) 99 0 = true := id rfl
theorem hl_z_99 : (hl_k (hl_g N I J) 99).2 = 4 := id rfl
theorem hl_l_99 : (99 < hl_n (hl_g N I J) ∧ (hl_k (hl_g N I J) 99).1 < 4) = True := eq_true ⟨(by decide : 99 < 105), (by decide : 0 < 4)⟩
theorem hl_a_100 : hl_ar (hl_g N I J) 100 0 = true := id rfl
theorem hl_z_100 : (hl_k (hl_g N I J) 100).2 = 24 := id rfl
theorem hl_l_100 : (100 < hl_n (hl_g N I J) ∧ (hl_k (hl_g N I J) 100).1 < 4) = True := eq_true ⟨(by decide : 100 < 105), (by decide : 0 < 4)⟩
theorem hl_a_101 : hl_ar (hl_g N I J) 101 1 = true := id rfl
theorem hl_z_101 : (hl_k (hl_g N I J) 101).2 = 96 := id rfl
theorem hl_l_101 : (101 < hl_n (hl_g N I J) ∧ (hl_k (hl_g N I J) 101).1 < 4) = True := eq_true ⟨(by decide : 101 < 105), (by decide : 1 < 4)⟩
theorem hl_a_102 : hl_ar (hl_g N I J) 102 0 = true := id rfl
theorem hl_z_102 : (hl_k (hl_g N I J) 102).2 = 24 := id rfl
theorem hl_l_102 : (102 < hl_n (hl_g N I J) ∧ (hl_k (hl_g N I J) 102).1 < 4) = True := eq_true ⟨(by decide : 102 < 105), (by decide : 0 < 4)⟩
theorem hl_a_103 : hl_ar (hl_g N I J) 103 0 = true := id rfl
theorem hl_z_103 : (hl_k (hl_g N I J) 103).2 = 24 := id rfl
theorem hl_l_103 : (103 < hl_n (hl_g N I J) ∧ (hl_k (hl_g N I J) 103).1 < 4) = True := eq_true ⟨(by decide : 103 < 105), (by decide : 0 < 4)⟩
theorem hl_a_104 : hl_ar (hl_g N I J) 104 0 = true := id rfl
theorem hl_z_104 : (hl_k (hl_g N I J) 104).2 = 24 := id rfl
theorem hl_l_104 : (104 < hl_n (hl_g N I J) ∧ (hl_k (hl_g N I J) 104).1 < 4) = True := eq_true ⟨(by decide : 104 < 105), (by decide : 0 < 4)⟩
theorem hl_p_0_3 : va_rf (hl_P (hl_g N I J) 0 3) = .ref 1 := id rfl
theorem hl_p_0_4 : va_rf (hl_P (hl_g N I J) 0 4) = .ref 19 := id rfl
theorem hl_p_0_5 : va_rf (hl_P (hl_g N I J) 0 5) = .ref 37 := id rfl
theorem hl_p_0_7 : va_rf (hl_P (hl_g N I J) 0 7) = .ref 38 := id rfl
theorem hl_p_0_8 : va_rf (hl_P (hl_g N I J) 0 8) = .ref 43 := id rfl
theorem hl_p_0_9 : va_rf (hl_P (hl_g N I J) 0 9) = .ref 60 := id rfl
theorem hl_p_0_10 : va_rf (hl_P (hl_g N I J) 0 10) = .ref 63 := id rfl
theorem hl_p_0_11 : va_rf (hl_P (hl_g N I J) 0 11) = .ref 66 := id rfl
theorem hl_p_0_12 : va_rf (hl_P (hl_g N I J) 0 12) = .ref 68 := id rfl
theorem hl_p_0_13 : va_rf (hl_P (hl_g N I J) 0 13) = .ref 81 := id rfl
theorem hl_p_0_14 : va_rf (hl_P (hl_g N I J) 0 14) = .ref 83 := id rfl
theorem hl_p_0_15 : va_rf (hl_P (hl_g N I J) 0 15) = .ref 84 := id rfl
theorem hl_p_1_0 : va_rf (hl_P (hl_g N I J) 1 0) = .ref 2 := id rfl
theorem hl_p_1_1 : va_rf (hl_P (hl_g N I J) 1 1) = .ref 3 := id rfl
theorem hl_p_1_2 : va_rf (hl_P (hl_g N I J) 1 2) = .ref 4 := id rfl
theorem hl_p_1_3 : va_rf (hl_P (hl_g N I J) 1 3) = .ref 5 := id rfl
theorem hl_p_1_4 : va_rf (hl_P (hl_g N I J) 1 4) = .ref 6 := id rfl
theorem hl_p_1_5 : va_rf (hl_P (hl_g N I J) 1 5) = .ref 7 := id rfl
theorem hl_p_1_6 : va_rf (hl_P (hl_g N I J) 1 6) = .ref 8 := id rfl
theorem hl_p_1_7 : va_rf (hl_P (hl_g N I J) 1 7) = .ref 9 := id rfl
theorem hl_p_1_9 : va_rf (hl_P (hl_g N I J) 1 9) = .ref 10 := id rfl
theorem hl_p_1_14 : va_rf (hl_P (hl_g N I J) 1 14) = .ref 11 := id rfl
theorem hl_p_1_15 : va_rf (hl_P (hl_g N I J) 1 15) = .ref 15 := id rfl
theorem hl_p_11_0 : va_rf (hl_P (hl_g N I J) 11 0) = .ref 12 := id rfl
theorem hl_p_11_1 : va_rf (hl_P (hl_g N I J) 11 1) = .ref 13 := id rfl
theorem hl_p_11_2 : va_rf (hl_P (hl_g N I J) 11 2) = .ref 14 := id rfl
theorem hl_p_15_0 : va_rf (hl_P (hl_g N I J) 15 0) = .ref 16 := id rfl
theorem hl_p_15_1 : va_rf (hl_P (hl_g N I J) 15 1) = .ref 17 := id rfl
theorem hl_p_15_2 : va_rf (hl_P (hl_g N I J) 15 2) = .ref 18 := id rfl
theorem hl_p_19_0 : va_rf (hl_P (hl_g N I J) 19 0) = .ref 20 := id rfl
theorem hl_p_19_1 : va_rf (hl_P (hl_g N I J) 19 1) = .ref 21 := id rfl
theorem hl_p_19_2 : va_rf (hl_P (hl_g N I J) 19 2) = .ref 22 := id rfl
theorem hl_p_19_3 : va_rf (hl_P (hl_g N I J) 19 3) = .ref 23 := id rfl
theorem hl_p_19_4 : va_rf (hl_P (hl_g N I J) 19 4) = .ref 24 := id rfl
theorem hl_p_19_5 : va_rf (hl_P (hl_g N I J) 19 5) = .ref 25 := id rfl
theorem hl_p_19_6 : va_rf (hl_P (hl_g N I J) 19 6) = .ref 26 := id rfl
theorem hl_p_19_7 : va_rf (hl_P (hl_g N I J) 19 7) = .ref 27 := id rfl
theorem hl_p_19_9 : va_rf (hl_P (hl_g N I J) 19 9) = .ref 28 := id rfl
theorem hl_p_19_14 : va_rf (hl_P (hl_g N I J) 19 14) = .ref 29 := id rfl
theorem hl_p_19_15 : va_rf (hl_P (hl_g N I J) 19 15) = .ref 33 := id rfl
theorem hl_p_29_0 : va_rf (hl_P (hl_g N I J) 29 0) = .ref 30 := id rfl
theorem hl_p_29_1 : va_rf (hl_P (hl_g N I J) 29 1) = .ref 31 := id rfl
theorem hl_p_29_2 : va_rf (hl_P (hl_g N I J) 29 2) = .ref 32 := id rfl
theorem hl_p_33_0 : va_rf (hl_P (hl_g N I J) 33 0) = .ref 34 := id rfl
theorem hl_p_33_1 : va_rf (hl_P (hl_g N I J) 33 1) = .ref 35 := id rfl
theorem hl_p_33_2 : va_rf (hl_P (hl_g N I J) 33 2) = .ref 36 := id rfl
theorem hl_p_38_0 : va_rf (hl_P (hl_g N I J) 38 0) = .ref 37 := id rfl
theorem hl_p_38_1 : va_rf (hl_P (hl_g N I J) 38 1) = .ref 39 := id rfl
theorem hl_p_39_0 : va_rf (hl_P (hl_g N I J) 39 0) = .ref 40 := id rfl
theorem hl_p_39_1 : va_rf (hl_P (hl_g N I J) 39 1) = .ref 41 := id rfl
theorem hl_p_39_2 : va_rf (hl_P (hl_g N I J) 39 2) = .ref 42 := id rfl
theorem hl_p_43_0 : va_rf (hl_P (hl_g N I J) 43 0) = .ref 44 := id rfl
theorem hl_p_43_1 : va_rf (hl_P (hl_g N I J) 43 1) = .ref 48 := id rfl
theorem hl_p_43_2 : va_rf (hl_P (hl_g N I J) 43 2) = .ref 52 := id rfl
theorem hl_p_43_3 : va_rf (hl_P (hl_g N I J) 43 3) = .ref 56 := id rfl
theorem hl_p_44_0 : va_rf (hl_P (hl_g N I J) 44 0) = .ref 45 := id rfl
theorem hl_p_44_1 : va_rf (hl_P (hl_g N I J) 44 1) = .ref 46 := id rfl
theorem hl_p_44_2 : va_rf (hl_P (hl_g N I J) 44 2) = .ref 47 := id rfl
theorem hl_p_48_0 : va_rf (hl_P (hl_g N I J) 48 0) = .ref 49 := id rfl
theorem hl_p_48_1 : va_rf (hl_P (hl_g N I J) 48 1) = .ref 50 := id rfl
theorem hl_p_48_2 : va_rf (hl_P (hl_g N I J) 48 2) = .ref 51 := id rfl
theorem hl_p_52_0 : va_rf (hl_P (hl_g N I J) 52 0) = .ref 53 := id rfl
theorem hl_p_52_1 : va_rf (hl_P (hl_g N I J) 52 1) = .ref 54 := id rfl
theorem hl_p_52_2 : va_rf (hl_P (hl_g N I J) 52 2) = .ref 55 := id rfl
theorem hl_p_56_0 : va_rf (hl_P (hl_g N I J) 56 0) = .ref 57 := id rfl
theorem hl_p_56_1 : va_rf (hl_P (hl_g N I J) 56 1) = .ref 58 := id rfl
theorem hl_p_56_2 : va_rf (hl_P (hl_g N I J) 56 2) = .ref 59 := id rfl
theorem hl_p_60_0 : va_rf (hl_P (hl_g N I J) 60 0) = .ref 1 := id rfl
theorem hl_p_60_1 : va_rf (hl_P (hl_g N I J) 60 1) = .ref 43 := id rfl
theorem hl_p_60_2 : va_rf (hl_P (hl_g N I J) 60 2) = .ref 61 := id rfl
theorem hl_p_60_3 : va_rf (hl_P (hl_g N I J) 60 3) = .ref 62 := id rfl
theorem hl_p_63_0 : va_rf (hl_P (hl_g N I J) 63 0) = .ref 1 := id rfl
theorem hl_p_63_1 : va_rf (hl_P (hl_g N I J) 63 1) = .ref 60 := id rfl
theorem hl_p_63_2 : va_rf (hl_P (hl_g N I J) 63 2) = .ref 64 := id rfl
theorem hl_p_63_3 : va_rf (hl_P (hl_g N I J) 63 3) = .ref 65 := id rfl
theorem hl_p_66_1 : va_rf (hl_P (hl_g N I J) 66 1) = .ref 67 := id rfl
theorem hl_p_68_0 : va_rf (hl_P (hl_g N I J) 68 0) = .ref 1 := id rfl
theorem hl_p_68_1 : va_rf (hl_P (hl_g N I J) 68 1) = .ref 63 := id rfl
theorem hl_p_68_2 : va_rf (hl_P (hl_g N I J) 68 2) = .ref 69 := id rfl
theorem hl_p_68_3 : va_rf (hl_P (hl_g N I J) 68 3) = .ref 79 := id rfl
theorem hl_p_68_4 : va_rf (hl_P (hl_g N I J) 68 4) = .ref 80 := id rfl
theorem hl_p_68_5 : va_rf (hl_P (hl_g N I J) 68 5) = .ref 78 := id rfl
theorem hl_p_69_2 : va_rf (hl_P (hl_g N I J) 69 2) = .ref 70 := id rfl
theorem hl_p_69_3 : va_rf (hl_P (hl_g N I J) 69 3) = .ref 71 := id rfl
theorem hl_p_69_4 : va_rf (hl_P (hl_g N I J) 69 4) = .ref 72 := id rfl
theorem hl_p_69_5 : va_rf (hl_P (hl_g N I J) 69 5) = .ref 73 := id rfl
theorem hl_p_69_6 : va_rf (hl_P (hl_g N I J) 69 6) = .ref 74 := id rfl
theorem hl_p_69_7 : va_rf (hl_P (hl_g N I J) 69 7) = .ref 75 := id rfl
theorem hl_p_69_8 : va_rf (hl_P (hl_g N I J) 69 8) = .ref 76 := id rfl
theorem hl_p_69_9 : va_rf (hl_P (hl_g N I J) 69 9) = .ref 77 := id rfl
theorem hl_p_81_0 : va_rf (hl_P (hl_g N I J) 81 0) = .ref 1 := id rfl
theorem hl_p_81_1 : va_rf (hl_P (hl_g N I J) 81 1) = .ref 63 := id rfl
theorem hl_p_81_2 : va_rf (hl_P (hl_g N I J) 81 2) = .ref 60 := id rfl
theorem hl_p_81_3 : va_rf (hl_P (hl_g N I J) 81 3) = .ref 82 := id rfl
theorem hl_p_85_3 : va_rf (hl_P (hl_g N I J) 85 3) = .ref 86 := id rfl
theorem hl_p_85_4 : va_rf (hl_P (hl_g N I J) 85 4) = .ref 87 := id rfl
theorem hl_p_85_5 : va_rf (hl_P (hl_g N I J) 85 5) = .ref 88 := id rfl
theorem hl_p_85_6 : va_rf (hl_P (hl_g N I J) 85 6) = .ref 89 := id rfl
theorem hl_p_85_19 : va_rf (hl_P (hl_g N I J) 85 19) = .ref 90 := id rfl
theorem hl_p_85_23 : va_rf (hl_P (hl_g N I J) 85 23) = .ref 91 := id rfl
theorem hl_p_85_24 : va_rf (hl_P (hl_g N I J) 85 24) = .ref 92 := id rfl
theorem hl_p_85_25 : va_rf (hl_P (hl_g N I J) 85 25) = .ref 93 := id rfl
theorem hl_p_85_26 : va_rf (hl_P (hl_g N I J) 85 26) = .ref 94 := id rfl
theorem hl_p_85_27 : va_rf (hl_P (hl_g N I J) 85 27) = .ref 95 := id rfl
theorem hl_p_85_28 : va_rf (hl_P (hl_g N I J) 85 28) = .ref 96 := id rfl
theorem hl_p_85_29 : va_rf (hl_P (hl_g N I J) 85 29) = .ref 97 := id rfl
theorem hl_p_85_30 : va_rf (hl_P (hl_g N I J) 85 30) = .ref 98 := id rfl
theorem hl_p_85_31 : va_rf (hl_P (hl_g N I J) 85 31) = .ref 99 := id rfl
theorem hl_p_85_33 : va_rf (hl_P (hl_g N I J) 85 33) = .ref 100 := id rfl
theorem hl_p_85_34 : va_rf (hl_P (hl_g N I J) 85 34) = .ref 101 := id rfl
theorem hl_p_85_35 : va_rf (hl_P (hl_g N I J) 85 35) = .ref 102 := id rfl
theorem hl_p_85_36 : va_rf (hl_P (hl_g N I J) 85 36) = .ref 103 := id rfl
theorem hl_p_85_37 : va_rf (hl_P (hl_g N I J) 85 37) = .ref 104 := id rfl
theorem hl_gI : hl_I (hl_g N I J) = I := id rfl
theorem hl_gJ : hl_J (hl_g N I J) = J := id rfl
theorem hl_gsI {a i : Nat} {v : Int32} : hl_sI (hl_g N I J) a i v = hl_g N (hl_up I a i v) J := id rfl
theorem hl_gsJ {a i : Nat} {v : Int64} : hl_sJ (hl_g N I J) a i v = hl_g N I (hl_up J a i v) := id rfl
theorem hl_gcp {a b : Nat} {sp dp n : Int32} : hl_copy (hl_g N I J) a b sp dp n = hl_g N (hl_row I b (va_cpy (I a) (I b) sp.toNatClampNeg dp.toNatClampNeg n.toNatClampNeg)) J := rfl
end HLGEO
theorem hl_up_a {α : Type} (f : Nat → Nat → α) (a i : Nat) (v : α) (b j : Nat) : hl_up f a i v b j = if b = a then (if j = i then v else f b j) else f b j := rfl
theorem hl_row_a {α : Type} (f : Nat → Nat → α) (a : Nat) (g : Nat → α) (b j : Nat) : hl_row f a g b j = if b = a then g j else f b j := rfl
/-- a truth as the machine has it -/
def hl_tv (b : Bool) : Int32 := if b = true then 1 else 0
theorem hl_tv_t : hl_tv true = 1 := rfl
theorem hl_tv_f : hl_tv false = 0 := rfl
theorem hl_tv01 (b : Bool) : hl_tv b = 0 ∨ hl_tv b = 1 := by cases b <;> simp [hl_tv]
theorem hl_tv0 (b : Bool) : (hl_tv b = 0) = (b = false) := by cases b <;> simp [hl_tv]
theorem hl_inb_nI {n N : Nat} (h : n < N) (hN : N < 2 ^ 31) : hl_inb (nI n) N = true := by
  have := vp_in_nI h hN
  simp only [vp_in, not_or] at this
  simp only [hl_inb, Bool.and_eq_true, decide_eq_true_eq]
  exact ⟨this.1, Nat.not_le.mp this.2⟩
theorem hl_inb_of {x : Int32} {N : Nat} (h : hl_inb x N = true) (hN : N < 2 ^ 31) : ∃ n, n < N ∧ x = nI n := vp_in_of (hl_inE h) hN
theorem hl_inb_iff {x : Int32} {N : Nat} (hN : N < 2 ^ 31) : hl_inb x N = true ↔ 0 ≤ x.toInt ∧ x.toInt < N := by
  rw [← vp_in_iff]
  constructor
  · exact hl_inE
  · intro h
    obtain ⟨n, h1, rfl⟩ := vp_in_of h hN
    exact hl_inb_nI h1 hN
