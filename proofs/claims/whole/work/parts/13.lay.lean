/-! the cells that the constructors make (numbered by gen/interp.py), and those that were there -/
def zx_sb : List (List Int32) := [[115, 116, 111, 110, 101, 115, 32, 115, 116, 97, 116, 117, 101, 32, 119, 97, 108, 108, 32, 102, 111, 117, 110, 116, 97, 105, 110, 32, 108, 101, 116, 116, 101, 114, 32, 112, 101, 97, 99, 101, 32, 115, 110, 111, 119, 32, 114, 101, 115, 116, 32, 108, 111, 111, 107, 115, 32, 97, 116, 32, 102, 114, 111, 109, 32, 116, 111, 32, 102, 111, 114, 32, 111, 114, 32, 97, 110, 100, 32, 110, 111, 116, 32, 110, 105, 103, 104, 116, 32, 119, 101, 101, 107, 32, 109, 101, 32, 100, 105, 114, 32, 111, 102, 102, 32, 120, 32, 121, 32, 102, 111, 101, 115, 32], [59, 58, 43, 45, 42, 40, 41, 91, 93, 61, 60, 62], [32, 115, 116, 111, 110, 101, 115, 32, 115, 116, 97, 116, 117, 101, 32, 108, 111, 111, 107, 115, 32, 97, 116, 32, 119, 97, 108, 108, 32, 102, 111, 117, 110, 116, 97, 105, 110, 32, 108, 101, 116, 116, 101, 114, 32, 102, 114, 111, 109, 32, 116, 111, 32, 112, 101, 97, 99, 101, 32, 115, 110, 111, 119, 32, 102, 111, 114, 32, 114, 101, 115, 116, 32, 111, 114, 32, 97, 110, 100, 32, 110, 111, 116, 32, 110, 105, 103, 104, 116, 32, 119, 101, 101, 107, 32, 109, 101, 32, 100, 105, 114, 32, 111, 102, 102, 32, 120, 32, 121, 32, 102, 111, 101, 115, 32], [49, 50, 50, 50, 49, 48, 48, 48], [48, 48, 49, 50, 50, 50, 49, 48]]
def zx_sK (Lh a : Nat) : Nat × Nat := if a = 5000 then (0, Lh) else if a = 5001 then (0, 8) else if a = 5002 then (0, 8) else if 5010 ≤ a ∧ a < 5015 then (56, 0) else if 5020 ≤ a ∧ a < 5025 then (1, (zx_sb.getD (a - 5020) []).length) else (99, 0)
def zx_sR (a j : Nat) : Option Nat := if 5010 ≤ a ∧ a < 5015 ∧ j = 0 then some (a + 10) else none
def zx_alX : List Int32 := [0, 1, 1, 1, 0, -1, -1, -1]
def zx_alY : List Int32 := [-1, -1, 0, 1, 1, 1, 0, -1]
def zx_sI (xs : Nat → Int32) (a j : Nat) : Int32 := if a = 5000 then xs j else if a = 5001 then zx_alX.getD j 0 else if a = 5002 then zx_alY.getD j 0 else if 5020 ≤ a ∧ a < 5025 then (zx_sb.getD (a - 5020) []).getD j 0 else 0
def zx_tK : List (Nat × Nat) := [(51, 0), (46, 0), (41, 0), (0, 900), (0, 64), (0, 8), (0, 10), (0, 10), (0, 10), (0, 4), (0, 4), (47, 0), (0, 8), (0, 8), (0, 8), (47, 0), (0, 8), (0, 8), (0, 8), (47, 0), (0, 8), (0, 8), (0, 8), (43, 0), (17, 10), (47, 0), (0, 8), (0, 8), (0, 8), (47, 0), (0, 8), (0, 8), (0, 8), (47, 0), (0, 8), (0, 8), (0, 8), (47, 0), (0, 8), (0, 8), (0, 8), (47, 0), (0, 8), (0, 8), (0, 8), (47, 0), (0, 8), (0, 8), (0, 8), (47, 0), (0, 8), (0, 8), (0, 8), (47, 0), (0, 8), (0, 8), (0, 8), (47, 0), (0, 8), (0, 8), (0, 8), (47, 0), (0, 8), (0, 8), (0, 8), (45, 0), (47, 0), (0, 8), (0, 8), (0, 8), (50, 0), (47, 0), (0, 8), (0, 8), (0, 8), (3, 40), (3, 41), (3, 64), (3, 64), (19, 4), (16, 2), (17, 2), (2, 2), (44, 0), (48, 0), (1, 900), (42, 0), (0, 64), (46, 0), (41, 0), (0, 900), (0, 64), (0, 8), (0, 10), (0, 10), (0, 10), (0, 4), (0, 4), (47, 0), (0, 8), (0, 8), (0, 8), (49, 0), (3, 40), (49, 0), (3, 40), (49, 0), (3, 40), (49, 0), (3, 40), (46, 0), (41, 0), (0, 900), (0, 64), (0, 8), (0, 10), (0, 10), (0, 10), (0, 4), (0, 4), (47, 0), (0, 8), (0, 8), (0, 8), (46, 0), (41, 0), (0, 900), (0, 64), (0, 8), (0, 10), (0, 10), (0, 10), (0, 4), (0, 4), (47, 0), (0, 8), (0, 8), (0, 8), (52, 0), (0, 3858), (2, 2), (0, 900), (0, 1286), (0, 900), (0, 25), (0, 25), (3, 41), (3, 42), (3, 64), (3, 64), (0, 4), (0, 4), (3, 160)]
def zx_tR : List (List (Option Nat)) := [[some 1, some 11, some 15, some 19, some 23, some 65, some 70, some 79, some 80, some 81, some 82, some 83], [some 2, some 6, some 7, some 8, some 9, some 10], [some 3, some 4, some 5], [], [], [], [], [], [], [], [], [some 12, some 13, some 14], [], [], [], [some 16, some 17, some 18], [], [], [], [some 20, some 21, some 22], [], [], [], [some 24], [some 25, some 29, some 33, some 37, some 41, some 45, some 49, some 53, some 57, some 61], [some 26, some 27, some 28], [], [], [], [some 30, some 31, some 32], [], [], [], [some 34, some 35, some 36], [], [], [], [some 38, some 39, some 40], [], [], [], [some 42, some 43, some 44], [], [], [], [some 46, some 47, some 48], [], [], [], [some 50, some 51, some 52], [], [], [], [some 54, some 55, some 56], [], [], [], [some 58, some 59, some 60], [], [], [], [some 62, some 63, some 64], [], [], [], [some 66], [some 67, some 68, some 69], [], [], [], [some 71, some 75, some 76, some 77, some 78], [some 72, some 73, some 74], [], [], [], [], [], [], [], [some 102, some 104, some 106, some 108], [some 110, some 124], [some 120, some 134], [], [some 84, some 86, some 88, some 98], [some 85], [], [some 87], [], [some 89, some 93, some 94, some 95, some 96, some 97], [some 90, some 91, some 92], [], [], [], [], [], [], [], [], [some 99, some 100, some 101], [], [], [], [some 103], [], [some 105], [], [some 107], [], [some 109], [], [some 111, some 115, some 116, some 117, some 118, some 119], [some 112, some 113, some 114], [], [], [], [], [], [], [], [], [some 121, some 122, some 123], [], [], [], [some 125, some 129, some 130, some 131, some 132, some 133], [some 126, some 127, some 128], [], [], [], [], [], [], [], [], [some 135, some 136, some 137], [], [], [], [none, some 139, some 140, some 141, some 142, none, none, none, none, none, none, none, none, none, none, none, some 143, none, none, some 144, some 145, none, none, none, some 146, some 147, some 148, some 149, none, none, none, some 150, some 151, some 152], [], [], [], [], [], [], [], [], [], [], [], [], [], []]
def zx_LL (Lh : Nat) : zx_Lay := (fun a => if a < 153 then zx_tK.getD a (99, 0) else zx_sK Lh a, fun a j => if a < 153 then (zx_tR.getD a []).getD j none else zx_sR a j, 153, 13446)
section LAY
variable {Lh : Nat}
theorem zk_0 : (zx_LL Lh).1 0 = (51, 0) := rfl
theorem zw_0 : zx_wr (zx_LL Lh) 0 = True := eq_true (show 0 < 153 by decide)
theorem zk_1 : (zx_LL Lh).1 1 = (46, 0) := rfl
theorem zw_1 : zx_wr (zx_LL Lh) 1 = True := eq_true (show 1 < 153 by decide)
theorem zk_2 : (zx_LL Lh).1 2 = (41, 0) := rfl
theorem zw_2 : zx_wr (zx_LL Lh) 2 = True := eq_true (show 2 < 153 by decide)
theorem zk_3 : (zx_LL Lh).1 3 = (0, 900) := rfl
theorem zw_3 : zx_wr (zx_LL Lh) 3 = True := eq_true (show 3 < 153 by decide)
theorem zk_4 : (zx_LL Lh).1 4 = (0, 64) := rfl
theorem zw_4 : zx_wr (zx_LL Lh) 4 = True := eq_true (show 4 < 153 by decide)
theorem zk_5 : (zx_LL Lh).1 5 = (0, 8) := rfl
theorem zw_5 : zx_wr (zx_LL Lh) 5 = True := eq_true (show 5 < 153 by decide)
theorem zk_6 : (zx_LL Lh).1 6 = (0, 10) := rfl
theorem zw_6 : zx_wr (zx_LL Lh) 6 = True := eq_true (show 6 < 153 by decide)
theorem zk_7 : (zx_LL Lh).1 7 = (0, 10) := rfl
theorem zw_7 : zx_wr (zx_LL Lh) 7 = True := eq_true (show 7 < 153 by decide)
theorem zk_8 : (zx_LL Lh).1 8 = (0, 10) := rfl
theorem zw_8 : zx_wr (zx_LL Lh) 8 = True := eq_true (show 8 < 153 by decide)
theorem zk_9 : (zx_LL Lh).1 9 = (0, 4) := rfl
theorem zw_9 : zx_wr (zx_LL Lh) 9 = True := eq_true (show 9 < 153 by decide)
theorem zk_10 : (zx_LL Lh).1 10 = (0, 4) := rfl
theorem zw_10 : zx_wr (zx_LL Lh) 10 = True := eq_true (show 10 < 153 by decide)
theorem zk_11 : (zx_LL Lh).1 11 = (47, 0) := rfl
theorem zw_11 : zx_wr (zx_LL Lh) 11 = True := eq_true (show 11 < 153 by decide)
theorem zk_12 : (zx_LL Lh).1 12 = (0, 8) := rfl
theorem zw_12 : zx_wr (zx_LL Lh) 12 = True := eq_true (show 12 < 153 by decide)
theorem zk_13 : (zx_LL Lh).1 13 = (0, 8) := rfl
theorem zw_13 : zx_wr (zx_LL Lh) 13 = True := eq_true (show 13 < 153 by decide)
theorem zk_14 : (zx_LL Lh).1 14 = (0, 8) := rfl
theorem zw_14 : zx_wr (zx_LL Lh) 14 = True := eq_true (show 14 < 153 by decide)
theorem zk_15 : (zx_LL Lh).1 15 = (47, 0) := rfl
theorem zw_15 : zx_wr (zx_LL Lh) 15 = True := eq_true (show 15 < 153 by decide)
theorem zk_16 : (zx_LL Lh).1 16 = (0, 8) := rfl
theorem zw_16 : zx_wr (zx_LL Lh) 16 = True := eq_true (show 16 < 153 by decide)
theorem zk_17 : (zx_LL Lh).1 17 = (0, 8) := rfl
theorem zw_17 : zx_wr (zx_LL Lh) 17 = True := eq_true (show 17 < 153 by decide)
theorem zk_18 : (zx_LL Lh).1 18 = (0, 8) := rfl
theorem zw_18 : zx_wr (zx_LL Lh) 18 = True := eq_true (show 18 < 153 by decide)
theorem zk_19 : (zx_LL Lh).1 19 = (47, 0) := rfl
theorem zw_19 : zx_wr (zx_LL Lh) 19 = True := eq_true (show 19 < 153 by decide)
theorem zk_20 : (zx_LL Lh).1 20 = (0, 8) := rfl
theorem zw_20 : zx_wr (zx_LL Lh) 20 = True := eq_true (show 20 < 153 by decide)
theorem zk_21 : (zx_LL Lh).1 21 = (0, 8) := rfl
theorem zw_21 : zx_wr (zx_LL Lh) 21 = True := eq_true (show 21 < 153 by decide)
theorem zk_22 : (zx_LL Lh).1 22 = (0, 8) := rfl
theorem zw_22 : zx_wr (zx_LL Lh) 22 = True := eq_true (show 22 < 153 by decide)
theorem zk_23 : (zx_LL Lh).1 23 = (43, 0) := rfl
theorem zw_23 : zx_wr (zx_LL Lh) 23 = True := eq_true (show 23 < 153 by decide)
theorem zk_24 : (zx_LL Lh).1 24 = (17, 10) := rfl
theorem zw_24 : zx_wr (zx_LL Lh) 24 = True := eq_true (show 24 < 153 by decide)
theorem zk_25 : (zx_LL Lh).1 25 = (47, 0) := rfl
theorem zw_25 : zx_wr (zx_LL Lh) 25 = True := eq_true (show 25 < 153 by decide)
theorem zk_26 : (zx_LL Lh).1 26 = (0, 8) := rfl
theorem zw_26 : zx_wr (zx_LL Lh) 26 = True := eq_true (show 26 < 153 by decide)
theorem zk_27 : (zx_LL Lh).1 27 = (0, 8) := rfl
theorem zw_27 : zx_wr (zx_LL Lh) 27 = True := eq_true (show 27 < 153 by decide)
theorem zk_28 : (zx_LL Lh).1 28 = (0, 8) := rfl
theorem zw_28 : zx_wr (zx_LL Lh) 28 = True := eq_true (show 28 < 153 by decide)
theorem zk_29 : (zx_LL Lh).1 29 = (47, 0) := rfl
theorem zw_29 : zx_wr (zx_LL Lh) 29 = True := eq_true (show 29 < 153 by decide)
theorem zk_30 : (zx_LL Lh).1 30 = (0, 8) := rfl
theorem zw_30 : zx_wr (zx_LL Lh) 30 = True := eq_true (show 30 < 153 by decide)
theorem zk_31 : (zx_LL Lh).1 31 = (0, 8) := rfl
theorem zw_31 : zx_wr (zx_LL Lh) 31 = True := eq_true (show 31 < 153 by decide)
theorem zk_32 : (zx_LL Lh).1 32 = (0, 8) := rfl
theorem zw_32 : zx_wr (zx_LL Lh) 32 = True := eq_true (show 32 < 153 by decide)
theorem zk_33 : (zx_LL Lh).1 33 = (47, 0) := rfl
theorem zw_33 : zx_wr (zx_LL Lh) 33 = True := eq_true (show 33 < 153 by decide)
theorem zk_34 : (zx_LL Lh).1 34 = (0, 8) := rfl
theorem zw_34 : zx_wr (zx_LL Lh) 34 = True := eq_true (show 34 < 153 by decide)
theorem zk_35 : (zx_LL Lh).1 35 = (0, 8) := rfl
theorem zw_35 : zx_wr (zx_LL Lh) 35 = True := eq_true (show 35 < 153 by decide)
theorem zk_36 : (zx_LL Lh).1 36 = (0, 8) := rfl
theorem zw_36 : zx_wr (zx_LL Lh) 36 = True := eq_true (show 36 < 153 by decide)
theorem zk_37 : (zx_LL Lh).1 37 = (47, 0) := rfl
theorem zw_37 : zx_wr (zx_LL Lh) 37 = True := eq_true (show 37 < 153 by decide)
theorem zk_38 : (zx_LL Lh).1 38 = (0, 8) := rfl
theorem zw_38 : zx_wr (zx_LL Lh) 38 = True := eq_true (show 38 < 153 by decide)
theorem zk_39 : (zx_LL Lh).1 39 = (0, 8) := rfl
theorem zw_39 : zx_wr (zx_LL Lh) 39 = True := eq_true (show 39 < 153 by decide)
theorem zk_40 : (zx_LL Lh).1 40 = (0, 8) := rfl
theorem zw_40 : zx_wr (zx_LL Lh) 40 = True := eq_true (show 40 < 153 by decide)
theorem zk_41 : (zx_LL Lh).1 41 = (47, 0) := rfl
theorem zw_41 : zx_wr (zx_LL Lh) 41 = True := eq_true (show 41 < 153 by decide)
theorem zk_42 : (zx_LL Lh).1 42 = (0, 8) := rfl
theorem zw_42 : zx_wr (zx_LL Lh) 42 = True := eq_true (show 42 < 153 by decide)
theorem zk_43 : (zx_LL Lh).1 43 = (0, 8) := rfl
theorem zw_43 : zx_wr (zx_LL Lh) 43 = True := eq_true (show 43 < 153 by decide)
theorem zk_44 : (zx_LL Lh).1 44 = (0, 8) := rfl
theorem zw_44 : zx_wr (zx_LL Lh) 44 = True := eq_true (show 44 < 153 by decide)
theorem zk_45 : (zx_LL Lh).1 45 = (47, 0) := rfl
theorem zw_45 : zx_wr (zx_LL Lh) 45 = True := eq_true (show 45 < 153 by decide)
theorem zk_46 : (zx_LL Lh).1 46 = (0, 8) := rfl
theorem zw_46 : zx_wr (zx_LL Lh) 46 = True := eq_true (show 46 < 153 by decide)
theorem zk_47 : (zx_LL Lh).1 47 = (0, 8) := rfl
theorem zw_47 : zx_wr (zx_LL Lh) 47 = True := eq_true (show 47 < 153 by decide)
theorem zk_48 : (zx_LL Lh).1 48 = (0, 8) := rfl
theorem zw_48 : zx_wr (zx_LL Lh) 48 = True := eq_true (show 48 < 153 by decide)
theorem zk_49 : (zx_LL Lh).1 49 = (47, 0) := rfl
theorem zw_49 : zx_wr (zx_LL Lh) 49 = True := eq_true (show 49 < 153 by decide)
theorem zk_50 : (zx_LL Lh).1 50 = (0, 8) := rfl
theorem zw_50 : zx_wr (zx_LL Lh) 50 = True := eq_true (show 50 < 153 by decide)
theorem zk_51 : (zx_LL Lh).1 51 = (0, 8) := rfl
theorem zw_51 : zx_wr (zx_LL Lh) 51 = True := eq_true (show 51 < 153 by decide)
theorem zk_52 : (zx_LL Lh).1 52 = (0, 8) := rfl
theorem zw_52 : zx_wr (zx_LL Lh) 52 = True := eq_true (show 52 < 153 by decide)
theorem zk_53 : (zx_LL Lh).1 53 = (47, 0) := rfl
theorem zw_53 : zx_wr (zx_LL Lh) 53 = True := eq_true (show 53 < 153 by decide)
theorem zk_54 : (zx_LL Lh).1 54 = (0, 8) := rfl
theorem zw_54 : zx_wr (zx_LL Lh) 54 = True := eq_true (show 54 < 153 by decide)
theorem zk_55 : (zx_LL Lh).1 55 = (0, 8) := rfl
theorem zw_55 : zx_wr (zx_LL Lh) 55 = True := eq_true (show 55 < 153 by decide)
theorem zk_56 : (zx_LL Lh).1 56 = (0, 8) := rfl
theorem zw_56 : zx_wr (zx_LL Lh) 56 = True := eq_true (show 56 < 153 by decide)
theorem zk_57 : (zx_LL Lh).1 57 = (47, 0) := rfl
theorem zw_57 : zx_wr (zx_LL Lh) 57 = True := eq_true (show 57 < 153 by decide)
theorem zk_58 : (zx_LL Lh).1 58 = (0, 8) := rfl
theorem zw_58 : zx_wr (zx_LL Lh) 58 = True := eq_true (show 58 < 153 by decide)
theorem zk_59 : (zx_LL Lh).1 59 = (0, 8) := rfl
theorem zw_59 : zx_wr (zx_LL Lh) 59 = True := eq_true (show 59 < 153 by decide)
theorem zk_60 : (zx_LL Lh).1 60 = (0, 8) := rfl
theorem zw_60 : zx_wr (zx_LL Lh) 60 = True := eq_true (show 60 < 153 by decide)
theorem zk_61 : (zx_LL Lh).1 61 = (47, 0) := rfl
theorem zw_61 : zx_wr (zx_LL Lh) 61 = True := eq_true (show 61 < 153 by decide)
theorem zk_62 : (zx_LL Lh).1 62 = (0, 8) := rfl
theorem zw_62 : zx_wr (zx_LL Lh) 62 = True := eq_true (show 62 < 153 by decide)
theorem zk_63 : (zx_LL Lh).1 63 = (0, 8) := rfl
theorem zw_63 : zx_wr (zx_LL Lh) 63 = True := eq_true (show 63 < 153 by decide)
theorem zk_64 : (zx_LL Lh).1 64 = (0, 8) := rfl
theorem zw_64 : zx_wr (zx_LL Lh) 64 = True := eq_true (show 64 < 153 by decide)
theorem zk_65 : (zx_LL Lh).1 65 = (45, 0) := rfl
theorem zw_65 : zx_wr (zx_LL Lh) 65 = True := eq_true (show 65 < 153 by decide)
theorem zk_66 : (zx_LL Lh).1 66 = (47, 0) := rfl
theorem zw_66 : zx_wr (zx_LL Lh) 66 = True := eq_true (show 66 < 153 by decide)
theorem zk_67 : (zx_LL Lh).1 67 = (0, 8) := rfl
theorem zw_67 : zx_wr (zx_LL Lh) 67 = True := eq_true (show 67 < 153 by decide)
theorem zk_68 : (zx_LL Lh).1 68 = (0, 8) := rfl
theorem zw_68 : zx_wr (zx_LL Lh) 68 = True := eq_true (show 68 < 153 by decide)
theorem zk_69 : (zx_LL Lh).1 69 = (0, 8) := rfl
theorem zw_69 : zx_wr (zx_LL Lh) 69 = True := eq_true (show 69 < 153 by decide)
theorem zk_70 : (zx_LL Lh).1 70 = (50, 0) := rfl
theorem zw_70 : zx_wr (zx_LL Lh) 70 = True := eq_true (show 70 < 153 by decide)
theorem zk_71 : (zx_LL Lh).1 71 = (47, 0) := rfl
theorem zw_71 : zx_wr (zx_LL Lh) 71 = True := eq_true (show 71 < 153 by decide)
theorem zk_72 : (zx_LL Lh).1 72 = (0, 8) := rfl
theorem zw_72 : zx_wr (zx_LL Lh) 72 = True := eq_true (show 72 < 153 by decide)
theorem zk_73 : (zx_LL Lh).1 73 = (0, 8) := rfl
theorem zw_73 : zx_wr (zx_LL Lh) 73 = True := eq_true (show 73 < 153 by decide)
theorem zk_74 : (zx_LL Lh).1 74 = (0, 8) := rfl
theorem zw_74 : zx_wr (zx_LL Lh) 74 = True := eq_true (show 74 < 153 by decide)
theorem zk_75 : (zx_LL Lh).1 75 = (3, 40) := rfl
theorem zw_75 : zx_wr (zx_LL Lh) 75 = True := eq_true (show 75 < 153 by decide)
theorem zk_76 : (zx_LL Lh).1 76 = (3, 41) := rfl
theorem zw_76 : zx_wr (zx_LL Lh) 76 = True := eq_true (show 76 < 153 by decide)
theorem zk_77 : (zx_LL Lh).1 77 = (3, 64) := rfl
theorem zw_77 : zx_wr (zx_LL Lh) 77 = True := eq_true (show 77 < 153 by decide)
theorem zk_78 : (zx_LL Lh).1 78 = (3, 64) := rfl
theorem zw_78 : zx_wr (zx_LL Lh) 78 = True := eq_true (show 78 < 153 by decide)
theorem zk_79 : (zx_LL Lh).1 79 = (19, 4) := rfl
theorem zw_79 : zx_wr (zx_LL Lh) 79 = True := eq_true (show 79 < 153 by decide)
theorem zk_80 : (zx_LL Lh).1 80 = (16, 2) := rfl
theorem zw_80 : zx_wr (zx_LL Lh) 80 = True := eq_true (show 80 < 153 by decide)
theorem zk_81 : (zx_LL Lh).1 81 = (17, 2) := rfl
theorem zw_81 : zx_wr (zx_LL Lh) 81 = True := eq_true (show 81 < 153 by decide)
theorem zk_82 : (zx_LL Lh).1 82 = (2, 2) := rfl
theorem zw_82 : zx_wr (zx_LL Lh) 82 = True := eq_true (show 82 < 153 by decide)
theorem zk_83 : (zx_LL Lh).1 83 = (44, 0) := rfl
theorem zw_83 : zx_wr (zx_LL Lh) 83 = True := eq_true (show 83 < 153 by decide)
theorem zk_84 : (zx_LL Lh).1 84 = (48, 0) := rfl
theorem zw_84 : zx_wr (zx_LL Lh) 84 = True := eq_true (show 84 < 153 by decide)
theorem zk_85 : (zx_LL Lh).1 85 = (1, 900) := rfl
theorem zw_85 : zx_wr (zx_LL Lh) 85 = True := eq_true (show 85 < 153 by decide)
theorem zk_86 : (zx_LL Lh).1 86 = (42, 0) := rfl
theorem zw_86 : zx_wr (zx_LL Lh) 86 = True := eq_true (show 86 < 153 by decide)
theorem zk_87 : (zx_LL Lh).1 87 = (0, 64) := rfl
theorem zw_87 : zx_wr (zx_LL Lh) 87 = True := eq_true (show 87 < 153 by decide)
theorem zk_88 : (zx_LL Lh).1 88 = (46, 0) := rfl
theorem zw_88 : zx_wr (zx_LL Lh) 88 = True := eq_true (show 88 < 153 by decide)
theorem zk_89 : (zx_LL Lh).1 89 = (41, 0) := rfl
theorem zw_89 : zx_wr (zx_LL Lh) 89 = True := eq_true (show 89 < 153 by decide)
theorem zk_90 : (zx_LL Lh).1 90 = (0, 900) := rfl
theorem zw_90 : zx_wr (zx_LL Lh) 90 = True := eq_true (show 90 < 153 by decide)
theorem zk_91 : (zx_LL Lh).1 91 = (0, 64) := rfl
theorem zw_91 : zx_wr (zx_LL Lh) 91 = True := eq_true (show 91 < 153 by decide)
theorem zk_92 : (zx_LL Lh).1 92 = (0, 8) := rfl
theorem zw_92 : zx_wr (zx_LL Lh) 92 = True := eq_true (show 92 < 153 by decide)
theorem zk_93 : (zx_LL Lh).1 93 = (0, 10) := rfl
theorem zw_93 : zx_wr (zx_LL Lh) 93 = True := eq_true (show 93 < 153 by decide)
theorem zk_94 : (zx_LL Lh).1 94 = (0, 10) := rfl
theorem zw_94 : zx_wr (zx_LL Lh) 94 = True := eq_true (show 94 < 153 by decide)
theorem zk_95 : (zx_LL Lh).1 95 = (0, 10) := rfl
theorem zw_95 : zx_wr (zx_LL Lh) 95 = True := eq_true (show 95 < 153 by decide)
theorem zk_96 : (zx_LL Lh).1 96 = (0, 4) := rfl
theorem zw_96 : zx_wr (zx_LL Lh) 96 = True := eq_true (show 96 < 153 by decide)
theorem zk_97 : (zx_LL Lh).1 97 = (0, 4) := rfl
theorem zw_97 : zx_wr (zx_LL Lh) 97 = True := eq_true (show 97 < 153 by decide)
theorem zk_98 : (zx_LL Lh).1 98 = (47, 0) := rfl
theorem zw_98 : zx_wr (zx_LL Lh) 98 = True := eq_true (show 98 < 153 by decide)
theorem zk_99 : (zx_LL Lh).1 99 = (0, 8) := rfl
theorem zw_99 : zx_wr (zx_LL Lh) 99 = True := eq_true (show 99 < 153 by decide)
theorem zk_100 : (zx_LL Lh).1 100 = (0, 8) := rfl
theorem zw_100 : zx_wr (zx_LL Lh) 100 = True := eq_true (show 100 < 153 by decide)
theorem zk_101 : (zx_LL Lh).1 101 = (0, 8) := rfl
theorem zw_101 : zx_wr (zx_LL Lh) 101 = True := eq_true (show 101 < 153 by decide)
theorem zk_102 : (zx_LL Lh).1 102 = (49, 0) := rfl
theorem zw_102 : zx_wr (zx_LL Lh) 102 = True := eq_true (show 102 < 153 by decide)
theorem zk_103 : (zx_LL Lh).1 103 = (3, 40) := rfl
theorem zw_103 : zx_wr (zx_LL Lh) 103 = True := eq_true (show 103 < 153 by decide)
theorem zk_104 : (zx_LL Lh).1 104 = (49, 0) := rfl
theorem zw_104 : zx_wr (zx_LL Lh) 104 = True := eq_true (show 104 < 153 by decide)
theorem zk_105 : (zx_LL Lh).1 105 = (3, 40) := rfl
theorem zw_105 : zx_wr (zx_LL Lh) 105 = True := eq_true (show 105 < 153 by decide)
theorem zk_106 : (zx_LL Lh).1 106 = (49, 0) := rfl
theorem zw_106 : zx_wr (zx_LL Lh) 106 = True := eq_true (show 106 < 153 by decide)
theorem zk_107 : (zx_LL Lh).1 107 = (3, 40) := rfl
theorem zw_107 : zx_wr (zx_LL Lh) 107 = True := eq_true (show 107 < 153 by decide)
theorem zk_108 : (zx_LL Lh).1 108 = (49, 0) := rfl
theorem zw_108 : zx_wr (zx_LL Lh) 108 = True := eq_true (show 108 < 153 by decide)
theorem zk_109 : (zx_LL Lh).1 109 = (3, 40) := rfl
theorem zw_109 : zx_wr (zx_LL Lh) 109 = True := eq_true (show 109 < 153 by decide)
theorem zk_110 : (zx_LL Lh).1 110 = (46, 0) := rfl
theorem zw_110 : zx_wr (zx_LL Lh) 110 = True := eq_true (show 110 < 153 by decide)
theorem zk_111 : (zx_LL Lh).1 111 = (41, 0) := rfl
theorem zw_111 : zx_wr (zx_LL Lh) 111 = True := eq_true (show 111 < 153 by decide)
theorem zk_112 : (zx_LL Lh).1 112 = (0, 900) := rfl
theorem zw_112 : zx_wr (zx_LL Lh) 112 = True := eq_true (show 112 < 153 by decide)
theorem zk_113 : (zx_LL Lh).1 113 = (0, 64) := rfl
theorem zw_113 : zx_wr (zx_LL Lh) 113 = True := eq_true (show 113 < 153 by decide)
theorem zk_114 : (zx_LL Lh).1 114 = (0, 8) := rfl
theorem zw_114 : zx_wr (zx_LL Lh) 114 = True := eq_true (show 114 < 153 by decide)
theorem zk_115 : (zx_LL Lh).1 115 = (0, 10) := rfl
theorem zw_115 : zx_wr (zx_LL Lh) 115 = True := eq_true (show 115 < 153 by decide)
theorem zk_116 : (zx_LL Lh).1 116 = (0, 10) := rfl
theorem zw_116 : zx_wr (zx_LL Lh) 116 = True := eq_true (show 116 < 153 by decide)
theorem zk_117 : (zx_LL Lh).1 117 = (0, 10) := rfl
theorem zw_117 : zx_wr (zx_LL Lh) 117 = True := eq_true (show 117 < 153 by decide)
theorem zk_118 : (zx_LL Lh).1 118 = (0, 4) := rfl
theorem zw_118 : zx_wr (zx_LL Lh) 118 = True := eq_true (show 118 < 153 by decide)
theorem zk_119 : (zx_LL Lh).1 119 = (0, 4) := rfl
theorem zw_119 : zx_wr (zx_LL Lh) 119 = True := eq_true (show 119 < 153 by decide)
theorem zk_120 : (zx_LL Lh).1 120 = (47, 0) := rfl
theorem zw_120 : zx_wr (zx_LL Lh) 120 = True := eq_true (show 120 < 153 by decide)
theorem zk_121 : (zx_LL Lh).1 121 = (0, 8) := rfl
theorem zw_121 : zx_wr (zx_LL Lh) 121 = True := eq_true (show 121 < 153 by decide)
theorem zk_122 : (zx_LL Lh).1 122 = (0, 8) := rfl
theorem zw_122 : zx_wr (zx_LL Lh) 122 = True := eq_true (show 122 < 153 by decide)
theorem zk_123 : (zx_LL Lh).1 123 = (0, 8) := rfl
theorem zw_123 : zx_wr (zx_LL Lh) 123 = True := eq_true (show 123 < 153 by decide)
theorem zk_124 : (zx_LL Lh).1 124 = (46, 0) := rfl
theorem zw_124 : zx_wr (zx_LL Lh) 124 = True := eq_true (show 124 < 153 by decide)
theorem zk_125 : (zx_LL Lh).1 125 = (41, 0) := rfl
theorem zw_125 : zx_wr (zx_LL Lh) 125 = True := eq_true (show 125 < 153 by decide)
theorem zk_126 : (zx_LL Lh).1 126 = (0, 900) := rfl
theorem zw_126 : zx_wr (zx_LL Lh) 126 = True := eq_true (show 126 < 153 by decide)
theorem zk_127 : (zx_LL Lh).1 127 = (0, 64) := rfl
theorem zw_127 : zx_wr (zx_LL Lh) 127 = True := eq_true (show 127 < 153 by decide)
theorem zk_128 : (zx_LL Lh).1 128 = (0, 8) := rfl
theorem zw_128 : zx_wr (zx_LL Lh) 128 = True := eq_true (show 128 < 153 by decide)
theorem zk_129 : (zx_LL Lh).1 129 = (0, 10) := rfl
theorem zw_129 : zx_wr (zx_LL Lh) 129 = True := eq_true (show 129 < 153 by decide)
theorem zk_130 : (zx_LL Lh).1 130 = (0, 10) := rfl
theorem zw_130 : zx_wr (zx_LL Lh) 130 = True := eq_true (show 130 < 153 by decide)
theorem zk_131 : (zx_LL Lh).1 131 = (0, 10) := rfl
theorem zw_131 : zx_wr (zx_LL Lh) 131 = True := eq_true (show 131 < 153 by decide)
theorem zk_132 : (zx_LL Lh).1 132 = (0, 4) := rfl
theorem zw_132 : zx_wr (zx_LL Lh) 132 = True := eq_true (show 132 < 153 by decide)
theorem zk_133 : (zx_LL Lh).1 133 = (0, 4) := rfl
theorem zw_133 : zx_wr (zx_LL Lh) 133 = True := eq_true (show 133 < 153 by decide)
theorem zk_134 : (zx_LL Lh).1 134 = (47, 0) := rfl
theorem zw_134 : zx_wr (zx_LL Lh) 134 = True := eq_true (show 134 < 153 by decide)
theorem zk_135 : (zx_LL Lh).1 135 = (0, 8) := rfl
theorem zw_135 : zx_wr (zx_LL Lh) 135 = True := eq_true (show 135 < 153 by decide)
theorem zk_136 : (zx_LL Lh).1 136 = (0, 8) := rfl
theorem zw_136 : zx_wr (zx_LL Lh) 136 = True := eq_true (show 136 < 153 by decide)
theorem zk_137 : (zx_LL Lh).1 137 = (0, 8) := rfl
theorem zw_137 : zx_wr (zx_LL Lh) 137 = True := eq_true (show 137 < 153 by decide)
theorem zk_138 : (zx_LL Lh).1 138 = (52, 0) := rfl
theorem zw_138 : zx_wr (zx_LL Lh) 138 = True := eq_true (show 138 < 153 by decide)
theorem zk_139 : (zx_LL Lh).1 139 = (0, 3858) := rfl
theorem zw_139 : zx_wr (zx_LL Lh) 139 = True := eq_true (show 139 < 153 by decide)
theorem zk_140 : (zx_LL Lh).1 140 = (2, 2) := rfl
theorem zw_140 : zx_wr (zx_LL Lh) 140 = True := eq_true (show 140 < 153 by decide)
theorem zk_141 : (zx_LL Lh).1 141 = (0, 900) := rfl
theorem zw_141 : zx_wr (zx_LL Lh) 141 = True := eq_true (show 141 < 153 by decide)
theorem zk_142 : (zx_LL Lh).1 142 = (0, 1286) := rfl
theorem zw_142 : zx_wr (zx_LL Lh) 142 = True := eq_true (show 142 < 153 by decide)
theorem zk_143 : (zx_LL Lh).1 143 = (0, 900) := rfl
theorem zw_143 : zx_wr (zx_LL Lh) 143 = True := eq_true (show 143 < 153 by decide)
theorem zk_144 : (zx_LL Lh).1 144 = (0, 25) := rfl
theorem zw_144 : zx_wr (zx_LL Lh) 144 = True := eq_true (show 144 < 153 by decide)
theorem zk_145 : (zx_LL Lh).1 145 = (0, 25) := rfl
theorem zw_145 : zx_wr (zx_LL Lh) 145 = True := eq_true (show 145 < 153 by decide)
theorem zk_146 : (zx_LL Lh).1 146 = (3, 41) := rfl
theorem zw_146 : zx_wr (zx_LL Lh) 146 = True := eq_true (show 146 < 153 by decide)
theorem zk_147 : (zx_LL Lh).1 147 = (3, 42) := rfl
theorem zw_147 : zx_wr (zx_LL Lh) 147 = True := eq_true (show 147 < 153 by decide)
theorem zk_148 : (zx_LL Lh).1 148 = (3, 64) := rfl
theorem zw_148 : zx_wr (zx_LL Lh) 148 = True := eq_true (show 148 < 153 by decide)
theorem zk_149 : (zx_LL Lh).1 149 = (3, 64) := rfl
theorem zw_149 : zx_wr (zx_LL Lh) 149 = True := eq_true (show 149 < 153 by decide)
theorem zk_150 : (zx_LL Lh).1 150 = (0, 4) := rfl
theorem zw_150 : zx_wr (zx_LL Lh) 150 = True := eq_true (show 150 < 153 by decide)
theorem zk_151 : (zx_LL Lh).1 151 = (0, 4) := rfl
theorem zw_151 : zx_wr (zx_LL Lh) 151 = True := eq_true (show 151 < 153 by decide)
theorem zk_152 : (zx_LL Lh).1 152 = (3, 160) := rfl
theorem zw_152 : zx_wr (zx_LL Lh) 152 = True := eq_true (show 152 < 153 by decide)
theorem zq_0_0 : (zx_LL Lh).2.1 0 0 = some 1 := rfl
theorem zq_0_1 : (zx_LL Lh).2.1 0 1 = some 11 := rfl
theorem zq_0_2 : (zx_LL Lh).2.1 0 2 = some 15 := rfl
theorem zq_0_3 : (zx_LL Lh).2.1 0 3 = some 19 := rfl
theorem zq_0_4 : (zx_LL Lh).2.1 0 4 = some 23 := rfl
theorem zq_0_5 : (zx_LL Lh).2.1 0 5 = some 65 := rfl
theorem zq_0_6 : (zx_LL Lh).2.1 0 6 = some 70 := rfl
theorem zq_0_7 : (zx_LL Lh).2.1 0 7 = some 79 := rfl
theorem zq_0_8 : (zx_LL Lh).2.1 0 8 = some 80 := rfl
theorem zq_0_9 : (zx_LL Lh).2.1 0 9 = some 81 := rfl
theorem zq_0_10 : (zx_LL Lh).2.1 0 10 = some 82 := rfl
theorem zq_0_11 : (zx_LL Lh).2.1 0 11 = some 83 := rfl
theorem zq_1_0 : (zx_LL Lh).2.1 1 0 = some 2 := rfl
theorem zq_1_1 : (zx_LL Lh).2.1 1 1 = some 6 := rfl
theorem zq_1_2 : (zx_LL Lh).2.1 1 2 = some 7 := rfl
theorem zq_1_3 : (zx_LL Lh).2.1 1 3 = some 8 := rfl
theorem zq_1_4 : (zx_LL Lh).2.1 1 4 = some 9 := rfl
theorem zq_1_5 : (zx_LL Lh).2.1 1 5 = some 10 := rfl
theorem zq_2_0 : (zx_LL Lh).2.1 2 0 = some 3 := rfl
theorem zq_2_1 : (zx_LL Lh).2.1 2 1 = some 4 := rfl
theorem zq_2_2 : (zx_LL Lh).2.1 2 2 = some 5 := rfl
theorem zq_11_0 : (zx_LL Lh).2.1 11 0 = some 12 := rfl
theorem zq_11_1 : (zx_LL Lh).2.1 11 1 = some 13 := rfl
theorem zq_11_2 : (zx_LL Lh).2.1 11 2 = some 14 := rfl
theorem zq_15_0 : (zx_LL Lh).2.1 15 0 = some 16 := rfl
theorem zq_15_1 : (zx_LL Lh).2.1 15 1 = some 17 := rfl
theorem zq_15_2 : (zx_LL Lh).2.1 15 2 = some 18 := rfl
theorem zq_19_0 : (zx_LL Lh).2.1 19 0 = some 20 := rfl
theorem zq_19_1 : (zx_LL Lh).2.1 19 1 = some 21 := rfl
theorem zq_19_2 : (zx_LL Lh).2.1 19 2 = some 22 := rfl
theorem zq_23_0 : (zx_LL Lh).2.1 23 0 = some 24 := rfl
theorem zq_24_0 : (zx_LL Lh).2.1 24 0 = some 25 := rfl
theorem zq_24_1 : (zx_LL Lh).2.1 24 1 = some 29 := rfl
theorem zq_24_2 : (zx_LL Lh).2.1 24 2 = some 33 := rfl
theorem zq_24_3 : (zx_LL Lh).2.1 24 3 = some 37 := rfl
theorem zq_24_4 : (zx_LL Lh).2.1 24 4 = some 41 := rfl
theorem zq_24_5 : (zx_LL Lh).2.1 24 5 = some 45 := rfl
theorem zq_24_6 : (zx_LL Lh).2.1 24 6 = some 49 := rfl
theorem zq_24_7 : (zx_LL Lh).2.1 24 7 = some 53 := rfl
theorem zq_24_8 : (zx_LL Lh).2.1 24 8 = some 57 := rfl
theorem zq_24_9 : (zx_LL Lh).2.1 24 9 = some 61 := rfl
theorem zq_25_0 : (zx_LL Lh).2.1 25 0 = some 26 := rfl
theorem zq_25_1 : (zx_LL Lh).2.1 25 1 = some 27 := rfl
theorem zq_25_2 : (zx_LL Lh).2.1 25 2 = some 28 := rfl
theorem zq_29_0 : (zx_LL Lh).2.1 29 0 = some 30 := rfl
theorem zq_29_1 : (zx_LL Lh).2.1 29 1 = some 31 := rfl
theorem zq_29_2 : (zx_LL Lh).2.1 29 2 = some 32 := rfl
theorem zq_33_0 : (zx_LL Lh).2.1 33 0 = some 34 := rfl
theorem zq_33_1 : (zx_LL Lh).2.1 33 1 = some 35 := rfl
theorem zq_33_2 : (zx_LL Lh).2.1 33 2 = some 36 := rfl
theorem zq_37_0 : (zx_LL Lh).2.1 37 0 = some 38 := rfl
theorem zq_37_1 : (zx_LL Lh).2.1 37 1 = some 39 := rfl
theorem zq_37_2 : (zx_LL Lh).2.1 37 2 = some 40 := rfl
theorem zq_41_0 : (zx_LL Lh).2.1 41 0 = some 42 := rfl
theorem zq_41_1 : (zx_LL Lh).2.1 41 1 = some 43 := rfl
theorem zq_41_2 : (zx_LL Lh).2.1 41 2 = some 44 := rfl
theorem zq_45_0 : (zx_LL Lh).2.1 45 0 = some 46 := rfl
theorem zq_45_1 : (zx_LL Lh).2.1 45 1 = some 47 := rfl
theorem zq_45_2 : (zx_LL Lh).2.1 45 2 = some 48 := rfl
theorem zq_49_0 : (zx_LL Lh).2.1 49 0 = some 50 := rfl
theorem zq_49_1 : (zx_LL Lh).2.1 49 1 = some 51 := rfl
theorem zq_49_2 : (zx_LL Lh).2.1 49 2 = some 52 := rfl
theorem zq_53_0 : (zx_LL Lh).2.1 53 0 = some 54 := rfl
theorem zq_53_1 : (zx_LL Lh).2.1 53 1 = some 55 := rfl
theorem zq_53_2 : (zx_LL Lh).2.1 53 2 = some 56 := rfl
theorem zq_57_0 : (zx_LL Lh).2.1 57 0 = some 58 := rfl
theorem zq_57_1 : (zx_LL Lh).2.1 57 1 = some 59 := rfl
theorem zq_57_2 : (zx_LL Lh).2.1 57 2 = some 60 := rfl
theorem zq_61_0 : (zx_LL Lh).2.1 61 0 = some 62 := rfl
theorem zq_61_1 : (zx_LL Lh).2.1 61 1 = some 63 := rfl
theorem zq_61_2 : (zx_LL Lh).2.1 61 2 = some 64 := rfl
theorem zq_65_0 : (zx_LL Lh).2.1 65 0 = some 66 := rfl
theorem zq_66_0 : (zx_LL Lh).2.1 66 0 = some 67 := rfl
theorem zq_66_1 : (zx_LL Lh).2.1 66 1 = some 68 := rfl
theorem zq_66_2 : (zx_LL Lh).2.1 66 2 = some 69 := rfl
theorem zq_70_0 : (zx_LL Lh).2.1 70 0 = some 71 := rfl
theorem zq_70_1 : (zx_LL Lh).2.1 70 1 = some 75 := rfl
theorem zq_70_2 : (zx_LL Lh).2.1 70 2 = some 76 := rfl
theorem zq_70_3 : (zx_LL Lh).2.1 70 3 = some 77 := rfl
theorem zq_70_4 : (zx_LL Lh).2.1 70 4 = some 78 := rfl
theorem zq_71_0 : (zx_LL Lh).2.1 71 0 = some 72 := rfl
theorem zq_71_1 : (zx_LL Lh).2.1 71 1 = some 73 := rfl
theorem zq_71_2 : (zx_LL Lh).2.1 71 2 = some 74 := rfl
theorem zq_79_0 : (zx_LL Lh).2.1 79 0 = some 102 := rfl
theorem zq_79_1 : (zx_LL Lh).2.1 79 1 = some 104 := rfl
theorem zq_79_2 : (zx_LL Lh).2.1 79 2 = some 106 := rfl
theorem zq_79_3 : (zx_LL Lh).2.1 79 3 = some 108 := rfl
theorem zq_80_0 : (zx_LL Lh).2.1 80 0 = some 110 := rfl
theorem zq_80_1 : (zx_LL Lh).2.1 80 1 = some 124 := rfl
theorem zq_81_0 : (zx_LL Lh).2.1 81 0 = some 120 := rfl
theorem zq_81_1 : (zx_LL Lh).2.1 81 1 = some 134 := rfl
theorem zq_83_0 : (zx_LL Lh).2.1 83 0 = some 84 := rfl
theorem zq_83_1 : (zx_LL Lh).2.1 83 1 = some 86 := rfl
theorem zq_83_2 : (zx_LL Lh).2.1 83 2 = some 88 := rfl
theorem zq_83_3 : (zx_LL Lh).2.1 83 3 = some 98 := rfl
theorem zq_84_0 : (zx_LL Lh).2.1 84 0 = some 85 := rfl
theorem zq_86_0 : (zx_LL Lh).2.1 86 0 = some 87 := rfl
theorem zq_88_0 : (zx_LL Lh).2.1 88 0 = some 89 := rfl
theorem zq_88_1 : (zx_LL Lh).2.1 88 1 = some 93 := rfl
theorem zq_88_2 : (zx_LL Lh).2.1 88 2 = some 94 := rfl
theorem zq_88_3 : (zx_LL Lh).2.1 88 3 = some 95 := rfl
theorem zq_88_4 : (zx_LL Lh).2.1 88 4 = some 96 := rfl
theorem zq_88_5 : (zx_LL Lh).2.1 88 5 = some 97 := rfl
theorem zq_89_0 : (zx_LL Lh).2.1 89 0 = some 90 := rfl
theorem zq_89_1 : (zx_LL Lh).2.1 89 1 = some 91 := rfl
theorem zq_89_2 : (zx_LL Lh).2.1 89 2 = some 92 := rfl
theorem zq_98_0 : (zx_LL Lh).2.1 98 0 = some 99 := rfl
theorem zq_98_1 : (zx_LL Lh).2.1 98 1 = some 100 := rfl
theorem zq_98_2 : (zx_LL Lh).2.1 98 2 = some 101 := rfl
theorem zq_102_0 : (zx_LL Lh).2.1 102 0 = some 103 := rfl
theorem zq_104_0 : (zx_LL Lh).2.1 104 0 = some 105 := rfl
theorem zq_106_0 : (zx_LL Lh).2.1 106 0 = some 107 := rfl
theorem zq_108_0 : (zx_LL Lh).2.1 108 0 = some 109 := rfl
theorem zq_110_0 : (zx_LL Lh).2.1 110 0 = some 111 := rfl
theorem zq_110_1 : (zx_LL Lh).2.1 110 1 = some 115 := rfl
theorem zq_110_2 : (zx_LL Lh).2.1 110 2 = some 116 := rfl
theorem zq_110_3 : (zx_LL Lh).2.1 110 3 = some 117 := rfl
theorem zq_110_4 : (zx_LL Lh).2.1 110 4 = some 118 := rfl
theorem zq_110_5 : (zx_LL Lh).2.1 110 5 = some 119 := rfl
theorem zq_111_0 : (zx_LL Lh).2.1 111 0 = some 112 := rfl
theorem zq_111_1 : (zx_LL Lh).2.1 111 1 = some 113 := rfl
theorem zq_111_2 : (zx_LL Lh).2.1 111 2 = some 114 := rfl
theorem zq_120_0 : (zx_LL Lh).2.1 120 0 = some 121 := rfl
theorem zq_120_1 : (zx_LL Lh).2.1 120 1 = some 122 := rfl
theorem zq_120_2 : (zx_LL Lh).2.1 120 2 = some 123 := rfl
theorem zq_124_0 : (zx_LL Lh).2.1 124 0 = some 125 := rfl
theorem zq_124_1 : (zx_LL Lh).2.1 124 1 = some 129 := rfl
theorem zq_124_2 : (zx_LL Lh).2.1 124 2 = some 130 := rfl
theorem zq_124_3 : (zx_LL Lh).2.1 124 3 = some 131 := rfl
theorem zq_124_4 : (zx_LL Lh).2.1 124 4 = some 132 := rfl
theorem zq_124_5 : (zx_LL Lh).2.1 124 5 = some 133 := rfl
theorem zq_125_0 : (zx_LL Lh).2.1 125 0 = some 126 := rfl
theorem zq_125_1 : (zx_LL Lh).2.1 125 1 = some 127 := rfl
theorem zq_125_2 : (zx_LL Lh).2.1 125 2 = some 128 := rfl
theorem zq_134_0 : (zx_LL Lh).2.1 134 0 = some 135 := rfl
theorem zq_134_1 : (zx_LL Lh).2.1 134 1 = some 136 := rfl
theorem zq_134_2 : (zx_LL Lh).2.1 134 2 = some 137 := rfl
theorem zq_138_1 : (zx_LL Lh).2.1 138 1 = some 139 := rfl
theorem zq_138_2 : (zx_LL Lh).2.1 138 2 = some 140 := rfl
theorem zq_138_3 : (zx_LL Lh).2.1 138 3 = some 141 := rfl
theorem zq_138_4 : (zx_LL Lh).2.1 138 4 = some 142 := rfl
theorem zq_138_16 : (zx_LL Lh).2.1 138 16 = some 143 := rfl
theorem zq_138_19 : (zx_LL Lh).2.1 138 19 = some 144 := rfl
theorem zq_138_20 : (zx_LL Lh).2.1 138 20 = some 145 := rfl
theorem zq_138_24 : (zx_LL Lh).2.1 138 24 = some 146 := rfl
theorem zq_138_25 : (zx_LL Lh).2.1 138 25 = some 147 := rfl
theorem zq_138_26 : (zx_LL Lh).2.1 138 26 = some 148 := rfl
theorem zq_138_27 : (zx_LL Lh).2.1 138 27 = some 149 := rfl
theorem zq_138_31 : (zx_LL Lh).2.1 138 31 = some 150 := rfl
theorem zq_138_32 : (zx_LL Lh).2.1 138 32 = some 151 := rfl
theorem zq_138_33 : (zx_LL Lh).2.1 138 33 = some 152 := rfl
theorem zk_5000 : (zx_LL Lh).1 5000 = (0, Lh) := rfl
theorem zk_5001 : (zx_LL Lh).1 5001 = (0, 8) := rfl
theorem zk_5002 : (zx_LL Lh).1 5002 = (0, 8) := rfl
theorem zk_5010 : (zx_LL Lh).1 5010 = (56, 0) := rfl
theorem zk_5020 : (zx_LL Lh).1 5020 = (1, 114) := rfl
theorem zq_5010_0 : (zx_LL Lh).2.1 5010 0 = some 5020 := rfl
theorem zk_5011 : (zx_LL Lh).1 5011 = (56, 0) := rfl
theorem zk_5021 : (zx_LL Lh).1 5021 = (1, 12) := rfl
theorem zq_5011_0 : (zx_LL Lh).2.1 5011 0 = some 5021 := rfl
theorem zk_5012 : (zx_LL Lh).1 5012 = (56, 0) := rfl
theorem zk_5022 : (zx_LL Lh).1 5022 = (1, 115) := rfl
theorem zq_5012_0 : (zx_LL Lh).2.1 5012 0 = some 5022 := rfl
theorem zk_5013 : (zx_LL Lh).1 5013 = (56, 0) := rfl
theorem zk_5023 : (zx_LL Lh).1 5023 = (1, 8) := rfl
theorem zq_5013_0 : (zx_LL Lh).2.1 5013 0 = some 5023 := rfl
theorem zk_5014 : (zx_LL Lh).1 5014 = (56, 0) := rfl
theorem zk_5024 : (zx_LL Lh).1 5024 = (1, 8) := rfl
theorem zq_5014_0 : (zx_LL Lh).2.1 5014 0 = some 5024 := rfl
def zx_stl : List Nat := [11, 15, 19, 25, 29, 33, 37, 41, 45, 49, 53, 57, 61, 66, 71, 98, 120, 134]
/-- a STAND's cell -/
def zx_st (T : Nat) : Prop := T ∈ zx_stl
theorem zx_st_all {p : Nat → Bool} (h : zx_stl.all p = true) {T : Nat} (hT : zx_st T) : p T = true := List.all_eq_true.mp h T hT
theorem zT_k {T : Nat} (hT : zx_st T) : (zx_LL Lh).1 T = (47, 0) ∧ (zx_LL Lh).1 (T + 1) = (0, 8) ∧ (zx_LL Lh).1 (T + 2) = (0, 8) ∧ (zx_LL Lh).1 (T + 3) = (0, 8) := by
  have h : ∀ L9 : Nat, zx_stl.all (fun T => decide ((zx_LL L9).1 T = (47, 0) ∧ (zx_LL L9).1 (T + 1) = (0, 8) ∧ (zx_LL L9).1 (T + 2) = (0, 8) ∧ (zx_LL L9).1 (T + 3) = (0, 8))) = true := fun _ => rfl
  exact of_decide_eq_true (zx_st_all (h Lh) hT)
theorem zT_q {T : Nat} (hT : zx_st T) : (zx_LL Lh).2.1 T 0 = some (T + 1) ∧ (zx_LL Lh).2.1 T 1 = some (T + 2) ∧ (zx_LL Lh).2.1 T 2 = some (T + 3) := by
  have h : ∀ L9 : Nat, zx_stl.all (fun T => decide ((zx_LL L9).2.1 T 0 = some (T + 1) ∧ (zx_LL L9).2.1 T 1 = some (T + 2) ∧ (zx_LL L9).2.1 T 2 = some (T + 3))) = true := fun _ => rfl
  exact of_decide_eq_true (zx_st_all (h Lh) hT)
theorem zT_r {T : Nat} (hT : zx_st T) : 11 ≤ T ∧ T + 3 ≤ 137 ∧ (T + 3 < 23 ∨ 25 ≤ T) ∧ (T + 3 < 65 ∨ 66 ≤ T) ∧ (T + 3 < 70 ∨ 71 ≤ T) ∧ (T + 3 < 75 ∨ 98 ≤ T) ∧ (T + 3 < 102 ∨ 120 ≤ T) ∧ (T + 3 < 124 ∨ 134 ≤ T) := by
  have h : zx_stl.all (fun T => decide (11 ≤ T ∧ T + 3 ≤ 137 ∧ (T + 3 < 23 ∨ 25 ≤ T) ∧ (T + 3 < 65 ∨ 66 ≤ T) ∧ (T + 3 < 70 ∨ 71 ≤ T) ∧ (T + 3 < 75 ∨ 98 ≤ T) ∧ (T + 3 < 102 ∨ 120 ≤ T) ∧ (T + 3 < 124 ∨ 134 ≤ T))) = true := by decide +kernel
  exact of_decide_eq_true (zx_st_all h hT)
theorem zT_n {T U : Nat} (hT : zx_st T) (hU : zx_st U) (h : T ≠ U) : T + 3 < U ∨ U + 3 < T := by
  have h1 : zx_stl.all (fun T => zx_stl.all (fun U => decide (T ≠ U → T + 3 < U ∨ U + 3 < T))) = true := by decide +kernel
  exact of_decide_eq_true (zx_st_all (zx_st_all h1 hT) hU) h
/-- squares: told, the reader's, the images' -/
def zx_sql : List Nat := [1, 88, 110, 124]
def zx_sq (S : Nat) : Prop := S ∈ zx_sql
theorem zx_sq_all {p : Nat → Bool} (h : zx_sql.all p = true) {T : Nat} (hT : zx_sq T) : p T = true := List.all_eq_true.mp h T hT
theorem zS_k {S : Nat} (hS : zx_sq S) : (zx_LL Lh).1 S = (46, 0) ∧ (zx_LL Lh).1 (S + 1) = (41, 0) ∧ (zx_LL Lh).1 (S + 2) = (0, 900) ∧ (zx_LL Lh).1 (S + 3) = (0, 64) ∧ (zx_LL Lh).1 (S + 4) = (0, 8) ∧ (zx_LL Lh).1 (S + 5) = (0, 10) ∧ (zx_LL Lh).1 (S + 6) = (0, 10) ∧ (zx_LL Lh).1 (S + 7) = (0, 10) ∧ (zx_LL Lh).1 (S + 8) = (0, 4) ∧ (zx_LL Lh).1 (S + 9) = (0, 4) := by
  have h : ∀ L9 : Nat, zx_sql.all (fun S => decide ((zx_LL L9).1 S = (46, 0) ∧ (zx_LL L9).1 (S + 1) = (41, 0) ∧ (zx_LL L9).1 (S + 2) = (0, 900) ∧ (zx_LL L9).1 (S + 3) = (0, 64) ∧ (zx_LL L9).1 (S + 4) = (0, 8) ∧ (zx_LL L9).1 (S + 5) = (0, 10) ∧ (zx_LL L9).1 (S + 6) = (0, 10) ∧ (zx_LL L9).1 (S + 7) = (0, 10) ∧ (zx_LL L9).1 (S + 8) = (0, 4) ∧ (zx_LL L9).1 (S + 9) = (0, 4))) = true := fun _ => rfl
  exact of_decide_eq_true (zx_sq_all (h Lh) hS)
theorem zS_q {S : Nat} (hS : zx_sq S) : (zx_LL Lh).2.1 S 0 = some (S + 1) ∧ (zx_LL Lh).2.1 (S + 1) 0 = some (S + 2) ∧ (zx_LL Lh).2.1 (S + 1) 1 = some (S + 3) ∧ (zx_LL Lh).2.1 (S + 1) 2 = some (S + 4) ∧ (zx_LL Lh).2.1 S 1 = some (S + 5) ∧ (zx_LL Lh).2.1 S 2 = some (S + 6) ∧ (zx_LL Lh).2.1 S 3 = some (S + 7) ∧ (zx_LL Lh).2.1 S 4 = some (S + 8) ∧ (zx_LL Lh).2.1 S 5 = some (S + 9) := by
  have h : ∀ L9 : Nat, zx_sql.all (fun S => decide ((zx_LL L9).2.1 S 0 = some (S + 1) ∧ (zx_LL L9).2.1 (S + 1) 0 = some (S + 2) ∧ (zx_LL L9).2.1 (S + 1) 1 = some (S + 3) ∧ (zx_LL L9).2.1 (S + 1) 2 = some (S + 4) ∧ (zx_LL L9).2.1 S 1 = some (S + 5) ∧ (zx_LL L9).2.1 S 2 = some (S + 6) ∧ (zx_LL L9).2.1 S 3 = some (S + 7) ∧ (zx_LL L9).2.1 S 4 = some (S + 8) ∧ (zx_LL L9).2.1 S 5 = some (S + 9))) = true := fun _ => rfl
  exact of_decide_eq_true (zx_sq_all (h Lh) hS)
theorem zx_wrp {a : Nat} (h : a < 153) : zx_wr (zx_LL Lh) a := h
end LAY
