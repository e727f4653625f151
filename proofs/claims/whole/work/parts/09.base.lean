/-! THE MEMORY behind the constructors: 153 cells; six references move: 0 told, 1 draft, 2 the parser's town, 3 the parish's, 4 reached, 5 following -/
def rsL : List (List (Option Nat)) := [[none, none, some 41, some 44, some 45, some 47, some 49, some 51, some 94, some 101, some 104], [some 2, some 3, some 4, some 5, some 6, some 7, some 8, some 9, some 10, some 11, some 18], [], [], [], [], [], [], [], [], [], [some 12, some 13, some 14, some 15, some 16, some 17], [], [], [], [], [], [], [some 19, some 20], [], [], [some 22, some 23, some 24, some 25, some 26, some 27, some 28, some 29, some 30, some 31, some 38], [], [], [], [], [], [], [], [], [], [some 32, some 33, some 34, some 35, some 36, some 37], [], [], [], [], [], [], [some 39, some 40], [], [], [some 42, some 43], [], [], [some 41, none], [some 46, none], [], [some 48], [], [some 50], [], [some 52], [some 53, some 54, some 55, some 56, some 57, some 58, some 59, some 60, some 61, some 62, some 63, some 64, some 65, some 66, some 67, some 68, some 69, some 70, some 71, some 72, some 73, some 74, some 75, some 76, some 77, some 78, some 79, some 80, some 81, some 82, some 83, some 84, some 85, some 86, some 87, some 88, some 89, some 90, some 91, some 92, some 93], [], [], [], [], [], [], [], [], [], [], [], [], [], [], [], [], [], [], [], [], [], [], [], [], [], [], [], [], [], [], [], [], [], [], [], [], [], [], [], [], [], [some 95, some 97, some 99], [some 96], [], [some 98], [], [some 100], [], [none, none], [], [], [some 105, some 106, some 107, some 108, some 109, some 110], [], [], [], [], [], [], [some 112, none, none, none, none, none, none, none, none, none, some 113, some 114, some 115, some 116, some 117, some 118, some 119, none, none, none, none, none, none, none, some 120, some 121, some 122, some 123, some 124, some 125, some 126, some 127, some 128, some 129, some 130, some 131, some 132, some 133, some 134, some 135, some 136, some 137, none, none, none, none, none, none, none, none, none, none, none, none, none, none, none, none, none, some 138, some 139, some 140, some 141, none, some 142, none, none, none, none, some 143, some 144, some 145, some 146, some 147, some 148, some 149, some 150, none, none, some 151, some 152], [], [], [], [], [], [], [], [], [], [], [], [], [], [], [], [], [], [], [], [], [], [], [], [], [], [], [], [], [], [], [], [], [], [], [], [], [], [], [], [], []]
def Rs (a j : Nat) : Option Nat := (rsL.getD a []).getD j none
def Rf (D : Nat → Nat) (a j : Nat) : Option Nat := if a = 0 ∧ j = 0 then some (D 0) else if a = 0 ∧ j = 1 then some (D 1) else if a = 44 ∧ j = 1 then some (D 2) else if a = 45 ∧ j = 1 then some (D 3) else if a = 101 ∧ j = 0 then some (D 4) else if a = 101 ∧ j = 1 then some (D 5) else Rs a j
abbrev XX (L : Nat → Nat → Int) (D : Nat → Nat) : mX := (L, Rf D, 153)
def dset (D : Nat → Nat) (k v : Nat) : Nat → Nat := fun i => if i = k then v else D i
theorem r_0_0 (D : Nat → Nat) : Rf D 0 0 = some (D 0) := rfl
theorem r_0_1 (D : Nat → Nat) : Rf D 0 1 = some (D 1) := rfl
theorem r_0_2 (D : Nat → Nat) : Rf D 0 2 = some 41 := rfl
theorem r_0_3 (D : Nat → Nat) : Rf D 0 3 = some 44 := rfl
theorem r_0_4 (D : Nat → Nat) : Rf D 0 4 = some 45 := rfl
theorem r_0_5 (D : Nat → Nat) : Rf D 0 5 = some 47 := rfl
theorem r_0_6 (D : Nat → Nat) : Rf D 0 6 = some 49 := rfl
theorem r_0_7 (D : Nat → Nat) : Rf D 0 7 = some 51 := rfl
theorem r_0_8 (D : Nat → Nat) : Rf D 0 8 = some 94 := rfl
theorem r_0_9 (D : Nat → Nat) : Rf D 0 9 = some 101 := rfl
theorem r_0_10 (D : Nat → Nat) : Rf D 0 10 = some 104 := rfl
theorem r_41_0 (D : Nat → Nat) : Rf D 41 0 = some 42 := rfl
theorem r_41_1 (D : Nat → Nat) : Rf D 41 1 = some 43 := rfl
theorem r_44_0 (D : Nat → Nat) : Rf D 44 0 = some 41 := rfl
theorem r_44_1 (D : Nat → Nat) : Rf D 44 1 = some (D 2) := rfl
theorem r_45_0 (D : Nat → Nat) : Rf D 45 0 = some 46 := rfl
theorem r_45_1 (D : Nat → Nat) : Rf D 45 1 = some (D 3) := rfl
theorem r_47_0 (D : Nat → Nat) : Rf D 47 0 = some 48 := rfl
theorem r_49_0 (D : Nat → Nat) : Rf D 49 0 = some 50 := rfl
theorem r_51_0 (D : Nat → Nat) : Rf D 51 0 = some 52 := rfl
theorem r_52_0 (D : Nat → Nat) : Rf D 52 0 = some 53 := rfl
theorem r_52_1 (D : Nat → Nat) : Rf D 52 1 = some 54 := rfl
theorem r_52_2 (D : Nat → Nat) : Rf D 52 2 = some 55 := rfl
theorem r_52_3 (D : Nat → Nat) : Rf D 52 3 = some 56 := rfl
theorem r_52_4 (D : Nat → Nat) : Rf D 52 4 = some 57 := rfl
theorem r_52_5 (D : Nat → Nat) : Rf D 52 5 = some 58 := rfl
theorem r_52_6 (D : Nat → Nat) : Rf D 52 6 = some 59 := rfl
theorem r_52_7 (D : Nat → Nat) : Rf D 52 7 = some 60 := rfl
theorem r_52_8 (D : Nat → Nat) : Rf D 52 8 = some 61 := rfl
theorem r_52_9 (D : Nat → Nat) : Rf D 52 9 = some 62 := rfl
theorem r_52_10 (D : Nat → Nat) : Rf D 52 10 = some 63 := rfl
theorem r_52_11 (D : Nat → Nat) : Rf D 52 11 = some 64 := rfl
theorem r_52_12 (D : Nat → Nat) : Rf D 52 12 = some 65 := rfl
theorem r_52_13 (D : Nat → Nat) : Rf D 52 13 = some 66 := rfl
theorem r_52_14 (D : Nat → Nat) : Rf D 52 14 = some 67 := rfl
theorem r_52_15 (D : Nat → Nat) : Rf D 52 15 = some 68 := rfl
theorem r_52_16 (D : Nat → Nat) : Rf D 52 16 = some 69 := rfl
theorem r_52_17 (D : Nat → Nat) : Rf D 52 17 = some 70 := rfl
theorem r_52_18 (D : Nat → Nat) : Rf D 52 18 = some 71 := rfl
theorem r_52_19 (D : Nat → Nat) : Rf D 52 19 = some 72 := rfl
theorem r_52_20 (D : Nat → Nat) : Rf D 52 20 = some 73 := rfl
theorem r_52_21 (D : Nat → Nat) : Rf D 52 21 = some 74 := rfl
theorem r_52_22 (D : Nat → Nat) : Rf D 52 22 = some 75 := rfl
theorem r_52_23 (D : Nat → Nat) : Rf D 52 23 = some 76 := rfl
theorem r_52_24 (D : Nat → Nat) : Rf D 52 24 = some 77 := rfl
theorem r_52_25 (D : Nat → Nat) : Rf D 52 25 = some 78 := rfl
theorem r_52_26 (D : Nat → Nat) : Rf D 52 26 = some 79 := rfl
theorem r_52_27 (D : Nat → Nat) : Rf D 52 27 = some 80 := rfl
theorem r_52_28 (D : Nat → Nat) : Rf D 52 28 = some 81 := rfl
theorem r_52_29 (D : Nat → Nat) : Rf D 52 29 = some 82 := rfl
theorem r_52_30 (D : Nat → Nat) : Rf D 52 30 = some 83 := rfl
theorem r_52_31 (D : Nat → Nat) : Rf D 52 31 = some 84 := rfl
theorem r_52_32 (D : Nat → Nat) : Rf D 52 32 = some 85 := rfl
theorem r_52_33 (D : Nat → Nat) : Rf D 52 33 = some 86 := rfl
theorem r_52_34 (D : Nat → Nat) : Rf D 52 34 = some 87 := rfl
theorem r_52_35 (D : Nat → Nat) : Rf D 52 35 = some 88 := rfl
theorem r_52_36 (D : Nat → Nat) : Rf D 52 36 = some 89 := rfl
theorem r_52_37 (D : Nat → Nat) : Rf D 52 37 = some 90 := rfl
theorem r_52_38 (D : Nat → Nat) : Rf D 52 38 = some 91 := rfl
theorem r_52_39 (D : Nat → Nat) : Rf D 52 39 = some 92 := rfl
theorem r_52_40 (D : Nat → Nat) : Rf D 52 40 = some 93 := rfl
theorem r_94_0 (D : Nat → Nat) : Rf D 94 0 = some 95 := rfl
theorem r_94_1 (D : Nat → Nat) : Rf D 94 1 = some 97 := rfl
theorem r_94_2 (D : Nat → Nat) : Rf D 94 2 = some 99 := rfl
theorem r_95_0 (D : Nat → Nat) : Rf D 95 0 = some 96 := rfl
theorem r_97_0 (D : Nat → Nat) : Rf D 97 0 = some 98 := rfl
theorem r_99_0 (D : Nat → Nat) : Rf D 99 0 = some 100 := rfl
theorem r_101_0 (D : Nat → Nat) : Rf D 101 0 = some (D 4) := rfl
theorem r_101_1 (D : Nat → Nat) : Rf D 101 1 = some (D 5) := rfl
theorem r_104_0 (D : Nat → Nat) : Rf D 104 0 = some 105 := rfl
theorem r_104_1 (D : Nat → Nat) : Rf D 104 1 = some 106 := rfl
theorem r_104_2 (D : Nat → Nat) : Rf D 104 2 = some 107 := rfl
theorem r_104_3 (D : Nat → Nat) : Rf D 104 3 = some 108 := rfl
theorem r_104_4 (D : Nat → Nat) : Rf D 104 4 = some 109 := rfl
theorem r_104_5 (D : Nat → Nat) : Rf D 104 5 = some 110 := rfl
theorem r_111_0 (D : Nat → Nat) : Rf D 111 0 = some 112 := rfl
theorem r_111_10 (D : Nat → Nat) : Rf D 111 10 = some 113 := rfl
theorem r_111_11 (D : Nat → Nat) : Rf D 111 11 = some 114 := rfl
theorem r_111_12 (D : Nat → Nat) : Rf D 111 12 = some 115 := rfl
theorem r_111_13 (D : Nat → Nat) : Rf D 111 13 = some 116 := rfl
theorem r_111_14 (D : Nat → Nat) : Rf D 111 14 = some 117 := rfl
theorem r_111_15 (D : Nat → Nat) : Rf D 111 15 = some 118 := rfl
theorem r_111_16 (D : Nat → Nat) : Rf D 111 16 = some 119 := rfl
theorem r_111_24 (D : Nat → Nat) : Rf D 111 24 = some 120 := rfl
theorem r_111_25 (D : Nat → Nat) : Rf D 111 25 = some 121 := rfl
theorem r_111_26 (D : Nat → Nat) : Rf D 111 26 = some 122 := rfl
theorem r_111_27 (D : Nat → Nat) : Rf D 111 27 = some 123 := rfl
theorem r_111_28 (D : Nat → Nat) : Rf D 111 28 = some 124 := rfl
theorem r_111_29 (D : Nat → Nat) : Rf D 111 29 = some 125 := rfl
theorem r_111_30 (D : Nat → Nat) : Rf D 111 30 = some 126 := rfl
theorem r_111_31 (D : Nat → Nat) : Rf D 111 31 = some 127 := rfl
theorem r_111_32 (D : Nat → Nat) : Rf D 111 32 = some 128 := rfl
theorem r_111_33 (D : Nat → Nat) : Rf D 111 33 = some 129 := rfl
theorem r_111_34 (D : Nat → Nat) : Rf D 111 34 = some 130 := rfl
theorem r_111_35 (D : Nat → Nat) : Rf D 111 35 = some 131 := rfl
theorem r_111_36 (D : Nat → Nat) : Rf D 111 36 = some 132 := rfl
theorem r_111_37 (D : Nat → Nat) : Rf D 111 37 = some 133 := rfl
theorem r_111_38 (D : Nat → Nat) : Rf D 111 38 = some 134 := rfl
theorem r_111_39 (D : Nat → Nat) : Rf D 111 39 = some 135 := rfl
theorem r_111_40 (D : Nat → Nat) : Rf D 111 40 = some 136 := rfl
theorem r_111_41 (D : Nat → Nat) : Rf D 111 41 = some 137 := rfl
theorem r_111_59 (D : Nat → Nat) : Rf D 111 59 = some 138 := rfl
theorem r_111_60 (D : Nat → Nat) : Rf D 111 60 = some 139 := rfl
theorem r_111_61 (D : Nat → Nat) : Rf D 111 61 = some 140 := rfl
theorem r_111_62 (D : Nat → Nat) : Rf D 111 62 = some 141 := rfl
theorem r_111_64 (D : Nat → Nat) : Rf D 111 64 = some 142 := rfl
theorem r_111_69 (D : Nat → Nat) : Rf D 111 69 = some 143 := rfl
theorem r_111_70 (D : Nat → Nat) : Rf D 111 70 = some 144 := rfl
theorem r_111_71 (D : Nat → Nat) : Rf D 111 71 = some 145 := rfl
theorem r_111_72 (D : Nat → Nat) : Rf D 111 72 = some 146 := rfl
theorem r_111_73 (D : Nat → Nat) : Rf D 111 73 = some 147 := rfl
theorem r_111_74 (D : Nat → Nat) : Rf D 111 74 = some 148 := rfl
theorem r_111_75 (D : Nat → Nat) : Rf D 111 75 = some 149 := rfl
theorem r_111_76 (D : Nat → Nat) : Rf D 111 76 = some 150 := rfl
theorem r_111_79 (D : Nat → Nat) : Rf D 111 79 = some 151 := rfl
theorem r_111_80 (D : Nat → Nat) : Rf D 111 80 = some 152 := rfl
theorem kd_0 : kd 0 = (10, 12) := rfl
theorem la_0 : 0 < 153 := by decide
theorem la_1 : 1 < 153 := by decide
theorem la_2 : 2 < 153 := by decide
theorem la_3 : 3 < 153 := by decide
theorem la_4 : 4 < 153 := by decide
theorem la_5 : 5 < 153 := by decide
theorem la_6 : 6 < 153 := by decide
theorem la_7 : 7 < 153 := by decide
theorem la_8 : 8 < 153 := by decide
theorem la_9 : 9 < 153 := by decide
theorem la_10 : 10 < 153 := by decide
theorem la_11 : 11 < 153 := by decide
theorem la_12 : 12 < 153 := by decide
theorem la_13 : 13 < 153 := by decide
theorem la_14 : 14 < 153 := by decide
theorem la_15 : 15 < 153 := by decide
theorem la_16 : 16 < 153 := by decide
theorem la_17 : 17 < 153 := by decide
theorem la_18 : 18 < 153 := by decide
theorem la_19 : 19 < 153 := by decide
theorem la_20 : 20 < 153 := by decide
theorem la_21 : 21 < 153 := by decide
theorem la_22 : 22 < 153 := by decide
theorem la_23 : 23 < 153 := by decide
theorem la_24 : 24 < 153 := by decide
theorem la_25 : 25 < 153 := by decide
theorem la_26 : 26 < 153 := by decide
theorem la_27 : 27 < 153 := by decide
theorem la_28 : 28 < 153 := by decide
theorem la_29 : 29 < 153 := by decide
theorem la_30 : 30 < 153 := by decide
theorem la_31 : 31 < 153 := by decide
theorem la_32 : 32 < 153 := by decide
theorem la_33 : 33 < 153 := by decide
theorem la_34 : 34 < 153 := by decide
theorem la_35 : 35 < 153 := by decide
theorem la_36 : 36 < 153 := by decide
theorem la_37 : 37 < 153 := by decide
theorem la_38 : 38 < 153 := by decide
theorem la_39 : 39 < 153 := by decide
theorem la_40 : 40 < 153 := by decide
theorem kd_41 : kd 41 = (8, 8) := rfl
theorem la_41 : 41 < 153 := by decide
theorem kd_42 : kd 42 = (21, 1600) := rfl
theorem la_42 : 42 < 153 := by decide
theorem kd_43 : kd 43 = (23, 21) := rfl
theorem la_43 : 43 < 153 := by decide
theorem kd_44 : kd 44 = (4, 5) := rfl
theorem la_44 : 44 < 153 := by decide
theorem kd_45 : kd 45 = (3, 2) := rfl
theorem la_45 : 45 < 153 := by decide
theorem kd_46 : kd 46 = (20, 4) := rfl
theorem la_46 : 46 < 153 := by decide
theorem kd_47 : kd 47 = (7, 1) := rfl
theorem la_47 : 47 < 153 := by decide
theorem kd_48 : kd 48 = (20, 30) := rfl
theorem la_48 : 48 < 153 := by decide
theorem kd_49 : kd 49 = (7, 1) := rfl
theorem la_49 : 49 < 153 := by decide
theorem kd_50 : kd 50 = (20, 30) := rfl
theorem la_50 : 50 < 153 := by decide
theorem kd_51 : kd 51 = (2, 4) := rfl
theorem la_51 : 51 < 153 := by decide
theorem kd_52 : kd 52 = (25, 41) := rfl
theorem la_52 : 52 < 153 := by decide
theorem kd_53 : kd 53 = (20, 30) := rfl
theorem la_53 : 53 < 153 := by decide
theorem kd_54 : kd 54 = (20, 30) := rfl
theorem la_54 : 54 < 153 := by decide
theorem kd_55 : kd 55 = (20, 30) := rfl
theorem la_55 : 55 < 153 := by decide
theorem kd_56 : kd 56 = (20, 30) := rfl
theorem la_56 : 56 < 153 := by decide
theorem kd_57 : kd 57 = (20, 30) := rfl
theorem la_57 : 57 < 153 := by decide
theorem kd_58 : kd 58 = (20, 30) := rfl
theorem la_58 : 58 < 153 := by decide
theorem kd_59 : kd 59 = (20, 30) := rfl
theorem la_59 : 59 < 153 := by decide
theorem kd_60 : kd 60 = (20, 30) := rfl
theorem la_60 : 60 < 153 := by decide
theorem kd_61 : kd 61 = (20, 30) := rfl
theorem la_61 : 61 < 153 := by decide
theorem kd_62 : kd 62 = (20, 30) := rfl
theorem la_62 : 62 < 153 := by decide
theorem kd_63 : kd 63 = (20, 30) := rfl
theorem la_63 : 63 < 153 := by decide
theorem kd_64 : kd 64 = (20, 30) := rfl
theorem la_64 : 64 < 153 := by decide
theorem kd_65 : kd 65 = (20, 30) := rfl
theorem la_65 : 65 < 153 := by decide
theorem kd_66 : kd 66 = (20, 30) := rfl
theorem la_66 : 66 < 153 := by decide
theorem kd_67 : kd 67 = (20, 30) := rfl
theorem la_67 : 67 < 153 := by decide
theorem kd_68 : kd 68 = (20, 30) := rfl
theorem la_68 : 68 < 153 := by decide
theorem kd_69 : kd 69 = (20, 30) := rfl
theorem la_69 : 69 < 153 := by decide
theorem kd_70 : kd 70 = (20, 30) := rfl
theorem la_70 : 70 < 153 := by decide
theorem kd_71 : kd 71 = (20, 30) := rfl
theorem la_71 : 71 < 153 := by decide
theorem kd_72 : kd 72 = (20, 30) := rfl
theorem la_72 : 72 < 153 := by decide
theorem kd_73 : kd 73 = (20, 30) := rfl
theorem la_73 : 73 < 153 := by decide
theorem kd_74 : kd 74 = (20, 30) := rfl
theorem la_74 : 74 < 153 := by decide
theorem kd_75 : kd 75 = (20, 30) := rfl
theorem la_75 : 75 < 153 := by decide
theorem kd_76 : kd 76 = (20, 30) := rfl
theorem la_76 : 76 < 153 := by decide
theorem kd_77 : kd 77 = (20, 30) := rfl
theorem la_77 : 77 < 153 := by decide
theorem kd_78 : kd 78 = (20, 30) := rfl
theorem la_78 : 78 < 153 := by decide
theorem kd_79 : kd 79 = (20, 30) := rfl
theorem la_79 : 79 < 153 := by decide
theorem kd_80 : kd 80 = (20, 30) := rfl
theorem la_80 : 80 < 153 := by decide
theorem kd_81 : kd 81 = (20, 30) := rfl
theorem la_81 : 81 < 153 := by decide
theorem kd_82 : kd 82 = (20, 30) := rfl
theorem la_82 : 82 < 153 := by decide
theorem kd_83 : kd 83 = (20, 30) := rfl
theorem la_83 : 83 < 153 := by decide
theorem kd_84 : kd 84 = (20, 30) := rfl
theorem la_84 : 84 < 153 := by decide
theorem kd_85 : kd 85 = (20, 30) := rfl
theorem la_85 : 85 < 153 := by decide
theorem kd_86 : kd 86 = (20, 30) := rfl
theorem la_86 : 86 < 153 := by decide
theorem kd_87 : kd 87 = (20, 30) := rfl
theorem la_87 : 87 < 153 := by decide
theorem kd_88 : kd 88 = (20, 30) := rfl
theorem la_88 : 88 < 153 := by decide
theorem kd_89 : kd 89 = (20, 30) := rfl
theorem la_89 : 89 < 153 := by decide
theorem kd_90 : kd 90 = (20, 30) := rfl
theorem la_90 : 90 < 153 := by decide
theorem kd_91 : kd 91 = (20, 30) := rfl
theorem la_91 : 91 < 153 := by decide
theorem kd_92 : kd 92 = (20, 30) := rfl
theorem la_92 : 92 < 153 := by decide
theorem kd_93 : kd 93 = (20, 30) := rfl
theorem la_93 : 93 < 153 := by decide
theorem kd_94 : kd 94 = (24, 3) := rfl
theorem la_94 : 94 < 153 := by decide
theorem kd_95 : kd 95 = (7, 1) := rfl
theorem la_95 : 95 < 153 := by decide
theorem kd_96 : kd 96 = (20, 30) := rfl
theorem la_96 : 96 < 153 := by decide
theorem kd_97 : kd 97 = (7, 1) := rfl
theorem la_97 : 97 < 153 := by decide
theorem kd_98 : kd 98 = (20, 30) := rfl
theorem la_98 : 98 < 153 := by decide
theorem kd_99 : kd 99 = (7, 1) := rfl
theorem la_99 : 99 < 153 := by decide
theorem kd_100 : kd 100 = (20, 30) := rfl
theorem la_100 : 100 < 153 := by decide
theorem kd_101 : kd 101 = (6, 3) := rfl
theorem la_101 : 101 < 153 := by decide
theorem kd_102 : kd 102 = (20, 32) := rfl
theorem la_102 : 102 < 153 := by decide
theorem kd_103 : kd 103 = (20, 32) := rfl
theorem la_103 : 103 < 153 := by decide
theorem kd_104 : kd 104 = (5, 8) := rfl
theorem la_104 : 104 < 153 := by decide
theorem kd_105 : kd 105 = (20, 30) := rfl
theorem la_105 : 105 < 153 := by decide
theorem kd_106 : kd 106 = (20, 30) := rfl
theorem la_106 : 106 < 153 := by decide
theorem kd_107 : kd 107 = (20, 30) := rfl
theorem la_107 : 107 < 153 := by decide
theorem kd_108 : kd 108 = (22, 30) := rfl
theorem la_108 : 108 < 153 := by decide
theorem kd_109 : kd 109 = (20, 30) := rfl
theorem la_109 : 109 < 153 := by decide
theorem kd_110 : kd 110 = (20, 30) := rfl
theorem la_110 : 110 < 153 := by decide
theorem kd_111 : kd 111 = (11, 81) := rfl
theorem la_111 : 111 < 153 := by decide
theorem kd_112 : kd 112 = (20, 1600) := rfl
theorem la_112 : 112 < 153 := by decide
theorem kd_113 : kd 113 = (23, 12) := rfl
theorem la_113 : 113 < 153 := by decide
theorem kd_114 : kd 114 = (20, 320) := rfl
theorem la_114 : 114 < 153 := by decide
theorem kd_115 : kd 115 = (20, 320) := rfl
theorem la_115 : 115 < 153 := by decide
theorem kd_116 : kd 116 = (20, 320) := rfl
theorem la_116 : 116 < 153 := by decide
theorem kd_117 : kd 117 = (20, 320) := rfl
theorem la_117 : 117 < 153 := by decide
theorem kd_118 : kd 118 = (20, 160) := rfl
theorem la_118 : 118 < 153 := by decide
theorem kd_119 : kd 119 = (20, 64) := rfl
theorem la_119 : 119 < 153 := by decide
theorem kd_120 : kd 120 = (20, 4) := rfl
theorem la_120 : 120 < 153 := by decide
theorem kd_121 : kd 121 = (20, 8) := rfl
theorem la_121 : 121 < 153 := by decide
theorem kd_122 : kd 122 = (20, 16) := rfl
theorem la_122 : 122 < 153 := by decide
theorem kd_123 : kd 123 = (20, 8) := rfl
theorem la_123 : 123 < 153 := by decide
theorem kd_124 : kd 124 = (20, 8) := rfl
theorem la_124 : 124 < 153 := by decide
theorem kd_125 : kd 125 = (20, 8) := rfl
theorem la_125 : 125 < 153 := by decide
theorem kd_126 : kd 126 = (20, 5) := rfl
theorem la_126 : 126 < 153 := by decide
theorem kd_127 : kd 127 = (20, 5) := rfl
theorem la_127 : 127 < 153 := by decide
theorem kd_128 : kd 128 = (20, 10) := rfl
theorem la_128 : 128 < 153 := by decide
theorem kd_129 : kd 129 = (20, 8) := rfl
theorem la_129 : 129 < 153 := by decide
theorem kd_130 : kd 130 = (20, 16) := rfl
theorem la_130 : 130 < 153 := by decide
theorem kd_131 : kd 131 = (20, 8) := rfl
theorem la_131 : 131 < 153 := by decide
theorem kd_132 : kd 132 = (20, 8) := rfl
theorem la_132 : 132 < 153 := by decide
theorem kd_133 : kd 133 = (20, 8) := rfl
theorem la_133 : 133 < 153 := by decide
theorem kd_134 : kd 134 = (20, 5) := rfl
theorem la_134 : 134 < 153 := by decide
theorem kd_135 : kd 135 = (20, 5) := rfl
theorem la_135 : 135 < 153 := by decide
theorem kd_136 : kd 136 = (22, 8) := rfl
theorem la_136 : 136 < 153 := by decide
theorem kd_137 : kd 137 = (22, 8) := rfl
theorem la_137 : 137 < 153 := by decide
theorem kd_138 : kd 138 = (20, 64) := rfl
theorem la_138 : 138 < 153 := by decide
theorem kd_139 : kd 139 = (20, 30) := rfl
theorem la_139 : 139 < 153 := by decide
theorem kd_140 : kd 140 = (20, 30) := rfl
theorem la_140 : 140 < 153 := by decide
theorem kd_141 : kd 141 = (20, 4) := rfl
theorem la_141 : 141 < 153 := by decide
theorem kd_142 : kd 142 = (20, 1200) := rfl
theorem la_142 : 142 < 153 := by decide
theorem kd_143 : kd 143 = (22, 1024) := rfl
theorem la_143 : 143 < 153 := by decide
theorem kd_144 : kd 144 = (22, 1024) := rfl
theorem la_144 : 144 < 153 := by decide
theorem kd_145 : kd 145 = (20, 30) := rfl
theorem la_145 : 145 < 153 := by decide
theorem kd_146 : kd 146 = (20, 30) := rfl
theorem la_146 : 146 < 153 := by decide
theorem kd_147 : kd 147 = (20, 30) := rfl
theorem la_147 : 147 < 153 := by decide
theorem kd_148 : kd 148 = (20, 30) := rfl
theorem la_148 : 148 < 153 := by decide
theorem kd_149 : kd 149 = (20, 30) := rfl
theorem la_149 : 149 < 153 := by decide
theorem kd_150 : kd 150 = (22, 30) := rfl
theorem la_150 : 150 < 153 := by decide
theorem kd_151 : kd 151 = (22, 3) := rfl
theorem la_151 : 151 < 153 := by decide
theorem kd_152 : kd 152 = (20, 90) := rfl
theorem la_152 : 152 < 153 := by decide
abbrev isT (t : Nat) : Prop := t = 1 ∨ t = 21
theorem tk_0 {t : Nat} (h : isT t) : kd (t) = (9, 18) := by rcases h with rfl | rfl <;> rfl
theorem tl_0 {t : Nat} (h : isT t) : t < 153 := by rcases h with rfl | rfl <;> decide
theorem tr_0_0 {t : Nat} (D : Nat → Nat) (h : isT t) : Rf D (t) 0 = some (t + 1) := by rcases h with rfl | rfl <;> rfl
theorem tr_0_1 {t : Nat} (D : Nat → Nat) (h : isT t) : Rf D (t) 1 = some (t + 2) := by rcases h with rfl | rfl <;> rfl
theorem tr_0_2 {t : Nat} (D : Nat → Nat) (h : isT t) : Rf D (t) 2 = some (t + 3) := by rcases h with rfl | rfl <;> rfl
theorem tr_0_3 {t : Nat} (D : Nat → Nat) (h : isT t) : Rf D (t) 3 = some (t + 4) := by rcases h with rfl | rfl <;> rfl
theorem tr_0_4 {t : Nat} (D : Nat → Nat) (h : isT t) : Rf D (t) 4 = some (t + 5) := by rcases h with rfl | rfl <;> rfl
theorem tr_0_5 {t : Nat} (D : Nat → Nat) (h : isT t) : Rf D (t) 5 = some (t + 6) := by rcases h with rfl | rfl <;> rfl
theorem tr_0_6 {t : Nat} (D : Nat → Nat) (h : isT t) : Rf D (t) 6 = some (t + 7) := by rcases h with rfl | rfl <;> rfl
theorem tr_0_7 {t : Nat} (D : Nat → Nat) (h : isT t) : Rf D (t) 7 = some (t + 8) := by rcases h with rfl | rfl <;> rfl
theorem tr_0_8 {t : Nat} (D : Nat → Nat) (h : isT t) : Rf D (t) 8 = some (t + 9) := by rcases h with rfl | rfl <;> rfl
theorem tr_0_9 {t : Nat} (D : Nat → Nat) (h : isT t) : Rf D (t) 9 = some (t + 10) := by rcases h with rfl | rfl <;> rfl
theorem tr_0_10 {t : Nat} (D : Nat → Nat) (h : isT t) : Rf D (t) 10 = some (t + 17) := by rcases h with rfl | rfl <;> rfl
theorem tk_1 {t : Nat} (h : isT t) : kd (t + 1) = (23, 4) := by rcases h with rfl | rfl <;> rfl
theorem tl_1 {t : Nat} (h : isT t) : t + 1 < 153 := by rcases h with rfl | rfl <;> decide
theorem tk_2 {t : Nat} (h : isT t) : kd (t + 2) = (23, 8) := by rcases h with rfl | rfl <;> rfl
theorem tl_2 {t : Nat} (h : isT t) : t + 2 < 153 := by rcases h with rfl | rfl <;> decide
theorem tk_3 {t : Nat} (h : isT t) : kd (t + 3) = (20, 8) := by rcases h with rfl | rfl <;> rfl
theorem tl_3 {t : Nat} (h : isT t) : t + 3 < 153 := by rcases h with rfl | rfl <;> decide
theorem tk_4 {t : Nat} (h : isT t) : kd (t + 4) = (20, 8) := by rcases h with rfl | rfl <;> rfl
theorem tl_4 {t : Nat} (h : isT t) : t + 4 < 153 := by rcases h with rfl | rfl <;> decide
theorem tk_5 {t : Nat} (h : isT t) : kd (t + 5) = (20, 8) := by rcases h with rfl | rfl <;> rfl
theorem tl_5 {t : Nat} (h : isT t) : t + 5 < 153 := by rcases h with rfl | rfl <;> decide
theorem tk_6 {t : Nat} (h : isT t) : kd (t + 6) = (20, 5) := by rcases h with rfl | rfl <;> rfl
theorem tl_6 {t : Nat} (h : isT t) : t + 6 < 153 := by rcases h with rfl | rfl <;> decide
theorem tk_7 {t : Nat} (h : isT t) : kd (t + 7) = (20, 5) := by rcases h with rfl | rfl <;> rfl
theorem tl_7 {t : Nat} (h : isT t) : t + 7 < 153 := by rcases h with rfl | rfl <;> decide
theorem tk_8 {t : Nat} (h : isT t) : kd (t + 8) = (20, 5) := by rcases h with rfl | rfl <;> rfl
theorem tl_8 {t : Nat} (h : isT t) : t + 8 < 153 := by rcases h with rfl | rfl <;> decide
theorem tk_9 {t : Nat} (h : isT t) : kd (t + 9) = (20, 5) := by rcases h with rfl | rfl <;> rfl
theorem tl_9 {t : Nat} (h : isT t) : t + 9 < 153 := by rcases h with rfl | rfl <;> decide
theorem tk_10 {t : Nat} (h : isT t) : kd (t + 10) = (0, 6) := by rcases h with rfl | rfl <;> rfl
theorem tl_10 {t : Nat} (h : isT t) : t + 10 < 153 := by rcases h with rfl | rfl <;> decide
theorem tr_10_0 {t : Nat} (D : Nat → Nat) (h : isT t) : Rf D (t + 10) 0 = some (t + 11) := by rcases h with rfl | rfl <;> rfl
theorem tr_10_1 {t : Nat} (D : Nat → Nat) (h : isT t) : Rf D (t + 10) 1 = some (t + 12) := by rcases h with rfl | rfl <;> rfl
theorem tr_10_2 {t : Nat} (D : Nat → Nat) (h : isT t) : Rf D (t + 10) 2 = some (t + 13) := by rcases h with rfl | rfl <;> rfl
theorem tr_10_3 {t : Nat} (D : Nat → Nat) (h : isT t) : Rf D (t + 10) 3 = some (t + 14) := by rcases h with rfl | rfl <;> rfl
theorem tr_10_4 {t : Nat} (D : Nat → Nat) (h : isT t) : Rf D (t + 10) 4 = some (t + 15) := by rcases h with rfl | rfl <;> rfl
theorem tr_10_5 {t : Nat} (D : Nat → Nat) (h : isT t) : Rf D (t + 10) 5 = some (t + 16) := by rcases h with rfl | rfl <;> rfl
theorem tk_11 {t : Nat} (h : isT t) : kd (t + 11) = (20, 8) := by rcases h with rfl | rfl <;> rfl
theorem tl_11 {t : Nat} (h : isT t) : t + 11 < 153 := by rcases h with rfl | rfl <;> decide
theorem tk_12 {t : Nat} (h : isT t) : kd (t + 12) = (20, 8) := by rcases h with rfl | rfl <;> rfl
theorem tl_12 {t : Nat} (h : isT t) : t + 12 < 153 := by rcases h with rfl | rfl <;> decide
theorem tk_13 {t : Nat} (h : isT t) : kd (t + 13) = (20, 8) := by rcases h with rfl | rfl <;> rfl
theorem tl_13 {t : Nat} (h : isT t) : t + 13 < 153 := by rcases h with rfl | rfl <;> decide
theorem tk_14 {t : Nat} (h : isT t) : kd (t + 14) = (20, 8) := by rcases h with rfl | rfl <;> rfl
theorem tl_14 {t : Nat} (h : isT t) : t + 14 < 153 := by rcases h with rfl | rfl <;> decide
theorem tk_15 {t : Nat} (h : isT t) : kd (t + 15) = (20, 64) := by rcases h with rfl | rfl <;> rfl
theorem tl_15 {t : Nat} (h : isT t) : t + 15 < 153 := by rcases h with rfl | rfl <;> decide
theorem tk_16 {t : Nat} (h : isT t) : kd (t + 16) = (20, 64) := by rcases h with rfl | rfl <;> rfl
theorem tl_16 {t : Nat} (h : isT t) : t + 16 < 153 := by rcases h with rfl | rfl <;> decide
theorem tk_17 {t : Nat} (h : isT t) : kd (t + 17) = (1, 4) := by rcases h with rfl | rfl <;> rfl
theorem tl_17 {t : Nat} (h : isT t) : t + 17 < 153 := by rcases h with rfl | rfl <;> decide
theorem tr_17_0 {t : Nat} (D : Nat → Nat) (h : isT t) : Rf D (t + 17) 0 = some (t + 18) := by rcases h with rfl | rfl <;> rfl
theorem tr_17_1 {t : Nat} (D : Nat → Nat) (h : isT t) : Rf D (t + 17) 1 = some (t + 19) := by rcases h with rfl | rfl <;> rfl
theorem tk_18 {t : Nat} (h : isT t) : kd (t + 18) = (20, 300) := by rcases h with rfl | rfl <;> rfl
theorem tl_18 {t : Nat} (h : isT t) : t + 18 < 153 := by rcases h with rfl | rfl <;> decide
theorem tk_19 {t : Nat} (h : isT t) : kd (t + 19) = (20, 40) := by rcases h with rfl | rfl <;> rfl
theorem tl_19 {t : Nat} (h : isT t) : t + 19 < 153 := by rcases h with rfl | rfl <;> decide
abbrev isS (s : Nat) : Prop := s = 47 ∨ s = 49 ∨ s = 95 ∨ s = 97 ∨ s = 99
theorem sk_0 {s : Nat} (h : isS s) : kd s = (7, 1) := by rcases h with rfl | rfl | rfl | rfl | rfl <;> rfl
theorem sk_1 {s : Nat} (h : isS s) : kd (s + 1) = (20, 30) := by rcases h with rfl | rfl | rfl | rfl | rfl <;> rfl
theorem sl_0 {s : Nat} (h : isS s) : s < 153 := by rcases h with rfl | rfl | rfl | rfl | rfl <;> decide
theorem sl_1 {s : Nat} (h : isS s) : s + 1 < 153 := by rcases h with rfl | rfl | rfl | rfl | rfl <;> decide
theorem sr_0_0 {s : Nat} (D : Nat → Nat) (h : isS s) : Rf D s 0 = some (s + 1) := by rcases h with rfl | rfl | rfl | rfl | rfl <;> rfl
section BASE
variable {l : Launch} {G : mG} {μ : mM} {d nf : Nat} {I : mI} {X : mX} {pc : Nat} {ls : List (Option mV)} {st : List mV} {Q : mQ}
theorem wp_eqst {st' : List mV} (h : st = st') (k : WP l G μ d nf I X pc ls st' Q) : WP l G μ d nf I X pc ls st Q := by rw [h]; exact k
theorem wp_eqls {ls' : List (Option mV)} (h : ls = ls') (k : WP l G μ d nf I X pc ls' st Q) : WP l G μ d nf I X pc ls st Q := by rw [h]; exact k
theorem wp_eqI {I' : mI} (h : I = I') (k : WP l G μ d nf I' X pc ls st Q) : WP l G μ d nf I X pc ls st Q := by rw [h]; exact k
theorem wp_eqX {X' : mX} (h : X = X') (k : WP l G μ d nf I X' pc ls st Q) : WP l G μ d nf I X pc ls st Q := by rw [h]; exact k
theorem wq_istore_n {n : Fin 4} {x : Int} (i : Nat) (ls' : List (Option mV)) (hd : decode μ.2.1 pc = .ok (.istore_n n, 1)) (hi : (n : Nat) = i) (hn : nj ls i = true) (hm : i < μ.2.2.1) (hls : ls.set i (some (vI x)) = ls') (k : WP l G μ d nf I X (pc + 1) ls' st Q) : WP l G μ d nf I X pc ls (vI x :: st) Q := wp_istore_n i hd hi hn hm (hls ▸ k)
theorem wq_istore {i : Nat} {x : Int} (ls' : List (Option mV)) (hd : decode μ.2.1 pc = .ok (.istore i, 2)) (hn : nj ls i = true) (hm : i < μ.2.2.1) (hls : ls.set i (some (vI x)) = ls') (k : WP l G μ d nf I X (pc + 2) ls' st Q) : WP l G μ d nf I X pc ls (vI x :: st) Q := wp_istore hd hn hm (hls ▸ k)
theorem wq_astore_n {n : Fin 4} {x : Nat} (i : Nat) (ls' : List (Option mV)) (hd : decode μ.2.1 pc = .ok (.astore_n n, 1)) (hi : (n : Nat) = i) (hn : nj ls i = true) (hm : i < μ.2.2.1) (hls : ls.set i (some (vR x)) = ls') (k : WP l G μ d nf I X (pc + 1) ls' st Q) : WP l G μ d nf I X pc ls (vR x :: st) Q := wp_astore_n i hd hi hn hm (hls ▸ k)
theorem wq_astore {i : Nat} {x : Nat} (ls' : List (Option mV)) (hd : decode μ.2.1 pc = .ok (.astore i, 2)) (hn : nj ls i = true) (hm : i < μ.2.2.1) (hls : ls.set i (some (vR x)) = ls') (k : WP l G μ d nf I X (pc + 2) ls' st Q) : WP l G μ d nf I X pc ls (vR x :: st) Q := wp_astore hd hn hm (hls ▸ k)
theorem wq_lstore_n {n : Fin 4} {x : Int} (i : Nat) (ls' : List (Option mV)) (hd : decode μ.2.1 pc = .ok (.lstore_n n, 1)) (hi : (n : Nat) = i) (hn : nj ls i = true) (hm : i + 1 < μ.2.2.1) (hls : (ls.set i (some (vJ x))).set (i + 1) none = ls') (k : WP l G μ d nf I X (pc + 1) ls' st Q) : WP l G μ d nf I X pc ls (vJ x :: st) Q := wp_lstore_n i hd hi hn hm (hls ▸ k)
theorem wq_lstore {i : Nat} {x : Int} (ls' : List (Option mV)) (hd : decode μ.2.1 pc = .ok (.lstore i, 2)) (hn : nj ls i = true) (hm : i + 1 < μ.2.2.1) (hls : (ls.set i (some (vJ x))).set (i + 1) none = ls') (k : WP l G μ d nf I X (pc + 2) ls' st Q) : WP l G μ d nf I X pc ls (vJ x :: st) Q := wp_lstore hd hn hm (hls ▸ k)
theorem wq_iinc {i : Nat} {n x : Int} (ls' : List (Option mV)) (hd : decode μ.2.1 pc = .ok (.iinc i n, 3)) (hl : ls[i]? = some (some (vI x))) (hn : nj ls i = true) (hm : i < μ.2.2.1) (hls : ls.set i (some (vI (x + n))) = ls') (k : WP l G μ d nf I X (pc + 3) ls' st Q) : WP l G μ d nf I X pc ls st Q := wp_iinc hd hl hn hm (hls ▸ k)
/-- a boolean answer, both ways -/
theorem q_bool {c : Prop} [Decidable c] {Q : mQ} {I : mI} {X : mX} (h1 : c → Q (some (vI 1)) I X) (h0 : ¬ c → Q (some (vI 0)) I X) : Q (some (vI (if c then 1 else 0))) I X := by
  by_cases h : c
  · rw [if_pos h]; exact h1 h
  · rw [if_neg h]; exact h0 h
theorem wp_max {own : String} {idx : Nat} {x y : Int} (hd : decode μ.2.1 pc = .ok (.invokestatic idx, 3)) (ho : μ.1.cls = own) (hw : Cond.methodLink own idx Lib.Math.max.name ∈ gw) (hx : inR x) (hy : inR y) (hcat : (st.map mcat).sum ≤ 8) (hdp : 0 < d) (k : WP l G μ d nf I X (pc + 3) ls (vI (if x < y then y else x) :: st) Q) : WP l G μ d nf I X pc ls (vI y :: vI x :: st) Q := by
  intro p e R s m args below meth c H locs cells slots n0 cl hF hR hH hL
  have hts := hF.2.2.2.2.2.2.2.1
  have g1 : Cond.static Lib.Math.max.name ∈ gw := gw_of (by decide +kernel) rfl
  have g2 : Cond.initialized "java/lang/Math" ∈ gw := gw_of (by decide +kernel) rfl
  have g3 : Cond.code Lib.Math.max.name Lib.Math.max.code 2 (some .int) ∈ gw := gw_of (by decide +kernel) rfl
  have w := k p e R s m args below meth c H locs cells slots n0 cl hF hR hH hL
  obtain ⟨r1, r2, r3, r4, r5, r6, r7, r8, r9⟩ := hR
  have hsl := sl_mono X.2.2 nf r6 r7
  refine va_mmax (x := Int32.ofInt x) (y := Int32.ofInt y) hF.1 hF.2.1 (by rw [hF.2.2.2.2.1]; exact hL.1.symm) (by rw [← ho]; exact hF.2.2.2.2.2.1) (hts _ hw) (hts _ g1) (hts _ g2) (hts _ g3) (by omega) (by rw [cat_map]; omega) (by omega) (by omega) hd ?_
  have e2 : (if Int32.ofInt x < Int32.ofInt y then Int32.ofInt y else Int32.ofInt x) = Int32.ofInt (if x < y then y else x) := by
    by_cases h : x < y
    · rw [if_pos h, if_pos ((oi_lt hx hy).mpr h)]
    · rw [if_neg h, if_neg (fun z => h ((oi_lt hx hy).mp z))]
  rw [e2]
  exact w
theorem wp_min {own : String} {idx : Nat} {x y : Int} (hd : decode μ.2.1 pc = .ok (.invokestatic idx, 3)) (ho : μ.1.cls = own) (hw : Cond.methodLink own idx Lib.Math.min.name ∈ gw) (hx : inR x) (hy : inR y) (hcat : (st.map mcat).sum ≤ 8) (hdp : 0 < d) (k : WP l G μ d nf I X (pc + 3) ls (vI (if y < x then y else x) :: st) Q) : WP l G μ d nf I X pc ls (vI y :: vI x :: st) Q := by
  intro p e R s m args below meth c H locs cells slots n0 cl hF hR hH hL
  have hts := hF.2.2.2.2.2.2.2.1
  have g1 : Cond.static Lib.Math.min.name ∈ gw := gw_of (by decide +kernel) rfl
  have g2 : Cond.initialized "java/lang/Math" ∈ gw := gw_of (by decide +kernel) rfl
  have g3 : Cond.code Lib.Math.min.name Lib.Math.min.code 2 (some .int) ∈ gw := gw_of (by decide +kernel) rfl
  have w := k p e R s m args below meth c H locs cells slots n0 cl hF hR hH hL
  obtain ⟨r1, r2, r3, r4, r5, r6, r7, r8, r9⟩ := hR
  have hsl := sl_mono X.2.2 nf r6 r7
  refine va_mmin (x := Int32.ofInt x) (y := Int32.ofInt y) hF.1 hF.2.1 (by rw [hF.2.2.2.2.1]; exact hL.1.symm) (by rw [← ho]; exact hF.2.2.2.2.2.1) (hts _ hw) (hts _ g1) (hts _ g2) (hts _ g3) (by omega) (by rw [cat_map]; omega) (by omega) (by omega) hd ?_
  have e2 : (if Int32.ofInt y < Int32.ofInt x then Int32.ofInt y else Int32.ofInt x) = Int32.ofInt (if y < x then y else x) := by
    by_cases h : y < x
    · rw [if_pos h, if_pos ((oi_lt hy hx).mpr h)]
    · rw [if_neg h, if_neg (fun z => h ((oi_lt hy hx).mp z))]
  rw [e2]
  exact w
end BASE
/-! loops -/
def iterN {σ : Type} (f : Nat → σ → σ) (s0 : σ) : Nat → σ
  | 0 => s0
  | n + 1 => f n (iterN f s0 n)
theorem loop_it {σ : Type} (H : Nat → σ → Prop) (f : Nat → σ → σ) (s0 : σ) (n : Nat) (hs : ∀ i, i < n → H (i + 1) (f i (iterN f s0 i)) → H i (iterN f s0 i)) (he : H n (iterN f s0 n)) : H 0 s0 := by
  have h : ∀ k i, i + k = n → H i (iterN f s0 i) := by
    intro k
    induction k with
    | zero => intro i hi; rw [show i = n by omega]; exact he
    | succ k ih => intro i hi; exact hs i (by omega) (ih (i + 1) (by omega))
  exact h n 0 (by omega)
/-- a loop that may leave early: from the end backwards -/
theorem loop_dn (H : Nat → Prop) (n : Nat) (he : H n) (hs : ∀ i, i < n → H (i + 1) → H i) : ∀ i, i ≤ n → H i := by
  have h : ∀ k i, i + k = n → H i := by
    intro k
    induction k with
    | zero => intro i hi; rw [show i = n by omega]; exact he
    | succ k ih => intro i hi; exact hs i (by omega) (ih (i + 1) (by omega))
  intro i hi
  exact h (n - i) i (by omega)
