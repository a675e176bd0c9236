/-! THE LABELS: kinds, lengths and refs behind the two constructors -/
def kTL : List Nat := [10, 8, 20, 1, 20, 20, 20, 20, 20, 1, 20, 20, 20, 20, 20, 7, 20, 20, 6, 23, 7, 20, 20, 7, 20, 20, 7, 20, 20, 7, 20, 20, 7, 20, 20, 7, 20, 20, 7, 20, 20, 7, 20, 20, 7, 20, 20, 7, 20, 20, 7, 20, 20, 7, 20, 20, 7, 20, 20, 7, 20, 20, 7, 20, 20, 7, 20, 20, 7, 20, 20, 7, 20, 20, 7, 20, 20, 7, 20, 20, 4, 23, 20, 7, 20, 20, 7, 20, 20, 0, 20, 20, 3, 9, 21, 21, 5, 20, 20, 2, 21, 21, 11, 20, 20, 20, 20, 20, 20, 20, 20, 20, 20, 20, 20, 22, 20, 21, 21, 20, 20]
def nTL : List Nat := [0, 0, 220, 0, 5, 5, 5, 5, 5, 0, 5, 5, 5, 5, 5, 0, 5, 5, 0, 20, 0, 5, 5, 0, 5, 5, 0, 5, 5, 0, 5, 5, 0, 5, 5, 0, 5, 5, 0, 5, 5, 0, 5, 5, 0, 5, 5, 0, 5, 5, 0, 5, 5, 0, 5, 5, 0, 5, 5, 0, 5, 5, 0, 5, 5, 0, 5, 5, 0, 5, 5, 0, 5, 5, 0, 5, 5, 0, 5, 5, 0, 2, 2, 0, 5, 5, 0, 5, 5, 0, 15, 15, 0, 0, 32, 32, 0, 5, 5, 0, 9, 9, 0, 220, 4, 10, 15, 4, 5, 5, 5, 14, 280, 28, 2, 2, 30, 32, 32, 5, 9]
def rTL : List ((Nat × Nat) × Nat) := [((0, 0), 1), ((0, 3), 15), ((0, 4), 18), ((0, 5), 80), ((0, 6), 89), ((0, 7), 92), ((0, 8), 93), ((0, 9), 96), ((0, 10), 99), ((1, 0), 2), ((3, 7), 4), ((3, 8), 5), ((3, 9), 6), ((3, 10), 7), ((3, 11), 8), ((9, 7), 10), ((9, 8), 11), ((9, 9), 12), ((9, 10), 13), ((9, 11), 14), ((15, 0), 16), ((15, 1), 17), ((18, 0), 19), ((19, 0), 20), ((19, 1), 23), ((19, 2), 26), ((19, 3), 29), ((19, 4), 32), ((19, 5), 35), ((19, 6), 38), ((19, 7), 41), ((19, 8), 44), ((19, 9), 47), ((19, 10), 50), ((19, 11), 53), ((19, 12), 56), ((19, 13), 59), ((19, 14), 62), ((19, 15), 65), ((19, 16), 68), ((19, 17), 71), ((19, 18), 74), ((19, 19), 77), ((20, 0), 21), ((20, 1), 22), ((23, 0), 24), ((23, 1), 25), ((26, 0), 27), ((26, 1), 28), ((29, 0), 30), ((29, 1), 31), ((32, 0), 33), ((32, 1), 34), ((35, 0), 36), ((35, 1), 37), ((38, 0), 39), ((38, 1), 40), ((41, 0), 42), ((41, 1), 43), ((44, 0), 45), ((44, 1), 46), ((47, 0), 48), ((47, 1), 49), ((50, 0), 51), ((50, 1), 52), ((53, 0), 54), ((53, 1), 55), ((56, 0), 57), ((56, 1), 58), ((59, 0), 60), ((59, 1), 61), ((62, 0), 63), ((62, 1), 64), ((65, 0), 66), ((65, 1), 67), ((68, 0), 69), ((68, 1), 70), ((71, 0), 72), ((71, 1), 73), ((74, 0), 75), ((74, 1), 76), ((77, 0), 78), ((77, 1), 79), ((80, 0), 81), ((80, 1), 82), ((81, 0), 83), ((81, 1), 86), ((83, 0), 84), ((83, 1), 85), ((86, 0), 87), ((86, 1), 88), ((89, 0), 90), ((89, 1), 91), ((93, 6), 94), ((93, 7), 95), ((96, 0), 97), ((96, 1), 98), ((99, 0), 100), ((99, 1), 101), ((102, 1), 103), ((102, 12), 104), ((102, 13), 105), ((102, 14), 106), ((102, 18), 107), ((102, 19), 108), ((102, 20), 109), ((102, 21), 110), ((102, 22), 111), ((102, 23), 112), ((102, 25), 113), ((102, 26), 114), ((102, 27), 115), ((102, 30), 116), ((102, 31), 117), ((102, 32), 118), ((102, 33), 119), ((102, 34), 120)]
def kT (a : Nat) : Nat := kTL.getD a 99
def nT (a : Nat) : Nat := nTL.getD a 0
def rT0 (a k : Nat) : Option Nat := match rTL.find? (fun q => q.1.1 == a && q.1.2 == k) with
  | some q => some q.2
  | none => none
def rT (b : Bool) (a k : Nat) : Option Nat := if a = 0 ∧ k = 1 then some (cond b 9 3) else if a = 0 ∧ k = 2 then some (cond b 3 9) else rT0 a k
def Sh (b : Bool) (M : ab_M) : Prop := mK M = kT ∧ mN M = nT ∧ mR M = rT b ∧ mZ M = 121 ∧ mS M = 1584
theorem kT_0 : kT 0 = 10 := rfl
theorem kT_1 : kT 1 = 8 := rfl
theorem kT_2 : kT 2 = 20 := rfl
theorem kT_3 : kT 3 = 1 := rfl
theorem kT_4 : kT 4 = 20 := rfl
theorem kT_5 : kT 5 = 20 := rfl
theorem kT_6 : kT 6 = 20 := rfl
theorem kT_7 : kT 7 = 20 := rfl
theorem kT_8 : kT 8 = 20 := rfl
theorem kT_9 : kT 9 = 1 := rfl
theorem kT_10 : kT 10 = 20 := rfl
theorem kT_11 : kT 11 = 20 := rfl
theorem kT_12 : kT 12 = 20 := rfl
theorem kT_13 : kT 13 = 20 := rfl
theorem kT_14 : kT 14 = 20 := rfl
theorem kT_15 : kT 15 = 7 := rfl
theorem kT_16 : kT 16 = 20 := rfl
theorem kT_17 : kT 17 = 20 := rfl
theorem kT_18 : kT 18 = 6 := rfl
theorem kT_19 : kT 19 = 23 := rfl
theorem kT_20 : kT 20 = 7 := rfl
theorem kT_21 : kT 21 = 20 := rfl
theorem kT_22 : kT 22 = 20 := rfl
theorem kT_23 : kT 23 = 7 := rfl
theorem kT_24 : kT 24 = 20 := rfl
theorem kT_25 : kT 25 = 20 := rfl
theorem kT_26 : kT 26 = 7 := rfl
theorem kT_27 : kT 27 = 20 := rfl
theorem kT_28 : kT 28 = 20 := rfl
theorem kT_29 : kT 29 = 7 := rfl
theorem kT_30 : kT 30 = 20 := rfl
theorem kT_31 : kT 31 = 20 := rfl
theorem kT_32 : kT 32 = 7 := rfl
theorem kT_33 : kT 33 = 20 := rfl
theorem kT_34 : kT 34 = 20 := rfl
theorem kT_35 : kT 35 = 7 := rfl
theorem kT_36 : kT 36 = 20 := rfl
theorem kT_37 : kT 37 = 20 := rfl
theorem kT_38 : kT 38 = 7 := rfl
theorem kT_39 : kT 39 = 20 := rfl
theorem kT_40 : kT 40 = 20 := rfl
theorem kT_41 : kT 41 = 7 := rfl
theorem kT_42 : kT 42 = 20 := rfl
theorem kT_43 : kT 43 = 20 := rfl
theorem kT_44 : kT 44 = 7 := rfl
theorem kT_45 : kT 45 = 20 := rfl
theorem kT_46 : kT 46 = 20 := rfl
theorem kT_47 : kT 47 = 7 := rfl
theorem kT_48 : kT 48 = 20 := rfl
theorem kT_49 : kT 49 = 20 := rfl
theorem kT_50 : kT 50 = 7 := rfl
theorem kT_51 : kT 51 = 20 := rfl
theorem kT_52 : kT 52 = 20 := rfl
theorem kT_53 : kT 53 = 7 := rfl
theorem kT_54 : kT 54 = 20 := rfl
theorem kT_55 : kT 55 = 20 := rfl
theorem kT_56 : kT 56 = 7 := rfl
theorem kT_57 : kT 57 = 20 := rfl
theorem kT_58 : kT 58 = 20 := rfl
theorem kT_59 : kT 59 = 7 := rfl
theorem kT_60 : kT 60 = 20 := rfl
theorem kT_61 : kT 61 = 20 := rfl
theorem kT_62 : kT 62 = 7 := rfl
theorem kT_63 : kT 63 = 20 := rfl
theorem kT_64 : kT 64 = 20 := rfl
theorem kT_65 : kT 65 = 7 := rfl
theorem kT_66 : kT 66 = 20 := rfl
theorem kT_67 : kT 67 = 20 := rfl
theorem kT_68 : kT 68 = 7 := rfl
theorem kT_69 : kT 69 = 20 := rfl
theorem kT_70 : kT 70 = 20 := rfl
theorem kT_71 : kT 71 = 7 := rfl
theorem kT_72 : kT 72 = 20 := rfl
theorem kT_73 : kT 73 = 20 := rfl
theorem kT_74 : kT 74 = 7 := rfl
theorem kT_75 : kT 75 = 20 := rfl
theorem kT_76 : kT 76 = 20 := rfl
theorem kT_77 : kT 77 = 7 := rfl
theorem kT_78 : kT 78 = 20 := rfl
theorem kT_79 : kT 79 = 20 := rfl
theorem kT_80 : kT 80 = 4 := rfl
theorem kT_81 : kT 81 = 23 := rfl
theorem kT_82 : kT 82 = 20 := rfl
theorem kT_83 : kT 83 = 7 := rfl
theorem kT_84 : kT 84 = 20 := rfl
theorem kT_85 : kT 85 = 20 := rfl
theorem kT_86 : kT 86 = 7 := rfl
theorem kT_87 : kT 87 = 20 := rfl
theorem kT_88 : kT 88 = 20 := rfl
theorem kT_89 : kT 89 = 0 := rfl
theorem kT_90 : kT 90 = 20 := rfl
theorem kT_91 : kT 91 = 20 := rfl
theorem kT_92 : kT 92 = 3 := rfl
theorem kT_93 : kT 93 = 9 := rfl
theorem kT_94 : kT 94 = 21 := rfl
theorem kT_95 : kT 95 = 21 := rfl
theorem kT_96 : kT 96 = 5 := rfl
theorem kT_97 : kT 97 = 20 := rfl
theorem kT_98 : kT 98 = 20 := rfl
theorem kT_99 : kT 99 = 2 := rfl
theorem kT_100 : kT 100 = 21 := rfl
theorem kT_101 : kT 101 = 21 := rfl
theorem kT_102 : kT 102 = 11 := rfl
theorem kT_103 : kT 103 = 20 := rfl
theorem kT_104 : kT 104 = 20 := rfl
theorem kT_105 : kT 105 = 20 := rfl
theorem kT_106 : kT 106 = 20 := rfl
theorem kT_107 : kT 107 = 20 := rfl
theorem kT_108 : kT 108 = 20 := rfl
theorem kT_109 : kT 109 = 20 := rfl
theorem kT_110 : kT 110 = 20 := rfl
theorem kT_111 : kT 111 = 20 := rfl
theorem kT_112 : kT 112 = 20 := rfl
theorem kT_113 : kT 113 = 20 := rfl
theorem kT_114 : kT 114 = 20 := rfl
theorem kT_115 : kT 115 = 22 := rfl
theorem kT_116 : kT 116 = 20 := rfl
theorem kT_117 : kT 117 = 21 := rfl
theorem kT_118 : kT 118 = 21 := rfl
theorem kT_119 : kT 119 = 20 := rfl
theorem kT_120 : kT 120 = 20 := rfl
theorem nT_2 : nT 2 = 220 := rfl
theorem nT_4 : nT 4 = 5 := rfl
theorem nT_5 : nT 5 = 5 := rfl
theorem nT_6 : nT 6 = 5 := rfl
theorem nT_7 : nT 7 = 5 := rfl
theorem nT_8 : nT 8 = 5 := rfl
theorem nT_10 : nT 10 = 5 := rfl
theorem nT_11 : nT 11 = 5 := rfl
theorem nT_12 : nT 12 = 5 := rfl
theorem nT_13 : nT 13 = 5 := rfl
theorem nT_14 : nT 14 = 5 := rfl
theorem nT_16 : nT 16 = 5 := rfl
theorem nT_17 : nT 17 = 5 := rfl
theorem nT_19 : nT 19 = 20 := rfl
theorem nT_21 : nT 21 = 5 := rfl
theorem nT_22 : nT 22 = 5 := rfl
theorem nT_24 : nT 24 = 5 := rfl
theorem nT_25 : nT 25 = 5 := rfl
theorem nT_27 : nT 27 = 5 := rfl
theorem nT_28 : nT 28 = 5 := rfl
theorem nT_30 : nT 30 = 5 := rfl
theorem nT_31 : nT 31 = 5 := rfl
theorem nT_33 : nT 33 = 5 := rfl
theorem nT_34 : nT 34 = 5 := rfl
theorem nT_36 : nT 36 = 5 := rfl
theorem nT_37 : nT 37 = 5 := rfl
theorem nT_39 : nT 39 = 5 := rfl
theorem nT_40 : nT 40 = 5 := rfl
theorem nT_42 : nT 42 = 5 := rfl
theorem nT_43 : nT 43 = 5 := rfl
theorem nT_45 : nT 45 = 5 := rfl
theorem nT_46 : nT 46 = 5 := rfl
theorem nT_48 : nT 48 = 5 := rfl
theorem nT_49 : nT 49 = 5 := rfl
theorem nT_51 : nT 51 = 5 := rfl
theorem nT_52 : nT 52 = 5 := rfl
theorem nT_54 : nT 54 = 5 := rfl
theorem nT_55 : nT 55 = 5 := rfl
theorem nT_57 : nT 57 = 5 := rfl
theorem nT_58 : nT 58 = 5 := rfl
theorem nT_60 : nT 60 = 5 := rfl
theorem nT_61 : nT 61 = 5 := rfl
theorem nT_63 : nT 63 = 5 := rfl
theorem nT_64 : nT 64 = 5 := rfl
theorem nT_66 : nT 66 = 5 := rfl
theorem nT_67 : nT 67 = 5 := rfl
theorem nT_69 : nT 69 = 5 := rfl
theorem nT_70 : nT 70 = 5 := rfl
theorem nT_72 : nT 72 = 5 := rfl
theorem nT_73 : nT 73 = 5 := rfl
theorem nT_75 : nT 75 = 5 := rfl
theorem nT_76 : nT 76 = 5 := rfl
theorem nT_78 : nT 78 = 5 := rfl
theorem nT_79 : nT 79 = 5 := rfl
theorem nT_81 : nT 81 = 2 := rfl
theorem nT_82 : nT 82 = 2 := rfl
theorem nT_84 : nT 84 = 5 := rfl
theorem nT_85 : nT 85 = 5 := rfl
theorem nT_87 : nT 87 = 5 := rfl
theorem nT_88 : nT 88 = 5 := rfl
theorem nT_90 : nT 90 = 15 := rfl
theorem nT_91 : nT 91 = 15 := rfl
theorem nT_94 : nT 94 = 32 := rfl
theorem nT_95 : nT 95 = 32 := rfl
theorem nT_97 : nT 97 = 5 := rfl
theorem nT_98 : nT 98 = 5 := rfl
theorem nT_100 : nT 100 = 9 := rfl
theorem nT_101 : nT 101 = 9 := rfl
theorem nT_103 : nT 103 = 220 := rfl
theorem nT_104 : nT 104 = 4 := rfl
theorem nT_105 : nT 105 = 10 := rfl
theorem nT_106 : nT 106 = 15 := rfl
theorem nT_107 : nT 107 = 4 := rfl
theorem nT_108 : nT 108 = 5 := rfl
theorem nT_109 : nT 109 = 5 := rfl
theorem nT_110 : nT 110 = 5 := rfl
theorem nT_111 : nT 111 = 14 := rfl
theorem nT_112 : nT 112 = 280 := rfl
theorem nT_113 : nT 113 = 28 := rfl
theorem nT_114 : nT 114 = 2 := rfl
theorem nT_115 : nT 115 = 2 := rfl
theorem nT_116 : nT 116 = 30 := rfl
theorem nT_117 : nT 117 = 32 := rfl
theorem nT_118 : nT 118 = 32 := rfl
theorem nT_119 : nT 119 = 5 := rfl
theorem nT_120 : nT 120 = 9 := rfl
theorem rT_0_0 {b : Bool} : rT b 0 0 = some 1 := rfl
theorem rT_0_1 {b : Bool} : rT b 0 1 = some (cond b 9 3) := rfl
theorem rT_0_2 {b : Bool} : rT b 0 2 = some (cond b 3 9) := rfl
theorem rT_0_3 {b : Bool} : rT b 0 3 = some 15 := rfl
theorem rT_0_4 {b : Bool} : rT b 0 4 = some 18 := rfl
theorem rT_0_5 {b : Bool} : rT b 0 5 = some 80 := rfl
theorem rT_0_6 {b : Bool} : rT b 0 6 = some 89 := rfl
theorem rT_0_7 {b : Bool} : rT b 0 7 = some 92 := rfl
theorem rT_0_8 {b : Bool} : rT b 0 8 = some 93 := rfl
theorem rT_0_9 {b : Bool} : rT b 0 9 = some 96 := rfl
theorem rT_0_10 {b : Bool} : rT b 0 10 = some 99 := rfl
theorem rT_1_0 {b : Bool} : rT b 1 0 = some 2 := rfl
theorem rT_3_7 {b : Bool} : rT b 3 7 = some 4 := rfl
theorem rT_3_8 {b : Bool} : rT b 3 8 = some 5 := rfl
theorem rT_3_9 {b : Bool} : rT b 3 9 = some 6 := rfl
theorem rT_3_10 {b : Bool} : rT b 3 10 = some 7 := rfl
theorem rT_3_11 {b : Bool} : rT b 3 11 = some 8 := rfl
theorem rT_9_7 {b : Bool} : rT b 9 7 = some 10 := rfl
theorem rT_9_8 {b : Bool} : rT b 9 8 = some 11 := rfl
theorem rT_9_9 {b : Bool} : rT b 9 9 = some 12 := rfl
theorem rT_9_10 {b : Bool} : rT b 9 10 = some 13 := rfl
theorem rT_9_11 {b : Bool} : rT b 9 11 = some 14 := rfl
theorem rT_15_0 {b : Bool} : rT b 15 0 = some 16 := rfl
theorem rT_15_1 {b : Bool} : rT b 15 1 = some 17 := rfl
theorem rT_18_0 {b : Bool} : rT b 18 0 = some 19 := rfl
theorem rT_19_0 {b : Bool} : rT b 19 0 = some 20 := rfl
theorem rT_19_1 {b : Bool} : rT b 19 1 = some 23 := rfl
theorem rT_19_2 {b : Bool} : rT b 19 2 = some 26 := rfl
theorem rT_19_3 {b : Bool} : rT b 19 3 = some 29 := rfl
theorem rT_19_4 {b : Bool} : rT b 19 4 = some 32 := rfl
theorem rT_19_5 {b : Bool} : rT b 19 5 = some 35 := rfl
theorem rT_19_6 {b : Bool} : rT b 19 6 = some 38 := rfl
theorem rT_19_7 {b : Bool} : rT b 19 7 = some 41 := rfl
theorem rT_19_8 {b : Bool} : rT b 19 8 = some 44 := rfl
theorem rT_19_9 {b : Bool} : rT b 19 9 = some 47 := rfl
theorem rT_19_10 {b : Bool} : rT b 19 10 = some 50 := rfl
theorem rT_19_11 {b : Bool} : rT b 19 11 = some 53 := rfl
theorem rT_19_12 {b : Bool} : rT b 19 12 = some 56 := rfl
theorem rT_19_13 {b : Bool} : rT b 19 13 = some 59 := rfl
theorem rT_19_14 {b : Bool} : rT b 19 14 = some 62 := rfl
theorem rT_19_15 {b : Bool} : rT b 19 15 = some 65 := rfl
theorem rT_19_16 {b : Bool} : rT b 19 16 = some 68 := rfl
theorem rT_19_17 {b : Bool} : rT b 19 17 = some 71 := rfl
theorem rT_19_18 {b : Bool} : rT b 19 18 = some 74 := rfl
theorem rT_19_19 {b : Bool} : rT b 19 19 = some 77 := rfl
theorem rT_20_0 {b : Bool} : rT b 20 0 = some 21 := rfl
theorem rT_20_1 {b : Bool} : rT b 20 1 = some 22 := rfl
theorem rT_23_0 {b : Bool} : rT b 23 0 = some 24 := rfl
theorem rT_23_1 {b : Bool} : rT b 23 1 = some 25 := rfl
theorem rT_26_0 {b : Bool} : rT b 26 0 = some 27 := rfl
theorem rT_26_1 {b : Bool} : rT b 26 1 = some 28 := rfl
theorem rT_29_0 {b : Bool} : rT b 29 0 = some 30 := rfl
theorem rT_29_1 {b : Bool} : rT b 29 1 = some 31 := rfl
theorem rT_32_0 {b : Bool} : rT b 32 0 = some 33 := rfl
theorem rT_32_1 {b : Bool} : rT b 32 1 = some 34 := rfl
theorem rT_35_0 {b : Bool} : rT b 35 0 = some 36 := rfl
theorem rT_35_1 {b : Bool} : rT b 35 1 = some 37 := rfl
theorem rT_38_0 {b : Bool} : rT b 38 0 = some 39 := rfl
theorem rT_38_1 {b : Bool} : rT b 38 1 = some 40 := rfl
theorem rT_41_0 {b : Bool} : rT b 41 0 = some 42 := rfl
theorem rT_41_1 {b : Bool} : rT b 41 1 = some 43 := rfl
theorem rT_44_0 {b : Bool} : rT b 44 0 = some 45 := rfl
theorem rT_44_1 {b : Bool} : rT b 44 1 = some 46 := rfl
theorem rT_47_0 {b : Bool} : rT b 47 0 = some 48 := rfl
theorem rT_47_1 {b : Bool} : rT b 47 1 = some 49 := rfl
theorem rT_50_0 {b : Bool} : rT b 50 0 = some 51 := rfl
theorem rT_50_1 {b : Bool} : rT b 50 1 = some 52 := rfl
theorem rT_53_0 {b : Bool} : rT b 53 0 = some 54 := rfl
theorem rT_53_1 {b : Bool} : rT b 53 1 = some 55 := rfl
theorem rT_56_0 {b : Bool} : rT b 56 0 = some 57 := rfl
theorem rT_56_1 {b : Bool} : rT b 56 1 = some 58 := rfl
theorem rT_59_0 {b : Bool} : rT b 59 0 = some 60 := rfl
theorem rT_59_1 {b : Bool} : rT b 59 1 = some 61 := rfl
theorem rT_62_0 {b : Bool} : rT b 62 0 = some 63 := rfl
theorem rT_62_1 {b : Bool} : rT b 62 1 = some 64 := rfl
theorem rT_65_0 {b : Bool} : rT b 65 0 = some 66 := rfl
theorem rT_65_1 {b : Bool} : rT b 65 1 = some 67 := rfl
theorem rT_68_0 {b : Bool} : rT b 68 0 = some 69 := rfl
theorem rT_68_1 {b : Bool} : rT b 68 1 = some 70 := rfl
theorem rT_71_0 {b : Bool} : rT b 71 0 = some 72 := rfl
theorem rT_71_1 {b : Bool} : rT b 71 1 = some 73 := rfl
theorem rT_74_0 {b : Bool} : rT b 74 0 = some 75 := rfl
theorem rT_74_1 {b : Bool} : rT b 74 1 = some 76 := rfl
theorem rT_77_0 {b : Bool} : rT b 77 0 = some 78 := rfl
theorem rT_77_1 {b : Bool} : rT b 77 1 = some 79 := rfl
theorem rT_80_0 {b : Bool} : rT b 80 0 = some 81 := rfl
theorem rT_80_1 {b : Bool} : rT b 80 1 = some 82 := rfl
theorem rT_81_0 {b : Bool} : rT b 81 0 = some 83 := rfl
theorem rT_81_1 {b : Bool} : rT b 81 1 = some 86 := rfl
theorem rT_83_0 {b : Bool} : rT b 83 0 = some 84 := rfl
theorem rT_83_1 {b : Bool} : rT b 83 1 = some 85 := rfl
theorem rT_86_0 {b : Bool} : rT b 86 0 = some 87 := rfl
theorem rT_86_1 {b : Bool} : rT b 86 1 = some 88 := rfl
theorem rT_89_0 {b : Bool} : rT b 89 0 = some 90 := rfl
theorem rT_89_1 {b : Bool} : rT b 89 1 = some 91 := rfl
theorem rT_93_6 {b : Bool} : rT b 93 6 = some 94 := rfl
theorem rT_93_7 {b : Bool} : rT b 93 7 = some 95 := rfl
theorem rT_96_0 {b : Bool} : rT b 96 0 = some 97 := rfl
theorem rT_96_1 {b : Bool} : rT b 96 1 = some 98 := rfl
theorem rT_99_0 {b : Bool} : rT b 99 0 = some 100 := rfl
theorem rT_99_1 {b : Bool} : rT b 99 1 = some 101 := rfl
theorem rT_102_1 {b : Bool} : rT b 102 1 = some 103 := rfl
theorem rT_102_12 {b : Bool} : rT b 102 12 = some 104 := rfl
theorem rT_102_13 {b : Bool} : rT b 102 13 = some 105 := rfl
theorem rT_102_14 {b : Bool} : rT b 102 14 = some 106 := rfl
theorem rT_102_18 {b : Bool} : rT b 102 18 = some 107 := rfl
theorem rT_102_19 {b : Bool} : rT b 102 19 = some 108 := rfl
theorem rT_102_20 {b : Bool} : rT b 102 20 = some 109 := rfl
theorem rT_102_21 {b : Bool} : rT b 102 21 = some 110 := rfl
theorem rT_102_22 {b : Bool} : rT b 102 22 = some 111 := rfl
theorem rT_102_23 {b : Bool} : rT b 102 23 = some 112 := rfl
theorem rT_102_25 {b : Bool} : rT b 102 25 = some 113 := rfl
theorem rT_102_26 {b : Bool} : rT b 102 26 = some 114 := rfl
theorem rT_102_27 {b : Bool} : rT b 102 27 = some 115 := rfl
theorem rT_102_30 {b : Bool} : rT b 102 30 = some 116 := rfl
theorem rT_102_31 {b : Bool} : rT b 102 31 = some 117 := rfl
theorem rT_102_32 {b : Bool} : rT b 102 32 = some 118 := rfl
theorem rT_102_33 {b : Bool} : rT b 102 33 = some 119 := rfl
theorem rT_102_34 {b : Bool} : rT b 102 34 = some 120 := rfl
theorem cond_t {α : Type} (x y : α) : (cond true x y) = x := rfl
theorem cond_f {α : Type} (x y : α) : (cond false x y) = y := rfl
theorem tc_0 : Int32.toNatClampNeg 0 = 0 := by decide
theorem tc_1 : Int32.toNatClampNeg 1 = 1 := by decide
theorem tc_2 : Int32.toNatClampNeg 2 = 2 := by decide
theorem tc_3 : Int32.toNatClampNeg 3 = 3 := by decide
theorem tc_4 : Int32.toNatClampNeg 4 = 4 := by decide
theorem tc_5 : Int32.toNatClampNeg 5 = 5 := by decide
theorem tc_6 : Int32.toNatClampNeg 6 = 6 := by decide
theorem tc_7 : Int32.toNatClampNeg 7 = 7 := by decide
theorem tc_8 : Int32.toNatClampNeg 8 = 8 := by decide
theorem tc_9 : Int32.toNatClampNeg 9 = 9 := by decide
theorem tc_10 : Int32.toNatClampNeg 10 = 10 := by decide
theorem tc_11 : Int32.toNatClampNeg 11 = 11 := by decide
theorem tc_12 : Int32.toNatClampNeg 12 = 12 := by decide
theorem tc_13 : Int32.toNatClampNeg 13 = 13 := by decide
theorem tc_14 : Int32.toNatClampNeg 14 = 14 := by decide
theorem tc_15 : Int32.toNatClampNeg 15 = 15 := by decide
theorem tc_16 : Int32.toNatClampNeg 16 = 16 := by decide
theorem tc_17 : Int32.toNatClampNeg 17 = 17 := by decide
theorem tc_18 : Int32.toNatClampNeg 18 = 18 := by decide
theorem tc_19 : Int32.toNatClampNeg 19 = 19 := by decide
theorem tc_20 : Int32.toNatClampNeg 20 = 20 := by decide
theorem tc_21 : Int32.toNatClampNeg 21 = 21 := by decide
theorem tc_22 : Int32.toNatClampNeg 22 = 22 := by decide
theorem tc_23 : Int32.toNatClampNeg 23 = 23 := by decide
theorem tc_24 : Int32.toNatClampNeg 24 = 24 := by decide
theorem tc_25 : Int32.toNatClampNeg 25 = 25 := by decide
theorem tc_26 : Int32.toNatClampNeg 26 = 26 := by decide
theorem tc_27 : Int32.toNatClampNeg 27 = 27 := by decide
theorem tc_28 : Int32.toNatClampNeg 28 = 28 := by decide
theorem tc_29 : Int32.toNatClampNeg 29 = 29 := by decide
theorem tc_30 : Int32.toNatClampNeg 30 = 30 := by decide
theorem tc_31 : Int32.toNatClampNeg 31 = 31 := by decide
theorem tc_32 : Int32.toNatClampNeg 32 = 32 := by decide
theorem an_0 : (0 : Int32) &&& 31 = 0 := by decide
theorem an_1 : (1 : Int32) &&& 31 = 1 := by decide
theorem an_2 : (2 : Int32) &&& 31 = 2 := by decide
theorem an_3 : (3 : Int32) &&& 31 = 3 := by decide
theorem an_4 : (4 : Int32) &&& 31 = 4 := by decide
theorem an_5 : (5 : Int32) &&& 31 = 5 := by decide
