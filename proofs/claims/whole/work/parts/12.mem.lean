/-! THE MEMORY once both objects are made: mk n m g I J: n cells, m places, I the ints (and bytes) and J the longs by address and place, g what lies elsewhere -/
def sh_3 (i : Nat → Int32) (j : Nat → Int64) : zC := .inr (11, [.int (i 0), .long (j 1), .long (j 2), .ref 4, .ref 12, .int (i 5), .ref 13, .ref 16, .ref 33, .ref 50, .ref 56, .ref 62, .ref 64, .ref 66, .ref 69, .ref 72, .ref 73, .int (i 17)])
def sh_4 (i : Nat → Int32) (j : Nat → Int64) : zC := .inr (9, [.ref 5, .ref 6, .ref 7])
def sh_5 (i : Nat → Int32) (j : Nat → Int64) : zC := .inl (.int, 4, .inl i)
def sh_6 (i : Nat → Int32) (j : Nat → Int64) : zC := .inl (.int, 4, .inl i)
def sh_7 (i : Nat → Int32) (j : Nat → Int64) : zC := .inl (.array .long, 4, .inr (.inr (.inr (.inr (fun k => ([8, 9, 10, 11] : List Nat)[k]?)))))
def sh_8 (i : Nat → Int32) (j : Nat → Int64) : zC := .inl (.long, 60, .inr (.inl j))
def sh_9 (i : Nat → Int32) (j : Nat → Int64) : zC := .inl (.long, 60, .inr (.inl j))
def sh_10 (i : Nat → Int32) (j : Nat → Int64) : zC := .inl (.long, 60, .inr (.inl j))
def sh_11 (i : Nat → Int32) (j : Nat → Int64) : zC := .inl (.long, 60, .inr (.inl j))
def sh_12 (i : Nat → Int32) (j : Nat → Int64) : zC := .inl (.byte, 900, .inl i)
def sh_13 (i : Nat → Int32) (j : Nat → Int64) : zC := .inr (4, [.ref 14, .ref (i 1).toNatClampNeg, .int (i 2), .int (i 3), .int (i 4), .int (i 5), .int (i 6), .int (i 7), .long (j 8), .int (i 9), .int (i 10), .int (i 11)])
def sh_14 (i : Nat → Int32) (j : Nat → Int64) : zC := .inl (.long, 27, .inr (.inl j))
def sh_15 (i : Nat → Int32) (j : Nat → Int64) : zC := .inl (.byte, 0, .inl i)
def sh_16 (i : Nat → Int32) (j : Nat → Int64) : zC := .inr (7, [.int (i 0), .int (i 1), .int (i 2), .int (i 3), .int (i 4), .int (i 5), .ref 17, .ref 18, .ref 19, .ref 20, .ref 21, .ref 22, .ref 23, .ref 24, .ref 25, .ref 26, .ref 27, .ref 28, .ref 29, .ref 30])
def sh_17 (i : Nat → Int32) (j : Nat → Int64) : zC := .inl (.long, 6, .inr (.inl j))
def sh_18 (i : Nat → Int32) (j : Nat → Int64) : zC := .inl (.int, 6, .inl i)
def sh_19 (i : Nat → Int32) (j : Nat → Int64) : zC := .inl (.int, 6, .inl i)
def sh_20 (i : Nat → Int32) (j : Nat → Int64) : zC := .inl (.long, 12, .inr (.inl j))
def sh_21 (i : Nat → Int32) (j : Nat → Int64) : zC := .inl (.int, 12, .inl i)
def sh_22 (i : Nat → Int32) (j : Nat → Int64) : zC := .inl (.int, 12, .inl i)
def sh_23 (i : Nat → Int32) (j : Nat → Int64) : zC := .inl (.int, 12, .inl i)
def sh_24 (i : Nat → Int32) (j : Nat → Int64) : zC := .inl (.int, 12, .inl i)
def sh_25 (i : Nat → Int32) (j : Nat → Int64) : zC := .inl (.int, 12, .inl i)
def sh_26 (i : Nat → Int32) (j : Nat → Int64) : zC := .inl (.int, 24, .inl i)
def sh_27 (i : Nat → Int32) (j : Nat → Int64) : zC := .inl (.int, 12, .inl i)
def sh_28 (i : Nat → Int32) (j : Nat → Int64) : zC := .inl (.int, 12, .inl i)
def sh_29 (i : Nat → Int32) (j : Nat → Int64) : zC := .inl (.int, 72, .inl i)
def sh_30 (i : Nat → Int32) (j : Nat → Int64) : zC := .inr (3, [.ref 31, .ref 32, .int (i 2)])
def sh_31 (i : Nat → Int32) (j : Nat → Int64) : zC := .inl (.int, 12, .inl i)
def sh_32 (i : Nat → Int32) (j : Nat → Int64) : zC := .inl (.int, 12, .inl i)
def sh_33 (i : Nat → Int32) (j : Nat → Int64) : zC := .inr (7, [.int (i 0), .int (i 1), .int (i 2), .int (i 3), .int (i 4), .int (i 5), .ref 34, .ref 35, .ref 36, .ref 37, .ref 38, .ref 39, .ref 40, .ref 41, .ref 42, .ref 43, .ref 44, .ref 45, .ref 46, .ref 47])
def sh_34 (i : Nat → Int32) (j : Nat → Int64) : zC := .inl (.long, 6, .inr (.inl j))
def sh_35 (i : Nat → Int32) (j : Nat → Int64) : zC := .inl (.int, 6, .inl i)
def sh_36 (i : Nat → Int32) (j : Nat → Int64) : zC := .inl (.int, 6, .inl i)
def sh_37 (i : Nat → Int32) (j : Nat → Int64) : zC := .inl (.long, 12, .inr (.inl j))
def sh_38 (i : Nat → Int32) (j : Nat → Int64) : zC := .inl (.int, 12, .inl i)
def sh_39 (i : Nat → Int32) (j : Nat → Int64) : zC := .inl (.int, 12, .inl i)
def sh_40 (i : Nat → Int32) (j : Nat → Int64) : zC := .inl (.int, 12, .inl i)
def sh_41 (i : Nat → Int32) (j : Nat → Int64) : zC := .inl (.int, 12, .inl i)
def sh_42 (i : Nat → Int32) (j : Nat → Int64) : zC := .inl (.int, 12, .inl i)
def sh_43 (i : Nat → Int32) (j : Nat → Int64) : zC := .inl (.int, 24, .inl i)
def sh_44 (i : Nat → Int32) (j : Nat → Int64) : zC := .inl (.int, 12, .inl i)
def sh_45 (i : Nat → Int32) (j : Nat → Int64) : zC := .inl (.int, 12, .inl i)
def sh_46 (i : Nat → Int32) (j : Nat → Int64) : zC := .inl (.int, 72, .inl i)
def sh_47 (i : Nat → Int32) (j : Nat → Int64) : zC := .inr (3, [.ref 48, .ref 49, .int (i 2)])
def sh_48 (i : Nat → Int32) (j : Nat → Int64) : zC := .inl (.int, 12, .inl i)
def sh_49 (i : Nat → Int32) (j : Nat → Int64) : zC := .inl (.int, 12, .inl i)
def sh_50 (i : Nat → Int32) (j : Nat → Int64) : zC := .inr (6, [.int (i 0), .int (i 1), .int (i 2), .ref 51, .ref 52, .ref 53, .ref 54, .ref 55])
def sh_51 (i : Nat → Int32) (j : Nat → Int64) : zC := .inl (.int, 60, .inl i)
def sh_52 (i : Nat → Int32) (j : Nat → Int64) : zC := .inl (.int, 60, .inl i)
def sh_53 (i : Nat → Int32) (j : Nat → Int64) : zC := .inl (.int, 60, .inl i)
def sh_54 (i : Nat → Int32) (j : Nat → Int64) : zC := .inl (.int, 60, .inl i)
def sh_55 (i : Nat → Int32) (j : Nat → Int64) : zC := .inl (.int, 60, .inl i)
def sh_56 (i : Nat → Int32) (j : Nat → Int64) : zC := .inr (6, [.int (i 0), .int (i 1), .int (i 2), .ref 57, .ref 58, .ref 59, .ref 60, .ref 61])
def sh_57 (i : Nat → Int32) (j : Nat → Int64) : zC := .inl (.int, 60, .inl i)
def sh_58 (i : Nat → Int32) (j : Nat → Int64) : zC := .inl (.int, 60, .inl i)
def sh_59 (i : Nat → Int32) (j : Nat → Int64) : zC := .inl (.int, 60, .inl i)
def sh_60 (i : Nat → Int32) (j : Nat → Int64) : zC := .inl (.int, 60, .inl i)
def sh_61 (i : Nat → Int32) (j : Nat → Int64) : zC := .inl (.int, 60, .inl i)
def sh_62 (i : Nat → Int32) (j : Nat → Int64) : zC := .inr (2, [.int (i 0), .int (i 1), .int (i 2), .int (i 3), .int (i 4), .int (i 5), .int (i 6), .int (i 7), .ref 63])
def sh_63 (i : Nat → Int32) (j : Nat → Int64) : zC := .inl (.int, 60, .inl i)
def sh_64 (i : Nat → Int32) (j : Nat → Int64) : zC := .inr (2, [.int (i 0), .int (i 1), .int (i 2), .int (i 3), .int (i 4), .int (i 5), .int (i 6), .int (i 7), .ref 65])
def sh_65 (i : Nat → Int32) (j : Nat → Int64) : zC := .inl (.int, 60, .inl i)
def sh_66 (i : Nat → Int32) (j : Nat → Int64) : zC := .inr (10, [.ref 67, .ref 68])
def sh_67 (i : Nat → Int32) (j : Nat → Int64) : zC := .inl (.int, 12, .inl i)
def sh_68 (i : Nat → Int32) (j : Nat → Int64) : zC := .inl (.byte, 4096, .inl i)
def sh_69 (i : Nat → Int32) (j : Nat → Int64) : zC := .inr (5, [.ref 70, .int (i 1), .ref 71, .int (i 3)])
def sh_70 (i : Nat → Int32) (j : Nat → Int64) : zC := .inl (.int, 12, .inl i)
def sh_71 (i : Nat → Int32) (j : Nat → Int64) : zC := .inl (.int, 12, .inl i)
def sh_72 (i : Nat → Int32) (j : Nat → Int64) : zC := .inl (.object "NineNames$Town", 3, .inr (.inr (.inr (.inr (fun k => ([74, 97, 120] : List Nat)[k]?)))))
def sh_73 (i : Nat → Int32) (j : Nat → Int64) : zC := .inl (.object "NineNames$Script", 3, .inr (.inr (.inr (.inr (fun k => ([91, 114, 137] : List Nat)[k]?)))))
def sh_74 (i : Nat → Int32) (j : Nat → Int64) : zC := .inr (7, [.int (i 0), .int (i 1), .int (i 2), .int (i 3), .int (i 4), .int (i 5), .ref 75, .ref 76, .ref 77, .ref 78, .ref 79, .ref 80, .ref 81, .ref 82, .ref 83, .ref 84, .ref 85, .ref 86, .ref 87, .ref 88])
def sh_75 (i : Nat → Int32) (j : Nat → Int64) : zC := .inl (.long, 6, .inr (.inl j))
def sh_76 (i : Nat → Int32) (j : Nat → Int64) : zC := .inl (.int, 6, .inl i)
def sh_77 (i : Nat → Int32) (j : Nat → Int64) : zC := .inl (.int, 6, .inl i)
def sh_78 (i : Nat → Int32) (j : Nat → Int64) : zC := .inl (.long, 12, .inr (.inl j))
def sh_79 (i : Nat → Int32) (j : Nat → Int64) : zC := .inl (.int, 12, .inl i)
def sh_80 (i : Nat → Int32) (j : Nat → Int64) : zC := .inl (.int, 12, .inl i)
def sh_81 (i : Nat → Int32) (j : Nat → Int64) : zC := .inl (.int, 12, .inl i)
def sh_82 (i : Nat → Int32) (j : Nat → Int64) : zC := .inl (.int, 12, .inl i)
def sh_83 (i : Nat → Int32) (j : Nat → Int64) : zC := .inl (.int, 12, .inl i)
def sh_84 (i : Nat → Int32) (j : Nat → Int64) : zC := .inl (.int, 24, .inl i)
def sh_85 (i : Nat → Int32) (j : Nat → Int64) : zC := .inl (.int, 12, .inl i)
def sh_86 (i : Nat → Int32) (j : Nat → Int64) : zC := .inl (.int, 12, .inl i)
def sh_87 (i : Nat → Int32) (j : Nat → Int64) : zC := .inl (.int, 72, .inl i)
def sh_88 (i : Nat → Int32) (j : Nat → Int64) : zC := .inr (3, [.ref 89, .ref 90, .int (i 2)])
def sh_89 (i : Nat → Int32) (j : Nat → Int64) : zC := .inl (.int, 12, .inl i)
def sh_90 (i : Nat → Int32) (j : Nat → Int64) : zC := .inl (.int, 12, .inl i)
def sh_91 (i : Nat → Int32) (j : Nat → Int64) : zC := .inr (6, [.int (i 0), .int (i 1), .int (i 2), .ref 92, .ref 93, .ref 94, .ref 95, .ref 96])
def sh_92 (i : Nat → Int32) (j : Nat → Int64) : zC := .inl (.int, 60, .inl i)
def sh_93 (i : Nat → Int32) (j : Nat → Int64) : zC := .inl (.int, 60, .inl i)
def sh_94 (i : Nat → Int32) (j : Nat → Int64) : zC := .inl (.int, 60, .inl i)
def sh_95 (i : Nat → Int32) (j : Nat → Int64) : zC := .inl (.int, 60, .inl i)
def sh_96 (i : Nat → Int32) (j : Nat → Int64) : zC := .inl (.int, 60, .inl i)
def sh_97 (i : Nat → Int32) (j : Nat → Int64) : zC := .inr (7, [.int (i 0), .int (i 1), .int (i 2), .int (i 3), .int (i 4), .int (i 5), .ref 98, .ref 99, .ref 100, .ref 101, .ref 102, .ref 103, .ref 104, .ref 105, .ref 106, .ref 107, .ref 108, .ref 109, .ref 110, .ref 111])
def sh_98 (i : Nat → Int32) (j : Nat → Int64) : zC := .inl (.long, 6, .inr (.inl j))
def sh_99 (i : Nat → Int32) (j : Nat → Int64) : zC := .inl (.int, 6, .inl i)
def sh_100 (i : Nat → Int32) (j : Nat → Int64) : zC := .inl (.int, 6, .inl i)
def sh_101 (i : Nat → Int32) (j : Nat → Int64) : zC := .inl (.long, 12, .inr (.inl j))
def sh_102 (i : Nat → Int32) (j : Nat → Int64) : zC := .inl (.int, 12, .inl i)
def sh_103 (i : Nat → Int32) (j : Nat → Int64) : zC := .inl (.int, 12, .inl i)
def sh_104 (i : Nat → Int32) (j : Nat → Int64) : zC := .inl (.int, 12, .inl i)
def sh_105 (i : Nat → Int32) (j : Nat → Int64) : zC := .inl (.int, 12, .inl i)
def sh_106 (i : Nat → Int32) (j : Nat → Int64) : zC := .inl (.int, 12, .inl i)
def sh_107 (i : Nat → Int32) (j : Nat → Int64) : zC := .inl (.int, 24, .inl i)
def sh_108 (i : Nat → Int32) (j : Nat → Int64) : zC := .inl (.int, 12, .inl i)
def sh_109 (i : Nat → Int32) (j : Nat → Int64) : zC := .inl (.int, 12, .inl i)
def sh_110 (i : Nat → Int32) (j : Nat → Int64) : zC := .inl (.int, 72, .inl i)
def sh_111 (i : Nat → Int32) (j : Nat → Int64) : zC := .inr (3, [.ref 112, .ref 113, .int (i 2)])
def sh_112 (i : Nat → Int32) (j : Nat → Int64) : zC := .inl (.int, 12, .inl i)
def sh_113 (i : Nat → Int32) (j : Nat → Int64) : zC := .inl (.int, 12, .inl i)
def sh_114 (i : Nat → Int32) (j : Nat → Int64) : zC := .inr (6, [.int (i 0), .int (i 1), .int (i 2), .ref 115, .ref 116, .ref 117, .ref 118, .ref 119])
def sh_115 (i : Nat → Int32) (j : Nat → Int64) : zC := .inl (.int, 60, .inl i)
def sh_116 (i : Nat → Int32) (j : Nat → Int64) : zC := .inl (.int, 60, .inl i)
def sh_117 (i : Nat → Int32) (j : Nat → Int64) : zC := .inl (.int, 60, .inl i)
def sh_118 (i : Nat → Int32) (j : Nat → Int64) : zC := .inl (.int, 60, .inl i)
def sh_119 (i : Nat → Int32) (j : Nat → Int64) : zC := .inl (.int, 60, .inl i)
def sh_120 (i : Nat → Int32) (j : Nat → Int64) : zC := .inr (7, [.int (i 0), .int (i 1), .int (i 2), .int (i 3), .int (i 4), .int (i 5), .ref 121, .ref 122, .ref 123, .ref 124, .ref 125, .ref 126, .ref 127, .ref 128, .ref 129, .ref 130, .ref 131, .ref 132, .ref 133, .ref 134])
def sh_121 (i : Nat → Int32) (j : Nat → Int64) : zC := .inl (.long, 6, .inr (.inl j))
def sh_122 (i : Nat → Int32) (j : Nat → Int64) : zC := .inl (.int, 6, .inl i)
def sh_123 (i : Nat → Int32) (j : Nat → Int64) : zC := .inl (.int, 6, .inl i)
def sh_124 (i : Nat → Int32) (j : Nat → Int64) : zC := .inl (.long, 12, .inr (.inl j))
def sh_125 (i : Nat → Int32) (j : Nat → Int64) : zC := .inl (.int, 12, .inl i)
def sh_126 (i : Nat → Int32) (j : Nat → Int64) : zC := .inl (.int, 12, .inl i)
def sh_127 (i : Nat → Int32) (j : Nat → Int64) : zC := .inl (.int, 12, .inl i)
def sh_128 (i : Nat → Int32) (j : Nat → Int64) : zC := .inl (.int, 12, .inl i)
def sh_129 (i : Nat → Int32) (j : Nat → Int64) : zC := .inl (.int, 12, .inl i)
def sh_130 (i : Nat → Int32) (j : Nat → Int64) : zC := .inl (.int, 24, .inl i)
def sh_131 (i : Nat → Int32) (j : Nat → Int64) : zC := .inl (.int, 12, .inl i)
def sh_132 (i : Nat → Int32) (j : Nat → Int64) : zC := .inl (.int, 12, .inl i)
def sh_133 (i : Nat → Int32) (j : Nat → Int64) : zC := .inl (.int, 72, .inl i)
def sh_134 (i : Nat → Int32) (j : Nat → Int64) : zC := .inr (3, [.ref 135, .ref 136, .int (i 2)])
def sh_135 (i : Nat → Int32) (j : Nat → Int64) : zC := .inl (.int, 12, .inl i)
def sh_136 (i : Nat → Int32) (j : Nat → Int64) : zC := .inl (.int, 12, .inl i)
def sh_137 (i : Nat → Int32) (j : Nat → Int64) : zC := .inr (6, [.int (i 0), .int (i 1), .int (i 2), .ref 138, .ref 139, .ref 140, .ref 141, .ref 142])
def sh_138 (i : Nat → Int32) (j : Nat → Int64) : zC := .inl (.int, 60, .inl i)
def sh_139 (i : Nat → Int32) (j : Nat → Int64) : zC := .inl (.int, 60, .inl i)
def sh_140 (i : Nat → Int32) (j : Nat → Int64) : zC := .inl (.int, 60, .inl i)
def sh_141 (i : Nat → Int32) (j : Nat → Int64) : zC := .inl (.int, 60, .inl i)
def sh_142 (i : Nat → Int32) (j : Nat → Int64) : zC := .inl (.int, 60, .inl i)
def sh_143 (i : Nat → Int32) (j : Nat → Int64) : zC := .inr (12, [.int (i 0), .int (i 1), .long (j 2), .long (j 3), .ref 144, .ref 145, .ref 146, .ref 147, .int (i 8), .int (i 9), .int (i 10), .int (i 11), .int (i 12), .int (i 13), .int (i 14), .int (i 15), .int (i 16), .int (i 17), .int (i 18), .long (j 19), .ref 148, .ref 149, .ref 150, .ref 151, .int (i 24), .int (i 25), .int (i 26), .ref 152, .ref 153, .ref 154, .ref 155, .int (i 31), .ref 156, .ref 157, .int (i 34), .int (i 35), .int (i 36), .int (i 37), .int (i 38), .int (i 39), .int (i 40), .int (i 41), .int (i 42)])
def sh_144 (i : Nat → Int32) (j : Nat → Int64) : zC := .inl (.int, 4, .inl i)
def sh_145 (i : Nat → Int32) (j : Nat → Int64) : zC := .inl (.int, 4, .inl i)
def sh_146 (i : Nat → Int32) (j : Nat → Int64) : zC := .inl (.long, 240, .inr (.inl j))
def sh_147 (i : Nat → Int32) (j : Nat → Int64) : zC := .inl (.byte, 900, .inl i)
def sh_148 (i : Nat → Int32) (j : Nat → Int64) : zC := .inl (.int, 2530, .inl i)
def sh_149 (i : Nat → Int32) (j : Nat → Int64) : zC := .inl (.int, 234, .inl i)
def sh_150 (i : Nat → Int32) (j : Nat → Int64) : zC := .inl (.int, 234, .inl i)
def sh_151 (i : Nat → Int32) (j : Nat → Int64) : zC := .inl (.long, 90, .inr (.inl j))
def sh_152 (i : Nat → Int32) (j : Nat → Int64) : zC := .inl (.long, 13, .inr (.inl j))
def sh_153 (i : Nat → Int32) (j : Nat → Int64) : zC := .inl (.int, 4096, .inl i)
def sh_154 (i : Nat → Int32) (j : Nat → Int64) : zC := .inl (.int, 12, .inl i)
def sh_155 (i : Nat → Int32) (j : Nat → Int64) : zC := .inl (.int, 12, .inl i)
def sh_156 (i : Nat → Int32) (j : Nat → Int64) : zC := .inl (.int, 6, .inl i)
def sh_157 (i : Nat → Int32) (j : Nat → Int64) : zC := .inl (.int, 5, .inl i)
def shL : List ((Nat → Int32) → (Nat → Int64) → zC) := [sh_3, sh_4, sh_5, sh_6, sh_7, sh_8, sh_9, sh_10, sh_11, sh_12, sh_13, sh_14, sh_15, sh_16, sh_17, sh_18, sh_19, sh_20, sh_21, sh_22, sh_23, sh_24, sh_25, sh_26, sh_27, sh_28, sh_29, sh_30, sh_31, sh_32, sh_33, sh_34, sh_35, sh_36, sh_37, sh_38, sh_39, sh_40, sh_41, sh_42, sh_43, sh_44, sh_45, sh_46, sh_47, sh_48, sh_49, sh_50, sh_51, sh_52, sh_53, sh_54, sh_55, sh_56, sh_57, sh_58, sh_59, sh_60, sh_61, sh_62, sh_63, sh_64, sh_65, sh_66, sh_67, sh_68, sh_69, sh_70, sh_71, sh_72, sh_73, sh_74, sh_75, sh_76, sh_77, sh_78, sh_79, sh_80, sh_81, sh_82, sh_83, sh_84, sh_85, sh_86, sh_87, sh_88, sh_89, sh_90, sh_91, sh_92, sh_93, sh_94, sh_95, sh_96, sh_97, sh_98, sh_99, sh_100, sh_101, sh_102, sh_103, sh_104, sh_105, sh_106, sh_107, sh_108, sh_109, sh_110, sh_111, sh_112, sh_113, sh_114, sh_115, sh_116, sh_117, sh_118, sh_119, sh_120, sh_121, sh_122, sh_123, sh_124, sh_125, sh_126, sh_127, sh_128, sh_129, sh_130, sh_131, sh_132, sh_133, sh_134, sh_135, sh_136, sh_137, sh_138, sh_139, sh_140, sh_141, sh_142, sh_143, sh_144, sh_145, sh_146, sh_147, sh_148, sh_149, sh_150, sh_151, sh_152, sh_153, sh_154, sh_155, sh_156, sh_157]
def sh (a : Nat) (i : Nat → Int32) (j : Nat → Int64) : zC := (shL.getD (a - 3) (fun _ _ => zdum)) i j
def mk (n m : Nat) (g : Nat → zC) (I : Nat → Nat → Int32) (J : Nat → Nat → Int64) : zH := (n, m, fun a => if a < 3 then g a else if a < 158 then sh a (I a) (J a) else g a)
def zu {α : Type} (I : Nat → Nat → α) (a k : Nat) (x : α) : Nat → Nat → α := fun b l => if b = a ∧ l = k then x else I b l
theorem zu_same {α : Type} (I : Nat → Nat → α) (a k : Nat) (x : α) : zu I a k x a k = x := by simp [zu]
theorem zu_row {α : Type} (I : Nat → Nat → α) (a k l : Nat) (x : α) : zu I a k x a l = if l = k then x else I a l := by simp [zu]
theorem zu_ne {α : Type} (I : Nat → Nat → α) {a b : Nat} (k l : Nat) (x : α) (h : b ≠ a) : zu I a k x b l = I b l := by simp [zu, h]
theorem zu_far {α : Type} (I : Nat → Nat → α) {a b : Nat} (k : Nat) (x : α) (h : b ≠ a) : zu I a k x b = I b := by funext l; simp [zu, h]
theorem zu_here (I : Nat → Nat → Int32) (a k : Nat) (x : Int32) : zu I a k x a = upd (I a) k x := by funext l; simp [zu, upd]
theorem zu_hereL (J : Nat → Nat → Int64) (a k : Nat) (x : Int64) : zu J a k x a = vp_updL (J a) k x := by funext l; simp [zu, vp_updL]
section MK
variable {n m : Nat} {g : Nat → zC} {I : Nat → Nat → Int32} {J : Nat → Nat → Int64}
theorem mk_at {a : Nat} (h3 : 3 ≤ a) (h : a < 158) : (mk n m g I J).2.2 a = sh a (I a) (J a) := by
  show (if a < 3 then _ else if a < 158 then _ else _) = _
  rw [if_neg (by omega), if_pos h]
theorem mk_up {a : Nat} (h3 : 3 ≤ a) (h : a < 158) (x : zC) (I' : Nat → Nat → Int32) (J' : Nat → Nat → Int64) (hI : ∀ b, b ≠ a → I' b = I b) (hJ : ∀ b, b ≠ a → J' b = J b) (hx : x = sh a (I' a) (J' a)) : ((mk n m g I J).1, (mk n m g I J).2.1, zup (mk n m g I J).2.2 a x) = mk n m g I' J' := by
  unfold mk
  refine Prod.ext rfl (Prod.ext rfl (funext fun b => ?_))
  show (if b = a then x else if b < 3 then g b else if b < 158 then sh b (I b) (J b) else g b) = if b < 3 then g b else if b < 158 then sh b (I' b) (J' b) else g b
  by_cases hb : b = a
  · subst hb
    rw [if_pos rfl, if_neg (by omega), if_pos h, hx]
  · rw [if_neg hb, hI b hb, hJ b hb]
theorem mk_qi {a len : Nat} (h3 : 3 ≤ a) (h : a < 158) (hs : ∀ i j, sh a i j = .inl (.int, len, .inl i)) (k : Nat) (x : Int32) : zqi (mk n m g I J) a k x = mk n m g (zu I a k x) J := by
  have hc : (mk n m g I J).2.2 a = .inl (.int, len, .inl (I a)) := (mk_at h3 h).trans (hs _ _)
  have e : zqi (mk n m g I J) a k x = ((mk n m g I J).1, (mk n m g I J).2.1, zup (mk n m g I J).2.2 a (.inl (.int, len, .inl (upd (I a) k x)))) := by simp [zqi, hc]
  rw [e]
  exact mk_up h3 h _ _ _ (fun b hb => zu_far I k x hb) (fun _ _ => rfl) (by rw [hs, zu_here])
theorem mk_qb {a len : Nat} (h3 : 3 ≤ a) (h : a < 158) (hs : ∀ i j, sh a i j = .inl (.byte, len, .inl i)) (k : Nat) (x : Int32) : zqb (mk n m g I J) a k x = mk n m g (zu I a k x) J := by
  have hc : (mk n m g I J).2.2 a = .inl (.byte, len, .inl (I a)) := (mk_at h3 h).trans (hs _ _)
  have e : zqb (mk n m g I J) a k x = ((mk n m g I J).1, (mk n m g I J).2.1, zup (mk n m g I J).2.2 a (.inl (.byte, len, .inl (upd (I a) k x)))) := by simp [zqb, hc]
  rw [e]
  exact mk_up h3 h _ _ _ (fun b hb => zu_far I k x hb) (fun _ _ => rfl) (by rw [hs, zu_here])
theorem mk_ql {a len : Nat} (h3 : 3 ≤ a) (h : a < 158) (hs : ∀ i j, sh a i j = .inl (.long, len, .inr (.inl j))) (k : Nat) (x : Int64) : zql (mk n m g I J) a k x = mk n m g I (zu J a k x) := by
  have hc : (mk n m g I J).2.2 a = .inl (.long, len, .inr (.inl (J a))) := (mk_at h3 h).trans (hs _ _)
  have e : zql (mk n m g I J) a k x = ((mk n m g I J).1, (mk n m g I J).2.1, zup (mk n m g I J).2.2 a (.inl (.long, len, .inr (.inl (vp_updL (J a) k x))))) := by simp [zql, hc]
  rw [e]
  exact mk_up h3 h _ _ _ (fun _ _ => rfl) (fun b hb => zu_far J k x hb) (by rw [hs, zu_hereL])
theorem mk_pf {a ci k : Nat} {fs : List Value} {v : Value} (h3 : 3 ≤ a) (h : a < 158) (I' : Nat → Nat → Int32) (J' : Nat → Nat → Int64) (hI : ∀ b, b ≠ a → I' b = I b) (hJ : ∀ b, b ≠ a → J' b = J b) (hs : sh a (I a) (J a) = .inr (ci, fs)) (hs2 : sh a (I' a) (J' a) = .inr (ci, fs.set k v)) : zpf (mk n m g I J) a k v = mk n m g I' J' := by
  have hc : (mk n m g I J).2.2 a = .inr (ci, fs) := (mk_at h3 h).trans hs
  have e : zpf (mk n m g I J) a k v = ((mk n m g I J).1, (mk n m g I J).2.1, zup (mk n m g I J).2.2 a (.inr (ci, fs.set k v))) := by simp [zpf, hc]
  rw [e]
  exact mk_up h3 h _ _ _ hI hJ hs2.symm
theorem zig_c {h : zH} {a k len : Nat} {f : Nat → Int32} (hc : h.2.2 a = .inl (.int, len, .inl f)) (hk : k < len) : zig h a k = some (f k) := by simp [zig, hc, hk]
theorem zbg_c {h : zH} {a k len : Nat} {f : Nat → Int32} (hc : h.2.2 a = .inl (.byte, len, .inl f)) (hk : k < len) : zbg h a k = some (f k) := by simp [zbg, hc, hk]
theorem zlg_c {h : zH} {a k len : Nat} {f : Nat → Int64} (hc : h.2.2 a = .inl (.long, len, .inr (.inl f))) (hk : k < len) : zlg h a k = some (f k) := by simp [zlg, hc, hk]
theorem zld_c {h : zH} {a k : Nat} {v : Int32} (hk : k < 2 ^ 31) (hc : zig h a k = some v) : zld h a (nI k) = some v := by
  unfold zld
  rw [if_neg (nI_pos hk), nI_clamp hk, hc]
theorem zbd_c {h : zH} {a k : Nat} {v : Int32} (hk : k < 2 ^ 31) (hc : zbg h a k = some v) : zbd h a (nI k) = some v := by
  unfold zbd
  rw [if_neg (nI_pos hk), nI_clamp hk, hc]

def isTown (b : Nat) : Prop := b = 16 ∨ b = 33 ∨ b = 74 ∨ b = 97 ∨ b = 120
theorem c_T0 {b : Nat} (hb : isTown b) : zcls (mk n m g I J) b = 7 := (by rcases hb with rfl | rfl | rfl | rfl | rfl <;> exact rfl)
theorem g_T0_0 {b : Nat} (hb : isTown b) : zgf (mk n m g I J) b 7 0 = some (.int (I b 0)) := (by rcases hb with rfl | rfl | rfl | rfl | rfl <;> exact rfl)
theorem p_T0_0 {b : Nat} (hb : isTown b) (x : Int32) : zpf (mk n m g I J) b 0 (.int x) = mk n m g (zu I b 0 x) J := (by rcases hb with rfl | rfl | rfl | rfl | rfl <;> exact mk_pf (by decide) (by decide) _ _ (fun b hb => zu_far I 0 x hb) (fun _ _ => rfl) rfl (by rw [zu_here]; rfl))
theorem g_T0_1 {b : Nat} (hb : isTown b) : zgf (mk n m g I J) b 7 1 = some (.int (I b 1)) := (by rcases hb with rfl | rfl | rfl | rfl | rfl <;> exact rfl)
theorem p_T0_1 {b : Nat} (hb : isTown b) (x : Int32) : zpf (mk n m g I J) b 1 (.int x) = mk n m g (zu I b 1 x) J := (by rcases hb with rfl | rfl | rfl | rfl | rfl <;> exact mk_pf (by decide) (by decide) _ _ (fun b hb => zu_far I 1 x hb) (fun _ _ => rfl) rfl (by rw [zu_here]; rfl))
theorem g_T0_2 {b : Nat} (hb : isTown b) : zgf (mk n m g I J) b 7 2 = some (.int (I b 2)) := (by rcases hb with rfl | rfl | rfl | rfl | rfl <;> exact rfl)
theorem p_T0_2 {b : Nat} (hb : isTown b) (x : Int32) : zpf (mk n m g I J) b 2 (.int x) = mk n m g (zu I b 2 x) J := (by rcases hb with rfl | rfl | rfl | rfl | rfl <;> exact mk_pf (by decide) (by decide) _ _ (fun b hb => zu_far I 2 x hb) (fun _ _ => rfl) rfl (by rw [zu_here]; rfl))
theorem g_T0_3 {b : Nat} (hb : isTown b) : zgf (mk n m g I J) b 7 3 = some (.int (I b 3)) := (by rcases hb with rfl | rfl | rfl | rfl | rfl <;> exact rfl)
theorem p_T0_3 {b : Nat} (hb : isTown b) (x : Int32) : zpf (mk n m g I J) b 3 (.int x) = mk n m g (zu I b 3 x) J := (by rcases hb with rfl | rfl | rfl | rfl | rfl <;> exact mk_pf (by decide) (by decide) _ _ (fun b hb => zu_far I 3 x hb) (fun _ _ => rfl) rfl (by rw [zu_here]; rfl))
theorem g_T0_4 {b : Nat} (hb : isTown b) : zgf (mk n m g I J) b 7 4 = some (.int (I b 4)) := (by rcases hb with rfl | rfl | rfl | rfl | rfl <;> exact rfl)
theorem p_T0_4 {b : Nat} (hb : isTown b) (x : Int32) : zpf (mk n m g I J) b 4 (.int x) = mk n m g (zu I b 4 x) J := (by rcases hb with rfl | rfl | rfl | rfl | rfl <;> exact mk_pf (by decide) (by decide) _ _ (fun b hb => zu_far I 4 x hb) (fun _ _ => rfl) rfl (by rw [zu_here]; rfl))
theorem g_T0_5 {b : Nat} (hb : isTown b) : zgf (mk n m g I J) b 7 5 = some (.int (I b 5)) := (by rcases hb with rfl | rfl | rfl | rfl | rfl <;> exact rfl)
theorem p_T0_5 {b : Nat} (hb : isTown b) (x : Int32) : zpf (mk n m g I J) b 5 (.int x) = mk n m g (zu I b 5 x) J := (by rcases hb with rfl | rfl | rfl | rfl | rfl <;> exact mk_pf (by decide) (by decide) _ _ (fun b hb => zu_far I 5 x hb) (fun _ _ => rfl) rfl (by rw [zu_here]; rfl))
theorem g_T0_6 {b : Nat} (hb : isTown b) : zgf (mk n m g I J) b 7 6 = some (.ref (b + 1)) := (by rcases hb with rfl | rfl | rfl | rfl | rfl <;> exact rfl)
theorem g_T0_7 {b : Nat} (hb : isTown b) : zgf (mk n m g I J) b 7 7 = some (.ref (b + 2)) := (by rcases hb with rfl | rfl | rfl | rfl | rfl <;> exact rfl)
theorem g_T0_8 {b : Nat} (hb : isTown b) : zgf (mk n m g I J) b 7 8 = some (.ref (b + 3)) := (by rcases hb with rfl | rfl | rfl | rfl | rfl <;> exact rfl)
theorem g_T0_9 {b : Nat} (hb : isTown b) : zgf (mk n m g I J) b 7 9 = some (.ref (b + 4)) := (by rcases hb with rfl | rfl | rfl | rfl | rfl <;> exact rfl)
theorem g_T0_10 {b : Nat} (hb : isTown b) : zgf (mk n m g I J) b 7 10 = some (.ref (b + 5)) := (by rcases hb with rfl | rfl | rfl | rfl | rfl <;> exact rfl)
theorem g_T0_11 {b : Nat} (hb : isTown b) : zgf (mk n m g I J) b 7 11 = some (.ref (b + 6)) := (by rcases hb with rfl | rfl | rfl | rfl | rfl <;> exact rfl)
theorem g_T0_12 {b : Nat} (hb : isTown b) : zgf (mk n m g I J) b 7 12 = some (.ref (b + 7)) := (by rcases hb with rfl | rfl | rfl | rfl | rfl <;> exact rfl)
theorem g_T0_13 {b : Nat} (hb : isTown b) : zgf (mk n m g I J) b 7 13 = some (.ref (b + 8)) := (by rcases hb with rfl | rfl | rfl | rfl | rfl <;> exact rfl)
theorem g_T0_14 {b : Nat} (hb : isTown b) : zgf (mk n m g I J) b 7 14 = some (.ref (b + 9)) := (by rcases hb with rfl | rfl | rfl | rfl | rfl <;> exact rfl)
theorem g_T0_15 {b : Nat} (hb : isTown b) : zgf (mk n m g I J) b 7 15 = some (.ref (b + 10)) := (by rcases hb with rfl | rfl | rfl | rfl | rfl <;> exact rfl)
theorem g_T0_16 {b : Nat} (hb : isTown b) : zgf (mk n m g I J) b 7 16 = some (.ref (b + 11)) := (by rcases hb with rfl | rfl | rfl | rfl | rfl <;> exact rfl)
theorem g_T0_17 {b : Nat} (hb : isTown b) : zgf (mk n m g I J) b 7 17 = some (.ref (b + 12)) := (by rcases hb with rfl | rfl | rfl | rfl | rfl <;> exact rfl)
theorem g_T0_18 {b : Nat} (hb : isTown b) : zgf (mk n m g I J) b 7 18 = some (.ref (b + 13)) := (by rcases hb with rfl | rfl | rfl | rfl | rfl <;> exact rfl)
theorem g_T0_19 {b : Nat} (hb : isTown b) : zgf (mk n m g I J) b 7 19 = some (.ref (b + 14)) := (by rcases hb with rfl | rfl | rfl | rfl | rfl <;> exact rfl)
theorem k_T1 {b : Nat} (hb : isTown b) {k : Nat} (hk : k < 6) : zlg (mk n m g I J) (b + 1) k = some (J (b + 1) k) := (by rcases hb with rfl | rfl | rfl | rfl | rfl <;> exact zlg_c rfl hk)
theorem q_T1 {b : Nat} (hb : isTown b) (k : Nat) (x : Int64) : zql (mk n m g I J) (b + 1) k x = mk n m g I (zu J (b + 1) k x) := (by rcases hb with rfl | rfl | rfl | rfl | rfl <;> exact mk_ql (by decide) (by decide) (fun _ _ => rfl) k x)
theorem n_T1 {b : Nat} (hb : isTown b) : zlen (mk n m g I J) (b + 1) = some 6 := (by rcases hb with rfl | rfl | rfl | rfl | rfl <;> exact rfl)
theorem k_T2 {b : Nat} (hb : isTown b) {k : Nat} (hk : k < 6) : zig (mk n m g I J) (b + 2) k = some (I (b + 2) k) := (by rcases hb with rfl | rfl | rfl | rfl | rfl <;> exact zig_c rfl hk)
theorem l_T2 {b : Nat} (hb : isTown b) {k : Nat} (hk : k < 6) : zld (mk n m g I J) (b + 2) (nI k) = some (I (b + 2) k) := zld_c (by omega) (k_T2 hb hk)
theorem q_T2 {b : Nat} (hb : isTown b) (k : Nat) (x : Int32) : zqi (mk n m g I J) (b + 2) k x = mk n m g (zu I (b + 2) k x) J := (by rcases hb with rfl | rfl | rfl | rfl | rfl <;> exact mk_qi (by decide) (by decide) (fun _ _ => rfl) k x)
theorem n_T2 {b : Nat} (hb : isTown b) : zlen (mk n m g I J) (b + 2) = some 6 := (by rcases hb with rfl | rfl | rfl | rfl | rfl <;> exact rfl)
theorem k_T3 {b : Nat} (hb : isTown b) {k : Nat} (hk : k < 6) : zig (mk n m g I J) (b + 3) k = some (I (b + 3) k) := (by rcases hb with rfl | rfl | rfl | rfl | rfl <;> exact zig_c rfl hk)
theorem l_T3 {b : Nat} (hb : isTown b) {k : Nat} (hk : k < 6) : zld (mk n m g I J) (b + 3) (nI k) = some (I (b + 3) k) := zld_c (by omega) (k_T3 hb hk)
theorem q_T3 {b : Nat} (hb : isTown b) (k : Nat) (x : Int32) : zqi (mk n m g I J) (b + 3) k x = mk n m g (zu I (b + 3) k x) J := (by rcases hb with rfl | rfl | rfl | rfl | rfl <;> exact mk_qi (by decide) (by decide) (fun _ _ => rfl) k x)
theorem n_T3 {b : Nat} (hb : isTown b) : zlen (mk n m g I J) (b + 3) = some 6 := (by rcases hb with rfl | rfl | rfl | rfl | rfl <;> exact rfl)
theorem k_T4 {b : Nat} (hb : isTown b) {k : Nat} (hk : k < 12) : zlg (mk n m g I J) (b + 4) k = some (J (b + 4) k) := (by rcases hb with rfl | rfl | rfl | rfl | rfl <;> exact zlg_c rfl hk)
theorem q_T4 {b : Nat} (hb : isTown b) (k : Nat) (x : Int64) : zql (mk n m g I J) (b + 4) k x = mk n m g I (zu J (b + 4) k x) := (by rcases hb with rfl | rfl | rfl | rfl | rfl <;> exact mk_ql (by decide) (by decide) (fun _ _ => rfl) k x)
theorem n_T4 {b : Nat} (hb : isTown b) : zlen (mk n m g I J) (b + 4) = some 12 := (by rcases hb with rfl | rfl | rfl | rfl | rfl <;> exact rfl)
theorem k_T5 {b : Nat} (hb : isTown b) {k : Nat} (hk : k < 12) : zig (mk n m g I J) (b + 5) k = some (I (b + 5) k) := (by rcases hb with rfl | rfl | rfl | rfl | rfl <;> exact zig_c rfl hk)
theorem l_T5 {b : Nat} (hb : isTown b) {k : Nat} (hk : k < 12) : zld (mk n m g I J) (b + 5) (nI k) = some (I (b + 5) k) := zld_c (by omega) (k_T5 hb hk)
theorem q_T5 {b : Nat} (hb : isTown b) (k : Nat) (x : Int32) : zqi (mk n m g I J) (b + 5) k x = mk n m g (zu I (b + 5) k x) J := (by rcases hb with rfl | rfl | rfl | rfl | rfl <;> exact mk_qi (by decide) (by decide) (fun _ _ => rfl) k x)
theorem n_T5 {b : Nat} (hb : isTown b) : zlen (mk n m g I J) (b + 5) = some 12 := (by rcases hb with rfl | rfl | rfl | rfl | rfl <;> exact rfl)
theorem k_T6 {b : Nat} (hb : isTown b) {k : Nat} (hk : k < 12) : zig (mk n m g I J) (b + 6) k = some (I (b + 6) k) := (by rcases hb with rfl | rfl | rfl | rfl | rfl <;> exact zig_c rfl hk)
theorem l_T6 {b : Nat} (hb : isTown b) {k : Nat} (hk : k < 12) : zld (mk n m g I J) (b + 6) (nI k) = some (I (b + 6) k) := zld_c (by omega) (k_T6 hb hk)
theorem q_T6 {b : Nat} (hb : isTown b) (k : Nat) (x : Int32) : zqi (mk n m g I J) (b + 6) k x = mk n m g (zu I (b + 6) k x) J := (by rcases hb with rfl | rfl | rfl | rfl | rfl <;> exact mk_qi (by decide) (by decide) (fun _ _ => rfl) k x)
theorem n_T6 {b : Nat} (hb : isTown b) : zlen (mk n m g I J) (b + 6) = some 12 := (by rcases hb with rfl | rfl | rfl | rfl | rfl <;> exact rfl)
theorem k_T7 {b : Nat} (hb : isTown b) {k : Nat} (hk : k < 12) : zig (mk n m g I J) (b + 7) k = some (I (b + 7) k) := (by rcases hb with rfl | rfl | rfl | rfl | rfl <;> exact zig_c rfl hk)
theorem l_T7 {b : Nat} (hb : isTown b) {k : Nat} (hk : k < 12) : zld (mk n m g I J) (b + 7) (nI k) = some (I (b + 7) k) := zld_c (by omega) (k_T7 hb hk)
theorem q_T7 {b : Nat} (hb : isTown b) (k : Nat) (x : Int32) : zqi (mk n m g I J) (b + 7) k x = mk n m g (zu I (b + 7) k x) J := (by rcases hb with rfl | rfl | rfl | rfl | rfl <;> exact mk_qi (by decide) (by decide) (fun _ _ => rfl) k x)
theorem n_T7 {b : Nat} (hb : isTown b) : zlen (mk n m g I J) (b + 7) = some 12 := (by rcases hb with rfl | rfl | rfl | rfl | rfl <;> exact rfl)
theorem k_T8 {b : Nat} (hb : isTown b) {k : Nat} (hk : k < 12) : zig (mk n m g I J) (b + 8) k = some (I (b + 8) k) := (by rcases hb with rfl | rfl | rfl | rfl | rfl <;> exact zig_c rfl hk)
theorem l_T8 {b : Nat} (hb : isTown b) {k : Nat} (hk : k < 12) : zld (mk n m g I J) (b + 8) (nI k) = some (I (b + 8) k) := zld_c (by omega) (k_T8 hb hk)
theorem q_T8 {b : Nat} (hb : isTown b) (k : Nat) (x : Int32) : zqi (mk n m g I J) (b + 8) k x = mk n m g (zu I (b + 8) k x) J := (by rcases hb with rfl | rfl | rfl | rfl | rfl <;> exact mk_qi (by decide) (by decide) (fun _ _ => rfl) k x)
theorem n_T8 {b : Nat} (hb : isTown b) : zlen (mk n m g I J) (b + 8) = some 12 := (by rcases hb with rfl | rfl | rfl | rfl | rfl <;> exact rfl)
theorem k_T9 {b : Nat} (hb : isTown b) {k : Nat} (hk : k < 12) : zig (mk n m g I J) (b + 9) k = some (I (b + 9) k) := (by rcases hb with rfl | rfl | rfl | rfl | rfl <;> exact zig_c rfl hk)
theorem l_T9 {b : Nat} (hb : isTown b) {k : Nat} (hk : k < 12) : zld (mk n m g I J) (b + 9) (nI k) = some (I (b + 9) k) := zld_c (by omega) (k_T9 hb hk)
theorem q_T9 {b : Nat} (hb : isTown b) (k : Nat) (x : Int32) : zqi (mk n m g I J) (b + 9) k x = mk n m g (zu I (b + 9) k x) J := (by rcases hb with rfl | rfl | rfl | rfl | rfl <;> exact mk_qi (by decide) (by decide) (fun _ _ => rfl) k x)
theorem n_T9 {b : Nat} (hb : isTown b) : zlen (mk n m g I J) (b + 9) = some 12 := (by rcases hb with rfl | rfl | rfl | rfl | rfl <;> exact rfl)
theorem k_T10 {b : Nat} (hb : isTown b) {k : Nat} (hk : k < 24) : zig (mk n m g I J) (b + 10) k = some (I (b + 10) k) := (by rcases hb with rfl | rfl | rfl | rfl | rfl <;> exact zig_c rfl hk)
theorem l_T10 {b : Nat} (hb : isTown b) {k : Nat} (hk : k < 24) : zld (mk n m g I J) (b + 10) (nI k) = some (I (b + 10) k) := zld_c (by omega) (k_T10 hb hk)
theorem q_T10 {b : Nat} (hb : isTown b) (k : Nat) (x : Int32) : zqi (mk n m g I J) (b + 10) k x = mk n m g (zu I (b + 10) k x) J := (by rcases hb with rfl | rfl | rfl | rfl | rfl <;> exact mk_qi (by decide) (by decide) (fun _ _ => rfl) k x)
theorem n_T10 {b : Nat} (hb : isTown b) : zlen (mk n m g I J) (b + 10) = some 24 := (by rcases hb with rfl | rfl | rfl | rfl | rfl <;> exact rfl)
theorem k_T11 {b : Nat} (hb : isTown b) {k : Nat} (hk : k < 12) : zig (mk n m g I J) (b + 11) k = some (I (b + 11) k) := (by rcases hb with rfl | rfl | rfl | rfl | rfl <;> exact zig_c rfl hk)
theorem l_T11 {b : Nat} (hb : isTown b) {k : Nat} (hk : k < 12) : zld (mk n m g I J) (b + 11) (nI k) = some (I (b + 11) k) := zld_c (by omega) (k_T11 hb hk)
theorem q_T11 {b : Nat} (hb : isTown b) (k : Nat) (x : Int32) : zqi (mk n m g I J) (b + 11) k x = mk n m g (zu I (b + 11) k x) J := (by rcases hb with rfl | rfl | rfl | rfl | rfl <;> exact mk_qi (by decide) (by decide) (fun _ _ => rfl) k x)
theorem n_T11 {b : Nat} (hb : isTown b) : zlen (mk n m g I J) (b + 11) = some 12 := (by rcases hb with rfl | rfl | rfl | rfl | rfl <;> exact rfl)
theorem k_T12 {b : Nat} (hb : isTown b) {k : Nat} (hk : k < 12) : zig (mk n m g I J) (b + 12) k = some (I (b + 12) k) := (by rcases hb with rfl | rfl | rfl | rfl | rfl <;> exact zig_c rfl hk)
theorem l_T12 {b : Nat} (hb : isTown b) {k : Nat} (hk : k < 12) : zld (mk n m g I J) (b + 12) (nI k) = some (I (b + 12) k) := zld_c (by omega) (k_T12 hb hk)
theorem q_T12 {b : Nat} (hb : isTown b) (k : Nat) (x : Int32) : zqi (mk n m g I J) (b + 12) k x = mk n m g (zu I (b + 12) k x) J := (by rcases hb with rfl | rfl | rfl | rfl | rfl <;> exact mk_qi (by decide) (by decide) (fun _ _ => rfl) k x)
theorem n_T12 {b : Nat} (hb : isTown b) : zlen (mk n m g I J) (b + 12) = some 12 := (by rcases hb with rfl | rfl | rfl | rfl | rfl <;> exact rfl)
theorem k_T13 {b : Nat} (hb : isTown b) {k : Nat} (hk : k < 72) : zig (mk n m g I J) (b + 13) k = some (I (b + 13) k) := (by rcases hb with rfl | rfl | rfl | rfl | rfl <;> exact zig_c rfl hk)
theorem l_T13 {b : Nat} (hb : isTown b) {k : Nat} (hk : k < 72) : zld (mk n m g I J) (b + 13) (nI k) = some (I (b + 13) k) := zld_c (by omega) (k_T13 hb hk)
theorem q_T13 {b : Nat} (hb : isTown b) (k : Nat) (x : Int32) : zqi (mk n m g I J) (b + 13) k x = mk n m g (zu I (b + 13) k x) J := (by rcases hb with rfl | rfl | rfl | rfl | rfl <;> exact mk_qi (by decide) (by decide) (fun _ _ => rfl) k x)
theorem n_T13 {b : Nat} (hb : isTown b) : zlen (mk n m g I J) (b + 13) = some 72 := (by rcases hb with rfl | rfl | rfl | rfl | rfl <;> exact rfl)
theorem c_T14 {b : Nat} (hb : isTown b) : zcls (mk n m g I J) (b + 14) = 3 := (by rcases hb with rfl | rfl | rfl | rfl | rfl <;> exact rfl)
theorem g_T14_0 {b : Nat} (hb : isTown b) : zgf (mk n m g I J) (b + 14) 3 0 = some (.ref (b + 15)) := (by rcases hb with rfl | rfl | rfl | rfl | rfl <;> exact rfl)
theorem g_T14_1 {b : Nat} (hb : isTown b) : zgf (mk n m g I J) (b + 14) 3 1 = some (.ref (b + 16)) := (by rcases hb with rfl | rfl | rfl | rfl | rfl <;> exact rfl)
theorem g_T14_2 {b : Nat} (hb : isTown b) : zgf (mk n m g I J) (b + 14) 3 2 = some (.int (I (b + 14) 2)) := (by rcases hb with rfl | rfl | rfl | rfl | rfl <;> exact rfl)
theorem p_T14_2 {b : Nat} (hb : isTown b) (x : Int32) : zpf (mk n m g I J) (b + 14) 2 (.int x) = mk n m g (zu I (b + 14) 2 x) J := (by rcases hb with rfl | rfl | rfl | rfl | rfl <;> exact mk_pf (by decide) (by decide) _ _ (fun b hb => zu_far I 2 x hb) (fun _ _ => rfl) rfl (by rw [zu_here]; rfl))
theorem k_T15 {b : Nat} (hb : isTown b) {k : Nat} (hk : k < 12) : zig (mk n m g I J) (b + 15) k = some (I (b + 15) k) := (by rcases hb with rfl | rfl | rfl | rfl | rfl <;> exact zig_c rfl hk)
theorem l_T15 {b : Nat} (hb : isTown b) {k : Nat} (hk : k < 12) : zld (mk n m g I J) (b + 15) (nI k) = some (I (b + 15) k) := zld_c (by omega) (k_T15 hb hk)
theorem q_T15 {b : Nat} (hb : isTown b) (k : Nat) (x : Int32) : zqi (mk n m g I J) (b + 15) k x = mk n m g (zu I (b + 15) k x) J := (by rcases hb with rfl | rfl | rfl | rfl | rfl <;> exact mk_qi (by decide) (by decide) (fun _ _ => rfl) k x)
theorem n_T15 {b : Nat} (hb : isTown b) : zlen (mk n m g I J) (b + 15) = some 12 := (by rcases hb with rfl | rfl | rfl | rfl | rfl <;> exact rfl)
theorem k_T16 {b : Nat} (hb : isTown b) {k : Nat} (hk : k < 12) : zig (mk n m g I J) (b + 16) k = some (I (b + 16) k) := (by rcases hb with rfl | rfl | rfl | rfl | rfl <;> exact zig_c rfl hk)
theorem l_T16 {b : Nat} (hb : isTown b) {k : Nat} (hk : k < 12) : zld (mk n m g I J) (b + 16) (nI k) = some (I (b + 16) k) := zld_c (by omega) (k_T16 hb hk)
theorem q_T16 {b : Nat} (hb : isTown b) (k : Nat) (x : Int32) : zqi (mk n m g I J) (b + 16) k x = mk n m g (zu I (b + 16) k x) J := (by rcases hb with rfl | rfl | rfl | rfl | rfl <;> exact mk_qi (by decide) (by decide) (fun _ _ => rfl) k x)
theorem n_T16 {b : Nat} (hb : isTown b) : zlen (mk n m g I J) (b + 16) = some 12 := (by rcases hb with rfl | rfl | rfl | rfl | rfl <;> exact rfl)
def isScript (b : Nat) : Prop := b = 50 ∨ b = 56 ∨ b = 91 ∨ b = 114 ∨ b = 137
theorem c_S0 {b : Nat} (hb : isScript b) : zcls (mk n m g I J) b = 6 := (by rcases hb with rfl | rfl | rfl | rfl | rfl <;> exact rfl)
theorem g_S0_0 {b : Nat} (hb : isScript b) : zgf (mk n m g I J) b 6 0 = some (.int (I b 0)) := (by rcases hb with rfl | rfl | rfl | rfl | rfl <;> exact rfl)
theorem p_S0_0 {b : Nat} (hb : isScript b) (x : Int32) : zpf (mk n m g I J) b 0 (.int x) = mk n m g (zu I b 0 x) J := (by rcases hb with rfl | rfl | rfl | rfl | rfl <;> exact mk_pf (by decide) (by decide) _ _ (fun b hb => zu_far I 0 x hb) (fun _ _ => rfl) rfl (by rw [zu_here]; rfl))
theorem g_S0_1 {b : Nat} (hb : isScript b) : zgf (mk n m g I J) b 6 1 = some (.int (I b 1)) := (by rcases hb with rfl | rfl | rfl | rfl | rfl <;> exact rfl)
theorem p_S0_1 {b : Nat} (hb : isScript b) (x : Int32) : zpf (mk n m g I J) b 1 (.int x) = mk n m g (zu I b 1 x) J := (by rcases hb with rfl | rfl | rfl | rfl | rfl <;> exact mk_pf (by decide) (by decide) _ _ (fun b hb => zu_far I 1 x hb) (fun _ _ => rfl) rfl (by rw [zu_here]; rfl))
theorem g_S0_2 {b : Nat} (hb : isScript b) : zgf (mk n m g I J) b 6 2 = some (.int (I b 2)) := (by rcases hb with rfl | rfl | rfl | rfl | rfl <;> exact rfl)
theorem p_S0_2 {b : Nat} (hb : isScript b) (x : Int32) : zpf (mk n m g I J) b 2 (.int x) = mk n m g (zu I b 2 x) J := (by rcases hb with rfl | rfl | rfl | rfl | rfl <;> exact mk_pf (by decide) (by decide) _ _ (fun b hb => zu_far I 2 x hb) (fun _ _ => rfl) rfl (by rw [zu_here]; rfl))
theorem g_S0_3 {b : Nat} (hb : isScript b) : zgf (mk n m g I J) b 6 3 = some (.ref (b + 1)) := (by rcases hb with rfl | rfl | rfl | rfl | rfl <;> exact rfl)
theorem g_S0_4 {b : Nat} (hb : isScript b) : zgf (mk n m g I J) b 6 4 = some (.ref (b + 2)) := (by rcases hb with rfl | rfl | rfl | rfl | rfl <;> exact rfl)
theorem g_S0_5 {b : Nat} (hb : isScript b) : zgf (mk n m g I J) b 6 5 = some (.ref (b + 3)) := (by rcases hb with rfl | rfl | rfl | rfl | rfl <;> exact rfl)
theorem g_S0_6 {b : Nat} (hb : isScript b) : zgf (mk n m g I J) b 6 6 = some (.ref (b + 4)) := (by rcases hb with rfl | rfl | rfl | rfl | rfl <;> exact rfl)
theorem g_S0_7 {b : Nat} (hb : isScript b) : zgf (mk n m g I J) b 6 7 = some (.ref (b + 5)) := (by rcases hb with rfl | rfl | rfl | rfl | rfl <;> exact rfl)
theorem k_S1 {b : Nat} (hb : isScript b) {k : Nat} (hk : k < 60) : zig (mk n m g I J) (b + 1) k = some (I (b + 1) k) := (by rcases hb with rfl | rfl | rfl | rfl | rfl <;> exact zig_c rfl hk)
theorem l_S1 {b : Nat} (hb : isScript b) {k : Nat} (hk : k < 60) : zld (mk n m g I J) (b + 1) (nI k) = some (I (b + 1) k) := zld_c (by omega) (k_S1 hb hk)
theorem q_S1 {b : Nat} (hb : isScript b) (k : Nat) (x : Int32) : zqi (mk n m g I J) (b + 1) k x = mk n m g (zu I (b + 1) k x) J := (by rcases hb with rfl | rfl | rfl | rfl | rfl <;> exact mk_qi (by decide) (by decide) (fun _ _ => rfl) k x)
theorem n_S1 {b : Nat} (hb : isScript b) : zlen (mk n m g I J) (b + 1) = some 60 := (by rcases hb with rfl | rfl | rfl | rfl | rfl <;> exact rfl)
theorem k_S2 {b : Nat} (hb : isScript b) {k : Nat} (hk : k < 60) : zig (mk n m g I J) (b + 2) k = some (I (b + 2) k) := (by rcases hb with rfl | rfl | rfl | rfl | rfl <;> exact zig_c rfl hk)
theorem l_S2 {b : Nat} (hb : isScript b) {k : Nat} (hk : k < 60) : zld (mk n m g I J) (b + 2) (nI k) = some (I (b + 2) k) := zld_c (by omega) (k_S2 hb hk)
theorem q_S2 {b : Nat} (hb : isScript b) (k : Nat) (x : Int32) : zqi (mk n m g I J) (b + 2) k x = mk n m g (zu I (b + 2) k x) J := (by rcases hb with rfl | rfl | rfl | rfl | rfl <;> exact mk_qi (by decide) (by decide) (fun _ _ => rfl) k x)
theorem n_S2 {b : Nat} (hb : isScript b) : zlen (mk n m g I J) (b + 2) = some 60 := (by rcases hb with rfl | rfl | rfl | rfl | rfl <;> exact rfl)
theorem k_S3 {b : Nat} (hb : isScript b) {k : Nat} (hk : k < 60) : zig (mk n m g I J) (b + 3) k = some (I (b + 3) k) := (by rcases hb with rfl | rfl | rfl | rfl | rfl <;> exact zig_c rfl hk)
theorem l_S3 {b : Nat} (hb : isScript b) {k : Nat} (hk : k < 60) : zld (mk n m g I J) (b + 3) (nI k) = some (I (b + 3) k) := zld_c (by omega) (k_S3 hb hk)
theorem q_S3 {b : Nat} (hb : isScript b) (k : Nat) (x : Int32) : zqi (mk n m g I J) (b + 3) k x = mk n m g (zu I (b + 3) k x) J := (by rcases hb with rfl | rfl | rfl | rfl | rfl <;> exact mk_qi (by decide) (by decide) (fun _ _ => rfl) k x)
theorem n_S3 {b : Nat} (hb : isScript b) : zlen (mk n m g I J) (b + 3) = some 60 := (by rcases hb with rfl | rfl | rfl | rfl | rfl <;> exact rfl)
theorem k_S4 {b : Nat} (hb : isScript b) {k : Nat} (hk : k < 60) : zig (mk n m g I J) (b + 4) k = some (I (b + 4) k) := (by rcases hb with rfl | rfl | rfl | rfl | rfl <;> exact zig_c rfl hk)
theorem l_S4 {b : Nat} (hb : isScript b) {k : Nat} (hk : k < 60) : zld (mk n m g I J) (b + 4) (nI k) = some (I (b + 4) k) := zld_c (by omega) (k_S4 hb hk)
theorem q_S4 {b : Nat} (hb : isScript b) (k : Nat) (x : Int32) : zqi (mk n m g I J) (b + 4) k x = mk n m g (zu I (b + 4) k x) J := (by rcases hb with rfl | rfl | rfl | rfl | rfl <;> exact mk_qi (by decide) (by decide) (fun _ _ => rfl) k x)
theorem n_S4 {b : Nat} (hb : isScript b) : zlen (mk n m g I J) (b + 4) = some 60 := (by rcases hb with rfl | rfl | rfl | rfl | rfl <;> exact rfl)
theorem k_S5 {b : Nat} (hb : isScript b) {k : Nat} (hk : k < 60) : zig (mk n m g I J) (b + 5) k = some (I (b + 5) k) := (by rcases hb with rfl | rfl | rfl | rfl | rfl <;> exact zig_c rfl hk)
theorem l_S5 {b : Nat} (hb : isScript b) {k : Nat} (hk : k < 60) : zld (mk n m g I J) (b + 5) (nI k) = some (I (b + 5) k) := zld_c (by omega) (k_S5 hb hk)
theorem q_S5 {b : Nat} (hb : isScript b) (k : Nat) (x : Int32) : zqi (mk n m g I J) (b + 5) k x = mk n m g (zu I (b + 5) k x) J := (by rcases hb with rfl | rfl | rfl | rfl | rfl <;> exact mk_qi (by decide) (by decide) (fun _ _ => rfl) k x)
theorem n_S5 {b : Nat} (hb : isScript b) : zlen (mk n m g I J) (b + 5) = some 60 := (by rcases hb with rfl | rfl | rfl | rfl | rfl <;> exact rfl)
def isLife (b : Nat) : Prop := b = 62 ∨ b = 64
theorem c_L0 {b : Nat} (hb : isLife b) : zcls (mk n m g I J) b = 2 := (by rcases hb with rfl | rfl <;> exact rfl)
theorem g_L0_0 {b : Nat} (hb : isLife b) : zgf (mk n m g I J) b 2 0 = some (.int (I b 0)) := (by rcases hb with rfl | rfl <;> exact rfl)
theorem p_L0_0 {b : Nat} (hb : isLife b) (x : Int32) : zpf (mk n m g I J) b 0 (.int x) = mk n m g (zu I b 0 x) J := (by rcases hb with rfl | rfl <;> exact mk_pf (by decide) (by decide) _ _ (fun b hb => zu_far I 0 x hb) (fun _ _ => rfl) rfl (by rw [zu_here]; rfl))
theorem g_L0_1 {b : Nat} (hb : isLife b) : zgf (mk n m g I J) b 2 1 = some (.int (I b 1)) := (by rcases hb with rfl | rfl <;> exact rfl)
theorem p_L0_1 {b : Nat} (hb : isLife b) (x : Int32) : zpf (mk n m g I J) b 1 (.int x) = mk n m g (zu I b 1 x) J := (by rcases hb with rfl | rfl <;> exact mk_pf (by decide) (by decide) _ _ (fun b hb => zu_far I 1 x hb) (fun _ _ => rfl) rfl (by rw [zu_here]; rfl))
theorem g_L0_2 {b : Nat} (hb : isLife b) : zgf (mk n m g I J) b 2 2 = some (.int (I b 2)) := (by rcases hb with rfl | rfl <;> exact rfl)
theorem p_L0_2 {b : Nat} (hb : isLife b) (x : Int32) : zpf (mk n m g I J) b 2 (.int x) = mk n m g (zu I b 2 x) J := (by rcases hb with rfl | rfl <;> exact mk_pf (by decide) (by decide) _ _ (fun b hb => zu_far I 2 x hb) (fun _ _ => rfl) rfl (by rw [zu_here]; rfl))
theorem g_L0_3 {b : Nat} (hb : isLife b) : zgf (mk n m g I J) b 2 3 = some (.int (I b 3)) := (by rcases hb with rfl | rfl <;> exact rfl)
theorem p_L0_3 {b : Nat} (hb : isLife b) (x : Int32) : zpf (mk n m g I J) b 3 (.int x) = mk n m g (zu I b 3 x) J := (by rcases hb with rfl | rfl <;> exact mk_pf (by decide) (by decide) _ _ (fun b hb => zu_far I 3 x hb) (fun _ _ => rfl) rfl (by rw [zu_here]; rfl))
theorem g_L0_4 {b : Nat} (hb : isLife b) : zgf (mk n m g I J) b 2 4 = some (.int (I b 4)) := (by rcases hb with rfl | rfl <;> exact rfl)
theorem p_L0_4 {b : Nat} (hb : isLife b) (x : Int32) : zpf (mk n m g I J) b 4 (.int x) = mk n m g (zu I b 4 x) J := (by rcases hb with rfl | rfl <;> exact mk_pf (by decide) (by decide) _ _ (fun b hb => zu_far I 4 x hb) (fun _ _ => rfl) rfl (by rw [zu_here]; rfl))
theorem g_L0_5 {b : Nat} (hb : isLife b) : zgf (mk n m g I J) b 2 5 = some (.int (I b 5)) := (by rcases hb with rfl | rfl <;> exact rfl)
theorem p_L0_5 {b : Nat} (hb : isLife b) (x : Int32) : zpf (mk n m g I J) b 5 (.int x) = mk n m g (zu I b 5 x) J := (by rcases hb with rfl | rfl <;> exact mk_pf (by decide) (by decide) _ _ (fun b hb => zu_far I 5 x hb) (fun _ _ => rfl) rfl (by rw [zu_here]; rfl))
theorem g_L0_6 {b : Nat} (hb : isLife b) : zgf (mk n m g I J) b 2 6 = some (.int (I b 6)) := (by rcases hb with rfl | rfl <;> exact rfl)
theorem p_L0_6 {b : Nat} (hb : isLife b) (x : Int32) : zpf (mk n m g I J) b 6 (.int x) = mk n m g (zu I b 6 x) J := (by rcases hb with rfl | rfl <;> exact mk_pf (by decide) (by decide) _ _ (fun b hb => zu_far I 6 x hb) (fun _ _ => rfl) rfl (by rw [zu_here]; rfl))
theorem g_L0_7 {b : Nat} (hb : isLife b) : zgf (mk n m g I J) b 2 7 = some (.int (I b 7)) := (by rcases hb with rfl | rfl <;> exact rfl)
theorem p_L0_7 {b : Nat} (hb : isLife b) (x : Int32) : zpf (mk n m g I J) b 7 (.int x) = mk n m g (zu I b 7 x) J := (by rcases hb with rfl | rfl <;> exact mk_pf (by decide) (by decide) _ _ (fun b hb => zu_far I 7 x hb) (fun _ _ => rfl) rfl (by rw [zu_here]; rfl))
theorem g_L0_8 {b : Nat} (hb : isLife b) : zgf (mk n m g I J) b 2 8 = some (.ref (b + 1)) := (by rcases hb with rfl | rfl <;> exact rfl)
theorem k_L1 {b : Nat} (hb : isLife b) {k : Nat} (hk : k < 60) : zig (mk n m g I J) (b + 1) k = some (I (b + 1) k) := (by rcases hb with rfl | rfl <;> exact zig_c rfl hk)
theorem l_L1 {b : Nat} (hb : isLife b) {k : Nat} (hk : k < 60) : zld (mk n m g I J) (b + 1) (nI k) = some (I (b + 1) k) := zld_c (by omega) (k_L1 hb hk)
theorem q_L1 {b : Nat} (hb : isLife b) (k : Nat) (x : Int32) : zqi (mk n m g I J) (b + 1) k x = mk n m g (zu I (b + 1) k x) J := (by rcases hb with rfl | rfl <;> exact mk_qi (by decide) (by decide) (fun _ _ => rfl) k x)
theorem n_L1 {b : Nat} (hb : isLife b) : zlen (mk n m g I J) (b + 1) = some 60 := (by rcases hb with rfl | rfl <;> exact rfl)
theorem c_3 : zcls (mk n m g I J) 3 = 11 := rfl
theorem g_3_0 : zgf (mk n m g I J) 3 11 0 = some (.int (I 3 0)) := rfl
theorem p_3_0 (x : Int32) : zpf (mk n m g I J) 3 0 (.int x) = mk n m g (zu I 3 0 x) J := mk_pf (by decide) (by decide) _ _ (fun b hb => zu_far I 0 x hb) (fun _ _ => rfl) rfl (by rw [zu_here]; rfl)
theorem g_3_1 : zgf (mk n m g I J) 3 11 1 = some (.long (J 3 1)) := rfl
theorem p_3_1 (x : Int64) : zpf (mk n m g I J) 3 1 (.long x) = mk n m g I (zu J 3 1 x) := mk_pf (by decide) (by decide) _ _ (fun _ _ => rfl) (fun b hb => zu_far J 1 x hb) rfl (by rw [zu_hereL]; rfl)
theorem g_3_2 : zgf (mk n m g I J) 3 11 2 = some (.long (J 3 2)) := rfl
theorem p_3_2 (x : Int64) : zpf (mk n m g I J) 3 2 (.long x) = mk n m g I (zu J 3 2 x) := mk_pf (by decide) (by decide) _ _ (fun _ _ => rfl) (fun b hb => zu_far J 2 x hb) rfl (by rw [zu_hereL]; rfl)
theorem g_3_3 : zgf (mk n m g I J) 3 11 3 = some (.ref 4) := rfl
theorem g_3_4 : zgf (mk n m g I J) 3 11 4 = some (.ref 12) := rfl
theorem g_3_5 : zgf (mk n m g I J) 3 11 5 = some (.int (I 3 5)) := rfl
theorem p_3_5 (x : Int32) : zpf (mk n m g I J) 3 5 (.int x) = mk n m g (zu I 3 5 x) J := mk_pf (by decide) (by decide) _ _ (fun b hb => zu_far I 5 x hb) (fun _ _ => rfl) rfl (by rw [zu_here]; rfl)
theorem g_3_6 : zgf (mk n m g I J) 3 11 6 = some (.ref 13) := rfl
theorem g_3_7 : zgf (mk n m g I J) 3 11 7 = some (.ref 16) := rfl
theorem g_3_8 : zgf (mk n m g I J) 3 11 8 = some (.ref 33) := rfl
theorem g_3_9 : zgf (mk n m g I J) 3 11 9 = some (.ref 50) := rfl
theorem g_3_10 : zgf (mk n m g I J) 3 11 10 = some (.ref 56) := rfl
theorem g_3_11 : zgf (mk n m g I J) 3 11 11 = some (.ref 62) := rfl
theorem g_3_12 : zgf (mk n m g I J) 3 11 12 = some (.ref 64) := rfl
theorem g_3_13 : zgf (mk n m g I J) 3 11 13 = some (.ref 66) := rfl
theorem g_3_14 : zgf (mk n m g I J) 3 11 14 = some (.ref 69) := rfl
theorem g_3_15 : zgf (mk n m g I J) 3 11 15 = some (.ref 72) := rfl
theorem g_3_16 : zgf (mk n m g I J) 3 11 16 = some (.ref 73) := rfl
theorem g_3_17 : zgf (mk n m g I J) 3 11 17 = some (.int (I 3 17)) := rfl
theorem p_3_17 (x : Int32) : zpf (mk n m g I J) 3 17 (.int x) = mk n m g (zu I 3 17 x) J := mk_pf (by decide) (by decide) _ _ (fun b hb => zu_far I 17 x hb) (fun _ _ => rfl) rfl (by rw [zu_here]; rfl)
theorem c_4 : zcls (mk n m g I J) 4 = 9 := rfl
theorem g_4_0 : zgf (mk n m g I J) 4 9 0 = some (.ref 5) := rfl
theorem g_4_1 : zgf (mk n m g I J) 4 9 1 = some (.ref 6) := rfl
theorem g_4_2 : zgf (mk n m g I J) 4 9 2 = some (.ref 7) := rfl
theorem k_5 {k : Nat} (hk : k < 4) : zig (mk n m g I J) 5 k = some (I 5 k) := zig_c rfl hk
theorem l_5 {k : Nat} (hk : k < 4) : zld (mk n m g I J) 5 (nI k) = some (I 5 k) := zld_c (by omega) (k_5 hk)
theorem q_5 (k : Nat) (x : Int32) : zqi (mk n m g I J) 5 k x = mk n m g (zu I 5 k x) J := mk_qi (by decide) (by decide) (fun _ _ => rfl) k x
theorem n_5 : zlen (mk n m g I J) 5 = some 4 := rfl
theorem k_6 {k : Nat} (hk : k < 4) : zig (mk n m g I J) 6 k = some (I 6 k) := zig_c rfl hk
theorem l_6 {k : Nat} (hk : k < 4) : zld (mk n m g I J) 6 (nI k) = some (I 6 k) := zld_c (by omega) (k_6 hk)
theorem q_6 (k : Nat) (x : Int32) : zqi (mk n m g I J) 6 k x = mk n m g (zu I 6 k x) J := mk_qi (by decide) (by decide) (fun _ _ => rfl) k x
theorem n_6 : zlen (mk n m g I J) 6 = some 4 := rfl
theorem r_7_0 : zag (mk n m g I J) 7 0 = some 8 := rfl
theorem r_7_1 : zag (mk n m g I J) 7 1 = some 9 := rfl
theorem r_7_2 : zag (mk n m g I J) 7 2 = some 10 := rfl
theorem r_7_3 : zag (mk n m g I J) 7 3 = some 11 := rfl
theorem k_8 {k : Nat} (hk : k < 60) : zlg (mk n m g I J) 8 k = some (J 8 k) := zlg_c rfl hk
theorem q_8 (k : Nat) (x : Int64) : zql (mk n m g I J) 8 k x = mk n m g I (zu J 8 k x) := mk_ql (by decide) (by decide) (fun _ _ => rfl) k x
theorem n_8 : zlen (mk n m g I J) 8 = some 60 := rfl
theorem k_9 {k : Nat} (hk : k < 60) : zlg (mk n m g I J) 9 k = some (J 9 k) := zlg_c rfl hk
theorem q_9 (k : Nat) (x : Int64) : zql (mk n m g I J) 9 k x = mk n m g I (zu J 9 k x) := mk_ql (by decide) (by decide) (fun _ _ => rfl) k x
theorem n_9 : zlen (mk n m g I J) 9 = some 60 := rfl
theorem k_10 {k : Nat} (hk : k < 60) : zlg (mk n m g I J) 10 k = some (J 10 k) := zlg_c rfl hk
theorem q_10 (k : Nat) (x : Int64) : zql (mk n m g I J) 10 k x = mk n m g I (zu J 10 k x) := mk_ql (by decide) (by decide) (fun _ _ => rfl) k x
theorem n_10 : zlen (mk n m g I J) 10 = some 60 := rfl
theorem k_11 {k : Nat} (hk : k < 60) : zlg (mk n m g I J) 11 k = some (J 11 k) := zlg_c rfl hk
theorem q_11 (k : Nat) (x : Int64) : zql (mk n m g I J) 11 k x = mk n m g I (zu J 11 k x) := mk_ql (by decide) (by decide) (fun _ _ => rfl) k x
theorem n_11 : zlen (mk n m g I J) 11 = some 60 := rfl
theorem k_12 {k : Nat} (hk : k < 900) : zbg (mk n m g I J) 12 k = some (I 12 k) := zbg_c rfl hk
theorem l_12 {k : Nat} (hk : k < 900) : zbd (mk n m g I J) 12 (nI k) = some (I 12 k) := zbd_c (by omega) (k_12 hk)
theorem q_12 (k : Nat) (x : Int32) : zqb (mk n m g I J) 12 k x = mk n m g (zu I 12 k x) J := mk_qb (by decide) (by decide) (fun _ _ => rfl) k x
theorem n_12 : zlen (mk n m g I J) 12 = some 900 := rfl
theorem c_13 : zcls (mk n m g I J) 13 = 4 := rfl
theorem g_13_0 : zgf (mk n m g I J) 13 4 0 = some (.ref 14) := rfl
theorem g_13_1 : zgf (mk n m g I J) 13 4 1 = some (.ref (I 13 1).toNatClampNeg) := rfl
theorem p_13_1 (x : Nat) (hx : x < 2 ^ 31) : zpf (mk n m g I J) 13 1 (.ref x) = mk n m g (zu I 13 1 (nI x)) J := mk_pf (by decide) (by decide) _ _ (fun b hb => zu_far I 1 (nI x) hb) (fun _ _ => rfl) rfl (by rw [zu_here]; show _ = Sum.inr (_, List.set _ _ _); simp [sh, shL, sh_13, upd, nI_clamp hx])
theorem g_13_2 : zgf (mk n m g I J) 13 4 2 = some (.int (I 13 2)) := rfl
theorem p_13_2 (x : Int32) : zpf (mk n m g I J) 13 2 (.int x) = mk n m g (zu I 13 2 x) J := mk_pf (by decide) (by decide) _ _ (fun b hb => zu_far I 2 x hb) (fun _ _ => rfl) rfl (by rw [zu_here]; rfl)
theorem g_13_3 : zgf (mk n m g I J) 13 4 3 = some (.int (I 13 3)) := rfl
theorem p_13_3 (x : Int32) : zpf (mk n m g I J) 13 3 (.int x) = mk n m g (zu I 13 3 x) J := mk_pf (by decide) (by decide) _ _ (fun b hb => zu_far I 3 x hb) (fun _ _ => rfl) rfl (by rw [zu_here]; rfl)
theorem g_13_4 : zgf (mk n m g I J) 13 4 4 = some (.int (I 13 4)) := rfl
theorem p_13_4 (x : Int32) : zpf (mk n m g I J) 13 4 (.int x) = mk n m g (zu I 13 4 x) J := mk_pf (by decide) (by decide) _ _ (fun b hb => zu_far I 4 x hb) (fun _ _ => rfl) rfl (by rw [zu_here]; rfl)
theorem g_13_5 : zgf (mk n m g I J) 13 4 5 = some (.int (I 13 5)) := rfl
theorem p_13_5 (x : Int32) : zpf (mk n m g I J) 13 5 (.int x) = mk n m g (zu I 13 5 x) J := mk_pf (by decide) (by decide) _ _ (fun b hb => zu_far I 5 x hb) (fun _ _ => rfl) rfl (by rw [zu_here]; rfl)
theorem g_13_6 : zgf (mk n m g I J) 13 4 6 = some (.int (I 13 6)) := rfl
theorem p_13_6 (x : Int32) : zpf (mk n m g I J) 13 6 (.int x) = mk n m g (zu I 13 6 x) J := mk_pf (by decide) (by decide) _ _ (fun b hb => zu_far I 6 x hb) (fun _ _ => rfl) rfl (by rw [zu_here]; rfl)
theorem g_13_7 : zgf (mk n m g I J) 13 4 7 = some (.int (I 13 7)) := rfl
theorem p_13_7 (x : Int32) : zpf (mk n m g I J) 13 7 (.int x) = mk n m g (zu I 13 7 x) J := mk_pf (by decide) (by decide) _ _ (fun b hb => zu_far I 7 x hb) (fun _ _ => rfl) rfl (by rw [zu_here]; rfl)
theorem g_13_8 : zgf (mk n m g I J) 13 4 8 = some (.long (J 13 8)) := rfl
theorem p_13_8 (x : Int64) : zpf (mk n m g I J) 13 8 (.long x) = mk n m g I (zu J 13 8 x) := mk_pf (by decide) (by decide) _ _ (fun _ _ => rfl) (fun b hb => zu_far J 8 x hb) rfl (by rw [zu_hereL]; rfl)
theorem g_13_9 : zgf (mk n m g I J) 13 4 9 = some (.int (I 13 9)) := rfl
theorem p_13_9 (x : Int32) : zpf (mk n m g I J) 13 9 (.int x) = mk n m g (zu I 13 9 x) J := mk_pf (by decide) (by decide) _ _ (fun b hb => zu_far I 9 x hb) (fun _ _ => rfl) rfl (by rw [zu_here]; rfl)
theorem g_13_10 : zgf (mk n m g I J) 13 4 10 = some (.int (I 13 10)) := rfl
theorem p_13_10 (x : Int32) : zpf (mk n m g I J) 13 10 (.int x) = mk n m g (zu I 13 10 x) J := mk_pf (by decide) (by decide) _ _ (fun b hb => zu_far I 10 x hb) (fun _ _ => rfl) rfl (by rw [zu_here]; rfl)
theorem g_13_11 : zgf (mk n m g I J) 13 4 11 = some (.int (I 13 11)) := rfl
theorem p_13_11 (x : Int32) : zpf (mk n m g I J) 13 11 (.int x) = mk n m g (zu I 13 11 x) J := mk_pf (by decide) (by decide) _ _ (fun b hb => zu_far I 11 x hb) (fun _ _ => rfl) rfl (by rw [zu_here]; rfl)
theorem k_14 {k : Nat} (hk : k < 27) : zlg (mk n m g I J) 14 k = some (J 14 k) := zlg_c rfl hk
theorem q_14 (k : Nat) (x : Int64) : zql (mk n m g I J) 14 k x = mk n m g I (zu J 14 k x) := mk_ql (by decide) (by decide) (fun _ _ => rfl) k x
theorem n_14 : zlen (mk n m g I J) 14 = some 27 := rfl
theorem k_15 {k : Nat} (hk : k < 0) : zbg (mk n m g I J) 15 k = some (I 15 k) := zbg_c rfl hk
theorem l_15 {k : Nat} (hk : k < 0) : zbd (mk n m g I J) 15 (nI k) = some (I 15 k) := zbd_c (by omega) (k_15 hk)
theorem q_15 (k : Nat) (x : Int32) : zqb (mk n m g I J) 15 k x = mk n m g (zu I 15 k x) J := mk_qb (by decide) (by decide) (fun _ _ => rfl) k x
theorem n_15 : zlen (mk n m g I J) 15 = some 0 := rfl
theorem c_66 : zcls (mk n m g I J) 66 = 10 := rfl
theorem g_66_0 : zgf (mk n m g I J) 66 10 0 = some (.ref 67) := rfl
theorem g_66_1 : zgf (mk n m g I J) 66 10 1 = some (.ref 68) := rfl
theorem k_67 {k : Nat} (hk : k < 12) : zig (mk n m g I J) 67 k = some (I 67 k) := zig_c rfl hk
theorem l_67 {k : Nat} (hk : k < 12) : zld (mk n m g I J) 67 (nI k) = some (I 67 k) := zld_c (by omega) (k_67 hk)
theorem q_67 (k : Nat) (x : Int32) : zqi (mk n m g I J) 67 k x = mk n m g (zu I 67 k x) J := mk_qi (by decide) (by decide) (fun _ _ => rfl) k x
theorem n_67 : zlen (mk n m g I J) 67 = some 12 := rfl
theorem k_68 {k : Nat} (hk : k < 4096) : zbg (mk n m g I J) 68 k = some (I 68 k) := zbg_c rfl hk
theorem l_68 {k : Nat} (hk : k < 4096) : zbd (mk n m g I J) 68 (nI k) = some (I 68 k) := zbd_c (by omega) (k_68 hk)
theorem q_68 (k : Nat) (x : Int32) : zqb (mk n m g I J) 68 k x = mk n m g (zu I 68 k x) J := mk_qb (by decide) (by decide) (fun _ _ => rfl) k x
theorem n_68 : zlen (mk n m g I J) 68 = some 4096 := rfl
theorem c_69 : zcls (mk n m g I J) 69 = 5 := rfl
theorem g_69_0 : zgf (mk n m g I J) 69 5 0 = some (.ref 70) := rfl
theorem g_69_1 : zgf (mk n m g I J) 69 5 1 = some (.int (I 69 1)) := rfl
theorem p_69_1 (x : Int32) : zpf (mk n m g I J) 69 1 (.int x) = mk n m g (zu I 69 1 x) J := mk_pf (by decide) (by decide) _ _ (fun b hb => zu_far I 1 x hb) (fun _ _ => rfl) rfl (by rw [zu_here]; rfl)
theorem g_69_2 : zgf (mk n m g I J) 69 5 2 = some (.ref 71) := rfl
theorem g_69_3 : zgf (mk n m g I J) 69 5 3 = some (.int (I 69 3)) := rfl
theorem p_69_3 (x : Int32) : zpf (mk n m g I J) 69 3 (.int x) = mk n m g (zu I 69 3 x) J := mk_pf (by decide) (by decide) _ _ (fun b hb => zu_far I 3 x hb) (fun _ _ => rfl) rfl (by rw [zu_here]; rfl)
theorem k_70 {k : Nat} (hk : k < 12) : zig (mk n m g I J) 70 k = some (I 70 k) := zig_c rfl hk
theorem l_70 {k : Nat} (hk : k < 12) : zld (mk n m g I J) 70 (nI k) = some (I 70 k) := zld_c (by omega) (k_70 hk)
theorem q_70 (k : Nat) (x : Int32) : zqi (mk n m g I J) 70 k x = mk n m g (zu I 70 k x) J := mk_qi (by decide) (by decide) (fun _ _ => rfl) k x
theorem n_70 : zlen (mk n m g I J) 70 = some 12 := rfl
theorem k_71 {k : Nat} (hk : k < 12) : zig (mk n m g I J) 71 k = some (I 71 k) := zig_c rfl hk
theorem l_71 {k : Nat} (hk : k < 12) : zld (mk n m g I J) 71 (nI k) = some (I 71 k) := zld_c (by omega) (k_71 hk)
theorem q_71 (k : Nat) (x : Int32) : zqi (mk n m g I J) 71 k x = mk n m g (zu I 71 k x) J := mk_qi (by decide) (by decide) (fun _ _ => rfl) k x
theorem n_71 : zlen (mk n m g I J) 71 = some 12 := rfl
theorem r_72_0 : zag (mk n m g I J) 72 0 = some 74 := rfl
theorem r_72_1 : zag (mk n m g I J) 72 1 = some 97 := rfl
theorem r_72_2 : zag (mk n m g I J) 72 2 = some 120 := rfl
theorem r_73_0 : zag (mk n m g I J) 73 0 = some 91 := rfl
theorem r_73_1 : zag (mk n m g I J) 73 1 = some 114 := rfl
theorem r_73_2 : zag (mk n m g I J) 73 2 = some 137 := rfl
theorem c_143 : zcls (mk n m g I J) 143 = 12 := rfl
theorem g_143_0 : zgf (mk n m g I J) 143 12 0 = some (.int (I 143 0)) := rfl
theorem p_143_0 (x : Int32) : zpf (mk n m g I J) 143 0 (.int x) = mk n m g (zu I 143 0 x) J := mk_pf (by decide) (by decide) _ _ (fun b hb => zu_far I 0 x hb) (fun _ _ => rfl) rfl (by rw [zu_here]; rfl)
theorem g_143_1 : zgf (mk n m g I J) 143 12 1 = some (.int (I 143 1)) := rfl
theorem p_143_1 (x : Int32) : zpf (mk n m g I J) 143 1 (.int x) = mk n m g (zu I 143 1 x) J := mk_pf (by decide) (by decide) _ _ (fun b hb => zu_far I 1 x hb) (fun _ _ => rfl) rfl (by rw [zu_here]; rfl)
theorem g_143_2 : zgf (mk n m g I J) 143 12 2 = some (.long (J 143 2)) := rfl
theorem p_143_2 (x : Int64) : zpf (mk n m g I J) 143 2 (.long x) = mk n m g I (zu J 143 2 x) := mk_pf (by decide) (by decide) _ _ (fun _ _ => rfl) (fun b hb => zu_far J 2 x hb) rfl (by rw [zu_hereL]; rfl)
theorem g_143_3 : zgf (mk n m g I J) 143 12 3 = some (.long (J 143 3)) := rfl
theorem p_143_3 (x : Int64) : zpf (mk n m g I J) 143 3 (.long x) = mk n m g I (zu J 143 3 x) := mk_pf (by decide) (by decide) _ _ (fun _ _ => rfl) (fun b hb => zu_far J 3 x hb) rfl (by rw [zu_hereL]; rfl)
theorem g_143_4 : zgf (mk n m g I J) 143 12 4 = some (.ref 144) := rfl
theorem g_143_5 : zgf (mk n m g I J) 143 12 5 = some (.ref 145) := rfl
theorem g_143_6 : zgf (mk n m g I J) 143 12 6 = some (.ref 146) := rfl
theorem g_143_7 : zgf (mk n m g I J) 143 12 7 = some (.ref 147) := rfl
theorem g_143_8 : zgf (mk n m g I J) 143 12 8 = some (.int (I 143 8)) := rfl
theorem p_143_8 (x : Int32) : zpf (mk n m g I J) 143 8 (.int x) = mk n m g (zu I 143 8 x) J := mk_pf (by decide) (by decide) _ _ (fun b hb => zu_far I 8 x hb) (fun _ _ => rfl) rfl (by rw [zu_here]; rfl)
theorem g_143_9 : zgf (mk n m g I J) 143 12 9 = some (.int (I 143 9)) := rfl
theorem p_143_9 (x : Int32) : zpf (mk n m g I J) 143 9 (.int x) = mk n m g (zu I 143 9 x) J := mk_pf (by decide) (by decide) _ _ (fun b hb => zu_far I 9 x hb) (fun _ _ => rfl) rfl (by rw [zu_here]; rfl)
theorem g_143_10 : zgf (mk n m g I J) 143 12 10 = some (.int (I 143 10)) := rfl
theorem p_143_10 (x : Int32) : zpf (mk n m g I J) 143 10 (.int x) = mk n m g (zu I 143 10 x) J := mk_pf (by decide) (by decide) _ _ (fun b hb => zu_far I 10 x hb) (fun _ _ => rfl) rfl (by rw [zu_here]; rfl)
theorem g_143_11 : zgf (mk n m g I J) 143 12 11 = some (.int (I 143 11)) := rfl
theorem p_143_11 (x : Int32) : zpf (mk n m g I J) 143 11 (.int x) = mk n m g (zu I 143 11 x) J := mk_pf (by decide) (by decide) _ _ (fun b hb => zu_far I 11 x hb) (fun _ _ => rfl) rfl (by rw [zu_here]; rfl)
theorem g_143_12 : zgf (mk n m g I J) 143 12 12 = some (.int (I 143 12)) := rfl
theorem p_143_12 (x : Int32) : zpf (mk n m g I J) 143 12 (.int x) = mk n m g (zu I 143 12 x) J := mk_pf (by decide) (by decide) _ _ (fun b hb => zu_far I 12 x hb) (fun _ _ => rfl) rfl (by rw [zu_here]; rfl)
theorem g_143_13 : zgf (mk n m g I J) 143 12 13 = some (.int (I 143 13)) := rfl
theorem p_143_13 (x : Int32) : zpf (mk n m g I J) 143 13 (.int x) = mk n m g (zu I 143 13 x) J := mk_pf (by decide) (by decide) _ _ (fun b hb => zu_far I 13 x hb) (fun _ _ => rfl) rfl (by rw [zu_here]; rfl)
theorem g_143_14 : zgf (mk n m g I J) 143 12 14 = some (.int (I 143 14)) := rfl
theorem p_143_14 (x : Int32) : zpf (mk n m g I J) 143 14 (.int x) = mk n m g (zu I 143 14 x) J := mk_pf (by decide) (by decide) _ _ (fun b hb => zu_far I 14 x hb) (fun _ _ => rfl) rfl (by rw [zu_here]; rfl)
theorem g_143_15 : zgf (mk n m g I J) 143 12 15 = some (.int (I 143 15)) := rfl
theorem p_143_15 (x : Int32) : zpf (mk n m g I J) 143 15 (.int x) = mk n m g (zu I 143 15 x) J := mk_pf (by decide) (by decide) _ _ (fun b hb => zu_far I 15 x hb) (fun _ _ => rfl) rfl (by rw [zu_here]; rfl)
theorem g_143_16 : zgf (mk n m g I J) 143 12 16 = some (.int (I 143 16)) := rfl
theorem p_143_16 (x : Int32) : zpf (mk n m g I J) 143 16 (.int x) = mk n m g (zu I 143 16 x) J := mk_pf (by decide) (by decide) _ _ (fun b hb => zu_far I 16 x hb) (fun _ _ => rfl) rfl (by rw [zu_here]; rfl)
theorem g_143_17 : zgf (mk n m g I J) 143 12 17 = some (.int (I 143 17)) := rfl
theorem p_143_17 (x : Int32) : zpf (mk n m g I J) 143 17 (.int x) = mk n m g (zu I 143 17 x) J := mk_pf (by decide) (by decide) _ _ (fun b hb => zu_far I 17 x hb) (fun _ _ => rfl) rfl (by rw [zu_here]; rfl)
theorem g_143_18 : zgf (mk n m g I J) 143 12 18 = some (.int (I 143 18)) := rfl
theorem p_143_18 (x : Int32) : zpf (mk n m g I J) 143 18 (.int x) = mk n m g (zu I 143 18 x) J := mk_pf (by decide) (by decide) _ _ (fun b hb => zu_far I 18 x hb) (fun _ _ => rfl) rfl (by rw [zu_here]; rfl)
theorem g_143_19 : zgf (mk n m g I J) 143 12 19 = some (.long (J 143 19)) := rfl
theorem p_143_19 (x : Int64) : zpf (mk n m g I J) 143 19 (.long x) = mk n m g I (zu J 143 19 x) := mk_pf (by decide) (by decide) _ _ (fun _ _ => rfl) (fun b hb => zu_far J 19 x hb) rfl (by rw [zu_hereL]; rfl)
theorem g_143_20 : zgf (mk n m g I J) 143 12 20 = some (.ref 148) := rfl
theorem g_143_21 : zgf (mk n m g I J) 143 12 21 = some (.ref 149) := rfl
theorem g_143_22 : zgf (mk n m g I J) 143 12 22 = some (.ref 150) := rfl
theorem g_143_23 : zgf (mk n m g I J) 143 12 23 = some (.ref 151) := rfl
theorem g_143_24 : zgf (mk n m g I J) 143 12 24 = some (.int (I 143 24)) := rfl
theorem p_143_24 (x : Int32) : zpf (mk n m g I J) 143 24 (.int x) = mk n m g (zu I 143 24 x) J := mk_pf (by decide) (by decide) _ _ (fun b hb => zu_far I 24 x hb) (fun _ _ => rfl) rfl (by rw [zu_here]; rfl)
theorem g_143_25 : zgf (mk n m g I J) 143 12 25 = some (.int (I 143 25)) := rfl
theorem p_143_25 (x : Int32) : zpf (mk n m g I J) 143 25 (.int x) = mk n m g (zu I 143 25 x) J := mk_pf (by decide) (by decide) _ _ (fun b hb => zu_far I 25 x hb) (fun _ _ => rfl) rfl (by rw [zu_here]; rfl)
theorem g_143_26 : zgf (mk n m g I J) 143 12 26 = some (.int (I 143 26)) := rfl
theorem p_143_26 (x : Int32) : zpf (mk n m g I J) 143 26 (.int x) = mk n m g (zu I 143 26 x) J := mk_pf (by decide) (by decide) _ _ (fun b hb => zu_far I 26 x hb) (fun _ _ => rfl) rfl (by rw [zu_here]; rfl)
theorem g_143_27 : zgf (mk n m g I J) 143 12 27 = some (.ref 152) := rfl
theorem g_143_28 : zgf (mk n m g I J) 143 12 28 = some (.ref 153) := rfl
theorem g_143_29 : zgf (mk n m g I J) 143 12 29 = some (.ref 154) := rfl
theorem g_143_30 : zgf (mk n m g I J) 143 12 30 = some (.ref 155) := rfl
theorem g_143_31 : zgf (mk n m g I J) 143 12 31 = some (.int (I 143 31)) := rfl
theorem p_143_31 (x : Int32) : zpf (mk n m g I J) 143 31 (.int x) = mk n m g (zu I 143 31 x) J := mk_pf (by decide) (by decide) _ _ (fun b hb => zu_far I 31 x hb) (fun _ _ => rfl) rfl (by rw [zu_here]; rfl)
theorem g_143_32 : zgf (mk n m g I J) 143 12 32 = some (.ref 156) := rfl
theorem g_143_33 : zgf (mk n m g I J) 143 12 33 = some (.ref 157) := rfl
theorem g_143_34 : zgf (mk n m g I J) 143 12 34 = some (.int (I 143 34)) := rfl
theorem p_143_34 (x : Int32) : zpf (mk n m g I J) 143 34 (.int x) = mk n m g (zu I 143 34 x) J := mk_pf (by decide) (by decide) _ _ (fun b hb => zu_far I 34 x hb) (fun _ _ => rfl) rfl (by rw [zu_here]; rfl)
theorem g_143_35 : zgf (mk n m g I J) 143 12 35 = some (.int (I 143 35)) := rfl
theorem p_143_35 (x : Int32) : zpf (mk n m g I J) 143 35 (.int x) = mk n m g (zu I 143 35 x) J := mk_pf (by decide) (by decide) _ _ (fun b hb => zu_far I 35 x hb) (fun _ _ => rfl) rfl (by rw [zu_here]; rfl)
theorem g_143_36 : zgf (mk n m g I J) 143 12 36 = some (.int (I 143 36)) := rfl
theorem p_143_36 (x : Int32) : zpf (mk n m g I J) 143 36 (.int x) = mk n m g (zu I 143 36 x) J := mk_pf (by decide) (by decide) _ _ (fun b hb => zu_far I 36 x hb) (fun _ _ => rfl) rfl (by rw [zu_here]; rfl)
theorem g_143_37 : zgf (mk n m g I J) 143 12 37 = some (.int (I 143 37)) := rfl
theorem p_143_37 (x : Int32) : zpf (mk n m g I J) 143 37 (.int x) = mk n m g (zu I 143 37 x) J := mk_pf (by decide) (by decide) _ _ (fun b hb => zu_far I 37 x hb) (fun _ _ => rfl) rfl (by rw [zu_here]; rfl)
theorem g_143_38 : zgf (mk n m g I J) 143 12 38 = some (.int (I 143 38)) := rfl
theorem p_143_38 (x : Int32) : zpf (mk n m g I J) 143 38 (.int x) = mk n m g (zu I 143 38 x) J := mk_pf (by decide) (by decide) _ _ (fun b hb => zu_far I 38 x hb) (fun _ _ => rfl) rfl (by rw [zu_here]; rfl)
theorem g_143_39 : zgf (mk n m g I J) 143 12 39 = some (.int (I 143 39)) := rfl
theorem p_143_39 (x : Int32) : zpf (mk n m g I J) 143 39 (.int x) = mk n m g (zu I 143 39 x) J := mk_pf (by decide) (by decide) _ _ (fun b hb => zu_far I 39 x hb) (fun _ _ => rfl) rfl (by rw [zu_here]; rfl)
theorem g_143_40 : zgf (mk n m g I J) 143 12 40 = some (.int (I 143 40)) := rfl
theorem p_143_40 (x : Int32) : zpf (mk n m g I J) 143 40 (.int x) = mk n m g (zu I 143 40 x) J := mk_pf (by decide) (by decide) _ _ (fun b hb => zu_far I 40 x hb) (fun _ _ => rfl) rfl (by rw [zu_here]; rfl)
theorem g_143_41 : zgf (mk n m g I J) 143 12 41 = some (.int (I 143 41)) := rfl
theorem p_143_41 (x : Int32) : zpf (mk n m g I J) 143 41 (.int x) = mk n m g (zu I 143 41 x) J := mk_pf (by decide) (by decide) _ _ (fun b hb => zu_far I 41 x hb) (fun _ _ => rfl) rfl (by rw [zu_here]; rfl)
theorem g_143_42 : zgf (mk n m g I J) 143 12 42 = some (.int (I 143 42)) := rfl
theorem p_143_42 (x : Int32) : zpf (mk n m g I J) 143 42 (.int x) = mk n m g (zu I 143 42 x) J := mk_pf (by decide) (by decide) _ _ (fun b hb => zu_far I 42 x hb) (fun _ _ => rfl) rfl (by rw [zu_here]; rfl)
theorem k_144 {k : Nat} (hk : k < 4) : zig (mk n m g I J) 144 k = some (I 144 k) := zig_c rfl hk
theorem l_144 {k : Nat} (hk : k < 4) : zld (mk n m g I J) 144 (nI k) = some (I 144 k) := zld_c (by omega) (k_144 hk)
theorem q_144 (k : Nat) (x : Int32) : zqi (mk n m g I J) 144 k x = mk n m g (zu I 144 k x) J := mk_qi (by decide) (by decide) (fun _ _ => rfl) k x
theorem n_144 : zlen (mk n m g I J) 144 = some 4 := rfl
theorem k_145 {k : Nat} (hk : k < 4) : zig (mk n m g I J) 145 k = some (I 145 k) := zig_c rfl hk
theorem l_145 {k : Nat} (hk : k < 4) : zld (mk n m g I J) 145 (nI k) = some (I 145 k) := zld_c (by omega) (k_145 hk)
theorem q_145 (k : Nat) (x : Int32) : zqi (mk n m g I J) 145 k x = mk n m g (zu I 145 k x) J := mk_qi (by decide) (by decide) (fun _ _ => rfl) k x
theorem n_145 : zlen (mk n m g I J) 145 = some 4 := rfl
theorem k_146 {k : Nat} (hk : k < 240) : zlg (mk n m g I J) 146 k = some (J 146 k) := zlg_c rfl hk
theorem q_146 (k : Nat) (x : Int64) : zql (mk n m g I J) 146 k x = mk n m g I (zu J 146 k x) := mk_ql (by decide) (by decide) (fun _ _ => rfl) k x
theorem n_146 : zlen (mk n m g I J) 146 = some 240 := rfl
theorem k_147 {k : Nat} (hk : k < 900) : zbg (mk n m g I J) 147 k = some (I 147 k) := zbg_c rfl hk
theorem l_147 {k : Nat} (hk : k < 900) : zbd (mk n m g I J) 147 (nI k) = some (I 147 k) := zbd_c (by omega) (k_147 hk)
theorem q_147 (k : Nat) (x : Int32) : zqb (mk n m g I J) 147 k x = mk n m g (zu I 147 k x) J := mk_qb (by decide) (by decide) (fun _ _ => rfl) k x
theorem n_147 : zlen (mk n m g I J) 147 = some 900 := rfl
theorem k_148 {k : Nat} (hk : k < 2530) : zig (mk n m g I J) 148 k = some (I 148 k) := zig_c rfl hk
theorem l_148 {k : Nat} (hk : k < 2530) : zld (mk n m g I J) 148 (nI k) = some (I 148 k) := zld_c (by omega) (k_148 hk)
theorem q_148 (k : Nat) (x : Int32) : zqi (mk n m g I J) 148 k x = mk n m g (zu I 148 k x) J := mk_qi (by decide) (by decide) (fun _ _ => rfl) k x
theorem n_148 : zlen (mk n m g I J) 148 = some 2530 := rfl
theorem k_149 {k : Nat} (hk : k < 234) : zig (mk n m g I J) 149 k = some (I 149 k) := zig_c rfl hk
theorem l_149 {k : Nat} (hk : k < 234) : zld (mk n m g I J) 149 (nI k) = some (I 149 k) := zld_c (by omega) (k_149 hk)
theorem q_149 (k : Nat) (x : Int32) : zqi (mk n m g I J) 149 k x = mk n m g (zu I 149 k x) J := mk_qi (by decide) (by decide) (fun _ _ => rfl) k x
theorem n_149 : zlen (mk n m g I J) 149 = some 234 := rfl
theorem k_150 {k : Nat} (hk : k < 234) : zig (mk n m g I J) 150 k = some (I 150 k) := zig_c rfl hk
theorem l_150 {k : Nat} (hk : k < 234) : zld (mk n m g I J) 150 (nI k) = some (I 150 k) := zld_c (by omega) (k_150 hk)
theorem q_150 (k : Nat) (x : Int32) : zqi (mk n m g I J) 150 k x = mk n m g (zu I 150 k x) J := mk_qi (by decide) (by decide) (fun _ _ => rfl) k x
theorem n_150 : zlen (mk n m g I J) 150 = some 234 := rfl
theorem k_151 {k : Nat} (hk : k < 90) : zlg (mk n m g I J) 151 k = some (J 151 k) := zlg_c rfl hk
theorem q_151 (k : Nat) (x : Int64) : zql (mk n m g I J) 151 k x = mk n m g I (zu J 151 k x) := mk_ql (by decide) (by decide) (fun _ _ => rfl) k x
theorem n_151 : zlen (mk n m g I J) 151 = some 90 := rfl
theorem k_152 {k : Nat} (hk : k < 13) : zlg (mk n m g I J) 152 k = some (J 152 k) := zlg_c rfl hk
theorem q_152 (k : Nat) (x : Int64) : zql (mk n m g I J) 152 k x = mk n m g I (zu J 152 k x) := mk_ql (by decide) (by decide) (fun _ _ => rfl) k x
theorem n_152 : zlen (mk n m g I J) 152 = some 13 := rfl
theorem k_153 {k : Nat} (hk : k < 4096) : zig (mk n m g I J) 153 k = some (I 153 k) := zig_c rfl hk
theorem l_153 {k : Nat} (hk : k < 4096) : zld (mk n m g I J) 153 (nI k) = some (I 153 k) := zld_c (by omega) (k_153 hk)
theorem q_153 (k : Nat) (x : Int32) : zqi (mk n m g I J) 153 k x = mk n m g (zu I 153 k x) J := mk_qi (by decide) (by decide) (fun _ _ => rfl) k x
theorem n_153 : zlen (mk n m g I J) 153 = some 4096 := rfl
theorem k_154 {k : Nat} (hk : k < 12) : zig (mk n m g I J) 154 k = some (I 154 k) := zig_c rfl hk
theorem l_154 {k : Nat} (hk : k < 12) : zld (mk n m g I J) 154 (nI k) = some (I 154 k) := zld_c (by omega) (k_154 hk)
theorem q_154 (k : Nat) (x : Int32) : zqi (mk n m g I J) 154 k x = mk n m g (zu I 154 k x) J := mk_qi (by decide) (by decide) (fun _ _ => rfl) k x
theorem n_154 : zlen (mk n m g I J) 154 = some 12 := rfl
theorem k_155 {k : Nat} (hk : k < 12) : zig (mk n m g I J) 155 k = some (I 155 k) := zig_c rfl hk
theorem l_155 {k : Nat} (hk : k < 12) : zld (mk n m g I J) 155 (nI k) = some (I 155 k) := zld_c (by omega) (k_155 hk)
theorem q_155 (k : Nat) (x : Int32) : zqi (mk n m g I J) 155 k x = mk n m g (zu I 155 k x) J := mk_qi (by decide) (by decide) (fun _ _ => rfl) k x
theorem n_155 : zlen (mk n m g I J) 155 = some 12 := rfl
theorem k_156 {k : Nat} (hk : k < 6) : zig (mk n m g I J) 156 k = some (I 156 k) := zig_c rfl hk
theorem l_156 {k : Nat} (hk : k < 6) : zld (mk n m g I J) 156 (nI k) = some (I 156 k) := zld_c (by omega) (k_156 hk)
theorem q_156 (k : Nat) (x : Int32) : zqi (mk n m g I J) 156 k x = mk n m g (zu I 156 k x) J := mk_qi (by decide) (by decide) (fun _ _ => rfl) k x
theorem n_156 : zlen (mk n m g I J) 156 = some 6 := rfl
theorem k_157 {k : Nat} (hk : k < 5) : zig (mk n m g I J) 157 k = some (I 157 k) := zig_c rfl hk
theorem l_157 {k : Nat} (hk : k < 5) : zld (mk n m g I J) 157 (nI k) = some (I 157 k) := zld_c (by omega) (k_157 hk)
theorem q_157 (k : Nat) (x : Int32) : zqi (mk n m g I J) 157 k x = mk n m g (zu I 157 k x) J := mk_qi (by decide) (by decide) (fun _ _ => rfl) k x
theorem n_157 : zlen (mk n m g I J) 157 = some 5 := rfl
end MK
