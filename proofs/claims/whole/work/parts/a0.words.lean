/-! READING: the reference's words (written by wip/whole/gen_w.py) -/
section RW
variable {n m : Nat} {g : Nat → zC} {X Y : Nat → Nat → Int32} {JX JY : Nat → Nat → Int64} {L p : Nat}
def isW (Y : Nat → Nat → Int32) (JY : Nat → Nat → Int64) (w : Int64) : Bool := decide (Y 143 14 = 1 ∧ JY 143 19 = w)
theorem v_isWord {w : Int64} (d : Nat) : zcall d 260 [.ref 143, .long w] (mk n m g Y JY) = some (some (.int (bI (isW Y JY w))), mk n m g Y JY) := by
  rw [m_X12_isWord]
  simp only [e_X12_isWord_0, e_X12_isWord_1, e_X12_isWord_4, e_X12_isWord_5, e_X12_isWord_8, e_X12_isWord_9, e_X12_isWord_12, e_X12_isWord_13, e_X12_isWord_14, e_X12_isWord_17, e_X12_isWord_18, e_X12_isWord_21, e_X12_isWord_22, g_143_14, g_143_19, lg_eq, Option.bind_some, Option.isSome_some, Option.toList, List.cons_append, List.nil_append, zclr_i, zclr_r, zclr_n, zfit_i, zfit_l, and_self, if_true, if_false]
  unfold isW
  by_cases h1 : Y 143 14 = 1 <;> by_cases h2 : JY 143 19 = w <;> simp [h1, h2, bI, zfit_b0, zfit_b1]
def sp1 (w : Int64) (r : Int32) : Int64 := if r ≤ 0 then w else w * 32 + r.toInt64 - 96
def sp (p q r s t u : Int32) : Int64 := sp1 (sp1 (sp1 (sp1 ((p.toInt64 - 96) * 32 + q.toInt64 - 96) r) s) t) u
theorem v_spelled (p q r s t u : Int32) (d : Nat) (h : zH) : zcall d 259 [.int p, .int q, .int r, .int s, .int t, .int u] h = some (some (.long (sp p q r s t u)), h) := by
  rw [m_X12_spelled]
  unfold sp
  by_cases hr : r ≤ 0 <;> by_cases hs : s ≤ 0 <;> by_cases ht : t ≤ 0 <;> by_cases hu : u ≤ 0 <;> simp only [e_X12_spelled_0, e_X12_spelled_1, e_X12_spelled_2, e_X12_spelled_5, e_X12_spelled_6, e_X12_spelled_9, e_X12_spelled_10, e_X12_spelled_11, e_X12_spelled_12, e_X12_spelled_13, e_X12_spelled_16, e_X12_spelled_17, e_X12_spelled_19, e_X12_spelled_20, e_X12_spelled_23, e_X12_spelled_25, e_X12_spelled_28, e_X12_spelled_29, e_X12_spelled_30, e_X12_spelled_31, e_X12_spelled_32, e_X12_spelled_35, e_X12_spelled_36, e_X12_spelled_39, e_X12_spelled_41, e_X12_spelled_43, e_X12_spelled_44, e_X12_spelled_47, e_X12_spelled_49, e_X12_spelled_52, e_X12_spelled_53, e_X12_spelled_54, e_X12_spelled_55, e_X12_spelled_56, e_X12_spelled_59, e_X12_spelled_60, e_X12_spelled_63, e_X12_spelled_65, e_X12_spelled_67, e_X12_spelled_69, e_X12_spelled_72, e_X12_spelled_74, e_X12_spelled_77, e_X12_spelled_78, e_X12_spelled_80, e_X12_spelled_81, e_X12_spelled_82, e_X12_spelled_85, e_X12_spelled_86, e_X12_spelled_89, e_X12_spelled_91, e_X12_spelled_93, e_X12_spelled_95, e_X12_spelled_98, e_X12_spelled_100, e_X12_spelled_103, e_X12_spelled_104, e_X12_spelled_106, e_X12_spelled_107, e_X12_spelled_108, e_X12_spelled_111, e_X12_spelled_112, e_X12_spelled_115, e_X12_spelled_117, sp1, hr, hs, ht, hu, Option.bind_some, Option.isSome_some, Option.toList, List.cons_append, List.nil_append, zclr_i, zclr_r, zclr_n, zfit_i, zfit_l, and_self, if_true, if_false]
theorem sp_year : sp 121 101 97 114 0 0 = 824370 := by decide +kernel
theorem sp_most : sp 109 111 115 116 0 0 = 441972 := by decide +kernel
theorem sp_life : sp 108 105 102 101 0 0 = 402629 := by decide +kernel
theorem sp_name : sp 110 97 109 101 0 0 = 460197 := by decide +kernel
theorem sp_worth : sp 119 111 114 116 104 0 = 24627848 := by decide +kernel
theorem sp_person : sp 112 101 114 115 111 110 = 542723566 := by decide +kernel
theorem sp_born : sp 98 111 114 110 0 0 = 81486 := by decide +kernel
theorem sp_of : sp 111 102 0 0 0 0 = 486 := by decide +kernel
theorem sp_coins : sp 99 111 105 110 115 0 = 3646931 := by decide +kernel
theorem sp_miser : sp 109 105 115 101 114 0 = 13946034 := by decide +kernel
theorem sp_child : sp 99 104 105 108 100 0 = 3417476 := by decide +kernel
theorem sp_wed : sp 119 101 100 0 0 0 = 23716 := by decide +kernel
theorem sp_likes : sp 108 105 107 101 115 0 = 12889267 := by decide +kernel
theorem sp_waits : sp 119 97 105 116 115 0 = 24159891 := by decide +kernel
theorem sp_for : sp 102 111 114 0 0 0 = 6642 := by decide +kernel
theorem sp_die : sp 100 105 101 0 0 0 = 4389 := by decide +kernel
theorem sp_birth : sp 98 105 114 116 104 0 = 2411144 := by decide +kernel
theorem sp_sell : sp 115 101 108 108 0 0 = 628108 := by decide +kernel
theorem sp_swap : sp 115 119 97 112 0 0 = 646192 := by decide +kernel
theorem sp_any : sp 97 110 121 0 0 0 = 1497 := by decide +kernel
theorem sp_when : sp 119 104 101 110 0 0 = 762030 := by decide +kernel
theorem sp_bears : sp 98 101 97 114 115 0 = 2262611 := by decide +kernel
theorem sp_dash : sp 100 97 115 104 0 0 = 132712 := by decide +kernel
theorem sp_free : sp 102 114 101 101 0 0 = 215205 := by decide +kernel
theorem sp_loop : sp 108 111 111 112 0 0 = 409072 := by decide +kernel
theorem sp_end : sp 101 110 100 0 0 0 = 5572 := by decide +kernel
theorem sp_stop : sp 115 116 111 112 0 0 = 643568 := by decide +kernel
theorem v_isMost (d : Nat) : zcall (d + 1) 261 [.ref 143] (mk n m g Y JY) = some (some (.int (bI (isW Y JY 441972))), mk n m g Y JY) := by
  rw [m_X12_isMost]
  simp only [e_X12_isMost_0, e_X12_isMost_1, e_X12_isMost_3, e_X12_isMost_5, e_X12_isMost_7, e_X12_isMost_9, e_X12_isMost_10, e_X12_isMost_11, e_X12_isMost_14, e_X12_isMost_17, c_143, v_spelled, v_isWord, sp_most, zfit_bI, Option.bind_some, Option.isSome_some, Option.toList, List.cons_append, List.nil_append, zclr_i, zclr_r, zclr_n, zfit_i, zfit_l, and_self, if_true, if_false]
theorem v_isLife (d : Nat) : zcall (d + 1) 262 [.ref 143] (mk n m g Y JY) = some (some (.int (bI (isW Y JY 402629))), mk n m g Y JY) := by
  rw [m_X12_isLife]
  simp only [e_X12_isLife_0, e_X12_isLife_1, e_X12_isLife_3, e_X12_isLife_5, e_X12_isLife_7, e_X12_isLife_9, e_X12_isLife_10, e_X12_isLife_11, e_X12_isLife_14, e_X12_isLife_17, c_143, v_spelled, v_isWord, sp_life, zfit_bI, Option.bind_some, Option.isSome_some, Option.toList, List.cons_append, List.nil_append, zclr_i, zclr_r, zclr_n, zfit_i, zfit_l, and_self, if_true, if_false]
theorem v_isNameWord (d : Nat) : zcall (d + 1) 263 [.ref 143] (mk n m g Y JY) = some (some (.int (bI (isW Y JY 460197))), mk n m g Y JY) := by
  rw [m_X12_isNameWord]
  simp only [e_X12_isNameWord_0, e_X12_isNameWord_1, e_X12_isNameWord_3, e_X12_isNameWord_5, e_X12_isNameWord_7, e_X12_isNameWord_9, e_X12_isNameWord_10, e_X12_isNameWord_11, e_X12_isNameWord_14, e_X12_isNameWord_17, c_143, v_spelled, v_isWord, sp_name, zfit_bI, Option.bind_some, Option.isSome_some, Option.toList, List.cons_append, List.nil_append, zclr_i, zclr_r, zclr_n, zfit_i, zfit_l, and_self, if_true, if_false]
theorem v_isWorth (d : Nat) : zcall (d + 1) 264 [.ref 143] (mk n m g Y JY) = some (some (.int (bI (isW Y JY 24627848))), mk n m g Y JY) := by
  rw [m_X12_isWorth]
  simp only [e_X12_isWorth_0, e_X12_isWorth_1, e_X12_isWorth_3, e_X12_isWorth_5, e_X12_isWorth_7, e_X12_isWorth_9, e_X12_isWorth_11, e_X12_isWorth_12, e_X12_isWorth_15, e_X12_isWorth_18, c_143, v_spelled, v_isWord, sp_worth, zfit_bI, Option.bind_some, Option.isSome_some, Option.toList, List.cons_append, List.nil_append, zclr_i, zclr_r, zclr_n, zfit_i, zfit_l, and_self, if_true, if_false]
theorem v_isPerson (d : Nat) : zcall (d + 1) 265 [.ref 143] (mk n m g Y JY) = some (some (.int (bI (isW Y JY 542723566))), mk n m g Y JY) := by
  rw [m_X12_isPerson]
  simp only [e_X12_isPerson_0, e_X12_isPerson_1, e_X12_isPerson_3, e_X12_isPerson_5, e_X12_isPerson_7, e_X12_isPerson_9, e_X12_isPerson_11, e_X12_isPerson_13, e_X12_isPerson_16, e_X12_isPerson_19, c_143, v_spelled, v_isWord, sp_person, zfit_bI, Option.bind_some, Option.isSome_some, Option.toList, List.cons_append, List.nil_append, zclr_i, zclr_r, zclr_n, zfit_i, zfit_l, and_self, if_true, if_false]
theorem v_isBorn (d : Nat) : zcall (d + 1) 266 [.ref 143] (mk n m g Y JY) = some (some (.int (bI (isW Y JY 81486))), mk n m g Y JY) := by
  rw [m_X12_isBorn]
  simp only [e_X12_isBorn_0, e_X12_isBorn_1, e_X12_isBorn_3, e_X12_isBorn_5, e_X12_isBorn_7, e_X12_isBorn_9, e_X12_isBorn_10, e_X12_isBorn_11, e_X12_isBorn_14, e_X12_isBorn_17, c_143, v_spelled, v_isWord, sp_born, zfit_bI, Option.bind_some, Option.isSome_some, Option.toList, List.cons_append, List.nil_append, zclr_i, zclr_r, zclr_n, zfit_i, zfit_l, and_self, if_true, if_false]
theorem v_isOf (d : Nat) : zcall (d + 1) 267 [.ref 143] (mk n m g Y JY) = some (some (.int (bI (isW Y JY 486))), mk n m g Y JY) := by
  rw [m_X12_isOf]
  simp only [e_X12_isOf_0, e_X12_isOf_1, e_X12_isOf_3, e_X12_isOf_5, e_X12_isOf_6, e_X12_isOf_7, e_X12_isOf_8, e_X12_isOf_9, e_X12_isOf_12, e_X12_isOf_15, c_143, v_spelled, v_isWord, sp_of, zfit_bI, Option.bind_some, Option.isSome_some, Option.toList, List.cons_append, List.nil_append, zclr_i, zclr_r, zclr_n, zfit_i, zfit_l, and_self, if_true, if_false]
theorem v_isCoins (d : Nat) : zcall (d + 1) 268 [.ref 143] (mk n m g Y JY) = some (some (.int (bI (isW Y JY 3646931))), mk n m g Y JY) := by
  rw [m_X12_isCoins]
  simp only [e_X12_isCoins_0, e_X12_isCoins_1, e_X12_isCoins_3, e_X12_isCoins_5, e_X12_isCoins_7, e_X12_isCoins_9, e_X12_isCoins_11, e_X12_isCoins_12, e_X12_isCoins_15, e_X12_isCoins_18, c_143, v_spelled, v_isWord, sp_coins, zfit_bI, Option.bind_some, Option.isSome_some, Option.toList, List.cons_append, List.nil_append, zclr_i, zclr_r, zclr_n, zfit_i, zfit_l, and_self, if_true, if_false]
theorem v_isMiser (d : Nat) : zcall (d + 1) 269 [.ref 143] (mk n m g Y JY) = some (some (.int (bI (isW Y JY 13946034))), mk n m g Y JY) := by
  rw [m_X12_isMiser]
  simp only [e_X12_isMiser_0, e_X12_isMiser_1, e_X12_isMiser_3, e_X12_isMiser_5, e_X12_isMiser_7, e_X12_isMiser_9, e_X12_isMiser_11, e_X12_isMiser_12, e_X12_isMiser_15, e_X12_isMiser_18, c_143, v_spelled, v_isWord, sp_miser, zfit_bI, Option.bind_some, Option.isSome_some, Option.toList, List.cons_append, List.nil_append, zclr_i, zclr_r, zclr_n, zfit_i, zfit_l, and_self, if_true, if_false]
theorem v_isChild (d : Nat) : zcall (d + 1) 270 [.ref 143] (mk n m g Y JY) = some (some (.int (bI (isW Y JY 3417476))), mk n m g Y JY) := by
  rw [m_X12_isChild]
  simp only [e_X12_isChild_0, e_X12_isChild_1, e_X12_isChild_3, e_X12_isChild_5, e_X12_isChild_7, e_X12_isChild_9, e_X12_isChild_11, e_X12_isChild_12, e_X12_isChild_15, e_X12_isChild_18, c_143, v_spelled, v_isWord, sp_child, zfit_bI, Option.bind_some, Option.isSome_some, Option.toList, List.cons_append, List.nil_append, zclr_i, zclr_r, zclr_n, zfit_i, zfit_l, and_self, if_true, if_false]
theorem v_isLikes (d : Nat) : zcall (d + 1) 271 [.ref 143] (mk n m g Y JY) = some (some (.int (bI (isW Y JY 12889267))), mk n m g Y JY) := by
  rw [m_X12_isLikes]
  simp only [e_X12_isLikes_0, e_X12_isLikes_1, e_X12_isLikes_3, e_X12_isLikes_5, e_X12_isLikes_7, e_X12_isLikes_9, e_X12_isLikes_11, e_X12_isLikes_12, e_X12_isLikes_15, e_X12_isLikes_18, c_143, v_spelled, v_isWord, sp_likes, zfit_bI, Option.bind_some, Option.isSome_some, Option.toList, List.cons_append, List.nil_append, zclr_i, zclr_r, zclr_n, zfit_i, zfit_l, and_self, if_true, if_false]
theorem v_isWaits (d : Nat) : zcall (d + 1) 272 [.ref 143] (mk n m g Y JY) = some (some (.int (bI (isW Y JY 24159891))), mk n m g Y JY) := by
  rw [m_X12_isWaits]
  simp only [e_X12_isWaits_0, e_X12_isWaits_1, e_X12_isWaits_3, e_X12_isWaits_5, e_X12_isWaits_7, e_X12_isWaits_9, e_X12_isWaits_11, e_X12_isWaits_12, e_X12_isWaits_15, e_X12_isWaits_18, c_143, v_spelled, v_isWord, sp_waits, zfit_bI, Option.bind_some, Option.isSome_some, Option.toList, List.cons_append, List.nil_append, zclr_i, zclr_r, zclr_n, zfit_i, zfit_l, and_self, if_true, if_false]
theorem v_isFor (d : Nat) : zcall (d + 1) 273 [.ref 143] (mk n m g Y JY) = some (some (.int (bI (isW Y JY 6642))), mk n m g Y JY) := by
  rw [m_X12_isFor]
  simp only [e_X12_isFor_0, e_X12_isFor_1, e_X12_isFor_3, e_X12_isFor_5, e_X12_isFor_7, e_X12_isFor_8, e_X12_isFor_9, e_X12_isFor_10, e_X12_isFor_13, e_X12_isFor_16, c_143, v_spelled, v_isWord, sp_for, zfit_bI, Option.bind_some, Option.isSome_some, Option.toList, List.cons_append, List.nil_append, zclr_i, zclr_r, zclr_n, zfit_i, zfit_l, and_self, if_true, if_false]
theorem v_isEnd (d : Nat) : zcall (d + 1) 276 [.ref 143] (mk n m g Y JY) = some (some (.int (bI (isW Y JY 5572))), mk n m g Y JY) := by
  rw [m_X12_isEnd]
  simp only [e_X12_isEnd_0, e_X12_isEnd_1, e_X12_isEnd_3, e_X12_isEnd_5, e_X12_isEnd_7, e_X12_isEnd_8, e_X12_isEnd_9, e_X12_isEnd_10, e_X12_isEnd_13, e_X12_isEnd_16, c_143, v_spelled, v_isWord, sp_end, zfit_bI, Option.bind_some, Option.isSome_some, Option.toList, List.cons_append, List.nil_append, zclr_i, zclr_r, zclr_n, zfit_i, zfit_l, and_self, if_true, if_false]
def sW (Y : Nat → Nat → Int32) (JY : Nat → Nat → Int64) : Int32 := if isW Y JY 824370 = true then 0 else if isW Y JY 4389 = true then 1 else if isW Y JY 2411144 = true then 2 else if isW Y JY 23716 = true then 3 else if isW Y JY 628108 = true then 4 else if isW Y JY 646192 = true then 5 else if isW Y JY 1497 = true then 6 else if isW Y JY 762030 = true then 7 else if isW Y JY 409072 = true then 8 else if isW Y JY 643568 = true then 9 else -1
theorem v_stepWord (d : Nat) : zcall (d + 1) 274 [.ref 143] (mk n m g Y JY) = some (some (.int (sW Y JY)), mk n m g Y JY) := by
  rw [m_X12_stepWord]
  simp only [e_X12_stepWord_0, e_X12_stepWord_1, e_X12_stepWord_3, e_X12_stepWord_5, e_X12_stepWord_7, e_X12_stepWord_9, e_X12_stepWord_10, e_X12_stepWord_11, e_X12_stepWord_14, e_X12_stepWord_17, e_X12_stepWord_20, e_X12_stepWord_21, e_X12_stepWord_22, e_X12_stepWord_23, e_X12_stepWord_25, e_X12_stepWord_27, e_X12_stepWord_29, e_X12_stepWord_30, e_X12_stepWord_31, e_X12_stepWord_32, e_X12_stepWord_35, e_X12_stepWord_38, e_X12_stepWord_41, e_X12_stepWord_42, e_X12_stepWord_43, e_X12_stepWord_44, e_X12_stepWord_46, e_X12_stepWord_48, e_X12_stepWord_50, e_X12_stepWord_52, e_X12_stepWord_54, e_X12_stepWord_55, e_X12_stepWord_58, e_X12_stepWord_61, e_X12_stepWord_64, e_X12_stepWord_65, e_X12_stepWord_66, e_X12_stepWord_67, e_X12_stepWord_69, e_X12_stepWord_71, e_X12_stepWord_73, e_X12_stepWord_74, e_X12_stepWord_75, e_X12_stepWord_76, e_X12_stepWord_79, e_X12_stepWord_82, e_X12_stepWord_85, e_X12_stepWord_86, e_X12_stepWord_87, e_X12_stepWord_88, e_X12_stepWord_90, e_X12_stepWord_92, e_X12_stepWord_94, e_X12_stepWord_96, e_X12_stepWord_97, e_X12_stepWord_98, e_X12_stepWord_101, e_X12_stepWord_104, e_X12_stepWord_107, e_X12_stepWord_108, e_X12_stepWord_109, e_X12_stepWord_110, e_X12_stepWord_112, e_X12_stepWord_114, e_X12_stepWord_116, e_X12_stepWord_118, e_X12_stepWord_119, e_X12_stepWord_120, e_X12_stepWord_123, e_X12_stepWord_126, e_X12_stepWord_129, e_X12_stepWord_130, e_X12_stepWord_131, e_X12_stepWord_132, e_X12_stepWord_134, e_X12_stepWord_136, e_X12_stepWord_138, e_X12_stepWord_139, e_X12_stepWord_140, e_X12_stepWord_141, e_X12_stepWord_144, e_X12_stepWord_147, e_X12_stepWord_150, e_X12_stepWord_152, e_X12_stepWord_153, e_X12_stepWord_154, e_X12_stepWord_156, e_X12_stepWord_158, e_X12_stepWord_160, e_X12_stepWord_162, e_X12_stepWord_163, e_X12_stepWord_164, e_X12_stepWord_167, e_X12_stepWord_170, e_X12_stepWord_173, e_X12_stepWord_175, e_X12_stepWord_176, e_X12_stepWord_177, e_X12_stepWord_179, e_X12_stepWord_181, e_X12_stepWord_183, e_X12_stepWord_185, e_X12_stepWord_186, e_X12_stepWord_187, e_X12_stepWord_190, e_X12_stepWord_193, e_X12_stepWord_196, e_X12_stepWord_198, e_X12_stepWord_199, e_X12_stepWord_200, e_X12_stepWord_202, e_X12_stepWord_204, e_X12_stepWord_206, e_X12_stepWord_208, e_X12_stepWord_209, e_X12_stepWord_210, e_X12_stepWord_213, e_X12_stepWord_216, e_X12_stepWord_219, e_X12_stepWord_221, e_X12_stepWord_224, e_X12_stepWord_225, c_143, v_spelled, v_isWord, sp_year, sp_die, sp_birth, sp_wed, sp_sell, sp_swap, sp_any, sp_when, sp_loop, sp_stop, Option.bind_some, Option.isSome_some, Option.toList, List.cons_append, List.nil_append, zclr_i, zclr_r, zclr_n, zfit_i, zfit_l, and_self, if_true, if_false]
  unfold sW
  by_cases h0 : isW Y JY 824370 = true
  · simp [h0, bI]
  by_cases h1 : isW Y JY 4389 = true
  · simp [h0, h1, bI]
  by_cases h2 : isW Y JY 2411144 = true
  · simp [h0, h1, h2, bI]
  by_cases h3 : isW Y JY 23716 = true
  · simp [h0, h1, h2, h3, bI]
  by_cases h4 : isW Y JY 628108 = true
  · simp [h0, h1, h2, h3, h4, bI]
  by_cases h5 : isW Y JY 646192 = true
  · simp [h0, h1, h2, h3, h4, h5, bI]
  by_cases h6 : isW Y JY 1497 = true
  · simp [h0, h1, h2, h3, h4, h5, h6, bI]
  by_cases h7 : isW Y JY 762030 = true
  · simp [h0, h1, h2, h3, h4, h5, h6, h7, bI]
  by_cases h8 : isW Y JY 409072 = true
  · simp [h0, h1, h2, h3, h4, h5, h6, h7, h8, bI]
  by_cases h9 : isW Y JY 643568 = true
  · simp [h0, h1, h2, h3, h4, h5, h6, h7, h8, h9, bI]
  simp [h0, h1, h2, h3, h4, h5, h6, h7, h8, h9, bI]
def tW (Y : Nat → Nat → Int32) (JY : Nat → Nat → Int64) : Int32 := if isW Y JY 2262611 = true then 0 else if isW Y JY 132712 = true then 1 else if isW Y JY 215205 = true then 2 else -1
theorem v_testWord (d : Nat) : zcall (d + 1) 275 [.ref 143] (mk n m g Y JY) = some (some (.int (tW Y JY)), mk n m g Y JY) := by
  rw [m_X12_testWord]
  simp only [e_X12_testWord_0, e_X12_testWord_1, e_X12_testWord_3, e_X12_testWord_5, e_X12_testWord_7, e_X12_testWord_9, e_X12_testWord_11, e_X12_testWord_12, e_X12_testWord_15, e_X12_testWord_18, e_X12_testWord_21, e_X12_testWord_22, e_X12_testWord_23, e_X12_testWord_24, e_X12_testWord_26, e_X12_testWord_28, e_X12_testWord_30, e_X12_testWord_32, e_X12_testWord_33, e_X12_testWord_34, e_X12_testWord_37, e_X12_testWord_40, e_X12_testWord_43, e_X12_testWord_44, e_X12_testWord_45, e_X12_testWord_46, e_X12_testWord_48, e_X12_testWord_50, e_X12_testWord_52, e_X12_testWord_54, e_X12_testWord_55, e_X12_testWord_56, e_X12_testWord_59, e_X12_testWord_62, e_X12_testWord_65, e_X12_testWord_66, e_X12_testWord_69, e_X12_testWord_70, c_143, v_spelled, v_isWord, sp_bears, sp_dash, sp_free, Option.bind_some, Option.isSome_some, Option.toList, List.cons_append, List.nil_append, zclr_i, zclr_r, zclr_n, zfit_i, zfit_l, and_self, if_true, if_false]
  unfold tW
  by_cases h0 : isW Y JY 2262611 = true
  · simp [h0, bI]
  by_cases h1 : isW Y JY 132712 = true
  · simp [h0, h1, bI]
  by_cases h2 : isW Y JY 215205 = true
  · simp [h0, h1, h2, bI]
  simp [h0, h1, h2, bI]
def kW (Y : Nat → Nat → Int32) (JY : Nat → Nat → Int64) : Bool := isW Y JY 441972 || isW Y JY 402629 || isW Y JY 460197 || isW Y JY 24627848 || isW Y JY 542723566 || isW Y JY 81486 || isW Y JY 486 || isW Y JY 3646931 || isW Y JY 13946034 || isW Y JY 3417476 || isW Y JY 12889267 || isW Y JY 24159891 || isW Y JY 6642 || decide (0 ≤ sW Y JY) || decide (0 ≤ tW Y JY) || isW Y JY 5572
theorem v_isKept (d : Nat) : zcall (d + 2) 277 [.ref 143] (mk n m g Y JY) = some (some (.int (bI (kW Y JY))), mk n m g Y JY) := by
  rw [m_X12_isKept]
  simp only [e_X12_isKept_0, e_X12_isKept_1, e_X12_isKept_4, e_X12_isKept_7, e_X12_isKept_8, e_X12_isKept_11, e_X12_isKept_14, e_X12_isKept_15, e_X12_isKept_18, e_X12_isKept_21, e_X12_isKept_22, e_X12_isKept_25, e_X12_isKept_28, e_X12_isKept_29, e_X12_isKept_32, e_X12_isKept_35, e_X12_isKept_36, e_X12_isKept_39, e_X12_isKept_42, e_X12_isKept_43, e_X12_isKept_46, e_X12_isKept_49, e_X12_isKept_50, e_X12_isKept_53, e_X12_isKept_56, e_X12_isKept_57, e_X12_isKept_60, e_X12_isKept_63, e_X12_isKept_64, e_X12_isKept_67, e_X12_isKept_70, e_X12_isKept_71, e_X12_isKept_72, e_X12_isKept_73, e_X12_isKept_76, e_X12_isKept_79, e_X12_isKept_80, e_X12_isKept_83, e_X12_isKept_86, e_X12_isKept_87, e_X12_isKept_90, e_X12_isKept_93, e_X12_isKept_94, e_X12_isKept_95, e_X12_isKept_96, e_X12_isKept_99, e_X12_isKept_102, e_X12_isKept_103, e_X12_isKept_106, e_X12_isKept_109, e_X12_isKept_110, e_X12_isKept_113, e_X12_isKept_116, e_X12_isKept_117, e_X12_isKept_120, e_X12_isKept_121, c_143, v_isMost, v_isLife, v_isNameWord, v_isWorth, v_isPerson, v_isBorn, v_isOf, v_isCoins, v_isMiser, v_isChild, v_isLikes, v_isWaits, v_isFor, v_isEnd, v_stepWord, v_testWord, Option.bind_some, Option.isSome_some, Option.toList, List.cons_append, List.nil_append, zclr_i, zclr_r, zclr_n, zfit_i, zfit_l, and_self, if_true, if_false]
  unfold kW
  by_cases h0 : isW Y JY 441972 = true
  · simp [h0, bI, zfit_b0, zfit_b1]
  by_cases h1 : isW Y JY 402629 = true
  · simp [h0, h1, bI, zfit_b0, zfit_b1]
  by_cases h2 : isW Y JY 460197 = true
  · simp [h0, h1, h2, bI, zfit_b0, zfit_b1]
  by_cases h3 : isW Y JY 24627848 = true
  · simp [h0, h1, h2, h3, bI, zfit_b0, zfit_b1]
  by_cases h4 : isW Y JY 542723566 = true
  · simp [h0, h1, h2, h3, h4, bI, zfit_b0, zfit_b1]
  by_cases h5 : isW Y JY 81486 = true
  · simp [h0, h1, h2, h3, h4, h5, bI, zfit_b0, zfit_b1]
  by_cases h6 : isW Y JY 486 = true
  · simp [h0, h1, h2, h3, h4, h5, h6, bI, zfit_b0, zfit_b1]
  by_cases h7 : isW Y JY 3646931 = true
  · simp [h0, h1, h2, h3, h4, h5, h6, h7, bI, zfit_b0, zfit_b1]
  by_cases h8 : isW Y JY 13946034 = true
  · simp [h0, h1, h2, h3, h4, h5, h6, h7, h8, bI, zfit_b0, zfit_b1]
  by_cases h9 : isW Y JY 3417476 = true
  · simp [h0, h1, h2, h3, h4, h5, h6, h7, h8, h9, bI, zfit_b0, zfit_b1]
  by_cases h10 : isW Y JY 12889267 = true
  · simp [h0, h1, h2, h3, h4, h5, h6, h7, h8, h9, h10, bI, zfit_b0, zfit_b1]
  by_cases h11 : isW Y JY 24159891 = true
  · simp [h0, h1, h2, h3, h4, h5, h6, h7, h8, h9, h10, h11, bI, zfit_b0, zfit_b1]
  by_cases h12 : isW Y JY 6642 = true
  · simp [h0, h1, h2, h3, h4, h5, h6, h7, h8, h9, h10, h11, h12, bI, zfit_b0, zfit_b1]
  by_cases hA : 0 ≤ sW Y JY
  · simp [h0, h1, h2, h3, h4, h5, h6, h7, h8, h9, h10, h11, h12, hA, bI, zfit_b0, zfit_b1]
  by_cases hB : 0 ≤ tW Y JY
  · simp [h0, h1, h2, h3, h4, h5, h6, h7, h8, h9, h10, h11, h12, hA, hB, bI, zfit_b0, zfit_b1]
  by_cases hC : isW Y JY 5572 = true <;> simp [h0, h1, h2, h3, h4, h5, h6, h7, h8, h9, h10, h11, h12, hA, hB, hC, bI, zfit_b0, zfit_b1]
def nW (Y : Nat → Nat → Int32) (JY : Nat → Nat → Int64) : Bool := decide (Y 143 14 = 1 ∧ Y 143 18 ≤ 8) && !kW Y JY
theorem v_isName (d : Nat) : zcall (d + 3) 278 [.ref 143] (mk n m g Y JY) = some (some (.int (bI (nW Y JY))), mk n m g Y JY) := by
  rw [m_X12_isName]
  simp only [e_X12_isName_0, e_X12_isName_1, e_X12_isName_4, e_X12_isName_5, e_X12_isName_8, e_X12_isName_9, e_X12_isName_12, e_X12_isName_14, e_X12_isName_17, e_X12_isName_18, e_X12_isName_21, e_X12_isName_24, e_X12_isName_25, e_X12_isName_28, e_X12_isName_29, c_143, g_143_14, g_143_18, v_isKept, Option.bind_some, Option.isSome_some, Option.toList, List.cons_append, List.nil_append, zclr_i, zclr_r, zclr_n, zfit_i, zfit_l, and_self, if_true, if_false]
  unfold nW
  by_cases h1 : Y 143 14 = 1
  · by_cases h2 : Y 143 18 ≤ 8
    · by_cases h3 : kW Y JY = true <;> simp [h1, h2, h3, Int32.not_lt.mpr h2, bI, zfit_b0, zfit_b1]
    · simp [h1, h2, Int32.not_le.mp h2, bI, zfit_b0, zfit_b1]
  · simp [h1, bI, zfit_b0, zfit_b1]
/-- both stand at the same word, and nothing was amiss so far -/
def RDS (L p : Nat) (X : Nat → Nat → Int32) (JX : Nat → Nat → Int64) (Y : Nat → Nat → Int32) (JY : Nat → Nat → Int64) : Prop := dWell X L p ∧ TX X Y L ∧ TK X JX Y JY ∧ Y 143 12 = 0 ∧ (X 13 10 = 0 ∧ X 13 11 = -1) ∧ ∀ k, k < 27 → JX 14 k = (resL[k]?).getD 0
theorem zfind_or {c : Nat → Bool} : ∀ k p, zfind c nI (-1) p k = -1 ∧ (∀ q, p ≤ q → q < p + k → c q = false) ∨ ∃ j, p ≤ j ∧ j < p + k ∧ c j = true ∧ zfind c nI (-1) p k = nI j
  | 0, p => .inl ⟨rfl, fun q h1 h2 => absurd h2 (by omega)⟩
  | k + 1, p => by
    rw [zfind]
    by_cases h : c p = true
    · rw [if_pos h]
      exact .inr ⟨p, Nat.le_refl p, by omega, h, rfl⟩
    · rw [if_neg h]
      rcases zfind_or (c := c) k (p + 1) with ⟨h1, h2⟩ | ⟨j, h1, h2, h3, h4⟩
      · refine .inl ⟨h1, fun q q1 q2 => ?_⟩
        by_cases e : q = p
        · rw [e]
          exact Bool.eq_false_iff.mpr h
        · exact h2 q (by omega) (by omega)
      · exact .inr ⟨j, by omega, by omega, h3, h4⟩
theorem res_inj : ∀ k, k < 27 → ∀ j, j < 27 → (resL[k]?).getD 0 = (resL[j]?).getD 0 → k = j := by decide +kernel
theorem wP_key (hr : ∀ k, k < 27 → JX 14 k = (resL[k]?).getD 0) {w : Int64} : (wPlace JX 14 27 w = -1 ∧ ∀ k, k < 27 → w ≠ (resL[k]?).getD 0) ∨ ∃ j, j < 27 ∧ wPlace JX 14 27 w = nI j ∧ w = (resL[j]?).getD 0 := by
  rcases zfind_or (c := fun k => decide (JX 14 k = w)) 27 0 with ⟨h1, h2⟩ | ⟨j, h1, h2, h3, h4⟩
  · refine .inl ⟨h1, fun k hk e => ?_⟩
    have := h2 k (by omega) (by omega)
    rw [decide_eq_false_iff_not] at this
    exact this ((hr k hk).trans e.symm)
  · refine .inr ⟨j, by omega, h4, ?_⟩
    rw [decide_eq_true_eq] at h3
    rw [← h3]
    exact hr j (by omega)
theorem RDS.kcase (h : RDS L p X JX Y JY) : X 13 9 = -1 ∨ ∃ k, k < 27 ∧ X 13 9 = nI k := by
  obtain ⟨_, _, ⟨_, _, _, h3⟩, _, _, hr⟩ := h
  rcases h3 with h3 | h3 | h3 | h3 | h3
  · exact .inl h3.2.2
  · exact .inl h3.2.2
  · rw [h3.2.2.2.2.1]
    rcases wP_key hr (w := JX 13 8) with h | ⟨j, h1, h2, _⟩
    · exact .inl h.1
    · exact .inr ⟨j, h1, h2⟩
  · exact .inl h3.2.2.2
  · exact .inl h3.2.2.2
theorem RDS.key (h : RDS L p X JX Y JY) (k : Nat) (hk : k < 27) : isW Y JY ((resL[k]?).getD 0) = decide (X 13 9 = nI k) := by
  obtain ⟨_, _, ⟨_, _, _, h3⟩, _, _, hr⟩ := h
  have hno : ∀ t, Y 143 14 = t → t ≠ 1 → X 13 9 = -1 → isW Y JY ((resL[k]?).getD 0) = decide (X 13 9 = nI k) := fun t e1 e2 e3 => by
    unfold isW
    rw [e1, e3, decide_eq_false (fun q => e2 q.1), decide_eq_false (fun q => nI_m1 (show k < 2 ^ 31 by omega) q.symm)]
  rcases h3 with h3 | h3 | h3 | h3 | h3
  · exact hno 0 h3.2.1 (by decide) h3.2.2
  · exact hno 4 h3.2.1 (by decide) h3.2.2
  · obtain ⟨_, e1, e2, _, e3, _⟩ := h3
    unfold isW
    rw [e1, e2, e3]
    rcases wP_key hr (w := JX 13 8) with ⟨h1, h2⟩ | ⟨j, h0, h1, h2⟩
    · rw [h1, decide_eq_false (fun q => h2 k hk q.2), decide_eq_false (fun q => nI_m1 (show k < 2 ^ 31 by omega) q.symm)]
    · rw [h1]
      by_cases e : j = k
      · subst e
        rw [decide_eq_true rfl, decide_eq_true ⟨rfl, h2⟩]
      · rw [decide_eq_false (fun q => e (nI_inj (by omega) (by omega) q)), decide_eq_false (fun q => e (res_inj j h0 k hk (h2.symm.trans q.2)))]
  · exact hno 2 h3.2.1 (by decide) h3.2.2.2
  · exact hno 3 h3.2.1 (by decide) h3.2.2.2
theorem RDS.k0 (h : RDS L p X JX Y JY) : isW Y JY 824370 = decide (X 13 9 = 0) := h.key 0 (by decide)
theorem RDS.k1 (h : RDS L p X JX Y JY) : isW Y JY 441972 = decide (X 13 9 = 1) := h.key 1 (by decide)
theorem RDS.k2 (h : RDS L p X JX Y JY) : isW Y JY 402629 = decide (X 13 9 = 2) := h.key 2 (by decide)
theorem RDS.k3 (h : RDS L p X JX Y JY) : isW Y JY 460197 = decide (X 13 9 = 3) := h.key 3 (by decide)
theorem RDS.k4 (h : RDS L p X JX Y JY) : isW Y JY 24627848 = decide (X 13 9 = 4) := h.key 4 (by decide)
theorem RDS.k5 (h : RDS L p X JX Y JY) : isW Y JY 542723566 = decide (X 13 9 = 5) := h.key 5 (by decide)
theorem RDS.k6 (h : RDS L p X JX Y JY) : isW Y JY 81486 = decide (X 13 9 = 6) := h.key 6 (by decide)
theorem RDS.k7 (h : RDS L p X JX Y JY) : isW Y JY 486 = decide (X 13 9 = 7) := h.key 7 (by decide)
theorem RDS.k8 (h : RDS L p X JX Y JY) : isW Y JY 3646931 = decide (X 13 9 = 8) := h.key 8 (by decide)
theorem RDS.k9 (h : RDS L p X JX Y JY) : isW Y JY 13946034 = decide (X 13 9 = 9) := h.key 9 (by decide)
theorem RDS.k10 (h : RDS L p X JX Y JY) : isW Y JY 3417476 = decide (X 13 9 = 10) := h.key 10 (by decide)
theorem RDS.k11 (h : RDS L p X JX Y JY) : isW Y JY 23716 = decide (X 13 9 = 11) := h.key 11 (by decide)
theorem RDS.k12 (h : RDS L p X JX Y JY) : isW Y JY 12889267 = decide (X 13 9 = 12) := h.key 12 (by decide)
theorem RDS.k13 (h : RDS L p X JX Y JY) : isW Y JY 24159891 = decide (X 13 9 = 13) := h.key 13 (by decide)
theorem RDS.k14 (h : RDS L p X JX Y JY) : isW Y JY 6642 = decide (X 13 9 = 14) := h.key 14 (by decide)
theorem RDS.k15 (h : RDS L p X JX Y JY) : isW Y JY 4389 = decide (X 13 9 = 15) := h.key 15 (by decide)
theorem RDS.k16 (h : RDS L p X JX Y JY) : isW Y JY 2411144 = decide (X 13 9 = 16) := h.key 16 (by decide)
theorem RDS.k17 (h : RDS L p X JX Y JY) : isW Y JY 628108 = decide (X 13 9 = 17) := h.key 17 (by decide)
theorem RDS.k18 (h : RDS L p X JX Y JY) : isW Y JY 646192 = decide (X 13 9 = 18) := h.key 18 (by decide)
theorem RDS.k19 (h : RDS L p X JX Y JY) : isW Y JY 1497 = decide (X 13 9 = 19) := h.key 19 (by decide)
theorem RDS.k20 (h : RDS L p X JX Y JY) : isW Y JY 762030 = decide (X 13 9 = 20) := h.key 20 (by decide)
theorem RDS.k21 (h : RDS L p X JX Y JY) : isW Y JY 2262611 = decide (X 13 9 = 21) := h.key 21 (by decide)
theorem RDS.k22 (h : RDS L p X JX Y JY) : isW Y JY 132712 = decide (X 13 9 = 22) := h.key 22 (by decide)
theorem RDS.k23 (h : RDS L p X JX Y JY) : isW Y JY 215205 = decide (X 13 9 = 23) := h.key 23 (by decide)
theorem RDS.k24 (h : RDS L p X JX Y JY) : isW Y JY 409072 = decide (X 13 9 = 24) := h.key 24 (by decide)
theorem RDS.k25 (h : RDS L p X JX Y JY) : isW Y JY 5572 = decide (X 13 9 = 25) := h.key 25 (by decide)
theorem RDS.k26 (h : RDS L p X JX Y JY) : isW Y JY 643568 = decide (X 13 9 = 26) := h.key 26 (by decide)
def sK (x : Int32) : Int32 := if x = 0 then 0 else if x = 15 then 1 else if x = 16 then 2 else if x = 11 then 3 else if x = 17 then 4 else if x = 18 then 5 else if x = 19 then 6 else if x = 20 then 7 else if x = 24 then 8 else if x = 26 then 9 else -1
def tK (x : Int32) : Int32 := if x = 21 then 0 else if x = 22 then 1 else if x = 23 then 2 else -1
theorem RDS.step (h : RDS L p X JX Y JY) : sW Y JY = sK (X 13 9) := by
  unfold sW sK
  simp only [h.k0, h.k15, h.k16, h.k11, h.k17, h.k18, h.k19, h.k20, h.k24, h.k26, decide_eq_true_eq]
theorem RDS.test (h : RDS L p X JX Y JY) : tW Y JY = tK (X 13 9) := by
  unfold tW tK
  simp only [h.k21, h.k22, h.k23, decide_eq_true_eq]
def kK (x : Int32) : Bool := decide (x = 1) || decide (x = 2) || decide (x = 3) || decide (x = 4) || decide (x = 5) || decide (x = 6) || decide (x = 7) || decide (x = 8) || decide (x = 9) || decide (x = 10) || decide (x = 12) || decide (x = 13) || decide (x = 14) || decide (0 ≤ sK x) || decide (0 ≤ tK x) || decide (x = 25)
theorem kK_all : ∀ k, k < 27 → kK (nI k) = true := by decide +kernel
theorem RDS.kept (h : RDS L p X JX Y JY) : kW Y JY = decide (X 13 9 ≠ -1) := by
  have e : kW Y JY = kK (X 13 9) := by
    unfold kW kK
    rw [h.step, h.test, h.k1, h.k2, h.k3, h.k4, h.k5, h.k6, h.k7, h.k8, h.k9, h.k10, h.k12, h.k13, h.k14, h.k25]
  rw [e]
  rcases h.kcase with e1 | ⟨k, hk, e1⟩
  · rw [e1]
    rfl
  · rw [e1, kK_all k hk]
    exact (decide_eq_true (nI_m1 (by omega))).symm
theorem RDS.name (h : RDS L p X JX Y JY) : nW Y JY = dName X JX := by
  have hk := h.kept
  unfold nW dName
  rw [hk]
  obtain ⟨_, _, ⟨_, _, _, h3⟩, _, _, hr⟩ := h
  rcases h3 with h3 | h3 | h3 | h3 | h3
  · rw [h3.1, h3.2.1]
    simp
  · rw [h3.1, h3.2.1]
    simp
  · obtain ⟨e0, e1, e2, e3, e4, _⟩ := h3
    rw [e0, e1]
    by_cases c1 : JX 13 8 = -1 <;> by_cases c2 : X 13 9 = -1 <;> simp [e3, c1, c2]
  · rw [h3.1, h3.2.1]
    simp
  · rw [h3.1, h3.2.1]
    simp
/-- what a name's word is -/
theorem RDS.pos (h : RDS L p X JX Y JY) (hn : dName X JX = true) : JY 143 19 = JX 13 8 ∧ 0 < JX 13 8 := by
  unfold dName at hn
  rw [decide_eq_true_eq] at hn
  obtain ⟨_, _, ⟨_, _, _, h3⟩, _, _, hr⟩ := h
  rcases h3 with h3 | h3 | h3 | h3 | h3
  · exact absurd (h3.1.symm.trans hn.1) (by decide)
  · exact absurd (h3.1.symm.trans hn.1) (by decide)
  · exact ⟨h3.2.2.1, h3.2.2.2.2.2 hn.2.1⟩
  · exact absurd (h3.1.symm.trans hn.1) (by decide)
  · exact absurd (h3.1.symm.trans hn.1) (by decide)
theorem RDS.bad1 (h : RDS L p X JX Y JY) : (Y 143 14 = 4) = (X 13 5 = 1) := by
  obtain ⟨_, _, ⟨_, _, _, h3⟩, _, _, hr⟩ := h
  rcases h3 with h3 | h3 | h3 | h3 | h3 <;> rw [h3.1, h3.2.1] <;> decide
theorem RDS.end0 (h : RDS L p X JX Y JY) : (Y 143 14 = 0) = (X 13 5 = 0) := by
  obtain ⟨_, _, ⟨_, _, _, h3⟩, _, _, hr⟩ := h
  rcases h3 with h3 | h3 | h3 | h3 | h3 <;> rw [h3.1, h3.2.1] <;> decide
theorem RDS.word1 (h : RDS L p X JX Y JY) : (Y 143 14 = 1) = (X 13 5 = 2) := by
  obtain ⟨_, _, ⟨_, _, _, h3⟩, _, _, hr⟩ := h
  rcases h3 with h3 | h3 | h3 | h3 | h3 <;> rw [h3.1, h3.2.1] <;> decide
theorem RDS.num2 (h : RDS L p X JX Y JY) : (Y 143 14 = 2) = (X 13 5 = 3) := by
  obtain ⟨_, _, ⟨_, _, _, h3⟩, _, _, hr⟩ := h
  rcases h3 with h3 | h3 | h3 | h3 | h3 <;> rw [h3.1, h3.2.1] <;> decide
theorem RDS.sig3 (h : RDS L p X JX Y JY) : (Y 143 14 = 3) = (X 13 5 = 4) := by
  obtain ⟨_, _, ⟨_, _, _, h3⟩, _, _, hr⟩ := h
  rcases h3 with h3 | h3 | h3 | h3 | h3 <;> rw [h3.1, h3.2.1] <;> decide
theorem RDS.numb (h : RDS L p X JX Y JY) (c : X 13 5 = 3) : Y 143 17 = X 13 6 := by
  obtain ⟨_, _, ⟨_, _, _, h3⟩, _, _, hr⟩ := h
  rcases h3 with h3 | h3 | h3 | h3 | h3
  · exact absurd (h3.1.symm.trans c) (by decide)
  · exact absurd (h3.1.symm.trans c) (by decide)
  · exact absurd (h3.1.symm.trans c) (by decide)
  · exact h3.2.2.1
  · exact absurd (h3.1.symm.trans c) (by decide)
theorem RDS.sgn (h : RDS L p X JX Y JY) (c : X 13 5 = 4) : Y 143 17 = X 13 7 := by
  obtain ⟨_, _, ⟨_, _, _, h3⟩, _, _, hr⟩ := h
  rcases h3 with h3 | h3 | h3 | h3 | h3
  · exact absurd (h3.1.symm.trans c) (by decide)
  · exact absurd (h3.1.symm.trans c) (by decide)
  · exact absurd (h3.1.symm.trans c) (by decide)
  · exact absurd (h3.1.symm.trans c) (by decide)
  · exact h3.2.2.1.1
theorem RDS.sgns (h : RDS L p X JX Y JY) (c : X 13 5 = 4) : X 13 7 = 59 ∨ X 13 7 = 60 ∨ X 13 7 = 62 ∨ X 13 7 = 61 := by
  obtain ⟨_, _, ⟨_, _, _, h3⟩, _, _, hr⟩ := h
  rcases h3 with h3 | h3 | h3 | h3 | h3
  · exact absurd (h3.1.symm.trans c) (by decide)
  · exact absurd (h3.1.symm.trans c) (by decide)
  · exact absurd (h3.1.symm.trans c) (by decide)
  · exact absurd (h3.1.symm.trans c) (by decide)
  · exact h3.2.2.1.2
theorem RDS.at (h : RDS L p X JX Y JY) : Y 143 15 = X 13 4 := h.2.2.1.2.1
theorem RDS.bad (h : RDS L p X JX Y JY) : Y 143 12 = 0 := h.2.2.2.1
end RW
