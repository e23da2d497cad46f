/-! a call begins: its variables -/
theorem m_X0_init (d : Nat) (a0 : Nat) (a1 : Nat) (a2 : Nat) (a3 : Nat) (h : zH) : zcall d 0 [.ref a0, .ref a1, .ref a2, .ref a3] h = zexec d 0 0 [some (.ref a0), some (.ref a1), some (.ref a2), some (.ref a3)] [] h := by
  unfold zcall zent
  rw [show zml 0 = 4 by decide +kernel]
  rfl
theorem m_X0_readAll (d : Nat) (a0 : Nat) (h : zH) : zcall d 1 [.ref a0] h = zexec d 1 0 [some (.ref a0), none, none] [] h := by
  unfold zcall zent
  rw [show zml 1 = 3 by decide +kernel]
  rfl
theorem m_X0_endLine (d : Nat) (a0 : Nat) (h : zH) : zcall d 2 [.ref a0] h = zexec d 2 0 [some (.ref a0)] [] h := by
  unfold zcall zent
  rw [show zml 2 = 1 by decide +kernel]
  rfl
theorem m_X0_isStep (d : Nat) (a0 : Int32) (h : zH) : zcall d 3 [.int a0] h = zexec d 3 0 [some (.int a0)] [] h := by
  unfold zcall zent
  rw [show zml 3 = 1 by decide +kernel]
  rfl
theorem m_X0_isTest (d : Nat) (a0 : Int32) (h : zH) : zcall d 4 [.int a0] h = zexec d 4 0 [some (.int a0)] [] h := by
  unfold zcall zent
  rw [show zml 4 = 1 by decide +kernel]
  rfl
theorem m_X0_stepLine (d : Nat) (a0 : Nat) (a1 : Int32) (h : zH) : zcall d 5 [.ref a0, .int a1] h = zexec d 5 0 [some (.ref a0), some (.int a1), none, none] [] h := by
  unfold zcall zent
  rw [show zml 5 = 4 by decide +kernel]
  rfl
theorem m_X0_readRest (d : Nat) (a0 : Nat) (a1 : Int32) (h : zH) : zcall d 6 [.ref a0, .int a1] h = zexec d 6 0 [some (.ref a0), some (.int a1)] [] h := by
  unfold zcall zent
  rw [show zml 6 = 2 by decide +kernel]
  rfl
theorem m_X0_wordAlone (d : Nat) (a0 : Nat) (a1 : Int32) (h : zH) : zcall d 7 [.ref a0, .int a1] h = zexec d 7 0 [some (.ref a0), some (.int a1)] [] h := by
  unfold zcall zent
  rw [show zml 7 = 2 by decide +kernel]
  rfl
theorem m_X0_numberUpTo (d : Nat) (a0 : Nat) (a1 : Int32) (a2 : Int32) (h : zH) : zcall d 8 [.ref a0, .int a1, .int a2] h = zexec d 8 0 [some (.ref a0), some (.int a1), some (.int a2), none] [] h := by
  unfold zcall zent
  rw [show zml 8 = 4 by decide +kernel]
  rfl
theorem m_X0_takePerson (d : Nat) (a0 : Nat) (h : zH) : zcall d 9 [.ref a0] h = zexec d 9 0 [some (.ref a0), none] [] h := by
  unfold zcall zent
  rw [show zml 9 = 2 by decide +kernel]
  rfl
theorem m_X0_takeSurname (d : Nat) (a0 : Nat) (h : zH) : zcall d 10 [.ref a0] h = zexec d 10 0 [some (.ref a0), none] [] h := by
  unfold zcall zent
  rw [show zml 10 = 2 by decide +kernel]
  rfl
theorem m_X0_onePerson (d : Nat) (a0 : Nat) (a1 : Int32) (h : zH) : zcall d 11 [.ref a0, .int a1] h = zexec d 11 0 [some (.ref a0), some (.int a1), none] [] h := by
  unfold zcall zent
  rw [show zml 11 = 3 by decide +kernel]
  rfl
theorem m_X0_twoPersons (d : Nat) (a0 : Nat) (a1 : Int32) (h : zH) : zcall d 12 [.ref a0, .int a1] h = zexec d 12 0 [some (.ref a0), some (.int a1), none, none] [] h := by
  unfold zcall zent
  rw [show zml 12 = 4 by decide +kernel]
  rfl
theorem m_X0_bearsTest (d : Nat) (a0 : Nat) (h : zH) : zcall d 13 [.ref a0] h = zexec d 13 0 [some (.ref a0), none, none] [] h := by
  unfold zcall zent
  rw [show zml 13 = 3 by decide +kernel]
  rfl
theorem m_X0_freeTest (d : Nat) (a0 : Nat) (h : zH) : zcall d 14 [.ref a0] h = zexec d 14 0 [some (.ref a0), none, none, none] [] h := by
  unfold zcall zent
  rw [show zml 14 = 4 by decide +kernel]
  rfl
theorem m_X1_bit (d : Nat) (a0 : Int32) (h : zH) : zcall d 15 [.int a0] h = zexec d 15 0 [some (.int a0)] [] h := by
  unfold zcall zent
  rw [show zml 15 = 1 by decide +kernel]
  rfl
theorem m_X1_parentsOf (d : Nat) (a0 : Nat) (a1 : Int32) (h : zH) : zcall d 16 [.ref a0, .int a1] h = zexec d 16 0 [some (.ref a0), some (.int a1)] [] h := by
  unfold zcall zent
  rw [show zml 16 = 2 by decide +kernel]
  rfl
theorem m_X1_childrenOf (d : Nat) (a0 : Nat) (a1 : Int32) (h : zH) : zcall d 17 [.ref a0, .int a1] h = zexec d 17 0 [some (.ref a0), some (.int a1), none, none] [] h := by
  unfold zcall zent
  rw [show zml 17 = 4 by decide +kernel]
  rfl
theorem m_X1_areNear (d : Nat) (a0 : Nat) (a1 : Int32) (a2 : Int32) (h : zH) : zcall d 18 [.ref a0, .int a1, .int a2] h = zexec d 18 0 [some (.ref a0), some (.int a1), some (.int a2), none, none] [] h := by
  unfold zcall zent
  rw [show zml 18 = 5 by decide +kernel]
  rfl
theorem m_X1_eldersOf (d : Nat) (a0 : Nat) (a1 : Int32) (h : zH) : zcall d 19 [.ref a0, .int a1] h = zexec d 19 0 [some (.ref a0), some (.int a1), none, none, none] [] h := by
  unfold zcall zent
  rw [show zml 19 = 5 by decide +kernel]
  rfl
theorem m_X1_steps (d : Nat) (a0 : Nat) (a1 : Int32) (a2 : Int32) (h : zH) : zcall d 20 [.ref a0, .int a1, .int a2] h = zexec d 20 0 [some (.ref a0), some (.int a1), some (.int a2), none, none] [] h := by
  unfold zcall zent
  rw [show zml 20 = 5 by decide +kernel]
  rfl
theorem m_X1_around (d : Nat) (a0 : Nat) (a1 : Int32) (h : zH) : zcall d 21 [.ref a0, .int a1] h = zexec d 21 0 [some (.ref a0), some (.int a1), none, none] [] h := by
  unfold zcall zent
  rw [show zml 21 = 4 by decide +kernel]
  rfl
theorem m_X1_couldHave (d : Nat) (a0 : Nat) (a1 : Int32) (a2 : Int32) (a3 : Int32) (h : zH) : zcall d 22 [.ref a0, .int a1, .int a2, .int a3] h = zexec d 22 0 [some (.ref a0), some (.int a1), some (.int a2), some (.int a3), none, none, none, none] [] h := by
  unfold zcall zent
  rw [show zml 22 = 8 by decide +kernel]
  rfl
theorem m_X2_init (d : Nat) (a0 : Nat) (h : zH) : zcall d 23 [.ref a0] h = zexec d 23 0 [some (.ref a0)] [] h := by
  unfold zcall zent
  rw [show zml 23 = 1 by decide +kernel]
  rfl
theorem m_X2_run (d : Nat) (a0 : Nat) (a1 : Nat) (a2 : Nat) (a3 : Int32) (h : zH) : zcall d 24 [.ref a0, .ref a1, .ref a2, .int a3] h = zexec d 24 0 [some (.ref a0), some (.ref a1), some (.ref a2), some (.int a3), none, none, none] [] h := by
  unfold zcall zent
  rw [show zml 24 = 7 by decide +kernel]
  rfl
theorem m_X2_behindEnd (d : Nat) (a0 : Nat) (a1 : Nat) (a2 : Int32) (h : zH) : zcall d 25 [.ref a0, .ref a1, .int a2] h = zexec d 25 0 [some (.ref a0), some (.ref a1), some (.int a2), none] [] h := by
  unfold zcall zent
  rw [show zml 25 = 4 by decide +kernel]
  rfl
theorem m_X2_inside (d : Nat) (a0 : Nat) (a1 : Nat) (a2 : Nat) (a3 : Int32) (h : zH) : zcall d 26 [.ref a0, .ref a1, .ref a2, .int a3] h = zexec d 26 0 [some (.ref a0), some (.ref a1), some (.ref a2), some (.int a3), none] [] h := by
  unfold zcall zent
  rw [show zml 26 = 5 by decide +kernel]
  rfl
theorem m_X2_holds (d : Nat) (a0 : Nat) (a1 : Nat) (a2 : Int32) (h : zH) : zcall d 27 [.ref a0, .ref a1, .int a2] h = zexec d 27 0 [some (.ref a0), some (.ref a1), some (.int a2), none] [] h := by
  unfold zcall zent
  rw [show zml 27 = 4 by decide +kernel]
  rfl
theorem m_X2_compares (d : Nat) (a0 : Int32) (a1 : Int32) (a2 : Int32) (h : zH) : zcall d 28 [.int a0, .int a1, .int a2] h = zexec d 28 0 [some (.int a0), some (.int a1), some (.int a2)] [] h := by
  unfold zcall zent
  rw [show zml 28 = 3 by decide +kernel]
  rfl
theorem m_X2_act (d : Nat) (a0 : Nat) (a1 : Nat) (a2 : Int32) (a3 : Int32) (a4 : Int32) (h : zH) : zcall d 29 [.ref a0, .ref a1, .int a2, .int a3, .int a4] h = zexec d 29 0 [some (.ref a0), some (.ref a1), some (.int a2), some (.int a3), some (.int a4)] [] h := by
  unfold zcall zent
  rw [show zml 29 = 5 by decide +kernel]
  rfl
theorem m_X2_letYearsPass (d : Nat) (a0 : Nat) (a1 : Nat) (a2 : Int32) (h : zH) : zcall d 30 [.ref a0, .ref a1, .int a2] h = zexec d 30 0 [some (.ref a0), some (.ref a1), some (.int a2)] [] h := by
  unfold zcall zent
  rw [show zml 30 = 3 by decide +kernel]
  rfl
theorem m_X2_bury (d : Nat) (a0 : Nat) (a1 : Nat) (a2 : Int32) (h : zH) : zcall d 31 [.ref a0, .ref a1, .int a2] h = zexec d 31 0 [some (.ref a0), some (.ref a1), some (.int a2)] [] h := by
  unfold zcall zent
  rw [show zml 31 = 3 by decide +kernel]
  rfl
theorem m_X2_bear (d : Nat) (a0 : Nat) (a1 : Nat) (a2 : Int32) (a3 : Int32) (h : zH) : zcall d 32 [.ref a0, .ref a1, .int a2, .int a3] h = zexec d 32 0 [some (.ref a0), some (.ref a1), some (.int a2), some (.int a3)] [] h := by
  unfold zcall zent
  rw [show zml 32 = 4 by decide +kernel]
  rfl
theorem m_X2_marry (d : Nat) (a0 : Nat) (a1 : Int32) (a2 : Int32) (h : zH) : zcall d 33 [.ref a0, .int a1, .int a2] h = zexec d 33 0 [some (.ref a0), some (.int a1), some (.int a2)] [] h := by
  unfold zcall zent
  rw [show zml 33 = 3 by decide +kernel]
  rfl
theorem m_X2_handOver (d : Nat) (a0 : Nat) (a1 : Int32) (a2 : Int32) (h : zH) : zcall d 34 [.ref a0, .int a1, .int a2] h = zexec d 34 0 [some (.ref a0), some (.int a1), some (.int a2)] [] h := by
  unfold zcall zent
  rw [show zml 34 = 3 by decide +kernel]
  rfl
theorem m_X2_exchange (d : Nat) (a0 : Nat) (a1 : Int32) (a2 : Int32) (h : zH) : zcall d 35 [.ref a0, .int a1, .int a2] h = zexec d 35 0 [some (.ref a0), some (.int a1), some (.int a2)] [] h := by
  unfold zcall zent
  rw [show zml 35 = 3 by decide +kernel]
  rfl
theorem m_X2_drawLiving (d : Nat) (a0 : Nat) (a1 : Nat) (h : zH) : zcall d 36 [.ref a0, .ref a1] h = zexec d 36 0 [some (.ref a0), some (.ref a1), none, none, none] [] h := by
  unfold zcall zent
  rw [show zml 36 = 5 by decide +kernel]
  rfl
theorem m_X3_init (d : Nat) (a0 : Nat) (h : zH) : zcall d 37 [.ref a0] h = zexec d 37 0 [some (.ref a0)] [] h := by
  unfold zcall zent
  rw [show zml 37 = 1 by decide +kernel]
  rfl
theorem m_X3_copyFrom (d : Nat) (a0 : Nat) (a1 : Nat) (h : zH) : zcall d 38 [.ref a0, .ref a1] h = zexec d 38 0 [some (.ref a0), some (.ref a1)] [] h := by
  unfold zcall zent
  rw [show zml 38 = 2 by decide +kernel]
  rfl
theorem m_X3_placeOf (d : Nat) (a0 : Nat) (a1 : Int32) (h : zH) : zcall d 39 [.ref a0, .int a1] h = zexec d 39 0 [some (.ref a0), some (.int a1), none] [] h := by
  unfold zcall zent
  rw [show zml 39 = 3 by decide +kernel]
  rfl
theorem m_X3_add (d : Nat) (a0 : Nat) (a1 : Int32) (a2 : Int32) (h : zH) : zcall d 40 [.ref a0, .int a1, .int a2] h = zexec d 40 0 [some (.ref a0), some (.int a1), some (.int a2)] [] h := by
  unfold zcall zent
  rw [show zml 40 = 3 by decide +kernel]
  rfl
theorem m_X3_drop (d : Nat) (a0 : Nat) (a1 : Int32) (h : zH) : zcall d 41 [.ref a0, .int a1] h = zexec d 41 0 [some (.ref a0), some (.int a1), none, none] [] h := by
  unfold zcall zent
  rw [show zml 41 = 4 by decide +kernel]
  rfl
theorem m_X3_dropServed (d : Nat) (a0 : Nat) (a1 : Nat) (h : zH) : zcall d 42 [.ref a0, .ref a1] h = zexec d 42 0 [some (.ref a0), some (.ref a1), none, none] [] h := by
  unfold zcall zent
  rw [show zml 42 = 4 by decide +kernel]
  rfl
theorem m_X4_init (d : Nat) (a0 : Nat) (h : zH) : zcall d 43 [.ref a0] h = zexec d 43 0 [some (.ref a0), none, none, none, none, none] [] h := by
  unfold zcall zent
  rw [show zml 43 = 6 by decide +kernel]
  rfl
theorem m_X4_begin (d : Nat) (a0 : Nat) (a1 : Nat) (a2 : Int32) (h : zH) : zcall d 44 [.ref a0, .ref a1, .int a2] h = zexec d 44 0 [some (.ref a0), some (.ref a1), some (.int a2)] [] h := by
  unfold zcall zent
  rw [show zml 44 = 3 by decide +kernel]
  rfl
theorem m_X4_advance (d : Nat) (a0 : Nat) (h : zH) : zcall d 45 [.ref a0] h = zexec d 45 0 [some (.ref a0), none, none] [] h := by
  unfold zcall zent
  rw [show zml 45 = 3 by decide +kernel]
  rfl
theorem m_X4_behindRun (d : Nat) (a0 : Nat) (a1 : Int32) (a2 : Int32) (h : zH) : zcall d 46 [.ref a0, .int a1, .int a2] h = zexec d 46 0 [some (.ref a0), some (.int a1), some (.int a2), none] [] h := by
  unfold zcall zent
  rw [show zml 46 = 4 by decide +kernel]
  rfl
theorem m_X4_readWord (d : Nat) (a0 : Nat) (a1 : Int32) (h : zH) : zcall d 47 [.ref a0, .int a1] h = zexec d 47 0 [some (.ref a0), some (.int a1), none] [] h := by
  unfold zcall zent
  rw [show zml 47 = 3 by decide +kernel]
  rfl
theorem m_X4_readNumber (d : Nat) (a0 : Nat) (a1 : Int32) (h : zH) : zcall d 48 [.ref a0, .int a1] h = zexec d 48 0 [some (.ref a0), some (.int a1), none] [] h := by
  unfold zcall zent
  rw [show zml 48 = 3 by decide +kernel]
  rfl
theorem m_X4_readSign (d : Nat) (a0 : Nat) (h : zH) : zcall d 49 [.ref a0] h = zexec d 49 0 [some (.ref a0)] [] h := by
  unfold zcall zent
  rw [show zml 49 = 1 by decide +kernel]
  rfl
theorem m_X4_atEnd (d : Nat) (a0 : Nat) (h : zH) : zcall d 50 [.ref a0] h = zexec d 50 0 [some (.ref a0)] [] h := by
  unfold zcall zent
  rw [show zml 50 = 1 by decide +kernel]
  rfl
theorem m_X4_atName (d : Nat) (a0 : Nat) (h : zH) : zcall d 51 [.ref a0] h = zexec d 51 0 [some (.ref a0)] [] h := by
  unfold zcall zent
  rw [show zml 51 = 1 by decide +kernel]
  rfl
theorem m_X4_atCompare (d : Nat) (a0 : Nat) (h : zH) : zcall d 52 [.ref a0] h = zexec d 52 0 [some (.ref a0)] [] h := by
  unfold zcall zent
  rw [show zml 52 = 1 by decide +kernel]
  rfl
theorem m_X4_fail (d : Nat) (a0 : Nat) (a1 : Int32) (h : zH) : zcall d 53 [.ref a0, .int a1] h = zexec d 53 0 [some (.ref a0), some (.int a1)] [] h := by
  unfold zcall zent
  rw [show zml 53 = 2 by decide +kernel]
  rfl
theorem m_X4_failHere (d : Nat) (a0 : Nat) (h : zH) : zcall d 54 [.ref a0] h = zexec d 54 0 [some (.ref a0)] [] h := by
  unfold zcall zent
  rw [show zml 54 = 1 by decide +kernel]
  rfl
theorem m_X4_takeKey (d : Nat) (a0 : Nat) (a1 : Int32) (h : zH) : zcall d 55 [.ref a0, .int a1] h = zexec d 55 0 [some (.ref a0), some (.int a1)] [] h := by
  unfold zcall zent
  rw [show zml 55 = 2 by decide +kernel]
  rfl
theorem m_X4_takeStop (d : Nat) (a0 : Nat) (h : zH) : zcall d 56 [.ref a0] h = zexec d 56 0 [some (.ref a0)] [] h := by
  unfold zcall zent
  rw [show zml 56 = 1 by decide +kernel]
  rfl
theorem m_X4_takeNumber (d : Nat) (a0 : Nat) (a1 : Int32) (a2 : Int32) (h : zH) : zcall d 57 [.ref a0, .int a1, .int a2] h = zexec d 57 0 [some (.ref a0), some (.int a1), some (.int a2), none] [] h := by
  unfold zcall zent
  rw [show zml 57 = 4 by decide +kernel]
  rfl
theorem m_X4_personHere (d : Nat) (a0 : Nat) (a1 : Nat) (h : zH) : zcall d 58 [.ref a0, .ref a1] h = zexec d 58 0 [some (.ref a0), some (.ref a1)] [] h := by
  unfold zcall zent
  rw [show zml 58 = 2 by decide +kernel]
  rfl
theorem m_X4_surnameHere (d : Nat) (a0 : Nat) (a1 : Nat) (h : zH) : zcall d 59 [.ref a0, .ref a1] h = zexec d 59 0 [some (.ref a0), some (.ref a1)] [] h := by
  unfold zcall zent
  rw [show zml 59 = 2 by decide +kernel]
  rfl
theorem m_X4_placeHere (d : Nat) (a0 : Nat) (a1 : Nat) (a2 : Int32) (h : zH) : zcall d 60 [.ref a0, .ref a1, .int a2] h = zexec d 60 0 [some (.ref a0), some (.ref a1), some (.int a2), none] [] h := by
  unfold zcall zent
  rw [show zml 60 = 4 by decide +kernel]
  rfl
theorem m_X4_isTaken (d : Nat) (a0 : Nat) (a1 : Nat) (h : zH) : zcall d 61 [.ref a0, .ref a1] h = zexec d 61 0 [some (.ref a0), some (.ref a1)] [] h := by
  unfold zcall zent
  rw [show zml 61 = 2 by decide +kernel]
  rfl
theorem m_X4_placeIn (d : Nat) (a0 : Nat) (a1 : Int32) (a2 : Int64) (h : zH) : zcall d 62 [.ref a0, .int a1, .long a2] h = zexec d 62 0 [some (.ref a0), some (.int a1), some (.long a2), none, none] [] h := by
  unfold zcall zent
  rw [show zml 62 = 5 by decide +kernel]
  rfl
theorem m_X5_init (d : Nat) (a0 : Nat) (h : zH) : zcall d 63 [.ref a0] h = zexec d 63 0 [some (.ref a0)] [] h := by
  unfold zcall zent
  rw [show zml 63 = 1 by decide +kernel]
  rfl
theorem m_X5_close (d : Nat) (a0 : Nat) (a1 : Nat) (h : zH) : zcall d 64 [.ref a0, .ref a1] h = zexec d 64 0 [some (.ref a0), some (.ref a1), none] [] h := by
  unfold zcall zent
  rw [show zml 64 = 3 by decide +kernel]
  rfl
theorem m_X5_pointAll (d : Nat) (a0 : Nat) (a1 : Nat) (h : zH) : zcall d 65 [.ref a0, .ref a1] h = zexec d 65 0 [some (.ref a0), some (.ref a1), none] [] h := by
  unfold zcall zent
  rw [show zml 65 = 3 by decide +kernel]
  rfl
theorem m_X5_dearestOf (d : Nat) (a0 : Nat) (a1 : Nat) (a2 : Int32) (h : zH) : zcall d 66 [.ref a0, .ref a1, .int a2] h = zexec d 66 0 [some (.ref a0), some (.ref a1), some (.int a2), none, none, none] [] h := by
  unfold zcall zent
  rw [show zml 66 = 6 by decide +kernel]
  rfl
theorem m_X5_closeFirst (d : Nat) (a0 : Nat) (a1 : Nat) (h : zH) : zcall d 67 [.ref a0, .ref a1] h = zexec d 67 0 [some (.ref a0), some (.ref a1), none, none] [] h := by
  unfold zcall zent
  rw [show zml 67 = 4 by decide +kernel]
  rfl
theorem m_X5_lengthFrom (d : Nat) (a0 : Nat) (a1 : Int32) (h : zH) : zcall d 68 [.ref a0, .int a1] h = zexec d 68 0 [some (.ref a0), some (.int a1), none, none] [] h := by
  unfold zcall zent
  rw [show zml 68 = 4 by decide +kernel]
  rfl
theorem m_X5_take (d : Nat) (a0 : Nat) (a1 : Nat) (a2 : Int32) (a3 : Int32) (h : zH) : zcall d 69 [.ref a0, .ref a1, .int a2, .int a3] h = zexec d 69 0 [some (.ref a0), some (.ref a1), some (.int a2), some (.int a3), none, none] [] h := by
  unfold zcall zent
  rw [show zml 69 = 6 by decide +kernel]
  rfl
theorem m_X6_init (d : Nat) (a0 : Nat) (h : zH) : zcall d 70 [.ref a0] h = zexec d 70 0 [some (.ref a0)] [] h := by
  unfold zcall zent
  rw [show zml 70 = 1 by decide +kernel]
  rfl
theorem m_X6_clear (d : Nat) (a0 : Nat) (h : zH) : zcall d 71 [.ref a0] h = zexec d 71 0 [some (.ref a0)] [] h := by
  unfold zcall zent
  rw [show zml 71 = 1 by decide +kernel]
  rfl
theorem m_X6_copyFrom (d : Nat) (a0 : Nat) (a1 : Nat) (h : zH) : zcall d 72 [.ref a0, .ref a1] h = zexec d 72 0 [some (.ref a0), some (.ref a1)] [] h := by
  unfold zcall zent
  rw [show zml 72 = 2 by decide +kernel]
  rfl
theorem m_X6_add (d : Nat) (a0 : Nat) (a1 : Int32) (a2 : Int32) (a3 : Int32) (a4 : Int32) (h : zH) : zcall d 73 [.ref a0, .int a1, .int a2, .int a3, .int a4] h = zexec d 73 0 [some (.ref a0), some (.int a1), some (.int a2), some (.int a3), some (.int a4)] [] h := by
  unfold zcall zent
  rw [show zml 73 = 5 by decide +kernel]
  rfl
theorem m_X6_join (d : Nat) (a0 : Nat) (a1 : Int32) (a2 : Int32) (h : zH) : zcall d 74 [.ref a0, .int a1, .int a2] h = zexec d 74 0 [some (.ref a0), some (.int a1), some (.int a2)] [] h := by
  unfold zcall zent
  rw [show zml 74 = 3 by decide +kernel]
  rfl
theorem m_X7_init (d : Nat) (a0 : Nat) (h : zH) : zcall d 75 [.ref a0] h = zexec d 75 0 [some (.ref a0)] [] h := by
  unfold zcall zent
  rw [show zml 75 = 1 by decide +kernel]
  rfl
theorem m_X7_clear (d : Nat) (a0 : Nat) (h : zH) : zcall d 76 [.ref a0] h = zexec d 76 0 [some (.ref a0)] [] h := by
  unfold zcall zent
  rw [show zml 76 = 1 by decide +kernel]
  rfl
theorem m_X7_copyFrom (d : Nat) (a0 : Nat) (a1 : Nat) (h : zH) : zcall d 77 [.ref a0, .ref a1] h = zexec d 77 0 [some (.ref a0), some (.ref a1)] [] h := by
  unfold zcall zent
  rw [show zml 77 = 2 by decide +kernel]
  rfl
theorem m_X7_addSurname (d : Nat) (a0 : Nat) (a1 : Int64) (h : zH) : zcall d 78 [.ref a0, .long a1] h = zexec d 78 0 [some (.ref a0), some (.long a1), none, none] [] h := by
  unfold zcall zent
  rw [show zml 78 = 4 by decide +kernel]
  rfl
theorem m_X7_addPerson (d : Nat) (a0 : Nat) (a1 : Int64) (a2 : Int32) (h : zH) : zcall d 79 [.ref a0, .long a1, .int a2] h = zexec d 79 0 [some (.ref a0), some (.long a1), none, some (.int a2), none] [] h := by
  unfold zcall zent
  rw [show zml 79 = 5 by decide +kernel]
  rfl
theorem m_X7_tellParents (d : Nat) (a0 : Nat) (a1 : Int32) (a2 : Int32) (a3 : Int32) (h : zH) : zcall d 80 [.ref a0, .int a1, .int a2, .int a3] h = zexec d 80 0 [some (.ref a0), some (.int a1), some (.int a2), some (.int a3)] [] h := by
  unfold zcall zent
  rw [show zml 80 = 4 by decide +kernel]
  rfl
theorem m_X7_hasSurname (d : Nat) (a0 : Nat) (a1 : Int32) (h : zH) : zcall d 81 [.ref a0, .int a1] h = zexec d 81 0 [some (.ref a0), some (.int a1)] [] h := by
  unfold zcall zent
  rw [show zml 81 = 2 by decide +kernel]
  rfl
theorem m_X7_hasPerson (d : Nat) (a0 : Nat) (a1 : Int32) (h : zH) : zcall d 82 [.ref a0, .int a1] h = zexec d 82 0 [some (.ref a0), some (.int a1)] [] h := by
  unfold zcall zent
  rw [show zml 82 = 2 by decide +kernel]
  rfl
theorem m_X7_isFull (d : Nat) (a0 : Nat) (h : zH) : zcall d 83 [.ref a0] h = zexec d 83 0 [some (.ref a0)] [] h := by
  unfold zcall zent
  rw [show zml 83 = 1 by decide +kernel]
  rfl
theorem m_X7_lives (d : Nat) (a0 : Nat) (a1 : Int32) (h : zH) : zcall d 84 [.ref a0, .int a1] h = zexec d 84 0 [some (.ref a0), some (.int a1)] [] h := by
  unfold zcall zent
  rw [show zml 84 = 2 by decide +kernel]
  rfl
theorem m_X7_livesAs (d : Nat) (a0 : Nat) (a1 : Int32) (a2 : Int32) (h : zH) : zcall d 85 [.ref a0, .int a1, .int a2] h = zexec d 85 0 [some (.ref a0), some (.int a1), some (.int a2)] [] h := by
  unfold zcall zent
  rw [show zml 85 = 3 by decide +kernel]
  rfl
theorem m_X7_takesPart (d : Nat) (a0 : Nat) (a1 : Int32) (h : zH) : zcall d 86 [.ref a0, .int a1] h = zexec d 86 0 [some (.ref a0), some (.int a1)] [] h := by
  unfold zcall zent
  rw [show zml 86 = 2 by decide +kernel]
  rfl
theorem m_X7_isAway (d : Nat) (a0 : Nat) (a1 : Int32) (h : zH) : zcall d 87 [.ref a0, .int a1] h = zexec d 87 0 [some (.ref a0), some (.int a1)] [] h := by
  unfold zcall zent
  rw [show zml 87 = 2 by decide +kernel]
  rfl
theorem m_X7_age (d : Nat) (a0 : Nat) (a1 : Int32) (h : zH) : zcall d 88 [.ref a0, .int a1] h = zexec d 88 0 [some (.ref a0), some (.int a1)] [] h := by
  unfold zcall zent
  rw [show zml 88 = 2 by decide +kernel]
  rfl
theorem m_X7_isGrown (d : Nat) (a0 : Nat) (a1 : Int32) (h : zH) : zcall d 89 [.ref a0, .int a1] h = zexec d 89 0 [some (.ref a0), some (.int a1)] [] h := by
  unfold zcall zent
  rw [show zml 89 = 2 by decide +kernel]
  rfl
theorem m_X7_living (d : Nat) (a0 : Nat) (h : zH) : zcall d 90 [.ref a0] h = zexec d 90 0 [some (.ref a0)] [] h := by
  unfold zcall zent
  rw [show zml 90 = 1 by decide +kernel]
  rfl
theorem m_X7_bearers (d : Nat) (a0 : Nat) (a1 : Int32) (h : zH) : zcall d 91 [.ref a0, .int a1] h = zexec d 91 0 [some (.ref a0), some (.int a1), none, none] [] h := by
  unfold zcall zent
  rw [show zml 91 = 4 by decide +kernel]
  rfl
theorem m_X7_dashes (d : Nat) (a0 : Nat) (h : zH) : zcall d 92 [.ref a0] h = zexec d 92 0 [some (.ref a0)] [] h := by
  unfold zcall zent
  rw [show zml 92 = 1 by decide +kernel]
  rfl
theorem m_X7_free (d : Nat) (a0 : Nat) (a1 : Int32) (h : zH) : zcall d 93 [.ref a0, .int a1] h = zexec d 93 0 [some (.ref a0), some (.int a1), none, none] [] h := by
  unfold zcall zent
  rw [show zml 93 = 4 by decide +kernel]
  rfl
theorem m_X7_told (d : Nat) (a0 : Nat) (a1 : Nat) (h : zH) : zcall d 94 [.ref a0, .ref a1] h = zexec d 94 0 [some (.ref a0), some (.ref a1), none, none] [] h := by
  unfold zcall zent
  rw [show zml 94 = 4 by decide +kernel]
  rfl
theorem m_X7_livingCoins (d : Nat) (a0 : Nat) (h : zH) : zcall d 95 [.ref a0] h = zexec d 95 0 [some (.ref a0), none, none] [] h := by
  unfold zcall zent
  rw [show zml 95 = 3 by decide +kernel]
  rfl
theorem m_X7_riches (d : Nat) (a0 : Nat) (a1 : Int32) (h : zH) : zcall d 96 [.ref a0, .int a1] h = zexec d 96 0 [some (.ref a0), some (.int a1)] [] h := by
  unfold zcall zent
  rw [show zml 96 = 2 by decide +kernel]
  rfl
theorem m_X7_eldest (d : Nat) (a0 : Nat) (a1 : Int32) (h : zH) : zcall d 97 [.ref a0, .int a1] h = zexec d 97 0 [some (.ref a0), some (.int a1), none, none] [] h := by
  unfold zcall zent
  rw [show zml 97 = 4 by decide +kernel]
  rfl
theorem m_X7_least (d : Nat) (a0 : Int32) (h : zH) : zcall d 98 [.int a0] h = zexec d 98 0 [some (.int a0), none] [] h := by
  unfold zcall zent
  rw [show zml 98 = 2 by decide +kernel]
  rfl
theorem m_X7_younger (d : Nat) (a0 : Nat) (a1 : Int32) (a2 : Int32) (h : zH) : zcall d 99 [.ref a0, .int a1, .int a2] h = zexec d 99 0 [some (.ref a0), some (.int a1), some (.int a2)] [] h := by
  unfold zcall zent
  rw [show zml 99 = 3 by decide +kernel]
  rfl
theorem m_X7_likedAt (d : Nat) (a0 : Nat) (a1 : Int32) (a2 : Int32) (h : zH) : zcall d 100 [.ref a0, .int a1, .int a2] h = zexec d 100 0 [some (.ref a0), some (.int a1), some (.int a2)] [] h := by
  unfold zcall zent
  rw [show zml 100 = 3 by decide +kernel]
  rfl
theorem m_X7_hasLiked (d : Nat) (a0 : Nat) (a1 : Int32) (a2 : Int32) (h : zH) : zcall d 101 [.ref a0, .int a1, .int a2] h = zexec d 101 0 [some (.ref a0), some (.int a1), some (.int a2), none] [] h := by
  unfold zcall zent
  rw [show zml 101 = 4 by decide +kernel]
  rfl
theorem m_X7_like (d : Nat) (a0 : Nat) (a1 : Int32) (a2 : Int32) (h : zH) : zcall d 102 [.ref a0, .int a1, .int a2] h = zexec d 102 0 [some (.ref a0), some (.int a1), some (.int a2)] [] h := by
  unfold zcall zent
  rw [show zml 102 = 3 by decide +kernel]
  rfl
theorem m_X7_passYears (d : Nat) (a0 : Nat) (a1 : Int32) (h : zH) : zcall d 103 [.ref a0, .int a1] h = zexec d 103 0 [some (.ref a0), some (.int a1), none, none] [] h := by
  unfold zcall zent
  rw [show zml 103 = 4 by decide +kernel]
  rfl
theorem m_X7_passYear (d : Nat) (a0 : Nat) (h : zH) : zcall d 104 [.ref a0] h = zexec d 104 0 [some (.ref a0), none, none] [] h := by
  unfold zcall zent
  rw [show zml 104 = 3 by decide +kernel]
  rfl
theorem m_X7_bury (d : Nat) (a0 : Nat) (a1 : Int32) (h : zH) : zcall d 105 [.ref a0, .int a1] h = zexec d 105 0 [some (.ref a0), some (.int a1)] [] h := by
  unfold zcall zent
  rw [show zml 105 = 2 by decide +kernel]
  rfl
theorem m_X7_divorce (d : Nat) (a0 : Nat) (a1 : Int32) (h : zH) : zcall d 106 [.ref a0, .int a1] h = zexec d 106 0 [some (.ref a0), some (.int a1), none] [] h := by
  unfold zcall zent
  rw [show zml 106 = 3 by decide +kernel]
  rfl
theorem m_X7_canBear (d : Nat) (a0 : Nat) (a1 : Int32) (a2 : Int32) (h : zH) : zcall d 107 [.ref a0, .int a1, .int a2] h = zexec d 107 0 [some (.ref a0), some (.int a1), some (.int a2)] [] h := by
  unfold zcall zent
  rw [show zml 107 = 3 by decide +kernel]
  rfl
theorem m_X7_bear (d : Nat) (a0 : Nat) (a1 : Int32) (a2 : Int32) (h : zH) : zcall d 108 [.ref a0, .int a1, .int a2] h = zexec d 108 0 [some (.ref a0), some (.int a1), some (.int a2), none, none] [] h := by
  unfold zcall zent
  rw [show zml 108 = 5 by decide +kernel]
  rfl
theorem m_X7_placeUnder (d : Nat) (a0 : Nat) (a1 : Int32) (h : zH) : zcall d 109 [.ref a0, .int a1] h = zexec d 109 0 [some (.ref a0), some (.int a1)] [] h := by
  unfold zcall zent
  rw [show zml 109 = 2 by decide +kernel]
  rfl
theorem m_X7_canMarry (d : Nat) (a0 : Nat) (a1 : Int32) (a2 : Int32) (a3 : Int32) (h : zH) : zcall d 110 [.ref a0, .int a1, .int a2, .int a3] h = zexec d 110 0 [some (.ref a0), some (.int a1), some (.int a2), some (.int a3)] [] h := by
  unfold zcall zent
  rw [show zml 110 = 4 by decide +kernel]
  rfl
theorem m_X7_canTake (d : Nat) (a0 : Nat) (a1 : Int32) (a2 : Int32) (h : zH) : zcall d 111 [.ref a0, .int a1, .int a2] h = zexec d 111 0 [some (.ref a0), some (.int a1), some (.int a2)] [] h := by
  unfold zcall zent
  rw [show zml 111 = 3 by decide +kernel]
  rfl
theorem m_X7_marry (d : Nat) (a0 : Nat) (a1 : Int32) (a2 : Int32) (a3 : Int32) (h : zH) : zcall d 112 [.ref a0, .int a1, .int a2, .int a3] h = zexec d 112 0 [some (.ref a0), some (.int a1), some (.int a2), some (.int a3)] [] h := by
  unfold zcall zent
  rw [show zml 112 = 4 by decide +kernel]
  rfl
theorem m_X7_canHandOver (d : Nat) (a0 : Nat) (a1 : Int32) (a2 : Int32) (h : zH) : zcall d 113 [.ref a0, .int a1, .int a2] h = zexec d 113 0 [some (.ref a0), some (.int a1), some (.int a2), none, none] [] h := by
  unfold zcall zent
  rw [show zml 113 = 5 by decide +kernel]
  rfl
theorem m_X7_handOver (d : Nat) (a0 : Nat) (a1 : Int32) (a2 : Int32) (h : zH) : zcall d 114 [.ref a0, .int a1, .int a2] h = zexec d 114 0 [some (.ref a0), some (.int a1), some (.int a2), none, none] [] h := by
  unfold zcall zent
  rw [show zml 114 = 5 by decide +kernel]
  rfl
theorem m_X7_canExchange (d : Nat) (a0 : Nat) (a1 : Int32) (a2 : Int32) (h : zH) : zcall d 115 [.ref a0, .int a1, .int a2] h = zexec d 115 0 [some (.ref a0), some (.int a1), some (.int a2)] [] h := by
  unfold zcall zent
  rw [show zml 115 = 3 by decide +kernel]
  rfl
theorem m_X7_exchange (d : Nat) (a0 : Nat) (a1 : Int32) (a2 : Int32) (h : zH) : zcall d 116 [.ref a0, .int a1, .int a2] h = zexec d 116 0 [some (.ref a0), some (.int a1), some (.int a2), none] [] h := by
  unfold zcall zent
  rw [show zml 116 = 4 by decide +kernel]
  rfl
theorem m_X7_canFight (d : Nat) (a0 : Nat) (a1 : Int32) (a2 : Int32) (h : zH) : zcall d 117 [.ref a0, .int a1, .int a2] h = zexec d 117 0 [some (.ref a0), some (.int a1), some (.int a2)] [] h := by
  unfold zcall zent
  rw [show zml 117 = 3 by decide +kernel]
  rfl
theorem m_X7_canAsk (d : Nat) (a0 : Nat) (a1 : Int32) (a2 : Int32) (h : zH) : zcall d 118 [.ref a0, .int a1, .int a2] h = zexec d 118 0 [some (.ref a0), some (.int a1), some (.int a2), none] [] h := by
  unfold zcall zent
  rw [show zml 118 = 4 by decide +kernel]
  rfl
theorem m_X7_settle (d : Nat) (a0 : Nat) (h : zH) : zcall d 119 [.ref a0] h = zexec d 119 0 [some (.ref a0), none, none, none] [] h := by
  unfold zcall zent
  rw [show zml 119 = 4 by decide +kernel]
  rfl
theorem m_X8_init (d : Nat) (a0 : Nat) (a1 : Nat) (a2 : Nat) (h : zH) : zcall d 120 [.ref a0, .ref a1, .ref a2] h = zexec d 120 0 [some (.ref a0), some (.ref a1), some (.ref a2)] [] h := by
  unfold zcall zent
  rw [show zml 120 = 3 by decide +kernel]
  rfl
theorem m_X8_readAll (d : Nat) (a0 : Nat) (h : zH) : zcall d 121 [.ref a0] h = zexec d 121 0 [some (.ref a0), none] [] h := by
  unfold zcall zent
  rw [show zml 121 = 2 by decide +kernel]
  rfl
theorem m_X8_readPart (d : Nat) (a0 : Nat) (h : zH) : zcall d 122 [.ref a0] h = zexec d 122 0 [some (.ref a0)] [] h := by
  unfold zcall zent
  rw [show zml 122 = 1 by decide +kernel]
  rfl
theorem m_X8_head (d : Nat) (a0 : Nat) (a1 : Int32) (h : zH) : zcall d 123 [.ref a0, .int a1] h = zexec d 123 0 [some (.ref a0), some (.int a1)] [] h := by
  unfold zcall zent
  rw [show zml 123 = 2 by decide +kernel]
  rfl
theorem m_X8_newNameHere (d : Nat) (a0 : Nat) (h : zH) : zcall d 124 [.ref a0] h = zexec d 124 0 [some (.ref a0)] [] h := by
  unfold zcall zent
  rw [show zml 124 = 1 by decide +kernel]
  rfl
theorem m_X8_surnamePart (d : Nat) (a0 : Nat) (h : zH) : zcall d 125 [.ref a0] h = zexec d 125 0 [some (.ref a0), none] [] h := by
  unfold zcall zent
  rw [show zml 125 = 2 by decide +kernel]
  rfl
theorem m_X8_personPart (d : Nat) (a0 : Nat) (h : zH) : zcall d 126 [.ref a0] h = zexec d 126 0 [some (.ref a0), none, none, none, none] [] h := by
  unfold zcall zent
  rw [show zml 126 = 5 by decide +kernel]
  rfl
theorem m_X8_ofHere (d : Nat) (a0 : Nat) (a1 : Int32) (h : zH) : zcall d 127 [.ref a0, .int a1] h = zexec d 127 0 [some (.ref a0), some (.int a1), none] [] h := by
  unfold zcall zent
  rw [show zml 127 = 3 by decide +kernel]
  rfl
theorem m_X8_coinsHere (d : Nat) (a0 : Nat) (a1 : Int32) (h : zH) : zcall d 128 [.ref a0, .int a1] h = zexec d 128 0 [some (.ref a0), some (.int a1)] [] h := by
  unfold zcall zent
  rw [show zml 128 = 2 by decide +kernel]
  rfl
theorem m_X8_miserHere (d : Nat) (a0 : Nat) (a1 : Int32) (h : zH) : zcall d 129 [.ref a0, .int a1] h = zexec d 129 0 [some (.ref a0), some (.int a1)] [] h := by
  unfold zcall zent
  rw [show zml 129 = 2 by decide +kernel]
  rfl
theorem m_X8_otherHere (d : Nat) (a0 : Nat) (a1 : Int32) (a2 : Int32) (h : zH) : zcall d 130 [.ref a0, .int a1, .int a2] h = zexec d 130 0 [some (.ref a0), some (.int a1), some (.int a2), none] [] h := by
  unfold zcall zent
  rw [show zml 130 = 4 by decide +kernel]
  rfl
theorem m_X8_childPart (d : Nat) (a0 : Nat) (h : zH) : zcall d 131 [.ref a0] h = zexec d 131 0 [some (.ref a0), none, none, none] [] h := by
  unfold zcall zent
  rw [show zml 131 = 4 by decide +kernel]
  rfl
theorem m_X8_wedPart (d : Nat) (a0 : Nat) (h : zH) : zcall d 132 [.ref a0] h = zexec d 132 0 [some (.ref a0), none, none] [] h := by
  unfold zcall zent
  rw [show zml 132 = 3 by decide +kernel]
  rfl
theorem m_X8_singleHere (d : Nat) (a0 : Nat) (a1 : Int32) (h : zH) : zcall d 133 [.ref a0, .int a1] h = zexec d 133 0 [some (.ref a0), some (.int a1), none] [] h := by
  unfold zcall zent
  rw [show zml 133 = 3 by decide +kernel]
  rfl
theorem m_X8_likesPart (d : Nat) (a0 : Nat) (h : zH) : zcall d 134 [.ref a0] h = zexec d 134 0 [some (.ref a0), none, none, none] [] h := by
  unfold zcall zent
  rw [show zml 134 = 4 by decide +kernel]
  rfl
theorem m_X8_waitsPart (d : Nat) (a0 : Nat) (h : zH) : zcall d 135 [.ref a0] h = zexec d 135 0 [some (.ref a0), none, none] [] h := by
  unfold zcall zent
  rw [show zml 135 = 3 by decide +kernel]
  rfl
theorem m_X9_init (d : Nat) (a0 : Nat) (h : zH) : zcall d 136 [.ref a0] h = zexec d 136 0 [some (.ref a0)] [] h := by
  unfold zcall zent
  rw [show zml 136 = 1 by decide +kernel]
  rfl
theorem m_X9_isTray (d : Nat) (a0 : Int32) (h : zH) : zcall d 137 [.int a0] h = zexec d 137 0 [some (.int a0)] [] h := by
  unfold zcall zent
  rw [show zml 137 = 1 by decide +kernel]
  rfl
theorem m_X9_isSort (d : Nat) (a0 : Int32) (h : zH) : zcall d 138 [.int a0] h = zexec d 138 0 [some (.int a0)] [] h := by
  unfold zcall zent
  rw [show zml 138 = 1 by decide +kernel]
  rfl
theorem m_X9_isMissing (d : Nat) (a0 : Nat) (a1 : Int32) (h : zH) : zcall d 139 [.ref a0, .int a1] h = zexec d 139 0 [some (.ref a0), some (.int a1)] [] h := by
  unfold zcall zent
  rw [show zml 139 = 2 by decide +kernel]
  rfl
theorem m_X9_sortOf (d : Nat) (a0 : Nat) (a1 : Int32) (h : zH) : zcall d 140 [.ref a0, .int a1] h = zexec d 140 0 [some (.ref a0), some (.int a1)] [] h := by
  unfold zcall zent
  rw [show zml 140 = 2 by decide +kernel]
  rfl
theorem m_X9_length (d : Nat) (a0 : Nat) (a1 : Int32) (h : zH) : zcall d 141 [.ref a0, .int a1] h = zexec d 141 0 [some (.ref a0), some (.int a1)] [] h := by
  unfold zcall zent
  rw [show zml 141 = 2 by decide +kernel]
  rfl
theorem m_X9_hasRow (d : Nat) (a0 : Nat) (a1 : Int32) (a2 : Int32) (a3 : Int32) (h : zH) : zcall d 142 [.ref a0, .int a1, .int a2, .int a3] h = zexec d 142 0 [some (.ref a0), some (.int a1), some (.int a2), some (.int a3)] [] h := by
  unfold zcall zent
  rw [show zml 142 = 4 by decide +kernel]
  rfl
theorem m_X9_lay (d : Nat) (a0 : Nat) (a1 : Int32) (a2 : Int32) (a3 : Int32) (h : zH) : zcall d 143 [.ref a0, .int a1, .int a2, .int a3] h = zexec d 143 0 [some (.ref a0), some (.int a1), some (.int a2), some (.int a3)] [] h := by
  unfold zcall zent
  rw [show zml 143 = 4 by decide +kernel]
  rfl
theorem m_X9_put (d : Nat) (a0 : Nat) (a1 : Int32) (a2 : Int32) (a3 : Int64) (h : zH) : zcall d 144 [.ref a0, .int a1, .int a2, .long a3] h = zexec d 144 0 [some (.ref a0), some (.int a1), some (.int a2), some (.long a3), none] [] h := by
  unfold zcall zent
  rw [show zml 144 = 5 by decide +kernel]
  rfl
theorem m_X9_at (d : Nat) (a0 : Nat) (a1 : Int32) (a2 : Int32) (h : zH) : zcall d 145 [.ref a0, .int a1, .int a2] h = zexec d 145 0 [some (.ref a0), some (.int a1), some (.int a2)] [] h := by
  unfold zcall zent
  rw [show zml 145 = 3 by decide +kernel]
  rfl
theorem m_X9_move (d : Nat) (a0 : Nat) (a1 : Int32) (a2 : Int32) (a3 : Int32) (a4 : Int32) (a5 : Int32) (h : zH) : zcall d 146 [.ref a0, .int a1, .int a2, .int a3, .int a4, .int a5] h = zexec d 146 0 [some (.ref a0), some (.int a1), some (.int a2), some (.int a3), some (.int a4), some (.int a5)] [] h := by
  unfold zcall zent
  rw [show zml 146 = 6 by decide +kernel]
  rfl
theorem m_X9_cut (d : Nat) (a0 : Int32) (a1 : Int64) (h : zH) : zcall d 147 [.int a0, .long a1] h = zexec d 147 0 [some (.int a0), some (.long a1), none] [] h := by
  unfold zcall zent
  rw [show zml 147 = 3 by decide +kernel]
  rfl
theorem m_X10_init (d : Nat) (a0 : Nat) (h : zH) : zcall d 148 [.ref a0] h = zexec d 148 0 [some (.ref a0)] [] h := by
  unfold zcall zent
  rw [show zml 148 = 1 by decide +kernel]
  rfl
theorem m_X10_suitableFor (d : Nat) (a0 : Nat) (a1 : Int32) (h : zH) : zcall d 149 [.ref a0, .int a1] h = zexec d 149 0 [some (.ref a0), some (.int a1), none, none] [] h := by
  unfold zcall zent
  rw [show zml 149 = 4 by decide +kernel]
  rfl
theorem m_X10_bestFor (d : Nat) (a0 : Nat) (a1 : Int32) (h : zH) : zcall d 150 [.ref a0, .int a1] h = zexec d 150 0 [some (.ref a0), some (.int a1), none, none, none] [] h := by
  unfold zcall zent
  rw [show zml 150 = 5 by decide +kernel]
  rfl
theorem m_X10_mostCouples (d : Nat) (a0 : Nat) (a1 : Nat) (a2 : Int32) (h : zH) : zcall d 151 [.ref a0, .ref a1, .int a2] h = zexec d 151 0 [some (.ref a0), some (.ref a1), some (.int a2), none, none, none, none] [] h := by
  unfold zcall zent
  rw [show zml 151 = 7 by decide +kernel]
  rfl
theorem m_X10_mostWithin (d : Nat) (a0 : Nat) (a1 : Int32) (h : zH) : zcall d 152 [.ref a0, .int a1] h = zexec d 152 0 [some (.ref a0), some (.int a1), none, none, none, none] [] h := by
  unfold zcall zent
  rw [show zml 152 = 6 by decide +kernel]
  rfl
theorem m_X11_init (d : Nat) (a0 : Nat) (h : zH) : zcall d 153 [.ref a0] h = zexec d 153 0 [some (.ref a0), none] [] h := by
  unfold zcall zent
  rw [show zml 153 = 2 by decide +kernel]
  rfl
theorem m_X11_status (d : Nat) (a0 : Nat) (h : zH) : zcall d 154 [.ref a0] h = zexec d 154 0 [some (.ref a0)] [] h := by
  unfold zcall zent
  rw [show zml 154 = 1 by decide +kernel]
  rfl
theorem m_X11_top (d : Nat) (a0 : Nat) (h : zH) : zcall d 155 [.ref a0] h = zexec d 155 0 [some (.ref a0)] [] h := by
  unfold zcall zent
  rw [show zml 155 = 1 by decide +kernel]
  rfl
theorem m_X11_bottom (d : Nat) (a0 : Nat) (h : zH) : zcall d 156 [.ref a0] h = zexec d 156 0 [some (.ref a0)] [] h := by
  unfold zcall zent
  rw [show zml 156 = 1 by decide +kernel]
  rfl
theorem m_X11_tray (d : Nat) (a0 : Nat) (a1 : Int32) (a2 : Int32) (a3 : Int32) (h : zH) : zcall d 157 [.ref a0, .int a1, .int a2, .int a3] h = zexec d 157 0 [some (.ref a0), some (.int a1), some (.int a2), some (.int a3)] [] h := by
  unfold zcall zent
  rw [show zml 157 = 4 by decide +kernel]
  rfl
theorem m_X11_write (d : Nat) (a0 : Nat) (a1 : Int32) (a2 : Int32) (a3 : Int64) (h : zH) : zcall d 158 [.ref a0, .int a1, .int a2, .long a3] h = zexec d 158 0 [some (.ref a0), some (.int a1), some (.int a2), some (.long a3), none, none] [] h := by
  unfold zcall zent
  rw [show zml 158 = 6 by decide +kernel]
  rfl
theorem m_X11_read (d : Nat) (a0 : Nat) (a1 : Int32) (a2 : Int32) (h : zH) : zcall d 159 [.ref a0, .int a1, .int a2] h = zexec d 159 0 [some (.ref a0), some (.int a1), some (.int a2), none] [] h := by
  unfold zcall zent
  rw [show zml 159 = 4 by decide +kernel]
  rfl
theorem m_X11_pour (d : Nat) (a0 : Nat) (a1 : Int32) (a2 : Int32) (a3 : Int32) (a4 : Int32) (a5 : Int32) (h : zH) : zcall d 160 [.ref a0, .int a1, .int a2, .int a3, .int a4, .int a5] h = zexec d 160 0 [some (.ref a0), some (.int a1), some (.int a2), some (.int a3), some (.int a4), some (.int a5)] [] h := by
  unfold zcall zent
  rw [show zml 160 = 6 by decide +kernel]
  rfl
theorem m_X11_feed (d : Nat) (a0 : Nat) (a1 : Int32) (a2 : Int32) (a3 : Int32) (a4 : Int32) (a5 : Int32) (h : zH) : zcall d 161 [.ref a0, .int a1, .int a2, .int a3, .int a4, .int a5] h = zexec d 161 0 [some (.ref a0), some (.int a1), some (.int a2), some (.int a3), some (.int a4), some (.int a5)] [] h := by
  unfold zcall zent
  rw [show zml 161 = 6 by decide +kernel]
  rfl
theorem m_X11_town (d : Nat) (a0 : Nat) (a1 : Int32) (h : zH) : zcall d 162 [.ref a0, .int a1] h = zexec d 162 0 [some (.ref a0), some (.int a1)] [] h := by
  unfold zcall zent
  rw [show zml 162 = 2 by decide +kernel]
  rfl
theorem m_X11_centuries (d : Nat) (a0 : Nat) (a1 : Int32) (h : zH) : zcall d 163 [.ref a0, .int a1] h = zexec d 163 0 [some (.ref a0), some (.int a1)] [] h := by
  unfold zcall zent
  rw [show zml 163 = 2 by decide +kernel]
  rfl
theorem m_X11_fault (d : Nat) (a0 : Nat) (a1 : Int32) (h : zH) : zcall d 164 [.ref a0, .int a1] h = zexec d 164 0 [some (.ref a0), some (.int a1)] [] h := by
  unfold zcall zent
  rw [show zml 164 = 2 by decide +kernel]
  rfl
theorem m_X11_many (d : Nat) (a0 : Nat) (a1 : Int32) (h : zH) : zcall d 165 [.ref a0, .int a1] h = zexec d 165 0 [some (.ref a0), some (.int a1)] [] h := by
  unfold zcall zent
  rw [show zml 165 = 2 by decide +kernel]
  rfl
theorem m_X11_surname (d : Nat) (a0 : Nat) (a1 : Int32) (a2 : Int32) (h : zH) : zcall d 166 [.ref a0, .int a1, .int a2] h = zexec d 166 0 [some (.ref a0), some (.int a1), some (.int a2)] [] h := by
  unfold zcall zent
  rw [show zml 166 = 3 by decide +kernel]
  rfl
theorem m_X11_person (d : Nat) (a0 : Nat) (a1 : Int32) (a2 : Int32) (h : zH) : zcall d 167 [.ref a0, .int a1, .int a2] h = zexec d 167 0 [some (.ref a0), some (.int a1), some (.int a2)] [] h := by
  unfold zcall zent
  rw [show zml 167 = 3 by decide +kernel]
  rfl
theorem m_X11_waiting (d : Nat) (a0 : Nat) (a1 : Int32) (a2 : Int32) (h : zH) : zcall d 168 [.ref a0, .int a1, .int a2] h = zexec d 168 0 [some (.ref a0), some (.int a1), some (.int a2)] [] h := by
  unfold zcall zent
  rw [show zml 168 = 3 by decide +kernel]
  rfl
theorem m_X11_liked (d : Nat) (a0 : Nat) (a1 : Int32) (a2 : Int32) (h : zH) : zcall d 169 [.ref a0, .int a1, .int a2] h = zexec d 169 0 [some (.ref a0), some (.int a1), some (.int a2)] [] h := by
  unfold zcall zent
  rw [show zml 169 = 3 by decide +kernel]
  rfl
theorem m_X11_copyNames (d : Nat) (a0 : Nat) (a1 : Int32) (h : zH) : zcall d 170 [.ref a0, .int a1] h = zexec d 170 0 [some (.ref a0), some (.int a1), none, none] [] h := by
  unfold zcall zent
  rw [show zml 170 = 4 by decide +kernel]
  rfl
theorem m_X11_year (d : Nat) (a0 : Nat) (a1 : Int32) (h : zH) : zcall d 171 [.ref a0, .int a1] h = zexec d 171 0 [some (.ref a0), some (.int a1)] [] h := by
  unfold zcall zent
  rw [show zml 171 = 2 by decide +kernel]
  rfl
theorem m_X11_die (d : Nat) (a0 : Nat) (a1 : Int32) (h : zH) : zcall d 172 [.ref a0, .int a1] h = zexec d 172 0 [some (.ref a0), some (.int a1)] [] h := by
  unfold zcall zent
  rw [show zml 172 = 2 by decide +kernel]
  rfl
theorem m_X11_birth (d : Nat) (a0 : Nat) (a1 : Int32) (a2 : Int32) (h : zH) : zcall d 173 [.ref a0, .int a1, .int a2] h = zexec d 173 0 [some (.ref a0), some (.int a1), some (.int a2), none] [] h := by
  unfold zcall zent
  rw [show zml 173 = 4 by decide +kernel]
  rfl
theorem m_X11_wed (d : Nat) (a0 : Nat) (a1 : Int32) (a2 : Int32) (a3 : Int32) (h : zH) : zcall d 174 [.ref a0, .int a1, .int a2, .int a3] h = zexec d 174 0 [some (.ref a0), some (.int a1), some (.int a2), some (.int a3)] [] h := by
  unfold zcall zent
  rw [show zml 174 = 4 by decide +kernel]
  rfl
theorem m_X11_part (d : Nat) (a0 : Nat) (a1 : Int32) (a2 : Int32) (h : zH) : zcall d 175 [.ref a0, .int a1, .int a2] h = zexec d 175 0 [some (.ref a0), some (.int a1), some (.int a2)] [] h := by
  unfold zcall zent
  rw [show zml 175 = 3 by decide +kernel]
  rfl
theorem m_X11_sell (d : Nat) (a0 : Nat) (a1 : Int32) (a2 : Int32) (h : zH) : zcall d 176 [.ref a0, .int a1, .int a2] h = zexec d 176 0 [some (.ref a0), some (.int a1), some (.int a2), none] [] h := by
  unfold zcall zent
  rw [show zml 176 = 4 by decide +kernel]
  rfl
theorem m_X11_swap (d : Nat) (a0 : Nat) (a1 : Int32) (a2 : Int32) (h : zH) : zcall d 177 [.ref a0, .int a1, .int a2] h = zexec d 177 0 [some (.ref a0), some (.int a1), some (.int a2)] [] h := by
  unfold zcall zent
  rw [show zml 177 = 3 by decide +kernel]
  rfl
theorem m_X11_duel (d : Nat) (a0 : Nat) (a1 : Int32) (a2 : Int32) (h : zH) : zcall d 178 [.ref a0, .int a1, .int a2] h = zexec d 178 0 [some (.ref a0), some (.int a1), some (.int a2), none] [] h := by
  unfold zcall zent
  rw [show zml 178 = 4 by decide +kernel]
  rfl
theorem m_X11_abroad (d : Nat) (a0 : Nat) (a1 : Int32) (a2 : Int32) (h : zH) : zcall d 179 [.ref a0, .int a1, .int a2] h = zexec d 179 0 [some (.ref a0), some (.int a1), some (.int a2)] [] h := by
  unfold zcall zent
  rw [show zml 179 = 3 by decide +kernel]
  rfl
theorem m_X11_ask (d : Nat) (a0 : Nat) (a1 : Int32) (a2 : Int32) (h : zH) : zcall d 180 [.ref a0, .int a1, .int a2] h = zexec d 180 0 [some (.ref a0), some (.int a1), some (.int a2)] [] h := by
  unfold zcall zent
  rw [show zml 180 = 3 by decide +kernel]
  rfl
theorem m_X11_leave (d : Nat) (a0 : Nat) (a1 : Int32) (h : zH) : zcall d 181 [.ref a0, .int a1] h = zexec d 181 0 [some (.ref a0), some (.int a1)] [] h := by
  unfold zcall zent
  rw [show zml 181 = 2 by decide +kernel]
  rfl
theorem m_X11_earn (d : Nat) (a0 : Nat) (a1 : Int32) (a2 : Int32) (h : zH) : zcall d 182 [.ref a0, .int a1, .int a2] h = zexec d 182 0 [some (.ref a0), some (.int a1), some (.int a2)] [] h := by
  unfold zcall zent
  rw [show zml 182 = 3 by decide +kernel]
  rfl
theorem m_X11_rule (d : Nat) (a0 : Nat) (a1 : Int32) (h : zH) : zcall d 183 [.ref a0, .int a1] h = zexec d 183 0 [some (.ref a0), some (.int a1)] [] h := by
  unfold zcall zent
  rw [show zml 183 = 2 by decide +kernel]
  rfl
theorem m_X11_wish (d : Nat) (a0 : Nat) (a1 : Int32) (a2 : Int32) (a3 : Int32) (h : zH) : zcall d 184 [.ref a0, .int a1, .int a2, .int a3] h = zexec d 184 0 [some (.ref a0), some (.int a1), some (.int a2), some (.int a3), none] [] h := by
  unfold zcall zent
  rw [show zml 184 = 5 by decide +kernel]
  rfl
theorem m_X11_turn (d : Nat) (a0 : Nat) (a1 : Int32) (h : zH) : zcall d 185 [.ref a0, .int a1] h = zexec d 185 0 [some (.ref a0), some (.int a1), none, none, none] [] h := by
  unfold zcall zent
  rw [show zml 185 = 5 by decide +kernel]
  rfl
theorem m_X11_gone (d : Nat) (a0 : Nat) (a1 : Int32) (h : zH) : zcall d 186 [.ref a0, .int a1] h = zexec d 186 0 [some (.ref a0), some (.int a1), none] [] h := by
  unfold zcall zent
  rw [show zml 186 = 3 by decide +kernel]
  rfl
theorem m_X11_livingIn (d : Nat) (a0 : Nat) (a1 : Int32) (h : zH) : zcall d 187 [.ref a0, .int a1] h = zexec d 187 0 [some (.ref a0), some (.int a1)] [] h := by
  unfold zcall zent
  rw [show zml 187 = 2 by decide +kernel]
  rfl
theorem m_X11_bearsIn (d : Nat) (a0 : Nat) (a1 : Int32) (a2 : Int32) (h : zH) : zcall d 188 [.ref a0, .int a1, .int a2] h = zexec d 188 0 [some (.ref a0), some (.int a1), some (.int a2)] [] h := by
  unfold zcall zent
  rw [show zml 188 = 3 by decide +kernel]
  rfl
theorem m_X11_dashesIn (d : Nat) (a0 : Nat) (a1 : Int32) (h : zH) : zcall d 189 [.ref a0, .int a1] h = zexec d 189 0 [some (.ref a0), some (.int a1)] [] h := by
  unfold zcall zent
  rw [show zml 189 = 2 by decide +kernel]
  rfl
theorem m_X11_luck (d : Nat) (a0 : Nat) (a1 : Int32) (a2 : Int32) (a3 : Int32) (h : zH) : zcall d 190 [.ref a0, .int a1, .int a2, .int a3] h = zexec d 190 0 [some (.ref a0), some (.int a1), some (.int a2), some (.int a3), none, none, none, none] [] h := by
  unfold zcall zent
  rw [show zml 190 = 8 by decide +kernel]
  rfl
theorem m_X11_canWed (d : Nat) (a0 : Nat) (a1 : Int32) (a2 : Int32) (a3 : Int32) (h : zH) : zcall d 191 [.ref a0, .int a1, .int a2, .int a3] h = zexec d 191 0 [some (.ref a0), some (.int a1), some (.int a2), some (.int a3)] [] h := by
  unfold zcall zent
  rw [show zml 191 = 4 by decide +kernel]
  rfl
theorem m_X11_couples (d : Nat) (a0 : Nat) (h : zH) : zcall d 192 [.ref a0] h = zexec d 192 0 [some (.ref a0)] [] h := by
  unfold zcall zent
  rw [show zml 192 = 1 by decide +kernel]
  rfl
theorem m_X11_couplesOf (d : Nat) (a0 : Nat) (a1 : Int32) (h : zH) : zcall d 193 [.ref a0, .int a1] h = zexec d 193 0 [some (.ref a0), some (.int a1)] [] h := by
  unfold zcall zent
  rw [show zml 193 = 2 by decide +kernel]
  rfl
theorem m_X11_match (d : Nat) (a0 : Nat) (a1 : Int32) (h : zH) : zcall d 194 [.ref a0, .int a1] h = zexec d 194 0 [some (.ref a0), some (.int a1)] [] h := by
  unfold zcall zent
  rw [show zml 194 = 2 by decide +kernel]
  rfl
theorem m_X11_suitors (d : Nat) (a0 : Nat) (a1 : Int32) (h : zH) : zcall d 195 [.ref a0, .int a1] h = zexec d 195 0 [some (.ref a0), some (.int a1)] [] h := by
  unfold zcall zent
  rw [show zml 195 = 2 by decide +kernel]
  rfl
theorem m_X11_ringed (d : Nat) (a0 : Nat) (a1 : Int32) (h : zH) : zcall d 196 [.ref a0, .int a1] h = zexec d 196 0 [some (.ref a0), some (.int a1)] [] h := by
  unfold zcall zent
  rw [show zml 196 = 2 by decide +kernel]
  rfl
theorem m_X11_rings (d : Nat) (a0 : Nat) (h : zH) : zcall d 197 [.ref a0] h = zexec d 197 0 [some (.ref a0)] [] h := by
  unfold zcall zent
  rw [show zml 197 = 1 by decide +kernel]
  rfl
theorem m_X11_trade (d : Nat) (a0 : Nat) (h : zH) : zcall d 198 [.ref a0] h = zexec d 198 0 [some (.ref a0), none, none, none] [] h := by
  unfold zcall zent
  rw [show zml 198 = 4 by decide +kernel]
  rfl
theorem m_X11_content (d : Nat) (a0 : Nat) (h : zH) : zcall d 199 [.ref a0] h = zexec d 199 0 [some (.ref a0), none, none, none] [] h := by
  unfold zcall zent
  rw [show zml 199 = 4 by decide +kernel]
  rfl
theorem m_X11_kin (d : Nat) (a0 : Nat) (a1 : Int32) (a2 : Int32) (h : zH) : zcall d 200 [.ref a0, .int a1, .int a2] h = zexec d 200 0 [some (.ref a0), some (.int a1), some (.int a2)] [] h := by
  unfold zcall zent
  rw [show zml 200 = 3 by decide +kernel]
  rfl
theorem m_X11_children (d : Nat) (a0 : Nat) (a1 : Int32) (h : zH) : zcall d 201 [.ref a0, .int a1] h = zexec d 201 0 [some (.ref a0), some (.int a1)] [] h := by
  unfold zcall zent
  rw [show zml 201 = 2 by decide +kernel]
  rfl
theorem m_X11_elders (d : Nat) (a0 : Nat) (a1 : Int32) (h : zH) : zcall d 202 [.ref a0, .int a1] h = zexec d 202 0 [some (.ref a0), some (.int a1)] [] h := by
  unfold zcall zent
  rw [show zml 202 = 2 by decide +kernel]
  rfl
theorem m_X11_near (d : Nat) (a0 : Nat) (a1 : Int32) (a2 : Int32) (h : zH) : zcall d 203 [.ref a0, .int a1, .int a2] h = zexec d 203 0 [some (.ref a0), some (.int a1), some (.int a2)] [] h := by
  unfold zcall zent
  rw [show zml 203 = 3 by decide +kernel]
  rfl
theorem m_X11_parents (d : Nat) (a0 : Nat) (a1 : Int32) (h : zH) : zcall d 204 [.ref a0, .int a1] h = zexec d 204 0 [some (.ref a0), some (.int a1), none, none, none] [] h := by
  unfold zcall zent
  rw [show zml 204 = 5 by decide +kernel]
  rfl
theorem m_X11_couldBe (d : Nat) (a0 : Nat) (a1 : Int32) (a2 : Int32) (a3 : Int32) (h : zH) : zcall d 205 [.ref a0, .int a1, .int a2, .int a3] h = zexec d 205 0 [some (.ref a0), some (.int a1), some (.int a2), some (.int a3)] [] h := by
  unfold zcall zent
  rw [show zml 205 = 4 by decide +kernel]
  rfl
theorem m_X11_wealth (d : Nat) (a0 : Nat) (a1 : Int32) (h : zH) : zcall d 206 [.ref a0, .int a1] h = zexec d 206 0 [some (.ref a0), some (.int a1)] [] h := by
  unfold zcall zent
  rw [show zml 206 = 2 by decide +kernel]
  rfl
theorem m_X11_richest (d : Nat) (a0 : Nat) (h : zH) : zcall d 207 [.ref a0] h = zexec d 207 0 [some (.ref a0), none, none] [] h := by
  unfold zcall zent
  rw [show zml 207 = 3 by decide +kernel]
  rfl
theorem m_X11_buyers (d : Nat) (a0 : Nat) (a1 : Int32) (h : zH) : zcall d 208 [.ref a0, .int a1] h = zexec d 208 0 [some (.ref a0), some (.int a1), none, none, none, none] [] h := by
  unfold zcall zent
  rw [show zml 208 = 6 by decide +kernel]
  rfl
theorem m_X11_recount (d : Nat) (a0 : Nat) (a1 : Int32) (h : zH) : zcall d 209 [.ref a0, .int a1] h = zexec d 209 0 [some (.ref a0), some (.int a1), none, none, none] [] h := by
  unfold zcall zent
  rw [show zml 209 = 5 by decide +kernel]
  rfl
theorem m_X11_live (d : Nat) (a0 : Nat) (a1 : Int32) (h : zH) : zcall d 210 [.ref a0, .int a1] h = zexec d 210 0 [some (.ref a0), some (.int a1)] [] h := by
  unfold zcall zent
  rw [show zml 210 = 2 by decide +kernel]
  rfl
theorem m_X11_lived (d : Nat) (a0 : Nat) (a1 : Int32) (h : zH) : zcall d 211 [.ref a0, .int a1] h = zexec d 211 0 [some (.ref a0), some (.int a1)] [] h := by
  unfold zcall zent
  rw [show zml 211 = 2 by decide +kernel]
  rfl
theorem m_X11_mean (d : Nat) (a0 : Nat) (a1 : Int32) (a2 : Int32) (h : zH) : zcall d 212 [.ref a0, .int a1, .int a2] h = zexec d 212 0 [some (.ref a0), some (.int a1), some (.int a2), none, none] [] h := by
  unfold zcall zent
  rw [show zml 212 = 5 by decide +kernel]
  rfl
theorem m_X11_mark (d : Nat) (a0 : Nat) (h : zH) : zcall d 213 [.ref a0] h = zexec d 213 0 [some (.ref a0)] [] h := by
  unfold zcall zent
  rw [show zml 213 = 1 by decide +kernel]
  rfl
theorem m_X11_back (d : Nat) (a0 : Nat) (h : zH) : zcall d 214 [.ref a0] h = zexec d 214 0 [some (.ref a0)] [] h := by
  unfold zcall zent
  rw [show zml 214 = 1 by decide +kernel]
  rfl
theorem m_X11_answer (d : Nat) (a0 : Nat) (a1 : Int32) (h : zH) : zcall d 215 [.ref a0, .int a1] h = zexec d 215 0 [some (.ref a0), some (.int a1)] [] h := by
  unfold zcall zent
  rw [show zml 215 = 2 by decide +kernel]
  rfl
theorem m_X11_answerIfAny (d : Nat) (a0 : Nat) (a1 : Int32) (h : zH) : zcall d 216 [.ref a0, .int a1] h = zexec d 216 0 [some (.ref a0), some (.int a1)] [] h := by
  unfold zcall zent
  rw [show zml 216 = 2 by decide +kernel]
  rfl
theorem m_X11_refuse (d : Nat) (a0 : Nat) (a1 : Int32) (h : zH) : zcall d 217 [.ref a0, .int a1] h = zexec d 217 0 [some (.ref a0), some (.int a1)] [] h := by
  unfold zcall zent
  rw [show zml 217 = 2 by decide +kernel]
  rfl
theorem m_X11_grant (d : Nat) (a0 : Nat) (h : zH) : zcall d 218 [.ref a0] h = zexec d 218 0 [some (.ref a0)] [] h := by
  unfold zcall zent
  rw [show zml 218 = 1 by decide +kernel]
  rfl
theorem m_X11_deny (d : Nat) (a0 : Nat) (a1 : Int32) (h : zH) : zcall d 219 [.ref a0, .int a1] h = zexec d 219 0 [some (.ref a0), some (.int a1)] [] h := by
  unfold zcall zent
  rw [show zml 219 = 2 by decide +kernel]
  rfl
theorem m_X11_done (d : Nat) (a0 : Nat) (h : zH) : zcall d 220 [.ref a0] h = zexec d 220 0 [some (.ref a0)] [] h := by
  unfold zcall zent
  rw [show zml 220 = 1 by decide +kernel]
  rfl
theorem m_X11_trayTrouble (d : Nat) (a0 : Nat) (a1 : Int32) (h : zH) : zcall d 221 [.ref a0, .int a1] h = zexec d 221 0 [some (.ref a0), some (.int a1)] [] h := by
  unfold zcall zent
  rw [show zml 221 = 2 by decide +kernel]
  rfl
theorem m_X11_placeTrouble (d : Nat) (a0 : Nat) (a1 : Int32) (a2 : Int32) (h : zH) : zcall d 222 [.ref a0, .int a1, .int a2] h = zexec d 222 0 [some (.ref a0), some (.int a1), some (.int a2), none] [] h := by
  unfold zcall zent
  rw [show zml 222 = 4 by decide +kernel]
  rfl
theorem m_X11_tellsSurnames (d : Nat) (a0 : Nat) (a1 : Int32) (a2 : Int32) (h : zH) : zcall d 223 [.ref a0, .int a1, .int a2] h = zexec d 223 0 [some (.ref a0), some (.int a1), some (.int a2), none, none, none, none] [] h := by
  unfold zcall zent
  rw [show zml 223 = 7 by decide +kernel]
  rfl
theorem m_X11_putOnTape (d : Nat) (a0 : Nat) (a1 : Int32) (h : zH) : zcall d 224 [.ref a0, .int a1] h = zexec d 224 0 [some (.ref a0), some (.int a1), none] [] h := by
  unfold zcall zent
  rw [show zml 224 = 3 by decide +kernel]
  rfl
theorem m_X11_arePersons (d : Nat) (a0 : Nat) (a1 : Int32) (a2 : Int32) (h : zH) : zcall d 225 [.ref a0, .int a1, .int a2] h = zexec d 225 0 [some (.ref a0), some (.int a1), some (.int a2)] [] h := by
  unfold zcall zent
  rw [show zml 225 = 3 by decide +kernel]
  rfl
theorem m_X11_isWay (d : Nat) (a0 : Int32) (h : zH) : zcall d 226 [.int a0] h = zexec d 226 0 [some (.int a0)] [] h := by
  unfold zcall zent
  rw [show zml 226 = 1 by decide +kernel]
  rfl
theorem m_X11_isMost (d : Nat) (a0 : Int32) (h : zH) : zcall d 227 [.int a0] h = zexec d 227 0 [some (.int a0)] [] h := by
  unfold zcall zent
  rw [show zml 227 = 1 by decide +kernel]
  rfl
theorem m_X11_isForecast (d : Nat) (a0 : Int32) (h : zH) : zcall d 228 [.int a0] h = zexec d 228 0 [some (.int a0)] [] h := by
  unfold zcall zent
  rw [show zml 228 = 1 by decide +kernel]
  rfl
theorem m_X11_lookAhead (d : Nat) (a0 : Nat) (a1 : Int32) (h : zH) : zcall d 229 [.ref a0, .int a1] h = zexec d 229 0 [some (.ref a0), some (.int a1)] [] h := by
  unfold zcall zent
  rw [show zml 229 = 2 by decide +kernel]
  rfl
theorem m_X11_firstWithPlace (d : Nat) (a0 : Nat) (a1 : Int32) (h : zH) : zcall d 230 [.ref a0, .int a1] h = zexec d 230 0 [some (.ref a0), some (.int a1), none, none, none] [] h := by
  unfold zcall zent
  rw [show zml 230 = 5 by decide +kernel]
  rfl
theorem m_X11_tell (d : Nat) (a0 : Nat) (a1 : Int64) (a2 : Int64) (h : zH) : zcall d 231 [.ref a0, .long a1, .long a2] h = zexec d 231 0 [some (.ref a0), some (.long a1), none, some (.long a2), none, none, none, none, none, none, none, none] [] h := by
  unfold zcall zent
  rw [show zml 231 = 12 by decide +kernel]
  rfl
theorem m_X11_choose (d : Nat) (a0 : Int32) (a1 : Int32) (h : zH) : zcall d 232 [.int a0, .int a1] h = zexec d 232 0 [some (.int a0), some (.int a1), none, none, none] [] h := by
  unfold zcall zent
  rw [show zml 232 = 5 by decide +kernel]
  rfl
theorem m_X11_power (d : Nat) (a0 : Int32) (a1 : Int32) (h : zH) : zcall d 233 [.int a0, .int a1] h = zexec d 233 0 [some (.int a0), some (.int a1), none, none, none] [] h := by
  unfold zcall zent
  rw [show zml 233 = 5 by decide +kernel]
  rfl
theorem m_X12_init (d : Nat) (a0 : Nat) (h : zH) : zcall d 234 [.ref a0] h = zexec d 234 0 [some (.ref a0), none] [] h := by
  unfold zcall zent
  rw [show zml 234 = 2 by decide +kernel]
  rfl
theorem m_X12_status (d : Nat) (a0 : Nat) (h : zH) : zcall d 235 [.ref a0] h = zexec d 235 0 [some (.ref a0)] [] h := by
  unfold zcall zent
  rw [show zml 235 = 1 by decide +kernel]
  rfl
theorem m_X12_top (d : Nat) (a0 : Nat) (h : zH) : zcall d 236 [.ref a0] h = zexec d 236 0 [some (.ref a0)] [] h := by
  unfold zcall zent
  rw [show zml 236 = 1 by decide +kernel]
  rfl
theorem m_X12_bottom (d : Nat) (a0 : Nat) (h : zH) : zcall d 237 [.ref a0] h = zexec d 237 0 [some (.ref a0)] [] h := by
  unfold zcall zent
  rw [show zml 237 = 1 by decide +kernel]
  rfl
theorem m_X12_refuse (d : Nat) (a0 : Nat) (a1 : Int32) (h : zH) : zcall d 238 [.ref a0, .int a1] h = zexec d 238 0 [some (.ref a0), some (.int a1)] [] h := by
  unfold zcall zent
  rw [show zml 238 = 2 by decide +kernel]
  rfl
theorem m_X12_no (d : Nat) (a0 : Nat) (a1 : Int32) (h : zH) : zcall d 239 [.ref a0, .int a1] h = zexec d 239 0 [some (.ref a0), some (.int a1)] [] h := by
  unfold zcall zent
  rw [show zml 239 = 2 by decide +kernel]
  rfl
theorem m_X12_isIn (d : Nat) (a0 : Int64) (a1 : Int64) (a2 : Int64) (h : zH) : zcall d 240 [.long a0, .long a1, .long a2] h = zexec d 240 0 [some (.long a0), none, some (.long a1), none, some (.long a2), none] [] h := by
  unfold zcall zent
  rw [show zml 240 = 6 by decide +kernel]
  rfl
theorem m_X12_fraction (d : Nat) (a0 : Nat) (a1 : Int64) (a2 : Int64) (h : zH) : zcall d 241 [.ref a0, .long a1, .long a2] h = zexec d 241 0 [some (.ref a0), some (.long a1), none, some (.long a2), none, none, none, none, none, none, none] [] h := by
  unfold zcall zent
  rw [show zml 241 = 11 by decide +kernel]
  rfl
theorem m_X12_cut (d : Nat) (a0 : Int32) (a1 : Int64) (h : zH) : zcall d 242 [.int a0, .long a1] h = zexec d 242 0 [some (.int a0), some (.long a1), none] [] h := by
  unfold zcall zent
  rw [show zml 242 = 3 by decide +kernel]
  rfl
theorem m_X12_tray (d : Nat) (a0 : Nat) (a1 : Int32) (a2 : Int32) (a3 : Int32) (h : zH) : zcall d 243 [.ref a0, .int a1, .int a2, .int a3] h = zexec d 243 0 [some (.ref a0), some (.int a1), some (.int a2), some (.int a3), none] [] h := by
  unfold zcall zent
  rw [show zml 243 = 5 by decide +kernel]
  rfl
theorem m_X12_trayed (d : Nat) (a0 : Nat) (a1 : Int32) (h : zH) : zcall d 244 [.ref a0, .int a1] h = zexec d 244 0 [some (.ref a0), some (.int a1)] [] h := by
  unfold zcall zent
  rw [show zml 244 = 2 by decide +kernel]
  rfl
theorem m_X12_placed (d : Nat) (a0 : Nat) (a1 : Int32) (a2 : Int32) (h : zH) : zcall d 245 [.ref a0, .int a1, .int a2] h = zexec d 245 0 [some (.ref a0), some (.int a1), some (.int a2), none] [] h := by
  unfold zcall zent
  rw [show zml 245 = 4 by decide +kernel]
  rfl
theorem m_X12_write (d : Nat) (a0 : Nat) (a1 : Int32) (a2 : Int32) (a3 : Int64) (h : zH) : zcall d 246 [.ref a0, .int a1, .int a2, .long a3] h = zexec d 246 0 [some (.ref a0), some (.int a1), some (.int a2), some (.long a3), none] [] h := by
  unfold zcall zent
  rw [show zml 246 = 5 by decide +kernel]
  rfl
theorem m_X12_read (d : Nat) (a0 : Nat) (a1 : Int32) (a2 : Int32) (h : zH) : zcall d 247 [.ref a0, .int a1, .int a2] h = zexec d 247 0 [some (.ref a0), some (.int a1), some (.int a2)] [] h := by
  unfold zcall zent
  rw [show zml 247 = 3 by decide +kernel]
  rfl
theorem m_X12_pour (d : Nat) (a0 : Nat) (a1 : Int32) (a2 : Int32) (a3 : Int32) (a4 : Int32) (a5 : Int32) (h : zH) : zcall d 248 [.ref a0, .int a1, .int a2, .int a3, .int a4, .int a5] h = zexec d 248 0 [some (.ref a0), some (.int a1), some (.int a2), some (.int a3), some (.int a4), some (.int a5), none, none, none] [] h := by
  unfold zcall zent
  rw [show zml 248 = 9 by decide +kernel]
  rfl
theorem m_X12_numberOf (d : Nat) (a0 : Nat) (a1 : Int32) (a2 : Int32) (h : zH) : zcall d 249 [.ref a0, .int a1, .int a2] h = zexec d 249 0 [some (.ref a0), some (.int a1), some (.int a2)] [] h := by
  unfold zcall zent
  rw [show zml 249 = 3 by decide +kernel]
  rfl
theorem m_X12_isTray (d : Nat) (a0 : Nat) (a1 : Int32) (h : zH) : zcall d 250 [.ref a0, .int a1] h = zexec d 250 0 [some (.ref a0), some (.int a1)] [] h := by
  unfold zcall zent
  rw [show zml 250 = 2 by decide +kernel]
  rfl
theorem m_X12_has (d : Nat) (a0 : Int32) (a1 : Int32) (h : zH) : zcall d 251 [.int a0, .int a1] h = zexec d 251 0 [some (.int a0), some (.int a1)] [] h := by
  unfold zcall zent
  rw [show zml 251 = 2 by decide +kernel]
  rfl
theorem m_X12_sizeOf (d : Nat) (a0 : Int32) (h : zH) : zcall d 252 [.int a0] h = zexec d 252 0 [some (.int a0), none, none] [] h := by
  unfold zcall zent
  rw [show zml 252 = 3 by decide +kernel]
  rfl
theorem m_X12_look2 (d : Nat) (a0 : Nat) (a1 : Int32) (h : zH) : zcall d 253 [.ref a0, .int a1] h = zexec d 253 0 [some (.ref a0), some (.int a1)] [] h := by
  unfold zcall zent
  rw [show zml 253 = 2 by decide +kernel]
  rfl
theorem m_X12_isLetter (d : Nat) (a0 : Int32) (h : zH) : zcall d 254 [.int a0] h = zexec d 254 0 [some (.int a0)] [] h := by
  unfold zcall zent
  rw [show zml 254 = 1 by decide +kernel]
  rfl
theorem m_X12_isDigit (d : Nat) (a0 : Int32) (h : zH) : zcall d 255 [.int a0] h = zexec d 255 0 [some (.int a0)] [] h := by
  unfold zcall zent
  rw [show zml 255 = 1 by decide +kernel]
  rfl
theorem m_X12_isSignByte (d : Nat) (a0 : Nat) (a1 : Int32) (h : zH) : zcall d 256 [.ref a0, .int a1] h = zexec d 256 0 [some (.ref a0), some (.int a1)] [] h := by
  unfold zcall zent
  rw [show zml 256 = 2 by decide +kernel]
  rfl
theorem m_X12_advance (d : Nat) (a0 : Nat) (h : zH) : zcall d 257 [.ref a0] h = zexec d 257 0 [some (.ref a0), none] [] h := by
  unfold zcall zent
  rw [show zml 257 = 2 by decide +kernel]
  rfl
theorem m_X12_isSign (d : Nat) (a0 : Nat) (a1 : Int32) (h : zH) : zcall d 258 [.ref a0, .int a1] h = zexec d 258 0 [some (.ref a0), some (.int a1)] [] h := by
  unfold zcall zent
  rw [show zml 258 = 2 by decide +kernel]
  rfl
theorem m_X12_spelled (d : Nat) (a0 : Int32) (a1 : Int32) (a2 : Int32) (a3 : Int32) (a4 : Int32) (a5 : Int32) (h : zH) : zcall d 259 [.int a0, .int a1, .int a2, .int a3, .int a4, .int a5] h = zexec d 259 0 [some (.int a0), some (.int a1), some (.int a2), some (.int a3), some (.int a4), some (.int a5), none, none] [] h := by
  unfold zcall zent
  rw [show zml 259 = 8 by decide +kernel]
  rfl
theorem m_X12_isWord (d : Nat) (a0 : Nat) (a1 : Int64) (h : zH) : zcall d 260 [.ref a0, .long a1] h = zexec d 260 0 [some (.ref a0), some (.long a1), none] [] h := by
  unfold zcall zent
  rw [show zml 260 = 3 by decide +kernel]
  rfl
theorem m_X12_isMost (d : Nat) (a0 : Nat) (h : zH) : zcall d 261 [.ref a0] h = zexec d 261 0 [some (.ref a0)] [] h := by
  unfold zcall zent
  rw [show zml 261 = 1 by decide +kernel]
  rfl
theorem m_X12_isLife (d : Nat) (a0 : Nat) (h : zH) : zcall d 262 [.ref a0] h = zexec d 262 0 [some (.ref a0)] [] h := by
  unfold zcall zent
  rw [show zml 262 = 1 by decide +kernel]
  rfl
theorem m_X12_isNameWord (d : Nat) (a0 : Nat) (h : zH) : zcall d 263 [.ref a0] h = zexec d 263 0 [some (.ref a0)] [] h := by
  unfold zcall zent
  rw [show zml 263 = 1 by decide +kernel]
  rfl
theorem m_X12_isWorth (d : Nat) (a0 : Nat) (h : zH) : zcall d 264 [.ref a0] h = zexec d 264 0 [some (.ref a0)] [] h := by
  unfold zcall zent
  rw [show zml 264 = 1 by decide +kernel]
  rfl
theorem m_X12_isPerson (d : Nat) (a0 : Nat) (h : zH) : zcall d 265 [.ref a0] h = zexec d 265 0 [some (.ref a0)] [] h := by
  unfold zcall zent
  rw [show zml 265 = 1 by decide +kernel]
  rfl
theorem m_X12_isBorn (d : Nat) (a0 : Nat) (h : zH) : zcall d 266 [.ref a0] h = zexec d 266 0 [some (.ref a0)] [] h := by
  unfold zcall zent
  rw [show zml 266 = 1 by decide +kernel]
  rfl
theorem m_X12_isOf (d : Nat) (a0 : Nat) (h : zH) : zcall d 267 [.ref a0] h = zexec d 267 0 [some (.ref a0)] [] h := by
  unfold zcall zent
  rw [show zml 267 = 1 by decide +kernel]
  rfl
theorem m_X12_isCoins (d : Nat) (a0 : Nat) (h : zH) : zcall d 268 [.ref a0] h = zexec d 268 0 [some (.ref a0)] [] h := by
  unfold zcall zent
  rw [show zml 268 = 1 by decide +kernel]
  rfl
theorem m_X12_isMiser (d : Nat) (a0 : Nat) (h : zH) : zcall d 269 [.ref a0] h = zexec d 269 0 [some (.ref a0)] [] h := by
  unfold zcall zent
  rw [show zml 269 = 1 by decide +kernel]
  rfl
theorem m_X12_isChild (d : Nat) (a0 : Nat) (h : zH) : zcall d 270 [.ref a0] h = zexec d 270 0 [some (.ref a0)] [] h := by
  unfold zcall zent
  rw [show zml 270 = 1 by decide +kernel]
  rfl
theorem m_X12_isLikes (d : Nat) (a0 : Nat) (h : zH) : zcall d 271 [.ref a0] h = zexec d 271 0 [some (.ref a0)] [] h := by
  unfold zcall zent
  rw [show zml 271 = 1 by decide +kernel]
  rfl
theorem m_X12_isWaits (d : Nat) (a0 : Nat) (h : zH) : zcall d 272 [.ref a0] h = zexec d 272 0 [some (.ref a0)] [] h := by
  unfold zcall zent
  rw [show zml 272 = 1 by decide +kernel]
  rfl
theorem m_X12_isFor (d : Nat) (a0 : Nat) (h : zH) : zcall d 273 [.ref a0] h = zexec d 273 0 [some (.ref a0)] [] h := by
  unfold zcall zent
  rw [show zml 273 = 1 by decide +kernel]
  rfl
theorem m_X12_stepWord (d : Nat) (a0 : Nat) (h : zH) : zcall d 274 [.ref a0] h = zexec d 274 0 [some (.ref a0)] [] h := by
  unfold zcall zent
  rw [show zml 274 = 1 by decide +kernel]
  rfl
theorem m_X12_testWord (d : Nat) (a0 : Nat) (h : zH) : zcall d 275 [.ref a0] h = zexec d 275 0 [some (.ref a0)] [] h := by
  unfold zcall zent
  rw [show zml 275 = 1 by decide +kernel]
  rfl
theorem m_X12_isEnd (d : Nat) (a0 : Nat) (h : zH) : zcall d 276 [.ref a0] h = zexec d 276 0 [some (.ref a0)] [] h := by
  unfold zcall zent
  rw [show zml 276 = 1 by decide +kernel]
  rfl
theorem m_X12_isKept (d : Nat) (a0 : Nat) (h : zH) : zcall d 277 [.ref a0] h = zexec d 277 0 [some (.ref a0)] [] h := by
  unfold zcall zent
  rw [show zml 277 = 1 by decide +kernel]
  rfl
theorem m_X12_isName (d : Nat) (a0 : Nat) (h : zH) : zcall d 278 [.ref a0] h = zexec d 278 0 [some (.ref a0)] [] h := by
  unfold zcall zent
  rw [show zml 278 = 1 by decide +kernel]
  rfl
theorem m_X12_fail (d : Nat) (a0 : Nat) (a1 : Int32) (a2 : Int32) (h : zH) : zcall d 279 [.ref a0, .int a1, .int a2] h = zexec d 279 0 [some (.ref a0), some (.int a1), some (.int a2)] [] h := by
  unfold zcall zent
  rw [show zml 279 = 3 by decide +kernel]
  rfl
theorem m_X12_amiss (d : Nat) (a0 : Nat) (h : zH) : zcall d 280 [.ref a0] h = zexec d 280 0 [some (.ref a0)] [] h := by
  unfold zcall zent
  rw [show zml 280 = 1 by decide +kernel]
  rfl
theorem m_X12_must (d : Nat) (a0 : Nat) (a1 : Int32) (h : zH) : zcall d 281 [.ref a0, .int a1] h = zexec d 281 0 [some (.ref a0), some (.int a1)] [] h := by
  unfold zcall zent
  rw [show zml 281 = 2 by decide +kernel]
  rfl
theorem m_X12_count (d : Nat) (a0 : Nat) (a1 : Int32) (a2 : Int32) (h : zH) : zcall d 282 [.ref a0, .int a1, .int a2] h = zexec d 282 0 [some (.ref a0), some (.int a1), some (.int a2), none] [] h := by
  unfold zcall zent
  rw [show zml 282 = 4 by decide +kernel]
  rfl
theorem m_X12_behindWord (d : Nat) (a0 : Nat) (a1 : Int32) (a2 : Int32) (a3 : Int32) (h : zH) : zcall d 283 [.ref a0, .int a1, .int a2, .int a3] h = zexec d 283 0 [some (.ref a0), some (.int a1), some (.int a2), some (.int a3)] [] h := by
  unfold zcall zent
  rw [show zml 283 = 4 by decide +kernel]
  rfl
theorem m_X12_perhaps (d : Nat) (a0 : Nat) (a1 : Int32) (h : zH) : zcall d 284 [.ref a0, .int a1] h = zexec d 284 0 [some (.ref a0), some (.int a1)] [] h := by
  unfold zcall zent
  rw [show zml 284 = 2 by decide +kernel]
  rfl
theorem m_X12_feed (d : Nat) (a0 : Nat) (a1 : Int32) (a2 : Int32) (a3 : Int32) (a4 : Int32) (a5 : Int32) (h : zH) : zcall d 285 [.ref a0, .int a1, .int a2, .int a3, .int a4, .int a5] h = zexec d 285 0 [some (.ref a0), some (.int a1), some (.int a2), some (.int a3), some (.int a4), some (.int a5)] [] h := by
  unfold zcall zent
  rw [show zml 285 = 6 by decide +kernel]
  rfl
theorem m_X12_lay (d : Nat) (a0 : Nat) (a1 : Int32) (h : zH) : zcall d 286 [.ref a0, .int a1] h = zexec d 286 0 [some (.ref a0), some (.int a1), none] [] h := by
  unfold zcall zent
  rw [show zml 286 = 3 by decide +kernel]
  rfl
theorem m_X12_starts (d : Nat) (a0 : Nat) (a1 : Int32) (a2 : Int32) (h : zH) : zcall d 287 [.ref a0, .int a1, .int a2] h = zexec d 287 0 [some (.ref a0), some (.int a1), some (.int a2)] [] h := by
  unfold zcall zent
  rw [show zml 287 = 3 by decide +kernel]
  rfl
theorem m_X12_isWell (d : Nat) (a0 : Nat) (h : zH) : zcall d 288 [.ref a0] h = zexec d 288 0 [some (.ref a0)] [] h := by
  unfold zcall zent
  rw [show zml 288 = 1 by decide +kernel]
  rfl
theorem m_X12_fault (d : Nat) (a0 : Nat) (a1 : Int32) (h : zH) : zcall d 289 [.ref a0, .int a1] h = zexec d 289 0 [some (.ref a0), some (.int a1)] [] h := by
  unfold zcall zent
  rw [show zml 289 = 2 by decide +kernel]
  rfl
theorem m_X12_empties (d : Nat) (a0 : Nat) (a1 : Int32) (h : zH) : zcall d 290 [.ref a0, .int a1] h = zexec d 290 0 [some (.ref a0), some (.int a1), none, none] [] h := by
  unfold zcall zent
  rw [show zml 290 = 4 by decide +kernel]
  rfl
theorem m_X12_bares (d : Nat) (a0 : Nat) (a1 : Int32) (a2 : Int32) (h : zH) : zcall d 291 [.ref a0, .int a1, .int a2] h = zexec d 291 0 [some (.ref a0), some (.int a1), some (.int a2)] [] h := by
  unfold zcall zent
  rw [show zml 291 = 3 by decide +kernel]
  rfl
theorem m_X12_named (d : Nat) (a0 : Nat) (a1 : Int32) (a2 : Int32) (h : zH) : zcall d 292 [.ref a0, .int a1, .int a2] h = zexec d 292 0 [some (.ref a0), some (.int a1), some (.int a2), none] [] h := by
  unfold zcall zent
  rw [show zml 292 = 4 by decide +kernel]
  rfl
theorem m_X12_readNew (d : Nat) (a0 : Nat) (a1 : Int32) (a2 : Int32) (h : zH) : zcall d 293 [.ref a0, .int a1, .int a2] h = zexec d 293 0 [some (.ref a0), some (.int a1), some (.int a2), none] [] h := by
  unfold zcall zent
  rw [show zml 293 = 4 by decide +kernel]
  rfl
theorem m_X12_told (d : Nat) (a0 : Nat) (a1 : Int32) (a2 : Int32) (h : zH) : zcall d 294 [.ref a0, .int a1, .int a2] h = zexec d 294 0 [some (.ref a0), some (.int a1), some (.int a2), none] [] h := by
  unfold zcall zent
  rw [show zml 294 = 4 by decide +kernel]
  rfl
theorem m_X12_readTold (d : Nat) (a0 : Nat) (a1 : Int32) (a2 : Int32) (h : zH) : zcall d 295 [.ref a0, .int a1, .int a2] h = zexec d 295 0 [some (.ref a0), some (.int a1), some (.int a2), none] [] h := by
  unfold zcall zent
  rw [show zml 295 = 4 by decide +kernel]
  rfl
theorem m_X12_readOnce (d : Nat) (a0 : Nat) (a1 : Int32) (a2 : Int32) (a3 : Int32) (a4 : Int32) (h : zH) : zcall d 296 [.ref a0, .int a1, .int a2, .int a3, .int a4] h = zexec d 296 0 [some (.ref a0), some (.int a1), some (.int a2), some (.int a3), some (.int a4)] [] h := by
  unfold zcall zent
  rw [show zml 296 = 5 by decide +kernel]
  rfl
theorem m_X12_readSurname (d : Nat) (a0 : Nat) (h : zH) : zcall d 297 [.ref a0] h = zexec d 297 0 [some (.ref a0), none] [] h := by
  unfold zcall zent
  rw [show zml 297 = 2 by decide +kernel]
  rfl
theorem m_X12_bornBy (d : Nat) (a0 : Nat) (a1 : Int32) (a2 : Int32) (h : zH) : zcall d 298 [.ref a0, .int a1, .int a2] h = zexec d 298 0 [some (.ref a0), some (.int a1), some (.int a2), none, none] [] h := by
  unfold zcall zent
  rw [show zml 298 = 5 by decide +kernel]
  rfl
theorem m_X12_readPerson (d : Nat) (a0 : Nat) (h : zH) : zcall d 299 [.ref a0] h = zexec d 299 0 [some (.ref a0), none, none] [] h := by
  unfold zcall zent
  rw [show zml 299 = 3 by decide +kernel]
  rfl
theorem m_X12_readChild (d : Nat) (a0 : Nat) (h : zH) : zcall d 300 [.ref a0] h = zexec d 300 0 [some (.ref a0), none, none, none] [] h := by
  unfold zcall zent
  rw [show zml 300 = 4 by decide +kernel]
  rfl
theorem m_X12_readWed (d : Nat) (a0 : Nat) (h : zH) : zcall d 301 [.ref a0] h = zexec d 301 0 [some (.ref a0), none, none] [] h := by
  unfold zcall zent
  rw [show zml 301 = 3 by decide +kernel]
  rfl
theorem m_X12_readLikes (d : Nat) (a0 : Nat) (h : zH) : zcall d 302 [.ref a0] h = zexec d 302 0 [some (.ref a0), none, none, none, none] [] h := by
  unfold zcall zent
  rw [show zml 302 = 5 by decide +kernel]
  rfl
theorem m_X12_isQueued (d : Nat) (a0 : Nat) (a1 : Int32) (a2 : Int32) (h : zH) : zcall d 303 [.ref a0, .int a1, .int a2] h = zexec d 303 0 [some (.ref a0), some (.int a1), some (.int a2), none] [] h := by
  unfold zcall zent
  rw [show zml 303 = 4 by decide +kernel]
  rfl
theorem m_X12_readWaits (d : Nat) (a0 : Nat) (h : zH) : zcall d 304 [.ref a0] h = zexec d 304 0 [some (.ref a0), none, none] [] h := by
  unfold zcall zent
  rw [show zml 304 = 3 by decide +kernel]
  rfl
theorem m_X12_readPart (d : Nat) (a0 : Nat) (h : zH) : zcall d 305 [.ref a0] h = zexec d 305 0 [some (.ref a0)] [] h := by
  unfold zcall zent
  rw [show zml 305 = 1 by decide +kernel]
  rfl
theorem m_X12_town (d : Nat) (a0 : Nat) (a1 : Int32) (h : zH) : zcall d 306 [.ref a0, .int a1] h = zexec d 306 0 [some (.ref a0), some (.int a1)] [] h := by
  unfold zcall zent
  rw [show zml 306 = 2 by decide +kernel]
  rfl
theorem m_X12_readTest (d : Nat) (a0 : Nat) (a1 : Int32) (h : zH) : zcall d 307 [.ref a0, .int a1] h = zexec d 307 0 [some (.ref a0), some (.int a1), none] [] h := by
  unfold zcall zent
  rw [show zml 307 = 3 by decide +kernel]
  rfl
theorem m_X12_readRest (d : Nat) (a0 : Nat) (a1 : Int32) (h : zH) : zcall d 308 [.ref a0, .int a1] h = zexec d 308 0 [some (.ref a0), some (.int a1), none] [] h := by
  unfold zcall zent
  rw [show zml 308 = 3 by decide +kernel]
  rfl
theorem m_X12_readStep (d : Nat) (a0 : Nat) (a1 : Int32) (h : zH) : zcall d 309 [.ref a0, .int a1] h = zexec d 309 0 [some (.ref a0), some (.int a1), none, none, none] [] h := by
  unfold zcall zent
  rw [show zml 309 = 5 by decide +kernel]
  rfl
theorem m_X12_centuries (d : Nat) (a0 : Nat) (a1 : Int32) (h : zH) : zcall d 310 [.ref a0, .int a1] h = zexec d 310 0 [some (.ref a0), some (.int a1), none] [] h := by
  unfold zcall zent
  rw [show zml 310 = 3 by decide +kernel]
  rfl
theorem m_X12_isPersonAt (d : Nat) (a0 : Nat) (a1 : Int32) (h : zH) : zcall d 311 [.ref a0, .int a1] h = zexec d 311 0 [some (.ref a0), some (.int a1)] [] h := by
  unfold zcall zent
  rw [show zml 311 = 2 by decide +kernel]
  rfl
theorem m_X12_isSurname (d : Nat) (a0 : Nat) (a1 : Int32) (h : zH) : zcall d 312 [.ref a0, .int a1] h = zexec d 312 0 [some (.ref a0), some (.int a1)] [] h := by
  unfold zcall zent
  rw [show zml 312 = 2 by decide +kernel]
  rfl
theorem m_X12_lives (d : Nat) (a0 : Nat) (a1 : Int32) (h : zH) : zcall d 313 [.ref a0, .int a1] h = zexec d 313 0 [some (.ref a0), some (.int a1)] [] h := by
  unfold zcall zent
  rw [show zml 313 = 2 by decide +kernel]
  rfl
theorem m_X12_living (d : Nat) (a0 : Nat) (h : zH) : zcall d 314 [.ref a0] h = zexec d 314 0 [some (.ref a0), none, none] [] h := by
  unfold zcall zent
  rw [show zml 314 = 3 by decide +kernel]
  rfl
theorem m_X12_bearers (d : Nat) (a0 : Nat) (a1 : Int32) (h : zH) : zcall d 315 [.ref a0, .int a1] h = zexec d 315 0 [some (.ref a0), some (.int a1), none, none] [] h := by
  unfold zcall zent
  rw [show zml 315 = 4 by decide +kernel]
  rfl
theorem m_X12_freeOf (d : Nat) (a0 : Nat) (a1 : Int32) (h : zH) : zcall d 316 [.ref a0, .int a1] h = zexec d 316 0 [some (.ref a0), some (.int a1)] [] h := by
  unfold zcall zent
  rw [show zml 316 = 2 by decide +kernel]
  rfl
theorem m_X12_dashes (d : Nat) (a0 : Nat) (h : zH) : zcall d 317 [.ref a0] h = zexec d 317 0 [some (.ref a0)] [] h := by
  unfold zcall zent
  rw [show zml 317 = 1 by decide +kernel]
  rfl
theorem m_X12_ageOf (d : Nat) (a0 : Nat) (a1 : Int32) (h : zH) : zcall d 318 [.ref a0, .int a1] h = zexec d 318 0 [some (.ref a0), some (.int a1)] [] h := by
  unfold zcall zent
  rw [show zml 318 = 2 by decide +kernel]
  rfl
theorem m_X12_that (d : Nat) (a0 : Nat) (a1 : Int32) (a2 : Int32) (h : zH) : zcall d 319 [.ref a0, .int a1, .int a2] h = zexec d 319 0 [some (.ref a0), some (.int a1), some (.int a2), none, none] [] h := by
  unfold zcall zent
  rw [show zml 319 = 5 by decide +kernel]
  rfl
theorem m_X12_allCoins (d : Nat) (a0 : Nat) (h : zH) : zcall d 320 [.ref a0] h = zexec d 320 0 [some (.ref a0), none, none] [] h := by
  unfold zcall zent
  rw [show zml 320 = 3 by decide +kernel]
  rfl
theorem m_X12_many (d : Nat) (a0 : Nat) (a1 : Int32) (h : zH) : zcall d 321 [.ref a0, .int a1] h = zexec d 321 0 [some (.ref a0), some (.int a1)] [] h := by
  unfold zcall zent
  rw [show zml 321 = 2 by decide +kernel]
  rfl
theorem m_X12_surname (d : Nat) (a0 : Nat) (a1 : Int32) (a2 : Int32) (h : zH) : zcall d 322 [.ref a0, .int a1, .int a2] h = zexec d 322 0 [some (.ref a0), some (.int a1), some (.int a2)] [] h := by
  unfold zcall zent
  rw [show zml 322 = 3 by decide +kernel]
  rfl
theorem m_X12_person (d : Nat) (a0 : Nat) (a1 : Int32) (a2 : Int32) (h : zH) : zcall d 323 [.ref a0, .int a1, .int a2] h = zexec d 323 0 [some (.ref a0), some (.int a1), some (.int a2), none] [] h := by
  unfold zcall zent
  rw [show zml 323 = 4 by decide +kernel]
  rfl
theorem m_X12_waiting (d : Nat) (a0 : Nat) (a1 : Int32) (a2 : Int32) (h : zH) : zcall d 324 [.ref a0, .int a1, .int a2] h = zexec d 324 0 [some (.ref a0), some (.int a1), some (.int a2)] [] h := by
  unfold zcall zent
  rw [show zml 324 = 3 by decide +kernel]
  rfl
theorem m_X12_liked (d : Nat) (a0 : Nat) (a1 : Int32) (a2 : Int32) (h : zH) : zcall d 325 [.ref a0, .int a1, .int a2] h = zexec d 325 0 [some (.ref a0), some (.int a1), some (.int a2)] [] h := by
  unfold zcall zent
  rw [show zml 325 = 3 by decide +kernel]
  rfl
theorem m_X12_copyNames (d : Nat) (a0 : Nat) (a1 : Int32) (h : zH) : zcall d 326 [.ref a0, .int a1] h = zexec d 326 0 [some (.ref a0), some (.int a1), none] [] h := by
  unfold zcall zent
  rw [show zml 326 = 3 by decide +kernel]
  rfl
theorem m_X12_placeOf (d : Nat) (a0 : Nat) (a1 : Int32) (h : zH) : zcall d 327 [.ref a0, .int a1] h = zexec d 327 0 [some (.ref a0), some (.int a1), none] [] h := by
  unfold zcall zent
  rw [show zml 327 = 3 by decide +kernel]
  rfl
theorem m_X12_drops (d : Nat) (a0 : Nat) (a1 : Int32) (h : zH) : zcall d 328 [.ref a0, .int a1] h = zexec d 328 0 [some (.ref a0), some (.int a1), none] [] h := by
  unfold zcall zent
  rw [show zml 328 = 3 by decide +kernel]
  rfl
theorem m_X12_settles (d : Nat) (a0 : Nat) (h : zH) : zcall d 329 [.ref a0] h = zexec d 329 0 [some (.ref a0), none, none, none] [] h := by
  unfold zcall zent
  rw [show zml 329 = 4 by decide +kernel]
  rfl
theorem m_X12_unweds (d : Nat) (a0 : Nat) (a1 : Int32) (h : zH) : zcall d 330 [.ref a0, .int a1] h = zexec d 330 0 [some (.ref a0), some (.int a1), none] [] h := by
  unfold zcall zent
  rw [show zml 330 = 3 by decide +kernel]
  rfl
theorem m_X12_dies (d : Nat) (a0 : Nat) (a1 : Int32) (h : zH) : zcall d 331 [.ref a0, .int a1] h = zexec d 331 0 [some (.ref a0), some (.int a1), none] [] h := by
  unfold zcall zent
  rw [show zml 331 = 3 by decide +kernel]
  rfl
theorem m_X12_goesYear (d : Nat) (a0 : Nat) (h : zH) : zcall d 332 [.ref a0] h = zexec d 332 0 [some (.ref a0), none, none] [] h := by
  unfold zcall zent
  rw [show zml 332 = 3 by decide +kernel]
  rfl
theorem m_X12_year (d : Nat) (a0 : Nat) (a1 : Int32) (h : zH) : zcall d 333 [.ref a0, .int a1] h = zexec d 333 0 [some (.ref a0), some (.int a1), none, none] [] h := by
  unfold zcall zent
  rw [show zml 333 = 4 by decide +kernel]
  rfl
theorem m_X12_die (d : Nat) (a0 : Nat) (a1 : Int32) (h : zH) : zcall d 334 [.ref a0, .int a1] h = zexec d 334 0 [some (.ref a0), some (.int a1)] [] h := by
  unfold zcall zent
  rw [show zml 334 = 2 by decide +kernel]
  rfl
theorem m_X12_isGrown (d : Nat) (a0 : Nat) (a1 : Int32) (h : zH) : zcall d 335 [.ref a0, .int a1] h = zexec d 335 0 [some (.ref a0), some (.int a1)] [] h := by
  unfold zcall zent
  rw [show zml 335 = 2 by decide +kernel]
  rfl
theorem m_X12_areParents (d : Nat) (a0 : Nat) (a1 : Int32) (a2 : Int32) (h : zH) : zcall d 336 [.ref a0, .int a1, .int a2] h = zexec d 336 0 [some (.ref a0), some (.int a1), some (.int a2)] [] h := by
  unfold zcall zent
  rw [show zml 336 = 3 by decide +kernel]
  rfl
theorem m_X12_births (d : Nat) (a0 : Nat) (a1 : Int32) (a2 : Int32) (h : zH) : zcall d 337 [.ref a0, .int a1, .int a2] h = zexec d 337 0 [some (.ref a0), some (.int a1), some (.int a2), none, none] [] h := by
  unfold zcall zent
  rw [show zml 337 = 5 by decide +kernel]
  rfl
theorem m_X12_birth (d : Nat) (a0 : Nat) (a1 : Int32) (a2 : Int32) (h : zH) : zcall d 338 [.ref a0, .int a1, .int a2] h = zexec d 338 0 [some (.ref a0), some (.int a1), some (.int a2)] [] h := by
  unfold zcall zent
  rw [show zml 338 = 3 by decide +kernel]
  rfl
theorem m_X12_isChildOf (d : Nat) (a0 : Nat) (a1 : Int32) (a2 : Int32) (h : zH) : zcall d 339 [.ref a0, .int a1, .int a2] h = zexec d 339 0 [some (.ref a0), some (.int a1), some (.int a2)] [] h := by
  unfold zcall zent
  rw [show zml 339 = 3 by decide +kernel]
  rfl
theorem m_X12_areNear (d : Nat) (a0 : Nat) (a1 : Int32) (a2 : Int32) (h : zH) : zcall d 340 [.ref a0, .int a1, .int a2] h = zexec d 340 0 [some (.ref a0), some (.int a1), some (.int a2), none, none] [] h := by
  unfold zcall zent
  rw [show zml 340 = 5 by decide +kernel]
  rfl
theorem m_X12_isPlace (d : Nat) (a0 : Nat) (a1 : Int32) (h : zH) : zcall d 341 [.ref a0, .int a1] h = zexec d 341 0 [some (.ref a0), some (.int a1)] [] h := by
  unfold zcall zent
  rw [show zml 341 = 2 by decide +kernel]
  rfl
theorem m_X12_canTake (d : Nat) (a0 : Nat) (a1 : Int32) (a2 : Int32) (h : zH) : zcall d 342 [.ref a0, .int a1, .int a2] h = zexec d 342 0 [some (.ref a0), some (.int a1), some (.int a2)] [] h := by
  unfold zcall zent
  rw [show zml 342 = 3 by decide +kernel]
  rfl
theorem m_X12_canBeWed (d : Nat) (a0 : Nat) (a1 : Int32) (a2 : Int32) (a3 : Int32) (h : zH) : zcall d 343 [.ref a0, .int a1, .int a2, .int a3] h = zexec d 343 0 [some (.ref a0), some (.int a1), some (.int a2), some (.int a3)] [] h := by
  unfold zcall zent
  rw [show zml 343 = 4 by decide +kernel]
  rfl
theorem m_X12_weds (d : Nat) (a0 : Nat) (a1 : Int32) (a2 : Int32) (a3 : Int32) (h : zH) : zcall d 344 [.ref a0, .int a1, .int a2, .int a3] h = zexec d 344 0 [some (.ref a0), some (.int a1), some (.int a2), some (.int a3)] [] h := by
  unfold zcall zent
  rw [show zml 344 = 4 by decide +kernel]
  rfl
theorem m_X12_wed (d : Nat) (a0 : Nat) (a1 : Int32) (a2 : Int32) (a3 : Int32) (h : zH) : zcall d 345 [.ref a0, .int a1, .int a2, .int a3] h = zexec d 345 0 [some (.ref a0), some (.int a1), some (.int a2), some (.int a3)] [] h := by
  unfold zcall zent
  rw [show zml 345 = 4 by decide +kernel]
  rfl
theorem m_X12_part (d : Nat) (a0 : Nat) (a1 : Int32) (a2 : Int32) (h : zH) : zcall d 346 [.ref a0, .int a1, .int a2] h = zexec d 346 0 [some (.ref a0), some (.int a1), some (.int a2)] [] h := by
  unfold zcall zent
  rw [show zml 346 = 3 by decide +kernel]
  rfl
theorem m_X12_canSell (d : Nat) (a0 : Nat) (a1 : Int32) (a2 : Int32) (h : zH) : zcall d 347 [.ref a0, .int a1, .int a2] h = zexec d 347 0 [some (.ref a0), some (.int a1), some (.int a2), none] [] h := by
  unfold zcall zent
  rw [show zml 347 = 4 by decide +kernel]
  rfl
theorem m_X12_sells (d : Nat) (a0 : Nat) (a1 : Int32) (a2 : Int32) (h : zH) : zcall d 348 [.ref a0, .int a1, .int a2] h = zexec d 348 0 [some (.ref a0), some (.int a1), some (.int a2), none] [] h := by
  unfold zcall zent
  rw [show zml 348 = 4 by decide +kernel]
  rfl
theorem m_X12_sell (d : Nat) (a0 : Nat) (a1 : Int32) (a2 : Int32) (h : zH) : zcall d 349 [.ref a0, .int a1, .int a2] h = zexec d 349 0 [some (.ref a0), some (.int a1), some (.int a2), none] [] h := by
  unfold zcall zent
  rw [show zml 349 = 4 by decide +kernel]
  rfl
theorem m_X12_swaps (d : Nat) (a0 : Nat) (a1 : Int32) (a2 : Int32) (h : zH) : zcall d 350 [.ref a0, .int a1, .int a2] h = zexec d 350 0 [some (.ref a0), some (.int a1), some (.int a2), none] [] h := by
  unfold zcall zent
  rw [show zml 350 = 4 by decide +kernel]
  rfl
theorem m_X12_swap (d : Nat) (a0 : Nat) (a1 : Int32) (a2 : Int32) (h : zH) : zcall d 351 [.ref a0, .int a1, .int a2] h = zexec d 351 0 [some (.ref a0), some (.int a1), some (.int a2)] [] h := by
  unfold zcall zent
  rw [show zml 351 = 3 by decide +kernel]
  rfl
theorem m_X12_duel (d : Nat) (a0 : Nat) (a1 : Int32) (a2 : Int32) (h : zH) : zcall d 352 [.ref a0, .int a1, .int a2] h = zexec d 352 0 [some (.ref a0), some (.int a1), some (.int a2), none, none] [] h := by
  unfold zcall zent
  rw [show zml 352 = 5 by decide +kernel]
  rfl
theorem m_X12_abroad (d : Nat) (a0 : Nat) (a1 : Int32) (a2 : Int32) (h : zH) : zcall d 353 [.ref a0, .int a1, .int a2] h = zexec d 353 0 [some (.ref a0), some (.int a1), some (.int a2)] [] h := by
  unfold zcall zent
  rw [show zml 353 = 3 by decide +kernel]
  rfl
theorem m_X12_ask (d : Nat) (a0 : Nat) (a1 : Int32) (a2 : Int32) (h : zH) : zcall d 354 [.ref a0, .int a1, .int a2] h = zexec d 354 0 [some (.ref a0), some (.int a1), some (.int a2), none] [] h := by
  unfold zcall zent
  rw [show zml 354 = 4 by decide +kernel]
  rfl
theorem m_X12_leave (d : Nat) (a0 : Nat) (a1 : Int32) (h : zH) : zcall d 355 [.ref a0, .int a1] h = zexec d 355 0 [some (.ref a0), some (.int a1), none] [] h := by
  unfold zcall zent
  rw [show zml 355 = 3 by decide +kernel]
  rfl
theorem m_X12_earn (d : Nat) (a0 : Nat) (a1 : Int32) (a2 : Int32) (h : zH) : zcall d 356 [.ref a0, .int a1, .int a2] h = zexec d 356 0 [some (.ref a0), some (.int a1), some (.int a2)] [] h := by
  unfold zcall zent
  rw [show zml 356 = 3 by decide +kernel]
  rfl
theorem m_X12_rule (d : Nat) (a0 : Nat) (a1 : Int32) (h : zH) : zcall d 357 [.ref a0, .int a1] h = zexec d 357 0 [some (.ref a0), some (.int a1)] [] h := by
  unfold zcall zent
  rw [show zml 357 = 2 by decide +kernel]
  rfl
theorem m_X12_wish (d : Nat) (a0 : Nat) (a1 : Int32) (a2 : Int32) (a3 : Int32) (h : zH) : zcall d 358 [.ref a0, .int a1, .int a2, .int a3] h = zexec d 358 0 [some (.ref a0), some (.int a1), some (.int a2), some (.int a3), none, none, none, none] [] h := by
  unfold zcall zent
  rw [show zml 358 = 8 by decide +kernel]
  rfl
theorem m_X12_keeps (d : Nat) (a0 : Nat) (h : zH) : zcall d 359 [.ref a0] h = zexec d 359 0 [some (.ref a0), none] [] h := by
  unfold zcall zent
  rw [show zml 359 = 2 by decide +kernel]
  rfl
theorem m_X12_gives (d : Nat) (a0 : Nat) (h : zH) : zcall d 360 [.ref a0] h = zexec d 360 0 [some (.ref a0), none] [] h := by
  unfold zcall zent
  rw [show zml 360 = 2 by decide +kernel]
  rfl
theorem m_X12_turn (d : Nat) (a0 : Nat) (a1 : Int32) (h : zH) : zcall d 361 [.ref a0, .int a1] h = zexec d 361 0 [some (.ref a0), some (.int a1), none, none, none, none] [] h := by
  unfold zcall zent
  rw [show zml 361 = 6 by decide +kernel]
  rfl
theorem m_X12_gone (d : Nat) (a0 : Nat) (a1 : Int32) (h : zH) : zcall d 362 [.ref a0, .int a1] h = zexec d 362 0 [some (.ref a0), some (.int a1), none, none] [] h := by
  unfold zcall zent
  rw [show zml 362 = 4 by decide +kernel]
  rfl
theorem m_X12_livingIn (d : Nat) (a0 : Nat) (a1 : Int32) (h : zH) : zcall d 363 [.ref a0, .int a1] h = zexec d 363 0 [some (.ref a0), some (.int a1), none] [] h := by
  unfold zcall zent
  rw [show zml 363 = 3 by decide +kernel]
  rfl
theorem m_X12_bearsIn (d : Nat) (a0 : Nat) (a1 : Int32) (a2 : Int32) (h : zH) : zcall d 364 [.ref a0, .int a1, .int a2] h = zexec d 364 0 [some (.ref a0), some (.int a1), some (.int a2), none] [] h := by
  unfold zcall zent
  rw [show zml 364 = 4 by decide +kernel]
  rfl
theorem m_X12_dashesIn (d : Nat) (a0 : Nat) (a1 : Int32) (h : zH) : zcall d 365 [.ref a0, .int a1] h = zexec d 365 0 [some (.ref a0), some (.int a1), none] [] h := by
  unfold zcall zent
  rw [show zml 365 = 3 by decide +kernel]
  rfl
theorem m_X12_luck (d : Nat) (a0 : Nat) (a1 : Int32) (a2 : Int32) (a3 : Int32) (h : zH) : zcall d 366 [.ref a0, .int a1, .int a2, .int a3] h = zexec d 366 0 [some (.ref a0), some (.int a1), some (.int a2), some (.int a3), none, none, none, none, none, none] [] h := by
  unfold zcall zent
  rw [show zml 366 = 10 by decide +kernel]
  rfl
theorem m_X12_canWed (d : Nat) (a0 : Nat) (a1 : Int32) (a2 : Int32) (a3 : Int32) (h : zH) : zcall d 367 [.ref a0, .int a1, .int a2, .int a3] h = zexec d 367 0 [some (.ref a0), some (.int a1), some (.int a2), some (.int a3)] [] h := by
  unfold zcall zent
  rw [show zml 367 = 4 by decide +kernel]
  rfl
theorem m_X12_mostCouples (d : Nat) (a0 : Nat) (a1 : Int32) (h : zH) : zcall d 368 [.ref a0, .int a1] h = zexec d 368 0 [some (.ref a0), some (.int a1), none, none, none, none, none, none] [] h := by
  unfold zcall zent
  rw [show zml 368 = 8 by decide +kernel]
  rfl
theorem m_X12_couples (d : Nat) (a0 : Nat) (h : zH) : zcall d 369 [.ref a0] h = zexec d 369 0 [some (.ref a0)] [] h := by
  unfold zcall zent
  rw [show zml 369 = 1 by decide +kernel]
  rfl
theorem m_X12_couplesOf (d : Nat) (a0 : Nat) (a1 : Int32) (h : zH) : zcall d 370 [.ref a0, .int a1] h = zexec d 370 0 [some (.ref a0), some (.int a1)] [] h := by
  unfold zcall zent
  rw [show zml 370 = 2 by decide +kernel]
  rfl
theorem m_X12_match (d : Nat) (a0 : Nat) (a1 : Int32) (h : zH) : zcall d 371 [.ref a0, .int a1] h = zexec d 371 0 [some (.ref a0), some (.int a1), none, none] [] h := by
  unfold zcall zent
  rw [show zml 371 = 4 by decide +kernel]
  rfl
theorem m_X12_suitors (d : Nat) (a0 : Nat) (a1 : Int32) (h : zH) : zcall d 372 [.ref a0, .int a1] h = zexec d 372 0 [some (.ref a0), some (.int a1), none, none] [] h := by
  unfold zcall zent
  rw [show zml 372 = 4 by decide +kernel]
  rfl
theorem m_X12_firstWith (d : Nat) (a0 : Nat) (a1 : Int32) (a2 : Int32) (h : zH) : zcall d 373 [.ref a0, .int a1, .int a2] h = zexec d 373 0 [some (.ref a0), some (.int a1), some (.int a2), none] [] h := by
  unfold zcall zent
  rw [show zml 373 = 4 by decide +kernel]
  rfl
theorem m_X12_pointOf (d : Nat) (a0 : Nat) (a1 : Int32) (a2 : Int32) (h : zH) : zcall d 374 [.ref a0, .int a1, .int a2] h = zexec d 374 0 [some (.ref a0), some (.int a1), some (.int a2), none, none] [] h := by
  unfold zcall zent
  rw [show zml 374 = 5 by decide +kernel]
  rfl
theorem m_X12_ringOf (d : Nat) (a0 : Nat) (a1 : Int32) (h : zH) : zcall d 375 [.ref a0, .int a1] h = zexec d 375 0 [some (.ref a0), some (.int a1), none, none, none] [] h := by
  unfold zcall zent
  rw [show zml 375 = 5 by decide +kernel]
  rfl
theorem m_X12_laysRings (d : Nat) (a0 : Nat) (h : zH) : zcall d 376 [.ref a0] h = zexec d 376 0 [some (.ref a0), none, none, none, none, none] [] h := by
  unfold zcall zent
  rw [show zml 376 = 6 by decide +kernel]
  rfl
theorem m_X12_ringed (d : Nat) (a0 : Nat) (a1 : Int32) (h : zH) : zcall d 377 [.ref a0, .int a1] h = zexec d 377 0 [some (.ref a0), some (.int a1)] [] h := by
  unfold zcall zent
  rw [show zml 377 = 2 by decide +kernel]
  rfl
theorem m_X12_rings (d : Nat) (a0 : Nat) (h : zH) : zcall d 378 [.ref a0] h = zexec d 378 0 [some (.ref a0)] [] h := by
  unfold zcall zent
  rw [show zml 378 = 1 by decide +kernel]
  rfl
theorem m_X12_trade (d : Nat) (a0 : Nat) (h : zH) : zcall d 379 [.ref a0] h = zexec d 379 0 [some (.ref a0), none, none, none] [] h := by
  unfold zcall zent
  rw [show zml 379 = 4 by decide +kernel]
  rfl
theorem m_X12_content (d : Nat) (a0 : Nat) (h : zH) : zcall d 380 [.ref a0] h = zexec d 380 0 [some (.ref a0), none, none] [] h := by
  unfold zcall zent
  rw [show zml 380 = 3 by decide +kernel]
  rfl
theorem m_X12_kin (d : Nat) (a0 : Nat) (a1 : Int32) (a2 : Int32) (h : zH) : zcall d 381 [.ref a0, .int a1, .int a2] h = zexec d 381 0 [some (.ref a0), some (.int a1), some (.int a2), none, none, none, none, none] [] h := by
  unfold zcall zent
  rw [show zml 381 = 8 by decide +kernel]
  rfl
theorem m_X12_children (d : Nat) (a0 : Nat) (a1 : Int32) (h : zH) : zcall d 382 [.ref a0, .int a1] h = zexec d 382 0 [some (.ref a0), some (.int a1), none, none] [] h := by
  unfold zcall zent
  rw [show zml 382 = 4 by decide +kernel]
  rfl
theorem m_X12_elders (d : Nat) (a0 : Nat) (a1 : Int32) (h : zH) : zcall d 383 [.ref a0, .int a1] h = zexec d 383 0 [some (.ref a0), some (.int a1), none, none, none, none] [] h := by
  unfold zcall zent
  rw [show zml 383 = 6 by decide +kernel]
  rfl
theorem m_X12_near (d : Nat) (a0 : Nat) (a1 : Int32) (a2 : Int32) (h : zH) : zcall d 384 [.ref a0, .int a1, .int a2] h = zexec d 384 0 [some (.ref a0), some (.int a1), some (.int a2)] [] h := by
  unfold zcall zent
  rw [show zml 384 = 3 by decide +kernel]
  rfl
theorem m_X12_couldBeBy (d : Nat) (a0 : Nat) (a1 : Int32) (a2 : Int32) (a3 : Int32) (h : zH) : zcall d 385 [.ref a0, .int a1, .int a2, .int a3] h = zexec d 385 0 [some (.ref a0), some (.int a1), some (.int a2), some (.int a3), none] [] h := by
  unfold zcall zent
  rw [show zml 385 = 5 by decide +kernel]
  rfl
theorem m_X12_parents (d : Nat) (a0 : Nat) (a1 : Int32) (h : zH) : zcall d 386 [.ref a0, .int a1] h = zexec d 386 0 [some (.ref a0), some (.int a1), none, none, none] [] h := by
  unfold zcall zent
  rw [show zml 386 = 5 by decide +kernel]
  rfl
theorem m_X12_couldBe (d : Nat) (a0 : Nat) (a1 : Int32) (a2 : Int32) (a3 : Int32) (h : zH) : zcall d 387 [.ref a0, .int a1, .int a2, .int a3] h = zexec d 387 0 [some (.ref a0), some (.int a1), some (.int a2), some (.int a3)] [] h := by
  unfold zcall zent
  rw [show zml 387 = 4 by decide +kernel]
  rfl
theorem m_X12_wealthOf (d : Nat) (a0 : Nat) (a1 : Int32) (h : zH) : zcall d 388 [.ref a0, .int a1] h = zexec d 388 0 [some (.ref a0), some (.int a1)] [] h := by
  unfold zcall zent
  rw [show zml 388 = 2 by decide +kernel]
  rfl
theorem m_X12_wealth (d : Nat) (a0 : Nat) (a1 : Int32) (h : zH) : zcall d 389 [.ref a0, .int a1] h = zexec d 389 0 [some (.ref a0), some (.int a1)] [] h := by
  unfold zcall zent
  rw [show zml 389 = 2 by decide +kernel]
  rfl
theorem m_X12_richest (d : Nat) (a0 : Nat) (h : zH) : zcall d 390 [.ref a0] h = zexec d 390 0 [some (.ref a0), none, none] [] h := by
  unfold zcall zent
  rw [show zml 390 = 3 by decide +kernel]
  rfl
theorem m_X12_buyers (d : Nat) (a0 : Nat) (a1 : Int32) (h : zH) : zcall d 391 [.ref a0, .int a1] h = zexec d 391 0 [some (.ref a0), some (.int a1), none, none, none] [] h := by
  unfold zcall zent
  rw [show zml 391 = 5 by decide +kernel]
  rfl
theorem m_X12_anew (d : Nat) (a0 : Nat) (a1 : Int32) (a2 : Int32) (h : zH) : zcall d 392 [.ref a0, .int a1, .int a2] h = zexec d 392 0 [some (.ref a0), some (.int a1), some (.int a2), none, none] [] h := by
  unfold zcall zent
  rw [show zml 392 = 5 by decide +kernel]
  rfl
theorem m_X12_recount (d : Nat) (a0 : Nat) (a1 : Int32) (h : zH) : zcall d 393 [.ref a0, .int a1] h = zexec d 393 0 [some (.ref a0), some (.int a1), none, none, none, none] [] h := by
  unfold zcall zent
  rw [show zml 393 = 6 by decide +kernel]
  rfl
theorem m_X12_draw (d : Nat) (a0 : Nat) (a1 : Int32) (h : zH) : zcall d 394 [.ref a0, .int a1] h = zexec d 394 0 [some (.ref a0), some (.int a1)] [] h := by
  unfold zcall zent
  rw [show zml 394 = 2 by decide +kernel]
  rfl
theorem m_X12_anyYears (d : Nat) (a0 : Nat) (a1 : Int32) (h : zH) : zcall d 395 [.ref a0, .int a1] h = zexec d 395 0 [some (.ref a0), some (.int a1), none] [] h := by
  unfold zcall zent
  rw [show zml 395 = 3 by decide +kernel]
  rfl
theorem m_X12_isDying (d : Nat) (a0 : Nat) (a1 : Int32) (h : zH) : zcall d 396 [.ref a0, .int a1] h = zexec d 396 0 [some (.ref a0), some (.int a1)] [] h := by
  unfold zcall zent
  rw [show zml 396 = 2 by decide +kernel]
  rfl
theorem m_X12_anyLiving (d : Nat) (a0 : Nat) (h : zH) : zcall d 397 [.ref a0] h = zexec d 397 0 [some (.ref a0), none, none, none] [] h := by
  unfold zcall zent
  rw [show zml 397 = 4 by decide +kernel]
  rfl
theorem m_X12_isGiven (d : Nat) (a0 : Nat) (a1 : Int32) (a2 : Int32) (h : zH) : zcall d 398 [.ref a0, .int a1, .int a2] h = zexec d 398 0 [some (.ref a0), some (.int a1), some (.int a2)] [] h := by
  unfold zcall zent
  rw [show zml 398 = 3 by decide +kernel]
  rfl
theorem m_X12_does (d : Nat) (a0 : Nat) (a1 : Int32) (h : zH) : zcall d 399 [.ref a0, .int a1] h = zexec d 399 0 [some (.ref a0), some (.int a1), none, none, none] [] h := by
  unfold zcall zent
  rw [show zml 399 = 5 by decide +kernel]
  rfl
theorem m_X12_isSo (d : Nat) (a0 : Nat) (a1 : Int32) (h : zH) : zcall d 400 [.ref a0, .int a1] h = zexec d 400 0 [some (.ref a0), some (.int a1), none, none, none] [] h := by
  unfold zcall zent
  rw [show zml 400 = 5 by decide +kernel]
  rfl
theorem m_X12_doOne (d : Nat) (a0 : Nat) (a1 : Int32) (h : zH) : zcall d 401 [.ref a0, .int a1] h = zexec d 401 0 [some (.ref a0), some (.int a1), none, none, none] [] h := by
  unfold zcall zent
  rw [show zml 401 = 5 by decide +kernel]
  rfl
theorem m_X12_doAll (d : Nat) (a0 : Nat) (a1 : Int32) (a2 : Int32) (h : zH) : zcall d 402 [.ref a0, .int a1, .int a2] h = zexec d 402 0 [some (.ref a0), some (.int a1), some (.int a2), none] [] h := by
  unfold zcall zent
  rw [show zml 402 = 4 by decide +kernel]
  rfl
theorem m_X12_runsCenturies (d : Nat) (a0 : Nat) (a1 : Int32) (h : zH) : zcall d 403 [.ref a0, .int a1] h = zexec d 403 0 [some (.ref a0), some (.int a1)] [] h := by
  unfold zcall zent
  rw [show zml 403 = 2 by decide +kernel]
  rfl
theorem m_X12_live (d : Nat) (a0 : Nat) (a1 : Int32) (h : zH) : zcall d 404 [.ref a0, .int a1] h = zexec d 404 0 [some (.ref a0), some (.int a1)] [] h := by
  unfold zcall zent
  rw [show zml 404 = 2 by decide +kernel]
  rfl
theorem m_X12_lived (d : Nat) (a0 : Nat) (a1 : Int32) (h : zH) : zcall d 405 [.ref a0, .int a1] h = zexec d 405 0 [some (.ref a0), some (.int a1)] [] h := by
  unfold zcall zent
  rw [show zml 405 = 2 by decide +kernel]
  rfl
theorem m_X12_mean (d : Nat) (a0 : Nat) (a1 : Int32) (a2 : Int32) (h : zH) : zcall d 406 [.ref a0, .int a1, .int a2] h = zexec d 406 0 [some (.ref a0), some (.int a1), some (.int a2), none, none, none, none] [] h := by
  unfold zcall zent
  rw [show zml 406 = 7 by decide +kernel]
  rfl
theorem m_X12_copy (d : Nat) (a0 : Nat) (a1 : Int32) (a2 : Int32) (h : zH) : zcall d 407 [.ref a0, .int a1, .int a2] h = zexec d 407 0 [some (.ref a0), some (.int a1), some (.int a2), none] [] h := by
  unfold zcall zent
  rw [show zml 407 = 4 by decide +kernel]
  rfl
theorem m_X12_mark (d : Nat) (a0 : Nat) (h : zH) : zcall d 408 [.ref a0] h = zexec d 408 0 [some (.ref a0)] [] h := by
  unfold zcall zent
  rw [show zml 408 = 1 by decide +kernel]
  rfl
theorem m_X12_back (d : Nat) (a0 : Nat) (h : zH) : zcall d 409 [.ref a0] h = zexec d 409 0 [some (.ref a0)] [] h := by
  unfold zcall zent
  rw [show zml 409 = 1 by decide +kernel]
  rfl
theorem m_J0_length_8abf5 (d : Nat) (a0 : Nat) (h : zH) : zcall d 410 [.ref a0] h = zexec d 410 0 [some (.ref a0)] [] h := by
  unfold zcall zent
  rw [show zml 410 = 1 by decide +kernel]
  rfl
theorem m_J0_charAt_5068e (d : Nat) (a0 : Nat) (a1 : Int32) (h : zH) : zcall d 411 [.ref a0, .int a1] h = zexec d 411 0 [some (.ref a0), some (.int a1)] [] h := by
  unfold zcall zent
  rw [show zml 411 = 2 by decide +kernel]
  rfl
theorem m_J0_coder_7d493 (d : Nat) (a0 : Nat) (h : zH) : zcall d 412 [.ref a0] h = zexec d 412 0 [some (.ref a0)] [] h := by
  unfold zcall zent
  rw [show zml 412 = 1 by decide +kernel]
  rfl
theorem m_J0_isLatin1_aae02 (d : Nat) (a0 : Nat) (h : zH) : zcall d 413 [.ref a0] h = zexec d 413 0 [some (.ref a0)] [] h := by
  unfold zcall zent
  rw [show zml 413 = 1 by decide +kernel]
  rfl
theorem m_J0_checkIndex_df160 (d : Nat) (a0 : Int32) (a1 : Int32) (h : zH) : zcall d 414 [.int a0, .int a1] h = zexec d 414 0 [some (.int a0), some (.int a1)] [] h := by
  unfold zcall zent
  rw [show zml 414 = 2 by decide +kernel]
  rfl
theorem m_L_law (d : Nat) (a0 : Nat) (h : zH) : zcall d 415 [.ref a0] h = zexec d 415 0 [some (.ref a0), none, none, none] [] h := by
  unfold zcall zent
  rw [show zml 415 = 4 by decide +kernel]
  rfl
theorem m_J6_bitCount_0f7a4 (d : Nat) (a0 : Int32) (h : zH) : zcall d 416 [.int a0] h = zexec d 416 0 [some (.int a0)] [] h := by
  unfold zcall zent
  rw [show zml 416 = 1 by decide +kernel]
  rfl
theorem m_J9_abs_067f4 (d : Nat) (a0 : Int64) (h : zH) : zcall d 417 [.long a0] h = zexec d 417 0 [some (.long a0), none] [] h := by
  unfold zcall zent
  rw [show zml 417 = 2 by decide +kernel]
  rfl
theorem m_J9_max_7cf53 (d : Nat) (a0 : Int32) (a1 : Int32) (h : zH) : zcall d 418 [.int a0, .int a1] h = zexec d 418 0 [some (.int a0), some (.int a1)] [] h := by
  unfold zcall zent
  rw [show zml 418 = 2 by decide +kernel]
  rfl
theorem m_J9_min_7cf53 (d : Nat) (a0 : Int32) (a1 : Int32) (h : zH) : zcall d 419 [.int a0, .int a1] h = zexec d 419 0 [some (.int a0), some (.int a1)] [] h := by
  unfold zcall zent
  rw [show zml 419 = 2 by decide +kernel]
  rfl
theorem m_J7_fill_d0a16 (d : Nat) (a0 : Nat) (a1 : Int64) (h : zH) : zcall d 420 [.ref a0, .long a1] h = zexec d 420 0 [some (.ref a0), some (.long a1), none, none, none] [] h := by
  unfold zcall zent
  rw [show zml 420 = 5 by decide +kernel]
  rfl
theorem m_J7_fill_53178 (d : Nat) (a0 : Nat) (a1 : Int32) (h : zH) : zcall d 421 [.ref a0, .int a1] h = zexec d 421 0 [some (.ref a0), some (.int a1), none, none] [] h := by
  unfold zcall zent
  rw [show zml 421 = 4 by decide +kernel]
  rfl
theorem m_J1_charAt_3b067 (d : Nat) (a0 : Nat) (a1 : Int32) (h : zH) : zcall d 422 [.ref a0, .int a1] h = zexec d 422 0 [some (.ref a0), some (.int a1)] [] h := by
  unfold zcall zent
  rw [show zml 422 = 2 by decide +kernel]
  rfl
theorem m_J3_checkIndex_8e157 (d : Nat) (a0 : Int32) (a1 : Int32) (a2 : Nat) (h : zH) : zcall d 423 [.int a0, .int a1, .ref a2] h = zexec d 423 0 [some (.int a0), some (.int a1), some (.ref a2)] [] h := by
  unfold zcall zent
  rw [show zml 423 = 3 by decide +kernel]
  rfl
