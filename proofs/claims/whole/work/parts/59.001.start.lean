theorem z_hstep (x0 x1 x2 x3 x4 x5 : Int32) (S : ZS) (h : Inv S) : ∃ S1, fStep x0 x1 x2 x3 x4 x5 S = some S1 ∧ Inv S1 := by
  unfold fStep
  by_cases c0 : x0 &&& 31 = (0 : Int32)
  · rw [if_pos c0]; exact t_0 x1 x2 x3 x4 x5 S h
  rw [if_neg c0]
  by_cases c1 : x0 &&& 31 = (1 : Int32)
  · rw [if_pos c1]; exact t_1 x1 S h
  rw [if_neg c1]
  by_cases c2 : x0 &&& 31 = (2 : Int32)
  · rw [if_pos c2]; exact t_2 S h
  rw [if_neg c2]
  by_cases c3 : x0 &&& 31 = (3 : Int32)
  · rw [if_pos c3]; exact t_3 x1 S h
  rw [if_neg c3]
  by_cases c4 : x0 &&& 31 = (4 : Int32)
  · rw [if_pos c4]; exact t_4 x1 x2 S h
  rw [if_neg c4]
  by_cases c5 : x0 &&& 31 = (5 : Int32)
  · rw [if_pos c5]; exact t_5 x1 x2 S h
  rw [if_neg c5]
  by_cases c6 : x0 &&& 31 = (6 : Int32)
  · rw [if_pos c6]; exact t_6 x1 x2 S h
  rw [if_neg c6]
  by_cases c7 : x0 &&& 31 = (7 : Int32)
  · rw [if_pos c7]; exact t_7 x1 S h
  rw [if_neg c7]
  by_cases c8 : x0 &&& 31 = (8 : Int32)
  · rw [if_pos c8]; exact t_8 x1 S h
  rw [if_neg c8]
  by_cases c9 : x0 &&& 31 = (9 : Int32)
  · rw [if_pos c9]; exact t_9 S h
  rw [if_neg c9]
  by_cases c10 : x0 &&& 31 = (10 : Int32)
  · rw [if_pos c10]; exact t_10 x1 x2 S h
  rw [if_neg c10]
  by_cases c11 : x0 &&& 31 = (11 : Int32)
  · rw [if_pos c11]; exact t_11 x1 S h
  rw [if_neg c11]
  by_cases c12 : x0 &&& 31 = (12 : Int32)
  · rw [if_pos c12]; exact t_12 x1 S h
  rw [if_neg c12]
  by_cases c13 : x0 &&& 31 = (13 : Int32)
  · rw [if_pos c13]; exact t_13 x1 x2 S h
  rw [if_neg c13]
  by_cases c14 : x0 &&& 31 = (14 : Int32)
  · rw [if_pos c14]; exact t_14 x1 S h
  rw [if_neg c14]
  by_cases c15 : x0 &&& 31 = (15 : Int32)
  · rw [if_pos c15]; exact t_15 S h
  rw [if_neg c15]
  by_cases c16 : x0 &&& 31 = (16 : Int32)
  · rw [if_pos c16]; exact t_16 x1 S h
  rw [if_neg c16]
  by_cases c17 : x0 &&& 31 = (17 : Int32)
  · rw [if_pos c17]; exact t_17 x1 S h
  rw [if_neg c17]
  by_cases c18 : x0 &&& 31 = (18 : Int32)
  · rw [if_pos c18]; exact t_18 x1 x2 x3 x4 S h
  rw [if_neg c18]
  by_cases c19 : x0 &&& 31 = (19 : Int32)
  · rw [if_pos c19]; exact t_19 x1 S h
  rw [if_neg c19]
  by_cases c20 : x0 &&& 31 = (20 : Int32)
  · rw [if_pos c20]; exact t_20 S h
  rw [if_neg c20]
  by_cases c21 : x0 &&& 31 = (21 : Int32)
  · rw [if_pos c21]; exact t_21 x1 x2 S h
  rw [if_neg c21]
  by_cases c22 : x0 &&& 31 = (22 : Int32)
  · rw [if_pos c22]; exact t_22 S h
  rw [if_neg c22]
  by_cases c23 : x0 &&& 31 = (23 : Int32)
  · rw [if_pos c23]; exact t_23 S h
  rw [if_neg c23]
  exact ⟨S, rfl, h⟩
