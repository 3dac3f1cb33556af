/-! ===== printed by wip/whole/gen.py: links, callees ===== -/
theorem fk_X0_19 : ∃ (C : String) (T : u_T) (N : Nat), vwCl[0]? = some (C, T, N) ∧ 2 < N ∧ Cond.fieldLink "KettleChoir$Acts" 19 (T 2).1 (T 2).2.1 (T 2).2.2.1 ∈ kt_T := ⟨RX0, TX0, 3, rfl, by decide, kw_8⟩
theorem fk_X0_15 : ∃ (C : String) (T : u_T) (N : Nat), vwCl[0]? = some (C, T, N) ∧ 1 < N ∧ Cond.fieldLink "KettleChoir$Acts" 15 (T 1).1 (T 1).2.1 (T 1).2.2.1 ∈ kt_T := ⟨RX0, TX0, 3, rfl, by decide, kw_7⟩
theorem fk_X0_9 : ∃ (C : String) (T : u_T) (N : Nat), vwCl[0]? = some (C, T, N) ∧ 0 < N ∧ Cond.fieldLink "KettleChoir$Acts" 9 (T 0).1 (T 0).2.1 (T 0).2.2.1 ∈ kt_T := ⟨RX0, TX0, 3, rfl, by decide, kw_4⟩
theorem fk_X1_9 : ∃ (C : String) (T : u_T) (N : Nat), vwCl[1]? = some (C, T, N) ∧ 0 < N ∧ Cond.fieldLink "KettleChoir$Ear" 9 (T 0).1 (T 0).2.1 (T 0).2.2.1 ∈ kt_T := ⟨RX1, TX1, 9, rfl, by decide, kw_18⟩
theorem fk_X1_32 : ∃ (C : String) (T : u_T) (N : Nat), vwCl[1]? = some (C, T, N) ∧ 4 < N ∧ Cond.fieldLink "KettleChoir$Ear" 32 (T 4).1 (T 4).2.1 (T 4).2.2.1 ∈ kt_T := ⟨RX1, TX1, 9, rfl, by decide, kw_29⟩
theorem fk_X1_19 : ∃ (C : String) (T : u_T) (N : Nat), vwCl[1]? = some (C, T, N) ∧ 2 < N ∧ Cond.fieldLink "KettleChoir$Ear" 19 (T 2).1 (T 2).2.1 (T 2).2.2.1 ∈ kt_T := ⟨RX1, TX1, 9, rfl, by decide, kw_21⟩
theorem fk_X1_49 : ∃ (C : String) (T : u_T) (N : Nat), vwCl[4]? = some (C, T, N) ∧ 10 < N ∧ Cond.fieldLink "KettleChoir$Ear" 49 (T 10).1 (T 10).2.1 (T 10).2.2.1 ∈ kt_T := ⟨RX4, TX4, 15, rfl, by decide, kw_34⟩
theorem fk_X1_36 : ∃ (C : String) (T : u_T) (N : Nat), vwCl[1]? = some (C, T, N) ∧ 5 < N ∧ Cond.fieldLink "KettleChoir$Ear" 36 (T 5).1 (T 5).2.1 (T 5).2.2.1 ∈ kt_T := ⟨RX1, TX1, 9, rfl, by decide, kw_30⟩
theorem fk_X1_40 : ∃ (C : String) (T : u_T) (N : Nat), vwCl[1]? = some (C, T, N) ∧ 6 < N ∧ Cond.fieldLink "KettleChoir$Ear" 40 (T 6).1 (T 6).2.1 (T 6).2.2.1 ∈ kt_T := ⟨RX1, TX1, 9, rfl, by decide, kw_31⟩
theorem fk_X1_15 : ∃ (C : String) (T : u_T) (N : Nat), vwCl[1]? = some (C, T, N) ∧ 1 < N ∧ Cond.fieldLink "KettleChoir$Ear" 15 (T 1).1 (T 1).2.1 (T 1).2.2.1 ∈ kt_T := ⟨RX1, TX1, 9, rfl, by decide, kw_20⟩
theorem fk_X1_64 : ∃ (C : String) (T : u_T) (N : Nat), vwCl[4]? = some (C, T, N) ∧ 13 < N ∧ Cond.fieldLink "KettleChoir$Ear" 64 (T 13).1 (T 13).2.1 (T 13).2.2.1 ∈ kt_T := ⟨RX4, TX4, 15, rfl, by decide, kw_45⟩
theorem fk_X1_68 : ∃ (C : String) (T : u_T) (N : Nat), vwCl[2]? = some (C, T, N) ∧ 2 < N ∧ Cond.fieldLink "KettleChoir$Ear" 68 (T 2).1 (T 2).2.1 (T 2).2.2.1 ∈ kt_T := ⟨RX2, TX2, 3, rfl, by decide, kw_46⟩
theorem fk_X1_71 : ∃ (C : String) (T : u_T) (N : Nat), vwCl[2]? = some (C, T, N) ∧ 1 < N ∧ Cond.fieldLink "KettleChoir$Ear" 71 (T 1).1 (T 1).2.1 (T 1).2.2.1 ∈ kt_T := ⟨RX2, TX2, 3, rfl, by decide, kw_47⟩
theorem fk_X1_74 : ∃ (C : String) (T : u_T) (N : Nat), vwCl[2]? = some (C, T, N) ∧ 0 < N ∧ Cond.fieldLink "KettleChoir$Ear" 74 (T 0).1 (T 0).2.1 (T 0).2.2.1 ∈ kt_T := ⟨RX2, TX2, 3, rfl, by decide, kw_48⟩
theorem fk_X1_77 : ∃ (C : String) (T : u_T) (N : Nat), vwCl[1]? = some (C, T, N) ∧ 3 < N ∧ Cond.fieldLink "KettleChoir$Ear" 77 (T 3).1 (T 3).2.1 (T 3).2.2.1 ∈ kt_T := ⟨RX1, TX1, 9, rfl, by decide, kw_50⟩
theorem fk_X1_82 : ∃ (C : String) (T : u_T) (N : Nat), vwCl[1]? = some (C, T, N) ∧ 8 < N ∧ Cond.fieldLink "KettleChoir$Ear" 82 (T 8).1 (T 8).2.1 (T 8).2.2.1 ∈ kt_T := ⟨RX1, TX1, 9, rfl, by decide, kw_53⟩
theorem fk_X2_18 : ∃ (C : String) (T : u_T) (N : Nat), vwCl[2]? = some (C, T, N) ∧ 2 < N ∧ Cond.fieldLink "KettleChoir$Heard" 18 (T 2).1 (T 2).2.1 (T 2).2.2.1 ∈ kt_T := ⟨RX2, TX2, 3, rfl, by decide, kw_60⟩
theorem fk_X2_9 : ∃ (C : String) (T : u_T) (N : Nat), vwCl[2]? = some (C, T, N) ∧ 0 < N ∧ Cond.fieldLink "KettleChoir$Heard" 9 (T 0).1 (T 0).2.1 (T 0).2.2.1 ∈ kt_T := ⟨RX2, TX2, 3, rfl, by decide, kw_56⟩
theorem fk_X2_15 : ∃ (C : String) (T : u_T) (N : Nat), vwCl[2]? = some (C, T, N) ∧ 1 < N ∧ Cond.fieldLink "KettleChoir$Heard" 15 (T 1).1 (T 1).2.1 (T 1).2.2.1 ∈ kt_T := ⟨RX2, TX2, 3, rfl, by decide, kw_57⟩
theorem fk_X3_9 : ∃ (C : String) (T : u_T) (N : Nat), vwCl[3]? = some (C, T, N) ∧ 0 < N ∧ Cond.fieldLink "KettleChoir$Image" 9 (T 0).1 (T 0).2.1 (T 0).2.2.1 ∈ kt_T := ⟨RX3, TX3, 4, rfl, by decide, kw_66⟩
theorem fk_X3_18 : ∃ (C : String) (T : u_T) (N : Nat), vwCl[3]? = some (C, T, N) ∧ 1 < N ∧ Cond.fieldLink "KettleChoir$Image" 18 (T 1).1 (T 1).2.1 (T 1).2.2.1 ∈ kt_T := ⟨RX3, TX3, 4, rfl, by decide, kw_69⟩
theorem fk_X3_25 : ∃ (C : String) (T : u_T) (N : Nat), vwCl[3]? = some (C, T, N) ∧ 2 < N ∧ Cond.fieldLink "KettleChoir$Image" 25 (T 2).1 (T 2).2.1 (T 2).2.2.1 ∈ kt_T := ⟨RX3, TX3, 4, rfl, by decide, kw_72⟩
theorem fk_X3_29 : ∃ (C : String) (T : u_T) (N : Nat), vwCl[3]? = some (C, T, N) ∧ 3 < N ∧ Cond.fieldLink "KettleChoir$Image" 29 (T 3).1 (T 3).2.1 (T 3).2.2.1 ∈ kt_T := ⟨RX3, TX3, 4, rfl, by decide, kw_73⟩
theorem fk_X4_39 : ∃ (C : String) (T : u_T) (N : Nat), vwCl[4]? = some (C, T, N) ∧ 8 < N ∧ Cond.fieldLink "KettleChoir$Kitchen" 39 (T 8).1 (T 8).2.1 (T 8).2.2.1 ∈ kt_T := ⟨RX4, TX4, 15, rfl, by decide, kw_96⟩
theorem fk_X4_46 : ∃ (C : String) (T : u_T) (N : Nat), vwCl[4]? = some (C, T, N) ∧ 10 < N ∧ Cond.fieldLink "KettleChoir$Kitchen" 46 (T 10).1 (T 10).2.1 (T 10).2.2.1 ∈ kt_T := ⟨RX4, TX4, 15, rfl, by decide, kw_100⟩
theorem fk_X4_50 : ∃ (C : String) (T : u_T) (N : Nat), vwCl[4]? = some (C, T, N) ∧ 11 < N ∧ Cond.fieldLink "KettleChoir$Kitchen" 50 (T 11).1 (T 11).2.1 (T 11).2.2.1 ∈ kt_T := ⟨RX4, TX4, 15, rfl, by decide, kw_101⟩
theorem fk_X4_53 : ∃ (C : String) (T : u_T) (N : Nat), vwCl[4]? = some (C, T, N) ∧ 12 < N ∧ Cond.fieldLink "KettleChoir$Kitchen" 53 (T 12).1 (T 12).2.1 (T 12).2.2.1 ∈ kt_T := ⟨RX4, TX4, 15, rfl, by decide, kw_102⟩
theorem fk_X4_9 : ∃ (C : String) (T : u_T) (N : Nat), vwCl[4]? = some (C, T, N) ∧ 0 < N ∧ Cond.fieldLink "KettleChoir$Kitchen" 9 (T 0).1 (T 0).2.1 (T 0).2.2.1 ∈ kt_T := ⟨RX4, TX4, 15, rfl, by decide, kw_86⟩
theorem fk_X4_15 : ∃ (C : String) (T : u_T) (N : Nat), vwCl[4]? = some (C, T, N) ∧ 1 < N ∧ Cond.fieldLink "KettleChoir$Kitchen" 15 (T 1).1 (T 1).2.1 (T 1).2.2.1 ∈ kt_T := ⟨RX4, TX4, 15, rfl, by decide, kw_87⟩
theorem fk_X4_18 : ∃ (C : String) (T : u_T) (N : Nat), vwCl[4]? = some (C, T, N) ∧ 2 < N ∧ Cond.fieldLink "KettleChoir$Kitchen" 18 (T 2).1 (T 2).2.1 (T 2).2.2.1 ∈ kt_T := ⟨RX4, TX4, 15, rfl, by decide, kw_88⟩
theorem fk_X4_21 : ∃ (C : String) (T : u_T) (N : Nat), vwCl[4]? = some (C, T, N) ∧ 3 < N ∧ Cond.fieldLink "KettleChoir$Kitchen" 21 (T 3).1 (T 3).2.1 (T 3).2.2.1 ∈ kt_T := ⟨RX4, TX4, 15, rfl, by decide, kw_89⟩
theorem fk_X4_24 : ∃ (C : String) (T : u_T) (N : Nat), vwCl[4]? = some (C, T, N) ∧ 4 < N ∧ Cond.fieldLink "KettleChoir$Kitchen" 24 (T 4).1 (T 4).2.1 (T 4).2.2.1 ∈ kt_T := ⟨RX4, TX4, 15, rfl, by decide, kw_90⟩
theorem fk_X4_27 : ∃ (C : String) (T : u_T) (N : Nat), vwCl[4]? = some (C, T, N) ∧ 5 < N ∧ Cond.fieldLink "KettleChoir$Kitchen" 27 (T 5).1 (T 5).2.1 (T 5).2.2.1 ∈ kt_T := ⟨RX4, TX4, 15, rfl, by decide, kw_91⟩
theorem fk_X4_30 : ∃ (C : String) (T : u_T) (N : Nat), vwCl[4]? = some (C, T, N) ∧ 6 < N ∧ Cond.fieldLink "KettleChoir$Kitchen" 30 (T 6).1 (T 6).2.1 (T 6).2.2.1 ∈ kt_T := ⟨RX4, TX4, 15, rfl, by decide, kw_92⟩
theorem fk_X4_33 : ∃ (C : String) (T : u_T) (N : Nat), vwCl[4]? = some (C, T, N) ∧ 7 < N ∧ Cond.fieldLink "KettleChoir$Kitchen" 33 (T 7).1 (T 7).2.1 (T 7).2.2.1 ∈ kt_T := ⟨RX4, TX4, 15, rfl, by decide, kw_93⟩
theorem fk_X4_101 : ∃ (C : String) (T : u_T) (N : Nat), vwCl[4]? = some (C, T, N) ∧ 13 < N ∧ Cond.fieldLink "KettleChoir$Kitchen" 101 (T 13).1 (T 13).2.1 (T 13).2.2.1 ∈ kt_T := ⟨RX4, TX4, 15, rfl, by decide, kw_137⟩
theorem fk_X4_105 : ∃ (C : String) (T : u_T) (N : Nat), vwCl[4]? = some (C, T, N) ∧ 14 < N ∧ Cond.fieldLink "KettleChoir$Kitchen" 105 (T 14).1 (T 14).2.1 (T 14).2.2.1 ∈ kt_T := ⟨RX4, TX4, 15, rfl, by decide, kw_138⟩
theorem fk_X4_56 : ∃ (C : String) (T : u_T) (N : Nat), vwCl[7]? = some (C, T, N) ∧ 2 < N ∧ Cond.fieldLink "KettleChoir$Kitchen" 56 (T 2).1 (T 2).2.1 (T 2).2.2.1 ∈ kt_T := ⟨RX7, TX7, 3, rfl, by decide, kw_103⟩
theorem fk_X4_43 : ∃ (C : String) (T : u_T) (N : Nat), vwCl[4]? = some (C, T, N) ∧ 9 < N ∧ Cond.fieldLink "KettleChoir$Kitchen" 43 (T 9).1 (T 9).2.1 (T 9).2.2.1 ∈ kt_T := ⟨RX4, TX4, 15, rfl, by decide, kw_97⟩
theorem fk_X5_21 : ∃ (C : String) (T : u_T) (N : Nat), vwCl[5]? = some (C, T, N) ∧ 4 < N ∧ Cond.fieldLink "KettleChoir$Planner" 21 (T 4).1 (T 4).2.1 (T 4).2.2.1 ∈ kt_T := ⟨RX5, TX5, 5, rfl, by decide, kw_171⟩
theorem fk_X5_18 : ∃ (C : String) (T : u_T) (N : Nat), vwCl[5]? = some (C, T, N) ∧ 2 < N ∧ Cond.fieldLink "KettleChoir$Planner" 18 (T 2).1 (T 2).2.1 (T 2).2.2.1 ∈ kt_T := ⟨RX5, TX5, 5, rfl, by decide, kw_170⟩
theorem fk_X5_38 : ∃ (C : String) (T : u_T) (N : Nat), vwCl[4]? = some (C, T, N) ∧ 10 < N ∧ Cond.fieldLink "KettleChoir$Planner" 38 (T 10).1 (T 10).2.1 (T 10).2.2.1 ∈ kt_T := ⟨RX4, TX4, 15, rfl, by decide, kw_180⟩
theorem fk_X5_43 : ∃ (C : String) (T : u_T) (N : Nat), vwCl[4]? = some (C, T, N) ∧ 11 < N ∧ Cond.fieldLink "KettleChoir$Planner" 43 (T 11).1 (T 11).2.1 (T 11).2.2.1 ∈ kt_T := ⟨RX4, TX4, 15, rfl, by decide, kw_181⟩
theorem fk_X5_15 : ∃ (C : String) (T : u_T) (N : Nat), vwCl[5]? = some (C, T, N) ∧ 1 < N ∧ Cond.fieldLink "KettleChoir$Planner" 15 (T 1).1 (T 1).2.1 (T 1).2.2.1 ∈ kt_T := ⟨RX5, TX5, 5, rfl, by decide, kw_169⟩
theorem fk_X5_9 : ∃ (C : String) (T : u_T) (N : Nat), vwCl[5]? = some (C, T, N) ∧ 0 < N ∧ Cond.fieldLink "KettleChoir$Planner" 9 (T 0).1 (T 0).2.1 (T 0).2.2.1 ∈ kt_T := ⟨RX5, TX5, 5, rfl, by decide, kw_168⟩
theorem fk_X5_68 : ∃ (C : String) (T : u_T) (N : Nat), vwCl[4]? = some (C, T, N) ∧ 6 < N ∧ Cond.fieldLink "KettleChoir$Planner" 68 (T 6).1 (T 6).2.1 (T 6).2.2.1 ∈ kt_T := ⟨RX4, TX4, 15, rfl, by decide, kw_196⟩
theorem fk_X6_26 : ∃ (C : String) (T : u_T) (N : Nat), vwCl[6]? = some (C, T, N) ∧ 2 < N ∧ Cond.fieldLink "KettleChoir$Reader" 26 (T 2).1 (T 2).2.1 (T 2).2.2.1 ∈ kt_T := ⟨RX6, TX6, 11, rfl, by decide, kw_212⟩
theorem fk_X6_9 : ∃ (C : String) (T : u_T) (N : Nat), vwCl[6]? = some (C, T, N) ∧ 0 < N ∧ Cond.fieldLink "KettleChoir$Reader" 9 (T 0).1 (T 0).2.1 (T 0).2.2.1 ∈ kt_T := ⟨RX6, TX6, 11, rfl, by decide, kw_205⟩
theorem fk_X6_18 : ∃ (C : String) (T : u_T) (N : Nat), vwCl[6]? = some (C, T, N) ∧ 1 < N ∧ Cond.fieldLink "KettleChoir$Reader" 18 (T 1).1 (T 1).2.1 (T 1).2.2.1 ∈ kt_T := ⟨RX6, TX6, 11, rfl, by decide, kw_208⟩
theorem fk_X6_41 : ∃ (C : String) (T : u_T) (N : Nat), vwCl[6]? = some (C, T, N) ∧ 10 < N ∧ Cond.fieldLink "KettleChoir$Reader" 41 (T 10).1 (T 10).2.1 (T 10).2.2.1 ∈ kt_T := ⟨RX6, TX6, 11, rfl, by decide, kw_217⟩
theorem fk_X6_54 : ∃ (C : String) (T : u_T) (N : Nat), vwCl[6]? = some (C, T, N) ∧ 6 < N ∧ Cond.fieldLink "KettleChoir$Reader" 54 (T 6).1 (T 6).2.1 (T 6).2.2.1 ∈ kt_T := ⟨RX6, TX6, 11, rfl, by decide, kw_225⟩
theorem fk_X6_94 : ∃ (C : String) (T : u_T) (N : Nat), vwCl[4]? = some (C, T, N) ∧ 10 < N ∧ Cond.fieldLink "KettleChoir$Reader" 94 (T 10).1 (T 10).2.1 (T 10).2.2.1 ∈ kt_T := ⟨RX4, TX4, 15, rfl, by decide, kw_255⟩
theorem fk_X6_97 : ∃ (C : String) (T : u_T) (N : Nat), vwCl[4]? = some (C, T, N) ∧ 0 < N ∧ Cond.fieldLink "KettleChoir$Reader" 97 (T 0).1 (T 0).2.1 (T 0).2.2.1 ∈ kt_T := ⟨RX4, TX4, 15, rfl, by decide, kw_256⟩
theorem fk_X6_101 : ∃ (C : String) (T : u_T) (N : Nat), vwCl[4]? = some (C, T, N) ∧ 1 < N ∧ Cond.fieldLink "KettleChoir$Reader" 101 (T 1).1 (T 1).2.1 (T 1).2.2.1 ∈ kt_T := ⟨RX4, TX4, 15, rfl, by decide, kw_257⟩
theorem fk_X6_107 : ∃ (C : String) (T : u_T) (N : Nat), vwCl[4]? = some (C, T, N) ∧ 2 < N ∧ Cond.fieldLink "KettleChoir$Reader" 107 (T 2).1 (T 2).2.1 (T 2).2.2.1 ∈ kt_T := ⟨RX4, TX4, 15, rfl, by decide, kw_261⟩
theorem fk_X6_110 : ∃ (C : String) (T : u_T) (N : Nat), vwCl[4]? = some (C, T, N) ∧ 3 < N ∧ Cond.fieldLink "KettleChoir$Reader" 110 (T 3).1 (T 3).2.1 (T 3).2.2.1 ∈ kt_T := ⟨RX4, TX4, 15, rfl, by decide, kw_262⟩
theorem fk_X6_113 : ∃ (C : String) (T : u_T) (N : Nat), vwCl[4]? = some (C, T, N) ∧ 4 < N ∧ Cond.fieldLink "KettleChoir$Reader" 113 (T 4).1 (T 4).2.1 (T 4).2.2.1 ∈ kt_T := ⟨RX4, TX4, 15, rfl, by decide, kw_263⟩
theorem fk_X6_116 : ∃ (C : String) (T : u_T) (N : Nat), vwCl[4]? = some (C, T, N) ∧ 11 < N ∧ Cond.fieldLink "KettleChoir$Reader" 116 (T 11).1 (T 11).2.1 (T 11).2.2.1 ∈ kt_T := ⟨RX4, TX4, 15, rfl, by decide, kw_265⟩
theorem fk_X6_119 : ∃ (C : String) (T : u_T) (N : Nat), vwCl[4]? = some (C, T, N) ∧ 5 < N ∧ Cond.fieldLink "KettleChoir$Reader" 119 (T 5).1 (T 5).2.1 (T 5).2.2.1 ∈ kt_T := ⟨RX4, TX4, 15, rfl, by decide, kw_266⟩
theorem fk_X6_122 : ∃ (C : String) (T : u_T) (N : Nat), vwCl[4]? = some (C, T, N) ∧ 12 < N ∧ Cond.fieldLink "KettleChoir$Reader" 122 (T 12).1 (T 12).2.1 (T 12).2.2.1 ∈ kt_T := ⟨RX4, TX4, 15, rfl, by decide, kw_268⟩
theorem fk_X6_125 : ∃ (C : String) (T : u_T) (N : Nat), vwCl[4]? = some (C, T, N) ∧ 6 < N ∧ Cond.fieldLink "KettleChoir$Reader" 125 (T 6).1 (T 6).2.1 (T 6).2.2.1 ∈ kt_T := ⟨RX4, TX4, 15, rfl, by decide, kw_269⟩
theorem fk_X6_139 : ∃ (C : String) (T : u_T) (N : Nat), vwCl[4]? = some (C, T, N) ∧ 7 < N ∧ Cond.fieldLink "KettleChoir$Reader" 139 (T 7).1 (T 7).2.1 (T 7).2.2.1 ∈ kt_T := ⟨RX4, TX4, 15, rfl, by decide, kw_280⟩
theorem fk_X6_141 : ∃ (C : String) (T : u_T) (N : Nat), vwCl[6]? = some (C, T, N) ∧ 8 < N ∧ Cond.fieldLink "KettleChoir$Reader" 141 (T 8).1 (T 8).2.1 (T 8).2.2.1 ∈ kt_T := ⟨RX6, TX6, 11, rfl, by decide, kw_281⟩
theorem fk_X6_44 : ∃ (C : String) (T : u_T) (N : Nat), vwCl[6]? = some (C, T, N) ∧ 9 < N ∧ Cond.fieldLink "KettleChoir$Reader" 44 (T 9).1 (T 9).2.1 (T 9).2.2.1 ∈ kt_T := ⟨RX6, TX6, 11, rfl, by decide, kw_218⟩
theorem fk_X6_156 : ∃ (C : String) (T : u_T) (N : Nat), vwCl[4]? = some (C, T, N) ∧ 8 < N ∧ Cond.fieldLink "KettleChoir$Reader" 156 (T 8).1 (T 8).2.1 (T 8).2.2.1 ∈ kt_T := ⟨RX4, TX4, 15, rfl, by decide, kw_294⟩
theorem fk_X6_38 : ∃ (C : String) (T : u_T) (N : Nat), vwCl[6]? = some (C, T, N) ∧ 5 < N ∧ Cond.fieldLink "KettleChoir$Reader" 38 (T 5).1 (T 5).2.1 (T 5).2.2.1 ∈ kt_T := ⟨RX6, TX6, 11, rfl, by decide, kw_216⟩
theorem fk_X6_206 : ∃ (C : String) (T : u_T) (N : Nat), vwCl[6]? = some (C, T, N) ∧ 7 < N ∧ Cond.fieldLink "KettleChoir$Reader" 206 (T 7).1 (T 7).2.1 (T 7).2.2.1 ∈ kt_T := ⟨RX6, TX6, 11, rfl, by decide, kw_322⟩
theorem fk_X6_35 : ∃ (C : String) (T : u_T) (N : Nat), vwCl[6]? = some (C, T, N) ∧ 4 < N ∧ Cond.fieldLink "KettleChoir$Reader" 35 (T 4).1 (T 4).2.1 (T 4).2.2.1 ∈ kt_T := ⟨RX6, TX6, 11, rfl, by decide, kw_215⟩
theorem fk_X7_18 : ∃ (C : String) (T : u_T) (N : Nat), vwCl[7]? = some (C, T, N) ∧ 2 < N ∧ Cond.fieldLink "KettleChoir$Rule" 18 (T 2).1 (T 2).2.1 (T 2).2.2.1 ∈ kt_T := ⟨RX7, TX7, 3, rfl, by decide, kw_340⟩
theorem fk_X7_11 : ∃ (C : String) (T : u_T) (N : Nat), vwCl[7]? = some (C, T, N) ∧ 0 < N ∧ Cond.fieldLink "KettleChoir$Rule" 11 (T 0).1 (T 0).2.1 (T 0).2.2.1 ∈ kt_T := ⟨RX7, TX7, 3, rfl, by decide, kw_336⟩
theorem fk_X7_15 : ∃ (C : String) (T : u_T) (N : Nat), vwCl[7]? = some (C, T, N) ∧ 1 < N ∧ Cond.fieldLink "KettleChoir$Rule" 15 (T 1).1 (T 1).2.1 (T 1).2.2.1 ∈ kt_T := ⟨RX7, TX7, 3, rfl, by decide, kw_337⟩
theorem fk_X8_22 : ∃ (C : String) (T : u_T) (N : Nat), vwCl[4]? = some (C, T, N) ∧ 2 < N ∧ Cond.fieldLink "KettleChoir$Tuner" 22 (T 2).1 (T 2).2.1 (T 2).2.2.1 ∈ kt_T := ⟨RX4, TX4, 15, rfl, by decide, kw_356⟩
theorem fk_X8_37 : ∃ (C : String) (T : u_T) (N : Nat), vwCl[4]? = some (C, T, N) ∧ 6 < N ∧ Cond.fieldLink "KettleChoir$Tuner" 37 (T 6).1 (T 6).2.1 (T 6).2.2.1 ∈ kt_T := ⟨RX4, TX4, 15, rfl, by decide, kw_362⟩
theorem fk_X8_11 : ∃ (C : String) (T : u_T) (N : Nat), vwCl[8]? = some (C, T, N) ∧ 0 < N ∧ Cond.fieldLink "KettleChoir$Tuner" 11 (T 0).1 (T 0).2.1 (T 0).2.2.1 ∈ kt_T := ⟨RX8, TX8, 3, rfl, by decide, kw_350⟩
theorem fk_X8_40 : ∃ (C : String) (T : u_T) (N : Nat), vwCl[4]? = some (C, T, N) ∧ 7 < N ∧ Cond.fieldLink "KettleChoir$Tuner" 40 (T 7).1 (T 7).2.1 (T 7).2.2.1 ∈ kt_T := ⟨RX4, TX4, 15, rfl, by decide, kw_363⟩
theorem fk_X8_18 : ∃ (C : String) (T : u_T) (N : Nat), vwCl[8]? = some (C, T, N) ∧ 2 < N ∧ Cond.fieldLink "KettleChoir$Tuner" 18 (T 2).1 (T 2).2.1 (T 2).2.2.1 ∈ kt_T := ⟨RX8, TX8, 3, rfl, by decide, kw_352⟩
theorem fk_X8_57 : ∃ (C : String) (T : u_T) (N : Nat), vwCl[4]? = some (C, T, N) ∧ 10 < N ∧ Cond.fieldLink "KettleChoir$Tuner" 57 (T 10).1 (T 10).2.1 (T 10).2.2.1 ∈ kt_T := ⟨RX4, TX4, 15, rfl, by decide, kw_370⟩
theorem fk_X8_15 : ∃ (C : String) (T : u_T) (N : Nat), vwCl[8]? = some (C, T, N) ∧ 1 < N ∧ Cond.fieldLink "KettleChoir$Tuner" 15 (T 1).1 (T 1).2.1 (T 1).2.2.1 ∈ kt_T := ⟨RX8, TX8, 3, rfl, by decide, kw_351⟩
theorem fk_X9_12 : ∃ (C : String) (T : u_T) (N : Nat), vwCl[9]? = some (C, T, N) ∧ 0 < N ∧ Cond.fieldLink "KettleChoir" 12 (T 0).1 (T 0).2.1 (T 0).2.2.1 ∈ kt_T := ⟨RX9, TX9, 12, rfl, by decide, kw_386⟩
theorem fk_X9_68 : ∃ (C : String) (T : u_T) (N : Nat), vwCl[6]? = some (C, T, N) ∧ 2 < N ∧ Cond.fieldLink "KettleChoir" 68 (T 2).1 (T 2).2.1 (T 2).2.2.1 ∈ kt_T := ⟨RX6, TX6, 11, rfl, by decide, kw_407⟩
theorem fk_X9_30 : ∃ (C : String) (T : u_T) (N : Nat), vwCl[9]? = some (C, T, N) ∧ 4 < N ∧ Cond.fieldLink "KettleChoir" 30 (T 4).1 (T 4).2.1 (T 4).2.2.1 ∈ kt_T := ⟨RX9, TX9, 12, rfl, by decide, kw_391⟩
theorem fk_X9_19 : ∃ (C : String) (T : u_T) (N : Nat), vwCl[9]? = some (C, T, N) ∧ 1 < N ∧ Cond.fieldLink "KettleChoir" 19 (T 1).1 (T 1).2.1 (T 1).2.2.1 ∈ kt_T := ⟨RX9, TX9, 12, rfl, by decide, kw_388⟩
theorem fk_X9_87 : ∃ (C : String) (T : u_T) (N : Nat), vwCl[6]? = some (C, T, N) ∧ 1 < N ∧ Cond.fieldLink "KettleChoir" 87 (T 1).1 (T 1).2.1 (T 1).2.2.1 ∈ kt_T := ⟨RX6, TX6, 11, rfl, by decide, kw_417⟩
theorem fk_X9_23 : ∃ (C : String) (T : u_T) (N : Nat), vwCl[9]? = some (C, T, N) ∧ 2 < N ∧ Cond.fieldLink "KettleChoir" 23 (T 2).1 (T 2).2.1 (T 2).2.2.1 ∈ kt_T := ⟨RX9, TX9, 12, rfl, by decide, kw_389⟩
theorem fk_X9_36 : ∃ (C : String) (T : u_T) (N : Nat), vwCl[9]? = some (C, T, N) ∧ 5 < N ∧ Cond.fieldLink "KettleChoir" 36 (T 5).1 (T 5).2.1 (T 5).2.2.1 ∈ kt_T := ⟨RX9, TX9, 12, rfl, by decide, kw_393⟩
theorem fk_X9_43 : ∃ (C : String) (T : u_T) (N : Nat), vwCl[9]? = some (C, T, N) ∧ 6 < N ∧ Cond.fieldLink "KettleChoir" 43 (T 6).1 (T 6).2.1 (T 6).2.2.1 ∈ kt_T := ⟨RX9, TX9, 12, rfl, by decide, kw_395⟩
theorem fk_X9_109 : ∃ (C : String) (T : u_T) (N : Nat), vwCl[6]? = some (C, T, N) ∧ 3 < N ∧ Cond.fieldLink "KettleChoir" 109 (T 3).1 (T 3).2.1 (T 3).2.2.1 ∈ kt_T := ⟨RX6, TX6, 11, rfl, by decide, kw_435⟩
theorem fk_X9_112 : ∃ (C : String) (T : u_T) (N : Nat), vwCl[4]? = some (C, T, N) ∧ 10 < N ∧ Cond.fieldLink "KettleChoir" 112 (T 10).1 (T 10).2.1 (T 10).2.2.1 ∈ kt_T := ⟨RX4, TX4, 15, rfl, by decide, kw_437⟩
theorem fk_X9_115 : ∃ (C : String) (T : u_T) (N : Nat), vwCl[4]? = some (C, T, N) ∧ 11 < N ∧ Cond.fieldLink "KettleChoir" 115 (T 11).1 (T 11).2.1 (T 11).2.2.1 ∈ kt_T := ⟨RX4, TX4, 15, rfl, by decide, kw_438⟩
theorem fk_X9_118 : ∃ (C : String) (T : u_T) (N : Nat), vwCl[4]? = some (C, T, N) ∧ 12 < N ∧ Cond.fieldLink "KettleChoir" 118 (T 12).1 (T 12).2.1 (T 12).2.2.1 ∈ kt_T := ⟨RX4, TX4, 15, rfl, by decide, kw_439⟩
theorem fk_X9_135 : ∃ (C : String) (T : u_T) (N : Nat), vwCl[0]? = some (C, T, N) ∧ 2 < N ∧ Cond.fieldLink "KettleChoir" 135 (T 2).1 (T 2).2.1 (T 2).2.2.1 ∈ kt_T := ⟨RX0, TX0, 3, rfl, by decide, kw_452⟩
theorem fk_X9_138 : ∃ (C : String) (T : u_T) (N : Nat), vwCl[2]? = some (C, T, N) ∧ 2 < N ∧ Cond.fieldLink "KettleChoir" 138 (T 2).1 (T 2).2.1 (T 2).2.2.1 ∈ kt_T := ⟨RX2, TX2, 3, rfl, by decide, kw_453⟩
theorem fk_X9_147 : ∃ (C : String) (T : u_T) (N : Nat), vwCl[4]? = some (C, T, N) ∧ 0 < N ∧ Cond.fieldLink "KettleChoir" 147 (T 0).1 (T 0).2.1 (T 0).2.2.1 ∈ kt_T := ⟨RX4, TX4, 15, rfl, by decide, kw_460⟩
theorem fk_X9_150 : ∃ (C : String) (T : u_T) (N : Nat), vwCl[4]? = some (C, T, N) ∧ 1 < N ∧ Cond.fieldLink "KettleChoir" 150 (T 1).1 (T 1).2.1 (T 1).2.2.1 ∈ kt_T := ⟨RX4, TX4, 15, rfl, by decide, kw_461⟩
theorem fk_X9_153 : ∃ (C : String) (T : u_T) (N : Nat), vwCl[4]? = some (C, T, N) ∧ 2 < N ∧ Cond.fieldLink "KettleChoir" 153 (T 2).1 (T 2).2.1 (T 2).2.2.1 ∈ kt_T := ⟨RX4, TX4, 15, rfl, by decide, kw_462⟩
theorem fk_X9_161 : ∃ (C : String) (T : u_T) (N : Nat), vwCl[4]? = some (C, T, N) ∧ 5 < N ∧ Cond.fieldLink "KettleChoir" 161 (T 5).1 (T 5).2.1 (T 5).2.2.1 ∈ kt_T := ⟨RX4, TX4, 15, rfl, by decide, kw_467⟩
theorem fk_X9_173 : ∃ (C : String) (T : u_T) (N : Nat), vwCl[4]? = some (C, T, N) ∧ 6 < N ∧ Cond.fieldLink "KettleChoir" 173 (T 6).1 (T 6).2.1 (T 6).2.2.1 ∈ kt_T := ⟨RX4, TX4, 15, rfl, by decide, kw_475⟩
theorem fk_X9_178 : ∃ (C : String) (T : u_T) (N : Nat), vwCl[4]? = some (C, T, N) ∧ 7 < N ∧ Cond.fieldLink "KettleChoir" 178 (T 7).1 (T 7).2.1 (T 7).2.2.1 ∈ kt_T := ⟨RX4, TX4, 15, rfl, by decide, kw_476⟩
theorem fk_X9_27 : ∃ (C : String) (T : u_T) (N : Nat), vwCl[9]? = some (C, T, N) ∧ 3 < N ∧ Cond.fieldLink "KettleChoir" 27 (T 3).1 (T 3).2.1 (T 3).2.2.1 ∈ kt_T := ⟨RX9, TX9, 12, rfl, by decide, kw_390⟩
theorem fk_X9_198 : ∃ (C : String) (T : u_T) (N : Nat), vwCl[4]? = some (C, T, N) ∧ 14 < N ∧ Cond.fieldLink "KettleChoir" 198 (T 14).1 (T 14).2.1 (T 14).2.2.1 ∈ kt_T := ⟨RX4, TX4, 15, rfl, by decide, kw_500⟩
theorem fk_X9_57 : ∃ (C : String) (T : u_T) (N : Nat), vwCl[9]? = some (C, T, N) ∧ 8 < N ∧ Cond.fieldLink "KettleChoir" 57 (T 8).1 (T 8).2.1 (T 8).2.2.1 ∈ kt_T := ⟨RX9, TX9, 12, rfl, by decide, kw_401⟩
theorem fk_X9_207 : ∃ (C : String) (T : u_T) (N : Nat), vwCl[5]? = some (C, T, N) ∧ 3 < N ∧ Cond.fieldLink "KettleChoir" 207 (T 3).1 (T 3).2.1 (T 3).2.2.1 ∈ kt_T := ⟨RX5, TX5, 5, rfl, by decide, kw_508⟩
theorem fk_X9_210 : ∃ (C : String) (T : u_T) (N : Nat), vwCl[5]? = some (C, T, N) ∧ 2 < N ∧ Cond.fieldLink "KettleChoir" 210 (T 2).1 (T 2).2.1 (T 2).2.2.1 ∈ kt_T := ⟨RX5, TX5, 5, rfl, by decide, kw_509⟩
theorem fk_X9_64 : ∃ (C : String) (T : u_T) (N : Nat), vwCl[9]? = some (C, T, N) ∧ 9 < N ∧ Cond.fieldLink "KettleChoir" 64 (T 9).1 (T 9).2.1 (T 9).2.2.1 ∈ kt_T := ⟨RX9, TX9, 12, rfl, by decide, kw_404⟩
theorem fk_X9_50 : ∃ (C : String) (T : u_T) (N : Nat), vwCl[9]? = some (C, T, N) ∧ 7 < N ∧ Cond.fieldLink "KettleChoir" 50 (T 7).1 (T 7).2.1 (T 7).2.2.1 ∈ kt_T := ⟨RX9, TX9, 12, rfl, by decide, kw_398⟩
theorem fk_X9_256 : ∃ (C : String) (T : u_T) (N : Nat), vwCl[1]? = some (C, T, N) ∧ 5 < N ∧ Cond.fieldLink "KettleChoir" 256 (T 5).1 (T 5).2.1 (T 5).2.2.1 ∈ kt_T := ⟨RX1, TX1, 9, rfl, by decide, kw_535⟩
theorem fk_X9_257 : ∃ (C : String) (T : u_T) (N : Nat), vwCl[1]? = some (C, T, N) ∧ 6 < N ∧ Cond.fieldLink "KettleChoir" 257 (T 6).1 (T 6).2.1 (T 6).2.2.1 ∈ kt_T := ⟨RX1, TX1, 9, rfl, by decide, kw_536⟩
theorem fk_X9_262 : ∃ (C : String) (T : u_T) (N : Nat), vwCl[1]? = some (C, T, N) ∧ 7 < N ∧ Cond.fieldLink "KettleChoir" 262 (T 7).1 (T 7).2.1 (T 7).2.2.1 ∈ kt_T := ⟨RX1, TX1, 9, rfl, by decide, kw_538⟩
theorem fk_X9_265 : ∃ (C : String) (T : u_T) (N : Nat), vwCl[1]? = some (C, T, N) ∧ 8 < N ∧ Cond.fieldLink "KettleChoir" 265 (T 8).1 (T 8).2.1 (T 8).2.2.1 ∈ kt_T := ⟨RX1, TX1, 9, rfl, by decide, kw_539⟩
theorem fk_X9_300 : ∃ (C : String) (T : u_T) (N : Nat), vwCl[9]? = some (C, T, N) ∧ 10 < N ∧ Cond.fieldLink "KettleChoir" 300 (T 10).1 (T 10).2.1 (T 10).2.2.1 ∈ kt_T := ⟨RX9, TX9, 12, rfl, by decide, kw_562⟩
theorem fk_X9_102 : ∃ (C : String) (T : u_T) (N : Nat), vwCl[9]? = some (C, T, N) ∧ 11 < N ∧ Cond.fieldLink "KettleChoir" 102 (T 11).1 (T 11).2.1 (T 11).2.2.1 ∈ kt_T := ⟨RX9, TX9, 12, rfl, by decide, kw_430⟩
theorem fk_X10_149 : ∃ (C : String) (T : u_T) (N : Nat), vwCl[10]? = some (C, T, N) ∧ 2 < N ∧ Cond.fieldLink "KettleChoirModel" 149 (T 2).1 (T 2).2.1 (T 2).2.2.1 ∈ kt_T := ⟨RX10, TX10, 58, rfl, by decide, kw_653⟩
theorem fk_X10_40 : ∃ (C : String) (T : u_T) (N : Nat), vwCl[10]? = some (C, T, N) ∧ 3 < N ∧ Cond.fieldLink "KettleChoirModel" 40 (T 3).1 (T 3).2.1 (T 3).2.2.1 ∈ kt_T := ⟨RX10, TX10, 58, rfl, by decide, kw_614⟩
theorem fk_X10_156 : ∃ (C : String) (T : u_T) (N : Nat), vwCl[10]? = some (C, T, N) ∧ 15 < N ∧ Cond.fieldLink "KettleChoirModel" 156 (T 15).1 (T 15).2.1 (T 15).2.2.1 ∈ kt_T := ⟨RX10, TX10, 58, rfl, by decide, kw_664⟩
theorem fk_X10_74 : ∃ (C : String) (T : u_T) (N : Nat), vwCl[10]? = some (C, T, N) ∧ 14 < N ∧ Cond.fieldLink "KettleChoirModel" 74 (T 14).1 (T 14).2.1 (T 14).2.2.1 ∈ kt_T := ⟨RX10, TX10, 58, rfl, by decide, kw_625⟩
theorem fk_X10_159 : ∃ (C : String) (T : u_T) (N : Nat), vwCl[10]? = some (C, T, N) ∧ 17 < N ∧ Cond.fieldLink "KettleChoirModel" 159 (T 17).1 (T 17).2.1 (T 17).2.2.1 ∈ kt_T := ⟨RX10, TX10, 58, rfl, by decide, kw_666⟩
theorem fk_X10_162 : ∃ (C : String) (T : u_T) (N : Nat), vwCl[10]? = some (C, T, N) ∧ 16 < N ∧ Cond.fieldLink "KettleChoirModel" 162 (T 16).1 (T 16).2.1 (T 16).2.2.1 ∈ kt_T := ⟨RX10, TX10, 58, rfl, by decide, kw_671⟩
theorem fk_X10_182 : ∃ (C : String) (T : u_T) (N : Nat), vwCl[10]? = some (C, T, N) ∧ 19 < N ∧ Cond.fieldLink "KettleChoirModel" 182 (T 19).1 (T 19).2.1 (T 19).2.2.1 ∈ kt_T := ⟨RX10, TX10, 58, rfl, by decide, kw_681⟩
theorem fk_X10_198 : ∃ (C : String) (T : u_T) (N : Nat), vwCl[10]? = some (C, T, N) ∧ 22 < N ∧ Cond.fieldLink "KettleChoirModel" 198 (T 22).1 (T 22).2.1 (T 22).2.2.1 ∈ kt_T := ⟨RX10, TX10, 58, rfl, by decide, kw_688⟩
theorem fk_X10_169 : ∃ (C : String) (T : u_T) (N : Nat), vwCl[10]? = some (C, T, N) ∧ 20 < N ∧ Cond.fieldLink "KettleChoirModel" 169 (T 20).1 (T 20).2.1 (T 20).2.2.1 ∈ kt_T := ⟨RX10, TX10, 58, rfl, by decide, kw_675⟩
theorem fk_X10_172 : ∃ (C : String) (T : u_T) (N : Nat), vwCl[10]? = some (C, T, N) ∧ 18 < N ∧ Cond.fieldLink "KettleChoirModel" 172 (T 18).1 (T 18).2.1 (T 18).2.2.1 ∈ kt_T := ⟨RX10, TX10, 58, rfl, by decide, kw_676⟩
theorem fk_X10_195 : ∃ (C : String) (T : u_T) (N : Nat), vwCl[10]? = some (C, T, N) ∧ 21 < N ∧ Cond.fieldLink "KettleChoirModel" 195 (T 21).1 (T 21).2.1 (T 21).2.2.1 ∈ kt_T := ⟨RX10, TX10, 58, rfl, by decide, kw_686⟩
theorem fk_X10_68 : ∃ (C : String) (T : u_T) (N : Nat), vwCl[10]? = some (C, T, N) ∧ 12 < N ∧ Cond.fieldLink "KettleChoirModel" 68 (T 12).1 (T 12).2.1 (T 12).2.2.1 ∈ kt_T := ⟨RX10, TX10, 58, rfl, by decide, kw_623⟩
theorem fk_X10_37 : ∃ (C : String) (T : u_T) (N : Nat), vwCl[10]? = some (C, T, N) ∧ 1 < N ∧ Cond.fieldLink "KettleChoirModel" 37 (T 1).1 (T 1).2.1 (T 1).2.2.1 ∈ kt_T := ⟨RX10, TX10, 58, rfl, by decide, kw_613⟩
theorem fk_X10_44 : ∃ (C : String) (T : u_T) (N : Nat), vwCl[10]? = some (C, T, N) ∧ 4 < N ∧ Cond.fieldLink "KettleChoirModel" 44 (T 4).1 (T 4).2.1 (T 4).2.2.1 ∈ kt_T := ⟨RX10, TX10, 58, rfl, by decide, kw_615⟩
theorem fk_X10_47 : ∃ (C : String) (T : u_T) (N : Nat), vwCl[10]? = some (C, T, N) ∧ 5 < N ∧ Cond.fieldLink "KettleChoirModel" 47 (T 5).1 (T 5).2.1 (T 5).2.2.1 ∈ kt_T := ⟨RX10, TX10, 58, rfl, by decide, kw_616⟩
theorem fk_X10_50 : ∃ (C : String) (T : u_T) (N : Nat), vwCl[10]? = some (C, T, N) ∧ 6 < N ∧ Cond.fieldLink "KettleChoirModel" 50 (T 6).1 (T 6).2.1 (T 6).2.2.1 ∈ kt_T := ⟨RX10, TX10, 58, rfl, by decide, kw_617⟩
theorem fk_X10_53 : ∃ (C : String) (T : u_T) (N : Nat), vwCl[10]? = some (C, T, N) ∧ 7 < N ∧ Cond.fieldLink "KettleChoirModel" 53 (T 7).1 (T 7).2.1 (T 7).2.2.1 ∈ kt_T := ⟨RX10, TX10, 58, rfl, by decide, kw_618⟩
theorem fk_X10_56 : ∃ (C : String) (T : u_T) (N : Nat), vwCl[10]? = some (C, T, N) ∧ 8 < N ∧ Cond.fieldLink "KettleChoirModel" 56 (T 8).1 (T 8).2.1 (T 8).2.2.1 ∈ kt_T := ⟨RX10, TX10, 58, rfl, by decide, kw_619⟩
theorem fk_X10_59 : ∃ (C : String) (T : u_T) (N : Nat), vwCl[10]? = some (C, T, N) ∧ 9 < N ∧ Cond.fieldLink "KettleChoirModel" 59 (T 9).1 (T 9).2.1 (T 9).2.2.1 ∈ kt_T := ⟨RX10, TX10, 58, rfl, by decide, kw_620⟩
theorem fk_X10_62 : ∃ (C : String) (T : u_T) (N : Nat), vwCl[10]? = some (C, T, N) ∧ 10 < N ∧ Cond.fieldLink "KettleChoirModel" 62 (T 10).1 (T 10).2.1 (T 10).2.2.1 ∈ kt_T := ⟨RX10, TX10, 58, rfl, by decide, kw_621⟩
theorem fk_X10_65 : ∃ (C : String) (T : u_T) (N : Nat), vwCl[10]? = some (C, T, N) ∧ 11 < N ∧ Cond.fieldLink "KettleChoirModel" 65 (T 11).1 (T 11).2.1 (T 11).2.2.1 ∈ kt_T := ⟨RX10, TX10, 58, rfl, by decide, kw_622⟩
theorem fk_X10_19 : ∃ (C : String) (T : u_T) (N : Nat), vwCl[10]? = some (C, T, N) ∧ 0 < N ∧ Cond.fieldLink "KettleChoirModel" 19 (T 0).1 (T 0).2.1 (T 0).2.2.1 ∈ kt_T := ⟨RX10, TX10, 58, rfl, by decide, kw_612⟩
theorem fk_X10_201 : ∃ (C : String) (T : u_T) (N : Nat), vwCl[10]? = some (C, T, N) ∧ 23 < N ∧ Cond.fieldLink "KettleChoirModel" 201 (T 23).1 (T 23).2.1 (T 23).2.2.1 ∈ kt_T := ⟨RX10, TX10, 58, rfl, by decide, kw_689⟩
theorem fk_X10_71 : ∃ (C : String) (T : u_T) (N : Nat), vwCl[10]? = some (C, T, N) ∧ 13 < N ∧ Cond.fieldLink "KettleChoirModel" 71 (T 13).1 (T 13).2.1 (T 13).2.2.1 ∈ kt_T := ⟨RX10, TX10, 58, rfl, by decide, kw_624⟩
theorem fk_X10_81 : ∃ (C : String) (T : u_T) (N : Nat), vwCl[10]? = some (C, T, N) ∧ 25 < N ∧ Cond.fieldLink "KettleChoirModel" 81 (T 25).1 (T 25).2.1 (T 25).2.2.1 ∈ kt_T := ⟨RX10, TX10, 58, rfl, by decide, kw_627⟩
theorem fk_X10_84 : ∃ (C : String) (T : u_T) (N : Nat), vwCl[10]? = some (C, T, N) ∧ 26 < N ∧ Cond.fieldLink "KettleChoirModel" 84 (T 26).1 (T 26).2.1 (T 26).2.2.1 ∈ kt_T := ⟨RX10, TX10, 58, rfl, by decide, kw_628⟩
theorem fk_X10_86 : ∃ (C : String) (T : u_T) (N : Nat), vwCl[10]? = some (C, T, N) ∧ 27 < N ∧ Cond.fieldLink "KettleChoirModel" 86 (T 27).1 (T 27).2.1 (T 27).2.2.1 ∈ kt_T := ⟨RX10, TX10, 58, rfl, by decide, kw_629⟩
theorem fk_X10_88 : ∃ (C : String) (T : u_T) (N : Nat), vwCl[10]? = some (C, T, N) ∧ 28 < N ∧ Cond.fieldLink "KettleChoirModel" 88 (T 28).1 (T 28).2.1 (T 28).2.2.1 ∈ kt_T := ⟨RX10, TX10, 58, rfl, by decide, kw_630⟩
theorem fk_X10_90 : ∃ (C : String) (T : u_T) (N : Nat), vwCl[10]? = some (C, T, N) ∧ 29 < N ∧ Cond.fieldLink "KettleChoirModel" 90 (T 29).1 (T 29).2.1 (T 29).2.2.1 ∈ kt_T := ⟨RX10, TX10, 58, rfl, by decide, kw_631⟩
theorem fk_X10_92 : ∃ (C : String) (T : u_T) (N : Nat), vwCl[10]? = some (C, T, N) ∧ 30 < N ∧ Cond.fieldLink "KettleChoirModel" 92 (T 30).1 (T 30).2.1 (T 30).2.2.1 ∈ kt_T := ⟨RX10, TX10, 58, rfl, by decide, kw_632⟩
theorem fk_X10_94 : ∃ (C : String) (T : u_T) (N : Nat), vwCl[10]? = some (C, T, N) ∧ 31 < N ∧ Cond.fieldLink "KettleChoirModel" 94 (T 31).1 (T 31).2.1 (T 31).2.2.1 ∈ kt_T := ⟨RX10, TX10, 58, rfl, by decide, kw_633⟩
theorem fk_X10_77 : ∃ (C : String) (T : u_T) (N : Nat), vwCl[10]? = some (C, T, N) ∧ 24 < N ∧ Cond.fieldLink "KettleChoirModel" 77 (T 24).1 (T 24).2.1 (T 24).2.2.1 ∈ kt_T := ⟨RX10, TX10, 58, rfl, by decide, kw_626⟩
theorem fk_X10_298 : ∃ (C : String) (T : u_T) (N : Nat), vwCl[10]? = some (C, T, N) ∧ 33 < N ∧ Cond.fieldLink "KettleChoirModel" 298 (T 33).1 (T 33).2.1 (T 33).2.2.1 ∈ kt_T := ⟨RX10, TX10, 58, rfl, by decide, kw_781⟩
theorem fk_X10_103 : ∃ (C : String) (T : u_T) (N : Nat), vwCl[10]? = some (C, T, N) ∧ 37 < N ∧ Cond.fieldLink "KettleChoirModel" 103 (T 37).1 (T 37).2.1 (T 37).2.2.1 ∈ kt_T := ⟨RX10, TX10, 58, rfl, by decide, kw_636⟩
theorem fk_X10_100 : ∃ (C : String) (T : u_T) (N : Nat), vwCl[10]? = some (C, T, N) ∧ 36 < N ∧ Cond.fieldLink "KettleChoirModel" 100 (T 36).1 (T 36).2.1 (T 36).2.2.1 ∈ kt_T := ⟨RX10, TX10, 58, rfl, by decide, kw_635⟩
theorem fk_X10_301 : ∃ (C : String) (T : u_T) (N : Nat), vwCl[10]? = some (C, T, N) ∧ 34 < N ∧ Cond.fieldLink "KettleChoirModel" 301 (T 34).1 (T 34).2.1 (T 34).2.2.1 ∈ kt_T := ⟨RX10, TX10, 58, rfl, by decide, kw_782⟩
theorem fk_X10_304 : ∃ (C : String) (T : u_T) (N : Nat), vwCl[10]? = some (C, T, N) ∧ 35 < N ∧ Cond.fieldLink "KettleChoirModel" 304 (T 35).1 (T 35).2.1 (T 35).2.2.1 ∈ kt_T := ⟨RX10, TX10, 58, rfl, by decide, kw_783⟩
theorem fk_X10_97 : ∃ (C : String) (T : u_T) (N : Nat), vwCl[10]? = some (C, T, N) ∧ 32 < N ∧ Cond.fieldLink "KettleChoirModel" 97 (T 32).1 (T 32).2.1 (T 32).2.2.1 ∈ kt_T := ⟨RX10, TX10, 58, rfl, by decide, kw_634⟩
theorem fk_X10_106 : ∃ (C : String) (T : u_T) (N : Nat), vwCl[10]? = some (C, T, N) ∧ 38 < N ∧ Cond.fieldLink "KettleChoirModel" 106 (T 38).1 (T 38).2.1 (T 38).2.2.1 ∈ kt_T := ⟨RX10, TX10, 58, rfl, by decide, kw_637⟩
theorem fk_X10_115 : ∃ (C : String) (T : u_T) (N : Nat), vwCl[10]? = some (C, T, N) ∧ 41 < N ∧ Cond.fieldLink "KettleChoirModel" 115 (T 41).1 (T 41).2.1 (T 41).2.2.1 ∈ kt_T := ⟨RX10, TX10, 58, rfl, by decide, kw_640⟩
theorem fk_X10_109 : ∃ (C : String) (T : u_T) (N : Nat), vwCl[10]? = some (C, T, N) ∧ 39 < N ∧ Cond.fieldLink "KettleChoirModel" 109 (T 39).1 (T 39).2.1 (T 39).2.2.1 ∈ kt_T := ⟨RX10, TX10, 58, rfl, by decide, kw_638⟩
theorem fk_X10_408 : ∃ (C : String) (T : u_T) (N : Nat), vwCl[10]? = some (C, T, N) ∧ 42 < N ∧ Cond.fieldLink "KettleChoirModel" 408 (T 42).1 (T 42).2.1 (T 42).2.2.1 ∈ kt_T := ⟨RX10, TX10, 58, rfl, by decide, kw_913⟩
theorem fk_X10_112 : ∃ (C : String) (T : u_T) (N : Nat), vwCl[10]? = some (C, T, N) ∧ 40 < N ∧ Cond.fieldLink "KettleChoirModel" 112 (T 40).1 (T 40).2.1 (T 40).2.2.1 ∈ kt_T := ⟨RX10, TX10, 58, rfl, by decide, kw_639⟩
theorem fk_X10_118 : ∃ (C : String) (T : u_T) (N : Nat), vwCl[10]? = some (C, T, N) ∧ 43 < N ∧ Cond.fieldLink "KettleChoirModel" 118 (T 43).1 (T 43).2.1 (T 43).2.2.1 ∈ kt_T := ⟨RX10, TX10, 58, rfl, by decide, kw_641⟩
theorem fk_X10_121 : ∃ (C : String) (T : u_T) (N : Nat), vwCl[10]? = some (C, T, N) ∧ 44 < N ∧ Cond.fieldLink "KettleChoirModel" 121 (T 44).1 (T 44).2.1 (T 44).2.2.1 ∈ kt_T := ⟨RX10, TX10, 58, rfl, by decide, kw_642⟩
theorem fk_X10_124 : ∃ (C : String) (T : u_T) (N : Nat), vwCl[10]? = some (C, T, N) ∧ 45 < N ∧ Cond.fieldLink "KettleChoirModel" 124 (T 45).1 (T 45).2.1 (T 45).2.2.1 ∈ kt_T := ⟨RX10, TX10, 58, rfl, by decide, kw_643⟩
theorem fk_X10_127 : ∃ (C : String) (T : u_T) (N : Nat), vwCl[10]? = some (C, T, N) ∧ 46 < N ∧ Cond.fieldLink "KettleChoirModel" 127 (T 46).1 (T 46).2.1 (T 46).2.2.1 ∈ kt_T := ⟨RX10, TX10, 58, rfl, by decide, kw_644⟩
theorem fk_X10_436 : ∃ (C : String) (T : u_T) (N : Nat), vwCl[10]? = some (C, T, N) ∧ 47 < N ∧ Cond.fieldLink "KettleChoirModel" 436 (T 47).1 (T 47).2.1 (T 47).2.2.1 ∈ kt_T := ⟨RX10, TX10, 58, rfl, by decide, kw_940⟩
theorem fk_X10_130 : ∃ (C : String) (T : u_T) (N : Nat), vwCl[10]? = some (C, T, N) ∧ 48 < N ∧ Cond.fieldLink "KettleChoirModel" 130 (T 48).1 (T 48).2.1 (T 48).2.2.1 ∈ kt_T := ⟨RX10, TX10, 58, rfl, by decide, kw_645⟩
theorem fk_X10_461 : ∃ (C : String) (T : u_T) (N : Nat), vwCl[10]? = some (C, T, N) ∧ 49 < N ∧ Cond.fieldLink "KettleChoirModel" 461 (T 49).1 (T 49).2.1 (T 49).2.2.1 ∈ kt_T := ⟨RX10, TX10, 58, rfl, by decide, kw_969⟩
theorem fk_X10_134 : ∃ (C : String) (T : u_T) (N : Nat), vwCl[10]? = some (C, T, N) ∧ 53 < N ∧ Cond.fieldLink "KettleChoirModel" 134 (T 53).1 (T 53).2.1 (T 53).2.2.1 ∈ kt_T := ⟨RX10, TX10, 58, rfl, by decide, kw_646⟩
theorem fk_X10_137 : ∃ (C : String) (T : u_T) (N : Nat), vwCl[10]? = some (C, T, N) ∧ 54 < N ∧ Cond.fieldLink "KettleChoirModel" 137 (T 54).1 (T 54).2.1 (T 54).2.2.1 ∈ kt_T := ⟨RX10, TX10, 58, rfl, by decide, kw_647⟩
theorem fk_X10_140 : ∃ (C : String) (T : u_T) (N : Nat), vwCl[10]? = some (C, T, N) ∧ 55 < N ∧ Cond.fieldLink "KettleChoirModel" 140 (T 55).1 (T 55).2.1 (T 55).2.2.1 ∈ kt_T := ⟨RX10, TX10, 58, rfl, by decide, kw_648⟩
theorem fk_X10_143 : ∃ (C : String) (T : u_T) (N : Nat), vwCl[10]? = some (C, T, N) ∧ 56 < N ∧ Cond.fieldLink "KettleChoirModel" 143 (T 56).1 (T 56).2.1 (T 56).2.2.1 ∈ kt_T := ⟨RX10, TX10, 58, rfl, by decide, kw_649⟩
theorem fk_X10_146 : ∃ (C : String) (T : u_T) (N : Nat), vwCl[10]? = some (C, T, N) ∧ 57 < N ∧ Cond.fieldLink "KettleChoirModel" 146 (T 57).1 (T 57).2.1 (T 57).2.2.1 ∈ kt_T := ⟨RX10, TX10, 58, rfl, by decide, kw_650⟩
theorem fk_X10_307 : ∃ (C : String) (T : u_T) (N : Nat), vwCl[10]? = some (C, T, N) ∧ 50 < N ∧ Cond.fieldLink "KettleChoirModel" 307 (T 50).1 (T 50).2.1 (T 50).2.2.1 ∈ kt_T := ⟨RX10, TX10, 58, rfl, by decide, kw_784⟩
theorem fk_X10_473 : ∃ (C : String) (T : u_T) (N : Nat), vwCl[10]? = some (C, T, N) ∧ 51 < N ∧ Cond.fieldLink "KettleChoirModel" 473 (T 51).1 (T 51).2.1 (T 51).2.2.1 ∈ kt_T := ⟨RX10, TX10, 58, rfl, by decide, kw_982⟩
theorem fk_X10_476 : ∃ (C : String) (T : u_T) (N : Nat), vwCl[10]? = some (C, T, N) ∧ 52 < N ∧ Cond.fieldLink "KettleChoirModel" 476 (T 52).1 (T 52).2.1 (T 52).2.2.1 ∈ kt_T := ⟨RX10, TX10, 58, rfl, by decide, kw_983⟩
theorem pk_X0_9_X0_init : ∃ (C : String) (T : u_T) (N : Nat), vwCl[0]? = some (C, T, N) ∧ 0 < N ∧ Cond.fieldLink "KettleChoir$Acts" 9 (T 0).1 (T 0).2.1 (T 0).2.2.1 ∈ kt_T ∧ ((T 0).2.2.2 = false ∨ ((T 0).2.2.2 = true ∧ (T 0).1 = "KettleChoir$Acts" ∧ decide (yX0_init.name = "<init>") = true)) := ⟨RX0, TX0, 3, rfl, by decide, kw_4, Or.inr ⟨rfl, rfl, by decide⟩⟩
theorem pk_X0_15 {e : Bool} : ∃ (C : String) (T : u_T) (N : Nat), vwCl[0]? = some (C, T, N) ∧ 1 < N ∧ Cond.fieldLink "KettleChoir$Acts" 15 (T 1).1 (T 1).2.1 (T 1).2.2.1 ∈ kt_T ∧ ((T 1).2.2.2 = false ∨ ((T 1).2.2.2 = true ∧ (T 1).1 = "KettleChoir$Acts" ∧ e = true)) := ⟨RX0, TX0, 3, rfl, by decide, kw_7, Or.inl rfl⟩
theorem pk_X0_19 {e : Bool} : ∃ (C : String) (T : u_T) (N : Nat), vwCl[0]? = some (C, T, N) ∧ 2 < N ∧ Cond.fieldLink "KettleChoir$Acts" 19 (T 2).1 (T 2).2.1 (T 2).2.2.1 ∈ kt_T ∧ ((T 2).2.2.2 = false ∨ ((T 2).2.2.2 = true ∧ (T 2).1 = "KettleChoir$Acts" ∧ e = true)) := ⟨RX0, TX0, 3, rfl, by decide, kw_8, Or.inl rfl⟩
theorem pk_X1_9_X1_init : ∃ (C : String) (T : u_T) (N : Nat), vwCl[1]? = some (C, T, N) ∧ 0 < N ∧ Cond.fieldLink "KettleChoir$Ear" 9 (T 0).1 (T 0).2.1 (T 0).2.2.1 ∈ kt_T ∧ ((T 0).2.2.2 = false ∨ ((T 0).2.2.2 = true ∧ (T 0).1 = "KettleChoir$Ear" ∧ decide (yX1_init.name = "<init>") = true)) := ⟨RX1, TX1, 9, rfl, by decide, kw_18, Or.inr ⟨rfl, rfl, by decide⟩⟩
theorem pk_X1_15_X1_init : ∃ (C : String) (T : u_T) (N : Nat), vwCl[1]? = some (C, T, N) ∧ 1 < N ∧ Cond.fieldLink "KettleChoir$Ear" 15 (T 1).1 (T 1).2.1 (T 1).2.2.1 ∈ kt_T ∧ ((T 1).2.2.2 = false ∨ ((T 1).2.2.2 = true ∧ (T 1).1 = "KettleChoir$Ear" ∧ decide (yX1_init.name = "<init>") = true)) := ⟨RX1, TX1, 9, rfl, by decide, kw_20, Or.inr ⟨rfl, rfl, by decide⟩⟩
theorem pk_X1_19_X1_init : ∃ (C : String) (T : u_T) (N : Nat), vwCl[1]? = some (C, T, N) ∧ 2 < N ∧ Cond.fieldLink "KettleChoir$Ear" 19 (T 2).1 (T 2).2.1 (T 2).2.2.1 ∈ kt_T ∧ ((T 2).2.2.2 = false ∨ ((T 2).2.2.2 = true ∧ (T 2).1 = "KettleChoir$Ear" ∧ decide (yX1_init.name = "<init>") = true)) := ⟨RX1, TX1, 9, rfl, by decide, kw_21, Or.inr ⟨rfl, rfl, by decide⟩⟩
theorem pk_X1_32 {e : Bool} : ∃ (C : String) (T : u_T) (N : Nat), vwCl[1]? = some (C, T, N) ∧ 4 < N ∧ Cond.fieldLink "KettleChoir$Ear" 32 (T 4).1 (T 4).2.1 (T 4).2.2.1 ∈ kt_T ∧ ((T 4).2.2.2 = false ∨ ((T 4).2.2.2 = true ∧ (T 4).1 = "KettleChoir$Ear" ∧ e = true)) := ⟨RX1, TX1, 9, rfl, by decide, kw_29, Or.inl rfl⟩
theorem pk_X1_36 {e : Bool} : ∃ (C : String) (T : u_T) (N : Nat), vwCl[1]? = some (C, T, N) ∧ 5 < N ∧ Cond.fieldLink "KettleChoir$Ear" 36 (T 5).1 (T 5).2.1 (T 5).2.2.1 ∈ kt_T ∧ ((T 5).2.2.2 = false ∨ ((T 5).2.2.2 = true ∧ (T 5).1 = "KettleChoir$Ear" ∧ e = true)) := ⟨RX1, TX1, 9, rfl, by decide, kw_30, Or.inl rfl⟩
theorem pk_X1_40 {e : Bool} : ∃ (C : String) (T : u_T) (N : Nat), vwCl[1]? = some (C, T, N) ∧ 6 < N ∧ Cond.fieldLink "KettleChoir$Ear" 40 (T 6).1 (T 6).2.1 (T 6).2.2.1 ∈ kt_T ∧ ((T 6).2.2.2 = false ∨ ((T 6).2.2.2 = true ∧ (T 6).1 = "KettleChoir$Ear" ∧ e = true)) := ⟨RX1, TX1, 9, rfl, by decide, kw_31, Or.inl rfl⟩
theorem pk_X1_77 {e : Bool} : ∃ (C : String) (T : u_T) (N : Nat), vwCl[1]? = some (C, T, N) ∧ 3 < N ∧ Cond.fieldLink "KettleChoir$Ear" 77 (T 3).1 (T 3).2.1 (T 3).2.2.1 ∈ kt_T ∧ ((T 3).2.2.2 = false ∨ ((T 3).2.2.2 = true ∧ (T 3).1 = "KettleChoir$Ear" ∧ e = true)) := ⟨RX1, TX1, 9, rfl, by decide, kw_50, Or.inl rfl⟩
theorem pk_X1_80 {e : Bool} : ∃ (C : String) (T : u_T) (N : Nat), vwCl[1]? = some (C, T, N) ∧ 7 < N ∧ Cond.fieldLink "KettleChoir$Ear" 80 (T 7).1 (T 7).2.1 (T 7).2.2.1 ∈ kt_T ∧ ((T 7).2.2.2 = false ∨ ((T 7).2.2.2 = true ∧ (T 7).1 = "KettleChoir$Ear" ∧ e = true)) := ⟨RX1, TX1, 9, rfl, by decide, kw_52, Or.inl rfl⟩
theorem pk_X1_82 {e : Bool} : ∃ (C : String) (T : u_T) (N : Nat), vwCl[1]? = some (C, T, N) ∧ 8 < N ∧ Cond.fieldLink "KettleChoir$Ear" 82 (T 8).1 (T 8).2.1 (T 8).2.2.1 ∈ kt_T ∧ ((T 8).2.2.2 = false ∨ ((T 8).2.2.2 = true ∧ (T 8).1 = "KettleChoir$Ear" ∧ e = true)) := ⟨RX1, TX1, 9, rfl, by decide, kw_53, Or.inl rfl⟩
theorem pk_X2_9_X2_init : ∃ (C : String) (T : u_T) (N : Nat), vwCl[2]? = some (C, T, N) ∧ 0 < N ∧ Cond.fieldLink "KettleChoir$Heard" 9 (T 0).1 (T 0).2.1 (T 0).2.2.1 ∈ kt_T ∧ ((T 0).2.2.2 = false ∨ ((T 0).2.2.2 = true ∧ (T 0).1 = "KettleChoir$Heard" ∧ decide (yX2_init.name = "<init>") = true)) := ⟨RX2, TX2, 3, rfl, by decide, kw_56, Or.inr ⟨rfl, rfl, by decide⟩⟩
theorem pk_X2_15_X2_init : ∃ (C : String) (T : u_T) (N : Nat), vwCl[2]? = some (C, T, N) ∧ 1 < N ∧ Cond.fieldLink "KettleChoir$Heard" 15 (T 1).1 (T 1).2.1 (T 1).2.2.1 ∈ kt_T ∧ ((T 1).2.2.2 = false ∨ ((T 1).2.2.2 = true ∧ (T 1).1 = "KettleChoir$Heard" ∧ decide (yX2_init.name = "<init>") = true)) := ⟨RX2, TX2, 3, rfl, by decide, kw_57, Or.inr ⟨rfl, rfl, by decide⟩⟩
theorem pk_X2_18 {e : Bool} : ∃ (C : String) (T : u_T) (N : Nat), vwCl[2]? = some (C, T, N) ∧ 2 < N ∧ Cond.fieldLink "KettleChoir$Heard" 18 (T 2).1 (T 2).2.1 (T 2).2.2.1 ∈ kt_T ∧ ((T 2).2.2.2 = false ∨ ((T 2).2.2.2 = true ∧ (T 2).1 = "KettleChoir$Heard" ∧ e = true)) := ⟨RX2, TX2, 3, rfl, by decide, kw_60, Or.inl rfl⟩
theorem pk_X3_9_X3_init : ∃ (C : String) (T : u_T) (N : Nat), vwCl[3]? = some (C, T, N) ∧ 0 < N ∧ Cond.fieldLink "KettleChoir$Image" 9 (T 0).1 (T 0).2.1 (T 0).2.2.1 ∈ kt_T ∧ ((T 0).2.2.2 = false ∨ ((T 0).2.2.2 = true ∧ (T 0).1 = "KettleChoir$Image" ∧ decide (yX3_init.name = "<init>") = true)) := ⟨RX3, TX3, 4, rfl, by decide, kw_66, Or.inr ⟨rfl, rfl, by decide⟩⟩
theorem pk_X3_18_X3_init : ∃ (C : String) (T : u_T) (N : Nat), vwCl[3]? = some (C, T, N) ∧ 1 < N ∧ Cond.fieldLink "KettleChoir$Image" 18 (T 1).1 (T 1).2.1 (T 1).2.2.1 ∈ kt_T ∧ ((T 1).2.2.2 = false ∨ ((T 1).2.2.2 = true ∧ (T 1).1 = "KettleChoir$Image" ∧ decide (yX3_init.name = "<init>") = true)) := ⟨RX3, TX3, 4, rfl, by decide, kw_69, Or.inr ⟨rfl, rfl, by decide⟩⟩
theorem pk_X3_25_X3_init : ∃ (C : String) (T : u_T) (N : Nat), vwCl[3]? = some (C, T, N) ∧ 2 < N ∧ Cond.fieldLink "KettleChoir$Image" 25 (T 2).1 (T 2).2.1 (T 2).2.2.1 ∈ kt_T ∧ ((T 2).2.2.2 = false ∨ ((T 2).2.2.2 = true ∧ (T 2).1 = "KettleChoir$Image" ∧ decide (yX3_init.name = "<init>") = true)) := ⟨RX3, TX3, 4, rfl, by decide, kw_72, Or.inr ⟨rfl, rfl, by decide⟩⟩
theorem pk_X3_29_X3_init : ∃ (C : String) (T : u_T) (N : Nat), vwCl[3]? = some (C, T, N) ∧ 3 < N ∧ Cond.fieldLink "KettleChoir$Image" 29 (T 3).1 (T 3).2.1 (T 3).2.2.1 ∈ kt_T ∧ ((T 3).2.2.2 = false ∨ ((T 3).2.2.2 = true ∧ (T 3).1 = "KettleChoir$Image" ∧ decide (yX3_init.name = "<init>") = true)) := ⟨RX3, TX3, 4, rfl, by decide, kw_73, Or.inr ⟨rfl, rfl, by decide⟩⟩
theorem pk_X4_9_X4_init : ∃ (C : String) (T : u_T) (N : Nat), vwCl[4]? = some (C, T, N) ∧ 0 < N ∧ Cond.fieldLink "KettleChoir$Kitchen" 9 (T 0).1 (T 0).2.1 (T 0).2.2.1 ∈ kt_T ∧ ((T 0).2.2.2 = false ∨ ((T 0).2.2.2 = true ∧ (T 0).1 = "KettleChoir$Kitchen" ∧ decide (yX4_init.name = "<init>") = true)) := ⟨RX4, TX4, 15, rfl, by decide, kw_86, Or.inr ⟨rfl, rfl, by decide⟩⟩
theorem pk_X4_15_X4_init : ∃ (C : String) (T : u_T) (N : Nat), vwCl[4]? = some (C, T, N) ∧ 1 < N ∧ Cond.fieldLink "KettleChoir$Kitchen" 15 (T 1).1 (T 1).2.1 (T 1).2.2.1 ∈ kt_T ∧ ((T 1).2.2.2 = false ∨ ((T 1).2.2.2 = true ∧ (T 1).1 = "KettleChoir$Kitchen" ∧ decide (yX4_init.name = "<init>") = true)) := ⟨RX4, TX4, 15, rfl, by decide, kw_87, Or.inr ⟨rfl, rfl, by decide⟩⟩
theorem pk_X4_18_X4_init : ∃ (C : String) (T : u_T) (N : Nat), vwCl[4]? = some (C, T, N) ∧ 2 < N ∧ Cond.fieldLink "KettleChoir$Kitchen" 18 (T 2).1 (T 2).2.1 (T 2).2.2.1 ∈ kt_T ∧ ((T 2).2.2.2 = false ∨ ((T 2).2.2.2 = true ∧ (T 2).1 = "KettleChoir$Kitchen" ∧ decide (yX4_init.name = "<init>") = true)) := ⟨RX4, TX4, 15, rfl, by decide, kw_88, Or.inr ⟨rfl, rfl, by decide⟩⟩
theorem pk_X4_21_X4_init : ∃ (C : String) (T : u_T) (N : Nat), vwCl[4]? = some (C, T, N) ∧ 3 < N ∧ Cond.fieldLink "KettleChoir$Kitchen" 21 (T 3).1 (T 3).2.1 (T 3).2.2.1 ∈ kt_T ∧ ((T 3).2.2.2 = false ∨ ((T 3).2.2.2 = true ∧ (T 3).1 = "KettleChoir$Kitchen" ∧ decide (yX4_init.name = "<init>") = true)) := ⟨RX4, TX4, 15, rfl, by decide, kw_89, Or.inr ⟨rfl, rfl, by decide⟩⟩
theorem pk_X4_24_X4_init : ∃ (C : String) (T : u_T) (N : Nat), vwCl[4]? = some (C, T, N) ∧ 4 < N ∧ Cond.fieldLink "KettleChoir$Kitchen" 24 (T 4).1 (T 4).2.1 (T 4).2.2.1 ∈ kt_T ∧ ((T 4).2.2.2 = false ∨ ((T 4).2.2.2 = true ∧ (T 4).1 = "KettleChoir$Kitchen" ∧ decide (yX4_init.name = "<init>") = true)) := ⟨RX4, TX4, 15, rfl, by decide, kw_90, Or.inr ⟨rfl, rfl, by decide⟩⟩
theorem pk_X4_27_X4_init : ∃ (C : String) (T : u_T) (N : Nat), vwCl[4]? = some (C, T, N) ∧ 5 < N ∧ Cond.fieldLink "KettleChoir$Kitchen" 27 (T 5).1 (T 5).2.1 (T 5).2.2.1 ∈ kt_T ∧ ((T 5).2.2.2 = false ∨ ((T 5).2.2.2 = true ∧ (T 5).1 = "KettleChoir$Kitchen" ∧ decide (yX4_init.name = "<init>") = true)) := ⟨RX4, TX4, 15, rfl, by decide, kw_91, Or.inr ⟨rfl, rfl, by decide⟩⟩
theorem pk_X4_30_X4_init : ∃ (C : String) (T : u_T) (N : Nat), vwCl[4]? = some (C, T, N) ∧ 6 < N ∧ Cond.fieldLink "KettleChoir$Kitchen" 30 (T 6).1 (T 6).2.1 (T 6).2.2.1 ∈ kt_T ∧ ((T 6).2.2.2 = false ∨ ((T 6).2.2.2 = true ∧ (T 6).1 = "KettleChoir$Kitchen" ∧ decide (yX4_init.name = "<init>") = true)) := ⟨RX4, TX4, 15, rfl, by decide, kw_92, Or.inr ⟨rfl, rfl, by decide⟩⟩
theorem pk_X4_33_X4_init : ∃ (C : String) (T : u_T) (N : Nat), vwCl[4]? = some (C, T, N) ∧ 7 < N ∧ Cond.fieldLink "KettleChoir$Kitchen" 33 (T 7).1 (T 7).2.1 (T 7).2.2.1 ∈ kt_T ∧ ((T 7).2.2.2 = false ∨ ((T 7).2.2.2 = true ∧ (T 7).1 = "KettleChoir$Kitchen" ∧ decide (yX4_init.name = "<init>") = true)) := ⟨RX4, TX4, 15, rfl, by decide, kw_93, Or.inr ⟨rfl, rfl, by decide⟩⟩
theorem pk_X4_39_X4_init : ∃ (C : String) (T : u_T) (N : Nat), vwCl[4]? = some (C, T, N) ∧ 8 < N ∧ Cond.fieldLink "KettleChoir$Kitchen" 39 (T 8).1 (T 8).2.1 (T 8).2.2.1 ∈ kt_T ∧ ((T 8).2.2.2 = false ∨ ((T 8).2.2.2 = true ∧ (T 8).1 = "KettleChoir$Kitchen" ∧ decide (yX4_init.name = "<init>") = true)) := ⟨RX4, TX4, 15, rfl, by decide, kw_96, Or.inr ⟨rfl, rfl, by decide⟩⟩
theorem pk_X4_43_X4_init : ∃ (C : String) (T : u_T) (N : Nat), vwCl[4]? = some (C, T, N) ∧ 9 < N ∧ Cond.fieldLink "KettleChoir$Kitchen" 43 (T 9).1 (T 9).2.1 (T 9).2.2.1 ∈ kt_T ∧ ((T 9).2.2.2 = false ∨ ((T 9).2.2.2 = true ∧ (T 9).1 = "KettleChoir$Kitchen" ∧ decide (yX4_init.name = "<init>") = true)) := ⟨RX4, TX4, 15, rfl, by decide, kw_97, Or.inr ⟨rfl, rfl, by decide⟩⟩
theorem pk_X4_46 {e : Bool} : ∃ (C : String) (T : u_T) (N : Nat), vwCl[4]? = some (C, T, N) ∧ 10 < N ∧ Cond.fieldLink "KettleChoir$Kitchen" 46 (T 10).1 (T 10).2.1 (T 10).2.2.1 ∈ kt_T ∧ ((T 10).2.2.2 = false ∨ ((T 10).2.2.2 = true ∧ (T 10).1 = "KettleChoir$Kitchen" ∧ e = true)) := ⟨RX4, TX4, 15, rfl, by decide, kw_100, Or.inl rfl⟩
theorem pk_X4_50 {e : Bool} : ∃ (C : String) (T : u_T) (N : Nat), vwCl[4]? = some (C, T, N) ∧ 11 < N ∧ Cond.fieldLink "KettleChoir$Kitchen" 50 (T 11).1 (T 11).2.1 (T 11).2.2.1 ∈ kt_T ∧ ((T 11).2.2.2 = false ∨ ((T 11).2.2.2 = true ∧ (T 11).1 = "KettleChoir$Kitchen" ∧ e = true)) := ⟨RX4, TX4, 15, rfl, by decide, kw_101, Or.inl rfl⟩
theorem pk_X4_53 {e : Bool} : ∃ (C : String) (T : u_T) (N : Nat), vwCl[4]? = some (C, T, N) ∧ 12 < N ∧ Cond.fieldLink "KettleChoir$Kitchen" 53 (T 12).1 (T 12).2.1 (T 12).2.2.1 ∈ kt_T ∧ ((T 12).2.2.2 = false ∨ ((T 12).2.2.2 = true ∧ (T 12).1 = "KettleChoir$Kitchen" ∧ e = true)) := ⟨RX4, TX4, 15, rfl, by decide, kw_102, Or.inl rfl⟩
theorem pk_X4_56 {e : Bool} : ∃ (C : String) (T : u_T) (N : Nat), vwCl[7]? = some (C, T, N) ∧ 2 < N ∧ Cond.fieldLink "KettleChoir$Kitchen" 56 (T 2).1 (T 2).2.1 (T 2).2.2.1 ∈ kt_T ∧ ((T 2).2.2.2 = false ∨ ((T 2).2.2.2 = true ∧ (T 2).1 = "KettleChoir$Kitchen" ∧ e = true)) := ⟨RX7, TX7, 3, rfl, by decide, kw_103, Or.inl rfl⟩
theorem pk_X4_101 {e : Bool} : ∃ (C : String) (T : u_T) (N : Nat), vwCl[4]? = some (C, T, N) ∧ 13 < N ∧ Cond.fieldLink "KettleChoir$Kitchen" 101 (T 13).1 (T 13).2.1 (T 13).2.2.1 ∈ kt_T ∧ ((T 13).2.2.2 = false ∨ ((T 13).2.2.2 = true ∧ (T 13).1 = "KettleChoir$Kitchen" ∧ e = true)) := ⟨RX4, TX4, 15, rfl, by decide, kw_137, Or.inl rfl⟩
theorem pk_X4_105 {e : Bool} : ∃ (C : String) (T : u_T) (N : Nat), vwCl[4]? = some (C, T, N) ∧ 14 < N ∧ Cond.fieldLink "KettleChoir$Kitchen" 105 (T 14).1 (T 14).2.1 (T 14).2.2.1 ∈ kt_T ∧ ((T 14).2.2.2 = false ∨ ((T 14).2.2.2 = true ∧ (T 14).1 = "KettleChoir$Kitchen" ∧ e = true)) := ⟨RX4, TX4, 15, rfl, by decide, kw_138, Or.inl rfl⟩
theorem pk_X5_9_X5_init : ∃ (C : String) (T : u_T) (N : Nat), vwCl[5]? = some (C, T, N) ∧ 0 < N ∧ Cond.fieldLink "KettleChoir$Planner" 9 (T 0).1 (T 0).2.1 (T 0).2.2.1 ∈ kt_T ∧ ((T 0).2.2.2 = false ∨ ((T 0).2.2.2 = true ∧ (T 0).1 = "KettleChoir$Planner" ∧ decide (yX5_init.name = "<init>") = true)) := ⟨RX5, TX5, 5, rfl, by decide, kw_168, Or.inr ⟨rfl, rfl, by decide⟩⟩
theorem pk_X5_15_X5_init : ∃ (C : String) (T : u_T) (N : Nat), vwCl[5]? = some (C, T, N) ∧ 1 < N ∧ Cond.fieldLink "KettleChoir$Planner" 15 (T 1).1 (T 1).2.1 (T 1).2.2.1 ∈ kt_T ∧ ((T 1).2.2.2 = false ∨ ((T 1).2.2.2 = true ∧ (T 1).1 = "KettleChoir$Planner" ∧ decide (yX5_init.name = "<init>") = true)) := ⟨RX5, TX5, 5, rfl, by decide, kw_169, Or.inr ⟨rfl, rfl, by decide⟩⟩
theorem pk_X5_18_X5_init : ∃ (C : String) (T : u_T) (N : Nat), vwCl[5]? = some (C, T, N) ∧ 2 < N ∧ Cond.fieldLink "KettleChoir$Planner" 18 (T 2).1 (T 2).2.1 (T 2).2.2.1 ∈ kt_T ∧ ((T 2).2.2.2 = false ∨ ((T 2).2.2.2 = true ∧ (T 2).1 = "KettleChoir$Planner" ∧ decide (yX5_init.name = "<init>") = true)) := ⟨RX5, TX5, 5, rfl, by decide, kw_170, Or.inr ⟨rfl, rfl, by decide⟩⟩
theorem pk_X5_21 {e : Bool} : ∃ (C : String) (T : u_T) (N : Nat), vwCl[5]? = some (C, T, N) ∧ 4 < N ∧ Cond.fieldLink "KettleChoir$Planner" 21 (T 4).1 (T 4).2.1 (T 4).2.2.1 ∈ kt_T ∧ ((T 4).2.2.2 = false ∨ ((T 4).2.2.2 = true ∧ (T 4).1 = "KettleChoir$Planner" ∧ e = true)) := ⟨RX5, TX5, 5, rfl, by decide, kw_171, Or.inl rfl⟩
theorem pk_X5_25 {e : Bool} : ∃ (C : String) (T : u_T) (N : Nat), vwCl[5]? = some (C, T, N) ∧ 3 < N ∧ Cond.fieldLink "KettleChoir$Planner" 25 (T 3).1 (T 3).2.1 (T 3).2.2.1 ∈ kt_T ∧ ((T 3).2.2.2 = false ∨ ((T 3).2.2.2 = true ∧ (T 3).1 = "KettleChoir$Planner" ∧ e = true)) := ⟨RX5, TX5, 5, rfl, by decide, kw_174, Or.inl rfl⟩
theorem pk_X6_9_X6_init : ∃ (C : String) (T : u_T) (N : Nat), vwCl[6]? = some (C, T, N) ∧ 0 < N ∧ Cond.fieldLink "KettleChoir$Reader" 9 (T 0).1 (T 0).2.1 (T 0).2.2.1 ∈ kt_T ∧ ((T 0).2.2.2 = false ∨ ((T 0).2.2.2 = true ∧ (T 0).1 = "KettleChoir$Reader" ∧ decide (yX6_init.name = "<init>") = true)) := ⟨RX6, TX6, 11, rfl, by decide, kw_205, Or.inr ⟨rfl, rfl, by decide⟩⟩
theorem pk_X6_18_X6_init : ∃ (C : String) (T : u_T) (N : Nat), vwCl[6]? = some (C, T, N) ∧ 1 < N ∧ Cond.fieldLink "KettleChoir$Reader" 18 (T 1).1 (T 1).2.1 (T 1).2.2.1 ∈ kt_T ∧ ((T 1).2.2.2 = false ∨ ((T 1).2.2.2 = true ∧ (T 1).1 = "KettleChoir$Reader" ∧ decide (yX6_init.name = "<init>") = true)) := ⟨RX6, TX6, 11, rfl, by decide, kw_208, Or.inr ⟨rfl, rfl, by decide⟩⟩
theorem pk_X6_22 {e : Bool} : ∃ (C : String) (T : u_T) (N : Nat), vwCl[6]? = some (C, T, N) ∧ 3 < N ∧ Cond.fieldLink "KettleChoir$Reader" 22 (T 3).1 (T 3).2.1 (T 3).2.2.1 ∈ kt_T ∧ ((T 3).2.2.2 = false ∨ ((T 3).2.2.2 = true ∧ (T 3).1 = "KettleChoir$Reader" ∧ e = true)) := ⟨RX6, TX6, 11, rfl, by decide, kw_209, Or.inl rfl⟩
theorem pk_X6_26 {e : Bool} : ∃ (C : String) (T : u_T) (N : Nat), vwCl[6]? = some (C, T, N) ∧ 2 < N ∧ Cond.fieldLink "KettleChoir$Reader" 26 (T 2).1 (T 2).2.1 (T 2).2.2.1 ∈ kt_T ∧ ((T 2).2.2.2 = false ∨ ((T 2).2.2.2 = true ∧ (T 2).1 = "KettleChoir$Reader" ∧ e = true)) := ⟨RX6, TX6, 11, rfl, by decide, kw_212, Or.inl rfl⟩
theorem pk_X6_35 {e : Bool} : ∃ (C : String) (T : u_T) (N : Nat), vwCl[6]? = some (C, T, N) ∧ 4 < N ∧ Cond.fieldLink "KettleChoir$Reader" 35 (T 4).1 (T 4).2.1 (T 4).2.2.1 ∈ kt_T ∧ ((T 4).2.2.2 = false ∨ ((T 4).2.2.2 = true ∧ (T 4).1 = "KettleChoir$Reader" ∧ e = true)) := ⟨RX6, TX6, 11, rfl, by decide, kw_215, Or.inl rfl⟩
theorem pk_X6_38 {e : Bool} : ∃ (C : String) (T : u_T) (N : Nat), vwCl[6]? = some (C, T, N) ∧ 5 < N ∧ Cond.fieldLink "KettleChoir$Reader" 38 (T 5).1 (T 5).2.1 (T 5).2.2.1 ∈ kt_T ∧ ((T 5).2.2.2 = false ∨ ((T 5).2.2.2 = true ∧ (T 5).1 = "KettleChoir$Reader" ∧ e = true)) := ⟨RX6, TX6, 11, rfl, by decide, kw_216, Or.inl rfl⟩
theorem pk_X6_41 {e : Bool} : ∃ (C : String) (T : u_T) (N : Nat), vwCl[6]? = some (C, T, N) ∧ 10 < N ∧ Cond.fieldLink "KettleChoir$Reader" 41 (T 10).1 (T 10).2.1 (T 10).2.2.1 ∈ kt_T ∧ ((T 10).2.2.2 = false ∨ ((T 10).2.2.2 = true ∧ (T 10).1 = "KettleChoir$Reader" ∧ e = true)) := ⟨RX6, TX6, 11, rfl, by decide, kw_217, Or.inl rfl⟩
theorem pk_X6_44 {e : Bool} : ∃ (C : String) (T : u_T) (N : Nat), vwCl[6]? = some (C, T, N) ∧ 9 < N ∧ Cond.fieldLink "KettleChoir$Reader" 44 (T 9).1 (T 9).2.1 (T 9).2.2.1 ∈ kt_T ∧ ((T 9).2.2.2 = false ∨ ((T 9).2.2.2 = true ∧ (T 9).1 = "KettleChoir$Reader" ∧ e = true)) := ⟨RX6, TX6, 11, rfl, by decide, kw_218, Or.inl rfl⟩
theorem pk_X6_94 {e : Bool} : ∃ (C : String) (T : u_T) (N : Nat), vwCl[4]? = some (C, T, N) ∧ 10 < N ∧ Cond.fieldLink "KettleChoir$Reader" 94 (T 10).1 (T 10).2.1 (T 10).2.2.1 ∈ kt_T ∧ ((T 10).2.2.2 = false ∨ ((T 10).2.2.2 = true ∧ (T 10).1 = "KettleChoir$Reader" ∧ e = true)) := ⟨RX4, TX4, 15, rfl, by decide, kw_255, Or.inl rfl⟩
theorem pk_X6_116 {e : Bool} : ∃ (C : String) (T : u_T) (N : Nat), vwCl[4]? = some (C, T, N) ∧ 11 < N ∧ Cond.fieldLink "KettleChoir$Reader" 116 (T 11).1 (T 11).2.1 (T 11).2.2.1 ∈ kt_T ∧ ((T 11).2.2.2 = false ∨ ((T 11).2.2.2 = true ∧ (T 11).1 = "KettleChoir$Reader" ∧ e = true)) := ⟨RX4, TX4, 15, rfl, by decide, kw_265, Or.inl rfl⟩
theorem pk_X6_122 {e : Bool} : ∃ (C : String) (T : u_T) (N : Nat), vwCl[4]? = some (C, T, N) ∧ 12 < N ∧ Cond.fieldLink "KettleChoir$Reader" 122 (T 12).1 (T 12).2.1 (T 12).2.2.1 ∈ kt_T ∧ ((T 12).2.2.2 = false ∨ ((T 12).2.2.2 = true ∧ (T 12).1 = "KettleChoir$Reader" ∧ e = true)) := ⟨RX4, TX4, 15, rfl, by decide, kw_268, Or.inl rfl⟩
theorem pk_X6_54 {e : Bool} : ∃ (C : String) (T : u_T) (N : Nat), vwCl[6]? = some (C, T, N) ∧ 6 < N ∧ Cond.fieldLink "KettleChoir$Reader" 54 (T 6).1 (T 6).2.1 (T 6).2.2.1 ∈ kt_T ∧ ((T 6).2.2.2 = false ∨ ((T 6).2.2.2 = true ∧ (T 6).1 = "KettleChoir$Reader" ∧ e = true)) := ⟨RX6, TX6, 11, rfl, by decide, kw_225, Or.inl rfl⟩
theorem pk_X6_206 {e : Bool} : ∃ (C : String) (T : u_T) (N : Nat), vwCl[6]? = some (C, T, N) ∧ 7 < N ∧ Cond.fieldLink "KettleChoir$Reader" 206 (T 7).1 (T 7).2.1 (T 7).2.2.1 ∈ kt_T ∧ ((T 7).2.2.2 = false ∨ ((T 7).2.2.2 = true ∧ (T 7).1 = "KettleChoir$Reader" ∧ e = true)) := ⟨RX6, TX6, 11, rfl, by decide, kw_322, Or.inl rfl⟩
theorem pk_X6_141 {e : Bool} : ∃ (C : String) (T : u_T) (N : Nat), vwCl[6]? = some (C, T, N) ∧ 8 < N ∧ Cond.fieldLink "KettleChoir$Reader" 141 (T 8).1 (T 8).2.1 (T 8).2.2.1 ∈ kt_T ∧ ((T 8).2.2.2 = false ∨ ((T 8).2.2.2 = true ∧ (T 8).1 = "KettleChoir$Reader" ∧ e = true)) := ⟨RX6, TX6, 11, rfl, by decide, kw_281, Or.inl rfl⟩
theorem pk_X7_11_X7_init : ∃ (C : String) (T : u_T) (N : Nat), vwCl[7]? = some (C, T, N) ∧ 0 < N ∧ Cond.fieldLink "KettleChoir$Rule" 11 (T 0).1 (T 0).2.1 (T 0).2.2.1 ∈ kt_T ∧ ((T 0).2.2.2 = false ∨ ((T 0).2.2.2 = true ∧ (T 0).1 = "KettleChoir$Rule" ∧ decide (yX7_init.name = "<init>") = true)) := ⟨RX7, TX7, 3, rfl, by decide, kw_336, Or.inr ⟨rfl, rfl, by decide⟩⟩
theorem pk_X7_15_X7_init : ∃ (C : String) (T : u_T) (N : Nat), vwCl[7]? = some (C, T, N) ∧ 1 < N ∧ Cond.fieldLink "KettleChoir$Rule" 15 (T 1).1 (T 1).2.1 (T 1).2.2.1 ∈ kt_T ∧ ((T 1).2.2.2 = false ∨ ((T 1).2.2.2 = true ∧ (T 1).1 = "KettleChoir$Rule" ∧ decide (yX7_init.name = "<init>") = true)) := ⟨RX7, TX7, 3, rfl, by decide, kw_337, Or.inr ⟨rfl, rfl, by decide⟩⟩
theorem pk_X7_18 {e : Bool} : ∃ (C : String) (T : u_T) (N : Nat), vwCl[7]? = some (C, T, N) ∧ 2 < N ∧ Cond.fieldLink "KettleChoir$Rule" 18 (T 2).1 (T 2).2.1 (T 2).2.2.1 ∈ kt_T ∧ ((T 2).2.2.2 = false ∨ ((T 2).2.2.2 = true ∧ (T 2).1 = "KettleChoir$Rule" ∧ e = true)) := ⟨RX7, TX7, 3, rfl, by decide, kw_340, Or.inl rfl⟩
theorem pk_X8_11_X8_init : ∃ (C : String) (T : u_T) (N : Nat), vwCl[8]? = some (C, T, N) ∧ 0 < N ∧ Cond.fieldLink "KettleChoir$Tuner" 11 (T 0).1 (T 0).2.1 (T 0).2.2.1 ∈ kt_T ∧ ((T 0).2.2.2 = false ∨ ((T 0).2.2.2 = true ∧ (T 0).1 = "KettleChoir$Tuner" ∧ decide (yX8_init.name = "<init>") = true)) := ⟨RX8, TX8, 3, rfl, by decide, kw_350, Or.inr ⟨rfl, rfl, by decide⟩⟩
theorem pk_X8_15_X8_init : ∃ (C : String) (T : u_T) (N : Nat), vwCl[8]? = some (C, T, N) ∧ 1 < N ∧ Cond.fieldLink "KettleChoir$Tuner" 15 (T 1).1 (T 1).2.1 (T 1).2.2.1 ∈ kt_T ∧ ((T 1).2.2.2 = false ∨ ((T 1).2.2.2 = true ∧ (T 1).1 = "KettleChoir$Tuner" ∧ decide (yX8_init.name = "<init>") = true)) := ⟨RX8, TX8, 3, rfl, by decide, kw_351, Or.inr ⟨rfl, rfl, by decide⟩⟩
theorem pk_X8_18_X8_init : ∃ (C : String) (T : u_T) (N : Nat), vwCl[8]? = some (C, T, N) ∧ 2 < N ∧ Cond.fieldLink "KettleChoir$Tuner" 18 (T 2).1 (T 2).2.1 (T 2).2.2.1 ∈ kt_T ∧ ((T 2).2.2.2 = false ∨ ((T 2).2.2.2 = true ∧ (T 2).1 = "KettleChoir$Tuner" ∧ decide (yX8_init.name = "<init>") = true)) := ⟨RX8, TX8, 3, rfl, by decide, kw_352, Or.inr ⟨rfl, rfl, by decide⟩⟩
theorem pk_X9_12_X9_init : ∃ (C : String) (T : u_T) (N : Nat), vwCl[9]? = some (C, T, N) ∧ 0 < N ∧ Cond.fieldLink "KettleChoir" 12 (T 0).1 (T 0).2.1 (T 0).2.2.1 ∈ kt_T ∧ ((T 0).2.2.2 = false ∨ ((T 0).2.2.2 = true ∧ (T 0).1 = "KettleChoir" ∧ decide (yX9_init.name = "<init>") = true)) := ⟨RX9, TX9, 12, rfl, by decide, kw_386, Or.inr ⟨rfl, rfl, by decide⟩⟩
theorem pk_X9_19_X9_init : ∃ (C : String) (T : u_T) (N : Nat), vwCl[9]? = some (C, T, N) ∧ 1 < N ∧ Cond.fieldLink "KettleChoir" 19 (T 1).1 (T 1).2.1 (T 1).2.2.1 ∈ kt_T ∧ ((T 1).2.2.2 = false ∨ ((T 1).2.2.2 = true ∧ (T 1).1 = "KettleChoir" ∧ decide (yX9_init.name = "<init>") = true)) := ⟨RX9, TX9, 12, rfl, by decide, kw_388, Or.inr ⟨rfl, rfl, by decide⟩⟩
theorem pk_X9_23_X9_init : ∃ (C : String) (T : u_T) (N : Nat), vwCl[9]? = some (C, T, N) ∧ 2 < N ∧ Cond.fieldLink "KettleChoir" 23 (T 2).1 (T 2).2.1 (T 2).2.2.1 ∈ kt_T ∧ ((T 2).2.2.2 = false ∨ ((T 2).2.2.2 = true ∧ (T 2).1 = "KettleChoir" ∧ decide (yX9_init.name = "<init>") = true)) := ⟨RX9, TX9, 12, rfl, by decide, kw_389, Or.inr ⟨rfl, rfl, by decide⟩⟩
theorem pk_X9_27_X9_init : ∃ (C : String) (T : u_T) (N : Nat), vwCl[9]? = some (C, T, N) ∧ 3 < N ∧ Cond.fieldLink "KettleChoir" 27 (T 3).1 (T 3).2.1 (T 3).2.2.1 ∈ kt_T ∧ ((T 3).2.2.2 = false ∨ ((T 3).2.2.2 = true ∧ (T 3).1 = "KettleChoir" ∧ decide (yX9_init.name = "<init>") = true)) := ⟨RX9, TX9, 12, rfl, by decide, kw_390, Or.inr ⟨rfl, rfl, by decide⟩⟩
theorem pk_X9_30_X9_init : ∃ (C : String) (T : u_T) (N : Nat), vwCl[9]? = some (C, T, N) ∧ 4 < N ∧ Cond.fieldLink "KettleChoir" 30 (T 4).1 (T 4).2.1 (T 4).2.2.1 ∈ kt_T ∧ ((T 4).2.2.2 = false ∨ ((T 4).2.2.2 = true ∧ (T 4).1 = "KettleChoir" ∧ decide (yX9_init.name = "<init>") = true)) := ⟨RX9, TX9, 12, rfl, by decide, kw_391, Or.inr ⟨rfl, rfl, by decide⟩⟩
theorem pk_X9_36_X9_init : ∃ (C : String) (T : u_T) (N : Nat), vwCl[9]? = some (C, T, N) ∧ 5 < N ∧ Cond.fieldLink "KettleChoir" 36 (T 5).1 (T 5).2.1 (T 5).2.2.1 ∈ kt_T ∧ ((T 5).2.2.2 = false ∨ ((T 5).2.2.2 = true ∧ (T 5).1 = "KettleChoir" ∧ decide (yX9_init.name = "<init>") = true)) := ⟨RX9, TX9, 12, rfl, by decide, kw_393, Or.inr ⟨rfl, rfl, by decide⟩⟩
theorem pk_X9_43_X9_init : ∃ (C : String) (T : u_T) (N : Nat), vwCl[9]? = some (C, T, N) ∧ 6 < N ∧ Cond.fieldLink "KettleChoir" 43 (T 6).1 (T 6).2.1 (T 6).2.2.1 ∈ kt_T ∧ ((T 6).2.2.2 = false ∨ ((T 6).2.2.2 = true ∧ (T 6).1 = "KettleChoir" ∧ decide (yX9_init.name = "<init>") = true)) := ⟨RX9, TX9, 12, rfl, by decide, kw_395, Or.inr ⟨rfl, rfl, by decide⟩⟩
theorem pk_X9_50_X9_init : ∃ (C : String) (T : u_T) (N : Nat), vwCl[9]? = some (C, T, N) ∧ 7 < N ∧ Cond.fieldLink "KettleChoir" 50 (T 7).1 (T 7).2.1 (T 7).2.2.1 ∈ kt_T ∧ ((T 7).2.2.2 = false ∨ ((T 7).2.2.2 = true ∧ (T 7).1 = "KettleChoir" ∧ decide (yX9_init.name = "<init>") = true)) := ⟨RX9, TX9, 12, rfl, by decide, kw_398, Or.inr ⟨rfl, rfl, by decide⟩⟩
theorem pk_X9_57_X9_init : ∃ (C : String) (T : u_T) (N : Nat), vwCl[9]? = some (C, T, N) ∧ 8 < N ∧ Cond.fieldLink "KettleChoir" 57 (T 8).1 (T 8).2.1 (T 8).2.2.1 ∈ kt_T ∧ ((T 8).2.2.2 = false ∨ ((T 8).2.2.2 = true ∧ (T 8).1 = "KettleChoir" ∧ decide (yX9_init.name = "<init>") = true)) := ⟨RX9, TX9, 12, rfl, by decide, kw_401, Or.inr ⟨rfl, rfl, by decide⟩⟩
theorem pk_X9_64_X9_init : ∃ (C : String) (T : u_T) (N : Nat), vwCl[9]? = some (C, T, N) ∧ 9 < N ∧ Cond.fieldLink "KettleChoir" 64 (T 9).1 (T 9).2.1 (T 9).2.2.1 ∈ kt_T ∧ ((T 9).2.2.2 = false ∨ ((T 9).2.2.2 = true ∧ (T 9).1 = "KettleChoir" ∧ decide (yX9_init.name = "<init>") = true)) := ⟨RX9, TX9, 12, rfl, by decide, kw_404, Or.inr ⟨rfl, rfl, by decide⟩⟩
theorem pk_X9_102 {e : Bool} : ∃ (C : String) (T : u_T) (N : Nat), vwCl[9]? = some (C, T, N) ∧ 11 < N ∧ Cond.fieldLink "KettleChoir" 102 (T 11).1 (T 11).2.1 (T 11).2.2.1 ∈ kt_T ∧ ((T 11).2.2.2 = false ∨ ((T 11).2.2.2 = true ∧ (T 11).1 = "KettleChoir" ∧ e = true)) := ⟨RX9, TX9, 12, rfl, by decide, kw_430, Or.inl rfl⟩
theorem pk_X9_300 {e : Bool} : ∃ (C : String) (T : u_T) (N : Nat), vwCl[9]? = some (C, T, N) ∧ 10 < N ∧ Cond.fieldLink "KettleChoir" 300 (T 10).1 (T 10).2.1 (T 10).2.2.1 ∈ kt_T ∧ ((T 10).2.2.2 = false ∨ ((T 10).2.2.2 = true ∧ (T 10).1 = "KettleChoir" ∧ e = true)) := ⟨RX9, TX9, 12, rfl, by decide, kw_562, Or.inl rfl⟩
theorem pk_X9_325 {e : Bool} : ∃ (C : String) (T : u_T) (N : Nat), vwCl[5]? = some (C, T, N) ∧ 4 < N ∧ Cond.fieldLink "KettleChoir" 325 (T 4).1 (T 4).2.1 (T 4).2.2.1 ∈ kt_T ∧ ((T 4).2.2.2 = false ∨ ((T 4).2.2.2 = true ∧ (T 4).1 = "KettleChoir" ∧ e = true)) := ⟨RX5, TX5, 5, rfl, by decide, kw_581, Or.inl rfl⟩
theorem pk_X9_328 {e : Bool} : ∃ (C : String) (T : u_T) (N : Nat), vwCl[1]? = some (C, T, N) ∧ 4 < N ∧ Cond.fieldLink "KettleChoir" 328 (T 4).1 (T 4).2.1 (T 4).2.2.1 ∈ kt_T ∧ ((T 4).2.2.2 = false ∨ ((T 4).2.2.2 = true ∧ (T 4).1 = "KettleChoir" ∧ e = true)) := ⟨RX1, TX1, 9, rfl, by decide, kw_582, Or.inl rfl⟩
theorem pk_X10_19_X10_init : ∃ (C : String) (T : u_T) (N : Nat), vwCl[10]? = some (C, T, N) ∧ 0 < N ∧ Cond.fieldLink "KettleChoirModel" 19 (T 0).1 (T 0).2.1 (T 0).2.2.1 ∈ kt_T ∧ ((T 0).2.2.2 = false ∨ ((T 0).2.2.2 = true ∧ (T 0).1 = "KettleChoirModel" ∧ decide (yX10_init.name = "<init>") = true)) := ⟨RX10, TX10, 58, rfl, by decide, kw_612, Or.inr ⟨rfl, rfl, by decide⟩⟩
theorem pk_X10_37_X10_init : ∃ (C : String) (T : u_T) (N : Nat), vwCl[10]? = some (C, T, N) ∧ 1 < N ∧ Cond.fieldLink "KettleChoirModel" 37 (T 1).1 (T 1).2.1 (T 1).2.2.1 ∈ kt_T ∧ ((T 1).2.2.2 = false ∨ ((T 1).2.2.2 = true ∧ (T 1).1 = "KettleChoirModel" ∧ decide (yX10_init.name = "<init>") = true)) := ⟨RX10, TX10, 58, rfl, by decide, kw_613, Or.inr ⟨rfl, rfl, by decide⟩⟩
theorem pk_X10_40_X10_init : ∃ (C : String) (T : u_T) (N : Nat), vwCl[10]? = some (C, T, N) ∧ 3 < N ∧ Cond.fieldLink "KettleChoirModel" 40 (T 3).1 (T 3).2.1 (T 3).2.2.1 ∈ kt_T ∧ ((T 3).2.2.2 = false ∨ ((T 3).2.2.2 = true ∧ (T 3).1 = "KettleChoirModel" ∧ decide (yX10_init.name = "<init>") = true)) := ⟨RX10, TX10, 58, rfl, by decide, kw_614, Or.inr ⟨rfl, rfl, by decide⟩⟩
theorem pk_X10_44_X10_init : ∃ (C : String) (T : u_T) (N : Nat), vwCl[10]? = some (C, T, N) ∧ 4 < N ∧ Cond.fieldLink "KettleChoirModel" 44 (T 4).1 (T 4).2.1 (T 4).2.2.1 ∈ kt_T ∧ ((T 4).2.2.2 = false ∨ ((T 4).2.2.2 = true ∧ (T 4).1 = "KettleChoirModel" ∧ decide (yX10_init.name = "<init>") = true)) := ⟨RX10, TX10, 58, rfl, by decide, kw_615, Or.inr ⟨rfl, rfl, by decide⟩⟩
theorem pk_X10_47_X10_init : ∃ (C : String) (T : u_T) (N : Nat), vwCl[10]? = some (C, T, N) ∧ 5 < N ∧ Cond.fieldLink "KettleChoirModel" 47 (T 5).1 (T 5).2.1 (T 5).2.2.1 ∈ kt_T ∧ ((T 5).2.2.2 = false ∨ ((T 5).2.2.2 = true ∧ (T 5).1 = "KettleChoirModel" ∧ decide (yX10_init.name = "<init>") = true)) := ⟨RX10, TX10, 58, rfl, by decide, kw_616, Or.inr ⟨rfl, rfl, by decide⟩⟩
theorem pk_X10_50_X10_init : ∃ (C : String) (T : u_T) (N : Nat), vwCl[10]? = some (C, T, N) ∧ 6 < N ∧ Cond.fieldLink "KettleChoirModel" 50 (T 6).1 (T 6).2.1 (T 6).2.2.1 ∈ kt_T ∧ ((T 6).2.2.2 = false ∨ ((T 6).2.2.2 = true ∧ (T 6).1 = "KettleChoirModel" ∧ decide (yX10_init.name = "<init>") = true)) := ⟨RX10, TX10, 58, rfl, by decide, kw_617, Or.inr ⟨rfl, rfl, by decide⟩⟩
theorem pk_X10_53_X10_init : ∃ (C : String) (T : u_T) (N : Nat), vwCl[10]? = some (C, T, N) ∧ 7 < N ∧ Cond.fieldLink "KettleChoirModel" 53 (T 7).1 (T 7).2.1 (T 7).2.2.1 ∈ kt_T ∧ ((T 7).2.2.2 = false ∨ ((T 7).2.2.2 = true ∧ (T 7).1 = "KettleChoirModel" ∧ decide (yX10_init.name = "<init>") = true)) := ⟨RX10, TX10, 58, rfl, by decide, kw_618, Or.inr ⟨rfl, rfl, by decide⟩⟩
theorem pk_X10_56_X10_init : ∃ (C : String) (T : u_T) (N : Nat), vwCl[10]? = some (C, T, N) ∧ 8 < N ∧ Cond.fieldLink "KettleChoirModel" 56 (T 8).1 (T 8).2.1 (T 8).2.2.1 ∈ kt_T ∧ ((T 8).2.2.2 = false ∨ ((T 8).2.2.2 = true ∧ (T 8).1 = "KettleChoirModel" ∧ decide (yX10_init.name = "<init>") = true)) := ⟨RX10, TX10, 58, rfl, by decide, kw_619, Or.inr ⟨rfl, rfl, by decide⟩⟩
theorem pk_X10_59_X10_init : ∃ (C : String) (T : u_T) (N : Nat), vwCl[10]? = some (C, T, N) ∧ 9 < N ∧ Cond.fieldLink "KettleChoirModel" 59 (T 9).1 (T 9).2.1 (T 9).2.2.1 ∈ kt_T ∧ ((T 9).2.2.2 = false ∨ ((T 9).2.2.2 = true ∧ (T 9).1 = "KettleChoirModel" ∧ decide (yX10_init.name = "<init>") = true)) := ⟨RX10, TX10, 58, rfl, by decide, kw_620, Or.inr ⟨rfl, rfl, by decide⟩⟩
theorem pk_X10_62_X10_init : ∃ (C : String) (T : u_T) (N : Nat), vwCl[10]? = some (C, T, N) ∧ 10 < N ∧ Cond.fieldLink "KettleChoirModel" 62 (T 10).1 (T 10).2.1 (T 10).2.2.1 ∈ kt_T ∧ ((T 10).2.2.2 = false ∨ ((T 10).2.2.2 = true ∧ (T 10).1 = "KettleChoirModel" ∧ decide (yX10_init.name = "<init>") = true)) := ⟨RX10, TX10, 58, rfl, by decide, kw_621, Or.inr ⟨rfl, rfl, by decide⟩⟩
theorem pk_X10_65_X10_init : ∃ (C : String) (T : u_T) (N : Nat), vwCl[10]? = some (C, T, N) ∧ 11 < N ∧ Cond.fieldLink "KettleChoirModel" 65 (T 11).1 (T 11).2.1 (T 11).2.2.1 ∈ kt_T ∧ ((T 11).2.2.2 = false ∨ ((T 11).2.2.2 = true ∧ (T 11).1 = "KettleChoirModel" ∧ decide (yX10_init.name = "<init>") = true)) := ⟨RX10, TX10, 58, rfl, by decide, kw_622, Or.inr ⟨rfl, rfl, by decide⟩⟩
theorem pk_X10_68_X10_init : ∃ (C : String) (T : u_T) (N : Nat), vwCl[10]? = some (C, T, N) ∧ 12 < N ∧ Cond.fieldLink "KettleChoirModel" 68 (T 12).1 (T 12).2.1 (T 12).2.2.1 ∈ kt_T ∧ ((T 12).2.2.2 = false ∨ ((T 12).2.2.2 = true ∧ (T 12).1 = "KettleChoirModel" ∧ decide (yX10_init.name = "<init>") = true)) := ⟨RX10, TX10, 58, rfl, by decide, kw_623, Or.inr ⟨rfl, rfl, by decide⟩⟩
theorem pk_X10_71_X10_init : ∃ (C : String) (T : u_T) (N : Nat), vwCl[10]? = some (C, T, N) ∧ 13 < N ∧ Cond.fieldLink "KettleChoirModel" 71 (T 13).1 (T 13).2.1 (T 13).2.2.1 ∈ kt_T ∧ ((T 13).2.2.2 = false ∨ ((T 13).2.2.2 = true ∧ (T 13).1 = "KettleChoirModel" ∧ decide (yX10_init.name = "<init>") = true)) := ⟨RX10, TX10, 58, rfl, by decide, kw_624, Or.inr ⟨rfl, rfl, by decide⟩⟩
theorem pk_X10_74_X10_init : ∃ (C : String) (T : u_T) (N : Nat), vwCl[10]? = some (C, T, N) ∧ 14 < N ∧ Cond.fieldLink "KettleChoirModel" 74 (T 14).1 (T 14).2.1 (T 14).2.2.1 ∈ kt_T ∧ ((T 14).2.2.2 = false ∨ ((T 14).2.2.2 = true ∧ (T 14).1 = "KettleChoirModel" ∧ decide (yX10_init.name = "<init>") = true)) := ⟨RX10, TX10, 58, rfl, by decide, kw_625, Or.inr ⟨rfl, rfl, by decide⟩⟩
theorem pk_X10_77 {e : Bool} : ∃ (C : String) (T : u_T) (N : Nat), vwCl[10]? = some (C, T, N) ∧ 24 < N ∧ Cond.fieldLink "KettleChoirModel" 77 (T 24).1 (T 24).2.1 (T 24).2.2.1 ∈ kt_T ∧ ((T 24).2.2.2 = false ∨ ((T 24).2.2.2 = true ∧ (T 24).1 = "KettleChoirModel" ∧ e = true)) := ⟨RX10, TX10, 58, rfl, by decide, kw_626, Or.inl rfl⟩
theorem pk_X10_81_X10_init : ∃ (C : String) (T : u_T) (N : Nat), vwCl[10]? = some (C, T, N) ∧ 25 < N ∧ Cond.fieldLink "KettleChoirModel" 81 (T 25).1 (T 25).2.1 (T 25).2.2.1 ∈ kt_T ∧ ((T 25).2.2.2 = false ∨ ((T 25).2.2.2 = true ∧ (T 25).1 = "KettleChoirModel" ∧ decide (yX10_init.name = "<init>") = true)) := ⟨RX10, TX10, 58, rfl, by decide, kw_627, Or.inr ⟨rfl, rfl, by decide⟩⟩
theorem pk_X10_84_X10_init : ∃ (C : String) (T : u_T) (N : Nat), vwCl[10]? = some (C, T, N) ∧ 26 < N ∧ Cond.fieldLink "KettleChoirModel" 84 (T 26).1 (T 26).2.1 (T 26).2.2.1 ∈ kt_T ∧ ((T 26).2.2.2 = false ∨ ((T 26).2.2.2 = true ∧ (T 26).1 = "KettleChoirModel" ∧ decide (yX10_init.name = "<init>") = true)) := ⟨RX10, TX10, 58, rfl, by decide, kw_628, Or.inr ⟨rfl, rfl, by decide⟩⟩
theorem pk_X10_86_X10_init : ∃ (C : String) (T : u_T) (N : Nat), vwCl[10]? = some (C, T, N) ∧ 27 < N ∧ Cond.fieldLink "KettleChoirModel" 86 (T 27).1 (T 27).2.1 (T 27).2.2.1 ∈ kt_T ∧ ((T 27).2.2.2 = false ∨ ((T 27).2.2.2 = true ∧ (T 27).1 = "KettleChoirModel" ∧ decide (yX10_init.name = "<init>") = true)) := ⟨RX10, TX10, 58, rfl, by decide, kw_629, Or.inr ⟨rfl, rfl, by decide⟩⟩
theorem pk_X10_88_X10_init : ∃ (C : String) (T : u_T) (N : Nat), vwCl[10]? = some (C, T, N) ∧ 28 < N ∧ Cond.fieldLink "KettleChoirModel" 88 (T 28).1 (T 28).2.1 (T 28).2.2.1 ∈ kt_T ∧ ((T 28).2.2.2 = false ∨ ((T 28).2.2.2 = true ∧ (T 28).1 = "KettleChoirModel" ∧ decide (yX10_init.name = "<init>") = true)) := ⟨RX10, TX10, 58, rfl, by decide, kw_630, Or.inr ⟨rfl, rfl, by decide⟩⟩
theorem pk_X10_90_X10_init : ∃ (C : String) (T : u_T) (N : Nat), vwCl[10]? = some (C, T, N) ∧ 29 < N ∧ Cond.fieldLink "KettleChoirModel" 90 (T 29).1 (T 29).2.1 (T 29).2.2.1 ∈ kt_T ∧ ((T 29).2.2.2 = false ∨ ((T 29).2.2.2 = true ∧ (T 29).1 = "KettleChoirModel" ∧ decide (yX10_init.name = "<init>") = true)) := ⟨RX10, TX10, 58, rfl, by decide, kw_631, Or.inr ⟨rfl, rfl, by decide⟩⟩
theorem pk_X10_92_X10_init : ∃ (C : String) (T : u_T) (N : Nat), vwCl[10]? = some (C, T, N) ∧ 30 < N ∧ Cond.fieldLink "KettleChoirModel" 92 (T 30).1 (T 30).2.1 (T 30).2.2.1 ∈ kt_T ∧ ((T 30).2.2.2 = false ∨ ((T 30).2.2.2 = true ∧ (T 30).1 = "KettleChoirModel" ∧ decide (yX10_init.name = "<init>") = true)) := ⟨RX10, TX10, 58, rfl, by decide, kw_632, Or.inr ⟨rfl, rfl, by decide⟩⟩
theorem pk_X10_94_X10_init : ∃ (C : String) (T : u_T) (N : Nat), vwCl[10]? = some (C, T, N) ∧ 31 < N ∧ Cond.fieldLink "KettleChoirModel" 94 (T 31).1 (T 31).2.1 (T 31).2.2.1 ∈ kt_T ∧ ((T 31).2.2.2 = false ∨ ((T 31).2.2.2 = true ∧ (T 31).1 = "KettleChoirModel" ∧ decide (yX10_init.name = "<init>") = true)) := ⟨RX10, TX10, 58, rfl, by decide, kw_633, Or.inr ⟨rfl, rfl, by decide⟩⟩
theorem pk_X10_97_X10_init : ∃ (C : String) (T : u_T) (N : Nat), vwCl[10]? = some (C, T, N) ∧ 32 < N ∧ Cond.fieldLink "KettleChoirModel" 97 (T 32).1 (T 32).2.1 (T 32).2.2.1 ∈ kt_T ∧ ((T 32).2.2.2 = false ∨ ((T 32).2.2.2 = true ∧ (T 32).1 = "KettleChoirModel" ∧ decide (yX10_init.name = "<init>") = true)) := ⟨RX10, TX10, 58, rfl, by decide, kw_634, Or.inr ⟨rfl, rfl, by decide⟩⟩
theorem pk_X10_100_X10_init : ∃ (C : String) (T : u_T) (N : Nat), vwCl[10]? = some (C, T, N) ∧ 36 < N ∧ Cond.fieldLink "KettleChoirModel" 100 (T 36).1 (T 36).2.1 (T 36).2.2.1 ∈ kt_T ∧ ((T 36).2.2.2 = false ∨ ((T 36).2.2.2 = true ∧ (T 36).1 = "KettleChoirModel" ∧ decide (yX10_init.name = "<init>") = true)) := ⟨RX10, TX10, 58, rfl, by decide, kw_635, Or.inr ⟨rfl, rfl, by decide⟩⟩
theorem pk_X10_103_X10_init : ∃ (C : String) (T : u_T) (N : Nat), vwCl[10]? = some (C, T, N) ∧ 37 < N ∧ Cond.fieldLink "KettleChoirModel" 103 (T 37).1 (T 37).2.1 (T 37).2.2.1 ∈ kt_T ∧ ((T 37).2.2.2 = false ∨ ((T 37).2.2.2 = true ∧ (T 37).1 = "KettleChoirModel" ∧ decide (yX10_init.name = "<init>") = true)) := ⟨RX10, TX10, 58, rfl, by decide, kw_636, Or.inr ⟨rfl, rfl, by decide⟩⟩
theorem pk_X10_106_X10_init : ∃ (C : String) (T : u_T) (N : Nat), vwCl[10]? = some (C, T, N) ∧ 38 < N ∧ Cond.fieldLink "KettleChoirModel" 106 (T 38).1 (T 38).2.1 (T 38).2.2.1 ∈ kt_T ∧ ((T 38).2.2.2 = false ∨ ((T 38).2.2.2 = true ∧ (T 38).1 = "KettleChoirModel" ∧ decide (yX10_init.name = "<init>") = true)) := ⟨RX10, TX10, 58, rfl, by decide, kw_637, Or.inr ⟨rfl, rfl, by decide⟩⟩
theorem pk_X10_109_X10_init : ∃ (C : String) (T : u_T) (N : Nat), vwCl[10]? = some (C, T, N) ∧ 39 < N ∧ Cond.fieldLink "KettleChoirModel" 109 (T 39).1 (T 39).2.1 (T 39).2.2.1 ∈ kt_T ∧ ((T 39).2.2.2 = false ∨ ((T 39).2.2.2 = true ∧ (T 39).1 = "KettleChoirModel" ∧ decide (yX10_init.name = "<init>") = true)) := ⟨RX10, TX10, 58, rfl, by decide, kw_638, Or.inr ⟨rfl, rfl, by decide⟩⟩
theorem pk_X10_112_X10_init : ∃ (C : String) (T : u_T) (N : Nat), vwCl[10]? = some (C, T, N) ∧ 40 < N ∧ Cond.fieldLink "KettleChoirModel" 112 (T 40).1 (T 40).2.1 (T 40).2.2.1 ∈ kt_T ∧ ((T 40).2.2.2 = false ∨ ((T 40).2.2.2 = true ∧ (T 40).1 = "KettleChoirModel" ∧ decide (yX10_init.name = "<init>") = true)) := ⟨RX10, TX10, 58, rfl, by decide, kw_639, Or.inr ⟨rfl, rfl, by decide⟩⟩
theorem pk_X10_115_X10_init : ∃ (C : String) (T : u_T) (N : Nat), vwCl[10]? = some (C, T, N) ∧ 41 < N ∧ Cond.fieldLink "KettleChoirModel" 115 (T 41).1 (T 41).2.1 (T 41).2.2.1 ∈ kt_T ∧ ((T 41).2.2.2 = false ∨ ((T 41).2.2.2 = true ∧ (T 41).1 = "KettleChoirModel" ∧ decide (yX10_init.name = "<init>") = true)) := ⟨RX10, TX10, 58, rfl, by decide, kw_640, Or.inr ⟨rfl, rfl, by decide⟩⟩
theorem pk_X10_118_X10_init : ∃ (C : String) (T : u_T) (N : Nat), vwCl[10]? = some (C, T, N) ∧ 43 < N ∧ Cond.fieldLink "KettleChoirModel" 118 (T 43).1 (T 43).2.1 (T 43).2.2.1 ∈ kt_T ∧ ((T 43).2.2.2 = false ∨ ((T 43).2.2.2 = true ∧ (T 43).1 = "KettleChoirModel" ∧ decide (yX10_init.name = "<init>") = true)) := ⟨RX10, TX10, 58, rfl, by decide, kw_641, Or.inr ⟨rfl, rfl, by decide⟩⟩
theorem pk_X10_121_X10_init : ∃ (C : String) (T : u_T) (N : Nat), vwCl[10]? = some (C, T, N) ∧ 44 < N ∧ Cond.fieldLink "KettleChoirModel" 121 (T 44).1 (T 44).2.1 (T 44).2.2.1 ∈ kt_T ∧ ((T 44).2.2.2 = false ∨ ((T 44).2.2.2 = true ∧ (T 44).1 = "KettleChoirModel" ∧ decide (yX10_init.name = "<init>") = true)) := ⟨RX10, TX10, 58, rfl, by decide, kw_642, Or.inr ⟨rfl, rfl, by decide⟩⟩
theorem pk_X10_124_X10_init : ∃ (C : String) (T : u_T) (N : Nat), vwCl[10]? = some (C, T, N) ∧ 45 < N ∧ Cond.fieldLink "KettleChoirModel" 124 (T 45).1 (T 45).2.1 (T 45).2.2.1 ∈ kt_T ∧ ((T 45).2.2.2 = false ∨ ((T 45).2.2.2 = true ∧ (T 45).1 = "KettleChoirModel" ∧ decide (yX10_init.name = "<init>") = true)) := ⟨RX10, TX10, 58, rfl, by decide, kw_643, Or.inr ⟨rfl, rfl, by decide⟩⟩
theorem pk_X10_127_X10_init : ∃ (C : String) (T : u_T) (N : Nat), vwCl[10]? = some (C, T, N) ∧ 46 < N ∧ Cond.fieldLink "KettleChoirModel" 127 (T 46).1 (T 46).2.1 (T 46).2.2.1 ∈ kt_T ∧ ((T 46).2.2.2 = false ∨ ((T 46).2.2.2 = true ∧ (T 46).1 = "KettleChoirModel" ∧ decide (yX10_init.name = "<init>") = true)) := ⟨RX10, TX10, 58, rfl, by decide, kw_644, Or.inr ⟨rfl, rfl, by decide⟩⟩
theorem pk_X10_130_X10_init : ∃ (C : String) (T : u_T) (N : Nat), vwCl[10]? = some (C, T, N) ∧ 48 < N ∧ Cond.fieldLink "KettleChoirModel" 130 (T 48).1 (T 48).2.1 (T 48).2.2.1 ∈ kt_T ∧ ((T 48).2.2.2 = false ∨ ((T 48).2.2.2 = true ∧ (T 48).1 = "KettleChoirModel" ∧ decide (yX10_init.name = "<init>") = true)) := ⟨RX10, TX10, 58, rfl, by decide, kw_645, Or.inr ⟨rfl, rfl, by decide⟩⟩
theorem pk_X10_134_X10_init : ∃ (C : String) (T : u_T) (N : Nat), vwCl[10]? = some (C, T, N) ∧ 53 < N ∧ Cond.fieldLink "KettleChoirModel" 134 (T 53).1 (T 53).2.1 (T 53).2.2.1 ∈ kt_T ∧ ((T 53).2.2.2 = false ∨ ((T 53).2.2.2 = true ∧ (T 53).1 = "KettleChoirModel" ∧ decide (yX10_init.name = "<init>") = true)) := ⟨RX10, TX10, 58, rfl, by decide, kw_646, Or.inr ⟨rfl, rfl, by decide⟩⟩
theorem pk_X10_137_X10_init : ∃ (C : String) (T : u_T) (N : Nat), vwCl[10]? = some (C, T, N) ∧ 54 < N ∧ Cond.fieldLink "KettleChoirModel" 137 (T 54).1 (T 54).2.1 (T 54).2.2.1 ∈ kt_T ∧ ((T 54).2.2.2 = false ∨ ((T 54).2.2.2 = true ∧ (T 54).1 = "KettleChoirModel" ∧ decide (yX10_init.name = "<init>") = true)) := ⟨RX10, TX10, 58, rfl, by decide, kw_647, Or.inr ⟨rfl, rfl, by decide⟩⟩
theorem pk_X10_140_X10_init : ∃ (C : String) (T : u_T) (N : Nat), vwCl[10]? = some (C, T, N) ∧ 55 < N ∧ Cond.fieldLink "KettleChoirModel" 140 (T 55).1 (T 55).2.1 (T 55).2.2.1 ∈ kt_T ∧ ((T 55).2.2.2 = false ∨ ((T 55).2.2.2 = true ∧ (T 55).1 = "KettleChoirModel" ∧ decide (yX10_init.name = "<init>") = true)) := ⟨RX10, TX10, 58, rfl, by decide, kw_648, Or.inr ⟨rfl, rfl, by decide⟩⟩
theorem pk_X10_143_X10_init : ∃ (C : String) (T : u_T) (N : Nat), vwCl[10]? = some (C, T, N) ∧ 56 < N ∧ Cond.fieldLink "KettleChoirModel" 143 (T 56).1 (T 56).2.1 (T 56).2.2.1 ∈ kt_T ∧ ((T 56).2.2.2 = false ∨ ((T 56).2.2.2 = true ∧ (T 56).1 = "KettleChoirModel" ∧ decide (yX10_init.name = "<init>") = true)) := ⟨RX10, TX10, 58, rfl, by decide, kw_649, Or.inr ⟨rfl, rfl, by decide⟩⟩
theorem pk_X10_146_X10_init : ∃ (C : String) (T : u_T) (N : Nat), vwCl[10]? = some (C, T, N) ∧ 57 < N ∧ Cond.fieldLink "KettleChoirModel" 146 (T 57).1 (T 57).2.1 (T 57).2.2.1 ∈ kt_T ∧ ((T 57).2.2.2 = false ∨ ((T 57).2.2.2 = true ∧ (T 57).1 = "KettleChoirModel" ∧ decide (yX10_init.name = "<init>") = true)) := ⟨RX10, TX10, 58, rfl, by decide, kw_650, Or.inr ⟨rfl, rfl, by decide⟩⟩
theorem pk_X10_149 {e : Bool} : ∃ (C : String) (T : u_T) (N : Nat), vwCl[10]? = some (C, T, N) ∧ 2 < N ∧ Cond.fieldLink "KettleChoirModel" 149 (T 2).1 (T 2).2.1 (T 2).2.2.1 ∈ kt_T ∧ ((T 2).2.2.2 = false ∨ ((T 2).2.2.2 = true ∧ (T 2).1 = "KettleChoirModel" ∧ e = true)) := ⟨RX10, TX10, 58, rfl, by decide, kw_653, Or.inl rfl⟩
theorem pk_X10_156 {e : Bool} : ∃ (C : String) (T : u_T) (N : Nat), vwCl[10]? = some (C, T, N) ∧ 15 < N ∧ Cond.fieldLink "KettleChoirModel" 156 (T 15).1 (T 15).2.1 (T 15).2.2.1 ∈ kt_T ∧ ((T 15).2.2.2 = false ∨ ((T 15).2.2.2 = true ∧ (T 15).1 = "KettleChoirModel" ∧ e = true)) := ⟨RX10, TX10, 58, rfl, by decide, kw_664, Or.inl rfl⟩
theorem pk_X10_162 {e : Bool} : ∃ (C : String) (T : u_T) (N : Nat), vwCl[10]? = some (C, T, N) ∧ 16 < N ∧ Cond.fieldLink "KettleChoirModel" 162 (T 16).1 (T 16).2.1 (T 16).2.2.1 ∈ kt_T ∧ ((T 16).2.2.2 = false ∨ ((T 16).2.2.2 = true ∧ (T 16).1 = "KettleChoirModel" ∧ e = true)) := ⟨RX10, TX10, 58, rfl, by decide, kw_671, Or.inl rfl⟩
theorem pk_X10_169 {e : Bool} : ∃ (C : String) (T : u_T) (N : Nat), vwCl[10]? = some (C, T, N) ∧ 20 < N ∧ Cond.fieldLink "KettleChoirModel" 169 (T 20).1 (T 20).2.1 (T 20).2.2.1 ∈ kt_T ∧ ((T 20).2.2.2 = false ∨ ((T 20).2.2.2 = true ∧ (T 20).1 = "KettleChoirModel" ∧ e = true)) := ⟨RX10, TX10, 58, rfl, by decide, kw_675, Or.inl rfl⟩
theorem pk_X10_172 {e : Bool} : ∃ (C : String) (T : u_T) (N : Nat), vwCl[10]? = some (C, T, N) ∧ 18 < N ∧ Cond.fieldLink "KettleChoirModel" 172 (T 18).1 (T 18).2.1 (T 18).2.2.1 ∈ kt_T ∧ ((T 18).2.2.2 = false ∨ ((T 18).2.2.2 = true ∧ (T 18).1 = "KettleChoirModel" ∧ e = true)) := ⟨RX10, TX10, 58, rfl, by decide, kw_676, Or.inl rfl⟩
theorem pk_X10_182 {e : Bool} : ∃ (C : String) (T : u_T) (N : Nat), vwCl[10]? = some (C, T, N) ∧ 19 < N ∧ Cond.fieldLink "KettleChoirModel" 182 (T 19).1 (T 19).2.1 (T 19).2.2.1 ∈ kt_T ∧ ((T 19).2.2.2 = false ∨ ((T 19).2.2.2 = true ∧ (T 19).1 = "KettleChoirModel" ∧ e = true)) := ⟨RX10, TX10, 58, rfl, by decide, kw_681, Or.inl rfl⟩
theorem pk_X10_195 {e : Bool} : ∃ (C : String) (T : u_T) (N : Nat), vwCl[10]? = some (C, T, N) ∧ 21 < N ∧ Cond.fieldLink "KettleChoirModel" 195 (T 21).1 (T 21).2.1 (T 21).2.2.1 ∈ kt_T ∧ ((T 21).2.2.2 = false ∨ ((T 21).2.2.2 = true ∧ (T 21).1 = "KettleChoirModel" ∧ e = true)) := ⟨RX10, TX10, 58, rfl, by decide, kw_686, Or.inl rfl⟩
theorem pk_X10_198 {e : Bool} : ∃ (C : String) (T : u_T) (N : Nat), vwCl[10]? = some (C, T, N) ∧ 22 < N ∧ Cond.fieldLink "KettleChoirModel" 198 (T 22).1 (T 22).2.1 (T 22).2.2.1 ∈ kt_T ∧ ((T 22).2.2.2 = false ∨ ((T 22).2.2.2 = true ∧ (T 22).1 = "KettleChoirModel" ∧ e = true)) := ⟨RX10, TX10, 58, rfl, by decide, kw_688, Or.inl rfl⟩
theorem pk_X10_201 {e : Bool} : ∃ (C : String) (T : u_T) (N : Nat), vwCl[10]? = some (C, T, N) ∧ 23 < N ∧ Cond.fieldLink "KettleChoirModel" 201 (T 23).1 (T 23).2.1 (T 23).2.2.1 ∈ kt_T ∧ ((T 23).2.2.2 = false ∨ ((T 23).2.2.2 = true ∧ (T 23).1 = "KettleChoirModel" ∧ e = true)) := ⟨RX10, TX10, 58, rfl, by decide, kw_689, Or.inl rfl⟩
theorem pk_X10_159 {e : Bool} : ∃ (C : String) (T : u_T) (N : Nat), vwCl[10]? = some (C, T, N) ∧ 17 < N ∧ Cond.fieldLink "KettleChoirModel" 159 (T 17).1 (T 17).2.1 (T 17).2.2.1 ∈ kt_T ∧ ((T 17).2.2.2 = false ∨ ((T 17).2.2.2 = true ∧ (T 17).1 = "KettleChoirModel" ∧ e = true)) := ⟨RX10, TX10, 58, rfl, by decide, kw_666, Or.inl rfl⟩
theorem pk_X10_298 {e : Bool} : ∃ (C : String) (T : u_T) (N : Nat), vwCl[10]? = some (C, T, N) ∧ 33 < N ∧ Cond.fieldLink "KettleChoirModel" 298 (T 33).1 (T 33).2.1 (T 33).2.2.1 ∈ kt_T ∧ ((T 33).2.2.2 = false ∨ ((T 33).2.2.2 = true ∧ (T 33).1 = "KettleChoirModel" ∧ e = true)) := ⟨RX10, TX10, 58, rfl, by decide, kw_781, Or.inl rfl⟩
theorem pk_X10_301 {e : Bool} : ∃ (C : String) (T : u_T) (N : Nat), vwCl[10]? = some (C, T, N) ∧ 34 < N ∧ Cond.fieldLink "KettleChoirModel" 301 (T 34).1 (T 34).2.1 (T 34).2.2.1 ∈ kt_T ∧ ((T 34).2.2.2 = false ∨ ((T 34).2.2.2 = true ∧ (T 34).1 = "KettleChoirModel" ∧ e = true)) := ⟨RX10, TX10, 58, rfl, by decide, kw_782, Or.inl rfl⟩
theorem pk_X10_304 {e : Bool} : ∃ (C : String) (T : u_T) (N : Nat), vwCl[10]? = some (C, T, N) ∧ 35 < N ∧ Cond.fieldLink "KettleChoirModel" 304 (T 35).1 (T 35).2.1 (T 35).2.2.1 ∈ kt_T ∧ ((T 35).2.2.2 = false ∨ ((T 35).2.2.2 = true ∧ (T 35).1 = "KettleChoirModel" ∧ e = true)) := ⟨RX10, TX10, 58, rfl, by decide, kw_783, Or.inl rfl⟩
theorem pk_X10_307 {e : Bool} : ∃ (C : String) (T : u_T) (N : Nat), vwCl[10]? = some (C, T, N) ∧ 50 < N ∧ Cond.fieldLink "KettleChoirModel" 307 (T 50).1 (T 50).2.1 (T 50).2.2.1 ∈ kt_T ∧ ((T 50).2.2.2 = false ∨ ((T 50).2.2.2 = true ∧ (T 50).1 = "KettleChoirModel" ∧ e = true)) := ⟨RX10, TX10, 58, rfl, by decide, kw_784, Or.inl rfl⟩
theorem pk_X10_408 {e : Bool} : ∃ (C : String) (T : u_T) (N : Nat), vwCl[10]? = some (C, T, N) ∧ 42 < N ∧ Cond.fieldLink "KettleChoirModel" 408 (T 42).1 (T 42).2.1 (T 42).2.2.1 ∈ kt_T ∧ ((T 42).2.2.2 = false ∨ ((T 42).2.2.2 = true ∧ (T 42).1 = "KettleChoirModel" ∧ e = true)) := ⟨RX10, TX10, 58, rfl, by decide, kw_913, Or.inl rfl⟩
theorem pk_X10_436 {e : Bool} : ∃ (C : String) (T : u_T) (N : Nat), vwCl[10]? = some (C, T, N) ∧ 47 < N ∧ Cond.fieldLink "KettleChoirModel" 436 (T 47).1 (T 47).2.1 (T 47).2.2.1 ∈ kt_T ∧ ((T 47).2.2.2 = false ∨ ((T 47).2.2.2 = true ∧ (T 47).1 = "KettleChoirModel" ∧ e = true)) := ⟨RX10, TX10, 58, rfl, by decide, kw_940, Or.inl rfl⟩
theorem pk_X10_461 {e : Bool} : ∃ (C : String) (T : u_T) (N : Nat), vwCl[10]? = some (C, T, N) ∧ 49 < N ∧ Cond.fieldLink "KettleChoirModel" 461 (T 49).1 (T 49).2.1 (T 49).2.2.1 ∈ kt_T ∧ ((T 49).2.2.2 = false ∨ ((T 49).2.2.2 = true ∧ (T 49).1 = "KettleChoirModel" ∧ e = true)) := ⟨RX10, TX10, 58, rfl, by decide, kw_969, Or.inl rfl⟩
theorem pk_X10_473 {e : Bool} : ∃ (C : String) (T : u_T) (N : Nat), vwCl[10]? = some (C, T, N) ∧ 51 < N ∧ Cond.fieldLink "KettleChoirModel" 473 (T 51).1 (T 51).2.1 (T 51).2.2.1 ∈ kt_T ∧ ((T 51).2.2.2 = false ∨ ((T 51).2.2.2 = true ∧ (T 51).1 = "KettleChoirModel" ∧ e = true)) := ⟨RX10, TX10, 58, rfl, by decide, kw_982, Or.inl rfl⟩
theorem pk_X10_476 {e : Bool} : ∃ (C : String) (T : u_T) (N : Nat), vwCl[10]? = some (C, T, N) ∧ 52 < N ∧ Cond.fieldLink "KettleChoirModel" 476 (T 52).1 (T 52).2.1 (T 52).2.2.1 ∈ kt_T ∧ ((T 52).2.2.2 = false ∨ ((T 52).2.2.2 = true ∧ (T 52).1 = "KettleChoirModel" ∧ e = true)) := ⟨RX10, TX10, 58, rfl, by decide, kw_983, Or.inl rfl⟩
set_option maxRecDepth 20000 in
theorem mt_0 : kt_mt 0 = some M_X0_init := rfl
theorem pd_0 : (parseMethodDescriptor yX0_init.desc).map (fun d => d.parameters.length) = some 0 := by decide +kernel
set_option maxRecDepth 20000 in
theorem mt_1 : kt_mt 1 = some M_X0_clear := rfl
theorem pd_1 : (parseMethodDescriptor yX0_clear.desc).map (fun d => d.parameters.length) = some 0 := by decide +kernel
set_option maxRecDepth 20000 in
theorem mt_2 : kt_mt 2 = some M_X0_push := rfl
theorem pd_2 : (parseMethodDescriptor yX0_push.desc).map (fun d => d.parameters.length) = some 1 := by decide +kernel
set_option maxRecDepth 20000 in
theorem mt_3 : kt_mt 3 = some M_X0_pop := rfl
theorem pd_3 : (parseMethodDescriptor yX0_pop.desc).map (fun d => d.parameters.length) = some 1 := by decide +kernel
set_option maxRecDepth 20000 in
theorem mt_4 : kt_mt 4 = some M_X0_take := rfl
theorem pd_4 : (parseMethodDescriptor yX0_take.desc).map (fun d => d.parameters.length) = some 1 := by decide +kernel
set_option maxRecDepth 20000 in
theorem mt_5 : kt_mt 5 = some M_X1_init := rfl
theorem pd_5 : (parseMethodDescriptor yX1_init.desc).map (fun d => d.parameters.length) = some 0 := by decide +kernel
set_option maxRecDepth 20000 in
theorem mt_6 : kt_mt 6 = some M_X1_fitsAsItIs := rfl
theorem pd_6 : (parseMethodDescriptor yX1_fitsAsItIs.desc).map (fun d => d.parameters.length) = some 3 := by decide +kernel
set_option maxRecDepth 20000 in
theorem mt_7 : kt_mt 7 = some M_X1_search := rfl
theorem pd_7 : (parseMethodDescriptor yX1_search.desc).map (fun d => d.parameters.length) = some 3 := by decide +kernel
set_option maxRecDepth 20000 in
theorem mt_8 : kt_mt 8 = some M_X1_fits := rfl
theorem pd_8 : (parseMethodDescriptor yX1_fits.desc).map (fun d => d.parameters.length) = some 2 := by decide +kernel
set_option maxRecDepth 20000 in
theorem mt_9 : kt_mt 9 = some M_X1_collect := rfl
theorem pd_9 : (parseMethodDescriptor yX1_collect.desc).map (fun d => d.parameters.length) = some 0 := by decide +kernel
set_option maxRecDepth 20000 in
theorem mt_10 : kt_mt 10 = some M_X1_chooseMinute := rfl
theorem pd_10 : (parseMethodDescriptor yX1_chooseMinute.desc).map (fun d => d.parameters.length) = some 0 := by decide +kernel
set_option maxRecDepth 20000 in
theorem mt_11 : kt_mt 11 = some M_X2_init := rfl
theorem pd_11 : (parseMethodDescriptor yX2_init.desc).map (fun d => d.parameters.length) = some 0 := by decide +kernel
set_option maxRecDepth 20000 in
theorem mt_12 : kt_mt 12 = some M_X2_clear := rfl
theorem pd_12 : (parseMethodDescriptor yX2_clear.desc).map (fun d => d.parameters.length) = some 0 := by decide +kernel
set_option maxRecDepth 20000 in
theorem mt_13 : kt_mt 13 = some M_X2_add := rfl
theorem pd_13 : (parseMethodDescriptor yX2_add.desc).map (fun d => d.parameters.length) = some 2 := by decide +kernel
set_option maxRecDepth 20000 in
theorem mt_14 : kt_mt 14 = some M_X2_take := rfl
theorem pd_14 : (parseMethodDescriptor yX2_take.desc).map (fun d => d.parameters.length) = some 1 := by decide +kernel
set_option maxRecDepth 20000 in
theorem mt_15 : kt_mt 15 = some M_X3_init := rfl
theorem pd_15 : (parseMethodDescriptor yX3_init.desc).map (fun d => d.parameters.length) = some 0 := by decide +kernel
set_option maxRecDepth 20000 in
theorem mt_16 : kt_mt 16 = some M_X3_keep := rfl
theorem pd_16 : (parseMethodDescriptor yX3_keep.desc).map (fun d => d.parameters.length) = some 4 := by decide +kernel
set_option maxRecDepth 20000 in
theorem mt_17 : kt_mt 17 = some M_X3_giveBack := rfl
theorem pd_17 : (parseMethodDescriptor yX3_giveBack.desc).map (fun d => d.parameters.length) = some 4 := by decide +kernel
set_option maxRecDepth 20000 in
theorem mt_18 : kt_mt 18 = some M_X4_init := rfl
theorem pd_18 : (parseMethodDescriptor yX4_init.desc).map (fun d => d.parameters.length) = some 0 := by decide +kernel
set_option maxRecDepth 20000 in
theorem mt_19 : kt_mt 19 = some M_X4_clear := rfl
theorem pd_19 : (parseMethodDescriptor yX4_clear.desc).map (fun d => d.parameters.length) = some 0 := by decide +kernel
set_option maxRecDepth 20000 in
theorem mt_20 : kt_mt 20 = some M_X4_take := rfl
theorem pd_20 : (parseMethodDescriptor yX4_take.desc).map (fun d => d.parameters.length) = some 1 := by decide +kernel
set_option maxRecDepth 20000 in
theorem mt_21 : kt_mt 21 = some M_X4_open := rfl
theorem pd_21 : (parseMethodDescriptor yX4_open.desc).map (fun d => d.parameters.length) = some 1 := by decide +kernel
set_option maxRecDepth 20000 in
theorem mt_22 : kt_mt 22 = some M_X4_kettleOn := rfl
theorem pd_22 : (parseMethodDescriptor yX4_kettleOn.desc).map (fun d => d.parameters.length) = some 2 := by decide +kernel
set_option maxRecDepth 20000 in
theorem mt_23 : kt_mt 23 = some M_X4_pass := rfl
theorem pd_23 : (parseMethodDescriptor yX4_pass.desc).map (fun d => d.parameters.length) = some 1 := by decide +kernel
set_option maxRecDepth 20000 in
theorem mt_24 : kt_mt 24 = some M_X4_warm := rfl
theorem pd_24 : (parseMethodDescriptor yX4_warm.desc).map (fun d => d.parameters.length) = some 3 := by decide +kernel
set_option maxRecDepth 20000 in
theorem mt_25 : kt_mt 25 = some M_X4_sing := rfl
theorem pd_25 : (parseMethodDescriptor yX4_sing.desc).map (fun d => d.parameters.length) = some 1 := by decide +kernel
set_option maxRecDepth 20000 in
theorem mt_26 : kt_mt 26 = some M_X4_voice := rfl
theorem pd_26 : (parseMethodDescriptor yX4_voice.desc).map (fun d => d.parameters.length) = some 2 := by decide +kernel
set_option maxRecDepth 20000 in
theorem mt_27 : kt_mt 27 = some M_X4_couldSing := rfl
theorem pd_27 : (parseMethodDescriptor yX4_couldSing.desc).map (fun d => d.parameters.length) = some 2 := by decide +kernel
set_option maxRecDepth 20000 in
theorem mt_28 : kt_mt 28 = some M_X4_noteOf := rfl
theorem pd_28 : (parseMethodDescriptor yX4_noteOf.desc).map (fun d => d.parameters.length) = some 4 := by decide +kernel
set_option maxRecDepth 20000 in
theorem mt_29 : kt_mt 29 = some M_X4_serve := rfl
theorem pd_29 : (parseMethodDescriptor yX4_serve.desc).map (fun d => d.parameters.length) = some 1 := by decide +kernel
set_option maxRecDepth 20000 in
theorem mt_30 : kt_mt 30 = some M_X4_sounds := rfl
theorem pd_30 : (parseMethodDescriptor yX4_sounds.desc).map (fun d => d.parameters.length) = some 1 := by decide +kernel
set_option maxRecDepth 20000 in
theorem mt_31 : kt_mt 31 = some M_X4_boil := rfl
theorem pd_31 : (parseMethodDescriptor yX4_boil.desc).map (fun d => d.parameters.length) = some 2 := by decide +kernel
set_option maxRecDepth 20000 in
theorem mt_32 : kt_mt 32 = some M_X4_cook := rfl
theorem pd_32 : (parseMethodDescriptor yX4_cook.desc).map (fun d => d.parameters.length) = some 1 := by decide +kernel
set_option maxRecDepth 20000 in
theorem mt_33 : kt_mt 33 = some M_X4_look := rfl
theorem pd_33 : (parseMethodDescriptor yX4_look.desc).map (fun d => d.parameters.length) = some 2 := by decide +kernel
set_option maxRecDepth 20000 in
theorem mt_34 : kt_mt 34 = some M_X5_init := rfl
theorem pd_34 : (parseMethodDescriptor yX5_init.desc).map (fun d => d.parameters.length) = some 0 := by decide +kernel
set_option maxRecDepth 20000 in
theorem mt_35 : kt_mt 35 = some M_X5_plan := rfl
theorem pd_35 : (parseMethodDescriptor yX5_plan.desc).map (fun d => d.parameters.length) = some 3 := by decide +kernel
set_option maxRecDepth 20000 in
theorem mt_36 : kt_mt 36 = some M_X5_search := rfl
theorem pd_36 : (parseMethodDescriptor yX5_search.desc).map (fun d => d.parameters.length) = some 3 := by decide +kernel
set_option maxRecDepth 20000 in
theorem mt_37 : kt_mt 37 = some M_X5_choose := rfl
theorem pd_37 : (parseMethodDescriptor yX5_choose.desc).map (fun d => d.parameters.length) = some 3 := by decide +kernel
set_option maxRecDepth 20000 in
theorem mt_38 : kt_mt 38 = some M_X5_setOut := rfl
theorem pd_38 : (parseMethodDescriptor yX5_setOut.desc).map (fun d => d.parameters.length) = some 2 := by decide +kernel
set_option maxRecDepth 20000 in
theorem mt_39 : kt_mt 39 = some M_X5_enoughVoices := rfl
theorem pd_39 : (parseMethodDescriptor yX5_enoughVoices.desc).map (fun d => d.parameters.length) = some 2 := by decide +kernel
set_option maxRecDepth 20000 in
theorem mt_40 : kt_mt 40 = some M_X5_readyMinute := rfl
theorem pd_40 : (parseMethodDescriptor yX5_readyMinute.desc).map (fun d => d.parameters.length) = some 3 := by decide +kernel
set_option maxRecDepth 20000 in
theorem mt_41 : kt_mt 41 = some M_X6_init := rfl
theorem pd_41 : (parseMethodDescriptor yX6_init.desc).map (fun d => d.parameters.length) = some 0 := by decide +kernel
set_option maxRecDepth 20000 in
theorem mt_42 : kt_mt 42 = some M_X6_append := rfl
theorem pd_42 : (parseMethodDescriptor yX6_append.desc).map (fun d => d.parameters.length) = some 1 := by decide +kernel
set_option maxRecDepth 20000 in
theorem mt_43 : kt_mt 43 = some M_X6_read := rfl
theorem pd_43 : (parseMethodDescriptor yX6_read.desc).map (fun d => d.parameters.length) = some 1 := by decide +kernel
set_option maxRecDepth 20000 in
theorem mt_44 : kt_mt 44 = some M_X6_line := rfl
theorem pd_44 : (parseMethodDescriptor yX6_line.desc).map (fun d => d.parameters.length) = some 0 := by decide +kernel
set_option maxRecDepth 20000 in
theorem mt_45 : kt_mt 45 = some M_X6_kettleLine := rfl
theorem pd_45 : (parseMethodDescriptor yX6_kettleLine.desc).map (fun d => d.parameters.length) = some 1 := by decide +kernel
set_option maxRecDepth 20000 in
theorem mt_46 : kt_mt 46 = some M_X6_stoveLine := rfl
theorem pd_46 : (parseMethodDescriptor yX6_stoveLine.desc).map (fun d => d.parameters.length) = some 0 := by decide +kernel
set_option maxRecDepth 20000 in
theorem mt_47 : kt_mt 47 = some M_X6_dishLine := rfl
theorem pd_47 : (parseMethodDescriptor yX6_dishLine.desc).map (fun d => d.parameters.length) = some 0 := by decide +kernel
set_option maxRecDepth 20000 in
theorem mt_48 : kt_mt 48 = some M_X6_step := rfl
theorem pd_48 : (parseMethodDescriptor yX6_step.desc).map (fun d => d.parameters.length) = some 1 := by decide +kernel
set_option maxRecDepth 20000 in
theorem mt_49 : kt_mt 49 = some M_X6_hasStep := rfl
theorem pd_49 : (parseMethodDescriptor yX6_hasStep.desc).map (fun d => d.parameters.length) = some 1 := by decide +kernel
set_option maxRecDepth 20000 in
theorem mt_50 : kt_mt 50 = some M_X6_liftsLine := rfl
theorem pd_50 : (parseMethodDescriptor yX6_liftsLine.desc).map (fun d => d.parameters.length) = some 0 := by decide +kernel
set_option maxRecDepth 20000 in
theorem mt_51 : kt_mt 51 = some M_X6_expr := rfl
theorem pd_51 : (parseMethodDescriptor yX6_expr.desc).map (fun d => d.parameters.length) = some 1 := by decide +kernel
set_option maxRecDepth 20000 in
theorem mt_52 : kt_mt 52 = some M_X6_both := rfl
theorem pd_52 : (parseMethodDescriptor yX6_both.desc).map (fun d => d.parameters.length) = some 1 := by decide +kernel
set_option maxRecDepth 20000 in
theorem mt_53 : kt_mt 53 = some M_X6_test := rfl
theorem pd_53 : (parseMethodDescriptor yX6_test.desc).map (fun d => d.parameters.length) = some 1 := by decide +kernel
set_option maxRecDepth 20000 in
theorem mt_54 : kt_mt 54 = some M_X6_sum := rfl
theorem pd_54 : (parseMethodDescriptor yX6_sum.desc).map (fun d => d.parameters.length) = some 1 := by decide +kernel
set_option maxRecDepth 20000 in
theorem mt_55 : kt_mt 55 = some M_X6_product := rfl
theorem pd_55 : (parseMethodDescriptor yX6_product.desc).map (fun d => d.parameters.length) = some 1 := by decide +kernel
set_option maxRecDepth 20000 in
theorem mt_56 : kt_mt 56 = some M_X6_part := rfl
theorem pd_56 : (parseMethodDescriptor yX6_part.desc).map (fun d => d.parameters.length) = some 1 := by decide +kernel
set_option maxRecDepth 20000 in
theorem mt_57 : kt_mt 57 = some M_X6_kettleWord := rfl
theorem pd_57 : (parseMethodDescriptor yX6_kettleWord.desc).map (fun d => d.parameters.length) = some 0 := by decide +kernel
set_option maxRecDepth 20000 in
theorem mt_58 : kt_mt 58 = some M_X6_valueWord := rfl
theorem pd_58 : (parseMethodDescriptor yX6_valueWord.desc).map (fun d => d.parameters.length) = some 0 := by decide +kernel
set_option maxRecDepth 20000 in
theorem mt_59 : kt_mt 59 = some M_X6_numberOf := rfl
theorem pd_59 : (parseMethodDescriptor yX6_numberOf.desc).map (fun d => d.parameters.length) = some 2 := by decide +kernel
set_option maxRecDepth 20000 in
theorem mt_60 : kt_mt 60 = some M_X6_needNumber := rfl
theorem pd_60 : (parseMethodDescriptor yX6_needNumber.desc).map (fun d => d.parameters.length) = some 2 := by decide +kernel
set_option maxRecDepth 20000 in
theorem mt_61 : kt_mt 61 = some M_X6_expect := rfl
theorem pd_61 : (parseMethodDescriptor yX6_expect.desc).map (fun d => d.parameters.length) = some 1 := by decide +kernel
set_option maxRecDepth 20000 in
theorem mt_62 : kt_mt 62 = some M_X6_fail := rfl
theorem pd_62 : (parseMethodDescriptor yX6_fail.desc).map (fun d => d.parameters.length) = some 1 := by decide +kernel
set_option maxRecDepth 20000 in
theorem mt_63 : kt_mt 63 = some M_X6_isWord := rfl
theorem pd_63 : (parseMethodDescriptor yX6_isWord.desc).map (fun d => d.parameters.length) = some 1 := by decide +kernel
set_option maxRecDepth 20000 in
theorem mt_64 : kt_mt 64 = some M_X6_isSign := rfl
theorem pd_64 : (parseMethodDescriptor yX6_isSign.desc).map (fun d => d.parameters.length) = some 1 := by decide +kernel
set_option maxRecDepth 20000 in
theorem mt_65 : kt_mt 65 = some M_X6_advance := rfl
theorem pd_65 : (parseMethodDescriptor yX6_advance.desc).map (fun d => d.parameters.length) = some 0 := by decide +kernel
set_option maxRecDepth 20000 in
theorem mt_66 : kt_mt 66 = some M_X6_sortAt := rfl
theorem pd_66 : (parseMethodDescriptor yX6_sortAt.desc).map (fun d => d.parameters.length) = some 1 := by decide +kernel
set_option maxRecDepth 20000 in
theorem mt_67 : kt_mt 67 = some M_X7_init := rfl
theorem pd_67 : (parseMethodDescriptor yX7_init.desc).map (fun d => d.parameters.length) = some 0 := by decide +kernel
set_option maxRecDepth 20000 in
theorem mt_68 : kt_mt 68 = some M_X7_add := rfl
theorem pd_68 : (parseMethodDescriptor yX7_add.desc).map (fun d => d.parameters.length) = some 1 := by decide +kernel
set_option maxRecDepth 20000 in
theorem mt_69 : kt_mt 69 = some M_X7_take := rfl
theorem pd_69 : (parseMethodDescriptor yX7_take.desc).map (fun d => d.parameters.length) = some 1 := by decide +kernel
set_option maxRecDepth 20000 in
theorem mt_70 : kt_mt 70 = some M_X7_gives := rfl
theorem pd_70 : (parseMethodDescriptor yX7_gives.desc).map (fun d => d.parameters.length) = some 1 := by decide +kernel
set_option maxRecDepth 20000 in
theorem mt_71 : kt_mt 71 = some M_X7_joined := rfl
theorem pd_71 : (parseMethodDescriptor yX7_joined.desc).map (fun d => d.parameters.length) = some 3 := by decide +kernel
set_option maxRecDepth 20000 in
theorem mt_72 : kt_mt 72 = some M_X8_init := rfl
theorem pd_72 : (parseMethodDescriptor yX8_init.desc).map (fun d => d.parameters.length) = some 0 := by decide +kernel
set_option maxRecDepth 20000 in
theorem mt_73 : kt_mt 73 = some M_X8_nearestFill := rfl
theorem pd_73 : (parseMethodDescriptor yX8_nearestFill.desc).map (fun d => d.parameters.length) = some 4 := by decide +kernel
set_option maxRecDepth 20000 in
theorem mt_74 : kt_mt 74 = some M_X8_leastCups := rfl
theorem pd_74 : (parseMethodDescriptor yX8_leastCups.desc).map (fun d => d.parameters.length) = some 3 := by decide +kernel
set_option maxRecDepth 20000 in
theorem mt_75 : kt_mt 75 = some M_X8_cupsFor := rfl
theorem pd_75 : (parseMethodDescriptor yX8_cupsFor.desc).map (fun d => d.parameters.length) = some 3 := by decide +kernel
set_option maxRecDepth 20000 in
theorem mt_76 : kt_mt 76 = some M_X8_cupsTo := rfl
theorem pd_76 : (parseMethodDescriptor yX8_cupsTo.desc).map (fun d => d.parameters.length) = some 4 := by decide +kernel
set_option maxRecDepth 20000 in
theorem mt_77 : kt_mt 77 = some M_X8_join := rfl
theorem pd_77 : (parseMethodDescriptor yX8_join.desc).map (fun d => d.parameters.length) = some 1 := by decide +kernel
set_option maxRecDepth 20000 in
theorem mt_78 : kt_mt 78 = some M_X9_init := rfl
theorem pd_78 : (parseMethodDescriptor yX9_init.desc).map (fun d => d.parameters.length) = some 0 := by decide +kernel
set_option maxRecDepth 20000 in
theorem mt_79 : kt_mt 79 = some M_X9_feed := rfl
theorem pd_79 : (parseMethodDescriptor yX9_feed.desc).map (fun d => d.parameters.length) = some 5 := by decide +kernel
set_option maxRecDepth 20000 in
theorem mt_80 : kt_mt 80 = some M_X9_kitchen := rfl
theorem pd_80 : (parseMethodDescriptor yX9_kitchen.desc).map (fun d => d.parameters.length) = some 1 := by decide +kernel
set_option maxRecDepth 20000 in
theorem mt_81 : kt_mt 81 = some M_X9_fault := rfl
theorem pd_81 : (parseMethodDescriptor yX9_fault.desc).map (fun d => d.parameters.length) = some 0 := by decide +kernel
set_option maxRecDepth 20000 in
theorem mt_82 : kt_mt 82 = some M_X9_count := rfl
theorem pd_82 : (parseMethodDescriptor yX9_count.desc).map (fun d => d.parameters.length) = some 1 := by decide +kernel
set_option maxRecDepth 20000 in
theorem mt_83 : kt_mt 83 = some M_X9_kettle := rfl
theorem pd_83 : (parseMethodDescriptor yX9_kettle.desc).map (fun d => d.parameters.length) = some 2 := by decide +kernel
set_option maxRecDepth 20000 in
theorem mt_84 : kt_mt 84 = some M_X9_stove := rfl
theorem pd_84 : (parseMethodDescriptor yX9_stove.desc).map (fun d => d.parameters.length) = some 2 := by decide +kernel
set_option maxRecDepth 20000 in
theorem mt_85 : kt_mt 85 = some M_X9_dish := rfl
theorem pd_85 : (parseMethodDescriptor yX9_dish.desc).map (fun d => d.parameters.length) = some 2 := by decide +kernel
set_option maxRecDepth 20000 in
theorem mt_86 : kt_mt 86 = some M_X9_minutes := rfl
theorem pd_86 : (parseMethodDescriptor yX9_minutes.desc).map (fun d => d.parameters.length) = some 1 := by decide +kernel
set_option maxRecDepth 20000 in
theorem mt_87 : kt_mt 87 = some M_X9_put := rfl
theorem pd_87 : (parseMethodDescriptor yX9_put.desc).map (fun d => d.parameters.length) = some 2 := by decide +kernel
set_option maxRecDepth 20000 in
theorem mt_88 : kt_mt 88 = some M_X9_lift := rfl
theorem pd_88 : (parseMethodDescriptor yX9_lift.desc).map (fun d => d.parameters.length) = some 1 := by decide +kernel
set_option maxRecDepth 20000 in
theorem mt_89 : kt_mt 89 = some M_X9_pour := rfl
theorem pd_89 : (parseMethodDescriptor yX9_pour.desc).map (fun d => d.parameters.length) = some 2 := by decide +kernel
set_option maxRecDepth 20000 in
theorem mt_90 : kt_mt 90 = some M_X9_scrape := rfl
theorem pd_90 : (parseMethodDescriptor yX9_scrape.desc).map (fun d => d.parameters.length) = some 1 := by decide +kernel
set_option maxRecDepth 20000 in
theorem mt_91 : kt_mt 91 = some M_X9_undo := rfl
theorem pd_91 : (parseMethodDescriptor yX9_undo.desc).map (fun d => d.parameters.length) = some 0 := by decide +kernel
set_option maxRecDepth 20000 in
theorem mt_92 : kt_mt 92 = some M_X9_then := rfl
theorem pd_92 : (parseMethodDescriptor yX9_then.desc).map (fun d => d.parameters.length) = some 2 := by decide +kernel
set_option maxRecDepth 20000 in
theorem mt_93 : kt_mt 93 = some M_X9_sung := rfl
theorem pd_93 : (parseMethodDescriptor yX9_sung.desc).map (fun d => d.parameters.length) = some 1 := by decide +kernel
set_option maxRecDepth 20000 in
theorem mt_94 : kt_mt 94 = some M_X9_done := rfl
theorem pd_94 : (parseMethodDescriptor yX9_done.desc).map (fun d => d.parameters.length) = some 1 := by decide +kernel
set_option maxRecDepth 20000 in
theorem mt_95 : kt_mt 95 = some M_X9_fugue := rfl
theorem pd_95 : (parseMethodDescriptor yX9_fugue.desc).map (fun d => d.parameters.length) = some 1 := by decide +kernel
set_option maxRecDepth 20000 in
theorem mt_96 : kt_mt 96 = some M_X9_quiet := rfl
theorem pd_96 : (parseMethodDescriptor yX9_quiet.desc).map (fun d => d.parameters.length) = some 0 := by decide +kernel
set_option maxRecDepth 20000 in
theorem mt_97 : kt_mt 97 = some M_X9_loudest := rfl
theorem pd_97 : (parseMethodDescriptor yX9_loudest.desc).map (fun d => d.parameters.length) = some 1 := by decide +kernel
set_option maxRecDepth 20000 in
theorem mt_98 : kt_mt 98 = some M_X9_dry := rfl
theorem pd_98 : (parseMethodDescriptor yX9_dry.desc).map (fun d => d.parameters.length) = some 1 := by decide +kernel
set_option maxRecDepth 20000 in
theorem mt_99 : kt_mt 99 = some M_X9_soonest := rfl
theorem pd_99 : (parseMethodDescriptor yX9_soonest.desc).map (fun d => d.parameters.length) = some 2 := by decide +kernel
set_option maxRecDepth 20000 in
theorem mt_100 : kt_mt 100 = some M_X9_tuned := rfl
theorem pd_100 : (parseMethodDescriptor yX9_tuned.desc).map (fun d => d.parameters.length) = some 2 := by decide +kernel
set_option maxRecDepth 20000 in
theorem mt_101 : kt_mt 101 = some M_X9_chord := rfl
theorem pd_101 : (parseMethodDescriptor yX9_chord.desc).map (fun d => d.parameters.length) = some 1 := by decide +kernel
set_option maxRecDepth 20000 in
theorem mt_102 : kt_mt 102 = some M_X9_burner := rfl
theorem pd_102 : (parseMethodDescriptor yX9_burner.desc).map (fun d => d.parameters.length) = some 2 := by decide +kernel
set_option maxRecDepth 20000 in
theorem mt_103 : kt_mt 103 = some M_X9_together := rfl
theorem pd_103 : (parseMethodDescriptor yX9_together.desc).map (fun d => d.parameters.length) = some 4 := by decide +kernel
set_option maxRecDepth 20000 in
theorem mt_104 : kt_mt 104 = some M_X9_hear := rfl
theorem pd_104 : (parseMethodDescriptor yX9_hear.desc).map (fun d => d.parameters.length) = some 2 := by decide +kernel
set_option maxRecDepth 20000 in
theorem mt_105 : kt_mt 105 = some M_X9_chalk := rfl
theorem pd_105 : (parseMethodDescriptor yX9_chalk.desc).map (fun d => d.parameters.length) = some 1 := by decide +kernel
set_option maxRecDepth 20000 in
theorem mt_106 : kt_mt 106 = some M_X9_listen := rfl
theorem pd_106 : (parseMethodDescriptor yX9_listen.desc).map (fun d => d.parameters.length) = some 1 := by decide +kernel
set_option maxRecDepth 20000 in
theorem mt_107 : kt_mt 107 = some M_X9_forget := rfl
theorem pd_107 : (parseMethodDescriptor yX9_forget.desc).map (fun d => d.parameters.length) = some 0 := by decide +kernel
set_option maxRecDepth 20000 in
theorem mt_108 : kt_mt 108 = some M_X9_game := rfl
theorem pd_108 : (parseMethodDescriptor yX9_game.desc).map (fun d => d.parameters.length) = some 3 := by decide +kernel
set_option maxRecDepth 20000 in
theorem mt_109 : kt_mt 109 = some M_X9_evening := rfl
theorem pd_109 : (parseMethodDescriptor yX9_evening.desc).map (fun d => d.parameters.length) = some 3 := by decide +kernel
set_option maxRecDepth 20000 in
theorem mt_110 : kt_mt 110 = some M_X9_image := rfl
theorem pd_110 : (parseMethodDescriptor yX9_image.desc).map (fun d => d.parameters.length) = some 0 := by decide +kernel
set_option maxRecDepth 20000 in
theorem mt_111 : kt_mt 111 = some M_X9_restore := rfl
theorem pd_111 : (parseMethodDescriptor yX9_restore.desc).map (fun d => d.parameters.length) = some 0 := by decide +kernel
set_option maxRecDepth 20000 in
theorem mt_112 : kt_mt 112 = some M_X9_needKettle := rfl
theorem pd_112 : (parseMethodDescriptor yX9_needKettle.desc).map (fun d => d.parameters.length) = some 1 := by decide +kernel
set_option maxRecDepth 20000 in
theorem mt_113 : kt_mt 113 = some M_X9_needStove := rfl
theorem pd_113 : (parseMethodDescriptor yX9_needStove.desc).map (fun d => d.parameters.length) = some 1 := by decide +kernel
set_option maxRecDepth 20000 in
theorem mt_114 : kt_mt 114 = some M_X9_needDish := rfl
theorem pd_114 : (parseMethodDescriptor yX9_needDish.desc).map (fun d => d.parameters.length) = some 1 := by decide +kernel
set_option maxRecDepth 20000 in
theorem mt_115 : kt_mt 115 = some M_X9_needFarMinutes := rfl
theorem pd_115 : (parseMethodDescriptor yX9_needFarMinutes.desc).map (fun d => d.parameters.length) = some 1 := by decide +kernel
set_option maxRecDepth 20000 in
theorem mt_116 : kt_mt 116 = some M_X9_beginAct := rfl
theorem pd_116 : (parseMethodDescriptor yX9_beginAct.desc).map (fun d => d.parameters.length) = some 0 := by decide +kernel
set_option maxRecDepth 20000 in
theorem mt_117 : kt_mt 117 = some M_X9_changed := rfl
theorem pd_117 : (parseMethodDescriptor yX9_changed.desc).map (fun d => d.parameters.length) = some 0 := by decide +kernel
set_option maxRecDepth 20000 in
theorem mt_118 : kt_mt 118 = some M_X9_beginTrial := rfl
theorem pd_118 : (parseMethodDescriptor yX9_beginTrial.desc).map (fun d => d.parameters.length) = some 0 := by decide +kernel
set_option maxRecDepth 20000 in
theorem mt_119 : kt_mt 119 = some M_X9_singing := rfl
theorem pd_119 : (parseMethodDescriptor yX9_singing.desc).map (fun d => d.parameters.length) = some 0 := by decide +kernel
set_option maxRecDepth 20000 in
theorem mt_120 : kt_mt 120 = some M_X9_readyDishes := rfl
theorem pd_120 : (parseMethodDescriptor yX9_readyDishes.desc).map (fun d => d.parameters.length) = some 1 := by decide +kernel
set_option maxRecDepth 20000 in
theorem mt_121 : kt_mt 121 = some M_X9_lids := rfl
theorem pd_121 : (parseMethodDescriptor yX9_lids.desc).map (fun d => d.parameters.length) = some 0 := by decide +kernel
set_option maxRecDepth 20000 in
theorem mt_122 : kt_mt 122 = some M_X9_thirds := rfl
theorem pd_122 : (parseMethodDescriptor yX9_thirds.desc).map (fun d => d.parameters.length) = some 0 := by decide +kernel
set_option maxRecDepth 20000 in
theorem mt_123 : kt_mt 123 = some M_X9_apart := rfl
theorem pd_123 : (parseMethodDescriptor yX9_apart.desc).map (fun d => d.parameters.length) = some 2 := by decide +kernel
set_option maxRecDepth 20000 in
theorem mt_124 : kt_mt 124 = some M_X9_burn := rfl
theorem pd_124 : (parseMethodDescriptor yX9_burn.desc).map (fun d => d.parameters.length) = some 2 := by decide +kernel
set_option maxRecDepth 20000 in
theorem mt_125 : kt_mt 125 = some M_X9_isBest := rfl
theorem pd_125 : (parseMethodDescriptor yX9_isBest.desc).map (fun d => d.parameters.length) = some 4 := by decide +kernel
set_option maxRecDepth 20000 in
theorem mt_126 : kt_mt 126 = some M_X9_gain := rfl
theorem pd_126 : (parseMethodDescriptor yX9_gain.desc).map (fun d => d.parameters.length) = some 4 := by decide +kernel
set_option maxRecDepth 20000 in
theorem mt_127 : kt_mt 127 = some M_X9_nextSeed := rfl
theorem pd_127 : (parseMethodDescriptor yX9_nextSeed.desc).map (fun d => d.parameters.length) = some 1 := by decide +kernel
set_option maxRecDepth 20000 in
theorem mt_128 : kt_mt 128 = some M_X9_draw := rfl
theorem pd_128 : (parseMethodDescriptor yX9_draw.desc).map (fun d => d.parameters.length) = some 2 := by decide +kernel
set_option maxRecDepth 20000 in
theorem mt_129 : kt_mt 129 = some M_X9_meddle := rfl
theorem pd_129 : (parseMethodDescriptor yX9_meddle.desc).map (fun d => d.parameters.length) = some 2 := by decide +kernel
set_option maxRecDepth 20000 in
theorem mt_130 : kt_mt 130 = some M_X9_freeStove := rfl
theorem pd_130 : (parseMethodDescriptor yX9_freeStove.desc).map (fun d => d.parameters.length) = some 0 := by decide +kernel
set_option maxRecDepth 20000 in
theorem mt_131 : kt_mt 131 = some M_X9_highestNote := rfl
theorem pd_131 : (parseMethodDescriptor yX9_highestNote.desc).map (fun d => d.parameters.length) = some 1 := by decide +kernel
set_option maxRecDepth 20000 in
theorem mt_132 : kt_mt 132 = some M_X10_init := rfl
theorem pd_132 : (parseMethodDescriptor yX10_init.desc).map (fun d => d.parameters.length) = some 0 := by decide +kernel
set_option maxRecDepth 20000 in
theorem mt_133 : kt_mt 133 = some M_X10_thrown := rfl
theorem pd_133 : (parseMethodDescriptor yX10_thrown.desc).map (fun d => d.parameters.length) = some 0 := by decide +kernel
set_option maxRecDepth 20000 in
theorem mt_134 : kt_mt 134 = some M_X10_fail := rfl
theorem pd_134 : (parseMethodDescriptor yX10_fail.desc).map (fun d => d.parameters.length) = some 1 := by decide +kernel
set_option maxRecDepth 20000 in
theorem mt_135 : kt_mt 135 = some M_X10_failing := rfl
theorem pd_135 : (parseMethodDescriptor yX10_failing.desc).map (fun d => d.parameters.length) = some 1 := by decide +kernel
set_option maxRecDepth 20000 in
theorem mt_136 : kt_mt 136 = some M_X10_isIn := rfl
theorem pd_136 : (parseMethodDescriptor yX10_isIn.desc).map (fun d => d.parameters.length) = some 3 := by decide +kernel
set_option maxRecDepth 20000 in
theorem mt_137 : kt_mt 137 = some M_X10_isOf := rfl
theorem pd_137 : (parseMethodDescriptor yX10_isOf.desc).map (fun d => d.parameters.length) = some 2 := by decide +kernel
set_option maxRecDepth 20000 in
theorem mt_138 : kt_mt 138 = some M_X10_isKettle := rfl
theorem pd_138 : (parseMethodDescriptor yX10_isKettle.desc).map (fun d => d.parameters.length) = some 1 := by decide +kernel
set_option maxRecDepth 20000 in
theorem mt_139 : kt_mt 139 = some M_X10_isStove := rfl
theorem pd_139 : (parseMethodDescriptor yX10_isStove.desc).map (fun d => d.parameters.length) = some 1 := by decide +kernel
set_option maxRecDepth 20000 in
theorem mt_140 : kt_mt 140 = some M_X10_isDish := rfl
theorem pd_140 : (parseMethodDescriptor yX10_isDish.desc).map (fun d => d.parameters.length) = some 1 := by decide +kernel
set_option maxRecDepth 20000 in
theorem mt_141 : kt_mt 141 = some M_X10_feed := rfl
theorem pd_141 : (parseMethodDescriptor yX10_feed.desc).map (fun d => d.parameters.length) = some 5 := by decide +kernel
set_option maxRecDepth 20000 in
theorem mt_142 : kt_mt 142 = some M_X10_byteAt := rfl
theorem pd_142 : (parseMethodDescriptor yX10_byteAt.desc).map (fun d => d.parameters.length) = some 1 := by decide +kernel
set_option maxRecDepth 20000 in
theorem mt_143 : kt_mt 143 = some M_X10_isLetter := rfl
theorem pd_143 : (parseMethodDescriptor yX10_isLetter.desc).map (fun d => d.parameters.length) = some 1 := by decide +kernel
set_option maxRecDepth 20000 in
theorem mt_144 : kt_mt 144 = some M_X10_isDigit := rfl
theorem pd_144 : (parseMethodDescriptor yX10_isDigit.desc).map (fun d => d.parameters.length) = some 1 := by decide +kernel
set_option maxRecDepth 20000 in
theorem mt_145 : kt_mt 145 = some M_X10_isMark := rfl
theorem pd_145 : (parseMethodDescriptor yX10_isMark.desc).map (fun d => d.parameters.length) = some 1 := by decide +kernel
set_option maxRecDepth 20000 in
theorem mt_146 : kt_mt 146 = some M_X10_stepOn := rfl
theorem pd_146 : (parseMethodDescriptor yX10_stepOn.desc).map (fun d => d.parameters.length) = some 0 := by decide +kernel
set_option maxRecDepth 20000 in
theorem mt_147 : kt_mt 147 = some M_X10_wrong := rfl
theorem pd_147 : (parseMethodDescriptor yX10_wrong.desc).map (fun d => d.parameters.length) = some 1 := by decide +kernel
set_option maxRecDepth 20000 in
theorem mt_148 : kt_mt 148 = some M_X10_is := rfl
theorem pd_148 : (parseMethodDescriptor yX10_is.desc).map (fun d => d.parameters.length) = some 1 := by decide +kernel
set_option maxRecDepth 20000 in
theorem mt_149 : kt_mt 149 = some M_X10_which := rfl
theorem pd_149 : (parseMethodDescriptor yX10_which.desc).map (fun d => d.parameters.length) = some 1 := by decide +kernel
set_option maxRecDepth 20000 in
theorem mt_150 : kt_mt 150 = some M_X10_isMarked := rfl
theorem pd_150 : (parseMethodDescriptor yX10_isMarked.desc).map (fun d => d.parameters.length) = some 1 := by decide +kernel
set_option maxRecDepth 20000 in
theorem mt_151 : kt_mt 151 = some M_X10_mark := rfl
theorem pd_151 : (parseMethodDescriptor yX10_mark.desc).map (fun d => d.parameters.length) = some 1 := by decide +kernel
set_option maxRecDepth 20000 in
theorem mt_152 : kt_mt 152 = some M_X10_numberNow := rfl
theorem pd_152 : (parseMethodDescriptor yX10_numberNow.desc).map (fun d => d.parameters.length) = some 2 := by decide +kernel
set_option maxRecDepth 20000 in
theorem mt_153 : kt_mt 153 = some M_X10_readNumber := rfl
theorem pd_153 : (parseMethodDescriptor yX10_readNumber.desc).map (fun d => d.parameters.length) = some 2 := by decide +kernel
set_option maxRecDepth 20000 in
theorem mt_154 : kt_mt 154 = some M_X10_lay := rfl
theorem pd_154 : (parseMethodDescriptor yX10_lay.desc).map (fun d => d.parameters.length) = some 1 := by decide +kernel
set_option maxRecDepth 20000 in
theorem mt_155 : kt_mt 155 = some M_X10_readPart := rfl
theorem pd_155 : (parseMethodDescriptor yX10_readPart.desc).map (fun d => d.parameters.length) = some 1 := by decide +kernel
set_option maxRecDepth 20000 in
theorem mt_156 : kt_mt 156 = some M_X10_readProduct := rfl
theorem pd_156 : (parseMethodDescriptor yX10_readProduct.desc).map (fun d => d.parameters.length) = some 1 := by decide +kernel
set_option maxRecDepth 20000 in
theorem mt_157 : kt_mt 157 = some M_X10_readSum := rfl
theorem pd_157 : (parseMethodDescriptor yX10_readSum.desc).map (fun d => d.parameters.length) = some 1 := by decide +kernel
set_option maxRecDepth 20000 in
theorem mt_158 : kt_mt 158 = some M_X10_readNot := rfl
theorem pd_158 : (parseMethodDescriptor yX10_readNot.desc).map (fun d => d.parameters.length) = some 1 := by decide +kernel
set_option maxRecDepth 20000 in
theorem mt_159 : kt_mt 159 = some M_X10_readAnd := rfl
theorem pd_159 : (parseMethodDescriptor yX10_readAnd.desc).map (fun d => d.parameters.length) = some 1 := by decide +kernel
set_option maxRecDepth 20000 in
theorem mt_160 : kt_mt 160 = some M_X10_readExpression := rfl
theorem pd_160 : (parseMethodDescriptor yX10_readExpression.desc).map (fun d => d.parameters.length) = some 1 := by decide +kernel
set_option maxRecDepth 20000 in
theorem mt_161 : kt_mt 161 = some M_X10_another := rfl
theorem pd_161 : (parseMethodDescriptor yX10_another.desc).map (fun d => d.parameters.length) = some 2 := by decide +kernel
set_option maxRecDepth 20000 in
theorem mt_162 : kt_mt 162 = some M_X10_readKettle := rfl
theorem pd_162 : (parseMethodDescriptor yX10_readKettle.desc).map (fun d => d.parameters.length) = some 1 := by decide +kernel
set_option maxRecDepth 20000 in
theorem mt_163 : kt_mt 163 = some M_X10_readStove := rfl
theorem pd_163 : (parseMethodDescriptor yX10_readStove.desc).map (fun d => d.parameters.length) = some 0 := by decide +kernel
set_option maxRecDepth 20000 in
theorem mt_164 : kt_mt 164 = some M_X10_readDish := rfl
theorem pd_164 : (parseMethodDescriptor yX10_readDish.desc).map (fun d => d.parameters.length) = some 0 := by decide +kernel
set_option maxRecDepth 20000 in
theorem mt_165 : kt_mt 165 = some M_X10_readLine := rfl
theorem pd_165 : (parseMethodDescriptor yX10_readLine.desc).map (fun d => d.parameters.length) = some 1 := by decide +kernel
set_option maxRecDepth 20000 in
theorem mt_166 : kt_mt 166 = some M_X10_kitchen := rfl
theorem pd_166 : (parseMethodDescriptor yX10_kitchen.desc).map (fun d => d.parameters.length) = some 1 := by decide +kernel
set_option maxRecDepth 20000 in
theorem mt_167 : kt_mt 167 = some M_X10_takeHalf := rfl
theorem pd_167 : (parseMethodDescriptor yX10_takeHalf.desc).map (fun d => d.parameters.length) = some 1 := by decide +kernel
set_option maxRecDepth 20000 in
theorem mt_168 : kt_mt 168 = some M_X10_takeOver := rfl
theorem pd_168 : (parseMethodDescriptor yX10_takeOver.desc).map (fun d => d.parameters.length) = some 0 := by decide +kernel
set_option maxRecDepth 20000 in
theorem mt_169 : kt_mt 169 = some M_X10_fault := rfl
theorem pd_169 : (parseMethodDescriptor yX10_fault.desc).map (fun d => d.parameters.length) = some 0 := by decide +kernel
set_option maxRecDepth 20000 in
theorem mt_170 : kt_mt 170 = some M_X10_pack := rfl
theorem pd_170 : (parseMethodDescriptor yX10_pack.desc).map (fun d => d.parameters.length) = some 2 := by decide +kernel
set_option maxRecDepth 20000 in
theorem mt_171 : kt_mt 171 = some M_X10_unpack := rfl
theorem pd_171 : (parseMethodDescriptor yX10_unpack.desc).map (fun d => d.parameters.length) = some 2 := by decide +kernel
set_option maxRecDepth 20000 in
theorem mt_172 : kt_mt 172 = some M_X10_reckon := rfl
theorem pd_172 : (parseMethodDescriptor yX10_reckon.desc).map (fun d => d.parameters.length) = some 3 := by decide +kernel
set_option maxRecDepth 20000 in
theorem mt_173 : kt_mt 173 = some M_X10_valueNow := rfl
theorem pd_173 : (parseMethodDescriptor yX10_valueNow.desc).map (fun d => d.parameters.length) = some 0 := by decide +kernel
set_option maxRecDepth 20000 in
theorem mt_174 : kt_mt 174 = some M_X10_hotter := rfl
theorem pd_174 : (parseMethodDescriptor yX10_hotter.desc).map (fun d => d.parameters.length) = some 2 := by decide +kernel
set_option maxRecDepth 20000 in
theorem mt_175 : kt_mt 175 = some M_X10_colder := rfl
theorem pd_175 : (parseMethodDescriptor yX10_colder.desc).map (fun d => d.parameters.length) = some 1 := by decide +kernel
set_option maxRecDepth 20000 in
theorem mt_176 : kt_mt 176 = some M_X10_noteBy := rfl
theorem pd_176 : (parseMethodDescriptor yX10_noteBy.desc).map (fun d => d.parameters.length) = some 3 := by decide +kernel
set_option maxRecDepth 20000 in
theorem mt_177 : kt_mt 177 = some M_X10_canSing := rfl
theorem pd_177 : (parseMethodDescriptor yX10_canSing.desc).map (fun d => d.parameters.length) = some 1 := by decide +kernel
set_option maxRecDepth 20000 in
theorem mt_178 : kt_mt 178 = some M_X10_sing := rfl
theorem pd_178 : (parseMethodDescriptor yX10_sing.desc).map (fun d => d.parameters.length) = some 1 := by decide +kernel
set_option maxRecDepth 20000 in
theorem mt_179 : kt_mt 179 = some M_X10_lose := rfl
theorem pd_179 : (parseMethodDescriptor yX10_lose.desc).map (fun d => d.parameters.length) = some 1 := by decide +kernel
set_option maxRecDepth 20000 in
theorem mt_180 : kt_mt 180 = some M_X10_isSung := rfl
theorem pd_180 : (parseMethodDescriptor yX10_isSung.desc).map (fun d => d.parameters.length) = some 1 := by decide +kernel
set_option maxRecDepth 20000 in
theorem mt_181 : kt_mt 181 = some M_X10_isChord := rfl
theorem pd_181 : (parseMethodDescriptor yX10_isChord.desc).map (fun d => d.parameters.length) = some 2 := by decide +kernel
set_option maxRecDepth 20000 in
theorem mt_182 : kt_mt 182 = some M_X10_singers := rfl
theorem pd_182 : (parseMethodDescriptor yX10_singers.desc).map (fun d => d.parameters.length) = some 0 := by decide +kernel
set_option maxRecDepth 20000 in
theorem mt_183 : kt_mt 183 = some M_X10_bitsOf := rfl
theorem pd_183 : (parseMethodDescriptor yX10_bitsOf.desc).map (fun d => d.parameters.length) = some 1 := by decide +kernel
set_option maxRecDepth 20000 in
theorem mt_184 : kt_mt 184 = some M_X10_isLifted := rfl
theorem pd_184 : (parseMethodDescriptor yX10_isLifted.desc).map (fun d => d.parameters.length) = some 1 := by decide +kernel
set_option maxRecDepth 20000 in
theorem mt_185 : kt_mt 185 = some M_X10_aMinute := rfl
theorem pd_185 : (parseMethodDescriptor yX10_aMinute.desc).map (fun d => d.parameters.length) = some 0 := by decide +kernel
set_option maxRecDepth 20000 in
theorem mt_186 : kt_mt 186 = some M_X10_lids := rfl
theorem pd_186 : (parseMethodDescriptor yX10_lids.desc).map (fun d => d.parameters.length) = some 0 := by decide +kernel
set_option maxRecDepth 20000 in
theorem mt_187 : kt_mt 187 = some M_X10_thirds := rfl
theorem pd_187 : (parseMethodDescriptor yX10_thirds.desc).map (fun d => d.parameters.length) = some 0 := by decide +kernel
set_option maxRecDepth 20000 in
theorem mt_188 : kt_mt 188 = some M_X10_readySet := rfl
theorem pd_188 : (parseMethodDescriptor yX10_readySet.desc).map (fun d => d.parameters.length) = some 0 := by decide +kernel
set_option maxRecDepth 20000 in
theorem mt_189 : kt_mt 189 = some M_X10_count := rfl
theorem pd_189 : (parseMethodDescriptor yX10_count.desc).map (fun d => d.parameters.length) = some 1 := by decide +kernel
set_option maxRecDepth 20000 in
theorem mt_190 : kt_mt 190 = some M_X10_kettle := rfl
theorem pd_190 : (parseMethodDescriptor yX10_kettle.desc).map (fun d => d.parameters.length) = some 2 := by decide +kernel
set_option maxRecDepth 20000 in
theorem mt_191 : kt_mt 191 = some M_X10_kettleOn := rfl
theorem pd_191 : (parseMethodDescriptor yX10_kettleOn.desc).map (fun d => d.parameters.length) = some 1 := by decide +kernel
set_option maxRecDepth 20000 in
theorem mt_192 : kt_mt 192 = some M_X10_stove := rfl
theorem pd_192 : (parseMethodDescriptor yX10_stove.desc).map (fun d => d.parameters.length) = some 2 := by decide +kernel
set_option maxRecDepth 20000 in
theorem mt_193 : kt_mt 193 = some M_X10_dish := rfl
theorem pd_193 : (parseMethodDescriptor yX10_dish.desc).map (fun d => d.parameters.length) = some 2 := by decide +kernel
set_option maxRecDepth 20000 in
theorem mt_194 : kt_mt 194 = some M_X10_refuse := rfl
theorem pd_194 : (parseMethodDescriptor yX10_refuse.desc).map (fun d => d.parameters.length) = some 1 := by decide +kernel
set_option maxRecDepth 20000 in
theorem mt_195 : kt_mt 195 = some M_X10_keep := rfl
theorem pd_195 : (parseMethodDescriptor yX10_keep.desc).map (fun d => d.parameters.length) = some 0 := by decide +kernel
set_option maxRecDepth 20000 in
theorem mt_196 : kt_mt 196 = some M_X10_minutes := rfl
theorem pd_196 : (parseMethodDescriptor yX10_minutes.desc).map (fun d => d.parameters.length) = some 1 := by decide +kernel
set_option maxRecDepth 20000 in
theorem mt_197 : kt_mt 197 = some M_X10_put := rfl
theorem pd_197 : (parseMethodDescriptor yX10_put.desc).map (fun d => d.parameters.length) = some 2 := by decide +kernel
set_option maxRecDepth 20000 in
theorem mt_198 : kt_mt 198 = some M_X10_lift := rfl
theorem pd_198 : (parseMethodDescriptor yX10_lift.desc).map (fun d => d.parameters.length) = some 1 := by decide +kernel
set_option maxRecDepth 20000 in
theorem mt_199 : kt_mt 199 = some M_X10_pour := rfl
theorem pd_199 : (parseMethodDescriptor yX10_pour.desc).map (fun d => d.parameters.length) = some 2 := by decide +kernel
set_option maxRecDepth 20000 in
theorem mt_200 : kt_mt 200 = some M_X10_scrape := rfl
theorem pd_200 : (parseMethodDescriptor yX10_scrape.desc).map (fun d => d.parameters.length) = some 1 := by decide +kernel
set_option maxRecDepth 20000 in
theorem mt_201 : kt_mt 201 = some M_X10_undo := rfl
theorem pd_201 : (parseMethodDescriptor yX10_undo.desc).map (fun d => d.parameters.length) = some 0 := by decide +kernel
set_option maxRecDepth 20000 in
theorem mt_202 : kt_mt 202 = some M_X10_then := rfl
theorem pd_202 : (parseMethodDescriptor yX10_then.desc).map (fun d => d.parameters.length) = some 2 := by decide +kernel
set_option maxRecDepth 20000 in
theorem mt_203 : kt_mt 203 = some M_X10_sung := rfl
theorem pd_203 : (parseMethodDescriptor yX10_sung.desc).map (fun d => d.parameters.length) = some 1 := by decide +kernel
set_option maxRecDepth 20000 in
theorem mt_204 : kt_mt 204 = some M_X10_doneIn := rfl
theorem pd_204 : (parseMethodDescriptor yX10_doneIn.desc).map (fun d => d.parameters.length) = some 2 := by decide +kernel
set_option maxRecDepth 20000 in
theorem mt_205 : kt_mt 205 = some M_X10_done := rfl
theorem pd_205 : (parseMethodDescriptor yX10_done.desc).map (fun d => d.parameters.length) = some 1 := by decide +kernel
set_option maxRecDepth 20000 in
theorem mt_206 : kt_mt 206 = some M_X10_fugue := rfl
theorem pd_206 : (parseMethodDescriptor yX10_fugue.desc).map (fun d => d.parameters.length) = some 1 := by decide +kernel
set_option maxRecDepth 20000 in
theorem mt_207 : kt_mt 207 = some M_X10_quiet := rfl
theorem pd_207 : (parseMethodDescriptor yX10_quiet.desc).map (fun d => d.parameters.length) = some 0 := by decide +kernel
set_option maxRecDepth 20000 in
theorem mt_208 : kt_mt 208 = some M_X10_loudest := rfl
theorem pd_208 : (parseMethodDescriptor yX10_loudest.desc).map (fun d => d.parameters.length) = some 1 := by decide +kernel
set_option maxRecDepth 20000 in
theorem mt_209 : kt_mt 209 = some M_X10_dry := rfl
theorem pd_209 : (parseMethodDescriptor yX10_dry.desc).map (fun d => d.parameters.length) = some 1 := by decide +kernel
set_option maxRecDepth 20000 in
theorem mt_210 : kt_mt 210 = some M_X10_goPlaces := rfl
theorem pd_210 : (parseMethodDescriptor yX10_goPlaces.desc).map (fun d => d.parameters.length) = some 2 := by decide +kernel
set_option maxRecDepth 20000 in
theorem mt_211 : kt_mt 211 = some M_X10_soonest := rfl
theorem pd_211 : (parseMethodDescriptor yX10_soonest.desc).map (fun d => d.parameters.length) = some 2 := by decide +kernel
set_option maxRecDepth 20000 in
theorem mt_212 : kt_mt 212 = some M_X10_tunedTo := rfl
theorem pd_212 : (parseMethodDescriptor yX10_tunedTo.desc).map (fun d => d.parameters.length) = some 2 := by decide +kernel
set_option maxRecDepth 20000 in
theorem mt_213 : kt_mt 213 = some M_X10_tuned := rfl
theorem pd_213 : (parseMethodDescriptor yX10_tuned.desc).map (fun d => d.parameters.length) = some 2 := by decide +kernel
set_option maxRecDepth 20000 in
theorem mt_214 : kt_mt 214 = some M_X10_chordFrom := rfl
theorem pd_214 : (parseMethodDescriptor yX10_chordFrom.desc).map (fun d => d.parameters.length) = some 4 := by decide +kernel
set_option maxRecDepth 20000 in
theorem mt_215 : kt_mt 215 = some M_X10_chord := rfl
theorem pd_215 : (parseMethodDescriptor yX10_chord.desc).map (fun d => d.parameters.length) = some 1 := by decide +kernel
set_option maxRecDepth 20000 in
theorem mt_216 : kt_mt 216 = some M_X10_burner := rfl
theorem pd_216 : (parseMethodDescriptor yX10_burner.desc).map (fun d => d.parameters.length) = some 2 := by decide +kernel
set_option maxRecDepth 20000 in
theorem mt_217 : kt_mt 217 = some M_X10_together := rfl
theorem pd_217 : (parseMethodDescriptor yX10_together.desc).map (fun d => d.parameters.length) = some 4 := by decide +kernel
set_option maxRecDepth 20000 in
theorem mt_218 : kt_mt 218 = some M_X10_hear := rfl
theorem pd_218 : (parseMethodDescriptor yX10_hear.desc).map (fun d => d.parameters.length) = some 2 := by decide +kernel
set_option maxRecDepth 20000 in
theorem mt_219 : kt_mt 219 = some M_X10_isAsHeard := rfl
theorem pd_219 : (parseMethodDescriptor yX10_isAsHeard.desc).map (fun d => d.parameters.length) = some 0 := by decide +kernel
set_option maxRecDepth 20000 in
theorem mt_220 : kt_mt 220 = some M_X10_tellFits := rfl
theorem pd_220 : (parseMethodDescriptor yX10_tellFits.desc).map (fun d => d.parameters.length) = some 0 := by decide +kernel
set_option maxRecDepth 20000 in
theorem mt_221 : kt_mt 221 = some M_X10_chalk := rfl
theorem pd_221 : (parseMethodDescriptor yX10_chalk.desc).map (fun d => d.parameters.length) = some 1 := by decide +kernel
set_option maxRecDepth 20000 in
theorem mt_222 : kt_mt 222 = some M_X10_choir := rfl
theorem pd_222 : (parseMethodDescriptor yX10_choir.desc).map (fun d => d.parameters.length) = some 0 := by decide +kernel
set_option maxRecDepth 20000 in
theorem mt_223 : kt_mt 223 = some M_X10_tellChoirs := rfl
theorem pd_223 : (parseMethodDescriptor yX10_tellChoirs.desc).map (fun d => d.parameters.length) = some 0 := by decide +kernel
set_option maxRecDepth 20000 in
theorem mt_224 : kt_mt 224 = some M_X10_unlike := rfl
theorem pd_224 : (parseMethodDescriptor yX10_unlike.desc).map (fun d => d.parameters.length) = some 1 := by decide +kernel
set_option maxRecDepth 20000 in
theorem mt_225 : kt_mt 225 = some M_X10_listen := rfl
theorem pd_225 : (parseMethodDescriptor yX10_listen.desc).map (fun d => d.parameters.length) = some 1 := by decide +kernel
set_option maxRecDepth 20000 in
theorem mt_226 : kt_mt 226 = some M_X10_forget := rfl
theorem pd_226 : (parseMethodDescriptor yX10_forget.desc).map (fun d => d.parameters.length) = some 0 := by decide +kernel
set_option maxRecDepth 20000 in
theorem mt_227 : kt_mt 227 = some M_X10_gain := rfl
theorem pd_227 : (parseMethodDescriptor yX10_gain.desc).map (fun d => d.parameters.length) = some 2 := by decide +kernel
set_option maxRecDepth 20000 in
theorem mt_228 : kt_mt 228 = some M_X10_game := rfl
theorem pd_228 : (parseMethodDescriptor yX10_game.desc).map (fun d => d.parameters.length) = some 3 := by decide +kernel
set_option maxRecDepth 20000 in
theorem mt_229 : kt_mt 229 = some M_X10_drawOf := rfl
theorem pd_229 : (parseMethodDescriptor yX10_drawOf.desc).map (fun d => d.parameters.length) = some 1 := by decide +kernel
set_option maxRecDepth 20000 in
theorem mt_230 : kt_mt 230 = some M_X10_something := rfl
theorem pd_230 : (parseMethodDescriptor yX10_something.desc).map (fun d => d.parameters.length) = some 0 := by decide +kernel
set_option maxRecDepth 20000 in
theorem mt_231 : kt_mt 231 = some M_X10_evening := rfl
theorem pd_231 : (parseMethodDescriptor yX10_evening.desc).map (fun d => d.parameters.length) = some 3 := by decide +kernel
set_option maxRecDepth 20000 in
theorem mt_232 : kt_mt 232 = some M_X10_be := rfl
theorem pd_232 : (parseMethodDescriptor yX10_be.desc).map (fun d => d.parameters.length) = some 2 := by decide +kernel
set_option maxRecDepth 20000 in
theorem mt_233 : kt_mt 233 = some M_X10_image := rfl
theorem pd_233 : (parseMethodDescriptor yX10_image.desc).map (fun d => d.parameters.length) = some 0 := by decide +kernel
set_option maxRecDepth 20000 in
theorem mt_234 : kt_mt 234 = some M_X10_restore := rfl
theorem pd_234 : (parseMethodDescriptor yX10_restore.desc).map (fun d => d.parameters.length) = some 0 := by decide +kernel
set_option maxRecDepth 20000 in
theorem mt_235 : kt_mt 235 = some M_J6_bitCount_0f7a4 := rfl
theorem pd_235 : (parseMethodDescriptor yJ6_bitCount_0f7a4.desc).map (fun d => d.parameters.length) = some 1 := by decide +kernel
set_option maxRecDepth 20000 in
theorem mt_236 : kt_mt 236 = some M_J7_fill_53178 := rfl
theorem pd_236 : (parseMethodDescriptor yJ7_fill_53178.desc).map (fun d => d.parameters.length) = some 2 := by decide +kernel
set_option maxRecDepth 20000 in
theorem mt_237 : kt_mt 237 = some M_L_kitchen := rfl
theorem pd_237 : (parseMethodDescriptor yL_kitchen.desc).map (fun d => d.parameters.length) = some 3 := by decide +kernel
set_option maxRecDepth 20000 in
theorem mt_238 : kt_mt 238 = some M_L_count := rfl
theorem pd_238 : (parseMethodDescriptor yL_count.desc).map (fun d => d.parameters.length) = some 3 := by decide +kernel
set_option maxRecDepth 20000 in
theorem mt_239 : kt_mt 239 = some M_L_kettle := rfl
theorem pd_239 : (parseMethodDescriptor yL_kettle.desc).map (fun d => d.parameters.length) = some 4 := by decide +kernel
set_option maxRecDepth 20000 in
theorem mt_240 : kt_mt 240 = some M_L_stove := rfl
theorem pd_240 : (parseMethodDescriptor yL_stove.desc).map (fun d => d.parameters.length) = some 4 := by decide +kernel
set_option maxRecDepth 20000 in
theorem mt_241 : kt_mt 241 = some M_L_dish := rfl
theorem pd_241 : (parseMethodDescriptor yL_dish.desc).map (fun d => d.parameters.length) = some 4 := by decide +kernel
set_option maxRecDepth 20000 in
theorem mt_242 : kt_mt 242 = some M_L_put := rfl
theorem pd_242 : (parseMethodDescriptor yL_put.desc).map (fun d => d.parameters.length) = some 4 := by decide +kernel
set_option maxRecDepth 20000 in
theorem mt_243 : kt_mt 243 = some M_L_lift := rfl
theorem pd_243 : (parseMethodDescriptor yL_lift.desc).map (fun d => d.parameters.length) = some 3 := by decide +kernel
set_option maxRecDepth 20000 in
theorem mt_244 : kt_mt 244 = some M_L_pour := rfl
theorem pd_244 : (parseMethodDescriptor yL_pour.desc).map (fun d => d.parameters.length) = some 4 := by decide +kernel
set_option maxRecDepth 20000 in
theorem mt_245 : kt_mt 245 = some M_L_scrape := rfl
theorem pd_245 : (parseMethodDescriptor yL_scrape.desc).map (fun d => d.parameters.length) = some 3 := by decide +kernel
set_option maxRecDepth 20000 in
theorem mt_246 : kt_mt 246 = some M_L_then := rfl
theorem pd_246 : (parseMethodDescriptor yL_then.desc).map (fun d => d.parameters.length) = some 4 := by decide +kernel
set_option maxRecDepth 20000 in
theorem mt_247 : kt_mt 247 = some M_L_sung := rfl
theorem pd_247 : (parseMethodDescriptor yL_sung.desc).map (fun d => d.parameters.length) = some 3 := by decide +kernel
set_option maxRecDepth 20000 in
theorem mt_248 : kt_mt 248 = some M_L_done := rfl
theorem pd_248 : (parseMethodDescriptor yL_done.desc).map (fun d => d.parameters.length) = some 3 := by decide +kernel
set_option maxRecDepth 20000 in
theorem mt_249 : kt_mt 249 = some M_L_fugue := rfl
theorem pd_249 : (parseMethodDescriptor yL_fugue.desc).map (fun d => d.parameters.length) = some 3 := by decide +kernel
set_option maxRecDepth 20000 in
theorem mt_250 : kt_mt 250 = some M_L_loudest := rfl
theorem pd_250 : (parseMethodDescriptor yL_loudest.desc).map (fun d => d.parameters.length) = some 3 := by decide +kernel
set_option maxRecDepth 20000 in
theorem mt_251 : kt_mt 251 = some M_L_dry := rfl
theorem pd_251 : (parseMethodDescriptor yL_dry.desc).map (fun d => d.parameters.length) = some 3 := by decide +kernel
set_option maxRecDepth 20000 in
theorem mt_252 : kt_mt 252 = some M_L_soonest := rfl
theorem pd_252 : (parseMethodDescriptor yL_soonest.desc).map (fun d => d.parameters.length) = some 4 := by decide +kernel
set_option maxRecDepth 20000 in
theorem mt_253 : kt_mt 253 = some M_L_tuned := rfl
theorem pd_253 : (parseMethodDescriptor yL_tuned.desc).map (fun d => d.parameters.length) = some 4 := by decide +kernel
set_option maxRecDepth 20000 in
theorem mt_254 : kt_mt 254 = some M_L_chord := rfl
theorem pd_254 : (parseMethodDescriptor yL_chord.desc).map (fun d => d.parameters.length) = some 3 := by decide +kernel
set_option maxRecDepth 20000 in
theorem mt_255 : kt_mt 255 = some M_L_burner := rfl
theorem pd_255 : (parseMethodDescriptor yL_burner.desc).map (fun d => d.parameters.length) = some 4 := by decide +kernel
set_option maxRecDepth 20000 in
theorem mt_256 : kt_mt 256 = some M_L_together := rfl
theorem pd_256 : (parseMethodDescriptor yL_together.desc).map (fun d => d.parameters.length) = some 6 := by decide +kernel
set_option maxRecDepth 20000 in
theorem mt_257 : kt_mt 257 = some M_L_chalk := rfl
theorem pd_257 : (parseMethodDescriptor yL_chalk.desc).map (fun d => d.parameters.length) = some 3 := by decide +kernel
set_option maxRecDepth 20000 in
theorem mt_258 : kt_mt 258 = some M_L_listen := rfl
theorem pd_258 : (parseMethodDescriptor yL_listen.desc).map (fun d => d.parameters.length) = some 3 := by decide +kernel
set_option maxRecDepth 20000 in
theorem mt_259 : kt_mt 259 = some M_L_game := rfl
theorem pd_259 : (parseMethodDescriptor yL_game.desc).map (fun d => d.parameters.length) = some 5 := by decide +kernel
set_option maxRecDepth 20000 in
theorem mt_260 : kt_mt 260 = some M_L_evening := rfl
theorem pd_260 : (parseMethodDescriptor yL_evening.desc).map (fun d => d.parameters.length) = some 5 := by decide +kernel
set_option maxRecDepth 20000 in
theorem kt_msl : kt_ms.length = 261 := rfl
theorem kt_no1000 : kt_mt 1000 = none := List.getElem?_eq_none (by rw [kt_msl]; decide)
theorem kt_no1001 : kt_mt 1001 = none := List.getElem?_eq_none (by rw [kt_msl]; decide)
theorem kt_no1002 : kt_mt 1002 = none := List.getElem?_eq_none (by rw [kt_msl]; decide)
theorem kt_no1003 : kt_mt 1003 = none := List.getElem?_eq_none (by rw [kt_msl]; decide)
theorem kt_no1004 : kt_mt 1004 = none := List.getElem?_eq_none (by rw [kt_msl]; decide)
theorem kt_no1005 : kt_mt 1005 = none := List.getElem?_eq_none (by rw [kt_msl]; decide)
theorem kt_no1006 : kt_mt 1006 = none := List.getElem?_eq_none (by rw [kt_msl]; decide)
def kt_thn : List String := ["java/lang/RuntimeException", "java/lang/Exception"]
theorem kt_fn : ∀ n ∈ kt_thn, Bundle.fit n = true := by decide +kernel
theorem kt_f900 : Bundle.fit (px_exn (900 - 900)) = true := by decide +kernel
theorem kt_f901 : Bundle.fit (px_exn (901 - 900)) = true := by decide +kernel
