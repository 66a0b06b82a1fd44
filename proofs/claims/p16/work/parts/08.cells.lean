theorem dq_0 : desc 0 = .inl (11, [3, 5, 9, 12, 20, 25, 28, 38, 44, 51]) := rfl
theorem ln_0 : 0 < NC := by decide
theorem dq_1 : desc 1 = .inl (0, [4, 0, 0]) := rfl
theorem ln_1 : 1 < NC := by decide
theorem dq_2 : desc 2 = .inr (.byte, 1000) := rfl
theorem ln_2 : 2 < NC := by decide
theorem dq_3 : desc 3 = .inl (3, [6, 7, 8, 0]) := rfl
theorem ln_3 : 3 < NC := by decide
theorem dq_4 : desc 4 = .inr (.int, 300) := rfl
theorem ln_4 : 4 < NC := by decide
theorem dq_5 : desc 5 = .inr (.long, 300) := rfl
theorem ln_5 : 5 < NC := by decide
theorem dq_6 : desc 6 = .inr (.int, 300) := rfl
theorem ln_6 : 6 < NC := by decide
theorem dq_7 : desc 7 = .inl (8, [10, 11, 0]) := rfl
theorem ln_7 : 7 < NC := by decide
theorem dq_8 : desc 8 = .inr (.long, 6) := rfl
theorem ln_8 : 8 < NC := by decide
theorem dq_9 : desc 9 = .inr (.int, 6) := rfl
theorem ln_9 : 9 < NC := by decide
theorem dq_10 : desc 10 = .inl (10, [5, 13, 14, 0, 15, 16, 17, 18, 19, 0]) := rfl
theorem ln_10 : 10 < NC := by decide
theorem dq_11 : desc 11 = .inr (.int, 12) := rfl
theorem ln_11 : 11 < NC := by decide
theorem dq_12 : desc 12 = .inr (.int, 12) := rfl
theorem ln_12 : 12 < NC := by decide
theorem dq_13 : desc 13 = .inr (.int, 150) := rfl
theorem ln_13 : 13 < NC := by decide
theorem dq_14 : desc 14 = .inr (.int, 150) := rfl
theorem ln_14 : 14 < NC := by decide
theorem dq_15 : desc 15 = .inr (.int, 150) := rfl
theorem ln_15 : 15 < NC := by decide
theorem dq_16 : desc 16 = .inr (.int, 150) := rfl
theorem ln_16 : 16 < NC := by decide
theorem dq_17 : desc 17 = .inr (.int, 150) := rfl
theorem ln_17 : 17 < NC := by decide
theorem dq_18 : desc 18 = .inl (9, [5, 21, 23, 24]) := rfl
theorem ln_18 : 18 < NC := by decide
theorem dq_19 : desc 19 = .inl (0, [22, 0, 0]) := rfl
theorem ln_19 : 19 < NC := by decide
theorem dq_20 : desc 20 = .inr (.byte, 1000) := rfl
theorem ln_20 : 20 < NC := by decide
theorem dq_21 : desc 21 = .inr (.int, 300) := rfl
theorem ln_21 : 21 < NC := by decide
theorem dq_22 : desc 22 = .inr (.int, 3) := rfl
theorem ln_22 : 22 < NC := by decide
theorem dq_23 : desc 23 = .inl (7, [5, 12, 26, 27, 0]) := rfl
theorem ln_23 : 23 < NC := by decide
theorem dq_24 : desc 24 = .inr (.int, 12) := rfl
theorem ln_24 : 24 < NC := by decide
theorem dq_25 : desc 25 = .inr (.int, 12) := rfl
theorem ln_25 : 25 < NC := by decide
theorem dq_26 : desc 26 = .inl (4, [5, 29, 32, 0, 0, 0, 0, 0, 0, 0]) := rfl
theorem ln_26 : 26 < NC := by decide
theorem dq_27 : desc 27 = .inl (8, [30, 31, 0]) := rfl
theorem ln_27 : 27 < NC := by decide
theorem dq_28 : desc 28 = .inr (.long, 6) := rfl
theorem ln_28 : 28 < NC := by decide
theorem dq_29 : desc 29 = .inr (.int, 6) := rfl
theorem ln_29 : 29 < NC := by decide
theorem dq_30 : desc 30 = .inl (5, [33, 34, 35, 36, 37, 0]) := rfl
theorem ln_30 : 30 < NC := by decide
theorem dq_31 : desc 31 = .inr (.int, 90) := rfl
theorem ln_31 : 31 < NC := by decide
theorem dq_32 : desc 32 = .inr (.int, 90) := rfl
theorem ln_32 : 32 < NC := by decide
theorem dq_33 : desc 33 = .inr (.int, 90) := rfl
theorem ln_33 : 33 < NC := by decide
theorem dq_34 : desc 34 = .inr (.int, 90) := rfl
theorem ln_34 : 34 < NC := by decide
theorem dq_35 : desc 35 = .inr (.int, 90) := rfl
theorem ln_35 : 35 < NC := by decide
theorem dq_36 : desc 36 = .inl (5, [39, 40, 41, 42, 43, 0]) := rfl
theorem ln_36 : 36 < NC := by decide
theorem dq_37 : desc 37 = .inr (.int, 90) := rfl
theorem ln_37 : 37 < NC := by decide
theorem dq_38 : desc 38 = .inr (.int, 90) := rfl
theorem ln_38 : 38 < NC := by decide
theorem dq_39 : desc 39 = .inr (.int, 90) := rfl
theorem ln_39 : 39 < NC := by decide
theorem dq_40 : desc 40 = .inr (.int, 90) := rfl
theorem ln_40 : 40 < NC := by decide
theorem dq_41 : desc 41 = .inr (.int, 90) := rfl
theorem ln_41 : 41 < NC := by decide
theorem dq_42 : desc 42 = .inl (1, [45, 46, 47, 48, 49, 50, 0, 0, 0]) := rfl
theorem ln_42 : 42 < NC := by decide
theorem dq_43 : desc 43 = .inr (.int, 100) := rfl
theorem ln_43 : 43 < NC := by decide
theorem dq_44 : desc 44 = .inr (.int, 100) := rfl
theorem ln_44 : 44 < NC := by decide
theorem dq_45 : desc 45 = .inr (.long, 100) := rfl
theorem ln_45 : 45 < NC := by decide
theorem dq_46 : desc 46 = .inr (.int, 100) := rfl
theorem ln_46 : 46 < NC := by decide
theorem dq_47 : desc 47 = .inr (.int, 100) := rfl
theorem ln_47 : 47 < NC := by decide
theorem dq_48 : desc 48 = .inr (.int, 1000) := rfl
theorem ln_48 : 48 < NC := by decide
theorem dq_49 : desc 49 = .inl (6, [5, 44, 52, 61, 0, 0, 0, 0, 0, 0, 62, 0, 63, 64]) := rfl
theorem ln_49 : 49 < NC := by decide
theorem dq_50 : desc 50 = .inl (2, [53, 54, 55, 56, 57, 58, 59, 60, 0, 0]) := rfl
theorem ln_50 : 50 < NC := by decide
theorem dq_51 : desc 51 = .inr (.int, 4) := rfl
theorem ln_51 : 51 < NC := by decide
theorem dq_52 : desc 52 = .inr (.int, 4) := rfl
theorem ln_52 : 52 < NC := by decide
theorem dq_53 : desc 53 = .inr (.int, 4) := rfl
theorem ln_53 : 53 < NC := by decide
theorem dq_54 : desc 54 = .inr (.int, 4) := rfl
theorem ln_54 : 54 < NC := by decide
theorem dq_55 : desc 55 = .inr (.int, 160) := rfl
theorem ln_55 : 55 < NC := by decide
theorem dq_56 : desc 56 = .inr (.int, 4) := rfl
theorem ln_56 : 56 < NC := by decide
theorem dq_57 : desc 57 = .inr (.int, 1200) := rfl
theorem ln_57 : 57 < NC := by decide
theorem dq_58 : desc 58 = .inr (.int, 4) := rfl
theorem ln_58 : 58 < NC := by decide
theorem dq_59 : desc 59 = .inr (.int, 4) := rfl
theorem ln_59 : 59 < NC := by decide
theorem dq_60 : desc 60 = .inr (.int, 10) := rfl
theorem ln_60 : 60 < NC := by decide
theorem dq_61 : desc 61 = .inr (.int, 10) := rfl
theorem ln_61 : 61 < NC := by decide
theorem dq_62 : desc 62 = .inr (.int, 10) := rfl
theorem ln_62 : 62 < NC := by decide
theorem dq_63 : desc 63 = .inl (12, [0, 66, 67, 68, 69, 0, 70, 71, 0, 72, 0, 73, 74, 75, 0, 76, 77, 78, 79, 80, 0, 81, 82, 0, 83, 0, 84, 0, 85, 86, 0, 0, 0, 0, 0, 0, 0, 87, 88, 89, 90, 91, 0, 92, 0, 93, 94, 95, 96, 97, 0, 0, 98, 0, 1, 99, 100, 101, 102, 103, 104, 105, 0, 0, 0, 0, 0, 0, 0, 0, 106, 0, 107]) := rfl
theorem ln_63 : 63 < NC := by decide
theorem dq_64 : desc 64 = .inr (.int, 300) := rfl
theorem ln_64 : 64 < NC := by decide
theorem dq_65 : desc 65 = .inr (.byte, 3000) := rfl
theorem ln_65 : 65 < NC := by decide
theorem dq_66 : desc 66 = .inr (.int, 300) := rfl
theorem ln_66 : 66 < NC := by decide
theorem dq_67 : desc 67 = .inr (.int, 300) := rfl
theorem ln_67 : 67 < NC := by decide
theorem dq_68 : desc 68 = .inr (.int, 8) := rfl
theorem ln_68 : 68 < NC := by decide
theorem dq_69 : desc 69 = .inr (.int, 8) := rfl
theorem ln_69 : 69 < NC := by decide
theorem dq_70 : desc 70 = .inr (.byte, 1040) := rfl
theorem ln_70 : 70 < NC := by decide
theorem dq_71 : desc 71 = .inr (.int, 5) := rfl
theorem ln_71 : 71 < NC := by decide
theorem dq_72 : desc 72 = .inr (.int, 12) := rfl
theorem ln_72 : 72 < NC := by decide
theorem dq_73 : desc 73 = .inr (.int, 12) := rfl
theorem ln_73 : 73 < NC := by decide
theorem dq_74 : desc 74 = .inr (.int, 150) := rfl
theorem ln_74 : 74 < NC := by decide
theorem dq_75 : desc 75 = .inr (.int, 150) := rfl
theorem ln_75 : 75 < NC := by decide
theorem dq_76 : desc 76 = .inr (.int, 150) := rfl
theorem ln_76 : 76 < NC := by decide
theorem dq_77 : desc 77 = .inr (.int, 150) := rfl
theorem ln_77 : 77 < NC := by decide
theorem dq_78 : desc 78 = .inr (.int, 150) := rfl
theorem ln_78 : 78 < NC := by decide
theorem dq_79 : desc 79 = .inr (.int, 12) := rfl
theorem ln_79 : 79 < NC := by decide
theorem dq_80 : desc 80 = .inr (.boolean, 144) := rfl
theorem ln_80 : 80 < NC := by decide
theorem dq_81 : desc 81 = .inr (.int, 4) := rfl
theorem ln_81 : 81 < NC := by decide
theorem dq_82 : desc 82 = .inr (.byte, 1000) := rfl
theorem ln_82 : 82 < NC := by decide
theorem dq_83 : desc 83 = .inr (.int, 300) := rfl
theorem ln_83 : 83 < NC := by decide
theorem dq_84 : desc 84 = .inr (.boolean, 150) := rfl
theorem ln_84 : 84 < NC := by decide
theorem dq_85 : desc 85 = .inr (.int, 100) := rfl
theorem ln_85 : 85 < NC := by decide
theorem dq_86 : desc 86 = .inr (.int, 100) := rfl
theorem ln_86 : 86 < NC := by decide
theorem dq_87 : desc 87 = .inr (.int, 100) := rfl
theorem ln_87 : 87 < NC := by decide
theorem dq_88 : desc 88 = .inr (.int, 100) := rfl
theorem ln_88 : 88 < NC := by decide
theorem dq_89 : desc 89 = .inr (.int, 100) := rfl
theorem ln_89 : 89 < NC := by decide
theorem dq_90 : desc 90 = .inr (.int, 500) := rfl
theorem ln_90 : 90 < NC := by decide
theorem dq_91 : desc 91 = .inr (.int, 100) := rfl
theorem ln_91 : 91 < NC := by decide
theorem dq_92 : desc 92 = .inr (.int, 100) := rfl
theorem ln_92 : 92 < NC := by decide
theorem dq_93 : desc 93 = .inr (.int, 100) := rfl
theorem ln_93 : 93 < NC := by decide
theorem dq_94 : desc 94 = .inr (.int, 1000) := rfl
theorem ln_94 : 94 < NC := by decide
theorem dq_95 : desc 95 = .inr (.long, 100) := rfl
theorem ln_95 : 95 < NC := by decide
theorem dq_96 : desc 96 = .inr (.int, 10) := rfl
theorem ln_96 : 96 < NC := by decide
theorem dq_97 : desc 97 = .inr (.int, 4) := rfl
theorem ln_97 : 97 < NC := by decide
theorem dq_98 : desc 98 = .inr (.int, 4) := rfl
theorem ln_98 : 98 < NC := by decide
theorem dq_99 : desc 99 = .inr (.int, 4) := rfl
theorem ln_99 : 99 < NC := by decide
theorem dq_100 : desc 100 = .inr (.int, 4) := rfl
theorem ln_100 : 100 < NC := by decide
theorem dq_101 : desc 101 = .inr (.int, 256) := rfl
theorem ln_101 : 101 < NC := by decide
theorem dq_102 : desc 102 = .inr (.int, 4) := rfl
theorem ln_102 : 102 < NC := by decide
theorem dq_103 : desc 103 = .inr (.boolean, 1200) := rfl
theorem ln_103 : 103 < NC := by decide
theorem dq_104 : desc 104 = .inr (.int, 10) := rfl
theorem ln_104 : 104 < NC := by decide
theorem dq_105 : desc 105 = .inr (.int, 10) := rfl
theorem ln_105 : 105 < NC := by decide
theorem dq_106 : desc 106 = .inr (.long, 1) := rfl
theorem ln_106 : 106 < NC := by decide
theorem vc_0 : vwCl[0]? = some (RX0, TX0, 3) := rfl
set_option maxRecDepth 20000 in
theorem inX0 : ∀ w ∈ u_ws RX0 TX0 3, w ∈ GW := List.forall_mem_cons.mpr ⟨gw_of gw1_42 rfl, List.forall_mem_cons.mpr ⟨gw_of gw1_44 rfl, List.forall_mem_cons.mpr ⟨gw_of gw1_46 rfl, fun _ h => absurd h List.not_mem_nil⟩⟩⟩
theorem vc_1 : vwCl[1]? = some (RX1, TX1, 9) := rfl
set_option maxRecDepth 20000 in
theorem inX1 : ∀ w ∈ u_ws RX1 TX1 9, w ∈ GW := List.forall_mem_cons.mpr ⟨gw_of gw2_8 rfl, List.forall_mem_cons.mpr ⟨gw_of gw2_10 rfl, List.forall_mem_cons.mpr ⟨gw_of gw2_12 rfl, List.forall_mem_cons.mpr ⟨gw_of gw2_14 rfl, List.forall_mem_cons.mpr ⟨gw_of gw2_16 rfl, List.forall_mem_cons.mpr ⟨gw_of gw2_18 rfl, List.forall_mem_cons.mpr ⟨gw_of gw2_20 rfl, List.forall_mem_cons.mpr ⟨gw_of gw2_22 rfl, List.forall_mem_cons.mpr ⟨gw_of gw2_24 rfl, fun _ h => absurd h List.not_mem_nil⟩⟩⟩⟩⟩⟩⟩⟩⟩
theorem vc_2 : vwCl[2]? = some (RX2, TX2, 10) := rfl
set_option maxRecDepth 20000 in
theorem inX2 : ∀ w ∈ u_ws RX2 TX2 10, w ∈ GW := List.forall_mem_cons.mpr ⟨gw_of gw2_49 rfl, List.forall_mem_cons.mpr ⟨gw_of gw2_51 rfl, List.forall_mem_cons.mpr ⟨gw_of gw2_53 rfl, List.forall_mem_cons.mpr ⟨gw_of gw2_55 rfl, List.forall_mem_cons.mpr ⟨gw_of gw2_57 rfl, List.forall_mem_cons.mpr ⟨gw_of gw2_59 rfl, List.forall_mem_cons.mpr ⟨gw_of gw2_61 rfl, List.forall_mem_cons.mpr ⟨gw_of gw2_63 rfl, List.forall_mem_cons.mpr ⟨gw_of gw2_65 rfl, List.forall_mem_cons.mpr ⟨gw_of gw2_67 rfl, fun _ h => absurd h List.not_mem_nil⟩⟩⟩⟩⟩⟩⟩⟩⟩⟩
theorem vc_3 : vwCl[3]? = some (RX3, TX3, 4) := rfl
set_option maxRecDepth 20000 in
theorem inX3 : ∀ w ∈ u_ws RX3 TX3 4, w ∈ GW := List.forall_mem_cons.mpr ⟨gw_of gw1_60 rfl, List.forall_mem_cons.mpr ⟨gw_of gw1_62 rfl, List.forall_mem_cons.mpr ⟨gw_of gw1_64 rfl, List.forall_mem_cons.mpr ⟨gw_of gw1_66 rfl, fun _ h => absurd h List.not_mem_nil⟩⟩⟩⟩
theorem vc_4 : vwCl[4]? = some (RX4, TX4, 10) := rfl
set_option maxRecDepth 20000 in
theorem inX4 : ∀ w ∈ u_ws RX4 TX4 10, w ∈ GW := List.forall_mem_cons.mpr ⟨gw_of gw1_210 rfl, List.forall_mem_cons.mpr ⟨gw_of gw1_212 rfl, List.forall_mem_cons.mpr ⟨gw_of gw1_214 rfl, List.forall_mem_cons.mpr ⟨gw_of gw1_216 rfl, List.forall_mem_cons.mpr ⟨gw_of gw1_218 rfl, List.forall_mem_cons.mpr ⟨gw_of gw1_220 rfl, List.forall_mem_cons.mpr ⟨gw_of gw1_222 rfl, List.forall_mem_cons.mpr ⟨gw_of gw1_224 rfl, List.forall_mem_cons.mpr ⟨gw_of gw1_226 rfl, List.forall_mem_cons.mpr ⟨gw_of gw1_228 rfl, fun _ h => absurd h List.not_mem_nil⟩⟩⟩⟩⟩⟩⟩⟩⟩⟩
theorem vc_5 : vwCl[5]? = some (RX5, TX5, 6) := rfl
set_option maxRecDepth 20000 in
theorem inX5 : ∀ w ∈ u_ws RX5 TX5 6, w ∈ GW := List.forall_mem_cons.mpr ⟨gw_of gw1_187 rfl, List.forall_mem_cons.mpr ⟨gw_of gw1_189 rfl, List.forall_mem_cons.mpr ⟨gw_of gw1_191 rfl, List.forall_mem_cons.mpr ⟨gw_of gw1_193 rfl, List.forall_mem_cons.mpr ⟨gw_of gw1_195 rfl, List.forall_mem_cons.mpr ⟨gw_of gw1_197 rfl, fun _ h => absurd h List.not_mem_nil⟩⟩⟩⟩⟩⟩
theorem vc_6 : vwCl[6]? = some (RX6, TX6, 14) := rfl
set_option maxRecDepth 20000 in
theorem inX6 : ∀ w ∈ u_ws RX6 TX6 14, w ∈ GW := List.forall_mem_cons.mpr ⟨gw_of gw2_84 rfl, List.forall_mem_cons.mpr ⟨gw_of gw2_86 rfl, List.forall_mem_cons.mpr ⟨gw_of gw2_88 rfl, List.forall_mem_cons.mpr ⟨gw_of gw2_90 rfl, List.forall_mem_cons.mpr ⟨gw_of gw2_92 rfl, List.forall_mem_cons.mpr ⟨gw_of gw2_94 rfl, List.forall_mem_cons.mpr ⟨gw_of gw2_96 rfl, List.forall_mem_cons.mpr ⟨gw_of gw2_98 rfl, List.forall_mem_cons.mpr ⟨gw_of gw2_100 rfl, List.forall_mem_cons.mpr ⟨gw_of gw2_102 rfl, List.forall_mem_cons.mpr ⟨gw_of gw2_104 rfl, List.forall_mem_cons.mpr ⟨gw_of gw2_106 rfl, List.forall_mem_cons.mpr ⟨gw_of gw2_108 rfl, List.forall_mem_cons.mpr ⟨gw_of gw2_110 rfl, fun _ h => absurd h List.not_mem_nil⟩⟩⟩⟩⟩⟩⟩⟩⟩⟩⟩⟩⟩⟩
theorem vc_7 : vwCl[7]? = some (RX7, TX7, 5) := rfl
set_option maxRecDepth 20000 in
theorem inX7 : ∀ w ∈ u_ws RX7 TX7 5, w ∈ GW := List.forall_mem_cons.mpr ⟨gw_of gw1_156 rfl, List.forall_mem_cons.mpr ⟨gw_of gw1_158 rfl, List.forall_mem_cons.mpr ⟨gw_of gw1_160 rfl, List.forall_mem_cons.mpr ⟨gw_of gw1_162 rfl, List.forall_mem_cons.mpr ⟨gw_of gw1_164 rfl, fun _ h => absurd h List.not_mem_nil⟩⟩⟩⟩⟩
theorem vc_8 : vwCl[8]? = some (RX8, TX8, 3) := rfl
set_option maxRecDepth 20000 in
theorem inX8 : ∀ w ∈ u_ws RX8 TX8 3, w ∈ GW := List.forall_mem_cons.mpr ⟨gw_of gw1_80 rfl, List.forall_mem_cons.mpr ⟨gw_of gw1_82 rfl, List.forall_mem_cons.mpr ⟨gw_of gw1_84 rfl, fun _ h => absurd h List.not_mem_nil⟩⟩⟩
theorem vc_9 : vwCl[9]? = some (RX9, TX9, 4) := rfl
set_option maxRecDepth 20000 in
theorem inX9 : ∀ w ∈ u_ws RX9 TX9 4, w ∈ GW := List.forall_mem_cons.mpr ⟨gw_of gw1_136 rfl, List.forall_mem_cons.mpr ⟨gw_of gw1_138 rfl, List.forall_mem_cons.mpr ⟨gw_of gw1_140 rfl, List.forall_mem_cons.mpr ⟨gw_of gw1_142 rfl, fun _ h => absurd h List.not_mem_nil⟩⟩⟩⟩
theorem vc_10 : vwCl[10]? = some (RX10, TX10, 10) := rfl
set_option maxRecDepth 20000 in
theorem inX10 : ∀ w ∈ u_ws RX10 TX10 10, w ∈ GW := List.forall_mem_cons.mpr ⟨gw_of gw1_103 rfl, List.forall_mem_cons.mpr ⟨gw_of gw1_105 rfl, List.forall_mem_cons.mpr ⟨gw_of gw1_107 rfl, List.forall_mem_cons.mpr ⟨gw_of gw1_109 rfl, List.forall_mem_cons.mpr ⟨gw_of gw1_111 rfl, List.forall_mem_cons.mpr ⟨gw_of gw1_113 rfl, List.forall_mem_cons.mpr ⟨gw_of gw1_115 rfl, List.forall_mem_cons.mpr ⟨gw_of gw1_117 rfl, List.forall_mem_cons.mpr ⟨gw_of gw1_119 rfl, List.forall_mem_cons.mpr ⟨gw_of gw1_121 rfl, fun _ h => absurd h List.not_mem_nil⟩⟩⟩⟩⟩⟩⟩⟩⟩⟩
theorem vc_11 : vwCl[11]? = some (RX11, TX11, 10) := rfl
set_option maxRecDepth 20000 in
theorem inX11 : ∀ w ∈ u_ws RX11 TX11 10, w ∈ GW := List.forall_mem_cons.mpr ⟨gw_of gw2_123 rfl, List.forall_mem_cons.mpr ⟨gw_of gw2_125 rfl, List.forall_mem_cons.mpr ⟨gw_of gw2_127 rfl, List.forall_mem_cons.mpr ⟨gw_of gw2_129 rfl, List.forall_mem_cons.mpr ⟨gw_of gw2_131 rfl, List.forall_mem_cons.mpr ⟨gw_of gw2_133 rfl, List.forall_mem_cons.mpr ⟨gw_of gw2_135 rfl, List.forall_mem_cons.mpr ⟨gw_of gw2_137 rfl, List.forall_mem_cons.mpr ⟨gw_of gw2_139 rfl, List.forall_mem_cons.mpr ⟨gw_of gw2_141 rfl, fun _ h => absurd h List.not_mem_nil⟩⟩⟩⟩⟩⟩⟩⟩⟩⟩
theorem vc_12 : vwCl[12]? = some (RX12, TX12, 73) := rfl
set_option maxRecDepth 20000 in
theorem inX12 : ∀ w ∈ u_ws RX12 TX12 73, w ∈ GW := List.forall_mem_cons.mpr ⟨gw_of gw7_14 rfl, List.forall_mem_cons.mpr ⟨gw_of gw7_16 rfl, List.forall_mem_cons.mpr ⟨gw_of gw7_18 rfl, List.forall_mem_cons.mpr ⟨gw_of gw7_20 rfl, List.forall_mem_cons.mpr ⟨gw_of gw7_22 rfl, List.forall_mem_cons.mpr ⟨gw_of gw7_24 rfl, List.forall_mem_cons.mpr ⟨gw_of gw7_26 rfl, List.forall_mem_cons.mpr ⟨gw_of gw7_28 rfl, List.forall_mem_cons.mpr ⟨gw_of gw7_30 rfl, List.forall_mem_cons.mpr ⟨gw_of gw7_32 rfl, List.forall_mem_cons.mpr ⟨gw_of gw7_34 rfl, List.forall_mem_cons.mpr ⟨gw_of gw7_36 rfl, List.forall_mem_cons.mpr ⟨gw_of gw7_38 rfl, List.forall_mem_cons.mpr ⟨gw_of gw7_40 rfl, List.forall_mem_cons.mpr ⟨gw_of gw7_42 rfl, List.forall_mem_cons.mpr ⟨gw_of gw7_44 rfl, List.forall_mem_cons.mpr ⟨gw_of gw7_46 rfl, List.forall_mem_cons.mpr ⟨gw_of gw7_48 rfl, List.forall_mem_cons.mpr ⟨gw_of gw7_50 rfl, List.forall_mem_cons.mpr ⟨gw_of gw7_52 rfl, List.forall_mem_cons.mpr ⟨gw_of gw7_54 rfl, List.forall_mem_cons.mpr ⟨gw_of gw7_56 rfl, List.forall_mem_cons.mpr ⟨gw_of gw7_58 rfl, List.forall_mem_cons.mpr ⟨gw_of gw7_60 rfl, List.forall_mem_cons.mpr ⟨gw_of gw7_62 rfl, List.forall_mem_cons.mpr ⟨gw_of gw7_64 rfl, List.forall_mem_cons.mpr ⟨gw_of gw7_66 rfl, List.forall_mem_cons.mpr ⟨gw_of gw7_68 rfl, List.forall_mem_cons.mpr ⟨gw_of gw7_70 rfl, List.forall_mem_cons.mpr ⟨gw_of gw7_72 rfl, List.forall_mem_cons.mpr ⟨gw_of gw7_74 rfl, List.forall_mem_cons.mpr ⟨gw_of gw7_76 rfl, List.forall_mem_cons.mpr ⟨gw_of gw7_78 rfl, List.forall_mem_cons.mpr ⟨gw_of gw7_80 rfl, List.forall_mem_cons.mpr ⟨gw_of gw7_82 rfl, List.forall_mem_cons.mpr ⟨gw_of gw7_84 rfl, List.forall_mem_cons.mpr ⟨gw_of gw7_86 rfl, List.forall_mem_cons.mpr ⟨gw_of gw7_88 rfl, List.forall_mem_cons.mpr ⟨gw_of gw7_90 rfl, List.forall_mem_cons.mpr ⟨gw_of gw7_92 rfl, List.forall_mem_cons.mpr ⟨gw_of gw7_94 rfl, List.forall_mem_cons.mpr ⟨gw_of gw7_96 rfl, List.forall_mem_cons.mpr ⟨gw_of gw7_98 rfl, List.forall_mem_cons.mpr ⟨gw_of gw7_100 rfl, List.forall_mem_cons.mpr ⟨gw_of gw7_102 rfl, List.forall_mem_cons.mpr ⟨gw_of gw7_104 rfl, List.forall_mem_cons.mpr ⟨gw_of gw7_106 rfl, List.forall_mem_cons.mpr ⟨gw_of gw7_108 rfl, List.forall_mem_cons.mpr ⟨gw_of gw7_110 rfl, List.forall_mem_cons.mpr ⟨gw_of gw7_112 rfl, List.forall_mem_cons.mpr ⟨gw_of gw7_114 rfl, List.forall_mem_cons.mpr ⟨gw_of gw7_116 rfl, List.forall_mem_cons.mpr ⟨gw_of gw7_118 rfl, List.forall_mem_cons.mpr ⟨gw_of gw7_120 rfl, List.forall_mem_cons.mpr ⟨gw_of gw7_122 rfl, List.forall_mem_cons.mpr ⟨gw_of gw7_124 rfl, List.forall_mem_cons.mpr ⟨gw_of gw7_126 rfl, List.forall_mem_cons.mpr ⟨gw_of gw7_128 rfl, List.forall_mem_cons.mpr ⟨gw_of gw7_130 rfl, List.forall_mem_cons.mpr ⟨gw_of gw7_132 rfl, List.forall_mem_cons.mpr ⟨gw_of gw7_134 rfl, List.forall_mem_cons.mpr ⟨gw_of gw7_136 rfl, List.forall_mem_cons.mpr ⟨gw_of gw7_138 rfl, List.forall_mem_cons.mpr ⟨gw_of gw7_140 rfl, List.forall_mem_cons.mpr ⟨gw_of gw7_142 rfl, List.forall_mem_cons.mpr ⟨gw_of gw7_144 rfl, List.forall_mem_cons.mpr ⟨gw_of gw7_146 rfl, List.forall_mem_cons.mpr ⟨gw_of gw7_148 rfl, List.forall_mem_cons.mpr ⟨gw_of gw7_150 rfl, List.forall_mem_cons.mpr ⟨gw_of gw7_152 rfl, List.forall_mem_cons.mpr ⟨gw_of gw7_154 rfl, List.forall_mem_cons.mpr ⟨gw_of gw7_156 rfl, List.forall_mem_cons.mpr ⟨gw_of gw7_158 rfl, fun _ h => absurd h List.not_mem_nil⟩⟩⟩⟩⟩⟩⟩⟩⟩⟩⟩⟩⟩⟩⟩⟩⟩⟩⟩⟩⟩⟩⟩⟩⟩⟩⟩⟩⟩⟩⟩⟩⟩⟩⟩⟩⟩⟩⟩⟩⟩⟩⟩⟩⟩⟩⟩⟩⟩⟩⟩⟩⟩⟩⟩⟩⟩⟩⟩⟩⟩⟩⟩⟩⟩⟩⟩⟩⟩⟩⟩⟩⟩
def isBytes (q : Nat) : Prop := desc q = .inl (0, [q + 1 + 2, 0, 0]) ∧ q < NC ∧ desc (q + 1) = .inr (.byte, 1000) ∧ q + 1 < NC
def isSpell (q : Nat) : Prop := desc q = .inl (8, [q + 1 + 2, q + 2 + 2, 0]) ∧ q < NC ∧ desc (q + 1) = .inr (.long, 6) ∧ q + 1 < NC ∧ desc (q + 2) = .inr (.int, 6) ∧ q + 2 < NC
def isRows (q : Nat) : Prop := desc q = .inl (5, [q + 1 + 2, q + 2 + 2, q + 3 + 2, q + 4 + 2, q + 5 + 2, 0]) ∧ q < NC ∧ desc (q + 1) = .inr (.int, 90) ∧ q + 1 < NC ∧ desc (q + 2) = .inr (.int, 90) ∧ q + 2 < NC ∧ desc (q + 3) = .inr (.int, 90) ∧ q + 3 < NC ∧ desc (q + 4) = .inr (.int, 90) ∧ q + 4 < NC ∧ desc (q + 5) = .inr (.int, 90) ∧ q + 5 < NC
def isBA (x n : Nat) : Prop := desc x = .inr (.byte, n) ∧ x < NC
def isIA (x n : Nat) : Prop := desc x = .inr (.int, n) ∧ x < NC
theorem kBy_1 : isBytes 1 := ⟨rfl, by decide, rfl, by decide⟩
theorem kBy_19 : isBytes 19 := ⟨rfl, by decide, rfl, by decide⟩
theorem kSp_7 : isSpell 7 := ⟨rfl, by decide, rfl, by decide, rfl, by decide⟩
theorem kSp_27 : isSpell 27 := ⟨rfl, by decide, rfl, by decide, rfl, by decide⟩
theorem kRo_30 : isRows 30 := ⟨rfl, by decide, rfl, by decide, rfl, by decide, rfl, by decide, rfl, by decide, rfl, by decide⟩
theorem kRo_36 : isRows 36 := ⟨rfl, by decide, rfl, by decide, rfl, by decide, rfl, by decide, rfl, by decide, rfl, by decide⟩
theorem sw_out {x : Int32} (n : Nat) (h : ∀ k, k < n → ¬ x = Int32.ofNat k) (hn : n < 2 ^ 31 := by decide) : x.toInt < 0 ∨ (n : Int) - 1 < x.toInt := by
  rcases Int.lt_or_le x.toInt 0 with h0 | h0
  · exact Or.inl h0
  · refine Or.inr ?_
    rcases Int.lt_or_le ((n : Int) - 1) x.toInt with h1 | h1
    · exact h1
    · exfalso
      have h2 : x.toInt.toNat < n := by omega
      refine h _ h2 ?_
      apply Int32.toInt_inj.mp
      have h3 : (Int32.ofNat x.toInt.toNat).toInt = (x.toInt.toNat : Int) := nI_toInt (n := x.toInt.toNat) (by omega)
      rw [h3]
      omega
